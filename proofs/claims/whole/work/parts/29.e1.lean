/-! WORDS OF THE TEXT, AND THE DRAFT -/
theorem zt_or_z {a b : Int32} : a ||| b = 0 ↔ a = 0 ∧ b = 0 := by
  constructor
  · intro h
    constructor
    · apply Int32.toBitVec_inj.mp
      have h2 := congrArg Int32.toBitVec h
      rw [Int32.toBitVec_or] at h2
      apply BitVec.eq_of_getElem_eq
      intro i hi
      have h3 := congrArg (fun z => z.getLsbD i) h2
      simp only [BitVec.getLsbD_or] at h3
      have h4 : (Int32.toBitVec 0).getLsbD i = false := by simp
      rw [h4, Bool.or_eq_false_iff] at h3
      rw [← BitVec.getLsbD_eq_getElem, ← BitVec.getLsbD_eq_getElem, h3.1, h4]
    · apply Int32.toBitVec_inj.mp
      have h2 := congrArg Int32.toBitVec h
      rw [Int32.toBitVec_or] at h2
      apply BitVec.eq_of_getElem_eq
      intro i hi
      have h3 := congrArg (fun z => z.getLsbD i) h2
      simp only [BitVec.getLsbD_or] at h3
      have h4 : (Int32.toBitVec 0).getLsbD i = false := by simp
      rw [h4, Bool.or_eq_false_iff] at h3
      rw [← BitVec.getLsbD_eq_getElem, ← BitVec.getLsbD_eq_getElem, h3.2, h4]
  · rintro ⟨rfl, rfl⟩; rfl
theorem zt_or_bit {x y p : Int32} : zb_bit (x ||| y) p = (zb_bit x p || zb_bit y p) := by
  have h : ((x ||| y) >>> (p &&& 31)) &&& 1 = ((x >>> (p &&& 31)) &&& 1) ||| ((y >>> (p &&& 31)) &&& 1) := by
    apply Int32.toBitVec_inj.mp
    simp only [Int32.toBitVec_and, Int32.toBitVec_or, Int32.toBitVec_shiftRight, BitVec.sshiftRight_eq', BitVec.sshiftRight_or_distrib]
    apply BitVec.eq_of_getLsbD_eq
    intro i hi
    simp only [BitVec.getLsbD_and, BitVec.getLsbD_or, Bool.and_or_distrib_right]
  unfold zb_bit
  rw [h]
  by_cases h1 : (x >>> (p &&& 31)) &&& 1 = 0 <;> by_cases h2 : (y >>> (p &&& 31)) &&& 1 = 0 <;> simp [zt_or_z, h1, h2]
theorem zt_one_bit : ∀ q v : Fin 6, zb_bit (1 <<< (nI q.val &&& 31)) (nI v.val) = decide (v = q) := by decide +kernel
theorem zt_set_bit {x : Int32} {q v : Nat} (hq : q < 6) (hv : v < 6) : zb_bit (x ||| (1 <<< (nI q &&& 31))) (nI v) = (zb_bit x (nI v) || decide (v = q)) := by
  rw [zt_or_bit, zt_one_bit ⟨q, hq⟩ ⟨v, hv⟩]
  congr 1
  exact decide_eq_decide.mpr (by rw [Fin.mk.injEq])
theorem zt_no_bit : ∀ v : Fin 6, zb_bit 0 (nI v.val) = false := by decide
/-- a new one behind the others -/
def zt_add (A : za_D) (v : Int32) : za_D := (za_n A + 1, A.2.1, A.2.2.1, upd (za_pa A) (za_n A) v, A.2.2.2.2)
def zt_pw (A : za_D) : Prop := ∀ i, i < za_n A → za_pa A i = -4 ∨ ∃ q, q < i ∧ za_pa A i = nI q
theorem zt_up_far {pa pb : Nat → Int32} {n : Nat} (hw : ∀ i, i < n → pa i = -4 ∨ ∃ q, q < i ∧ pa i = nI q) (hn : n ≤ 6) (he : ∀ i, i < n → pb i = pa i) : ∀ (i s t v : Nat), i < n → i < s → i < t → za_up pb s i v = za_up pa t i v := by
  intro i
  induction i using Nat.strongRecOn with
  | _ i ih =>
    intro s t v hi hs ht
    obtain ⟨s, rfl⟩ : ∃ s2, s = s2 + 1 := ⟨s - 1, by omega⟩
    obtain ⟨t, rfl⟩ : ∃ t2, t = t2 + 1 := ⟨t - 1, by omega⟩
    unfold za_up
    rw [he i hi]
    rcases hw i hi with h | ⟨q, hq, h⟩
    · rw [h, if_pos (by decide), if_pos (by decide)]
    · rw [h, if_neg (nI_pos (by omega)), if_neg (nI_pos (by omega)), nI_clamp (by omega), ih q hq s t v (by omega) (by omega) (by omega)]
theorem zt_add_kin {A : za_D} (hw : zt_pw A) (hn : za_n A < 6) {v : Int32} (hv : v = -4 ∨ ∃ q, q < za_n A ∧ v = nI q) {i w : Nat} : (i < za_n A → za_kin (zt_add A v) i w = za_kin A i w) ∧ (i = za_n A → za_kin (zt_add A v) i w = (decide (¬ v < 0) && ((v == nI w) || za_kin A v.toNatClampNeg w))) := by
  constructor
  · intro hi
    exact zt_up_far hw (by omega) (fun j hj => if_neg (by omega)) i 6 6 w hi (by omega) (by omega)
  · rintro rfl
    show za_up (upd (za_pa A) (za_n A) v) 6 (za_n A) w = _
    unfold za_up
    have hu : upd (za_pa A) (za_n A) v (za_n A) = v := if_pos rfl
    rw [hu]
    rcases hv with rfl | ⟨q, hq, rfl⟩
    · rw [if_pos (by decide), decide_eq_false (by decide)]; rfl
    · rw [if_neg (nI_pos (by omega)), nI_clamp (by omega), zt_up_far (pb := upd (za_pa A) (za_n A) (nI q)) hw (by omega) (fun j hj => if_neg (by omega)) q 5 6 w hq (by omega) (by omega), decide_eq_true (nI_pos (by omega)), Bool.true_and]
      rfl
theorem zc_rep.add {σ : zq_T} {d : Fin 5} {A : za_D} (h : zc_rep σ d A) (hw : zt_pw A) (hn : za_n A < 6) {v : Int32} (hv : v = -4 ∨ ∃ q, q < za_n A ∧ v = nI q) {τ : zq_T} (hs : ∀ t k, 10 ≤ t → t ≤ 20 → ¬ (t = 10 ∧ k = 0) → ¬ (t = 11 ∧ k = za_n A) → ¬ (t = 12 ∧ k = za_n A) → τ.1 t d k = σ.1 t d k) (h0 : τ.1 10 d 0 = nI (za_n A + 1)) (h1 : τ.1 11 d (za_n A) = v) (h2 : ∀ w, w < 6 → zb_bit (τ.1 12 d (za_n A)) (nI w) = (decide (¬ v < 0) && ((v == nI w) || za_kin A v.toNatClampNeg w))) : zc_rep τ d (zt_add A v) := by
  obtain ⟨a1, a2, a3, a4, a5, a6, a7, a8, a9⟩ := h
  refine ⟨hn, a2, h0, ?_, ?_, ?_, ?_, ?_, ?_⟩
  · rw [hs 10 1 (by omega) (by omega) (by omega) (by omega) (by omega)]; exact a4
  · rw [hs 10 2 (by omega) (by omega) (by omega) (by omega) (by omega)]; exact a5
  · intro i hi
    have hi2 : i < za_n A + 1 := hi
    rcases Nat.lt_or_ge i (za_n A) with h3 | h3
    · rw [hs 11 i (by omega) (by omega) (by omega) (by omega) (by omega), hs 12 i (by omega) (by omega) (by omega) (by omega) (by omega)]
      have hu : za_pa (zt_add A v) i = za_pa A i := if_neg (by omega)
      rw [hu]
      exact ⟨(a6 i h3).1, fun w hw2 => by rw [(zt_add_kin hw hn hv).1 h3]; exact (a6 i h3).2 w hw2⟩
    · have h4 : i = za_n A := by omega
      subst h4
      have hu : za_pa (zt_add A v) (za_n A) = v := if_pos rfl
      rw [hu]
      exact ⟨h1, fun w hw2 => by rw [(zt_add_kin hw hn hv).2 rfl]; exact h2 w hw2⟩
  · intro i hi
    rw [hs 13 i (by omega) (by omega) (by omega) (by omega) (by omega), hs 14 i (by omega) (by omega) (by omega) (by omega) (by omega)]
    exact a7 i hi
  · intro i hi
    rw [hs 15 i (by omega) (by omega) (by omega) (by omega) (by omega)]
    exact a8 i hi
  · intro i hi
    rw [hs 16 i (by omega) (by omega) (by omega) (by omega) (by omega), hs 17 i (by omega) (by omega) (by omega) (by omega) (by omega), hs 18 i (by omega) (by omega) (by omega) (by omega) (by omega), hs 19 i (by omega) (by omega) (by omega) (by omega) (by omega), hs 20 i (by omega) (by omega) (by omega) (by omega) (by omega)]
    exact a9 i hi
/-- a new rule behind the others -/
def zt_law (A : za_D) (r t c v p : Int32) : za_D := (A.1, za_m A + 1, A.2.2.1, A.2.2.2.1, A.2.2.2.2.1, A.2.2.2.2.2.1, A.2.2.2.2.2.2.1, upd (za_rk A) (za_m A) r, upd (za_th A) (za_m A) t, upd (za_cl A) (za_m A) c, upd (za_nu A) (za_m A) v, upd (za_pi A) (za_m A) p)
theorem zc_rep.law {σ : zq_T} {d : Fin 5} {A : za_D} (h : zc_rep σ d A) (hn : za_m A < 5) {r t c v p : Int32} {τ : zq_T} (hs : ∀ t k, 10 ≤ t → t ≤ 20 → ¬ (t = 10 ∧ k = 2) → ¬ (16 ≤ t ∧ k = za_m A) → τ.1 t d k = σ.1 t d k) (h0 : τ.1 10 d 2 = nI (za_m A + 1)) (h1 : τ.1 16 d (za_m A) = r ∧ τ.1 17 d (za_m A) = t ∧ τ.1 18 d (za_m A) = c ∧ τ.1 19 d (za_m A) = v ∧ τ.1 20 d (za_m A) = p) : zc_rep τ d (zt_law A r t c v p) := by
  obtain ⟨a1, a2, a3, a4, a5, a6, a7, a8, a9⟩ := h
  refine ⟨a1, hn, ?_, ?_, h0, ?_, ?_, ?_, ?_⟩
  · rw [hs 10 0 (by omega) (by omega) (by omega) (by omega)]; exact a3
  · rw [hs 10 1 (by omega) (by omega) (by omega) (by omega)]; exact a4
  · intro i hi
    rw [hs 11 i (by omega) (by omega) (by omega) (by omega), hs 12 i (by omega) (by omega) (by omega) (by omega)]
    exact a6 i hi
  · intro i hi
    rw [hs 13 i (by omega) (by omega) (by omega) (by omega), hs 14 i (by omega) (by omega) (by omega) (by omega)]
    exact a7 i hi
  · intro i hi
    rw [hs 15 i (by omega) (by omega) (by omega) (by omega)]
    exact a8 i hi
  · intro i hi
    have hi2 : i < za_m A + 1 := hi
    rcases Nat.lt_or_ge i (za_m A) with h3 | h3
    · rw [hs 16 i (by omega) (by omega) (by omega) (by omega), hs 17 i (by omega) (by omega) (by omega) (by omega), hs 18 i (by omega) (by omega) (by omega) (by omega), hs 19 i (by omega) (by omega) (by omega) (by omega), hs 20 i (by omega) (by omega) (by omega) (by omega)]
      have hu : ∀ (f : Nat → Int32) (x : Int32), upd f (za_m A) x i = f i := fun f x => if_neg (by omega)
      show _ = upd (za_rk A) (za_m A) r i ∧ _ = upd (za_th A) (za_m A) t i ∧ _ = upd (za_cl A) (za_m A) c i ∧ _ = upd (za_nu A) (za_m A) v i ∧ _ = upd (za_pi A) (za_m A) p i
      rw [hu, hu, hu, hu, hu]
      exact a9 i h3
    · have h4 : i = za_m A := by omega
      subst h4
      have hu : ∀ (f : Nat → Int32) (x : Int32), upd f (za_m A) x (za_m A) = x := fun f x => if_pos rfl
      show _ = upd (za_rk A) (za_m A) r (za_m A) ∧ _ = upd (za_th A) (za_m A) t (za_m A) ∧ _ = upd (za_cl A) (za_m A) c (za_m A) ∧ _ = upd (za_nu A) (za_m A) v (za_m A) ∧ _ = upd (za_pi A) (za_m A) p (za_m A)
      rw [hu, hu, hu, hu, hu]
      exact h1
/-- an empty draft -/
def zt_nil : za_D := (0, 0, 0, fun _ => 0, fun _ => 0, fun _ => 0, fun _ => 5, fun _ => 0, fun _ => 0, fun _ => 0, fun _ => 0, fun _ => 0)
def zt_kw (T : za_T) (K : za_K) : Prop := K.2.2.1 ≤ K.1 ∧ K.1 ≤ T.1 ∧ K.2.1 ≤ 4
def zt_isW (T : za_T) (K : za_K) (i : Nat) : Bool := decide (K.2.1 = 1 ∧ K.1 - K.2.2.1 = zq_len.getD i 0 ∧ ∀ k, k < zq_len.getD i 0 → T.2 (K.2.2.1 + k) = zt_wd i k)
theorem zt_kk {k c : Nat} (h : k < 1000) (hc : c < 1000) : nI k = nI c ↔ k = c := nI_eq (by omega) (by omega)

set_option maxHeartbeats 4000000 in
theorem sp_P_isWord {σ : zq_T} {T : za_T} (hT : zt_tp σ T) (hw : zt_wf T) {K : za_K} (hK : zt_tk σ K) (hkw : zt_kw T K) {i : Nat} (hi : i < 13) : zq_Sp zm_P_isWord 4 [zq_O 1 0, zq_O (100 + i) 0] σ (zq_rv (zq_I (zb_v (zt_isW T K i))) σ) := by
  have h10 : zq_len.getD i 0 < 10 := (by decide : ∀ i : Fin 13, zq_len.getD i.val 0 < 10) ⟨i, hi⟩
  have h160 := hw.1
  obtain ⟨w1, w2, w3⟩ := hkw
  refine zq_sp [some (zq_O 1 0), some (zq_O (100 + i) 0), none] (by decide +kernel) rfl (Nat.le_of_ble_eq_true rfl) (fun ν => ?_)
  refine gq_aload_n dz_P_isWord_0 rfl ?_
  refine gq_getI zf_P_27 rfl rfl dz_P_isWord_1 ?_
  rw [hK.2.1]
  refine gq_iconst (v := 1) dz_P_isWord_4 rfl ?_
  refine gq_icmp_ne (tgt := 28) dz_P_isWord_5 rfl (fun h5 => ?_) (fun h5 => ?_)
  · skip
    have h5 : ¬ K.2.1 = 1 := fun z => h5 ((zt_kk (c := 1) (by omega) (by omega)).mpr z)
    have hv : zt_isW T K i = false := decide_eq_false (fun z => h5 z.1)
    refine gq_iconst (v := 0) dz_P_isWord_28 rfl ?_
    refine gw_iret .boolean dz_P_isWord_29 rfl (by first | rfl | exact zb_nar _ | exact pk_nc _) ?_ ?_
    · rw [hv]; rfl
    · rfl
  · skip
    have h5 : K.2.1 = 1 := (zt_kk (c := 1) (by omega) (by omega)).mp h5
    refine gq_aload_n dz_P_isWord_8 rfl ?_
    refine gq_ifnull dz_P_isWord_9 ?_
    refine gq_aload_n dz_P_isWord_12 rfl ?_
    refine gq_getI zf_P_17 rfl rfl dz_P_isWord_13 ?_
    rw [hK.1]
    refine gq_aload_n dz_P_isWord_16 rfl ?_
    refine gq_getI zf_P_24 rfl rfl dz_P_isWord_17 ?_
    rw [hK.2.2.1]
    refine gq_isub dz_P_isWord_20 ?_
    rw [pk_sub w1]
    refine gq_aload_n dz_P_isWord_21 rfl ?_
    refine gw_cT (sp_JS_length hi) zw_JS_length zl_P_43 dz_P_isWord_22 rfl (by decide) rfl rfl (Nat.le_of_ble_eq_true rfl) ?_
    refine gq_icmp_eq (tgt := 30) dz_P_isWord_25 rfl (fun h25 => ?_) (fun h25 => ?_)
    · skip
      have h25 := (zt_kk (by omega) (by omega)).mp h25
      refine gq_iconst (v := 0) dz_P_isWord_30 rfl ?_
      refine gw_istore_n 2 dz_P_isWord_31 rfl (Nat.le_of_ble_eq_true rfl) rfl ?_
      dsimp only [List.set]
      have L32 : ∀ (kf : Nat) (n k : Nat) (hkf : n < kf) (hn : k + n = 20) (hk : k ≤ zq_len.getD i 0) (hP : ∀ q, q < k → T.2 (K.2.2.1 + q) = zt_wd i q), zq_G ν zm_P_isWord 4 (zq_rv (zq_I (zb_v (zt_isW T K i))) σ) 32 [some (zq_O 1 0), some (zq_O (100 + i) 0), some (zq_I (nI k))] [] σ := by
        intro kf
        induction kf with
        | zero => intro n k hkf hn hk hP; exact absurd hkf (Nat.not_lt_zero _)
        | succ kf ih32 =>
          intro n k hkf hn hk hP
          obtain ⟨n, rfl⟩ : ∃ n2, n = n2 + 1 := ⟨n - 1, by omega⟩
          refine gq_iload_n dz_P_isWord_32 rfl ?_
          refine gq_aload_n dz_P_isWord_33 rfl ?_
          refine gw_cT (sp_JS_length hi) zw_JS_length zl_P_43 dz_P_isWord_34 rfl (by decide) rfl rfl (Nat.le_of_ble_eq_true rfl) ?_
          refine gq_icmp_ge (tgt := 66) dz_P_isWord_37 rfl (fun h37 => ?_) (fun h37 => ?_)
          · skip
            have hkl : zq_len.getD i 0 ≤ k := (nI_leI (by omega) (by omega)).mp h37
            refine gq_iconst (v := 1) dz_P_isWord_66 rfl ?_
            refine gw_iret .boolean dz_P_isWord_67 rfl (by first | rfl | exact zb_nar _ | exact pk_nc _) ?_ ?_
            · rw [zt_isW, decide_eq_true ⟨h5, h25, fun q hq => hP q (by omega)⟩]; rfl
            · rfl
          · skip
            have hkl : k < zq_len.getD i 0 := by rcases Nat.lt_or_ge k (zq_len.getD i 0) with z | z; exact z; exact absurd (nI_le z (by omega)) h37
            refine gq_aload_n dz_P_isWord_40 rfl ?_
            refine gq_aload_n dz_P_isWord_41 rfl ?_
            refine gq_getI zf_P_24 rfl rfl dz_P_isWord_42 ?_
            rw [hK.2.2.1]
            refine gq_iload_n dz_P_isWord_45 rfl ?_
            refine gq_iadd dz_P_isWord_46 ?_
            rw [nI_add]
            have hcb : zt_b T (K.2.2.1 + k) = T.2 (K.2.2.1 + k) := if_pos (by omega)
            refine gq_cV (sp_P_byteAt hT hw (by omega)) zw_P_byteAt zl_P_20 dz_P_isWord_47 rfl rfl rfl (by decide) rfl rfl (Nat.le_of_ble_eq_true rfl) ?_
            refine gq_aload_n dz_P_isWord_50 rfl ?_
            refine gq_iload_n dz_P_isWord_51 rfl ?_
            refine gw_cT (sp_JS_charAt hi hkl) zw_JS_charAt zl_P_48 dz_P_isWord_52 rfl (by decide) rfl rfl (Nat.le_of_ble_eq_true rfl) ?_
            refine gq_icmp_eq (tgt := 60) dz_P_isWord_55 rfl (fun h55 => ?_) (fun h55 => ?_)
            · skip
              rw [hcb] at h55
              refine gw_iinc 2 (c := 1) dz_P_isWord_60 rfl rfl (Nat.le_of_ble_eq_true rfl) rfl ?_
              dsimp only [List.set]
              rw [nI_1]
              refine gq_goto (tgt := 32) dz_P_isWord_63 rfl ?_
              exact zq_fewer _ (zq_sub_spec (by repeat (first | exact trivial | exact rfl | refine And.intro ?_ ?_))) (ih32 n (k + 1) (by omega) (by omega) hkl (fun q hq => by rcases Nat.lt_or_ge q k with z | z; exact hP q z; rw [show q = k by omega]; exact h55))
            · skip
              rw [hcb] at h55
              refine gq_iconst (v := 0) dz_P_isWord_58 rfl ?_
              refine gw_iret .boolean dz_P_isWord_59 rfl (by first | rfl | exact zb_nar _ | exact pk_nc _) ?_ ?_
              · rw [zt_isW, decide_eq_false (fun z => h55 (z.2.2 k hkl))]; rfl
              · rfl
      exact zq_fewer _ (zq_sub_spec (by repeat (first | exact trivial | exact rfl | refine And.intro ?_ ?_))) (L32 21 20 0 (by omega) (by omega) (by omega) (fun q hq => absurd hq (Nat.not_lt_zero q)))
    · skip
      have hv : zt_isW T K i = false := decide_eq_false (fun z => h25 (by rw [z.2.1]))
      refine gq_iconst (v := 0) dz_P_isWord_28 rfl ?_
      refine gw_iret .boolean dz_P_isWord_29 rfl (by first | rfl | exact zb_nar _ | exact pk_nc _) ?_ ?_
      · rw [hv]; rfl
      · rfl
