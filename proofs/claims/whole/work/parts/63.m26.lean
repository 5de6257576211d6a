/-! THE MODEL READS A TEXT: tokens. r: a fault's code (0: none of its own) and the token -/
def zw_cd (r : Int32 × za_K) : Int32 := if r.1 = 0 then (if r.2.2.1 = 4 then 1 else 0) else r.1
def zw_t (σ : zq_T) (T : za_T) : Prop := σ.1 30 0 13 = nI T.1 ∧ (∀ i, i < T.1 → σ.1 37 0 i = T.2 i) ∧ zM_k σ
def zw_r (σ : zq_T) (T : za_T) (r : Int32 × za_K) : Prop := zt_kw T r.2 ∧ (∃ n, n < 8 ∧ zw_cd r = nI n) ∧ σ.1 30 0 15 = zw_cd r ∧ (¬ zw_cd r = 0 → σ.1 30 0 16 = nI r.2.2.2.1) ∧ σ.1 30 0 17 = nI r.2.1 ∧ σ.1 30 0 18 = nI r.2.2.2.1 ∧ (∃ k, k < 4 ∧ σ.1 30 0 19 = nI k ∧ (¬ r.2.2.1 = 4 → k = r.2.2.1) ∧ (r.2.2.1 = 4 → ¬ k = 1)) ∧ (r.2.2.1 = 2 → σ.1 30 0 20 = r.2.2.2.2)
def zw_fs (σ τ : zq_T) : Prop := τ.2 = σ.2 ∧ ∀ (t : Nat) (j : Fin 5) (k : Nat), ¬ (t = 30 ∧ 15 ≤ k ∧ k ≤ 20) → τ.1 t j k = σ.1 t j k
theorem zw_fs.rf {σ : zq_T} : zw_fs σ σ := ⟨rfl, fun _ _ _ _ => rfl⟩
theorem zw_fs.tr {σ τ υ : zq_T} (h : zw_fs σ τ) (h2 : zw_fs τ υ) : zw_fs σ υ := ⟨h2.1.trans h.1, fun t j k q => (h2.2 t j k q).trans (h.2 t j k q)⟩
theorem zw_fs.up {σ τ : zq_T} (h : zw_fs σ τ) {k : Nat} {j : Fin 5} {v : Int32} (h1 : 15 ≤ k) (h2 : k ≤ 20) : zw_fs σ (zq_up τ.1 30 j k v, τ.2) :=
  ⟨h.1, fun t' j' k' q => by
    show zq_up τ.1 30 j k v t' j' k' = σ.1 t' j' k'
    rw [← h.2 t' j' k' q]
    exact if_neg fun z => q (by omega)⟩
theorem zw_t.fs {σ τ : zq_T} {T : za_T} (h : zw_t σ T) (hs : zw_fs σ τ) : zw_t τ T := ⟨(hs.2 _ _ _ (by omega)).trans h.1, fun i hi => (hs.2 _ _ _ (by omega)).trans (h.2.1 i hi), h.2.2.keep fun t k _ _ => hs.2 _ _ _ (by omega)⟩
def zw_b (T : za_T) (i : Nat) : Int32 := if i < T.1 then T.2 i else -4
theorem zw_b_in {T : za_T} {i : Nat} (h : i < T.1) : zw_b T i = T.2 i := if_pos h
theorem zw_b_out {T : za_T} {i : Nat} (h : ¬ i < T.1) : zw_b T i = -4 := if_neg h
/-- the first of the names that the token is -/
def zw_nmf (T : za_T) (K : za_K) : Nat → Nat → Int32
  | 0, _ => -4
  | k + 1, n => if zt_isW T K n then nI n else zw_nmf T K k (n + 1)
def zw_name (T : za_T) (K : za_K) : Int32 := zw_nmf T K 13 0
theorem zw_nmf_no {T : za_T} {K : za_K} (h : ¬ K.2.1 = 1) : ∀ k n, zw_nmf T K k n = -4
  | 0, _ => rfl
  | k + 1, n => by
    have : zt_isW T K n = false := decide_eq_false (fun z => h z.1)
    rw [zw_nmf, this]
    exact zw_nmf_no h k (n + 1)
def zw_pf (T : za_T) (K : za_K) (n : Nat) : Nat → Bool := fun k => decide (zw_b T (K.2.2.1 + k) = zt_wd n k)
theorem zf_all_iff {P : Nat → Bool} : ∀ {n : Nat}, zf_all P n = true ↔ ∀ k, k < n → P k = true
  | 0 => ⟨fun _ k h => absurd h (Nat.not_lt_zero _), fun _ => rfl⟩
  | n + 1 => by
    rw [zf_all, Bool.and_eq_true, zf_all_iff]
    refine ⟨fun h k hk => ?_, fun h => ⟨fun k hk => h k (by omega), h n (by omega)⟩⟩
    rcases Nat.lt_or_ge k n with z | z
    · exact h.1 k z
    · rw [show k = n by omega]; exact h.2
theorem zw_isW_eq {T : za_T} {K : za_K} {n : Nat} (hk : K.2.1 = 1) (hkw : zt_kw T K) : zt_isW T K n = (decide (K.1 - K.2.2.1 = zq_len.getD n 0) && zf_all (zw_pf T K n) (zq_len.getD n 0)) := by
  unfold zt_isW
  rw [Bool.eq_iff_iff, decide_eq_true_iff, Bool.and_eq_true, decide_eq_true_iff, zf_all_iff]
  refine ⟨fun h => ⟨h.2.1, fun k hl => decide_eq_true ?_⟩, fun h => ⟨hk, h.1, fun k hl => ?_⟩⟩
  · rw [zw_b_in (by have := hkw.1; have := hkw.2.1; have := h.2.1; omega)]; exact h.2.2 k hl
  · have h2 := of_decide_eq_true (h.2 k hl)
    rwa [zw_b_in (by have := hkw.1; have := hkw.2.1; have := h.1; omega)] at h2
theorem zw_c_no {P : Nat → Bool} {d L j : Nat} (hj : j ≤ d) (h : (decide (d = L) && zf_all P j) = false) : (decide (d = L) && zf_all P L) = false := by
  by_cases hd : d = L
  · rw [decide_eq_true hd, Bool.true_and] at h ⊢
    exact zf_all_mono h (by omega)
  · rw [decide_eq_false hd]; rfl
theorem zw_c_ye {P : Nat → Bool} {d L j : Nat} (hj : j ≤ d) (hj2 : d ≤ j) : (decide (d = L) && zf_all P j) = (decide (d = L) && zf_all P L) := by
  by_cases hd : d = L
  · rw [show j = L by omega]
  · rw [decide_eq_false hd]; rfl
theorem zw_cutf : ∀ n : Fin 13, nI (zn_cut.getD (n.val + 1) 0) - nI (zn_cut.getD n.val 0) = nI (zq_len.getD n.val 0) := by decide +kernel
theorem zw_cutl {n : Nat} (h : n < 13) : nI (zn_cut.getD (n + 1) 0) - nI (zn_cut.getD n 0) = nI (zq_len.getD n 0) := zw_cutf ⟨n, h⟩
theorem zw_len10 : ∀ n : Fin 13, zq_len.getD n.val 0 < 10 := by decide
theorem zw_letf : ∀ (n : Fin 13) (j : Fin 10), j.val < zq_len.getD n.val 0 → zn_cut.getD n.val 0 + j.val < 52 ∧ zn_let.getD (zn_cut.getD n.val 0 + j.val) 0 = zt_wd n.val j.val := by decide +kernel
theorem zw_lett {n j : Nat} (h : n < 13) (hj : j < zq_len.getD n 0) : zn_cut.getD n 0 + j < 52 ∧ zn_let.getD (zn_cut.getD n 0 + j) 0 = zt_wd n j := zw_letf ⟨n, h⟩ ⟨j, Nat.lt_trans hj (zw_len10 ⟨n, h⟩)⟩ hj

set_option maxHeartbeats 4000000 in
theorem sp_M_byteAt {σ : zq_T} {T : za_T} (hT : zw_t σ T) (hw : zt_wf T) {i : Nat} (hi : i < 1000) : zq_Sp zm_M_byteAt 0 [zq_O 30 0, zq_I (nI i)] σ (zq_rv (zq_I (zw_b T i)) σ) := by
  have h160 := hw.1
  refine zq_sp [some (zq_O 30 0), some (zq_I (nI i))] (by decide +kernel) rfl (Nat.le_of_ble_eq_true rfl) (fun ν => ?_)
  refine gq_iload_n dz_M_byteAt_0 rfl ?_
  refine gq_aload_n dz_M_byteAt_1 rfl ?_
  refine gq_getI zf_M_69 rfl rfl dz_M_byteAt_2 ?_
  rw [hT.1]
  refine gq_icmp_ge (tgt := 17) dz_M_byteAt_5 rfl (fun h5 => ?_) (fun h5 => ?_)
  · skip
    have hi2 : ¬ i < T.1 := fun z => by have := (nI_leI (by omega) (by omega)).mp h5; omega
    refine gq_bipush (v := -4) dz_M_byteAt_17 rfl ?_
    refine gw_iret .int dz_M_byteAt_19 rfl (by first | rfl | exact zb_nar _ | exact pk_nc _) ?_ ?_
    · exact (zw_b_out hi2).symm
    · rfl
  · skip
    have hi2 : i < T.1 := by rcases Nat.lt_or_ge i (T.1) with z | z; exact z; exact absurd (nI_le z (by omega)) h5
    refine gq_aload_n dz_M_byteAt_8 rfl ?_
    refine gq_getR 37 zf_M_28 rfl rfl dz_M_byteAt_9 ?_
    refine gq_iload_n dz_M_byteAt_12 rfl ?_
    refine gw_iald (i) (rfl) rfl (rfl) (Nat.le_of_ble_eq_true rfl) (by omega) dz_M_byteAt_13 ?_
    rw [hT.2.1 i hi2]
    refine gq_goto (tgt := 19) dz_M_byteAt_14 rfl ?_
    refine gw_iret .int dz_M_byteAt_19 rfl (by first | rfl | exact zb_nar _ | exact pk_nc _) ?_ ?_
    · exact (zw_b_in hi2).symm
    · rfl
set_option maxHeartbeats 4000000 in
theorem sp_M_fails {σ : zq_T} (e : Int32) : zq_Sp zm_M_fails 0 [zq_O 30 0, zq_I e] σ (zq_rx (fun τ => τ = if σ.1 30 0 15 = 0 then zu (zu σ 30 0 15 e) 30 0 16 (σ.1 30 0 18) else σ)) := by
  refine zq_sp [some (zq_O 30 0), some (zq_I e)] (by decide +kernel) rfl (Nat.le_of_ble_eq_true rfl) (fun ν => ?_)
  refine gq_aload_n dz_M_fails_0 rfl ?_
  refine gq_getI zf_M_73 rfl rfl dz_M_fails_1 ?_
  refine gq_if_ne (tgt := 20) dz_M_fails_4 rfl (fun h4 => ?_) (fun h4 => ?_)
  · skip
    refine gw_vretP dz_M_fails_20 rfl ?_
    · rw [if_neg h4]
  · skip
    refine gq_aload_n dz_M_fails_7 rfl ?_
    refine gq_iload_n dz_M_fails_8 rfl ?_
    refine gq_putI zv_M_73 rfl rfl dz_M_fails_9 ?_
    refine gq_aload_n dz_M_fails_12 rfl ?_
    refine gq_aload_n dz_M_fails_13 rfl ?_
    refine gq_getI zf_M_76 rfl rfl dz_M_fails_14 ?_
    rw [zq_upN (by omega)]
    refine gq_putI zv_M_79 rfl rfl dz_M_fails_17 ?_
    refine gw_vretP dz_M_fails_20 rfl ?_
    · rw [if_pos h4]
set_option maxHeartbeats 4000000 in
theorem sp_M_nameHere {σ : zq_T} {T : za_T} (hT : zw_t σ T) (hw : zt_wf T) {r : Int32 × za_K} (hr : zw_r σ T r) : zq_Sp zm_M_nameHere 1 [zq_O 30 0] σ (zq_rv (zq_I (zw_name T r.2)) σ) := by
  have h160 := hw.1
  obtain ⟨hkw, -, -, -, h17, h18, ⟨kk, hk1, hk2, hk3, hk4⟩, -⟩ := hr
  have hkw1 := hkw.1
  have hkw2 := hkw.2.1
  have hck := hT.2.2.1
  have hlk := hT.2.2.2.1
  refine zq_sp [some (zq_O 30 0), none, none, none] (by decide +kernel) rfl (Nat.le_of_ble_eq_true rfl) (fun ν => ?_)
  refine gq_iconst (v := 0) dz_M_nameHere_0 rfl ?_
  refine gw_istore_n 1 dz_M_nameHere_1 rfl (Nat.le_of_ble_eq_true rfl) rfl ?_
  dsimp only [List.set]
  have L2 : ∀ (kf : Nat) (n k : Nat) (hkf : k < kf) (hn : n + k = 13) (hv : zw_name T r.2 = zw_nmf T r.2 k n), zq_G ν zm_M_nameHere 1 (zq_rv (zq_I (zw_name T r.2)) σ) 2 [some (zq_O 30 0), some (zq_I (nI n)), none, none] [] σ := by
    intro kf
    induction kf with
    | zero => intro n k hkf hn hv; exact absurd hkf (Nat.not_lt_zero _)
    | succ kf ih2 =>
      intro n k hkf hn hv
      refine gq_iload_n dz_M_nameHere_2 rfl ?_
      refine gq_bipush (v := 13) dz_M_nameHere_3 rfl ?_
      refine gq_icmp_ge (tgt := 118) dz_M_nameHere_5 rfl (fun h5 => ?_) (fun h5 => ?_)
      · skip
        have hk0 : k = 0 := by have := (nI_leI (a := 13) (by omega) (by omega)).mp h5; omega
        subst hk0
        refine gq_bipush (v := -4) dz_M_nameHere_118 rfl ?_
        refine gw_iret .int dz_M_nameHere_120 rfl (by first | rfl | exact zb_nar _ | exact pk_nc _) ?_ ?_
        · rw [hv]; rfl
        · rfl
      · skip
        have hn13 : n < 13 := (nI_ltI (b := 13) (by omega) (by omega)).mp (Int32.not_le.mp h5)
        obtain ⟨k2, rfl⟩ : ∃ k2, k = k2 + 1 := ⟨k - 1, by omega⟩
        have hl10 := zw_len10 ⟨n, hn13⟩
        have hl10 : zq_len.getD n 0 < 10 := hl10
        refine gq_aload_n dz_M_nameHere_8 rfl ?_
        refine gq_getI zf_M_82 rfl rfl dz_M_nameHere_9 ?_
        rw [hk2]
        refine gq_iconst (v := 1) dz_M_nameHere_12 rfl ?_
        refine gq_icmp_ne (tgt := 118) dz_M_nameHere_13 rfl (fun h13 => ?_) (fun h13 => ?_)
        · skip
          have hkd : ¬ r.2.2.1 = 1 := fun z => h13 (by rw [hk3 (by omega), z]; rfl)
          refine gq_bipush (v := -4) dz_M_nameHere_118 rfl ?_
          refine gw_iret .int dz_M_nameHere_120 rfl (by first | rfl | exact zb_nar _ | exact pk_nc _) ?_ ?_
          · exact (zw_nmf_no hkd _ _).symm
          · rfl
        · skip
          have hkk : kk = 1 := (nI_eq (b := 1) (by omega) (by omega)).mp h13
          have hkd : r.2.2.1 = 1 := by by_cases z : r.2.2.1 = 4; exact absurd hkk (hk4 z); rw [← hk3 z]; exact hkk
          have hW := zw_isW_eq (n := n) hkd hkw
          refine gq_aload_n dz_M_nameHere_16 rfl ?_
          refine gq_getI zf_M_85 rfl rfl dz_M_nameHere_17 ?_
          rw [h17]
          refine gq_aload_n dz_M_nameHere_20 rfl ?_
          refine gq_getI zf_M_76 rfl rfl dz_M_nameHere_21 ?_
          rw [h18]
          refine gq_isub dz_M_nameHere_24 ?_
          rw [pk_sub hkw1]
          refine gq_aload_n dz_M_nameHere_25 rfl ?_
          refine gq_getR 38 zf_M_31 rfl rfl dz_M_nameHere_26 ?_
          refine gq_iload_n dz_M_nameHere_29 rfl ?_
          refine gq_iconst (v := 1) dz_M_nameHere_30 rfl ?_
          refine gq_iadd dz_M_nameHere_31 ?_
          rw [nI_1]
          refine gw_iald (n + 1) (rfl) rfl (rfl) (Nat.le_of_ble_eq_true rfl) (by omega) dz_M_nameHere_32 ?_
          rw [hck (n + 1) (by omega)]
          refine gq_aload_n dz_M_nameHere_33 rfl ?_
          refine gq_getR 38 zf_M_31 rfl rfl dz_M_nameHere_34 ?_
          refine gq_iload_n dz_M_nameHere_37 rfl ?_
          refine gw_iald (n) (rfl) rfl (rfl) (Nat.le_of_ble_eq_true rfl) (by omega) dz_M_nameHere_38 ?_
          rw [hck n (by omega)]
          refine gq_isub dz_M_nameHere_39 ?_
          rw [zw_cutl hn13]
          refine gq_icmp_ne (tgt := 47) dz_M_nameHere_40 rfl (fun h40 => ?_) (fun h40 => ?_)
          · skip
            have hd : ¬ r.2.1 - r.2.2.2.1 = zq_len.getD n 0 := fun z => h40 (by rw [z])
            refine gq_iconst (v := 0) dz_M_nameHere_47 rfl ?_
            refine gw_istore_n 2 dz_M_nameHere_48 rfl (Nat.le_of_ble_eq_true rfl) rfl ?_
            dsimp only [List.set]
            refine gq_iconst (v := 0) dz_M_nameHere_49 rfl ?_
            refine gw_istore_n 3 dz_M_nameHere_50 rfl (Nat.le_of_ble_eq_true rfl) rfl ?_
            dsimp only [List.set]
            have L51 : ∀ (kf : Nat) (j : Nat) (c : Bool) (hkf : r.2.1 - r.2.2.2.1 + 1 - j < kf) (hj : j ≤ r.2.1 - r.2.2.2.1) (hc : c = (decide (r.2.1 - r.2.2.2.1 = zq_len.getD n 0) && zf_all (zw_pf T r.2 n) j)), zq_G ν zm_M_nameHere 1 (zq_rv (zq_I (zw_name T r.2)) σ) 51 [some (zq_O 30 0), some (zq_I (nI n)), some (zq_I (zb_v c)), some (zq_I (nI j))] [] σ := by
              intro kf
              induction kf with
              | zero => intro j c hkf hj hc; exact absurd hkf (Nat.not_lt_zero _)
              | succ kf ih51 =>
                intro j c hkf hj hc
                refine gq_iload_n dz_M_nameHere_51 rfl ?_
                refine gw_ifb_eq (tgt := 106) dz_M_nameHere_52 rfl (fun h52 => ?_) (fun h52 => ?_)
                · skip
                  have hWc : zt_isW T r.2 n = false := by rw [hW]; exact zw_c_no hj (hc.symm.trans h52)
                  refine gq_iload_n dz_M_nameHere_106 rfl ?_
                  refine gw_ifb_eq (tgt := 112) dz_M_nameHere_107 rfl (fun h107 => ?_) (fun h107 => ?_)
                  · skip
                    refine gw_iinc 1 (c := 1) dz_M_nameHere_112 rfl rfl (Nat.le_of_ble_eq_true rfl) rfl ?_
                    dsimp only [List.set]
                    refine gq_goto (tgt := 2) dz_M_nameHere_115 rfl ?_
                    simp only [nI_1]
                    exact zq_fewer _ (zq_sub_spec (by repeat (first | exact trivial | exact rfl | refine And.intro ?_ ?_))) (ih2 (n + 1) k2 (by omega) (by omega) (by rw [hv, zw_nmf, hWc]; rfl))
                  · skip
                    exact Bool.noConfusion (h52.symm.trans h107)
                · skip
                  have hjd : r.2.1 - r.2.2.2.1 = zq_len.getD n 0 := of_decide_eq_true (Bool.and_eq_true_iff.mp (hc.symm.trans h52)).1
                  refine gq_iload_n dz_M_nameHere_55 rfl ?_
                  refine gq_aload_n dz_M_nameHere_56 rfl ?_
                  refine gq_getI zf_M_85 rfl rfl dz_M_nameHere_57 ?_
                  rw [h17]
                  refine gq_aload_n dz_M_nameHere_60 rfl ?_
                  refine gq_getI zf_M_76 rfl rfl dz_M_nameHere_61 ?_
                  rw [h18]
                  refine gq_isub dz_M_nameHere_64 ?_
                  rw [pk_sub hkw1]
                  refine gq_icmp_ge (tgt := 106) dz_M_nameHere_65 rfl (fun h65 => ?_) (fun h65 => ?_)
                  · skip
                    have hj2 : r.2.1 - r.2.2.2.1 ≤ j := (nI_leI (by omega) (by omega)).mp h65
                    have hWc : zt_isW T r.2 n = c := by rw [hW, hc]; exact (zw_c_ye hj hj2).symm
                    refine gq_iload_n dz_M_nameHere_106 rfl ?_
                    refine gw_ifb_eq (tgt := 112) dz_M_nameHere_107 rfl (fun h107 => ?_) (fun h107 => ?_)
                    · skip
                      have hWc : zt_isW T r.2 n = false := hWc.trans h107
                      refine gw_iinc 1 (c := 1) dz_M_nameHere_112 rfl rfl (Nat.le_of_ble_eq_true rfl) rfl ?_
                      dsimp only [List.set]
                      refine gq_goto (tgt := 2) dz_M_nameHere_115 rfl ?_
                      simp only [nI_1]
                      exact zq_fewer _ (zq_sub_spec (by repeat (first | exact trivial | exact rfl | refine And.intro ?_ ?_))) (ih2 (n + 1) k2 (by omega) (by omega) (by rw [hv, zw_nmf, hWc]; rfl))
                    · skip
                      have hWc : zt_isW T r.2 n = true := hWc.trans h107
                      refine gq_iload_n dz_M_nameHere_110 rfl ?_
                      refine gw_iret .int dz_M_nameHere_111 rfl (by first | rfl | exact zb_nar _ | exact pk_nc _) ?_ ?_
                      · rw [hv, zw_nmf, hWc]; rfl
                      · rfl
                  · skip
                    have hj2 : j < r.2.1 - r.2.2.2.1 := by rcases Nat.lt_or_ge j (r.2.1 - r.2.2.2.1) with z | z; exact z; exact absurd (nI_le z (by omega)) h65
                    have hjl : j < zq_len.getD n 0 := by omega
                    refine gq_aload_n dz_M_nameHere_68 rfl ?_
                    refine gq_aload_n dz_M_nameHere_69 rfl ?_
                    refine gq_getI zf_M_76 rfl rfl dz_M_nameHere_70 ?_
                    rw [h18]
                    refine gq_iload_n dz_M_nameHere_73 rfl ?_
                    refine gq_iadd dz_M_nameHere_74 ?_
                    rw [nI_add]
                    refine gq_cV (sp_M_byteAt hT hw (i := r.2.2.2.1 + j) (by omega)) zw_M_byteAt zl_M_88 dz_M_nameHere_75 rfl rfl rfl (by decide) rfl rfl (Nat.le_of_ble_eq_true rfl) ?_
                    refine gq_aload_n dz_M_nameHere_78 rfl ?_
                    refine gq_getR 39 zf_M_34 rfl rfl dz_M_nameHere_79 ?_
                    refine gq_aload_n dz_M_nameHere_82 rfl ?_
                    refine gq_getR 38 zf_M_31 rfl rfl dz_M_nameHere_83 ?_
                    refine gq_iload_n dz_M_nameHere_86 rfl ?_
                    refine gw_iald (n) (rfl) rfl (rfl) (Nat.le_of_ble_eq_true rfl) (by omega) dz_M_nameHere_87 ?_
                    rw [hck n (by omega)]
                    refine gq_iload_n dz_M_nameHere_88 rfl ?_
                    refine gq_iadd dz_M_nameHere_89 ?_
                    rw [nI_add]
                    refine gw_iald (zn_cut.getD n 0 + j) (rfl) rfl (rfl) (Nat.le_of_ble_eq_true rfl) ((zw_lett hn13 hjl).1) dz_M_nameHere_90 ?_
                    rw [hlk _ (zw_lett hn13 hjl).1, (zw_lett hn13 hjl).2]
                    refine gq_icmp_ne (tgt := 98) dz_M_nameHere_91 rfl (fun h91 => ?_) (fun h91 => ?_)
                    · skip
                      refine gq_iconst (v := 0) dz_M_nameHere_98 rfl ?_
                      refine gw_istore_n 2 dz_M_nameHere_99 rfl (Nat.le_of_ble_eq_true rfl) rfl ?_
                      dsimp only [List.set]
                      refine gw_iinc 3 (c := 1) dz_M_nameHere_100 rfl rfl (Nat.le_of_ble_eq_true rfl) rfl ?_
                      dsimp only [List.set]
                      refine gq_goto (tgt := 51) dz_M_nameHere_103 rfl ?_
                      simp only [nI_1]
                      exact zq_fewer _ (zq_sub_spec (by repeat (first | exact trivial | exact rfl | refine And.intro ?_ ?_))) (ih51 (j + 1) false (by omega) (by omega) (by rw [zf_all, show zw_pf T r.2 n j = false from decide_eq_false h91, Bool.and_false, Bool.and_false]))
                    · skip
                      refine gq_iconst (v := 1) dz_M_nameHere_94 rfl ?_
                      refine gq_goto (tgt := 99) dz_M_nameHere_95 rfl ?_
                      refine gw_istore_n 2 dz_M_nameHere_99 rfl (Nat.le_of_ble_eq_true rfl) rfl ?_
                      dsimp only [List.set]
                      refine gw_iinc 3 (c := 1) dz_M_nameHere_100 rfl rfl (Nat.le_of_ble_eq_true rfl) rfl ?_
                      dsimp only [List.set]
                      refine gq_goto (tgt := 51) dz_M_nameHere_103 rfl ?_
                      simp only [nI_1]
                      exact zq_fewer _ (zq_sub_spec (by repeat (first | exact trivial | exact rfl | refine And.intro ?_ ?_))) (ih51 (j + 1) true (by omega) (by omega) (by rw [zf_all, show zw_pf T r.2 n j = true from decide_eq_true h91, Bool.and_true, ← hc]; exact h52.symm))
            exact zq_fewer _ (zq_sub_spec (by repeat (first | exact trivial | exact rfl | refine And.intro ?_ ?_))) (L51 (r.2.1 - r.2.2.2.1 + 2) 0 false (by omega) (by omega) (by rw [decide_eq_false hd]; rfl))
          · skip
            have hd : r.2.1 - r.2.2.2.1 = zq_len.getD n 0 := (nI_eq (by omega) (by omega)).mp h40
            refine gq_iconst (v := 1) dz_M_nameHere_43 rfl ?_
            refine gq_goto (tgt := 48) dz_M_nameHere_44 rfl ?_
            refine gw_istore_n 2 dz_M_nameHere_48 rfl (Nat.le_of_ble_eq_true rfl) rfl ?_
            dsimp only [List.set]
            refine gq_iconst (v := 0) dz_M_nameHere_49 rfl ?_
            refine gw_istore_n 3 dz_M_nameHere_50 rfl (Nat.le_of_ble_eq_true rfl) rfl ?_
            dsimp only [List.set]
            have L51 : ∀ (kf : Nat) (j : Nat) (c : Bool) (hkf : r.2.1 - r.2.2.2.1 + 1 - j < kf) (hj : j ≤ r.2.1 - r.2.2.2.1) (hc : c = (decide (r.2.1 - r.2.2.2.1 = zq_len.getD n 0) && zf_all (zw_pf T r.2 n) j)), zq_G ν zm_M_nameHere 1 (zq_rv (zq_I (zw_name T r.2)) σ) 51 [some (zq_O 30 0), some (zq_I (nI n)), some (zq_I (zb_v c)), some (zq_I (nI j))] [] σ := by
              intro kf
              induction kf with
              | zero => intro j c hkf hj hc; exact absurd hkf (Nat.not_lt_zero _)
              | succ kf ih51 =>
                intro j c hkf hj hc
                refine gq_iload_n dz_M_nameHere_51 rfl ?_
                refine gw_ifb_eq (tgt := 106) dz_M_nameHere_52 rfl (fun h52 => ?_) (fun h52 => ?_)
                · skip
                  have hWc : zt_isW T r.2 n = false := by rw [hW]; exact zw_c_no hj (hc.symm.trans h52)
                  refine gq_iload_n dz_M_nameHere_106 rfl ?_
                  refine gw_ifb_eq (tgt := 112) dz_M_nameHere_107 rfl (fun h107 => ?_) (fun h107 => ?_)
                  · skip
                    refine gw_iinc 1 (c := 1) dz_M_nameHere_112 rfl rfl (Nat.le_of_ble_eq_true rfl) rfl ?_
                    dsimp only [List.set]
                    refine gq_goto (tgt := 2) dz_M_nameHere_115 rfl ?_
                    simp only [nI_1]
                    exact zq_fewer _ (zq_sub_spec (by repeat (first | exact trivial | exact rfl | refine And.intro ?_ ?_))) (ih2 (n + 1) k2 (by omega) (by omega) (by rw [hv, zw_nmf, hWc]; rfl))
                  · skip
                    exact Bool.noConfusion (h52.symm.trans h107)
                · skip
                  have hjd : r.2.1 - r.2.2.2.1 = zq_len.getD n 0 := of_decide_eq_true (Bool.and_eq_true_iff.mp (hc.symm.trans h52)).1
                  refine gq_iload_n dz_M_nameHere_55 rfl ?_
                  refine gq_aload_n dz_M_nameHere_56 rfl ?_
                  refine gq_getI zf_M_85 rfl rfl dz_M_nameHere_57 ?_
                  rw [h17]
                  refine gq_aload_n dz_M_nameHere_60 rfl ?_
                  refine gq_getI zf_M_76 rfl rfl dz_M_nameHere_61 ?_
                  rw [h18]
                  refine gq_isub dz_M_nameHere_64 ?_
                  rw [pk_sub hkw1]
                  refine gq_icmp_ge (tgt := 106) dz_M_nameHere_65 rfl (fun h65 => ?_) (fun h65 => ?_)
                  · skip
                    have hj2 : r.2.1 - r.2.2.2.1 ≤ j := (nI_leI (by omega) (by omega)).mp h65
                    have hWc : zt_isW T r.2 n = c := by rw [hW, hc]; exact (zw_c_ye hj hj2).symm
                    refine gq_iload_n dz_M_nameHere_106 rfl ?_
                    refine gw_ifb_eq (tgt := 112) dz_M_nameHere_107 rfl (fun h107 => ?_) (fun h107 => ?_)
                    · skip
                      have hWc : zt_isW T r.2 n = false := hWc.trans h107
                      refine gw_iinc 1 (c := 1) dz_M_nameHere_112 rfl rfl (Nat.le_of_ble_eq_true rfl) rfl ?_
                      dsimp only [List.set]
                      refine gq_goto (tgt := 2) dz_M_nameHere_115 rfl ?_
                      simp only [nI_1]
                      exact zq_fewer _ (zq_sub_spec (by repeat (first | exact trivial | exact rfl | refine And.intro ?_ ?_))) (ih2 (n + 1) k2 (by omega) (by omega) (by rw [hv, zw_nmf, hWc]; rfl))
                    · skip
                      have hWc : zt_isW T r.2 n = true := hWc.trans h107
                      refine gq_iload_n dz_M_nameHere_110 rfl ?_
                      refine gw_iret .int dz_M_nameHere_111 rfl (by first | rfl | exact zb_nar _ | exact pk_nc _) ?_ ?_
                      · rw [hv, zw_nmf, hWc]; rfl
                      · rfl
                  · skip
                    have hj2 : j < r.2.1 - r.2.2.2.1 := by rcases Nat.lt_or_ge j (r.2.1 - r.2.2.2.1) with z | z; exact z; exact absurd (nI_le z (by omega)) h65
                    have hjl : j < zq_len.getD n 0 := by omega
                    refine gq_aload_n dz_M_nameHere_68 rfl ?_
                    refine gq_aload_n dz_M_nameHere_69 rfl ?_
                    refine gq_getI zf_M_76 rfl rfl dz_M_nameHere_70 ?_
                    rw [h18]
                    refine gq_iload_n dz_M_nameHere_73 rfl ?_
                    refine gq_iadd dz_M_nameHere_74 ?_
                    rw [nI_add]
                    refine gq_cV (sp_M_byteAt hT hw (i := r.2.2.2.1 + j) (by omega)) zw_M_byteAt zl_M_88 dz_M_nameHere_75 rfl rfl rfl (by decide) rfl rfl (Nat.le_of_ble_eq_true rfl) ?_
                    refine gq_aload_n dz_M_nameHere_78 rfl ?_
                    refine gq_getR 39 zf_M_34 rfl rfl dz_M_nameHere_79 ?_
                    refine gq_aload_n dz_M_nameHere_82 rfl ?_
                    refine gq_getR 38 zf_M_31 rfl rfl dz_M_nameHere_83 ?_
                    refine gq_iload_n dz_M_nameHere_86 rfl ?_
                    refine gw_iald (n) (rfl) rfl (rfl) (Nat.le_of_ble_eq_true rfl) (by omega) dz_M_nameHere_87 ?_
                    rw [hck n (by omega)]
                    refine gq_iload_n dz_M_nameHere_88 rfl ?_
                    refine gq_iadd dz_M_nameHere_89 ?_
                    rw [nI_add]
                    refine gw_iald (zn_cut.getD n 0 + j) (rfl) rfl (rfl) (Nat.le_of_ble_eq_true rfl) ((zw_lett hn13 hjl).1) dz_M_nameHere_90 ?_
                    rw [hlk _ (zw_lett hn13 hjl).1, (zw_lett hn13 hjl).2]
                    refine gq_icmp_ne (tgt := 98) dz_M_nameHere_91 rfl (fun h91 => ?_) (fun h91 => ?_)
                    · skip
                      refine gq_iconst (v := 0) dz_M_nameHere_98 rfl ?_
                      refine gw_istore_n 2 dz_M_nameHere_99 rfl (Nat.le_of_ble_eq_true rfl) rfl ?_
                      dsimp only [List.set]
                      refine gw_iinc 3 (c := 1) dz_M_nameHere_100 rfl rfl (Nat.le_of_ble_eq_true rfl) rfl ?_
                      dsimp only [List.set]
                      refine gq_goto (tgt := 51) dz_M_nameHere_103 rfl ?_
                      simp only [nI_1]
                      exact zq_fewer _ (zq_sub_spec (by repeat (first | exact trivial | exact rfl | refine And.intro ?_ ?_))) (ih51 (j + 1) false (by omega) (by omega) (by rw [zf_all, show zw_pf T r.2 n j = false from decide_eq_false h91, Bool.and_false, Bool.and_false]))
                    · skip
                      refine gq_iconst (v := 1) dz_M_nameHere_94 rfl ?_
                      refine gq_goto (tgt := 99) dz_M_nameHere_95 rfl ?_
                      refine gw_istore_n 2 dz_M_nameHere_99 rfl (Nat.le_of_ble_eq_true rfl) rfl ?_
                      dsimp only [List.set]
                      refine gw_iinc 3 (c := 1) dz_M_nameHere_100 rfl rfl (Nat.le_of_ble_eq_true rfl) rfl ?_
                      dsimp only [List.set]
                      refine gq_goto (tgt := 51) dz_M_nameHere_103 rfl ?_
                      simp only [nI_1]
                      exact zq_fewer _ (zq_sub_spec (by repeat (first | exact trivial | exact rfl | refine And.intro ?_ ?_))) (ih51 (j + 1) true (by omega) (by omega) (by rw [zf_all, show zw_pf T r.2 n j = true from decide_eq_true h91, Bool.and_true, ← hc]; exact h52.symm))
            exact zq_fewer _ (zq_sub_spec (by repeat (first | exact trivial | exact rfl | refine And.intro ?_ ?_))) (L51 (r.2.1 - r.2.2.2.1 + 2) 0 true (by omega) (by omega) (by rw [decide_eq_true hd]; rfl))
  exact zq_fewer _ (zq_sub_spec (by repeat (first | exact trivial | exact rfl | refine And.intro ?_ ?_))) (L2 14 0 13 (by omega) (by omega) rfl)
