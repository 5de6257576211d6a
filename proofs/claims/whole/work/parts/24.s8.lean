theorem zc_rep.to {σ : zq_T} {d : Fin 5} {A A' : za_D} (h : zc_rep σ d A') (e : A' = A) : zc_rep σ d A := e ▸ h
theorem zq_10 : (10 : Int32).toInt64 = 10 := by decide +kernel
/-! trying -/
def zs_try1 (A : za_D) (p : Nat) : za_D := za_st A (upd (za_tr A) p (za_tr A p + 1))
def zs_try2 (A : za_D) (p f : Nat) : za_D := za_sf (zs_try1 A p) (upd (za_fa A) p (za_fa A p ||| (1 <<< (nI f &&& 31))))
def zs_wbF (A : za_D) (p : Nat) (t : Int32) (l : Nat) (W : Nat → Int64) : Int64 := zf_fo (fun f x => if W f < x then x else W f) (if zs_own A t (za_g A) 31 = nI p then zs_pw 10 l else 0) 5
def zs_no (A : za_D) (p f : Nat) : Bool := decide (¬ za_tr A p < 3) || zb_bit (za_fa A p) (nI f)
def zs_wtF (A : za_D) (p f : Nat) (wb : za_D → Int64) : Int64 := if zs_no A p f then -4 else (za_od A f).toInt64 * wb (zs_try2 A p f) + (10 - za_od A f).toInt64 * wb (zs_try1 A p)
def zs_wb (p : Nat) (t : Int32) : Nat → za_D → Int64
  | 0, A => zs_wbF A p t 0 (fun _ => -4)
  | l + 1, A => zs_wbF A p t (l + 1) (fun f => zs_wtF A p f (zs_wb p t l))
def zs_wt (p : Nat) (t : Int32) (f : Nat) : Nat → za_D → Int64
  | 0, _ => -4
  | l + 1, A => zs_wtF A p f (zs_wb p t l)
theorem zs_wb_eq (p : Nat) (t : Int32) (l : Nat) (A : za_D) : zs_wb p t l A = zs_wbF A p t l (fun f => zs_wt p t f l A) := by cases l <;> rfl
theorem za_wf.try1 {A : za_D} (h : za_wf A) {p f : Nat} (hp : p < za_n A) (hc : zs_no A p f = false) : za_wf (zs_try1 A p) := by
  unfold zs_no at hc
  rw [Bool.or_eq_false_iff] at hc
  obtain ⟨t, ht, et⟩ := (h.1 p hp).2.2
  have h3 : za_tr A p < 3 := Classical.not_not.mp (of_decide_eq_false hc.1)
  rw [et] at h3
  have h4 := zm_tr h3 ht
  unfold zs_try1
  rw [et, nI_1]
  exact h.st p (by omega)
theorem za_wf.try2 {A : za_D} (h : za_wf A) {p f : Nat} (hp : p < za_n A) (hf : f < 5) (hc : zs_no A p f = false) : za_wf (zs_try2 A p f) := by
  obtain ⟨x, hx, ex⟩ := (h.1 p hp).2.1
  unfold zs_try2
  rw [ex, zm_or ⟨x, by omega⟩ ⟨f, by omega⟩]
  exact (h.try1 hp hc).sf p (zm_or32 ⟨x, hx⟩ ⟨f, hf⟩)
/-- taken back -/
theorem zs_try_back {A : za_D} (h : za_wf A) {p f : Nat} (hp : p < za_n A) (hf : f < 5) (hc : zs_no A p f = false) : za_st (za_sf (zs_try2 A p f) (upd (za_fa (zs_try2 A p f)) p (za_fa (zs_try2 A p f) p &&& ((1 <<< (nI f &&& 31)) ^^^ -1)))) (upd (za_tr (zs_try2 A p f)) p (za_tr (zs_try2 A p f) p - 1)) = A := by
  unfold zs_no at hc
  rw [Bool.or_eq_false_iff] at hc
  obtain ⟨x, hx, ex⟩ := (h.1 p hp).2.1
  have hb := hc.2
  have eF : upd (upd (za_fa A) p (za_fa A p ||| ((1 : Int32) <<< (nI f &&& 31)))) p (upd (za_fa A) p (za_fa A p ||| ((1 : Int32) <<< (nI f &&& 31))) p &&& (((1 : Int32) <<< (nI f &&& 31)) ^^^ -1)) = za_fa A := by
    rw [zm_at, zm_up]
    rw [ex] at hb
    have e := zm_rt ⟨x, by omega⟩ ⟨f, by omega⟩ hb
    rw [ex, e, ← ex, zm_same]
  have eT : upd (upd (za_tr A) p (za_tr A p + 1)) p (upd (za_tr A) p (za_tr A p + 1) p - 1) = za_tr A := by
    rw [zm_at, zm_up, Int32.add_sub_cancel, zm_same]
  show (A.1, A.2.1, A.2.2.1, A.2.2.2.1, upd (upd (za_fa A) p (za_fa A p ||| ((1 : Int32) <<< (nI f &&& 31)))) p (upd (za_fa A) p (za_fa A p ||| ((1 : Int32) <<< (nI f &&& 31))) p &&& (((1 : Int32) <<< (nI f &&& 31)) ^^^ -1)), upd (upd (za_tr A) p (za_tr A p + 1)) p (upd (za_tr A) p (za_tr A p + 1) p - 1), A.2.2.2.2.2.2) = A
  rw [eF, eT]
/-- the contract of waysAtBest, of waysTryingFor, at so many tries left -/
def zP_wb (l : Nat) : Prop := ∀ {σ : zq_T} {A : za_D} (hA : zc_rep σ 2 A) (hw : za_wf A) {p : Nat} (hp : p < za_n A) (t : Int32), zq_Sp zm_S_waysAtBest (6 + 2 * l) [zq_O 0 0, zq_I (nI p), zq_I t, zq_I (nI l)] σ (zq_rw (zq_L (zs_wb p t l A)) (fun τ => zc_rep τ 2 A ∧ zd_same 2 σ τ))
def zP_wt (l : Nat) : Prop := ∀ {σ : zq_T} {A : za_D} (hA : zc_rep σ 2 A) (hw : za_wf A) {p f : Nat} (hp : p < za_n A) (hf : f < 5) (t : Int32), zq_Sp zm_S_waysTryingFor (5 + 2 * l) [zq_O 0 0, zq_I (nI f), zq_I (nI p), zq_I t, zq_I (nI l)] σ (zq_rw (zq_L (zs_wt p t f l A)) (fun τ => zc_rep τ 2 A ∧ zd_same 2 σ τ))

set_option maxHeartbeats 4000000 in
theorem sp_wb {l : Nat} (hl : l < 1000) (hwt : zP_wt l) {σ : zq_T} {A : za_D} (hA : zc_rep σ 2 A) (hw : za_wf A) {p : Nat} (hp : p < za_n A) (t : Int32) : zq_Sp zm_S_waysAtBest (6 + 2 * l) [zq_O 0 0, zq_I (nI p), zq_I t, zq_I (nI l)] σ (zq_rw (zq_L (zs_wb p t l A)) (fun τ => zc_rep τ 2 A ∧ zd_same 2 σ τ)) := by
  have hn6 := zc_n6 hA
  refine zq_sp [some (zq_O 0 0), some (zq_I (nI p)), some (zq_I t), some (zq_I (nI l)), none, none, none, none] (by decide +kernel) rfl (Nat.le_of_ble_eq_true rfl) (fun ν => ?_)
  refine gq_aload_n dz_S_waysAtBest_0 rfl ?_
  refine gq_getX 2 2 zf_S_40 rfl rfl rfl dz_S_waysAtBest_1 ?_
  refine gq_iload_n dz_S_waysAtBest_4 rfl ?_
  refine gq_aload_n dz_S_waysAtBest_5 rfl ?_
  refine gq_getX 2 2 zf_S_40 rfl rfl rfl dz_S_waysAtBest_6 ?_
  refine gq_getI zf_S_92 rfl rfl dz_S_waysAtBest_9 ?_
  rw [zc_g hA]
  refine gq_bipush (v := 31) dz_S_waysAtBest_12 rfl ?_
  refine gq_cV (sp_D_ownerIn hA hw _ _ _) zw_D_ownerIn zl_S_171 dz_S_waysAtBest_14 rfl rfl rfl (by omega) rfl rfl (Nat.le_of_ble_eq_true rfl) ?_
  refine gq_iload_n dz_S_waysAtBest_17 rfl ?_
  refine gq_icmp_ne (tgt := 25) dz_S_waysAtBest_18 rfl (fun h18 => ?_) (fun h18 => ?_)
  · skip
    refine gq_iconst (v := 0) dz_S_waysAtBest_25 rfl ?_
    refine gw_istore 4 dz_S_waysAtBest_26 (Nat.le_of_ble_eq_true rfl) rfl ?_
    dsimp only [List.set]
    refine gq_iload dz_S_waysAtBest_28 rfl ?_
    refine gq_if_eq (tgt := 42) dz_S_waysAtBest_30 rfl (fun h30 => ?_) (fun h30 => ?_)
    · skip
      refine gq_lconst (v := 0) dz_S_waysAtBest_42 rfl ?_
      refine gw_lstore 5 dz_S_waysAtBest_43 (Nat.le_of_ble_eq_true rfl) rfl ?_
      dsimp only [List.set]
      refine gq_iconst (v := 0) dz_S_waysAtBest_45 rfl ?_
      refine gw_istore 7 dz_S_waysAtBest_46 (Nat.le_of_ble_eq_true rfl) rfl ?_
      dsimp only [List.set]
      have L48 : ∀ (kf : Nat) (f : Nat) (τ : zq_T) (hkf : 5 - f < kf) (hf : f ≤ 5) (hT : zc_rep τ 2 A) (hs : zd_same 2 σ τ), zq_G ν zm_S_waysAtBest (6 + 2 * l) (zq_rw (zq_L (zs_wb p t l A)) (fun τ => zc_rep τ 2 A ∧ zd_same 2 σ τ)) 48 [some (zq_O 0 0), some (zq_I (nI p)), some (zq_I t), some (zq_I (nI l)), none, some (zq_L (zf_fo (fun f x => if zs_wt p t f l A < x then x else zs_wt p t f l A) (if zs_own A t (za_g A) 31 = nI p then zs_pw 10 l else 0) f)), none, some (zq_I (nI f))] [] τ := by
        intro kf
        induction kf with
        | zero => intro f τ hkf hf hT hs; exact absurd hkf (Nat.not_lt_zero _)
        | succ kf ih48 =>
          intro f τ hkf hf hT hs
          refine gq_iload dz_S_waysAtBest_48 rfl ?_
          refine gq_iconst (v := 5) dz_S_waysAtBest_50 rfl ?_
          refine gq_icmp_ge (tgt := 76) dz_S_waysAtBest_51 rfl (fun h51 => ?_) (fun h51 => ?_)
          · skip
            refine gq_lload dz_S_waysAtBest_76 rfl ?_
            refine gw_lretP dz_S_waysAtBest_78 rfl ?_ ?_
            · rw [zs_wb_eq, zs_wbF, zq_leq (n := 5) h51 hf (by omega)]
            · exact ⟨hT, hs⟩
          · skip
            have f2 : f < 5 := by rcases Nat.lt_or_ge f (5) with z | z; exact z; exact absurd (nI_le z (by omega)) h51
            refine gq_lload dz_S_waysAtBest_54 rfl ?_
            refine gq_aload_n dz_S_waysAtBest_56 rfl ?_
            refine gq_iload dz_S_waysAtBest_57 rfl ?_
            refine gq_iload_n dz_S_waysAtBest_59 rfl ?_
            refine gq_iload_n dz_S_waysAtBest_60 rfl ?_
            refine gq_iload_n dz_S_waysAtBest_61 rfl ?_
            refine gq_cVP (hwt hT hw hp f2 t) zw_S_waysTryingFor zl_S_222 dz_S_waysAtBest_62 rfl rfl rfl (by omega) rfl rfl (Nat.le_of_ble_eq_true rfl) (fun τ62 hq62 => ?_)
            refine gq_lmax rfl dz_S_waysAtBest_65 (by omega) (Nat.le_of_ble_eq_true rfl) ?_
            refine gw_lstore 5 dz_S_waysAtBest_68 (Nat.le_of_ble_eq_true rfl) rfl ?_
            dsimp only [List.set]
            refine gw_iinc 7 (c := 1) dz_S_waysAtBest_70 rfl rfl (Nat.le_of_ble_eq_true rfl) rfl ?_
            dsimp only [List.set]
            refine gq_goto (tgt := 48) dz_S_waysAtBest_73 rfl ?_
            simp only [nI_1]
            exact zq_fewer _ (zq_sub_spec (by repeat (first | exact trivial | exact rfl | refine And.intro ?_ ?_))) (ih48 (f + 1) _ (by omega) (by omega) hq62.1 (hs.tr hq62.2))
      first | rw [show (0 : Int64) = zf_fo (fun f x => if zs_wt p t f l A < x then x else zs_wt p t f l A) (if zs_own A t (za_g A) 31 = nI p then zs_pw 10 l else 0) 0 from (if_neg h18).symm] | rw [show zs_pw 10 l = zf_fo (fun f x => if zs_wt p t f l A < x then x else zs_wt p t f l A) (if zs_own A t (za_g A) 31 = nI p then zs_pw 10 l else 0) 0 from (if_pos h18).symm]
      exact zq_fewer _ (zq_sub_spec (by repeat (first | exact trivial | exact rfl | refine And.intro ?_ ?_))) (L48 6 0 _ (by omega) (by omega) hA zd_same.rf)
    · skip
      exact absurd rfl h30
  · skip
    refine gq_iconst (v := 1) dz_S_waysAtBest_21 rfl ?_
    refine gq_goto (tgt := 26) dz_S_waysAtBest_22 rfl ?_
    refine gw_istore 4 dz_S_waysAtBest_26 (Nat.le_of_ble_eq_true rfl) rfl ?_
    dsimp only [List.set]
    refine gq_iload dz_S_waysAtBest_28 rfl ?_
    refine gq_if_eq (tgt := 42) dz_S_waysAtBest_30 rfl (fun h30 => ?_) (fun h30 => ?_)
    · skip
      exact absurd h30 (by decide)
    · skip
      refine gq_bipush (v := 10) dz_S_waysAtBest_33 rfl ?_
      refine gq_iload_n dz_S_waysAtBest_35 rfl ?_
      refine gq_cS (sp_S_power _ _) zw_S_power zl_S_215 dz_S_waysAtBest_36 (by omega) rfl rfl (Nat.le_of_ble_eq_true rfl) ?_
      rw [nI_clamp (show l < 2 ^ 31 by omega), zq_10]
      refine gq_goto (tgt := 43) dz_S_waysAtBest_39 rfl ?_
      refine gw_lstore 5 dz_S_waysAtBest_43 (Nat.le_of_ble_eq_true rfl) rfl ?_
      dsimp only [List.set]
      refine gq_iconst (v := 0) dz_S_waysAtBest_45 rfl ?_
      refine gw_istore 7 dz_S_waysAtBest_46 (Nat.le_of_ble_eq_true rfl) rfl ?_
      dsimp only [List.set]
      have L48 : ∀ (kf : Nat) (f : Nat) (τ : zq_T) (hkf : 5 - f < kf) (hf : f ≤ 5) (hT : zc_rep τ 2 A) (hs : zd_same 2 σ τ), zq_G ν zm_S_waysAtBest (6 + 2 * l) (zq_rw (zq_L (zs_wb p t l A)) (fun τ => zc_rep τ 2 A ∧ zd_same 2 σ τ)) 48 [some (zq_O 0 0), some (zq_I (nI p)), some (zq_I t), some (zq_I (nI l)), none, some (zq_L (zf_fo (fun f x => if zs_wt p t f l A < x then x else zs_wt p t f l A) (if zs_own A t (za_g A) 31 = nI p then zs_pw 10 l else 0) f)), none, some (zq_I (nI f))] [] τ := by
        intro kf
        induction kf with
        | zero => intro f τ hkf hf hT hs; exact absurd hkf (Nat.not_lt_zero _)
        | succ kf ih48 =>
          intro f τ hkf hf hT hs
          refine gq_iload dz_S_waysAtBest_48 rfl ?_
          refine gq_iconst (v := 5) dz_S_waysAtBest_50 rfl ?_
          refine gq_icmp_ge (tgt := 76) dz_S_waysAtBest_51 rfl (fun h51 => ?_) (fun h51 => ?_)
          · skip
            refine gq_lload dz_S_waysAtBest_76 rfl ?_
            refine gw_lretP dz_S_waysAtBest_78 rfl ?_ ?_
            · rw [zs_wb_eq, zs_wbF, zq_leq (n := 5) h51 hf (by omega)]
            · exact ⟨hT, hs⟩
          · skip
            have f2 : f < 5 := by rcases Nat.lt_or_ge f (5) with z | z; exact z; exact absurd (nI_le z (by omega)) h51
            refine gq_lload dz_S_waysAtBest_54 rfl ?_
            refine gq_aload_n dz_S_waysAtBest_56 rfl ?_
            refine gq_iload dz_S_waysAtBest_57 rfl ?_
            refine gq_iload_n dz_S_waysAtBest_59 rfl ?_
            refine gq_iload_n dz_S_waysAtBest_60 rfl ?_
            refine gq_iload_n dz_S_waysAtBest_61 rfl ?_
            refine gq_cVP (hwt hT hw hp f2 t) zw_S_waysTryingFor zl_S_222 dz_S_waysAtBest_62 rfl rfl rfl (by omega) rfl rfl (Nat.le_of_ble_eq_true rfl) (fun τ62 hq62 => ?_)
            refine gq_lmax rfl dz_S_waysAtBest_65 (by omega) (Nat.le_of_ble_eq_true rfl) ?_
            refine gw_lstore 5 dz_S_waysAtBest_68 (Nat.le_of_ble_eq_true rfl) rfl ?_
            dsimp only [List.set]
            refine gw_iinc 7 (c := 1) dz_S_waysAtBest_70 rfl rfl (Nat.le_of_ble_eq_true rfl) rfl ?_
            dsimp only [List.set]
            refine gq_goto (tgt := 48) dz_S_waysAtBest_73 rfl ?_
            simp only [nI_1]
            exact zq_fewer _ (zq_sub_spec (by repeat (first | exact trivial | exact rfl | refine And.intro ?_ ?_))) (ih48 (f + 1) _ (by omega) (by omega) hq62.1 (hs.tr hq62.2))
      first | rw [show (0 : Int64) = zf_fo (fun f x => if zs_wt p t f l A < x then x else zs_wt p t f l A) (if zs_own A t (za_g A) 31 = nI p then zs_pw 10 l else 0) 0 from (if_neg h18).symm] | rw [show zs_pw 10 l = zf_fo (fun f x => if zs_wt p t f l A < x then x else zs_wt p t f l A) (if zs_own A t (za_g A) 31 = nI p then zs_pw 10 l else 0) 0 from (if_pos h18).symm]
      exact zq_fewer _ (zq_sub_spec (by repeat (first | exact trivial | exact rfl | refine And.intro ?_ ?_))) (L48 6 0 _ (by omega) (by omega) hA zd_same.rf)
set_option maxHeartbeats 4000000 in
theorem sp_wt0 {σ : zq_T} {A : za_D} (hA : zc_rep σ 2 A) (hw : za_wf A) {p f : Nat} (t : Int32) : zq_Sp zm_S_waysTryingFor 5 [zq_O 0 0, zq_I (nI f), zq_I (nI p), zq_I t, zq_I (nI 0)] σ (zq_rw (zq_L (zs_wt p t f 0 A)) (fun τ => zc_rep τ 2 A ∧ zd_same 2 σ τ)) := by
  refine zq_sp [some (zq_O 0 0), some (zq_I (nI f)), some (zq_I (nI p)), some (zq_I t), some (zq_I (nI 0)), none, none, none, none, none] (by decide +kernel) rfl (Nat.le_of_ble_eq_true rfl) (fun ν => ?_)
  refine gq_iload dz_S_waysTryingFor_0 rfl ?_
  refine gq_if_le (tgt := 41) dz_S_waysTryingFor_2 rfl (fun h2 => ?_) (fun h2 => ?_)
  · skip
    refine gq_ldc2 zl_S_292 dz_S_waysTryingFor_41 ?_
    refine gw_lretP dz_S_waysTryingFor_44 rfl ?_ ?_
    · rfl
    · exact ⟨hA, zd_same.rf⟩
  · skip
    exact absurd (by decide) h2
set_option maxHeartbeats 4000000 in
theorem sp_wt1 {l : Nat} (hl : l < 1000) (hwb : zP_wb l) {σ : zq_T} {A : za_D} (hA : zc_rep σ 2 A) (hw : za_wf A) {p f : Nat} (hp : p < za_n A) (hf : f < 5) (t : Int32) : zq_Sp zm_S_waysTryingFor (5 + 2 * (l + 1)) [zq_O 0 0, zq_I (nI f), zq_I (nI p), zq_I t, zq_I (nI (l + 1))] σ (zq_rw (zq_L (zs_wt p t f (l + 1) A)) (fun τ => zc_rep τ 2 A ∧ zd_same 2 σ τ)) := by
  have hn6 := zc_n6 hA
  have hin := zb_in_nI hp (by omega)
  refine zq_sp [some (zq_O 0 0), some (zq_I (nI f)), some (zq_I (nI p)), some (zq_I t), some (zq_I (nI (l + 1))), none, none, none, none, none] (by decide +kernel) rfl (Nat.le_of_ble_eq_true rfl) (fun ν => ?_)
  refine gq_iload dz_S_waysTryingFor_0 rfl ?_
  refine gq_if_le (tgt := 41) dz_S_waysTryingFor_2 rfl (fun h2 => ?_) (fun h2 => ?_)
  · skip
    exact absurd h2 (nI_nle (by omega) (by omega))
  · skip
    refine gq_aload_n dz_S_waysTryingFor_5 rfl ?_
    refine gq_getX 2 2 zf_S_40 rfl rfl rfl dz_S_waysTryingFor_6 ?_
    refine gq_iload_n dz_S_waysTryingFor_9 rfl ?_
    refine gq_cV (sp_D_isOne hA _) zw_D_isOne zl_S_95 dz_S_waysTryingFor_10 rfl rfl rfl (by omega) rfl rfl (Nat.le_of_ble_eq_true rfl) ?_
    refine gw_ifb_eq (tgt := 41) dz_S_waysTryingFor_13 rfl (fun h13 => ?_) (fun h13 => ?_)
    · skip
      rw [hin] at h13; cases h13
    · skip
      refine gq_aload_n dz_S_waysTryingFor_16 rfl ?_
      refine gq_getX 2 2 zf_S_40 rfl rfl rfl dz_S_waysTryingFor_17 ?_
      refine gq_getR 14 zf_S_104 rfl rfl dz_S_waysTryingFor_20 ?_
      refine gq_iload_n dz_S_waysTryingFor_23 rfl ?_
      refine gw_iald (p) (rfl) rfl (rfl) (Nat.le_of_ble_eq_true rfl) (by omega) dz_S_waysTryingFor_24 ?_
      rw [zc_tr hA (by omega)]
      refine gq_iconst (v := 3) dz_S_waysTryingFor_25 rfl ?_
      refine gq_icmp_ge (tgt := 41) dz_S_waysTryingFor_26 rfl (fun h26 => ?_) (fun h26 => ?_)
      · skip
        have hno : zs_no A p f = true := by rw [zs_no, decide_eq_true (zb_nlt3 h26)]; rfl
        refine gq_ldc2 zl_S_292 dz_S_waysTryingFor_41 ?_
        refine gw_lretP dz_S_waysTryingFor_44 rfl ?_ ?_
        · rw [zs_wt, zs_wtF, if_pos hno]
        · exact ⟨hA, zd_same.rf⟩
      · skip
        have h26 := zb_lt3 h26
        refine gq_aload_n dz_S_waysTryingFor_29 rfl ?_
        refine gq_getX 2 2 zf_S_40 rfl rfl rfl dz_S_waysTryingFor_30 ?_
        refine gq_iload_n dz_S_waysTryingFor_33 rfl ?_
        refine gq_iload_n dz_S_waysTryingFor_34 rfl ?_
        refine gq_cV (sp_D_isKnown hA _ _) zw_D_isKnown zl_S_161 dz_S_waysTryingFor_35 rfl rfl rfl (by omega) rfl rfl (Nat.le_of_ble_eq_true rfl) ?_
        refine gw_ifb_eq (tgt := 45) dz_S_waysTryingFor_38 rfl (fun h38 => ?_) (fun h38 => ?_)
        · skip
          rw [hin, Bool.true_and, nI_clamp (by omega)] at h38
          have hno : zs_no A p f = false := by rw [zs_no, h38, decide_eq_false (fun z => z h26)]; rfl
          refine gq_aload_n dz_S_waysTryingFor_45 rfl ?_
          refine gq_getX 2 2 zf_S_40 rfl rfl rfl dz_S_waysTryingFor_46 ?_
          refine gq_getR 14 zf_S_104 rfl rfl dz_S_waysTryingFor_49 ?_
          refine gq_iload_n dz_S_waysTryingFor_52 rfl ?_
          refine gq_dup2 dz_S_waysTryingFor_53 rfl rfl ?_
          refine gw_iald (p) (rfl) rfl (rfl) (Nat.le_of_ble_eq_true rfl) (by omega) dz_S_waysTryingFor_54 ?_
          rw [zc_tr hA (by omega)]
          refine gq_iconst (v := 1) dz_S_waysTryingFor_55 rfl ?_
          refine gq_iadd dz_S_waysTryingFor_56 ?_
          refine gw_iast (p) (rfl) rfl (rfl) (Nat.le_of_ble_eq_true rfl) (by omega) dz_S_waysTryingFor_57 ?_
          refine gq_aload_n dz_S_waysTryingFor_58 rfl ?_
          refine gq_iload_n dz_S_waysTryingFor_59 rfl ?_
          refine gq_iload_n dz_S_waysTryingFor_60 rfl ?_
          refine gq_iload dz_S_waysTryingFor_61 rfl ?_
          refine gq_iconst (v := 1) dz_S_waysTryingFor_63 rfl ?_
          refine gq_isub dz_S_waysTryingFor_64 ?_
          rw [nI_pred]
          refine gq_cVP (hwb (A := zs_try1 A p) (hA.st _ _) (hw.try1 hp hno) hp t) zw_S_waysAtBest zl_S_294 dz_S_waysTryingFor_65 rfl rfl rfl (by omega) rfl rfl (Nat.le_of_ble_eq_true rfl) (fun τ65 hq65 => ?_)
          refine gw_lstore 5 dz_S_waysTryingFor_68 (Nat.le_of_ble_eq_true rfl) rfl ?_
          dsimp only [List.set]
          refine gq_aload_n dz_S_waysTryingFor_70 rfl ?_
          refine gq_getX 2 2 zf_S_40 rfl rfl rfl dz_S_waysTryingFor_71 ?_
          refine gq_getR 13 zf_S_101 rfl rfl dz_S_waysTryingFor_74 ?_
          refine gq_iload_n dz_S_waysTryingFor_77 rfl ?_
          refine gq_dup2 dz_S_waysTryingFor_78 rfl rfl ?_
          refine gw_iald (p) (rfl) rfl (rfl) (Nat.le_of_ble_eq_true rfl) (by omega) dz_S_waysTryingFor_79 ?_
          rw [zc_fa hq65.1 (by omega)]
          refine gq_iconst (v := 1) dz_S_waysTryingFor_80 rfl ?_
          refine gq_iload_n dz_S_waysTryingFor_81 rfl ?_
          refine gq_ishl dz_S_waysTryingFor_82 ?_
          refine gq_ior dz_S_waysTryingFor_83 ?_
          refine gw_iast (p) (rfl) rfl (rfl) (Nat.le_of_ble_eq_true rfl) (by omega) dz_S_waysTryingFor_84 ?_
          refine gq_aload_n dz_S_waysTryingFor_85 rfl ?_
          refine gq_iload_n dz_S_waysTryingFor_86 rfl ?_
          refine gq_iload_n dz_S_waysTryingFor_87 rfl ?_
          refine gq_iload dz_S_waysTryingFor_88 rfl ?_
          refine gq_iconst (v := 1) dz_S_waysTryingFor_90 rfl ?_
          refine gq_isub dz_S_waysTryingFor_91 ?_
          rw [nI_pred]
          refine gq_cVP (hwb (A := zs_try2 A p f) (hq65.1.sf _ _) (hw.try2 hp hf hno) hp t) zw_S_waysAtBest zl_S_294 dz_S_waysTryingFor_92 rfl rfl rfl (by omega) rfl rfl (Nat.le_of_ble_eq_true rfl) (fun τ92 hq92 => ?_)
          refine gw_lstore 7 dz_S_waysTryingFor_95 (Nat.le_of_ble_eq_true rfl) rfl ?_
          dsimp only [List.set]
          refine gq_aload_n dz_S_waysTryingFor_97 rfl ?_
          refine gq_getX 2 2 zf_S_40 rfl rfl rfl dz_S_waysTryingFor_98 ?_
          refine gq_getR 13 zf_S_101 rfl rfl dz_S_waysTryingFor_101 ?_
          refine gq_iload_n dz_S_waysTryingFor_104 rfl ?_
          refine gq_dup2 dz_S_waysTryingFor_105 rfl rfl ?_
          refine gw_iald (p) (rfl) rfl (rfl) (Nat.le_of_ble_eq_true rfl) (by omega) dz_S_waysTryingFor_106 ?_
          rw [zc_fa hq92.1 (by omega)]
          refine gq_iconst (v := 1) dz_S_waysTryingFor_107 rfl ?_
          refine gq_iload_n dz_S_waysTryingFor_108 rfl ?_
          refine gq_ishl dz_S_waysTryingFor_109 ?_
          refine gq_iconst (v := -1) dz_S_waysTryingFor_110 rfl ?_
          refine gq_ixor dz_S_waysTryingFor_111 ?_
          refine gq_iand dz_S_waysTryingFor_112 ?_
          refine gw_iast (p) (rfl) rfl (rfl) (Nat.le_of_ble_eq_true rfl) (by omega) dz_S_waysTryingFor_113 ?_
          refine gq_aload_n dz_S_waysTryingFor_114 rfl ?_
          refine gq_getX 2 2 zf_S_40 rfl rfl rfl dz_S_waysTryingFor_115 ?_
          refine gq_getR 14 zf_S_104 rfl rfl dz_S_waysTryingFor_118 ?_
          refine gq_iload_n dz_S_waysTryingFor_121 rfl ?_
          refine gq_dup2 dz_S_waysTryingFor_122 rfl rfl ?_
          refine gw_iald (p) (rfl) rfl (rfl) (Nat.le_of_ble_eq_true rfl) (by omega) dz_S_waysTryingFor_123 ?_
          rw [zc_tr (hq92.1.sf _ _) (by omega)]
          refine gq_iconst (v := 1) dz_S_waysTryingFor_124 rfl ?_
          refine gq_isub dz_S_waysTryingFor_125 ?_
          refine gw_iast (p) (rfl) rfl (rfl) (Nat.le_of_ble_eq_true rfl) (by omega) dz_S_waysTryingFor_126 ?_
          refine gq_aload_n dz_S_waysTryingFor_127 rfl ?_
          refine gq_getX 2 2 zf_S_40 rfl rfl rfl dz_S_waysTryingFor_128 ?_
          refine gq_getR 15 zf_S_120 rfl rfl dz_S_waysTryingFor_131 ?_
          refine gq_iload_n dz_S_waysTryingFor_134 rfl ?_
          refine gw_iald (f) (rfl) rfl (rfl) (Nat.le_of_ble_eq_true rfl) (hf) dz_S_waysTryingFor_135 ?_
          rw [zc_od ((hq92.1.sf _ _).st _ _) hf]
          refine gw_istore 9 dz_S_waysTryingFor_136 (Nat.le_of_ble_eq_true rfl) rfl ?_
          dsimp only [List.set]
          refine gq_iload dz_S_waysTryingFor_138 rfl ?_
          refine gq_i2l dz_S_waysTryingFor_140 ?_
          refine gq_lload dz_S_waysTryingFor_141 rfl ?_
          refine gq_lmul dz_S_waysTryingFor_143 ?_
          refine gq_bipush (v := 10) dz_S_waysTryingFor_144 rfl ?_
          refine gq_iload dz_S_waysTryingFor_146 rfl ?_
          refine gq_isub dz_S_waysTryingFor_148 ?_
          refine gq_i2l dz_S_waysTryingFor_149 ?_
          refine gq_lload dz_S_waysTryingFor_150 rfl ?_
          refine gq_lmul dz_S_waysTryingFor_152 ?_
          refine gq_ladd dz_S_waysTryingFor_153 ?_
          refine gw_lretP dz_S_waysTryingFor_154 rfl ?_ ?_
          · rw [zs_wt, zs_wtF, if_neg (by rw [hno]; exact Bool.false_ne_true)]; rfl
          · exact ⟨zc_rep.to ((hq92.1.sf p (za_fa (zs_try2 A p f) p &&& ((1 <<< (nI f &&& 31)) ^^^ -1))).st p (za_tr (zs_try2 A p f) p - 1)) (zs_try_back hw hp hf hno), (((((zd_same.rf.up (by omega) (by omega)).tr hq65.2).up (by omega) (by omega)).tr hq92.2).up (by omega) (by omega)).up (by omega) (by omega)⟩
        · skip
          rw [hin, Bool.true_and, nI_clamp (by omega)] at h38
          have hno : zs_no A p f = true := by rw [zs_no, h38, Bool.or_true]
          refine gq_ldc2 zl_S_292 dz_S_waysTryingFor_41 ?_
          refine gw_lretP dz_S_waysTryingFor_44 rfl ?_ ?_
          · rw [zs_wt, zs_wtF, if_pos hno]
          · exact ⟨hA, zd_same.rf⟩
theorem sp_wts : ∀ l : Nat, l < 1000 → zP_wt l ∧ zP_wb l
  | 0, h => by
    have h0 : zP_wt 0 := fun {σ A} hA hw {p f} hp hf t => sp_wt0 hA hw t
    exact ⟨h0, fun {σ A} hA hw {p} hp t => sp_wb h h0 hA hw hp t⟩
  | l + 1, h => by
    obtain ⟨h1, h2⟩ := sp_wts l (by omega)
    have h0 : zP_wt (l + 1) := fun {σ A} hA hw {p f} hp hf t => sp_wt1 (by omega) h2 hA hw hp hf t
    exact ⟨h0, fun {σ A} hA hw {p} hp t => sp_wb h h0 hA hw hp t⟩
def zs_bf (A : za_D) (p : Nat) (t : Int32) (n f : Nat) (S : Int64 × Int32) : Int64 × Int32 := if S.1 < zs_wt p t f n A then (zs_wt p t f n A, nI f) else S
def zs_bs (A : za_D) (p : Nat) (t : Int32) (n : Nat) : Nat → Int64 × Int32 := zf_fo (zs_bf A p t n) (if zs_own A t (za_g A) 31 = nI p then zs_pw 10 n else 0, 5)
def zx_bok (A : za_D) (p t n w : Int32) : Bool := zb_in p (za_n A) && (zb_in t 4 && (zx_3 n 3 && zx_3 w 2))
def zx_best1 (A : za_D) (p : Nat) (t : Int32) (n : Nat) (w : Int32) : Int64 := if w = 2 then (zs_bs A p t n 5).2.toInt64 else zs_low (zs_bs A p t n 5).1 (zs_pw 10 n) w
def zx_best (A : za_D) (p t n w : Int32) : Int64 := if zx_bok A p t n w then zx_best1 A p.toNatClampNeg t n.toNatClampNeg w else -1
set_option maxHeartbeats 4000000 in
theorem sp_S_best {σ : zq_T} {X : za_X} (hS : zs_rep σ X) (hW : zx_wf X) (p t n w : Int32) : zq_Sp zm_S_best 13 [zq_O 0 0, zq_I p, zq_I t, zq_I n, zq_I w] σ (zq_rw (zq_L (zx_best X.1 p t n w)) (fun τ => zs_rep τ (X) ∧ zg_S σ τ)) := by
  have hA : zc_rep σ σ.2.2.1 X.1 := hS.2.1
  have hw : za_wf X.1 := hW.1
  have hn6 : za_n X.1 ≤ 6 := zc_n6 hA
  have hm5 : za_m X.1 ≤ 5 := zc_m5 hA
  have hs6 : (zx_s X).1 ≤ 6 := hW.2.2.2.1.1
  have hT6 : (zx_T X).1 ≤ 160 := hW.2.2.1.1
  refine zq_sp [some (zq_O 0 0), some (zq_I p), some (zq_I t), some (zq_I n), some (zq_I w), none, none, none, none, none, none] (by decide +kernel) rfl (Nat.le_of_ble_eq_true rfl) (fun ν => ?_)
  refine gq_aload_n dz_S_best_0 rfl ?_
  refine gq_getU zf_S_53 rfl rfl dz_S_best_1 ?_
  refine gq_iload_n dz_S_best_4 rfl ?_
  refine gq_cV (sp_D_isOne hA _) zw_D_isOne zl_S_95 dz_S_best_5 rfl rfl rfl (by omega) rfl rfl (Nat.le_of_ble_eq_true rfl) ?_
  refine gw_ifb_eq (tgt := 38) dz_S_best_8 rfl (fun h8 => ?_) (fun h8 => ?_)
  · skip
    refine gq_ldc2 zl_S_209 dz_S_best_38 ?_
    refine gw_lretP dz_S_best_41 rfl ?_ ?_
    · rw [zx_best, show zx_bok X.1 p t n w = false from by rw [zx_bok, h8]; simp]; rfl
    · exact ⟨hS, zg_S.rf⟩
  · skip
    refine gq_iload_n dz_S_best_11 rfl ?_
    refine gq_cS (sp_S_isThing _) zw_S_isThing zl_S_147 dz_S_best_12 (by omega) rfl rfl (Nat.le_of_ble_eq_true rfl) ?_
    refine gw_ifb_eq (tgt := 38) dz_S_best_15 rfl (fun h15 => ?_) (fun h15 => ?_)
    · skip
      refine gq_ldc2 zl_S_209 dz_S_best_38 ?_
      refine gw_lretP dz_S_best_41 rfl ?_ ?_
      · rw [zx_best, show zx_bok X.1 p t n w = false from by rw [zx_bok, h15]; simp]; rfl
      · exact ⟨hS, zg_S.rf⟩
    · skip
      refine gq_iload_n dz_S_best_18 rfl ?_
      refine gq_if_lt (tgt := 38) dz_S_best_19 rfl (fun h19 => ?_) (fun h19 => ?_)
      · skip
        refine gq_ldc2 zl_S_209 dz_S_best_38 ?_
        refine gw_lretP dz_S_best_41 rfl ?_ ?_
        · rw [zx_best, show zx_bok X.1 p t n w = false from by rw [zx_bok, zx_3lt h19]; simp]; rfl
        · exact ⟨hS, zg_S.rf⟩
      · skip
        refine gq_iload_n dz_S_best_22 rfl ?_
        refine gq_iconst (v := 3) dz_S_best_23 rfl ?_
        refine gq_icmp_gt (tgt := 38) dz_S_best_24 rfl (fun h24 => ?_) (fun h24 => ?_)
        · skip
          have h24 : ¬ n ≤ 3 := fun z => by rw [Int32.le_iff_toInt_le] at z; rw [Int32.lt_iff_toInt_lt] at h24; omega
          refine gq_ldc2 zl_S_209 dz_S_best_38 ?_
          refine gw_lretP dz_S_best_41 rfl ?_ ?_
          · rw [zx_best, show zx_bok X.1 p t n w = false from by rw [zx_bok, zx_3gt h24]; simp]; rfl
          · exact ⟨hS, zg_S.rf⟩
        · skip
          have h24 : n ≤ 3 := by rw [Int32.le_iff_toInt_le]; rw [Int32.lt_iff_toInt_lt] at h24; omega
          refine gq_iload dz_S_best_27 rfl ?_
          refine gq_if_lt (tgt := 38) dz_S_best_29 rfl (fun h29 => ?_) (fun h29 => ?_)
          · skip
            refine gq_ldc2 zl_S_209 dz_S_best_38 ?_
            refine gw_lretP dz_S_best_41 rfl ?_ ?_
            · rw [zx_best, show zx_bok X.1 p t n w = false from by rw [zx_bok, zx_3lt h29]; simp]; rfl
            · exact ⟨hS, zg_S.rf⟩
          · skip
            refine gq_iload dz_S_best_32 rfl ?_
            refine gq_iconst (v := 2) dz_S_best_34 rfl ?_
            refine gq_icmp_le (tgt := 42) dz_S_best_35 rfl (fun h35 => ?_) (fun h35 => ?_)
            · skip
              have hok : zx_bok X.1 p t n w = true := by rw [zx_bok, h8, h15, zx_3ye h19 h24, zx_3ye h29 h35]; rfl
              obtain ⟨q, hq, rfl⟩ := (zb_in_iff (by omega)).mp h8
              obtain ⟨m, hm, rfl⟩ := zx_3ex (n := 3) h19 h24 (by omega)
              have hV : zx_best X.1 (nI q) t (nI m) w = zx_best1 X.1 q t m w := by rw [zx_best, hok, if_pos rfl, nI_clamp (show q < 2 ^ 31 by omega), nI_clamp (show m < 2 ^ 31 by omega)]
              rw [hV]
              refine gq_aload_n dz_S_best_42 rfl ?_
              refine gq_getX 2 2 zf_S_40 rfl rfl rfl dz_S_best_43 ?_
              refine gq_aload_n dz_S_best_46 rfl ?_
              refine gq_getU zf_S_53 rfl rfl dz_S_best_47 ?_
              refine gq_cVX (sp_D_copyFrom (d := 2) hA (zs_d0 hS (by decide))) zw_D_copyFrom zl_S_174 dz_S_best_50 rfl rfl rfl (by omega) rfl rfl (Nat.le_of_ble_eq_true rfl) (fun τ50 hq50 => ?_)
              refine gq_aload_n dz_S_best_53 rfl ?_
              refine gq_getX 2 2 zf_S_40 rfl rfl rfl dz_S_best_54 ?_
              refine gq_iload_n dz_S_best_57 rfl ?_
              refine gq_cV (sp_D_ownerNow hq50.1 hw _) zw_D_ownerNow zl_S_150 dz_S_best_58 rfl rfl rfl (by omega) rfl rfl (Nat.le_of_ble_eq_true rfl) ?_
              refine gq_iload_n dz_S_best_61 rfl ?_
              refine gq_icmp_ne (tgt := 74) dz_S_best_62 rfl (fun h62 => ?_) (fun h62 => ?_)
              · skip
                refine gq_lconst (v := 0) dz_S_best_74 rfl ?_
                refine gw_lstore 5 dz_S_best_75 (Nat.le_of_ble_eq_true rfl) rfl ?_
                dsimp only [List.set]
                refine gq_iconst (v := 5) dz_S_best_77 rfl ?_
                refine gw_istore 7 dz_S_best_78 (Nat.le_of_ble_eq_true rfl) rfl ?_
                dsimp only [List.set]
                refine gq_iconst (v := 0) dz_S_best_80 rfl ?_
                refine gw_istore 8 dz_S_best_81 (Nat.le_of_ble_eq_true rfl) rfl ?_
                dsimp only [List.set]
                have L83 : ∀ (kf : Nat) (f : Nat) (τ : zq_T) (hkf : 5 - f < kf) (hf : f ≤ 5) (hT : zc_rep τ 2 X.1) (hs : zd_same 2 σ τ), zq_G ν zm_S_best 13 (zq_rw (zq_L (zx_best1 X.1 q t m w)) (fun τ => zs_rep τ (X) ∧ zg_S σ τ)) 83 [some (zq_O 0 0), some (zq_I (nI q)), some (zq_I t), some (zq_I (nI m)), some (zq_I w), some (zq_L (zs_bs X.1 q t m f).1), none, some (zq_I (zs_bs X.1 q t m f).2), some (zq_I (nI f)), none, none] [] τ := by
                  intro kf
                  induction kf with
                  | zero => intro f τ hkf hf hT hs; exact absurd hkf (Nat.not_lt_zero _)
                  | succ kf ih83 =>
                    intro f τ hkf hf hT hs
                    refine gq_iload dz_S_best_83 rfl ?_
                    refine gq_iconst (v := 5) dz_S_best_85 rfl ?_
                    refine gq_icmp_ge (tgt := 122) dz_S_best_86 rfl (fun h86 => ?_) (fun h86 => ?_)
                    · skip
                      have hf5 : f = 5 := zq_leq h86 hf (by omega)
                      subst hf5
                      refine gq_iload dz_S_best_122 rfl ?_
                      refine gq_iconst (v := 2) dz_S_best_124 rfl ?_
                      refine gq_icmp_ne (tgt := 134) dz_S_best_125 rfl (fun h125 => ?_) (fun h125 => ?_)
                      · skip
                        refine gq_lload dz_S_best_134 rfl ?_
                        refine gq_bipush (v := 10) dz_S_best_136 rfl ?_
                        refine gq_iload_n dz_S_best_138 rfl ?_
                        refine gq_cS (sp_S_power _ _) zw_S_power zl_S_215 dz_S_best_139 (by omega) rfl rfl (Nat.le_of_ble_eq_true rfl) ?_
                        rw [nI_clamp (show m < 2 ^ 31 by omega), zq_10]
                        refine gq_iload dz_S_best_142 rfl ?_
                        refine gq_cS (sp_S_lowestTerms _ _ _) zw_S_lowestTerms zl_S_218 dz_S_best_144 (by omega) rfl rfl (Nat.le_of_ble_eq_true rfl) ?_
                        refine gw_lretP dz_S_best_147 rfl ?_ ?_
                        · rw [zx_best1, if_neg h125]
                        · exact ⟨hS.trial hs, hs.S⟩
                      · skip
                        refine gq_iload dz_S_best_128 rfl ?_
                        refine gq_i2l dz_S_best_130 ?_
                        refine gq_goto (tgt := 147) dz_S_best_131 rfl ?_
                        refine gw_lretP dz_S_best_147 rfl ?_ ?_
                        · rw [zx_best1, if_pos h125]
                        · exact ⟨hS.trial hs, hs.S⟩
                    · skip
                      have f2 : f < 5 := by rcases Nat.lt_or_ge f (5) with z | z; exact z; exact absurd (nI_le z (by omega)) h86
                      refine gq_aload_n dz_S_best_89 rfl ?_
                      refine gq_iload dz_S_best_90 rfl ?_
                      refine gq_iload_n dz_S_best_92 rfl ?_
                      refine gq_iload_n dz_S_best_93 rfl ?_
                      refine gq_iload_n dz_S_best_94 rfl ?_
                      refine gq_cVP ((sp_wts m (by omega)).1 hT hw hq f2 t) zw_S_waysTryingFor zl_S_222 dz_S_best_95 rfl rfl rfl (by omega) rfl rfl (Nat.le_of_ble_eq_true rfl) (fun τ95 hq95 => ?_)
                      refine gw_lstore 9 dz_S_best_98 (Nat.le_of_ble_eq_true rfl) rfl ?_
                      dsimp only [List.set]
                      refine gq_lload dz_S_best_100 rfl ?_
                      refine gq_lload dz_S_best_102 rfl ?_
                      refine gq_lcmp dz_S_best_104 ?_
                      refine gq_if_le (tgt := 116) dz_S_best_105 rfl (fun h105 => ?_) (fun h105 => ?_)
                      · skip
                        have h105 : ¬ (zs_bs X.1 q t m f).1 < zs_wt q t f m X.1 := fun z => by have := lg_gt0.mpr z; rw [Int32.lt_iff_toInt_lt] at this; rw [Int32.le_iff_toInt_le] at h105; omega
                        refine gw_iinc 8 (c := 1) dz_S_best_116 rfl rfl (Nat.le_of_ble_eq_true rfl) rfl ?_
                        dsimp only [List.set]
                        refine gq_goto (tgt := 83) dz_S_best_119 rfl ?_
                        simp only [nI_1]
                        rw [show zs_bs X.1 q t m f = zs_bs X.1 q t m (f + 1) from (if_neg h105).symm]
                        exact zq_fewer _ (zq_sub_spec (by repeat (first | exact trivial | exact rfl | refine And.intro ?_ ?_))) (ih83 (f + 1) _ (by omega) (by omega) hq95.1 (hs.tr hq95.2))
                      · skip
                        have h105 : (zs_bs X.1 q t m f).1 < zs_wt q t f m X.1 := lg_gt0.mp (by rw [Int32.lt_iff_toInt_lt]; rw [Int32.le_iff_toInt_le] at h105; omega)
                        refine gq_lload dz_S_best_108 rfl ?_
                        refine gw_lstore 5 dz_S_best_110 (Nat.le_of_ble_eq_true rfl) rfl ?_
                        dsimp only [List.set]
                        refine gq_iload dz_S_best_112 rfl ?_
                        refine gw_istore 7 dz_S_best_114 (Nat.le_of_ble_eq_true rfl) rfl ?_
                        dsimp only [List.set]
                        refine gw_iinc 8 (c := 1) dz_S_best_116 rfl rfl (Nat.le_of_ble_eq_true rfl) rfl ?_
                        dsimp only [List.set]
                        refine gq_goto (tgt := 83) dz_S_best_119 rfl ?_
                        simp only [nI_1]
                        have hb : zs_bs X.1 q t m (f + 1) = (zs_wt q t f m X.1, nI f) := if_pos h105
                        rw [show some (zq_L (zs_wt q t f m X.1)) = some (zq_L (zs_bs X.1 q t m (f + 1)).1) from by rw [hb], show some (zq_I (nI f)) = some (zq_I (zs_bs X.1 q t m (f + 1)).2) from by rw [hb]]
                        exact zq_fewer _ (zq_sub_spec (by repeat (first | exact trivial | exact rfl | refine And.intro ?_ ?_))) (ih83 (f + 1) _ (by omega) (by omega) hq95.1 (hs.tr hq95.2))
                first | rw [show (0 : Int64) = (zs_bs X.1 q t m 0).1 from by show _ = (if _ then _ else _ : Int64); rw [if_neg h62]] | rw [show zs_pw 10 m = (zs_bs X.1 q t m 0).1 from by show _ = (if _ then _ else _ : Int64); rw [if_pos h62]]
                exact zq_fewer _ (zq_sub_spec (by repeat (first | exact trivial | exact rfl | refine And.intro ?_ ?_))) (L83 6 0 _ (by omega) (by omega) hq50.1 hq50.2)
              · skip
                refine gq_bipush (v := 10) dz_S_best_65 rfl ?_
                refine gq_iload_n dz_S_best_67 rfl ?_
                refine gq_cS (sp_S_power _ _) zw_S_power zl_S_215 dz_S_best_68 (by omega) rfl rfl (Nat.le_of_ble_eq_true rfl) ?_
                rw [nI_clamp (show m < 2 ^ 31 by omega), zq_10]
                refine gq_goto (tgt := 75) dz_S_best_71 rfl ?_
                refine gw_lstore 5 dz_S_best_75 (Nat.le_of_ble_eq_true rfl) rfl ?_
                dsimp only [List.set]
                refine gq_iconst (v := 5) dz_S_best_77 rfl ?_
                refine gw_istore 7 dz_S_best_78 (Nat.le_of_ble_eq_true rfl) rfl ?_
                dsimp only [List.set]
                refine gq_iconst (v := 0) dz_S_best_80 rfl ?_
                refine gw_istore 8 dz_S_best_81 (Nat.le_of_ble_eq_true rfl) rfl ?_
                dsimp only [List.set]
                have L83 : ∀ (kf : Nat) (f : Nat) (τ : zq_T) (hkf : 5 - f < kf) (hf : f ≤ 5) (hT : zc_rep τ 2 X.1) (hs : zd_same 2 σ τ), zq_G ν zm_S_best 13 (zq_rw (zq_L (zx_best1 X.1 q t m w)) (fun τ => zs_rep τ (X) ∧ zg_S σ τ)) 83 [some (zq_O 0 0), some (zq_I (nI q)), some (zq_I t), some (zq_I (nI m)), some (zq_I w), some (zq_L (zs_bs X.1 q t m f).1), none, some (zq_I (zs_bs X.1 q t m f).2), some (zq_I (nI f)), none, none] [] τ := by
                  intro kf
                  induction kf with
                  | zero => intro f τ hkf hf hT hs; exact absurd hkf (Nat.not_lt_zero _)
                  | succ kf ih83 =>
                    intro f τ hkf hf hT hs
                    refine gq_iload dz_S_best_83 rfl ?_
                    refine gq_iconst (v := 5) dz_S_best_85 rfl ?_
                    refine gq_icmp_ge (tgt := 122) dz_S_best_86 rfl (fun h86 => ?_) (fun h86 => ?_)
                    · skip
                      have hf5 : f = 5 := zq_leq h86 hf (by omega)
                      subst hf5
                      refine gq_iload dz_S_best_122 rfl ?_
                      refine gq_iconst (v := 2) dz_S_best_124 rfl ?_
                      refine gq_icmp_ne (tgt := 134) dz_S_best_125 rfl (fun h125 => ?_) (fun h125 => ?_)
                      · skip
                        refine gq_lload dz_S_best_134 rfl ?_
                        refine gq_bipush (v := 10) dz_S_best_136 rfl ?_
                        refine gq_iload_n dz_S_best_138 rfl ?_
                        refine gq_cS (sp_S_power _ _) zw_S_power zl_S_215 dz_S_best_139 (by omega) rfl rfl (Nat.le_of_ble_eq_true rfl) ?_
                        rw [nI_clamp (show m < 2 ^ 31 by omega), zq_10]
                        refine gq_iload dz_S_best_142 rfl ?_
                        refine gq_cS (sp_S_lowestTerms _ _ _) zw_S_lowestTerms zl_S_218 dz_S_best_144 (by omega) rfl rfl (Nat.le_of_ble_eq_true rfl) ?_
                        refine gw_lretP dz_S_best_147 rfl ?_ ?_
                        · rw [zx_best1, if_neg h125]
                        · exact ⟨hS.trial hs, hs.S⟩
                      · skip
                        refine gq_iload dz_S_best_128 rfl ?_
                        refine gq_i2l dz_S_best_130 ?_
                        refine gq_goto (tgt := 147) dz_S_best_131 rfl ?_
                        refine gw_lretP dz_S_best_147 rfl ?_ ?_
                        · rw [zx_best1, if_pos h125]
                        · exact ⟨hS.trial hs, hs.S⟩
                    · skip
                      have f2 : f < 5 := by rcases Nat.lt_or_ge f (5) with z | z; exact z; exact absurd (nI_le z (by omega)) h86
                      refine gq_aload_n dz_S_best_89 rfl ?_
                      refine gq_iload dz_S_best_90 rfl ?_
                      refine gq_iload_n dz_S_best_92 rfl ?_
                      refine gq_iload_n dz_S_best_93 rfl ?_
                      refine gq_iload_n dz_S_best_94 rfl ?_
                      refine gq_cVP ((sp_wts m (by omega)).1 hT hw hq f2 t) zw_S_waysTryingFor zl_S_222 dz_S_best_95 rfl rfl rfl (by omega) rfl rfl (Nat.le_of_ble_eq_true rfl) (fun τ95 hq95 => ?_)
                      refine gw_lstore 9 dz_S_best_98 (Nat.le_of_ble_eq_true rfl) rfl ?_
                      dsimp only [List.set]
                      refine gq_lload dz_S_best_100 rfl ?_
                      refine gq_lload dz_S_best_102 rfl ?_
                      refine gq_lcmp dz_S_best_104 ?_
                      refine gq_if_le (tgt := 116) dz_S_best_105 rfl (fun h105 => ?_) (fun h105 => ?_)
                      · skip
                        have h105 : ¬ (zs_bs X.1 q t m f).1 < zs_wt q t f m X.1 := fun z => by have := lg_gt0.mpr z; rw [Int32.lt_iff_toInt_lt] at this; rw [Int32.le_iff_toInt_le] at h105; omega
                        refine gw_iinc 8 (c := 1) dz_S_best_116 rfl rfl (Nat.le_of_ble_eq_true rfl) rfl ?_
                        dsimp only [List.set]
                        refine gq_goto (tgt := 83) dz_S_best_119 rfl ?_
                        simp only [nI_1]
                        rw [show zs_bs X.1 q t m f = zs_bs X.1 q t m (f + 1) from (if_neg h105).symm]
                        exact zq_fewer _ (zq_sub_spec (by repeat (first | exact trivial | exact rfl | refine And.intro ?_ ?_))) (ih83 (f + 1) _ (by omega) (by omega) hq95.1 (hs.tr hq95.2))
                      · skip
                        have h105 : (zs_bs X.1 q t m f).1 < zs_wt q t f m X.1 := lg_gt0.mp (by rw [Int32.lt_iff_toInt_lt]; rw [Int32.le_iff_toInt_le] at h105; omega)
                        refine gq_lload dz_S_best_108 rfl ?_
                        refine gw_lstore 5 dz_S_best_110 (Nat.le_of_ble_eq_true rfl) rfl ?_
                        dsimp only [List.set]
                        refine gq_iload dz_S_best_112 rfl ?_
                        refine gw_istore 7 dz_S_best_114 (Nat.le_of_ble_eq_true rfl) rfl ?_
                        dsimp only [List.set]
                        refine gw_iinc 8 (c := 1) dz_S_best_116 rfl rfl (Nat.le_of_ble_eq_true rfl) rfl ?_
                        dsimp only [List.set]
                        refine gq_goto (tgt := 83) dz_S_best_119 rfl ?_
                        simp only [nI_1]
                        have hb : zs_bs X.1 q t m (f + 1) = (zs_wt q t f m X.1, nI f) := if_pos h105
                        rw [show some (zq_L (zs_wt q t f m X.1)) = some (zq_L (zs_bs X.1 q t m (f + 1)).1) from by rw [hb], show some (zq_I (nI f)) = some (zq_I (zs_bs X.1 q t m (f + 1)).2) from by rw [hb]]
                        exact zq_fewer _ (zq_sub_spec (by repeat (first | exact trivial | exact rfl | refine And.intro ?_ ?_))) (ih83 (f + 1) _ (by omega) (by omega) hq95.1 (hs.tr hq95.2))
                first | rw [show (0 : Int64) = (zs_bs X.1 q t m 0).1 from by show _ = (if _ then _ else _ : Int64); rw [if_neg h62]] | rw [show zs_pw 10 m = (zs_bs X.1 q t m 0).1 from by show _ = (if _ then _ else _ : Int64); rw [if_pos h62]]
                exact zq_fewer _ (zq_sub_spec (by repeat (first | exact trivial | exact rfl | refine And.intro ?_ ?_))) (L83 6 0 _ (by omega) (by omega) hq50.1 hq50.2)
            · skip
              refine gq_ldc2 zl_S_209 dz_S_best_38 ?_
              refine gw_lretP dz_S_best_41 rfl ?_ ?_
              · rw [zx_best, show zx_bok X.1 p t n w = false from by rw [zx_bok, zx_3gt h35]; simp]; rfl
              · exact ⟨hS, zg_S.rf⟩
