def zn_kb (X : za_X) (q : Nat) : Bool := if q = 0 then (zx_I X).1 else (zx_J X).1
def zn_kA (X : za_X) (q : Nat) : za_D := if q = 0 then (zx_I X).2 else (zx_J X).2
theorem zM_rep.kb {σ : zq_T} {X : za_X} (h : zM_rep σ X) {q : Nat} (hq : q < 2) : σ.1 44 0 q = zb_v (zn_kb X q) := by
  have hq2 : q = 0 ∨ q = 1 := by omega
  rcases hq2 with rfl | rfl
  · exact h.2.2.1.2.2.2.1
  · exact h.2.2.1.2.2.2.2
theorem zM_rep.kp {σ τ : zq_T} {X : za_X} (h : zM_rep σ X) (hW : zx_wf X) {q : Nat} (hq : q < 2) (hs : zp_same (28 * (q + 1)) σ τ) (hc : ∀ k, k < 28 → τ.1 31 0 (28 * (q + 1) + k) = σ.1 31 0 (0 + k)) : zM_rep (zu τ 44 0 q 1) (zx_keepX X (nI q)) := by
  have hm := h.1.1.2.1
  have g1 : ∀ t k, (t = 30 ∧ (k = 3 ∨ k = 4)) ∨ t = 32 ∨ t = 33 → (zu τ 44 0 q 1).1 t 0 k = σ.1 t 0 k := fun t k z => (zu_N (by omega)).trans (hs.2 _ _ _ (by omega))
  have hp : zn_pg (zu τ 44 0 q 1) (28 * (q + 1)) X.1 := (h.1.2.copy hm hc).keep hm fun k _ _ => zu_N (by omega)
  have e31 : ∀ k, ¬ (28 * (q + 1) ≤ k ∧ k < 28 * (q + 1) + 28) → (zu τ 44 0 q 1).1 31 0 k = σ.1 31 0 k := fun k z => (zu_N (by omega)).trans (hs.2 _ _ _ (by omega))
  have eo : ∀ t k, ¬ t = 31 → ¬ t = 44 → (zu τ 44 0 q 1).1 t 0 k = σ.1 t 0 k := fun t k z1 z2 => (zu_N (by omega)).trans (hs.2 _ _ _ (by omega))
  have hn : zn_rep (zu τ 44 0 q 1) X.1 := ⟨h.1.1.keep g1, h.1.2.keep hm fun k _ _ => e31 k (by omega)⟩
  have hH : zM_h (zu τ 44 0 q 1) X.2.1 := h.2.2.2.1.keep fun t k _ _ => eo t k (by omega) (by omega)
  have hK : zM_k (zu τ 44 0 q 1) := h.2.2.2.2.keep fun t k _ _ => eo t k (by omega) (by omega)
  obtain ⟨o1, o2, o3, o4⟩ := h.2.2.1
  have p1 : (zu τ 44 0 q 1).1 30 0 13 = nI (zx_T X).1 ∧ ∀ i, i < (zx_T X).1 → (zu τ 44 0 q 1).1 37 0 i = (zx_T X).2 i := ⟨(eo _ _ (by omega) (by omega)).trans o1.1, fun i hi => (eo _ _ (by omega) (by omega)).trans (o1.2 i hi)⟩
  have p2 : (zu τ 44 0 q 1).1 30 0 14 = (zx_f X).1 ∧ (zu τ 44 0 q 1).1 30 0 33 = (zx_f X).2 := ⟨(eo _ _ (by omega) (by omega)).trans o2.1, (eo _ _ (by omega) (by omega)).trans o2.2⟩
  have p3 : (zu τ 44 0 q 1).1 30 0 28 = nI (zx_s X).1 ∧ ∀ i, i < (zx_s X).1 → (zu τ 44 0 q 1).1 43 0 (2 * i) = (zx_s X).2.1 i ∧ (zu τ 44 0 q 1).1 43 0 (2 * i + 1) = (zx_s X).2.2 i := ⟨(eo _ _ (by omega) (by omega)).trans o3.1, fun i hi => ⟨(eo _ _ (by omega) (by omega)).trans (o3.2 i hi).1, (eo _ _ (by omega) (by omega)).trans (o3.2 i hi).2⟩⟩
  have hq2 : q = 0 ∨ q = 1 := by omega
  rcases hq2 with rfl | rfl
  · exact ⟨hn, ⟨fun _ => hp, fun z => (h.2.1.2 z).keep ((zx_m5 h.1 hW).2 z) fun k _ _ => e31 k (by omega)⟩, ⟨p1, p2, p3, zu_E, (zu_N (by omega)).trans ((hs.2 _ _ _ (by omega)).trans o4.2)⟩, hH, hK⟩
  · exact ⟨hn, ⟨fun z => (h.2.1.1 z).keep ((zx_m5 h.1 hW).1 z) fun k _ _ => e31 k (by omega), fun _ => hp⟩, ⟨p1, p2, p3, (zu_N (by omega)).trans ((hs.2 _ _ _ (by omega)).trans o4.1), zu_E⟩, hH, hK⟩

set_option maxHeartbeats 4000000 in
theorem sp_M_keep {σ : zq_T} {X : za_X} (hS : zM_rep σ X) (hW : zx_wf X) (k : Int32) : zq_Sp zm_M_keep 1 [zq_O 30 0, zq_I k] σ (zq_rw (zq_I (zx_keepR X k)) (fun τ => zM_rep τ (zx_keepX X k) ∧ zg_M σ τ)) := by
  refine zq_sp [some (zq_O 30 0), some (zq_I k), none] (by decide +kernel) rfl (Nat.le_of_ble_eq_true rfl) (fun ν => ?_)
  refine gq_iload_n dz_M_keep_0 rfl ?_
  refine gq_i2l dz_M_keep_1 ?_
  refine gq_lconst (v := 0) dz_M_keep_2 rfl ?_
  refine gq_lconst (v := 1) dz_M_keep_3 rfl ?_
  refine gq_cS (sp_M_in _ _ _) zw_M_in zl_M_65 dz_M_keep_4 (by decide) rfl rfl (Nat.le_of_ble_eq_true rfl) ?_
  refine gw_ifb_ne (tgt := 12) dz_M_keep_7 rfl (fun h7 => ?_) (fun h7 => ?_)
  · skip
    rw [zn_inc (n := 2) rfl (by omega)] at h7
    obtain ⟨q, hq, rfl⟩ := (zb_in_iff (by omega)).mp h7
    refine gq_aload_n dz_M_keep_12 rfl ?_
    refine gq_iconst (v := 0) dz_M_keep_13 rfl ?_
    refine gq_bipush (v := 28) dz_M_keep_14 rfl ?_
    refine gq_iload_n dz_M_keep_16 rfl ?_
    refine gq_iconst (v := 1) dz_M_keep_17 rfl ?_
    refine gq_iadd dz_M_keep_18 ?_
    rw [nI_1]
    refine gq_imul dz_M_keep_19 ?_
    rw [show (28 : Int32) = nI 28 from rfl, pk_mul]
    refine gq_cVX (sp_M_copies (a := 0) (b := 28 * (q + 1)) (by omega) (by omega) (by omega)) zw_M_copies zl_M_246 dz_M_keep_20 rfl rfl rfl (by decide) rfl rfl (Nat.le_of_ble_eq_true rfl) (fun τ20 hq20 => ?_)
    refine gq_aload_n dz_M_keep_23 rfl ?_
    refine gq_getR 44 zf_M_50 rfl rfl dz_M_keep_24 ?_
    refine gq_iload_n dz_M_keep_27 rfl ?_
    refine gw_zald (q) (rfl) rfl (rfl) (Nat.le_of_ble_eq_true rfl) (by omega) dz_M_keep_28 ?_
    rw [hq20.1.2 44 0 q (by omega), hS.kb hq]
    refine gw_ifb_eq (tgt := 36) dz_M_keep_29 rfl (fun h29 => ?_) (fun h29 => ?_)
    · skip
      refine gq_iconst (v := 0) dz_M_keep_36 rfl ?_
      refine gw_istore_n 2 dz_M_keep_37 rfl (Nat.le_of_ble_eq_true rfl) rfl ?_
      dsimp only [List.set]
      refine gq_aload_n dz_M_keep_38 rfl ?_
      refine gq_getR 44 zf_M_50 rfl rfl dz_M_keep_39 ?_
      refine gq_iload_n dz_M_keep_42 rfl ?_
      refine gq_iconst (v := 1) dz_M_keep_43 rfl ?_
      refine gw_zast (q) (rfl) rfl (rfl) (Nat.le_of_ble_eq_true rfl) (by omega) dz_M_keep_44 ?_
      refine gq_iload_n dz_M_keep_45 rfl ?_
      refine gw_iretP .int dz_M_keep_46 rfl (by first | rfl | exact zb_nar _ | exact pk_nc _) ?_ ?_
      · rw [show zx_keepR X (nI q) = zb_v (zn_kb X q) from by have hq2 : q = 0 ∨ q = 1 := (by omega); rcases hq2 with rfl | rfl <;> rfl, h29]; rfl
      · exact ⟨hS.kp hW hq hq20.1 hq20.2, (hq20.1.M).up (by omega)⟩
    · skip
      refine gq_iconst (v := 1) dz_M_keep_32 rfl ?_
      refine gq_goto (tgt := 37) dz_M_keep_33 rfl ?_
      refine gw_istore_n 2 dz_M_keep_37 rfl (Nat.le_of_ble_eq_true rfl) rfl ?_
      dsimp only [List.set]
      refine gq_aload_n dz_M_keep_38 rfl ?_
      refine gq_getR 44 zf_M_50 rfl rfl dz_M_keep_39 ?_
      refine gq_iload_n dz_M_keep_42 rfl ?_
      refine gq_iconst (v := 1) dz_M_keep_43 rfl ?_
      refine gw_zast (q) (rfl) rfl (rfl) (Nat.le_of_ble_eq_true rfl) (by omega) dz_M_keep_44 ?_
      refine gq_iload_n dz_M_keep_45 rfl ?_
      refine gw_iretP .int dz_M_keep_46 rfl (by first | rfl | exact zb_nar _ | exact pk_nc _) ?_ ?_
      · rw [show zx_keepR X (nI q) = zb_v (zn_kb X q) from by have hq2 : q = 0 ∨ q = 1 := (by omega); rcases hq2 with rfl | rfl <;> rfl, h29]; rfl
      · exact ⟨hS.kp hW hq hq20.1 hq20.2, (hq20.1.M).up (by omega)⟩
  · skip
    rw [zn_inc (n := 2) rfl (by omega)] at h7
    refine gq_iconst (v := -1) dz_M_keep_10 rfl ?_
    refine gw_iretP .int dz_M_keep_11 rfl (by first | rfl | exact zb_nar _ | exact pk_nc _) ?_ ?_
    · rw [zx_keepR, if_neg (show ¬ k = 0 from zn_out (i := 0) h7 (by omega) (by omega)), if_neg (show ¬ k = 1 from zn_out (i := 1) h7 (by omega) (by omega))]
    · rw [zx_keepX, if_neg (show ¬ k = 0 from zn_out (i := 0) h7 (by omega) (by omega)), if_neg (show ¬ k = 1 from zn_out (i := 1) h7 (by omega) (by omega))]; exact ⟨hS, zg_M.rf⟩
theorem zM_rep.bk {σ τ : zq_T} {X : za_X} (h : zM_rep σ X) (hW : zx_wf X) {q : Nat} (hq : q < 2) (hk : zn_kb X q = true) (hs : zp_same 0 σ τ) (hc : ∀ k, k < 28 → τ.1 31 0 (0 + k) = σ.1 31 0 (28 * (q + 1) + k)) : zM_rep τ (zx_backX X (nI q)) ∧ zx_backR X (nI q) = za_g (zn_kA X q) ∧ τ.1 31 0 12 = za_g (zn_kA X q) := by
  have hq2 : q = 0 ∨ q = 1 := by omega
  have hx : zx_backX X (nI q) = (zn_kA X q, X.2) ∧ zx_backR X (nI q) = za_g (zn_kA X q) := by
    rcases hq2 with rfl | rfl
    · have hk : (zx_I X).1 = true := hk
      exact ⟨(if_pos rfl).trans (if_pos hk), (if_pos rfl).trans (if_pos hk)⟩
    · have hk : (zx_J X).1 = true := hk
      exact ⟨(if_neg (by decide)).trans ((if_pos rfl).trans (if_pos hk)), (if_neg (by decide)).trans ((if_pos rfl).trans (if_pos hk))⟩
  have hg : zn_pg σ (28 * (q + 1)) (zn_kA X q) := by
    rcases hq2 with rfl | rfl
    · exact h.2.1.1 hk
    · exact h.2.1.2 hk
  have hst : zx_st X.1 (zn_kA X q) := by
    rcases hq2 with rfl | rfl
    · exact (hW.2.2.2.2.1 hk).2
    · exact (hW.2.2.2.2.2 hk).2
  obtain ⟨s1, s2, s3, s4, s5, s6⟩ := hst
  have hm : za_m (zn_kA X q) ≤ 5 := by rw [← s2]; exact h.1.1.2.1
  have hp : zn_pg τ 0 (zn_kA X q) := hg.copy hm hc
  have hst2 : zn_st τ (zn_kA X q) := by
    have h1 : zn_st τ X.1 := h.1.1.keep fun t k z => hs.2 _ _ _ (by omega)
    obtain ⟨a, b, c, d, e, f⟩ := h1
    refine ⟨by rw [← s1]; exact a, hm, by rw [← s1]; exact c, by rw [← s2]; exact d, fun i hi => ?_, fun k hk2 => ?_⟩
    · rw [← s3]; exact e i (by rw [s1]; exact hi)
    · rw [← s4, ← s5, ← s6]; exact f k (by rw [s2]; exact hk2)
  refine ⟨by rw [hx.1]; exact h.duchy hW hs ⟨hst2, hp⟩, hx.2, ?_⟩
  have := hp.2.1
  rwa [Nat.zero_add] at this
set_option maxHeartbeats 4000000 in
theorem sp_M_back {σ : zq_T} {X : za_X} (hS : zM_rep σ X) (hW : zx_wf X) (k : Int32) : zq_Sp zm_M_back 1 [zq_O 30 0, zq_I k] σ (zq_rw (zq_I (zx_backR X k)) (fun τ => zM_rep τ (zx_backX X k) ∧ zg_M σ τ)) := by
  refine zq_sp [some (zq_O 30 0), some (zq_I k)] (by decide +kernel) rfl (Nat.le_of_ble_eq_true rfl) (fun ν => ?_)
  refine gq_iload_n dz_M_back_0 rfl ?_
  refine gq_i2l dz_M_back_1 ?_
  refine gq_lconst (v := 0) dz_M_back_2 rfl ?_
  refine gq_lconst (v := 1) dz_M_back_3 rfl ?_
  refine gq_cS (sp_M_in _ _ _) zw_M_in zl_M_65 dz_M_back_4 (by decide) rfl rfl (Nat.le_of_ble_eq_true rfl) ?_
  refine gw_ifb_ne (tgt := 12) dz_M_back_7 rfl (fun h7 => ?_) (fun h7 => ?_)
  · skip
    rw [zn_inc (n := 2) rfl (by omega)] at h7
    obtain ⟨q, hq, rfl⟩ := (zb_in_iff (by omega)).mp h7
    refine gq_aload_n dz_M_back_12 rfl ?_
    refine gq_getR 44 zf_M_50 rfl rfl dz_M_back_13 ?_
    refine gq_iload_n dz_M_back_16 rfl ?_
    refine gw_zald (q) (rfl) rfl (rfl) (Nat.le_of_ble_eq_true rfl) (by omega) dz_M_back_17 ?_
    rw [hS.kb hq]
    refine gw_ifb_ne (tgt := 24) dz_M_back_18 rfl (fun h18 => ?_) (fun h18 => ?_)
    · skip
      refine gq_aload_n dz_M_back_24 rfl ?_
      refine gq_bipush (v := 28) dz_M_back_25 rfl ?_
      refine gq_iload_n dz_M_back_27 rfl ?_
      refine gq_iconst (v := 1) dz_M_back_28 rfl ?_
      refine gq_iadd dz_M_back_29 ?_
      rw [nI_1]
      refine gq_imul dz_M_back_30 ?_
      rw [show (28 : Int32) = nI 28 from rfl, pk_mul]
      refine gq_iconst (v := 0) dz_M_back_31 rfl ?_
      refine gq_cVX (sp_M_copies (a := 28 * (q + 1)) (b := 0) (by omega) (by omega) (by omega)) zw_M_copies zl_M_246 dz_M_back_32 rfl rfl rfl (by decide) rfl rfl (Nat.le_of_ble_eq_true rfl) (fun τ32 hq32 => ?_)
      obtain ⟨r1, r2, r3⟩ := hS.bk hW hq h18 hq32.1 hq32.2
      refine gq_aload_n dz_M_back_35 rfl ?_
      refine gq_getR 31 zf_M_7 rfl rfl dz_M_back_36 ?_
      refine gq_bipush (v := 12) dz_M_back_39 rfl ?_
      refine gw_iald (12) (rfl) rfl (rfl) (Nat.le_of_ble_eq_true rfl) (by omega) dz_M_back_41 ?_
      rw [r3]
      refine gw_iretP .int dz_M_back_42 rfl (by first | rfl | exact zb_nar _ | exact pk_nc _) ?_ ?_
      · exact r2.symm
      · exact ⟨r1, hq32.1.M⟩
    · skip
      refine gq_bipush (v := -2) dz_M_back_21 rfl ?_
      refine gw_iretP .int dz_M_back_23 rfl (by first | rfl | exact zb_nar _ | exact pk_nc _) ?_ ?_
      · have hq2 : q = 0 ∨ q = 1 := (by omega); rcases hq2 with rfl | rfl; exact ((if_pos rfl).trans (if_neg (fun z => Bool.noConfusion (h18.symm.trans z)))).symm; exact ((if_neg (by decide)).trans ((if_pos rfl).trans (if_neg (fun z => Bool.noConfusion (h18.symm.trans z))))).symm
      · have hx : zx_backX X (nI q) = X := (by have hq2 : q = 0 ∨ q = 1 := (by omega); rcases hq2 with rfl | rfl; exact (if_pos rfl).trans (if_neg (fun z => Bool.noConfusion (h18.symm.trans z))); exact (if_neg (by decide)).trans ((if_pos rfl).trans (if_neg (fun z => Bool.noConfusion (h18.symm.trans z))))); rw [hx]; exact ⟨hS, zg_M.rf⟩
  · skip
    rw [zn_inc (n := 2) rfl (by omega)] at h7
    refine gq_iconst (v := -1) dz_M_back_10 rfl ?_
    refine gw_iretP .int dz_M_back_11 rfl (by first | rfl | exact zb_nar _ | exact pk_nc _) ?_ ?_
    · rw [zx_backR, if_neg (show ¬ k = 0 from zn_out (i := 0) h7 (by omega) (by omega)), if_neg (show ¬ k = 1 from zn_out (i := 1) h7 (by omega) (by omega))]
    · rw [zx_backX, if_neg (show ¬ k = 0 from zn_out (i := 0) h7 (by omega) (by omega)), if_neg (show ¬ k = 1 from zn_out (i := 1) h7 (by omega) (by omega))]; exact ⟨hS, zg_M.rf⟩
