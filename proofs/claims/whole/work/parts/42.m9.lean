theorem zM_rep.oth {σ τ : zq_T} {X : za_X} (h : zM_rep σ X) (hW : zx_wf X) (hs : ∀ t k, (t = 30 ∧ (k = 3 ∨ k = 4)) ∨ (31 ≤ t ∧ t ≤ 33) ∨ (38 ≤ t ∧ t ≤ 40) ∨ (45 ≤ t ∧ t ≤ 47) → τ.1 t 0 k = σ.1 t 0 k) (T : Nat × (Nat → Int32)) (f : Int32 × Int32) (s : Nat × (Nat → Int32) × (Nat → Int32)) (ho : zM_o τ (X.1, X.2.1, T, f, s, X.2.2.2.2.2)) : zM_rep τ (X.1, X.2.1, T, f, s, X.2.2.2.2.2) :=
  ⟨⟨h.1.1.keep fun t k q => hs _ _ (by omega), h.1.2.keep h.1.1.2.1 fun k _ _ => hs _ _ (by omega)⟩, ⟨fun q => (h.2.1.1 q).keep ((zx_m5 h.1 hW).1 q) fun k _ _ => hs _ _ (by omega), fun q => (h.2.1.2 q).keep ((zx_m5 h.1 hW).2 q) fun k _ _ => hs _ _ (by omega)⟩, ho, h.2.2.2.1.keep fun t k _ _ => hs _ _ (by omega), h.2.2.2.2.keep fun t k _ _ => hs _ _ (by omega)⟩
theorem zg_M.up {σ τ : zq_T} (h : zg_M σ τ) {t k : Nat} {j : Fin 5} {v : Int32} (h1 : 30 ≤ t) : zg_M σ (zq_up τ.1 t j k v, τ.2) :=
  ⟨h.1, fun t' j' k' q => by
    show zq_up τ.1 t j k v t' j' k' = σ.1 t' j' k'
    rw [← h.2 t' j' k' q]
    exact if_neg fun z => by omega⟩
theorem zn_2k (k : Nat) : (2 : Int32) * nI k = nI (2 * k) := by rw [show (2 : Int32) = nI 2 from rfl, pk_mul]
theorem zn_2k1 (k : Nat) : (2 : Int32) * nI k + 1 = nI (2 * k + 1) := by rw [zn_2k, nI_1]
theorem zn_inN {x : Int32} {n : Nat} (hn : n < 1000) : zn_in x.toInt64 0 (nI n).toInt64 = zx_3 x (nI n) := zn_in3 rfl (by rw [Int32.toInt_toInt64, nI_toInt (by omega)]) hn
theorem zx_3of {x : Int32} {n : Nat} (h : zx_3 x (nI n) = true) (hn : n < 1000) : ∃ j, j ≤ n ∧ x = nI j := by
  have h1 := of_decide_eq_true h
  obtain ⟨j, hj, rfl⟩ := nI_of (x := x) (by have := h1.1; rw [Int32.le_iff_toInt_le] at this; rw [Int32.lt_iff_toInt_lt]; omega)
  exact ⟨j, (nI_leI hj (by omega)).mp h1.2, rfl⟩

set_option maxHeartbeats 4000000 in
theorem sp_M_fault {σ : zq_T} {X : za_X} (hS : zM_rep σ X) : zq_Sp zm_M_fault 0 [zq_O 30 0] σ (zq_rv (zq_I (zx_f X).1) σ) := by
  refine zq_sp [some (zq_O 30 0)] (by decide +kernel) rfl (Nat.le_of_ble_eq_true rfl) (fun ν => ?_)
  refine gq_aload_n dz_M_fault_0 rfl ?_
  refine gq_getI zf_M_155 rfl rfl dz_M_fault_1 ?_
  refine gw_iret .int dz_M_fault_4 rfl (by first | rfl | exact zb_nar _ | exact pk_nc _) ?_ ?_
  · exact hS.2.2.1.2.1.1
  · rfl
set_option maxHeartbeats 4000000 in
theorem sp_M_torn {σ : zq_T} {X : za_X} (hS : zM_rep σ X) : zq_Sp zm_M_torn 0 [zq_O 30 0] σ (zq_rv (zq_I (zx_f X).2) σ) := by
  refine zq_sp [some (zq_O 30 0)] (by decide +kernel) rfl (Nat.le_of_ble_eq_true rfl) (fun ν => ?_)
  refine gq_aload_n dz_M_torn_0 rfl ?_
  refine gq_getI zf_M_294 rfl rfl dz_M_torn_1 ?_
  refine gw_iret .int dz_M_torn_4 rfl (by first | rfl | exact zb_nar _ | exact pk_nc _) ?_ ?_
  · exact hS.2.2.1.2.1.2
  · rfl
set_option maxHeartbeats 4000000 in
theorem sp_M_forget {σ : zq_T} {X : za_X} (hS : zM_rep σ X) (hW : zx_wf X) (n : Int32) : zq_Sp zm_M_forget 1 [zq_O 30 0, zq_I n] σ (zq_rw (zq_I (zx_forR X n)) (fun τ => zM_rep τ (zx_forX X n) ∧ zg_M σ τ)) := by
  have hs6 : (zx_s X).1 ≤ 6 := hW.2.2.2.1.1
  refine zq_sp [some (zq_O 30 0), some (zq_I n), none] (by decide +kernel) rfl (Nat.le_of_ble_eq_true rfl) (fun ν => ?_)
  refine gq_iload_n dz_M_forget_0 rfl ?_
  refine gq_i2l dz_M_forget_1 ?_
  refine gq_lconst (v := 0) dz_M_forget_2 rfl ?_
  refine gq_aload_n dz_M_forget_3 rfl ?_
  refine gq_getI zf_M_164 rfl rfl dz_M_forget_4 ?_
  rw [hS.2.2.1.2.2.1.1]
  refine gq_i2l dz_M_forget_7 ?_
  refine gq_cS (sp_M_in _ _ _) zw_M_in zl_M_65 dz_M_forget_8 (by decide) rfl rfl (Nat.le_of_ble_eq_true rfl) ?_
  refine gw_ifb_ne (tgt := 16) dz_M_forget_11 rfl (fun h11 => ?_) (fun h11 => ?_)
  · skip
    rw [zn_inN (by omega)] at h11
    obtain ⟨j, hj, rfl⟩ := zx_3of h11 (by omega)
    refine gq_aload_n dz_M_forget_16 rfl ?_
    refine gq_getI zf_M_164 rfl rfl dz_M_forget_17 ?_
    rw [hS.2.2.1.2.2.1.1]
    refine gw_istore_n 2 dz_M_forget_20 rfl (Nat.le_of_ble_eq_true rfl) rfl ?_
    dsimp only [List.set]
    refine gq_aload_n dz_M_forget_21 rfl ?_
    refine gq_iload_n dz_M_forget_22 rfl ?_
    refine gq_putI zv_M_164 rfl rfl dz_M_forget_23 ?_
    refine gq_iload_n dz_M_forget_26 rfl ?_
    refine gw_iretP .int dz_M_forget_27 rfl (by first | rfl | exact zb_nar _ | exact pk_nc _) ?_ ?_
    · rw [zx_forR, h11]; rfl
    · rw [zx_forX, h11, if_pos rfl, nI_clamp (by omega)]; exact ⟨hS.oth hW (τ := zu σ 30 0 28 (nI j)) (fun t k z => by rw [zu_N (by omega)]) (zx_T X) (zx_f X) (j, (zx_s X).2) ⟨⟨(zu_N (by omega)).trans (hS.2.2.1.1.1), fun i hi => (zu_N (by omega)).trans (hS.2.2.1.1.2 i hi)⟩, ⟨(zu_N (by omega)).trans (hS.2.2.1.2.1.1), (zu_N (by omega)).trans (hS.2.2.1.2.1.2)⟩, ⟨zu_E, fun i hi => ⟨(zu_N (by omega)).trans ((hS.2.2.1.2.2.1.2 i (by have hi2 : i < j := hi; omega)).1), (zu_N (by omega)).trans ((hS.2.2.1.2.2.1.2 i (by have hi2 : i < j := hi; omega)).2)⟩⟩, (zu_N (by omega)).trans (hS.2.2.1.2.2.2.1), (zu_N (by omega)).trans (hS.2.2.1.2.2.2.2)⟩, zg_M.rf.up (by omega)⟩
  · skip
    rw [zn_inN (by omega)] at h11
    refine gq_iconst (v := -1) dz_M_forget_14 rfl ?_
    refine gw_iretP .int dz_M_forget_15 rfl (by first | rfl | exact zb_nar _ | exact pk_nc _) ?_ ?_
    · rw [zx_forR, h11]; rfl
    · rw [zx_forX, h11]; exact ⟨hS, zg_M.rf⟩
set_option maxHeartbeats 4000000 in
theorem sp_M_end {σ : zq_T} {X : za_X} (hS : zM_rep σ X) (hW : zx_wf X) (n : Int32) : zq_Sp zm_M_end 1 [zq_O 30 0, zq_I n] σ (zq_rw (zq_I (zx_endR X n)) (fun τ => zM_rep τ (zx_endX X n) ∧ zg_M σ τ)) := by
  have ht6 : (zx_T X).1 ≤ 160 := hW.2.2.1.1
  refine zq_sp [some (zq_O 30 0), some (zq_I n), none] (by decide +kernel) rfl (Nat.le_of_ble_eq_true rfl) (fun ν => ?_)
  refine gq_iload_n dz_M_end_0 rfl ?_
  refine gq_i2l dz_M_end_1 ?_
  refine gq_lconst (v := 0) dz_M_end_2 rfl ?_
  refine gq_aload_n dz_M_end_3 rfl ?_
  refine gq_getI zf_M_69 rfl rfl dz_M_end_4 ?_
  rw [hS.2.2.1.1.1]
  refine gq_i2l dz_M_end_7 ?_
  refine gq_cS (sp_M_in _ _ _) zw_M_in zl_M_65 dz_M_end_8 (by decide) rfl rfl (Nat.le_of_ble_eq_true rfl) ?_
  refine gw_ifb_ne (tgt := 16) dz_M_end_11 rfl (fun h11 => ?_) (fun h11 => ?_)
  · skip
    rw [zn_inN (by omega)] at h11
    obtain ⟨j, hj, rfl⟩ := zx_3of h11 (by omega)
    refine gq_aload_n dz_M_end_16 rfl ?_
    refine gq_getI zf_M_69 rfl rfl dz_M_end_17 ?_
    rw [hS.2.2.1.1.1]
    refine gw_istore_n 2 dz_M_end_20 rfl (Nat.le_of_ble_eq_true rfl) rfl ?_
    dsimp only [List.set]
    refine gq_aload_n dz_M_end_21 rfl ?_
    refine gq_iload_n dz_M_end_22 rfl ?_
    refine gq_putI zv_M_69 rfl rfl dz_M_end_23 ?_
    refine gq_iload_n dz_M_end_26 rfl ?_
    refine gw_iretP .int dz_M_end_27 rfl (by first | rfl | exact zb_nar _ | exact pk_nc _) ?_ ?_
    · rw [zx_endR, h11]; rfl
    · rw [zx_endX, h11, if_pos rfl, nI_clamp (by omega)]; exact ⟨hS.oth hW (τ := zu σ 30 0 13 (nI j)) (fun t k z => by rw [zu_N (by omega)]) (j, (zx_T X).2) (zx_f X) (zx_s X) ⟨⟨zu_E, fun i hi => (zu_N (by omega)).trans (hS.2.2.1.1.2 i (by have hi2 : i < j := hi; omega))⟩, ⟨(zu_N (by omega)).trans (hS.2.2.1.2.1.1), (zu_N (by omega)).trans (hS.2.2.1.2.1.2)⟩, ⟨(zu_N (by omega)).trans (hS.2.2.1.2.2.1.1), fun i hi => ⟨(zu_N (by omega)).trans ((hS.2.2.1.2.2.1.2 i hi).1), (zu_N (by omega)).trans ((hS.2.2.1.2.2.1.2 i hi).2)⟩⟩, (zu_N (by omega)).trans (hS.2.2.1.2.2.2.1), (zu_N (by omega)).trans (hS.2.2.1.2.2.2.2)⟩, zg_M.rf.up (by omega)⟩
  · skip
    rw [zn_inN (by omega)] at h11
    refine gq_iconst (v := -1) dz_M_end_14 rfl ?_
    refine gw_iretP .int dz_M_end_15 rfl (by first | rfl | exact zb_nar _ | exact pk_nc _) ?_ ?_
    · rw [zx_endR, h11]; rfl
    · rw [zx_endX, h11]; exact ⟨hS, zg_M.rf⟩
