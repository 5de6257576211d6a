theorem zd_same.same2 {d : Fin 5} {σ τ : zq_T} (h : zd_same d σ τ) : τ.2.2 = σ.2.2 := by rw [h.1]
theorem zs_rep.gen {σ υ : zq_T} {X : za_X} (h : zs_rep σ X) (A' : za_D) (I J : Bool × za_D) (e2 : υ.2.2 = σ.2.2) (e : ∀ (t : Nat) (j : Fin 5) (k : Nat), t < 10 ∨ 20 < t → ¬ (t = 0 ∧ k = 14) → υ.1 t j k = σ.1 t j k) (hA : zc_rep υ σ.2.2.1 A') (h14 : υ.1 0 0 14 = nI ((if I.1 then 1 else 0) + (if J.1 then 2 else 0))) (hI : I.1 = true → zc_rep υ 0 I.2) (hJ : J.1 = true → zc_rep υ 1 J.2) : zs_rep υ (A', X.2.1, X.2.2.1, X.2.2.2.1, X.2.2.2.2.1, I, J) := by
  obtain ⟨h1, h2, h3, h4, h5, h6, h7, h8, h9⟩ := h
  exact ⟨by rw [e2]; exact h1, by rw [e2]; exact hA, h3.keep (fun t j k p q => e t j k (by omega) (by omega)), ⟨(e 1 0 1 (by omega) (by omega)).trans h4.1, fun i hi => (e 2 0 i (by omega) (by omega)).trans (h4.2 i hi)⟩, ⟨(e 0 0 11 (by omega) (by omega)).trans h5.1, (e 0 0 12 (by omega) (by omega)).trans h5.2⟩, ⟨(e 0 0 13 (by omega) (by omega)).trans h6.1, fun i hi => ⟨(e 22 0 i (by omega) (by omega)).trans (h6.2 i hi).1, (e 23 0 i (by omega) (by omega)).trans (h6.2 i hi).2⟩⟩, h14, hI, hJ⟩
theorem zd_kept {σ τ : zq_T} {d : Fin 5} (hs : zd_same d σ τ) (v : Int32) : ∀ (t : Nat) (j : Fin 5) (k : Nat), t < 10 ∨ 20 < t → ¬ (t = 0 ∧ k = 14) → zq_up τ.1 0 0 14 v t j k = σ.1 t j k := fun t j k p q => (if_neg (fun z => q ⟨z.1, z.2.2⟩) : zq_up τ.1 0 0 14 v t j k = τ.1 t j k).trans (hs.2 t j k (fun z => by omega))
theorem zc_kept {τ : zq_T} {d : Fin 5} {A : za_D} (h : zc_rep τ d A) (v : Int32) : zc_rep (zq_up τ.1 0 0 14 v, τ.2) d A := h.keep (fun t k p q => if_neg (fun z => by omega))
theorem zs_d0 {σ : zq_T} {X : za_X} (h : zs_rep σ X) {j : Fin 5} (hj : j.val < 3) : j ≠ σ.2.2.1 := fun q => by have := h.1.2.1; rw [← q] at this; omega
/-- an image has been laid -/
theorem zs_rep.img0 {σ τ : zq_T} {X : za_X} (h : zs_rep σ X) (hs : zd_same 0 σ τ) (hA : zc_rep τ 0 X.1) : zs_rep (zq_up τ.1 0 0 14 (nI (1 + (if (zx_J X).1 then 2 else 0))), τ.2) (X.1, X.2.1, X.2.2.1, X.2.2.2.1, X.2.2.2.2.1, (true, X.1), zx_J X) ∧ zg_S σ (zq_up τ.1 0 0 14 (nI (1 + (if (zx_J X).1 then 2 else 0))), τ.2) :=
  ⟨h.gen X.1 (true, X.1) (zx_J X) hs.same2 (zd_kept hs _) (zc_kept (hs.rep (zs_d0 h (by decide)).symm h.2.1) _) zq_upE (fun _ => zc_kept hA _) (fun q => zc_kept (hs.rep (by decide) (h.2.2.2.2.2.2.2.2 q)) _), hs.S.up (by omega)⟩
theorem zs_rep.img1 {σ τ : zq_T} {X : za_X} (h : zs_rep σ X) (hs : zd_same 1 σ τ) (hA : zc_rep τ 1 X.1) : zs_rep (zq_up τ.1 0 0 14 (nI ((if (zx_I X).1 then 1 else 0) + 2)), τ.2) (X.1, X.2.1, X.2.2.1, X.2.2.2.1, X.2.2.2.2.1, zx_I X, (true, X.1)) ∧ zg_S σ (zq_up τ.1 0 0 14 (nI ((if (zx_I X).1 then 1 else 0) + 2)), τ.2) :=
  ⟨h.gen X.1 (zx_I X) (true, X.1) hs.same2 (zd_kept hs _) (zc_kept (hs.rep (zs_d0 h (by decide)).symm h.2.1) _) zq_upE (fun q => zc_kept (hs.rep (by decide) (h.2.2.2.2.2.2.2.1 q)) _) (fun _ => zc_kept hA _), hs.S.up (by omega)⟩
def zx_keepR (X : za_X) (k : Int32) : Int32 := if k = 0 then zb_v (zx_I X).1 else if k = 1 then zb_v (zx_J X).1 else -1
def zx_keepX (X : za_X) (k : Int32) : za_X := if k = 0 then (X.1, X.2.1, X.2.2.1, X.2.2.2.1, X.2.2.2.2.1, (true, X.1), zx_J X) else if k = 1 then (X.1, X.2.1, X.2.2.1, X.2.2.2.1, X.2.2.2.2.1, zx_I X, (true, X.1)) else X
def zx_backR (X : za_X) (k : Int32) : Int32 := if k = 0 then (if (zx_I X).1 then za_g (zx_I X).2 else -2) else if k = 1 then (if (zx_J X).1 then za_g (zx_J X).2 else -2) else -1
def zx_backX (X : za_X) (k : Int32) : za_X := if k = 0 then (if (zx_I X).1 then ((zx_I X).2, X.2) else X) else if k = 1 then (if (zx_J X).1 then ((zx_J X).2, X.2) else X) else X
theorem zx_kb0 (a b : Bool) : (nI ((if a then 1 else 0) + (if b then 2 else 0)) >>> ((0 : Int32) &&& 31)) &&& 1 = zb_v a := by cases a <;> cases b <;> rfl
theorem zx_kb1 (a b : Bool) : (nI ((if a then 1 else 0) + (if b then 2 else 0)) >>> ((1 : Int32) &&& 31)) &&& 1 = zb_v b := by cases a <;> cases b <;> rfl
theorem zx_kc0 (a b : Bool) : nI ((if a then 1 else 0) + (if b then 2 else 0)) ||| ((1 : Int32) <<< ((0 : Int32) &&& 31)) = nI (1 + (if b then 2 else 0)) := by cases a <;> cases b <;> rfl
theorem zx_kc1 (a b : Bool) : nI ((if a then 1 else 0) + (if b then 2 else 0)) ||| ((1 : Int32) <<< ((1 : Int32) &&& 31)) = nI ((if a then 1 else 0) + 2) := by cases a <;> cases b <;> rfl
theorem zx_01 {k : Int32} (h : ¬ k < 0) (h2 : k < 2) : k = 0 ∨ k = 1 := by
  obtain ⟨i, hi, rfl⟩ := nI_of h
  have : i < 2 := (nI_ltI (b := 2) hi (by omega)).mp h2
  rcases i with _ | _ | i
  · exact Or.inl rfl
  · exact Or.inr rfl
  · omega
theorem zx_n01 {k : Int32} (h : k < 0 ∨ ¬ k < 2) : ¬ k = 0 ∧ ¬ k = 1 := by
  refine ⟨fun q => ?_, fun q => ?_⟩ <;> (subst q; revert h; decide)

set_option maxHeartbeats 4000000 in
theorem sp_S_image {σ : zq_T} (k : Int32) : zq_Sp zm_S_image 0 [zq_O 0 0, zq_I k] σ (zq_rv (zq_O 10 (if k = 0 then 0 else 1)) σ) := by
  refine zq_sp [some (zq_O 0 0), some (zq_I k)] (by decide +kernel) rfl (Nat.le_of_ble_eq_true rfl) (fun ν => ?_)
  refine gq_iload_n dz_S_image_0 rfl ?_
  refine gq_if_ne (tgt := 11) dz_S_image_1 rfl (fun h1 => ?_) (fun h1 => ?_)
  · skip
    refine gq_aload_n dz_S_image_11 rfl ?_
    refine gq_getX 1 1 zf_S_37 rfl rfl rfl dz_S_image_12 ?_
    refine gw_aret dz_S_image_15 rfl ?_ ?_
    · rw [if_neg h1]
    · rfl
  · skip
    refine gq_aload_n dz_S_image_4 rfl ?_
    refine gq_getX 0 0 zf_S_33 rfl rfl rfl dz_S_image_5 ?_
    refine gq_goto (tgt := 15) dz_S_image_8 rfl ?_
    refine gw_aret dz_S_image_15 rfl ?_ ?_
    · rw [if_pos h1]
    · rfl
set_option maxHeartbeats 4000000 in
theorem sp_S_keep0 {σ : zq_T} {X : za_X} (hS : zs_rep σ X) (hW : zx_wf X) : zq_Sp zm_S_keep 1 [zq_O 0 0, zq_I 0] σ (zq_rw (zq_I (zx_keepR X 0)) (fun τ => zs_rep τ (zx_keepX X 0) ∧ zg_S σ τ)) := by
  have hA : zc_rep σ σ.2.2.1 X.1 := hS.2.1
  have hw : za_wf X.1 := hW.1
  have hn6 : za_n X.1 ≤ 6 := zc_n6 hA
  have hm5 : za_m X.1 ≤ 5 := zc_m5 hA
  have hs6 : (zx_s X).1 ≤ 6 := hW.2.2.2.1.1
  have hT6 : (zx_T X).1 ≤ 160 := hW.2.2.1.1
  refine zq_sp [some (zq_O 0 0), some (zq_I 0), none] (by decide +kernel) rfl (Nat.le_of_ble_eq_true rfl) (fun ν => ?_)
  refine gq_iload_n dz_S_keep_0 rfl ?_
  refine gq_if_lt (tgt := 9) dz_S_keep_1 rfl (fun h1 => ?_) (fun h1 => ?_)
  · skip
    exact absurd h1 (by decide)
  · skip
    refine gq_iload_n dz_S_keep_4 rfl ?_
    refine gq_iconst (v := 2) dz_S_keep_5 rfl ?_
    refine gq_icmp_lt (tgt := 11) dz_S_keep_6 rfl (fun h6 => ?_) (fun h6 => ?_)
    · skip
      refine gq_aload_n dz_S_keep_11 rfl ?_
      refine gq_getI zf_S_83 rfl rfl dz_S_keep_12 ?_
      rw [hS.2.2.2.2.2.2.1]
      refine gq_iload_n dz_S_keep_15 rfl ?_
      refine gq_ishr dz_S_keep_16 ?_
      refine gq_iconst (v := 1) dz_S_keep_17 rfl ?_
      refine gq_iand dz_S_keep_18 ?_
      rw [zx_kb, zx_kb0]
      refine gw_istore_n 2 dz_S_keep_19 rfl (Nat.le_of_ble_eq_true rfl) rfl ?_
      dsimp only [List.set]
      refine gq_aload_n dz_S_keep_20 rfl ?_
      refine gq_iload_n dz_S_keep_21 rfl ?_
      refine gq_cV (sp_S_image _) zw_S_image zl_S_238 dz_S_keep_22 rfl rfl rfl (by decide) rfl rfl (Nat.le_of_ble_eq_true rfl) ?_
      rw [if_pos rfl]
      refine gq_aload_n dz_S_keep_25 rfl ?_
      refine gq_getU zf_S_53 rfl rfl dz_S_keep_26 ?_
      refine gq_cVX (sp_D_copyFrom hA (zs_d0 hS (by decide))) zw_D_copyFrom zl_S_174 dz_S_keep_29 rfl rfl rfl (by decide) rfl rfl (Nat.le_of_ble_eq_true rfl) (fun τ29 hq29 => ?_)
      refine gq_aload_n dz_S_keep_32 rfl ?_
      refine gq_dup dz_S_keep_33 rfl ?_
      refine gq_getI zf_S_83 rfl rfl dz_S_keep_34 ?_
      rw [hq29.2.2 0 0 14 (by omega), hS.2.2.2.2.2.2.1]
      refine gq_iconst (v := 1) dz_S_keep_37 rfl ?_
      refine gq_iload_n dz_S_keep_38 rfl ?_
      refine gq_ishl dz_S_keep_39 ?_
      refine gq_ior dz_S_keep_40 ?_
      rw [zx_kb, zx_kc0]
      refine gq_putI zv_S_83 rfl rfl dz_S_keep_41 ?_
      refine gq_iload_n dz_S_keep_44 rfl ?_
      refine gw_iretP .int dz_S_keep_45 rfl (by first | rfl | exact zb_nar _) ?_ ?_
      · rfl
      · exact hS.img0 hq29.2 hq29.1
    · skip
      exact absurd (by decide) h6
set_option maxHeartbeats 4000000 in
theorem sp_S_keep1 {σ : zq_T} {X : za_X} (hS : zs_rep σ X) (hW : zx_wf X) : zq_Sp zm_S_keep 1 [zq_O 0 0, zq_I 1] σ (zq_rw (zq_I (zx_keepR X 1)) (fun τ => zs_rep τ (zx_keepX X 1) ∧ zg_S σ τ)) := by
  have hA : zc_rep σ σ.2.2.1 X.1 := hS.2.1
  have hw : za_wf X.1 := hW.1
  have hn6 : za_n X.1 ≤ 6 := zc_n6 hA
  have hm5 : za_m X.1 ≤ 5 := zc_m5 hA
  have hs6 : (zx_s X).1 ≤ 6 := hW.2.2.2.1.1
  have hT6 : (zx_T X).1 ≤ 160 := hW.2.2.1.1
  refine zq_sp [some (zq_O 0 0), some (zq_I 1), none] (by decide +kernel) rfl (Nat.le_of_ble_eq_true rfl) (fun ν => ?_)
  refine gq_iload_n dz_S_keep_0 rfl ?_
  refine gq_if_lt (tgt := 9) dz_S_keep_1 rfl (fun h1 => ?_) (fun h1 => ?_)
  · skip
    exact absurd h1 (by decide)
  · skip
    refine gq_iload_n dz_S_keep_4 rfl ?_
    refine gq_iconst (v := 2) dz_S_keep_5 rfl ?_
    refine gq_icmp_lt (tgt := 11) dz_S_keep_6 rfl (fun h6 => ?_) (fun h6 => ?_)
    · skip
      refine gq_aload_n dz_S_keep_11 rfl ?_
      refine gq_getI zf_S_83 rfl rfl dz_S_keep_12 ?_
      rw [hS.2.2.2.2.2.2.1]
      refine gq_iload_n dz_S_keep_15 rfl ?_
      refine gq_ishr dz_S_keep_16 ?_
      refine gq_iconst (v := 1) dz_S_keep_17 rfl ?_
      refine gq_iand dz_S_keep_18 ?_
      rw [zx_kb, zx_kb1]
      refine gw_istore_n 2 dz_S_keep_19 rfl (Nat.le_of_ble_eq_true rfl) rfl ?_
      dsimp only [List.set]
      refine gq_aload_n dz_S_keep_20 rfl ?_
      refine gq_iload_n dz_S_keep_21 rfl ?_
      refine gq_cV (sp_S_image _) zw_S_image zl_S_238 dz_S_keep_22 rfl rfl rfl (by decide) rfl rfl (Nat.le_of_ble_eq_true rfl) ?_
      rw [if_neg (by decide)]
      refine gq_aload_n dz_S_keep_25 rfl ?_
      refine gq_getU zf_S_53 rfl rfl dz_S_keep_26 ?_
      refine gq_cVX (sp_D_copyFrom hA (zs_d0 hS (by decide))) zw_D_copyFrom zl_S_174 dz_S_keep_29 rfl rfl rfl (by decide) rfl rfl (Nat.le_of_ble_eq_true rfl) (fun τ29 hq29 => ?_)
      refine gq_aload_n dz_S_keep_32 rfl ?_
      refine gq_dup dz_S_keep_33 rfl ?_
      refine gq_getI zf_S_83 rfl rfl dz_S_keep_34 ?_
      rw [hq29.2.2 0 0 14 (by omega), hS.2.2.2.2.2.2.1]
      refine gq_iconst (v := 1) dz_S_keep_37 rfl ?_
      refine gq_iload_n dz_S_keep_38 rfl ?_
      refine gq_ishl dz_S_keep_39 ?_
      refine gq_ior dz_S_keep_40 ?_
      rw [zx_kb, zx_kc1]
      refine gq_putI zv_S_83 rfl rfl dz_S_keep_41 ?_
      refine gq_iload_n dz_S_keep_44 rfl ?_
      refine gw_iretP .int dz_S_keep_45 rfl (by first | rfl | exact zb_nar _) ?_ ?_
      · rfl
      · exact hS.img1 hq29.2 hq29.1
    · skip
      exact absurd (by decide) h6
set_option maxHeartbeats 4000000 in
theorem sp_S_keepN {σ : zq_T} {X : za_X} (hS : zs_rep σ X) (hW : zx_wf X) {k : Int32} (hk : k < 0 ∨ ¬ k < 2) : zq_Sp zm_S_keep 1 [zq_O 0 0, zq_I k] σ (zq_rw (zq_I (-1)) (fun τ => τ = σ)) := by
  refine zq_sp [some (zq_O 0 0), some (zq_I k), none] (by decide +kernel) rfl (Nat.le_of_ble_eq_true rfl) (fun ν => ?_)
  refine gq_iload_n dz_S_keep_0 rfl ?_
  refine gq_if_lt (tgt := 9) dz_S_keep_1 rfl (fun h1 => ?_) (fun h1 => ?_)
  · skip
    refine gq_iconst (v := -1) dz_S_keep_9 rfl ?_
    refine gw_iretP .int dz_S_keep_10 rfl (by first | rfl | exact zb_nar _) ?_ ?_
    · rfl
    · rfl
  · skip
    refine gq_iload_n dz_S_keep_4 rfl ?_
    refine gq_iconst (v := 2) dz_S_keep_5 rfl ?_
    refine gq_icmp_lt (tgt := 11) dz_S_keep_6 rfl (fun h6 => ?_) (fun h6 => ?_)
    · skip
      exact absurd h6 (hk.resolve_left h1)
    · skip
      refine gq_iconst (v := -1) dz_S_keep_9 rfl ?_
      refine gw_iretP .int dz_S_keep_10 rfl (by first | rfl | exact zb_nar _) ?_ ?_
      · rfl
      · rfl
theorem sp_S_keep {σ : zq_T} {X : za_X} (hS : zs_rep σ X) (hW : zx_wf X) (k : Int32) : zq_Sp zm_S_keep 1 [zq_O 0 0, zq_I k] σ (zq_rw (zq_I (zx_keepR X k)) (fun τ => zs_rep τ (zx_keepX X k) ∧ zg_S σ τ)) := by
  by_cases hk : k < 0 ∨ ¬ k < 2
  · refine (sp_S_keepN hS hW hk).mono (fun r τ q => ?_)
    obtain ⟨h1, rfl⟩ := q
    have hb := zx_n01 hk
    rw [zx_keepR, zx_keepX, if_neg hb.1, if_neg hb.2, if_neg hb.1, if_neg hb.2]
    exact ⟨h1, hS, zg_S.rf⟩
  · rcases zx_01 (fun q => hk (Or.inl q)) (Classical.not_not.mp (fun q => hk (Or.inr q))) with rfl | rfl
    · exact sp_S_keep0 hS hW
    · exact sp_S_keep1 hS hW
set_option maxHeartbeats 4000000 in
theorem sp_S_back0 {σ : zq_T} {X : za_X} (hS : zs_rep σ X) (hW : zx_wf X) : zq_Sp zm_S_back 1 [zq_O 0 0, zq_I 0] σ (zq_rw (zq_I (zx_backR X 0)) (fun τ => zs_rep τ (zx_backX X 0) ∧ zg_S σ τ)) := by
  have hA : zc_rep σ σ.2.2.1 X.1 := hS.2.1
  have hw : za_wf X.1 := hW.1
  have hn6 : za_n X.1 ≤ 6 := zc_n6 hA
  have hm5 : za_m X.1 ≤ 5 := zc_m5 hA
  have hs6 : (zx_s X).1 ≤ 6 := hW.2.2.2.1.1
  have hT6 : (zx_T X).1 ≤ 160 := hW.2.2.1.1
  refine zq_sp [some (zq_O 0 0), some (zq_I 0)] (by decide +kernel) rfl (Nat.le_of_ble_eq_true rfl) (fun ν => ?_)
  refine gq_iload_n dz_S_back_0 rfl ?_
  refine gq_if_lt (tgt := 9) dz_S_back_1 rfl (fun h1 => ?_) (fun h1 => ?_)
  · skip
    exact absurd h1 (by decide)
  · skip
    refine gq_iload_n dz_S_back_4 rfl ?_
    refine gq_iconst (v := 2) dz_S_back_5 rfl ?_
    refine gq_icmp_lt (tgt := 11) dz_S_back_6 rfl (fun h6 => ?_) (fun h6 => ?_)
    · skip
      refine gq_aload_n dz_S_back_11 rfl ?_
      refine gq_getI zf_S_83 rfl rfl dz_S_back_12 ?_
      rw [hS.2.2.2.2.2.2.1]
      refine gq_iload_n dz_S_back_15 rfl ?_
      refine gq_ishr dz_S_back_16 ?_
      refine gq_iconst (v := 1) dz_S_back_17 rfl ?_
      refine gq_iand dz_S_back_18 ?_
      rw [zx_kb, zx_kb0]
      refine gw_ifb_ne (tgt := 25) dz_S_back_19 rfl (fun h19 => ?_) (fun h19 => ?_)
      · skip
        have hI : (zx_I X).1 = true := h19
        refine gq_aload_n dz_S_back_25 rfl ?_
        refine gq_getU zf_S_53 rfl rfl dz_S_back_26 ?_
        refine gq_aload_n dz_S_back_29 rfl ?_
        refine gq_iload_n dz_S_back_30 rfl ?_
        refine gq_cV (sp_S_image _) zw_S_image zl_S_238 dz_S_back_31 rfl rfl rfl (by decide) rfl rfl (Nat.le_of_ble_eq_true rfl) ?_
        rw [if_pos rfl]
        refine gq_cVX (sp_D_copyFrom (hS.2.2.2.2.2.2.2.1 hI) (zs_d0 hS (by decide)).symm) zw_D_copyFrom zl_S_174 dz_S_back_34 rfl rfl rfl (by decide) rfl rfl (Nat.le_of_ble_eq_true rfl) (fun τ34 hq34 => ?_)
        refine gq_aload_n dz_S_back_37 rfl ?_
        refine gq_getU zf_S_53 rfl rfl dz_S_back_38 ?_
        have hA2 : zc_rep τ34 τ34.2.2.1 (zx_I X).2 := by rw [show τ34.2.2.1 = σ.2.2.1 from by rw [hq34.2.same2]]; exact hq34.1
        refine gq_getI zf_S_92 rfl rfl dz_S_back_41 ?_
        rw [zc_g hA2]
        refine gw_iretP .int dz_S_back_44 rfl (by first | rfl | exact zb_nar _) ?_ ?_
        · rw [zx_backR, if_pos rfl, hI]; rfl
        · rw [zx_backX, if_pos rfl, hI]; exact ⟨hS.duchy hq34.2 hq34.1, hq34.2.S⟩
      · skip
        have hI : (zx_I X).1 = false := h19
        refine gq_bipush (v := -2) dz_S_back_22 rfl ?_
        refine gw_iretP .int dz_S_back_24 rfl (by first | rfl | exact zb_nar _) ?_ ?_
        · rw [zx_backR, if_pos rfl, hI]; rfl
        · rw [zx_backX, if_pos rfl, hI]; exact ⟨hS, zg_S.rf⟩
    · skip
      exact absurd (by decide) h6
set_option maxHeartbeats 4000000 in
theorem sp_S_back1 {σ : zq_T} {X : za_X} (hS : zs_rep σ X) (hW : zx_wf X) : zq_Sp zm_S_back 1 [zq_O 0 0, zq_I 1] σ (zq_rw (zq_I (zx_backR X 1)) (fun τ => zs_rep τ (zx_backX X 1) ∧ zg_S σ τ)) := by
  have hA : zc_rep σ σ.2.2.1 X.1 := hS.2.1
  have hw : za_wf X.1 := hW.1
  have hn6 : za_n X.1 ≤ 6 := zc_n6 hA
  have hm5 : za_m X.1 ≤ 5 := zc_m5 hA
  have hs6 : (zx_s X).1 ≤ 6 := hW.2.2.2.1.1
  have hT6 : (zx_T X).1 ≤ 160 := hW.2.2.1.1
  refine zq_sp [some (zq_O 0 0), some (zq_I 1)] (by decide +kernel) rfl (Nat.le_of_ble_eq_true rfl) (fun ν => ?_)
  refine gq_iload_n dz_S_back_0 rfl ?_
  refine gq_if_lt (tgt := 9) dz_S_back_1 rfl (fun h1 => ?_) (fun h1 => ?_)
  · skip
    exact absurd h1 (by decide)
  · skip
    refine gq_iload_n dz_S_back_4 rfl ?_
    refine gq_iconst (v := 2) dz_S_back_5 rfl ?_
    refine gq_icmp_lt (tgt := 11) dz_S_back_6 rfl (fun h6 => ?_) (fun h6 => ?_)
    · skip
      refine gq_aload_n dz_S_back_11 rfl ?_
      refine gq_getI zf_S_83 rfl rfl dz_S_back_12 ?_
      rw [hS.2.2.2.2.2.2.1]
      refine gq_iload_n dz_S_back_15 rfl ?_
      refine gq_ishr dz_S_back_16 ?_
      refine gq_iconst (v := 1) dz_S_back_17 rfl ?_
      refine gq_iand dz_S_back_18 ?_
      rw [zx_kb, zx_kb1]
      refine gw_ifb_ne (tgt := 25) dz_S_back_19 rfl (fun h19 => ?_) (fun h19 => ?_)
      · skip
        have hI : (zx_J X).1 = true := h19
        refine gq_aload_n dz_S_back_25 rfl ?_
        refine gq_getU zf_S_53 rfl rfl dz_S_back_26 ?_
        refine gq_aload_n dz_S_back_29 rfl ?_
        refine gq_iload_n dz_S_back_30 rfl ?_
        refine gq_cV (sp_S_image _) zw_S_image zl_S_238 dz_S_back_31 rfl rfl rfl (by decide) rfl rfl (Nat.le_of_ble_eq_true rfl) ?_
        rw [if_neg (by decide)]
        refine gq_cVX (sp_D_copyFrom (hS.2.2.2.2.2.2.2.2 hI) (zs_d0 hS (by decide)).symm) zw_D_copyFrom zl_S_174 dz_S_back_34 rfl rfl rfl (by decide) rfl rfl (Nat.le_of_ble_eq_true rfl) (fun τ34 hq34 => ?_)
        refine gq_aload_n dz_S_back_37 rfl ?_
        refine gq_getU zf_S_53 rfl rfl dz_S_back_38 ?_
        have hA2 : zc_rep τ34 τ34.2.2.1 (zx_J X).2 := by rw [show τ34.2.2.1 = σ.2.2.1 from by rw [hq34.2.same2]]; exact hq34.1
        refine gq_getI zf_S_92 rfl rfl dz_S_back_41 ?_
        rw [zc_g hA2]
        refine gw_iretP .int dz_S_back_44 rfl (by first | rfl | exact zb_nar _) ?_ ?_
        · rw [zx_backR, if_neg (by decide), if_pos rfl, hI]; rfl
        · rw [zx_backX, if_neg (by decide), if_pos rfl, hI]; exact ⟨hS.duchy hq34.2 hq34.1, hq34.2.S⟩
      · skip
        have hI : (zx_J X).1 = false := h19
        refine gq_bipush (v := -2) dz_S_back_22 rfl ?_
        refine gw_iretP .int dz_S_back_24 rfl (by first | rfl | exact zb_nar _) ?_ ?_
        · rw [zx_backR, if_neg (by decide), if_pos rfl, hI]; rfl
        · rw [zx_backX, if_neg (by decide), if_pos rfl, hI]; exact ⟨hS, zg_S.rf⟩
    · skip
      exact absurd (by decide) h6
set_option maxHeartbeats 4000000 in
theorem sp_S_backN {σ : zq_T} {X : za_X} (hS : zs_rep σ X) (hW : zx_wf X) {k : Int32} (hk : k < 0 ∨ ¬ k < 2) : zq_Sp zm_S_back 1 [zq_O 0 0, zq_I k] σ (zq_rw (zq_I (-1)) (fun τ => τ = σ)) := by
  refine zq_sp [some (zq_O 0 0), some (zq_I k)] (by decide +kernel) rfl (Nat.le_of_ble_eq_true rfl) (fun ν => ?_)
  refine gq_iload_n dz_S_back_0 rfl ?_
  refine gq_if_lt (tgt := 9) dz_S_back_1 rfl (fun h1 => ?_) (fun h1 => ?_)
  · skip
    refine gq_iconst (v := -1) dz_S_back_9 rfl ?_
    refine gw_iretP .int dz_S_back_10 rfl (by first | rfl | exact zb_nar _) ?_ ?_
    · rfl
    · rfl
  · skip
    refine gq_iload_n dz_S_back_4 rfl ?_
    refine gq_iconst (v := 2) dz_S_back_5 rfl ?_
    refine gq_icmp_lt (tgt := 11) dz_S_back_6 rfl (fun h6 => ?_) (fun h6 => ?_)
    · skip
      exact absurd h6 (hk.resolve_left h1)
    · skip
      refine gq_iconst (v := -1) dz_S_back_9 rfl ?_
      refine gw_iretP .int dz_S_back_10 rfl (by first | rfl | exact zb_nar _) ?_ ?_
      · rfl
      · rfl
theorem sp_S_back {σ : zq_T} {X : za_X} (hS : zs_rep σ X) (hW : zx_wf X) (k : Int32) : zq_Sp zm_S_back 1 [zq_O 0 0, zq_I k] σ (zq_rw (zq_I (zx_backR X k)) (fun τ => zs_rep τ (zx_backX X k) ∧ zg_S σ τ)) := by
  by_cases hk : k < 0 ∨ ¬ k < 2
  · refine (sp_S_backN hS hW hk).mono (fun r τ q => ?_)
    obtain ⟨h1, rfl⟩ := q
    have hb := zx_n01 hk
    rw [zx_backR, zx_backX, if_neg hb.1, if_neg hb.2, if_neg hb.1, if_neg hb.2]
    exact ⟨h1, hS, zg_S.rf⟩
  · rcases zx_01 (fun q => hk (Or.inl q)) (Classical.not_not.mp (fun q => hk (Or.inr q))) with rfl | rfl
    · exact sp_S_back0 hS hW
    · exact sp_S_back1 hS hW
def zx_shR (k l n : Int32) : Int32 := if zb_in k 4 && (zb_in l 3 && decide (n ≤ 40)) then (if n < 0 then -14 else 1) else -1
def zx_shX (X : za_X) (k l n : Int32) : za_X := if zb_in k 4 && (zb_in l 3 && decide (n ≤ 40)) then (if n < 0 then X else (X.1, zh_new (zx_B X) k.toNatClampNeg l n, X.2.2)) else X
set_option maxHeartbeats 4000000 in
theorem sp_S_sheet {σ : zq_T} {X : za_X} (hS : zs_rep σ X) (hW : zx_wf X) (k l n : Int32) : zq_Sp zm_S_sheet 2 [zq_O 0 0, zq_I k, zq_I l, zq_I n] σ (zq_rw (zq_I (zx_shR k l n)) (fun τ => zs_rep τ (zx_shX X k l n) ∧ zg_S σ τ)) := by
  have hA : zc_rep σ σ.2.2.1 X.1 := hS.2.1
  have hw : za_wf X.1 := hW.1
  have hn6 : za_n X.1 ≤ 6 := zc_n6 hA
  have hm5 : za_m X.1 ≤ 5 := zc_m5 hA
  have hs6 : (zx_s X).1 ≤ 6 := hW.2.2.2.1.1
  have hT6 : (zx_T X).1 ≤ 160 := hW.2.2.1.1
  refine zq_sp [some (zq_O 0 0), some (zq_I k), some (zq_I l), some (zq_I n)] (by decide +kernel) rfl (Nat.le_of_ble_eq_true rfl) (fun ν => ?_)
  refine gq_aload_n dz_S_sheet_0 rfl ?_
  refine gq_getR 4 zf_S_26 rfl rfl dz_S_sheet_1 ?_
  refine gq_iload_n dz_S_sheet_4 rfl ?_
  refine gq_cV (sp_H_isSheet _) zw_H_isSheet zl_S_242 dz_S_sheet_5 rfl rfl rfl (by decide) rfl rfl (Nat.le_of_ble_eq_true rfl) ?_
  refine gw_ifb_eq (tgt := 28) dz_S_sheet_8 rfl (fun h8 => ?_) (fun h8 => ?_)
  · skip
    refine gq_iconst (v := -1) dz_S_sheet_28 rfl ?_
    refine gw_iretP .int dz_S_sheet_29 rfl (by first | rfl | exact zb_nar _) ?_ ?_
    · rw [zx_shR, h8]; rfl
    · rw [zx_shX, h8]; exact ⟨hS, zg_S.rf⟩
  · skip
    have h8b := h8
    obtain ⟨q, hq, rfl⟩ := (zb_in_iff (by omega)).mp h8
    refine gq_aload_n dz_S_sheet_11 rfl ?_
    refine gq_getR 4 zf_S_26 rfl rfl dz_S_sheet_12 ?_
    refine gq_iload_n dz_S_sheet_15 rfl ?_
    refine gq_cV (sp_H_isLane _) zw_H_isLane zl_S_245 dz_S_sheet_16 rfl rfl rfl (by decide) rfl rfl (Nat.le_of_ble_eq_true rfl) ?_
    refine gw_ifb_eq (tgt := 28) dz_S_sheet_19 rfl (fun h19 => ?_) (fun h19 => ?_)
    · skip
      refine gq_iconst (v := -1) dz_S_sheet_28 rfl ?_
      refine gw_iretP .int dz_S_sheet_29 rfl (by first | rfl | exact zb_nar _) ?_ ?_
      · rw [zx_shR, h19, Bool.false_and, Bool.and_false]; rfl
      · rw [zx_shX, h19, Bool.false_and, Bool.and_false]; exact ⟨hS, zg_S.rf⟩
    · skip
      refine gq_iload_n dz_S_sheet_22 rfl ?_
      refine gq_bipush (v := 40) dz_S_sheet_23 rfl ?_
      refine gq_icmp_le (tgt := 30) dz_S_sheet_25 rfl (fun h25 => ?_) (fun h25 => ?_)
      · skip
        refine gq_iload_n dz_S_sheet_30 rfl ?_
        refine gq_if_ge (tgt := 37) dz_S_sheet_31 rfl (fun h31 => ?_) (fun h31 => ?_)
        · skip
          have hn0 : ¬ n < 0 := fun z => by rw [Int32.lt_iff_toInt_lt] at z; rw [Int32.le_iff_toInt_le] at h31; omega
          refine gq_aload_n dz_S_sheet_37 rfl ?_
          refine gq_getR 4 zf_S_26 rfl rfl dz_S_sheet_38 ?_
          refine gq_iload_n dz_S_sheet_41 rfl ?_
          refine gq_iload_n dz_S_sheet_42 rfl ?_
          refine gq_iload_n dz_S_sheet_43 rfl ?_
          refine gq_cVX (sp_H_renew hS.2.2.1 hq _ _) zw_H_renew zl_S_248 dz_S_sheet_44 rfl rfl rfl (by decide) rfl rfl (Nat.le_of_ble_eq_true rfl) (fun τ44 hq44 => ?_)
          refine gq_iconst (v := 1) dz_S_sheet_47 rfl ?_
          refine gw_iretP .int dz_S_sheet_48 rfl (by first | rfl | exact zb_nar _) ?_ ?_
          · rw [zx_shR, h8b, h19, decide_eq_true h25]; simp [hn0]
          · rw [zx_shX, h8b, h19, decide_eq_true h25]; simp only [Bool.and_self, if_true]; rw [if_neg hn0, nI_clamp (by omega)]; exact ⟨hS.sheets hq44.2 hq44.1, hq44.2.S⟩
        · skip
          have hn0 : n < 0 := by rw [Int32.lt_iff_toInt_lt]; rw [Int32.le_iff_toInt_le] at h31; omega
          refine gq_bipush (v := -14) dz_S_sheet_34 rfl ?_
          refine gw_iretP .int dz_S_sheet_36 rfl (by first | rfl | exact zb_nar _) ?_ ?_
          · rw [zx_shR, h8b, h19, decide_eq_true h25]; simp [hn0]
          · rw [zx_shX, h8b, h19, decide_eq_true h25]; simp only [Bool.and_self, if_true]; rw [if_pos hn0]; exact ⟨hS, zg_S.rf⟩
      · skip
        refine gq_iconst (v := -1) dz_S_sheet_28 rfl ?_
        refine gw_iretP .int dz_S_sheet_29 rfl (by first | rfl | exact zb_nar _) ?_ ?_
        · rw [zx_shR, decide_eq_false h25, Bool.and_false, Bool.and_false]; rfl
        · rw [zx_shX, decide_eq_false h25, Bool.and_false, Bool.and_false]; exact ⟨hS, zg_S.rf⟩
def zx_layR1 (B : za_H) (k : Nat) (i : Int32) : Int32 := if zh_fault B k (B.1 k) i = 0 then 1 else -10 - zh_fault B k (B.1 k) i
def zx_layR (X : za_X) (k i : Int32) : Int32 := if zb_in k 4 then zx_layR1 (zx_B X) k.toNatClampNeg i else -1
def zx_layX1 (X : za_X) (k : Nat) (i v : Int32) : za_X := if zh_fault (zx_B X) k ((zx_B X).1 k) i = 0 then (X.1, zh_put (zx_B X) k i.toNatClampNeg (zh_nar ((zx_B X).1 k) v), X.2.2) else X
def zx_layX (X : za_X) (k i v : Int32) : za_X := if zb_in k 4 then zx_layX1 X k.toNatClampNeg i v else X
theorem zh_f0 {B : za_H} {k : Nat} {l i : Int32} (h : zh_fault B k l i = 0) : zh_in B k i = true := by
  unfold zh_fault at h
  split at h
  · exact absurd h (by decide)
  · split at h
    · exact absurd h (by decide)
    · split at h
      · assumption
      · exact absurd h (by decide)
set_option maxHeartbeats 4000000 in
theorem sp_S_lay {σ : zq_T} {X : za_X} (hS : zs_rep σ X) (hW : zx_wf X) (k i v : Int32) : zq_Sp zm_S_lay 5 [zq_O 0 0, zq_I k, zq_I i, zq_I v] σ (zq_rw (zq_I (zx_layR X k i)) (fun τ => zs_rep τ (zx_layX X k i v) ∧ zg_S σ τ)) := by
  have hA : zc_rep σ σ.2.2.1 X.1 := hS.2.1
  have hw : za_wf X.1 := hW.1
  have hn6 : za_n X.1 ≤ 6 := zc_n6 hA
  have hm5 : za_m X.1 ≤ 5 := zc_m5 hA
  have hs6 : (zx_s X).1 ≤ 6 := hW.2.2.2.1.1
  have hT6 : (zx_T X).1 ≤ 160 := hW.2.2.1.1
  have hB := hS.2.2.1
  have hV := hW.2.1
  refine zq_sp [some (zq_O 0 0), some (zq_I k), some (zq_I i), some (zq_I v), none] (by decide +kernel) rfl (Nat.le_of_ble_eq_true rfl) (fun ν => ?_)
  refine gq_aload_n dz_S_lay_0 rfl ?_
  refine gq_getR 4 zf_S_26 rfl rfl dz_S_lay_1 ?_
  refine gq_iload_n dz_S_lay_4 rfl ?_
  refine gq_cV (sp_H_isSheet _) zw_H_isSheet zl_S_242 dz_S_lay_5 rfl rfl rfl (by decide) rfl rfl (Nat.le_of_ble_eq_true rfl) ?_
  refine gw_ifb_ne (tgt := 13) dz_S_lay_8 rfl (fun h8 => ?_) (fun h8 => ?_)
  · skip
    have h8b := h8
    obtain ⟨q, hq, rfl⟩ := (zb_in_iff (by omega)).mp h8
    refine gq_aload_n dz_S_lay_13 rfl ?_
    refine gq_getR 4 zf_S_26 rfl rfl dz_S_lay_14 ?_
    refine gq_iload_n dz_S_lay_17 rfl ?_
    refine gq_aload_n dz_S_lay_18 rfl ?_
    refine gq_getR 4 zf_S_26 rfl rfl dz_S_lay_19 ?_
    refine gq_iload_n dz_S_lay_22 rfl ?_
    refine gq_cV (sp_H_laneOf hB hq) zw_H_laneOf zl_S_252 dz_S_lay_23 rfl rfl rfl (by decide) rfl rfl (Nat.le_of_ble_eq_true rfl) ?_
    refine gq_iload_n dz_S_lay_26 rfl ?_
    refine gq_cV (sp_H_faultAt hB hV hq _ _) zw_H_faultAt zl_S_255 dz_S_lay_27 rfl rfl rfl (by decide) rfl rfl (Nat.le_of_ble_eq_true rfl) ?_
    refine gw_istore 4 dz_S_lay_30 (Nat.le_of_ble_eq_true rfl) rfl ?_
    dsimp only [List.set]
    refine gq_iload dz_S_lay_32 rfl ?_
    refine gq_if_eq (tgt := 43) dz_S_lay_34 rfl (fun h34 => ?_) (fun h34 => ?_)
    · skip
      have hin := zh_f0 h34
      obtain ⟨i, hi4, rfl⟩ := zh_in_ex hV hq hin
      refine gq_aload_n dz_S_lay_43 rfl ?_
      refine gq_getR 4 zf_S_26 rfl rfl dz_S_lay_44 ?_
      refine gq_iload_n dz_S_lay_47 rfl ?_
      refine gq_iload_n dz_S_lay_48 rfl ?_
      refine gq_iload_n dz_S_lay_49 rfl ?_
      refine gq_cVX (sp_H_put hB hV hq hin hi4 _) zw_H_put zl_S_258 dz_S_lay_50 rfl rfl rfl (by decide) rfl rfl (Nat.le_of_ble_eq_true rfl) (fun τ50 hq50 => ?_)
      refine gq_iconst (v := 1) dz_S_lay_53 rfl ?_
      refine gw_iretP .int dz_S_lay_54 rfl (by first | rfl | exact zb_nar _) ?_ ?_
      · rw [zx_layR, h8b, if_pos rfl, nI_clamp (show q < 2 ^ 31 by omega), zx_layR1, if_pos h34]
      · rw [zx_layX, h8b, if_pos rfl, nI_clamp (show q < 2 ^ 31 by omega), zx_layX1, if_pos h34, nI_clamp (show i < 2 ^ 31 by omega)]; exact ⟨hS.sheets hq50.2 hq50.1, hq50.2.S⟩
    · skip
      refine gq_bipush (v := -10) dz_S_lay_37 rfl ?_
      refine gq_iload dz_S_lay_39 rfl ?_
      refine gq_isub dz_S_lay_41 ?_
      refine gw_iretP .int dz_S_lay_42 rfl (by first | rfl | exact zb_nar _) ?_ ?_
      · rw [zx_layR, h8b, if_pos rfl, nI_clamp (by omega), zx_layR1, if_neg h34]
      · rw [zx_layX, h8b, if_pos rfl, nI_clamp (by omega), zx_layX1, if_neg h34]; exact ⟨hS, zg_S.rf⟩
  · skip
    refine gq_iconst (v := -1) dz_S_lay_11 rfl ?_
    refine gw_iretP .int dz_S_lay_12 rfl (by first | rfl | exact zb_nar _) ?_ ?_
    · rw [zx_layR, h8]; rfl
    · rw [zx_layX, h8]; exact ⟨hS, zg_S.rf⟩
