theorem zq_Sp.mono {M : zq_M} {h : Nat} {args : List zq_V} {σ : zq_T} {Q Q' : Option zq_V → zq_T → Prop} (hs : zq_Sp M h args σ Q) (hQ : ∀ r τ, Q r τ → Q' r τ) : zq_Sp M h args σ Q' := by
  intro ν hok l
  refine MetFree.mono (hs ν hok l) (fun _ _ q => q) (fun _ _ _ _ _ q => q) ?_
  rintro a st o t - ⟨⟨⟨r, σ', h1, h2, h3⟩, h4⟩, h5⟩
  exact ⟨⟨⟨r, σ', h1, hQ r σ' h2, h3⟩, h4⟩, h5⟩
theorem sp_D_actX {σ : zq_T} {d : Fin 5} {A : za_D} (hA : zc_rep σ d A) (x : Int32) : zq_Sp zm_D_act 2 [zq_O 10 d, zq_I x] σ (zq_rw (zq_I (zx_doesR A x)) (fun τ => zc_rep τ d (zx_doesA A x) ∧ zd_same d σ τ)) := by
  by_cases hx : x < 0
  · refine (sp_D_actN hA hx).mono (fun r τ q => ?_)
    obtain ⟨h1, rfl⟩ := q
    rw [zx_doesR, zx_doesA, if_pos hx, if_pos hx]
    exact ⟨h1, hA, zd_same.rf⟩
  · obtain ⟨D, hD, rfl⟩ := nI_of hx
    rw [zx_doesR, zx_doesA, if_neg hx, if_neg hx, nI_clamp hD]
    exact sp_D_act hA hD
def zx_comesA (A : za_D) (p : Int32) : za_D := za_sg A (za_g A &&& ((1 <<< (p &&& 31)) ^^^ -1))
def zx_3 (x : Int32) (n : Int32) : Bool := decide (0 ≤ x ∧ x ≤ n)
theorem zx_3lt {x n : Int32} (h : x < 0) : zx_3 x n = false := decide_eq_false (fun q => by have := q.1; rw [Int32.le_iff_toInt_le] at this; rw [Int32.lt_iff_toInt_lt] at h; omega)
theorem zx_3gt {x n : Int32} (h : ¬ x ≤ n) : zx_3 x n = false := decide_eq_false (fun q => h q.2)
theorem zx_3ye {x n : Int32} (h : ¬ x < 0) (h2 : x ≤ n) : zx_3 x n = true := decide_eq_true ⟨by rw [Int32.le_iff_toInt_le]; rw [Int32.lt_iff_toInt_lt] at h; omega, h2⟩
theorem zb_in3' {x : Int32} (h : ¬ x < 0) (h2 : ¬ 2 < x) : zb_in x 3 = true := zb_in3b h h2

set_option maxHeartbeats 4000000 in
theorem sp_S_does {σ : zq_T} {X : za_X} (hS : zs_rep σ X) (hW : zx_wf X) (x : Int32) : zq_Sp zm_S_does 3 [zq_O 0 0, zq_I x] σ (zq_rw (zq_I (zx_doesR X.1 x)) (fun τ => zs_rep τ (zx_doesA X.1 x, X.2) ∧ zg_S σ τ)) := by
  have hA : zc_rep σ σ.2.2.1 X.1 := hS.2.1
  have hw : za_wf X.1 := hW.1
  have hn6 : za_n X.1 ≤ 6 := zc_n6 hA
  have hm5 : za_m X.1 ≤ 5 := zc_m5 hA
  refine zq_sp [some (zq_O 0 0), some (zq_I x)] (by decide +kernel) rfl (Nat.le_of_ble_eq_true rfl) (fun ν => ?_)
  refine gq_aload_n dz_S_does_0 rfl ?_
  refine gq_getU zf_S_53 rfl rfl dz_S_does_1 ?_
  refine gq_iload_n dz_S_does_4 rfl ?_
  refine gq_cVP (sp_D_actX hA _) zw_D_act zl_S_158 dz_S_does_5 rfl rfl rfl (by decide) rfl rfl (Nat.le_of_ble_eq_true rfl) (fun τ5 hq5 => ?_)
  refine gw_iretP .int dz_S_does_8 rfl (by first | rfl | exact zb_nar _) ?_ ?_
  · rfl
  · exact ⟨hS.duchy hq5.2 hq5.1, hq5.2.S⟩
set_option maxHeartbeats 4000000 in
theorem sp_S_comes {σ : zq_T} {X : za_X} (hS : zs_rep σ X) (hW : zx_wf X) (p : Int32) : zq_Sp zm_S_comes 1 [zq_O 0 0, zq_I p] σ (zq_rw (zq_I (if zb_in p (za_n X.1) then zb_v (zb_bit (za_g X.1) p) else -1)) (fun τ => zs_rep τ (if zb_in p (za_n X.1) then zx_comesA X.1 p else X.1, X.2) ∧ zg_S σ τ)) := by
  have hA : zc_rep σ σ.2.2.1 X.1 := hS.2.1
  have hw : za_wf X.1 := hW.1
  have hn6 : za_n X.1 ≤ 6 := zc_n6 hA
  have hm5 : za_m X.1 ≤ 5 := zc_m5 hA
  refine zq_sp [some (zq_O 0 0), some (zq_I p), none] (by decide +kernel) rfl (Nat.le_of_ble_eq_true rfl) (fun ν => ?_)
  refine gq_aload_n dz_S_comes_0 rfl ?_
  refine gq_getU zf_S_53 rfl rfl dz_S_comes_1 ?_
  refine gq_iload_n dz_S_comes_4 rfl ?_
  refine gq_cV (sp_D_isOne hA _) zw_D_isOne zl_S_95 dz_S_comes_5 rfl rfl rfl (by decide) rfl rfl (Nat.le_of_ble_eq_true rfl) ?_
  refine gw_ifb_ne (tgt := 13) dz_S_comes_8 rfl (fun h8 => ?_) (fun h8 => ?_)
  · skip
    refine gq_aload_n dz_S_comes_13 rfl ?_
    refine gq_getU zf_S_53 rfl rfl dz_S_comes_14 ?_
    refine gq_iload_n dz_S_comes_17 rfl ?_
    refine gq_cV (sp_D_isGone hA _) zw_D_isGone zl_S_107 dz_S_comes_18 rfl rfl rfl (by decide) rfl rfl (Nat.le_of_ble_eq_true rfl) ?_
    refine gw_ifb_eq (tgt := 28) dz_S_comes_21 rfl (fun h21 => ?_) (fun h21 => ?_)
    · skip
      refine gq_iconst (v := 0) dz_S_comes_28 rfl ?_
      refine gw_istore_n 2 dz_S_comes_29 rfl (Nat.le_of_ble_eq_true rfl) rfl ?_
      dsimp only [List.set]
      refine gq_aload_n dz_S_comes_30 rfl ?_
      refine gq_getU zf_S_53 rfl rfl dz_S_comes_31 ?_
      refine gq_dup dz_S_comes_34 rfl ?_
      refine gq_getI zf_S_92 rfl rfl dz_S_comes_35 ?_
      rw [zc_g hA]
      refine gq_iconst (v := 1) dz_S_comes_38 rfl ?_
      refine gq_iload_n dz_S_comes_39 rfl ?_
      refine gq_ishl dz_S_comes_40 ?_
      refine gq_iconst (v := -1) dz_S_comes_41 rfl ?_
      refine gq_ixor dz_S_comes_42 ?_
      refine gq_iand dz_S_comes_43 ?_
      refine gq_putI zv_S_92 rfl rfl dz_S_comes_44 ?_
      refine gq_iload_n dz_S_comes_47 rfl ?_
      refine gw_iretP .int dz_S_comes_48 rfl (by first | rfl | exact zb_nar _) ?_ ?_
      · rw [h8, h21]; rfl
      · rw [h8]; exact ⟨hS.duchy (zd_same.rf.up (by omega) (by omega)) (hA.sg _), zg_S.rf.up (by omega)⟩
    · skip
      refine gq_iconst (v := 1) dz_S_comes_24 rfl ?_
      refine gq_goto (tgt := 29) dz_S_comes_25 rfl ?_
      refine gw_istore_n 2 dz_S_comes_29 rfl (Nat.le_of_ble_eq_true rfl) rfl ?_
      dsimp only [List.set]
      refine gq_aload_n dz_S_comes_30 rfl ?_
      refine gq_getU zf_S_53 rfl rfl dz_S_comes_31 ?_
      refine gq_dup dz_S_comes_34 rfl ?_
      refine gq_getI zf_S_92 rfl rfl dz_S_comes_35 ?_
      rw [zc_g hA]
      refine gq_iconst (v := 1) dz_S_comes_38 rfl ?_
      refine gq_iload_n dz_S_comes_39 rfl ?_
      refine gq_ishl dz_S_comes_40 ?_
      refine gq_iconst (v := -1) dz_S_comes_41 rfl ?_
      refine gq_ixor dz_S_comes_42 ?_
      refine gq_iand dz_S_comes_43 ?_
      refine gq_putI zv_S_92 rfl rfl dz_S_comes_44 ?_
      refine gq_iload_n dz_S_comes_47 rfl ?_
      refine gw_iretP .int dz_S_comes_48 rfl (by first | rfl | exact zb_nar _) ?_ ?_
      · rw [h8, h21]; rfl
      · rw [h8]; exact ⟨hS.duchy (zd_same.rf.up (by omega) (by omega)) (hA.sg _), zg_S.rf.up (by omega)⟩
  · skip
    refine gq_iconst (v := -1) dz_S_comes_11 rfl ?_
    refine gw_iretP .int dz_S_comes_12 rfl (by first | rfl | exact zb_nar _) ?_ ?_
    · rw [h8]; rfl
    · rw [h8]; exact ⟨hS, zg_S.rf⟩
set_option maxHeartbeats 4000000 in
theorem sp_S_tries {σ : zq_T} {X : za_X} (hS : zs_rep σ X) (hW : zx_wf X) (p n : Int32) : zq_Sp zm_S_tries 1 [zq_O 0 0, zq_I p, zq_I n] σ (zq_rw (zq_I (if zb_in p (za_n X.1) && zx_3 n 3 then za_tr X.1 p.toNatClampNeg else -1)) (fun τ => zs_rep τ (if zb_in p (za_n X.1) && zx_3 n 3 then za_st X.1 (upd (za_tr X.1) p.toNatClampNeg n) else X.1, X.2) ∧ zg_S σ τ)) := by
  have hA : zc_rep σ σ.2.2.1 X.1 := hS.2.1
  have hw : za_wf X.1 := hW.1
  have hn6 : za_n X.1 ≤ 6 := zc_n6 hA
  have hm5 : za_m X.1 ≤ 5 := zc_m5 hA
  refine zq_sp [some (zq_O 0 0), some (zq_I p), some (zq_I n), none] (by decide +kernel) rfl (Nat.le_of_ble_eq_true rfl) (fun ν => ?_)
  refine gq_aload_n dz_S_tries_0 rfl ?_
  refine gq_getU zf_S_53 rfl rfl dz_S_tries_1 ?_
  refine gq_iload_n dz_S_tries_4 rfl ?_
  refine gq_cV (sp_D_isOne hA _) zw_D_isOne zl_S_95 dz_S_tries_5 rfl rfl rfl (by decide) rfl rfl (Nat.le_of_ble_eq_true rfl) ?_
  refine gw_ifb_eq (tgt := 20) dz_S_tries_8 rfl (fun h8 => ?_) (fun h8 => ?_)
  · skip
    refine gq_iconst (v := -1) dz_S_tries_20 rfl ?_
    refine gw_iretP .int dz_S_tries_21 rfl (by first | rfl | exact zb_nar _) ?_ ?_
    · rw [h8]; rfl
    · rw [h8]; exact ⟨hS, zg_S.rf⟩
  · skip
    refine gq_iload_n dz_S_tries_11 rfl ?_
    refine gq_if_lt (tgt := 20) dz_S_tries_12 rfl (fun h12 => ?_) (fun h12 => ?_)
    · skip
      refine gq_iconst (v := -1) dz_S_tries_20 rfl ?_
      refine gw_iretP .int dz_S_tries_21 rfl (by first | rfl | exact zb_nar _) ?_ ?_
      · rw [zx_3lt h12, Bool.and_false]; rfl
      · rw [zx_3lt h12, Bool.and_false]; exact ⟨hS, zg_S.rf⟩
    · skip
      refine gq_iload_n dz_S_tries_15 rfl ?_
      refine gq_iconst (v := 3) dz_S_tries_16 rfl ?_
      refine gq_icmp_le (tgt := 22) dz_S_tries_17 rfl (fun h17 => ?_) (fun h17 => ?_)
      · skip
        obtain ⟨q, hq, rfl⟩ := (zb_in_iff (by omega)).mp h8
        have hc : (nI q).toNatClampNeg = q := nI_clamp (by omega)
        refine gq_aload_n dz_S_tries_22 rfl ?_
        refine gq_getU zf_S_53 rfl rfl dz_S_tries_23 ?_
        refine gq_getR 14 zf_S_104 rfl rfl dz_S_tries_26 ?_
        refine gq_iload_n dz_S_tries_29 rfl ?_
        refine gw_iald (q) (rfl) rfl (rfl) (Nat.le_of_ble_eq_true rfl) (by omega) dz_S_tries_30 ?_
        rw [zc_tr hA (by omega)]
        refine gw_istore_n 3 dz_S_tries_31 rfl (Nat.le_of_ble_eq_true rfl) rfl ?_
        dsimp only [List.set]
        refine gq_aload_n dz_S_tries_32 rfl ?_
        refine gq_getU zf_S_53 rfl rfl dz_S_tries_33 ?_
        refine gq_getR 14 zf_S_104 rfl rfl dz_S_tries_36 ?_
        refine gq_iload_n dz_S_tries_39 rfl ?_
        refine gq_iload_n dz_S_tries_40 rfl ?_
        refine gw_iast (q) (rfl) rfl (rfl) (Nat.le_of_ble_eq_true rfl) (by omega) dz_S_tries_41 ?_
        refine gq_iload_n dz_S_tries_42 rfl ?_
        refine gw_iretP .int dz_S_tries_43 rfl (by first | rfl | exact zb_nar _) ?_ ?_
        · rw [h8, zx_3ye h12 h17, hc]; rfl
        · rw [h8, zx_3ye h12 h17, hc]; exact ⟨hS.duchy (zd_same.rf.up (by omega) (by omega)) (hA.st _ _), zg_S.rf.up (by omega)⟩
      · skip
        refine gq_iconst (v := -1) dz_S_tries_20 rfl ?_
        refine gw_iretP .int dz_S_tries_21 rfl (by first | rfl | exact zb_nar _) ?_ ?_
        · rw [zx_3gt h17, Bool.and_false]; rfl
        · rw [zx_3gt h17, Bool.and_false]; exact ⟨hS, zg_S.rf⟩
set_option maxHeartbeats 4000000 in
theorem sp_S_hush {σ : zq_T} {X : za_X} (hS : zs_rep σ X) (hW : zx_wf X) (p f : Int32) : zq_Sp zm_S_hush 2 [zq_O 0 0, zq_I p, zq_I f] σ (zq_rw (zq_I (if zb_in p (za_n X.1) && zb_in f 5 then zb_v (zb_bit (za_fa X.1 p.toNatClampNeg) f) else -1)) (fun τ => zs_rep τ (if zb_in p (za_n X.1) && zb_in f 5 then za_sf X.1 (upd (za_fa X.1) p.toNatClampNeg (za_fa X.1 p.toNatClampNeg &&& ((1 <<< (f &&& 31)) ^^^ -1))) else X.1, X.2) ∧ zg_S σ τ)) := by
  have hA : zc_rep σ σ.2.2.1 X.1 := hS.2.1
  have hw : za_wf X.1 := hW.1
  have hn6 : za_n X.1 ≤ 6 := zc_n6 hA
  have hm5 : za_m X.1 ≤ 5 := zc_m5 hA
  refine zq_sp [some (zq_O 0 0), some (zq_I p), some (zq_I f), none] (by decide +kernel) rfl (Nat.le_of_ble_eq_true rfl) (fun ν => ?_)
  refine gq_aload_n dz_S_hush_0 rfl ?_
  refine gq_getU zf_S_53 rfl rfl dz_S_hush_1 ?_
  refine gq_iload_n dz_S_hush_4 rfl ?_
  refine gq_cV (sp_D_isOne hA _) zw_D_isOne zl_S_95 dz_S_hush_5 rfl rfl rfl (by decide) rfl rfl (Nat.le_of_ble_eq_true rfl) ?_
  refine gw_ifb_eq (tgt := 18) dz_S_hush_8 rfl (fun h8 => ?_) (fun h8 => ?_)
  · skip
    refine gq_iconst (v := -1) dz_S_hush_18 rfl ?_
    refine gw_iretP .int dz_S_hush_19 rfl (by first | rfl | exact zb_nar _) ?_ ?_
    · rw [h8]; rfl
    · rw [h8]; exact ⟨hS, zg_S.rf⟩
  · skip
    refine gq_iload_n dz_S_hush_11 rfl ?_
    refine gq_cS (sp_S_isFact _) zw_S_isFact zl_S_117 dz_S_hush_12 (by decide) rfl rfl (Nat.le_of_ble_eq_true rfl) ?_
    refine gw_ifb_ne (tgt := 20) dz_S_hush_15 rfl (fun h15 => ?_) (fun h15 => ?_)
    · skip
      have h8b := h8
      obtain ⟨q, hq, rfl⟩ := (zb_in_iff (by omega)).mp h8
      have hc : (nI q).toNatClampNeg = q := nI_clamp (by omega)
      refine gq_aload_n dz_S_hush_20 rfl ?_
      refine gq_getU zf_S_53 rfl rfl dz_S_hush_21 ?_
      refine gq_iload_n dz_S_hush_24 rfl ?_
      refine gq_iload_n dz_S_hush_25 rfl ?_
      refine gq_cV (sp_D_isKnown hA _ _) zw_D_isKnown zl_S_161 dz_S_hush_26 rfl rfl rfl (by decide) rfl rfl (Nat.le_of_ble_eq_true rfl) ?_
      refine gw_ifb_eq (tgt := 36) dz_S_hush_29 rfl (fun h29 => ?_) (fun h29 => ?_)
      · skip
        rw [h8b, Bool.true_and, hc] at h29
        refine gq_iconst (v := 0) dz_S_hush_36 rfl ?_
        refine gw_istore_n 3 dz_S_hush_37 rfl (Nat.le_of_ble_eq_true rfl) rfl ?_
        dsimp only [List.set]
        refine gq_aload_n dz_S_hush_38 rfl ?_
        refine gq_getU zf_S_53 rfl rfl dz_S_hush_39 ?_
        refine gq_getR 13 zf_S_101 rfl rfl dz_S_hush_42 ?_
        refine gq_iload_n dz_S_hush_45 rfl ?_
        refine gq_dup2 dz_S_hush_46 rfl rfl ?_
        refine gw_iald (q) (rfl) rfl (rfl) (Nat.le_of_ble_eq_true rfl) (by omega) dz_S_hush_47 ?_
        rw [zc_fa hA (by omega)]
        refine gq_iconst (v := 1) dz_S_hush_48 rfl ?_
        refine gq_iload_n dz_S_hush_49 rfl ?_
        refine gq_ishl dz_S_hush_50 ?_
        refine gq_iconst (v := -1) dz_S_hush_51 rfl ?_
        refine gq_ixor dz_S_hush_52 ?_
        refine gq_iand dz_S_hush_53 ?_
        refine gw_iast (q) (rfl) rfl (rfl) (Nat.le_of_ble_eq_true rfl) (by omega) dz_S_hush_54 ?_
        refine gq_iload_n dz_S_hush_55 rfl ?_
        refine gw_iretP .int dz_S_hush_56 rfl (by first | rfl | exact zb_nar _) ?_ ?_
        · rw [h8b, h15, hc, h29]; rfl
        · rw [h8b, h15, hc]; exact ⟨hS.duchy (zd_same.rf.up (by omega) (by omega)) (hA.sf _ _), zg_S.rf.up (by omega)⟩
      · skip
        rw [h8b, Bool.true_and, hc] at h29
        refine gq_iconst (v := 1) dz_S_hush_32 rfl ?_
        refine gq_goto (tgt := 37) dz_S_hush_33 rfl ?_
        refine gw_istore_n 3 dz_S_hush_37 rfl (Nat.le_of_ble_eq_true rfl) rfl ?_
        dsimp only [List.set]
        refine gq_aload_n dz_S_hush_38 rfl ?_
        refine gq_getU zf_S_53 rfl rfl dz_S_hush_39 ?_
        refine gq_getR 13 zf_S_101 rfl rfl dz_S_hush_42 ?_
        refine gq_iload_n dz_S_hush_45 rfl ?_
        refine gq_dup2 dz_S_hush_46 rfl rfl ?_
        refine gw_iald (q) (rfl) rfl (rfl) (Nat.le_of_ble_eq_true rfl) (by omega) dz_S_hush_47 ?_
        rw [zc_fa hA (by omega)]
        refine gq_iconst (v := 1) dz_S_hush_48 rfl ?_
        refine gq_iload_n dz_S_hush_49 rfl ?_
        refine gq_ishl dz_S_hush_50 ?_
        refine gq_iconst (v := -1) dz_S_hush_51 rfl ?_
        refine gq_ixor dz_S_hush_52 ?_
        refine gq_iand dz_S_hush_53 ?_
        refine gw_iast (q) (rfl) rfl (rfl) (Nat.le_of_ble_eq_true rfl) (by omega) dz_S_hush_54 ?_
        refine gq_iload_n dz_S_hush_55 rfl ?_
        refine gw_iretP .int dz_S_hush_56 rfl (by first | rfl | exact zb_nar _) ?_ ?_
        · rw [h8b, h15, hc, h29]; rfl
        · rw [h8b, h15, hc]; exact ⟨hS.duchy (zd_same.rf.up (by omega) (by omega)) (hA.sf _ _), zg_S.rf.up (by omega)⟩
    · skip
      refine gq_iconst (v := -1) dz_S_hush_18 rfl ?_
      refine gw_iretP .int dz_S_hush_19 rfl (by first | rfl | exact zb_nar _) ?_ ?_
      · rw [h15, Bool.and_false]; rfl
      · rw [h15, Bool.and_false]; exact ⟨hS, zg_S.rf⟩
set_option maxHeartbeats 4000000 in
theorem sp_S_weigh {σ : zq_T} {X : za_X} (hS : zs_rep σ X) (hW : zx_wf X) (f v : Int32) : zq_Sp zm_S_weigh 1 [zq_O 0 0, zq_I f, zq_I v] σ (zq_rw (zq_I (if zb_in f 5 && zx_3 v 10 then za_od X.1 f.toNatClampNeg else -1)) (fun τ => zs_rep τ (if zb_in f 5 && zx_3 v 10 then za_so X.1 (upd (za_od X.1) f.toNatClampNeg v) else X.1, X.2) ∧ zg_S σ τ)) := by
  have hA : zc_rep σ σ.2.2.1 X.1 := hS.2.1
  have hw : za_wf X.1 := hW.1
  have hn6 : za_n X.1 ≤ 6 := zc_n6 hA
  have hm5 : za_m X.1 ≤ 5 := zc_m5 hA
  refine zq_sp [some (zq_O 0 0), some (zq_I f), some (zq_I v), none] (by decide +kernel) rfl (Nat.le_of_ble_eq_true rfl) (fun ν => ?_)
  refine gq_iload_n dz_S_weigh_0 rfl ?_
  refine gq_cS (sp_S_isFact _) zw_S_isFact zl_S_117 dz_S_weigh_1 (by decide) rfl rfl (Nat.le_of_ble_eq_true rfl) ?_
  refine gw_ifb_eq (tgt := 17) dz_S_weigh_4 rfl (fun h4 => ?_) (fun h4 => ?_)
  · skip
    refine gq_iconst (v := -1) dz_S_weigh_17 rfl ?_
    refine gw_iretP .int dz_S_weigh_18 rfl (by first | rfl | exact zb_nar _) ?_ ?_
    · rw [h4]; rfl
    · rw [h4]; exact ⟨hS, zg_S.rf⟩
  · skip
    refine gq_iload_n dz_S_weigh_7 rfl ?_
    refine gq_if_lt (tgt := 17) dz_S_weigh_8 rfl (fun h8 => ?_) (fun h8 => ?_)
    · skip
      refine gq_iconst (v := -1) dz_S_weigh_17 rfl ?_
      refine gw_iretP .int dz_S_weigh_18 rfl (by first | rfl | exact zb_nar _) ?_ ?_
      · rw [zx_3lt h8, Bool.and_false]; rfl
      · rw [zx_3lt h8, Bool.and_false]; exact ⟨hS, zg_S.rf⟩
    · skip
      refine gq_iload_n dz_S_weigh_11 rfl ?_
      refine gq_bipush (v := 10) dz_S_weigh_12 rfl ?_
      refine gq_icmp_le (tgt := 19) dz_S_weigh_14 rfl (fun h14 => ?_) (fun h14 => ?_)
      · skip
        have h4b := h4
        obtain ⟨q, hq, rfl⟩ := (zb_in_iff (by omega)).mp h4
        have hc : (nI q).toNatClampNeg = q := nI_clamp (by omega)
        refine gq_aload_n dz_S_weigh_19 rfl ?_
        refine gq_getU zf_S_53 rfl rfl dz_S_weigh_20 ?_
        refine gq_getR 15 zf_S_120 rfl rfl dz_S_weigh_23 ?_
        refine gq_iload_n dz_S_weigh_26 rfl ?_
        refine gw_iald (q) (rfl) rfl (rfl) (Nat.le_of_ble_eq_true rfl) (by omega) dz_S_weigh_27 ?_
        rw [zc_od hA (by omega)]
        refine gw_istore_n 3 dz_S_weigh_28 rfl (Nat.le_of_ble_eq_true rfl) rfl ?_
        dsimp only [List.set]
        refine gq_aload_n dz_S_weigh_29 rfl ?_
        refine gq_getU zf_S_53 rfl rfl dz_S_weigh_30 ?_
        refine gq_getR 15 zf_S_120 rfl rfl dz_S_weigh_33 ?_
        refine gq_iload_n dz_S_weigh_36 rfl ?_
        refine gq_iload_n dz_S_weigh_37 rfl ?_
        refine gw_iast (q) (rfl) rfl (rfl) (Nat.le_of_ble_eq_true rfl) (by omega) dz_S_weigh_38 ?_
        refine gq_iload_n dz_S_weigh_39 rfl ?_
        refine gw_iretP .int dz_S_weigh_40 rfl (by first | rfl | exact zb_nar _) ?_ ?_
        · rw [h4b, zx_3ye h8 h14, hc]; rfl
        · rw [h4b, zx_3ye h8 h14, hc]; exact ⟨hS.duchy (zd_same.rf.up (by omega) (by omega)) (hA.so _ _), zg_S.rf.up (by omega)⟩
      · skip
        refine gq_iconst (v := -1) dz_S_weigh_17 rfl ?_
        refine gw_iretP .int dz_S_weigh_18 rfl (by first | rfl | exact zb_nar _) ?_ ?_
        · rw [zx_3gt h14, Bool.and_false]; rfl
        · rw [zx_3gt h14, Bool.and_false]; exact ⟨hS, zg_S.rf⟩
def zx_clash (A : za_D) (k : Nat) (r : Int32) : Nat → Bool := fun o => !(o == k) && ((za_th A o == za_th A k) && (za_rk A o == r))
def zx_r19 (r : Int32) : Bool := decide (1 ≤ r ∧ r ≤ 9)
def zx_rankR1 (A : za_D) (k : Nat) (r : Int32) : Int32 := if zx_r19 r = false then -1 else if zf_any (zx_clash A k r) (za_m A) then -2 else za_rk A k
def zx_rankA1 (A : za_D) (k : Nat) (r : Int32) : za_D := if zx_r19 r = false then A else if zf_any (zx_clash A k r) (za_m A) then A else za_sr A (upd (za_rk A) k r)
def zx_rankR (A : za_D) (k r : Int32) : Int32 := if zb_in k (za_m A) then zx_rankR1 A k.toNatClampNeg r else -1
def zx_rankA (A : za_D) (k r : Int32) : za_D := if zb_in k (za_m A) then zx_rankA1 A k.toNatClampNeg r else A
set_option maxHeartbeats 4000000 in
theorem sp_S_isPick {σ : zq_T} (x : Int32) : zq_Sp zm_S_isPick 0 [zq_I x] σ (zq_rv (zq_I (zb_v (zb_in x 3))) σ) := by
  refine zq_sp [some (zq_I x)] (by decide +kernel) rfl (Nat.le_of_ble_eq_true rfl) (fun ν => ?_)
  refine gq_iload_n dz_S_isPick_0 rfl ?_
  refine gq_if_lt (tgt := 13) dz_S_isPick_1 rfl (fun h1 => ?_) (fun h1 => ?_)
  · skip
    refine gq_iconst (v := 0) dz_S_isPick_13 rfl ?_
    refine gw_iret .boolean dz_S_isPick_14 rfl (by first | rfl | exact zb_nar _) ?_ ?_
    · rw [zb_in_lt h1]; rfl
    · rfl
  · skip
    refine gq_iload_n dz_S_isPick_4 rfl ?_
    refine gq_iconst (v := 2) dz_S_isPick_5 rfl ?_
    refine gq_icmp_gt (tgt := 13) dz_S_isPick_6 rfl (fun h6 => ?_) (fun h6 => ?_)
    · skip
      refine gq_iconst (v := 0) dz_S_isPick_13 rfl ?_
      refine gw_iret .boolean dz_S_isPick_14 rfl (by first | rfl | exact zb_nar _) ?_ ?_
      · rw [zb_in3 h6]; rfl
      · rfl
    · skip
      refine gq_iconst (v := 1) dz_S_isPick_9 rfl ?_
      refine gq_goto (tgt := 14) dz_S_isPick_10 rfl ?_
      refine gw_iret .boolean dz_S_isPick_14 rfl (by first | rfl | exact zb_nar _) ?_ ?_
      · rw [zb_in3b h1 h6]; rfl
      · rfl
set_option maxHeartbeats 4000000 in
theorem sp_S_rank {σ : zq_T} {X : za_X} (hS : zs_rep σ X) (hW : zx_wf X) (k r : Int32) : zq_Sp zm_S_rank 1 [zq_O 0 0, zq_I k, zq_I r] σ (zq_rw (zq_I (zx_rankR X.1 k r)) (fun τ => zs_rep τ (zx_rankA X.1 k r, X.2) ∧ zg_S σ τ)) := by
  have hA : zc_rep σ σ.2.2.1 X.1 := hS.2.1
  have hw : za_wf X.1 := hW.1
  have hn6 : za_n X.1 ≤ 6 := zc_n6 hA
  have hm5 : za_m X.1 ≤ 5 := zc_m5 hA
  refine zq_sp [some (zq_O 0 0), some (zq_I k), some (zq_I r), none] (by decide +kernel) rfl (Nat.le_of_ble_eq_true rfl) (fun ν => ?_)
  refine gq_aload_n dz_S_rank_0 rfl ?_
  refine gq_getU zf_S_53 rfl rfl dz_S_rank_1 ?_
  refine gq_iload_n dz_S_rank_4 rfl ?_
  refine gq_cV (sp_D_isRule hA _) zw_D_isRule zl_S_123 dz_S_rank_5 rfl rfl rfl (by decide) rfl rfl (Nat.le_of_ble_eq_true rfl) ?_
  refine gw_ifb_eq (tgt := 22) dz_S_rank_8 rfl (fun h8 => ?_) (fun h8 => ?_)
  · skip
    refine gq_iconst (v := -1) dz_S_rank_22 rfl ?_
    refine gw_iretP .int dz_S_rank_23 rfl (by first | rfl | exact zb_nar _) ?_ ?_
    · rw [zx_rankR, h8]; rfl
    · rw [zx_rankA, h8]; exact ⟨hS, zg_S.rf⟩
  · skip
    obtain ⟨q, hq, rfl⟩ := (zb_in_iff (by omega)).mp h8
    refine gq_iload_n dz_S_rank_11 rfl ?_
    refine gq_iconst (v := 1) dz_S_rank_12 rfl ?_
    refine gq_icmp_lt (tgt := 22) dz_S_rank_13 rfl (fun h13 => ?_) (fun h13 => ?_)
    · skip
      have hr : zx_r19 r = false := decide_eq_false (fun z => by have := z.1; rw [Int32.le_iff_toInt_le] at this; rw [Int32.lt_iff_toInt_lt] at h13; omega)
      refine gq_iconst (v := -1) dz_S_rank_22 rfl ?_
      refine gw_iretP .int dz_S_rank_23 rfl (by first | rfl | exact zb_nar _) ?_ ?_
      · rw [zx_rankR, zx_in (x := 0) (f := fun i => zx_rankR1 X.1 i _) hq (by omega), zx_rankR1, if_pos hr]
      · rw [zx_rankA, zx_in (x := 0) (f := fun i => zx_rankA1 X.1 i _) hq (by omega), zx_rankA1, if_pos hr]; exact ⟨hS, zg_S.rf⟩
    · skip
      refine gq_iload_n dz_S_rank_16 rfl ?_
      refine gq_bipush (v := 9) dz_S_rank_17 rfl ?_
      refine gq_icmp_le (tgt := 24) dz_S_rank_19 rfl (fun h19 => ?_) (fun h19 => ?_)
      · skip
        have hr : ¬ zx_r19 r = false := fun z => of_decide_eq_false z ⟨by rw [Int32.le_iff_toInt_le]; rw [Int32.lt_iff_toInt_lt] at h13; omega, h19⟩
        refine gq_iconst (v := 0) dz_S_rank_24 rfl ?_
        refine gw_istore_n 3 dz_S_rank_25 rfl (Nat.le_of_ble_eq_true rfl) rfl ?_
        dsimp only [List.set]
        have L26 : ∀ (kf : Nat) (o : Nat) (hkf : za_m X.1 - o < kf) (ho : o ≤ za_m X.1) (hf : zf_any (zx_clash X.1 q r) o = false), zq_G ν zm_S_rank 1 (zq_rw (zq_I (zx_rankR X.1 (nI q) r)) (fun τ => zs_rep τ (zx_rankA X.1 (nI q) r, X.2) ∧ zg_S σ τ)) 26 [some (zq_O 0 0), some (zq_I (nI q)), some (zq_I r), some (zq_I (nI o))] [] σ := by
          intro kf
          induction kf with
          | zero => intro o hkf ho hf; exact absurd hkf (Nat.not_lt_zero _)
          | succ kf ih26 =>
            intro o hkf ho hf
            refine gq_iload_n dz_S_rank_26 rfl ?_
            refine gq_aload_n dz_S_rank_27 rfl ?_
            refine gq_getU zf_S_53 rfl rfl dz_S_rank_28 ?_
            refine gq_getI zf_S_89 rfl rfl dz_S_rank_31 ?_
            rw [zc_m hA]
            refine gq_icmp_ge (tgt := 85) dz_S_rank_34 rfl (fun h34 => ?_) (fun h34 => ?_)
            · skip
              have ho : o = za_m X.1 := zq_leq h34 ho (by omega)
              subst ho
              refine gq_aload_n dz_S_rank_85 rfl ?_
              refine gq_getU zf_S_53 rfl rfl dz_S_rank_86 ?_
              refine gq_getR 16 zf_S_126 rfl rfl dz_S_rank_89 ?_
              refine gq_iload_n dz_S_rank_92 rfl ?_
              refine gw_iald (q) (rfl) rfl (rfl) (Nat.le_of_ble_eq_true rfl) (by omega) dz_S_rank_93 ?_
              rw [zc_rk hA hq]
              refine gw_istore_n 3 dz_S_rank_94 rfl (Nat.le_of_ble_eq_true rfl) rfl ?_
              dsimp only [List.set]
              refine gq_aload_n dz_S_rank_95 rfl ?_
              refine gq_getU zf_S_53 rfl rfl dz_S_rank_96 ?_
              refine gq_getR 16 zf_S_126 rfl rfl dz_S_rank_99 ?_
              refine gq_iload_n dz_S_rank_102 rfl ?_
              refine gq_iload_n dz_S_rank_103 rfl ?_
              refine gw_iast (q) (rfl) rfl (rfl) (Nat.le_of_ble_eq_true rfl) (by omega) dz_S_rank_104 ?_
              refine gq_iload_n dz_S_rank_105 rfl ?_
              refine gw_iretP .int dz_S_rank_106 rfl (by first | rfl | exact zb_nar _) ?_ ?_
              · rw [zx_rankR, zx_in (x := 0) (f := fun i => zx_rankR1 X.1 i _) hq (by omega), zx_rankR1, if_neg hr, hf]; rfl
              · rw [zx_rankA, zx_in (x := 0) (f := fun i => zx_rankA1 X.1 i _) hq (by omega), zx_rankA1, if_neg hr, hf]; exact ⟨hS.duchy (zd_same.rf.up (by omega) (by omega)) (hA.sr _ _), zg_S.rf.up (by omega)⟩
            · skip
              have ho2 : o < za_m X.1 := by rcases Nat.lt_or_ge o (za_m X.1) with z | z; exact z; exact absurd (nI_le z (by omega)) h34
              refine gq_iload_n dz_S_rank_37 rfl ?_
              refine gq_iload_n dz_S_rank_38 rfl ?_
              refine gq_icmp_eq (tgt := 79) dz_S_rank_39 rfl (fun h39 => ?_) (fun h39 => ?_)
              · skip
                refine gw_iinc 3 (c := 1) dz_S_rank_79 rfl rfl (Nat.le_of_ble_eq_true rfl) rfl ?_
                dsimp only [List.set]
                refine gq_goto (tgt := 26) dz_S_rank_82 rfl ?_
                simp only [nI_1]
                exact zq_fewer _ (zq_sub_spec (by repeat (first | exact trivial | exact rfl | refine And.intro ?_ ?_))) (ih26 (o + 1) (by omega) (by omega) (by rw [zf_any, hf, zx_clash, (nI_eq (by omega) (by omega)).mp h39]; simp))
              · skip
                refine gq_aload_n dz_S_rank_42 rfl ?_
                refine gq_getU zf_S_53 rfl rfl dz_S_rank_43 ?_
                refine gq_getR 17 zf_S_129 rfl rfl dz_S_rank_46 ?_
                refine gq_iload_n dz_S_rank_49 rfl ?_
                refine gw_iald (o) (rfl) rfl (rfl) (Nat.le_of_ble_eq_true rfl) (by omega) dz_S_rank_50 ?_
                rw [zc_th hA ho2]
                refine gq_aload_n dz_S_rank_51 rfl ?_
                refine gq_getU zf_S_53 rfl rfl dz_S_rank_52 ?_
                refine gq_getR 17 zf_S_129 rfl rfl dz_S_rank_55 ?_
                refine gq_iload_n dz_S_rank_58 rfl ?_
                refine gw_iald (q) (rfl) rfl (rfl) (Nat.le_of_ble_eq_true rfl) (by omega) dz_S_rank_59 ?_
                rw [zc_th hA hq]
                refine gq_icmp_ne (tgt := 79) dz_S_rank_60 rfl (fun h60 => ?_) (fun h60 => ?_)
                · skip
                  refine gw_iinc 3 (c := 1) dz_S_rank_79 rfl rfl (Nat.le_of_ble_eq_true rfl) rfl ?_
                  dsimp only [List.set]
                  refine gq_goto (tgt := 26) dz_S_rank_82 rfl ?_
                  simp only [nI_1]
                  exact zq_fewer _ (zq_sub_spec (by repeat (first | exact trivial | exact rfl | refine And.intro ?_ ?_))) (ih26 (o + 1) (by omega) (by omega) (by rw [zf_any, hf, zx_clash, beq_false_of_ne h60]; simp))
                · skip
                  refine gq_aload_n dz_S_rank_63 rfl ?_
                  refine gq_getU zf_S_53 rfl rfl dz_S_rank_64 ?_
                  refine gq_getR 16 zf_S_126 rfl rfl dz_S_rank_67 ?_
                  refine gq_iload_n dz_S_rank_70 rfl ?_
                  refine gw_iald (o) (rfl) rfl (rfl) (Nat.le_of_ble_eq_true rfl) (by omega) dz_S_rank_71 ?_
                  rw [zc_rk hA ho2]
                  refine gq_iload_n dz_S_rank_72 rfl ?_
                  refine gq_icmp_ne (tgt := 79) dz_S_rank_73 rfl (fun h73 => ?_) (fun h73 => ?_)
                  · skip
                    refine gw_iinc 3 (c := 1) dz_S_rank_79 rfl rfl (Nat.le_of_ble_eq_true rfl) rfl ?_
                    dsimp only [List.set]
                    refine gq_goto (tgt := 26) dz_S_rank_82 rfl ?_
                    simp only [nI_1]
                    exact zq_fewer _ (zq_sub_spec (by repeat (first | exact trivial | exact rfl | refine And.intro ?_ ?_))) (ih26 (o + 1) (by omega) (by omega) (by rw [zf_any, hf, zx_clash, beq_false_of_ne h73]; simp))
                  · skip
                    refine gq_bipush (v := -2) dz_S_rank_76 rfl ?_
                    refine gw_iretP .int dz_S_rank_78 rfl (by first | rfl | exact zb_nar _) ?_ ?_
                    · rw [zx_rankR, zx_in (x := 0) (f := fun i => zx_rankR1 X.1 i _) hq (by omega), zx_rankR1, if_neg hr, zf_any_of ho2 (by simp [zx_clash, h60, h73, show ¬ o = q from fun z => h39 (by rw [z])])]; rfl
                    · rw [zx_rankA, zx_in (x := 0) (f := fun i => zx_rankA1 X.1 i _) hq (by omega), zx_rankA1, if_neg hr, zf_any_of ho2 (by simp [zx_clash, h60, h73, show ¬ o = q from fun z => h39 (by rw [z])])]; exact ⟨hS, zg_S.rf⟩
        exact zq_fewer _ (zq_sub_spec (by repeat (first | exact trivial | exact rfl | refine And.intro ?_ ?_))) (L26 (za_m X.1 + 1) 0 (by omega) (by omega) rfl)
      · skip
        have hr : zx_r19 r = false := decide_eq_false (fun z => h19 z.2)
        refine gq_iconst (v := -1) dz_S_rank_22 rfl ?_
        refine gw_iretP .int dz_S_rank_23 rfl (by first | rfl | exact zb_nar _) ?_ ?_
        · rw [zx_rankR, zx_in (x := 0) (f := fun i => zx_rankR1 X.1 i _) hq (by omega), zx_rankR1, if_pos hr]
        · rw [zx_rankA, zx_in (x := 0) (f := fun i => zx_rankA1 X.1 i _) hq (by omega), zx_rankA1, if_pos hr]; exact ⟨hS, zg_S.rf⟩
set_option maxHeartbeats 4000000 in
theorem sp_S_pick {σ : zq_T} {X : za_X} (hS : zs_rep σ X) (hW : zx_wf X) (k v : Int32) : zq_Sp zm_S_pick 1 [zq_O 0 0, zq_I k, zq_I v] σ (zq_rw (zq_I (if zb_in k (za_m X.1) && zb_in v 3 then za_pi X.1 k.toNatClampNeg else -1)) (fun τ => zs_rep τ (if zb_in k (za_m X.1) && zb_in v 3 then za_sp X.1 (upd (za_pi X.1) k.toNatClampNeg v) else X.1, X.2) ∧ zg_S σ τ)) := by
  have hA : zc_rep σ σ.2.2.1 X.1 := hS.2.1
  have hw : za_wf X.1 := hW.1
  have hn6 : za_n X.1 ≤ 6 := zc_n6 hA
  have hm5 : za_m X.1 ≤ 5 := zc_m5 hA
  refine zq_sp [some (zq_O 0 0), some (zq_I k), some (zq_I v), none] (by decide +kernel) rfl (Nat.le_of_ble_eq_true rfl) (fun ν => ?_)
  refine gq_aload_n dz_S_pick_0 rfl ?_
  refine gq_getU zf_S_53 rfl rfl dz_S_pick_1 ?_
  refine gq_iload_n dz_S_pick_4 rfl ?_
  refine gq_cV (sp_D_isRule hA _) zw_D_isRule zl_S_123 dz_S_pick_5 rfl rfl rfl (by decide) rfl rfl (Nat.le_of_ble_eq_true rfl) ?_
  refine gw_ifb_eq (tgt := 18) dz_S_pick_8 rfl (fun h8 => ?_) (fun h8 => ?_)
  · skip
    refine gq_iconst (v := -1) dz_S_pick_18 rfl ?_
    refine gw_iretP .int dz_S_pick_19 rfl (by first | rfl | exact zb_nar _) ?_ ?_
    · rw [h8]; rfl
    · rw [h8]; exact ⟨hS, zg_S.rf⟩
  · skip
    refine gq_iload_n dz_S_pick_11 rfl ?_
    refine gq_cS (sp_S_isPick _) zw_S_isPick zl_S_165 dz_S_pick_12 (by decide) rfl rfl (Nat.le_of_ble_eq_true rfl) ?_
    refine gw_ifb_ne (tgt := 20) dz_S_pick_15 rfl (fun h15 => ?_) (fun h15 => ?_)
    · skip
      have h8b := h8
      obtain ⟨q, hq, rfl⟩ := (zb_in_iff (by omega)).mp h8
      have hc : (nI q).toNatClampNeg = q := nI_clamp (by omega)
      refine gq_aload_n dz_S_pick_20 rfl ?_
      refine gq_getU zf_S_53 rfl rfl dz_S_pick_21 ?_
      refine gq_getR 20 zf_S_138 rfl rfl dz_S_pick_24 ?_
      refine gq_iload_n dz_S_pick_27 rfl ?_
      refine gw_iald (q) (rfl) rfl (rfl) (Nat.le_of_ble_eq_true rfl) (by omega) dz_S_pick_28 ?_
      rw [zc_pi hA hq]
      refine gw_istore_n 3 dz_S_pick_29 rfl (Nat.le_of_ble_eq_true rfl) rfl ?_
      dsimp only [List.set]
      refine gq_aload_n dz_S_pick_30 rfl ?_
      refine gq_getU zf_S_53 rfl rfl dz_S_pick_31 ?_
      refine gq_getR 20 zf_S_138 rfl rfl dz_S_pick_34 ?_
      refine gq_iload_n dz_S_pick_37 rfl ?_
      refine gq_iload_n dz_S_pick_38 rfl ?_
      refine gw_iast (q) (rfl) rfl (rfl) (Nat.le_of_ble_eq_true rfl) (by omega) dz_S_pick_39 ?_
      refine gq_iload_n dz_S_pick_40 rfl ?_
      refine gw_iretP .int dz_S_pick_41 rfl (by first | rfl | exact zb_nar _) ?_ ?_
      · rw [h8b, h15, hc]; rfl
      · rw [h8b, h15, hc]; exact ⟨hS.duchy (zd_same.rf.up (by omega) (by omega)) (hA.sp _ _), zg_S.rf.up (by omega)⟩
    · skip
      refine gq_iconst (v := -1) dz_S_pick_18 rfl ?_
      refine gw_iretP .int dz_S_pick_19 rfl (by first | rfl | exact zb_nar _) ?_ ?_
      · rw [h15, Bool.and_false]; rfl
      · rw [h15, Bool.and_false]; exact ⟨hS, zg_S.rf⟩
