/-! THE MODEL'S CHANGES -/
theorem zs_acts_tr {A : za_D} {D : Nat} : za_tr (zs_acts A D) (D / 10) = if D % 10 = 6 then za_tr A (D / 10) else za_tr A (D / 10) + 1 := by
  unfold zs_acts
  by_cases h : D % 10 = 6
  · rw [if_pos h, if_pos h]
  · rw [if_neg h, if_neg h]
    by_cases h2 : D % 10 < 5
    · rw [if_pos h2]; exact if_pos rfl
    · rw [if_neg h2]; exact if_pos rfl

set_option maxHeartbeats 4000000 in
theorem sp_M_doesIt {σ : zq_T} {A : za_D} (hA : zn_rep σ A) (hw : za_wf A) {D : Nat} (hD : D < 2 ^ 31) (hp : D / 10 < za_n A) (hf : D % 10 < 7) : zq_Sp zm_M_doesIt 0 [zq_O 30 0, zq_I (nI D)] σ (zq_rx (fun τ => zp_same 0 σ τ ∧ zn_rep τ (zs_acts A D))) := by
  have hn6 := zn_n6 hA
  have hm5 := zn_m5 hA
  refine zq_sp [some (zq_O 30 0), some (zq_I (nI D)), none, none] (by decide +kernel) rfl (Nat.le_of_ble_eq_true rfl) (fun ν => ?_)
  refine gq_iload_n dz_M_doesIt_0 rfl ?_
  refine gq_bipush (v := 10) dz_M_doesIt_1 rfl ?_
  refine gq_idiv dz_M_doesIt_3 (by decide) ?_
  rw [show (10 : Int32) = nI 10 from rfl, pk_div hD (by omega) (by omega)]
  refine gw_istore_n 2 dz_M_doesIt_4 rfl (Nat.le_of_ble_eq_true rfl) rfl ?_
  dsimp only [List.set]
  refine gq_iload_n dz_M_doesIt_5 rfl ?_
  refine gq_bipush (v := 10) dz_M_doesIt_6 rfl ?_
  refine gq_irem dz_M_doesIt_8 (by decide) ?_
  rw [show (10 : Int32) = nI 10 from rfl, pk_rem hD (by omega) (by omega)]
  refine gw_istore_n 3 dz_M_doesIt_9 rfl (Nat.le_of_ble_eq_true rfl) rfl ?_
  dsimp only [List.set]
  refine gq_aload_n dz_M_doesIt_10 rfl ?_
  refine gq_getR 31 zf_M_7 rfl rfl dz_M_doesIt_11 ?_
  refine gq_iload_n dz_M_doesIt_14 rfl ?_
  refine gq_dup2 dz_M_doesIt_15 rfl rfl ?_
  refine gw_iald (D / 10) (rfl) rfl (rfl) (Nat.le_of_ble_eq_true rfl) (by omega) dz_M_doesIt_16 ?_
  rw [zn_fa hA (by omega)]
  refine gq_iload_n dz_M_doesIt_17 rfl ?_
  refine gq_iconst (v := 5) dz_M_doesIt_18 rfl ?_
  refine gq_icmp_ge (tgt := 28) dz_M_doesIt_19 rfl (fun h19 => ?_) (fun h19 => ?_)
  · skip
    have h19 : ¬ D % 10 < 5 := fun z => absurd ((nI_leI (a := 5) (by omega) (by omega)).mp h19) (by omega)
    refine gq_iconst (v := 0) dz_M_doesIt_28 rfl ?_
    refine gq_ior dz_M_doesIt_29 ?_
    refine gw_iast (D / 10) (rfl) rfl (rfl) (Nat.le_of_ble_eq_true rfl) (by omega) dz_M_doesIt_30 ?_
    refine gq_aload_n dz_M_doesIt_31 rfl ?_
    refine gq_getR 31 zf_M_7 rfl rfl dz_M_doesIt_32 ?_
    refine gq_bipush (v := 6) dz_M_doesIt_35 rfl ?_
    refine gq_iload_n dz_M_doesIt_37 rfl ?_
    refine gq_iadd dz_M_doesIt_38 ?_
    refine gq_dup2 dz_M_doesIt_39 rfl rfl ?_
    refine gw_iald (6 + D / 10) (by rw [show (6 : Int32) = nI 6 from rfl, nI_add]) rfl (rfl) (Nat.le_of_ble_eq_true rfl) (by omega) dz_M_doesIt_40 ?_
    rw [zq_upN (by omega), zn_tr hA (by omega)]
    refine gq_iload_n dz_M_doesIt_41 rfl ?_
    refine gq_bipush (v := 6) dz_M_doesIt_42 rfl ?_
    refine gq_icmp_ne (tgt := 51) dz_M_doesIt_44 rfl (fun h44 => ?_) (fun h44 => ?_)
    · skip
      have h44 : ¬ D % 10 = 6 := fun z => h44 (by rw [z]; rfl)
      refine gq_iconst (v := 1) dz_M_doesIt_51 rfl ?_
      refine gq_iadd dz_M_doesIt_52 ?_
      refine gw_iast (6 + D / 10) (by rw [show (6 : Int32) = nI 6 from rfl, nI_add]) rfl (rfl) (Nat.le_of_ble_eq_true rfl) (by omega) dz_M_doesIt_53 ?_
      refine gq_aload_n dz_M_doesIt_54 rfl ?_
      refine gq_getR 31 zf_M_7 rfl rfl dz_M_doesIt_55 ?_
      refine gq_bipush (v := 12) dz_M_doesIt_58 rfl ?_
      refine gq_dup2 dz_M_doesIt_60 rfl rfl ?_
      refine gw_iald (12) (rfl) rfl (rfl) (Nat.le_of_ble_eq_true rfl) (by omega) dz_M_doesIt_61 ?_
      rw [zq_upN (by omega), zq_upN (by omega), zn_g hA]
      refine gq_iload_n dz_M_doesIt_62 rfl ?_
      refine gq_bipush (v := 6) dz_M_doesIt_63 rfl ?_
      refine gq_icmp_ne (tgt := 74) dz_M_doesIt_65 rfl (fun h65 => ?_) (fun h65 => ?_)
      · skip
        refine gq_iconst (v := 0) dz_M_doesIt_74 rfl ?_
        refine gq_ior dz_M_doesIt_75 ?_
        refine gw_iast (12) (rfl) rfl (rfl) (Nat.le_of_ble_eq_true rfl) (by omega) dz_M_doesIt_76 ?_
        refine gw_vretP dz_M_doesIt_77 rfl ?_
        · exact ⟨((zp_same.rf.up (by omega) (by omega)).up (by omega) (by omega)).up (by omega) (by omega), (((hA.sf (p := D / 10) (by omega) _).st (p := D / 10) (by omega) _).sg _).to (by rw [zs_acts, if_neg h44, if_neg h19]; simp only [Int32.or_zero, upd_own])⟩
      · skip
        exact absurd ((zt_kk (c := 6) (by omega) (by omega)).mp h65) h44
    · skip
      have h44 : D % 10 = 6 := (zt_kk (c := 6) (by omega) (by omega)).mp h44
      refine gq_iconst (v := 0) dz_M_doesIt_47 rfl ?_
      refine gq_goto (tgt := 52) dz_M_doesIt_48 rfl ?_
      refine gq_iadd dz_M_doesIt_52 ?_
      refine gw_iast (6 + D / 10) (by rw [show (6 : Int32) = nI 6 from rfl, nI_add]) rfl (rfl) (Nat.le_of_ble_eq_true rfl) (by omega) dz_M_doesIt_53 ?_
      refine gq_aload_n dz_M_doesIt_54 rfl ?_
      refine gq_getR 31 zf_M_7 rfl rfl dz_M_doesIt_55 ?_
      refine gq_bipush (v := 12) dz_M_doesIt_58 rfl ?_
      refine gq_dup2 dz_M_doesIt_60 rfl rfl ?_
      refine gw_iald (12) (rfl) rfl (rfl) (Nat.le_of_ble_eq_true rfl) (by omega) dz_M_doesIt_61 ?_
      rw [zq_upN (by omega), zq_upN (by omega), zn_g hA]
      refine gq_iload_n dz_M_doesIt_62 rfl ?_
      refine gq_bipush (v := 6) dz_M_doesIt_63 rfl ?_
      refine gq_icmp_ne (tgt := 74) dz_M_doesIt_65 rfl (fun h65 => ?_) (fun h65 => ?_)
      · skip
        exact absurd (show nI (D % 10) = 6 by rw [h44]; rfl) h65
      · skip
        refine gq_iconst (v := 1) dz_M_doesIt_68 rfl ?_
        refine gq_iload_n dz_M_doesIt_69 rfl ?_
        refine gq_ishl dz_M_doesIt_70 ?_
        refine gq_goto (tgt := 75) dz_M_doesIt_71 rfl ?_
        refine gq_ior dz_M_doesIt_75 ?_
        refine gw_iast (12) (rfl) rfl (rfl) (Nat.le_of_ble_eq_true rfl) (by omega) dz_M_doesIt_76 ?_
        refine gw_vretP dz_M_doesIt_77 rfl ?_
        · exact ⟨((zp_same.rf.up (by omega) (by omega)).up (by omega) (by omega)).up (by omega) (by omega), (((hA.sf (p := D / 10) (by omega) _).st (p := D / 10) (by omega) _).sg _).to (by rw [zs_acts, if_pos h44]; simp only [Int32.or_zero, Int32.add_zero, upd_own])⟩
  · skip
    have h19 : D % 10 < 5 := (nI_ltI (b := 5) (by omega) (by omega)).mp (Int32.not_le.mp h19)
    refine gq_iconst (v := 1) dz_M_doesIt_22 rfl ?_
    refine gq_iload_n dz_M_doesIt_23 rfl ?_
    refine gq_ishl dz_M_doesIt_24 ?_
    refine gq_goto (tgt := 29) dz_M_doesIt_25 rfl ?_
    refine gq_ior dz_M_doesIt_29 ?_
    refine gw_iast (D / 10) (rfl) rfl (rfl) (Nat.le_of_ble_eq_true rfl) (by omega) dz_M_doesIt_30 ?_
    refine gq_aload_n dz_M_doesIt_31 rfl ?_
    refine gq_getR 31 zf_M_7 rfl rfl dz_M_doesIt_32 ?_
    refine gq_bipush (v := 6) dz_M_doesIt_35 rfl ?_
    refine gq_iload_n dz_M_doesIt_37 rfl ?_
    refine gq_iadd dz_M_doesIt_38 ?_
    refine gq_dup2 dz_M_doesIt_39 rfl rfl ?_
    refine gw_iald (6 + D / 10) (by rw [show (6 : Int32) = nI 6 from rfl, nI_add]) rfl (rfl) (Nat.le_of_ble_eq_true rfl) (by omega) dz_M_doesIt_40 ?_
    rw [zq_upN (by omega), zn_tr hA (by omega)]
    refine gq_iload_n dz_M_doesIt_41 rfl ?_
    refine gq_bipush (v := 6) dz_M_doesIt_42 rfl ?_
    refine gq_icmp_ne (tgt := 51) dz_M_doesIt_44 rfl (fun h44 => ?_) (fun h44 => ?_)
    · skip
      have h44 : ¬ D % 10 = 6 := fun z => h44 (by rw [z]; rfl)
      refine gq_iconst (v := 1) dz_M_doesIt_51 rfl ?_
      refine gq_iadd dz_M_doesIt_52 ?_
      refine gw_iast (6 + D / 10) (by rw [show (6 : Int32) = nI 6 from rfl, nI_add]) rfl (rfl) (Nat.le_of_ble_eq_true rfl) (by omega) dz_M_doesIt_53 ?_
      refine gq_aload_n dz_M_doesIt_54 rfl ?_
      refine gq_getR 31 zf_M_7 rfl rfl dz_M_doesIt_55 ?_
      refine gq_bipush (v := 12) dz_M_doesIt_58 rfl ?_
      refine gq_dup2 dz_M_doesIt_60 rfl rfl ?_
      refine gw_iald (12) (rfl) rfl (rfl) (Nat.le_of_ble_eq_true rfl) (by omega) dz_M_doesIt_61 ?_
      rw [zq_upN (by omega), zq_upN (by omega), zn_g hA]
      refine gq_iload_n dz_M_doesIt_62 rfl ?_
      refine gq_bipush (v := 6) dz_M_doesIt_63 rfl ?_
      refine gq_icmp_ne (tgt := 74) dz_M_doesIt_65 rfl (fun h65 => ?_) (fun h65 => ?_)
      · skip
        refine gq_iconst (v := 0) dz_M_doesIt_74 rfl ?_
        refine gq_ior dz_M_doesIt_75 ?_
        refine gw_iast (12) (rfl) rfl (rfl) (Nat.le_of_ble_eq_true rfl) (by omega) dz_M_doesIt_76 ?_
        refine gw_vretP dz_M_doesIt_77 rfl ?_
        · exact ⟨((zp_same.rf.up (by omega) (by omega)).up (by omega) (by omega)).up (by omega) (by omega), (((hA.sf (p := D / 10) (by omega) _).st (p := D / 10) (by omega) _).sg _).to (by rw [zs_acts, if_neg h44, if_pos h19]; simp only [Int32.or_zero])⟩
      · skip
        exact absurd ((zt_kk (c := 6) (by omega) (by omega)).mp h65) h44
    · skip
      exact absurd ((zt_kk (c := 6) (by omega) (by omega)).mp h44) (by omega)
set_option maxHeartbeats 4000000 in
theorem sp_M_doneP {σ : zq_T} {A : za_D} (hA : zn_rep σ A) (hw : za_wf A) {D : Nat} (hD : D < 2 ^ 31) : zq_Sp zm_M_done 3 [zq_O 30 0, zq_I (nI D)] σ (zq_rw (zq_I (zs_actr A D)) (fun τ => zp_same 0 σ τ ∧ zn_rep τ (zs_actS A D))) := by
  have hn6 := zn_n6 hA
  have hm5 := zn_m5 hA
  refine zq_sp [some (zq_O 30 0), some (zq_I (nI D))] (by decide +kernel) rfl (Nat.le_of_ble_eq_true rfl) (fun ν => ?_)
  refine gq_aload_n dz_M_done_0 rfl ?_
  refine gq_iload_n dz_M_done_1 rfl ?_
  refine gq_cV (sp_M_isDeed hA hD) zw_M_isDeed zl_M_223 dz_M_done_2 rfl rfl rfl (by decide) rfl rfl (Nat.le_of_ble_eq_true rfl) ?_
  refine gw_ifb_ne (tgt := 10) dz_M_done_5 rfl (fun h5 => ?_) (fun h5 => ?_)
  · skip
    have hp : D / 10 < za_n A := of_decide_eq_true (Bool.and_eq_true_iff.mp h5).1
    have hf : D % 10 < 7 := of_decide_eq_true (Bool.and_eq_true_iff.mp h5).2
    have hno : ¬ (¬ D / 10 < za_n A ∨ ¬ D % 10 < 7) := fun z => by rcases z with z | z; exact z hp; exact z hf
    refine gq_aload_n dz_M_done_10 rfl ?_
    refine gq_iload_n dz_M_done_11 rfl ?_
    refine gq_cV (sp_M_canDo hA hw hD hp hf) zw_M_canDo zl_M_226 dz_M_done_12 rfl rfl rfl (by decide) rfl rfl (Nat.le_of_ble_eq_true rfl) ?_
    refine gw_ifb_ne (tgt := 21) dz_M_done_15 rfl (fun h15 => ?_) (fun h15 => ?_)
    · skip
      refine gq_aload_n dz_M_done_21 rfl ?_
      refine gq_iload_n dz_M_done_22 rfl ?_
      refine gq_cVX (sp_M_doesIt hA hw hD hp hf) zw_M_doesIt zl_M_229 dz_M_done_23 rfl rfl rfl (by decide) rfl rfl (Nat.le_of_ble_eq_true rfl) (fun τ23 hq23 => ?_)
      refine gq_aload_n dz_M_done_26 rfl ?_
      refine gq_getR 31 zf_M_7 rfl rfl dz_M_done_27 ?_
      refine gq_bipush (v := 6) dz_M_done_30 rfl ?_
      refine gq_iload_n dz_M_done_32 rfl ?_
      refine gq_bipush (v := 10) dz_M_done_33 rfl ?_
      refine gq_idiv dz_M_done_35 (by decide) ?_
      rw [show (10 : Int32) = nI 10 from rfl, pk_div hD (by omega) (by omega)]
      refine gq_iadd dz_M_done_36 ?_
      refine gw_iald (6 + D / 10) (by rw [show (6 : Int32) = nI 6 from rfl, nI_add]) rfl (rfl) (Nat.le_of_ble_eq_true rfl) (by omega) dz_M_done_37 ?_
      rw [zn_tr hq23.2 (by omega), zs_acts_tr]
      refine gw_iretP .int dz_M_done_38 rfl (by first | rfl | exact zb_nar _ | exact pk_nc _) ?_ ?_
      · rw [zs_actr, if_neg hno, if_neg (c := zs_can A D = false) (by rw [h15]; exact Bool.noConfusion)]
      · exact ⟨hq23.1, hq23.2.to (by rw [zs_actS, h15]; rfl)⟩
    · skip
      refine gq_bipush (v := -2) dz_M_done_18 rfl ?_
      refine gw_iretP .int dz_M_done_20 rfl (by first | rfl | exact zb_nar _ | exact pk_nc _) ?_ ?_
      · rw [zs_actr, if_neg hno, if_pos h15]
      · exact ⟨zp_same.rf, hA.to (by rw [zs_actS, h15]; rfl)⟩
  · skip
    have hn : ¬ D / 10 < za_n A ∨ ¬ D % 10 < 7 := by rcases Bool.and_eq_false_iff.mp h5 with z | z; exact Or.inl (of_decide_eq_false z); exact Or.inr (of_decide_eq_false z)
    have hc : zs_can A D = false := by rw [zs_can]; rcases hn with z | z; rw [decide_eq_false z]; rfl; rw [decide_eq_false z, Bool.false_and, Bool.and_false]
    refine gq_iconst (v := -1) dz_M_done_8 rfl ?_
    refine gw_iretP .int dz_M_done_9 rfl (by first | rfl | exact zb_nar _ | exact pk_nc _) ?_ ?_
    · rw [zs_actr, if_pos hn]
    · exact ⟨zp_same.rf, hA.to (by rw [zs_actS, hc]; rfl)⟩
set_option maxHeartbeats 4000000 in
theorem sp_M_doneN {σ : zq_T} {A : za_D} (hA : zn_rep σ A) (hw : za_wf A) {x : Int32} (hx : x < 0) : zq_Sp zm_M_done 3 [zq_O 30 0, zq_I x] σ (zq_rw (zq_I (-1)) (fun τ => zp_same 0 σ τ ∧ zn_rep τ A)) := by
  refine zq_sp [some (zq_O 30 0), some (zq_I x)] (by decide +kernel) rfl (Nat.le_of_ble_eq_true rfl) (fun ν => ?_)
  refine gq_aload_n dz_M_done_0 rfl ?_
  refine gq_iload_n dz_M_done_1 rfl ?_
  refine gq_cV (sp_M_isDeedN hA hx) zw_M_isDeed zl_M_223 dz_M_done_2 rfl rfl rfl (by decide) rfl rfl (Nat.le_of_ble_eq_true rfl) ?_
  refine gw_ifb_ne (tgt := 10) dz_M_done_5 rfl (fun h5 => ?_) (fun h5 => ?_)
  · skip
    exact absurd h5 (by decide)
  · skip
    refine gq_iconst (v := -1) dz_M_done_8 rfl ?_
    refine gw_iretP .int dz_M_done_9 rfl (by first | rfl | exact zb_nar _ | exact pk_nc _) ?_ ?_
    · rfl
    · exact ⟨zp_same.rf, hA⟩
theorem sp_M_done {σ : zq_T} {A : za_D} (hA : zn_rep σ A) (hw : za_wf A) (x : Int32) : zq_Sp zm_M_done 3 [zq_O 30 0, zq_I x] σ (zq_rw (zq_I (zx_doesR A x)) (fun τ => zp_same 0 σ τ ∧ zn_rep τ (zx_doesA A x))) := by
  by_cases hx : x < 0
  · rw [zx_doesR, zx_doesA, if_pos hx, if_pos hx]
    exact sp_M_doneN hA hw hx
  · obtain ⟨D, hD, rfl⟩ := nI_of hx
    rw [zx_doesR, zx_doesA, if_neg hx, if_neg hx, nI_clamp hD]
    exact sp_M_doneP hA hw hD
set_option maxHeartbeats 4000000 in
theorem sp_M_does {σ : zq_T} {X : za_X} (hS : zM_rep σ X) (hW : zx_wf X) (x : Int32) : zq_Sp zm_M_does 4 [zq_O 30 0, zq_I x] σ (zq_rw (zq_I (zx_doesR X.1 x)) (fun τ => zM_rep τ (zx_doesA X.1 x, X.2) ∧ zg_M σ τ)) := by
  have hA : zn_rep σ X.1 := hS.1
  have hw : za_wf X.1 := hW.1
  have hn6 := zn_n6 hA
  have hm5 := zn_m5 hA
  refine zq_sp [some (zq_O 30 0), some (zq_I x)] (by decide +kernel) rfl (Nat.le_of_ble_eq_true rfl) (fun ν => ?_)
  refine gq_aload_n dz_M_does_0 rfl ?_
  refine gq_iload_n dz_M_does_1 rfl ?_
  refine gq_cVP (sp_M_done hA hw x) zw_M_done zl_M_232 dz_M_does_2 rfl rfl rfl (by decide) rfl rfl (Nat.le_of_ble_eq_true rfl) (fun τ2 hq2 => ?_)
  refine gw_iretP .int dz_M_does_5 rfl (by first | rfl | exact zb_nar _ | exact pk_nc _) ?_ ?_
  · rfl
  · exact ⟨hS.duchy hW hq2.1 hq2.2, hq2.1.M⟩
set_option maxHeartbeats 4000000 in
theorem sp_M_comes {σ : zq_T} {X : za_X} (hS : zM_rep σ X) (hW : zx_wf X) (p : Int32) : zq_Sp zm_M_comes 2 [zq_O 30 0, zq_I p] σ (zq_rw (zq_I (if zb_in p (za_n X.1) then zb_v (zb_bit (za_g X.1) p) else -1)) (fun τ => zM_rep τ (if zb_in p (za_n X.1) then zx_comesA X.1 p else X.1, X.2) ∧ zg_M σ τ)) := by
  have hA : zn_rep σ X.1 := hS.1
  have hw : za_wf X.1 := hW.1
  have hn6 := zn_n6 hA
  have hm5 := zn_m5 hA
  refine zq_sp [some (zq_O 30 0), some (zq_I p), none] (by decide +kernel) rfl (Nat.le_of_ble_eq_true rfl) (fun ν => ?_)
  refine gq_aload_n dz_M_comes_0 rfl ?_
  refine gq_iload_n dz_M_comes_1 rfl ?_
  refine gq_cV (sp_M_isOne hA _) zw_M_isOne zl_M_203 dz_M_comes_2 rfl rfl rfl (by decide) rfl rfl (Nat.le_of_ble_eq_true rfl) ?_
  refine gw_ifb_ne (tgt := 10) dz_M_comes_5 rfl (fun h5 => ?_) (fun h5 => ?_)
  · skip
    refine gq_aload_n dz_M_comes_10 rfl ?_
    refine gq_getR 31 zf_M_7 rfl rfl dz_M_comes_11 ?_
    refine gq_bipush (v := 12) dz_M_comes_14 rfl ?_
    refine gw_iald (12) (rfl) rfl (rfl) (Nat.le_of_ble_eq_true rfl) (by omega) dz_M_comes_16 ?_
    rw [zn_g hA]
    refine gq_iload_n dz_M_comes_17 rfl ?_
    refine gq_ishr dz_M_comes_18 ?_
    refine gq_iconst (v := 1) dz_M_comes_19 rfl ?_
    refine gq_iand dz_M_comes_20 ?_
    refine gw_istore_n 2 dz_M_comes_21 rfl (Nat.le_of_ble_eq_true rfl) rfl ?_
    dsimp only [List.set]
    refine gq_aload_n dz_M_comes_22 rfl ?_
    refine gq_getR 31 zf_M_7 rfl rfl dz_M_comes_23 ?_
    refine gq_bipush (v := 12) dz_M_comes_26 rfl ?_
    refine gq_dup2 dz_M_comes_28 rfl rfl ?_
    refine gw_iald (12) (rfl) rfl (rfl) (Nat.le_of_ble_eq_true rfl) (by omega) dz_M_comes_29 ?_
    rw [zn_g hA]
    refine gq_iconst (v := 1) dz_M_comes_30 rfl ?_
    refine gq_iload_n dz_M_comes_31 rfl ?_
    refine gq_ishl dz_M_comes_32 ?_
    refine gq_iconst (v := -1) dz_M_comes_33 rfl ?_
    refine gq_ixor dz_M_comes_34 ?_
    refine gq_iand dz_M_comes_35 ?_
    refine gw_iast (12) (rfl) rfl (rfl) (Nat.le_of_ble_eq_true rfl) (by omega) dz_M_comes_36 ?_
    refine gq_iload_n dz_M_comes_37 rfl ?_
    refine gw_iretP .int dz_M_comes_38 rfl (by first | rfl | exact zb_nar _ | exact pk_nc _) ?_ ?_
    · rw [h5, if_pos rfl]; exact zb_bv.symm
    · rw [h5, if_pos rfl]; exact ⟨hS.duchy hW (zp_same.rf.up (by omega) (by omega)) (hA.sg _), (zp_same.rf.up (o := 0) (by omega) (by omega)).M⟩
  · skip
    refine gq_iconst (v := -1) dz_M_comes_8 rfl ?_
    refine gw_iretP .int dz_M_comes_9 rfl (by first | rfl | exact zb_nar _ | exact pk_nc _) ?_ ?_
    · rw [h5]; rfl
    · rw [h5]; exact ⟨hS, zg_M.rf⟩
set_option maxHeartbeats 4000000 in
theorem sp_M_hush {σ : zq_T} {X : za_X} (hS : zM_rep σ X) (hW : zx_wf X) (p f : Int32) : zq_Sp zm_M_hush 2 [zq_O 30 0, zq_I p, zq_I f] σ (zq_rw (zq_I (if zb_in p (za_n X.1) && zb_in f 5 then zb_v (zb_bit (za_fa X.1 p.toNatClampNeg) f) else -1)) (fun τ => zM_rep τ (if zb_in p (za_n X.1) && zb_in f 5 then za_sf X.1 (upd (za_fa X.1) p.toNatClampNeg (za_fa X.1 p.toNatClampNeg &&& ((1 <<< (f &&& 31)) ^^^ -1))) else X.1, X.2) ∧ zg_M σ τ)) := by
  have hA : zn_rep σ X.1 := hS.1
  have hw : za_wf X.1 := hW.1
  have hn6 := zn_n6 hA
  have hm5 := zn_m5 hA
  refine zq_sp [some (zq_O 30 0), some (zq_I p), some (zq_I f), none] (by decide +kernel) rfl (Nat.le_of_ble_eq_true rfl) (fun ν => ?_)
  refine gq_aload_n dz_M_hush_0 rfl ?_
  refine gq_iload_n dz_M_hush_1 rfl ?_
  refine gq_cV (sp_M_isOne hA _) zw_M_isOne zl_M_203 dz_M_hush_2 rfl rfl rfl (by decide) rfl rfl (Nat.le_of_ble_eq_true rfl) ?_
  refine gw_ifb_eq (tgt := 15) dz_M_hush_5 rfl (fun h5 => ?_) (fun h5 => ?_)
  · skip
    refine gq_iconst (v := -1) dz_M_hush_15 rfl ?_
    refine gw_iretP .int dz_M_hush_16 rfl (by first | rfl | exact zb_nar _ | exact pk_nc _) ?_ ?_
    · rw [h5]; rfl
    · rw [h5]; exact ⟨hS, zg_M.rf⟩
  · skip
    refine gq_iload_n dz_M_hush_8 rfl ?_
    refine gq_cS (sp_M_isFact _) zw_M_isFact zl_M_209 dz_M_hush_9 (by decide) rfl rfl (Nat.le_of_ble_eq_true rfl) ?_
    refine gw_ifb_ne (tgt := 17) dz_M_hush_12 rfl (fun h12 => ?_) (fun h12 => ?_)
    · skip
      obtain ⟨q, hq, rfl⟩ := (zb_in_iff (by omega)).mp h5
      rw [nI_clamp (by omega)]
      refine gq_aload_n dz_M_hush_17 rfl ?_
      refine gq_getR 31 zf_M_7 rfl rfl dz_M_hush_18 ?_
      refine gq_iload_n dz_M_hush_21 rfl ?_
      refine gw_iald (q) (rfl) rfl (rfl) (Nat.le_of_ble_eq_true rfl) (by omega) dz_M_hush_22 ?_
      rw [zn_fa hA (by omega)]
      refine gq_iload_n dz_M_hush_23 rfl ?_
      refine gq_ishr dz_M_hush_24 ?_
      refine gq_iconst (v := 1) dz_M_hush_25 rfl ?_
      refine gq_iand dz_M_hush_26 ?_
      refine gw_istore_n 3 dz_M_hush_27 rfl (Nat.le_of_ble_eq_true rfl) rfl ?_
      dsimp only [List.set]
      refine gq_aload_n dz_M_hush_28 rfl ?_
      refine gq_getR 31 zf_M_7 rfl rfl dz_M_hush_29 ?_
      refine gq_iload_n dz_M_hush_32 rfl ?_
      refine gq_dup2 dz_M_hush_33 rfl rfl ?_
      refine gw_iald (q) (rfl) rfl (rfl) (Nat.le_of_ble_eq_true rfl) (by omega) dz_M_hush_34 ?_
      rw [zn_fa hA (by omega)]
      refine gq_iconst (v := 1) dz_M_hush_35 rfl ?_
      refine gq_iload_n dz_M_hush_36 rfl ?_
      refine gq_ishl dz_M_hush_37 ?_
      refine gq_iconst (v := -1) dz_M_hush_38 rfl ?_
      refine gq_ixor dz_M_hush_39 ?_
      refine gq_iand dz_M_hush_40 ?_
      refine gw_iast (q) (rfl) rfl (rfl) (Nat.le_of_ble_eq_true rfl) (by omega) dz_M_hush_41 ?_
      refine gq_iload_n dz_M_hush_42 rfl ?_
      refine gw_iretP .int dz_M_hush_43 rfl (by first | rfl | exact zb_nar _ | exact pk_nc _) ?_ ?_
      · rw [h5, h12]; exact zb_bv.symm
      · rw [h5, h12]; exact ⟨hS.duchy hW (zp_same.rf.up (by omega) (by omega)) (hA.sf (by omega) _), (zp_same.rf.up (o := 0) (by omega) (by omega)).M⟩
    · skip
      refine gq_iconst (v := -1) dz_M_hush_15 rfl ?_
      refine gw_iretP .int dz_M_hush_16 rfl (by first | rfl | exact zb_nar _ | exact pk_nc _) ?_ ?_
      · rw [h5, h12]; rfl
      · rw [h5, h12]; exact ⟨hS, zg_M.rf⟩
