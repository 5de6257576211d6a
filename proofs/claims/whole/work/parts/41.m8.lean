theorem zn_in3 {x : Int32} {n : Nat} {lo c : Int64} (hl : lo.toInt = 0) (hc : c.toInt = (n : Int)) (hn : n < 1000) : zn_in x.toInt64 lo c = zx_3 x (nI n) := by
  rw [zn_in32, hl, hc]
  unfold zx_3
  refine decide_eq_decide.mpr ?_
  rw [Int32.le_iff_toInt_le, Int32.le_iff_toInt_le, nI_toInt (by omega)]
  have : (0 : Int32).toInt = 0 := rfl
  omega
theorem zn_in19 {x : Int32} : zn_in x.toInt64 1 9 = zx_r19 x := by
  rw [zn_in32]
  unfold zx_r19
  refine decide_eq_decide.mpr ?_
  rw [Int32.le_iff_toInt_le, Int32.le_iff_toInt_le]
  have : (1 : Int32).toInt = 1 := rfl
  have : (9 : Int32).toInt = 9 := rfl
  have : (1 : Int64).toInt = 1 := rfl
  have : (9 : Int64).toInt = 9 := rfl
  omega

set_option maxHeartbeats 4000000 in
theorem sp_M_tries {σ : zq_T} {X : za_X} (hS : zM_rep σ X) (hW : zx_wf X) (p n : Int32) : zq_Sp zm_M_tries 2 [zq_O 30 0, zq_I p, zq_I n] σ (zq_rw (zq_I (if zb_in p (za_n X.1) && zx_3 n 3 then za_tr X.1 p.toNatClampNeg else -1)) (fun τ => zM_rep τ (if zb_in p (za_n X.1) && zx_3 n 3 then za_st X.1 (upd (za_tr X.1) p.toNatClampNeg n) else X.1, X.2) ∧ zg_M σ τ)) := by
  have hA : zn_rep σ X.1 := hS.1
  have hw : za_wf X.1 := hW.1
  have hn6 := zn_n6 hA
  have hm5 := zn_m5 hA
  refine zq_sp [some (zq_O 30 0), some (zq_I p), some (zq_I n)] (by decide +kernel) rfl (Nat.le_of_ble_eq_true rfl) (fun ν => ?_)
  refine gq_aload_n dz_M_tries_0 rfl ?_
  refine gq_aload_n dz_M_tries_1 rfl ?_
  refine gq_iload_n dz_M_tries_2 rfl ?_
  refine gq_cV (sp_M_isOne hA _) zw_M_isOne zl_M_203 dz_M_tries_3 rfl rfl rfl (by decide) rfl rfl (Nat.le_of_ble_eq_true rfl) ?_
  refine gw_ifb_eq (tgt := 25) dz_M_tries_6 rfl (fun h6 => ?_) (fun h6 => ?_)
  · skip
    have hg : (zb_in p (za_n X.1) && zx_3 n 3) = false := by rw [h6]; rfl
    refine gq_iconst (v := 0) dz_M_tries_25 rfl ?_
    refine gq_bipush (v := 6) dz_M_tries_26 rfl ?_
    refine gq_iload_n dz_M_tries_28 rfl ?_
    refine gq_iadd dz_M_tries_29 ?_
    refine gq_iload_n dz_M_tries_30 rfl ?_
    refine gq_cV (sp_M_sets false 0 _ _ (fun z => Bool.noConfusion z) (by omega)) zw_M_sets zl_M_235 dz_M_tries_31 rfl rfl rfl (by decide) rfl rfl (Nat.le_of_ble_eq_true rfl) ?_
    refine gw_iretP .int dz_M_tries_34 rfl (by first | rfl | exact zb_nar _ | exact pk_nc _) ?_ ?_
    · rw [hg]; rfl
    · rw [hg]; exact ⟨hS, zg_M.rf⟩
  · skip
    obtain ⟨q, hq, rfl⟩ := (zb_in_iff (by omega)).mp h6
    refine gq_iload_n dz_M_tries_9 rfl ?_
    refine gq_i2l dz_M_tries_10 ?_
    refine gq_lconst (v := 0) dz_M_tries_11 rfl ?_
    refine gq_ldc2 zl_M_167 dz_M_tries_12 ?_
    refine gq_cS (sp_M_in _ _ _) zw_M_in zl_M_65 dz_M_tries_15 (by decide) rfl rfl (Nat.le_of_ble_eq_true rfl) ?_
    refine gw_ifb_eq (tgt := 25) dz_M_tries_18 rfl (fun h18 => ?_) (fun h18 => ?_)
    · skip
      rw [zn_in3 (n := 3) rfl rfl (by omega)] at h18
      have hg : (zb_in (nI q) (za_n X.1) && zx_3 n 3) = false := by rw [h6]; exact h18
      refine gq_iconst (v := 0) dz_M_tries_25 rfl ?_
      refine gq_bipush (v := 6) dz_M_tries_26 rfl ?_
      refine gq_iload_n dz_M_tries_28 rfl ?_
      refine gq_iadd dz_M_tries_29 ?_
      refine gq_iload_n dz_M_tries_30 rfl ?_
      refine gq_cV (sp_M_sets false 0 _ _ (fun z => Bool.noConfusion z) (by omega)) zw_M_sets zl_M_235 dz_M_tries_31 rfl rfl rfl (by decide) rfl rfl (Nat.le_of_ble_eq_true rfl) ?_
      refine gw_iretP .int dz_M_tries_34 rfl (by first | rfl | exact zb_nar _ | exact pk_nc _) ?_ ?_
      · rw [hg]; rfl
      · rw [hg]; exact ⟨hS, zg_M.rf⟩
    · skip
      rw [zn_in3 (n := 3) rfl rfl (by omega)] at h18
      have hg : (zb_in (nI q) (za_n X.1) && zx_3 n 3) = true := by rw [h6]; exact h18
      refine gq_iconst (v := 1) dz_M_tries_21 rfl ?_
      refine gq_goto (tgt := 26) dz_M_tries_22 rfl ?_
      refine gq_bipush (v := 6) dz_M_tries_26 rfl ?_
      refine gq_iload_n dz_M_tries_28 rfl ?_
      refine gq_iadd dz_M_tries_29 ?_
      refine gq_iload_n dz_M_tries_30 rfl ?_
      refine gq_cV (sp_M_sets true (6 + q) _ _ (fun _ => by rw [show (6 : Int32) = nI 6 from rfl, nI_add]) (by omega)) zw_M_sets zl_M_235 dz_M_tries_31 rfl rfl rfl (by decide) rfl rfl (Nat.le_of_ble_eq_true rfl) ?_
      refine gw_iretP .int dz_M_tries_34 rfl (by first | rfl | exact zb_nar _ | exact pk_nc _) ?_ ?_
      · rw [hg, if_pos rfl, if_pos rfl, nI_clamp (by omega)]; exact zn_tr hA (by omega)
      · rw [hg, if_pos rfl, if_pos rfl, nI_clamp (by omega)]; exact ⟨hS.duchy hW (zp_same.rf.up (by omega) (by omega)) (hA.st (by omega) _), (zp_same.rf.up (o := 0) (by omega) (by omega)).M⟩
set_option maxHeartbeats 4000000 in
theorem sp_M_pick {σ : zq_T} {X : za_X} (hS : zM_rep σ X) (hW : zx_wf X) (k v : Int32) : zq_Sp zm_M_pick 2 [zq_O 30 0, zq_I k, zq_I v] σ (zq_rw (zq_I (if zb_in k (za_m X.1) && zb_in v 3 then za_pi X.1 k.toNatClampNeg else -1)) (fun τ => zM_rep τ (if zb_in k (za_m X.1) && zb_in v 3 then za_sp X.1 (upd (za_pi X.1) k.toNatClampNeg v) else X.1, X.2) ∧ zg_M σ τ)) := by
  have hA : zn_rep σ X.1 := hS.1
  have hw : za_wf X.1 := hW.1
  have hn6 := zn_n6 hA
  have hm5 := zn_m5 hA
  refine zq_sp [some (zq_O 30 0), some (zq_I k), some (zq_I v)] (by decide +kernel) rfl (Nat.le_of_ble_eq_true rfl) (fun ν => ?_)
  refine gq_aload_n dz_M_pick_0 rfl ?_
  refine gq_aload_n dz_M_pick_1 rfl ?_
  refine gq_iload_n dz_M_pick_2 rfl ?_
  refine gq_cV (sp_M_isRule hA _) zw_M_isRule zl_M_212 dz_M_pick_3 rfl rfl rfl (by decide) rfl rfl (Nat.le_of_ble_eq_true rfl) ?_
  refine gw_ifb_eq (tgt := 25) dz_M_pick_6 rfl (fun h6 => ?_) (fun h6 => ?_)
  · skip
    have hg : (zb_in k (za_m X.1) && zb_in v 3) = false := by rw [h6]; rfl
    refine gq_iconst (v := 0) dz_M_pick_25 rfl ?_
    refine gq_bipush (v := 23) dz_M_pick_26 rfl ?_
    refine gq_iload_n dz_M_pick_28 rfl ?_
    refine gq_iadd dz_M_pick_29 ?_
    refine gq_iload_n dz_M_pick_30 rfl ?_
    refine gq_cV (sp_M_sets false 0 _ _ (fun z => Bool.noConfusion z) (by omega)) zw_M_sets zl_M_235 dz_M_pick_31 rfl rfl rfl (by decide) rfl rfl (Nat.le_of_ble_eq_true rfl) ?_
    refine gw_iretP .int dz_M_pick_34 rfl (by first | rfl | exact zb_nar _ | exact pk_nc _) ?_ ?_
    · rw [hg]; rfl
    · rw [hg]; exact ⟨hS, zg_M.rf⟩
  · skip
    obtain ⟨q, hq, rfl⟩ := (zb_in_iff (by omega)).mp h6
    refine gq_iload_n dz_M_pick_9 rfl ?_
    refine gq_i2l dz_M_pick_10 ?_
    refine gq_lconst (v := 0) dz_M_pick_11 rfl ?_
    refine gq_ldc2 zl_M_241 dz_M_pick_12 ?_
    refine gq_cS (sp_M_in _ _ _) zw_M_in zl_M_65 dz_M_pick_15 (by decide) rfl rfl (Nat.le_of_ble_eq_true rfl) ?_
    refine gw_ifb_eq (tgt := 25) dz_M_pick_18 rfl (fun h18 => ?_) (fun h18 => ?_)
    · skip
      rw [zn_inc (n := 3) rfl (by omega)] at h18
      have hg : (zb_in (nI q) (za_m X.1) && zb_in v 3) = false := by rw [h6]; exact h18
      refine gq_iconst (v := 0) dz_M_pick_25 rfl ?_
      refine gq_bipush (v := 23) dz_M_pick_26 rfl ?_
      refine gq_iload_n dz_M_pick_28 rfl ?_
      refine gq_iadd dz_M_pick_29 ?_
      refine gq_iload_n dz_M_pick_30 rfl ?_
      refine gq_cV (sp_M_sets false 0 _ _ (fun z => Bool.noConfusion z) (by omega)) zw_M_sets zl_M_235 dz_M_pick_31 rfl rfl rfl (by decide) rfl rfl (Nat.le_of_ble_eq_true rfl) ?_
      refine gw_iretP .int dz_M_pick_34 rfl (by first | rfl | exact zb_nar _ | exact pk_nc _) ?_ ?_
      · rw [hg]; rfl
      · rw [hg]; exact ⟨hS, zg_M.rf⟩
    · skip
      rw [zn_inc (n := 3) rfl (by omega)] at h18
      have hg : (zb_in (nI q) (za_m X.1) && zb_in v 3) = true := by rw [h6]; exact h18
      refine gq_iconst (v := 1) dz_M_pick_21 rfl ?_
      refine gq_goto (tgt := 26) dz_M_pick_22 rfl ?_
      refine gq_bipush (v := 23) dz_M_pick_26 rfl ?_
      refine gq_iload_n dz_M_pick_28 rfl ?_
      refine gq_iadd dz_M_pick_29 ?_
      refine gq_iload_n dz_M_pick_30 rfl ?_
      refine gq_cV (sp_M_sets true (23 + q) _ _ (fun _ => by rw [show (23 : Int32) = nI 23 from rfl, nI_add]) (by omega)) zw_M_sets zl_M_235 dz_M_pick_31 rfl rfl rfl (by decide) rfl rfl (Nat.le_of_ble_eq_true rfl) ?_
      refine gw_iretP .int dz_M_pick_34 rfl (by first | rfl | exact zb_nar _ | exact pk_nc _) ?_ ?_
      · rw [hg, if_pos rfl, if_pos rfl, nI_clamp (by omega)]; exact zn_pi hA hq
      · rw [hg, if_pos rfl, if_pos rfl, nI_clamp (by omega)]; exact ⟨hS.duchy hW (zp_same.rf.up (by omega) (by omega)) (hA.sp (by omega) _), (zp_same.rf.up (o := 0) (by omega) (by omega)).M⟩
set_option maxHeartbeats 4000000 in
theorem sp_M_weigh {σ : zq_T} {X : za_X} (hS : zM_rep σ X) (hW : zx_wf X) (f v : Int32) : zq_Sp zm_M_weigh 2 [zq_O 30 0, zq_I f, zq_I v] σ (zq_rw (zq_I (if zb_in f 5 && zx_3 v 10 then za_od X.1 f.toNatClampNeg else -1)) (fun τ => zM_rep τ (if zb_in f 5 && zx_3 v 10 then za_so X.1 (upd (za_od X.1) f.toNatClampNeg v) else X.1, X.2) ∧ zg_M σ τ)) := by
  have hA : zn_rep σ X.1 := hS.1
  have hw : za_wf X.1 := hW.1
  have hn6 := zn_n6 hA
  have hm5 := zn_m5 hA
  refine zq_sp [some (zq_O 30 0), some (zq_I f), some (zq_I v)] (by decide +kernel) rfl (Nat.le_of_ble_eq_true rfl) (fun ν => ?_)
  refine gq_iload_n dz_M_weigh_0 rfl ?_
  refine gq_cS (sp_M_isFact _) zw_M_isFact zl_M_209 dz_M_weigh_1 (by decide) rfl rfl (Nat.le_of_ble_eq_true rfl) ?_
  refine gw_ifb_eq (tgt := 36) dz_M_weigh_4 rfl (fun h4 => ?_) (fun h4 => ?_)
  · skip
    have hg : (zb_in f 5 && zx_3 v 10) = false := by rw [h4]; rfl
    refine gq_iconst (v := -1) dz_M_weigh_36 rfl ?_
    refine gw_iretP .int dz_M_weigh_37 rfl (by first | rfl | exact zb_nar _ | exact pk_nc _) ?_ ?_
    · rw [hg]; rfl
    · rw [hg]; exact ⟨hS, zg_M.rf⟩
  · skip
    obtain ⟨q, hq, rfl⟩ := (zb_in_iff (by omega)).mp h4
    refine gq_iload_n dz_M_weigh_7 rfl ?_
    refine gq_i2l dz_M_weigh_8 ?_
    refine gq_lconst (v := 0) dz_M_weigh_9 rfl ?_
    refine gq_ldc2 zl_M_239 dz_M_weigh_10 ?_
    refine gq_cS (sp_M_in _ _ _) zw_M_in zl_M_65 dz_M_weigh_13 (by decide) rfl rfl (Nat.le_of_ble_eq_true rfl) ?_
    refine gw_ifb_eq (tgt := 36) dz_M_weigh_16 rfl (fun h16 => ?_) (fun h16 => ?_)
    · skip
      rw [zn_in3 (n := 10) rfl rfl (by omega)] at h16
      have hg : (zb_in (nI q) 5 && zx_3 v 10) = false := by rw [h4]; exact h16
      refine gq_iconst (v := -1) dz_M_weigh_36 rfl ?_
      refine gw_iretP .int dz_M_weigh_37 rfl (by first | rfl | exact zb_nar _ | exact pk_nc _) ?_ ?_
      · rw [hg]; rfl
      · rw [hg]; exact ⟨hS, zg_M.rf⟩
    · skip
      rw [zn_in3 (n := 10) rfl rfl (by omega)] at h16
      have hg : (zb_in (nI q) 5 && zx_3 v 10) = true := by rw [h4]; exact h16
      refine gq_iconst (v := 5) dz_M_weigh_19 rfl ?_
      refine gq_aload_n dz_M_weigh_20 rfl ?_
      refine gq_iconst (v := 1) dz_M_weigh_21 rfl ?_
      refine gq_bipush (v := 13) dz_M_weigh_22 rfl ?_
      refine gq_iload_n dz_M_weigh_24 rfl ?_
      refine gq_iadd dz_M_weigh_25 ?_
      refine gq_iload_n dz_M_weigh_26 rfl ?_
      refine gq_iconst (v := 5) dz_M_weigh_27 rfl ?_
      refine gq_isub dz_M_weigh_28 ?_
      refine gq_cV (sp_M_sets true (13 + q) _ _ (fun _ => by rw [show (13 : Int32) = nI 13 from rfl, nI_add]) (by omega)) zw_M_sets zl_M_235 dz_M_weigh_29 rfl rfl rfl (by decide) rfl rfl (Nat.le_of_ble_eq_true rfl) ?_
      refine gq_iadd dz_M_weigh_32 ?_
      refine gq_goto (tgt := 37) dz_M_weigh_33 rfl ?_
      refine gw_iretP .int dz_M_weigh_37 rfl (by first | rfl | exact zb_nar _ | exact pk_nc _) ?_ ?_
      · rw [hg, if_pos rfl, if_pos rfl, nI_clamp (by omega), zn_od hA hq, Int32.add_comm]; exact Int32.sub_add_cancel _ _
      · rw [hg, if_pos rfl, if_pos rfl, nI_clamp (by omega)]; exact ⟨hS.duchy hW (zp_same.rf.up (by omega) (by omega)) (hA.so hq _), (zp_same.rf.up (o := 0) (by omega) (by omega)).M⟩
set_option maxHeartbeats 4000000 in
theorem sp_M_rank {σ : zq_T} {X : za_X} (hS : zM_rep σ X) (hW : zx_wf X) (k r : Int32) : zq_Sp zm_M_rank 2 [zq_O 30 0, zq_I k, zq_I r] σ (zq_rw (zq_I (zx_rankR X.1 k r)) (fun τ => zM_rep τ (zx_rankA X.1 k r, X.2) ∧ zg_M σ τ)) := by
  have hA : zn_rep σ X.1 := hS.1
  have hw : za_wf X.1 := hW.1
  have hn6 := zn_n6 hA
  have hm5 := zn_m5 hA
  refine zq_sp [some (zq_O 30 0), some (zq_I k), some (zq_I r), none] (by decide +kernel) rfl (Nat.le_of_ble_eq_true rfl) (fun ν => ?_)
  refine gq_aload_n dz_M_rank_0 rfl ?_
  refine gq_iload_n dz_M_rank_1 rfl ?_
  refine gq_cV (sp_M_isRule hA _) zw_M_isRule zl_M_212 dz_M_rank_2 rfl rfl rfl (by decide) rfl rfl (Nat.le_of_ble_eq_true rfl) ?_
  refine gw_ifb_eq (tgt := 20) dz_M_rank_5 rfl (fun h5 => ?_) (fun h5 => ?_)
  · skip
    refine gq_iconst (v := -1) dz_M_rank_20 rfl ?_
    refine gw_iretP .int dz_M_rank_21 rfl (by first | rfl | exact zb_nar _ | exact pk_nc _) ?_ ?_
    · rw [zx_rankR, h5]; rfl
    · rw [zx_rankA, h5]; exact ⟨hS, zg_M.rf⟩
  · skip
    obtain ⟨q, hq, rfl⟩ := (zb_in_iff (by omega)).mp h5
    have hR : zx_rankR X.1 (nI q) r = zx_rankR1 X.1 q r := by rw [zx_rankR, h5, if_pos rfl, nI_clamp (by omega)]
    have hAA : zx_rankA X.1 (nI q) r = zx_rankA1 X.1 q r := by rw [zx_rankA, h5, if_pos rfl, nI_clamp (by omega)]
    rw [hR, hAA]
    refine gq_iload_n dz_M_rank_8 rfl ?_
    refine gq_i2l dz_M_rank_9 ?_
    refine gq_lconst (v := 1) dz_M_rank_10 rfl ?_
    refine gq_ldc2 zl_M_123 dz_M_rank_11 ?_
    refine gq_cS (sp_M_in _ _ _) zw_M_in zl_M_65 dz_M_rank_14 (by decide) rfl rfl (Nat.le_of_ble_eq_true rfl) ?_
    refine gw_ifb_ne (tgt := 22) dz_M_rank_17 rfl (fun h17 => ?_) (fun h17 => ?_)
    · skip
      rw [zn_in19] at h17
      refine gq_iconst (v := 0) dz_M_rank_22 rfl ?_
      refine gw_istore_n 3 dz_M_rank_23 rfl (Nat.le_of_ble_eq_true rfl) rfl ?_
      dsimp only [List.set]
      have L24 : ∀ (kf : Nat) (o : Nat) (hkf : za_m X.1 - o < kf) (ho : o ≤ za_m X.1) (hn : zf_any (zx_clash X.1 q r) o = false), zq_G ν zm_M_rank 2 (zq_rw (zq_I (zx_rankR1 X.1 q r)) (fun τ => zM_rep τ (zx_rankA1 X.1 q r, X.2) ∧ zg_M σ τ)) 24 [some (zq_O 30 0), some (zq_I (nI q)), some (zq_I r), some (zq_I (nI o))] [] σ := by
        intro kf
        induction kf with
        | zero => intro o hkf ho hn; exact absurd hkf (Nat.not_lt_zero _)
        | succ kf ih24 =>
          intro o hkf ho hn
          refine gq_iload_n dz_M_rank_24 rfl ?_
          refine gq_aload_n dz_M_rank_25 rfl ?_
          refine gq_getI zf_M_161 rfl rfl dz_M_rank_26 ?_
          rw [zn_m hA]
          refine gq_icmp_ge (tgt := 78) dz_M_rank_29 rfl (fun h29 => ?_) (fun h29 => ?_)
          · skip
            have ho : o = za_m X.1 := by have := (nI_leI (by omega) (by omega)).mp h29; omega
            refine gq_aload_n dz_M_rank_78 rfl ?_
            refine gq_iconst (v := 1) dz_M_rank_79 rfl ?_
            refine gq_bipush (v := 18) dz_M_rank_80 rfl ?_
            refine gq_iload_n dz_M_rank_82 rfl ?_
            refine gq_iadd dz_M_rank_83 ?_
            refine gq_iload_n dz_M_rank_84 rfl ?_
            refine gq_cV (sp_M_sets true (18 + q) _ _ (fun _ => by rw [show (18 : Int32) = nI 18 from rfl, nI_add]) (by omega)) zw_M_sets zl_M_235 dz_M_rank_85 rfl rfl rfl (by decide) rfl rfl (Nat.le_of_ble_eq_true rfl) ?_
            refine gw_iretP .int dz_M_rank_88 rfl (by first | rfl | exact zb_nar _ | exact pk_nc _) ?_ ?_
            · rw [ho] at hn; rw [zx_rankR1, if_neg (c := zx_r19 r = false) (by rw [h17]; exact Bool.noConfusion), if_neg (c := zf_any (zx_clash X.1 q r) (za_m X.1) = true) (by rw [hn]; exact Bool.noConfusion), if_pos rfl]; exact zn_rk hA hq
            · rw [ho] at hn; rw [zx_rankA1, if_neg (c := zx_r19 r = false) (by rw [h17]; exact Bool.noConfusion), if_neg (c := zf_any (zx_clash X.1 q r) (za_m X.1) = true) (by rw [hn]; exact Bool.noConfusion), if_pos rfl]; exact ⟨hS.duchy hW (zp_same.rf.up (by omega) (by omega)) (hA.sr (by omega) _), (zp_same.rf.up (o := 0) (by omega) (by omega)).M⟩
          · skip
            have ho2 : o < za_m X.1 := by rcases Nat.lt_or_ge o (za_m X.1) with z | z; exact z; exact absurd (nI_le z (by omega)) h29
            refine gq_iload_n dz_M_rank_32 rfl ?_
            refine gq_iload_n dz_M_rank_33 rfl ?_
            refine gq_icmp_eq (tgt := 72) dz_M_rank_34 rfl (fun h34 => ?_) (fun h34 => ?_)
            · skip
              have h34 : o = q := (nI_eq (by omega) (by omega)).mp h34
              refine gw_iinc 3 (c := 1) dz_M_rank_72 rfl rfl (Nat.le_of_ble_eq_true rfl) rfl ?_
              dsimp only [List.set]
              refine gq_goto (tgt := 24) dz_M_rank_75 rfl ?_
              simp only [nI_1]
              exact zq_fewer _ (zq_sub_spec (by repeat (first | exact trivial | exact rfl | refine And.intro ?_ ?_))) (ih24 (o + 1) (by omega) (by omega) (by rw [zf_any, hn, show zx_clash X.1 q r o = false from by simp [zx_clash, h34]]; rfl))
            · skip
              have h34 : ¬ o = q := fun z => h34 (by rw [z])
              refine gq_aload_n dz_M_rank_37 rfl ?_
              refine gq_getR 33 zf_M_16 rfl rfl dz_M_rank_38 ?_
              refine gq_iconst (v := 3) dz_M_rank_41 rfl ?_
              refine gq_iload_n dz_M_rank_42 rfl ?_
              refine gq_imul dz_M_rank_43 ?_
              refine gw_iald (3 * o) (zn_k0 o) rfl (rfl) (Nat.le_of_ble_eq_true rfl) (by omega) dz_M_rank_44 ?_
              rw [zn_th hA ho2]
              refine gq_aload_n dz_M_rank_45 rfl ?_
              refine gq_getR 33 zf_M_16 rfl rfl dz_M_rank_46 ?_
              refine gq_iconst (v := 3) dz_M_rank_49 rfl ?_
              refine gq_iload_n dz_M_rank_50 rfl ?_
              refine gq_imul dz_M_rank_51 ?_
              refine gw_iald (3 * q) (zn_k0 q) rfl (rfl) (Nat.le_of_ble_eq_true rfl) (by omega) dz_M_rank_52 ?_
              rw [zn_th hA hq]
              refine gq_icmp_ne (tgt := 72) dz_M_rank_53 rfl (fun h53 => ?_) (fun h53 => ?_)
              · skip
                refine gw_iinc 3 (c := 1) dz_M_rank_72 rfl rfl (Nat.le_of_ble_eq_true rfl) rfl ?_
                dsimp only [List.set]
                refine gq_goto (tgt := 24) dz_M_rank_75 rfl ?_
                simp only [nI_1]
                exact zq_fewer _ (zq_sub_spec (by repeat (first | exact trivial | exact rfl | refine And.intro ?_ ?_))) (ih24 (o + 1) (by omega) (by omega) (by rw [zf_any, hn, show zx_clash X.1 q r o = false from by simp [zx_clash, h53]]; rfl))
              · skip
                refine gq_aload_n dz_M_rank_56 rfl ?_
                refine gq_getR 31 zf_M_7 rfl rfl dz_M_rank_57 ?_
                refine gq_bipush (v := 18) dz_M_rank_60 rfl ?_
                refine gq_iload_n dz_M_rank_62 rfl ?_
                refine gq_iadd dz_M_rank_63 ?_
                refine gw_iald (18 + o) (by rw [show (18 : Int32) = nI 18 from rfl, nI_add]) rfl (rfl) (Nat.le_of_ble_eq_true rfl) (by omega) dz_M_rank_64 ?_
                rw [zn_rk hA ho2]
                refine gq_iload_n dz_M_rank_65 rfl ?_
                refine gq_icmp_ne (tgt := 72) dz_M_rank_66 rfl (fun h66 => ?_) (fun h66 => ?_)
                · skip
                  refine gw_iinc 3 (c := 1) dz_M_rank_72 rfl rfl (Nat.le_of_ble_eq_true rfl) rfl ?_
                  dsimp only [List.set]
                  refine gq_goto (tgt := 24) dz_M_rank_75 rfl ?_
                  simp only [nI_1]
                  exact zq_fewer _ (zq_sub_spec (by repeat (first | exact trivial | exact rfl | refine And.intro ?_ ?_))) (ih24 (o + 1) (by omega) (by omega) (by rw [zf_any, hn, show zx_clash X.1 q r o = false from by simp [zx_clash, h66]]; rfl))
                · skip
                  refine gq_bipush (v := -2) dz_M_rank_69 rfl ?_
                  refine gw_iretP .int dz_M_rank_71 rfl (by first | rfl | exact zb_nar _ | exact pk_nc _) ?_ ?_
                  · rw [zx_rankR1, if_neg (c := zx_r19 r = false) (by rw [h17]; exact Bool.noConfusion), if_pos (zf_any_of ho2 (by simp [zx_clash, h34, h53, h66]))]
                  · rw [zx_rankA1, if_neg (c := zx_r19 r = false) (by rw [h17]; exact Bool.noConfusion), if_pos (zf_any_of ho2 (by simp [zx_clash, h34, h53, h66]))]; exact ⟨hS, zg_M.rf⟩
      exact zq_fewer _ (zq_sub_spec (by repeat (first | exact trivial | exact rfl | refine And.intro ?_ ?_))) (L24 (za_m X.1 + 1) 0 (by omega) (by omega) rfl)
    · skip
      rw [zn_in19] at h17
      refine gq_iconst (v := -1) dz_M_rank_20 rfl ?_
      refine gw_iretP .int dz_M_rank_21 rfl (by first | rfl | exact zb_nar _ | exact pk_nc _) ?_ ?_
      · rw [zx_rankR1, if_pos h17]
      · rw [zx_rankA1, if_pos h17]; exact ⟨hS, zg_M.rf⟩
