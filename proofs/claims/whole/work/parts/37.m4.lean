/-! THE MODEL'S ANSWERS -/
theorem zn_out {w : Int32} {n : Nat} (h : zb_in w n = false) {i : Nat} (hi : i < n) (hn : n < 1000) : ¬ w = nI i := fun z => by rw [z, zb_in_nI hi (by omega)] at h; exact Bool.noConfusion h
theorem zn_last {w : Int32} {n : Nat} (h : zb_in w (n + 1) = true) (hn : n < 1000) (hl : ∀ i, i < n → ¬ w = nI i) : w = nI n := by
  obtain ⟨j, hj, rfl⟩ := (zb_in_iff (by omega)).mp h
  rcases Nat.lt_or_ge j n with z | z
  · exact absurd rfl (hl j z)
  · rw [show j = n by omega]
theorem zn_none {w : Int32} {n : Nat} (h : zb_in w n = true) (hn : n < 1000) (hl : ∀ i, i < n → ¬ w = nI i) : False := by
  obtain ⟨j, hj, rfl⟩ := (zb_in_iff (by omega)).mp h
  exact hl j hj rfl
theorem zn_par0 {A : za_D} (hw : za_wf A) {q : Nat} (hq : q < za_n A) (hn : za_n A ≤ 6) : (zn_par (za_pa A q) = 0 → za_pa A q = -4) ∧ (¬ zn_par (za_pa A q) = 0 → zn_par (za_pa A q) - 1 = za_pa A q) := by
  rcases (hw.1 q hq).1 with h | ⟨j, hj, h⟩
  · rw [h]; exact ⟨fun _ => rfl, fun z => absurd rfl z⟩
  · rw [h, zn_par, if_neg (nI_pos (by omega)), nI_1]
    exact ⟨fun z => absurd ((nI_eq (b := 0) (by omega) (by omega)).mp z) (by omega), fun _ => nI_pred j⟩

set_option maxHeartbeats 4000000 in
theorem sp_M_rule {σ : zq_T} {A : za_D} (hA : zn_rep σ A) (w : Int32) : zq_Sp zm_M_rule 0 [zq_O 30 0, zq_I w] σ (zq_rv (zq_I (zx_rule A w)) σ) := by
  refine zq_sp [some (zq_O 30 0), some (zq_I w)] (by decide +kernel) rfl (Nat.le_of_ble_eq_true rfl) (fun ν => ?_)
  refine gq_iload_n dz_M_rule_0 rfl ?_
  refine gq_if_ne (tgt := 11) dz_M_rule_1 rfl (fun h1 => ?_) (fun h1 => ?_)
  · skip
    refine gq_iload_n dz_M_rule_11 rfl ?_
    refine gq_iconst (v := 1) dz_M_rule_12 rfl ?_
    refine gq_icmp_ne (tgt := 23) dz_M_rule_13 rfl (fun h13 => ?_) (fun h13 => ?_)
    · skip
      refine gq_iload_n dz_M_rule_23 rfl ?_
      refine gq_iconst (v := 2) dz_M_rule_24 rfl ?_
      refine gq_icmp_ne (tgt := 38) dz_M_rule_25 rfl (fun h25 => ?_) (fun h25 => ?_)
      · skip
        refine gq_iconst (v := -1) dz_M_rule_38 rfl ?_
        refine gw_iret .int dz_M_rule_39 rfl (by first | rfl | exact zb_nar _ | exact pk_nc _) ?_ ?_
        · simp [zx_rule, *]
        · rfl
      · skip
        refine gq_aload_n dz_M_rule_28 rfl ?_
        refine gq_getR 31 zf_M_7 rfl rfl dz_M_rule_29 ?_
        refine gq_bipush (v := 12) dz_M_rule_32 rfl ?_
        refine gw_iald (12) (rfl) rfl (rfl) (Nat.le_of_ble_eq_true rfl) (by omega) dz_M_rule_34 ?_
        rw [zn_g hA]
        refine gq_goto (tgt := 39) dz_M_rule_35 rfl ?_
        refine gw_iret .int dz_M_rule_39 rfl (by first | rfl | exact zb_nar _ | exact pk_nc _) ?_ ?_
        · simp [zx_rule, *]
        · rfl
    · skip
      refine gq_aload_n dz_M_rule_16 rfl ?_
      refine gq_getI zf_M_161 rfl rfl dz_M_rule_17 ?_
      rw [zn_m hA]
      refine gq_goto (tgt := 39) dz_M_rule_20 rfl ?_
      refine gw_iret .int dz_M_rule_39 rfl (by first | rfl | exact zb_nar _ | exact pk_nc _) ?_ ?_
      · simp [zx_rule, *]
      · rfl
  · skip
    refine gq_aload_n dz_M_rule_4 rfl ?_
    refine gq_getI zf_M_158 rfl rfl dz_M_rule_5 ?_
    rw [zn_n hA]
    refine gq_goto (tgt := 39) dz_M_rule_8 rfl ?_
    refine gw_iret .int dz_M_rule_39 rfl (by first | rfl | exact zb_nar _ | exact pk_nc _) ?_ ?_
    · simp [zx_rule, *]
    · rfl
set_option maxHeartbeats 4000000 in
theorem sp_M_one {σ : zq_T} {A : za_D} (hA : zn_rep σ A) (hw : za_wf A) (p w : Int32) : zq_Sp zm_M_one 2 [zq_O 30 0, zq_I p, zq_I w] σ (zq_rv (zq_I (zx_one A p w)) σ) := by
  have hn6 := zn_n6 hA
  have hm5 := zn_m5 hA
  refine zq_sp [some (zq_O 30 0), some (zq_I p), some (zq_I w), none] (by decide +kernel) rfl (Nat.le_of_ble_eq_true rfl) (fun ν => ?_)
  refine gq_aload_n dz_M_one_0 rfl ?_
  refine gq_iload_n dz_M_one_1 rfl ?_
  refine gq_cV (sp_M_isOne hA _) zw_M_isOne zl_M_203 dz_M_one_2 rfl rfl rfl (by decide) rfl rfl (Nat.le_of_ble_eq_true rfl) ?_
  refine gw_ifb_eq (tgt := 20) dz_M_one_5 rfl (fun h5 => ?_) (fun h5 => ?_)
  · skip
    refine gq_iconst (v := -1) dz_M_one_20 rfl ?_
    refine gw_iret .int dz_M_one_21 rfl (by first | rfl | exact zb_nar _ | exact pk_nc _) ?_ ?_
    · rw [zx_one, h5]; rfl
    · rfl
  · skip
    obtain ⟨q, hq, rfl⟩ := (zb_in_iff (by omega)).mp h5
    refine gq_iload_n dz_M_one_8 rfl ?_
    refine gq_i2l dz_M_one_9 ?_
    refine gq_lconst (v := 0) dz_M_one_10 rfl ?_
    refine gq_ldc2 zl_M_207 dz_M_one_11 ?_
    refine gq_cS (sp_M_in _ _ _) zw_M_in zl_M_65 dz_M_one_14 (by decide) rfl rfl (Nat.le_of_ble_eq_true rfl) ?_
    refine gw_ifb_ne (tgt := 22) dz_M_one_17 rfl (fun h17 => ?_) (fun h17 => ?_)
    · skip
      rw [zn_inc (n := 6) rfl (by omega)] at h17
      refine gq_aload_n dz_M_one_22 rfl ?_
      refine gq_getR 31 zf_M_7 rfl rfl dz_M_one_23 ?_
      refine gq_bipush (v := 12) dz_M_one_26 rfl ?_
      refine gw_iald (12) (rfl) rfl (rfl) (Nat.le_of_ble_eq_true rfl) (by omega) dz_M_one_28 ?_
      rw [zn_g hA]
      refine gw_istore_n 3 dz_M_one_29 rfl (Nat.le_of_ble_eq_true rfl) rfl ?_
      dsimp only [List.set]
      refine gq_iload_n dz_M_one_30 rfl ?_
      by_cases hs31_0 : w = 0
      · rw [hs31_0]
        refine gq_tin (off := 33) (tgt := 64) dz_M_one_31 (by decide) (by decide) rfl rfl ?_
        refine gq_aload_n dz_M_one_64 rfl ?_
        refine gq_getR 32 zf_M_13 rfl rfl dz_M_one_65 ?_
        refine gq_iload_n dz_M_one_68 rfl ?_
        refine gw_iald (q) (rfl) rfl (rfl) (Nat.le_of_ble_eq_true rfl) (by omega) dz_M_one_69 ?_
        rw [zn_pa hA hq]
        refine gq_if_ne (tgt := 78) dz_M_one_70 rfl (fun h70 => ?_) (fun h70 => ?_)
        · skip
          refine gq_aload_n dz_M_one_78 rfl ?_
          refine gq_getR 32 zf_M_13 rfl rfl dz_M_one_79 ?_
          refine gq_iload_n dz_M_one_82 rfl ?_
          refine gw_iald (q) (rfl) rfl (rfl) (Nat.le_of_ble_eq_true rfl) (by omega) dz_M_one_83 ?_
          rw [zn_pa hA hq]
          refine gq_iconst (v := 1) dz_M_one_84 rfl ?_
          refine gq_isub dz_M_one_85 ?_
          refine gw_iret .int dz_M_one_86 rfl (by first | rfl | exact zb_nar _ | exact pk_nc _) ?_ ?_
          · rw [zx_one, h5, if_pos rfl, nI_clamp (by omega)]; exact (zn_par0 hw hq hn6).2 h70
          · rfl
        · skip
          refine gq_bipush (v := -4) dz_M_one_73 rfl ?_
          refine gq_goto (tgt := 86) dz_M_one_75 rfl ?_
          refine gw_iret .int dz_M_one_86 rfl (by first | rfl | exact zb_nar _ | exact pk_nc _) ?_ ?_
          · rw [zx_one, h5, if_pos rfl, nI_clamp (by omega)]; exact ((zn_par0 hw hq hn6).1 h70).symm
          · rfl
      · skip
        by_cases hs31_1 : w = 1
        · rw [hs31_1]
          refine gq_tin (off := 56) (tgt := 87) dz_M_one_31 (by decide) (by decide) rfl rfl ?_
          refine gq_aload_n dz_M_one_87 rfl ?_
          refine gq_getR 31 zf_M_7 rfl rfl dz_M_one_88 ?_
          refine gq_iload_n dz_M_one_91 rfl ?_
          refine gw_iald (q) (rfl) rfl (rfl) (Nat.le_of_ble_eq_true rfl) (by omega) dz_M_one_92 ?_
          rw [zn_fa hA (by omega)]
          refine gw_iret .int dz_M_one_93 rfl (by first | rfl | exact zb_nar _ | exact pk_nc _) ?_ ?_
          · rw [zx_one, h5, if_pos rfl, nI_clamp (by omega)]; rfl
          · rfl
        · skip
          by_cases hs31_2 : w = 2
          · rw [hs31_2]
            refine gq_tin (off := 63) (tgt := 94) dz_M_one_31 (by decide) (by decide) rfl rfl ?_
            refine gq_aload_n dz_M_one_94 rfl ?_
            refine gq_getR 31 zf_M_7 rfl rfl dz_M_one_95 ?_
            refine gq_bipush (v := 6) dz_M_one_98 rfl ?_
            refine gq_iload_n dz_M_one_100 rfl ?_
            refine gq_iadd dz_M_one_101 ?_
            refine gw_iald (6 + q) (by rw [show (6 : Int32) = nI 6 from rfl, nI_add]) rfl (rfl) (Nat.le_of_ble_eq_true rfl) (by omega) dz_M_one_102 ?_
            rw [zn_tr hA (by omega)]
            refine gw_iret .int dz_M_one_103 rfl (by first | rfl | exact zb_nar _ | exact pk_nc _) ?_ ?_
            · rw [zx_one, h5, if_pos rfl, nI_clamp (by omega)]; rfl
            · rfl
          · skip
            by_cases hs31_3 : w = 3
            · rw [hs31_3]
              refine gq_tin (off := 73) (tgt := 104) dz_M_one_31 (by decide) (by decide) rfl rfl ?_
              refine gq_iload_n dz_M_one_104 rfl ?_
              refine gq_iload_n dz_M_one_105 rfl ?_
              refine gq_ishr dz_M_one_106 ?_
              refine gq_iconst (v := 1) dz_M_one_107 rfl ?_
              refine gq_iand dz_M_one_108 ?_
              refine gw_iret .int dz_M_one_109 rfl (by first | rfl | exact zb_nar _ | exact pk_nc _) ?_ ?_
              · rw [zx_one, h5, if_pos rfl, nI_clamp (by omega)]; rw [← zb_bv]; rfl
              · rfl
            · skip
              by_cases hs31_4 : w = 4
              · rw [hs31_4]
                refine gq_tin (off := 79) (tgt := 110) dz_M_one_31 (by decide) (by decide) rfl rfl ?_
                refine gq_aload_n dz_M_one_110 rfl ?_
                refine gq_iload_n dz_M_one_111 rfl ?_
                refine gq_iload_n dz_M_one_112 rfl ?_
                refine gq_cV (sp_M_bornAs hA hw hq _) zw_M_bornAs zl_M_173 dz_M_one_113 rfl rfl rfl (by decide) rfl rfl (Nat.le_of_ble_eq_true rfl) ?_
                refine gw_iret .int dz_M_one_116 rfl (by first | rfl | exact zb_nar _ | exact pk_nc _) ?_ ?_
                · rw [zx_one, h5, if_pos rfl, nI_clamp (by omega)]; rfl
                · rfl
              · skip
                refine gq_tout (tgt := 117) dz_M_one_31 (by have := zq_ne hs31_0; have h_0 := zq_ne hs31_0; have h_1 := zq_ne hs31_1; have h_2 := zq_ne hs31_2; have h_3 := zq_ne hs31_3; have h_4 := zq_ne hs31_4; simp at *; omega) rfl ?_
                have hw5 : w = 5 := zn_last (n := 5) h17 (by omega) (fun i hi => by have : i = 0 ∨ i = 1 ∨ i = 2 ∨ i = 3 ∨ i = 4 := (by omega); rcases this with rfl | rfl | rfl | rfl | rfl <;> assumption)
                rw [hw5]
                refine gq_aload_n dz_M_one_117 rfl ?_
                refine gq_iload_n dz_M_one_118 rfl ?_
                refine gq_iload_n dz_M_one_119 rfl ?_
                refine gq_cV (sp_M_childrenOf hA hw hq _) zw_M_childrenOf zl_M_180 dz_M_one_120 rfl rfl rfl (by decide) rfl rfl (Nat.le_of_ble_eq_true rfl) ?_
                refine gw_iret .int dz_M_one_123 rfl (by first | rfl | exact zb_nar _ | exact pk_nc _) ?_ ?_
                · rw [zx_one, h5, if_pos rfl, nI_clamp (by omega)]; rfl
                · rfl
    · skip
      rw [zn_inc (n := 6) rfl (by omega)] at h17
      refine gq_iconst (v := -1) dz_M_one_20 rfl ?_
      refine gw_iret .int dz_M_one_21 rfl (by first | rfl | exact zb_nar _ | exact pk_nc _) ?_ ?_
      · rw [zx_one, h5, if_pos rfl, nI_clamp (by omega)]; simp [zx_one1, show ¬ w = 0 from zn_out (i := 0) h17 (by omega) (by omega), show ¬ w = 1 from zn_out (i := 1) h17 (by omega) (by omega), show ¬ w = 2 from zn_out (i := 2) h17 (by omega) (by omega), show ¬ w = 3 from zn_out (i := 3) h17 (by omega) (by omega), show ¬ w = 4 from zn_out (i := 4) h17 (by omega) (by omega), show ¬ w = 5 from zn_out (i := 5) h17 (by omega) (by omega)]
      · rfl
set_option maxHeartbeats 4000000 in
theorem sp_M_odd {σ : zq_T} {A : za_D} (hA : zn_rep σ A) (f : Int32) : zq_Sp zm_M_odd 2 [zq_O 30 0, zq_I f] σ (zq_rv (zq_I (zx_odd A f)) σ) := by
  have hn6 := zn_n6 hA
  have hm5 := zn_m5 hA
  refine zq_sp [some (zq_O 30 0), some (zq_I f)] (by decide +kernel) rfl (Nat.le_of_ble_eq_true rfl) (fun ν => ?_)
  refine gq_iload_n dz_M_odd_0 rfl ?_
  refine gq_cS (sp_M_isFact _) zw_M_isFact zl_M_209 dz_M_odd_1 (by decide) rfl rfl (Nat.le_of_ble_eq_true rfl) ?_
  refine gw_ifb_eq (tgt := 21) dz_M_odd_4 rfl (fun h4 => ?_) (fun h4 => ?_)
  · skip
    refine gq_iconst (v := -1) dz_M_odd_21 rfl ?_
    refine gw_iret .int dz_M_odd_22 rfl (by first | rfl | exact zb_nar _ | exact pk_nc _) ?_ ?_
    · rw [zx_odd, h4]; rfl
    · rfl
  · skip
    obtain ⟨q, hq, rfl⟩ := (zb_in_iff (by omega)).mp h4
    refine gq_aload_n dz_M_odd_7 rfl ?_
    refine gq_getR 31 zf_M_7 rfl rfl dz_M_odd_8 ?_
    refine gq_bipush (v := 13) dz_M_odd_11 rfl ?_
    refine gq_iload_n dz_M_odd_13 rfl ?_
    refine gq_iadd dz_M_odd_14 ?_
    refine gw_iald (13 + q) (by rw [show (13 : Int32) = nI 13 from rfl, nI_add]) rfl (rfl) (Nat.le_of_ble_eq_true rfl) (by omega) dz_M_odd_15 ?_
    rw [zn_od hA hq]
    refine gq_iconst (v := 5) dz_M_odd_16 rfl ?_
    refine gq_iadd dz_M_odd_17 ?_
    refine gq_goto (tgt := 22) dz_M_odd_18 rfl ?_
    refine gw_iret .int dz_M_odd_22 rfl (by first | rfl | exact zb_nar _ | exact pk_nc _) ?_ ?_
    · rw [zx_odd, h4, if_pos rfl, nI_clamp (by omega)]; exact Int32.sub_add_cancel _ _
    · rfl
set_option maxHeartbeats 4000000 in
theorem sp_M_law {σ : zq_T} {A : za_D} (hA : zn_rep σ A) (hw : za_wf A) (k w : Int32) : zq_Sp zm_M_law 6 [zq_O 30 0, zq_I k, zq_I w] σ (zq_rv (zq_I (zx_law A k w)) σ) := by
  have hn6 := zn_n6 hA
  have hm5 := zn_m5 hA
  refine zq_sp [some (zq_O 30 0), some (zq_I k), some (zq_I w)] (by decide +kernel) rfl (Nat.le_of_ble_eq_true rfl) (fun ν => ?_)
  refine gq_aload_n dz_M_law_0 rfl ?_
  refine gq_iload_n dz_M_law_1 rfl ?_
  refine gq_cV (sp_M_isRule hA _) zw_M_isRule zl_M_212 dz_M_law_2 rfl rfl rfl (by decide) rfl rfl (Nat.le_of_ble_eq_true rfl) ?_
  refine gw_ifb_eq (tgt := 20) dz_M_law_5 rfl (fun h5 => ?_) (fun h5 => ?_)
  · skip
    refine gq_iconst (v := -1) dz_M_law_20 rfl ?_
    refine gw_iret .int dz_M_law_21 rfl (by first | rfl | exact zb_nar _ | exact pk_nc _) ?_ ?_
    · rw [zx_law, h5]; rfl
    · rfl
  · skip
    obtain ⟨q, hq, rfl⟩ := (zb_in_iff (by omega)).mp h5
    refine gq_iload_n dz_M_law_8 rfl ?_
    refine gq_i2l dz_M_law_9 ?_
    refine gq_lconst (v := 0) dz_M_law_10 rfl ?_
    refine gq_ldc2 zl_M_215 dz_M_law_11 ?_
    refine gq_cS (sp_M_in _ _ _) zw_M_in zl_M_65 dz_M_law_14 (by decide) rfl rfl (Nat.le_of_ble_eq_true rfl) ?_
    refine gw_ifb_ne (tgt := 22) dz_M_law_17 rfl (fun h17 => ?_) (fun h17 => ?_)
    · skip
      rw [zn_inc (n := 7) rfl (by omega)] at h17
      refine gq_iload_n dz_M_law_22 rfl ?_
      by_cases hs23_0 : w = 0
      · rw [hs23_0]
        refine gq_tin (off := 41) (tgt := 64) dz_M_law_23 (by decide) (by decide) rfl rfl ?_
        refine gq_aload_n dz_M_law_64 rfl ?_
        refine gq_getR 31 zf_M_7 rfl rfl dz_M_law_65 ?_
        refine gq_bipush (v := 18) dz_M_law_68 rfl ?_
        refine gq_iload_n dz_M_law_70 rfl ?_
        refine gq_iadd dz_M_law_71 ?_
        refine gw_iald (18 + q) (by rw [show (18 : Int32) = nI 18 from rfl, nI_add]) rfl (rfl) (Nat.le_of_ble_eq_true rfl) (by omega) dz_M_law_72 ?_
        rw [zn_rk hA hq]
        refine gw_iret .int dz_M_law_73 rfl (by first | rfl | exact zb_nar _ | exact pk_nc _) ?_ ?_
        · rw [zx_law, h5, if_pos rfl, nI_clamp (by omega)]; rfl
        · rfl
      · skip
        by_cases hs23_1 : w = 1
        · rw [hs23_1]
          refine gq_tin (off := 87) (tgt := 110) dz_M_law_23 (by decide) (by decide) rfl rfl ?_
          refine gq_aload_n dz_M_law_110 rfl ?_
          refine gq_getR 33 zf_M_16 rfl rfl dz_M_law_111 ?_
          refine gq_iconst (v := 3) dz_M_law_114 rfl ?_
          refine gq_iload_n dz_M_law_115 rfl ?_
          refine gq_imul dz_M_law_116 ?_
          refine gq_iload_n dz_M_law_117 rfl ?_
          refine gq_iadd dz_M_law_118 ?_
          refine gq_iconst (v := 1) dz_M_law_119 rfl ?_
          refine gq_isub dz_M_law_120 ?_
          refine gw_iald (3 * q) (by rw [zn_k1, nI_pred]) rfl (rfl) (Nat.le_of_ble_eq_true rfl) (by omega) dz_M_law_121 ?_
          rw [zn_th hA hq]
          refine gw_iret .int dz_M_law_122 rfl (by first | rfl | exact zb_nar _ | exact pk_nc _) ?_ ?_
          · rw [zx_law, h5, if_pos rfl, nI_clamp (by omega)]; rfl
          · rfl
        · skip
          by_cases hs23_2 : w = 2
          · rw [hs23_2]
            refine gq_tin (off := 87) (tgt := 110) dz_M_law_23 (by decide) (by decide) rfl rfl ?_
            refine gq_aload_n dz_M_law_110 rfl ?_
            refine gq_getR 33 zf_M_16 rfl rfl dz_M_law_111 ?_
            refine gq_iconst (v := 3) dz_M_law_114 rfl ?_
            refine gq_iload_n dz_M_law_115 rfl ?_
            refine gq_imul dz_M_law_116 ?_
            refine gq_iload_n dz_M_law_117 rfl ?_
            refine gq_iadd dz_M_law_118 ?_
            refine gq_iconst (v := 1) dz_M_law_119 rfl ?_
            refine gq_isub dz_M_law_120 ?_
            refine gw_iald (3 * q + 1) (by rw [zn_k2, nI_pred]) rfl (rfl) (Nat.le_of_ble_eq_true rfl) (by omega) dz_M_law_121 ?_
            rw [zn_cl hA hq]
            refine gw_iret .int dz_M_law_122 rfl (by first | rfl | exact zb_nar _ | exact pk_nc _) ?_ ?_
            · rw [zx_law, h5, if_pos rfl, nI_clamp (by omega)]; rfl
            · rfl
          · skip
            by_cases hs23_3 : w = 3
            · rw [hs23_3]
              refine gq_tin (off := 87) (tgt := 110) dz_M_law_23 (by decide) (by decide) rfl rfl ?_
              refine gq_aload_n dz_M_law_110 rfl ?_
              refine gq_getR 33 zf_M_16 rfl rfl dz_M_law_111 ?_
              refine gq_iconst (v := 3) dz_M_law_114 rfl ?_
              refine gq_iload_n dz_M_law_115 rfl ?_
              refine gq_imul dz_M_law_116 ?_
              refine gq_iload_n dz_M_law_117 rfl ?_
              refine gq_iadd dz_M_law_118 ?_
              refine gq_iconst (v := 1) dz_M_law_119 rfl ?_
              refine gq_isub dz_M_law_120 ?_
              refine gw_iald (3 * q + 2) (by rw [zn_k0, show (3 : Int32) = nI 3 from rfl, nI_add, nI_pred]) rfl (rfl) (Nat.le_of_ble_eq_true rfl) (by omega) dz_M_law_121 ?_
              rw [zn_nu hA hq]
              refine gw_iret .int dz_M_law_122 rfl (by first | rfl | exact zb_nar _ | exact pk_nc _) ?_ ?_
              · rw [zx_law, h5, if_pos rfl, nI_clamp (by omega)]; rfl
              · rfl
            · skip
              by_cases hs23_4 : w = 4
              · rw [hs23_4]
                refine gq_tin (off := 51) (tgt := 74) dz_M_law_23 (by decide) (by decide) rfl rfl ?_
                refine gq_aload_n dz_M_law_74 rfl ?_
                refine gq_getR 31 zf_M_7 rfl rfl dz_M_law_75 ?_
                refine gq_bipush (v := 23) dz_M_law_78 rfl ?_
                refine gq_iload_n dz_M_law_80 rfl ?_
                refine gq_iadd dz_M_law_81 ?_
                refine gw_iald (23 + q) (by rw [show (23 : Int32) = nI 23 from rfl, nI_add]) rfl (rfl) (Nat.le_of_ble_eq_true rfl) (by omega) dz_M_law_82 ?_
                rw [zn_pi hA hq]
                refine gw_iret .int dz_M_law_83 rfl (by first | rfl | exact zb_nar _ | exact pk_nc _) ?_ ?_
                · rw [zx_law, h5, if_pos rfl, nI_clamp (by omega)]; rfl
                · rfl
              · skip
                by_cases hs23_5 : w = 5
                · rw [hs23_5]
                  refine gq_tin (off := 61) (tgt := 84) dz_M_law_23 (by decide) (by decide) rfl rfl ?_
                  refine gq_aload_n dz_M_law_84 rfl ?_
                  refine gq_iload_n dz_M_law_85 rfl ?_
                  refine gq_aload_n dz_M_law_86 rfl ?_
                  refine gq_getR 31 zf_M_7 rfl rfl dz_M_law_87 ?_
                  refine gq_bipush (v := 12) dz_M_law_90 rfl ?_
                  refine gw_iald (12) (rfl) rfl (rfl) (Nat.le_of_ble_eq_true rfl) (by omega) dz_M_law_92 ?_
                  rw [zn_g hA]
                  refine gq_cV (sp_M_whoMeet hA hw hq _) zw_M_whoMeet zl_M_187 dz_M_law_93 rfl rfl rfl (by decide) rfl rfl (Nat.le_of_ble_eq_true rfl) ?_
                  refine gw_iret .int dz_M_law_96 rfl (by first | rfl | exact zb_nar _ | exact pk_nc _) ?_ ?_
                  · rw [zx_law, h5, if_pos rfl, nI_clamp (by omega)]; rfl
                  · rfl
                · skip
                  by_cases hs23_6 : w = 6
                  · rw [hs23_6]
                    refine gq_tin (off := 74) (tgt := 97) dz_M_law_23 (by decide) (by decide) rfl rfl ?_
                    refine gq_aload_n dz_M_law_97 rfl ?_
                    refine gq_iload_n dz_M_law_98 rfl ?_
                    refine gq_aload_n dz_M_law_99 rfl ?_
                    refine gq_getR 31 zf_M_7 rfl rfl dz_M_law_100 ?_
                    refine gq_bipush (v := 12) dz_M_law_103 rfl ?_
                    refine gw_iald (12) (rfl) rfl (rfl) (Nat.le_of_ble_eq_true rfl) (by omega) dz_M_law_105 ?_
                    rw [zn_g hA]
                    refine gq_cV (sp_M_gives hA hw hq _) zw_M_gives zl_M_197 dz_M_law_106 rfl rfl rfl (by decide) rfl rfl (Nat.le_of_ble_eq_true rfl) ?_
                    refine gw_iret .int dz_M_law_109 rfl (by first | rfl | exact zb_nar _ | exact pk_nc _) ?_ ?_
                    · rw [zx_law, h5, if_pos rfl, nI_clamp (by omega)]; rfl
                    · rfl
                  · skip
                    refine gq_tout (tgt := 110) dz_M_law_23 (by have := zq_ne hs23_0; have h_0 := zq_ne hs23_0; have h_1 := zq_ne hs23_1; have h_2 := zq_ne hs23_2; have h_3 := zq_ne hs23_3; have h_4 := zq_ne hs23_4; have h_5 := zq_ne hs23_5; have h_6 := zq_ne hs23_6; simp at *; omega) rfl ?_
                    refine gq_aload_n dz_M_law_110 rfl ?_
                    refine gq_getR 33 zf_M_16 rfl rfl dz_M_law_111 ?_
                    refine gq_iconst (v := 3) dz_M_law_114 rfl ?_
                    refine gq_iload_n dz_M_law_115 rfl ?_
                    refine gq_imul dz_M_law_116 ?_
                    refine gq_iload_n dz_M_law_117 rfl ?_
                    refine gq_iadd dz_M_law_118 ?_
                    refine gq_iconst (v := 1) dz_M_law_119 rfl ?_
                    refine gq_isub dz_M_law_120 ?_
                    refine gw_iald (3 * q) ((zn_none h17 (by omega) (fun i hi => by have : i = 0 ∨ i = 1 ∨ i = 2 ∨ i = 3 ∨ i = 4 ∨ i = 5 ∨ i = 6 := (by omega); rcases this with rfl | rfl | rfl | rfl | rfl | rfl | rfl <;> assumption)).elim) rfl (rfl) (Nat.le_of_ble_eq_true rfl) (by omega) dz_M_law_121 ?_
                    rw [zn_th hA hq]
                    refine gw_iret .int dz_M_law_122 rfl (by first | rfl | exact zb_nar _ | exact pk_nc _) ?_ ?_
                    · exact (zn_none h17 (by omega) (fun i hi => by have : i = 0 ∨ i = 1 ∨ i = 2 ∨ i = 3 ∨ i = 4 ∨ i = 5 ∨ i = 6 := (by omega); rcases this with rfl | rfl | rfl | rfl | rfl | rfl | rfl <;> assumption)).elim
                    · rfl
    · skip
      rw [zn_inc (n := 7) rfl (by omega)] at h17
      refine gq_iconst (v := -1) dz_M_law_20 rfl ?_
      refine gw_iret .int dz_M_law_21 rfl (by first | rfl | exact zb_nar _ | exact pk_nc _) ?_ ?_
      · rw [zx_law, h5, if_pos rfl, nI_clamp (by omega)]; simp [zx_law1, show ¬ w = 0 from zn_out (i := 0) h17 (by omega) (by omega), show ¬ w = 1 from zn_out (i := 1) h17 (by omega) (by omega), show ¬ w = 2 from zn_out (i := 2) h17 (by omega) (by omega), show ¬ w = 3 from zn_out (i := 3) h17 (by omega) (by omega), show ¬ w = 4 from zn_out (i := 4) h17 (by omega) (by omega), show ¬ w = 5 from zn_out (i := 5) h17 (by omega) (by omega), show ¬ w = 6 from zn_out (i := 6) h17 (by omega) (by omega)]
      · rfl
set_option maxHeartbeats 4000000 in
theorem sp_M_owner {σ : zq_T} {A : za_D} (hA : zn_rep σ A) (hw : za_wf A) (t : Int32) : zq_Sp zm_M_owner 8 [zq_O 30 0, zq_I t] σ (zq_rv (zq_I (zx_owner A t)) σ) := by
  refine zq_sp [some (zq_O 30 0), some (zq_I t)] (by decide +kernel) rfl (Nat.le_of_ble_eq_true rfl) (fun ν => ?_)
  refine gq_iload_n dz_M_owner_0 rfl ?_
  refine gq_cS (sp_M_isThing _) zw_M_isThing zl_M_217 dz_M_owner_1 (by decide) rfl rfl (Nat.le_of_ble_eq_true rfl) ?_
  refine gw_ifb_eq (tgt := 22) dz_M_owner_4 rfl (fun h4 => ?_) (fun h4 => ?_)
  · skip
    refine gq_iconst (v := -1) dz_M_owner_22 rfl ?_
    refine gw_iret .int dz_M_owner_23 rfl (by first | rfl | exact zb_nar _ | exact pk_nc _) ?_ ?_
    · simp [zx_owner, *]
    · rfl
  · skip
    refine gq_aload_n dz_M_owner_7 rfl ?_
    refine gq_iload_n dz_M_owner_8 rfl ?_
    refine gq_aload_n dz_M_owner_9 rfl ?_
    refine gq_getR 31 zf_M_7 rfl rfl dz_M_owner_10 ?_
    refine gq_bipush (v := 12) dz_M_owner_13 rfl ?_
    refine gw_iald (12) (rfl) rfl (rfl) (Nat.le_of_ble_eq_true rfl) (by omega) dz_M_owner_15 ?_
    rw [zn_g hA]
    refine gq_cV (sp_M_ownerIn hA hw _ _) zw_M_ownerIn zl_M_220 dz_M_owner_16 rfl rfl rfl (by decide) rfl rfl (Nat.le_of_ble_eq_true rfl) ?_
    refine gq_goto (tgt := 23) dz_M_owner_19 rfl ?_
    refine gw_iret .int dz_M_owner_23 rfl (by first | rfl | exact zb_nar _ | exact pk_nc _) ?_ ?_
    · simp [zx_owner, *]
    · rfl
set_option maxHeartbeats 4000000 in
theorem sp_M_by {σ : zq_T} {A : za_D} (hA : zn_rep σ A) (hw : za_wf A) (t : Int32) : zq_Sp zm_M_by 6 [zq_O 30 0, zq_I t] σ (zq_rv (zq_I (zx_by A t)) σ) := by
  refine zq_sp [some (zq_O 30 0), some (zq_I t)] (by decide +kernel) rfl (Nat.le_of_ble_eq_true rfl) (fun ν => ?_)
  refine gq_iload_n dz_M_by_0 rfl ?_
  refine gq_cS (sp_M_isThing _) zw_M_isThing zl_M_217 dz_M_by_1 (by decide) rfl rfl (Nat.le_of_ble_eq_true rfl) ?_
  refine gw_ifb_eq (tgt := 26) dz_M_by_4 rfl (fun h4 => ?_) (fun h4 => ?_)
  · skip
    refine gq_iconst (v := -1) dz_M_by_26 rfl ?_
    refine gw_iret .int dz_M_by_27 rfl (by first | rfl | exact zb_nar _ | exact pk_nc _) ?_ ?_
    · simp [zx_by, *]
    · rfl
  · skip
    refine gq_aload_n dz_M_by_7 rfl ?_
    refine gq_iload_n dz_M_by_8 rfl ?_
    refine gq_aload_n dz_M_by_9 rfl ?_
    refine gq_getR 31 zf_M_7 rfl rfl dz_M_by_10 ?_
    refine gq_bipush (v := 12) dz_M_by_13 rfl ?_
    refine gw_iald (12) (rfl) rfl (rfl) (Nat.le_of_ble_eq_true rfl) (by omega) dz_M_by_15 ?_
    rw [zn_g hA]
    refine gq_bipush (v := 31) dz_M_by_16 rfl ?_
    refine gq_bipush (v := -4) dz_M_by_18 rfl ?_
    refine gq_cV (sp_M_ruleBy hA hw _ _ _ (-4) (Or.inl rfl)) zw_M_ruleBy zl_M_193 dz_M_by_20 rfl rfl rfl (by decide) rfl rfl (Nat.le_of_ble_eq_true rfl) ?_
    rw [zn_B4]
    refine gq_goto (tgt := 27) dz_M_by_23 rfl ?_
    refine gw_iret .int dz_M_by_27 rfl (by first | rfl | exact zb_nar _ | exact pk_nc _) ?_ ?_
    · simp [zx_by, *]
    · rfl
