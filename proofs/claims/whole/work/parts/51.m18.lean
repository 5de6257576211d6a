/-! ALL CASES, IN THE MODEL, 3: fits -/
theorem zn_demorgan (e g x : Int32) : e &&& ((g ||| x) ^^^ -1) = (e &&& (g ^^^ -1)) &&& (x ^^^ -1) := by
  refine Int32.toBitVec_inj.mp ?_
  rw [Int32.toBitVec_and, Int32.toBitVec_xor, Int32.toBitVec_or, Int32.toBitVec_and, Int32.toBitVec_and, Int32.toBitVec_xor, Int32.toBitVec_xor]
  refine BitVec.eq_of_getLsbD_eq fun i hi => ?_
  simp only [BitVec.getLsbD_and, BitVec.getLsbD_xor, BitVec.getLsbD_or, show (-1 : Int32).toBitVec = BitVec.allOnes 32 from rfl, BitVec.getLsbD_allOnes, decide_eq_true hi]
  cases e.toBitVec.getLsbD i <;> cases g.toBitVec.getLsbD i <;> cases x.toBitVec.getLsbD i <;> rfl
def zn_nonf (X : za_X) (a : Nat) (x : Int32) : Int32 := if zs_sn X a then x &&& (nI a ^^^ -1) else x
def zn_non (X : za_X) : Nat → Int32 := zf_fo (zn_nonf X) (nI (za_N X.1) - 1)
theorem zn_non_eq (X : za_X) : ∀ a, zn_non X a = (nI (za_N X.1) - 1) &&& (zf_fo (zs_gisf X) 0 a ^^^ -1)
  | 0 => by
    show nI (za_N X.1) - 1 = (nI (za_N X.1) - 1) &&& ((0 : Int32) ^^^ -1)
    rw [show ((0 : Int32) ^^^ -1) = -1 from rfl, Int32.and_neg_one]
  | a + 1 => by
    show zn_nonf X a (zn_non X a) = (nI (za_N X.1) - 1) &&& (zs_gisf X a (zf_fo (zs_gisf X) 0 a) ^^^ -1)
    rw [zn_non_eq X a]
    unfold zn_nonf zs_gisf
    split
    · rw [zn_demorgan]
    · rfl
theorem zn_lst_0 (X : za_X) : ∀ a, a ≤ 64 → (zf_ct (zs_sn X) a = 0 ↔ zf_fo (zs_lstf X) (-4) a = -4)
  | 0, _ => ⟨fun _ => rfl, fun _ => rfl⟩
  | a + 1, h => by
    have ih := zn_lst_0 X a (by omega)
    have hp : ¬ nI a = -4 := fun z => nI_pos (show a < 2 ^ 31 by omega) (by rw [z]; decide)
    show zf_ct (zs_sn X) (a + 1) = 0 ↔ zs_lstf X a (zf_fo (zs_lstf X) (-4) a) = -4
    unfold zs_lstf
    by_cases hs : zs_sn X a = true
    · rw [zf_ct_t hs, if_pos hs]
      refine ⟨fun z => by omega, fun z => ?_⟩
      split at z
      · exact absurd z hp
      · next h2 => exact absurd z h2
    · rw [zf_ct_f (by simpa using hs), if_neg hs]
      exact ih

set_option maxHeartbeats 4000000 in
theorem sp_M_fits {σ : zq_T} {X : za_X} (hS : zM_rep σ X) (hW : zx_wf X) (w : Int32) : zq_Sp zm_M_fits 8 [zq_O 30 0, zq_I w] σ (zq_rv (zq_I (zx_fits X w)) σ) := by
  have hA : zn_rep σ X.1 := hS.1
  have hw : za_wf X.1 := hW.1
  have hn6 := zn_n6 hA
  have hm5 := zn_m5 hA
  have hN : za_N X.1 ≤ 64 := za_N64 hn6
  have hs6 : (zx_s X).1 ≤ 6 := hW.2.2.2.1.1
  refine zq_sp [some (zq_O 30 0), some (zq_I w), none, none, none, none, none, none, none] (by decide +kernel) rfl (Nat.le_of_ble_eq_true rfl) (fun ν => ?_)
  refine gq_iload_n dz_M_fits_0 rfl ?_
  refine gq_i2l dz_M_fits_1 ?_
  refine gq_lconst (v := 0) dz_M_fits_2 rfl ?_
  refine gq_ldc2 zl_M_167 dz_M_fits_3 ?_
  refine gq_cS (sp_M_in _ _ _) zw_M_in zl_M_65 dz_M_fits_6 (by decide) rfl rfl (Nat.le_of_ble_eq_true rfl) ?_
  refine gw_ifb_ne (tgt := 14) dz_M_fits_9 rfl (fun h9 => ?_) (fun h9 => ?_)
  · skip
    rw [zn_in3 (n := 3) rfl rfl (by omega)] at h9
    replace h9 : zx_3 w 3 = true := h9
    refine gq_iconst (v := 0) dz_M_fits_14 rfl ?_
    refine gw_istore_n 2 dz_M_fits_15 rfl (Nat.le_of_ble_eq_true rfl) rfl ?_
    dsimp only [List.set]
    refine gq_bipush (v := -4) dz_M_fits_16 rfl ?_
    refine gw_istore_n 3 dz_M_fits_18 rfl (Nat.le_of_ble_eq_true rfl) rfl ?_
    dsimp only [List.set]
    refine gq_aload_n dz_M_fits_19 rfl ?_
    refine gq_cV (sp_M_cases hA) zw_M_cases zl_M_254 dz_M_fits_20 rfl rfl rfl (by decide) rfl rfl (Nat.le_of_ble_eq_true rfl) ?_
    rw [za_caN hn6]
    refine gq_iconst (v := 1) dz_M_fits_23 rfl ?_
    refine gq_isub dz_M_fits_24 ?_
    refine gw_istore 4 dz_M_fits_25 (Nat.le_of_ble_eq_true rfl) rfl ?_
    dsimp only [List.set]
    refine gq_aload_n dz_M_fits_27 rfl ?_
    refine gq_cV (sp_M_cases hA) zw_M_cases zl_M_254 dz_M_fits_28 rfl rfl rfl (by decide) rfl rfl (Nat.le_of_ble_eq_true rfl) ?_
    rw [za_caN hn6]
    refine gq_iconst (v := 1) dz_M_fits_31 rfl ?_
    refine gq_isub dz_M_fits_32 ?_
    refine gw_istore 5 dz_M_fits_33 (Nat.le_of_ble_eq_true rfl) rfl ?_
    dsimp only [List.set]
    refine gq_iconst (v := 0) dz_M_fits_35 rfl ?_
    refine gw_istore 6 dz_M_fits_36 (Nat.le_of_ble_eq_true rfl) rfl ?_
    dsimp only [List.set]
    have L38 : ∀ (kf : Nat) (a : Nat) (hkf : za_N X.1 - a < kf) (ha : a ≤ za_N X.1), zq_G ν zm_M_fits 8 (zq_rv (zq_I (zx_fits X w)) σ) 38 [some (zq_O 30 0), some (zq_I w), some (zq_I (nI (zf_ct (zs_sn X) a))), some (zq_I (zf_fo (zs_lstf X) (-4) a)), some (zq_I (zf_fo (zs_giaf X) (nI (za_N X.1) - 1) a)), some (zq_I (zn_non X a)), some (zq_I (nI a)), none, none] [] σ := by
      intro kf
      induction kf with
      | zero => intro a hkf ha; exact absurd hkf (Nat.not_lt_zero _)
      | succ kf ih38 =>
        intro a hkf ha
        refine gq_iload dz_M_fits_38 rfl ?_
        refine gq_aload_n dz_M_fits_40 rfl ?_
        refine gq_cV (sp_M_cases hA) zw_M_cases zl_M_254 dz_M_fits_41 rfl rfl rfl (by decide) rfl rfl (Nat.le_of_ble_eq_true rfl) ?_
        rw [za_caN hn6]
        refine gq_icmp_ge (tgt := 150) dz_M_fits_44 rfl (fun h44 => ?_) (fun h44 => ?_)
        · skip
          have ha2 : a = za_N X.1 := zq_leq h44 ha (by omega)
          subst ha2
          have hctl := zf_ct_le (zs_sn X) (za_N X.1)
          refine gq_iload_n dz_M_fits_150 rfl ?_
          refine gq_if_ne (tgt := 158) dz_M_fits_151 rfl (fun h151 => ?_) (fun h151 => ?_)
          · skip
            refine gq_iload_n dz_M_fits_158 rfl ?_
            refine gq_if_ne (tgt := 167) dz_M_fits_159 rfl (fun h159 => ?_) (fun h159 => ?_)
            · skip
              have h0 : ¬ zf_ct (zs_sn X) (za_N X.1) = 0 := fun z => h159 (by rw [z]; rfl)
              refine gq_iload_n dz_M_fits_167 rfl ?_
              refine gq_iconst (v := 1) dz_M_fits_168 rfl ?_
              refine gq_icmp_ne (tgt := 176) dz_M_fits_169 rfl (fun h169 => ?_) (fun h169 => ?_)
              · skip
                refine gq_iload_n dz_M_fits_176 rfl ?_
                refine gq_iconst (v := 2) dz_M_fits_177 rfl ?_
                refine gq_icmp_ne (tgt := 186) dz_M_fits_178 rfl (fun h178 => ?_) (fun h178 => ?_)
                · skip
                  refine gq_iload dz_M_fits_186 rfl ?_
                  refine gw_iret .int dz_M_fits_188 rfl (by first | rfl | exact zb_nar _ | exact pk_nc _) ?_ ?_
                  · rw [zx_fits, h9, if_neg (by decide), if_neg h151, if_neg h0, if_neg h169, if_neg h178, ← zn_non_eq]
                  · rfl
                · skip
                  refine gq_iload dz_M_fits_181 rfl ?_
                  refine gq_goto (tgt := 188) dz_M_fits_183 rfl ?_
                  refine gw_iret .int dz_M_fits_188 rfl (by first | rfl | exact zb_nar _ | exact pk_nc _) ?_ ?_
                  · rw [zx_fits, h9, if_neg (by decide), if_neg h151, if_neg h0, if_neg h169, if_pos h178]
                  · rfl
              · skip
                refine gq_iload_n dz_M_fits_172 rfl ?_
                refine gq_goto (tgt := 188) dz_M_fits_173 rfl ?_
                refine gw_iret .int dz_M_fits_188 rfl (by first | rfl | exact zb_nar _ | exact pk_nc _) ?_ ?_
                · rw [zx_fits, h9, if_neg (by decide), if_neg h151, if_neg h0, if_pos h169]
                · rfl
            · skip
              have h0 : zf_ct (zs_sn X) (za_N X.1) = 0 := (nI_eq (b := 0) (by omega) (by omega)).mp h159
              refine gq_bipush (v := -4) dz_M_fits_162 rfl ?_
              refine gq_goto (tgt := 188) dz_M_fits_164 rfl ?_
              refine gw_iret .int dz_M_fits_188 rfl (by first | rfl | exact zb_nar _ | exact pk_nc _) ?_ ?_
              · rw [zx_fits, h9, if_neg (by decide), if_neg h151, if_pos h0]
              · rfl
          · skip
            refine gq_iload_n dz_M_fits_154 rfl ?_
            refine gq_goto (tgt := 188) dz_M_fits_155 rfl ?_
            refine gw_iret .int dz_M_fits_188 rfl (by first | rfl | exact zb_nar _ | exact pk_nc _) ?_ ?_
            · rw [zx_fits, h9, if_neg (by decide), if_pos h151]
            · rfl
        · skip
          have ha2 : a < za_N X.1 := by rcases Nat.lt_or_ge a (za_N X.1) with z | z; exact z; exact absurd (nI_le z (by omega)) h44
          have hctl := zf_ct_le (zs_sn X) a
          refine gq_iconst (v := 1) dz_M_fits_47 rfl ?_
          refine gw_istore 7 dz_M_fits_48 (Nat.le_of_ble_eq_true rfl) rfl ?_
          dsimp only [List.set]
          refine gq_iconst (v := 0) dz_M_fits_50 rfl ?_
          refine gw_istore 8 dz_M_fits_51 (Nat.le_of_ble_eq_true rfl) rfl ?_
          dsimp only [List.set]
          have L53 : ∀ (kf : Nat) (k : Nat) (c : Bool) (hkf : (zx_s X).1 - k < kf) (hk : k ≤ (zx_s X).1) (hc : c = zf_all (fun i => decide (zs_own X.1 ((zx_s X).2.1 i) (nI a) 31 = (zx_s X).2.2 i)) k), zq_G ν zm_M_fits 8 (zq_rv (zq_I (zx_fits X w)) σ) 53 [some (zq_O 30 0), some (zq_I w), some (zq_I (nI (zf_ct (zs_sn X) a))), some (zq_I (zf_fo (zs_lstf X) (-4) a)), some (zq_I (zf_fo (zs_giaf X) (nI (za_N X.1) - 1) a)), some (zq_I (zn_non X a)), some (zq_I (nI a)), some (zq_I (zb_v c)), some (zq_I (nI k))] [] σ := by
            intro kf
            induction kf with
            | zero => intro k c hkf hk hc; exact absurd hkf (Nat.not_lt_zero _)
            | succ kf ih53 =>
              intro k c hkf hk hc
              refine gq_iload dz_M_fits_53 rfl ?_
              refine gq_aload_n dz_M_fits_55 rfl ?_
              refine gq_getI zf_M_164 rfl rfl dz_M_fits_56 ?_
              rw [hS.2.2.1.2.2.1.1]
              refine gq_icmp_ge (tgt := 109) dz_M_fits_59 rfl (fun h59 => ?_) (fun h59 => ?_)
              · skip
                have hk4 : k = (zx_s X).1 := zq_leq h59 hk (by omega)
                subst hk4
                have hc2 : c = zs_sn X a := hc
                refine gq_iload dz_M_fits_109 rfl ?_
                refine gw_ifb_eq (tgt := 144) dz_M_fits_111 rfl (fun h111 => ?_) (fun h111 => ?_)
                · skip
                  have hsn : zs_sn X a = false := hc2.symm.trans h111
                  refine gw_iinc 6 (c := 1) dz_M_fits_144 rfl rfl (Nat.le_of_ble_eq_true rfl) rfl ?_
                  dsimp only [List.set]
                  refine gq_goto (tgt := 38) dz_M_fits_147 rfl ?_
                  simp only [nI_1]
                  have hb : ¬ zs_sn X a = true := by rw [hsn]; exact Bool.false_ne_true
                  rw [show zf_fo (zs_lstf X) (-4) a = zf_fo (zs_lstf X) (-4) (a + 1) from (if_neg hb).symm, show zf_fo (zs_giaf X) (nI (za_N X.1) - 1) a = zf_fo (zs_giaf X) (nI (za_N X.1) - 1) (a + 1) from (if_neg hb).symm, show zn_non X a = zn_non X (a + 1) from (if_neg hb).symm, ← zf_ct_f (P := zs_sn X) hsn]
                  exact zq_fewer _ (zq_sub_spec (by repeat (first | exact trivial | exact rfl | refine And.intro ?_ ?_))) (ih38 (a + 1) (by omega) (by omega))
                · skip
                  have hsn : zs_sn X a = true := hc2.symm.trans h111
                  refine gq_iload_n dz_M_fits_114 rfl ?_
                  refine gq_if_ne (tgt := 123) dz_M_fits_115 rfl (fun h115 => ?_) (fun h115 => ?_)
                  · skip
                    have hl0 : ¬ zf_fo (zs_lstf X) (-4) a = -4 := fun z => h115 (by rw [(zn_lst_0 X a (by omega)).mpr z]; rfl)
                    refine gq_iload_n dz_M_fits_123 rfl ?_
                    refine gw_istore_n 3 dz_M_fits_124 rfl (Nat.le_of_ble_eq_true rfl) rfl ?_
                    dsimp only [List.set]
                    refine gq_iload dz_M_fits_125 rfl ?_
                    refine gq_iload dz_M_fits_127 rfl ?_
                    refine gq_iand dz_M_fits_129 ?_
                    refine gw_istore 4 dz_M_fits_130 (Nat.le_of_ble_eq_true rfl) rfl ?_
                    dsimp only [List.set]
                    refine gq_iload dz_M_fits_132 rfl ?_
                    refine gq_iload dz_M_fits_134 rfl ?_
                    refine gq_iconst (v := -1) dz_M_fits_136 rfl ?_
                    refine gq_ixor dz_M_fits_137 ?_
                    refine gq_iand dz_M_fits_138 ?_
                    refine gw_istore 5 dz_M_fits_139 (Nat.le_of_ble_eq_true rfl) rfl ?_
                    dsimp only [List.set]
                    refine gw_iinc 2 (c := 1) dz_M_fits_141 rfl rfl (Nat.le_of_ble_eq_true rfl) rfl ?_
                    dsimp only [List.set]
                    refine gw_iinc 6 (c := 1) dz_M_fits_144 rfl rfl (Nat.le_of_ble_eq_true rfl) rfl ?_
                    dsimp only [List.set]
                    refine gq_goto (tgt := 38) dz_M_fits_147 rfl ?_
                    simp only [nI_1]
                    rw [show zf_fo (zs_giaf X) (nI (za_N X.1) - 1) a &&& nI a = zf_fo (zs_giaf X) (nI (za_N X.1) - 1) (a + 1) from (if_pos hsn).symm, show zn_non X a &&& (nI a ^^^ -1) = zn_non X (a + 1) from (if_pos hsn).symm, ← zf_ct_t (P := zs_sn X) hsn]
                    rw [show zf_fo (zs_lstf X) (-4) a = zf_fo (zs_lstf X) (-4) (a + 1) from ((if_pos hsn).trans (if_neg hl0)).symm]
                    exact zq_fewer _ (zq_sub_spec (by repeat (first | exact trivial | exact rfl | refine And.intro ?_ ?_))) (ih38 (a + 1) (by omega) (by omega))
                  · skip
                    have hl0 : zf_fo (zs_lstf X) (-4) a = -4 := (zn_lst_0 X a (by omega)).mp ((nI_eq (b := 0) (by omega) (by omega)).mp h115)
                    refine gq_iload dz_M_fits_118 rfl ?_
                    refine gq_goto (tgt := 124) dz_M_fits_120 rfl ?_
                    refine gw_istore_n 3 dz_M_fits_124 rfl (Nat.le_of_ble_eq_true rfl) rfl ?_
                    dsimp only [List.set]
                    refine gq_iload dz_M_fits_125 rfl ?_
                    refine gq_iload dz_M_fits_127 rfl ?_
                    refine gq_iand dz_M_fits_129 ?_
                    refine gw_istore 4 dz_M_fits_130 (Nat.le_of_ble_eq_true rfl) rfl ?_
                    dsimp only [List.set]
                    refine gq_iload dz_M_fits_132 rfl ?_
                    refine gq_iload dz_M_fits_134 rfl ?_
                    refine gq_iconst (v := -1) dz_M_fits_136 rfl ?_
                    refine gq_ixor dz_M_fits_137 ?_
                    refine gq_iand dz_M_fits_138 ?_
                    refine gw_istore 5 dz_M_fits_139 (Nat.le_of_ble_eq_true rfl) rfl ?_
                    dsimp only [List.set]
                    refine gw_iinc 2 (c := 1) dz_M_fits_141 rfl rfl (Nat.le_of_ble_eq_true rfl) rfl ?_
                    dsimp only [List.set]
                    refine gw_iinc 6 (c := 1) dz_M_fits_144 rfl rfl (Nat.le_of_ble_eq_true rfl) rfl ?_
                    dsimp only [List.set]
                    refine gq_goto (tgt := 38) dz_M_fits_147 rfl ?_
                    simp only [nI_1]
                    rw [show zf_fo (zs_giaf X) (nI (za_N X.1) - 1) a &&& nI a = zf_fo (zs_giaf X) (nI (za_N X.1) - 1) (a + 1) from (if_pos hsn).symm, show zn_non X a &&& (nI a ^^^ -1) = zn_non X (a + 1) from (if_pos hsn).symm, ← zf_ct_t (P := zs_sn X) hsn]
                    rw [show some (zq_I (nI a)) = some (zq_I (zf_fo (zs_lstf X) (-4) (a + 1))) from by rw [show zf_fo (zs_lstf X) (-4) (a + 1) = nI a from (if_pos hsn).trans (if_pos hl0)]]
                    exact zq_fewer _ (zq_sub_spec (by repeat (first | exact trivial | exact rfl | refine And.intro ?_ ?_))) (ih38 (a + 1) (by omega) (by omega))
              · skip
                have hk2 : k < (zx_s X).1 := by rcases Nat.lt_or_ge k ((zx_s X).1) with z | z; exact z; exact absurd (nI_le z (by omega)) h59
                refine gq_iload dz_M_fits_62 rfl ?_
                refine gw_ifb_eq (tgt := 100) dz_M_fits_64 rfl (fun h64 => ?_) (fun h64 => ?_)
                · skip
                  refine gq_iconst (v := 0) dz_M_fits_100 rfl ?_
                  refine gw_istore 7 dz_M_fits_101 (Nat.le_of_ble_eq_true rfl) rfl ?_
                  dsimp only [List.set]
                  refine gw_iinc 8 (c := 1) dz_M_fits_103 rfl rfl (Nat.le_of_ble_eq_true rfl) rfl ?_
                  dsimp only [List.set]
                  refine gq_goto (tgt := 53) dz_M_fits_106 rfl ?_
                  simp only [nI_1]
                  exact zq_fewer _ (zq_sub_spec (by repeat (first | exact trivial | exact rfl | refine And.intro ?_ ?_))) (ih53 (k + 1) false (by omega) (by omega) (by rw [zf_all, ← hc, h64]; rfl))
                · skip
                  refine gq_aload_n dz_M_fits_67 rfl ?_
                  refine gq_aload_n dz_M_fits_68 rfl ?_
                  refine gq_getR 43 zf_M_47 rfl rfl dz_M_fits_69 ?_
                  refine gq_iconst (v := 2) dz_M_fits_72 rfl ?_
                  refine gq_iload dz_M_fits_73 rfl ?_
                  refine gq_imul dz_M_fits_75 ?_
                  rw [zn_2k]
                  refine gw_iald (2 * k) (rfl) rfl (rfl) (Nat.le_of_ble_eq_true rfl) (by omega) dz_M_fits_76 ?_
                  rw [(hS.2.2.1.2.2.1.2 k hk2).1]
                  refine gq_iload dz_M_fits_77 rfl ?_
                  refine gq_cV (sp_M_ownerIn hA hw _ _) zw_M_ownerIn zl_M_220 dz_M_fits_79 rfl rfl rfl (by decide) rfl rfl (Nat.le_of_ble_eq_true rfl) ?_
                  refine gq_aload_n dz_M_fits_82 rfl ?_
                  refine gq_getR 43 zf_M_47 rfl rfl dz_M_fits_83 ?_
                  refine gq_iconst (v := 2) dz_M_fits_86 rfl ?_
                  refine gq_iload dz_M_fits_87 rfl ?_
                  refine gq_imul dz_M_fits_89 ?_
                  refine gq_iconst (v := 1) dz_M_fits_90 rfl ?_
                  refine gq_iadd dz_M_fits_91 ?_
                  rw [zn_2k1]
                  refine gw_iald (2 * k + 1) (rfl) rfl (rfl) (Nat.le_of_ble_eq_true rfl) (by omega) dz_M_fits_92 ?_
                  rw [(hS.2.2.1.2.2.1.2 k hk2).2]
                  refine gq_icmp_ne (tgt := 100) dz_M_fits_93 rfl (fun h93 => ?_) (fun h93 => ?_)
                  · skip
                    refine gq_iconst (v := 0) dz_M_fits_100 rfl ?_
                    refine gw_istore 7 dz_M_fits_101 (Nat.le_of_ble_eq_true rfl) rfl ?_
                    dsimp only [List.set]
                    refine gw_iinc 8 (c := 1) dz_M_fits_103 rfl rfl (Nat.le_of_ble_eq_true rfl) rfl ?_
                    dsimp only [List.set]
                    refine gq_goto (tgt := 53) dz_M_fits_106 rfl ?_
                    simp only [nI_1]
                    exact zq_fewer _ (zq_sub_spec (by repeat (first | exact trivial | exact rfl | refine And.intro ?_ ?_))) (ih53 (k + 1) false (by omega) (by omega) (by rw [zf_all, decide_eq_false h93, Bool.and_false]))
                  · skip
                    refine gq_iconst (v := 1) dz_M_fits_96 rfl ?_
                    refine gq_goto (tgt := 101) dz_M_fits_97 rfl ?_
                    refine gw_istore 7 dz_M_fits_101 (Nat.le_of_ble_eq_true rfl) rfl ?_
                    dsimp only [List.set]
                    refine gw_iinc 8 (c := 1) dz_M_fits_103 rfl rfl (Nat.le_of_ble_eq_true rfl) rfl ?_
                    dsimp only [List.set]
                    refine gq_goto (tgt := 53) dz_M_fits_106 rfl ?_
                    simp only [nI_1]
                    exact zq_fewer _ (zq_sub_spec (by repeat (first | exact trivial | exact rfl | refine And.intro ?_ ?_))) (ih53 (k + 1) true (by omega) (by omega) (by rw [zf_all, ← hc, h64, decide_eq_true h93]; rfl))
          exact zq_fewer _ (zq_sub_spec (by repeat (first | exact trivial | exact rfl | refine And.intro ?_ ?_))) (L53 ((zx_s X).1 + 1) 0 true (by omega) (by omega) rfl)
    exact zq_fewer _ (zq_sub_spec (by repeat (first | exact trivial | exact rfl | refine And.intro ?_ ?_))) (L38 (za_N X.1 + 1) 0 (by omega) (by omega))
  · skip
    rw [zn_in3 (n := 3) rfl rfl (by omega)] at h9
    replace h9 : zx_3 w 3 = false := h9
    refine gq_iconst (v := -1) dz_M_fits_12 rfl ?_
    refine gw_iret .int dz_M_fits_13 rfl (by first | rfl | exact zb_nar _ | exact pk_nc _) ?_ ?_
    · rw [zx_fits, h9]; rfl
    · rfl
