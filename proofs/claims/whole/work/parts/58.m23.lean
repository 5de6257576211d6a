theorem zk_same.of1 {σ τ : zq_T} (e : τ.1 = σ.1) (e2 : τ.2.2 = σ.2.2) : zk_same σ τ := ⟨e2, fun t j k _ => by rw [e], fun k _ => by rw [e]⟩
theorem zv_gl {A : za_D} (hw : za_wf A) {F b z : Nat} {V : Nat → Nat} (hV : ∀ G, V G ≤ b) (hz : z ≤ 10 * b) : ∀ k, k ≤ 5 → (zf_fo (zv_g A F V) (z, 5) k).1 ≤ 10 * b
  | 0, _ => hz
  | k + 1, hk => by
    have ih := zv_gl (F := F) hw hV hz k (by omega)
    have h1 := zv_w_le (F := F) (f := k) hw (by omega) hV
    show (zv_g A F V k (zf_fo (zv_g A F V) (z, 5) k)).1 ≤ 10 * b
    unfold zv_g
    split
    · exact h1
    · exact ih

set_option maxHeartbeats 4000000 in
theorem sp_M_best {σ : zq_T} {X : za_X} (hS : zM_rep σ X) (hW : zx_wf X) (p t n w : Int32) : zq_Sp zm_M_best 10 [zq_O 30 0, zq_I p, zq_I t, zq_I n, zq_I w] σ (zq_rw (zq_L (zx_best X.1 p t n w)) (fun τ => zM_rep τ X ∧ zg_M σ τ)) := by
  have hA : zn_rep σ X.1 := hS.1
  have hw : za_wf X.1 := hW.1
  have hn6 := zn_n6 hA
  have hm5 := zn_m5 hA
  refine zq_sp [some (zq_O 30 0), some (zq_I p), some (zq_I t), some (zq_I n), some (zq_I w), none, none, none, none, none, none, none, none] (by decide +kernel) rfl (Nat.le_of_ble_eq_true rfl) (fun ν => ?_)
  refine gq_aload_n dz_M_best_0 rfl ?_
  refine gq_iload_n dz_M_best_1 rfl ?_
  refine gq_cV (sp_M_isOne hA _) zw_M_isOne zl_M_203 dz_M_best_2 rfl rfl rfl (by decide) rfl rfl (Nat.le_of_ble_eq_true rfl) ?_
  refine gw_ifb_eq (tgt := 40) dz_M_best_5 rfl (fun h5 => ?_) (fun h5 => ?_)
  · skip
    have ho : zx_bok X.1 p t n w = false := by rw [zx_bok, h5]; rfl
    refine gq_ldc2 zl_M_263 dz_M_best_40 ?_
    refine gw_lretP dz_M_best_43 rfl ?_ ?_
    · rw [zx_best, ho]; rfl
    · exact ⟨hS, zg_M.rf⟩
  · skip
    refine gq_iload_n dz_M_best_8 rfl ?_
    refine gq_cS (sp_M_isThing _) zw_M_isThing zl_M_217 dz_M_best_9 (by decide) rfl rfl (Nat.le_of_ble_eq_true rfl) ?_
    refine gw_ifb_eq (tgt := 40) dz_M_best_12 rfl (fun h12 => ?_) (fun h12 => ?_)
    · skip
      have ho : zx_bok X.1 p t n w = false := by rw [zx_bok, h5, h12]; rfl
      refine gq_ldc2 zl_M_263 dz_M_best_40 ?_
      refine gw_lretP dz_M_best_43 rfl ?_ ?_
      · rw [zx_best, ho]; rfl
      · exact ⟨hS, zg_M.rf⟩
    · skip
      refine gq_iload_n dz_M_best_15 rfl ?_
      refine gq_i2l dz_M_best_16 ?_
      refine gq_lconst (v := 0) dz_M_best_17 rfl ?_
      refine gq_ldc2 zl_M_167 dz_M_best_18 ?_
      refine gq_cS (sp_M_in _ _ _) zw_M_in zl_M_65 dz_M_best_21 (by decide) rfl rfl (Nat.le_of_ble_eq_true rfl) ?_
      refine gw_ifb_eq (tgt := 40) dz_M_best_24 rfl (fun h24 => ?_) (fun h24 => ?_)
      · skip
        rw [zn_in3 (n := 3) rfl rfl (by omega)] at h24
        have ho : zx_bok X.1 p t n w = false := by rw [zx_bok, h5, h12, show zx_3 n 3 = false from h24]; rfl
        refine gq_ldc2 zl_M_263 dz_M_best_40 ?_
        refine gw_lretP dz_M_best_43 rfl ?_ ?_
        · rw [zx_best, ho]; rfl
        · exact ⟨hS, zg_M.rf⟩
      · skip
        rw [zn_in3 (n := 3) rfl rfl (by omega)] at h24
        replace h24 : zx_3 n 3 = true := h24
        refine gq_iload dz_M_best_27 rfl ?_
        refine gq_i2l dz_M_best_29 ?_
        refine gq_lconst (v := 0) dz_M_best_30 rfl ?_
        refine gq_ldc2 zl_M_241 dz_M_best_31 ?_
        refine gq_cS (sp_M_in _ _ _) zw_M_in zl_M_65 dz_M_best_34 (by decide) rfl rfl (Nat.le_of_ble_eq_true rfl) ?_
        refine gw_ifb_ne (tgt := 44) dz_M_best_37 rfl (fun h37 => ?_) (fun h37 => ?_)
        · skip
          rw [zn_in3 (n := 2) rfl rfl (by omega)] at h37
          replace h37 : zx_3 w 2 = true := h37
          have ho : zx_bok X.1 p t n w = true := by rw [zx_bok, h5, h12, h24, h37]; rfl
          obtain ⟨q, hq, rfl⟩ := (zb_in_iff (by omega)).mp h5
          obtain ⟨n0, hn0, rfl⟩ := zx_3of (n := 3) h24 (by omega)
          obtain ⟨F0, hF0, hFe⟩ := (hw.1 q hq).2.1
          obtain ⟨T0, hT0, hTe⟩ := (hw.1 q hq).2.2
          refine gq_iconst (v := 3) dz_M_best_44 rfl ?_
          refine gq_aload_n dz_M_best_45 rfl ?_
          refine gq_getR 31 zf_M_7 rfl rfl dz_M_best_46 ?_
          refine gq_bipush (v := 6) dz_M_best_49 rfl ?_
          refine gq_iload_n dz_M_best_51 rfl ?_
          refine gq_iadd dz_M_best_52 ?_
          refine gw_iald (6 + q) (by rw [show (6 : Int32) = nI 6 from rfl, nI_add]) rfl (rfl) (Nat.le_of_ble_eq_true rfl) (by omega) dz_M_best_53 ?_
          rw [zn_tr hA (by omega), hTe]
          refine gq_isub dz_M_best_54 ?_
          rw [show (3 : Int32) = nI 3 from rfl, pk_sub (by omega)]
          refine gw_istore 5 dz_M_best_55 (Nat.le_of_ble_eq_true rfl) rfl ?_
          dsimp only [List.set]
          refine gq_iload_n dz_M_best_57 rfl ?_
          refine gq_aload_n dz_M_best_58 rfl ?_
          refine gq_getR 31 zf_M_7 rfl rfl dz_M_best_59 ?_
          refine gq_bipush (v := 12) dz_M_best_62 rfl ?_
          refine gw_iald (12) (rfl) rfl (rfl) (Nat.le_of_ble_eq_true rfl) (by omega) dz_M_best_64 ?_
          rw [zn_g hA]
          refine gq_cS (sp_M_isThere _ _) zw_M_isThere zl_M_169 dz_M_best_65 (by decide) rfl rfl (Nat.le_of_ble_eq_true rfl) ?_
          refine gw_ifb_ne (tgt := 75) dz_M_best_68 rfl (fun h68 => ?_) (fun h68 => ?_)
          · skip
            refine gq_iload_n dz_M_best_75 rfl ?_
            refine gq_iload dz_M_best_76 rfl ?_
            refine gq_icmp_ge (tgt := 85) dz_M_best_78 rfl (fun h78 => ?_) (fun h78 => ?_)
            · skip
              have hmn : 3 - T0 ≤ n0 := (nI_leI (by omega) (by omega)).mp h78
              obtain ⟨M, hMe⟩ : ∃ M, M = 3 - T0 := ⟨_, rfl⟩
              have hM : T0 + M ≤ 3 := by omega
              have hb : zx_best1 X.1 q t n0 w = zv_b1 X.1 q t M F0 T0 w := by rw [zv_best_in hw hn0 hF0 (by omega) hFe hTe, show min n0 (3 - T0) = M by omega]
              rw [← hMe]
              refine gq_iload dz_M_best_85 rfl ?_
              refine gw_istore 6 dz_M_best_87 (Nat.le_of_ble_eq_true rfl) rfl ?_
              dsimp only [List.set]
              refine gq_aload_n dz_M_best_89 rfl ?_
              refine gq_iload_n dz_M_best_90 rfl ?_
              refine gq_iload_n dz_M_best_91 rfl ?_
              refine gq_iload dz_M_best_92 rfl ?_
              refine gq_cVX (sp_M_layValues (T := T0) (M := M) hA hw hq hTe hM t) zw_M_layValues zl_M_285 dz_M_best_94 rfl rfl rfl (by decide) rfl rfl (Nat.le_of_ble_eq_true rfl) (fun τ94 hq94 => ?_)
              have hA3 := hA.of1 hq94.1
              have hz := zk_same.of1 hq94.1 hq94.2.1
              have hV0 : τ94.2.1 (32 * M + F0) = lN (zv X.1 q t M F0 T0) := (hq94.2.2 M (Nat.le_refl _) F0 hF0).trans (by rw [Nat.add_sub_cancel])
              refine gq_iload dz_M_best_97 rfl ?_
              refine gq_iconst (v := 2) dz_M_best_99 rfl ?_
              refine gq_icmp_ge (tgt := 131) dz_M_best_100 rfl (fun h100 => ?_) (fun h100 => ?_)
              · skip
                have hw2 : w = 2 := by have h1 := (of_decide_eq_true h37).2; rw [Int32.le_iff_toInt_le] at h1 h100; exact Int32.toInt_inj.mp (by omega)
                refine gq_iconst (v := 5) dz_M_best_131 rfl ?_
                refine gw_istore 7 dz_M_best_132 (Nat.le_of_ble_eq_true rfl) rfl ?_
                dsimp only [List.set]
                refine gq_aload_n dz_M_best_134 rfl ?_
                refine gq_iload_n dz_M_best_135 rfl ?_
                refine gq_iload_n dz_M_best_136 rfl ?_
                refine gq_aload_n dz_M_best_137 rfl ?_
                refine gq_getR 31 zf_M_7 rfl rfl dz_M_best_138 ?_
                refine gq_iload_n dz_M_best_141 rfl ?_
                refine gw_iald (q) (rfl) rfl (rfl) (Nat.le_of_ble_eq_true rfl) (by omega) dz_M_best_142 ?_
                rw [zn_fa hA3 (by omega), hFe]
                refine gq_aload_n dz_M_best_143 rfl ?_
                refine gq_getR 31 zf_M_7 rfl rfl dz_M_best_144 ?_
                refine gq_bipush (v := 6) dz_M_best_147 rfl ?_
                refine gq_iload_n dz_M_best_149 rfl ?_
                refine gq_iadd dz_M_best_150 ?_
                refine gw_iald (6 + q) (by rw [show (6 : Int32) = nI 6 from rfl, nI_add]) rfl (rfl) (Nat.le_of_ble_eq_true rfl) (by omega) dz_M_best_151 ?_
                rw [zn_tr hA3 (by omega), hTe]
                refine gq_cV (sp_M_stops (F := F0) (T := T0) hA3 hw hq hF0 (by omega) t) zw_M_stops zl_M_273 dz_M_best_152 rfl rfl rfl (by decide) rfl rfl (Nat.le_of_ble_eq_true rfl) ?_
                refine gq_iload dz_M_best_155 rfl ?_
                refine gq_cS (sp_M_tens (m := M) (by omega)) zw_M_tens zl_M_277 dz_M_best_157 (by decide) rfl rfl (Nat.le_of_ble_eq_true rfl) ?_
                refine gq_lmul dz_M_best_160 ?_
                rw [lN_mul]
                refine gw_lstore 8 dz_M_best_161 (Nat.le_of_ble_eq_true rfl) rfl ?_
                dsimp only [List.set]
                refine gq_iconst (v := 0) dz_M_best_163 rfl ?_
                refine gw_istore 10 dz_M_best_164 (Nat.le_of_ble_eq_true rfl) rfl ?_
                dsimp only [List.set]
                have L166 : ∀ (kf : Nat) (f : Nat) (S : Nat × Int32) (hkf : 5 - f < kf) (hf : f ≤ 5) (hS0 : M = 0 → S.2 = 5) (hS1 : ∀ m, M = m + 1 → S = zf_fo (zv_g X.1 F0 (fun G => zv X.1 q t m G (T0 + 1))) (zv_s X.1 q t F0 T0 * 10 ^ M, 5) f), zq_G ν zm_M_best 10 (zq_rw (zq_L (zx_best X.1 (nI q) t (nI n0) w)) (fun τ => zM_rep τ X ∧ zg_M σ τ)) 166 [some (zq_O 30 0), some (zq_I (nI q)), some (zq_I t), some (zq_I (nI n0)), some (zq_I w), none, some (zq_I (nI M)), some (zq_I S.2), some (zq_L (lN S.1)), none, some (zq_I (nI f)), none, none] [] τ94 := by
                  intro kf
                  induction kf with
                  | zero => intro f S hkf hf hS0 hS1; exact absurd hkf (Nat.not_lt_zero _)
                  | succ kf ih166 =>
                    intro f S hkf hf hS0 hS1
                    refine gq_iload dz_M_best_166 rfl ?_
                    refine gq_iconst (v := 5) dz_M_best_168 rfl ?_
                    refine gq_icmp_ge (tgt := 252) dz_M_best_169 rfl (fun h169 => ?_) (fun h169 => ?_)
                    · skip
                      have hf5 : f = 5 := by have := (nI_leI (a := 5) (by omega) (by omega)).mp h169; omega
                      have hx : S.2 = zv_wh X.1 q t M F0 T0 := by rcases Nat.eq_zero_or_pos M with z | z; rw [hS0 z, z]; rfl; obtain ⟨m, rfl⟩ : ∃ m, M = m + 1 := ⟨M - 1, (by omega)⟩; rw [hS1 m rfl, hf5]; rfl
                      refine gq_iload dz_M_best_252 rfl ?_
                      refine gq_i2l dz_M_best_254 ?_
                      refine gw_lretP dz_M_best_255 rfl ?_ ?_
                      · rw [zx_best, ho, if_pos rfl, nI_clamp (by omega), nI_clamp (by omega), hb, zv_b1, if_pos hw2, hx]
                      · exact ⟨hS.as hW hz, hz.M⟩
                    · skip
                      have hf2 : f < 5 := (nI_ltI (b := 5) (by omega) (by omega)).mp (Int32.not_le.mp h169)
                      refine gq_iload dz_M_best_172 rfl ?_
                      refine gq_if_le (tgt := 252) dz_M_best_174 rfl (fun h174 => ?_) (fun h174 => ?_)
                      · skip
                        have hm0 : M = 0 := by rcases Nat.eq_zero_or_pos M with z | z; exact z; exact absurd (nI_lt (a := 0) z (by omega)) (Int32.not_lt.mpr h174)
                        have hx : S.2 = zv_wh X.1 q t M F0 T0 := by rw [hS0 hm0, hm0]; rfl
                        refine gq_iload dz_M_best_252 rfl ?_
                        refine gq_i2l dz_M_best_254 ?_
                        refine gw_lretP dz_M_best_255 rfl ?_ ?_
                        · rw [zx_best, ho, if_pos rfl, nI_clamp (by omega), nI_clamp (by omega), hb, zv_b1, if_pos hw2, hx]
                        · exact ⟨hS.as hW hz, hz.M⟩
                      · skip
                        have hm0 : 0 < M := (nI_ltI (a := 0) (by omega) (by omega)).mp (Int32.not_le.mp h174)
                        obtain ⟨m, rfl⟩ : ∃ m, M = m + 1 := ⟨M - 1, by omega⟩
                        have hWb : zv_w X.1 F0 (fun G => zv X.1 q t m G (T0 + 1)) f ≤ 10 * 10 ^ m := zv_w_le hw (by omega) (fun G => zv_le hw _ _ _)
                        have hxb : S.1 ≤ 10 * 10 ^ m := by rw [hS1 m rfl]; exact zv_gl hw (fun G => zv_le hw _ _ _) (by rw [Nat.pow_succ, Nat.mul_comm (10 ^ m) 10]; exact Nat.le_trans (Nat.mul_le_mul_right _ zv_s_le) (by omega)) f (by omega)
                        have h10 : 10 ^ m ≤ 1000 := Nat.pow_le_pow_right (n := 10) (by decide) (show m ≤ 3 by omega)
                        refine gq_aload_n dz_M_best_177 rfl ?_
                        refine gq_getR 31 zf_M_7 rfl rfl dz_M_best_178 ?_
                        refine gq_iload_n dz_M_best_181 rfl ?_
                        refine gw_iald (q) (rfl) rfl (rfl) (Nat.le_of_ble_eq_true rfl) (by omega) dz_M_best_182 ?_
                        rw [zn_fa hA3 (by omega), hFe]
                        refine gq_iload dz_M_best_183 rfl ?_
                        refine gq_ishr dz_M_best_185 ?_
                        refine gq_iconst (v := 1) dz_M_best_186 rfl ?_
                        refine gq_iand dz_M_best_187 ?_
                        refine gq_iconst (v := 1) dz_M_best_188 rfl ?_
                        refine gq_icmp_ne (tgt := 196) dz_M_best_189 rfl (fun h189 => ?_) (fun h189 => ?_)
                        · skip
                          have hbt : F0.testBit f = false := by rcases hb2 : F0.testBit f with _ | _; rfl; exact absurd (zb_bv1.mpr ((zn_bitn (by omega) (by omega)).trans hb2)) h189
                          have hW : zv_w X.1 F0 (fun G => zv X.1 q t m G (T0 + 1)) f = zv_v X.1 F0 (fun G => zv X.1 q t m G (T0 + 1)) f := by rw [zv_w, hbt]; rfl
                          refine gq_aload_n dz_M_best_196 rfl ?_
                          refine gq_iload dz_M_best_197 rfl ?_
                          refine gq_iload dz_M_best_199 rfl ?_
                          refine gq_aload_n dz_M_best_201 rfl ?_
                          refine gq_getR 31 zf_M_7 rfl rfl dz_M_best_202 ?_
                          refine gq_iload_n dz_M_best_205 rfl ?_
                          refine gw_iald (q) (rfl) rfl (rfl) (Nat.le_of_ble_eq_true rfl) (by omega) dz_M_best_206 ?_
                          rw [zn_fa hA3 (by omega), hFe]
                          refine gq_cV (sp_M_triesFor (f := f) (m := m) (F := F0) (V := (fun G => zv X.1 q t m G (T0 + 1))) hA3 hw (by omega) (by omega) hF0 (fun G hG => (hq94.2.2 m (by omega) G hG).trans (by rw [show T0 + (m + 1) - m = T0 + 1 by omega]))) zw_M_triesFor zl_M_281 dz_M_best_207 rfl rfl rfl (by decide) rfl rfl (Nat.le_of_ble_eq_true rfl) ?_
                          rw [← hW]
                          refine gw_lstore 11 dz_M_best_210 (Nat.le_of_ble_eq_true rfl) rfl ?_
                          dsimp only [List.set]
                          refine gq_lload dz_M_best_212 rfl ?_
                          refine gq_lload dz_M_best_214 rfl ?_
                          refine gq_lcmp dz_M_best_216 ?_
                          refine gq_if_le (tgt := 225) dz_M_best_217 rfl (fun h217 => ?_) (fun h217 => ?_)
                          · skip
                            have hle : ¬ S.1 < zv_w X.1 F0 (fun G => zv X.1 q t m G (T0 + 1)) f := fun z => lg_le0.mp h217 ((pk_lLT (by omega) (by omega)).mpr z)
                            refine gq_iload dz_M_best_225 rfl ?_
                            refine gw_istore 7 dz_M_best_227 (Nat.le_of_ble_eq_true rfl) rfl ?_
                            dsimp only [List.set]
                            refine gq_lload dz_M_best_229 rfl ?_
                            refine gq_lload dz_M_best_231 rfl ?_
                            refine gq_lcmp dz_M_best_233 ?_
                            refine gq_if_le (tgt := 242) dz_M_best_234 rfl (fun h234 => ?_) (fun h234 => ?_)
                            · skip
                              refine gq_lload dz_M_best_242 rfl ?_
                              refine gw_lstore 8 dz_M_best_244 (Nat.le_of_ble_eq_true rfl) rfl ?_
                              dsimp only [List.set]
                              refine gw_iinc 10 (c := 1) dz_M_best_246 rfl rfl (Nat.le_of_ble_eq_true rfl) rfl ?_
                              dsimp only [List.set]
                              refine gq_goto (tgt := 166) dz_M_best_249 rfl ?_
                              simp only [nI_1]
                              exact zq_fewer _ (zq_sub_spec (by repeat (first | exact trivial | exact rfl | refine And.intro ?_ ?_))) (ih166 (f + 1) S (by omega) (by omega) (fun z => absurd z (Nat.succ_ne_zero _)) (fun m3 z => by obtain rfl : m = m3 := (by omega); rw [zf_fo, ← hS1 m rfl]; exact (if_neg hle).symm))
                            · skip
                              exact absurd h217 h234
                          · skip
                            have hle : S.1 < zv_w X.1 F0 (fun G => zv X.1 q t m G (T0 + 1)) f := by rcases Nat.lt_or_ge S.1 (zv_w X.1 F0 (fun G => zv X.1 q t m G (T0 + 1)) f) with z | z; exact z; exact absurd (lg_le0.mpr (fun y => by have := (pk_lLT (by omega) (by omega)).mp y; omega)) h217
                            refine gq_iload dz_M_best_220 rfl ?_
                            refine gq_goto (tgt := 227) dz_M_best_222 rfl ?_
                            refine gw_istore 7 dz_M_best_227 (Nat.le_of_ble_eq_true rfl) rfl ?_
                            dsimp only [List.set]
                            refine gq_lload dz_M_best_229 rfl ?_
                            refine gq_lload dz_M_best_231 rfl ?_
                            refine gq_lcmp dz_M_best_233 ?_
                            refine gq_if_le (tgt := 242) dz_M_best_234 rfl (fun h234 => ?_) (fun h234 => ?_)
                            · skip
                              exact absurd h234 h217
                            · skip
                              refine gq_lload dz_M_best_237 rfl ?_
                              refine gq_goto (tgt := 244) dz_M_best_239 rfl ?_
                              refine gw_lstore 8 dz_M_best_244 (Nat.le_of_ble_eq_true rfl) rfl ?_
                              dsimp only [List.set]
                              refine gw_iinc 10 (c := 1) dz_M_best_246 rfl rfl (Nat.le_of_ble_eq_true rfl) rfl ?_
                              dsimp only [List.set]
                              refine gq_goto (tgt := 166) dz_M_best_249 rfl ?_
                              simp only [nI_1]
                              exact zq_fewer _ (zq_sub_spec (by repeat (first | exact trivial | exact rfl | refine And.intro ?_ ?_))) (ih166 (f + 1) (zv_w X.1 F0 (fun G => zv X.1 q t m G (T0 + 1)) f, nI f) (by omega) (by omega) (fun z => absurd z (Nat.succ_ne_zero _)) (fun m3 z => by obtain rfl : m = m3 := (by omega); rw [zf_fo, ← hS1 m rfl]; exact (if_pos hle).symm))
                        · skip
                          have hbt : F0.testBit f = true := (zn_bitn (by omega) (by omega)).symm.trans (zb_bv1.mp h189)
                          have hW : zv_w X.1 F0 (fun G => zv X.1 q t m G (T0 + 1)) f = 0 := by rw [zv_w, hbt]; rfl
                          refine gq_lconst (v := 0) dz_M_best_192 rfl ?_
                          refine gq_goto (tgt := 210) dz_M_best_193 rfl ?_
                          refine gw_lstore 11 dz_M_best_210 (Nat.le_of_ble_eq_true rfl) rfl ?_
                          dsimp only [List.set]
                          refine gq_lload dz_M_best_212 rfl ?_
                          refine gq_lload dz_M_best_214 rfl ?_
                          refine gq_lcmp dz_M_best_216 ?_
                          refine gq_if_le (tgt := 225) dz_M_best_217 rfl (fun h217 => ?_) (fun h217 => ?_)
                          · skip
                            have hle : ¬ S.1 < zv_w X.1 F0 (fun G => zv X.1 q t m G (T0 + 1)) f := by rw [hW]; exact Nat.not_lt_zero _
                            refine gq_iload dz_M_best_225 rfl ?_
                            refine gw_istore 7 dz_M_best_227 (Nat.le_of_ble_eq_true rfl) rfl ?_
                            dsimp only [List.set]
                            refine gq_lload dz_M_best_229 rfl ?_
                            refine gq_lload dz_M_best_231 rfl ?_
                            refine gq_lcmp dz_M_best_233 ?_
                            refine gq_if_le (tgt := 242) dz_M_best_234 rfl (fun h234 => ?_) (fun h234 => ?_)
                            · skip
                              refine gq_lload dz_M_best_242 rfl ?_
                              refine gw_lstore 8 dz_M_best_244 (Nat.le_of_ble_eq_true rfl) rfl ?_
                              dsimp only [List.set]
                              refine gw_iinc 10 (c := 1) dz_M_best_246 rfl rfl (Nat.le_of_ble_eq_true rfl) rfl ?_
                              dsimp only [List.set]
                              refine gq_goto (tgt := 166) dz_M_best_249 rfl ?_
                              simp only [nI_1]
                              exact zq_fewer _ (zq_sub_spec (by repeat (first | exact trivial | exact rfl | refine And.intro ?_ ?_))) (ih166 (f + 1) S (by omega) (by omega) (fun z => absurd z (Nat.succ_ne_zero _)) (fun m3 z => by obtain rfl : m = m3 := (by omega); rw [zf_fo, ← hS1 m rfl]; exact (if_neg hle).symm))
                            · skip
                              exact absurd h217 h234
                          · skip
                            exact absurd (lg_le0.mpr (fun z => by have := (pk_lLT (b := 0) (by omega) (by omega)).mp z; omega)) h217
                exact zq_fewer _ (zq_sub_spec (by repeat (first | exact trivial | exact rfl | refine And.intro ?_ ?_))) (L166 6 0 (zv_s X.1 q t F0 T0 * 10 ^ M, 5) (by omega) (by omega) (fun _ => rfl) (fun m z => rfl))
              · skip
                have hw2 : ¬ w = 2 := fun z => h100 (by rw [z]; decide)
                have hp10 : 0 < 10 ^ M := Nat.pow_pos (by decide)
                have h10 : 10 ^ M ≤ 1000 := Nat.pow_le_pow_right (n := 10) (by decide) (show M ≤ 3 by omega)
                have hzv := zv_le hw (p := q) (t := t) M F0 T0
                refine gq_aload_n dz_M_best_103 rfl ?_
                refine gq_getR 42 zf_M_43 rfl rfl dz_M_best_104 ?_
                refine gq_bipush (v := 32) dz_M_best_107 rfl ?_
                refine gq_iload dz_M_best_109 rfl ?_
                refine gq_imul dz_M_best_111 ?_
                rw [zn_32]
                refine gq_aload_n dz_M_best_112 rfl ?_
                refine gq_getR 31 zf_M_7 rfl rfl dz_M_best_113 ?_
                refine gq_iload_n dz_M_best_116 rfl ?_
                refine gw_iald (q) (rfl) rfl (rfl) (Nat.le_of_ble_eq_true rfl) (by omega) dz_M_best_117 ?_
                rw [zn_fa hA3 (by omega), hFe]
                refine gq_iadd dz_M_best_118 ?_
                rw [nI_add]
                refine gw_lald (32 * M + F0) (rfl) rfl (rfl) (Nat.le_of_ble_eq_true rfl) (by omega) dz_M_best_119 ?_
                rw [hV0]
                refine gq_iload dz_M_best_120 rfl ?_
                refine gq_cS (sp_M_tens (m := M) (by omega)) zw_M_tens zl_M_277 dz_M_best_122 (by decide) rfl rfl (Nat.le_of_ble_eq_true rfl) ?_
                refine gq_iload dz_M_best_125 rfl ?_
                refine gq_cS (sp_M_lowest (by omega) hp10 (by omega) w) zw_M_lowest zl_M_265 dz_M_best_127 (by decide) rfl rfl (Nat.le_of_ble_eq_true rfl) ?_
                refine gw_lretP dz_M_best_130 rfl ?_ ?_
                · rw [zx_best, ho, if_pos rfl, nI_clamp (by omega), nI_clamp (by omega), hb, zv_b1, if_neg hw2]
                · exact ⟨hS.as hW hz, hz.M⟩
            · skip
              have hmn : n0 < 3 - T0 := by rcases Nat.lt_or_ge n0 (3 - T0) with z | z; exact z; exact absurd (nI_le z (by omega)) h78
              obtain ⟨M, hMe⟩ : ∃ M, M = n0 := ⟨_, rfl⟩
              have hM : T0 + M ≤ 3 := by omega
              have hb : zx_best1 X.1 q t n0 w = zv_b1 X.1 q t M F0 T0 w := by rw [zv_best_in hw hn0 hF0 (by omega) hFe hTe, show min n0 (3 - T0) = M by omega]
              refine gq_iload_n dz_M_best_81 rfl ?_
              rw [show ([zq_I (nI n0)] : List zq_V) = [zq_I (nI M)] from by rw [hMe]]
              refine gq_goto (tgt := 87) dz_M_best_82 rfl ?_
              refine gw_istore 6 dz_M_best_87 (Nat.le_of_ble_eq_true rfl) rfl ?_
              dsimp only [List.set]
              refine gq_aload_n dz_M_best_89 rfl ?_
              refine gq_iload_n dz_M_best_90 rfl ?_
              refine gq_iload_n dz_M_best_91 rfl ?_
              refine gq_iload dz_M_best_92 rfl ?_
              refine gq_cVX (sp_M_layValues (T := T0) (M := M) hA hw hq hTe hM t) zw_M_layValues zl_M_285 dz_M_best_94 rfl rfl rfl (by decide) rfl rfl (Nat.le_of_ble_eq_true rfl) (fun τ94 hq94 => ?_)
              have hA3 := hA.of1 hq94.1
              have hz := zk_same.of1 hq94.1 hq94.2.1
              have hV0 : τ94.2.1 (32 * M + F0) = lN (zv X.1 q t M F0 T0) := (hq94.2.2 M (Nat.le_refl _) F0 hF0).trans (by rw [Nat.add_sub_cancel])
              refine gq_iload dz_M_best_97 rfl ?_
              refine gq_iconst (v := 2) dz_M_best_99 rfl ?_
              refine gq_icmp_ge (tgt := 131) dz_M_best_100 rfl (fun h100 => ?_) (fun h100 => ?_)
              · skip
                have hw2 : w = 2 := by have h1 := (of_decide_eq_true h37).2; rw [Int32.le_iff_toInt_le] at h1 h100; exact Int32.toInt_inj.mp (by omega)
                refine gq_iconst (v := 5) dz_M_best_131 rfl ?_
                refine gw_istore 7 dz_M_best_132 (Nat.le_of_ble_eq_true rfl) rfl ?_
                dsimp only [List.set]
                refine gq_aload_n dz_M_best_134 rfl ?_
                refine gq_iload_n dz_M_best_135 rfl ?_
                refine gq_iload_n dz_M_best_136 rfl ?_
                refine gq_aload_n dz_M_best_137 rfl ?_
                refine gq_getR 31 zf_M_7 rfl rfl dz_M_best_138 ?_
                refine gq_iload_n dz_M_best_141 rfl ?_
                refine gw_iald (q) (rfl) rfl (rfl) (Nat.le_of_ble_eq_true rfl) (by omega) dz_M_best_142 ?_
                rw [zn_fa hA3 (by omega), hFe]
                refine gq_aload_n dz_M_best_143 rfl ?_
                refine gq_getR 31 zf_M_7 rfl rfl dz_M_best_144 ?_
                refine gq_bipush (v := 6) dz_M_best_147 rfl ?_
                refine gq_iload_n dz_M_best_149 rfl ?_
                refine gq_iadd dz_M_best_150 ?_
                refine gw_iald (6 + q) (by rw [show (6 : Int32) = nI 6 from rfl, nI_add]) rfl (rfl) (Nat.le_of_ble_eq_true rfl) (by omega) dz_M_best_151 ?_
                rw [zn_tr hA3 (by omega), hTe]
                refine gq_cV (sp_M_stops (F := F0) (T := T0) hA3 hw hq hF0 (by omega) t) zw_M_stops zl_M_273 dz_M_best_152 rfl rfl rfl (by decide) rfl rfl (Nat.le_of_ble_eq_true rfl) ?_
                refine gq_iload dz_M_best_155 rfl ?_
                refine gq_cS (sp_M_tens (m := M) (by omega)) zw_M_tens zl_M_277 dz_M_best_157 (by decide) rfl rfl (Nat.le_of_ble_eq_true rfl) ?_
                refine gq_lmul dz_M_best_160 ?_
                rw [lN_mul]
                refine gw_lstore 8 dz_M_best_161 (Nat.le_of_ble_eq_true rfl) rfl ?_
                dsimp only [List.set]
                refine gq_iconst (v := 0) dz_M_best_163 rfl ?_
                refine gw_istore 10 dz_M_best_164 (Nat.le_of_ble_eq_true rfl) rfl ?_
                dsimp only [List.set]
                have L166 : ∀ (kf : Nat) (f : Nat) (S : Nat × Int32) (hkf : 5 - f < kf) (hf : f ≤ 5) (hS0 : M = 0 → S.2 = 5) (hS1 : ∀ m, M = m + 1 → S = zf_fo (zv_g X.1 F0 (fun G => zv X.1 q t m G (T0 + 1))) (zv_s X.1 q t F0 T0 * 10 ^ M, 5) f), zq_G ν zm_M_best 10 (zq_rw (zq_L (zx_best X.1 (nI q) t (nI n0) w)) (fun τ => zM_rep τ X ∧ zg_M σ τ)) 166 [some (zq_O 30 0), some (zq_I (nI q)), some (zq_I t), some (zq_I (nI n0)), some (zq_I w), none, some (zq_I (nI M)), some (zq_I S.2), some (zq_L (lN S.1)), none, some (zq_I (nI f)), none, none] [] τ94 := by
                  intro kf
                  induction kf with
                  | zero => intro f S hkf hf hS0 hS1; exact absurd hkf (Nat.not_lt_zero _)
                  | succ kf ih166 =>
                    intro f S hkf hf hS0 hS1
                    refine gq_iload dz_M_best_166 rfl ?_
                    refine gq_iconst (v := 5) dz_M_best_168 rfl ?_
                    refine gq_icmp_ge (tgt := 252) dz_M_best_169 rfl (fun h169 => ?_) (fun h169 => ?_)
                    · skip
                      have hf5 : f = 5 := by have := (nI_leI (a := 5) (by omega) (by omega)).mp h169; omega
                      have hx : S.2 = zv_wh X.1 q t M F0 T0 := by rcases Nat.eq_zero_or_pos M with z | z; rw [hS0 z, z]; rfl; obtain ⟨m, rfl⟩ : ∃ m, M = m + 1 := ⟨M - 1, (by omega)⟩; rw [hS1 m rfl, hf5]; rfl
                      refine gq_iload dz_M_best_252 rfl ?_
                      refine gq_i2l dz_M_best_254 ?_
                      refine gw_lretP dz_M_best_255 rfl ?_ ?_
                      · rw [zx_best, ho, if_pos rfl, nI_clamp (by omega), nI_clamp (by omega), hb, zv_b1, if_pos hw2, hx]
                      · exact ⟨hS.as hW hz, hz.M⟩
                    · skip
                      have hf2 : f < 5 := (nI_ltI (b := 5) (by omega) (by omega)).mp (Int32.not_le.mp h169)
                      refine gq_iload dz_M_best_172 rfl ?_
                      refine gq_if_le (tgt := 252) dz_M_best_174 rfl (fun h174 => ?_) (fun h174 => ?_)
                      · skip
                        have hm0 : M = 0 := by rcases Nat.eq_zero_or_pos M with z | z; exact z; exact absurd (nI_lt (a := 0) z (by omega)) (Int32.not_lt.mpr h174)
                        have hx : S.2 = zv_wh X.1 q t M F0 T0 := by rw [hS0 hm0, hm0]; rfl
                        refine gq_iload dz_M_best_252 rfl ?_
                        refine gq_i2l dz_M_best_254 ?_
                        refine gw_lretP dz_M_best_255 rfl ?_ ?_
                        · rw [zx_best, ho, if_pos rfl, nI_clamp (by omega), nI_clamp (by omega), hb, zv_b1, if_pos hw2, hx]
                        · exact ⟨hS.as hW hz, hz.M⟩
                      · skip
                        have hm0 : 0 < M := (nI_ltI (a := 0) (by omega) (by omega)).mp (Int32.not_le.mp h174)
                        obtain ⟨m, rfl⟩ : ∃ m, M = m + 1 := ⟨M - 1, by omega⟩
                        have hWb : zv_w X.1 F0 (fun G => zv X.1 q t m G (T0 + 1)) f ≤ 10 * 10 ^ m := zv_w_le hw (by omega) (fun G => zv_le hw _ _ _)
                        have hxb : S.1 ≤ 10 * 10 ^ m := by rw [hS1 m rfl]; exact zv_gl hw (fun G => zv_le hw _ _ _) (by rw [Nat.pow_succ, Nat.mul_comm (10 ^ m) 10]; exact Nat.le_trans (Nat.mul_le_mul_right _ zv_s_le) (by omega)) f (by omega)
                        have h10 : 10 ^ m ≤ 1000 := Nat.pow_le_pow_right (n := 10) (by decide) (show m ≤ 3 by omega)
                        refine gq_aload_n dz_M_best_177 rfl ?_
                        refine gq_getR 31 zf_M_7 rfl rfl dz_M_best_178 ?_
                        refine gq_iload_n dz_M_best_181 rfl ?_
                        refine gw_iald (q) (rfl) rfl (rfl) (Nat.le_of_ble_eq_true rfl) (by omega) dz_M_best_182 ?_
                        rw [zn_fa hA3 (by omega), hFe]
                        refine gq_iload dz_M_best_183 rfl ?_
                        refine gq_ishr dz_M_best_185 ?_
                        refine gq_iconst (v := 1) dz_M_best_186 rfl ?_
                        refine gq_iand dz_M_best_187 ?_
                        refine gq_iconst (v := 1) dz_M_best_188 rfl ?_
                        refine gq_icmp_ne (tgt := 196) dz_M_best_189 rfl (fun h189 => ?_) (fun h189 => ?_)
                        · skip
                          have hbt : F0.testBit f = false := by rcases hb2 : F0.testBit f with _ | _; rfl; exact absurd (zb_bv1.mpr ((zn_bitn (by omega) (by omega)).trans hb2)) h189
                          have hW : zv_w X.1 F0 (fun G => zv X.1 q t m G (T0 + 1)) f = zv_v X.1 F0 (fun G => zv X.1 q t m G (T0 + 1)) f := by rw [zv_w, hbt]; rfl
                          refine gq_aload_n dz_M_best_196 rfl ?_
                          refine gq_iload dz_M_best_197 rfl ?_
                          refine gq_iload dz_M_best_199 rfl ?_
                          refine gq_aload_n dz_M_best_201 rfl ?_
                          refine gq_getR 31 zf_M_7 rfl rfl dz_M_best_202 ?_
                          refine gq_iload_n dz_M_best_205 rfl ?_
                          refine gw_iald (q) (rfl) rfl (rfl) (Nat.le_of_ble_eq_true rfl) (by omega) dz_M_best_206 ?_
                          rw [zn_fa hA3 (by omega), hFe]
                          refine gq_cV (sp_M_triesFor (f := f) (m := m) (F := F0) (V := (fun G => zv X.1 q t m G (T0 + 1))) hA3 hw (by omega) (by omega) hF0 (fun G hG => (hq94.2.2 m (by omega) G hG).trans (by rw [show T0 + (m + 1) - m = T0 + 1 by omega]))) zw_M_triesFor zl_M_281 dz_M_best_207 rfl rfl rfl (by decide) rfl rfl (Nat.le_of_ble_eq_true rfl) ?_
                          rw [← hW]
                          refine gw_lstore 11 dz_M_best_210 (Nat.le_of_ble_eq_true rfl) rfl ?_
                          dsimp only [List.set]
                          refine gq_lload dz_M_best_212 rfl ?_
                          refine gq_lload dz_M_best_214 rfl ?_
                          refine gq_lcmp dz_M_best_216 ?_
                          refine gq_if_le (tgt := 225) dz_M_best_217 rfl (fun h217 => ?_) (fun h217 => ?_)
                          · skip
                            have hle : ¬ S.1 < zv_w X.1 F0 (fun G => zv X.1 q t m G (T0 + 1)) f := fun z => lg_le0.mp h217 ((pk_lLT (by omega) (by omega)).mpr z)
                            refine gq_iload dz_M_best_225 rfl ?_
                            refine gw_istore 7 dz_M_best_227 (Nat.le_of_ble_eq_true rfl) rfl ?_
                            dsimp only [List.set]
                            refine gq_lload dz_M_best_229 rfl ?_
                            refine gq_lload dz_M_best_231 rfl ?_
                            refine gq_lcmp dz_M_best_233 ?_
                            refine gq_if_le (tgt := 242) dz_M_best_234 rfl (fun h234 => ?_) (fun h234 => ?_)
                            · skip
                              refine gq_lload dz_M_best_242 rfl ?_
                              refine gw_lstore 8 dz_M_best_244 (Nat.le_of_ble_eq_true rfl) rfl ?_
                              dsimp only [List.set]
                              refine gw_iinc 10 (c := 1) dz_M_best_246 rfl rfl (Nat.le_of_ble_eq_true rfl) rfl ?_
                              dsimp only [List.set]
                              refine gq_goto (tgt := 166) dz_M_best_249 rfl ?_
                              simp only [nI_1]
                              exact zq_fewer _ (zq_sub_spec (by repeat (first | exact trivial | exact rfl | refine And.intro ?_ ?_))) (ih166 (f + 1) S (by omega) (by omega) (fun z => absurd z (Nat.succ_ne_zero _)) (fun m3 z => by obtain rfl : m = m3 := (by omega); rw [zf_fo, ← hS1 m rfl]; exact (if_neg hle).symm))
                            · skip
                              exact absurd h217 h234
                          · skip
                            have hle : S.1 < zv_w X.1 F0 (fun G => zv X.1 q t m G (T0 + 1)) f := by rcases Nat.lt_or_ge S.1 (zv_w X.1 F0 (fun G => zv X.1 q t m G (T0 + 1)) f) with z | z; exact z; exact absurd (lg_le0.mpr (fun y => by have := (pk_lLT (by omega) (by omega)).mp y; omega)) h217
                            refine gq_iload dz_M_best_220 rfl ?_
                            refine gq_goto (tgt := 227) dz_M_best_222 rfl ?_
                            refine gw_istore 7 dz_M_best_227 (Nat.le_of_ble_eq_true rfl) rfl ?_
                            dsimp only [List.set]
                            refine gq_lload dz_M_best_229 rfl ?_
                            refine gq_lload dz_M_best_231 rfl ?_
                            refine gq_lcmp dz_M_best_233 ?_
                            refine gq_if_le (tgt := 242) dz_M_best_234 rfl (fun h234 => ?_) (fun h234 => ?_)
                            · skip
                              exact absurd h234 h217
                            · skip
                              refine gq_lload dz_M_best_237 rfl ?_
                              refine gq_goto (tgt := 244) dz_M_best_239 rfl ?_
                              refine gw_lstore 8 dz_M_best_244 (Nat.le_of_ble_eq_true rfl) rfl ?_
                              dsimp only [List.set]
                              refine gw_iinc 10 (c := 1) dz_M_best_246 rfl rfl (Nat.le_of_ble_eq_true rfl) rfl ?_
                              dsimp only [List.set]
                              refine gq_goto (tgt := 166) dz_M_best_249 rfl ?_
                              simp only [nI_1]
                              exact zq_fewer _ (zq_sub_spec (by repeat (first | exact trivial | exact rfl | refine And.intro ?_ ?_))) (ih166 (f + 1) (zv_w X.1 F0 (fun G => zv X.1 q t m G (T0 + 1)) f, nI f) (by omega) (by omega) (fun z => absurd z (Nat.succ_ne_zero _)) (fun m3 z => by obtain rfl : m = m3 := (by omega); rw [zf_fo, ← hS1 m rfl]; exact (if_pos hle).symm))
                        · skip
                          have hbt : F0.testBit f = true := (zn_bitn (by omega) (by omega)).symm.trans (zb_bv1.mp h189)
                          have hW : zv_w X.1 F0 (fun G => zv X.1 q t m G (T0 + 1)) f = 0 := by rw [zv_w, hbt]; rfl
                          refine gq_lconst (v := 0) dz_M_best_192 rfl ?_
                          refine gq_goto (tgt := 210) dz_M_best_193 rfl ?_
                          refine gw_lstore 11 dz_M_best_210 (Nat.le_of_ble_eq_true rfl) rfl ?_
                          dsimp only [List.set]
                          refine gq_lload dz_M_best_212 rfl ?_
                          refine gq_lload dz_M_best_214 rfl ?_
                          refine gq_lcmp dz_M_best_216 ?_
                          refine gq_if_le (tgt := 225) dz_M_best_217 rfl (fun h217 => ?_) (fun h217 => ?_)
                          · skip
                            have hle : ¬ S.1 < zv_w X.1 F0 (fun G => zv X.1 q t m G (T0 + 1)) f := by rw [hW]; exact Nat.not_lt_zero _
                            refine gq_iload dz_M_best_225 rfl ?_
                            refine gw_istore 7 dz_M_best_227 (Nat.le_of_ble_eq_true rfl) rfl ?_
                            dsimp only [List.set]
                            refine gq_lload dz_M_best_229 rfl ?_
                            refine gq_lload dz_M_best_231 rfl ?_
                            refine gq_lcmp dz_M_best_233 ?_
                            refine gq_if_le (tgt := 242) dz_M_best_234 rfl (fun h234 => ?_) (fun h234 => ?_)
                            · skip
                              refine gq_lload dz_M_best_242 rfl ?_
                              refine gw_lstore 8 dz_M_best_244 (Nat.le_of_ble_eq_true rfl) rfl ?_
                              dsimp only [List.set]
                              refine gw_iinc 10 (c := 1) dz_M_best_246 rfl rfl (Nat.le_of_ble_eq_true rfl) rfl ?_
                              dsimp only [List.set]
                              refine gq_goto (tgt := 166) dz_M_best_249 rfl ?_
                              simp only [nI_1]
                              exact zq_fewer _ (zq_sub_spec (by repeat (first | exact trivial | exact rfl | refine And.intro ?_ ?_))) (ih166 (f + 1) S (by omega) (by omega) (fun z => absurd z (Nat.succ_ne_zero _)) (fun m3 z => by obtain rfl : m = m3 := (by omega); rw [zf_fo, ← hS1 m rfl]; exact (if_neg hle).symm))
                            · skip
                              exact absurd h217 h234
                          · skip
                            exact absurd (lg_le0.mpr (fun z => by have := (pk_lLT (b := 0) (by omega) (by omega)).mp z; omega)) h217
                exact zq_fewer _ (zq_sub_spec (by repeat (first | exact trivial | exact rfl | refine And.intro ?_ ?_))) (L166 6 0 (zv_s X.1 q t F0 T0 * 10 ^ M, 5) (by omega) (by omega) (fun _ => rfl) (fun m z => rfl))
              · skip
                have hw2 : ¬ w = 2 := fun z => h100 (by rw [z]; decide)
                have hp10 : 0 < 10 ^ M := Nat.pow_pos (by decide)
                have h10 : 10 ^ M ≤ 1000 := Nat.pow_le_pow_right (n := 10) (by decide) (show M ≤ 3 by omega)
                have hzv := zv_le hw (p := q) (t := t) M F0 T0
                refine gq_aload_n dz_M_best_103 rfl ?_
                refine gq_getR 42 zf_M_43 rfl rfl dz_M_best_104 ?_
                refine gq_bipush (v := 32) dz_M_best_107 rfl ?_
                refine gq_iload dz_M_best_109 rfl ?_
                refine gq_imul dz_M_best_111 ?_
                rw [zn_32]
                refine gq_aload_n dz_M_best_112 rfl ?_
                refine gq_getR 31 zf_M_7 rfl rfl dz_M_best_113 ?_
                refine gq_iload_n dz_M_best_116 rfl ?_
                refine gw_iald (q) (rfl) rfl (rfl) (Nat.le_of_ble_eq_true rfl) (by omega) dz_M_best_117 ?_
                rw [zn_fa hA3 (by omega), hFe]
                refine gq_iadd dz_M_best_118 ?_
                rw [nI_add]
                refine gw_lald (32 * M + F0) (rfl) rfl (rfl) (Nat.le_of_ble_eq_true rfl) (by omega) dz_M_best_119 ?_
                rw [hV0]
                refine gq_iload dz_M_best_120 rfl ?_
                refine gq_cS (sp_M_tens (m := M) (by omega)) zw_M_tens zl_M_277 dz_M_best_122 (by decide) rfl rfl (Nat.le_of_ble_eq_true rfl) ?_
                refine gq_iload dz_M_best_125 rfl ?_
                refine gq_cS (sp_M_lowest (by omega) hp10 (by omega) w) zw_M_lowest zl_M_265 dz_M_best_127 (by decide) rfl rfl (Nat.le_of_ble_eq_true rfl) ?_
                refine gw_lretP dz_M_best_130 rfl ?_ ?_
                · rw [zx_best, ho, if_pos rfl, nI_clamp (by omega), nI_clamp (by omega), hb, zv_b1, if_neg hw2]
                · exact ⟨hS.as hW hz, hz.M⟩
          · skip
            obtain ⟨M, hMe⟩ : ∃ M, M = 0 := ⟨_, rfl⟩
            have hM : T0 + M ≤ 3 := by omega
            have hb : zx_best1 X.1 q t n0 w = zv_b1 X.1 q t M F0 T0 w := by rw [hMe]; exact zv_best_gone (by omega) hn6 hn0 (by simpa using h68) w
            refine gq_iconst (v := 0) dz_M_best_71 rfl ?_
            rw [show (0 : Int32) = nI M from by rw [hMe]; rfl]
            refine gq_goto (tgt := 87) dz_M_best_72 rfl ?_
            refine gw_istore 6 dz_M_best_87 (Nat.le_of_ble_eq_true rfl) rfl ?_
            dsimp only [List.set]
            refine gq_aload_n dz_M_best_89 rfl ?_
            refine gq_iload_n dz_M_best_90 rfl ?_
            refine gq_iload_n dz_M_best_91 rfl ?_
            refine gq_iload dz_M_best_92 rfl ?_
            refine gq_cVX (sp_M_layValues (T := T0) (M := M) hA hw hq hTe hM t) zw_M_layValues zl_M_285 dz_M_best_94 rfl rfl rfl (by decide) rfl rfl (Nat.le_of_ble_eq_true rfl) (fun τ94 hq94 => ?_)
            have hA3 := hA.of1 hq94.1
            have hz := zk_same.of1 hq94.1 hq94.2.1
            have hV0 : τ94.2.1 (32 * M + F0) = lN (zv X.1 q t M F0 T0) := (hq94.2.2 M (Nat.le_refl _) F0 hF0).trans (by rw [Nat.add_sub_cancel])
            refine gq_iload dz_M_best_97 rfl ?_
            refine gq_iconst (v := 2) dz_M_best_99 rfl ?_
            refine gq_icmp_ge (tgt := 131) dz_M_best_100 rfl (fun h100 => ?_) (fun h100 => ?_)
            · skip
              have hw2 : w = 2 := by have h1 := (of_decide_eq_true h37).2; rw [Int32.le_iff_toInt_le] at h1 h100; exact Int32.toInt_inj.mp (by omega)
              refine gq_iconst (v := 5) dz_M_best_131 rfl ?_
              refine gw_istore 7 dz_M_best_132 (Nat.le_of_ble_eq_true rfl) rfl ?_
              dsimp only [List.set]
              refine gq_aload_n dz_M_best_134 rfl ?_
              refine gq_iload_n dz_M_best_135 rfl ?_
              refine gq_iload_n dz_M_best_136 rfl ?_
              refine gq_aload_n dz_M_best_137 rfl ?_
              refine gq_getR 31 zf_M_7 rfl rfl dz_M_best_138 ?_
              refine gq_iload_n dz_M_best_141 rfl ?_
              refine gw_iald (q) (rfl) rfl (rfl) (Nat.le_of_ble_eq_true rfl) (by omega) dz_M_best_142 ?_
              rw [zn_fa hA3 (by omega), hFe]
              refine gq_aload_n dz_M_best_143 rfl ?_
              refine gq_getR 31 zf_M_7 rfl rfl dz_M_best_144 ?_
              refine gq_bipush (v := 6) dz_M_best_147 rfl ?_
              refine gq_iload_n dz_M_best_149 rfl ?_
              refine gq_iadd dz_M_best_150 ?_
              refine gw_iald (6 + q) (by rw [show (6 : Int32) = nI 6 from rfl, nI_add]) rfl (rfl) (Nat.le_of_ble_eq_true rfl) (by omega) dz_M_best_151 ?_
              rw [zn_tr hA3 (by omega), hTe]
              refine gq_cV (sp_M_stops (F := F0) (T := T0) hA3 hw hq hF0 (by omega) t) zw_M_stops zl_M_273 dz_M_best_152 rfl rfl rfl (by decide) rfl rfl (Nat.le_of_ble_eq_true rfl) ?_
              refine gq_iload dz_M_best_155 rfl ?_
              refine gq_cS (sp_M_tens (m := M) (by omega)) zw_M_tens zl_M_277 dz_M_best_157 (by decide) rfl rfl (Nat.le_of_ble_eq_true rfl) ?_
              refine gq_lmul dz_M_best_160 ?_
              rw [lN_mul]
              refine gw_lstore 8 dz_M_best_161 (Nat.le_of_ble_eq_true rfl) rfl ?_
              dsimp only [List.set]
              refine gq_iconst (v := 0) dz_M_best_163 rfl ?_
              refine gw_istore 10 dz_M_best_164 (Nat.le_of_ble_eq_true rfl) rfl ?_
              dsimp only [List.set]
              have L166 : ∀ (kf : Nat) (f : Nat) (S : Nat × Int32) (hkf : 5 - f < kf) (hf : f ≤ 5) (hS0 : M = 0 → S.2 = 5) (hS1 : ∀ m, M = m + 1 → S = zf_fo (zv_g X.1 F0 (fun G => zv X.1 q t m G (T0 + 1))) (zv_s X.1 q t F0 T0 * 10 ^ M, 5) f), zq_G ν zm_M_best 10 (zq_rw (zq_L (zx_best X.1 (nI q) t (nI n0) w)) (fun τ => zM_rep τ X ∧ zg_M σ τ)) 166 [some (zq_O 30 0), some (zq_I (nI q)), some (zq_I t), some (zq_I (nI n0)), some (zq_I w), none, some (zq_I (nI M)), some (zq_I S.2), some (zq_L (lN S.1)), none, some (zq_I (nI f)), none, none] [] τ94 := by
                intro kf
                induction kf with
                | zero => intro f S hkf hf hS0 hS1; exact absurd hkf (Nat.not_lt_zero _)
                | succ kf ih166 =>
                  intro f S hkf hf hS0 hS1
                  refine gq_iload dz_M_best_166 rfl ?_
                  refine gq_iconst (v := 5) dz_M_best_168 rfl ?_
                  refine gq_icmp_ge (tgt := 252) dz_M_best_169 rfl (fun h169 => ?_) (fun h169 => ?_)
                  · skip
                    have hf5 : f = 5 := by have := (nI_leI (a := 5) (by omega) (by omega)).mp h169; omega
                    have hx : S.2 = zv_wh X.1 q t M F0 T0 := by rcases Nat.eq_zero_or_pos M with z | z; rw [hS0 z, z]; rfl; obtain ⟨m, rfl⟩ : ∃ m, M = m + 1 := ⟨M - 1, (by omega)⟩; rw [hS1 m rfl, hf5]; rfl
                    refine gq_iload dz_M_best_252 rfl ?_
                    refine gq_i2l dz_M_best_254 ?_
                    refine gw_lretP dz_M_best_255 rfl ?_ ?_
                    · rw [zx_best, ho, if_pos rfl, nI_clamp (by omega), nI_clamp (by omega), hb, zv_b1, if_pos hw2, hx]
                    · exact ⟨hS.as hW hz, hz.M⟩
                  · skip
                    have hf2 : f < 5 := (nI_ltI (b := 5) (by omega) (by omega)).mp (Int32.not_le.mp h169)
                    refine gq_iload dz_M_best_172 rfl ?_
                    refine gq_if_le (tgt := 252) dz_M_best_174 rfl (fun h174 => ?_) (fun h174 => ?_)
                    · skip
                      have hm0 : M = 0 := by rcases Nat.eq_zero_or_pos M with z | z; exact z; exact absurd (nI_lt (a := 0) z (by omega)) (Int32.not_lt.mpr h174)
                      have hx : S.2 = zv_wh X.1 q t M F0 T0 := by rw [hS0 hm0, hm0]; rfl
                      refine gq_iload dz_M_best_252 rfl ?_
                      refine gq_i2l dz_M_best_254 ?_
                      refine gw_lretP dz_M_best_255 rfl ?_ ?_
                      · rw [zx_best, ho, if_pos rfl, nI_clamp (by omega), nI_clamp (by omega), hb, zv_b1, if_pos hw2, hx]
                      · exact ⟨hS.as hW hz, hz.M⟩
                    · skip
                      have hm0 : 0 < M := (nI_ltI (a := 0) (by omega) (by omega)).mp (Int32.not_le.mp h174)
                      obtain ⟨m, rfl⟩ : ∃ m, M = m + 1 := ⟨M - 1, by omega⟩
                      have hWb : zv_w X.1 F0 (fun G => zv X.1 q t m G (T0 + 1)) f ≤ 10 * 10 ^ m := zv_w_le hw (by omega) (fun G => zv_le hw _ _ _)
                      have hxb : S.1 ≤ 10 * 10 ^ m := by rw [hS1 m rfl]; exact zv_gl hw (fun G => zv_le hw _ _ _) (by rw [Nat.pow_succ, Nat.mul_comm (10 ^ m) 10]; exact Nat.le_trans (Nat.mul_le_mul_right _ zv_s_le) (by omega)) f (by omega)
                      have h10 : 10 ^ m ≤ 1000 := Nat.pow_le_pow_right (n := 10) (by decide) (show m ≤ 3 by omega)
                      refine gq_aload_n dz_M_best_177 rfl ?_
                      refine gq_getR 31 zf_M_7 rfl rfl dz_M_best_178 ?_
                      refine gq_iload_n dz_M_best_181 rfl ?_
                      refine gw_iald (q) (rfl) rfl (rfl) (Nat.le_of_ble_eq_true rfl) (by omega) dz_M_best_182 ?_
                      rw [zn_fa hA3 (by omega), hFe]
                      refine gq_iload dz_M_best_183 rfl ?_
                      refine gq_ishr dz_M_best_185 ?_
                      refine gq_iconst (v := 1) dz_M_best_186 rfl ?_
                      refine gq_iand dz_M_best_187 ?_
                      refine gq_iconst (v := 1) dz_M_best_188 rfl ?_
                      refine gq_icmp_ne (tgt := 196) dz_M_best_189 rfl (fun h189 => ?_) (fun h189 => ?_)
                      · skip
                        have hbt : F0.testBit f = false := by rcases hb2 : F0.testBit f with _ | _; rfl; exact absurd (zb_bv1.mpr ((zn_bitn (by omega) (by omega)).trans hb2)) h189
                        have hW : zv_w X.1 F0 (fun G => zv X.1 q t m G (T0 + 1)) f = zv_v X.1 F0 (fun G => zv X.1 q t m G (T0 + 1)) f := by rw [zv_w, hbt]; rfl
                        refine gq_aload_n dz_M_best_196 rfl ?_
                        refine gq_iload dz_M_best_197 rfl ?_
                        refine gq_iload dz_M_best_199 rfl ?_
                        refine gq_aload_n dz_M_best_201 rfl ?_
                        refine gq_getR 31 zf_M_7 rfl rfl dz_M_best_202 ?_
                        refine gq_iload_n dz_M_best_205 rfl ?_
                        refine gw_iald (q) (rfl) rfl (rfl) (Nat.le_of_ble_eq_true rfl) (by omega) dz_M_best_206 ?_
                        rw [zn_fa hA3 (by omega), hFe]
                        refine gq_cV (sp_M_triesFor (f := f) (m := m) (F := F0) (V := (fun G => zv X.1 q t m G (T0 + 1))) hA3 hw (by omega) (by omega) hF0 (fun G hG => (hq94.2.2 m (by omega) G hG).trans (by rw [show T0 + (m + 1) - m = T0 + 1 by omega]))) zw_M_triesFor zl_M_281 dz_M_best_207 rfl rfl rfl (by decide) rfl rfl (Nat.le_of_ble_eq_true rfl) ?_
                        rw [← hW]
                        refine gw_lstore 11 dz_M_best_210 (Nat.le_of_ble_eq_true rfl) rfl ?_
                        dsimp only [List.set]
                        refine gq_lload dz_M_best_212 rfl ?_
                        refine gq_lload dz_M_best_214 rfl ?_
                        refine gq_lcmp dz_M_best_216 ?_
                        refine gq_if_le (tgt := 225) dz_M_best_217 rfl (fun h217 => ?_) (fun h217 => ?_)
                        · skip
                          have hle : ¬ S.1 < zv_w X.1 F0 (fun G => zv X.1 q t m G (T0 + 1)) f := fun z => lg_le0.mp h217 ((pk_lLT (by omega) (by omega)).mpr z)
                          refine gq_iload dz_M_best_225 rfl ?_
                          refine gw_istore 7 dz_M_best_227 (Nat.le_of_ble_eq_true rfl) rfl ?_
                          dsimp only [List.set]
                          refine gq_lload dz_M_best_229 rfl ?_
                          refine gq_lload dz_M_best_231 rfl ?_
                          refine gq_lcmp dz_M_best_233 ?_
                          refine gq_if_le (tgt := 242) dz_M_best_234 rfl (fun h234 => ?_) (fun h234 => ?_)
                          · skip
                            refine gq_lload dz_M_best_242 rfl ?_
                            refine gw_lstore 8 dz_M_best_244 (Nat.le_of_ble_eq_true rfl) rfl ?_
                            dsimp only [List.set]
                            refine gw_iinc 10 (c := 1) dz_M_best_246 rfl rfl (Nat.le_of_ble_eq_true rfl) rfl ?_
                            dsimp only [List.set]
                            refine gq_goto (tgt := 166) dz_M_best_249 rfl ?_
                            simp only [nI_1]
                            exact zq_fewer _ (zq_sub_spec (by repeat (first | exact trivial | exact rfl | refine And.intro ?_ ?_))) (ih166 (f + 1) S (by omega) (by omega) (fun z => absurd z (Nat.succ_ne_zero _)) (fun m3 z => by obtain rfl : m = m3 := (by omega); rw [zf_fo, ← hS1 m rfl]; exact (if_neg hle).symm))
                          · skip
                            exact absurd h217 h234
                        · skip
                          have hle : S.1 < zv_w X.1 F0 (fun G => zv X.1 q t m G (T0 + 1)) f := by rcases Nat.lt_or_ge S.1 (zv_w X.1 F0 (fun G => zv X.1 q t m G (T0 + 1)) f) with z | z; exact z; exact absurd (lg_le0.mpr (fun y => by have := (pk_lLT (by omega) (by omega)).mp y; omega)) h217
                          refine gq_iload dz_M_best_220 rfl ?_
                          refine gq_goto (tgt := 227) dz_M_best_222 rfl ?_
                          refine gw_istore 7 dz_M_best_227 (Nat.le_of_ble_eq_true rfl) rfl ?_
                          dsimp only [List.set]
                          refine gq_lload dz_M_best_229 rfl ?_
                          refine gq_lload dz_M_best_231 rfl ?_
                          refine gq_lcmp dz_M_best_233 ?_
                          refine gq_if_le (tgt := 242) dz_M_best_234 rfl (fun h234 => ?_) (fun h234 => ?_)
                          · skip
                            exact absurd h234 h217
                          · skip
                            refine gq_lload dz_M_best_237 rfl ?_
                            refine gq_goto (tgt := 244) dz_M_best_239 rfl ?_
                            refine gw_lstore 8 dz_M_best_244 (Nat.le_of_ble_eq_true rfl) rfl ?_
                            dsimp only [List.set]
                            refine gw_iinc 10 (c := 1) dz_M_best_246 rfl rfl (Nat.le_of_ble_eq_true rfl) rfl ?_
                            dsimp only [List.set]
                            refine gq_goto (tgt := 166) dz_M_best_249 rfl ?_
                            simp only [nI_1]
                            exact zq_fewer _ (zq_sub_spec (by repeat (first | exact trivial | exact rfl | refine And.intro ?_ ?_))) (ih166 (f + 1) (zv_w X.1 F0 (fun G => zv X.1 q t m G (T0 + 1)) f, nI f) (by omega) (by omega) (fun z => absurd z (Nat.succ_ne_zero _)) (fun m3 z => by obtain rfl : m = m3 := (by omega); rw [zf_fo, ← hS1 m rfl]; exact (if_pos hle).symm))
                      · skip
                        have hbt : F0.testBit f = true := (zn_bitn (by omega) (by omega)).symm.trans (zb_bv1.mp h189)
                        have hW : zv_w X.1 F0 (fun G => zv X.1 q t m G (T0 + 1)) f = 0 := by rw [zv_w, hbt]; rfl
                        refine gq_lconst (v := 0) dz_M_best_192 rfl ?_
                        refine gq_goto (tgt := 210) dz_M_best_193 rfl ?_
                        refine gw_lstore 11 dz_M_best_210 (Nat.le_of_ble_eq_true rfl) rfl ?_
                        dsimp only [List.set]
                        refine gq_lload dz_M_best_212 rfl ?_
                        refine gq_lload dz_M_best_214 rfl ?_
                        refine gq_lcmp dz_M_best_216 ?_
                        refine gq_if_le (tgt := 225) dz_M_best_217 rfl (fun h217 => ?_) (fun h217 => ?_)
                        · skip
                          have hle : ¬ S.1 < zv_w X.1 F0 (fun G => zv X.1 q t m G (T0 + 1)) f := by rw [hW]; exact Nat.not_lt_zero _
                          refine gq_iload dz_M_best_225 rfl ?_
                          refine gw_istore 7 dz_M_best_227 (Nat.le_of_ble_eq_true rfl) rfl ?_
                          dsimp only [List.set]
                          refine gq_lload dz_M_best_229 rfl ?_
                          refine gq_lload dz_M_best_231 rfl ?_
                          refine gq_lcmp dz_M_best_233 ?_
                          refine gq_if_le (tgt := 242) dz_M_best_234 rfl (fun h234 => ?_) (fun h234 => ?_)
                          · skip
                            refine gq_lload dz_M_best_242 rfl ?_
                            refine gw_lstore 8 dz_M_best_244 (Nat.le_of_ble_eq_true rfl) rfl ?_
                            dsimp only [List.set]
                            refine gw_iinc 10 (c := 1) dz_M_best_246 rfl rfl (Nat.le_of_ble_eq_true rfl) rfl ?_
                            dsimp only [List.set]
                            refine gq_goto (tgt := 166) dz_M_best_249 rfl ?_
                            simp only [nI_1]
                            exact zq_fewer _ (zq_sub_spec (by repeat (first | exact trivial | exact rfl | refine And.intro ?_ ?_))) (ih166 (f + 1) S (by omega) (by omega) (fun z => absurd z (Nat.succ_ne_zero _)) (fun m3 z => by obtain rfl : m = m3 := (by omega); rw [zf_fo, ← hS1 m rfl]; exact (if_neg hle).symm))
                          · skip
                            exact absurd h217 h234
                        · skip
                          exact absurd (lg_le0.mpr (fun z => by have := (pk_lLT (b := 0) (by omega) (by omega)).mp z; omega)) h217
              exact zq_fewer _ (zq_sub_spec (by repeat (first | exact trivial | exact rfl | refine And.intro ?_ ?_))) (L166 6 0 (zv_s X.1 q t F0 T0 * 10 ^ M, 5) (by omega) (by omega) (fun _ => rfl) (fun m z => rfl))
            · skip
              have hw2 : ¬ w = 2 := fun z => h100 (by rw [z]; decide)
              have hp10 : 0 < 10 ^ M := Nat.pow_pos (by decide)
              have h10 : 10 ^ M ≤ 1000 := Nat.pow_le_pow_right (n := 10) (by decide) (show M ≤ 3 by omega)
              have hzv := zv_le hw (p := q) (t := t) M F0 T0
              refine gq_aload_n dz_M_best_103 rfl ?_
              refine gq_getR 42 zf_M_43 rfl rfl dz_M_best_104 ?_
              refine gq_bipush (v := 32) dz_M_best_107 rfl ?_
              refine gq_iload dz_M_best_109 rfl ?_
              refine gq_imul dz_M_best_111 ?_
              rw [zn_32]
              refine gq_aload_n dz_M_best_112 rfl ?_
              refine gq_getR 31 zf_M_7 rfl rfl dz_M_best_113 ?_
              refine gq_iload_n dz_M_best_116 rfl ?_
              refine gw_iald (q) (rfl) rfl (rfl) (Nat.le_of_ble_eq_true rfl) (by omega) dz_M_best_117 ?_
              rw [zn_fa hA3 (by omega), hFe]
              refine gq_iadd dz_M_best_118 ?_
              rw [nI_add]
              refine gw_lald (32 * M + F0) (rfl) rfl (rfl) (Nat.le_of_ble_eq_true rfl) (by omega) dz_M_best_119 ?_
              rw [hV0]
              refine gq_iload dz_M_best_120 rfl ?_
              refine gq_cS (sp_M_tens (m := M) (by omega)) zw_M_tens zl_M_277 dz_M_best_122 (by decide) rfl rfl (Nat.le_of_ble_eq_true rfl) ?_
              refine gq_iload dz_M_best_125 rfl ?_
              refine gq_cS (sp_M_lowest (by omega) hp10 (by omega) w) zw_M_lowest zl_M_265 dz_M_best_127 (by decide) rfl rfl (Nat.le_of_ble_eq_true rfl) ?_
              refine gw_lretP dz_M_best_130 rfl ?_ ?_
              · rw [zx_best, ho, if_pos rfl, nI_clamp (by omega), nI_clamp (by omega), hb, zv_b1, if_neg hw2]
              · exact ⟨hS.as hW hz, hz.M⟩
        · skip
          rw [zn_in3 (n := 2) rfl rfl (by omega)] at h37
          replace h37 : zx_3 w 2 = false := h37
          have ho : zx_bok X.1 p t n w = false := by rw [zx_bok, h5, h12, h24, h37]; rfl
          refine gq_ldc2 zl_M_263 dz_M_best_40 ?_
          refine gw_lretP dz_M_best_43 rfl ?_ ?_
          · rw [zx_best, ho]; rfl
          · exact ⟨hS, zg_M.rf⟩
