/-! THE MODEL'S STEP -/
theorem zn_let_eq {x : Int32} : zn_in x.toInt64 97 122 = zt_let x := by
  rw [zn_in32]
  unfold zt_let
  refine decide_eq_decide.mpr ?_
  rw [Int32.le_iff_toInt_le, Int32.le_iff_toInt_le]
  exact Iff.rfl
theorem zn_fig_eq {x : Int32} : zn_in x.toInt64 48 57 = zt_fig x := by
  rw [zn_in32]
  unfold zt_fig
  refine decide_eq_decide.mpr ?_
  rw [Int32.le_iff_toInt_le, Int32.le_iff_toInt_le]
  exact Iff.rfl
theorem zw_r_mk {σ : zq_T} {T : za_T} {K : za_K} (hkw : zt_kw T K) (hk : K.2.1 < 4) (h15 : σ.1 30 0 15 = 0) (h17 : σ.1 30 0 17 = nI K.1) (h18 : σ.1 30 0 18 = nI K.2.2.1) (h19 : σ.1 30 0 19 = nI K.2.1) (h20 : K.2.1 = 2 → σ.1 30 0 20 = K.2.2.2) : zw_r σ T (0, K) := by
  have hc : zw_cd (0, K) = 0 := by
    unfold zw_cd
    rw [if_pos rfl, if_neg (show ¬ K.2.1 = 4 by omega)]
  exact ⟨hkw, ⟨0, by omega, hc⟩, h15.trans hc.symm, fun z => absurd hc z, h17, h18, ⟨K.2.1, hk, h19, fun _ => rfl, fun z => absurd z (show ¬ K.2.1 = 4 by omega)⟩, h20⟩
theorem zw_r_bad {σ : zq_T} {T : za_T} {K : za_K} (hkw : zt_kw T K) (hk : K.2.1 = 4) (h15 : σ.1 30 0 15 = 1) (h16 : σ.1 30 0 16 = nI K.2.2.1) (h17 : σ.1 30 0 17 = nI K.1) (h18 : σ.1 30 0 18 = nI K.2.2.1) {k : Nat} (hk4 : k < 4) (hk1 : ¬ k = 1) (h19 : σ.1 30 0 19 = nI k) : zw_r σ T (0, K) := by
  have hc : zw_cd (0, K) = 1 := by
    unfold zw_cd
    rw [if_pos rfl, if_pos (show K.2.1 = 4 from hk)]
  exact ⟨hkw, ⟨1, by omega, hc⟩, h15.trans hc.symm, fun _ => h16, h17, h18, ⟨k, hk4, h19, fun z => absurd hk z, fun _ => hk1⟩, fun z => absurd (hk.symm.trans z) (by decide)⟩
/-- the token behind, if there is no fault -/
def zw_nx (T : za_T) (r : Int32 × za_K) : Int32 × za_K := if zw_cd r = 0 then (0, zt_lex T r.2.1) else r
/-- a fault, if there is none -/
def zw_fl (e : Int32) (r : Int32 × za_K) : Int32 × za_K := if zw_cd r = 0 then (e, r.2) else r
theorem zw_r.fl {σ τ : zq_T} {T : za_T} {r : Int32 × za_K} (h : zw_r σ T r) {n : Nat} (hn : n < 8) (hn0 : 0 < n) (hτ : τ = if σ.1 30 0 15 = 0 then zu (zu σ 30 0 15 (nI n)) 30 0 16 (σ.1 30 0 18) else σ) : zw_fs σ τ ∧ zw_r τ T (zw_fl (nI n) r) := by
  obtain ⟨h1, h2, h3, h4, h5, h6, ⟨k, k1, k2, k3, k4⟩, h8⟩ := h
  unfold zw_fl
  by_cases hc : zw_cd r = 0
  · rw [if_pos (h3.trans hc)] at hτ
    rw [if_pos hc]
    subst hτ
    have hne : ¬ nI n = 0 := fun z => by have := (nI_eq (b := 0) (by omega) (by omega)).mp z; omega
    have hcd : zw_cd (nI n, r.2) = nI n := if_neg hne
    refine ⟨(zw_fs.rf.up (by omega) (by omega)).up (by omega) (by omega), h1, ⟨n, hn, hcd⟩, ?_, fun _ => ?_, ?_, ?_, ⟨k, k1, ?_, k3, k4⟩, fun z => ?_⟩
    · exact (zu_N (by omega)).trans (zu_E.trans hcd.symm)
    · exact zu_E.trans h6
    · exact (zu_N (by omega)).trans ((zu_N (by omega)).trans h5)
    · exact (zu_N (by omega)).trans ((zu_N (by omega)).trans h6)
    · exact (zu_N (by omega)).trans ((zu_N (by omega)).trans k2)
    · exact (zu_N (by omega)).trans ((zu_N (by omega)).trans (h8 z))
  · rw [if_neg (fun z => hc (h3.symm.trans z))] at hτ
    rw [if_neg hc]
    subst hτ
    exact ⟨zw_fs.rf, h1, h2, h3, h4, h5, h6, ⟨k, k1, k2, k3, k4⟩, h8⟩
theorem zt_sp_no {T : za_T} {a c n : Nat} (hn : c + n = T.1) (h : ¬ zw_b T c = 32) (hv : zt_end zt_sp T a = zt_run zt_sp T n c) : zt_end zt_sp T a = c := by
  rw [hv]
  rcases n with _ | n
  · rfl
  · rw [zw_b_in (by omega)] at h
    rw [zt_run, zt_sp, decide_eq_false h]; rfl
theorem zt_P_no {P : Int32 → Bool} {T : za_T} {a c n : Nat} (hn : c + n = T.1) (h : P (zw_b T c) = false) (hv : zt_end P T a = zt_run P T n c) : zt_end P T a = c := by
  rw [hv]
  rcases n with _ | n
  · rfl
  · rw [zw_b_in (by omega)] at h
    rw [zt_run, h]; rfl
theorem zw_b_lt {P : Int32 → Bool} (hP : P (-4) = false) {T : za_T} {c : Nat} (h : P (zw_b T c) = true) : c < T.1 := by
  rcases Nat.lt_or_ge c T.1 with z | z
  · exact z
  · rw [zw_b_out (by omega), hP] at h; cases h
theorem zw_b_pos {T : za_T} (hw : zt_wf T) {c : Nat} (h : zw_b T c = -4) : ¬ c < T.1 := fun z => by
  obtain ⟨y, hy, ey⟩ := hw.2 c z
  rw [zw_b_in z, ey] at h
  exact nI_pos (show y < 2 ^ 31 by omega) (by rw [h]; decide)

set_option maxHeartbeats 4000000 in
theorem sp_M_step0 {σ : zq_T} {T : za_T} (hT : zw_t σ T) (hw : zt_wf T) {a : Nat} (h15 : σ.1 30 0 15 = 0) (h17 : σ.1 30 0 17 = nI a) (ha : a ≤ T.1) : zq_Sp zm_M_step 2 [zq_O 30 0] σ (zq_rx (fun τ => zw_fs σ τ ∧ zw_r τ T (0, zt_lex T a))) := by
  have h160 := hw.1
  refine zq_sp [some (zq_O 30 0), none] (by decide +kernel) rfl (Nat.le_of_ble_eq_true rfl) (fun ν => ?_)
  refine gq_aload_n dz_M_step_0 rfl ?_
  refine gq_getI zf_M_73 rfl rfl dz_M_step_1 ?_
  rw [h15]
  refine gq_if_le (tgt := 8) dz_M_step_4 rfl (fun h4 => ?_) (fun h4 => ?_)
  · skip
    have L8 : ∀ (kf : Nat) (n c : Nat) (τ : zq_T) (hkf : n < kf) (hn : c + n = T.1) (hs : zw_fs σ τ) (h15c : τ.1 30 0 15 = 0) (hc : τ.1 30 0 17 = nI c) (hv : zt_end zt_sp T a = zt_run zt_sp T n c), zq_G ν zm_M_step 2 (zq_rx (fun τ => zw_fs σ τ ∧ zw_r τ T (0, zt_lex T a))) 8 [some (zq_O 30 0), none] [] τ := by
      intro kf
      induction kf with
      | zero => intro n c τ hkf hn hs h15c hc hv; exact absurd hkf (Nat.not_lt_zero _)
      | succ kf ih8 =>
        intro n c τ hkf hn hs h15c hc hv
        refine gq_aload_n dz_M_step_8 rfl ?_
        refine gq_aload_n dz_M_step_9 rfl ?_
        refine gq_getI zf_M_85 rfl rfl dz_M_step_10 ?_
        rw [hc]
        refine gq_cV (sp_M_byteAt (hT.fs hs) hw (i := c) (by omega)) zw_M_byteAt zl_M_88 dz_M_step_13 rfl rfl rfl (by decide) rfl rfl (Nat.le_of_ble_eq_true rfl) ?_
        refine gq_bipush (v := 32) dz_M_step_16 rfl ?_
        refine gq_icmp_ne (tgt := 34) dz_M_step_18 rfl (fun h18 => ?_) (fun h18 => ?_)
        · skip
          have he := zt_sp_no hn h18 hv
          have hct : c ≤ T.1 := by omega
          refine gq_aload_n dz_M_step_34 rfl ?_
          refine gq_aload_n dz_M_step_35 rfl ?_
          refine gq_getI zf_M_85 rfl rfl dz_M_step_36 ?_
          rw [hc]
          refine gq_putI zv_M_76 rfl rfl dz_M_step_39 ?_
          refine gq_aload_n dz_M_step_42 rfl ?_
          refine gq_aload_n dz_M_step_43 rfl ?_
          refine gq_getI zf_M_85 rfl rfl dz_M_step_44 ?_
          rw [zq_upN (by omega), hc]
          refine gq_cV (sp_M_byteAt (hT.fs (hs.up (by omega) (by omega))) hw (i := c) (by omega)) zw_M_byteAt zl_M_88 dz_M_step_47 rfl rfl rfl (by decide) rfl rfl (Nat.le_of_ble_eq_true rfl) ?_
          refine gw_istore_n 1 dz_M_step_50 rfl (Nat.le_of_ble_eq_true rfl) rfl ?_
          dsimp only [List.set]
          refine gq_aload_n dz_M_step_51 rfl ?_
          refine gq_iconst (v := 0) dz_M_step_52 rfl ?_
          refine gq_putI zv_M_92 rfl rfl dz_M_step_53 ?_
          refine gq_iload_n dz_M_step_56 rfl ?_
          refine gq_bipush (v := -4) dz_M_step_57 rfl ?_
          refine gq_icmp_ne (tgt := 70) dz_M_step_59 rfl (fun h59 => ?_) (fun h59 => ?_)
          · skip
            have hcl : c < T.1 := by rcases Nat.lt_or_ge c T.1 with z | z; exact z; exact absurd (zw_b_out (by omega)) h59
            have hcb := zw_b_in hcl
            refine gq_iload_n dz_M_step_70 rfl ?_
            refine gq_i2l dz_M_step_71 ?_
            refine gq_ldc2 zl_M_95 dz_M_step_72 ?_
            refine gq_ldc2 zl_M_97 dz_M_step_75 ?_
            refine gq_cS (sp_M_in _ _ _) zw_M_in zl_M_65 dz_M_step_78 (by decide) rfl rfl (Nat.le_of_ble_eq_true rfl) ?_
            refine gw_ifb_eq (tgt := 126) dz_M_step_81 rfl (fun h81 => ?_) (fun h81 => ?_)
            · skip
              rw [zn_let_eq, hcb] at h81
              refine gq_iload_n dz_M_step_126 rfl ?_
              refine gq_i2l dz_M_step_127 ?_
              refine gq_ldc2 zl_M_99 dz_M_step_128 ?_
              refine gq_ldc2 zl_M_101 dz_M_step_131 ?_
              refine gq_cS (sp_M_in _ _ _) zw_M_in zl_M_65 dz_M_step_134 (by decide) rfl rfl (Nat.le_of_ble_eq_true rfl) ?_
              refine gw_ifb_eq (tgt := 243) dz_M_step_137 rfl (fun h137 => ?_) (fun h137 => ?_)
              · skip
                rw [zn_fig_eq, hcb] at h137
                refine gq_aload_n dz_M_step_243 rfl ?_
                refine gq_iconst (v := 3) dz_M_step_244 rfl ?_
                refine gq_putI zv_M_82 rfl rfl dz_M_step_245 ?_
                refine gq_aload_n dz_M_step_248 rfl ?_
                refine gq_dup dz_M_step_249 rfl ?_
                refine gq_getI zf_M_85 rfl rfl dz_M_step_250 ?_
                rw [zq_upN (by omega), zq_upN (by omega), zq_upN (by omega), hc]
                refine gq_iconst (v := 1) dz_M_step_253 rfl ?_
                refine gq_iadd dz_M_step_254 ?_
                rw [nI_1]
                refine gq_putI zv_M_85 rfl rfl dz_M_step_255 ?_
                refine gq_iload_n dz_M_step_258 rfl ?_
                refine gq_bipush (v := 59) dz_M_step_259 rfl ?_
                refine gq_icmp_eq (tgt := 269) dz_M_step_261 rfl (fun h261 => ?_) (fun h261 => ?_)
                · skip
                  rw [hcb] at h261
                  have hx : zt_lex T a = (c + 1, 3, c, 0) := by rw [zt_lex, he, zt_lexs, if_neg (fun z => z hcl), if_neg (by rw [h81]; exact Bool.false_ne_true), if_neg (by rw [h137]; exact Bool.false_ne_true), if_pos h261]
                  refine gw_vretP dz_M_step_269 rfl ?_
                  · rw [hx]; exact ⟨(((hs.up (by omega) (by omega)).up (by omega) (by omega)).up (by omega) (by omega)).up (by omega) (by omega), zw_r_mk (by rw [← hx]; exact zt_lex_kw ha) (Nat.le_of_ble_eq_true rfl) (((zq_upN (by omega)).trans ((zq_upN (by omega)).trans ((zq_upN (by omega)).trans ((zq_upN (by omega)).trans h15c))))) zq_upE (((zq_upN (by omega)).trans ((zq_upN (by omega)).trans ((zq_upN (by omega)).trans zq_upE)))) (((zq_upN (by omega)).trans zq_upE)) (fun z => by cases z)⟩
                · skip
                  rw [hcb] at h261
                  have hx : zt_lex T a = (c + 1, 4, c, 0) := by rw [zt_lex, he, zt_lexs, if_neg (fun z => z hcl), if_neg (by rw [h81]; exact Bool.false_ne_true), if_neg (by rw [h137]; exact Bool.false_ne_true), if_neg h261]
                  refine gq_aload_n dz_M_step_264 rfl ?_
                  refine gq_iconst (v := 1) dz_M_step_265 rfl ?_
                  refine gq_cVX (sp_M_fails 1) zw_M_fails zl_M_103 dz_M_step_266 rfl rfl rfl (by decide) rfl rfl (Nat.le_of_ble_eq_true rfl) (fun τ266 hq266 => ?_)
                  refine gw_vretP dz_M_step_269 rfl ?_
                  · have e := hq266.trans (if_pos (((zq_upN (by omega)).trans ((zq_upN (by omega)).trans ((zq_upN (by omega)).trans ((zq_upN (by omega)).trans h15c)))))); rw [hx, e]; exact ⟨(((((hs.up (by omega) (by omega)).up (by omega) (by omega)).up (by omega) (by omega)).up (by omega) (by omega)).up (by omega) (by omega)).up (by omega) (by omega), zw_r_bad (by rw [← hx]; exact zt_lex_kw ha) rfl ((zu_N (by omega)).trans zu_E) (zu_E.trans (((zq_upN (by omega)).trans ((zq_upN (by omega)).trans ((zq_upN (by omega)).trans zq_upE))))) (((zq_upN (by omega)).trans ((zq_upN (by omega)).trans zq_upE))) (((zq_upN (by omega)).trans ((zq_upN (by omega)).trans ((zq_upN (by omega)).trans ((zq_upN (by omega)).trans ((zq_upN (by omega)).trans zq_upE)))))) (k := 3) (by omega) (by omega) (((zq_upN (by omega)).trans ((zq_upN (by omega)).trans ((zq_upN (by omega)).trans zq_upE))))⟩
              · skip
                rw [zn_fig_eq, hcb] at h137
                have hx : zt_lex T a = (zt_end zt_fig T c, if zt_end zt_fig T c - c ≤ 2 then 2 else 4, c, zt_val T (T.1 - c) c 0) := by rw [zt_lex, he, zt_lexs, if_neg (fun z => z hcl), if_neg (by rw [h81]; exact Bool.false_ne_true), if_pos h137]
                have L140 : ∀ (kf : Nat) (n2 d : Nat) (x : Int32) (τ2 : zq_T) (hkf : n2 < kf) (hn2 : d + n2 = T.1) (hcd : c ≤ d) (hs2 : zw_fs σ τ2) (h15b : τ2.1 30 0 15 = 0) (h17b : τ2.1 30 0 17 = nI d) (h18b : τ2.1 30 0 18 = nI c) (hx20 : τ2.1 30 0 20 = x) (hv2 : zt_end zt_fig T c = zt_run zt_fig T n2 d) (hv3 : zt_end zt_fig T c - c ≤ 2 → zt_val T (T.1 - c) c 0 = zt_val T n2 d x), zq_G ν zm_M_step 2 (zq_rx (fun τ => zw_fs σ τ ∧ zw_r τ T (0, zt_lex T a))) 140 [some (zq_O 30 0), none] [] τ2 := by
                  intro kf
                  induction kf with
                  | zero => intro n2 d x τ2 hkf hn2 hcd hs2 h15b h17b h18b hx20 hv2 hv3; exact absurd hkf (Nat.not_lt_zero _)
                  | succ kf ih140 =>
                    intro n2 d x τ2 hkf hn2 hcd hs2 h15b h17b h18b hx20 hv2 hv3
                    refine gq_aload_n dz_M_step_140 rfl ?_
                    refine gq_aload_n dz_M_step_141 rfl ?_
                    refine gq_getI zf_M_85 rfl rfl dz_M_step_142 ?_
                    rw [h17b]
                    refine gq_cV (sp_M_byteAt (hT.fs hs2) hw (i := d) (by omega)) zw_M_byteAt zl_M_88 dz_M_step_145 rfl rfl rfl (by decide) rfl rfl (Nat.le_of_ble_eq_true rfl) ?_
                    refine gq_i2l dz_M_step_148 ?_
                    refine gq_ldc2 zl_M_99 dz_M_step_149 ?_
                    refine gq_ldc2 zl_M_101 dz_M_step_152 ?_
                    refine gq_cS (sp_M_in _ _ _) zw_M_in zl_M_65 dz_M_step_155 (by decide) rfl rfl (Nat.le_of_ble_eq_true rfl) ?_
                    refine gw_ifb_eq (tgt := 217) dz_M_step_158 rfl (fun h158 => ?_) (fun h158 => ?_)
                    · skip
                      rw [zn_fig_eq] at h158
                      have hd := zt_P_no hn2 h158 hv2
                      refine gq_aload_n dz_M_step_217 rfl ?_
                      refine gq_iconst (v := 2) dz_M_step_218 rfl ?_
                      refine gq_putI zv_M_82 rfl rfl dz_M_step_219 ?_
                      refine gq_aload_n dz_M_step_222 rfl ?_
                      refine gq_getI zf_M_85 rfl rfl dz_M_step_223 ?_
                      rw [zq_upN (by omega), h17b]
                      refine gq_aload_n dz_M_step_226 rfl ?_
                      refine gq_getI zf_M_76 rfl rfl dz_M_step_227 ?_
                      rw [zq_upN (by omega), h18b]
                      refine gq_isub dz_M_step_230 ?_
                      rw [pk_sub hcd]
                      refine gq_iconst (v := 2) dz_M_step_231 rfl ?_
                      refine gq_icmp_le (tgt := 269) dz_M_step_232 rfl (fun h232 => ?_) (fun h232 => ?_)
                      · skip
                        have hd2 : d - c ≤ 2 := (nI_leI (b := 2) (by omega) (by omega)).mp h232
                        have hx : zt_lex T a = (d, 2, c, x) := by rw [hx, hd, if_pos hd2, hv3 (by rw [hd]; exact hd2)]; rcases n2 with _ | n3; rfl; rw [zw_b_in (show d < T.1 by omega)] at h158; rw [zt_val, h158]; rfl
                        refine gw_vretP dz_M_step_269 rfl ?_
                        · rw [hx]; exact ⟨hs2.up (by omega) (by omega), zw_r_mk (by rw [← hx]; exact zt_lex_kw ha) (Nat.le_of_ble_eq_true rfl) (((zq_upN (by omega)).trans h15b)) (((zq_upN (by omega)).trans h17b)) (((zq_upN (by omega)).trans h18b)) zq_upE (fun _ => ((zq_upN (by omega)).trans hx20))⟩
                      · skip
                        have hd2 : ¬ d - c ≤ 2 := fun z => h232 ((nI_leI (b := 2) (by omega) (by omega)).mpr z)
                        rw [hd, if_neg hd2] at hx
                        refine gq_aload_n dz_M_step_235 rfl ?_
                        refine gq_iconst (v := 1) dz_M_step_236 rfl ?_
                        refine gq_cVX (sp_M_fails 1) zw_M_fails zl_M_103 dz_M_step_237 rfl rfl rfl (by decide) rfl rfl (Nat.le_of_ble_eq_true rfl) (fun τ237 hq237 => ?_)
                        refine gq_goto (tgt := 269) dz_M_step_240 rfl ?_
                        refine gw_vretP dz_M_step_269 rfl ?_
                        · have e := hq237.trans (if_pos (((zq_upN (by omega)).trans h15b))); rw [hx, e]; exact ⟨((hs2.up (by omega) (by omega)).up (by omega) (by omega)).up (by omega) (by omega), zw_r_bad (by rw [← hx]; exact zt_lex_kw ha) rfl ((zu_N (by omega)).trans zu_E) (zu_E.trans (((zq_upN (by omega)).trans h18b))) (((zq_upN (by omega)).trans ((zq_upN (by omega)).trans ((zq_upN (by omega)).trans h17b)))) (((zq_upN (by omega)).trans ((zq_upN (by omega)).trans ((zq_upN (by omega)).trans h18b)))) (k := 2) (by omega) (by omega) (((zq_upN (by omega)).trans ((zq_upN (by omega)).trans zq_upE)))⟩
                    · skip
                      rw [zn_fig_eq] at h158
                      have hdl := zw_b_lt (P := zt_fig) (by decide) h158
                      obtain ⟨n3, rfl⟩ : ∃ n3, n2 = n3 + 1 := ⟨n2 - 1, by omega⟩
                      have hdb := zw_b_in hdl
                      rw [hdb] at h158
                      refine gq_aload_n dz_M_step_161 rfl ?_
                      refine gq_aload_n dz_M_step_162 rfl ?_
                      refine gq_getI zf_M_85 rfl rfl dz_M_step_163 ?_
                      rw [h17b]
                      refine gq_aload_n dz_M_step_166 rfl ?_
                      refine gq_getI zf_M_76 rfl rfl dz_M_step_167 ?_
                      rw [h18b]
                      refine gq_isub dz_M_step_170 ?_
                      rw [pk_sub hcd]
                      refine gq_iconst (v := 2) dz_M_step_171 rfl ?_
                      refine gq_icmp_ge (tgt := 197) dz_M_step_172 rfl (fun h172 => ?_) (fun h172 => ?_)
                      · skip
                        have hd2 : 2 ≤ d - c := (nI_leI (a := 2) (by omega) (by omega)).mp h172
                        refine gq_aload_n dz_M_step_197 rfl ?_
                        refine gq_getI zf_M_92 rfl rfl dz_M_step_198 ?_
                        rw [hx20]
                        refine gq_putI zv_M_92 rfl rfl dz_M_step_201 ?_
                        refine gq_aload_n dz_M_step_204 rfl ?_
                        refine gq_dup dz_M_step_205 rfl ?_
                        refine gq_getI zf_M_85 rfl rfl dz_M_step_206 ?_
                        rw [zq_upN (by omega), h17b]
                        refine gq_iconst (v := 1) dz_M_step_209 rfl ?_
                        refine gq_iadd dz_M_step_210 ?_
                        rw [nI_1]
                        refine gq_putI zv_M_85 rfl rfl dz_M_step_211 ?_
                        refine gq_goto (tgt := 140) dz_M_step_214 rfl ?_
                        exact zq_fewer _ (zq_sub_spec (by repeat (first | exact trivial | exact rfl | refine And.intro ?_ ?_))) (ih140 n3 (d + 1) x _ (by omega) (by omega) (by omega) ((hs2.up (by omega) (by omega)).up (by omega) (by omega)) ((zq_upN (by omega)).trans ((zq_upN (by omega)).trans h15b)) zq_upE ((zq_upN (by omega)).trans ((zq_upN (by omega)).trans h18b)) ((zq_upN (by omega)).trans zq_upE) (hv2.trans (if_pos h158)) (fun z => by have h9 := zt_run_ge (P := zt_fig) (T := T) n3 (d + 1); rw [hv2.trans (if_pos h158)] at z; omega))
                      · skip
                        refine gq_bipush (v := 10) dz_M_step_175 rfl ?_
                        refine gq_aload_n dz_M_step_177 rfl ?_
                        refine gq_getI zf_M_92 rfl rfl dz_M_step_178 ?_
                        rw [hx20]
                        refine gq_imul dz_M_step_181 ?_
                        refine gq_aload_n dz_M_step_182 rfl ?_
                        refine gq_aload_n dz_M_step_183 rfl ?_
                        refine gq_getI zf_M_85 rfl rfl dz_M_step_184 ?_
                        rw [h17b]
                        refine gq_cV (sp_M_byteAt (hT.fs hs2) hw (i := d) (by omega)) zw_M_byteAt zl_M_88 dz_M_step_187 rfl rfl rfl (by decide) rfl rfl (Nat.le_of_ble_eq_true rfl) ?_
                        refine gq_iadd dz_M_step_190 ?_
                        refine gq_bipush (v := 48) dz_M_step_191 rfl ?_
                        refine gq_isub dz_M_step_193 ?_
                        refine gq_goto (tgt := 201) dz_M_step_194 rfl ?_
                        refine gq_putI zv_M_92 rfl rfl dz_M_step_201 ?_
                        refine gq_aload_n dz_M_step_204 rfl ?_
                        refine gq_dup dz_M_step_205 rfl ?_
                        refine gq_getI zf_M_85 rfl rfl dz_M_step_206 ?_
                        rw [zq_upN (by omega), h17b]
                        refine gq_iconst (v := 1) dz_M_step_209 rfl ?_
                        refine gq_iadd dz_M_step_210 ?_
                        rw [nI_1]
                        refine gq_putI zv_M_85 rfl rfl dz_M_step_211 ?_
                        refine gq_goto (tgt := 140) dz_M_step_214 rfl ?_
                        exact zq_fewer _ (zq_sub_spec (by repeat (first | exact trivial | exact rfl | refine And.intro ?_ ?_))) (ih140 n3 (d + 1) (10 * x + T.2 d - 48) _ (by omega) (by omega) (by omega) ((hs2.up (by omega) (by omega)).up (by omega) (by omega)) ((zq_upN (by omega)).trans ((zq_upN (by omega)).trans h15b)) zq_upE ((zq_upN (by omega)).trans ((zq_upN (by omega)).trans h18b)) ((zq_upN (by omega)).trans (by rw [← hdb]; exact zq_upE)) (hv2.trans (if_pos h158)) (fun z => (hv3 z).trans (if_pos h158)))
                exact zq_fewer _ (zq_sub_spec (by repeat (first | exact trivial | exact rfl | refine And.intro ?_ ?_))) (L140 (T.1 - c + 1) (T.1 - c) c 0 _ (by omega) (by omega) (Nat.le_refl _) ((hs.up (by omega) (by omega)).up (by omega) (by omega)) ((zq_upN (by omega)).trans ((zq_upN (by omega)).trans h15c)) ((zq_upN (by omega)).trans ((zq_upN (by omega)).trans hc)) ((zq_upN (by omega)).trans zq_upE) zq_upE rfl (fun _ => rfl))
            · skip
              rw [zn_let_eq, hcb] at h81
              have hx : zt_lex T a = (zt_end zt_let T c, 1, c, 0) := by rw [zt_lex, he, zt_lexs, if_neg (fun z => z hcl), if_pos h81]
              have L84 : ∀ (kf : Nat) (n2 d : Nat) (τ2 : zq_T) (hkf : n2 < kf) (hn2 : d + n2 = T.1) (hs2 : zw_fs σ τ2) (h15b : τ2.1 30 0 15 = 0) (h17b : τ2.1 30 0 17 = nI d) (h18b : τ2.1 30 0 18 = nI c) (hv2 : zt_end zt_let T c = zt_run zt_let T n2 d), zq_G ν zm_M_step 2 (zq_rx (fun τ => zw_fs σ τ ∧ zw_r τ T (0, zt_lex T a))) 84 [some (zq_O 30 0), none] [] τ2 := by
                intro kf
                induction kf with
                | zero => intro n2 d τ2 hkf hn2 hs2 h15b h17b h18b hv2; exact absurd hkf (Nat.not_lt_zero _)
                | succ kf ih84 =>
                  intro n2 d τ2 hkf hn2 hs2 h15b h17b h18b hv2
                  refine gq_aload_n dz_M_step_84 rfl ?_
                  refine gq_aload_n dz_M_step_85 rfl ?_
                  refine gq_getI zf_M_85 rfl rfl dz_M_step_86 ?_
                  rw [h17b]
                  refine gq_cV (sp_M_byteAt (hT.fs hs2) hw (i := d) (by omega)) zw_M_byteAt zl_M_88 dz_M_step_89 rfl rfl rfl (by decide) rfl rfl (Nat.le_of_ble_eq_true rfl) ?_
                  refine gq_i2l dz_M_step_92 ?_
                  refine gq_ldc2 zl_M_95 dz_M_step_93 ?_
                  refine gq_ldc2 zl_M_97 dz_M_step_96 ?_
                  refine gq_cS (sp_M_in _ _ _) zw_M_in zl_M_65 dz_M_step_99 (by decide) rfl rfl (Nat.le_of_ble_eq_true rfl) ?_
                  refine gw_ifb_eq (tgt := 118) dz_M_step_102 rfl (fun h102 => ?_) (fun h102 => ?_)
                  · skip
                    rw [zn_let_eq] at h102
                    have hd := zt_P_no hn2 h102 hv2
                    refine gq_aload_n dz_M_step_118 rfl ?_
                    refine gq_iconst (v := 1) dz_M_step_119 rfl ?_
                    refine gq_putI zv_M_82 rfl rfl dz_M_step_120 ?_
                    refine gq_goto (tgt := 269) dz_M_step_123 rfl ?_
                    refine gw_vretP dz_M_step_269 rfl ?_
                    · rw [hx, hd]; exact ⟨hs2.up (by omega) (by omega), zw_r_mk (by rw [← hd, ← hx]; exact zt_lex_kw ha) (Nat.le_of_ble_eq_true rfl) (((zq_upN (by omega)).trans h15b)) (((zq_upN (by omega)).trans h17b)) (((zq_upN (by omega)).trans h18b)) zq_upE (fun z => by cases z)⟩
                  · skip
                    rw [zn_let_eq] at h102
                    have hdl := zw_b_lt (P := zt_let) (by decide) h102
                    obtain ⟨n3, rfl⟩ : ∃ n3, n2 = n3 + 1 := ⟨n2 - 1, by omega⟩
                    rw [zw_b_in hdl] at h102
                    refine gq_aload_n dz_M_step_105 rfl ?_
                    refine gq_dup dz_M_step_106 rfl ?_
                    refine gq_getI zf_M_85 rfl rfl dz_M_step_107 ?_
                    rw [h17b]
                    refine gq_iconst (v := 1) dz_M_step_110 rfl ?_
                    refine gq_iadd dz_M_step_111 ?_
                    rw [nI_1]
                    refine gq_putI zv_M_85 rfl rfl dz_M_step_112 ?_
                    refine gq_goto (tgt := 84) dz_M_step_115 rfl ?_
                    exact zq_fewer _ (zq_sub_spec (by repeat (first | exact trivial | exact rfl | refine And.intro ?_ ?_))) (ih84 n3 (d + 1) _ (by omega) (by omega) (hs2.up (by omega) (by omega)) ((zq_upN (by omega)).trans h15b) zq_upE ((zq_upN (by omega)).trans h18b) (hv2.trans (if_pos h102)))
              exact zq_fewer _ (zq_sub_spec (by repeat (first | exact trivial | exact rfl | refine And.intro ?_ ?_))) (L84 (T.1 - c + 1) (T.1 - c) c _ (by omega) (by omega) ((hs.up (by omega) (by omega)).up (by omega) (by omega)) ((zq_upN (by omega)).trans ((zq_upN (by omega)).trans h15c)) ((zq_upN (by omega)).trans ((zq_upN (by omega)).trans hc)) ((zq_upN (by omega)).trans zq_upE) rfl)
          · skip
            have hcl := zw_b_pos hw h59
            have hx : zt_lex T a = (c, 0, c, 0) := by rw [zt_lex, he, zt_lexs, if_pos hcl]
            refine gq_aload_n dz_M_step_62 rfl ?_
            refine gq_iconst (v := 0) dz_M_step_63 rfl ?_
            refine gq_putI zv_M_82 rfl rfl dz_M_step_64 ?_
            refine gq_goto (tgt := 269) dz_M_step_67 rfl ?_
            refine gw_vretP dz_M_step_269 rfl ?_
            · rw [hx]; exact ⟨((hs.up (by omega) (by omega)).up (by omega) (by omega)).up (by omega) (by omega), zw_r_mk (by rw [← hx]; exact zt_lex_kw ha) (Nat.le_of_ble_eq_true rfl) (((zq_upN (by omega)).trans ((zq_upN (by omega)).trans ((zq_upN (by omega)).trans h15c)))) (((zq_upN (by omega)).trans ((zq_upN (by omega)).trans ((zq_upN (by omega)).trans hc)))) (((zq_upN (by omega)).trans ((zq_upN (by omega)).trans zq_upE))) zq_upE (fun z => by cases z)⟩
        · skip
          have hcl : c < T.1 := by rcases Nat.lt_or_ge c T.1 with z | z; exact z; rw [zw_b_out (by omega)] at h18; exact absurd h18 (by decide)
          obtain ⟨n2, rfl⟩ : ∃ n2, n = n2 + 1 := ⟨n - 1, by omega⟩
          rw [zw_b_in hcl] at h18
          refine gq_aload_n dz_M_step_21 rfl ?_
          refine gq_dup dz_M_step_22 rfl ?_
          refine gq_getI zf_M_85 rfl rfl dz_M_step_23 ?_
          rw [hc]
          refine gq_iconst (v := 1) dz_M_step_26 rfl ?_
          refine gq_iadd dz_M_step_27 ?_
          rw [nI_1]
          refine gq_putI zv_M_85 rfl rfl dz_M_step_28 ?_
          refine gq_goto (tgt := 8) dz_M_step_31 rfl ?_
          exact zq_fewer _ (zq_sub_spec (by repeat (first | exact trivial | exact rfl | refine And.intro ?_ ?_))) (ih8 n2 (c + 1) _ (by omega) (by omega) (hs.up (by omega) (by omega)) ((zq_upN (by omega)).trans h15c) zq_upE (hv.trans (if_pos (by rw [zt_sp, decide_eq_true h18]))))
    exact zq_fewer _ (zq_sub_spec (by repeat (first | exact trivial | exact rfl | refine And.intro ?_ ?_))) (L8 (T.1 - a + 1) (T.1 - a) a _ (by omega) (by omega) zw_fs.rf h15 h17 rfl)
  · skip
    exact absurd (show (0 : Int32) ≤ 0 by decide) h4
set_option maxHeartbeats 4000000 in
theorem sp_M_stepB {σ : zq_T} (hb : 0 < σ.1 30 0 15) : zq_Sp zm_M_step 2 [zq_O 30 0] σ (zq_rx (fun τ => τ = σ)) := by
  refine zq_sp [some (zq_O 30 0), none] (by decide +kernel) rfl (Nat.le_of_ble_eq_true rfl) (fun ν => ?_)
  refine gq_aload_n dz_M_step_0 rfl ?_
  refine gq_getI zf_M_73 rfl rfl dz_M_step_1 ?_
  refine gq_if_le (tgt := 8) dz_M_step_4 rfl (fun h4 => ?_) (fun h4 => ?_)
  · skip
    exact absurd hb (Int32.not_lt.mpr h4)
  · skip
    refine gw_vretP dz_M_step_7 rfl ?_
    · rfl
theorem sp_M_step {σ : zq_T} {T : za_T} (hT : zw_t σ T) (hw : zt_wf T) {r : Int32 × za_K} (hr : zw_r σ T r) : zq_Sp zm_M_step 2 [zq_O 30 0] σ (zq_rx (fun τ => zw_fs σ τ ∧ zw_r τ T (zw_nx T r))) := by
  unfold zw_nx
  by_cases hc : zw_cd r = 0
  · rw [if_pos hc]
    exact sp_M_step0 hT hw (hr.2.2.1.trans hc) hr.2.2.2.2.1 hr.1.2.1
  · rw [if_neg hc]
    obtain ⟨n, hn, hne⟩ := hr.2.1
    refine (sp_M_stepB ?_).mono (fun q τ h => ⟨h.1, ?_⟩)
    · rw [hr.2.2.1, hne]
      exact nI_lt (a := 0) (by rcases Nat.eq_zero_or_pos n with z | z; rw [z] at hne; exact absurd hne hc; exact z) (by omega)
    · rw [h.2]; exact ⟨zw_fs.rf, hr⟩
