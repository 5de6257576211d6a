def zn_bo (x : Int32) : Int32 := zf_sum (fun k => (x >>> (nI k &&& 31)) &&& 1) 6
theorem zn_bo_bc : ∀ f : Fin 64, zn_bo (nI f.val) = zs_bc (nI f.val) := by decide +kernel
theorem zn_bo_eq {f : Nat} (h : f < 64) : zn_bo (nI f) = zs_bc (nI f) := zn_bo_bc ⟨f, h⟩

set_option maxHeartbeats 4000000 in
theorem sp_M_bitsOf {σ : zq_T} (x : Int32) : zq_Sp zm_M_bitsOf 0 [zq_I x] σ (zq_rv (zq_I (zn_bo x)) σ) := by
  refine zq_sp [some (zq_I x), none, none] (by decide +kernel) rfl (Nat.le_of_ble_eq_true rfl) (fun ν => ?_)
  refine gq_iconst (v := 0) dz_M_bitsOf_0 rfl ?_
  refine gw_istore_n 1 dz_M_bitsOf_1 rfl (Nat.le_of_ble_eq_true rfl) rfl ?_
  dsimp only [List.set]
  refine gq_iconst (v := 0) dz_M_bitsOf_2 rfl ?_
  refine gw_istore_n 2 dz_M_bitsOf_3 rfl (Nat.le_of_ble_eq_true rfl) rfl ?_
  dsimp only [List.set]
  have L4 : ∀ (kf : Nat) (k : Nat) (hkf : 6 - k < kf) (hk : k ≤ 6), zq_G ν zm_M_bitsOf 0 (zq_rv (zq_I (zn_bo x)) σ) 4 [some (zq_I x), some (zq_I (zf_sum (fun k => (x >>> (nI k &&& 31)) &&& 1) k)), some (zq_I (nI k))] [] σ := by
    intro kf
    induction kf with
    | zero => intro k hkf hk; exact absurd hkf (Nat.not_lt_zero _)
    | succ kf ih4 =>
      intro k hkf hk
      refine gq_iload_n dz_M_bitsOf_4 rfl ?_
      refine gq_bipush (v := 6) dz_M_bitsOf_5 rfl ?_
      refine gq_icmp_ge (tgt := 24) dz_M_bitsOf_7 rfl (fun h7 => ?_) (fun h7 => ?_)
      · skip
        have hk6 : k = 6 := by have := (nI_leI (a := 6) (by omega) (by omega)).mp h7; omega
        refine gq_iload_n dz_M_bitsOf_24 rfl ?_
        refine gw_iret .int dz_M_bitsOf_25 rfl (by first | rfl | exact zb_nar _ | exact pk_nc _) ?_ ?_
        · rw [hk6]; rfl
        · rfl
      · skip
        have hk6 : k < 6 := (nI_ltI (b := 6) (by omega) (by omega)).mp (Int32.not_le.mp h7)
        refine gq_iload_n dz_M_bitsOf_10 rfl ?_
        refine gq_iload_n dz_M_bitsOf_11 rfl ?_
        refine gq_iload_n dz_M_bitsOf_12 rfl ?_
        refine gq_ishr dz_M_bitsOf_13 ?_
        refine gq_iconst (v := 1) dz_M_bitsOf_14 rfl ?_
        refine gq_iand dz_M_bitsOf_15 ?_
        refine gq_iadd dz_M_bitsOf_16 ?_
        refine gw_istore_n 1 dz_M_bitsOf_17 rfl (Nat.le_of_ble_eq_true rfl) rfl ?_
        dsimp only [List.set]
        refine gw_iinc 2 (c := 1) dz_M_bitsOf_18 rfl rfl (Nat.le_of_ble_eq_true rfl) rfl ?_
        dsimp only [List.set]
        refine gq_goto (tgt := 4) dz_M_bitsOf_21 rfl ?_
        simp only [nI_1]
        exact zq_fewer _ (zq_sub_spec (by repeat (first | exact trivial | exact rfl | refine And.intro ?_ ?_))) (ih4 (k + 1) (by omega) (by omega))
  exact zq_fewer _ (zq_sub_spec (by repeat (first | exact trivial | exact rfl | refine And.intro ?_ ?_))) (L4 7 0 (by omega) (by omega))
set_option maxHeartbeats 4000000 in
theorem sp_M_cases {σ : zq_T} {A : za_D} (hA : zn_rep σ A) : zq_Sp zm_M_cases 0 [zq_O 30 0] σ (zq_rv (zq_I (1 <<< (nI (za_n A) &&& 31))) σ) := by
  refine zq_sp [some (zq_O 30 0)] (by decide +kernel) rfl (Nat.le_of_ble_eq_true rfl) (fun ν => ?_)
  refine gq_iconst (v := 1) dz_M_cases_0 rfl ?_
  refine gq_aload_n dz_M_cases_1 rfl ?_
  refine gq_getI zf_M_158 rfl rfl dz_M_cases_2 ?_
  rw [zn_n hA]
  refine gq_ishl dz_M_cases_5 ?_
  refine gw_iret .int dz_M_cases_6 rfl (by first | rfl | exact zb_nar _ | exact pk_nc _) ?_ ?_
  · rfl
  · rfl
set_option maxHeartbeats 4000000 in
theorem sp_M_count {σ : zq_T} {X : za_X} (hS : zM_rep σ X) (hW : zx_wf X) (w : Int32) : zq_Sp zm_M_count 8 [zq_O 30 0, zq_I w] σ (zq_rv (zq_I (zx_count X w)) σ) := by
  have hA : zn_rep σ X.1 := hS.1
  have hw : za_wf X.1 := hW.1
  have hn6 := zn_n6 hA
  have hm5 := zn_m5 hA
  refine zq_sp [some (zq_O 30 0), some (zq_I w), none, none, none, none] (by decide +kernel) rfl (Nat.le_of_ble_eq_true rfl) (fun ν => ?_)
  refine gq_iconst (v := 0) dz_M_count_0 rfl ?_
  refine gw_istore_n 2 dz_M_count_1 rfl (Nat.le_of_ble_eq_true rfl) rfl ?_
  dsimp only [List.set]
  refine gq_iconst (v := 0) dz_M_count_2 rfl ?_
  refine gw_istore_n 3 dz_M_count_3 rfl (Nat.le_of_ble_eq_true rfl) rfl ?_
  dsimp only [List.set]
  refine gq_iconst (v := 0) dz_M_count_4 rfl ?_
  refine gw_istore 4 dz_M_count_5 (Nat.le_of_ble_eq_true rfl) rfl ?_
  dsimp only [List.set]
  refine gq_iconst (v := 0) dz_M_count_7 rfl ?_
  refine gw_istore 5 dz_M_count_8 (Nat.le_of_ble_eq_true rfl) rfl ?_
  dsimp only [List.set]
  have L10 : ∀ (kf : Nat) (k : Nat) (hkf : 4 - k < kf) (hk : k ≤ 4), zq_G ν zm_M_count 8 (zq_rv (zq_I (zx_count X w)) σ) 10 [some (zq_O 30 0), some (zq_I w), some (zq_I (nI (zf_ct (fun t => decide (¬ zs_own X.1 (nI t) (za_g X.1) 31 = -4)) k))), some (zq_I 0), some (zq_I 0), some (zq_I (nI k))] [] σ := by
    intro kf
    induction kf with
    | zero => intro k hkf hk; exact absurd hkf (Nat.not_lt_zero _)
    | succ kf ih10 =>
      intro k hkf hk
      refine gq_iload dz_M_count_10 rfl ?_
      refine gq_iconst (v := 4) dz_M_count_12 rfl ?_
      refine gq_icmp_ge (tgt := 48) dz_M_count_13 rfl (fun h13 => ?_) (fun h13 => ?_)
      · skip
        have hk4 : k = 4 := by have := (nI_leI (a := 4) (by omega) (by omega)).mp h13; omega
        subst hk4
        refine gq_iconst (v := 0) dz_M_count_48 rfl ?_
        refine gw_istore 5 dz_M_count_49 (Nat.le_of_ble_eq_true rfl) rfl ?_
        dsimp only [List.set]
        have L51 : ∀ (kf : Nat) (q : Nat) (hkf : za_n X.1 - q < kf) (hq : q ≤ za_n X.1), zq_G ν zm_M_count 8 (zq_rv (zq_I (zx_count X w)) σ) 51 [some (zq_O 30 0), some (zq_I w), some (zq_I (nI (zf_ct (fun t => decide (¬ zs_own X.1 (nI t) (za_g X.1) 31 = -4)) 4))), some (zq_I (zf_sum (fun p => zs_bc (za_fa X.1 p)) q)), some (zq_I (zf_sum (za_tr X.1) q)), some (zq_I (nI q))] [] σ := by
          intro kf
          induction kf with
          | zero => intro q hkf hq; exact absurd hkf (Nat.not_lt_zero _)
          | succ kf ih51 =>
            intro q hkf hq
            refine gq_iload dz_M_count_51 rfl ?_
            refine gq_aload_n dz_M_count_53 rfl ?_
            refine gq_getI zf_M_158 rfl rfl dz_M_count_54 ?_
            rw [zn_n hA]
            refine gq_icmp_ge (tgt := 94) dz_M_count_57 rfl (fun h57 => ?_) (fun h57 => ?_)
            · skip
              have hqn : q = za_n X.1 := by have := (nI_leI (by omega) (by omega)).mp h57; omega
              subst hqn
              refine gq_iload_n dz_M_count_94 rfl ?_
              by_cases hs95_0 : w = 0
              · rw [hs95_0]
                refine gq_tin (off := 41) (tgt := 136) dz_M_count_95 (by decide) (by decide) rfl rfl ?_
                refine gq_aload_n dz_M_count_136 rfl ?_
                refine gq_getI zf_M_164 rfl rfl dz_M_count_137 ?_
                rw [hS.2.2.1.2.2.1.1]
                refine gw_iret .int dz_M_count_140 rfl (by first | rfl | exact zb_nar _ | exact pk_nc _) ?_ ?_
                · rfl
                · rfl
              · skip
                by_cases hs95_1 : w = 1
                · rw [hs95_1]
                  refine gq_tin (off := 46) (tgt := 141) dz_M_count_95 (by decide) (by decide) rfl rfl ?_
                  refine gq_aload_n dz_M_count_141 rfl ?_
                  refine gq_getR 44 zf_M_50 rfl rfl dz_M_count_142 ?_
                  refine gq_iconst (v := 0) dz_M_count_145 rfl ?_
                  refine gw_zald (0) (rfl) rfl (rfl) (Nat.le_of_ble_eq_true rfl) (by omega) dz_M_count_146 ?_
                  rw [hS.2.2.1.2.2.2.1]
                  refine gw_ifb_eq (tgt := 154) dz_M_count_147 rfl (fun h147 => ?_) (fun h147 => ?_)
                  · skip
                    refine gq_iconst (v := 0) dz_M_count_154 rfl ?_
                    refine gq_aload_n dz_M_count_155 rfl ?_
                    refine gq_getR 44 zf_M_50 rfl rfl dz_M_count_156 ?_
                    refine gq_iconst (v := 1) dz_M_count_159 rfl ?_
                    refine gw_zald (1) (rfl) rfl (rfl) (Nat.le_of_ble_eq_true rfl) (by omega) dz_M_count_160 ?_
                    rw [hS.2.2.1.2.2.2.2]
                    refine gw_ifb_eq (tgt := 168) dz_M_count_161 rfl (fun h161 => ?_) (fun h161 => ?_)
                    · skip
                      refine gq_iconst (v := 0) dz_M_count_168 rfl ?_
                      refine gq_iadd dz_M_count_169 ?_
                      refine gw_iret .int dz_M_count_170 rfl (by first | rfl | exact zb_nar _ | exact pk_nc _) ?_ ?_
                      · show _ = zs_bc (nI (zx_kb X)); rw [zx_kb, h147, h161]; rfl
                      · rfl
                    · skip
                      refine gq_iconst (v := 1) dz_M_count_164 rfl ?_
                      refine gq_goto (tgt := 169) dz_M_count_165 rfl ?_
                      refine gq_iadd dz_M_count_169 ?_
                      refine gw_iret .int dz_M_count_170 rfl (by first | rfl | exact zb_nar _ | exact pk_nc _) ?_ ?_
                      · show _ = zs_bc (nI (zx_kb X)); rw [zx_kb, h147, h161]; rfl
                      · rfl
                  · skip
                    refine gq_iconst (v := 1) dz_M_count_150 rfl ?_
                    refine gq_goto (tgt := 155) dz_M_count_151 rfl ?_
                    refine gq_aload_n dz_M_count_155 rfl ?_
                    refine gq_getR 44 zf_M_50 rfl rfl dz_M_count_156 ?_
                    refine gq_iconst (v := 1) dz_M_count_159 rfl ?_
                    refine gw_zald (1) (rfl) rfl (rfl) (Nat.le_of_ble_eq_true rfl) (by omega) dz_M_count_160 ?_
                    rw [hS.2.2.1.2.2.2.2]
                    refine gw_ifb_eq (tgt := 168) dz_M_count_161 rfl (fun h161 => ?_) (fun h161 => ?_)
                    · skip
                      refine gq_iconst (v := 0) dz_M_count_168 rfl ?_
                      refine gq_iadd dz_M_count_169 ?_
                      refine gw_iret .int dz_M_count_170 rfl (by first | rfl | exact zb_nar _ | exact pk_nc _) ?_ ?_
                      · show _ = zs_bc (nI (zx_kb X)); rw [zx_kb, h147, h161]; rfl
                      · rfl
                    · skip
                      refine gq_iconst (v := 1) dz_M_count_164 rfl ?_
                      refine gq_goto (tgt := 169) dz_M_count_165 rfl ?_
                      refine gq_iadd dz_M_count_169 ?_
                      refine gw_iret .int dz_M_count_170 rfl (by first | rfl | exact zb_nar _ | exact pk_nc _) ?_ ?_
                      · show _ = zs_bc (nI (zx_kb X)); rw [zx_kb, h147, h161]; rfl
                      · rfl
                · skip
                  by_cases hs95_2 : w = 2
                  · rw [hs95_2]
                    refine gq_tin (off := 76) (tgt := 171) dz_M_count_95 (by decide) (by decide) rfl rfl ?_
                    refine gq_aload_n dz_M_count_171 rfl ?_
                    refine gq_getI zf_M_69 rfl rfl dz_M_count_172 ?_
                    rw [hS.2.2.1.1.1]
                    refine gw_iret .int dz_M_count_175 rfl (by first | rfl | exact zb_nar _ | exact pk_nc _) ?_ ?_
                    · rfl
                    · rfl
                  · skip
                    by_cases hs95_3 : w = 3
                    · rw [hs95_3]
                      refine gq_tin (off := 81) (tgt := 176) dz_M_count_95 (by decide) (by decide) rfl rfl ?_
                      refine gq_aload_n dz_M_count_176 rfl ?_
                      refine gq_getR 45 zf_M_54 rfl rfl dz_M_count_177 ?_
                      refine gq_iconst (v := 0) dz_M_count_180 rfl ?_
                      refine gw_iald (0) (rfl) rfl (rfl) (Nat.le_of_ble_eq_true rfl) (by omega) dz_M_count_181 ?_
                      rw [(hS.2.2.2.1.1 0 (by omega)).1]
                      refine gq_bipush (v := -4) dz_M_count_182 rfl ?_
                      refine gq_icmp_ne (tgt := 192) dz_M_count_184 rfl (fun h184 => ?_) (fun h184 => ?_)
                      · skip
                        refine gq_aload_n dz_M_count_192 rfl ?_
                        refine gq_getR 46 zf_M_57 rfl rfl dz_M_count_193 ?_
                        refine gq_iconst (v := 0) dz_M_count_196 rfl ?_
                        refine gw_iald (0) (rfl) rfl (rfl) (Nat.le_of_ble_eq_true rfl) (by omega) dz_M_count_197 ?_
                        rw [(hS.2.2.2.1.1 0 (by omega)).2]
                        refine gw_iret .int dz_M_count_198 rfl (by first | rfl | exact zb_nar _ | exact pk_nc _) ?_ ?_
                        · simp [zx_count, *]
                        · rfl
                      · skip
                        refine gq_bipush (v := -4) dz_M_count_187 rfl ?_
                        refine gq_goto (tgt := 198) dz_M_count_189 rfl ?_
                        refine gw_iret .int dz_M_count_198 rfl (by first | rfl | exact zb_nar _ | exact pk_nc _) ?_ ?_
                        · simp [zx_count, *]
                        · rfl
                    · skip
                      by_cases hs95_4 : w = 4
                      · rw [hs95_4]
                        refine gq_tin (off := 104) (tgt := 199) dz_M_count_95 (by decide) (by decide) rfl rfl ?_
                        refine gq_iload_n dz_M_count_199 rfl ?_
                        refine gw_iret .int dz_M_count_200 rfl (by first | rfl | exact zb_nar _ | exact pk_nc _) ?_ ?_
                        · rfl
                        · rfl
                      · skip
                        by_cases hs95_5 : w = 5
                        · rw [hs95_5]
                          refine gq_tin (off := 106) (tgt := 201) dz_M_count_95 (by decide) (by decide) rfl rfl ?_
                          refine gq_iload_n dz_M_count_201 rfl ?_
                          refine gw_iret .int dz_M_count_202 rfl (by first | rfl | exact zb_nar _ | exact pk_nc _) ?_ ?_
                          · rfl
                          · rfl
                        · skip
                          by_cases hs95_6 : w = 6
                          · rw [hs95_6]
                            refine gq_tin (off := 108) (tgt := 203) dz_M_count_95 (by decide) (by decide) rfl rfl ?_
                            refine gq_iload dz_M_count_203 rfl ?_
                            refine gw_iret .int dz_M_count_205 rfl (by first | rfl | exact zb_nar _ | exact pk_nc _) ?_ ?_
                            · rfl
                            · rfl
                          · skip
                            refine gq_tout (tgt := 206) dz_M_count_95 (by have := zq_ne hs95_0; have h_0 := zq_ne hs95_0; have h_1 := zq_ne hs95_1; have h_2 := zq_ne hs95_2; have h_3 := zq_ne hs95_3; have h_4 := zq_ne hs95_4; have h_5 := zq_ne hs95_5; have h_6 := zq_ne hs95_6; simp at *; omega) rfl ?_
                            refine gq_iconst (v := -1) dz_M_count_206 rfl ?_
                            refine gw_iret .int dz_M_count_207 rfl (by first | rfl | exact zb_nar _ | exact pk_nc _) ?_ ?_
                            · simp [zx_count, *]
                            · rfl
            · skip
              have hqn : q < za_n X.1 := by rcases Nat.lt_or_ge q (za_n X.1) with z | z; exact z; exact absurd (nI_le z (by omega)) h57
              obtain ⟨f, hf, hfe⟩ := (hw.1 q hqn).2.1
              refine gq_iload_n dz_M_count_60 rfl ?_
              refine gq_aload_n dz_M_count_61 rfl ?_
              refine gq_getR 31 zf_M_7 rfl rfl dz_M_count_62 ?_
              refine gq_iload dz_M_count_65 rfl ?_
              refine gw_iald (q) (rfl) rfl (rfl) (Nat.le_of_ble_eq_true rfl) (by omega) dz_M_count_67 ?_
              rw [zn_fa hA (by omega)]
              refine gq_cS (sp_M_bitsOf _) zw_M_bitsOf zl_M_257 dz_M_count_68 (by decide) rfl rfl (Nat.le_of_ble_eq_true rfl) ?_
              rw [hfe, zn_bo_eq (by omega), ← hfe]
              refine gq_iadd dz_M_count_71 ?_
              refine gw_istore_n 3 dz_M_count_72 rfl (Nat.le_of_ble_eq_true rfl) rfl ?_
              dsimp only [List.set]
              refine gq_iload dz_M_count_73 rfl ?_
              refine gq_aload_n dz_M_count_75 rfl ?_
              refine gq_getR 31 zf_M_7 rfl rfl dz_M_count_76 ?_
              refine gq_bipush (v := 6) dz_M_count_79 rfl ?_
              refine gq_iload dz_M_count_81 rfl ?_
              refine gq_iadd dz_M_count_83 ?_
              refine gw_iald (6 + q) (by rw [show (6 : Int32) = nI 6 from rfl, nI_add]) rfl (rfl) (Nat.le_of_ble_eq_true rfl) (by omega) dz_M_count_84 ?_
              rw [zn_tr hA (by omega)]
              refine gq_iadd dz_M_count_85 ?_
              refine gw_istore 4 dz_M_count_86 (Nat.le_of_ble_eq_true rfl) rfl ?_
              dsimp only [List.set]
              refine gw_iinc 5 (c := 1) dz_M_count_88 rfl rfl (Nat.le_of_ble_eq_true rfl) rfl ?_
              dsimp only [List.set]
              refine gq_goto (tgt := 51) dz_M_count_91 rfl ?_
              simp only [nI_1]
              exact zq_fewer _ (zq_sub_spec (by repeat (first | exact trivial | exact rfl | refine And.intro ?_ ?_))) (ih51 (q + 1) (by omega) (by omega))
        exact zq_fewer _ (zq_sub_spec (by repeat (first | exact trivial | exact rfl | refine And.intro ?_ ?_))) (L51 (za_n X.1 + 1) 0 (by omega) (by omega))
      · skip
        have hk4 : k < 4 := (nI_ltI (b := 4) (by omega) (by omega)).mp (Int32.not_le.mp h13)
        refine gq_iload_n dz_M_count_16 rfl ?_
        refine gq_aload_n dz_M_count_17 rfl ?_
        refine gq_iload dz_M_count_18 rfl ?_
        refine gq_aload_n dz_M_count_20 rfl ?_
        refine gq_getR 31 zf_M_7 rfl rfl dz_M_count_21 ?_
        refine gq_bipush (v := 12) dz_M_count_24 rfl ?_
        refine gw_iald (12) (rfl) rfl (rfl) (Nat.le_of_ble_eq_true rfl) (by omega) dz_M_count_26 ?_
        rw [zn_g hA]
        refine gq_cV (sp_M_ownerIn hA hw _ _) zw_M_ownerIn zl_M_220 dz_M_count_27 rfl rfl rfl (by decide) rfl rfl (Nat.le_of_ble_eq_true rfl) ?_
        refine gq_bipush (v := -4) dz_M_count_30 rfl ?_
        refine gq_icmp_ne (tgt := 39) dz_M_count_32 rfl (fun h32 => ?_) (fun h32 => ?_)
        · skip
          have hz : (fun t => decide (¬ zs_own X.1 (nI t) (za_g X.1) 31 = -4)) k = true := decide_eq_true h32
          refine gq_iconst (v := 1) dz_M_count_39 rfl ?_
          refine gq_iadd dz_M_count_40 ?_
          refine gw_istore_n 2 dz_M_count_41 rfl (Nat.le_of_ble_eq_true rfl) rfl ?_
          dsimp only [List.set]
          refine gw_iinc 5 (c := 1) dz_M_count_42 rfl rfl (Nat.le_of_ble_eq_true rfl) rfl ?_
          dsimp only [List.set]
          refine gq_goto (tgt := 10) dz_M_count_45 rfl ?_
          simp only [nI_1, Int32.add_zero]
          rw [← zf_ct_t (P := (fun t => decide (¬ zs_own X.1 (nI t) (za_g X.1) 31 = -4))) hz]
          exact zq_fewer _ (zq_sub_spec (by repeat (first | exact trivial | exact rfl | refine And.intro ?_ ?_))) (ih10 (k + 1) (by omega) (by omega))
        · skip
          have hz : (fun t => decide (¬ zs_own X.1 (nI t) (za_g X.1) 31 = -4)) k = false := decide_eq_false (fun y => y h32)
          refine gq_iconst (v := 0) dz_M_count_35 rfl ?_
          refine gq_goto (tgt := 40) dz_M_count_36 rfl ?_
          refine gq_iadd dz_M_count_40 ?_
          refine gw_istore_n 2 dz_M_count_41 rfl (Nat.le_of_ble_eq_true rfl) rfl ?_
          dsimp only [List.set]
          refine gw_iinc 5 (c := 1) dz_M_count_42 rfl rfl (Nat.le_of_ble_eq_true rfl) rfl ?_
          dsimp only [List.set]
          refine gq_goto (tgt := 10) dz_M_count_45 rfl ?_
          simp only [nI_1, Int32.add_zero]
          rw [← zf_ct_f (P := (fun t => decide (¬ zs_own X.1 (nI t) (za_g X.1) 31 = -4))) hz]
          exact zq_fewer _ (zq_sub_spec (by repeat (first | exact trivial | exact rfl | refine And.intro ?_ ?_))) (ih10 (k + 1) (by omega) (by omega))
  exact zq_fewer _ (zq_sub_spec (by repeat (first | exact trivial | exact rfl | refine And.intro ?_ ?_))) (L10 5 0 (by omega) (by omega))
