theorem zl_out {w : Int32} (h0 : ¬ w = 0) (h1 : ¬ w = 1) (h2 : ¬ w = 2) (h3 : ¬ w = 3) (h4 : ¬ w = 4) (h5 : ¬ w = 5) (h6 : ¬ w = 6) (h7 : ¬ w = 7) (h8 : ¬ w = 8) (h9 : ¬ w = 9) (h10 : ¬ w = 10) (h11 : ¬ w = 11) (h12 : ¬ w = 12) (h13 : ¬ w = 13) (h14 : ¬ w = 14) (h15 : ¬ w = 15) (h16 : ¬ w = 16) (h17 : ¬ w = 17) (h18 : ¬ w = 18) (h19 : ¬ w = 19) (h20 : ¬ w = 20) (h21 : ¬ w = 21) (h22 : ¬ w = 22) (h23 : ¬ w = 23) (h24 : ¬ w = 24) (h25 : ¬ w = 25) (h26 : ¬ w = 26) (h27 : ¬ w = 27) (h28 : ¬ w = 28) (h29 : ¬ w = 29) (h30 : ¬ w = 30) (h31 : ¬ w = 31) (h32 : ¬ w = 32) (h33 : ¬ w = 33) (h34 : ¬ w = 34) (h35 : ¬ w = 35) (h36 : ¬ w = 36) (h37 : ¬ w = 37) : w.toInt < 0 ∨ 37 < w.toInt := by
  rcases Int.lt_or_le w.toInt 0 with h | h
  · exact Or.inl h
  · rcases Int.lt_or_le 37 w.toInt with q | q
    · exact Or.inr q
    · exfalso
      obtain ⟨n, hn, hw⟩ : ∃ n : Nat, n < 38 ∧ w = nI n := ⟨w.toInt.toNat, by omega, Int32.toInt_inj.mp (by rw [nI_toInt (by omega)]; omega)⟩
      rcases Nat.eq_zero_or_pos (n - 0 + (0 - n)) with e0 | e0
      · have e : n = 0 := by omega
        subst e
        exact h0 hw
      rcases Nat.eq_zero_or_pos (n - 1 + (1 - n)) with e1 | e1
      · have e : n = 1 := by omega
        subst e
        exact h1 hw
      rcases Nat.eq_zero_or_pos (n - 2 + (2 - n)) with e2 | e2
      · have e : n = 2 := by omega
        subst e
        exact h2 hw
      rcases Nat.eq_zero_or_pos (n - 3 + (3 - n)) with e3 | e3
      · have e : n = 3 := by omega
        subst e
        exact h3 hw
      rcases Nat.eq_zero_or_pos (n - 4 + (4 - n)) with e4 | e4
      · have e : n = 4 := by omega
        subst e
        exact h4 hw
      rcases Nat.eq_zero_or_pos (n - 5 + (5 - n)) with e5 | e5
      · have e : n = 5 := by omega
        subst e
        exact h5 hw
      rcases Nat.eq_zero_or_pos (n - 6 + (6 - n)) with e6 | e6
      · have e : n = 6 := by omega
        subst e
        exact h6 hw
      rcases Nat.eq_zero_or_pos (n - 7 + (7 - n)) with e7 | e7
      · have e : n = 7 := by omega
        subst e
        exact h7 hw
      rcases Nat.eq_zero_or_pos (n - 8 + (8 - n)) with e8 | e8
      · have e : n = 8 := by omega
        subst e
        exact h8 hw
      rcases Nat.eq_zero_or_pos (n - 9 + (9 - n)) with e9 | e9
      · have e : n = 9 := by omega
        subst e
        exact h9 hw
      rcases Nat.eq_zero_or_pos (n - 10 + (10 - n)) with e10 | e10
      · have e : n = 10 := by omega
        subst e
        exact h10 hw
      rcases Nat.eq_zero_or_pos (n - 11 + (11 - n)) with e11 | e11
      · have e : n = 11 := by omega
        subst e
        exact h11 hw
      rcases Nat.eq_zero_or_pos (n - 12 + (12 - n)) with e12 | e12
      · have e : n = 12 := by omega
        subst e
        exact h12 hw
      rcases Nat.eq_zero_or_pos (n - 13 + (13 - n)) with e13 | e13
      · have e : n = 13 := by omega
        subst e
        exact h13 hw
      rcases Nat.eq_zero_or_pos (n - 14 + (14 - n)) with e14 | e14
      · have e : n = 14 := by omega
        subst e
        exact h14 hw
      rcases Nat.eq_zero_or_pos (n - 15 + (15 - n)) with e15 | e15
      · have e : n = 15 := by omega
        subst e
        exact h15 hw
      rcases Nat.eq_zero_or_pos (n - 16 + (16 - n)) with e16 | e16
      · have e : n = 16 := by omega
        subst e
        exact h16 hw
      rcases Nat.eq_zero_or_pos (n - 17 + (17 - n)) with e17 | e17
      · have e : n = 17 := by omega
        subst e
        exact h17 hw
      rcases Nat.eq_zero_or_pos (n - 18 + (18 - n)) with e18 | e18
      · have e : n = 18 := by omega
        subst e
        exact h18 hw
      rcases Nat.eq_zero_or_pos (n - 19 + (19 - n)) with e19 | e19
      · have e : n = 19 := by omega
        subst e
        exact h19 hw
      rcases Nat.eq_zero_or_pos (n - 20 + (20 - n)) with e20 | e20
      · have e : n = 20 := by omega
        subst e
        exact h20 hw
      rcases Nat.eq_zero_or_pos (n - 21 + (21 - n)) with e21 | e21
      · have e : n = 21 := by omega
        subst e
        exact h21 hw
      rcases Nat.eq_zero_or_pos (n - 22 + (22 - n)) with e22 | e22
      · have e : n = 22 := by omega
        subst e
        exact h22 hw
      rcases Nat.eq_zero_or_pos (n - 23 + (23 - n)) with e23 | e23
      · have e : n = 23 := by omega
        subst e
        exact h23 hw
      rcases Nat.eq_zero_or_pos (n - 24 + (24 - n)) with e24 | e24
      · have e : n = 24 := by omega
        subst e
        exact h24 hw
      rcases Nat.eq_zero_or_pos (n - 25 + (25 - n)) with e25 | e25
      · have e : n = 25 := by omega
        subst e
        exact h25 hw
      rcases Nat.eq_zero_or_pos (n - 26 + (26 - n)) with e26 | e26
      · have e : n = 26 := by omega
        subst e
        exact h26 hw
      rcases Nat.eq_zero_or_pos (n - 27 + (27 - n)) with e27 | e27
      · have e : n = 27 := by omega
        subst e
        exact h27 hw
      rcases Nat.eq_zero_or_pos (n - 28 + (28 - n)) with e28 | e28
      · have e : n = 28 := by omega
        subst e
        exact h28 hw
      rcases Nat.eq_zero_or_pos (n - 29 + (29 - n)) with e29 | e29
      · have e : n = 29 := by omega
        subst e
        exact h29 hw
      rcases Nat.eq_zero_or_pos (n - 30 + (30 - n)) with e30 | e30
      · have e : n = 30 := by omega
        subst e
        exact h30 hw
      rcases Nat.eq_zero_or_pos (n - 31 + (31 - n)) with e31 | e31
      · have e : n = 31 := by omega
        subst e
        exact h31 hw
      rcases Nat.eq_zero_or_pos (n - 32 + (32 - n)) with e32 | e32
      · have e : n = 32 := by omega
        subst e
        exact h32 hw
      rcases Nat.eq_zero_or_pos (n - 33 + (33 - n)) with e33 | e33
      · have e : n = 33 := by omega
        subst e
        exact h33 hw
      rcases Nat.eq_zero_or_pos (n - 34 + (34 - n)) with e34 | e34
      · have e : n = 34 := by omega
        subst e
        exact h34 hw
      rcases Nat.eq_zero_or_pos (n - 35 + (35 - n)) with e35 | e35
      · have e : n = 35 := by omega
        subst e
        exact h35 hw
      rcases Nat.eq_zero_or_pos (n - 36 + (36 - n)) with e36 | e36
      · have e : n = 36 := by omega
        subst e
        exact h36 hw
      rcases Nat.eq_zero_or_pos (n - 37 + (37 - n)) with e37 | e37
      · have e : n = 37 := by omega
        subst e
        exact h37 hw
      omega
set_option maxHeartbeats 4000000 in
theorem sl_loop {ν : zq_E} (hL : ν.2.2.2.2.2 ≤ 320) : ∀ (kf i : Nat) (σ : zq_T) (X : za_X), 400 - i < kf → i ≤ 320 → zl_at σ X → zq_G ν zm_L_law 15 zl_Q 18 (zl_ls i) [] σ := by
  intro kf
  induction kf with
  | zero => intro i σ X hkf; exact absurd hkf (Nat.not_lt_zero _)
  | succ kf ih =>
    intro i σ X hkf hi0 hA
    refine gq_iload_n dz_L_law_18 rfl ?_
    refine gq_aload_n dz_L_law_19 rfl ?_
    refine gq_slen dz_L_law_20 ?_
    refine gq_iconst (v := 5) dz_L_law_21 rfl ?_
    refine gq_isub dz_L_law_22 ?_
    refine gq_icmp_gt (tgt := 1332) dz_L_law_23 rfl (fun hgt => ?_) (fun hgt => ?_)
    · refine gq_iconst (v := 1) dz_L_law_1332 rfl ?_
      exact gw_iretP .boolean dz_L_law_1333 rfl (by first | rfl | exact zb_nar _) rfl trivial
    · have hi : i + 5 ≤ ν.2.2.2.2.2 := Decidable.byContradiction fun q => hgt ((zl_lp hL (by omega)).mpr q)
      have kk : ∀ τ Y, zl_at τ Y → zq_G ν zm_L_law 15 zl_Q 1326 (zl_ls i) [] τ := by
        intro τ Y hY
        refine gw_iinc 3 (c := 5) dz_L_law_1326 rfl rfl (Nat.le_of_ble_eq_true rfl) rfl ?_
        refine gq_goto (tgt := 18) dz_L_law_1329 rfl ?_
        have hk := ih (i + 5) τ Y (by omega) (by omega) hY
        have he : zl_ls (i + 5) = (zl_ls i).set 3 (some (zq_I (nI i + 5))) := by
          show [_, _, _, some (zq_I (nI (i + 5)))] = [_, _, _, some (zq_I (nI i + 5))]
          rw [← nI_add i 5]
          rfl
        rw [← he]
        exact hk
      refine gq_aload_n dz_L_law_26 rfl ?_
      refine gq_iload_n dz_L_law_27 rfl ?_
      refine gq_sld i rfl (by omega) (by omega) dz_L_law_28 ?_
      refine gq_bipush (v := 63) dz_L_law_29 rfl ?_
      refine gq_iand dz_L_law_31 ?_
      generalize ν.2.2.2.2.1 i &&& 63 = w
      by_cases h0 : w = 0
      · rw [h0]
        refine gq_tin (off := 168) (tgt := 200) dz_L_law_32 (by decide) (by decide) rfl rfl ?_
        exact sl_0 hL hi hA kk
      by_cases h1 : w = 1
      · rw [h1]
        refine gq_tin (off := 191) (tgt := 223) dz_L_law_32 (by decide) (by decide) rfl rfl ?_
        exact sl_1 hL hi hA kk
      by_cases h2 : w = 2
      · rw [h2]
        refine gq_tin (off := 214) (tgt := 246) dz_L_law_32 (by decide) (by decide) rfl rfl ?_
        exact sl_2 hL hi hA kk
      by_cases h3 : w = 3
      · rw [h3]
        refine gq_tin (off := 227) (tgt := 259) dz_L_law_32 (by decide) (by decide) rfl rfl ?_
        exact sl_3 hL hi hA kk
      by_cases h4 : w = 4
      · rw [h4]
        refine gq_tin (off := 240) (tgt := 272) dz_L_law_32 (by decide) (by decide) rfl rfl ?_
        exact sl_4 hL hi hA kk
      by_cases h5 : w = 5
      · rw [h5]
        refine gq_tin (off := 263) (tgt := 295) dz_L_law_32 (by decide) (by decide) rfl rfl ?_
        exact sl_5 hL hi hA kk
      by_cases h6 : w = 6
      · rw [h6]
        refine gq_tin (off := 296) (tgt := 328) dz_L_law_32 (by decide) (by decide) rfl rfl ?_
        exact sl_6 hL hi hA kk
      by_cases h7 : w = 7
      · rw [h7]
        refine gq_tin (off := 319) (tgt := 351) dz_L_law_32 (by decide) (by decide) rfl rfl ?_
        exact sl_7 hL hi hA kk
      by_cases h8 : w = 8
      · rw [h8]
        refine gq_tin (off := 352) (tgt := 384) dz_L_law_32 (by decide) (by decide) rfl rfl ?_
        exact sl_8 hL hi hA kk
      by_cases h9 : w = 9
      · rw [h9]
        refine gq_tin (off := 375) (tgt := 407) dz_L_law_32 (by decide) (by decide) rfl rfl ?_
        exact sl_9 hL hi hA kk
      by_cases h10 : w = 10
      · rw [h10]
        refine gq_tin (off := 398) (tgt := 430) dz_L_law_32 (by decide) (by decide) rfl rfl ?_
        exact sl_10 hL hi hA kk
      by_cases h11 : w = 11
      · rw [h11]
        refine gq_tin (off := 421) (tgt := 453) dz_L_law_32 (by decide) (by decide) rfl rfl ?_
        exact sl_11 hL hi hA kk
      by_cases h12 : w = 12
      · rw [h12]
        refine gq_tin (off := 444) (tgt := 476) dz_L_law_32 (by decide) (by decide) rfl rfl ?_
        exact sl_12 hL hi hA kk
      by_cases h13 : w = 13
      · rw [h13]
        refine gq_tin (off := 477) (tgt := 509) dz_L_law_32 (by decide) (by decide) rfl rfl ?_
        exact sl_13 hL hi hA kk
      by_cases h14 : w = 14
      · rw [h14]
        refine gq_tin (off := 510) (tgt := 542) dz_L_law_32 (by decide) (by decide) rfl rfl ?_
        exact sl_14 hL hi hA kk
      by_cases h15 : w = 15
      · rw [h15]
        refine gq_tin (off := 543) (tgt := 575) dz_L_law_32 (by decide) (by decide) rfl rfl ?_
        exact sl_15 hL hi hA kk
      by_cases h16 : w = 16
      · rw [h16]
        refine gq_tin (off := 576) (tgt := 608) dz_L_law_32 (by decide) (by decide) rfl rfl ?_
        exact sl_16 hL hi hA kk
      by_cases h17 : w = 17
      · rw [h17]
        refine gq_tin (off := 609) (tgt := 641) dz_L_law_32 (by decide) (by decide) rfl rfl ?_
        exact sl_17 hL hi hA kk
      by_cases h18 : w = 18
      · rw [h18]
        refine gq_tin (off := 662) (tgt := 694) dz_L_law_32 (by decide) (by decide) rfl rfl ?_
        exact sl_18 hL hi hA kk
      by_cases h19 : w = 19
      · rw [h19]
        refine gq_tin (off := 685) (tgt := 717) dz_L_law_32 (by decide) (by decide) rfl rfl ?_
        exact sl_19 hL hi hA kk
      by_cases h20 : w = 20
      · rw [h20]
        refine gq_tin (off := 708) (tgt := 740) dz_L_law_32 (by decide) (by decide) rfl rfl ?_
        exact sl_20 hL hi hA kk
      by_cases h21 : w = 21
      · rw [h21]
        refine gq_tin (off := 731) (tgt := 763) dz_L_law_32 (by decide) (by decide) rfl rfl ?_
        exact sl_21 hL hi hA kk
      by_cases h22 : w = 22
      · rw [h22]
        refine gq_tin (off := 754) (tgt := 786) dz_L_law_32 (by decide) (by decide) rfl rfl ?_
        exact sl_22 hL hi hA kk
      by_cases h23 : w = 23
      · rw [h23]
        refine gq_tin (off := 777) (tgt := 809) dz_L_law_32 (by decide) (by decide) rfl rfl ?_
        exact sl_23 hL hi hA kk
      by_cases h24 : w = 24
      · rw [h24]
        refine gq_tin (off := 810) (tgt := 842) dz_L_law_32 (by decide) (by decide) rfl rfl ?_
        exact sl_24 hL hi hA kk
      by_cases h25 : w = 25
      · rw [h25]
        refine gq_tin (off := 864) (tgt := 896) dz_L_law_32 (by decide) (by decide) rfl rfl ?_
        exact sl_25 hL hi hA kk
      by_cases h26 : w = 26
      · rw [h26]
        refine gq_tin (off := 897) (tgt := 929) dz_L_law_32 (by decide) (by decide) rfl rfl ?_
        exact sl_26 hL hi hA kk
      by_cases h27 : w = 27
      · rw [h27]
        refine gq_tin (off := 951) (tgt := 983) dz_L_law_32 (by decide) (by decide) rfl rfl ?_
        exact sl_27 hL hi hA kk
      by_cases h28 : w = 28
      · rw [h28]
        refine gq_tin (off := 984) (tgt := 1016) dz_L_law_32 (by decide) (by decide) rfl rfl ?_
        exact sl_28 hL hi hA kk
      by_cases h29 : w = 29
      · rw [h29]
        refine gq_tin (off := 1007) (tgt := 1039) dz_L_law_32 (by decide) (by decide) rfl rfl ?_
        exact sl_29 hL hi hA kk
      by_cases h30 : w = 30
      · rw [h30]
        refine gq_tin (off := 1030) (tgt := 1062) dz_L_law_32 (by decide) (by decide) rfl rfl ?_
        exact sl_30 hL hi hA kk
      by_cases h31 : w = 31
      · rw [h31]
        refine gq_tin (off := 1073) (tgt := 1105) dz_L_law_32 (by decide) (by decide) rfl rfl ?_
        exact sl_31 hL hi hA kk
      by_cases h32 : w = 32
      · rw [h32]
        refine gq_tin (off := 1096) (tgt := 1128) dz_L_law_32 (by decide) (by decide) rfl rfl ?_
        exact sl_32 hL hi hA kk
      by_cases h33 : w = 33
      · rw [h33]
        refine gq_tin (off := 1119) (tgt := 1151) dz_L_law_32 (by decide) (by decide) rfl rfl ?_
        exact sl_33 hL hi hA kk
      by_cases h34 : w = 34
      · rw [h34]
        refine gq_tin (off := 1162) (tgt := 1194) dz_L_law_32 (by decide) (by decide) rfl rfl ?_
        exact sl_34 hL hi hA kk
      by_cases h35 : w = 35
      · rw [h35]
        refine gq_tin (off := 1205) (tgt := 1237) dz_L_law_32 (by decide) (by decide) rfl rfl ?_
        exact sl_35 hL hi hA kk
      by_cases h36 : w = 36
      · rw [h36]
        refine gq_tin (off := 1258) (tgt := 1290) dz_L_law_32 (by decide) (by decide) rfl rfl ?_
        exact sl_36 hL hi hA kk
      by_cases h37 : w = 37
      · rw [h37]
        refine gq_tin (off := 1271) (tgt := 1303) dz_L_law_32 (by decide) (by decide) rfl rfl ?_
        exact sl_37 hL hi hA kk
      refine gq_tout (tgt := 1326) dz_L_law_32 (zl_out h0 h1 h2 h3 h4 h5 h6 h7 h8 h9 h10 h11 h12 h13 h14 h15 h16 h17 h18 h19 h20 h21 h22 h23 h24 h25 h26 h27 h28 h29 h30 h31 h32 h33 h34 h35 h36 h37) rfl ?_
      exact kk σ X hA
