/-! the constructor of ThirdSon -/
def zi_Sw (κ : Nat → ClassId) (a aP qP aE aH qH u v : Nat) (g0 g1 g2 : Nat → Nat) (r1 r2 r3 : Nat) (g3 g4 : Nat → Nat) : va_W := (a, .inr (4, [.ref aP, .ref aE, .ref aH, .ref (g0 10), .ref (g1 10), .ref (g2 10), .ref r1, .ref r2, .ref r3, .ref (g3 10), .ref (g4 10), .int 0, .int 0, .int 0, .int 0])) :: ((((((((((([] ++ zi_Pw κ aP qP) ++ zi_Ew aE) ++ zi_Hw κ aH qH u v) ++ zi_Dw κ g0) ++ zi_Dw κ g1) ++ zi_Dw κ g2) ++ [(r1, .inl (κ 1, 3, .inl zi_z))]) ++ [(r2, .inl (κ 1, 6, .inl zi_z))]) ++ [(r3, .inl (κ 1, 6, .inl zi_z))]) ++ zi_Dw κ g3) ++ zi_Dw κ g4)
set_option maxHeartbeats 4000000 in
theorem zi_S_init {D : va_G} {κ : Nat → ClassId} (a : Nat) : zi_Sp zm_S_init 2 69 695 D κ a [(a, .inr (4, [.null, .null, .null, .null, .null, .null, .null, .null, .null, .null, .null, .int 0, .int 0, .int 0, .int 0]))] (fun w => ∃ (aP qP aE aH qH u v : Nat) (g0 g1 g2 : Nat → Nat) (r1 r2 r3 : Nat) (g3 g4 : Nat → Nat), w = zi_Sw κ a aP qP aE aH qH u v g0 g1 g2 r1 r2 r3 g3 g4) := by
  refine zi_sp 115 (by decide +kernel) rfl (by decide) dz_S_init_115 (fun A => ?_)
  refine zi_aload 0 dz_S_init_0 rfl ?_
  refine zi_objI (by decide) zj_S dz_S_init_1 ?_
  refine zi_aload 0 dz_S_init_4 rfl ?_
  refine zi_new1 (ci := 2) (fs := [.null, .int 0, .int 0, .int 0, .int 0, .int 0]) rfl zq_in2 tyX2_ok zk_S_9 zo_P zi_P zi_fP (by decide) (by decide) dz_S_init_5 (fun q5 => ?_)
  refine zi_dup dz_S_init_8 rfl ?_
  refine zi_callN1 (zi_P_init q5) zi_mP (fun _ h => h.1) dz_S_init_9 (by decide) (by decide) (by decide) (Nat.le_of_ble_eq_true rfl) (fun w9 hw9 => ?_)
  obtain ⟨p9, rfl⟩ := hw9
  refine zi_putF zh_S_12 rfl rfl rfl rfl rfl dz_S_init_12 ?_
  dsimp only [List.set]
  refine zi_aload 0 dz_S_init_15 rfl ?_
  refine zi_new1 (ci := 3) (fs := [.int 0, .int 0, .int 0, .int 0]) rfl zq_in3 tyX3_ok zk_S_16 zo_E zi_E zi_fE (by decide) (by decide) dz_S_init_16 (fun q16 => ?_)
  refine zi_dup dz_S_init_19 rfl ?_
  refine zi_callN1 (zi_E_init q16) zi_mE (fun _ h => h.2.1) dz_S_init_20 (by decide) (by decide) (by decide) (Nat.le_of_ble_eq_true rfl) (fun w20 hw20 => ?_)
  obtain rfl := hw20
  refine zi_putF zh_S_19 rfl rfl rfl rfl rfl dz_S_init_23 ?_
  dsimp only [List.set]
  refine zi_aload 0 dz_S_init_26 rfl ?_
  refine zi_new1 (ci := 1) (fs := [.null, .null, .null]) rfl zq_in1 tyX1_ok zk_S_23 zo_H zi_H zi_fH (by decide) (by decide) dz_S_init_27 (fun q27 => ?_)
  refine zi_dup dz_S_init_30 rfl ?_
  refine zi_callN1 (zi_H_init q27) zi_mH (fun _ h => h.2.2.1) dz_S_init_31 (by decide) (by decide) (by decide) (Nat.le_of_ble_eq_true rfl) (fun w31 hw31 => ?_)
  obtain ⟨u31, v31, y31, rfl⟩ := hw31
  refine zi_putF zh_S_26 rfl rfl rfl rfl rfl dz_S_init_34 ?_
  dsimp only [List.set]
  refine zi_aload 0 dz_S_init_37 rfl ?_
  refine zi_new1 (ci := 0) (fs := [.int 0, .int 0, .int 0, .null, .null, .null, .null, .null, .null, .null, .null, .null, .null]) rfl zq_in0 tyX0_ok zk_S_30 zo_D zi_D zi_fD (by decide) (by decide) dz_S_init_38 (fun q38 => ?_)
  refine zi_dup dz_S_init_41 rfl ?_
  refine zi_callI1 (zi_D_init q38) zi_mD zl_S_32 dz_S_init_42 (by decide) (by decide) (by decide) (Nat.le_of_ble_eq_true rfl) (fun w42 hw42 => ?_)
  obtain ⟨g42, hg42, rfl⟩ := hw42
  subst hg42
  refine zi_putF zh_S_33 rfl rfl rfl rfl rfl dz_S_init_45 ?_
  dsimp only [List.set]
  refine zi_aload 0 dz_S_init_48 rfl ?_
  refine zi_new1 (ci := 0) (fs := [.int 0, .int 0, .int 0, .null, .null, .null, .null, .null, .null, .null, .null, .null, .null]) rfl zq_in0 tyX0_ok zk_S_30 zo_D zi_D zi_fD (by decide) (by decide) dz_S_init_49 (fun q49 => ?_)
  refine zi_dup dz_S_init_52 rfl ?_
  refine zi_callI1 (zi_D_init q49) zi_mD zl_S_32 dz_S_init_53 (by decide) (by decide) (by decide) (Nat.le_of_ble_eq_true rfl) (fun w53 hw53 => ?_)
  obtain ⟨g53, hg53, rfl⟩ := hw53
  subst hg53
  refine zi_putF zh_S_37 rfl rfl rfl rfl rfl dz_S_init_56 ?_
  dsimp only [List.set]
  refine zi_aload 0 dz_S_init_59 rfl ?_
  refine zi_new1 (ci := 0) (fs := [.int 0, .int 0, .int 0, .null, .null, .null, .null, .null, .null, .null, .null, .null, .null]) rfl zq_in0 tyX0_ok zk_S_30 zo_D zi_D zi_fD (by decide) (by decide) dz_S_init_60 (fun q60 => ?_)
  refine zi_dup dz_S_init_63 rfl ?_
  refine zi_callI1 (zi_D_init q60) zi_mD zl_S_32 dz_S_init_64 (by decide) (by decide) (by decide) (Nat.le_of_ble_eq_true rfl) (fun w64 hw64 => ?_)
  obtain ⟨g64, hg64, rfl⟩ := hw64
  subst hg64
  refine zi_putF zh_S_40 rfl rfl rfl rfl rfl dz_S_init_67 ?_
  dsimp only [List.set]
  refine zi_aload 0 dz_S_init_70 rfl ?_
  refine zi_iconst (v := 3) dz_S_init_71 rfl ?_
  refine zi_newa1 (ty := .int) (t0 := 0) (g := 1) (N' := 3) (a0 := (3, .inl zi_z)) zi_arrI rfl rfl (fun cA => rfl) rfl (by decide) (by decide) (by decide) (by decide) dz_S_init_72 (fun q72 => ?_)
  refine zi_putF zh_S_43 rfl rfl rfl rfl rfl dz_S_init_74 ?_
  dsimp only [List.set]
  refine zi_aload 0 dz_S_init_77 rfl ?_
  refine zi_bipush (v := 6) dz_S_init_78 rfl ?_
  refine zi_newa1 (ty := .int) (t0 := 0) (g := 1) (N' := 6) (a0 := (6, .inl zi_z)) zi_arrI rfl rfl (fun cA => rfl) rfl (by decide) (by decide) (by decide) (by decide) dz_S_init_80 (fun q80 => ?_)
  refine zi_putF zh_S_47 rfl rfl rfl rfl rfl dz_S_init_82 ?_
  dsimp only [List.set]
  refine zi_aload 0 dz_S_init_85 rfl ?_
  refine zi_bipush (v := 6) dz_S_init_86 rfl ?_
  refine zi_newa1 (ty := .int) (t0 := 0) (g := 1) (N' := 6) (a0 := (6, .inl zi_z)) zi_arrI rfl rfl (fun cA => rfl) rfl (by decide) (by decide) (by decide) (by decide) dz_S_init_88 (fun q88 => ?_)
  refine zi_putF zh_S_50 rfl rfl rfl rfl rfl dz_S_init_90 ?_
  dsimp only [List.set]
  refine zi_aload 0 dz_S_init_93 rfl ?_
  refine zi_new1 (ci := 0) (fs := [.int 0, .int 0, .int 0, .null, .null, .null, .null, .null, .null, .null, .null, .null, .null]) rfl zq_in0 tyX0_ok zk_S_30 zo_D zi_D zi_fD (by decide) (by decide) dz_S_init_94 (fun q94 => ?_)
  refine zi_dup dz_S_init_97 rfl ?_
  refine zi_callI1 (zi_D_init q94) zi_mD zl_S_32 dz_S_init_98 (by decide) (by decide) (by decide) (Nat.le_of_ble_eq_true rfl) (fun w98 hw98 => ?_)
  obtain ⟨g98, hg98, rfl⟩ := hw98
  subst hg98
  refine zi_putW zv_S_53 rfl rfl rfl rfl dz_S_init_101 ?_
  dsimp only [List.set]
  refine zi_aload 0 dz_S_init_104 rfl ?_
  refine zi_new1 (ci := 0) (fs := [.int 0, .int 0, .int 0, .null, .null, .null, .null, .null, .null, .null, .null, .null, .null]) rfl zq_in0 tyX0_ok zk_S_30 zo_D zi_D zi_fD (by decide) (by decide) dz_S_init_105 (fun q105 => ?_)
  refine zi_dup dz_S_init_108 rfl ?_
  refine zi_callI1 (zi_D_init q105) zi_mD zl_S_32 dz_S_init_109 (by decide) (by decide) (by decide) (Nat.le_of_ble_eq_true rfl) (fun w109 hw109 => ?_)
  obtain ⟨g109, hg109, rfl⟩ := hw109
  subst hg109
  refine zi_putW zv_S_56 rfl rfl rfl rfl dz_S_init_112 ?_
  dsimp only [List.set]
  exact zi_end (by decide) (by decide) (fun _ _ => ⟨q5, p9, q16, q27, u31, v31, y31, g42, g53, g64, q72, q80, q88, g98, g109, rfl⟩)
