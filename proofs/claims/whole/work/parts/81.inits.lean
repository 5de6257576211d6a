/-! the constructors of Duchy, Tape, Teller, Sheets and the model -/
def zi_Dx (κ : Nat → ClassId) (g : Nat → Nat) (f13 f14 f15 : Nat → Int32) : va_W := [(g 10, .inr (0, [.int 0, .int 0, .int 0, .ref (g 11), .ref (g 12), .ref (g 13), .ref (g 14), .ref (g 15), .ref (g 16), .ref (g 17), .ref (g 18), .ref (g 19), .ref (g 20)])), (g 11, .inl (κ 1, 6, .inl zi_z)), (g 12, .inl (κ 1, 6, .inl zi_z)), (g 13, .inl (κ 1, 6, .inl f13)), (g 14, .inl (κ 1, 6, .inl f14)), (g 15, .inl (κ 1, 5, .inl f15)), (g 16, .inl (κ 1, 5, .inl zi_z)), (g 17, .inl (κ 1, 5, .inl zi_z)), (g 18, .inl (κ 1, 5, .inl zi_z)), (g 19, .inl (κ 1, 5, .inl zi_z)), (g 20, .inl (κ 1, 5, .inl zi_z))]
def zi_od : Nat → Int32 := upd (upd (upd (upd (upd zi_z 0 5) 1 5) 2 5) 3 5) 4 5
def zi_Dw (κ : Nat → ClassId) (g : Nat → Nat) : va_W := zi_Dx κ g zi_z zi_z zi_od
theorem zi_u0 (i : Nat) : upd zi_z i 0 = zi_z := funext fun j => by
  show (if j = i then (0 : Int32) else 0) = 0
  rw [ite_self]
set_option maxHeartbeats 4000000 in
theorem zi_D_clear {D : va_G} {κ : Nat → ClassId} (g : Nat → Nat) : zi_Sp zm_D_clear 0 0 0 D κ (g 10) (zi_Dx κ g zi_z zi_z zi_z) (fun w => w = zi_Dw κ g) := by
  refine zi_sp 63 (by decide +kernel) rfl (by decide) dz_D_clear_63 (fun A => ?_)
  refine zi_aload 0 dz_D_clear_0 rfl ?_
  refine zi_iconst (v := 0) dz_D_clear_1 rfl ?_
  refine zi_putW zv_D_45 rfl rfl rfl rfl dz_D_clear_2 ?_
  show zi_G _ _ _ _ _ _ _ _ _ _ _ _ _ _ (zi_Dx κ g zi_z zi_z (zi_z))
  refine zi_aload 0 dz_D_clear_5 rfl ?_
  refine zi_iconst (v := 0) dz_D_clear_6 rfl ?_
  refine zi_putW zv_D_49 rfl rfl rfl rfl dz_D_clear_7 ?_
  show zi_G _ _ _ _ _ _ _ _ _ _ _ _ _ _ (zi_Dx κ g zi_z zi_z (zi_z))
  refine zi_aload 0 dz_D_clear_10 rfl ?_
  refine zi_iconst (v := 0) dz_D_clear_11 rfl ?_
  refine zi_putW zv_D_52 rfl rfl rfl rfl dz_D_clear_12 ?_
  show zi_G _ _ _ _ _ _ _ _ _ _ _ _ _ _ (zi_Dx κ g zi_z zi_z (zi_z))
  refine zi_iconst (v := 0) dz_D_clear_15 rfl ?_
  refine zi_istore (ls' := [(1, .int 0), (0, .ref (g 10))]) dz_D_clear_16 (by decide) rfl ?_
  refine zi_iload 0 dz_D_clear_17 rfl ?_
  refine zi_bipush (v := 6) dz_D_clear_18 rfl ?_
  refine zi_ge (tgt := 43) dz_D_clear_20 rfl (fun hq => absurd hq (by decide)) (fun _ => ?_)
  refine zi_aload 1 dz_D_clear_23 rfl ?_
  refine zi_get zf_D_18 rfl rfl dz_D_clear_24 ?_
  refine zi_iload 0 dz_D_clear_27 rfl ?_
  refine zi_iconst (v := 0) dz_D_clear_28 rfl ?_
  refine zi_iastq 3 (a := g 13) (N := 6) (i := 0) rfl rfl (by decide) (by decide) dz_D_clear_29 ?_
  show zi_G _ _ _ _ _ _ _ _ _ _ _ _ _ _ (zi_Dx κ g (upd zi_z 0 0) zi_z (zi_z))
  rw [zi_u0]
  refine zi_aload 1 dz_D_clear_30 rfl ?_
  refine zi_get zf_D_21 rfl rfl dz_D_clear_31 ?_
  refine zi_iload 0 dz_D_clear_34 rfl ?_
  refine zi_iconst (v := 0) dz_D_clear_35 rfl ?_
  refine zi_iastq 4 (a := g 14) (N := 6) (i := 0) rfl rfl (by decide) (by decide) dz_D_clear_36 ?_
  show zi_G _ _ _ _ _ _ _ _ _ _ _ _ _ _ (zi_Dx κ g zi_z (upd zi_z 0 0) (zi_z))
  rw [zi_u0]
  refine zi_iinc (q := 0) (v := 1) (ls' := [(1, .int 1), (0, .ref (g 10))]) dz_D_clear_37 rfl (by decide) (by decide) rfl ?_
  refine zi_goto (tgt := 17) dz_D_clear_40 rfl ?_
  refine zi_iload 0 dz_D_clear_17 rfl ?_
  refine zi_bipush (v := 6) dz_D_clear_18 rfl ?_
  refine zi_ge (tgt := 43) dz_D_clear_20 rfl (fun hq => absurd hq (by decide)) (fun _ => ?_)
  refine zi_aload 1 dz_D_clear_23 rfl ?_
  refine zi_get zf_D_18 rfl rfl dz_D_clear_24 ?_
  refine zi_iload 0 dz_D_clear_27 rfl ?_
  refine zi_iconst (v := 0) dz_D_clear_28 rfl ?_
  refine zi_iastq 3 (a := g 13) (N := 6) (i := 1) rfl rfl (by decide) (by decide) dz_D_clear_29 ?_
  show zi_G _ _ _ _ _ _ _ _ _ _ _ _ _ _ (zi_Dx κ g (upd zi_z 1 0) zi_z (zi_z))
  rw [zi_u0]
  refine zi_aload 1 dz_D_clear_30 rfl ?_
  refine zi_get zf_D_21 rfl rfl dz_D_clear_31 ?_
  refine zi_iload 0 dz_D_clear_34 rfl ?_
  refine zi_iconst (v := 0) dz_D_clear_35 rfl ?_
  refine zi_iastq 4 (a := g 14) (N := 6) (i := 1) rfl rfl (by decide) (by decide) dz_D_clear_36 ?_
  show zi_G _ _ _ _ _ _ _ _ _ _ _ _ _ _ (zi_Dx κ g zi_z (upd zi_z 1 0) (zi_z))
  rw [zi_u0]
  refine zi_iinc (q := 0) (v := 2) (ls' := [(1, .int 2), (0, .ref (g 10))]) dz_D_clear_37 rfl (by decide) (by decide) rfl ?_
  refine zi_goto (tgt := 17) dz_D_clear_40 rfl ?_
  refine zi_iload 0 dz_D_clear_17 rfl ?_
  refine zi_bipush (v := 6) dz_D_clear_18 rfl ?_
  refine zi_ge (tgt := 43) dz_D_clear_20 rfl (fun hq => absurd hq (by decide)) (fun _ => ?_)
  refine zi_aload 1 dz_D_clear_23 rfl ?_
  refine zi_get zf_D_18 rfl rfl dz_D_clear_24 ?_
  refine zi_iload 0 dz_D_clear_27 rfl ?_
  refine zi_iconst (v := 0) dz_D_clear_28 rfl ?_
  refine zi_iastq 3 (a := g 13) (N := 6) (i := 2) rfl rfl (by decide) (by decide) dz_D_clear_29 ?_
  show zi_G _ _ _ _ _ _ _ _ _ _ _ _ _ _ (zi_Dx κ g (upd zi_z 2 0) zi_z (zi_z))
  rw [zi_u0]
  refine zi_aload 1 dz_D_clear_30 rfl ?_
  refine zi_get zf_D_21 rfl rfl dz_D_clear_31 ?_
  refine zi_iload 0 dz_D_clear_34 rfl ?_
  refine zi_iconst (v := 0) dz_D_clear_35 rfl ?_
  refine zi_iastq 4 (a := g 14) (N := 6) (i := 2) rfl rfl (by decide) (by decide) dz_D_clear_36 ?_
  show zi_G _ _ _ _ _ _ _ _ _ _ _ _ _ _ (zi_Dx κ g zi_z (upd zi_z 2 0) (zi_z))
  rw [zi_u0]
  refine zi_iinc (q := 0) (v := 3) (ls' := [(1, .int 3), (0, .ref (g 10))]) dz_D_clear_37 rfl (by decide) (by decide) rfl ?_
  refine zi_goto (tgt := 17) dz_D_clear_40 rfl ?_
  refine zi_iload 0 dz_D_clear_17 rfl ?_
  refine zi_bipush (v := 6) dz_D_clear_18 rfl ?_
  refine zi_ge (tgt := 43) dz_D_clear_20 rfl (fun hq => absurd hq (by decide)) (fun _ => ?_)
  refine zi_aload 1 dz_D_clear_23 rfl ?_
  refine zi_get zf_D_18 rfl rfl dz_D_clear_24 ?_
  refine zi_iload 0 dz_D_clear_27 rfl ?_
  refine zi_iconst (v := 0) dz_D_clear_28 rfl ?_
  refine zi_iastq 3 (a := g 13) (N := 6) (i := 3) rfl rfl (by decide) (by decide) dz_D_clear_29 ?_
  show zi_G _ _ _ _ _ _ _ _ _ _ _ _ _ _ (zi_Dx κ g (upd zi_z 3 0) zi_z (zi_z))
  rw [zi_u0]
  refine zi_aload 1 dz_D_clear_30 rfl ?_
  refine zi_get zf_D_21 rfl rfl dz_D_clear_31 ?_
  refine zi_iload 0 dz_D_clear_34 rfl ?_
  refine zi_iconst (v := 0) dz_D_clear_35 rfl ?_
  refine zi_iastq 4 (a := g 14) (N := 6) (i := 3) rfl rfl (by decide) (by decide) dz_D_clear_36 ?_
  show zi_G _ _ _ _ _ _ _ _ _ _ _ _ _ _ (zi_Dx κ g zi_z (upd zi_z 3 0) (zi_z))
  rw [zi_u0]
  refine zi_iinc (q := 0) (v := 4) (ls' := [(1, .int 4), (0, .ref (g 10))]) dz_D_clear_37 rfl (by decide) (by decide) rfl ?_
  refine zi_goto (tgt := 17) dz_D_clear_40 rfl ?_
  refine zi_iload 0 dz_D_clear_17 rfl ?_
  refine zi_bipush (v := 6) dz_D_clear_18 rfl ?_
  refine zi_ge (tgt := 43) dz_D_clear_20 rfl (fun hq => absurd hq (by decide)) (fun _ => ?_)
  refine zi_aload 1 dz_D_clear_23 rfl ?_
  refine zi_get zf_D_18 rfl rfl dz_D_clear_24 ?_
  refine zi_iload 0 dz_D_clear_27 rfl ?_
  refine zi_iconst (v := 0) dz_D_clear_28 rfl ?_
  refine zi_iastq 3 (a := g 13) (N := 6) (i := 4) rfl rfl (by decide) (by decide) dz_D_clear_29 ?_
  show zi_G _ _ _ _ _ _ _ _ _ _ _ _ _ _ (zi_Dx κ g (upd zi_z 4 0) zi_z (zi_z))
  rw [zi_u0]
  refine zi_aload 1 dz_D_clear_30 rfl ?_
  refine zi_get zf_D_21 rfl rfl dz_D_clear_31 ?_
  refine zi_iload 0 dz_D_clear_34 rfl ?_
  refine zi_iconst (v := 0) dz_D_clear_35 rfl ?_
  refine zi_iastq 4 (a := g 14) (N := 6) (i := 4) rfl rfl (by decide) (by decide) dz_D_clear_36 ?_
  show zi_G _ _ _ _ _ _ _ _ _ _ _ _ _ _ (zi_Dx κ g zi_z (upd zi_z 4 0) (zi_z))
  rw [zi_u0]
  refine zi_iinc (q := 0) (v := 5) (ls' := [(1, .int 5), (0, .ref (g 10))]) dz_D_clear_37 rfl (by decide) (by decide) rfl ?_
  refine zi_goto (tgt := 17) dz_D_clear_40 rfl ?_
  refine zi_iload 0 dz_D_clear_17 rfl ?_
  refine zi_bipush (v := 6) dz_D_clear_18 rfl ?_
  refine zi_ge (tgt := 43) dz_D_clear_20 rfl (fun hq => absurd hq (by decide)) (fun _ => ?_)
  refine zi_aload 1 dz_D_clear_23 rfl ?_
  refine zi_get zf_D_18 rfl rfl dz_D_clear_24 ?_
  refine zi_iload 0 dz_D_clear_27 rfl ?_
  refine zi_iconst (v := 0) dz_D_clear_28 rfl ?_
  refine zi_iastq 3 (a := g 13) (N := 6) (i := 5) rfl rfl (by decide) (by decide) dz_D_clear_29 ?_
  show zi_G _ _ _ _ _ _ _ _ _ _ _ _ _ _ (zi_Dx κ g (upd zi_z 5 0) zi_z (zi_z))
  rw [zi_u0]
  refine zi_aload 1 dz_D_clear_30 rfl ?_
  refine zi_get zf_D_21 rfl rfl dz_D_clear_31 ?_
  refine zi_iload 0 dz_D_clear_34 rfl ?_
  refine zi_iconst (v := 0) dz_D_clear_35 rfl ?_
  refine zi_iastq 4 (a := g 14) (N := 6) (i := 5) rfl rfl (by decide) (by decide) dz_D_clear_36 ?_
  show zi_G _ _ _ _ _ _ _ _ _ _ _ _ _ _ (zi_Dx κ g zi_z (upd zi_z 5 0) (zi_z))
  rw [zi_u0]
  refine zi_iinc (q := 0) (v := 6) (ls' := [(1, .int 6), (0, .ref (g 10))]) dz_D_clear_37 rfl (by decide) (by decide) rfl ?_
  refine zi_goto (tgt := 17) dz_D_clear_40 rfl ?_
  refine zi_iload 0 dz_D_clear_17 rfl ?_
  refine zi_bipush (v := 6) dz_D_clear_18 rfl ?_
  refine zi_ge (tgt := 43) dz_D_clear_20 rfl (fun _ => ?_) (fun hq => absurd (by decide) hq)
  refine zi_iconst (v := 0) dz_D_clear_43 rfl ?_
  refine zi_istore (ls' := [(1, .int 0), (0, .ref (g 10))]) dz_D_clear_44 (by decide) rfl ?_
  refine zi_iload 0 dz_D_clear_45 rfl ?_
  refine zi_iconst (v := 5) dz_D_clear_46 rfl ?_
  refine zi_ge (tgt := 63) dz_D_clear_47 rfl (fun hq => absurd hq (by decide)) (fun _ => ?_)
  refine zi_aload 1 dz_D_clear_50 rfl ?_
  refine zi_get zf_D_24 rfl rfl dz_D_clear_51 ?_
  refine zi_iload 0 dz_D_clear_54 rfl ?_
  refine zi_iconst (v := 5) dz_D_clear_55 rfl ?_
  refine zi_iastq 5 (a := g 15) (N := 5) (i := 0) rfl rfl (by decide) (by decide) dz_D_clear_56 ?_
  show zi_G _ _ _ _ _ _ _ _ _ _ _ _ _ _ (zi_Dx κ g zi_z zi_z (upd zi_z 0 5))
  refine zi_iinc (q := 0) (v := 1) (ls' := [(1, .int 1), (0, .ref (g 10))]) dz_D_clear_57 rfl (by decide) (by decide) rfl ?_
  refine zi_goto (tgt := 45) dz_D_clear_60 rfl ?_
  refine zi_iload 0 dz_D_clear_45 rfl ?_
  refine zi_iconst (v := 5) dz_D_clear_46 rfl ?_
  refine zi_ge (tgt := 63) dz_D_clear_47 rfl (fun hq => absurd hq (by decide)) (fun _ => ?_)
  refine zi_aload 1 dz_D_clear_50 rfl ?_
  refine zi_get zf_D_24 rfl rfl dz_D_clear_51 ?_
  refine zi_iload 0 dz_D_clear_54 rfl ?_
  refine zi_iconst (v := 5) dz_D_clear_55 rfl ?_
  refine zi_iastq 5 (a := g 15) (N := 5) (i := 1) rfl rfl (by decide) (by decide) dz_D_clear_56 ?_
  show zi_G _ _ _ _ _ _ _ _ _ _ _ _ _ _ (zi_Dx κ g zi_z zi_z (upd (upd zi_z 0 5) 1 5))
  refine zi_iinc (q := 0) (v := 2) (ls' := [(1, .int 2), (0, .ref (g 10))]) dz_D_clear_57 rfl (by decide) (by decide) rfl ?_
  refine zi_goto (tgt := 45) dz_D_clear_60 rfl ?_
  refine zi_iload 0 dz_D_clear_45 rfl ?_
  refine zi_iconst (v := 5) dz_D_clear_46 rfl ?_
  refine zi_ge (tgt := 63) dz_D_clear_47 rfl (fun hq => absurd hq (by decide)) (fun _ => ?_)
  refine zi_aload 1 dz_D_clear_50 rfl ?_
  refine zi_get zf_D_24 rfl rfl dz_D_clear_51 ?_
  refine zi_iload 0 dz_D_clear_54 rfl ?_
  refine zi_iconst (v := 5) dz_D_clear_55 rfl ?_
  refine zi_iastq 5 (a := g 15) (N := 5) (i := 2) rfl rfl (by decide) (by decide) dz_D_clear_56 ?_
  show zi_G _ _ _ _ _ _ _ _ _ _ _ _ _ _ (zi_Dx κ g zi_z zi_z (upd (upd (upd zi_z 0 5) 1 5) 2 5))
  refine zi_iinc (q := 0) (v := 3) (ls' := [(1, .int 3), (0, .ref (g 10))]) dz_D_clear_57 rfl (by decide) (by decide) rfl ?_
  refine zi_goto (tgt := 45) dz_D_clear_60 rfl ?_
  refine zi_iload 0 dz_D_clear_45 rfl ?_
  refine zi_iconst (v := 5) dz_D_clear_46 rfl ?_
  refine zi_ge (tgt := 63) dz_D_clear_47 rfl (fun hq => absurd hq (by decide)) (fun _ => ?_)
  refine zi_aload 1 dz_D_clear_50 rfl ?_
  refine zi_get zf_D_24 rfl rfl dz_D_clear_51 ?_
  refine zi_iload 0 dz_D_clear_54 rfl ?_
  refine zi_iconst (v := 5) dz_D_clear_55 rfl ?_
  refine zi_iastq 5 (a := g 15) (N := 5) (i := 3) rfl rfl (by decide) (by decide) dz_D_clear_56 ?_
  show zi_G _ _ _ _ _ _ _ _ _ _ _ _ _ _ (zi_Dx κ g zi_z zi_z (upd (upd (upd (upd zi_z 0 5) 1 5) 2 5) 3 5))
  refine zi_iinc (q := 0) (v := 4) (ls' := [(1, .int 4), (0, .ref (g 10))]) dz_D_clear_57 rfl (by decide) (by decide) rfl ?_
  refine zi_goto (tgt := 45) dz_D_clear_60 rfl ?_
  refine zi_iload 0 dz_D_clear_45 rfl ?_
  refine zi_iconst (v := 5) dz_D_clear_46 rfl ?_
  refine zi_ge (tgt := 63) dz_D_clear_47 rfl (fun hq => absurd hq (by decide)) (fun _ => ?_)
  refine zi_aload 1 dz_D_clear_50 rfl ?_
  refine zi_get zf_D_24 rfl rfl dz_D_clear_51 ?_
  refine zi_iload 0 dz_D_clear_54 rfl ?_
  refine zi_iconst (v := 5) dz_D_clear_55 rfl ?_
  refine zi_iastq 5 (a := g 15) (N := 5) (i := 4) rfl rfl (by decide) (by decide) dz_D_clear_56 ?_
  show zi_G _ _ _ _ _ _ _ _ _ _ _ _ _ _ (zi_Dx κ g zi_z zi_z (upd (upd (upd (upd (upd zi_z 0 5) 1 5) 2 5) 3 5) 4 5))
  refine zi_iinc (q := 0) (v := 5) (ls' := [(1, .int 5), (0, .ref (g 10))]) dz_D_clear_57 rfl (by decide) (by decide) rfl ?_
  refine zi_goto (tgt := 45) dz_D_clear_60 rfl ?_
  refine zi_iload 0 dz_D_clear_45 rfl ?_
  refine zi_iconst (v := 5) dz_D_clear_46 rfl ?_
  refine zi_ge (tgt := 63) dz_D_clear_47 rfl (fun _ => ?_) (fun hq => absurd (by decide) hq)
  exact zi_end (by decide) (by decide) (fun _ _ => rfl)
set_option maxHeartbeats 4000000 in
theorem zi_D_init {D : va_G} {κ : Nat → ClassId} (a : Nat) : zi_Sp zm_D_init 1 10 54 D κ a [(a, .inr (0, [.int 0, .int 0, .int 0, .null, .null, .null, .null, .null, .null, .null, .null, .null, .null]))] (fun w => ∃ g : Nat → Nat, g 10 = a ∧ w = zi_Dw κ g) := by
  refine zi_sp 82 (by decide +kernel) rfl (by decide) dz_D_init_82 (fun A => ?_)
  refine zi_aload 0 dz_D_init_0 rfl ?_
  refine zi_objI (by decide) zj_D dz_D_init_1 ?_
  refine zi_aload 0 dz_D_init_4 rfl ?_
  refine zi_bipush (v := 6) dz_D_init_5 rfl ?_
  refine zi_newa1 (ty := .int) (t0 := 0) (g := 1) (N' := 6) (a0 := (6, .inl zi_z)) zi_arrI rfl rfl (fun cA => rfl) rfl (by decide) (by decide) (by decide) (by decide) dz_D_init_7 (fun q7 => ?_)
  refine zi_putF zh_D_9 rfl rfl rfl rfl rfl dz_D_init_9 ?_
  dsimp only [List.set]
  refine zi_aload 0 dz_D_init_12 rfl ?_
  refine zi_bipush (v := 6) dz_D_init_13 rfl ?_
  refine zi_newa1 (ty := .int) (t0 := 0) (g := 1) (N' := 6) (a0 := (6, .inl zi_z)) zi_arrI rfl rfl (fun cA => rfl) rfl (by decide) (by decide) (by decide) (by decide) dz_D_init_15 (fun q15 => ?_)
  refine zi_putF zh_D_15 rfl rfl rfl rfl rfl dz_D_init_17 ?_
  dsimp only [List.set]
  refine zi_aload 0 dz_D_init_20 rfl ?_
  refine zi_bipush (v := 6) dz_D_init_21 rfl ?_
  refine zi_newa1 (ty := .int) (t0 := 0) (g := 1) (N' := 6) (a0 := (6, .inl zi_z)) zi_arrI rfl rfl (fun cA => rfl) rfl (by decide) (by decide) (by decide) (by decide) dz_D_init_23 (fun q23 => ?_)
  refine zi_putF zh_D_18 rfl rfl rfl rfl rfl dz_D_init_25 ?_
  dsimp only [List.set]
  refine zi_aload 0 dz_D_init_28 rfl ?_
  refine zi_bipush (v := 6) dz_D_init_29 rfl ?_
  refine zi_newa1 (ty := .int) (t0 := 0) (g := 1) (N' := 6) (a0 := (6, .inl zi_z)) zi_arrI rfl rfl (fun cA => rfl) rfl (by decide) (by decide) (by decide) (by decide) dz_D_init_31 (fun q31 => ?_)
  refine zi_putF zh_D_21 rfl rfl rfl rfl rfl dz_D_init_33 ?_
  dsimp only [List.set]
  refine zi_aload 0 dz_D_init_36 rfl ?_
  refine zi_iconst (v := 5) dz_D_init_37 rfl ?_
  refine zi_newa1 (ty := .int) (t0 := 0) (g := 1) (N' := 5) (a0 := (5, .inl zi_z)) zi_arrI rfl rfl (fun cA => rfl) rfl (by decide) (by decide) (by decide) (by decide) dz_D_init_38 (fun q38 => ?_)
  refine zi_putF zh_D_24 rfl rfl rfl rfl rfl dz_D_init_40 ?_
  dsimp only [List.set]
  refine zi_aload 0 dz_D_init_43 rfl ?_
  refine zi_iconst (v := 5) dz_D_init_44 rfl ?_
  refine zi_newa1 (ty := .int) (t0 := 0) (g := 1) (N' := 5) (a0 := (5, .inl zi_z)) zi_arrI rfl rfl (fun cA => rfl) rfl (by decide) (by decide) (by decide) (by decide) dz_D_init_45 (fun q45 => ?_)
  refine zi_putF zh_D_27 rfl rfl rfl rfl rfl dz_D_init_47 ?_
  dsimp only [List.set]
  refine zi_aload 0 dz_D_init_50 rfl ?_
  refine zi_iconst (v := 5) dz_D_init_51 rfl ?_
  refine zi_newa1 (ty := .int) (t0 := 0) (g := 1) (N' := 5) (a0 := (5, .inl zi_z)) zi_arrI rfl rfl (fun cA => rfl) rfl (by decide) (by decide) (by decide) (by decide) dz_D_init_52 (fun q52 => ?_)
  refine zi_putF zh_D_30 rfl rfl rfl rfl rfl dz_D_init_54 ?_
  dsimp only [List.set]
  refine zi_aload 0 dz_D_init_57 rfl ?_
  refine zi_iconst (v := 5) dz_D_init_58 rfl ?_
  refine zi_newa1 (ty := .int) (t0 := 0) (g := 1) (N' := 5) (a0 := (5, .inl zi_z)) zi_arrI rfl rfl (fun cA => rfl) rfl (by decide) (by decide) (by decide) (by decide) dz_D_init_59 (fun q59 => ?_)
  refine zi_putF zh_D_33 rfl rfl rfl rfl rfl dz_D_init_61 ?_
  dsimp only [List.set]
  refine zi_aload 0 dz_D_init_64 rfl ?_
  refine zi_iconst (v := 5) dz_D_init_65 rfl ?_
  refine zi_newa1 (ty := .int) (t0 := 0) (g := 1) (N' := 5) (a0 := (5, .inl zi_z)) zi_arrI rfl rfl (fun cA => rfl) rfl (by decide) (by decide) (by decide) (by decide) dz_D_init_66 (fun q66 => ?_)
  refine zi_putF zh_D_36 rfl rfl rfl rfl rfl dz_D_init_68 ?_
  dsimp only [List.set]
  refine zi_aload 0 dz_D_init_71 rfl ?_
  refine zi_iconst (v := 5) dz_D_init_72 rfl ?_
  refine zi_newa1 (ty := .int) (t0 := 0) (g := 1) (N' := 5) (a0 := (5, .inl zi_z)) zi_arrI rfl rfl (fun cA => rfl) rfl (by decide) (by decide) (by decide) (by decide) dz_D_init_73 (fun q73 => ?_)
  refine zi_putF zh_D_39 rfl rfl rfl rfl rfl dz_D_init_75 ?_
  dsimp only [List.set]
  refine zi_aload 0 dz_D_init_78 rfl ?_
  refine zi_callV (zi_D_clear (fun t => ([a, q7, q15, q23, q31, q38, q45, q52, q59, q66, q73] : List Nat).getD (t - 10) 0)) zw_D_clear rfl (ci := 0) rfl rfl zl_D_42 dz_D_init_79 (by decide) (by decide) (by decide) (fun w79 hw79 => ?_)
  subst hw79
  exact zi_end (by decide) (by decide) (fun _ _ => ⟨(fun t => ([a, q7, q15, q23, q31, q38, q45, q52, q59, q66, q73] : List Nat).getD (t - 10) 0), rfl, rfl⟩)
def zi_Pw (κ : Nat → ClassId) (a q : Nat) : va_W := [(a, .inr (2, [.ref q, .int 0, .int 0, .int 0, .int 0, .int 0])), (q, .inl (κ 2, 160, .inl zi_z))]
set_option maxHeartbeats 4000000 in
theorem zi_P_init {D : va_G} {κ : Nat → ClassId} (a : Nat) : zi_Sp zm_P_init 1 1 160 D κ a [(a, .inr (2, [.null, .int 0, .int 0, .int 0, .int 0, .int 0]))] (fun w => ∃ q : Nat, w = zi_Pw κ a q) := by
  refine zi_sp 13 (by decide +kernel) rfl (by decide) dz_P_init_13 (fun A => ?_)
  refine zi_aload 0 dz_P_init_0 rfl ?_
  refine zi_objI (by decide) zj_P dz_P_init_1 ?_
  refine zi_aload 0 dz_P_init_4 rfl ?_
  refine zi_sipush (v := 160) dz_P_init_5 rfl ?_
  refine zi_newa1 (ty := .byte) (t0 := 1) (g := 2) (N' := 160) (a0 := (160, .inl zi_z)) zi_arrB rfl rfl (fun cA => rfl) rfl (by decide) (by decide) (by decide) (by decide) dz_P_init_8 (fun q8 => ?_)
  refine zi_putF zh_P_9 rfl rfl rfl rfl rfl dz_P_init_10 ?_
  dsimp only [List.set]
  exact zi_end (by decide) (by decide) (fun _ _ => ⟨q8, rfl⟩)
def zi_Ew (a : Nat) : va_W := [(a, .inr (3, [.int 0, .int 0, .int 0, .int 0]))]
set_option maxHeartbeats 4000000 in
theorem zi_E_init {D : va_G} {κ : Nat → ClassId} (a : Nat) : zi_Sp zm_E_init 1 0 0 D κ a [(a, .inr (3, [.int 0, .int 0, .int 0, .int 0]))] (fun w => w = zi_Ew a) := by
  refine zi_sp 4 (by decide +kernel) rfl (by decide) dz_E_init_4 (fun A => ?_)
  refine zi_aload 0 dz_E_init_0 rfl ?_
  refine zi_objI (by decide) zj_E dz_E_init_1 ?_
  exact zi_end (by decide) (by decide) (fun _ _ => rfl)
def zi_lan : Nat → Int32 := upd (upd (upd (upd zi_z 0 (-4)) 1 (-4)) 2 (-4)) 3 (-4)
def zi_Hw (κ : Nat → ClassId) (a q u v : Nat) : va_W := (a, .inr (1, [.ref q, .ref u, .ref v])) :: ((([] ++ zi_r5 κ q) ++ [(u, .inl (κ 1, 4, .inl zi_lan))]) ++ [(v, .inl (κ 1, 4, .inl zi_z))])
set_option maxHeartbeats 4000000 in
theorem zi_H_init {D : va_G} {κ : Nat → ClassId} (a : Nat) : zi_Sp zm_H_init 1 7 172 D κ a [(a, .inr (1, [.null, .null, .null]))] (fun w => ∃ q u v : Nat, w = zi_Hw κ a q u v) := by
  refine zi_sp 49 (by decide +kernel) rfl (by decide) dz_H_init_49 (fun A => ?_)
  refine zi_aload 0 dz_H_init_0 rfl ?_
  refine zi_objI (by decide) zj_H dz_H_init_1 ?_
  refine zi_aload 0 dz_H_init_4 rfl ?_
  refine zi_iconst (v := 4) dz_H_init_5 rfl ?_
  refine zi_bipush (v := 40) dz_H_init_6 rfl ?_
  refine zi_multi1 zk_H_11 dz_H_init_8 (by decide) (by decide) (fun q8 => ?_)
  refine zi_putF zh_H_13 rfl rfl rfl rfl rfl dz_H_init_12 ?_
  dsimp only [List.set]
  refine zi_aload 0 dz_H_init_15 rfl ?_
  refine zi_iconst (v := 4) dz_H_init_16 rfl ?_
  refine zi_newa1 (ty := .int) (t0 := 0) (g := 1) (N' := 4) (a0 := (4, .inl zi_z)) zi_arrI rfl rfl (fun cA => rfl) rfl (by decide) (by decide) (by decide) (by decide) dz_H_init_17 (fun q17 => ?_)
  refine zi_dup dz_H_init_19 rfl ?_
  refine zi_iconst (v := 0) dz_H_init_20 rfl ?_
  refine zi_bipush (v := -4) dz_H_init_21 rfl ?_
  refine zi_iast (i := 0) rfl (by decide) (by decide) dz_H_init_23 ?_
  refine zi_dup dz_H_init_24 rfl ?_
  refine zi_iconst (v := 1) dz_H_init_25 rfl ?_
  refine zi_bipush (v := -4) dz_H_init_26 rfl ?_
  refine zi_iast (i := 1) rfl (by decide) (by decide) dz_H_init_28 ?_
  refine zi_dup dz_H_init_29 rfl ?_
  refine zi_iconst (v := 2) dz_H_init_30 rfl ?_
  refine zi_bipush (v := -4) dz_H_init_31 rfl ?_
  refine zi_iast (i := 2) rfl (by decide) (by decide) dz_H_init_33 ?_
  refine zi_dup dz_H_init_34 rfl ?_
  refine zi_iconst (v := 3) dz_H_init_35 rfl ?_
  refine zi_bipush (v := -4) dz_H_init_36 rfl ?_
  refine zi_iast (i := 3) rfl (by decide) (by decide) dz_H_init_38 ?_
  refine zi_putF zh_H_16 rfl rfl rfl rfl rfl dz_H_init_39 ?_
  dsimp only [List.set]
  refine zi_aload 0 dz_H_init_42 rfl ?_
  refine zi_iconst (v := 4) dz_H_init_43 rfl ?_
  refine zi_newa1 (ty := .int) (t0 := 0) (g := 1) (N' := 4) (a0 := (4, .inl zi_z)) zi_arrI rfl rfl (fun cA => rfl) rfl (by decide) (by decide) (by decide) (by decide) dz_H_init_44 (fun q44 => ?_)
  refine zi_putF zh_H_20 rfl rfl rfl rfl rfl dz_H_init_46 ?_
  dsimp only [List.set]
  exact zi_end (by decide) (by decide) (fun _ _ => ⟨q8, q17, q44, rfl⟩)
def zi_F38 : Nat → Int32 := upd (upd (upd (upd (upd (upd (upd (upd (upd (upd (upd (upd (upd (upd zi_z 0 0) 1 3) 2 7) 3 11) 4 15) 5 19) 6 22) 7 26) 8 31) 9 34) 10 38) 11 43) 12 48) 13 52
def zi_F39 : Nat → Int32 := upd (upd (upd (upd (upd (upd (upd (upd (upd (upd (upd (upd (upd (upd (upd (upd (upd (upd (upd (upd (upd (upd (upd (upd (upd (upd (upd (upd (upd (upd (upd (upd (upd (upd (upd (upd (upd (upd (upd (upd (upd (upd (upd (upd (upd (upd (upd (upd (upd (upd (upd (upd zi_z 0 111) 1 110) 2 101) 3 102) 4 97) 5 99) 6 116) 7 103) 8 111) 9 110) 10 101) 11 111) 12 100) 13 100) 14 115) 15 114) 16 117) 17 108) 18 101) 19 97) 20 110) 21 121) 22 98) 23 111) 24 114) 25 110) 26 116) 27 114) 28 105) 29 101) 30 100) 31 107) 32 105) 33 110) 34 98) 35 97) 36 114) 37 101) 38 102) 39 105) 40 114) 41 115) 42 116) 43 116) 44 104) 45 105) 46 114) 47 100) 48 108) 49 97) 50 115) 51 116
def zi_F40 : Nat → Int32 := upd (upd (upd (upd (upd (upd zi_z 0 9) 1 6) 2 4) 3 3) 4 5) 5 5
def zi_Mw (κ : Nat → ClassId) (g : Nat → Nat) : va_W := [(g 30, .inr (5, [.ref (g 31), .ref (g 32), .ref (g 33), .int 0, .int 0, .ref (g 34), .ref (g 35), .ref (g 36), .int 0, .int 0, .int 0, .int 0, .ref (g 37), .int 0, .int 0, .int 0, .int 0, .int 0, .int 0, .int 0, .int 0, .ref (g 38), .ref (g 39), .ref (g 40), .ref (g 41), .int 0, .ref (g 42), .ref (g 43), .int 0, .ref (g 44), .ref (g 45), .ref (g 46), .ref (g 47), .int 0])), (g 31, .inl (κ 1, 112, .inl zi_z)), (g 32, .inl (κ 1, 6, .inl zi_z)), (g 33, .inl (κ 1, 15, .inl zi_z)), (g 34, .inl (κ 1, 28, .inl zi_z)), (g 35, .inl (κ 1, 6, .inl zi_z)), (g 36, .inl (κ 1, 15, .inl zi_z)), (g 37, .inl (κ 1, 160, .inl zi_z)), (g 38, .inl (κ 1, 14, .inl zi_F38)), (g 39, .inl (κ 1, 52, .inl zi_F39)), (g 40, .inl (κ 1, 6, .inl zi_F40)), (g 41, .inl (κ 1, 3, .inl zi_z)), (g 42, .inl (κ 3, 128, .inr (.inl (fun _ => 0)))), (g 43, .inl (κ 1, 12, .inl zi_z)), (g 44, .inl (κ 4, 2, .inl zi_z)), (g 45, .inl (κ 1, 4, .inl zi_lan)), (g 46, .inl (κ 1, 4, .inl zi_z)), (g 47, .inl (κ 1, 160, .inl zi_z))]
set_option maxHeartbeats 4000000 in
theorem zi_M_init {D : va_G} {κ : Nat → ClassId} (a : Nat) : zi_Sp zm_M_init 1 17 727 D κ a [(a, .inr (5, [.null, .null, .null, .int 0, .int 0, .null, .null, .null, .int 0, .int 0, .int 0, .int 0, .null, .int 0, .int 0, .int 0, .int 0, .int 0, .int 0, .int 0, .int 0, .null, .null, .null, .null, .int 0, .null, .null, .int 0, .null, .null, .null, .null, .int 0]))] (fun w => ∃ g : Nat → Nat, g 30 = a ∧ w = zi_Mw κ g) := by
  refine zi_sp 567 (by decide +kernel) rfl (by decide) dz_M_init_567 (fun A => ?_)
  refine zi_aload 0 dz_M_init_0 rfl ?_
  refine zi_objI (by decide) zj_M dz_M_init_1 ?_
  refine zi_aload 0 dz_M_init_4 rfl ?_
  refine zi_bipush (v := 112) dz_M_init_5 rfl ?_
  refine zi_newa1 (ty := .int) (t0 := 0) (g := 1) (N' := 112) (a0 := (112, .inl zi_z)) zi_arrI rfl rfl (fun cA => rfl) rfl (by decide) (by decide) (by decide) (by decide) dz_M_init_7 (fun q7 => ?_)
  refine zi_putF zh_M_7 rfl rfl rfl rfl rfl dz_M_init_9 ?_
  dsimp only [List.set]
  refine zi_aload 0 dz_M_init_12 rfl ?_
  refine zi_bipush (v := 6) dz_M_init_13 rfl ?_
  refine zi_newa1 (ty := .int) (t0 := 0) (g := 1) (N' := 6) (a0 := (6, .inl zi_z)) zi_arrI rfl rfl (fun cA => rfl) rfl (by decide) (by decide) (by decide) (by decide) dz_M_init_15 (fun q15 => ?_)
  refine zi_putF zh_M_13 rfl rfl rfl rfl rfl dz_M_init_17 ?_
  dsimp only [List.set]
  refine zi_aload 0 dz_M_init_20 rfl ?_
  refine zi_bipush (v := 15) dz_M_init_21 rfl ?_
  refine zi_newa1 (ty := .int) (t0 := 0) (g := 1) (N' := 15) (a0 := (15, .inl zi_z)) zi_arrI rfl rfl (fun cA => rfl) rfl (by decide) (by decide) (by decide) (by decide) dz_M_init_23 (fun q23 => ?_)
  refine zi_putF zh_M_16 rfl rfl rfl rfl rfl dz_M_init_25 ?_
  dsimp only [List.set]
  refine zi_aload 0 dz_M_init_28 rfl ?_
  refine zi_bipush (v := 28) dz_M_init_29 rfl ?_
  refine zi_newa1 (ty := .int) (t0 := 0) (g := 1) (N' := 28) (a0 := (28, .inl zi_z)) zi_arrI rfl rfl (fun cA => rfl) rfl (by decide) (by decide) (by decide) (by decide) dz_M_init_31 (fun q31 => ?_)
  refine zi_putF zh_M_19 rfl rfl rfl rfl rfl dz_M_init_33 ?_
  dsimp only [List.set]
  refine zi_aload 0 dz_M_init_36 rfl ?_
  refine zi_bipush (v := 6) dz_M_init_37 rfl ?_
  refine zi_newa1 (ty := .int) (t0 := 0) (g := 1) (N' := 6) (a0 := (6, .inl zi_z)) zi_arrI rfl rfl (fun cA => rfl) rfl (by decide) (by decide) (by decide) (by decide) dz_M_init_39 (fun q39 => ?_)
  refine zi_putF zh_M_22 rfl rfl rfl rfl rfl dz_M_init_41 ?_
  dsimp only [List.set]
  refine zi_aload 0 dz_M_init_44 rfl ?_
  refine zi_bipush (v := 15) dz_M_init_45 rfl ?_
  refine zi_newa1 (ty := .int) (t0 := 0) (g := 1) (N' := 15) (a0 := (15, .inl zi_z)) zi_arrI rfl rfl (fun cA => rfl) rfl (by decide) (by decide) (by decide) (by decide) dz_M_init_47 (fun q47 => ?_)
  refine zi_putF zh_M_25 rfl rfl rfl rfl rfl dz_M_init_49 ?_
  dsimp only [List.set]
  refine zi_aload 0 dz_M_init_52 rfl ?_
  refine zi_sipush (v := 160) dz_M_init_53 rfl ?_
  refine zi_newa1 (ty := .int) (t0 := 0) (g := 1) (N' := 160) (a0 := (160, .inl zi_z)) zi_arrI rfl rfl (fun cA => rfl) rfl (by decide) (by decide) (by decide) (by decide) dz_M_init_56 (fun q56 => ?_)
  refine zi_putF zh_M_28 rfl rfl rfl rfl rfl dz_M_init_58 ?_
  dsimp only [List.set]
  refine zi_aload 0 dz_M_init_61 rfl ?_
  refine zi_bipush (v := 14) dz_M_init_62 rfl ?_
  refine zi_newa1 (ty := .int) (t0 := 0) (g := 1) (N' := 14) (a0 := (14, .inl zi_z)) zi_arrI rfl rfl (fun cA => rfl) rfl (by decide) (by decide) (by decide) (by decide) dz_M_init_64 (fun q64 => ?_)
  refine zi_dup dz_M_init_66 rfl ?_
  refine zi_iconst (v := 0) dz_M_init_67 rfl ?_
  refine zi_iconst (v := 0) dz_M_init_68 rfl ?_
  refine zi_iast (i := 0) rfl (by decide) (by decide) dz_M_init_69 ?_
  refine zi_dup dz_M_init_70 rfl ?_
  refine zi_iconst (v := 1) dz_M_init_71 rfl ?_
  refine zi_iconst (v := 3) dz_M_init_72 rfl ?_
  refine zi_iast (i := 1) rfl (by decide) (by decide) dz_M_init_73 ?_
  refine zi_dup dz_M_init_74 rfl ?_
  refine zi_iconst (v := 2) dz_M_init_75 rfl ?_
  refine zi_bipush (v := 7) dz_M_init_76 rfl ?_
  refine zi_iast (i := 2) rfl (by decide) (by decide) dz_M_init_78 ?_
  refine zi_dup dz_M_init_79 rfl ?_
  refine zi_iconst (v := 3) dz_M_init_80 rfl ?_
  refine zi_bipush (v := 11) dz_M_init_81 rfl ?_
  refine zi_iast (i := 3) rfl (by decide) (by decide) dz_M_init_83 ?_
  refine zi_dup dz_M_init_84 rfl ?_
  refine zi_iconst (v := 4) dz_M_init_85 rfl ?_
  refine zi_bipush (v := 15) dz_M_init_86 rfl ?_
  refine zi_iast (i := 4) rfl (by decide) (by decide) dz_M_init_88 ?_
  refine zi_dup dz_M_init_89 rfl ?_
  refine zi_iconst (v := 5) dz_M_init_90 rfl ?_
  refine zi_bipush (v := 19) dz_M_init_91 rfl ?_
  refine zi_iast (i := 5) rfl (by decide) (by decide) dz_M_init_93 ?_
  refine zi_dup dz_M_init_94 rfl ?_
  refine zi_bipush (v := 6) dz_M_init_95 rfl ?_
  refine zi_bipush (v := 22) dz_M_init_97 rfl ?_
  refine zi_iast (i := 6) rfl (by decide) (by decide) dz_M_init_99 ?_
  refine zi_dup dz_M_init_100 rfl ?_
  refine zi_bipush (v := 7) dz_M_init_101 rfl ?_
  refine zi_bipush (v := 26) dz_M_init_103 rfl ?_
  refine zi_iast (i := 7) rfl (by decide) (by decide) dz_M_init_105 ?_
  refine zi_dup dz_M_init_106 rfl ?_
  refine zi_bipush (v := 8) dz_M_init_107 rfl ?_
  refine zi_bipush (v := 31) dz_M_init_109 rfl ?_
  refine zi_iast (i := 8) rfl (by decide) (by decide) dz_M_init_111 ?_
  refine zi_dup dz_M_init_112 rfl ?_
  refine zi_bipush (v := 9) dz_M_init_113 rfl ?_
  refine zi_bipush (v := 34) dz_M_init_115 rfl ?_
  refine zi_iast (i := 9) rfl (by decide) (by decide) dz_M_init_117 ?_
  refine zi_dup dz_M_init_118 rfl ?_
  refine zi_bipush (v := 10) dz_M_init_119 rfl ?_
  refine zi_bipush (v := 38) dz_M_init_121 rfl ?_
  refine zi_iast (i := 10) rfl (by decide) (by decide) dz_M_init_123 ?_
  refine zi_dup dz_M_init_124 rfl ?_
  refine zi_bipush (v := 11) dz_M_init_125 rfl ?_
  refine zi_bipush (v := 43) dz_M_init_127 rfl ?_
  refine zi_iast (i := 11) rfl (by decide) (by decide) dz_M_init_129 ?_
  refine zi_dup dz_M_init_130 rfl ?_
  refine zi_bipush (v := 12) dz_M_init_131 rfl ?_
  refine zi_bipush (v := 48) dz_M_init_133 rfl ?_
  refine zi_iast (i := 12) rfl (by decide) (by decide) dz_M_init_135 ?_
  refine zi_dup dz_M_init_136 rfl ?_
  refine zi_bipush (v := 13) dz_M_init_137 rfl ?_
  refine zi_bipush (v := 52) dz_M_init_139 rfl ?_
  refine zi_iast (i := 13) rfl (by decide) (by decide) dz_M_init_141 ?_
  refine zi_putF zh_M_31 rfl rfl rfl rfl rfl dz_M_init_142 ?_
  dsimp only [List.set]
  refine zi_aload 0 dz_M_init_145 rfl ?_
  refine zi_bipush (v := 52) dz_M_init_146 rfl ?_
  refine zi_newa1 (ty := .int) (t0 := 0) (g := 1) (N' := 52) (a0 := (52, .inl zi_z)) zi_arrI rfl rfl (fun cA => rfl) rfl (by decide) (by decide) (by decide) (by decide) dz_M_init_148 (fun q148 => ?_)
  refine zi_dup dz_M_init_150 rfl ?_
  refine zi_iconst (v := 0) dz_M_init_151 rfl ?_
  refine zi_bipush (v := 111) dz_M_init_152 rfl ?_
  refine zi_iast (i := 0) rfl (by decide) (by decide) dz_M_init_154 ?_
  refine zi_dup dz_M_init_155 rfl ?_
  refine zi_iconst (v := 1) dz_M_init_156 rfl ?_
  refine zi_bipush (v := 110) dz_M_init_157 rfl ?_
  refine zi_iast (i := 1) rfl (by decide) (by decide) dz_M_init_159 ?_
  refine zi_dup dz_M_init_160 rfl ?_
  refine zi_iconst (v := 2) dz_M_init_161 rfl ?_
  refine zi_bipush (v := 101) dz_M_init_162 rfl ?_
  refine zi_iast (i := 2) rfl (by decide) (by decide) dz_M_init_164 ?_
  refine zi_dup dz_M_init_165 rfl ?_
  refine zi_iconst (v := 3) dz_M_init_166 rfl ?_
  refine zi_bipush (v := 102) dz_M_init_167 rfl ?_
  refine zi_iast (i := 3) rfl (by decide) (by decide) dz_M_init_169 ?_
  refine zi_dup dz_M_init_170 rfl ?_
  refine zi_iconst (v := 4) dz_M_init_171 rfl ?_
  refine zi_bipush (v := 97) dz_M_init_172 rfl ?_
  refine zi_iast (i := 4) rfl (by decide) (by decide) dz_M_init_174 ?_
  refine zi_dup dz_M_init_175 rfl ?_
  refine zi_iconst (v := 5) dz_M_init_176 rfl ?_
  refine zi_bipush (v := 99) dz_M_init_177 rfl ?_
  refine zi_iast (i := 5) rfl (by decide) (by decide) dz_M_init_179 ?_
  refine zi_dup dz_M_init_180 rfl ?_
  refine zi_bipush (v := 6) dz_M_init_181 rfl ?_
  refine zi_bipush (v := 116) dz_M_init_183 rfl ?_
  refine zi_iast (i := 6) rfl (by decide) (by decide) dz_M_init_185 ?_
  refine zi_dup dz_M_init_186 rfl ?_
  refine zi_bipush (v := 7) dz_M_init_187 rfl ?_
  refine zi_bipush (v := 103) dz_M_init_189 rfl ?_
  refine zi_iast (i := 7) rfl (by decide) (by decide) dz_M_init_191 ?_
  refine zi_dup dz_M_init_192 rfl ?_
  refine zi_bipush (v := 8) dz_M_init_193 rfl ?_
  refine zi_bipush (v := 111) dz_M_init_195 rfl ?_
  refine zi_iast (i := 8) rfl (by decide) (by decide) dz_M_init_197 ?_
  refine zi_dup dz_M_init_198 rfl ?_
  refine zi_bipush (v := 9) dz_M_init_199 rfl ?_
  refine zi_bipush (v := 110) dz_M_init_201 rfl ?_
  refine zi_iast (i := 9) rfl (by decide) (by decide) dz_M_init_203 ?_
  refine zi_dup dz_M_init_204 rfl ?_
  refine zi_bipush (v := 10) dz_M_init_205 rfl ?_
  refine zi_bipush (v := 101) dz_M_init_207 rfl ?_
  refine zi_iast (i := 10) rfl (by decide) (by decide) dz_M_init_209 ?_
  refine zi_dup dz_M_init_210 rfl ?_
  refine zi_bipush (v := 11) dz_M_init_211 rfl ?_
  refine zi_bipush (v := 111) dz_M_init_213 rfl ?_
  refine zi_iast (i := 11) rfl (by decide) (by decide) dz_M_init_215 ?_
  refine zi_dup dz_M_init_216 rfl ?_
  refine zi_bipush (v := 12) dz_M_init_217 rfl ?_
  refine zi_bipush (v := 100) dz_M_init_219 rfl ?_
  refine zi_iast (i := 12) rfl (by decide) (by decide) dz_M_init_221 ?_
  refine zi_dup dz_M_init_222 rfl ?_
  refine zi_bipush (v := 13) dz_M_init_223 rfl ?_
  refine zi_bipush (v := 100) dz_M_init_225 rfl ?_
  refine zi_iast (i := 13) rfl (by decide) (by decide) dz_M_init_227 ?_
  refine zi_dup dz_M_init_228 rfl ?_
  refine zi_bipush (v := 14) dz_M_init_229 rfl ?_
  refine zi_bipush (v := 115) dz_M_init_231 rfl ?_
  refine zi_iast (i := 14) rfl (by decide) (by decide) dz_M_init_233 ?_
  refine zi_dup dz_M_init_234 rfl ?_
  refine zi_bipush (v := 15) dz_M_init_235 rfl ?_
  refine zi_bipush (v := 114) dz_M_init_237 rfl ?_
  refine zi_iast (i := 15) rfl (by decide) (by decide) dz_M_init_239 ?_
  refine zi_dup dz_M_init_240 rfl ?_
  refine zi_bipush (v := 16) dz_M_init_241 rfl ?_
  refine zi_bipush (v := 117) dz_M_init_243 rfl ?_
  refine zi_iast (i := 16) rfl (by decide) (by decide) dz_M_init_245 ?_
  refine zi_dup dz_M_init_246 rfl ?_
  refine zi_bipush (v := 17) dz_M_init_247 rfl ?_
  refine zi_bipush (v := 108) dz_M_init_249 rfl ?_
  refine zi_iast (i := 17) rfl (by decide) (by decide) dz_M_init_251 ?_
  refine zi_dup dz_M_init_252 rfl ?_
  refine zi_bipush (v := 18) dz_M_init_253 rfl ?_
  refine zi_bipush (v := 101) dz_M_init_255 rfl ?_
  refine zi_iast (i := 18) rfl (by decide) (by decide) dz_M_init_257 ?_
  refine zi_dup dz_M_init_258 rfl ?_
  refine zi_bipush (v := 19) dz_M_init_259 rfl ?_
  refine zi_bipush (v := 97) dz_M_init_261 rfl ?_
  refine zi_iast (i := 19) rfl (by decide) (by decide) dz_M_init_263 ?_
  refine zi_dup dz_M_init_264 rfl ?_
  refine zi_bipush (v := 20) dz_M_init_265 rfl ?_
  refine zi_bipush (v := 110) dz_M_init_267 rfl ?_
  refine zi_iast (i := 20) rfl (by decide) (by decide) dz_M_init_269 ?_
  refine zi_dup dz_M_init_270 rfl ?_
  refine zi_bipush (v := 21) dz_M_init_271 rfl ?_
  refine zi_bipush (v := 121) dz_M_init_273 rfl ?_
  refine zi_iast (i := 21) rfl (by decide) (by decide) dz_M_init_275 ?_
  refine zi_dup dz_M_init_276 rfl ?_
  refine zi_bipush (v := 22) dz_M_init_277 rfl ?_
  refine zi_bipush (v := 98) dz_M_init_279 rfl ?_
  refine zi_iast (i := 22) rfl (by decide) (by decide) dz_M_init_281 ?_
  refine zi_dup dz_M_init_282 rfl ?_
  refine zi_bipush (v := 23) dz_M_init_283 rfl ?_
  refine zi_bipush (v := 111) dz_M_init_285 rfl ?_
  refine zi_iast (i := 23) rfl (by decide) (by decide) dz_M_init_287 ?_
  refine zi_dup dz_M_init_288 rfl ?_
  refine zi_bipush (v := 24) dz_M_init_289 rfl ?_
  refine zi_bipush (v := 114) dz_M_init_291 rfl ?_
  refine zi_iast (i := 24) rfl (by decide) (by decide) dz_M_init_293 ?_
  refine zi_dup dz_M_init_294 rfl ?_
  refine zi_bipush (v := 25) dz_M_init_295 rfl ?_
  refine zi_bipush (v := 110) dz_M_init_297 rfl ?_
  refine zi_iast (i := 25) rfl (by decide) (by decide) dz_M_init_299 ?_
  refine zi_dup dz_M_init_300 rfl ?_
  refine zi_bipush (v := 26) dz_M_init_301 rfl ?_
  refine zi_bipush (v := 116) dz_M_init_303 rfl ?_
  refine zi_iast (i := 26) rfl (by decide) (by decide) dz_M_init_305 ?_
  refine zi_dup dz_M_init_306 rfl ?_
  refine zi_bipush (v := 27) dz_M_init_307 rfl ?_
  refine zi_bipush (v := 114) dz_M_init_309 rfl ?_
  refine zi_iast (i := 27) rfl (by decide) (by decide) dz_M_init_311 ?_
  refine zi_dup dz_M_init_312 rfl ?_
  refine zi_bipush (v := 28) dz_M_init_313 rfl ?_
  refine zi_bipush (v := 105) dz_M_init_315 rfl ?_
  refine zi_iast (i := 28) rfl (by decide) (by decide) dz_M_init_317 ?_
  refine zi_dup dz_M_init_318 rfl ?_
  refine zi_bipush (v := 29) dz_M_init_319 rfl ?_
  refine zi_bipush (v := 101) dz_M_init_321 rfl ?_
  refine zi_iast (i := 29) rfl (by decide) (by decide) dz_M_init_323 ?_
  refine zi_dup dz_M_init_324 rfl ?_
  refine zi_bipush (v := 30) dz_M_init_325 rfl ?_
  refine zi_bipush (v := 100) dz_M_init_327 rfl ?_
  refine zi_iast (i := 30) rfl (by decide) (by decide) dz_M_init_329 ?_
  refine zi_dup dz_M_init_330 rfl ?_
  refine zi_bipush (v := 31) dz_M_init_331 rfl ?_
  refine zi_bipush (v := 107) dz_M_init_333 rfl ?_
  refine zi_iast (i := 31) rfl (by decide) (by decide) dz_M_init_335 ?_
  refine zi_dup dz_M_init_336 rfl ?_
  refine zi_bipush (v := 32) dz_M_init_337 rfl ?_
  refine zi_bipush (v := 105) dz_M_init_339 rfl ?_
  refine zi_iast (i := 32) rfl (by decide) (by decide) dz_M_init_341 ?_
  refine zi_dup dz_M_init_342 rfl ?_
  refine zi_bipush (v := 33) dz_M_init_343 rfl ?_
  refine zi_bipush (v := 110) dz_M_init_345 rfl ?_
  refine zi_iast (i := 33) rfl (by decide) (by decide) dz_M_init_347 ?_
  refine zi_dup dz_M_init_348 rfl ?_
  refine zi_bipush (v := 34) dz_M_init_349 rfl ?_
  refine zi_bipush (v := 98) dz_M_init_351 rfl ?_
  refine zi_iast (i := 34) rfl (by decide) (by decide) dz_M_init_353 ?_
  refine zi_dup dz_M_init_354 rfl ?_
  refine zi_bipush (v := 35) dz_M_init_355 rfl ?_
  refine zi_bipush (v := 97) dz_M_init_357 rfl ?_
  refine zi_iast (i := 35) rfl (by decide) (by decide) dz_M_init_359 ?_
  refine zi_dup dz_M_init_360 rfl ?_
  refine zi_bipush (v := 36) dz_M_init_361 rfl ?_
  refine zi_bipush (v := 114) dz_M_init_363 rfl ?_
  refine zi_iast (i := 36) rfl (by decide) (by decide) dz_M_init_365 ?_
  refine zi_dup dz_M_init_366 rfl ?_
  refine zi_bipush (v := 37) dz_M_init_367 rfl ?_
  refine zi_bipush (v := 101) dz_M_init_369 rfl ?_
  refine zi_iast (i := 37) rfl (by decide) (by decide) dz_M_init_371 ?_
  refine zi_dup dz_M_init_372 rfl ?_
  refine zi_bipush (v := 38) dz_M_init_373 rfl ?_
  refine zi_bipush (v := 102) dz_M_init_375 rfl ?_
  refine zi_iast (i := 38) rfl (by decide) (by decide) dz_M_init_377 ?_
  refine zi_dup dz_M_init_378 rfl ?_
  refine zi_bipush (v := 39) dz_M_init_379 rfl ?_
  refine zi_bipush (v := 105) dz_M_init_381 rfl ?_
  refine zi_iast (i := 39) rfl (by decide) (by decide) dz_M_init_383 ?_
  refine zi_dup dz_M_init_384 rfl ?_
  refine zi_bipush (v := 40) dz_M_init_385 rfl ?_
  refine zi_bipush (v := 114) dz_M_init_387 rfl ?_
  refine zi_iast (i := 40) rfl (by decide) (by decide) dz_M_init_389 ?_
  refine zi_dup dz_M_init_390 rfl ?_
  refine zi_bipush (v := 41) dz_M_init_391 rfl ?_
  refine zi_bipush (v := 115) dz_M_init_393 rfl ?_
  refine zi_iast (i := 41) rfl (by decide) (by decide) dz_M_init_395 ?_
  refine zi_dup dz_M_init_396 rfl ?_
  refine zi_bipush (v := 42) dz_M_init_397 rfl ?_
  refine zi_bipush (v := 116) dz_M_init_399 rfl ?_
  refine zi_iast (i := 42) rfl (by decide) (by decide) dz_M_init_401 ?_
  refine zi_dup dz_M_init_402 rfl ?_
  refine zi_bipush (v := 43) dz_M_init_403 rfl ?_
  refine zi_bipush (v := 116) dz_M_init_405 rfl ?_
  refine zi_iast (i := 43) rfl (by decide) (by decide) dz_M_init_407 ?_
  refine zi_dup dz_M_init_408 rfl ?_
  refine zi_bipush (v := 44) dz_M_init_409 rfl ?_
  refine zi_bipush (v := 104) dz_M_init_411 rfl ?_
  refine zi_iast (i := 44) rfl (by decide) (by decide) dz_M_init_413 ?_
  refine zi_dup dz_M_init_414 rfl ?_
  refine zi_bipush (v := 45) dz_M_init_415 rfl ?_
  refine zi_bipush (v := 105) dz_M_init_417 rfl ?_
  refine zi_iast (i := 45) rfl (by decide) (by decide) dz_M_init_419 ?_
  refine zi_dup dz_M_init_420 rfl ?_
  refine zi_bipush (v := 46) dz_M_init_421 rfl ?_
  refine zi_bipush (v := 114) dz_M_init_423 rfl ?_
  refine zi_iast (i := 46) rfl (by decide) (by decide) dz_M_init_425 ?_
  refine zi_dup dz_M_init_426 rfl ?_
  refine zi_bipush (v := 47) dz_M_init_427 rfl ?_
  refine zi_bipush (v := 100) dz_M_init_429 rfl ?_
  refine zi_iast (i := 47) rfl (by decide) (by decide) dz_M_init_431 ?_
  refine zi_dup dz_M_init_432 rfl ?_
  refine zi_bipush (v := 48) dz_M_init_433 rfl ?_
  refine zi_bipush (v := 108) dz_M_init_435 rfl ?_
  refine zi_iast (i := 48) rfl (by decide) (by decide) dz_M_init_437 ?_
  refine zi_dup dz_M_init_438 rfl ?_
  refine zi_bipush (v := 49) dz_M_init_439 rfl ?_
  refine zi_bipush (v := 97) dz_M_init_441 rfl ?_
  refine zi_iast (i := 49) rfl (by decide) (by decide) dz_M_init_443 ?_
  refine zi_dup dz_M_init_444 rfl ?_
  refine zi_bipush (v := 50) dz_M_init_445 rfl ?_
  refine zi_bipush (v := 115) dz_M_init_447 rfl ?_
  refine zi_iast (i := 50) rfl (by decide) (by decide) dz_M_init_449 ?_
  refine zi_dup dz_M_init_450 rfl ?_
  refine zi_bipush (v := 51) dz_M_init_451 rfl ?_
  refine zi_bipush (v := 116) dz_M_init_453 rfl ?_
  refine zi_iast (i := 51) rfl (by decide) (by decide) dz_M_init_455 ?_
  refine zi_putF zh_M_34 rfl rfl rfl rfl rfl dz_M_init_456 ?_
  dsimp only [List.set]
  refine zi_aload 0 dz_M_init_459 rfl ?_
  refine zi_bipush (v := 6) dz_M_init_460 rfl ?_
  refine zi_newa1 (ty := .int) (t0 := 0) (g := 1) (N' := 6) (a0 := (6, .inl zi_z)) zi_arrI rfl rfl (fun cA => rfl) rfl (by decide) (by decide) (by decide) (by decide) dz_M_init_462 (fun q462 => ?_)
  refine zi_dup dz_M_init_464 rfl ?_
  refine zi_iconst (v := 0) dz_M_init_465 rfl ?_
  refine zi_bipush (v := 9) dz_M_init_466 rfl ?_
  refine zi_iast (i := 0) rfl (by decide) (by decide) dz_M_init_468 ?_
  refine zi_dup dz_M_init_469 rfl ?_
  refine zi_iconst (v := 1) dz_M_init_470 rfl ?_
  refine zi_bipush (v := 6) dz_M_init_471 rfl ?_
  refine zi_iast (i := 1) rfl (by decide) (by decide) dz_M_init_473 ?_
  refine zi_dup dz_M_init_474 rfl ?_
  refine zi_iconst (v := 2) dz_M_init_475 rfl ?_
  refine zi_iconst (v := 4) dz_M_init_476 rfl ?_
  refine zi_iast (i := 2) rfl (by decide) (by decide) dz_M_init_477 ?_
  refine zi_dup dz_M_init_478 rfl ?_
  refine zi_iconst (v := 3) dz_M_init_479 rfl ?_
  refine zi_iconst (v := 3) dz_M_init_480 rfl ?_
  refine zi_iast (i := 3) rfl (by decide) (by decide) dz_M_init_481 ?_
  refine zi_dup dz_M_init_482 rfl ?_
  refine zi_iconst (v := 4) dz_M_init_483 rfl ?_
  refine zi_iconst (v := 5) dz_M_init_484 rfl ?_
  refine zi_iast (i := 4) rfl (by decide) (by decide) dz_M_init_485 ?_
  refine zi_dup dz_M_init_486 rfl ?_
  refine zi_iconst (v := 5) dz_M_init_487 rfl ?_
  refine zi_iconst (v := 5) dz_M_init_488 rfl ?_
  refine zi_iast (i := 5) rfl (by decide) (by decide) dz_M_init_489 ?_
  refine zi_putF zh_M_37 rfl rfl rfl rfl rfl dz_M_init_490 ?_
  dsimp only [List.set]
  refine zi_aload 0 dz_M_init_493 rfl ?_
  refine zi_iconst (v := 3) dz_M_init_494 rfl ?_
  refine zi_newa1 (ty := .int) (t0 := 0) (g := 1) (N' := 3) (a0 := (3, .inl zi_z)) zi_arrI rfl rfl (fun cA => rfl) rfl (by decide) (by decide) (by decide) (by decide) dz_M_init_495 (fun q495 => ?_)
  refine zi_putF zh_M_40 rfl rfl rfl rfl rfl dz_M_init_497 ?_
  dsimp only [List.set]
  refine zi_aload 0 dz_M_init_500 rfl ?_
  refine zi_sipush (v := 128) dz_M_init_501 rfl ?_
  refine zi_newa1 (ty := .long) (t0 := 2) (g := 3) (N' := 128) (a0 := (128, .inr (.inl (fun _ => 0)))) zi_arrL rfl rfl (fun cA => rfl) rfl (by decide) (by decide) (by decide) (by decide) dz_M_init_504 (fun q504 => ?_)
  refine zi_putF zh_M_43 rfl rfl rfl rfl rfl dz_M_init_506 ?_
  dsimp only [List.set]
  refine zi_aload 0 dz_M_init_509 rfl ?_
  refine zi_bipush (v := 12) dz_M_init_510 rfl ?_
  refine zi_newa1 (ty := .int) (t0 := 0) (g := 1) (N' := 12) (a0 := (12, .inl zi_z)) zi_arrI rfl rfl (fun cA => rfl) rfl (by decide) (by decide) (by decide) (by decide) dz_M_init_512 (fun q512 => ?_)
  refine zi_putF zh_M_47 rfl rfl rfl rfl rfl dz_M_init_514 ?_
  dsimp only [List.set]
  refine zi_aload 0 dz_M_init_517 rfl ?_
  refine zi_iconst (v := 2) dz_M_init_518 rfl ?_
  refine zi_newa1 (ty := .boolean) (t0 := 3) (g := 4) (N' := 2) (a0 := (2, .inl zi_z)) zi_arrZ rfl rfl (fun cA => rfl) rfl (by decide) (by decide) (by decide) (by decide) dz_M_init_519 (fun q519 => ?_)
  refine zi_putF zh_M_50 rfl rfl rfl rfl rfl dz_M_init_521 ?_
  dsimp only [List.set]
  refine zi_aload 0 dz_M_init_524 rfl ?_
  refine zi_iconst (v := 4) dz_M_init_525 rfl ?_
  refine zi_newa1 (ty := .int) (t0 := 0) (g := 1) (N' := 4) (a0 := (4, .inl zi_z)) zi_arrI rfl rfl (fun cA => rfl) rfl (by decide) (by decide) (by decide) (by decide) dz_M_init_526 (fun q526 => ?_)
  refine zi_dup dz_M_init_528 rfl ?_
  refine zi_iconst (v := 0) dz_M_init_529 rfl ?_
  refine zi_bipush (v := -4) dz_M_init_530 rfl ?_
  refine zi_iast (i := 0) rfl (by decide) (by decide) dz_M_init_532 ?_
  refine zi_dup dz_M_init_533 rfl ?_
  refine zi_iconst (v := 1) dz_M_init_534 rfl ?_
  refine zi_bipush (v := -4) dz_M_init_535 rfl ?_
  refine zi_iast (i := 1) rfl (by decide) (by decide) dz_M_init_537 ?_
  refine zi_dup dz_M_init_538 rfl ?_
  refine zi_iconst (v := 2) dz_M_init_539 rfl ?_
  refine zi_bipush (v := -4) dz_M_init_540 rfl ?_
  refine zi_iast (i := 2) rfl (by decide) (by decide) dz_M_init_542 ?_
  refine zi_dup dz_M_init_543 rfl ?_
  refine zi_iconst (v := 3) dz_M_init_544 rfl ?_
  refine zi_bipush (v := -4) dz_M_init_545 rfl ?_
  refine zi_iast (i := 3) rfl (by decide) (by decide) dz_M_init_547 ?_
  refine zi_putF zh_M_54 rfl rfl rfl rfl rfl dz_M_init_548 ?_
  dsimp only [List.set]
  refine zi_aload 0 dz_M_init_551 rfl ?_
  refine zi_iconst (v := 4) dz_M_init_552 rfl ?_
  refine zi_newa1 (ty := .int) (t0 := 0) (g := 1) (N' := 4) (a0 := (4, .inl zi_z)) zi_arrI rfl rfl (fun cA => rfl) rfl (by decide) (by decide) (by decide) (by decide) dz_M_init_553 (fun q553 => ?_)
  refine zi_putF zh_M_57 rfl rfl rfl rfl rfl dz_M_init_555 ?_
  dsimp only [List.set]
  refine zi_aload 0 dz_M_init_558 rfl ?_
  refine zi_sipush (v := 160) dz_M_init_559 rfl ?_
  refine zi_newa1 (ty := .int) (t0 := 0) (g := 1) (N' := 160) (a0 := (160, .inl zi_z)) zi_arrI rfl rfl (fun cA => rfl) rfl (by decide) (by decide) (by decide) (by decide) dz_M_init_562 (fun q562 => ?_)
  refine zi_putF zh_M_60 rfl rfl rfl rfl rfl dz_M_init_564 ?_
  dsimp only [List.set]
  exact zi_end (by decide) (by decide) (fun _ _ => ⟨(fun t => ([a, q7, q15, q23, q31, q39, q47, q56, q64, q148, q462, q495, q504, q512, q519, q526, q553, q562] : List Nat).getD (t - 30) 0), rfl, rfl⟩)
