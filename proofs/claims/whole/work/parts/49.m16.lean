/-! ALL CASES, IN THE MODEL -/
theorem zn_Ball {A : za_D} {v : Int32} (h : ¬ v = -4) : zn_B A v = za_allp A v := by
  unfold zn_B za_allp
  congr 1
  funext k
  exact if_neg h
theorem zf_fo_congr {α : Type} {f g : Nat → α → α} {z : α} : ∀ {n : Nat}, (∀ a x, a < n → f a x = g a x) → zf_fo f z n = zf_fo g z n
  | 0, _ => rfl
  | n + 1, h => by rw [zf_fo, zf_fo, zf_fo_congr (fun a x ha => h a x (by omega)), h n _ (by omega)]
def zn_viaf (A : za_D) (p t : Int32) (a : Nat) (x : Int32) : Int32 := if zs_own A t (nI a) 31 = p then x ||| (1 <<< (zs_right A t (nI a) 31 &&& 31)) else x
theorem zn_wk1 {A : za_D} {q t a : Nat} {x : Int32} (hq : q < 6) (ht : t < 4) : zf_fo (zs_wk1 A (nI q) (nI t) a) x 4 = zn_viaf A (nI q) (nI t) a x := by
  have hq4 : ¬ nI q = -4 := fun z => nI_pos (show q < 2 ^ 31 by omega) (by rw [z]; decide)
  have ht4 : ¬ nI t = -4 := fun z => nI_pos (show t < 2 ^ 31 by omega) (by rw [z]; decide)
  have h1 : ∀ s y, s < 4 → ¬ s = t → zs_wk1 A (nI q) (nI t) a s y = y := by
    intro s y hs hst
    unfold zs_wk1
    split
    · rfl
    · rw [if_pos ⟨ht4, fun z => hst ((nI_eq (by omega) (by omega)).mp z)⟩]
  have h2 : ∀ y, zs_wk1 A (nI q) (nI t) a t y = zn_viaf A (nI q) (nI t) a y := by
    intro y
    unfold zs_wk1 zn_viaf zs_own
    by_cases h : zs_right A (nI t) (nI a) 31 = -4
    · rw [if_pos h, h]
      have h3 : ¬ zs_recvI A (-4) (nI a) = nI q := fun z => hq4 (z.symm.trans rfl)
      rw [if_neg h3]
    · rw [if_neg h, if_neg (fun z => z.2 rfl)]
      by_cases h3 : zs_recvI A (zs_right A (nI t) (nI a) 31) (nI a) = nI q
      · rw [if_neg (fun z => z.2 h3), if_pos h3]
      · rw [if_pos ⟨hq4, h3⟩, if_neg h3]
  have ht2 : t = 0 ∨ t = 1 ∨ t = 2 ∨ t = 3 := by omega
  show zs_wk1 A (nI q) (nI t) a 3 (zs_wk1 A (nI q) (nI t) a 2 (zs_wk1 A (nI q) (nI t) a 1 (zs_wk1 A (nI q) (nI t) a 0 x))) = _
  rcases ht2 with rfl | rfl | rfl | rfl
  · rw [h2, h1 1 _ (by omega) (by omega), h1 2 _ (by omega) (by omega), h1 3 _ (by omega) (by omega)]
  · rw [h1 0 _ (by omega) (by omega), h2, h1 2 _ (by omega) (by omega), h1 3 _ (by omega) (by omega)]
  · rw [h1 0 _ (by omega) (by omega), h1 1 _ (by omega) (by omega), h2, h1 3 _ (by omega) (by omega)]
  · rw [h1 0 _ (by omega) (by omega), h1 1 _ (by omega) (by omega), h1 2 _ (by omega) (by omega), h2]
theorem zn_via {A : za_D} {q t : Nat} (hq : q < 6) (ht : t < 4) : zs_wk A (nI q) (nI t) = zf_fo (zn_viaf A (nI q) (nI t)) 0 (za_N A) := zf_fo_congr fun a x _ => zn_wk1 hq ht

set_option maxHeartbeats 4000000 in
theorem sp_M_turn {σ : zq_T} {A : za_D} (hA : zn_rep σ A) (hw : za_wf A) (v t : Int32) : zq_Sp zm_M_turn 6 [zq_O 30 0, zq_I v, zq_I t] σ (zq_rv (zq_I (zx_turn A v t)) σ) := by
  have hn6 := zn_n6 hA
  have hm5 := zn_m5 hA
  refine zq_sp [some (zq_O 30 0), some (zq_I v), some (zq_I t), none] (by decide +kernel) rfl (Nat.le_of_ble_eq_true rfl) (fun ν => ?_)
  refine gq_iload_n dz_M_turn_0 rfl ?_
  refine gq_i2l dz_M_turn_1 ?_
  refine gq_lconst (v := 0) dz_M_turn_2 rfl ?_
  refine gq_ldc2 zl_M_241 dz_M_turn_3 ?_
  refine gq_cS (sp_M_in _ _ _) zw_M_in zl_M_65 dz_M_turn_6 (by decide) rfl rfl (Nat.le_of_ble_eq_true rfl) ?_
  refine gw_ifb_eq (tgt := 19) dz_M_turn_9 rfl (fun h9 => ?_) (fun h9 => ?_)
  · skip
    rw [zn_inc (n := 3) rfl (by omega)] at h9
    refine gq_iconst (v := -1) dz_M_turn_19 rfl ?_
    refine gw_iret .int dz_M_turn_20 rfl (by first | rfl | exact zb_nar _ | exact pk_nc _) ?_ ?_
    · rw [zx_turn, h9]; rfl
    · rfl
  · skip
    rw [zn_inc (n := 3) rfl (by omega)] at h9
    have hv4 : ¬ v = -4 := fun z => by rw [z] at h9; exact absurd h9 (by decide)
    have hB := zn_Ball (A := A) hv4
    refine gq_iload_n dz_M_turn_12 rfl ?_
    refine gq_cS (sp_M_isThing _) zw_M_isThing zl_M_217 dz_M_turn_13 (by decide) rfl rfl (Nat.le_of_ble_eq_true rfl) ?_
    refine gw_ifb_ne (tgt := 21) dz_M_turn_16 rfl (fun h16 => ?_) (fun h16 => ?_)
    · skip
      refine gq_aload_n dz_M_turn_21 rfl ?_
      refine gq_iload_n dz_M_turn_22 rfl ?_
      refine gq_aload_n dz_M_turn_23 rfl ?_
      refine gq_getR 31 zf_M_7 rfl rfl dz_M_turn_24 ?_
      refine gq_bipush (v := 12) dz_M_turn_27 rfl ?_
      refine gw_iald (12) (rfl) rfl (rfl) (Nat.le_of_ble_eq_true rfl) (by omega) dz_M_turn_29 ?_
      rw [zn_g hA]
      refine gq_bipush (v := 31) dz_M_turn_30 rfl ?_
      refine gq_iload_n dz_M_turn_32 rfl ?_
      refine gq_cV (sp_M_ruleBy hA hw _ _ _ v (Or.inr h9)) zw_M_ruleBy zl_M_193 dz_M_turn_33 rfl rfl rfl (by decide) rfl rfl (Nat.le_of_ble_eq_true rfl) ?_
      rw [hB]
      refine gw_istore_n 3 dz_M_turn_36 rfl (Nat.le_of_ble_eq_true rfl) rfl ?_
      dsimp only [List.set]
      refine gq_iload_n dz_M_turn_37 rfl ?_
      refine gq_bipush (v := -4) dz_M_turn_38 rfl ?_
      refine gq_icmp_ne (tgt := 48) dz_M_turn_40 rfl (fun h40 => ?_) (fun h40 => ?_)
      · skip
        obtain ⟨k, hk, he⟩ := zs_rt_lt h40
        have hk : k < za_m A := hk
        have he : zs_right (za_allp A v) t (za_g A) 31 = nI k := he
        rw [he]
        refine gq_aload_n dz_M_turn_48 rfl ?_
        refine gq_iload_n dz_M_turn_49 rfl ?_
        refine gq_aload_n dz_M_turn_50 rfl ?_
        refine gq_getR 31 zf_M_7 rfl rfl dz_M_turn_51 ?_
        refine gq_bipush (v := 12) dz_M_turn_54 rfl ?_
        refine gw_iald (12) (rfl) rfl (rfl) (Nat.le_of_ble_eq_true rfl) (by omega) dz_M_turn_56 ?_
        rw [zn_g hA]
        refine gq_iload_n dz_M_turn_57 rfl ?_
        refine gq_cV (sp_M_givesBy hA hw hk _ v h9) zw_M_givesBy zl_M_190 dz_M_turn_58 rfl rfl rfl (by decide) rfl rfl (Nat.le_of_ble_eq_true rfl) ?_
        refine gw_iret .int dz_M_turn_61 rfl (by first | rfl | exact zb_nar _ | exact pk_nc _) ?_ ?_
        · rw [zx_turn, h9, h16]; show _ = zs_own (za_allp A v) t (za_g A) 31; rw [zs_own, he, zs_recvI_nI (A := za_allp A v) hk]; rfl
        · rfl
      · skip
        refine gq_bipush (v := -4) dz_M_turn_43 rfl ?_
        refine gq_goto (tgt := 61) dz_M_turn_45 rfl ?_
        refine gw_iret .int dz_M_turn_61 rfl (by first | rfl | exact zb_nar _ | exact pk_nc _) ?_ ?_
        · rw [zx_turn, h9, h16]; show _ = zs_own (za_allp A v) t (za_g A) 31; rw [zs_own, h40]; rfl
        · rfl
    · skip
      refine gq_iconst (v := -1) dz_M_turn_19 rfl ?_
      refine gw_iret .int dz_M_turn_20 rfl (by first | rfl | exact zb_nar _ | exact pk_nc _) ?_ ?_
      · rw [zx_turn, h16, Bool.and_false]; rfl
      · rfl
set_option maxHeartbeats 4000000 in
theorem sp_M_who {σ : zq_T} {A : za_D} (hA : zn_rep σ A) (hw : za_wf A) (t : Int32) : zq_Sp zm_M_who 8 [zq_O 30 0, zq_I t] σ (zq_rv (zq_I (zx_who A t)) σ) := by
  have hn6 := zn_n6 hA
  have hm5 := zn_m5 hA
  have hN : za_N A ≤ 64 := za_N64 hn6
  refine zq_sp [some (zq_O 30 0), some (zq_I t), none, none, none] (by decide +kernel) rfl (Nat.le_of_ble_eq_true rfl) (fun ν => ?_)
  refine gq_iload_n dz_M_who_0 rfl ?_
  refine gq_cS (sp_M_isThing _) zw_M_isThing zl_M_217 dz_M_who_1 (by decide) rfl rfl (Nat.le_of_ble_eq_true rfl) ?_
  refine gw_ifb_ne (tgt := 9) dz_M_who_4 rfl (fun h4 => ?_) (fun h4 => ?_)
  · skip
    refine gq_iconst (v := 0) dz_M_who_9 rfl ?_
    refine gw_istore_n 2 dz_M_who_10 rfl (Nat.le_of_ble_eq_true rfl) rfl ?_
    dsimp only [List.set]
    refine gq_iconst (v := 0) dz_M_who_11 rfl ?_
    refine gw_istore_n 3 dz_M_who_12 rfl (Nat.le_of_ble_eq_true rfl) rfl ?_
    dsimp only [List.set]
    have L13 : ∀ (kf : Nat) (a : Nat) (v : Int32) (hkf : za_N A - a < kf) (ha : a ≤ za_N A) (hv : v = zf_fo (zs_whof A t) 0 a), zq_G ν zm_M_who 8 (zq_rv (zq_I (zx_who A t)) σ) 13 [some (zq_O 30 0), some (zq_I t), some (zq_I v), some (zq_I (nI a)), none] [] σ := by
      intro kf
      induction kf with
      | zero => intro a v hkf ha hv; exact absurd hkf (Nat.not_lt_zero _)
      | succ kf ih13 =>
        intro a v hkf ha hv
        refine gq_iload_n dz_M_who_13 rfl ?_
        refine gq_aload_n dz_M_who_14 rfl ?_
        refine gq_cV (sp_M_cases hA) zw_M_cases zl_M_254 dz_M_who_15 rfl rfl rfl (by decide) rfl rfl (Nat.le_of_ble_eq_true rfl) ?_
        rw [za_caN hn6]
        refine gq_icmp_ge (tgt := 53) dz_M_who_18 rfl (fun h18 => ?_) (fun h18 => ?_)
        · skip
          have ha2 : a = za_N A := by have := (nI_leI (by omega) (by omega)).mp h18; omega
          refine gq_iload_n dz_M_who_53 rfl ?_
          refine gw_iret .int dz_M_who_54 rfl (by first | rfl | exact zb_nar _ | exact pk_nc _) ?_ ?_
          · rw [zx_who, h4, hv, ha2]; rfl
          · rfl
        · skip
          have ha2 : a < za_N A := by rcases Nat.lt_or_ge a (za_N A) with z | z; exact z; exact absurd (nI_le z (by omega)) h18
          refine gq_aload_n dz_M_who_21 rfl ?_
          refine gq_iload_n dz_M_who_22 rfl ?_
          refine gq_iload_n dz_M_who_23 rfl ?_
          refine gq_cV (sp_M_ownerIn hA hw _ _) zw_M_ownerIn zl_M_220 dz_M_who_24 rfl rfl rfl (by decide) rfl rfl (Nat.le_of_ble_eq_true rfl) ?_
          refine gw_istore 4 dz_M_who_27 (Nat.le_of_ble_eq_true rfl) rfl ?_
          dsimp only [List.set]
          refine gq_iload_n dz_M_who_29 rfl ?_
          refine gq_iload dz_M_who_30 rfl ?_
          refine gq_bipush (v := -4) dz_M_who_32 rfl ?_
          refine gq_icmp_ne (tgt := 41) dz_M_who_34 rfl (fun h34 => ?_) (fun h34 => ?_)
          · skip
            refine gq_iconst (v := 1) dz_M_who_41 rfl ?_
            refine gq_iload dz_M_who_42 rfl ?_
            refine gq_ishl dz_M_who_44 ?_
            refine gq_ior dz_M_who_45 ?_
            refine gw_istore_n 2 dz_M_who_46 rfl (Nat.le_of_ble_eq_true rfl) rfl ?_
            dsimp only [List.set]
            refine gw_iinc 3 (c := 1) dz_M_who_47 rfl rfl (Nat.le_of_ble_eq_true rfl) rfl ?_
            dsimp only [List.set]
            refine gq_goto (tgt := 13) dz_M_who_50 rfl ?_
            simp only [nI_1]
            exact zq_fewer _ (zq_sub_spec (by repeat (first | exact trivial | exact rfl | refine And.intro ?_ ?_))) (ih13 (a + 1) _ (by omega) (by omega) (by rw [hv]; exact (if_neg h34).symm))
          · skip
            refine gq_iconst (v := 0) dz_M_who_37 rfl ?_
            refine gq_goto (tgt := 45) dz_M_who_38 rfl ?_
            refine gq_ior dz_M_who_45 ?_
            refine gw_istore_n 2 dz_M_who_46 rfl (Nat.le_of_ble_eq_true rfl) rfl ?_
            dsimp only [List.set]
            refine gw_iinc 3 (c := 1) dz_M_who_47 rfl rfl (Nat.le_of_ble_eq_true rfl) rfl ?_
            dsimp only [List.set]
            refine gq_goto (tgt := 13) dz_M_who_50 rfl ?_
            simp only [nI_1]
            exact zq_fewer _ (zq_sub_spec (by repeat (first | exact trivial | exact rfl | refine And.intro ?_ ?_))) (ih13 (a + 1) _ (by omega) (by omega) (by rw [hv, Int32.or_zero]; exact (if_pos h34).symm))
    exact zq_fewer _ (zq_sub_spec (by repeat (first | exact trivial | exact rfl | refine And.intro ?_ ?_))) (L13 (za_N A + 1) 0 0 (by omega) (by omega) rfl)
  · skip
    refine gq_iconst (v := -1) dz_M_who_7 rfl ?_
    refine gw_iret .int dz_M_who_8 rfl (by first | rfl | exact zb_nar _ | exact pk_nc _) ?_ ?_
    · rw [zx_who, h4]; rfl
    · rfl
set_option maxHeartbeats 4000000 in
theorem sp_M_via {σ : zq_T} {A : za_D} (hA : zn_rep σ A) (hw : za_wf A) (p t : Int32) : zq_Sp zm_M_via 8 [zq_O 30 0, zq_I p, zq_I t] σ (zq_rv (zq_I (zx_via A p t)) σ) := by
  have hn6 := zn_n6 hA
  have hm5 := zn_m5 hA
  have hN : za_N A ≤ 64 := za_N64 hn6
  refine zq_sp [some (zq_O 30 0), some (zq_I p), some (zq_I t), none, none] (by decide +kernel) rfl (Nat.le_of_ble_eq_true rfl) (fun ν => ?_)
  refine gq_aload_n dz_M_via_0 rfl ?_
  refine gq_iload_n dz_M_via_1 rfl ?_
  refine gq_cV (sp_M_isOne hA _) zw_M_isOne zl_M_203 dz_M_via_2 rfl rfl rfl (by decide) rfl rfl (Nat.le_of_ble_eq_true rfl) ?_
  refine gw_ifb_eq (tgt := 15) dz_M_via_5 rfl (fun h5 => ?_) (fun h5 => ?_)
  · skip
    refine gq_iconst (v := -1) dz_M_via_15 rfl ?_
    refine gw_iret .int dz_M_via_16 rfl (by first | rfl | exact zb_nar _ | exact pk_nc _) ?_ ?_
    · rw [zx_via, h5]; rfl
    · rfl
  · skip
    refine gq_iload_n dz_M_via_8 rfl ?_
    refine gq_cS (sp_M_isThing _) zw_M_isThing zl_M_217 dz_M_via_9 (by decide) rfl rfl (Nat.le_of_ble_eq_true rfl) ?_
    refine gw_ifb_ne (tgt := 17) dz_M_via_12 rfl (fun h12 => ?_) (fun h12 => ?_)
    · skip
      obtain ⟨q, hq, rfl⟩ := (zb_in_iff (by omega)).mp h5
      obtain ⟨u, hu, rfl⟩ := (zb_in_iff (by omega)).mp h12
      refine gq_iconst (v := 0) dz_M_via_17 rfl ?_
      refine gw_istore_n 3 dz_M_via_18 rfl (Nat.le_of_ble_eq_true rfl) rfl ?_
      dsimp only [List.set]
      refine gq_iconst (v := 0) dz_M_via_19 rfl ?_
      refine gw_istore 4 dz_M_via_20 (Nat.le_of_ble_eq_true rfl) rfl ?_
      dsimp only [List.set]
      have L22 : ∀ (kf : Nat) (a : Nat) (v : Int32) (hkf : za_N A - a < kf) (ha : a ≤ za_N A) (hv : v = zf_fo (zn_viaf A (nI q) (nI u)) 0 a), zq_G ν zm_M_via 8 (zq_rv (zq_I (zx_via A (nI q) (nI u))) σ) 22 [some (zq_O 30 0), some (zq_I (nI q)), some (zq_I (nI u)), some (zq_I v), some (zq_I (nI a))] [] σ := by
        intro kf
        induction kf with
        | zero => intro a v hkf ha hv; exact absurd hkf (Nat.not_lt_zero _)
        | succ kf ih22 =>
          intro a v hkf ha hv
          refine gq_iload dz_M_via_22 rfl ?_
          refine gq_aload_n dz_M_via_24 rfl ?_
          refine gq_cV (sp_M_cases hA) zw_M_cases zl_M_254 dz_M_via_25 rfl rfl rfl (by decide) rfl rfl (Nat.le_of_ble_eq_true rfl) ?_
          rw [za_caN hn6]
          refine gq_icmp_ge (tgt := 68) dz_M_via_28 rfl (fun h28 => ?_) (fun h28 => ?_)
          · skip
            have ha2 : a = za_N A := by have := (nI_leI (by omega) (by omega)).mp h28; omega
            refine gq_iload_n dz_M_via_68 rfl ?_
            refine gw_iret .int dz_M_via_69 rfl (by first | rfl | exact zb_nar _ | exact pk_nc _) ?_ ?_
            · rw [zx_via, h5, h12, hv, ha2]; exact (zn_via (by omega) hu).symm
            · rfl
          · skip
            have ha2 : a < za_N A := by rcases Nat.lt_or_ge a (za_N A) with z | z; exact z; exact absurd (nI_le z (by omega)) h28
            refine gq_iload_n dz_M_via_31 rfl ?_
            refine gq_aload_n dz_M_via_32 rfl ?_
            refine gq_iload_n dz_M_via_33 rfl ?_
            refine gq_iload dz_M_via_34 rfl ?_
            refine gq_cV (sp_M_ownerIn hA hw _ _) zw_M_ownerIn zl_M_220 dz_M_via_36 rfl rfl rfl (by decide) rfl rfl (Nat.le_of_ble_eq_true rfl) ?_
            refine gq_iload_n dz_M_via_39 rfl ?_
            refine gq_icmp_ne (tgt := 59) dz_M_via_40 rfl (fun h40 => ?_) (fun h40 => ?_)
            · skip
              refine gq_iconst (v := 0) dz_M_via_59 rfl ?_
              refine gq_ior dz_M_via_60 ?_
              refine gw_istore_n 3 dz_M_via_61 rfl (Nat.le_of_ble_eq_true rfl) rfl ?_
              dsimp only [List.set]
              refine gw_iinc 4 (c := 1) dz_M_via_62 rfl rfl (Nat.le_of_ble_eq_true rfl) rfl ?_
              dsimp only [List.set]
              refine gq_goto (tgt := 22) dz_M_via_65 rfl ?_
              simp only [nI_1]
              exact zq_fewer _ (zq_sub_spec (by repeat (first | exact trivial | exact rfl | refine And.intro ?_ ?_))) (ih22 (a + 1) _ (by omega) (by omega) (by rw [hv, Int32.or_zero]; exact (if_neg h40).symm))
            · skip
              refine gq_iconst (v := 1) dz_M_via_43 rfl ?_
              refine gq_aload_n dz_M_via_44 rfl ?_
              refine gq_iload_n dz_M_via_45 rfl ?_
              refine gq_iload dz_M_via_46 rfl ?_
              refine gq_bipush (v := 31) dz_M_via_48 rfl ?_
              refine gq_bipush (v := -4) dz_M_via_50 rfl ?_
              refine gq_cV (sp_M_ruleBy hA hw _ _ _ (-4) (Or.inl rfl)) zw_M_ruleBy zl_M_193 dz_M_via_52 rfl rfl rfl (by decide) rfl rfl (Nat.le_of_ble_eq_true rfl) ?_
              rw [zn_B4]
              refine gq_ishl dz_M_via_55 ?_
              refine gq_goto (tgt := 60) dz_M_via_56 rfl ?_
              refine gq_ior dz_M_via_60 ?_
              refine gw_istore_n 3 dz_M_via_61 rfl (Nat.le_of_ble_eq_true rfl) rfl ?_
              dsimp only [List.set]
              refine gw_iinc 4 (c := 1) dz_M_via_62 rfl rfl (Nat.le_of_ble_eq_true rfl) rfl ?_
              dsimp only [List.set]
              refine gq_goto (tgt := 22) dz_M_via_65 rfl ?_
              simp only [nI_1]
              exact zq_fewer _ (zq_sub_spec (by repeat (first | exact trivial | exact rfl | refine And.intro ?_ ?_))) (ih22 (a + 1) _ (by omega) (by omega) (by rw [hv]; exact (if_pos h40).symm))
      exact zq_fewer _ (zq_sub_spec (by repeat (first | exact trivial | exact rfl | refine And.intro ?_ ?_))) (L22 (za_N A + 1) 0 0 (by omega) (by omega) rfl)
    · skip
      refine gq_iconst (v := -1) dz_M_via_15 rfl ?_
      refine gw_iret .int dz_M_via_16 rfl (by first | rfl | exact zb_nar _ | exact pk_nc _) ?_ ?_
      · rw [zx_via, h12, Bool.and_false]; rfl
      · rfl
set_option maxHeartbeats 4000000 in
theorem sp_M_pivot {σ : zq_T} {A : za_D} (hA : zn_rep σ A) (hw : za_wf A) (t : Int32) : zq_Sp zm_M_pivot 8 [zq_O 30 0, zq_I t] σ (zq_rv (zq_I (zx_pivot A t)) σ) := by
  have hn6 := zn_n6 hA
  have hm5 := zn_m5 hA
  have hN : za_N A ≤ 64 := za_N64 hn6
  refine zq_sp [some (zq_O 30 0), some (zq_I t), none, none, none] (by decide +kernel) rfl (Nat.le_of_ble_eq_true rfl) (fun ν => ?_)
  refine gq_iload_n dz_M_pivot_0 rfl ?_
  refine gq_cS (sp_M_isThing _) zw_M_isThing zl_M_217 dz_M_pivot_1 (by decide) rfl rfl (Nat.le_of_ble_eq_true rfl) ?_
  refine gw_ifb_ne (tgt := 9) dz_M_pivot_4 rfl (fun h4 => ?_) (fun h4 => ?_)
  · skip
    refine gq_aload_n dz_M_pivot_9 rfl ?_
    refine gq_getR 31 zf_M_7 rfl rfl dz_M_pivot_10 ?_
    refine gq_bipush (v := 12) dz_M_pivot_13 rfl ?_
    refine gw_iald (12) (rfl) rfl (rfl) (Nat.le_of_ble_eq_true rfl) (by omega) dz_M_pivot_15 ?_
    rw [zn_g hA]
    refine gw_istore_n 2 dz_M_pivot_16 rfl (Nat.le_of_ble_eq_true rfl) rfl ?_
    dsimp only [List.set]
    refine gq_iconst (v := 0) dz_M_pivot_17 rfl ?_
    refine gw_istore_n 3 dz_M_pivot_18 rfl (Nat.le_of_ble_eq_true rfl) rfl ?_
    dsimp only [List.set]
    refine gq_iconst (v := 0) dz_M_pivot_19 rfl ?_
    refine gw_istore 4 dz_M_pivot_20 (Nat.le_of_ble_eq_true rfl) rfl ?_
    dsimp only [List.set]
    have L22 : ∀ (kf : Nat) (p : Nat) (v : Int32) (hkf : za_n A - p < kf) (hp : p ≤ za_n A) (hv : v = zf_or (zs_pivf A t) p), zq_G ν zm_M_pivot 8 (zq_rv (zq_I (zx_pivot A t)) σ) 22 [some (zq_O 30 0), some (zq_I t), some (zq_I (za_g A)), some (zq_I v), some (zq_I (nI p))] [] σ := by
      intro kf
      induction kf with
      | zero => intro p v hkf hp hv; exact absurd hkf (Nat.not_lt_zero _)
      | succ kf ih22 =>
        intro p v hkf hp hv
        refine gq_iload dz_M_pivot_22 rfl ?_
        refine gq_aload_n dz_M_pivot_24 rfl ?_
        refine gq_getI zf_M_158 rfl rfl dz_M_pivot_25 ?_
        rw [zn_n hA]
        refine gq_icmp_ge (tgt := 77) dz_M_pivot_28 rfl (fun h28 => ?_) (fun h28 => ?_)
        · skip
          have ha2 : p = za_n A := by have := (nI_leI (by omega) (by omega)).mp h28; omega
          refine gq_iload_n dz_M_pivot_77 rfl ?_
          refine gw_iret .int dz_M_pivot_78 rfl (by first | rfl | exact zb_nar _ | exact pk_nc _) ?_ ?_
          · rw [zx_pivot, h4, hv, ha2]; rfl
          · rfl
        · skip
          have ha2 : p < za_n A := by rcases Nat.lt_or_ge p (za_n A) with z | z; exact z; exact absurd (nI_le z (by omega)) h28
          refine gq_iload_n dz_M_pivot_31 rfl ?_
          refine gq_iload dz_M_pivot_32 rfl ?_
          refine gq_iload_n dz_M_pivot_34 rfl ?_
          refine gq_cS (sp_M_isThere _ _) zw_M_isThere zl_M_169 dz_M_pivot_35 (by decide) rfl rfl (Nat.le_of_ble_eq_true rfl) ?_
          refine gw_ifb_eq (tgt := 68) dz_M_pivot_38 rfl (fun h38 => ?_) (fun h38 => ?_)
          · skip
            refine gq_iconst (v := 0) dz_M_pivot_68 rfl ?_
            refine gq_ior dz_M_pivot_69 ?_
            refine gw_istore_n 3 dz_M_pivot_70 rfl (Nat.le_of_ble_eq_true rfl) rfl ?_
            dsimp only [List.set]
            refine gw_iinc 4 (c := 1) dz_M_pivot_71 rfl rfl (Nat.le_of_ble_eq_true rfl) rfl ?_
            dsimp only [List.set]
            refine gq_goto (tgt := 22) dz_M_pivot_74 rfl ?_
            simp only [nI_1]
            exact zq_fewer _ (zq_sub_spec (by repeat (first | exact trivial | exact rfl | refine And.intro ?_ ?_))) (ih22 (p + 1) _ (by omega) (by omega) (by rw [hv, Int32.or_zero]; exact (zf_or_f (P := zs_pivf A t) (n := p) (by rw [zs_pivf, h38]; rfl)).symm))
          · skip
            refine gq_aload_n dz_M_pivot_41 rfl ?_
            refine gq_iload_n dz_M_pivot_42 rfl ?_
            refine gq_iload_n dz_M_pivot_43 rfl ?_
            refine gq_iconst (v := 1) dz_M_pivot_44 rfl ?_
            refine gq_iload dz_M_pivot_45 rfl ?_
            refine gq_ishl dz_M_pivot_47 ?_
            refine gq_ior dz_M_pivot_48 ?_
            refine gq_cV (sp_M_ownerIn hA hw _ _) zw_M_ownerIn zl_M_220 dz_M_pivot_49 rfl rfl rfl (by decide) rfl rfl (Nat.le_of_ble_eq_true rfl) ?_
            refine gq_aload_n dz_M_pivot_52 rfl ?_
            refine gq_iload_n dz_M_pivot_53 rfl ?_
            refine gq_iload_n dz_M_pivot_54 rfl ?_
            refine gq_cV (sp_M_ownerIn hA hw _ _) zw_M_ownerIn zl_M_220 dz_M_pivot_55 rfl rfl rfl (by decide) rfl rfl (Nat.le_of_ble_eq_true rfl) ?_
            refine gq_icmp_eq (tgt := 68) dz_M_pivot_58 rfl (fun h58 => ?_) (fun h58 => ?_)
            · skip
              refine gq_iconst (v := 0) dz_M_pivot_68 rfl ?_
              refine gq_ior dz_M_pivot_69 ?_
              refine gw_istore_n 3 dz_M_pivot_70 rfl (Nat.le_of_ble_eq_true rfl) rfl ?_
              dsimp only [List.set]
              refine gw_iinc 4 (c := 1) dz_M_pivot_71 rfl rfl (Nat.le_of_ble_eq_true rfl) rfl ?_
              dsimp only [List.set]
              refine gq_goto (tgt := 22) dz_M_pivot_74 rfl ?_
              simp only [nI_1]
              exact zq_fewer _ (zq_sub_spec (by repeat (first | exact trivial | exact rfl | refine And.intro ?_ ?_))) (ih22 (p + 1) _ (by omega) (by omega) (by rw [hv, Int32.or_zero]; exact (zf_or_f (P := zs_pivf A t) (n := p) (by rw [zs_pivf, h38, decide_eq_false (fun z => z h58)]; rfl)).symm))
            · skip
              refine gq_iconst (v := 1) dz_M_pivot_61 rfl ?_
              refine gq_iload dz_M_pivot_62 rfl ?_
              refine gq_ishl dz_M_pivot_64 ?_
              refine gq_goto (tgt := 69) dz_M_pivot_65 rfl ?_
              refine gq_ior dz_M_pivot_69 ?_
              refine gw_istore_n 3 dz_M_pivot_70 rfl (Nat.le_of_ble_eq_true rfl) rfl ?_
              dsimp only [List.set]
              refine gw_iinc 4 (c := 1) dz_M_pivot_71 rfl rfl (Nat.le_of_ble_eq_true rfl) rfl ?_
              dsimp only [List.set]
              refine gq_goto (tgt := 22) dz_M_pivot_74 rfl ?_
              simp only [nI_1]
              exact zq_fewer _ (zq_sub_spec (by repeat (first | exact trivial | exact rfl | refine And.intro ?_ ?_))) (ih22 (p + 1) _ (by omega) (by omega) (by rw [hv]; exact (zf_or_t (P := zs_pivf A t) (n := p) (by rw [zs_pivf, h38, decide_eq_true h58]; rfl)).symm))
    exact zq_fewer _ (zq_sub_spec (by repeat (first | exact trivial | exact rfl | refine And.intro ?_ ?_))) (L22 (za_n A + 1) 0 0 (by omega) (by omega) rfl)
  · skip
    refine gq_iconst (v := -1) dz_M_pivot_7 rfl ?_
    refine gw_iret .int dz_M_pivot_8 rfl (by first | rfl | exact zb_nar _ | exact pk_nc _) ?_ ?_
    · rw [zx_pivot, h4]; rfl
    · rfl
