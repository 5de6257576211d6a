theorem zq_clge {e : Int32} {i : Nat} (hi : i < 2 ^ 31) : e ≤ nI i ↔ e.toNatClampNeg ≤ i := by
  rw [Int32.le_iff_toInt_le, nI_toInt hi]
  show _ ↔ e.toInt.toNat ≤ i
  omega
theorem lg_eq0 {x y : Int64} : lg_cmp x y = 0 ↔ x = y := by
  unfold lg_cmp
  split
  · next h => exact ⟨fun q => absurd q (by decide), fun q => by subst q; exact absurd h (by simp [Int64.lt_iff_toInt_lt])⟩
  · split
    · next h => exact ⟨fun _ => h, fun _ => rfl⟩
    · next h => exact ⟨fun q => absurd q (by decide), fun q => absurd q h⟩
theorem lg_gt0 {x y : Int64} : 0 < lg_cmp x y ↔ y < x := by
  unfold lg_cmp
  split
  · next h => exact ⟨fun _ => h, fun _ => by decide⟩
  · next h =>
    split
    · exact ⟨fun q => absurd q (by decide), fun q => absurd q h⟩
    · exact ⟨fun q => absurd q (by decide), fun q => absurd q h⟩
/-- powers, the last steps of Euclid, lowest terms -/
def zs_pw (b : Int64) : Nat → Int64
  | 0 => 1
  | n + 1 => zs_pw b n * b
def zs_eu : Nat → Int64 → Int64 → Int64
  | 0, d, _ => d
  | n + 1, d, r => if r = 0 then d else zs_eu n r (d - d / r * r)
def zs_low (u b : Int64) (w : Int32) : Int64 := if 0 < zs_eu 100 b u then (if w = 0 then u else b) / zs_eu 100 b u else -1
def zs_ways (A : za_D) (a v : Int32) : Int64 := zs_pw v.toInt64 (zs_bc (a &&& (za_g A ^^^ -1))).toNatClampNeg * zs_pw (10 - v).toInt64 (nI (za_n A) - zs_bc a).toNatClampNeg
def zs_odf (A : za_D) (v p t : Int32) (a : Nat) (x : Int64) : Int64 := if nI a &&& za_g A = za_g A then (if zs_own A t (nI a) 31 = p then x + zs_ways A (nI a) v else x) else x
def zx_oddok (A : za_D) (v p t w : Int32) : Bool := zx_3 v 10 && (zb_in p (za_n A) && (zb_in t 4 && zx_3 w 1))
def zx_odds (A : za_D) (v p t w : Int32) : Int64 := if zx_oddok A v p t w then zs_low (zf_fo (zs_odf A v p t) 0 (za_N A)) (zs_pw 10 (nI (za_n A) - zs_bc (za_g A)).toNatClampNeg) w else -1

set_option maxHeartbeats 4000000 in
theorem sp_S_power {σ : zq_T} (b e : Int32) : zq_Sp zm_S_power 0 [zq_I b, zq_I e] σ (zq_rv (zq_L (zs_pw b.toInt64 e.toNatClampNeg)) σ) := by
  have hm : e.toNatClampNeg < 2 ^ 31 := by show e.toInt.toNat < 2 ^ 31; have := Int32.toInt_lt e; omega
  refine zq_sp [some (zq_I b), some (zq_I e), none, none, none] (by decide +kernel) rfl (Nat.le_of_ble_eq_true rfl) (fun ν => ?_)
  refine gq_lconst (v := 1) dz_S_power_0 rfl ?_
  refine gw_lstore_n 2 dz_S_power_1 rfl (Nat.le_of_ble_eq_true rfl) rfl ?_
  dsimp only [List.set]
  refine gq_iconst (v := 0) dz_S_power_2 rfl ?_
  refine gw_istore 4 dz_S_power_3 (Nat.le_of_ble_eq_true rfl) rfl ?_
  dsimp only [List.set]
  have L5 : ∀ (kf : Nat) (i : Nat) (hkf : e.toNatClampNeg - i < kf) (hi : i ≤ e.toNatClampNeg), zq_G ν zm_S_power 0 (zq_rv (zq_L (zs_pw b.toInt64 e.toNatClampNeg)) σ) 5 [some (zq_I b), some (zq_I e), some (zq_L (zs_pw b.toInt64 i)), none, some (zq_I (nI i))] [] σ := by
    intro kf
    induction kf with
    | zero => intro i hkf hi; exact absurd hkf (Nat.not_lt_zero _)
    | succ kf ih5 =>
      intro i hkf hi
      refine gq_iload dz_S_power_5 rfl ?_
      refine gq_iload_n dz_S_power_7 rfl ?_
      refine gq_icmp_ge (tgt := 22) dz_S_power_8 rfl (fun h8 => ?_) (fun h8 => ?_)
      · skip
        have h8 := (zq_clge (by omega)).mp h8
        refine gq_lload_n dz_S_power_22 rfl ?_
        refine gw_lret dz_S_power_23 rfl ?_ ?_
        · rw [show i = e.toNatClampNeg by omega]
        · rfl
      · skip
        have h8 : ¬ e.toNatClampNeg ≤ i := fun z => h8 ((zq_clge (by omega)).mpr z)
        refine gq_lload_n dz_S_power_11 rfl ?_
        refine gq_iload_n dz_S_power_12 rfl ?_
        refine gq_i2l dz_S_power_13 ?_
        refine gq_lmul dz_S_power_14 ?_
        refine gw_lstore_n 2 dz_S_power_15 rfl (Nat.le_of_ble_eq_true rfl) rfl ?_
        dsimp only [List.set]
        refine gw_iinc 4 (c := 1) dz_S_power_16 rfl rfl (Nat.le_of_ble_eq_true rfl) rfl ?_
        dsimp only [List.set]
        refine gq_goto (tgt := 5) dz_S_power_19 rfl ?_
        simp only [nI_1]
        exact zq_fewer _ (zq_sub_spec (by repeat (first | exact trivial | exact rfl | refine And.intro ?_ ?_))) (ih5 (i + 1) (by omega) (by omega))
  exact zq_fewer _ (zq_sub_spec (by repeat (first | exact trivial | exact rfl | refine And.intro ?_ ?_))) (L5 (e.toNatClampNeg + 1) 0 (by omega) (by omega))
set_option maxHeartbeats 4000000 in
theorem sp_S_lowestTerms {σ : zq_T} (u b : Int64) (w : Int32) : zq_Sp zm_S_lowestTerms 0 [zq_L u, zq_L b, zq_I w] σ (zq_rv (zq_L (zs_low u b w)) σ) := by
  refine zq_sp [some (zq_L u), none, some (zq_L b), none, some (zq_I w), none, none, none, none, none, none, none] (by decide +kernel) rfl (Nat.le_of_ble_eq_true rfl) (fun ν => ?_)
  refine gq_lload_n dz_S_lowestTerms_0 rfl ?_
  refine gw_lstore 5 dz_S_lowestTerms_1 (Nat.le_of_ble_eq_true rfl) rfl ?_
  dsimp only [List.set]
  refine gq_lload_n dz_S_lowestTerms_3 rfl ?_
  refine gw_lstore 7 dz_S_lowestTerms_4 (Nat.le_of_ble_eq_true rfl) rfl ?_
  dsimp only [List.set]
  refine gq_iconst (v := 0) dz_S_lowestTerms_6 rfl ?_
  refine gw_istore 9 dz_S_lowestTerms_7 (Nat.le_of_ble_eq_true rfl) rfl ?_
  dsimp only [List.set]
  have L9 : ∀ (kf : Nat) (r i : Nat) (d q : Int64) (hkf : r < kf) (hi : i + r = 100) (hv : zs_eu 100 b u = zs_eu r d q), zq_G ν zm_S_lowestTerms 0 (zq_rv (zq_L (zs_low u b w)) σ) 9 [some (zq_L u), none, some (zq_L b), none, some (zq_I w), some (zq_L d), none, some (zq_L q), none, some (zq_I (nI i)), none, none] [] σ := by
    intro kf
    induction kf with
    | zero => intro r i d q hkf hi hv; exact absurd hkf (Nat.not_lt_zero _)
    | succ kf ih9 =>
      intro r i d q hkf hi hv
      refine gq_iload dz_S_lowestTerms_9 rfl ?_
      refine gq_bipush (v := 100) dz_S_lowestTerms_11 rfl ?_
      refine gq_icmp_ge (tgt := 44) dz_S_lowestTerms_13 rfl (fun h13 => ?_) (fun h13 => ?_)
      · skip
        have hg : zs_eu 100 b u = d := by rw [hv, show r = 0 from by have := (nI_leI (a := 100) (by omega) (by omega)).mp h13; omega]; rfl
        refine gq_lload dz_S_lowestTerms_44 rfl ?_
        refine gq_lconst (v := 0) dz_S_lowestTerms_46 rfl ?_
        refine gq_lcmp dz_S_lowestTerms_47 ?_
        refine gq_if_gt (tgt := 55) dz_S_lowestTerms_48 rfl (fun h48 => ?_) (fun h48 => ?_)
        · skip
          have h48 := lg_gt0.mp h48
          refine gq_iload dz_S_lowestTerms_55 rfl ?_
          refine gq_if_ne (tgt := 64) dz_S_lowestTerms_57 rfl (fun h57 => ?_) (fun h57 => ?_)
          · skip
            refine gq_lload_n dz_S_lowestTerms_64 rfl ?_
            refine gq_lload dz_S_lowestTerms_65 rfl ?_
            refine gq_ldiv dz_S_lowestTerms_67 (fun z => by subst z; exact absurd h48 (by decide)) ?_
            refine gw_lret dz_S_lowestTerms_68 rfl ?_ ?_
            · rw [zs_low, hg, if_pos h48, if_neg h57]
            · rfl
          · skip
            refine gq_lload_n dz_S_lowestTerms_60 rfl ?_
            refine gq_goto (tgt := 65) dz_S_lowestTerms_61 rfl ?_
            refine gq_lload dz_S_lowestTerms_65 rfl ?_
            refine gq_ldiv dz_S_lowestTerms_67 (fun z => by subst z; exact absurd h48 (by decide)) ?_
            refine gw_lret dz_S_lowestTerms_68 rfl ?_ ?_
            · rw [zs_low, hg, if_pos h48, if_pos h57]
            · rfl
        · skip
          have h48 : ¬ 0 < d := fun z => h48 (lg_gt0.mpr z)
          refine gq_ldc2 zl_S_209 dz_S_lowestTerms_51 ?_
          refine gw_lret dz_S_lowestTerms_54 rfl ?_ ?_
          · rw [zs_low, hg, if_neg h48]
          · rfl
      · skip
        obtain ⟨r2, rfl⟩ : ∃ r2, r = r2 + 1 := ⟨r - 1, by rcases r with _ | r; exact absurd (nI_le (a := 100) (b := i) (by omega) (by omega)) h13; omega⟩
        refine gq_lload dz_S_lowestTerms_16 rfl ?_
        refine gq_lconst (v := 0) dz_S_lowestTerms_18 rfl ?_
        refine gq_lcmp dz_S_lowestTerms_19 ?_
        refine gq_if_eq (tgt := 44) dz_S_lowestTerms_20 rfl (fun h20 => ?_) (fun h20 => ?_)
        · skip
          have h20 := lg_eq0.mp h20
          have hg : zs_eu 100 b u = d := by rw [hv, zs_eu, if_pos h20]
          refine gq_lload dz_S_lowestTerms_44 rfl ?_
          refine gq_lconst (v := 0) dz_S_lowestTerms_46 rfl ?_
          refine gq_lcmp dz_S_lowestTerms_47 ?_
          refine gq_if_gt (tgt := 55) dz_S_lowestTerms_48 rfl (fun h48 => ?_) (fun h48 => ?_)
          · skip
            have h48 := lg_gt0.mp h48
            refine gq_iload dz_S_lowestTerms_55 rfl ?_
            refine gq_if_ne (tgt := 64) dz_S_lowestTerms_57 rfl (fun h57 => ?_) (fun h57 => ?_)
            · skip
              refine gq_lload_n dz_S_lowestTerms_64 rfl ?_
              refine gq_lload dz_S_lowestTerms_65 rfl ?_
              refine gq_ldiv dz_S_lowestTerms_67 (fun z => by subst z; exact absurd h48 (by decide)) ?_
              refine gw_lret dz_S_lowestTerms_68 rfl ?_ ?_
              · rw [zs_low, hg, if_pos h48, if_neg h57]
              · rfl
            · skip
              refine gq_lload_n dz_S_lowestTerms_60 rfl ?_
              refine gq_goto (tgt := 65) dz_S_lowestTerms_61 rfl ?_
              refine gq_lload dz_S_lowestTerms_65 rfl ?_
              refine gq_ldiv dz_S_lowestTerms_67 (fun z => by subst z; exact absurd h48 (by decide)) ?_
              refine gw_lret dz_S_lowestTerms_68 rfl ?_ ?_
              · rw [zs_low, hg, if_pos h48, if_pos h57]
              · rfl
          · skip
            have h48 : ¬ 0 < d := fun z => h48 (lg_gt0.mpr z)
            refine gq_ldc2 zl_S_209 dz_S_lowestTerms_51 ?_
            refine gw_lret dz_S_lowestTerms_54 rfl ?_ ?_
            · rw [zs_low, hg, if_neg h48]
            · rfl
        · skip
          have h20 : ¬ q = 0 := fun z => h20 (lg_eq0.mpr z)
          refine gq_lload dz_S_lowestTerms_23 rfl ?_
          refine gq_lload dz_S_lowestTerms_25 rfl ?_
          refine gq_lrem dz_S_lowestTerms_27 (h20) ?_
          refine gw_lstore 10 dz_S_lowestTerms_28 (Nat.le_of_ble_eq_true rfl) rfl ?_
          dsimp only [List.set]
          refine gq_lload dz_S_lowestTerms_30 rfl ?_
          refine gw_lstore 5 dz_S_lowestTerms_32 (Nat.le_of_ble_eq_true rfl) rfl ?_
          dsimp only [List.set]
          refine gq_lload dz_S_lowestTerms_34 rfl ?_
          refine gw_lstore 7 dz_S_lowestTerms_36 (Nat.le_of_ble_eq_true rfl) rfl ?_
          dsimp only [List.set]
          refine gw_iinc 9 (c := 1) dz_S_lowestTerms_38 rfl rfl (Nat.le_of_ble_eq_true rfl) rfl ?_
          dsimp only [List.set]
          refine gq_goto (tgt := 9) dz_S_lowestTerms_41 rfl ?_
          simp only [nI_1]
          exact zq_fewer _ (zq_sub_spec (by repeat (first | exact trivial | exact rfl | refine And.intro ?_ ?_))) (ih9 r2 (i + 1) _ _ (by omega) (by omega) (hv.trans (if_neg h20)))
  exact zq_fewer _ (zq_sub_spec (by repeat (first | exact trivial | exact rfl | refine And.intro ?_ ?_))) (L9 101 100 0 b u (by omega) (by omega) rfl)
set_option maxHeartbeats 4000000 in
theorem sp_S_waysTo {σ : zq_T} {X : za_X} (hS : zs_rep σ X) (hW : zx_wf X) (a v : Int32) : zq_Sp zm_S_waysTo 1 [zq_O 0 0, zq_I a, zq_I v] σ (zq_rv (zq_L (zs_ways X.1 a v)) σ) := by
  have hA : zc_rep σ σ.2.2.1 X.1 := hS.2.1
  have hw : za_wf X.1 := hW.1
  have hn6 : za_n X.1 ≤ 6 := zc_n6 hA
  have hm5 : za_m X.1 ≤ 5 := zc_m5 hA
  have hs6 : (zx_s X).1 ≤ 6 := hW.2.2.2.1.1
  have hT6 : (zx_T X).1 ≤ 160 := hW.2.2.1.1
  refine zq_sp [some (zq_O 0 0), some (zq_I a), some (zq_I v), none, none] (by decide +kernel) rfl (Nat.le_of_ble_eq_true rfl) (fun ν => ?_)
  refine gq_iload_n dz_S_waysTo_0 rfl ?_
  refine gq_aload_n dz_S_waysTo_1 rfl ?_
  refine gq_getU zf_S_53 rfl rfl dz_S_waysTo_2 ?_
  refine gq_getI zf_S_92 rfl rfl dz_S_waysTo_5 ?_
  rw [zc_g hA]
  refine gq_iconst (v := -1) dz_S_waysTo_8 rfl ?_
  refine gq_ixor dz_S_waysTo_9 ?_
  refine gq_iand dz_S_waysTo_10 ?_
  refine gq_cS (sp_JI_bitCount _) zw_JI_bitCount zl_S_198 dz_S_waysTo_11 (by decide) rfl rfl (Nat.le_of_ble_eq_true rfl) ?_
  refine gw_istore_n 3 dz_S_waysTo_14 rfl (Nat.le_of_ble_eq_true rfl) rfl ?_
  dsimp only [List.set]
  refine gq_aload_n dz_S_waysTo_15 rfl ?_
  refine gq_getU zf_S_53 rfl rfl dz_S_waysTo_16 ?_
  refine gq_getI zf_S_86 rfl rfl dz_S_waysTo_19 ?_
  rw [zc_n hA]
  refine gq_iload_n dz_S_waysTo_22 rfl ?_
  refine gq_cS (sp_JI_bitCount _) zw_JI_bitCount zl_S_198 dz_S_waysTo_23 (by decide) rfl rfl (Nat.le_of_ble_eq_true rfl) ?_
  refine gq_isub dz_S_waysTo_26 ?_
  refine gw_istore 4 dz_S_waysTo_27 (Nat.le_of_ble_eq_true rfl) rfl ?_
  dsimp only [List.set]
  refine gq_iload_n dz_S_waysTo_29 rfl ?_
  refine gq_iload_n dz_S_waysTo_30 rfl ?_
  refine gq_cS (sp_S_power _ _) zw_S_power zl_S_215 dz_S_waysTo_31 (by decide) rfl rfl (Nat.le_of_ble_eq_true rfl) ?_
  refine gq_bipush (v := 10) dz_S_waysTo_34 rfl ?_
  refine gq_iload_n dz_S_waysTo_36 rfl ?_
  refine gq_isub dz_S_waysTo_37 ?_
  refine gq_iload dz_S_waysTo_38 rfl ?_
  refine gq_cS (sp_S_power _ _) zw_S_power zl_S_215 dz_S_waysTo_40 (by decide) rfl rfl (Nat.le_of_ble_eq_true rfl) ?_
  refine gq_lmul dz_S_waysTo_43 ?_
  refine gw_lret dz_S_waysTo_44 rfl ?_ ?_
  · rfl
  · rfl
set_option maxHeartbeats 4000000 in
theorem sp_S_odds {σ : zq_T} {X : za_X} (hS : zs_rep σ X) (hW : zx_wf X) (v p t w : Int32) : zq_Sp zm_S_odds 5 [zq_O 0 0, zq_I v, zq_I p, zq_I t, zq_I w] σ (zq_rv (zq_L (zx_odds X.1 v p t w)) σ) := by
  have hA : zc_rep σ σ.2.2.1 X.1 := hS.2.1
  have hw : za_wf X.1 := hW.1
  have hn6 : za_n X.1 ≤ 6 := zc_n6 hA
  have hm5 : za_m X.1 ≤ 5 := zc_m5 hA
  have hs6 : (zx_s X).1 ≤ 6 := hW.2.2.2.1.1
  have hT6 : (zx_T X).1 ≤ 160 := hW.2.2.1.1
  have hN : za_N X.1 ≤ 64 := za_N64 hn6
  refine zq_sp [some (zq_O 0 0), some (zq_I v), some (zq_I p), some (zq_I t), some (zq_I w), none, none, none] (by decide +kernel) rfl (Nat.le_of_ble_eq_true rfl) (fun ν => ?_)
  refine gq_iload_n dz_S_odds_0 rfl ?_
  refine gq_if_lt (tgt := 39) dz_S_odds_1 rfl (fun h1 => ?_) (fun h1 => ?_)
  · skip
    refine gq_ldc2 zl_S_209 dz_S_odds_39 ?_
    refine gw_lret dz_S_odds_42 rfl ?_ ?_
    · rw [zx_odds, show zx_oddok X.1 v p t w = false from by rw [zx_oddok, zx_3lt h1]; simp]; rfl
    · rfl
  · skip
    refine gq_iload_n dz_S_odds_4 rfl ?_
    refine gq_bipush (v := 10) dz_S_odds_5 rfl ?_
    refine gq_icmp_gt (tgt := 39) dz_S_odds_7 rfl (fun h7 => ?_) (fun h7 => ?_)
    · skip
      have h7 : ¬ v ≤ 10 := fun z => by rw [Int32.le_iff_toInt_le] at z; rw [Int32.lt_iff_toInt_lt] at h7; omega
      refine gq_ldc2 zl_S_209 dz_S_odds_39 ?_
      refine gw_lret dz_S_odds_42 rfl ?_ ?_
      · rw [zx_odds, show zx_oddok X.1 v p t w = false from by rw [zx_oddok, zx_3gt h7]; simp]; rfl
      · rfl
    · skip
      have h7 : v ≤ 10 := by rw [Int32.le_iff_toInt_le]; rw [Int32.lt_iff_toInt_lt] at h7; omega
      refine gq_aload_n dz_S_odds_10 rfl ?_
      refine gq_getU zf_S_53 rfl rfl dz_S_odds_11 ?_
      refine gq_iload_n dz_S_odds_14 rfl ?_
      refine gq_cV (sp_D_isOne hA _) zw_D_isOne zl_S_95 dz_S_odds_15 rfl rfl rfl (by decide) rfl rfl (Nat.le_of_ble_eq_true rfl) ?_
      refine gw_ifb_eq (tgt := 39) dz_S_odds_18 rfl (fun h18 => ?_) (fun h18 => ?_)
      · skip
        refine gq_ldc2 zl_S_209 dz_S_odds_39 ?_
        refine gw_lret dz_S_odds_42 rfl ?_ ?_
        · rw [zx_odds, show zx_oddok X.1 v p t w = false from by rw [zx_oddok, h18]; simp]; rfl
        · rfl
      · skip
        refine gq_iload_n dz_S_odds_21 rfl ?_
        refine gq_cS (sp_S_isThing _) zw_S_isThing zl_S_147 dz_S_odds_22 (by decide) rfl rfl (Nat.le_of_ble_eq_true rfl) ?_
        refine gw_ifb_eq (tgt := 39) dz_S_odds_25 rfl (fun h25 => ?_) (fun h25 => ?_)
        · skip
          refine gq_ldc2 zl_S_209 dz_S_odds_39 ?_
          refine gw_lret dz_S_odds_42 rfl ?_ ?_
          · rw [zx_odds, show zx_oddok X.1 v p t w = false from by rw [zx_oddok, h25]; simp]; rfl
          · rfl
        · skip
          refine gq_iload dz_S_odds_28 rfl ?_
          refine gq_if_lt (tgt := 39) dz_S_odds_30 rfl (fun h30 => ?_) (fun h30 => ?_)
          · skip
            refine gq_ldc2 zl_S_209 dz_S_odds_39 ?_
            refine gw_lret dz_S_odds_42 rfl ?_ ?_
            · rw [zx_odds, show zx_oddok X.1 v p t w = false from by rw [zx_oddok, zx_3lt h30]; simp]; rfl
            · rfl
          · skip
            refine gq_iload dz_S_odds_33 rfl ?_
            refine gq_iconst (v := 1) dz_S_odds_35 rfl ?_
            refine gq_icmp_le (tgt := 43) dz_S_odds_36 rfl (fun h36 => ?_) (fun h36 => ?_)
            · skip
              have hok : zx_oddok X.1 v p t w = true := by rw [zx_oddok, zx_3ye h1 h7, h18, h25, zx_3ye h30 h36]; rfl
              refine gq_lconst (v := 0) dz_S_odds_43 rfl ?_
              refine gw_lstore 5 dz_S_odds_44 (Nat.le_of_ble_eq_true rfl) rfl ?_
              dsimp only [List.set]
              refine gq_iconst (v := 0) dz_S_odds_46 rfl ?_
              refine gw_istore 7 dz_S_odds_47 (Nat.le_of_ble_eq_true rfl) rfl ?_
              dsimp only [List.set]
              have L49 : ∀ (kf : Nat) (a : Nat) (hkf : za_N X.1 - a < kf) (ha : a ≤ za_N X.1), zq_G ν zm_S_odds 5 (zq_rv (zq_L (zx_odds X.1 v p t w)) σ) 49 [some (zq_O 0 0), some (zq_I v), some (zq_I p), some (zq_I t), some (zq_I w), some (zq_L (zf_fo (zs_odf X.1 v p t) 0 a)), none, some (zq_I (nI a))] [] σ := by
                intro kf
                induction kf with
                | zero => intro a hkf ha; exact absurd hkf (Nat.not_lt_zero _)
                | succ kf ih49 =>
                  intro a hkf ha
                  refine gq_iload dz_S_odds_49 rfl ?_
                  refine gq_aload_n dz_S_odds_51 rfl ?_
                  refine gq_getU zf_S_53 rfl rfl dz_S_odds_52 ?_
                  refine gq_cV (sp_D_cases hA) zw_D_cases zl_S_206 dz_S_odds_55 rfl rfl rfl (by decide) rfl rfl (Nat.le_of_ble_eq_true rfl) ?_
                  rw [za_caN hn6]
                  refine gq_icmp_ge (tgt := 115) dz_S_odds_58 rfl (fun h58 => ?_) (fun h58 => ?_)
                  · skip
                    have ha4 : a = za_N X.1 := zq_leq h58 ha (by omega)
                    subst ha4
                    refine gq_aload_n dz_S_odds_115 rfl ?_
                    refine gq_getU zf_S_53 rfl rfl dz_S_odds_116 ?_
                    refine gq_getI zf_S_86 rfl rfl dz_S_odds_119 ?_
                    rw [zc_n hA]
                    refine gq_aload_n dz_S_odds_122 rfl ?_
                    refine gq_getU zf_S_53 rfl rfl dz_S_odds_123 ?_
                    refine gq_getI zf_S_92 rfl rfl dz_S_odds_126 ?_
                    rw [zc_g hA]
                    refine gq_cS (sp_JI_bitCount _) zw_JI_bitCount zl_S_198 dz_S_odds_129 (by decide) rfl rfl (Nat.le_of_ble_eq_true rfl) ?_
                    refine gq_isub dz_S_odds_132 ?_
                    refine gw_istore 7 dz_S_odds_133 (Nat.le_of_ble_eq_true rfl) rfl ?_
                    dsimp only [List.set]
                    refine gq_lload dz_S_odds_135 rfl ?_
                    refine gq_bipush (v := 10) dz_S_odds_137 rfl ?_
                    refine gq_iload dz_S_odds_139 rfl ?_
                    refine gq_cS (sp_S_power _ _) zw_S_power zl_S_215 dz_S_odds_141 (by decide) rfl rfl (Nat.le_of_ble_eq_true rfl) ?_
                    refine gq_iload dz_S_odds_144 rfl ?_
                    refine gq_cS (sp_S_lowestTerms _ _ _) zw_S_lowestTerms zl_S_218 dz_S_odds_146 (by decide) rfl rfl (Nat.le_of_ble_eq_true rfl) ?_
                    refine gw_lret dz_S_odds_149 rfl ?_ ?_
                    · rw [zx_odds, hok, if_pos rfl]; rfl
                    · rfl
                  · skip
                    have a2 : a < za_N X.1 := by rcases Nat.lt_or_ge a (za_N X.1) with z | z; exact z; exact absurd (nI_le z (by omega)) h58
                    refine gq_iload dz_S_odds_61 rfl ?_
                    refine gq_aload_n dz_S_odds_63 rfl ?_
                    refine gq_getU zf_S_53 rfl rfl dz_S_odds_64 ?_
                    refine gq_getI zf_S_92 rfl rfl dz_S_odds_67 ?_
                    rw [zc_g hA]
                    refine gq_iand dz_S_odds_70 ?_
                    refine gq_aload_n dz_S_odds_71 rfl ?_
                    refine gq_getU zf_S_53 rfl rfl dz_S_odds_72 ?_
                    refine gq_getI zf_S_92 rfl rfl dz_S_odds_75 ?_
                    rw [zc_g hA]
                    refine gq_icmp_ne (tgt := 109) dz_S_odds_78 rfl (fun h78 => ?_) (fun h78 => ?_)
                    · skip
                      refine gw_iinc 7 (c := 1) dz_S_odds_109 rfl rfl (Nat.le_of_ble_eq_true rfl) rfl ?_
                      dsimp only [List.set]
                      refine gq_goto (tgt := 49) dz_S_odds_112 rfl ?_
                      simp only [nI_1]
                      rw [show zf_fo (zs_odf X.1 v p t) 0 a = zf_fo (zs_odf X.1 v p t) 0 (a + 1) from (if_neg h78).symm]
                      exact zq_fewer _ (zq_sub_spec (by repeat (first | exact trivial | exact rfl | refine And.intro ?_ ?_))) (ih49 (a + 1) (by omega) (by omega))
                    · skip
                      refine gq_aload_n dz_S_odds_81 rfl ?_
                      refine gq_getU zf_S_53 rfl rfl dz_S_odds_82 ?_
                      refine gq_iload_n dz_S_odds_85 rfl ?_
                      refine gq_iload dz_S_odds_86 rfl ?_
                      refine gq_bipush (v := 31) dz_S_odds_88 rfl ?_
                      refine gq_cV (sp_D_ownerIn hA hw _ _ _) zw_D_ownerIn zl_S_171 dz_S_odds_90 rfl rfl rfl (by decide) rfl rfl (Nat.le_of_ble_eq_true rfl) ?_
                      refine gq_iload_n dz_S_odds_93 rfl ?_
                      refine gq_icmp_ne (tgt := 109) dz_S_odds_94 rfl (fun h94 => ?_) (fun h94 => ?_)
                      · skip
                        refine gw_iinc 7 (c := 1) dz_S_odds_109 rfl rfl (Nat.le_of_ble_eq_true rfl) rfl ?_
                        dsimp only [List.set]
                        refine gq_goto (tgt := 49) dz_S_odds_112 rfl ?_
                        simp only [nI_1]
                        rw [show zf_fo (zs_odf X.1 v p t) 0 a = zf_fo (zs_odf X.1 v p t) 0 (a + 1) from ((if_pos h78).trans (if_neg h94)).symm]
                        exact zq_fewer _ (zq_sub_spec (by repeat (first | exact trivial | exact rfl | refine And.intro ?_ ?_))) (ih49 (a + 1) (by omega) (by omega))
                      · skip
                        refine gq_lload dz_S_odds_97 rfl ?_
                        refine gq_aload_n dz_S_odds_99 rfl ?_
                        refine gq_iload dz_S_odds_100 rfl ?_
                        refine gq_iload_n dz_S_odds_102 rfl ?_
                        refine gq_cV (sp_S_waysTo hS hW _ _) zw_S_waysTo zl_S_211 dz_S_odds_103 rfl rfl rfl (by decide) rfl rfl (Nat.le_of_ble_eq_true rfl) ?_
                        refine gq_ladd dz_S_odds_106 ?_
                        refine gw_lstore 5 dz_S_odds_107 (Nat.le_of_ble_eq_true rfl) rfl ?_
                        dsimp only [List.set]
                        refine gw_iinc 7 (c := 1) dz_S_odds_109 rfl rfl (Nat.le_of_ble_eq_true rfl) rfl ?_
                        dsimp only [List.set]
                        refine gq_goto (tgt := 49) dz_S_odds_112 rfl ?_
                        simp only [nI_1]
                        rw [show zf_fo (zs_odf X.1 v p t) 0 a + zs_ways X.1 (nI a) v = zf_fo (zs_odf X.1 v p t) 0 (a + 1) from ((if_pos h78).trans (if_pos h94)).symm]
                        exact zq_fewer _ (zq_sub_spec (by repeat (first | exact trivial | exact rfl | refine And.intro ?_ ?_))) (ih49 (a + 1) (by omega) (by omega))
              exact zq_fewer _ (zq_sub_spec (by repeat (first | exact trivial | exact rfl | refine And.intro ?_ ?_))) (L49 (za_N X.1 + 1) 0 (by omega) (by omega))
            · skip
              refine gq_ldc2 zl_S_209 dz_S_odds_39 ?_
              refine gw_lret dz_S_odds_42 rfl ?_ ?_
              · rw [zx_odds, show zx_oddok X.1 v p t w = false from by rw [zx_oddok, zx_3gt h36]; simp]; rfl
              · rfl
