theorem zq_leq {i n : Nat} (h : nI n ≤ nI i) (hi : i ≤ n) (hn : n < 1000) : i = n := by have := (nI_leI (by omega) (by omega)).mp h; omega
theorem zb_nlt3 {x : Int32} (h : 3 ≤ x) : ¬ x < 3 := by
  rw [Int32.lt_iff_toInt_lt]; rw [Int32.le_iff_toInt_le] at h; omega
theorem zb_lt3 {x : Int32} (h : ¬ 3 ≤ x) : x < 3 := by
  rw [Int32.lt_iff_toInt_lt]; rw [Int32.le_iff_toInt_le] at h; omega

set_option maxHeartbeats 4000000 in
theorem sp_JI_bitCount {σ : zq_T} (x : Int32) : zq_Sp zm_JI_bitCount 0 [zq_I x] σ (zq_rv (zq_I (zs_bc x)) σ) := by
  refine zq_sp [some (zq_I x)] (by decide +kernel) rfl (Nat.le_of_ble_eq_true rfl) (fun ν => ?_)
  refine gq_iload_n dz_JI_bitCount_0 rfl ?_
  refine gq_iload_n dz_JI_bitCount_1 rfl ?_
  refine gq_iconst (v := 1) dz_JI_bitCount_2 rfl ?_
  refine gq_iushr dz_JI_bitCount_3 ?_
  refine gq_ldcw zl_JI_265 dz_JI_bitCount_4 ?_
  refine gq_iand dz_JI_bitCount_7 ?_
  refine gq_isub dz_JI_bitCount_8 ?_
  refine gw_istore_n 0 dz_JI_bitCount_9 rfl (Nat.le_of_ble_eq_true rfl) rfl ?_
  dsimp only [List.set]
  refine gq_iload_n dz_JI_bitCount_10 rfl ?_
  refine gq_ldcw zl_JI_266 dz_JI_bitCount_11 ?_
  refine gq_iand dz_JI_bitCount_14 ?_
  refine gq_iload_n dz_JI_bitCount_15 rfl ?_
  refine gq_iconst (v := 2) dz_JI_bitCount_16 rfl ?_
  refine gq_iushr dz_JI_bitCount_17 ?_
  refine gq_ldcw zl_JI_266 dz_JI_bitCount_18 ?_
  refine gq_iand dz_JI_bitCount_21 ?_
  refine gq_iadd dz_JI_bitCount_22 ?_
  refine gw_istore_n 0 dz_JI_bitCount_23 rfl (Nat.le_of_ble_eq_true rfl) rfl ?_
  dsimp only [List.set]
  refine gq_iload_n dz_JI_bitCount_24 rfl ?_
  refine gq_iload_n dz_JI_bitCount_25 rfl ?_
  refine gq_iconst (v := 4) dz_JI_bitCount_26 rfl ?_
  refine gq_iushr dz_JI_bitCount_27 ?_
  refine gq_iadd dz_JI_bitCount_28 ?_
  refine gq_ldcw zl_JI_267 dz_JI_bitCount_29 ?_
  refine gq_iand dz_JI_bitCount_32 ?_
  refine gw_istore_n 0 dz_JI_bitCount_33 rfl (Nat.le_of_ble_eq_true rfl) rfl ?_
  dsimp only [List.set]
  refine gq_iload_n dz_JI_bitCount_34 rfl ?_
  refine gq_iload_n dz_JI_bitCount_35 rfl ?_
  refine gq_bipush (v := 8) dz_JI_bitCount_36 rfl ?_
  refine gq_iushr dz_JI_bitCount_38 ?_
  refine gq_iadd dz_JI_bitCount_39 ?_
  refine gw_istore_n 0 dz_JI_bitCount_40 rfl (Nat.le_of_ble_eq_true rfl) rfl ?_
  dsimp only [List.set]
  refine gq_iload_n dz_JI_bitCount_41 rfl ?_
  refine gq_iload_n dz_JI_bitCount_42 rfl ?_
  refine gq_bipush (v := 16) dz_JI_bitCount_43 rfl ?_
  refine gq_iushr dz_JI_bitCount_45 ?_
  refine gq_iadd dz_JI_bitCount_46 ?_
  refine gw_istore_n 0 dz_JI_bitCount_47 rfl (Nat.le_of_ble_eq_true rfl) rfl ?_
  dsimp only [List.set]
  refine gq_iload_n dz_JI_bitCount_48 rfl ?_
  refine gq_bipush (v := 63) dz_JI_bitCount_49 rfl ?_
  refine gq_iand dz_JI_bitCount_51 ?_
  refine gw_iret .int dz_JI_bitCount_52 rfl (by first | rfl | exact zb_nar _) ?_ ?_
  · rfl
  · rfl
set_option maxHeartbeats 4000000 in
theorem sp_D_ownedThings {σ : zq_T} {d : Fin 5} {A : za_D} (hA : zc_rep σ d A) (hW : za_wf A) : zq_Sp zm_D_ownedThings 6 [zq_O 10 d] σ (zq_rv (zq_I (nI (zf_ct (fun t => decide (¬ zs_own A (nI t) (za_g A) 31 = -4)) 4))) σ) := by
  have hn6 := zc_n6 hA
  have hm5 := zc_m5 hA
  refine zq_sp [some (zq_O 10 d), none, none] (by decide +kernel) rfl (Nat.le_of_ble_eq_true rfl) (fun ν => ?_)
  refine gq_iconst (v := 0) dz_D_ownedThings_0 rfl ?_
  refine gw_istore_n 1 dz_D_ownedThings_1 rfl (Nat.le_of_ble_eq_true rfl) rfl ?_
  dsimp only [List.set]
  refine gq_iconst (v := 0) dz_D_ownedThings_2 rfl ?_
  refine gw_istore_n 2 dz_D_ownedThings_3 rfl (Nat.le_of_ble_eq_true rfl) rfl ?_
  dsimp only [List.set]
  have L4 : ∀ (kf : Nat) (t : Nat) (hkf : 4 - t < kf) (ht : t ≤ 4), zq_G ν zm_D_ownedThings 6 (zq_rv (zq_I (nI (zf_ct (fun t => decide (¬ zs_own A (nI t) (za_g A) 31 = -4)) 4))) σ) 4 [some (zq_O 10 d), some (zq_I (nI (zf_ct (fun t => decide (¬ zs_own A (nI t) (za_g A) 31 = -4)) t))), some (zq_I (nI t))] [] σ := by
    intro kf
    induction kf with
    | zero => intro t hkf ht; exact absurd hkf (Nat.not_lt_zero _)
    | succ kf ih4 =>
      intro t hkf ht
      refine gq_iload_n dz_D_ownedThings_4 rfl ?_
      refine gq_iconst (v := 4) dz_D_ownedThings_5 rfl ?_
      refine gq_icmp_ge (tgt := 28) dz_D_ownedThings_6 rfl (fun h6 => ?_) (fun h6 => ?_)
      · skip
        refine gq_iload_n dz_D_ownedThings_28 rfl ?_
        refine gw_iret .int dz_D_ownedThings_29 rfl (by first | rfl | exact zb_nar _) ?_ ?_
        · rw [show t = 4 from by have := (nI_leI (a := 4) (by omega) (by omega)).mp h6; omega]
        · rfl
      · skip
        have ht2 : t < 4 := by rcases Nat.lt_or_ge t 4 with z | z; exact z; exact absurd (nI_le z (by omega)) h6
        refine gq_aload_n dz_D_ownedThings_9 rfl ?_
        refine gq_iload_n dz_D_ownedThings_10 rfl ?_
        refine gq_cV (sp_D_ownerNow hA hW _) zw_D_ownerNow zl_D_83 dz_D_ownedThings_11 rfl rfl rfl (by decide) rfl rfl (Nat.le_of_ble_eq_true rfl) ?_
        refine gq_bipush (v := -4) dz_D_ownedThings_14 rfl ?_
        refine gq_icmp_eq (tgt := 22) dz_D_ownedThings_16 rfl (fun h16 => ?_) (fun h16 => ?_)
        · skip
          refine gw_iinc 2 (c := 1) dz_D_ownedThings_22 rfl rfl (Nat.le_of_ble_eq_true rfl) rfl ?_
          dsimp only [List.set]
          refine gq_goto (tgt := 4) dz_D_ownedThings_25 rfl ?_
          simp only [nI_1]
          rw [← zf_ct_f (P := fun t => decide (¬ zs_own A (nI t) (za_g A) 31 = -4)) (decide_eq_false (fun z => z h16))]
          exact zq_fewer _ (zq_sub_spec (by repeat (first | exact trivial | exact rfl | refine And.intro ?_ ?_))) (ih4 (t + 1) (by omega) (by omega))
        · skip
          refine gw_iinc 1 (c := 1) dz_D_ownedThings_19 rfl rfl (Nat.le_of_ble_eq_true rfl) rfl ?_
          dsimp only [List.set]
          refine gw_iinc 2 (c := 1) dz_D_ownedThings_22 rfl rfl (Nat.le_of_ble_eq_true rfl) rfl ?_
          dsimp only [List.set]
          refine gq_goto (tgt := 4) dz_D_ownedThings_25 rfl ?_
          simp only [nI_1]
          rw [← zf_ct_t (P := fun t => decide (¬ zs_own A (nI t) (za_g A) 31 = -4)) (decide_eq_true h16)]
          exact zq_fewer _ (zq_sub_spec (by repeat (first | exact trivial | exact rfl | refine And.intro ?_ ?_))) (ih4 (t + 1) (by omega) (by omega))
  exact zq_fewer _ (zq_sub_spec (by repeat (first | exact trivial | exact rfl | refine And.intro ?_ ?_))) (L4 5 0 (by omega) (by omega))
set_option maxHeartbeats 4000000 in
theorem sp_D_knownFacts {σ : zq_T} {d : Fin 5} {A : za_D} (hA : zc_rep σ d A) : zq_Sp zm_D_knownFacts 1 [zq_O 10 d] σ (zq_rv (zq_I (zf_sum (fun p => zs_bc (za_fa A p)) (za_n A))) σ) := by
  have hn6 := zc_n6 hA
  have hm5 := zc_m5 hA
  refine zq_sp [some (zq_O 10 d), none, none] (by decide +kernel) rfl (Nat.le_of_ble_eq_true rfl) (fun ν => ?_)
  refine gq_iconst (v := 0) dz_D_knownFacts_0 rfl ?_
  refine gw_istore_n 1 dz_D_knownFacts_1 rfl (Nat.le_of_ble_eq_true rfl) rfl ?_
  dsimp only [List.set]
  refine gq_iconst (v := 0) dz_D_knownFacts_2 rfl ?_
  refine gw_istore_n 2 dz_D_knownFacts_3 rfl (Nat.le_of_ble_eq_true rfl) rfl ?_
  dsimp only [List.set]
  have L4 : ∀ (kf : Nat) (p : Nat) (hkf : za_n A - p < kf) (hp : p ≤ za_n A), zq_G ν zm_D_knownFacts 1 (zq_rv (zq_I (zf_sum (fun p => zs_bc (za_fa A p)) (za_n A))) σ) 4 [some (zq_O 10 d), some (zq_I (zf_sum (fun p => zs_bc (za_fa A p)) p)), some (zq_I (nI p))] [] σ := by
    intro kf
    induction kf with
    | zero => intro p hkf hp; exact absurd hkf (Nat.not_lt_zero _)
    | succ kf ih4 =>
      intro p hkf hp
      refine gq_iload_n dz_D_knownFacts_4 rfl ?_
      refine gq_aload_n dz_D_knownFacts_5 rfl ?_
      refine gq_getI zf_D_45 rfl rfl dz_D_knownFacts_6 ?_
      rw [zc_n hA]
      refine gq_icmp_ge (tgt := 30) dz_D_knownFacts_9 rfl (fun h9 => ?_) (fun h9 => ?_)
      · skip
        refine gq_iload_n dz_D_knownFacts_30 rfl ?_
        refine gw_iret .int dz_D_knownFacts_31 rfl (by first | rfl | exact zb_nar _) ?_ ?_
        · rw [show p = za_n A from by have := (nI_leI (by omega) (by omega)).mp h9; omega]
        · rfl
      · skip
        have hp2 : p < za_n A := by rcases Nat.lt_or_ge p (za_n A) with z | z; exact z; exact absurd (nI_le z (by omega)) h9
        refine gq_iload_n dz_D_knownFacts_12 rfl ?_
        refine gq_aload_n dz_D_knownFacts_13 rfl ?_
        refine gq_getR 13 zf_D_18 rfl rfl dz_D_knownFacts_14 ?_
        refine gq_iload_n dz_D_knownFacts_17 rfl ?_
        refine gw_iald (p) (rfl) rfl (rfl) (Nat.le_of_ble_eq_true rfl) (by omega) dz_D_knownFacts_18 ?_
        rw [zc_fa hA (by omega)]
        refine gq_cS (sp_JI_bitCount _) zw_JI_bitCount zl_D_97 dz_D_knownFacts_19 (by decide) rfl rfl (Nat.le_of_ble_eq_true rfl) ?_
        refine gq_iadd dz_D_knownFacts_22 ?_
        refine gw_istore_n 1 dz_D_knownFacts_23 rfl (Nat.le_of_ble_eq_true rfl) rfl ?_
        dsimp only [List.set]
        refine gw_iinc 2 (c := 1) dz_D_knownFacts_24 rfl rfl (Nat.le_of_ble_eq_true rfl) rfl ?_
        dsimp only [List.set]
        refine gq_goto (tgt := 4) dz_D_knownFacts_27 rfl ?_
        simp only [nI_1]
        exact zq_fewer _ (zq_sub_spec (by repeat (first | exact trivial | exact rfl | refine And.intro ?_ ?_))) (ih4 (p + 1) (by omega) (by omega))
  exact zq_fewer _ (zq_sub_spec (by repeat (first | exact trivial | exact rfl | refine And.intro ?_ ?_))) (L4 (za_n A + 1) 0 (by omega) (by omega))
set_option maxHeartbeats 4000000 in
theorem sp_D_allTries {σ : zq_T} {d : Fin 5} {A : za_D} (hA : zc_rep σ d A) : zq_Sp zm_D_allTries 0 [zq_O 10 d] σ (zq_rv (zq_I (zf_sum (za_tr A) (za_n A))) σ) := by
  have hn6 := zc_n6 hA
  have hm5 := zc_m5 hA
  refine zq_sp [some (zq_O 10 d), none, none] (by decide +kernel) rfl (Nat.le_of_ble_eq_true rfl) (fun ν => ?_)
  refine gq_iconst (v := 0) dz_D_allTries_0 rfl ?_
  refine gw_istore_n 1 dz_D_allTries_1 rfl (Nat.le_of_ble_eq_true rfl) rfl ?_
  dsimp only [List.set]
  refine gq_iconst (v := 0) dz_D_allTries_2 rfl ?_
  refine gw_istore_n 2 dz_D_allTries_3 rfl (Nat.le_of_ble_eq_true rfl) rfl ?_
  dsimp only [List.set]
  have L4 : ∀ (kf : Nat) (p : Nat) (hkf : za_n A - p < kf) (hp : p ≤ za_n A), zq_G ν zm_D_allTries 0 (zq_rv (zq_I (zf_sum (za_tr A) (za_n A))) σ) 4 [some (zq_O 10 d), some (zq_I (zf_sum (za_tr A) p)), some (zq_I (nI p))] [] σ := by
    intro kf
    induction kf with
    | zero => intro p hkf hp; exact absurd hkf (Nat.not_lt_zero _)
    | succ kf ih4 =>
      intro p hkf hp
      refine gq_iload_n dz_D_allTries_4 rfl ?_
      refine gq_aload_n dz_D_allTries_5 rfl ?_
      refine gq_getI zf_D_45 rfl rfl dz_D_allTries_6 ?_
      rw [zc_n hA]
      refine gq_icmp_ge (tgt := 27) dz_D_allTries_9 rfl (fun h9 => ?_) (fun h9 => ?_)
      · skip
        refine gq_iload_n dz_D_allTries_27 rfl ?_
        refine gw_iret .int dz_D_allTries_28 rfl (by first | rfl | exact zb_nar _) ?_ ?_
        · rw [show p = za_n A from by have := (nI_leI (by omega) (by omega)).mp h9; omega]
        · rfl
      · skip
        have hp2 : p < za_n A := by rcases Nat.lt_or_ge p (za_n A) with z | z; exact z; exact absurd (nI_le z (by omega)) h9
        refine gq_iload_n dz_D_allTries_12 rfl ?_
        refine gq_aload_n dz_D_allTries_13 rfl ?_
        refine gq_getR 14 zf_D_21 rfl rfl dz_D_allTries_14 ?_
        refine gq_iload_n dz_D_allTries_17 rfl ?_
        refine gw_iald (p) (rfl) rfl (rfl) (Nat.le_of_ble_eq_true rfl) (by omega) dz_D_allTries_18 ?_
        rw [zc_tr hA (by omega)]
        refine gq_iadd dz_D_allTries_19 ?_
        refine gw_istore_n 1 dz_D_allTries_20 rfl (Nat.le_of_ble_eq_true rfl) rfl ?_
        dsimp only [List.set]
        refine gw_iinc 2 (c := 1) dz_D_allTries_21 rfl rfl (Nat.le_of_ble_eq_true rfl) rfl ?_
        dsimp only [List.set]
        refine gq_goto (tgt := 4) dz_D_allTries_24 rfl ?_
        simp only [nI_1]
        exact zq_fewer _ (zq_sub_spec (by repeat (first | exact trivial | exact rfl | refine And.intro ?_ ?_))) (ih4 (p + 1) (by omega) (by omega))
  exact zq_fewer _ (zq_sub_spec (by repeat (first | exact trivial | exact rfl | refine And.intro ?_ ?_))) (L4 (za_n A + 1) 0 (by omega) (by omega))
set_option maxHeartbeats 4000000 in
theorem sp_D_hasEqualRanks {σ : zq_T} {d : Fin 5} {A : za_D} (hA : zc_rep σ d A) : zq_Sp zm_D_hasEqualRanks 0 [zq_O 10 d] σ (zq_rv (zq_I (zb_v (zs_eqr A))) σ) := by
  have hn6 := zc_n6 hA
  have hm5 := zc_m5 hA
  refine zq_sp [some (zq_O 10 d), none, none] (by decide +kernel) rfl (Nat.le_of_ble_eq_true rfl) (fun ν => ?_)
  refine gq_iconst (v := 0) dz_D_hasEqualRanks_0 rfl ?_
  refine gw_istore_n 1 dz_D_hasEqualRanks_1 rfl (Nat.le_of_ble_eq_true rfl) rfl ?_
  dsimp only [List.set]
  have L2 : ∀ (kf : Nat) (k : Nat) (hkf : za_m A - k < kf) (hk : k ≤ za_m A) (hf : zf_any (fun k => zf_any (zs_eq1 A k) k) k = false), zq_G ν zm_D_hasEqualRanks 0 (zq_rv (zq_I (zb_v (zs_eqr A))) σ) 2 [some (zq_O 10 d), some (zq_I (nI k)), none] [] σ := by
    intro kf
    induction kf with
    | zero => intro k hkf hk hf; exact absurd hkf (Nat.not_lt_zero _)
    | succ kf ih2 =>
      intro k hkf hk hf
      refine gq_iload_n dz_D_hasEqualRanks_2 rfl ?_
      refine gq_aload_n dz_D_hasEqualRanks_3 rfl ?_
      refine gq_getI zf_D_52 rfl rfl dz_D_hasEqualRanks_4 ?_
      rw [zc_m hA]
      refine gq_icmp_ge (tgt := 61) dz_D_hasEqualRanks_7 rfl (fun h7 => ?_) (fun h7 => ?_)
      · skip
        refine gq_iconst (v := 0) dz_D_hasEqualRanks_61 rfl ?_
        refine gw_iret .boolean dz_D_hasEqualRanks_62 rfl (by first | rfl | exact zb_nar _) ?_ ?_
        · rw [zs_eqr, ← (show k = za_m A from by have := (nI_leI (by omega) (by omega)).mp h7; omega), hf]; rfl
        · rfl
      · skip
        have hk2 : k < za_m A := by rcases Nat.lt_or_ge k (za_m A) with z | z; exact z; exact absurd (nI_le z (by omega)) h7
        refine gq_iconst (v := 0) dz_D_hasEqualRanks_10 rfl ?_
        refine gw_istore_n 2 dz_D_hasEqualRanks_11 rfl (Nat.le_of_ble_eq_true rfl) rfl ?_
        dsimp only [List.set]
        have L12 : ∀ (kf : Nat) (o : Nat) (hkf : k - o < kf) (ho : o ≤ k) (hg : zf_any (zs_eq1 A k) o = false), zq_G ν zm_D_hasEqualRanks 0 (zq_rv (zq_I (zb_v (zs_eqr A))) σ) 12 [some (zq_O 10 d), some (zq_I (nI k)), some (zq_I (nI o))] [] σ := by
          intro kf
          induction kf with
          | zero => intro o hkf ho hg; exact absurd hkf (Nat.not_lt_zero _)
          | succ kf ih12 =>
            intro o hkf ho hg
            refine gq_iload_n dz_D_hasEqualRanks_12 rfl ?_
            refine gq_iload_n dz_D_hasEqualRanks_13 rfl ?_
            refine gq_icmp_ge (tgt := 55) dz_D_hasEqualRanks_14 rfl (fun h14 => ?_) (fun h14 => ?_)
            · skip
              refine gw_iinc 1 (c := 1) dz_D_hasEqualRanks_55 rfl rfl (Nat.le_of_ble_eq_true rfl) rfl ?_
              dsimp only [List.set]
              refine gq_goto (tgt := 2) dz_D_hasEqualRanks_58 rfl ?_
              simp only [nI_1]
              exact zq_fewer _ (zq_sub_spec (by repeat (first | exact trivial | exact rfl | refine And.intro ?_ ?_))) (ih2 (k + 1) (by omega) (by omega) (by have hok : o = k := zq_leq h14 ho (by omega); rw [hok] at hg; rw [zf_any, hf, hg]; rfl))
            · skip
              have ho2 : o < k := by rcases Nat.lt_or_ge o (k) with z | z; exact z; exact absurd (nI_le z (by omega)) h14
              refine gq_aload_n dz_D_hasEqualRanks_17 rfl ?_
              refine gq_getR 17 zf_D_30 rfl rfl dz_D_hasEqualRanks_18 ?_
              refine gq_iload_n dz_D_hasEqualRanks_21 rfl ?_
              refine gw_iald (o) (rfl) rfl (rfl) (Nat.le_of_ble_eq_true rfl) (by omega) dz_D_hasEqualRanks_22 ?_
              rw [zc_th hA (by omega)]
              refine gq_aload_n dz_D_hasEqualRanks_23 rfl ?_
              refine gq_getR 17 zf_D_30 rfl rfl dz_D_hasEqualRanks_24 ?_
              refine gq_iload_n dz_D_hasEqualRanks_27 rfl ?_
              refine gw_iald (k) (rfl) rfl (rfl) (Nat.le_of_ble_eq_true rfl) (by omega) dz_D_hasEqualRanks_28 ?_
              rw [zc_th hA (by omega)]
              refine gq_icmp_ne (tgt := 49) dz_D_hasEqualRanks_29 rfl (fun h29 => ?_) (fun h29 => ?_)
              · skip
                refine gw_iinc 2 (c := 1) dz_D_hasEqualRanks_49 rfl rfl (Nat.le_of_ble_eq_true rfl) rfl ?_
                dsimp only [List.set]
                refine gq_goto (tgt := 12) dz_D_hasEqualRanks_52 rfl ?_
                simp only [nI_1]
                exact zq_fewer _ (zq_sub_spec (by repeat (first | exact trivial | exact rfl | refine And.intro ?_ ?_))) (ih12 (o + 1) (by omega) (by omega) (by rw [zf_any, hg, zs_eq1, beq_false_of_ne h29]; rfl))
              · skip
                refine gq_aload_n dz_D_hasEqualRanks_32 rfl ?_
                refine gq_getR 16 zf_D_27 rfl rfl dz_D_hasEqualRanks_33 ?_
                refine gq_iload_n dz_D_hasEqualRanks_36 rfl ?_
                refine gw_iald (o) (rfl) rfl (rfl) (Nat.le_of_ble_eq_true rfl) (by omega) dz_D_hasEqualRanks_37 ?_
                rw [zc_rk hA (by omega)]
                refine gq_aload_n dz_D_hasEqualRanks_38 rfl ?_
                refine gq_getR 16 zf_D_27 rfl rfl dz_D_hasEqualRanks_39 ?_
                refine gq_iload_n dz_D_hasEqualRanks_42 rfl ?_
                refine gw_iald (k) (rfl) rfl (rfl) (Nat.le_of_ble_eq_true rfl) (by omega) dz_D_hasEqualRanks_43 ?_
                rw [zc_rk hA (by omega)]
                refine gq_icmp_ne (tgt := 49) dz_D_hasEqualRanks_44 rfl (fun h44 => ?_) (fun h44 => ?_)
                · skip
                  refine gw_iinc 2 (c := 1) dz_D_hasEqualRanks_49 rfl rfl (Nat.le_of_ble_eq_true rfl) rfl ?_
                  dsimp only [List.set]
                  refine gq_goto (tgt := 12) dz_D_hasEqualRanks_52 rfl ?_
                  simp only [nI_1]
                  exact zq_fewer _ (zq_sub_spec (by repeat (first | exact trivial | exact rfl | refine And.intro ?_ ?_))) (ih12 (o + 1) (by omega) (by omega) (by rw [zf_any, hg, zs_eq1, beq_false_of_ne h44, Bool.and_false]; rfl))
                · skip
                  refine gq_iconst (v := 1) dz_D_hasEqualRanks_47 rfl ?_
                  refine gw_iret .boolean dz_D_hasEqualRanks_48 rfl (by first | rfl | exact zb_nar _) ?_ ?_
                  · rw [zs_eqr, zf_any_of (P := fun k => zf_any (zs_eq1 A k) k) hk2 (zf_any_of ho2 (by simp [zs_eq1, h29, h44]))]; rfl
                  · rfl
        exact zq_fewer _ (zq_sub_spec (by repeat (first | exact trivial | exact rfl | refine And.intro ?_ ?_))) (L12 (k + 1) 0 (by omega) (by omega) rfl)
  exact zq_fewer _ (zq_sub_spec (by repeat (first | exact trivial | exact rfl | refine And.intro ?_ ?_))) (L2 (za_m A + 1) 0 (by omega) (by omega) rfl)
set_option maxHeartbeats 4000000 in
theorem sp_D_act {σ : zq_T} {d : Fin 5} {A : za_D} (hA : zc_rep σ d A) {D : Nat} (hD : D < 2 ^ 31) : zq_Sp zm_D_act 2 [zq_O 10 d, zq_I (nI D)] σ (zq_rw (zq_I (zs_actr A D)) (fun τ => zc_rep τ d (zs_actS A D) ∧ zd_same d σ τ)) := by
  have hn6 := zc_n6 hA
  have hm5 := zc_m5 hA
  refine zq_sp [some (zq_O 10 d), some (zq_I (nI D)), none, none] (by decide +kernel) rfl (Nat.le_of_ble_eq_true rfl) (fun ν => ?_)
  refine gq_iload_n dz_D_act_0 rfl ?_
  refine gq_bipush (v := 10) dz_D_act_1 rfl ?_
  refine gq_idiv dz_D_act_3 (by decide) ?_
  rw [show (10 : Int32) = nI 10 from rfl, pk_div hD (by omega) (by omega)]
  refine gw_istore_n 2 dz_D_act_4 rfl (Nat.le_of_ble_eq_true rfl) rfl ?_
  dsimp only [List.set]
  refine gq_iload_n dz_D_act_5 rfl ?_
  refine gq_bipush (v := 10) dz_D_act_6 rfl ?_
  refine gq_irem dz_D_act_8 (by decide) ?_
  rw [show (10 : Int32) = nI 10 from rfl, pk_rem hD (by omega) (by omega)]
  refine gw_istore_n 3 dz_D_act_9 rfl (Nat.le_of_ble_eq_true rfl) rfl ?_
  dsimp only [List.set]
  refine gq_iload_n dz_D_act_10 rfl ?_
  refine gq_if_lt (tgt := 28) dz_D_act_11 rfl (fun h11 => ?_) (fun h11 => ?_)
  · skip
    exact absurd h11 (nI_pos hD)
  · skip
    refine gq_aload_n dz_D_act_14 rfl ?_
    refine gq_iload_n dz_D_act_15 rfl ?_
    refine gq_cV (sp_D_isOne hA _) zw_D_isOne zl_D_55 dz_D_act_16 rfl rfl rfl (by decide) rfl rfl (Nat.le_of_ble_eq_true rfl) ?_
    refine gw_ifb_eq (tgt := 28) dz_D_act_19 rfl (fun h19 => ?_) (fun h19 => ?_)
    · skip
      have hp : ¬ D / 10 < za_n A := fun q => by rw [zb_in_nI q (by omega)] at h19; cases h19
      have hcan : zs_can A D = false := by simp [zs_can, hp]
      refine gq_iconst (v := -1) dz_D_act_28 rfl ?_
      refine gw_iretP .int dz_D_act_29 rfl (by first | rfl | exact zb_nar _) ?_ ?_
      · rw [zs_actr, if_pos (Or.inl hp)]
      · exact ⟨by rw [zs_actS, hcan]; exact hA, zd_same.rf⟩
    · skip
      have hp : D / 10 < za_n A := by obtain ⟨q, h1, h2⟩ := (zb_in_iff (by omega)).mp h19; rw [(nI_eq (by omega) (by omega)).mp h2]; exact h1
      refine gq_iload_n dz_D_act_22 rfl ?_
      refine gq_bipush (v := 7) dz_D_act_23 rfl ?_
      refine gq_icmp_lt (tgt := 30) dz_D_act_25 rfl (fun h25 => ?_) (fun h25 => ?_)
      · skip
        have hc : D % 10 < 7 := (nI_ltI (b := 7) (by omega) (by omega)).mp h25
        refine gq_aload_n dz_D_act_30 rfl ?_
        refine gq_iload_n dz_D_act_31 rfl ?_
        refine gq_cV (sp_D_isGone hA _) zw_D_isGone zl_D_87 dz_D_act_32 rfl rfl rfl (by decide) rfl rfl (Nat.le_of_ble_eq_true rfl) ?_
        refine gw_ifb_eq (tgt := 41) dz_D_act_35 rfl (fun h35 => ?_) (fun h35 => ?_)
        · skip
          refine gq_iload_n dz_D_act_41 rfl ?_
          refine gq_bipush (v := 6) dz_D_act_42 rfl ?_
          refine gq_icmp_ne (tgt := 66) dz_D_act_44 rfl (fun h44 => ?_) (fun h44 => ?_)
          · skip
            have h6 : ¬ D % 10 = 6 := fun q => h44 (by rw [q]; rfl)
            refine gq_aload_n dz_D_act_66 rfl ?_
            refine gq_getR 14 zf_D_21 rfl rfl dz_D_act_67 ?_
            refine gq_iload_n dz_D_act_70 rfl ?_
            refine gw_iald (D / 10) (rfl) rfl (rfl) (Nat.le_of_ble_eq_true rfl) (by omega) dz_D_act_71 ?_
            rw [zc_tr hA (by omega)]
            refine gq_iconst (v := 3) dz_D_act_72 rfl ?_
            refine gq_icmp_ge (tgt := 92) dz_D_act_73 rfl (fun h73 => ?_) (fun h73 => ?_)
            · skip
              have hcan : zs_can A D = false := by simp [zs_can, h6, zb_nlt3 h73]
              refine gq_bipush (v := -2) dz_D_act_92 rfl ?_
              refine gw_iretP .int dz_D_act_94 rfl (by first | rfl | exact zb_nar _) ?_ ?_
              · rw [zs_actr, if_neg (by omega), hcan, if_pos rfl]
              · exact ⟨by rw [zs_actS, hcan]; exact hA, zd_same.rf⟩
            · skip
              have ht := zb_lt3 h73
              refine gq_iload_n dz_D_act_76 rfl ?_
              refine gq_cSN (sp_S_isFact _) zw_S_isFact zl_D_90 dz_D_act_77 (by decide) rfl rfl (Nat.le_of_ble_eq_true rfl) ?_
              refine gw_ifb_eq (tgt := 95) dz_D_act_80 rfl (fun h80 => ?_) (fun h80 => ?_)
              · skip
                have h5 : ¬ D % 10 < 5 := fun q => by rw [zb_in_nI q (by omega)] at h80; cases h80
                have h5b : D % 10 = 5 := by omega
                have hcan : zs_can A D = true := by simp [zs_can, hp, hc, h35, h5b, ht]
                refine gq_iload_n dz_D_act_95 rfl ?_
                refine gq_cSN (sp_S_isFact _) zw_S_isFact zl_D_90 dz_D_act_96 (by decide) rfl rfl (Nat.le_of_ble_eq_true rfl) ?_
                refine gw_ifb_eq (tgt := 114) dz_D_act_99 rfl (fun h99 => ?_) (fun h99 => ?_)
                · skip
                  refine gq_aload_n dz_D_act_114 rfl ?_
                  refine gq_getR 14 zf_D_21 rfl rfl dz_D_act_115 ?_
                  refine gq_iload_n dz_D_act_118 rfl ?_
                  refine gq_dup2 dz_D_act_119 rfl rfl ?_
                  refine gw_iald (D / 10) (rfl) rfl (rfl) (Nat.le_of_ble_eq_true rfl) (by omega) dz_D_act_120 ?_
                  rw [zc_tr hA (by omega)]
                  refine gq_iconst (v := 1) dz_D_act_121 rfl ?_
                  refine gq_iadd dz_D_act_122 ?_
                  refine gw_iast (D / 10) (rfl) rfl (rfl) (Nat.le_of_ble_eq_true rfl) (by omega) dz_D_act_123 ?_
                  refine gq_aload_n dz_D_act_124 rfl ?_
                  refine gq_getR 14 zf_D_21 rfl rfl dz_D_act_125 ?_
                  refine gq_iload_n dz_D_act_128 rfl ?_
                  refine gw_iald (D / 10) (rfl) rfl (rfl) (Nat.le_of_ble_eq_true rfl) (by omega) dz_D_act_129 ?_
                  rw [zc_tr (hA.st _ _) (by omega)]
                  refine gw_iretP .int dz_D_act_130 rfl (by first | rfl | exact zb_nar _) ?_ ?_
                  · rw [zs_actr, if_neg (by omega), hcan, if_neg (by decide), if_neg h6]; exact if_pos rfl
                  · exact ⟨by rw [zs_actS, hcan, if_pos rfl, zs_acts, if_neg h6, if_neg h5]; exact hA.st _ _, zd_same.rf.up (by omega) (by omega)⟩
                · skip
                  rw [h80] at h99; cases h99
              · skip
                have h5 : D % 10 < 5 := by obtain ⟨q, h1, h2⟩ := (zb_in_iff (by omega)).mp h80; rw [(nI_eq (by omega) (by omega)).mp h2]; exact h1
                have h5b : ¬ D % 10 = 5 := by omega
                have hin := zb_in_nI hp (by omega)
                refine gq_aload_n dz_D_act_83 rfl ?_
                refine gq_iload_n dz_D_act_84 rfl ?_
                refine gq_iload_n dz_D_act_85 rfl ?_
                refine gq_cV (sp_D_isKnown hA _ _) zw_D_isKnown zl_D_93 dz_D_act_86 rfl rfl rfl (by decide) rfl rfl (Nat.le_of_ble_eq_true rfl) ?_
                refine gw_ifb_eq (tgt := 95) dz_D_act_89 rfl (fun h89 => ?_) (fun h89 => ?_)
                · skip
                  rw [hin, Bool.true_and, nI_clamp (by omega)] at h89
                  have hcan : zs_can A D = true := by simp [zs_can, hp, hc, h35, h89, ht]
                  refine gq_iload_n dz_D_act_95 rfl ?_
                  refine gq_cSN (sp_S_isFact _) zw_S_isFact zl_D_90 dz_D_act_96 (by decide) rfl rfl (Nat.le_of_ble_eq_true rfl) ?_
                  refine gw_ifb_eq (tgt := 114) dz_D_act_99 rfl (fun h99 => ?_) (fun h99 => ?_)
                  · skip
                    rw [h80] at h99; cases h99
                  · skip
                    refine gq_aload_n dz_D_act_102 rfl ?_
                    refine gq_getR 13 zf_D_18 rfl rfl dz_D_act_103 ?_
                    refine gq_iload_n dz_D_act_106 rfl ?_
                    refine gq_dup2 dz_D_act_107 rfl rfl ?_
                    refine gw_iald (D / 10) (rfl) rfl (rfl) (Nat.le_of_ble_eq_true rfl) (by omega) dz_D_act_108 ?_
                    rw [zc_fa hA (by omega)]
                    refine gq_iconst (v := 1) dz_D_act_109 rfl ?_
                    refine gq_iload_n dz_D_act_110 rfl ?_
                    refine gq_ishl dz_D_act_111 ?_
                    refine gq_ior dz_D_act_112 ?_
                    refine gw_iast (D / 10) (rfl) rfl (rfl) (Nat.le_of_ble_eq_true rfl) (by omega) dz_D_act_113 ?_
                    refine gq_aload_n dz_D_act_114 rfl ?_
                    refine gq_getR 14 zf_D_21 rfl rfl dz_D_act_115 ?_
                    refine gq_iload_n dz_D_act_118 rfl ?_
                    refine gq_dup2 dz_D_act_119 rfl rfl ?_
                    refine gw_iald (D / 10) (rfl) rfl (rfl) (Nat.le_of_ble_eq_true rfl) (by omega) dz_D_act_120 ?_
                    rw [zc_tr (hA.sf _ _) (by omega)]
                    refine gq_iconst (v := 1) dz_D_act_121 rfl ?_
                    refine gq_iadd dz_D_act_122 ?_
                    refine gw_iast (D / 10) (rfl) rfl (rfl) (Nat.le_of_ble_eq_true rfl) (by omega) dz_D_act_123 ?_
                    refine gq_aload_n dz_D_act_124 rfl ?_
                    refine gq_getR 14 zf_D_21 rfl rfl dz_D_act_125 ?_
                    refine gq_iload_n dz_D_act_128 rfl ?_
                    refine gw_iald (D / 10) (rfl) rfl (rfl) (Nat.le_of_ble_eq_true rfl) (by omega) dz_D_act_129 ?_
                    rw [zc_tr ((hA.sf _ _).st _ _) (by omega)]
                    refine gw_iretP .int dz_D_act_130 rfl (by first | rfl | exact zb_nar _) ?_ ?_
                    · rw [zs_actr, if_neg (by omega), hcan, if_neg (by decide), if_neg h6]; exact if_pos rfl
                    · exact ⟨by rw [zs_actS, hcan, if_pos rfl, zs_acts, if_neg h6, if_pos h5]; exact (hA.sf _ _).st _ _, (zd_same.rf.up (by omega) (by omega)).up (by omega) (by omega)⟩
                · skip
                  rw [hin, Bool.true_and, nI_clamp (by omega)] at h89
                  have hcan : zs_can A D = false := by simp [zs_can, h6, h5b, h89]
                  refine gq_bipush (v := -2) dz_D_act_92 rfl ?_
                  refine gw_iretP .int dz_D_act_94 rfl (by first | rfl | exact zb_nar _) ?_ ?_
                  · rw [zs_actr, if_neg (by omega), hcan, if_pos rfl]
                  · exact ⟨by rw [zs_actS, hcan]; exact hA, zd_same.rf⟩
          · skip
            have h6 : D % 10 = 6 := (nI_eq (b := 6) (by omega) (by omega)).mp h44
            have hcan : zs_can A D = true := by simp [zs_can, hp, hc, h35, h6]
            refine gq_aload_n dz_D_act_47 rfl ?_
            refine gq_dup dz_D_act_48 rfl ?_
            refine gq_getI zf_D_49 rfl rfl dz_D_act_49 ?_
            rw [zc_g hA]
            refine gq_iconst (v := 1) dz_D_act_52 rfl ?_
            refine gq_iload_n dz_D_act_53 rfl ?_
            refine gq_ishl dz_D_act_54 ?_
            refine gq_ior dz_D_act_55 ?_
            refine gq_putI zv_D_49 rfl rfl dz_D_act_56 ?_
            refine gq_aload_n dz_D_act_59 rfl ?_
            refine gq_getR 14 zf_D_21 rfl rfl dz_D_act_60 ?_
            refine gq_iload_n dz_D_act_63 rfl ?_
            refine gw_iald (D / 10) (rfl) rfl (rfl) (Nat.le_of_ble_eq_true rfl) (by omega) dz_D_act_64 ?_
            rw [zc_tr (hA.sg _) (by omega)]
            refine gw_iretP .int dz_D_act_65 rfl (by first | rfl | exact zb_nar _) ?_ ?_
            · rw [zs_actr, if_neg (by omega), hcan, if_neg (by decide), if_pos h6]
            · exact ⟨by rw [zs_actS, hcan, zs_acts, if_pos h6]; exact hA.sg _, zd_same.rf.up (by omega) (by omega)⟩
        · skip
          have hcan : zs_can A D = false := by simp [zs_can, h35]
          refine gq_bipush (v := -2) dz_D_act_38 rfl ?_
          refine gw_iretP .int dz_D_act_40 rfl (by first | rfl | exact zb_nar _) ?_ ?_
          · rw [zs_actr, if_neg (by omega), hcan, if_pos rfl]
          · exact ⟨by rw [zs_actS, hcan]; exact hA, zd_same.rf⟩
      · skip
        have hc : ¬ D % 10 < 7 := fun q => h25 (nI_lt (b := 7) q (by omega))
        have hcan : zs_can A D = false := by simp [zs_can, hc]
        refine gq_iconst (v := -1) dz_D_act_28 rfl ?_
        refine gw_iretP .int dz_D_act_29 rfl (by first | rfl | exact zb_nar _) ?_ ?_
        · rw [zs_actr, if_pos (Or.inr hc)]
        · exact ⟨by rw [zs_actS, hcan]; exact hA, zd_same.rf⟩
set_option maxHeartbeats 4000000 in
theorem sp_D_actN {σ : zq_T} {d : Fin 5} {A : za_D} (hA : zc_rep σ d A) {x : Int32} (hx : x < 0) : zq_Sp zm_D_act 2 [zq_O 10 d, zq_I x] σ (zq_rw (zq_I (-1)) (fun τ => τ = σ)) := by
  have hn6 := zc_n6 hA
  have hm5 := zc_m5 hA
  refine zq_sp [some (zq_O 10 d), some (zq_I x), none, none] (by decide +kernel) rfl (Nat.le_of_ble_eq_true rfl) (fun ν => ?_)
  refine gq_iload_n dz_D_act_0 rfl ?_
  refine gq_bipush (v := 10) dz_D_act_1 rfl ?_
  refine gq_idiv dz_D_act_3 (by decide) ?_
  refine gw_istore_n 2 dz_D_act_4 rfl (Nat.le_of_ble_eq_true rfl) rfl ?_
  dsimp only [List.set]
  refine gq_iload_n dz_D_act_5 rfl ?_
  refine gq_bipush (v := 10) dz_D_act_6 rfl ?_
  refine gq_irem dz_D_act_8 (by decide) ?_
  refine gw_istore_n 3 dz_D_act_9 rfl (Nat.le_of_ble_eq_true rfl) rfl ?_
  dsimp only [List.set]
  refine gq_iload_n dz_D_act_10 rfl ?_
  refine gq_if_lt (tgt := 28) dz_D_act_11 rfl (fun h11 => ?_) (fun h11 => ?_)
  · skip
    refine gq_iconst (v := -1) dz_D_act_28 rfl ?_
    refine gw_iretP .int dz_D_act_29 rfl (by first | rfl | exact zb_nar _) ?_ ?_
    · rfl
    · rfl
  · skip
    exact absurd hx h11
set_option maxHeartbeats 4000000 in
theorem sp_D_takeBack {σ : zq_T} {d : Fin 5} {A : za_D} (hA : zc_rep σ d A) {D : Nat} (hD : D < 2 ^ 31) (hp : D / 10 < za_n A) : zq_Sp zm_D_takeBack 2 [zq_O 10 d, zq_I (nI D)] σ (zq_rx (fun τ => zc_rep τ d (zs_back A D) ∧ zd_same d σ τ)) := by
  have hn6 := zc_n6 hA
  have hm5 := zc_m5 hA
  have hin := zb_in_nI hp (by omega)
  refine zq_sp [some (zq_O 10 d), some (zq_I (nI D)), none, none] (by decide +kernel) rfl (Nat.le_of_ble_eq_true rfl) (fun ν => ?_)
  refine gq_iload_n dz_D_takeBack_0 rfl ?_
  refine gq_bipush (v := 10) dz_D_takeBack_1 rfl ?_
  refine gq_idiv dz_D_takeBack_3 (by decide) ?_
  rw [show (10 : Int32) = nI 10 from rfl, pk_div hD (by omega) (by omega)]
  refine gw_istore_n 2 dz_D_takeBack_4 rfl (Nat.le_of_ble_eq_true rfl) rfl ?_
  dsimp only [List.set]
  refine gq_iload_n dz_D_takeBack_5 rfl ?_
  refine gq_bipush (v := 10) dz_D_takeBack_6 rfl ?_
  refine gq_irem dz_D_takeBack_8 (by decide) ?_
  rw [show (10 : Int32) = nI 10 from rfl, pk_rem hD (by omega) (by omega)]
  refine gw_istore_n 3 dz_D_takeBack_9 rfl (Nat.le_of_ble_eq_true rfl) rfl ?_
  dsimp only [List.set]
  refine gq_aload_n dz_D_takeBack_10 rfl ?_
  refine gq_iload_n dz_D_takeBack_11 rfl ?_
  refine gq_cV (sp_D_isOne hA _) zw_D_isOne zl_D_55 dz_D_takeBack_12 rfl rfl rfl (by decide) rfl rfl (Nat.le_of_ble_eq_true rfl) ?_
  refine gw_ifb_ne (tgt := 19) dz_D_takeBack_15 rfl (fun h15 => ?_) (fun h15 => ?_)
  · skip
    refine gq_iload_n dz_D_takeBack_19 rfl ?_
    refine gq_bipush (v := 6) dz_D_takeBack_20 rfl ?_
    refine gq_icmp_ne (tgt := 40) dz_D_takeBack_22 rfl (fun h22 => ?_) (fun h22 => ?_)
    · skip
      have h6 : ¬ D % 10 = 6 := fun q => h22 (by rw [q]; rfl)
      refine gq_iload_n dz_D_takeBack_40 rfl ?_
      refine gq_cSN (sp_S_isFact _) zw_S_isFact zl_D_90 dz_D_takeBack_41 (by decide) rfl rfl (Nat.le_of_ble_eq_true rfl) ?_
      refine gw_ifb_eq (tgt := 61) dz_D_takeBack_44 rfl (fun h44 => ?_) (fun h44 => ?_)
      · skip
        have h5 : ¬ D % 10 < 5 := fun q => by rw [zb_in_nI q (by omega)] at h44; cases h44
        refine gq_aload_n dz_D_takeBack_61 rfl ?_
        refine gq_getR 14 zf_D_21 rfl rfl dz_D_takeBack_62 ?_
        refine gq_iload_n dz_D_takeBack_65 rfl ?_
        refine gq_dup2 dz_D_takeBack_66 rfl rfl ?_
        refine gw_iald (D / 10) (rfl) rfl (rfl) (Nat.le_of_ble_eq_true rfl) (by omega) dz_D_takeBack_67 ?_
        rw [zc_tr hA (by omega)]
        refine gq_iconst (v := 1) dz_D_takeBack_68 rfl ?_
        refine gq_isub dz_D_takeBack_69 ?_
        refine gw_iast (D / 10) (rfl) rfl (rfl) (Nat.le_of_ble_eq_true rfl) (by omega) dz_D_takeBack_70 ?_
        refine gw_vretP dz_D_takeBack_71 rfl ?_
        · exact ⟨by rw [zs_back, if_neg h6, if_neg h5]; exact hA.st _ _, zd_same.rf.up (by omega) (by omega)⟩
      · skip
        have h5 : D % 10 < 5 := by obtain ⟨q, h1, h2⟩ := (zb_in_iff (by omega)).mp h44; rw [(nI_eq (by omega) (by omega)).mp h2]; exact h1
        refine gq_aload_n dz_D_takeBack_47 rfl ?_
        refine gq_getR 13 zf_D_18 rfl rfl dz_D_takeBack_48 ?_
        refine gq_iload_n dz_D_takeBack_51 rfl ?_
        refine gq_dup2 dz_D_takeBack_52 rfl rfl ?_
        refine gw_iald (D / 10) (rfl) rfl (rfl) (Nat.le_of_ble_eq_true rfl) (by omega) dz_D_takeBack_53 ?_
        rw [zc_fa hA (by omega)]
        refine gq_iconst (v := 1) dz_D_takeBack_54 rfl ?_
        refine gq_iload_n dz_D_takeBack_55 rfl ?_
        refine gq_ishl dz_D_takeBack_56 ?_
        refine gq_iconst (v := -1) dz_D_takeBack_57 rfl ?_
        refine gq_ixor dz_D_takeBack_58 ?_
        refine gq_iand dz_D_takeBack_59 ?_
        refine gw_iast (D / 10) (rfl) rfl (rfl) (Nat.le_of_ble_eq_true rfl) (by omega) dz_D_takeBack_60 ?_
        refine gq_aload_n dz_D_takeBack_61 rfl ?_
        refine gq_getR 14 zf_D_21 rfl rfl dz_D_takeBack_62 ?_
        refine gq_iload_n dz_D_takeBack_65 rfl ?_
        refine gq_dup2 dz_D_takeBack_66 rfl rfl ?_
        refine gw_iald (D / 10) (rfl) rfl (rfl) (Nat.le_of_ble_eq_true rfl) (by omega) dz_D_takeBack_67 ?_
        rw [zc_tr (hA.sf _ _) (by omega)]
        refine gq_iconst (v := 1) dz_D_takeBack_68 rfl ?_
        refine gq_isub dz_D_takeBack_69 ?_
        refine gw_iast (D / 10) (rfl) rfl (rfl) (Nat.le_of_ble_eq_true rfl) (by omega) dz_D_takeBack_70 ?_
        refine gw_vretP dz_D_takeBack_71 rfl ?_
        · exact ⟨by rw [zs_back, if_neg h6, if_pos h5]; exact (hA.sf _ _).st _ _, (zd_same.rf.up (by omega) (by omega)).up (by omega) (by omega)⟩
    · skip
      have h6 : D % 10 = 6 := (nI_eq (b := 6) (by omega) (by omega)).mp h22
      refine gq_aload_n dz_D_takeBack_25 rfl ?_
      refine gq_dup dz_D_takeBack_26 rfl ?_
      refine gq_getI zf_D_49 rfl rfl dz_D_takeBack_27 ?_
      rw [zc_g hA]
      refine gq_iconst (v := 1) dz_D_takeBack_30 rfl ?_
      refine gq_iload_n dz_D_takeBack_31 rfl ?_
      refine gq_ishl dz_D_takeBack_32 ?_
      refine gq_iconst (v := -1) dz_D_takeBack_33 rfl ?_
      refine gq_ixor dz_D_takeBack_34 ?_
      refine gq_iand dz_D_takeBack_35 ?_
      refine gq_putI zv_D_49 rfl rfl dz_D_takeBack_36 ?_
      refine gw_vretP dz_D_takeBack_39 rfl ?_
      · exact ⟨by rw [zs_back, if_pos h6]; exact hA.sg _, zd_same.rf.up (by omega) (by omega)⟩
  · skip
    rw [hin] at h15; cases h15
