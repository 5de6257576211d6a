/-! THE MODEL: best -/
theorem zv_back (f : Nat → Fin 5 → Nat → Int32) {p : Nat} (hp : p < 6) (x y : Int32) : zq_up (zq_up (zq_up (zq_up f 31 0 p x) 31 0 (6 + p) y) 31 0 p (f 31 0 p)) 31 0 (6 + p) (f 31 0 (6 + p)) = f := by
  funext t j k
  unfold zq_up
  by_cases h1 : t = 31 ∧ j = 0 ∧ k = 6 + p
  · rw [if_pos h1, h1.1, h1.2.1, h1.2.2]
  · rw [if_neg h1]
    by_cases h2 : t = 31 ∧ j = 0 ∧ k = p
    · rw [if_pos h2, h2.1, h2.2.1, h2.2.2]
    · rw [if_neg h2, if_neg h1, if_neg h2]
theorem zn_rep.of1 {σ τ : zq_T} {A : za_D} (h : zn_rep σ A) (e : τ.1 = σ.1) : zn_rep τ A := ⟨h.1.keep fun t k _ => by rw [e], h.2.keep h.1.2.1 fun k _ _ => by rw [e]⟩
theorem zn_32 (m : Nat) : (32 : Int32) * nI m = nI (32 * m) := by rw [show (32 : Int32) = nI 32 from rfl, pk_mul]
theorem lg_le0 {x y : Int64} : lg_cmp x y ≤ 0 ↔ ¬ y < x := ⟨fun h z => by have := lg_gt0.mpr z; exact absurd this (Int32.not_lt.mpr h), fun h => Int32.not_lt.mp fun z => h (lg_gt0.mp z)⟩
theorem zv_updE {f : Nat → Int64} {i : Nat} {y : Int64} : vp_updL f i y i = y := if_pos rfl
theorem zv_updN {f : Nat → Int64} {i k : Nat} {y : Int64} (h : ¬ k = i) : vp_updL f i y k = f k := if_neg h

set_option maxHeartbeats 4000000 in
theorem sp_M_stops {σ : zq_T} {A : za_D} (hA : zn_rep σ A) (hw : za_wf A) {p F T : Nat} (hp : p < za_n A) (hF : F < 32) (hT : T < 4) (t : Int32) : zq_Sp zm_M_stops 8 [zq_O 30 0, zq_I (nI p), zq_I t, zq_I (nI F), zq_I (nI T)] σ (zq_rv (zq_L (lN (zv_s A p t F T))) σ) := by
  have hn6 := zn_n6 hA
  have hm5 := zn_m5 hA
  refine zq_sp [some (zq_O 30 0), some (zq_I (nI p)), some (zq_I t), some (zq_I (nI F)), some (zq_I (nI T)), none, none, none] (by decide +kernel) rfl (Nat.le_of_ble_eq_true rfl) (fun ν => ?_)
  refine gq_aload_n dz_M_stops_0 rfl ?_
  refine gq_getR 31 zf_M_7 rfl rfl dz_M_stops_1 ?_
  refine gq_iload_n dz_M_stops_4 rfl ?_
  refine gw_iald (p) (rfl) rfl (rfl) (Nat.le_of_ble_eq_true rfl) (by omega) dz_M_stops_5 ?_
  refine gw_istore 5 dz_M_stops_6 (Nat.le_of_ble_eq_true rfl) rfl ?_
  dsimp only [List.set]
  refine gq_aload_n dz_M_stops_8 rfl ?_
  refine gq_getR 31 zf_M_7 rfl rfl dz_M_stops_9 ?_
  refine gq_bipush (v := 6) dz_M_stops_12 rfl ?_
  refine gq_iload_n dz_M_stops_14 rfl ?_
  refine gq_iadd dz_M_stops_15 ?_
  refine gw_iald (6 + p) (by rw [show (6 : Int32) = nI 6 from rfl, nI_add]) rfl (rfl) (Nat.le_of_ble_eq_true rfl) (by omega) dz_M_stops_16 ?_
  refine gw_istore 6 dz_M_stops_17 (Nat.le_of_ble_eq_true rfl) rfl ?_
  dsimp only [List.set]
  refine gq_aload_n dz_M_stops_19 rfl ?_
  refine gq_getR 31 zf_M_7 rfl rfl dz_M_stops_20 ?_
  refine gq_iload_n dz_M_stops_23 rfl ?_
  refine gq_iload_n dz_M_stops_24 rfl ?_
  refine gw_iast (p) (rfl) rfl (rfl) (Nat.le_of_ble_eq_true rfl) (by omega) dz_M_stops_25 ?_
  refine gq_aload_n dz_M_stops_26 rfl ?_
  refine gq_getR 31 zf_M_7 rfl rfl dz_M_stops_27 ?_
  refine gq_bipush (v := 6) dz_M_stops_30 rfl ?_
  refine gq_iload_n dz_M_stops_32 rfl ?_
  refine gq_iadd dz_M_stops_33 ?_
  refine gq_iload dz_M_stops_34 rfl ?_
  refine gw_iast (6 + p) (by rw [show (6 : Int32) = nI 6 from rfl, nI_add]) rfl (rfl) (Nat.le_of_ble_eq_true rfl) (by omega) dz_M_stops_36 ?_
  have hA2 := (hA.sf (p := p) (by omega) (nI F)).st (p := p) (by omega) (nI T)
  have hw2 := (hw.sf p hF).st p hT
  refine gq_aload_n dz_M_stops_37 rfl ?_
  refine gq_iload_n dz_M_stops_38 rfl ?_
  refine gq_aload_n dz_M_stops_39 rfl ?_
  refine gq_getR 31 zf_M_7 rfl rfl dz_M_stops_40 ?_
  refine gq_bipush (v := 12) dz_M_stops_43 rfl ?_
  refine gw_iald (12) (rfl) rfl (rfl) (Nat.le_of_ble_eq_true rfl) (by omega) dz_M_stops_45 ?_
  rw [zn_g hA2]
  refine gq_cV (sp_M_ownerIn hA2 hw2 _ _) zw_M_ownerIn zl_M_220 dz_M_stops_46 rfl rfl rfl (by decide) rfl rfl (Nat.le_of_ble_eq_true rfl) ?_
  refine gq_iload_n dz_M_stops_49 rfl ?_
  refine gq_icmp_ne (tgt := 57) dz_M_stops_50 rfl (fun h50 => ?_) (fun h50 => ?_)
  · skip
    refine gq_iconst (v := 0) dz_M_stops_57 rfl ?_
    refine gw_istore 7 dz_M_stops_58 (Nat.le_of_ble_eq_true rfl) rfl ?_
    dsimp only [List.set]
    refine gq_aload_n dz_M_stops_60 rfl ?_
    refine gq_getR 31 zf_M_7 rfl rfl dz_M_stops_61 ?_
    refine gq_iload_n dz_M_stops_64 rfl ?_
    refine gq_iload dz_M_stops_65 rfl ?_
    refine gw_iast (p) (rfl) rfl (rfl) (Nat.le_of_ble_eq_true rfl) (by omega) dz_M_stops_67 ?_
    refine gq_aload_n dz_M_stops_68 rfl ?_
    refine gq_getR 31 zf_M_7 rfl rfl dz_M_stops_69 ?_
    refine gq_bipush (v := 6) dz_M_stops_72 rfl ?_
    refine gq_iload_n dz_M_stops_74 rfl ?_
    refine gq_iadd dz_M_stops_75 ?_
    refine gq_iload dz_M_stops_76 rfl ?_
    refine gw_iast (6 + p) (by rw [show (6 : Int32) = nI 6 from rfl, nI_add]) rfl (rfl) (Nat.le_of_ble_eq_true rfl) (by omega) dz_M_stops_78 ?_
    refine gq_iload dz_M_stops_79 rfl ?_
    refine gq_if_eq (tgt := 88) dz_M_stops_81 rfl (fun h81 => ?_) (fun h81 => ?_)
    · skip
      have hv : zv_s A p t F T = 0 := if_neg h50
      refine gq_lconst (v := 0) dz_M_stops_88 rfl ?_
      refine gw_lret dz_M_stops_89 rfl ?_ ?_
      · rw [hv]; rfl
      · exact Prod.ext (zv_back σ.1 (by omega) (nI F) (nI T)) rfl
    · skip
      exact absurd rfl h81
  · skip
    refine gq_iconst (v := 1) dz_M_stops_53 rfl ?_
    refine gq_goto (tgt := 58) dz_M_stops_54 rfl ?_
    refine gw_istore 7 dz_M_stops_58 (Nat.le_of_ble_eq_true rfl) rfl ?_
    dsimp only [List.set]
    refine gq_aload_n dz_M_stops_60 rfl ?_
    refine gq_getR 31 zf_M_7 rfl rfl dz_M_stops_61 ?_
    refine gq_iload_n dz_M_stops_64 rfl ?_
    refine gq_iload dz_M_stops_65 rfl ?_
    refine gw_iast (p) (rfl) rfl (rfl) (Nat.le_of_ble_eq_true rfl) (by omega) dz_M_stops_67 ?_
    refine gq_aload_n dz_M_stops_68 rfl ?_
    refine gq_getR 31 zf_M_7 rfl rfl dz_M_stops_69 ?_
    refine gq_bipush (v := 6) dz_M_stops_72 rfl ?_
    refine gq_iload_n dz_M_stops_74 rfl ?_
    refine gq_iadd dz_M_stops_75 ?_
    refine gq_iload dz_M_stops_76 rfl ?_
    refine gw_iast (6 + p) (by rw [show (6 : Int32) = nI 6 from rfl, nI_add]) rfl (rfl) (Nat.le_of_ble_eq_true rfl) (by omega) dz_M_stops_78 ?_
    refine gq_iload dz_M_stops_79 rfl ?_
    refine gq_if_eq (tgt := 88) dz_M_stops_81 rfl (fun h81 => ?_) (fun h81 => ?_)
    · skip
      exact absurd h81 (by decide)
    · skip
      have hv : zv_s A p t F T = 1 := if_pos h50
      refine gq_lconst (v := 1) dz_M_stops_84 rfl ?_
      refine gq_goto (tgt := 89) dz_M_stops_85 rfl ?_
      refine gw_lret dz_M_stops_89 rfl ?_ ?_
      · rw [hv]; rfl
      · exact Prod.ext (zv_back σ.1 (by omega) (nI F) (nI T)) rfl
set_option maxHeartbeats 4000000 in
theorem sp_M_tens {σ : zq_T} {m : Nat} (hm : m ≤ 3) : zq_Sp zm_M_tens 0 [zq_I (nI m)] σ (zq_rv (zq_L (lN (10 ^ m))) σ) := by
  refine zq_sp [some (zq_I (nI m))] (by decide +kernel) rfl (Nat.le_of_ble_eq_true rfl) (fun ν => ?_)
  refine gq_iload_n dz_M_tens_0 rfl ?_
  refine gq_if_ne (tgt := 8) dz_M_tens_1 rfl (fun h1 => ?_) (fun h1 => ?_)
  · skip
    refine gq_iload_n dz_M_tens_8 rfl ?_
    refine gq_iconst (v := 1) dz_M_tens_9 rfl ?_
    refine gq_icmp_ne (tgt := 19) dz_M_tens_10 rfl (fun h10 => ?_) (fun h10 => ?_)
    · skip
      refine gq_iload_n dz_M_tens_19 rfl ?_
      refine gq_iconst (v := 2) dz_M_tens_20 rfl ?_
      refine gq_icmp_ne (tgt := 30) dz_M_tens_21 rfl (fun h21 => ?_) (fun h21 => ?_)
      · skip
        refine gq_ldc2 zl_M_271 dz_M_tens_30 ?_
        refine gw_lret dz_M_tens_33 rfl ?_ ?_
        · rw [show m = 3 from by have h1 : ¬ m = 0 := fun z => h1 (by rw [z]; rfl); have h2 : ¬ m = 1 := fun z => h10 (by rw [z]; rfl); have h3 : ¬ m = 2 := fun z => h21 (by rw [z]; rfl); omega]; rfl
        · rfl
      · skip
        refine gq_ldc2 zl_M_269 dz_M_tens_24 ?_
        refine gq_goto (tgt := 33) dz_M_tens_27 rfl ?_
        refine gw_lret dz_M_tens_33 rfl ?_ ?_
        · rw [show m = 2 from (nI_eq (b := 2) (by omega) (by omega)).mp h21]; rfl
        · rfl
    · skip
      refine gq_ldc2 zl_M_239 dz_M_tens_13 ?_
      refine gq_goto (tgt := 33) dz_M_tens_16 rfl ?_
      refine gw_lret dz_M_tens_33 rfl ?_ ?_
      · rw [show m = 1 from (nI_eq (b := 1) (by omega) (by omega)).mp h10]; rfl
      · rfl
  · skip
    refine gq_lconst (v := 1) dz_M_tens_4 rfl ?_
    refine gq_goto (tgt := 33) dz_M_tens_5 rfl ?_
    refine gw_lret dz_M_tens_33 rfl ?_ ?_
    · rw [show m = 0 from (nI_eq (b := 0) (by omega) (by omega)).mp h1]; rfl
    · rfl
set_option maxHeartbeats 4000000 in
theorem sp_M_triesFor {σ : zq_T} {A : za_D} (hA : zn_rep σ A) (hw : za_wf A) {f m F : Nat} {V : Nat → Nat} (hf : f < 5) (hm : m < 3) (hF : F < 32) (hV : ∀ G, G < 32 → σ.2.1 (32 * m + G) = lN (V G)) : zq_Sp zm_M_triesFor 0 [zq_O 30 0, zq_I (nI f), zq_I (nI (m + 1)), zq_I (nI F)] σ (zq_rv (zq_L (lN (zv_v A F V f))) σ) := by
  obtain ⟨ho, ho2⟩ := zv_oe hw hf
  have h32 := zv_or32 hF hf
  refine zq_sp [some (zq_O 30 0), some (zq_I (nI f)), some (zq_I (nI (m + 1))), some (zq_I (nI F)), none] (by decide +kernel) rfl (Nat.le_of_ble_eq_true rfl) (fun ν => ?_)
  refine gq_aload_n dz_M_triesFor_0 rfl ?_
  refine gq_getR 31 zf_M_7 rfl rfl dz_M_triesFor_1 ?_
  refine gq_bipush (v := 13) dz_M_triesFor_4 rfl ?_
  refine gq_iload_n dz_M_triesFor_6 rfl ?_
  refine gq_iadd dz_M_triesFor_7 ?_
  refine gw_iald (13 + f) (by rw [show (13 : Int32) = nI 13 from rfl, nI_add]) rfl (rfl) (Nat.le_of_ble_eq_true rfl) (by omega) dz_M_triesFor_8 ?_
  rw [zn_od hA hf]
  refine gq_iconst (v := 5) dz_M_triesFor_9 rfl ?_
  refine gq_iadd dz_M_triesFor_10 ?_
  rw [Int32.sub_add_cancel, ho]
  refine gw_istore 4 dz_M_triesFor_11 (Nat.le_of_ble_eq_true rfl) rfl ?_
  dsimp only [List.set]
  refine gq_iload dz_M_triesFor_13 rfl ?_
  refine gq_i2l dz_M_triesFor_15 ?_
  rw [nI_l (by omega)]
  refine gq_aload_n dz_M_triesFor_16 rfl ?_
  refine gq_getR 42 zf_M_43 rfl rfl dz_M_triesFor_17 ?_
  refine gq_bipush (v := 32) dz_M_triesFor_20 rfl ?_
  refine gq_iload_n dz_M_triesFor_22 rfl ?_
  refine gq_iconst (v := 1) dz_M_triesFor_23 rfl ?_
  refine gq_isub dz_M_triesFor_24 ?_
  rw [nI_pred]
  refine gq_imul dz_M_triesFor_25 ?_
  rw [zn_32]
  refine gq_iload_n dz_M_triesFor_26 rfl ?_
  refine gq_iconst (v := 1) dz_M_triesFor_27 rfl ?_
  refine gq_iload_n dz_M_triesFor_28 rfl ?_
  refine gq_ishl dz_M_triesFor_29 ?_
  refine gq_ior dz_M_triesFor_30 ?_
  rw [zm_or ⟨F, by omega⟩ ⟨f, by omega⟩]
  refine gq_iadd dz_M_triesFor_31 ?_
  rw [nI_add]
  refine gw_lald (32 * m + (F ||| 2 ^ f)) (rfl) rfl (rfl) (Nat.le_of_ble_eq_true rfl) (by omega) dz_M_triesFor_32 ?_
  rw [hV _ h32]
  refine gq_lmul dz_M_triesFor_33 ?_
  rw [lN_mul]
  refine gq_bipush (v := 10) dz_M_triesFor_34 rfl ?_
  refine gq_iload dz_M_triesFor_36 rfl ?_
  refine gq_isub dz_M_triesFor_38 ?_
  rw [show (10 : Int32) = nI 10 from rfl, pk_sub ho2]
  refine gq_i2l dz_M_triesFor_39 ?_
  rw [nI_l (by omega)]
  refine gq_aload_n dz_M_triesFor_40 rfl ?_
  refine gq_getR 42 zf_M_43 rfl rfl dz_M_triesFor_41 ?_
  refine gq_bipush (v := 32) dz_M_triesFor_44 rfl ?_
  refine gq_iload_n dz_M_triesFor_46 rfl ?_
  refine gq_iconst (v := 1) dz_M_triesFor_47 rfl ?_
  refine gq_isub dz_M_triesFor_48 ?_
  rw [nI_pred]
  refine gq_imul dz_M_triesFor_49 ?_
  rw [zn_32]
  refine gq_iload_n dz_M_triesFor_50 rfl ?_
  refine gq_iadd dz_M_triesFor_51 ?_
  rw [nI_add]
  refine gw_lald (32 * m + F) (rfl) rfl (rfl) (Nat.le_of_ble_eq_true rfl) (by omega) dz_M_triesFor_52 ?_
  rw [hV _ hF]
  refine gq_lmul dz_M_triesFor_53 ?_
  rw [lN_mul]
  refine gq_ladd dz_M_triesFor_54 ?_
  rw [lN_add]
  refine gw_lret dz_M_triesFor_55 rfl ?_ ?_
  · rfl
  · rfl
set_option maxHeartbeats 4000000 in
theorem sp_M_layValues {σ : zq_T} {A : za_D} (hA : zn_rep σ A) (hw : za_wf A) {p T M : Nat} (hp : p < za_n A) (hT : za_tr A p = nI T) (hM : T + M ≤ 3) (t : Int32) : zq_Sp zm_M_layValues 9 [zq_O 30 0, zq_I (nI p), zq_I t, zq_I (nI M)] σ (zq_rx (fun τ => τ.1 = σ.1 ∧ τ.2.2 = σ.2.2 ∧ ∀ m, m ≤ M → ∀ F, F < 32 → τ.2.1 (32 * m + F) = lN (zv A p t m F (T + M - m)))) := by
  have hn6 := zn_n6 hA
  have hm5 := zn_m5 hA
  refine zq_sp [some (zq_O 30 0), some (zq_I (nI p)), some (zq_I t), some (zq_I (nI M)), none, none, none, none, none, none, none] (by decide +kernel) rfl (Nat.le_of_ble_eq_true rfl) (fun ν => ?_)
  refine gq_iconst (v := 0) dz_M_layValues_0 rfl ?_
  refine gw_istore 4 dz_M_layValues_1 (Nat.le_of_ble_eq_true rfl) rfl ?_
  dsimp only [List.set]
  have L3 : ∀ (kf : Nat) (m : Nat) (τ : zq_T) (hkf : M + 1 - m < kf) (hm : m ≤ M + 1) (h1 : τ.1 = σ.1) (h2 : τ.2.2 = σ.2.2) (hV : ∀ m2, m2 < m → ∀ F2, F2 < 32 → τ.2.1 (32 * m2 + F2) = lN (zv A p t m2 F2 (T + M - m2))), zq_G ν zm_M_layValues 9 (zq_rx (fun τ => τ.1 = σ.1 ∧ τ.2.2 = σ.2.2 ∧ ∀ m, m ≤ M → ∀ F, F < 32 → τ.2.1 (32 * m + F) = lN (zv A p t m F (T + M - m)))) 3 [some (zq_O 30 0), some (zq_I (nI p)), some (zq_I t), some (zq_I (nI M)), some (zq_I (nI m)), none, none, none, none, none, none] [] τ := by
    intro kf
    induction kf with
    | zero => intro m τ hkf hm h1 h2 hV; exact absurd hkf (Nat.not_lt_zero _)
    | succ kf ih3 =>
      intro m τ hkf hm h1 h2 hV
      refine gq_iload dz_M_layValues_3 rfl ?_
      refine gq_iload_n dz_M_layValues_5 rfl ?_
      refine gq_icmp_gt (tgt := 140) dz_M_layValues_6 rfl (fun h6 => ?_) (fun h6 => ?_)
      · skip
        have hm2 : M < m := (nI_ltI (by omega) (by omega)).mp h6
        refine gw_vretP dz_M_layValues_140 rfl ?_
        · exact ⟨h1, h2, fun m3 z F2 hF2 => hV m3 (by omega) F2 hF2⟩
      · skip
        have hm2 : m ≤ M := by rcases Nat.lt_or_ge M m with z | z; exact absurd (nI_lt z (by omega)) h6; exact z
        refine gq_iconst (v := 0) dz_M_layValues_9 rfl ?_
        refine gw_istore 5 dz_M_layValues_10 (Nat.le_of_ble_eq_true rfl) rfl ?_
        dsimp only [List.set]
        have L12 : ∀ (kf : Nat) (F : Nat) (τ2 : zq_T) (hkf : 32 - F < kf) (hF : F ≤ 32) (hk1 : τ2.1 = σ.1) (hk2 : τ2.2.2 = σ.2.2) (hV2 : ∀ m2, m2 < m → ∀ F2, F2 < 32 → τ2.2.1 (32 * m2 + F2) = lN (zv A p t m2 F2 (T + M - m2))) (hVm : ∀ F2, F2 < F → τ2.2.1 (32 * m + F2) = lN (zv A p t m F2 (T + M - m))), zq_G ν zm_M_layValues 9 (zq_rx (fun τ => τ.1 = σ.1 ∧ τ.2.2 = σ.2.2 ∧ ∀ m, m ≤ M → ∀ F, F < 32 → τ.2.1 (32 * m + F) = lN (zv A p t m F (T + M - m)))) 12 [some (zq_O 30 0), some (zq_I (nI p)), some (zq_I t), some (zq_I (nI M)), some (zq_I (nI m)), some (zq_I (nI F)), none, none, none, none, none] [] τ2 := by
          intro kf
          induction kf with
          | zero => intro F τ2 hkf hF hk1 hk2 hV2 hVm; exact absurd hkf (Nat.not_lt_zero _)
          | succ kf ih12 =>
            intro F τ2 hkf hF hk1 hk2 hV2 hVm
            have hA2 := hA.of1 hk1
            refine gq_iload dz_M_layValues_12 rfl ?_
            refine gq_bipush (v := 32) dz_M_layValues_14 rfl ?_
            refine gq_icmp_ge (tgt := 134) dz_M_layValues_16 rfl (fun h16 => ?_) (fun h16 => ?_)
            · skip
              have hF2 : F = 32 := by have := (nI_leI (a := 32) (by omega) (by omega)).mp h16; omega
              subst hF2
              refine gw_iinc 4 (c := 1) dz_M_layValues_134 rfl rfl (Nat.le_of_ble_eq_true rfl) rfl ?_
              dsimp only [List.set]
              refine gq_goto (tgt := 3) dz_M_layValues_137 rfl ?_
              simp only [nI_1]
              exact zq_fewer _ (zq_sub_spec (by repeat (first | exact trivial | exact rfl | refine And.intro ?_ ?_))) (ih3 (m + 1) τ2 (by omega) (by omega) hk1 hk2 (fun m2 z F2 hF2 => by rcases Nat.lt_or_ge m2 m with y | y; exact hV2 m2 y F2 hF2; rw [show m2 = m by omega]; exact hVm F2 hF2))
            · skip
              have hF2 : F < 32 := (nI_ltI (b := 32) (by omega) (by omega)).mp (Int32.not_le.mp h16)
              refine gq_aload_n dz_M_layValues_19 rfl ?_
              refine gq_iload_n dz_M_layValues_20 rfl ?_
              refine gq_iload_n dz_M_layValues_21 rfl ?_
              refine gq_iload dz_M_layValues_22 rfl ?_
              refine gq_aload_n dz_M_layValues_24 rfl ?_
              refine gq_getR 31 zf_M_7 rfl rfl dz_M_layValues_25 ?_
              refine gq_bipush (v := 6) dz_M_layValues_28 rfl ?_
              refine gq_iload_n dz_M_layValues_30 rfl ?_
              refine gq_iadd dz_M_layValues_31 ?_
              refine gw_iald (6 + p) (by rw [show (6 : Int32) = nI 6 from rfl, nI_add]) rfl (rfl) (Nat.le_of_ble_eq_true rfl) (by omega) dz_M_layValues_32 ?_
              rw [zn_tr hA2 (by omega), hT]
              refine gq_iload_n dz_M_layValues_33 rfl ?_
              refine gq_iadd dz_M_layValues_34 ?_
              rw [nI_add]
              refine gq_iload dz_M_layValues_35 rfl ?_
              refine gq_isub dz_M_layValues_37 ?_
              rw [pk_sub (by omega)]
              refine gq_cV (sp_M_stops (F := F) (T := T + M - m) hA2 hw hp (by omega) (by omega) t) zw_M_stops zl_M_273 dz_M_layValues_38 rfl rfl rfl (by decide) rfl rfl (Nat.le_of_ble_eq_true rfl) ?_
              refine gq_iload dz_M_layValues_41 rfl ?_
              refine gq_cS (sp_M_tens (m := m) (by omega)) zw_M_tens zl_M_277 dz_M_layValues_43 (by decide) rfl rfl (Nat.le_of_ble_eq_true rfl) ?_
              refine gq_lmul dz_M_layValues_46 ?_
              rw [lN_mul]
              refine gw_lstore 6 dz_M_layValues_47 (Nat.le_of_ble_eq_true rfl) rfl ?_
              dsimp only [List.set]
              refine gq_iconst (v := 0) dz_M_layValues_49 rfl ?_
              refine gw_istore 8 dz_M_layValues_50 (Nat.le_of_ble_eq_true rfl) rfl ?_
              dsimp only [List.set]
              have L52 : ∀ (kf : Nat) (f x : Nat) (hkf : 5 - f < kf) (hf : f ≤ 5) (hx0 : m = 0 → x = zv A p t m F (T + M - m)) (hx1 : ∀ m2, m = m2 + 1 → x = zf_fo (zv_f A F (fun G => zv A p t m2 G (T + M - m2))) (zv_s A p t F (T + M - m) * 10 ^ m) f), zq_G ν zm_M_layValues 9 (zq_rx (fun τ => τ.1 = σ.1 ∧ τ.2.2 = σ.2.2 ∧ ∀ m, m ≤ M → ∀ F, F < 32 → τ.2.1 (32 * m + F) = lN (zv A p t m F (T + M - m)))) 52 [some (zq_O 30 0), some (zq_I (nI p)), some (zq_I t), some (zq_I (nI M)), some (zq_I (nI m)), some (zq_I (nI F)), some (zq_L (lN x)), none, some (zq_I (nI f)), none, none] [] τ2 := by
                intro kf
                induction kf with
                | zero => intro f x hkf hf hx0 hx1; exact absurd hkf (Nat.not_lt_zero _)
                | succ kf ih52 =>
                  intro f x hkf hf hx0 hx1
                  refine gq_iload dz_M_layValues_52 rfl ?_
                  refine gq_iconst (v := 5) dz_M_layValues_54 rfl ?_
                  refine gq_icmp_ge (tgt := 113) dz_M_layValues_55 rfl (fun h55 => ?_) (fun h55 => ?_)
                  · skip
                    have hf5 : f = 5 := by have := (nI_leI (a := 5) (by omega) (by omega)).mp h55; omega
                    have hx : x = zv A p t m F (T + M - m) := by rcases Nat.eq_zero_or_pos m with z | z; exact hx0 z; obtain ⟨m2, rfl⟩ : ∃ m2, m = m2 + 1 := ⟨m - 1, by omega⟩; rw [hx1 m2 rfl, hf5, zv, show T + M - (m2 + 1) + 1 = T + M - m2 by omega]
                    refine gq_aload_n dz_M_layValues_113 rfl ?_
                    refine gq_getR 42 zf_M_43 rfl rfl dz_M_layValues_114 ?_
                    refine gq_bipush (v := 32) dz_M_layValues_117 rfl ?_
                    refine gq_iload dz_M_layValues_119 rfl ?_
                    refine gq_imul dz_M_layValues_121 ?_
                    rw [zn_32]
                    refine gq_iload dz_M_layValues_122 rfl ?_
                    refine gq_iadd dz_M_layValues_124 ?_
                    rw [nI_add]
                    refine gq_lload dz_M_layValues_125 rfl ?_
                    refine gw_last (32 * m + F) (rfl) (by omega) dz_M_layValues_127 ?_
                    refine gw_iinc 5 (c := 1) dz_M_layValues_128 rfl rfl (Nat.le_of_ble_eq_true rfl) rfl ?_
                    dsimp only [List.set]
                    refine gq_goto (tgt := 12) dz_M_layValues_131 rfl ?_
                    simp only [nI_1]
                    exact zq_fewer _ (zq_sub_spec (by repeat (first | exact trivial | exact rfl | refine And.intro ?_ ?_))) (ih12 (F + 1) (τ2.1, vp_updL τ2.2.1 (32 * m + F) (lN x), τ2.2.2) (by omega) (by omega) hk1 hk2 (fun m2 z F2 hF2 => (zv_updN (by omega)).trans (hV2 m2 z F2 hF2)) (fun F2 z => by rcases Nat.lt_or_ge F2 F with y | y; exact (zv_updN (by omega)).trans (hVm F2 y); rw [show F2 = F by omega, ← hx]; exact zv_updE))
                  · skip
                    have hf2 : f < 5 := (nI_ltI (b := 5) (by omega) (by omega)).mp (Int32.not_le.mp h55)
                    refine gq_iload dz_M_layValues_58 rfl ?_
                    refine gq_if_le (tgt := 113) dz_M_layValues_60 rfl (fun h60 => ?_) (fun h60 => ?_)
                    · skip
                      have hm0 : m = 0 := by rcases Nat.eq_zero_or_pos m with z | z; exact z; exact absurd (nI_lt (a := 0) z (by omega)) (Int32.not_lt.mpr h60)
                      have hx : x = zv A p t m F (T + M - m) := hx0 hm0
                      refine gq_aload_n dz_M_layValues_113 rfl ?_
                      refine gq_getR 42 zf_M_43 rfl rfl dz_M_layValues_114 ?_
                      refine gq_bipush (v := 32) dz_M_layValues_117 rfl ?_
                      refine gq_iload dz_M_layValues_119 rfl ?_
                      refine gq_imul dz_M_layValues_121 ?_
                      rw [zn_32]
                      refine gq_iload dz_M_layValues_122 rfl ?_
                      refine gq_iadd dz_M_layValues_124 ?_
                      rw [nI_add]
                      refine gq_lload dz_M_layValues_125 rfl ?_
                      refine gw_last (32 * m + F) (rfl) (by omega) dz_M_layValues_127 ?_
                      refine gw_iinc 5 (c := 1) dz_M_layValues_128 rfl rfl (Nat.le_of_ble_eq_true rfl) rfl ?_
                      dsimp only [List.set]
                      refine gq_goto (tgt := 12) dz_M_layValues_131 rfl ?_
                      simp only [nI_1]
                      exact zq_fewer _ (zq_sub_spec (by repeat (first | exact trivial | exact rfl | refine And.intro ?_ ?_))) (ih12 (F + 1) (τ2.1, vp_updL τ2.2.1 (32 * m + F) (lN x), τ2.2.2) (by omega) (by omega) hk1 hk2 (fun m2 z F2 hF2 => (zv_updN (by omega)).trans (hV2 m2 z F2 hF2)) (fun F2 z => by rcases Nat.lt_or_ge F2 F with y | y; exact (zv_updN (by omega)).trans (hVm F2 y); rw [show F2 = F by omega, ← hx]; exact zv_updE))
                    · skip
                      have hm0 : 0 < m := (nI_ltI (a := 0) (by omega) (by omega)).mp (Int32.not_le.mp h60)
                      obtain ⟨m2, rfl⟩ : ∃ m2, m = m2 + 1 := ⟨m - 1, by omega⟩
                      have hWb : zv_w A F (fun G => zv A p t m2 G (T + M - m2)) f ≤ 10 * 10 ^ m2 := zv_w_le hw (by omega) (fun G => zv_le hw _ _ _)
                      have hxb : x ≤ 10 * 10 ^ m2 := by rw [hx1 m2 rfl]; exact zv_fo_le hw (fun G => zv_le hw _ _ _) (by rw [Nat.pow_succ, Nat.mul_comm (10 ^ m2) 10]; exact Nat.le_trans (Nat.mul_le_mul_right _ zv_s_le) (by omega)) f (by omega)
                      have h10 : 10 ^ m2 ≤ 1000 := Nat.pow_le_pow_right (n := 10) (by decide) (show m2 ≤ 3 by omega)
                      refine gq_iload dz_M_layValues_63 rfl ?_
                      refine gq_iload dz_M_layValues_65 rfl ?_
                      refine gq_ishr dz_M_layValues_67 ?_
                      refine gq_iconst (v := 1) dz_M_layValues_68 rfl ?_
                      refine gq_iand dz_M_layValues_69 ?_
                      refine gq_iconst (v := 1) dz_M_layValues_70 rfl ?_
                      refine gq_icmp_ne (tgt := 78) dz_M_layValues_71 rfl (fun h71 => ?_) (fun h71 => ?_)
                      · skip
                        have hbt : F.testBit f = false := by rcases hb : F.testBit f with _ | _; rfl; exact absurd (zb_bv1.mpr ((zn_bitn (by omega) (by omega)).trans hb)) h71
                        have hW : zv_w A F (fun G => zv A p t m2 G (T + M - m2)) f = zv_v A F (fun G => zv A p t m2 G (T + M - m2)) f := by rw [zv_w, hbt]; rfl
                        refine gq_aload_n dz_M_layValues_78 rfl ?_
                        refine gq_iload dz_M_layValues_79 rfl ?_
                        refine gq_iload dz_M_layValues_81 rfl ?_
                        refine gq_iload dz_M_layValues_83 rfl ?_
                        refine gq_cV (sp_M_triesFor (f := f) (m := m2) (F := F) (V := (fun G => zv A p t m2 G (T + M - m2))) hA2 hw (by omega) (by omega) (by omega) (fun G hG => hV2 m2 (by omega) G hG)) zw_M_triesFor zl_M_281 dz_M_layValues_85 rfl rfl rfl (by decide) rfl rfl (Nat.le_of_ble_eq_true rfl) ?_
                        rw [← hW]
                        refine gw_lstore 9 dz_M_layValues_88 (Nat.le_of_ble_eq_true rfl) rfl ?_
                        dsimp only [List.set]
                        refine gq_lload dz_M_layValues_90 rfl ?_
                        refine gq_lload dz_M_layValues_92 rfl ?_
                        refine gq_lcmp dz_M_layValues_94 ?_
                        refine gq_if_le (tgt := 103) dz_M_layValues_95 rfl (fun h95 => ?_) (fun h95 => ?_)
                        · skip
                          have hle : ¬ x < zv_w A F (fun G => zv A p t m2 G (T + M - m2)) f := fun z => lg_le0.mp h95 ((pk_lLT (by omega) (by omega)).mpr z)
                          refine gq_lload dz_M_layValues_103 rfl ?_
                          refine gw_lstore 6 dz_M_layValues_105 (Nat.le_of_ble_eq_true rfl) rfl ?_
                          dsimp only [List.set]
                          refine gw_iinc 8 (c := 1) dz_M_layValues_107 rfl rfl (Nat.le_of_ble_eq_true rfl) rfl ?_
                          dsimp only [List.set]
                          refine gq_goto (tgt := 52) dz_M_layValues_110 rfl ?_
                          simp only [nI_1]
                          exact zq_fewer _ (zq_sub_spec (by repeat (first | exact trivial | exact rfl | refine And.intro ?_ ?_))) (ih52 (f + 1) x (by omega) (by omega) (fun z => absurd z (Nat.succ_ne_zero _)) (fun m3 z => by obtain rfl : m2 = m3 := (by omega); rw [zf_fo, ← hx1 m2 rfl]; exact (if_neg hle).symm))
                        · skip
                          have hle : x < zv_w A F (fun G => zv A p t m2 G (T + M - m2)) f := by rcases Nat.lt_or_ge x (zv_w A F (fun G => zv A p t m2 G (T + M - m2)) f) with z | z; exact z; exact absurd (lg_le0.mpr (fun y => by have := (pk_lLT (by omega) (by omega)).mp y; omega)) h95
                          refine gq_lload dz_M_layValues_98 rfl ?_
                          refine gq_goto (tgt := 105) dz_M_layValues_100 rfl ?_
                          refine gw_lstore 6 dz_M_layValues_105 (Nat.le_of_ble_eq_true rfl) rfl ?_
                          dsimp only [List.set]
                          refine gw_iinc 8 (c := 1) dz_M_layValues_107 rfl rfl (Nat.le_of_ble_eq_true rfl) rfl ?_
                          dsimp only [List.set]
                          refine gq_goto (tgt := 52) dz_M_layValues_110 rfl ?_
                          simp only [nI_1]
                          exact zq_fewer _ (zq_sub_spec (by repeat (first | exact trivial | exact rfl | refine And.intro ?_ ?_))) (ih52 (f + 1) (zv_w A F (fun G => zv A p t m2 G (T + M - m2)) f) (by omega) (by omega) (fun z => absurd z (Nat.succ_ne_zero _)) (fun m3 z => by obtain rfl : m2 = m3 := (by omega); rw [zf_fo, ← hx1 m2 rfl]; exact (if_pos hle).symm))
                      · skip
                        have hbt : F.testBit f = true := (zn_bitn (by omega) (by omega)).symm.trans (zb_bv1.mp h71)
                        have hW : zv_w A F (fun G => zv A p t m2 G (T + M - m2)) f = 0 := by rw [zv_w, hbt]; rfl
                        refine gq_lconst (v := 0) dz_M_layValues_74 rfl ?_
                        refine gq_goto (tgt := 88) dz_M_layValues_75 rfl ?_
                        refine gw_lstore 9 dz_M_layValues_88 (Nat.le_of_ble_eq_true rfl) rfl ?_
                        dsimp only [List.set]
                        refine gq_lload dz_M_layValues_90 rfl ?_
                        refine gq_lload dz_M_layValues_92 rfl ?_
                        refine gq_lcmp dz_M_layValues_94 ?_
                        refine gq_if_le (tgt := 103) dz_M_layValues_95 rfl (fun h95 => ?_) (fun h95 => ?_)
                        · skip
                          have hle : ¬ x < zv_w A F (fun G => zv A p t m2 G (T + M - m2)) f := by rw [hW]; exact Nat.not_lt_zero _
                          refine gq_lload dz_M_layValues_103 rfl ?_
                          refine gw_lstore 6 dz_M_layValues_105 (Nat.le_of_ble_eq_true rfl) rfl ?_
                          dsimp only [List.set]
                          refine gw_iinc 8 (c := 1) dz_M_layValues_107 rfl rfl (Nat.le_of_ble_eq_true rfl) rfl ?_
                          dsimp only [List.set]
                          refine gq_goto (tgt := 52) dz_M_layValues_110 rfl ?_
                          simp only [nI_1]
                          exact zq_fewer _ (zq_sub_spec (by repeat (first | exact trivial | exact rfl | refine And.intro ?_ ?_))) (ih52 (f + 1) x (by omega) (by omega) (fun z => absurd z (Nat.succ_ne_zero _)) (fun m3 z => by obtain rfl : m2 = m3 := (by omega); rw [zf_fo, ← hx1 m2 rfl]; exact (if_neg hle).symm))
                        · skip
                          exact absurd (lg_le0.mpr (fun z => by have := (pk_lLT (b := 0) (by omega) (by omega)).mp z; omega)) h95
              exact zq_fewer _ (zq_sub_spec (by repeat (first | exact trivial | exact rfl | refine And.intro ?_ ?_))) (L52 6 0 _ (by omega) (by omega) (fun z => by rw [z]; exact Nat.mul_one _) (fun m2 z => rfl))
        exact zq_fewer _ (zq_sub_spec (by repeat (first | exact trivial | exact rfl | refine And.intro ?_ ?_))) (L12 33 0 τ (by omega) (by omega) h1 h2 hV (fun F2 z => absurd z (Nat.not_lt_zero _)))
  exact zq_fewer _ (zq_sub_spec (by repeat (first | exact trivial | exact rfl | refine And.intro ?_ ?_))) (L3 (M + 2) 0 σ (by omega) (by omega) rfl rfl (fun m2 z => absurd z (Nat.not_lt_zero _)))
