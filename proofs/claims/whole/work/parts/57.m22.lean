/-! THE MODEL: best -/
theorem zv_back (f : Nat → Fin 5 → Nat → Int32) {p : Nat} (hp : p < 6) (x y : Int32) : zq_up (zq_up (zq_up (zq_up f 31 0 p x) 31 0 (6 + p) y) 31 0 p (f 31 0 p)) 31 0 (6 + p) (f 31 0 (6 + p)) = f := by
  funext t j k
  unfold zq_up
  by_cases h1 : t = 31 ∧ j = 0 ∧ k = 6 + p
  · rw [if_pos h1, h1.1, h1.2.1, h1.2.2]
  · rw [if_neg h1]
    by_cases h2 : t = 31 ∧ j = 0 ∧ k = p
    · rw [if_pos h2, h2.1, h2.2.1, h2.2.2]
    · rw [if_neg h2, if_neg h1, if_neg h2]
theorem zn_rep.of1 {σ τ : zq_T} {A : za_D} (h : zn_rep σ A) (e : τ.1 = σ.1) : zn_rep τ A := ⟨h.1.keep fun t k _ => by rw [e], h.2.keep h.1.2.1 fun k _ _ => by rw [e]⟩
theorem zn_32 (m : Nat) : (32 : Int32) * nI m = nI (32 * m) := by rw [show (32 : Int32) = nI 32 from rfl, pk_mul]
theorem lg_le0 {x y : Int64} : lg_cmp x y ≤ 0 ↔ ¬ y < x := ⟨fun h z => by have := lg_gt0.mpr z; exact absurd this (Int32.not_lt.mpr h), fun h => Int32.not_lt.mp fun z => h (lg_gt0.mp z)⟩
theorem zv_updE {f : Nat → Int64} {i : Nat} {y : Int64} : vp_updL f i y i = y := if_pos rfl
theorem zv_updN {f : Nat → Int64} {i k : Nat} {y : Int64} (h : ¬ k = i) : vp_updL f i y k = f k := if_neg h

set_option maxHeartbeats 4000000 in
theorem sp_M_stops {σ : zq_T} {A : za_D} (hA : zn_rep σ A) (hw : za_wf A) {p F T : Nat} (hp : p < za_n A) (hF : F < 32) (hT : T < 4) (t : Int32) : zq_Sp zm_M_stops 8 [zq_O 30 0, zq_I (nI p), zq_I t, zq_I (nI F), zq_I (nI T)] σ (zq_rv (zq_L (lN (zv_s A p t F T))) σ) := by
  have hn6 := zn_n6 hA
  have hm5 := zn_m5 hA
  refine zq_sp [some (zq_O 30 0), some (zq_I (nI p)), some (zq_I t), some (zq_I (nI F)), some (zq_I (nI T)), none, none, none] (by decide +kernel) rfl (Nat.le_of_ble_eq_true rfl) (fun ν => ?_)
  refine gq_aload_n dz_M_stops_0 rfl ?_
  refine gq_getR 31 zf_M_7 rfl rfl dz_M_stops_1 ?_
  refine gq_iload_n dz_M_stops_4 rfl ?_
  refine gw_iald (p) (rfl) rfl (rfl) (Nat.le_of_ble_eq_true rfl) (by omega) dz_M_stops_5 ?_
  refine gw_istore 5 dz_M_stops_6 (Nat.le_of_ble_eq_true rfl) rfl ?_
  dsimp only [List.set]
  refine gq_aload_n dz_M_stops_8 rfl ?_
  refine gq_getR 31 zf_M_7 rfl rfl dz_M_stops_9 ?_
  refine gq_bipush (v := 6) dz_M_stops_12 rfl ?_
  refine gq_iload_n dz_M_stops_14 rfl ?_
  refine gq_iadd dz_M_stops_15 ?_
  refine gw_iald (6 + p) (by rw [show (6 : Int32) = nI 6 from rfl, nI_add]) rfl (rfl) (Nat.le_of_ble_eq_true rfl) (by omega) dz_M_stops_16 ?_
  refine gw_istore 6 dz_M_stops_17 (Nat.le_of_ble_eq_true rfl) rfl ?_
  dsimp only [List.set]
  refine gq_aload_n dz_M_stops_19 rfl ?_
  refine gq_getR 31 zf_M_7 rfl rfl dz_M_stops_20 ?_
  refine gq_iload_n dz_M_stops_23 rfl ?_
  refine gq_iload_n dz_M_stops_24 rfl ?_
  refine gw_iast (p) (rfl) rfl (rfl) (Nat.le_of_ble_eq_true rfl) (by omega) dz_M_stops_25 ?_
  refine gq_aload_n dz_M_stops_26 rfl ?_
  refine gq_getR 31 zf_M_7 rfl rfl dz_M_stops_27 ?_
  refine gq_bipush (v := 6) dz_M_stops_30 rfl ?_
  refine gq_iload_n dz_M_stops_32 rfl ?_
  refine gq_iadd dz_M_stops_33 ?_
  refine gq_iload dz_M_stops_34 rfl ?_
  refine gw_iast (6 + p) (by rw [show (6 : Int32) = nI 6 from rfl, nI_add]) rfl (rfl) (Nat.le_of_ble_eq_true rfl) (by omega) dz_M_stops_36 ?_
  have hA2 := (hA.sf (p := p) (by omega) (nI F)).st (p := p) (by omega) (nI T)
  have hw2 := (hw.sf p hF).st p hT
  refine gq_aload_n dz_M_stops_37 rfl ?_
  refine gq_iload_n dz_M_stops_38 rfl ?_
  refine gq_aload_n dz_M_stops_39 rfl ?_
  refine gq_getR 31 zf_M_7 rfl rfl dz_M_stops_40 ?_
  refine gq_bipush (v := 12) dz_M_stops_43 rfl ?_
  refine gw_iald (12) (rfl) rfl (rfl) (Nat.le_of_ble_eq_true rfl) (by omega) dz_M_stops_45 ?_
  rw [zn_g hA2]
  refine gq_cV (sp_M_ownerIn hA2 hw2 _ _) zw_M_ownerIn zl_M_220 dz_M_stops_46 rfl rfl rfl (by decide) rfl rfl (Nat.le_of_ble_eq_true rfl) ?_
  refine gq_iload_n dz_M_stops_49 rfl ?_
  refine gq_icmp_ne (tgt := 57) dz_M_stops_50 rfl (fun h50 => ?_) (fun h50 => ?_)
  · skip
    refine gq_iconst (v := 0) dz_M_stops_57 rfl ?_
    refine gw_istore 7 dz_M_stops_58 (Nat.le_of_ble_eq_true rfl) rfl ?_
    dsimp only [List.set]
    refine gq_aload_n dz_M_stops_60 rfl ?_
    refine gq_getR 31 zf_M_7 rfl rfl dz_M_stops_61 ?_
    refine gq_iload_n dz_M_stops_64 rfl ?_
    refine gq_iload dz_M_stops_65 rfl ?_
    refine gw_iast (p) (rfl) rfl (rfl) (Nat.le_of_ble_eq_true rfl) (by omega) dz_M_stops_67 ?_
    refine gq_aload_n dz_M_stops_68 rfl ?_
    refine gq_getR 31 zf_M_7 rfl rfl dz_M_stops_69 ?_
    refine gq_bipush (v := 6) dz_M_stops_72 rfl ?_
    refine gq_iload_n dz_M_stops_74 rfl ?_
    refine gq_iadd dz_M_stops_75 ?_
    refine gq_iload dz_M_stops_76 rfl ?_
    refine gw_iast (6 + p) (by rw [show (6 : Int32) = nI 6 from rfl, nI_add]) rfl (rfl) (Nat.le_of_ble_eq_true rfl) (by omega) dz_M_stops_78 ?_
    refine gq_iload dz_M_stops_79 rfl ?_
    refine gq_if_eq (tgt := 88) dz_M_stops_81 rfl (fun h81 => ?_) (fun h81 => ?_)
    · skip
      have hv : zv_s A p t F T = 0 := if_neg h50
      refine gq_lconst (v := 0) dz_M_stops_88 rfl ?_
      refine gw_lret dz_M_stops_89 rfl ?_ ?_
      · rw [hv]; rfl
      · exact Prod.ext (zv_back σ.1 (by omega) (nI F) (nI T)) rfl
    · skip
      exact absurd rfl h81
  · skip
    refine gq_iconst (v := 1) dz_M_stops_53 rfl ?_
    refine gq_goto (tgt := 58) dz_M_stops_54 rfl ?_
    refine gw_istore 7 dz_M_stops_58 (Nat.le_of_ble_eq_true rfl) rfl ?_
    dsimp only [List.set]
    refine gq_aload_n dz_M_stops_60 rfl ?_
    refine gq_getR 31 zf_M_7 rfl rfl dz_M_stops_61 ?_
    refine gq_iload_n dz_M_stops_64 rfl ?_
    refine gq_iload dz_M_stops_65 rfl ?_
    refine gw_iast (p) (rfl) rfl (rfl) (Nat.le_of_ble_eq_true rfl) (by omega) dz_M_stops_67 ?_
    refine gq_aload_n dz_M_stops_68 rfl ?_
    refine gq_getR 31 zf_M_7 rfl rfl dz_M_stops_69 ?_
    refine gq_bipush (v := 6) dz_M_stops_72 rfl ?_
    refine gq_iload_n dz_M_stops_74 rfl ?_
    refine gq_iadd dz_M_stops_75 ?_
    refine gq_iload dz_M_stops_76 rfl ?_
    refine gw_iast (6 + p) (by rw [show (6 : Int32) = nI 6 from rfl, nI_add]) rfl (rfl) (Nat.le_of_ble_eq_true rfl) (by omega) dz_M_stops_78 ?_
    refine gq_iload dz_M_stops_79 rfl ?_
    refine gq_if_eq (tgt := 88) dz_M_stops_81 rfl (fun h81 => ?_) (fun h81 => ?_)
    · skip
      exact absurd h81 (by decide)
    · skip
      have hv : zv_s A p t F T = 1 := if_pos h50
      refine gq_lconst (v := 1) dz_M_stops_84 rfl ?_
      refine gq_goto (tgt := 89) dz_M_stops_85 rfl ?_
      refine gw_lret dz_M_stops_89 rfl ?_ ?_
      · rw [hv]; rfl
      · exact Prod.ext (zv_back σ.1 (by omega) (nI F) (nI T)) rfl
set_option maxHeartbeats 4000000 in
theorem sp_M_tens {σ : zq_T} {m : Nat} (hm : m ≤ 3) : zq_Sp zm_M_tens 0 [zq_I (nI m)] σ (zq_rv (zq_L (lN (10 ^ m))) σ) := by
  refine zq_sp [some (zq_I (nI m))] (by decide +kernel) rfl (Nat.le_of_ble_eq_true rfl) (fun ν => ?_)
  refine gq_iload_n dz_M_tens_0 rfl ?_
  refine gq_if_ne (tgt := 8) dz_M_tens_1 rfl (fun h1 => ?_) (fun h1 => ?_)
  · skip
    refine gq_iload_n dz_M_tens_8 rfl ?_
    refine gq_iconst (v := 1) dz_M_tens_9 rfl ?_
    refine gq_icmp_ne (tgt := 19) dz_M_tens_10 rfl (fun h10 => ?_) (fun h10 => ?_)
    · skip
      refine gq_iload_n dz_M_tens_19 rfl ?_
      refine gq_iconst (v := 2) dz_M_tens_20 rfl ?_
      refine gq_icmp_ne (tgt := 30) dz_M_tens_21 rfl (fun h21 => ?_) (fun h21 => ?_)
      · skip
        refine gq_ldc2 zl_M_271 dz_M_tens_30 ?_
        refine gw_lret dz_M_tens_33 rfl ?_ ?_
        · rw [show m = 3 from by have h1 : ¬ m = 0 := fun z => h1 (by rw [z]; rfl); have h2 : ¬ m = 1 := fun z => h10 (by rw [z]; rfl); have h3 : ¬ m = 2 := fun z => h21 (by rw [z]; rfl); omega]; rfl
        · rfl
      · skip
        refine gq_ldc2 zl_M_269 dz_M_tens_24 ?_
        refine gq_goto (tgt := 33) dz_M_tens_27 rfl ?_
        refine gw_lret dz_M_tens_33 rfl ?_ ?_
        · rw [show m = 2 from (nI_eq (b := 2) (by omega) (by omega)).mp h21]; rfl
        · rfl
    · skip
      refine gq_ldc2 zl_M_239 dz_M_tens_13 ?_
      refine gq_goto (tgt := 33) dz_M_tens_16 rfl ?_
      refine gw_lret dz_M_tens_33 rfl ?_ ?_
      · rw [show m = 1 from (nI_eq (b := 1) (by omega) (by omega)).mp h10]; rfl
      · rfl
  · skip
    refine gq_lconst (v := 1) dz_M_tens_4 rfl ?_
    refine gq_goto (tgt := 33) dz_M_tens_5 rfl ?_
    refine gw_lret dz_M_tens_33 rfl ?_ ?_
    · rw [show m = 0 from (nI_eq (b := 0) (by omega) (by omega)).mp h1]; rfl
    · rfl
set_option maxHeartbeats 4000000 in
theorem sp_M_triesFor {σ : zq_T} {A : za_D} (hA : zn_rep σ A) (hw : za_wf A) {f m F : Nat} {V : Nat → Nat} (hf : f < 5) (hm : m < 3) (hF : F < 32) (hV : ∀ G, G < 32 → σ.2.1 (32 * m + G) = lN (V G)) : zq_Sp zm_M_triesFor 0 [zq_O 30 0, zq_I (nI f), zq_I (nI (m + 1)), zq_I (nI F)] σ (zq_rv (zq_L (lN (zv_o A f * V (F ||| 2 ^ f) + (10 - zv_o A f) * V F))) σ) := by
  obtain ⟨ho, ho2⟩ := zv_oe hw hf
  have h32 := zv_or32 hF hf
  refine zq_sp [some (zq_O 30 0), some (zq_I (nI f)), some (zq_I (nI (m + 1))), some (zq_I (nI F)), none] (by decide +kernel) rfl (Nat.le_of_ble_eq_true rfl) (fun ν => ?_)
  refine gq_aload_n dz_M_triesFor_0 rfl ?_
  refine gq_getR 31 zf_M_7 rfl rfl dz_M_triesFor_1 ?_
  refine gq_bipush (v := 13) dz_M_triesFor_4 rfl ?_
  refine gq_iload_n dz_M_triesFor_6 rfl ?_
  refine gq_iadd dz_M_triesFor_7 ?_
  refine gw_iald (13 + f) (by rw [show (13 : Int32) = nI 13 from rfl, nI_add]) rfl (rfl) (Nat.le_of_ble_eq_true rfl) (by omega) dz_M_triesFor_8 ?_
  rw [zn_od hA hf]
  refine gq_iconst (v := 5) dz_M_triesFor_9 rfl ?_
  refine gq_iadd dz_M_triesFor_10 ?_
  rw [Int32.sub_add_cancel, ho]
  refine gw_istore 4 dz_M_triesFor_11 (Nat.le_of_ble_eq_true rfl) rfl ?_
  dsimp only [List.set]
  refine gq_iload dz_M_triesFor_13 rfl ?_
  refine gq_i2l dz_M_triesFor_15 ?_
  rw [nI_l (by omega)]
  refine gq_aload_n dz_M_triesFor_16 rfl ?_
  refine gq_getR 42 zf_M_43 rfl rfl dz_M_triesFor_17 ?_
  refine gq_bipush (v := 32) dz_M_triesFor_20 rfl ?_
  refine gq_iload_n dz_M_triesFor_22 rfl ?_
  refine gq_iconst (v := 1) dz_M_triesFor_23 rfl ?_
  refine gq_isub dz_M_triesFor_24 ?_
  rw [nI_pred]
  refine gq_imul dz_M_triesFor_25 ?_
  rw [zn_32]
  refine gq_iload_n dz_M_triesFor_26 rfl ?_
  refine gq_iconst (v := 1) dz_M_triesFor_27 rfl ?_
  refine gq_iload_n dz_M_triesFor_28 rfl ?_
  refine gq_ishl dz_M_triesFor_29 ?_
  refine gq_ior dz_M_triesFor_30 ?_
  rw [zm_or ⟨F, by omega⟩ ⟨f, by omega⟩]
  refine gq_iadd dz_M_triesFor_31 ?_
  rw [nI_add]
  refine gw_lald (32 * m + (F ||| 2 ^ f)) (rfl) rfl (rfl) (Nat.le_of_ble_eq_true rfl) (by omega) dz_M_triesFor_32 ?_
  rw [hV _ h32]
  refine gq_lmul dz_M_triesFor_33 ?_
  rw [lN_mul]
  refine gq_bipush (v := 10) dz_M_triesFor_34 rfl ?_
  refine gq_iload dz_M_triesFor_36 rfl ?_
  refine gq_isub dz_M_triesFor_38 ?_
  rw [show (10 : Int32) = nI 10 from rfl, pk_sub ho2]
  refine gq_i2l dz_M_triesFor_39 ?_
  rw [nI_l (by omega)]
  refine gq_aload_n dz_M_triesFor_40 rfl ?_
  refine gq_getR 42 zf_M_43 rfl rfl dz_M_triesFor_41 ?_
  refine gq_bipush (v := 32) dz_M_triesFor_44 rfl ?_
  refine gq_iload_n dz_M_triesFor_46 rfl ?_
  refine gq_iconst (v := 1) dz_M_triesFor_47 rfl ?_
  refine gq_isub dz_M_triesFor_48 ?_
  rw [nI_pred]
  refine gq_imul dz_M_triesFor_49 ?_
  rw [zn_32]
  refine gq_iload_n dz_M_triesFor_50 rfl ?_
  refine gq_iadd dz_M_triesFor_51 ?_
  rw [nI_add]
  refine gw_lald (32 * m + F) (rfl) rfl (rfl) (Nat.le_of_ble_eq_true rfl) (by omega) dz_M_triesFor_52 ?_
  rw [hV _ hF]
  refine gq_lmul dz_M_triesFor_53 ?_
  rw [lN_mul]
  refine gq_ladd dz_M_triesFor_54 ?_
  rw [lN_add]
  refine gw_lret dz_M_triesFor_55 rfl ?_ ?_
  · rfl
  · rfl
