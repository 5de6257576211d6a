/-! spoils -/
def zs_thg (A : za_D) (p : Int32) : Int32 := zf_or (fun t => decide (zs_own A (nI t) (za_g A) 31 = p)) 4
def zs_spf (A : za_D) (p : Nat) (c : Nat) (x : Int32) : Int32 := if zs_can A (10 * p + c) then x ||| (zs_thg A (nI p) &&& (zs_thg (zs_acts A (10 * p + c)) (nI p) ^^^ -1)) else x
def zx_spoil (A : za_D) (p : Int32) : Int32 := if zb_in p (za_n A) then zf_fo (zs_spf A p.toNatClampNeg) 0 6 else -1
theorem zs_actr_can {A : za_D} (hw : za_wf A) {D : Nat} (h : D / 10 < za_n A) : (zs_actr A D < 0 ↔ zs_can A D = false) := by
  unfold zs_actr
  obtain ⟨t, ht, et⟩ := (hw.1 _ h).2.2
  constructor
  · intro q
    by_cases c : zs_can A D = false
    · exact c
    · exfalso
      rw [if_neg (by
        have hc := zs_can_spec (by simpa using c : zs_can A D = true)
        omega), if_neg c, et] at q
      split at q
      · exact nI_pos (by omega) q
      · rw [nI_1] at q; exact nI_pos (by omega) q
  · intro q
    by_cases c : ¬ D / 10 < za_n A ∨ ¬ D % 10 < 7
    · rw [if_pos c]; decide
    · rw [if_neg c, if_pos q]; decide
theorem zs_actS_can {A : za_D} {D : Nat} (h : zs_can A D = true) : zs_actS A D = zs_acts A D := if_pos h
theorem zs_actS_cannot {A : za_D} {D : Nat} (h : zs_can A D = false) : zs_actS A D = A := if_neg (by rw [h]; exact Bool.false_ne_true)

set_option maxHeartbeats 4000000 in
theorem sp_S_spoils {σ : zq_T} {X : za_X} (hS : zs_rep σ X) (hW : zx_wf X) (p : Int32) : zq_Sp zm_S_spoils 7 [zq_O 0 0, zq_I p] σ (zq_rw (zq_I (zx_spoil X.1 p)) (fun τ => zs_rep τ (X) ∧ zg_S σ τ)) := by
  have hA : zc_rep σ σ.2.2.1 X.1 := hS.2.1
  have hw : za_wf X.1 := hW.1
  have hn6 : za_n X.1 ≤ 6 := zc_n6 hA
  have hm5 : za_m X.1 ≤ 5 := zc_m5 hA
  have hs6 : (zx_s X).1 ≤ 6 := hW.2.2.2.1.1
  have hT6 : (zx_T X).1 ≤ 160 := hW.2.2.1.1
  refine zq_sp [some (zq_O 0 0), some (zq_I p), none, none, none, none] (by decide +kernel) rfl (Nat.le_of_ble_eq_true rfl) (fun ν => ?_)
  refine gq_aload_n dz_S_spoils_0 rfl ?_
  refine gq_getU zf_S_53 rfl rfl dz_S_spoils_1 ?_
  refine gq_iload_n dz_S_spoils_4 rfl ?_
  refine gq_cV (sp_D_isOne hA _) zw_D_isOne zl_S_95 dz_S_spoils_5 rfl rfl rfl (by decide) rfl rfl (Nat.le_of_ble_eq_true rfl) ?_
  refine gw_ifb_ne (tgt := 13) dz_S_spoils_8 rfl (fun h8 => ?_) (fun h8 => ?_)
  · skip
    have h8b := h8
    obtain ⟨q, hq, rfl⟩ := (zb_in_iff (by omega)).mp h8
    have hV : zx_spoil X.1 (nI q) = zf_fo (zs_spf X.1 q) 0 6 := by rw [zx_spoil, h8b, if_pos rfl, nI_clamp (by omega)]
    rw [hV]
    refine gq_aload_n dz_S_spoils_13 rfl ?_
    refine gq_getX 2 2 zf_S_40 rfl rfl rfl dz_S_spoils_14 ?_
    refine gq_aload_n dz_S_spoils_17 rfl ?_
    refine gq_getU zf_S_53 rfl rfl dz_S_spoils_18 ?_
    refine gq_cVX (sp_D_copyFrom (d := 2) hA (zs_d0 hS (by decide))) zw_D_copyFrom zl_S_174 dz_S_spoils_21 rfl rfl rfl (by decide) rfl rfl (Nat.le_of_ble_eq_true rfl) (fun τ21 hq21 => ?_)
    refine gq_aload_n dz_S_spoils_24 rfl ?_
    refine gq_getX 2 2 zf_S_40 rfl rfl rfl dz_S_spoils_25 ?_
    refine gq_iload_n dz_S_spoils_28 rfl ?_
    refine gq_cV (sp_D_thingsOf hq21.1 hw _) zw_D_thingsOf zl_S_178 dz_S_spoils_29 rfl rfl rfl (by decide) rfl rfl (Nat.le_of_ble_eq_true rfl) ?_
    refine gw_istore_n 2 dz_S_spoils_32 rfl (Nat.le_of_ble_eq_true rfl) rfl ?_
    dsimp only [List.set]
    refine gq_iconst (v := 0) dz_S_spoils_33 rfl ?_
    refine gw_istore_n 3 dz_S_spoils_34 rfl (Nat.le_of_ble_eq_true rfl) rfl ?_
    dsimp only [List.set]
    refine gq_iconst (v := 0) dz_S_spoils_35 rfl ?_
    refine gw_istore 4 dz_S_spoils_36 (Nat.le_of_ble_eq_true rfl) rfl ?_
    dsimp only [List.set]
    have L38 : ∀ (kf : Nat) (c : Nat) (τ : zq_T) (hkf : 6 - c < kf) (hc : c ≤ 6) (hT : zc_rep τ 2 X.1) (hs : zd_same 2 σ τ), zq_G ν zm_S_spoils 7 (zq_rw (zq_I (zf_fo (zs_spf X.1 q) 0 6)) (fun τ => zs_rep τ (X) ∧ zg_S σ τ)) 38 [some (zq_O 0 0), some (zq_I (nI q)), some (zq_I (zs_thg X.1 (nI q))), some (zq_I (zf_fo (zs_spf X.1 q) 0 c)), some (zq_I (nI c)), none] [] τ := by
      intro kf
      induction kf with
      | zero => intro c τ hkf hc hT hs; exact absurd hkf (Nat.not_lt_zero _)
      | succ kf ih38 =>
        intro c τ hkf hc hT hs
        refine gq_iload dz_S_spoils_38 rfl ?_
        refine gq_iconst (v := 5) dz_S_spoils_40 rfl ?_
        refine gq_icmp_gt (tgt := 95) dz_S_spoils_41 rfl (fun h41 => ?_) (fun h41 => ?_)
        · skip
          have hc6 : c = 6 := by rw [Int32.lt_iff_toInt_lt, nI_toInt (by omega)] at h41; have : (5 : Int32).toInt = 5 := rfl; omega
          subst hc6
          refine gq_iload_n dz_S_spoils_95 rfl ?_
          refine gw_iretP .int dz_S_spoils_96 rfl (by first | rfl | exact zb_nar _) ?_ ?_
          · rfl
          · exact ⟨hS.trial hs, hs.S⟩
        · skip
          have c2 : c < 6 := by rw [Int32.lt_iff_toInt_lt, nI_toInt (by omega)] at h41; have : (5 : Int32).toInt = 5 := rfl; omega
          have hD : 10 * q + c < 2 ^ 31 := by omega
          have hDq : (10 * q + c) / 10 < za_n X.1 := by omega
          refine gq_bipush (v := 10) dz_S_spoils_44 rfl ?_
          refine gq_iload_n dz_S_spoils_46 rfl ?_
          refine gq_imul dz_S_spoils_47 ?_
          refine gq_iload dz_S_spoils_48 rfl ?_
          refine gq_iadd dz_S_spoils_50 ?_
          rw [show (10 : Int32) = nI 10 from rfl, pk_mul, nI_add]
          refine gw_istore 5 dz_S_spoils_51 (Nat.le_of_ble_eq_true rfl) rfl ?_
          dsimp only [List.set]
          refine gq_aload_n dz_S_spoils_53 rfl ?_
          refine gq_getX 2 2 zf_S_40 rfl rfl rfl dz_S_spoils_54 ?_
          refine gq_iload dz_S_spoils_57 rfl ?_
          refine gq_cVP (sp_D_act hT hD) zw_D_act zl_S_158 dz_S_spoils_59 rfl rfl rfl (by decide) rfl rfl (Nat.le_of_ble_eq_true rfl) (fun τ59 hq59 => ?_)
          refine gq_if_lt (tgt := 89) dz_S_spoils_62 rfl (fun h62 => ?_) (fun h62 => ?_)
          · skip
            have hcan := (zs_actr_can hw hDq).mp h62
            refine gw_iinc 4 (c := 1) dz_S_spoils_89 rfl rfl (Nat.le_of_ble_eq_true rfl) rfl ?_
            dsimp only [List.set]
            refine gq_goto (tgt := 38) dz_S_spoils_92 rfl ?_
            simp only [nI_1]
            rw [show zf_fo (zs_spf X.1 q) 0 c = zf_fo (zs_spf X.1 q) 0 (c + 1) from (if_neg (by rw [hcan]; exact Bool.false_ne_true)).symm]
            exact zq_fewer _ (zq_sub_spec (by repeat (first | exact trivial | exact rfl | refine And.intro ?_ ?_))) (ih38 (c + 1) _ (by omega) (by omega) (by have := hq59.1; rwa [zs_actS_cannot hcan] at this) (hs.tr hq59.2))
          · skip
            have hcan : zs_can X.1 (10 * q + c) = true := by cases hz : zs_can X.1 (10 * q + c); exact absurd ((zs_actr_can hw hDq).mpr hz) h62; rfl
            have hA2 : zc_rep τ59 2 (zs_acts X.1 (10 * q + c)) := by have := hq59.1; rwa [zs_actS_can hcan] at this
            have hw2 := hw.acts hn6 hcan
            have hD2 : (10 * q + c) / 10 < za_n (zs_acts X.1 (10 * q + c)) := by rw [zs_acts_n]; exact hDq
            refine gq_iload_n dz_S_spoils_65 rfl ?_
            refine gq_iload_n dz_S_spoils_66 rfl ?_
            refine gq_aload_n dz_S_spoils_67 rfl ?_
            refine gq_getX 2 2 zf_S_40 rfl rfl rfl dz_S_spoils_68 ?_
            refine gq_iload_n dz_S_spoils_71 rfl ?_
            refine gq_cV (sp_D_thingsOf hA2 hw2 _) zw_D_thingsOf zl_S_178 dz_S_spoils_72 rfl rfl rfl (by decide) rfl rfl (Nat.le_of_ble_eq_true rfl) ?_
            refine gq_iconst (v := -1) dz_S_spoils_75 rfl ?_
            refine gq_ixor dz_S_spoils_76 ?_
            refine gq_iand dz_S_spoils_77 ?_
            refine gq_ior dz_S_spoils_78 ?_
            refine gw_istore_n 3 dz_S_spoils_79 rfl (Nat.le_of_ble_eq_true rfl) rfl ?_
            dsimp only [List.set]
            refine gq_aload_n dz_S_spoils_80 rfl ?_
            refine gq_getX 2 2 zf_S_40 rfl rfl rfl dz_S_spoils_81 ?_
            refine gq_iload dz_S_spoils_84 rfl ?_
            refine gq_cVX (sp_D_takeBack hA2 hD hD2) zw_D_takeBack zl_S_181 dz_S_spoils_86 rfl rfl rfl (by decide) rfl rfl (Nat.le_of_ble_eq_true rfl) (fun τ86 hq86 => ?_)
            refine gw_iinc 4 (c := 1) dz_S_spoils_89 rfl rfl (Nat.le_of_ble_eq_true rfl) rfl ?_
            dsimp only [List.set]
            refine gq_goto (tgt := 38) dz_S_spoils_92 rfl ?_
            simp only [nI_1]
            rw [show zf_fo (zs_spf X.1 q) 0 c ||| (zs_thg X.1 (nI q) &&& (zf_or (fun t => decide (zs_own (zs_acts X.1 (10 * q + c)) (nI t) (za_g (zs_acts X.1 (10 * q + c))) 31 = nI q)) 4 ^^^ -1)) = zf_fo (zs_spf X.1 q) 0 (c + 1) from (if_pos hcan).symm]
            exact zq_fewer _ (zq_sub_spec (by repeat (first | exact trivial | exact rfl | refine And.intro ?_ ?_))) (ih38 (c + 1) _ (by omega) (by omega) (hq86.1.to (zs_back_acts hw hn6 hcan)) ((hs.tr hq59.2).tr hq86.2))
    exact zq_fewer _ (zq_sub_spec (by repeat (first | exact trivial | exact rfl | refine And.intro ?_ ?_))) (L38 7 0 _ (by omega) (by omega) hq21.1 hq21.2)
  · skip
    refine gq_iconst (v := -1) dz_S_spoils_11 rfl ?_
    refine gw_iretP .int dz_S_spoils_12 rfl (by first | rfl | exact zb_nar _) ?_ ?_
    · rw [zx_spoil, h8]; rfl
    · exact ⟨hS, zg_S.rf⟩
/-! the search for a row -/
def zs_first (f : Nat → Option (List Nat)) : Nat → Nat → Option (List Nat)
  | 0, _ => none
  | k + 1, D => match f D with
    | some l => some l
    | none => zs_first f k (D + 1)
def zs_ff (p : Nat) (t : Int32) (F : za_D → Nat → Option (List Nat)) (A : za_D) (D : Nat) : Option (List Nat) := if zs_can A D then (F (zs_acts A D) D).map (fun l => D :: l) else none
def zs_find (p : Nat) (t : Int32) : Nat → za_D → Nat → Option (List Nat)
  | 0, A, _ => if zs_own A t (za_g A) 31 = nI p then some [] else none
  | r + 1, A, from_ => zs_first (zs_ff p t (zs_find p t r) A) (10 * za_n A - from_) from_
/-- but for the trial duchy and the row all is the same -/
def zr_same (σ τ : zq_T) : Prop := τ.2 = σ.2 ∧ ∀ (t : Nat) (j : Fin 5) (k : Nat), ¬ (t = 21 ∨ (10 ≤ t ∧ t ≤ 20 ∧ j = 2)) → τ.1 t j k = σ.1 t j k
theorem zr_same.rf {σ : zq_T} : zr_same σ σ := ⟨rfl, fun _ _ _ _ => rfl⟩
theorem zr_same.tr {σ τ υ : zq_T} (h : zr_same σ τ) (h2 : zr_same τ υ) : zr_same σ υ := ⟨h2.1.trans h.1, fun t j k q => (h2.2 t j k q).trans (h.2 t j k q)⟩
theorem zd_same.r {σ τ : zq_T} (h : zd_same 2 σ τ) : zr_same σ τ := ⟨h.1, fun t j k q => h.2 t j k (fun z => q (Or.inr z))⟩
theorem zr_same.row {σ τ : zq_T} (h : zr_same σ τ) {k : Nat} {v : Int32} : zr_same σ (zq_up τ.1 21 0 k v, τ.2) :=
  ⟨h.1, fun t' j k' q => by
    show zq_up τ.1 21 0 k v t' j k' = σ.1 t' j k'
    rw [← h.2 t' j k' q]
    exact if_neg fun z => q (Or.inl z.1)⟩
theorem zr_same.S {σ τ : zq_T} (h : zr_same σ τ) : zg_S σ τ := ⟨by rw [h.1], fun t j k q => h.2 t j k (fun z => by omega)⟩
theorem zs_rep.tried {σ τ : zq_T} {X : za_X} (h : zs_rep σ X) (hs : zr_same σ τ) : zs_rep τ X := by
  obtain ⟨h1, h2, h3, h4, h5, h6, h7, h8, h9⟩ := h
  have e : ∀ (t : Nat) (j : Fin 5) (k : Nat), t < 10 ∨ 21 < t → τ.1 t j k = σ.1 t j k := fun t j k q => hs.2 t j k (fun z => by omega)
  have e2 : τ.2.2 = σ.2.2 := by rw [hs.1]
  have eD : ∀ {j : Fin 5} {A : za_D}, j ≠ 2 → zc_rep σ j A → zc_rep τ j A := fun hj hA => hA.keep fun t k a b => hs.2 t _ k fun z => by
    rcases z with z | z
    · omega
    · exact hj z.2.2
  refine ⟨by rw [e2]; exact h1, by rw [e2]; exact eD (fun q => by have := h1.2.1; rw [q] at this; exact absurd this (by decide)) h2, h3.keep (fun t j k _ _ => e t j k (by omega)), ⟨by rw [e 1 0 1 (by omega)]; exact h4.1, fun i hi => by rw [e 2 0 i (by omega)]; exact h4.2 i hi⟩, ⟨by rw [e 0 0 11 (by omega)]; exact h5.1, by rw [e 0 0 12 (by omega)]; exact h5.2⟩, ⟨by rw [e 0 0 13 (by omega)]; exact h6.1, fun i hi => by rw [e 22 0 i (by omega), e 23 0 i (by omega)]; exact h6.2 i hi⟩, by rw [e 0 0 14 (by omega)]; exact h7, fun q => eD (by decide) (h8 q), fun q => eD (by decide) (h9 q)⟩
/-- what stands in the row behind a search from place pl on -/
def zr_row (σ τ : zq_T) (pl : Nat) (o : Option (List Nat)) : Prop := (∀ k, k < pl → τ.1 21 0 k = σ.1 21 0 k) ∧ ∀ l, o = some l → ∀ i, i < l.length → τ.1 21 0 (pl + i) = nI (l.getD i 0)
def zP_fr (r : Nat) : Prop := ∀ {σ : zq_T} {A : za_D} (hA : zc_rep σ 2 A) (hw : za_wf A) {p pl fr : Nat} (t : Int32) (hl : pl + r ≤ 3) (hf : fr < 100), zq_Sp zm_S_findRow (5 + r) [zq_O 10 2, zq_O 21 0, zq_I (nI p), zq_I t, zq_I (nI (pl + r)), zq_I (nI pl), zq_I (nI fr)] σ (zq_rw (zq_I (zb_v (zs_find p t r A fr).isSome)) (fun τ => zc_rep τ 2 A ∧ zr_same σ τ ∧ zr_row σ τ pl (zs_find p t r A fr)))
set_option maxHeartbeats 4000000 in
theorem sp_fr0 {σ : zq_T} {A : za_D} (hA : zc_rep σ 2 A) (hw : za_wf A) {p pl fr : Nat} (t : Int32) (hl : pl + 0 ≤ 3) : zq_Sp zm_S_findRow 5 [zq_O 10 2, zq_O 21 0, zq_I (nI p), zq_I t, zq_I (nI (pl + 0)), zq_I (nI pl), zq_I (nI fr)] σ (zq_rw (zq_I (zb_v (zs_find p t (0) A fr).isSome)) (fun τ => zc_rep τ 2 A ∧ zr_same σ τ ∧ zr_row σ τ pl (zs_find p t (0) A fr))) := by
  refine zq_sp [some (zq_O 10 2), some (zq_O 21 0), some (zq_I (nI p)), some (zq_I t), some (zq_I (nI (pl + 0))), some (zq_I (nI pl)), some (zq_I (nI fr)), none, none] (by decide +kernel) rfl (Nat.le_of_ble_eq_true rfl) (fun ν => ?_)
  refine gq_iload dz_S_findRow_0 rfl ?_
  refine gq_if_lt (tgt := 19) dz_S_findRow_2 rfl (fun h2 => ?_) (fun h2 => ?_)
  · skip
    exact absurd h2 (nI_pos (by omega))
  · skip
    refine gq_iload dz_S_findRow_5 rfl ?_
    refine gq_iload dz_S_findRow_7 rfl ?_
    refine gq_icmp_ge (tgt := 19) dz_S_findRow_9 rfl (fun h9 => ?_) (fun h9 => ?_)
    · skip
      refine gq_aload_n dz_S_findRow_19 rfl ?_
      refine gq_iload_n dz_S_findRow_20 rfl ?_
      refine gq_aload_n dz_S_findRow_21 rfl ?_
      refine gq_getI zf_S_92 rfl rfl dz_S_findRow_22 ?_
      rw [zc_g hA]
      refine gq_bipush (v := 31) dz_S_findRow_25 rfl ?_
      refine gq_cV (sp_D_ownerIn hA hw _ _ _) zw_D_ownerIn zl_S_171 dz_S_findRow_27 rfl rfl rfl (by decide) rfl rfl (Nat.le_of_ble_eq_true rfl) ?_
      refine gq_iload_n dz_S_findRow_30 rfl ?_
      refine gq_icmp_ne (tgt := 38) dz_S_findRow_31 rfl (fun h31 => ?_) (fun h31 => ?_)
      · skip
        refine gq_iconst (v := 0) dz_S_findRow_38 rfl ?_
        refine gw_iretP .boolean dz_S_findRow_39 rfl (by first | rfl | exact zb_nar _) ?_ ?_
        · rw [zs_find, if_neg h31]; rfl
        · rw [zs_find, if_neg h31]; exact ⟨hA, zr_same.rf, fun _ _ => rfl, fun l q => by cases q⟩
      · skip
        refine gq_iconst (v := 1) dz_S_findRow_34 rfl ?_
        refine gq_goto (tgt := 39) dz_S_findRow_35 rfl ?_
        refine gw_iretP .boolean dz_S_findRow_39 rfl (by first | rfl | exact zb_nar _) ?_ ?_
        · rw [zs_find, if_pos h31]; rfl
        · rw [zs_find, if_pos h31]; exact ⟨hA, zr_same.rf, fun _ _ => rfl, fun l q => by cases q; intro i hi; exact absurd hi (Nat.not_lt_zero i)⟩
    · skip
      exact absurd (nI_le (Nat.le_refl _) (by omega)) h9
theorem zs_first_no {f : Nat → Option (List Nat)} {k D : Nat} (h : f D = none) : zs_first f (k + 1) D = zs_first f k (D + 1) := by rw [zs_first, h]
theorem zs_first_ye {f : Nat → Option (List Nat)} {k D : Nat} {l : List Nat} (h : f D = some l) : zs_first f (k + 1) D = some l := by rw [zs_first, h]
theorem zs_ff_no {p : Nat} {t : Int32} {F : za_D → Nat → Option (List Nat)} {A : za_D} {D : Nat} (h : zs_can A D = false) : zs_ff p t F A D = none := by rw [zs_ff, h]; rfl
theorem zs_ff_ye {p : Nat} {t : Int32} {F : za_D → Nat → Option (List Nat)} {A : za_D} {D : Nat} (h : zs_can A D = true) : zs_ff p t F A D = (F (zs_acts A D) D).map (fun l => D :: l) := by rw [zs_ff, h]; rfl
theorem zr_row_hit {σ τ υ : zq_T} {pl D : Nat} {l : List Nat} (h : zr_row (zq_up τ.1 21 0 pl (nI D), τ.2) υ (pl + 1) (some l)) (hk : ∀ k, k < pl → τ.1 21 0 k = σ.1 21 0 k) {ω : zq_T} (hω : ∀ k, ω.1 21 0 k = υ.1 21 0 k) : zr_row σ ω pl (some (D :: l)) := by
  refine ⟨fun k hk2 => ?_, fun l' q i hi => ?_⟩
  · rw [hω, h.1 k (by omega)]
    show zq_up τ.1 21 0 pl (nI D) 21 0 k = _
    unfold zq_up
    rw [if_neg (fun z => by omega)]
    exact hk k hk2
  · cases q
    rw [hω]
    rcases i with _ | i
    · rw [Nat.add_zero, h.1 pl (by omega)]
      exact zq_up_at _ _ _ _ _
    · have := h.2 l rfl i (by simpa using hi)
      rw [show pl + (i + 1) = pl + 1 + i by omega, this]
      rfl
theorem zr_row_miss {σ τ υ : zq_T} {pl D : Nat} {o : Option (List Nat)} (h : zr_row (zq_up τ.1 21 0 pl (nI D), τ.2) υ (pl + 1) o) (hk : ∀ k, k < pl → τ.1 21 0 k = σ.1 21 0 k) : ∀ k, k < pl → υ.1 21 0 k = σ.1 21 0 k := by
  intro k hk2
  rw [h.1 k (by omega)]
  show zq_up τ.1 21 0 pl (nI D) 21 0 k = _
  unfold zq_up
  rw [if_neg (fun z => by omega)]
  exact hk k hk2
theorem zd_row {σ τ : zq_T} (h : zd_same 2 σ τ) (k : Nat) : τ.1 21 0 k = σ.1 21 0 k := h.2 21 0 k (fun z => by omega)
theorem zc_row {τ : zq_T} {A : za_D} (h : zc_rep τ 2 A) (k : Nat) (v : Int32) : zc_rep (zq_up τ.1 21 0 k v, τ.2) 2 A := h.keep (fun t i a b => if_neg (fun z => by omega))
set_option maxHeartbeats 4000000 in
theorem sp_fr1 {r : Nat} (hr : zP_fr r) {σ : zq_T} {A : za_D} (hA : zc_rep σ 2 A) (hw : za_wf A) {p pl fr : Nat} (t : Int32) (hl : pl + (r + 1) ≤ 3) (hf : fr < 100) : zq_Sp zm_S_findRow (5 + (r + 1)) [zq_O 10 2, zq_O 21 0, zq_I (nI p), zq_I t, zq_I (nI (pl + (r + 1))), zq_I (nI pl), zq_I (nI fr)] σ (zq_rw (zq_I (zb_v (zs_find p t (r + 1) A fr).isSome)) (fun τ => zc_rep τ 2 A ∧ zr_same σ τ ∧ zr_row σ τ pl (zs_find p t (r + 1) A fr))) := by
  have hn6 := zc_n6 hA
  refine zq_sp [some (zq_O 10 2), some (zq_O 21 0), some (zq_I (nI p)), some (zq_I t), some (zq_I (nI (pl + (r + 1)))), some (zq_I (nI pl)), some (zq_I (nI fr)), none, none] (by decide +kernel) rfl (Nat.le_of_ble_eq_true rfl) (fun ν => ?_)
  refine gq_iload dz_S_findRow_0 rfl ?_
  refine gq_if_lt (tgt := 19) dz_S_findRow_2 rfl (fun h2 => ?_) (fun h2 => ?_)
  · skip
    exact absurd h2 (nI_pos (by omega))
  · skip
    refine gq_iload dz_S_findRow_5 rfl ?_
    refine gq_iload dz_S_findRow_7 rfl ?_
    refine gq_icmp_ge (tgt := 19) dz_S_findRow_9 rfl (fun h9 => ?_) (fun h9 => ?_)
    · skip
      exact absurd h9 (nI_ge (by omega) (by omega))
    · skip
      refine gq_iload dz_S_findRow_12 rfl ?_
      refine gq_aload_n dz_S_findRow_14 rfl ?_
      refine gq_alen (v := 3) rfl rfl rfl dz_S_findRow_15 ?_
      refine gq_icmp_lt (tgt := 40) dz_S_findRow_16 rfl (fun h16 => ?_) (fun h16 => ?_)
      · skip
        refine gq_iload dz_S_findRow_40 rfl ?_
        refine gw_istore 7 dz_S_findRow_42 (Nat.le_of_ble_eq_true rfl) rfl ?_
        dsimp only [List.set]
        have L44 : ∀ (kf : Nat) (k D : Nat) (τ : zq_T) (hkf : k < kf) (hkD : 10 * za_n A ≤ D + k) (hkE : k = 0 ∨ D + k = 10 * za_n A) (hDf : D < 101) (hv : zs_find p t (r + 1) A fr = zs_first (zs_ff p t (zs_find p t r) A) k D) (hT : zc_rep τ 2 A) (hs : zr_same σ τ) (hR : ∀ k, k < pl → τ.1 21 0 k = σ.1 21 0 k), zq_G ν zm_S_findRow (5 + (r + 1)) (zq_rw (zq_I (zb_v (zs_find p t (r + 1) A fr).isSome)) (fun τ => zc_rep τ 2 A ∧ zr_same σ τ ∧ zr_row σ τ pl (zs_find p t (r + 1) A fr))) 44 [some (zq_O 10 2), some (zq_O 21 0), some (zq_I (nI p)), some (zq_I t), some (zq_I (nI (pl + (r + 1)))), some (zq_I (nI pl)), none, some (zq_I (nI D)), none] [] τ := by
          intro kf
          induction kf with
          | zero => intro k D τ hkf hkD hkE hDf hv hT hs hR; exact absurd hkf (Nat.not_lt_zero _)
          | succ kf ih44 =>
            intro k D τ hkf hkD hkE hDf hv hT hs hR
            refine gq_iload dz_S_findRow_44 rfl ?_
            refine gq_bipush (v := 10) dz_S_findRow_46 rfl ?_
            refine gq_aload_n dz_S_findRow_48 rfl ?_
            refine gq_getI zf_S_86 rfl rfl dz_S_findRow_49 ?_
            rw [zc_n hT]
            refine gq_imul dz_S_findRow_52 ?_
            rw [show (10 : Int32) = nI 10 from rfl, pk_mul]
            refine gq_icmp_ge (tgt := 110) dz_S_findRow_53 rfl (fun h53 => ?_) (fun h53 => ?_)
            · skip
              have hk0 : k = 0 := by have := (nI_leI (by omega) (by omega)).mp h53; omega
              subst hk0
              refine gq_iconst (v := 0) dz_S_findRow_110 rfl ?_
              refine gw_iretP .boolean dz_S_findRow_111 rfl (by first | rfl | exact zb_nar _) ?_ ?_
              · rw [hv]; rfl
              · rw [hv]; exact ⟨hT, hs, hR, fun l q => by cases q⟩
            · skip
              obtain ⟨k, rfl⟩ : ∃ k2, k = k2 + 1 := ⟨k - 1, by rcases k with _ | k; exact absurd (nI_le (by omega) (by omega)) h53; omega⟩
              have hD : D < 2 ^ 31 := by omega
              have hD100 : D < 100 := by omega
              have hDq : D / 10 < za_n A := by omega
              refine gq_aload_n dz_S_findRow_56 rfl ?_
              refine gq_iload dz_S_findRow_57 rfl ?_
              refine gq_cVP (sp_D_act hT hD) zw_D_act zl_S_158 dz_S_findRow_59 rfl rfl rfl (by omega) rfl rfl (Nat.le_of_ble_eq_true rfl) (fun τ59 hq59 => ?_)
              refine gq_if_ge (tgt := 68) dz_S_findRow_62 rfl (fun h62 => ?_) (fun h62 => ?_)
              · skip
                have hcan : zs_can A D = true := by cases hz : zs_can A D; exact absurd ((zs_actr_can hw hDq).mpr hz) (fun z => by rw [Int32.lt_iff_toInt_lt] at z; rw [Int32.le_iff_toInt_le] at h62; omega); rfl
                have hA2 : zc_rep τ59 2 (zs_acts A D) := by have := hq59.1; rwa [zs_actS_can hcan] at this
                have hw2 := hw.acts hn6 hcan
                have hD2 : D / 10 < za_n (zs_acts A D) := by rw [zs_acts_n]; exact hDq
                refine gq_aload_n dz_S_findRow_68 rfl ?_
                refine gq_iload dz_S_findRow_69 rfl ?_
                refine gq_iload dz_S_findRow_71 rfl ?_
                refine gw_iast (pl) (rfl) rfl (rfl) (Nat.le_of_ble_eq_true rfl) (by omega) dz_S_findRow_73 ?_
                refine gq_aload_n dz_S_findRow_74 rfl ?_
                refine gq_aload_n dz_S_findRow_75 rfl ?_
                refine gq_iload_n dz_S_findRow_76 rfl ?_
                refine gq_iload_n dz_S_findRow_77 rfl ?_
                refine gq_iload dz_S_findRow_78 rfl ?_
                refine gq_iload dz_S_findRow_80 rfl ?_
                refine gq_iconst (v := 1) dz_S_findRow_82 rfl ?_
                refine gq_iadd dz_S_findRow_83 ?_
                rw [nI_1, show pl + (r + 1) = pl + 1 + r by omega]
                refine gq_iload dz_S_findRow_84 rfl ?_
                refine gq_cSP (hr (zc_row hA2 _ _) hw2 (p := p) (pl := pl + 1) (fr := D) t (by omega) hD100) zw_S_findRow zl_S_279 dz_S_findRow_86 (by omega) rfl rfl (Nat.le_of_ble_eq_true rfl) (fun τ86 hq86 => ?_)
                refine gw_istore 8 dz_S_findRow_89 (Nat.le_of_ble_eq_true rfl) rfl ?_
                dsimp only [List.set]
                refine gq_aload_n dz_S_findRow_91 rfl ?_
                refine gq_iload dz_S_findRow_92 rfl ?_
                refine gq_cVX (sp_D_takeBack hq86.1 hD hD2) zw_D_takeBack zl_S_181 dz_S_findRow_94 rfl rfl rfl (by omega) rfl rfl (Nat.le_of_ble_eq_true rfl) (fun τ94 hq94 => ?_)
                refine gq_iload dz_S_findRow_97 rfl ?_
                refine gw_ifb_eq (tgt := 104) dz_S_findRow_99 rfl (fun h99 => ?_) (fun h99 => ?_)
                · skip
                  have h99 : zs_find p t r (zs_acts A D) D = none := by cases hz : zs_find p t r (zs_acts A D) D; rfl; rw [hz] at h99; cases h99
                  refine gw_iinc 7 (c := 1) dz_S_findRow_104 rfl rfl (Nat.le_of_ble_eq_true rfl) rfl ?_
                  dsimp only [List.set]
                  refine gq_goto (tgt := 44) dz_S_findRow_107 rfl ?_
                  simp only [nI_1]
                  rw [show pl + 1 + r = pl + (r + 1) by omega]
                  exact zq_fewer _ (zq_sub_spec (by repeat (first | exact trivial | exact rfl | refine And.intro ?_ ?_))) (ih44 k (D + 1) _ (by omega) (by omega) (by omega) (by omega) (hv.trans (zs_first_no (by rw [zs_ff_ye hcan, h99]; rfl))) (hq94.1.to (zs_back_acts hw hn6 hcan)) (((hs.tr hq59.2.r).row.tr hq86.2.1).tr hq94.2.r) (fun k hk => (zd_row hq94.2 k).trans (zr_row_miss hq86.2.2 (fun k hk => (zd_row hq59.2 k).trans (hR k hk)) k hk)))
                · skip
                  obtain ⟨l, hlz⟩ := Option.isSome_iff_exists.mp h99
                  refine gq_iconst (v := 1) dz_S_findRow_102 rfl ?_
                  refine gw_iretP .boolean dz_S_findRow_103 rfl (by first | rfl | exact zb_nar _) ?_ ?_
                  · rw [hv, zs_first_ye (by rw [zs_ff_ye hcan, hlz]; rfl)]; rfl
                  · rw [hv, zs_first_ye (by rw [zs_ff_ye hcan, hlz]; rfl)]; exact ⟨hq94.1.to (zs_back_acts hw hn6 hcan), ((hs.tr hq59.2.r).row.tr hq86.2.1).tr hq94.2.r, zr_row_hit (by have := hq86.2.2; rwa [hlz] at this) (fun k hk => (zd_row hq59.2 k).trans (hR k hk)) (zd_row hq94.2)⟩
              · skip
                have hcan : zs_can A D = false := (zs_actr_can hw hDq).mp (by rw [Int32.lt_iff_toInt_lt]; rw [Int32.le_iff_toInt_le] at h62; omega)
                refine gq_goto (tgt := 104) dz_S_findRow_65 rfl ?_
                refine gw_iinc 7 (c := 1) dz_S_findRow_104 rfl rfl (Nat.le_of_ble_eq_true rfl) rfl ?_
                dsimp only [List.set]
                refine gq_goto (tgt := 44) dz_S_findRow_107 rfl ?_
                simp only [nI_1]
                exact zq_fewer _ (zq_sub_spec (by repeat (first | exact trivial | exact rfl | refine And.intro ?_ ?_))) (ih44 k (D + 1) _ (by omega) (by omega) (by omega) (by omega) (hv.trans (zs_first_no (zs_ff_no hcan))) (by have := hq59.1; rwa [zs_actS_cannot hcan] at this) (hs.tr hq59.2.r) (fun k hk => (zd_row hq59.2 k).trans (hR k hk)))
        exact zq_fewer _ (zq_sub_spec (by repeat (first | exact trivial | exact rfl | refine And.intro ?_ ?_))) (L44 (10 * za_n A - fr + 1) (10 * za_n A - fr) fr _ (by omega) (by omega) (by omega) (by omega) rfl hA zr_same.rf (fun _ _ => rfl))
      · skip
        exact absurd (nI_lt (b := 3) (by omega) (by omega)) h16
