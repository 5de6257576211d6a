/-! LINES OF THE TEXT -/
def zt_fin (K : za_K) : Int32 := if K.2.1 = 3 then 0 else zt_mf K
theorem zt_pw.add {A : za_D} (hw : zt_pw A) {v : Int32} (hv : v = -4 ∨ ∃ q, q < za_n A ∧ v = nI q) : zt_pw (zt_add A v) := by
  intro i hi
  have hi2 : i < za_n A + 1 := hi
  show upd (za_pa A) (za_n A) v i = -4 ∨ ∃ q, q < i ∧ upd (za_pa A) (za_n A) v i = nI q
  rcases Nat.lt_or_ge i (za_n A) with h3 | h3
  · have hu : upd (za_pa A) (za_n A) v i = za_pa A i := if_neg (by omega)
    rw [hu]; exact hw i h3
  · have h4 : i = za_n A := by omega
    subst h4
    have hu : upd (za_pa A) (za_n A) v (za_n A) = v := if_pos rfl
    rw [hu]; exact hv
theorem zt_st.one {σ τ : zq_T} {d : Fin 5} {T : za_T} {P : za_P} (h : zt_st σ d T P) (hs : zd_same d σ τ) {A : za_D} (hA : zc_rep τ d A) (hp : zt_pw A) : zt_st τ d T (P.1, A, P.2.2) :=
  ⟨h.1.ds hs, hA, hp, (hs.2 _ _ _ (by omega)).trans h.2.2.2.1, (hs.2 _ _ _ (by omega)).trans h.2.2.2.2.1, (hs.2 _ _ _ (by omega)).trans h.2.2.2.2.2⟩
theorem zt_num_ok {T : za_T} {lo hi : Int32} {P : za_P} (h : (zt_num T lo hi P).1 = 0) : (zt_adv T P).1.2.1 = 2 ∧ lo ≤ (zt_adv T P).1.2.2.2 ∧ (zt_adv T P).1.2.2.2 ≤ hi := by
  unfold zt_num at h
  by_cases h1 : (zt_adv T P).1.2.1 = 2
  · by_cases h2 : lo ≤ (zt_adv T P).1.2.2.2 ∧ (zt_adv T P).1.2.2.2 ≤ hi
    · exact ⟨h1, h2⟩
    · rw [if_neg (fun z => z h1), if_neg h2] at h
      exact absurd h (by decide : ¬ (3 : Int32) = 0)
  · rw [if_pos h1] at h
    exact absurd h zt_mf0
theorem zt_num_nI {T : za_T} {lo hi : Int32} {P : za_P} (h : (zt_num T lo hi P).1 = 0) {a b : Nat} (ha : lo = nI a) (hb : hi = nI b) (ha2 : a < 1000) (hb2 : b < 1000) : ∃ x, a ≤ x ∧ x ≤ b ∧ (zt_adv T P).1.2.2.2 = nI x := by
  obtain ⟨-, h1, h2⟩ := zt_num_ok h
  generalize (zt_adv T P).1.2.2.2 = v at *
  subst ha hb
  rw [Int32.le_iff_toInt_le, nI_toInt (by omega)] at h1
  rw [Int32.le_iff_toInt_le, nI_toInt (by omega)] at h2
  have h3 : v = nI v.toInt.toNat := by
    apply Int32.toInt_inj.mp
    rw [nI_toInt (by omega)]; omega
  exact ⟨v.toInt.toNat, by omega, by omega, h3⟩
def zt_one (T : za_T) (P : za_P) : Int32 × za_P :=
  if ¬ za_n P.2.1 < 6 then (5, P)
  else if (zt_adv T P).1.2.1 = 2 then
    (if zb_in (zt_adv T P).1.2.2.2 (za_n P.2.1) = false then (3, zt_adv T P)
    else (zt_fin (zt_adv T (zt_adv T P)).1, ((zt_adv T (zt_adv T P)).1, zt_add P.2.1 (zt_adv T P).1.2.2.2, P.2.2)))
  else (zt_fin (zt_adv T P).1, ((zt_adv T P).1, zt_add P.2.1 (-4), P.2.2))
def zt_fact2 (T : za_T) (p : Int32) (r : Int32 × za_P) : Int32 × za_P :=
  if ¬ r.1 = 0 then r
  else if zb_bit (za_fa r.2.2.1 p.toNatClampNeg) r.2.1.2.2.2 then (4, r.2)
  else zt_stp T (r.2.1, za_sf r.2.2.1 (upd (za_fa r.2.2.1) p.toNatClampNeg (za_fa r.2.2.1 p.toNatClampNeg ||| (1 <<< (r.2.1.2.2.2 &&& 31)))), r.2.2.2.1 ||| (1 <<< (p &&& 31)), r.2.2.2.2)
def zt_fact (T : za_T) (P : za_P) : Int32 × za_P := if ¬ (zt_num T 0 5 P).1 = 0 then zt_num T 0 5 P else zt_fact2 T (zt_adv T P).1.2.2.2 (zt_num T 0 4 (zt_adv T P))
def zt_gone2 (T : za_T) (R : za_P) : Int32 × za_P :=
  if zb_bit (za_g R.2.1) R.1.2.2.2 then (4, R) else zt_stp T (R.1, za_sg R.2.1 (za_g R.2.1 ||| (1 <<< (R.1.2.2.2 &&& 31))), R.2.2.1 ||| (1 <<< (R.1.2.2.2 &&& 31)), R.2.2.2)
def zt_gone (T : za_T) (P : za_P) : Int32 × za_P := if ¬ (zt_num T 0 5 P).1 = 0 then zt_num T 0 5 P else zt_gone2 T (zt_adv T P)
def zt_odds2 (T : za_T) (f : Int32) (r : Int32 × za_P) : Int32 × za_P :=
  if ¬ r.1 = 0 then r else zt_stp T (r.2.1, za_so r.2.2.1 (upd (za_od r.2.2.1) f.toNatClampNeg r.2.1.2.2.2), r.2.2.2.1, r.2.2.2.2 ||| (1 <<< (f &&& 31)))
def zt_odds (T : za_T) (P : za_P) : Int32 × za_P :=
  if ¬ (zt_num T 0 4 P).1 = 0 then zt_num T 0 4 P
  else if zb_bit P.2.2.2 (zt_adv T P).1.2.2.2 then (4, zt_adv T P)
  else zt_odds2 T (zt_adv T P).1.2.2.2 (zt_num T 0 10 (zt_adv T P))
def zt_rule4 (T : za_T) (r t c v : Int32) (R : za_P) : Int32 × za_P :=
  if zt_pck T R.1 = -4 then (zt_mf R.1, R)
  else zt_stp T (R.1, zt_law R.2.1 r t c v (zt_pck T R.1), if c = 4 then R.2.2.1 ||| (1 <<< (v &&& 31)) else R.2.2.1, R.2.2.2)
def zt_rule3 (T : za_T) (r t c : Int32) (R : za_P) : Int32 × za_P := zt_rule4 T r t c R.1.2.2.2 (zt_adv T R)
def zt_rule2 (T : za_T) (r t : Int32) (R : za_P) : Int32 × za_P :=
  if zt_clm T R.1 = -4 then (zt_mf R.1, R)
  else if ¬ (zt_num T (if zt_clm T R.1 = 1 then 1 else 0) (zt_most (zt_clm T R.1)) R).1 = 0 then zt_num T (if zt_clm T R.1 = 1 then 1 else 0) (zt_most (zt_clm T R.1)) R
  else zt_rule3 T r t (zt_clm T R.1) (zt_adv T R)
def zt_ruleB (T : za_T) (r : Int32) (R : za_P) : Int32 × za_P := zt_rule2 T r R.1.2.2.2 (zt_adv T R)
def zt_ruleA (T : za_T) (R : za_P) : Int32 × za_P := if ¬ (zt_num T 0 3 R).1 = 0 then zt_num T 0 3 R else zt_ruleB T R.1.2.2.2 (zt_adv T R)
def zt_rule (T : za_T) (P : za_P) : Int32 × za_P :=
  if ¬ za_m P.2.1 < 5 then (5, P) else if ¬ (zt_num T 1 9 P).1 = 0 then zt_num T 1 9 P else zt_ruleA T (zt_adv T P)
def zt_line (T : za_T) (P : za_P) : Int32 × za_P :=
  if zt_isW T P.1 0 then zt_one T P else if zt_isW T P.1 1 then zt_fact T P else if zt_isW T P.1 2 then zt_gone T P else if zt_isW T P.1 3 then zt_odds T P else if zt_isW T P.1 4 then zt_rule T P else (zt_mf P.1, P)

set_option maxHeartbeats 4000000 in
theorem sp_E_tellOne {σ : zq_T} {d : Fin 5} {T : za_T} (hw : zt_wf T) {P : za_P} (hP : zt_st σ d T P) : zq_Sp zm_E_tellOne 3 [zq_O 3 0, zq_O 1 0, zq_O 10 d] σ (zq_rw (zq_I (zb_v (decide ((zt_one T P).1 = 0)))) (zt_out σ d T (zt_one T P))) := by
  have hst := hP.1.2.1.2.2.1
  have hkw := hP.1.2.2
  refine zq_sp [some (zq_O 3 0), some (zq_O 1 0), some (zq_O 10 d), none] (by decide +kernel) rfl (Nat.le_of_ble_eq_true rfl) (fun ν => ?_)
  refine gq_aload_n dz_E_tellOne_0 rfl ?_
  refine gq_getI zf_E_96 rfl rfl dz_E_tellOne_1 ?_
  rw [zc_n hP.2.1]
  refine gq_bipush (v := 6) dz_E_tellOne_4 rfl ?_
  refine gq_icmp_lt (tgt := 19) dz_E_tellOne_6 rfl (fun h6 => ?_) (fun h6 => ?_)
  · skip
    have h6 := (nI_ltI (b := 6) (by have := hP.2.1.1; omega) (by omega)).mp h6
    refine gq_bipush (v := -4) dz_E_tellOne_19 rfl ?_
    refine gw_istore_n 3 dz_E_tellOne_21 rfl (Nat.le_of_ble_eq_true rfl) rfl ?_
    dsimp only [List.set]
    refine gq_aload_n dz_E_tellOne_22 rfl ?_
    refine gq_cVX (sp_P_advance hP.1.1 hw (a := P.1.1) hP.1.2.1.1 hP.1.2.2.2.1) zw_P_advance zl_E_34 dz_E_tellOne_23 rfl rfl rfl (by decide) rfl rfl (Nat.le_of_ble_eq_true rfl) (fun τ23 hq23 => ?_)
    have hS := hP.adv hq23.1 hq23.2
    have hF : zt_fr d σ τ23 := hq23.1.fr
    have hk4 := hS.1.2.2.2.2
    have hkk := hS.1.2.1.2.1
    have hst := hS.1.2.1.2.2.1
    refine gq_aload_n dz_E_tellOne_26 rfl ?_
    refine gq_getI zf_E_37 rfl rfl dz_E_tellOne_27 ?_
    rw [hkk]
    refine gq_iconst (v := 2) dz_E_tellOne_30 rfl ?_
    refine gq_icmp_ne (tgt := 64) dz_E_tellOne_31 rfl (fun h31 => ?_) (fun h31 => ?_)
    · skip
      have h31 : ¬ (zt_adv T P).1.2.1 = 2 := fun z => h31 (by rw [z]; rfl)
      have hx : zt_one T P = (zt_fin (zt_adv T P).1, ((zt_adv T P).1, zt_add P.2.1 (-4), P.2.2)) := by rw [zt_one, if_neg (fun z => z h6), if_neg h31]
      rw [hx]
      have hvp : (-4 : Int32) = -4 ∨ ∃ q, q < za_n P.2.1 ∧ (-4 : Int32) = nI q := Or.inl rfl
      refine gq_aload_n dz_E_tellOne_64 rfl ?_
      refine gq_iload_n dz_E_tellOne_65 rfl ?_
      refine gq_cVX (sp_D_addOne hS.2.1 hS.2.2.1 h6 hvp) zw_D_addOne zl_E_109 dz_E_tellOne_66 rfl rfl rfl (by decide) rfl rfl (Nat.le_of_ble_eq_true rfl) (fun τ66 hq66 => ?_)
      have hR := hS.one hq66.1 hq66.2 (zt_pw.add hS.2.2.1 hvp)
      have hF := hF.tr hq66.1.fr
      have hkk := hR.1.2.1.2.1
      refine gq_aload_n dz_E_tellOne_69 rfl ?_
      refine gq_getI zf_E_37 rfl rfl dz_E_tellOne_70 ?_
      rw [hkk]
      refine gq_iconst (v := 3) dz_E_tellOne_73 rfl ?_
      refine gq_icmp_eq (tgt := 85) dz_E_tellOne_74 rfl (fun h74 => ?_) (fun h74 => ?_)
      · skip
        have hz : zt_fin (zt_adv T P).1 = 0 := if_pos ((zt_kk (k := (zt_adv T P).1.2.1) (c := 3) (by omega) (by omega)).mp h74)
        rw [hz]
        refine gq_iconst (v := 1) dz_E_tellOne_85 rfl ?_
        refine gq_goto (tgt := 90) dz_E_tellOne_86 rfl ?_
        refine gw_iretP .boolean dz_E_tellOne_90 rfl (by first | rfl | exact zb_nar _ | exact pk_nc _) ?_ ?_
        · exact (zt_dt rfl).symm
        · exact zt_out.ok hF hR
      · skip
        have hz : zt_fin (zt_adv T P).1 = zt_mf (zt_adv T P).1 := if_neg (fun z => h74 (congrArg nI z))
        rw [hz]
        refine gq_aload_n dz_E_tellOne_77 rfl ?_
        refine gq_aload_n dz_E_tellOne_78 rfl ?_
        refine gq_cV (sp_E_misplaced hR.1.2.1 hR.1.2.2) zw_E_misplaced zl_E_92 dz_E_tellOne_79 rfl rfl rfl (by decide) rfl rfl (Nat.le_of_ble_eq_true rfl) ?_
        refine gq_if_eq (tgt := 89) dz_E_tellOne_82 rfl (fun h82 => ?_) (fun h82 => ?_)
        · skip
          refine gq_iconst (v := 0) dz_E_tellOne_89 rfl ?_
          refine gw_iretP .boolean dz_E_tellOne_90 rfl (by first | rfl | exact zb_nar _ | exact pk_nc _) ?_ ?_
          · exact (zt_df zt_mf0).symm
          · exact zt_out.bad hF zt_mf0 rfl
        · skip
          exact absurd rfl h82
    · skip
      have h31 := (zt_kk (c := 2) (by omega) (by omega)).mp h31
      have hvv := hS.1.2.1.2.2.2 h31
      refine gq_aload_n dz_E_tellOne_34 rfl ?_
      refine gq_aload_n dz_E_tellOne_35 rfl ?_
      refine gq_getI zf_E_102 rfl rfl dz_E_tellOne_36 ?_
      rw [hvv]
      refine gq_cV (sp_D_isOne hS.2.1 _) zw_D_isOne zl_E_105 dz_E_tellOne_39 rfl rfl rfl (by decide) rfl rfl (Nat.le_of_ble_eq_true rfl) ?_
      refine gw_ifb_ne (tgt := 55) dz_E_tellOne_42 rfl (fun h42 => ?_) (fun h42 => ?_)
      · skip
        have h42 : zb_in (zt_adv T P).1.2.2.2 (za_n P.2.1) = true := h42
        have hx : zt_one T P = (zt_fin (zt_adv T (zt_adv T P)).1, ((zt_adv T (zt_adv T P)).1, zt_add P.2.1 (zt_adv T P).1.2.2.2, P.2.2)) := by rw [zt_one, if_neg (fun z => z h6), if_pos h31, if_neg (by rw [h42]; exact Bool.noConfusion)]
        rw [hx]
        have hvp : (zt_adv T P).1.2.2.2 = -4 ∨ ∃ q, q < za_n P.2.1 ∧ (zt_adv T P).1.2.2.2 = nI q := Or.inr ((zb_in_iff (by have := hP.2.1.1; omega)).mp h42)
        refine gq_aload_n dz_E_tellOne_55 rfl ?_
        refine gq_getI zf_E_102 rfl rfl dz_E_tellOne_56 ?_
        rw [hvv]
        refine gw_istore_n 3 dz_E_tellOne_59 rfl (Nat.le_of_ble_eq_true rfl) rfl ?_
        dsimp only [List.set]
        refine gq_aload_n dz_E_tellOne_60 rfl ?_
        refine gq_cVX (sp_P_advance hS.1.1 hw (a := (zt_adv T P).1.1) hS.1.2.1.1 hS.1.2.2.2.1) zw_P_advance zl_E_34 dz_E_tellOne_61 rfl rfl rfl (by decide) rfl rfl (Nat.le_of_ble_eq_true rfl) (fun τ61 hq61 => ?_)
        have hS2 := hS.adv hq61.1 hq61.2
        have hF : zt_fr d σ τ61 := hF.tr hq61.1.fr
        have hS := hS2
        have hk4 := hS.1.2.2.2.2
        refine gq_aload_n dz_E_tellOne_64 rfl ?_
        refine gq_iload_n dz_E_tellOne_65 rfl ?_
        refine gq_cVX (sp_D_addOne hS.2.1 hS.2.2.1 h6 hvp) zw_D_addOne zl_E_109 dz_E_tellOne_66 rfl rfl rfl (by decide) rfl rfl (Nat.le_of_ble_eq_true rfl) (fun τ66 hq66 => ?_)
        have hR := hS.one hq66.1 hq66.2 (zt_pw.add hS.2.2.1 hvp)
        have hF := hF.tr hq66.1.fr
        have hkk := hR.1.2.1.2.1
        refine gq_aload_n dz_E_tellOne_69 rfl ?_
        refine gq_getI zf_E_37 rfl rfl dz_E_tellOne_70 ?_
        rw [hkk]
        refine gq_iconst (v := 3) dz_E_tellOne_73 rfl ?_
        refine gq_icmp_eq (tgt := 85) dz_E_tellOne_74 rfl (fun h74 => ?_) (fun h74 => ?_)
        · skip
          have hz : zt_fin (zt_adv T (zt_adv T P)).1 = 0 := if_pos ((zt_kk (k := (zt_adv T (zt_adv T P)).1.2.1) (c := 3) (by omega) (by omega)).mp h74)
          rw [hz]
          refine gq_iconst (v := 1) dz_E_tellOne_85 rfl ?_
          refine gq_goto (tgt := 90) dz_E_tellOne_86 rfl ?_
          refine gw_iretP .boolean dz_E_tellOne_90 rfl (by first | rfl | exact zb_nar _ | exact pk_nc _) ?_ ?_
          · exact (zt_dt rfl).symm
          · exact zt_out.ok hF hR
        · skip
          have hz : zt_fin (zt_adv T (zt_adv T P)).1 = zt_mf (zt_adv T (zt_adv T P)).1 := if_neg (fun z => h74 (congrArg nI z))
          rw [hz]
          refine gq_aload_n dz_E_tellOne_77 rfl ?_
          refine gq_aload_n dz_E_tellOne_78 rfl ?_
          refine gq_cV (sp_E_misplaced hR.1.2.1 hR.1.2.2) zw_E_misplaced zl_E_92 dz_E_tellOne_79 rfl rfl rfl (by decide) rfl rfl (Nat.le_of_ble_eq_true rfl) ?_
          refine gq_if_eq (tgt := 89) dz_E_tellOne_82 rfl (fun h82 => ?_) (fun h82 => ?_)
          · skip
            refine gq_iconst (v := 0) dz_E_tellOne_89 rfl ?_
            refine gw_iretP .boolean dz_E_tellOne_90 rfl (by first | rfl | exact zb_nar _ | exact pk_nc _) ?_ ?_
            · exact (zt_df zt_mf0).symm
            · exact zt_out.bad hF zt_mf0 rfl
          · skip
            exact absurd rfl h82
      · skip
        have hx : zt_one T P = (3, zt_adv T P) := by rw [zt_one, if_neg (fun z => z h6), if_pos h31, if_pos (show zb_in _ (za_n P.2.1) = false from h42)]
        rw [hx]
        refine gq_aload_n dz_E_tellOne_45 rfl ?_
        refine gq_iconst (v := 3) dz_E_tellOne_46 rfl ?_
        refine gq_aload_n dz_E_tellOne_47 rfl ?_
        refine gq_getI zf_E_99 rfl rfl dz_E_tellOne_48 ?_
        rw [hst]
        refine gq_cV (sp_E_fail _ _) zw_E_fail zl_E_55 dz_E_tellOne_51 rfl rfl rfl (by decide) rfl rfl (Nat.le_of_ble_eq_true rfl) ?_
        refine gw_iretP .boolean dz_E_tellOne_54 rfl (by first | rfl | exact zb_nar _ | exact pk_nc _) ?_ ?_
        · exact (zt_df (e := 3) (by decide)).symm
        · exact zt_out.bad hF (by decide) rfl
  · skip
    have hx : zt_one T P = (5, P) := if_pos (fun z => h6 (nI_lt (b := 6) z (by omega)))
    rw [hx]
    refine gq_aload_n dz_E_tellOne_9 rfl ?_
    refine gq_iconst (v := 5) dz_E_tellOne_10 rfl ?_
    refine gq_aload_n dz_E_tellOne_11 rfl ?_
    refine gq_getI zf_E_99 rfl rfl dz_E_tellOne_12 ?_
    rw [hst]
    refine gq_cV (sp_E_fail _ _) zw_E_fail zl_E_55 dz_E_tellOne_15 rfl rfl rfl (by decide) rfl rfl (Nat.le_of_ble_eq_true rfl) ?_
    refine gw_iretP .boolean dz_E_tellOne_18 rfl (by first | rfl | exact zb_nar _ | exact pk_nc _) ?_ ?_
    · exact (zt_df (e := 5) (by decide)).symm
    · exact zt_out.bad zt_fr.rf (by decide) rfl
set_option maxHeartbeats 4000000 in
theorem sp_E_tellFact {σ : zq_T} {d : Fin 5} {T : za_T} (hw : zt_wf T) {P : za_P} (hP : zt_st σ d T P) : zq_Sp zm_E_tellFact 4 [zq_O 3 0, zq_O 1 0, zq_O 10 d] σ (zq_rw (zq_I (zb_v (decide ((zt_fact T P).1 = 0)))) (zt_out σ d T (zt_fact T P))) := by
  refine zq_sp [some (zq_O 3 0), some (zq_O 1 0), some (zq_O 10 d), none] (by decide +kernel) rfl (Nat.le_of_ble_eq_true rfl) (fun ν => ?_)
  refine gq_aload_n dz_E_tellFact_0 rfl ?_
  refine gq_aload_n dz_E_tellFact_1 rfl ?_
  refine gq_iconst (v := 0) dz_E_tellFact_2 rfl ?_
  refine gq_iconst (v := 5) dz_E_tellFact_3 rfl ?_
  refine gq_cVP (sp_E_number hw hP _ _) zw_E_number zl_E_113 dz_E_tellFact_4 rfl rfl rfl (by decide) rfl rfl (Nat.le_of_ble_eq_true rfl) (fun τ4 hq4 => ?_)
  refine gw_ifb_ne (tgt := 12) dz_E_tellFact_7 rfl (fun h7 => ?_) (fun h7 => ?_)
  · skip
    have e7 := of_decide_eq_true h7
    have hF : zt_fr d σ τ4 := hq4.1
    have hS : zt_st τ4 d T (zt_adv T P) := hq4.2.1 e7
    obtain ⟨p, hpa, hpb, hpe⟩ := zt_num_nI e7 (a := 0) (b := 5) rfl rfl (by decide) (by decide)
    have hvv := (hS.1.2.1.2.2.2 (zt_num_ok e7).1).trans hpe
    have hst := hS.1.2.1.2.2.1
    refine gq_aload_n dz_E_tellFact_12 rfl ?_
    refine gq_getI zf_E_102 rfl rfl dz_E_tellFact_13 ?_
    rw [hvv]
    refine gw_istore_n 3 dz_E_tellFact_16 rfl (Nat.le_of_ble_eq_true rfl) rfl ?_
    dsimp only [List.set]
    refine gq_aload_n dz_E_tellFact_17 rfl ?_
    refine gq_aload_n dz_E_tellFact_18 rfl ?_
    refine gq_iconst (v := 0) dz_E_tellFact_19 rfl ?_
    refine gq_iconst (v := 4) dz_E_tellFact_20 rfl ?_
    refine gq_cVP (sp_E_number hw hS _ _) zw_E_number zl_E_113 dz_E_tellFact_21 rfl rfl rfl (by decide) rfl rfl (Nat.le_of_ble_eq_true rfl) (fun τ21 hq21 => ?_)
    refine gw_ifb_ne (tgt := 29) dz_E_tellFact_24 rfl (fun h24 => ?_) (fun h24 => ?_)
    · skip
      have e24 := of_decide_eq_true h24
      have hF : zt_fr d σ τ21 := hF.tr hq21.1
      have hS : zt_st τ21 d T (zt_adv T (zt_adv T P)) := hq21.2.1 e24
      obtain ⟨f, hfa, hfb, hfe⟩ := zt_num_nI e24 (a := 0) (b := 4) rfl rfl (by decide) (by decide)
      have hvv := (hS.1.2.1.2.2.2 (zt_num_ok e24).1).trans hfe
      have hst := hS.1.2.1.2.2.1
      refine gq_iload_n dz_E_tellFact_29 rfl ?_
      refine gq_if_lt (tgt := 55) dz_E_tellFact_30 rfl (fun h30 => ?_) (fun h30 => ?_)
      · skip
        exact absurd h30 (nI_pos (by omega))
      · skip
        refine gq_iload_n dz_E_tellFact_33 rfl ?_
        refine gq_bipush (v := 6) dz_E_tellFact_34 rfl ?_
        refine gq_icmp_ge (tgt := 55) dz_E_tellFact_36 rfl (fun h36 => ?_) (fun h36 => ?_)
        · skip
          exact absurd ((nI_leI (a := 6) (by omega) (by omega)).mp h36) (by omega)
        · skip
          refine gq_aload_n dz_E_tellFact_39 rfl ?_
          refine gq_getR 13 zf_E_117 rfl rfl dz_E_tellFact_40 ?_
          refine gq_iload_n dz_E_tellFact_43 rfl ?_
          refine gw_iald (p) (rfl) rfl (rfl) (Nat.le_of_ble_eq_true rfl) (by omega) dz_E_tellFact_44 ?_
          rw [(hS.2.1.2.2.2.2.2.2.1 p (by omega)).1]
          refine gq_aload_n dz_E_tellFact_45 rfl ?_
          refine gq_getI zf_E_102 rfl rfl dz_E_tellFact_46 ?_
          rw [hvv]
          refine gq_ishr dz_E_tellFact_49 ?_
          refine gq_iconst (v := 1) dz_E_tellFact_50 rfl ?_
          refine gq_iand dz_E_tellFact_51 ?_
          refine gq_if_eq (tgt := 65) dz_E_tellFact_52 rfl (fun h52 => ?_) (fun h52 => ?_)
          · skip
            have h52 : zb_bit (za_fa P.2.1 p) (nI f) = false := zb_bit_f h52
            have hx : zt_fact T P = zt_stp T ((zt_adv T (zt_adv T P)).1, za_sf P.2.1 (upd (za_fa P.2.1) p (za_fa P.2.1 p ||| (1 <<< (nI f &&& 31)))), P.2.2.1 ||| (1 <<< (nI p &&& 31)), P.2.2.2) := by rw [zt_fact, if_neg (fun z => z e7), zt_fact2, if_neg (fun z => z e24), hpe, nI_clamp (by omega)]; show (if zb_bit (za_fa P.2.1 p) (zt_adv T (zt_adv T P)).1.2.2.2 then _ else zt_stp T ((zt_adv T (zt_adv T P)).1, za_sf P.2.1 (upd (za_fa P.2.1) p (za_fa P.2.1 p ||| (1 <<< ((zt_adv T (zt_adv T P)).1.2.2.2 &&& 31)))), P.2.2.1 ||| (1 <<< (nI p &&& 31)), P.2.2.2)) = _; rw [hfe, if_neg (by rw [h52]; exact Bool.noConfusion)]
            rw [hx]
            refine gq_aload_n dz_E_tellFact_65 rfl ?_
            refine gq_getR 13 zf_E_117 rfl rfl dz_E_tellFact_66 ?_
            refine gq_iload_n dz_E_tellFact_69 rfl ?_
            refine gq_dup2 dz_E_tellFact_70 rfl rfl ?_
            refine gw_iald (p) (rfl) rfl (rfl) (Nat.le_of_ble_eq_true rfl) (by omega) dz_E_tellFact_71 ?_
            rw [(hS.2.1.2.2.2.2.2.2.1 p (by omega)).1]
            refine gq_iconst (v := 1) dz_E_tellFact_72 rfl ?_
            refine gq_aload_n dz_E_tellFact_73 rfl ?_
            refine gq_getI zf_E_102 rfl rfl dz_E_tellFact_74 ?_
            rw [hvv]
            refine gq_ishl dz_E_tellFact_77 ?_
            refine gq_ior dz_E_tellFact_78 ?_
            refine gw_iast (p) (rfl) rfl (rfl) (Nat.le_of_ble_eq_true rfl) (by omega) dz_E_tellFact_79 ?_
            refine gq_aload_n dz_E_tellFact_80 rfl ?_
            refine gq_dup dz_E_tellFact_81 rfl ?_
            refine gq_getI zf_E_18 rfl rfl dz_E_tellFact_82 ?_
            rw [zq_upN (by omega), hS.2.2.2.1]
            refine gq_iconst (v := 1) dz_E_tellFact_85 rfl ?_
            refine gq_iload_n dz_E_tellFact_86 rfl ?_
            refine gq_ishl dz_E_tellFact_87 ?_
            refine gq_ior dz_E_tellFact_88 ?_
            refine gq_putI zv_E_18 rfl rfl dz_E_tellFact_89 ?_
            have hR : zt_st _ d T ((zt_adv T (zt_adv T P)).1, za_sf P.2.1 (upd (za_fa P.2.1) p (za_fa P.2.1 p ||| (1 <<< (nI f &&& 31)))), P.2.2.1 ||| (1 <<< (nI p &&& 31)), P.2.2.2) := ⟨(hS.1.up (t := 13) (j := d) (k := p) (v := za_fa P.2.1 p ||| (1 <<< (nI f &&& 31))) (by omega)).up (t := 3) (j := 0) (k := 2) (v := P.2.2.1 ||| (1 <<< (nI p &&& 31))) (by omega), (hS.2.1.sf p _).up (by omega), hS.2.2.1, zq_upE, (zq_upN (by omega)).trans ((zq_upN (by omega)).trans hS.2.2.2.2.1), (zq_upN (by omega)).trans ((zq_upN (by omega)).trans hS.2.2.2.2.2)⟩
            refine gq_aload_n dz_E_tellFact_92 rfl ?_
            refine gq_aload_n dz_E_tellFact_93 rfl ?_
            refine gq_cVP (sp_E_stop hw hR) zw_E_stop zl_E_121 dz_E_tellFact_94 rfl rfl rfl (by decide) rfl rfl (Nat.le_of_ble_eq_true rfl) (fun τ94 hq94 => ?_)
            refine gw_iretP .boolean dz_E_tellFact_97 rfl (by first | rfl | exact zb_nar _ | exact pk_nc _) ?_ ?_
            · rfl
            · exact zt_out.tr ((hF.upd (t := 13) (by omega) (by omega)).up) hq94
          · skip
            have h52 : zb_bit (za_fa P.2.1 p) (nI f) = true := zb_bit_t h52
            have hx : zt_fact T P = (4, zt_adv T (zt_adv T P)) := by rw [zt_fact, if_neg (fun z => z e7), zt_fact2, if_neg (fun z => z e24), hpe, nI_clamp (by omega)]; show (if zb_bit (za_fa P.2.1 p) (zt_adv T (zt_adv T P)).1.2.2.2 then (4, zt_adv T (zt_adv T P)) else _) = _; rw [hfe, if_pos h52]
            rw [hx]
            refine gq_aload_n dz_E_tellFact_55 rfl ?_
            refine gq_iconst (v := 4) dz_E_tellFact_56 rfl ?_
            refine gq_aload_n dz_E_tellFact_57 rfl ?_
            refine gq_getI zf_E_99 rfl rfl dz_E_tellFact_58 ?_
            rw [hst]
            refine gq_cV (sp_E_fail _ _) zw_E_fail zl_E_55 dz_E_tellFact_61 rfl rfl rfl (by decide) rfl rfl (Nat.le_of_ble_eq_true rfl) ?_
            refine gw_iretP .boolean dz_E_tellFact_64 rfl (by first | rfl | exact zb_nar _ | exact pk_nc _) ?_ ?_
            · exact (zt_df (e := 4) (by decide)).symm
            · exact zt_out.bad hF (by decide) rfl
    · skip
      have e24 := of_decide_eq_false h24
      have hx : zt_fact T P = zt_num T 0 4 (zt_adv T P) := by rw [zt_fact, if_neg (fun z => z e7), zt_fact2, if_pos e24]
      rw [hx]
      refine gq_iconst (v := 0) dz_E_tellFact_27 rfl ?_
      refine gw_iretP .boolean dz_E_tellFact_28 rfl (by first | rfl | exact zb_nar _ | exact pk_nc _) ?_ ?_
      · rw [h24]; rfl
      · exact zt_out.tr hF hq21
  · skip
    have e7 := of_decide_eq_false h7
    have hx : zt_fact T P = zt_num T 0 5 P := if_pos e7
    rw [hx]
    refine gq_iconst (v := 0) dz_E_tellFact_10 rfl ?_
    refine gw_iretP .boolean dz_E_tellFact_11 rfl (by first | rfl | exact zb_nar _ | exact pk_nc _) ?_ ?_
    · rw [h7]; rfl
    · exact hq4
set_option maxHeartbeats 4000000 in
theorem sp_E_tellGone {σ : zq_T} {d : Fin 5} {T : za_T} (hw : zt_wf T) {P : za_P} (hP : zt_st σ d T P) : zq_Sp zm_E_tellGone 4 [zq_O 3 0, zq_O 1 0, zq_O 10 d] σ (zq_rw (zq_I (zb_v (decide ((zt_gone T P).1 = 0)))) (zt_out σ d T (zt_gone T P))) := by
  refine zq_sp [some (zq_O 3 0), some (zq_O 1 0), some (zq_O 10 d)] (by decide +kernel) rfl (Nat.le_of_ble_eq_true rfl) (fun ν => ?_)
  refine gq_aload_n dz_E_tellGone_0 rfl ?_
  refine gq_aload_n dz_E_tellGone_1 rfl ?_
  refine gq_iconst (v := 0) dz_E_tellGone_2 rfl ?_
  refine gq_iconst (v := 5) dz_E_tellGone_3 rfl ?_
  refine gq_cVP (sp_E_number hw hP _ _) zw_E_number zl_E_113 dz_E_tellGone_4 rfl rfl rfl (by decide) rfl rfl (Nat.le_of_ble_eq_true rfl) (fun τ4 hq4 => ?_)
  refine gw_ifb_ne (tgt := 12) dz_E_tellGone_7 rfl (fun h7 => ?_) (fun h7 => ?_)
  · skip
    have e7 := of_decide_eq_true h7
    have hF : zt_fr d σ τ4 := hq4.1
    have hS : zt_st τ4 d T (zt_adv T P) := hq4.2.1 e7
    obtain ⟨p, hpa, hpb, hpe⟩ := zt_num_nI e7 (a := 0) (b := 5) rfl rfl (by decide) (by decide)
    have hvv := (hS.1.2.1.2.2.2 (zt_num_ok e7).1).trans hpe
    have hst := hS.1.2.1.2.2.1
    have hg := hS.2.1.2.2.2.1
    refine gq_aload_n dz_E_tellGone_12 rfl ?_
    refine gq_aload_n dz_E_tellGone_13 rfl ?_
    refine gq_getI zf_E_102 rfl rfl dz_E_tellGone_14 ?_
    rw [hvv]
    refine gq_cV (sp_D_isGone hS.2.1 _) zw_D_isGone zl_E_124 dz_E_tellGone_17 rfl rfl rfl (by decide) rfl rfl (Nat.le_of_ble_eq_true rfl) ?_
    refine gw_ifb_eq (tgt := 33) dz_E_tellGone_20 rfl (fun h20 => ?_) (fun h20 => ?_)
    · skip
      have h20 : zb_bit (za_g P.2.1) (nI p) = false := h20
      have hx : zt_gone T P = zt_stp T ((zt_adv T P).1, za_sg P.2.1 (za_g P.2.1 ||| (1 <<< (nI p &&& 31))), P.2.2.1 ||| (1 <<< (nI p &&& 31)), P.2.2.2) := by rw [zt_gone, if_neg (fun z => z e7), zt_gone2, hpe]; show (if zb_bit (za_g P.2.1) (nI p) then _ else _) = _; rw [if_neg (by rw [h20]; exact Bool.noConfusion)]; rfl
      rw [hx]
      refine gq_aload_n dz_E_tellGone_33 rfl ?_
      refine gq_dup dz_E_tellGone_34 rfl ?_
      refine gq_getI zf_E_127 rfl rfl dz_E_tellGone_35 ?_
      rw [hg]
      refine gq_iconst (v := 1) dz_E_tellGone_38 rfl ?_
      refine gq_aload_n dz_E_tellGone_39 rfl ?_
      refine gq_getI zf_E_102 rfl rfl dz_E_tellGone_40 ?_
      rw [hvv]
      refine gq_ishl dz_E_tellGone_43 ?_
      refine gq_ior dz_E_tellGone_44 ?_
      refine gq_putI zv_E_127 rfl rfl dz_E_tellGone_45 ?_
      refine gq_aload_n dz_E_tellGone_48 rfl ?_
      refine gq_dup dz_E_tellGone_49 rfl ?_
      refine gq_getI zf_E_18 rfl rfl dz_E_tellGone_50 ?_
      rw [zq_upN (by omega), hS.2.2.2.1]
      refine gq_iconst (v := 1) dz_E_tellGone_53 rfl ?_
      refine gq_aload_n dz_E_tellGone_54 rfl ?_
      refine gq_getI zf_E_102 rfl rfl dz_E_tellGone_55 ?_
      rw [zq_upN (by omega), hvv]
      refine gq_ishl dz_E_tellGone_58 ?_
      refine gq_ior dz_E_tellGone_59 ?_
      refine gq_putI zv_E_18 rfl rfl dz_E_tellGone_60 ?_
      have hR : zt_st _ d T ((zt_adv T P).1, za_sg P.2.1 (za_g P.2.1 ||| (1 <<< (nI p &&& 31))), P.2.2.1 ||| (1 <<< (nI p &&& 31)), P.2.2.2) := ⟨(hS.1.up (t := 10) (j := d) (k := 1) (v := za_g P.2.1 ||| (1 <<< (nI p &&& 31))) (by omega)).up (t := 3) (j := 0) (k := 2) (v := P.2.2.1 ||| (1 <<< (nI p &&& 31))) (by omega), (hS.2.1.sg _).up (by omega), hS.2.2.1, zq_upE, (zq_upN (by omega)).trans ((zq_upN (by omega)).trans hS.2.2.2.2.1), (zq_upN (by omega)).trans ((zq_upN (by omega)).trans hS.2.2.2.2.2)⟩
      refine gq_aload_n dz_E_tellGone_63 rfl ?_
      refine gq_aload_n dz_E_tellGone_64 rfl ?_
      refine gq_cVP (sp_E_stop hw hR) zw_E_stop zl_E_121 dz_E_tellGone_65 rfl rfl rfl (by decide) rfl rfl (Nat.le_of_ble_eq_true rfl) (fun τ65 hq65 => ?_)
      refine gw_iretP .boolean dz_E_tellGone_68 rfl (by first | rfl | exact zb_nar _ | exact pk_nc _) ?_ ?_
      · rfl
      · exact zt_out.tr ((hF.upd (t := 10) (by omega) (by omega)).up) hq65
    · skip
      have h20 : zb_bit (za_g P.2.1) (nI p) = true := h20
      have hx : zt_gone T P = (4, zt_adv T P) := by rw [zt_gone, if_neg (fun z => z e7), zt_gone2, hpe]; exact if_pos h20
      rw [hx]
      refine gq_aload_n dz_E_tellGone_23 rfl ?_
      refine gq_iconst (v := 4) dz_E_tellGone_24 rfl ?_
      refine gq_aload_n dz_E_tellGone_25 rfl ?_
      refine gq_getI zf_E_99 rfl rfl dz_E_tellGone_26 ?_
      rw [hst]
      refine gq_cV (sp_E_fail _ _) zw_E_fail zl_E_55 dz_E_tellGone_29 rfl rfl rfl (by decide) rfl rfl (Nat.le_of_ble_eq_true rfl) ?_
      refine gw_iretP .boolean dz_E_tellGone_32 rfl (by first | rfl | exact zb_nar _ | exact pk_nc _) ?_ ?_
      · exact (zt_df (e := 4) (by decide)).symm
      · exact zt_out.bad hF (by decide) rfl
  · skip
    have e7 := of_decide_eq_false h7
    have hx : zt_gone T P = zt_num T 0 5 P := if_pos e7
    rw [hx]
    refine gq_iconst (v := 0) dz_E_tellGone_10 rfl ?_
    refine gw_iretP .boolean dz_E_tellGone_11 rfl (by first | rfl | exact zb_nar _ | exact pk_nc _) ?_ ?_
    · rw [h7]; rfl
    · exact hq4
set_option maxHeartbeats 4000000 in
theorem sp_E_tellOdds {σ : zq_T} {d : Fin 5} {T : za_T} (hw : zt_wf T) {P : za_P} (hP : zt_st σ d T P) : zq_Sp zm_E_tellOdds 4 [zq_O 3 0, zq_O 1 0, zq_O 10 d] σ (zq_rw (zq_I (zb_v (decide ((zt_odds T P).1 = 0)))) (zt_out σ d T (zt_odds T P))) := by
  refine zq_sp [some (zq_O 3 0), some (zq_O 1 0), some (zq_O 10 d), none] (by decide +kernel) rfl (Nat.le_of_ble_eq_true rfl) (fun ν => ?_)
  refine gq_aload_n dz_E_tellOdds_0 rfl ?_
  refine gq_aload_n dz_E_tellOdds_1 rfl ?_
  refine gq_iconst (v := 0) dz_E_tellOdds_2 rfl ?_
  refine gq_iconst (v := 4) dz_E_tellOdds_3 rfl ?_
  refine gq_cVP (sp_E_number hw hP _ _) zw_E_number zl_E_113 dz_E_tellOdds_4 rfl rfl rfl (by decide) rfl rfl (Nat.le_of_ble_eq_true rfl) (fun τ4 hq4 => ?_)
  refine gw_ifb_ne (tgt := 12) dz_E_tellOdds_7 rfl (fun h7 => ?_) (fun h7 => ?_)
  · skip
    have e7 := of_decide_eq_true h7
    have hF : zt_fr d σ τ4 := hq4.1
    have hS : zt_st τ4 d T (zt_adv T P) := hq4.2.1 e7
    obtain ⟨p, hpa, hpb, hpe⟩ := zt_num_nI e7 (a := 0) (b := 4) rfl rfl (by decide) (by decide)
    have hvv := (hS.1.2.1.2.2.2 (zt_num_ok e7).1).trans hpe
    have hst := hS.1.2.1.2.2.1
    have hwg := hS.2.2.2.2.1
    refine gq_aload_n dz_E_tellOdds_12 rfl ?_
    refine gq_getI zf_E_102 rfl rfl dz_E_tellOdds_13 ?_
    rw [hvv]
    refine gw_istore_n 3 dz_E_tellOdds_16 rfl (Nat.le_of_ble_eq_true rfl) rfl ?_
    dsimp only [List.set]
    refine gq_aload_n dz_E_tellOdds_17 rfl ?_
    refine gq_getI zf_E_21 rfl rfl dz_E_tellOdds_18 ?_
    rw [hwg]
    refine gq_iload_n dz_E_tellOdds_21 rfl ?_
    refine gq_ishr dz_E_tellOdds_22 ?_
    refine gq_iconst (v := 1) dz_E_tellOdds_23 rfl ?_
    refine gq_iand dz_E_tellOdds_24 ?_
    refine gq_if_eq (tgt := 38) dz_E_tellOdds_25 rfl (fun h25 => ?_) (fun h25 => ?_)
    · skip
      have h25 : zb_bit P.2.2.2 (nI p) = false := zb_bit_f h25
      refine gq_aload_n dz_E_tellOdds_38 rfl ?_
      refine gq_aload_n dz_E_tellOdds_39 rfl ?_
      refine gq_iconst (v := 0) dz_E_tellOdds_40 rfl ?_
      refine gq_bipush (v := 10) dz_E_tellOdds_41 rfl ?_
      refine gq_cVP (sp_E_number hw hS _ _) zw_E_number zl_E_113 dz_E_tellOdds_43 rfl rfl rfl (by decide) rfl rfl (Nat.le_of_ble_eq_true rfl) (fun τ43 hq43 => ?_)
      refine gw_ifb_ne (tgt := 51) dz_E_tellOdds_46 rfl (fun h46 => ?_) (fun h46 => ?_)
      · skip
        have e46 := of_decide_eq_true h46
        have hF : zt_fr d σ τ43 := hF.tr hq43.1
        have hS : zt_st τ43 d T (zt_adv T (zt_adv T P)) := hq43.2.1 e46
        obtain ⟨f, hfa, hfb, hfe⟩ := zt_num_nI e46 (a := 0) (b := 10) rfl rfl (by decide) (by decide)
        have hvv := (hS.1.2.1.2.2.2 (zt_num_ok e46).1).trans hfe
        have hst := hS.1.2.1.2.2.1
        have hx : zt_odds T P = zt_stp T ((zt_adv T (zt_adv T P)).1, za_so P.2.1 (upd (za_od P.2.1) p (nI f)), P.2.2.1, P.2.2.2 ||| (1 <<< (nI p &&& 31))) := by rw [zt_odds, if_neg (fun z => z e7), hpe, if_neg (by rw [h25]; exact Bool.noConfusion), zt_odds2, if_neg (fun z => z e46), nI_clamp (by omega)]; show zt_stp T ((zt_adv T (zt_adv T P)).1, za_so P.2.1 (upd (za_od P.2.1) p (zt_adv T (zt_adv T P)).1.2.2.2), P.2.2.1, P.2.2.2 ||| (1 <<< (nI p &&& 31))) = _; rw [hfe]
        rw [hx]
        refine gq_iload_n dz_E_tellOdds_51 rfl ?_
        refine gq_cSN (sp_S_isFact _) zw_S_isFact zl_E_129 dz_E_tellOdds_52 (by decide) rfl rfl (Nat.le_of_ble_eq_true rfl) ?_
        refine gw_ifb_eq (tgt := 68) dz_E_tellOdds_55 rfl (fun h55 => ?_) (fun h55 => ?_)
        · skip
          exact absurd (h55.symm.trans (zb_in_nI (n := 5) (by omega) (by omega))) Bool.noConfusion
        · skip
          refine gq_aload_n dz_E_tellOdds_58 rfl ?_
          refine gq_getR 15 zf_E_132 rfl rfl dz_E_tellOdds_59 ?_
          refine gq_iload_n dz_E_tellOdds_62 rfl ?_
          refine gq_aload_n dz_E_tellOdds_63 rfl ?_
          refine gq_getI zf_E_102 rfl rfl dz_E_tellOdds_64 ?_
          rw [hvv]
          refine gw_iast (p) (rfl) rfl (rfl) (Nat.le_of_ble_eq_true rfl) (by omega) dz_E_tellOdds_67 ?_
          refine gq_aload_n dz_E_tellOdds_68 rfl ?_
          refine gq_dup dz_E_tellOdds_69 rfl ?_
          refine gq_getI zf_E_21 rfl rfl dz_E_tellOdds_70 ?_
          rw [zq_upN (by omega), hS.2.2.2.2.1]
          refine gq_iconst (v := 1) dz_E_tellOdds_73 rfl ?_
          refine gq_iload_n dz_E_tellOdds_74 rfl ?_
          refine gq_ishl dz_E_tellOdds_75 ?_
          refine gq_ior dz_E_tellOdds_76 ?_
          refine gq_putI zv_E_21 rfl rfl dz_E_tellOdds_77 ?_
          have hR : zt_st _ d T ((zt_adv T (zt_adv T P)).1, za_so P.2.1 (upd (za_od P.2.1) p (nI f)), P.2.2.1, P.2.2.2 ||| (1 <<< (nI p &&& 31))) := ⟨(hS.1.up (t := 15) (j := d) (k := p) (v := nI f) (by omega)).up (t := 3) (j := 0) (k := 3) (v := P.2.2.2 ||| (1 <<< (nI p &&& 31))) (by omega), (hS.2.1.so p _).up (by omega), hS.2.2.1, (zq_upN (by omega)).trans ((zq_upN (by omega)).trans hS.2.2.2.1), zq_upE, (zq_upN (by omega)).trans ((zq_upN (by omega)).trans hS.2.2.2.2.2)⟩
          refine gq_aload_n dz_E_tellOdds_80 rfl ?_
          refine gq_aload_n dz_E_tellOdds_81 rfl ?_
          refine gq_cVP (sp_E_stop hw hR) zw_E_stop zl_E_121 dz_E_tellOdds_82 rfl rfl rfl (by decide) rfl rfl (Nat.le_of_ble_eq_true rfl) (fun τ82 hq82 => ?_)
          refine gw_iretP .boolean dz_E_tellOdds_85 rfl (by first | rfl | exact zb_nar _ | exact pk_nc _) ?_ ?_
          · rfl
          · exact zt_out.tr ((hF.upd (t := 15) (by omega) (by omega)).up) hq82
      · skip
        have e46 := of_decide_eq_false h46
        have hx : zt_odds T P = zt_num T 0 10 (zt_adv T P) := by rw [zt_odds, if_neg (fun z => z e7), hpe, if_neg (by rw [h25]; exact Bool.noConfusion), zt_odds2, if_pos e46]
        rw [hx]
        refine gq_iconst (v := 0) dz_E_tellOdds_49 rfl ?_
        refine gw_iretP .boolean dz_E_tellOdds_50 rfl (by first | rfl | exact zb_nar _ | exact pk_nc _) ?_ ?_
        · rw [h46]; rfl
        · exact zt_out.tr hF hq43
    · skip
      have h25 : zb_bit P.2.2.2 (nI p) = true := zb_bit_t h25
      have hx : zt_odds T P = (4, zt_adv T P) := by rw [zt_odds, if_neg (fun z => z e7), hpe]; exact if_pos h25
      rw [hx]
      refine gq_aload_n dz_E_tellOdds_28 rfl ?_
      refine gq_iconst (v := 4) dz_E_tellOdds_29 rfl ?_
      refine gq_aload_n dz_E_tellOdds_30 rfl ?_
      refine gq_getI zf_E_99 rfl rfl dz_E_tellOdds_31 ?_
      rw [hst]
      refine gq_cV (sp_E_fail _ _) zw_E_fail zl_E_55 dz_E_tellOdds_34 rfl rfl rfl (by decide) rfl rfl (Nat.le_of_ble_eq_true rfl) ?_
      refine gw_iretP .boolean dz_E_tellOdds_37 rfl (by first | rfl | exact zb_nar _ | exact pk_nc _) ?_ ?_
      · exact (zt_df (e := 4) (by decide)).symm
      · exact zt_out.bad hF (by decide) rfl
  · skip
    have e7 := of_decide_eq_false h7
    have hx : zt_odds T P = zt_num T 0 4 P := if_pos e7
    rw [hx]
    refine gq_iconst (v := 0) dz_E_tellOdds_10 rfl ?_
    refine gw_iretP .boolean dz_E_tellOdds_11 rfl (by first | rfl | exact zb_nar _ | exact pk_nc _) ?_ ?_
    · rw [h7]; rfl
    · exact hq4
set_option maxHeartbeats 4000000 in
theorem sp_E_tellRule {σ : zq_T} {d : Fin 5} {T : za_T} (hw : zt_wf T) {P : za_P} (hP : zt_st σ d T P) : zq_Sp zm_E_tellRule 6 [zq_O 3 0, zq_O 1 0, zq_O 10 d] σ (zq_rw (zq_I (zb_v (decide ((zt_rule T P).1 = 0)))) (zt_out σ d T (zt_rule T P))) := by
  have hst := hP.1.2.1.2.2.1
  refine zq_sp [some (zq_O 3 0), some (zq_O 1 0), some (zq_O 10 d), none, none, none, none, none] (by decide +kernel) rfl (Nat.le_of_ble_eq_true rfl) (fun ν => ?_)
  refine gq_aload_n dz_E_tellRule_0 rfl ?_
  refine gq_getI zf_E_134 rfl rfl dz_E_tellRule_1 ?_
  rw [hP.2.1.2.2.2.2.1]
  refine gq_iconst (v := 5) dz_E_tellRule_4 rfl ?_
  refine gq_icmp_lt (tgt := 18) dz_E_tellRule_5 rfl (fun h5 => ?_) (fun h5 => ?_)
  · skip
    have h5 := (nI_ltI (b := 5) (by have := hP.2.1.2.1; omega) (by omega)).mp h5
    refine gq_aload_n dz_E_tellRule_18 rfl ?_
    refine gq_aload_n dz_E_tellRule_19 rfl ?_
    refine gq_iconst (v := 1) dz_E_tellRule_20 rfl ?_
    refine gq_bipush (v := 9) dz_E_tellRule_21 rfl ?_
    refine gq_cVP (sp_E_number hw hP _ _) zw_E_number zl_E_113 dz_E_tellRule_23 rfl rfl rfl (by decide) rfl rfl (Nat.le_of_ble_eq_true rfl) (fun τ23 hq23 => ?_)
    refine gw_ifb_ne (tgt := 31) dz_E_tellRule_26 rfl (fun h26 => ?_) (fun h26 => ?_)
    · skip
      have e26 := of_decide_eq_true h26
      have hF : zt_fr d σ τ23 := hq23.1
      have hS : zt_st τ23 d T (zt_adv T P) := hq23.2.1 e26
      have hvv : τ23.1 1 0 4 = (zt_adv T P).1.2.2.2 := hS.1.2.1.2.2.2 (zt_num_ok e26).1
      have hst : τ23.1 1 0 3 = nI (zt_adv T P).1.2.2.1 := hS.1.2.1.2.2.1
      have hx : zt_rule T P = zt_ruleA T (zt_adv T P) := by rw [zt_rule, if_neg (fun z => z h5), if_neg (fun z => z e26)]
      rw [hx]
      clear hx
      have h5 : za_m (zt_adv T P).2.1 < 5 := h5
      generalize zt_adv T P = P1 at hS h5 hst hvv ⊢
      refine gq_aload_n dz_E_tellRule_31 rfl ?_
      refine gq_getI zf_E_102 rfl rfl dz_E_tellRule_32 ?_
      rw [hvv]
      refine gw_istore_n 3 dz_E_tellRule_35 rfl (Nat.le_of_ble_eq_true rfl) rfl ?_
      dsimp only [List.set]
      refine gq_aload_n dz_E_tellRule_36 rfl ?_
      refine gq_aload_n dz_E_tellRule_37 rfl ?_
      refine gq_iconst (v := 0) dz_E_tellRule_38 rfl ?_
      refine gq_iconst (v := 3) dz_E_tellRule_39 rfl ?_
      refine gq_cVP (sp_E_number hw hS _ _) zw_E_number zl_E_113 dz_E_tellRule_40 rfl rfl rfl (by decide) rfl rfl (Nat.le_of_ble_eq_true rfl) (fun τ40 hq40 => ?_)
      refine gw_ifb_ne (tgt := 48) dz_E_tellRule_43 rfl (fun h43 => ?_) (fun h43 => ?_)
      · skip
        have e43 := of_decide_eq_true h43
        have hF : zt_fr d σ τ40 := hF.tr hq40.1
        have hS : zt_st τ40 d T (zt_adv T P1) := hq40.2.1 e43
        have hvv : τ40.1 1 0 4 = (zt_adv T P1).1.2.2.2 := hS.1.2.1.2.2.2 (zt_num_ok e43).1
        have hst : τ40.1 1 0 3 = nI (zt_adv T P1).1.2.2.1 := hS.1.2.1.2.2.1
        have hx : zt_ruleA T P1 = zt_ruleB T P1.1.2.2.2 (zt_adv T P1) := by rw [zt_ruleA, if_neg (fun z => z e43)]
        rw [hx]
        clear hx
        have h5 : za_m (zt_adv T P1).2.1 < 5 := h5
        generalize zt_adv T P1 = P2 at hS h5 hst hvv ⊢
        refine gq_aload_n dz_E_tellRule_48 rfl ?_
        refine gq_getI zf_E_102 rfl rfl dz_E_tellRule_49 ?_
        rw [hvv]
        refine gw_istore 4 dz_E_tellRule_52 (Nat.le_of_ble_eq_true rfl) rfl ?_
        dsimp only [List.set]
        refine gq_aload_n dz_E_tellRule_54 rfl ?_
        refine gq_cVX (sp_P_advance hS.1.1 hw (a := P2.1.1) hS.1.2.1.1 hS.1.2.2.2.1) zw_P_advance zl_E_34 dz_E_tellRule_55 rfl rfl rfl (by decide) rfl rfl (Nat.le_of_ble_eq_true rfl) (fun τ55 hq55 => ?_)
        have hS : zt_st τ55 d T (zt_adv T P2) := hS.adv hq55.1 hq55.2
        have hF : zt_fr d σ τ55 := hF.tr hq55.1.fr
        have hst : τ55.1 1 0 3 = nI (zt_adv T P2).1.2.2.1 := hS.1.2.1.2.2.1
        rw [show zt_ruleB T P1.1.2.2.2 P2 = zt_rule2 T P1.1.2.2.2 P2.1.2.2.2 (zt_adv T P2) from rfl]
        have h5 : za_m (zt_adv T P2).2.1 < 5 := h5
        generalize zt_adv T P2 = P3 at hS h5 hst ⊢
        refine gq_aload_n dz_E_tellRule_58 rfl ?_
        refine gq_cS (sp_E_claimNamed hS.1.1 hw hS.1.2.1 hS.1.2.2) zw_E_claimNamed zl_E_137 dz_E_tellRule_59 (by decide) rfl rfl (Nat.le_of_ble_eq_true rfl) ?_
        refine gw_istore 5 dz_E_tellRule_62 (Nat.le_of_ble_eq_true rfl) rfl ?_
        dsimp only [List.set]
        refine gq_iload dz_E_tellRule_64 rfl ?_
        refine gq_bipush (v := -4) dz_E_tellRule_66 rfl ?_
        refine gq_icmp_ne (tgt := 77) dz_E_tellRule_68 rfl (fun h68 => ?_) (fun h68 => ?_)
        · skip
          obtain ⟨lo, hlo⟩ : ∃ lo : Int32, lo = (if zt_clm T P3.1 = 1 then 1 else 0) := ⟨_, rfl⟩
          refine gq_aload_n dz_E_tellRule_77 rfl ?_
          refine gq_aload_n dz_E_tellRule_78 rfl ?_
          refine gq_iload dz_E_tellRule_79 rfl ?_
          refine gq_iconst (v := 1) dz_E_tellRule_81 rfl ?_
          refine gq_icmp_ne (tgt := 89) dz_E_tellRule_82 rfl (fun h82 => ?_) (fun h82 => ?_)
          · skip
            have h1 : lo = 0 := hlo.trans (if_neg h82)
            subst h1
            refine gq_iconst (v := 0) dz_E_tellRule_89 rfl ?_
            refine gq_iload dz_E_tellRule_90 rfl ?_
            refine gq_cS (sp_E_mostOf _) zw_E_mostOf zl_E_141 dz_E_tellRule_92 (by decide) rfl rfl (Nat.le_of_ble_eq_true rfl) ?_
            refine gq_cVP (sp_E_number hw hS _ _) zw_E_number zl_E_113 dz_E_tellRule_95 rfl rfl rfl (by decide) rfl rfl (Nat.le_of_ble_eq_true rfl) (fun τ95 hq95 => ?_)
            refine gw_ifb_ne (tgt := 103) dz_E_tellRule_98 rfl (fun h98 => ?_) (fun h98 => ?_)
            · skip
              have e98 := of_decide_eq_true h98
              have hF : zt_fr d σ τ95 := hF.tr hq95.1
              have hS : zt_st τ95 d T (zt_adv T P3) := hq95.2.1 e98
              have hvv : τ95.1 1 0 4 = (zt_adv T P3).1.2.2.2 := hS.1.2.1.2.2.2 (zt_num_ok e98).1
              have hst : τ95.1 1 0 3 = nI (zt_adv T P3).1.2.2.1 := hS.1.2.1.2.2.1
              have hx : zt_rule2 T P1.1.2.2.2 P2.1.2.2.2 P3 = zt_rule3 T P1.1.2.2.2 P2.1.2.2.2 (zt_clm T P3.1) (zt_adv T P3) := by rw [zt_rule2, if_neg h68, ← hlo, if_neg (fun z => z e98)]
              rw [hx]
              clear hx
              have h5 : za_m (zt_adv T P3).2.1 < 5 := h5
              generalize zt_adv T P3 = P4 at hS h5 hst hvv ⊢
              refine gq_aload_n dz_E_tellRule_103 rfl ?_
              refine gq_getI zf_E_102 rfl rfl dz_E_tellRule_104 ?_
              rw [hvv]
              refine gw_istore 6 dz_E_tellRule_107 (Nat.le_of_ble_eq_true rfl) rfl ?_
              dsimp only [List.set]
              refine gq_aload_n dz_E_tellRule_109 rfl ?_
              refine gq_cVX (sp_P_advance hS.1.1 hw (a := P4.1.1) hS.1.2.1.1 hS.1.2.2.2.1) zw_P_advance zl_E_34 dz_E_tellRule_110 rfl rfl rfl (by decide) rfl rfl (Nat.le_of_ble_eq_true rfl) (fun τ110 hq110 => ?_)
              have hS : zt_st τ110 d T (zt_adv T P4) := hS.adv hq110.1 hq110.2
              have hF : zt_fr d σ τ110 := hF.tr hq110.1.fr
              have hst : τ110.1 1 0 3 = nI (zt_adv T P4).1.2.2.1 := hS.1.2.1.2.2.1
              rw [show zt_rule3 T P1.1.2.2.2 P2.1.2.2.2 (zt_clm T P3.1) P4 = zt_rule4 T P1.1.2.2.2 P2.1.2.2.2 (zt_clm T P3.1) P4.1.2.2.2 (zt_adv T P4) from rfl]
              have h5 : za_m (zt_adv T P4).2.1 < 5 := h5
              generalize zt_adv T P4 = P5 at hS h5 hst ⊢
              refine gq_aload_n dz_E_tellRule_113 rfl ?_
              refine gq_cS (sp_E_pickNamed hS.1.1 hw hS.1.2.1 hS.1.2.2) zw_E_pickNamed zl_E_145 dz_E_tellRule_114 (by decide) rfl rfl (Nat.le_of_ble_eq_true rfl) ?_
              refine gw_istore 7 dz_E_tellRule_117 (Nat.le_of_ble_eq_true rfl) rfl ?_
              dsimp only [List.set]
              refine gq_iload dz_E_tellRule_119 rfl ?_
              refine gq_bipush (v := -4) dz_E_tellRule_121 rfl ?_
              refine gq_icmp_ne (tgt := 132) dz_E_tellRule_123 rfl (fun h123 => ?_) (fun h123 => ?_)
              · skip
                refine gq_aload_n dz_E_tellRule_132 rfl ?_
                refine gq_iload_n dz_E_tellRule_133 rfl ?_
                refine gq_iload dz_E_tellRule_134 rfl ?_
                refine gq_iload dz_E_tellRule_136 rfl ?_
                refine gq_iload dz_E_tellRule_138 rfl ?_
                refine gq_iload dz_E_tellRule_140 rfl ?_
                refine gq_cVX (sp_D_addRule hS.2.1 h5 _ _ _ _ _) zw_D_addRule zl_E_148 dz_E_tellRule_142 rfl rfl rfl (by decide) rfl rfl (Nat.le_of_ble_eq_true rfl) (fun τ142 hq142 => ?_)
                refine gq_iload dz_E_tellRule_145 rfl ?_
                refine gq_iconst (v := 4) dz_E_tellRule_147 rfl ?_
                refine gq_icmp_ne (tgt := 164) dz_E_tellRule_148 rfl (fun h148 => ?_) (fun h148 => ?_)
                · skip
                  have hx : zt_rule4 T P1.1.2.2.2 P2.1.2.2.2 (zt_clm T P3.1) P4.1.2.2.2 P5 = zt_stp T (P5.1, zt_law P5.2.1 P1.1.2.2.2 P2.1.2.2.2 (zt_clm T P3.1) P4.1.2.2.2 (zt_pck T P5.1), P5.2.2.1, P5.2.2.2) := by rw [zt_rule4, if_neg h123, if_neg h148]
                  rw [hx]
                  have hR : zt_st τ142 d T (P5.1, zt_law P5.2.1 P1.1.2.2.2 P2.1.2.2.2 (zt_clm T P3.1) P4.1.2.2.2 (zt_pck T P5.1), P5.2.2.1, P5.2.2.2) := hS.one hq142.1 hq142.2 hS.2.2.1
                  refine gq_aload_n dz_E_tellRule_164 rfl ?_
                  refine gq_aload_n dz_E_tellRule_165 rfl ?_
                  refine gq_cVP (sp_E_stop hw hR) zw_E_stop zl_E_121 dz_E_tellRule_166 rfl rfl rfl (by decide) rfl rfl (Nat.le_of_ble_eq_true rfl) (fun τ166 hq166 => ?_)
                  refine gw_iretP .boolean dz_E_tellRule_169 rfl (by first | rfl | exact zb_nar _ | exact pk_nc _) ?_ ?_
                  · rfl
                  · exact zt_out.tr (hF.tr hq142.1.fr) hq166
                · skip
                  have hx : zt_rule4 T P1.1.2.2.2 P2.1.2.2.2 (zt_clm T P3.1) P4.1.2.2.2 P5 = zt_stp T (P5.1, zt_law P5.2.1 P1.1.2.2.2 P2.1.2.2.2 (zt_clm T P3.1) P4.1.2.2.2 (zt_pck T P5.1), P5.2.2.1 ||| (1 <<< (P4.1.2.2.2 &&& 31)), P5.2.2.2) := by rw [zt_rule4, if_neg h123, if_pos h148]
                  rw [hx]
                  refine gq_aload_n dz_E_tellRule_151 rfl ?_
                  refine gq_dup dz_E_tellRule_152 rfl ?_
                  refine gq_getI zf_E_18 rfl rfl dz_E_tellRule_153 ?_
                  rw [hq142.1.2 3 0 2 (by omega), hS.2.2.2.1]
                  refine gq_iconst (v := 1) dz_E_tellRule_156 rfl ?_
                  refine gq_iload dz_E_tellRule_157 rfl ?_
                  refine gq_ishl dz_E_tellRule_159 ?_
                  refine gq_ior dz_E_tellRule_160 ?_
                  refine gq_putI zv_E_18 rfl rfl dz_E_tellRule_161 ?_
                  have hR : zt_st _ d T (P5.1, zt_law P5.2.1 P1.1.2.2.2 P2.1.2.2.2 (zt_clm T P3.1) P4.1.2.2.2 (zt_pck T P5.1), P5.2.2.1 ||| (1 <<< (P4.1.2.2.2 &&& 31)), P5.2.2.2) := ⟨(hS.1.ds hq142.1).up (t := 3) (j := 0) (k := 2) (v := P5.2.2.1 ||| (1 <<< (P4.1.2.2.2 &&& 31))) (by omega), hq142.2.up (by omega), hS.2.2.1, zq_upE, (zq_upN (by omega)).trans ((hq142.1.2 _ _ _ (by omega)).trans hS.2.2.2.2.1), (zq_upN (by omega)).trans ((hq142.1.2 _ _ _ (by omega)).trans hS.2.2.2.2.2)⟩
                  refine gq_aload_n dz_E_tellRule_164 rfl ?_
                  refine gq_aload_n dz_E_tellRule_165 rfl ?_
                  refine gq_cVP (sp_E_stop hw hR) zw_E_stop zl_E_121 dz_E_tellRule_166 rfl rfl rfl (by decide) rfl rfl (Nat.le_of_ble_eq_true rfl) (fun τ166 hq166 => ?_)
                  refine gw_iretP .boolean dz_E_tellRule_169 rfl (by first | rfl | exact zb_nar _ | exact pk_nc _) ?_ ?_
                  · rfl
                  · exact zt_out.tr ((hF.tr hq142.1.fr).up) hq166
              · skip
                have hx : zt_rule4 T P1.1.2.2.2 P2.1.2.2.2 (zt_clm T P3.1) P4.1.2.2.2 P5 = (zt_mf P5.1, P5) := if_pos h123
                rw [hx]
                refine gq_aload_n dz_E_tellRule_126 rfl ?_
                refine gq_aload_n dz_E_tellRule_127 rfl ?_
                refine gq_cV (sp_E_misplaced hS.1.2.1 hS.1.2.2) zw_E_misplaced zl_E_92 dz_E_tellRule_128 rfl rfl rfl (by decide) rfl rfl (Nat.le_of_ble_eq_true rfl) ?_
                refine gw_iretP .boolean dz_E_tellRule_131 rfl (by first | rfl | exact zb_nar _ | exact pk_nc _) ?_ ?_
                · exact (zt_df zt_mf0).symm
                · exact zt_out.bad hF zt_mf0 rfl
            · skip
              have e98 := of_decide_eq_false h98
              have hx : zt_rule2 T P1.1.2.2.2 P2.1.2.2.2 P3 = zt_num T 0 (zt_most (zt_clm T P3.1)) P3 := by rw [zt_rule2, if_neg h68, ← hlo, if_pos e98]
              rw [hx]
              refine gq_iconst (v := 0) dz_E_tellRule_101 rfl ?_
              refine gw_iretP .boolean dz_E_tellRule_102 rfl (by first | rfl | exact zb_nar _ | exact pk_nc _) ?_ ?_
              · rw [h98]; rfl
              · exact zt_out.tr hF hq95
          · skip
            have h1 : lo = 1 := hlo.trans (if_pos h82)
            subst h1
            refine gq_iconst (v := 1) dz_E_tellRule_85 rfl ?_
            refine gq_goto (tgt := 90) dz_E_tellRule_86 rfl ?_
            refine gq_iload dz_E_tellRule_90 rfl ?_
            refine gq_cS (sp_E_mostOf _) zw_E_mostOf zl_E_141 dz_E_tellRule_92 (by decide) rfl rfl (Nat.le_of_ble_eq_true rfl) ?_
            refine gq_cVP (sp_E_number hw hS _ _) zw_E_number zl_E_113 dz_E_tellRule_95 rfl rfl rfl (by decide) rfl rfl (Nat.le_of_ble_eq_true rfl) (fun τ95 hq95 => ?_)
            refine gw_ifb_ne (tgt := 103) dz_E_tellRule_98 rfl (fun h98 => ?_) (fun h98 => ?_)
            · skip
              have e98 := of_decide_eq_true h98
              have hF : zt_fr d σ τ95 := hF.tr hq95.1
              have hS : zt_st τ95 d T (zt_adv T P3) := hq95.2.1 e98
              have hvv : τ95.1 1 0 4 = (zt_adv T P3).1.2.2.2 := hS.1.2.1.2.2.2 (zt_num_ok e98).1
              have hst : τ95.1 1 0 3 = nI (zt_adv T P3).1.2.2.1 := hS.1.2.1.2.2.1
              have hx : zt_rule2 T P1.1.2.2.2 P2.1.2.2.2 P3 = zt_rule3 T P1.1.2.2.2 P2.1.2.2.2 (zt_clm T P3.1) (zt_adv T P3) := by rw [zt_rule2, if_neg h68, ← hlo, if_neg (fun z => z e98)]
              rw [hx]
              clear hx
              have h5 : za_m (zt_adv T P3).2.1 < 5 := h5
              generalize zt_adv T P3 = P4 at hS h5 hst hvv ⊢
              refine gq_aload_n dz_E_tellRule_103 rfl ?_
              refine gq_getI zf_E_102 rfl rfl dz_E_tellRule_104 ?_
              rw [hvv]
              refine gw_istore 6 dz_E_tellRule_107 (Nat.le_of_ble_eq_true rfl) rfl ?_
              dsimp only [List.set]
              refine gq_aload_n dz_E_tellRule_109 rfl ?_
              refine gq_cVX (sp_P_advance hS.1.1 hw (a := P4.1.1) hS.1.2.1.1 hS.1.2.2.2.1) zw_P_advance zl_E_34 dz_E_tellRule_110 rfl rfl rfl (by decide) rfl rfl (Nat.le_of_ble_eq_true rfl) (fun τ110 hq110 => ?_)
              have hS : zt_st τ110 d T (zt_adv T P4) := hS.adv hq110.1 hq110.2
              have hF : zt_fr d σ τ110 := hF.tr hq110.1.fr
              have hst : τ110.1 1 0 3 = nI (zt_adv T P4).1.2.2.1 := hS.1.2.1.2.2.1
              rw [show zt_rule3 T P1.1.2.2.2 P2.1.2.2.2 (zt_clm T P3.1) P4 = zt_rule4 T P1.1.2.2.2 P2.1.2.2.2 (zt_clm T P3.1) P4.1.2.2.2 (zt_adv T P4) from rfl]
              have h5 : za_m (zt_adv T P4).2.1 < 5 := h5
              generalize zt_adv T P4 = P5 at hS h5 hst ⊢
              refine gq_aload_n dz_E_tellRule_113 rfl ?_
              refine gq_cS (sp_E_pickNamed hS.1.1 hw hS.1.2.1 hS.1.2.2) zw_E_pickNamed zl_E_145 dz_E_tellRule_114 (by decide) rfl rfl (Nat.le_of_ble_eq_true rfl) ?_
              refine gw_istore 7 dz_E_tellRule_117 (Nat.le_of_ble_eq_true rfl) rfl ?_
              dsimp only [List.set]
              refine gq_iload dz_E_tellRule_119 rfl ?_
              refine gq_bipush (v := -4) dz_E_tellRule_121 rfl ?_
              refine gq_icmp_ne (tgt := 132) dz_E_tellRule_123 rfl (fun h123 => ?_) (fun h123 => ?_)
              · skip
                refine gq_aload_n dz_E_tellRule_132 rfl ?_
                refine gq_iload_n dz_E_tellRule_133 rfl ?_
                refine gq_iload dz_E_tellRule_134 rfl ?_
                refine gq_iload dz_E_tellRule_136 rfl ?_
                refine gq_iload dz_E_tellRule_138 rfl ?_
                refine gq_iload dz_E_tellRule_140 rfl ?_
                refine gq_cVX (sp_D_addRule hS.2.1 h5 _ _ _ _ _) zw_D_addRule zl_E_148 dz_E_tellRule_142 rfl rfl rfl (by decide) rfl rfl (Nat.le_of_ble_eq_true rfl) (fun τ142 hq142 => ?_)
                refine gq_iload dz_E_tellRule_145 rfl ?_
                refine gq_iconst (v := 4) dz_E_tellRule_147 rfl ?_
                refine gq_icmp_ne (tgt := 164) dz_E_tellRule_148 rfl (fun h148 => ?_) (fun h148 => ?_)
                · skip
                  have hx : zt_rule4 T P1.1.2.2.2 P2.1.2.2.2 (zt_clm T P3.1) P4.1.2.2.2 P5 = zt_stp T (P5.1, zt_law P5.2.1 P1.1.2.2.2 P2.1.2.2.2 (zt_clm T P3.1) P4.1.2.2.2 (zt_pck T P5.1), P5.2.2.1, P5.2.2.2) := by rw [zt_rule4, if_neg h123, if_neg h148]
                  rw [hx]
                  have hR : zt_st τ142 d T (P5.1, zt_law P5.2.1 P1.1.2.2.2 P2.1.2.2.2 (zt_clm T P3.1) P4.1.2.2.2 (zt_pck T P5.1), P5.2.2.1, P5.2.2.2) := hS.one hq142.1 hq142.2 hS.2.2.1
                  refine gq_aload_n dz_E_tellRule_164 rfl ?_
                  refine gq_aload_n dz_E_tellRule_165 rfl ?_
                  refine gq_cVP (sp_E_stop hw hR) zw_E_stop zl_E_121 dz_E_tellRule_166 rfl rfl rfl (by decide) rfl rfl (Nat.le_of_ble_eq_true rfl) (fun τ166 hq166 => ?_)
                  refine gw_iretP .boolean dz_E_tellRule_169 rfl (by first | rfl | exact zb_nar _ | exact pk_nc _) ?_ ?_
                  · rfl
                  · exact zt_out.tr (hF.tr hq142.1.fr) hq166
                · skip
                  have hx : zt_rule4 T P1.1.2.2.2 P2.1.2.2.2 (zt_clm T P3.1) P4.1.2.2.2 P5 = zt_stp T (P5.1, zt_law P5.2.1 P1.1.2.2.2 P2.1.2.2.2 (zt_clm T P3.1) P4.1.2.2.2 (zt_pck T P5.1), P5.2.2.1 ||| (1 <<< (P4.1.2.2.2 &&& 31)), P5.2.2.2) := by rw [zt_rule4, if_neg h123, if_pos h148]
                  rw [hx]
                  refine gq_aload_n dz_E_tellRule_151 rfl ?_
                  refine gq_dup dz_E_tellRule_152 rfl ?_
                  refine gq_getI zf_E_18 rfl rfl dz_E_tellRule_153 ?_
                  rw [hq142.1.2 3 0 2 (by omega), hS.2.2.2.1]
                  refine gq_iconst (v := 1) dz_E_tellRule_156 rfl ?_
                  refine gq_iload dz_E_tellRule_157 rfl ?_
                  refine gq_ishl dz_E_tellRule_159 ?_
                  refine gq_ior dz_E_tellRule_160 ?_
                  refine gq_putI zv_E_18 rfl rfl dz_E_tellRule_161 ?_
                  have hR : zt_st _ d T (P5.1, zt_law P5.2.1 P1.1.2.2.2 P2.1.2.2.2 (zt_clm T P3.1) P4.1.2.2.2 (zt_pck T P5.1), P5.2.2.1 ||| (1 <<< (P4.1.2.2.2 &&& 31)), P5.2.2.2) := ⟨(hS.1.ds hq142.1).up (t := 3) (j := 0) (k := 2) (v := P5.2.2.1 ||| (1 <<< (P4.1.2.2.2 &&& 31))) (by omega), hq142.2.up (by omega), hS.2.2.1, zq_upE, (zq_upN (by omega)).trans ((hq142.1.2 _ _ _ (by omega)).trans hS.2.2.2.2.1), (zq_upN (by omega)).trans ((hq142.1.2 _ _ _ (by omega)).trans hS.2.2.2.2.2)⟩
                  refine gq_aload_n dz_E_tellRule_164 rfl ?_
                  refine gq_aload_n dz_E_tellRule_165 rfl ?_
                  refine gq_cVP (sp_E_stop hw hR) zw_E_stop zl_E_121 dz_E_tellRule_166 rfl rfl rfl (by decide) rfl rfl (Nat.le_of_ble_eq_true rfl) (fun τ166 hq166 => ?_)
                  refine gw_iretP .boolean dz_E_tellRule_169 rfl (by first | rfl | exact zb_nar _ | exact pk_nc _) ?_ ?_
                  · rfl
                  · exact zt_out.tr ((hF.tr hq142.1.fr).up) hq166
              · skip
                have hx : zt_rule4 T P1.1.2.2.2 P2.1.2.2.2 (zt_clm T P3.1) P4.1.2.2.2 P5 = (zt_mf P5.1, P5) := if_pos h123
                rw [hx]
                refine gq_aload_n dz_E_tellRule_126 rfl ?_
                refine gq_aload_n dz_E_tellRule_127 rfl ?_
                refine gq_cV (sp_E_misplaced hS.1.2.1 hS.1.2.2) zw_E_misplaced zl_E_92 dz_E_tellRule_128 rfl rfl rfl (by decide) rfl rfl (Nat.le_of_ble_eq_true rfl) ?_
                refine gw_iretP .boolean dz_E_tellRule_131 rfl (by first | rfl | exact zb_nar _ | exact pk_nc _) ?_ ?_
                · exact (zt_df zt_mf0).symm
                · exact zt_out.bad hF zt_mf0 rfl
            · skip
              have e98 := of_decide_eq_false h98
              have hx : zt_rule2 T P1.1.2.2.2 P2.1.2.2.2 P3 = zt_num T 1 (zt_most (zt_clm T P3.1)) P3 := by rw [zt_rule2, if_neg h68, ← hlo, if_pos e98]
              rw [hx]
              refine gq_iconst (v := 0) dz_E_tellRule_101 rfl ?_
              refine gw_iretP .boolean dz_E_tellRule_102 rfl (by first | rfl | exact zb_nar _ | exact pk_nc _) ?_ ?_
              · rw [h98]; rfl
              · exact zt_out.tr hF hq95
        · skip
          have hx : zt_rule2 T P1.1.2.2.2 P2.1.2.2.2 P3 = (zt_mf P3.1, P3) := if_pos h68
          rw [hx]
          refine gq_aload_n dz_E_tellRule_71 rfl ?_
          refine gq_aload_n dz_E_tellRule_72 rfl ?_
          refine gq_cV (sp_E_misplaced hS.1.2.1 hS.1.2.2) zw_E_misplaced zl_E_92 dz_E_tellRule_73 rfl rfl rfl (by decide) rfl rfl (Nat.le_of_ble_eq_true rfl) ?_
          refine gw_iretP .boolean dz_E_tellRule_76 rfl (by first | rfl | exact zb_nar _ | exact pk_nc _) ?_ ?_
          · exact (zt_df zt_mf0).symm
          · exact zt_out.bad hF zt_mf0 rfl
      · skip
        have e43 := of_decide_eq_false h43
        have hx : zt_ruleA T P1 = zt_num T 0 3 P1 := if_pos e43
        rw [hx]
        refine gq_iconst (v := 0) dz_E_tellRule_46 rfl ?_
        refine gw_iretP .boolean dz_E_tellRule_47 rfl (by first | rfl | exact zb_nar _ | exact pk_nc _) ?_ ?_
        · rw [h43]; rfl
        · exact zt_out.tr hF hq40
    · skip
      have e26 := of_decide_eq_false h26
      have hx : zt_rule T P = zt_num T 1 9 P := by rw [zt_rule, if_neg (fun z => z h5), if_pos e26]
      rw [hx]
      refine gq_iconst (v := 0) dz_E_tellRule_29 rfl ?_
      refine gw_iretP .boolean dz_E_tellRule_30 rfl (by first | rfl | exact zb_nar _ | exact pk_nc _) ?_ ?_
      · rw [h26]; rfl
      · exact hq23
  · skip
    have hx : zt_rule T P = (5, P) := if_pos (fun z => h5 (nI_lt (b := 5) z (by omega)))
    rw [hx]
    refine gq_aload_n dz_E_tellRule_8 rfl ?_
    refine gq_iconst (v := 5) dz_E_tellRule_9 rfl ?_
    refine gq_aload_n dz_E_tellRule_10 rfl ?_
    refine gq_getI zf_E_99 rfl rfl dz_E_tellRule_11 ?_
    rw [hst]
    refine gq_cV (sp_E_fail _ _) zw_E_fail zl_E_55 dz_E_tellRule_14 rfl rfl rfl (by decide) rfl rfl (Nat.le_of_ble_eq_true rfl) ?_
    refine gw_iretP .boolean dz_E_tellRule_17 rfl (by first | rfl | exact zb_nar _ | exact pk_nc _) ?_ ?_
    · exact (zt_df (e := 5) (by decide)).symm
    · exact zt_out.bad zt_fr.rf (by decide) rfl
set_option maxHeartbeats 4000000 in
theorem sp_E_tellLine {σ : zq_T} {d : Fin 5} {T : za_T} (hw : zt_wf T) {P : za_P} (hP : zt_st σ d T P) : zq_Sp zm_E_tellLine 7 [zq_O 3 0, zq_O 1 0, zq_O 10 d] σ (zq_rw (zq_I (zb_v (decide ((zt_line T P).1 = 0)))) (zt_out σ d T (zt_line T P))) := by
  refine zq_sp [some (zq_O 3 0), some (zq_O 1 0), some (zq_O 10 d)] (by decide +kernel) rfl (Nat.le_of_ble_eq_true rfl) (fun ν => ?_)
  refine gq_aload_n dz_E_tellLine_0 rfl ?_
  refine gq_ldcS (i := 0) rfl rfl dz_E_tellLine_1 ?_
  refine gq_cV (sp_P_isWord hP.1.1 hw hP.1.2.1 hP.1.2.2 (i := 0) (by decide)) zw_P_isWord zl_E_65 dz_E_tellLine_3 rfl rfl rfl (by decide) rfl rfl (Nat.le_of_ble_eq_true rfl) ?_
  refine gw_ifb_eq (tgt := 16) dz_E_tellLine_6 rfl (fun h6 => ?_) (fun h6 => ?_)
  · skip
    refine gq_aload_n dz_E_tellLine_16 rfl ?_
    refine gq_ldcS (i := 1) rfl rfl dz_E_tellLine_17 ?_
    refine gq_cV (sp_P_isWord hP.1.1 hw hP.1.2.1 hP.1.2.2 (i := 1) (by decide)) zw_P_isWord zl_E_65 dz_E_tellLine_19 rfl rfl rfl (by decide) rfl rfl (Nat.le_of_ble_eq_true rfl) ?_
    refine gw_ifb_eq (tgt := 32) dz_E_tellLine_22 rfl (fun h22 => ?_) (fun h22 => ?_)
    · skip
      refine gq_aload_n dz_E_tellLine_32 rfl ?_
      refine gq_ldcS (i := 2) rfl rfl dz_E_tellLine_33 ?_
      refine gq_cV (sp_P_isWord hP.1.1 hw hP.1.2.1 hP.1.2.2 (i := 2) (by decide)) zw_P_isWord zl_E_65 dz_E_tellLine_35 rfl rfl rfl (by decide) rfl rfl (Nat.le_of_ble_eq_true rfl) ?_
      refine gw_ifb_eq (tgt := 48) dz_E_tellLine_38 rfl (fun h38 => ?_) (fun h38 => ?_)
      · skip
        refine gq_aload_n dz_E_tellLine_48 rfl ?_
        refine gq_ldcS (i := 3) rfl rfl dz_E_tellLine_49 ?_
        refine gq_cV (sp_P_isWord hP.1.1 hw hP.1.2.1 hP.1.2.2 (i := 3) (by decide)) zw_P_isWord zl_E_65 dz_E_tellLine_51 rfl rfl rfl (by decide) rfl rfl (Nat.le_of_ble_eq_true rfl) ?_
        refine gw_ifb_eq (tgt := 64) dz_E_tellLine_54 rfl (fun h54 => ?_) (fun h54 => ?_)
        · skip
          refine gq_aload_n dz_E_tellLine_64 rfl ?_
          refine gq_ldcS (i := 4) rfl rfl dz_E_tellLine_65 ?_
          refine gq_cV (sp_P_isWord hP.1.1 hw hP.1.2.1 hP.1.2.2 (i := 4) (by decide)) zw_P_isWord zl_E_65 dz_E_tellLine_67 rfl rfl rfl (by decide) rfl rfl (Nat.le_of_ble_eq_true rfl) ?_
          refine gw_ifb_eq (tgt := 80) dz_E_tellLine_70 rfl (fun h70 => ?_) (fun h70 => ?_)
          · skip
            have hx : zt_line T P = (zt_mf P.1, P) := by rw [zt_line, if_neg (by rw [h6]; exact Bool.noConfusion), if_neg (by rw [h22]; exact Bool.noConfusion), if_neg (by rw [h38]; exact Bool.noConfusion), if_neg (by rw [h54]; exact Bool.noConfusion), if_neg (by rw [h70]; exact Bool.noConfusion)]
            rw [hx]
            refine gq_aload_n dz_E_tellLine_80 rfl ?_
            refine gq_aload_n dz_E_tellLine_81 rfl ?_
            refine gq_cV (sp_E_misplaced hP.1.2.1 hP.1.2.2) zw_E_misplaced zl_E_92 dz_E_tellLine_82 rfl rfl rfl (by decide) rfl rfl (Nat.le_of_ble_eq_true rfl) ?_
            refine gw_iretP .boolean dz_E_tellLine_85 rfl (by first | rfl | exact zb_nar _ | exact pk_nc _) ?_ ?_
            · exact (zt_df zt_mf0).symm
            · exact zt_out.bad zt_fr.rf zt_mf0 rfl
          · skip
            have hx : zt_line T P = zt_rule T P := by rw [zt_line, if_neg (by rw [h6]; exact Bool.noConfusion), if_neg (by rw [h22]; exact Bool.noConfusion), if_neg (by rw [h38]; exact Bool.noConfusion), if_neg (by rw [h54]; exact Bool.noConfusion), if_pos h70]
            rw [hx]
            refine gq_aload_n dz_E_tellLine_73 rfl ?_
            refine gq_aload_n dz_E_tellLine_74 rfl ?_
            refine gq_aload_n dz_E_tellLine_75 rfl ?_
            refine gq_cVP (sp_E_tellRule hw hP) zw_E_tellRule zl_E_89 dz_E_tellLine_76 rfl rfl rfl (by decide) rfl rfl (Nat.le_of_ble_eq_true rfl) (fun τ76 hq76 => ?_)
            refine gw_iretP .boolean dz_E_tellLine_79 rfl (by first | rfl | exact zb_nar _ | exact pk_nc _) ?_ ?_
            · rfl
            · exact hq76
        · skip
          have hx : zt_line T P = zt_odds T P := by rw [zt_line, if_neg (by rw [h6]; exact Bool.noConfusion), if_neg (by rw [h22]; exact Bool.noConfusion), if_neg (by rw [h38]; exact Bool.noConfusion), if_pos h54]
          rw [hx]
          refine gq_aload_n dz_E_tellLine_57 rfl ?_
          refine gq_aload_n dz_E_tellLine_58 rfl ?_
          refine gq_aload_n dz_E_tellLine_59 rfl ?_
          refine gq_cVP (sp_E_tellOdds hw hP) zw_E_tellOdds zl_E_84 dz_E_tellLine_60 rfl rfl rfl (by decide) rfl rfl (Nat.le_of_ble_eq_true rfl) (fun τ60 hq60 => ?_)
          refine gw_iretP .boolean dz_E_tellLine_63 rfl (by first | rfl | exact zb_nar _ | exact pk_nc _) ?_ ?_
          · rfl
          · exact hq60
      · skip
        have hx : zt_line T P = zt_gone T P := by rw [zt_line, if_neg (by rw [h6]; exact Bool.noConfusion), if_neg (by rw [h22]; exact Bool.noConfusion), if_pos h38]
        rw [hx]
        refine gq_aload_n dz_E_tellLine_41 rfl ?_
        refine gq_aload_n dz_E_tellLine_42 rfl ?_
        refine gq_aload_n dz_E_tellLine_43 rfl ?_
        refine gq_cVP (sp_E_tellGone hw hP) zw_E_tellGone zl_E_79 dz_E_tellLine_44 rfl rfl rfl (by decide) rfl rfl (Nat.le_of_ble_eq_true rfl) (fun τ44 hq44 => ?_)
        refine gw_iretP .boolean dz_E_tellLine_47 rfl (by first | rfl | exact zb_nar _ | exact pk_nc _) ?_ ?_
        · rfl
        · exact hq44
    · skip
      have hx : zt_line T P = zt_fact T P := by rw [zt_line, if_neg (by rw [h6]; exact Bool.noConfusion), if_pos h22]
      rw [hx]
      refine gq_aload_n dz_E_tellLine_25 rfl ?_
      refine gq_aload_n dz_E_tellLine_26 rfl ?_
      refine gq_aload_n dz_E_tellLine_27 rfl ?_
      refine gq_cVP (sp_E_tellFact hw hP) zw_E_tellFact zl_E_74 dz_E_tellLine_28 rfl rfl rfl (by decide) rfl rfl (Nat.le_of_ble_eq_true rfl) (fun τ28 hq28 => ?_)
      refine gw_iretP .boolean dz_E_tellLine_31 rfl (by first | rfl | exact zb_nar _ | exact pk_nc _) ?_ ?_
      · rfl
      · exact hq28
  · skip
    have hx : zt_line T P = zt_one T P := by rw [zt_line, if_pos h6]
    rw [hx]
    refine gq_aload_n dz_E_tellLine_9 rfl ?_
    refine gq_aload_n dz_E_tellLine_10 rfl ?_
    refine gq_aload_n dz_E_tellLine_11 rfl ?_
    refine gq_cVP (sp_E_tellOne hw hP) zw_E_tellOne zl_E_69 dz_E_tellLine_12 rfl rfl rfl (by decide) rfl rfl (Nat.le_of_ble_eq_true rfl) (fun τ12 hq12 => ?_)
    refine gw_iretP .boolean dz_E_tellLine_15 rfl (by first | rfl | exact zb_nar _ | exact pk_nc _) ?_ ?_
    · rfl
    · exact hq12
