/-! THE WHOLE TEXT -/
def zt_evb (n : Nat) : Int32 := (1 <<< (nI n &&& 31)) - 1
def zt_chk (P : za_P) : Int32 := if ¬ P.2.2.1 &&& (zt_evb (za_n P.2.1) ^^^ -1) = 0 then 6 else if zs_eqr P.2.1 then 7 else 0
def zt_lines (T : za_T) : Nat → Nat → za_P → Int32 × Nat × za_P
  | 0, l, P => (0, l, P)
  | n + 1, l, P => if P.1.2.1 = 0 then (0, l, P) else if ¬ (zt_line T P).1 = 0 then ((zt_line T P).1, l, (zt_line T P).2) else zt_lines T n (l + 1) (zt_adv T (zt_line T P).2)
def zt_p0 : za_P := ((0, 0, 0, 0), zt_nil, 0, 0)
/-- fault, lines, place, duchy -/
abbrev za_tR : Type := Int32 × Nat × Nat × za_D
def zt_tell1 (T : za_T) (r : Int32 × Nat × za_P) : za_tR := if r.1 = 0 then (zt_chk r.2.2, r.2.1, T.1, r.2.2.2.1) else (r.1, r.2.1, r.2.2.1.2.2.1, r.2.2.2.1)
def zt_tell (T : za_T) : za_tR := zt_tell1 T (zt_lines T 160 0 (zt_adv T zt_p0))
def zt_told (σ : zq_T) (d : Fin 5) (r : za_tR) (τ : zq_T) : Prop := zt_fr d σ τ ∧ τ.1 3 0 0 = r.1 ∧ (¬ r.1 = 0 → τ.1 3 0 1 = nI r.2.2.1) ∧ (r.1 = 0 → zc_rep τ d r.2.2.2)
theorem zt_told.of {σ τ υ : zq_T} {d : Fin 5} {T : za_T} {P : za_P} {l : Nat} (hF : zt_fr d σ τ) (hS : zt_st τ d T P) (hu : υ = if zt_chk P = 0 then τ else zt_flt τ (zt_chk P) (nI T.1)) : zt_told σ d (zt_tell1 T (0, l, P)) υ := by
  have hx : zt_tell1 T (0, l, P) = (zt_chk P, l, T.1, P.2.1) := if_pos rfl
  rw [hx, hu]
  by_cases h : zt_chk P = 0
  · rw [if_pos h]
    exact ⟨hF, hS.2.2.2.2.2.trans h.symm, fun z => absurd h z, fun _ => hS.2.1⟩
  · rw [if_neg h]
    exact ⟨hF.up.up, (zq_upN (by omega)).trans zq_upE, fun _ => zq_upE, fun z => absurd z h⟩
theorem zt_told.bad {σ τ υ : zq_T} {d : Fin 5} {T : za_T} {r : Int32 × za_P} {l : Nat} (hF : zt_fr d σ τ) (h : zt_out τ d T r υ) (hr : ¬ r.1 = 0) : zt_told σ d (zt_tell1 T (r.1, l, r.2)) υ := by
  have hx : zt_tell1 T (r.1, l, r.2) = (r.1, l, r.2.1.2.2.1, r.2.2.1) := if_neg hr
  rw [hx]
  exact ⟨hF.tr h.1, (h.2.2 hr).1, fun _ => (h.2.2 hr).2, fun z => absurd z hr⟩
theorem zt_tell1_l {T : za_T} {r : Int32 × Nat × za_P} : (zt_tell1 T r).2.1 = r.2.1 := by unfold zt_tell1; split <;> rfl

set_option maxHeartbeats 4000000 in
theorem sp_E_checkWhole {σ : zq_T} {d : Fin 5} {T : za_T} {P : za_P} (hP : zt_st σ d T P) : zq_Sp zm_E_checkWhole 2 [zq_O 3 0, zq_O 1 0, zq_O 10 d] σ (zq_r0 (if zt_chk P = 0 then σ else zt_flt σ (zt_chk P) (nI T.1))) := by
  refine zq_sp [some (zq_O 3 0), some (zq_O 1 0), some (zq_O 10 d)] (by decide +kernel) rfl (Nat.le_of_ble_eq_true rfl) (fun ν => ?_)
  refine gq_aload_n dz_E_checkWhole_0 rfl ?_
  refine gq_getI zf_E_18 rfl rfl dz_E_checkWhole_1 ?_
  rw [hP.2.2.2.1]
  refine gq_aload_n dz_E_checkWhole_4 rfl ?_
  refine gq_cV (sp_D_everybody hP.2.1) zw_D_everybody zl_E_48 dz_E_checkWhole_5 rfl rfl rfl (by decide) rfl rfl (Nat.le_of_ble_eq_true rfl) ?_
  refine gq_iconst (v := -1) dz_E_checkWhole_8 rfl ?_
  refine gq_ixor dz_E_checkWhole_9 ?_
  refine gq_iand dz_E_checkWhole_10 ?_
  refine gq_if_eq (tgt := 28) dz_E_checkWhole_11 rfl (fun h11 => ?_) (fun h11 => ?_)
  · skip
    have h11 : P.2.2.1 &&& (zt_evb (za_n P.2.1) ^^^ -1) = 0 := h11
    refine gq_aload_n dz_E_checkWhole_28 rfl ?_
    refine gq_cV (sp_D_hasEqualRanks hP.2.1) zw_D_hasEqualRanks zl_E_59 dz_E_checkWhole_29 rfl rfl rfl (by decide) rfl rfl (Nat.le_of_ble_eq_true rfl) ?_
    refine gw_ifb_eq (tgt := 46) dz_E_checkWhole_32 rfl (fun h32 => ?_) (fun h32 => ?_)
    · skip
      have hx : zt_chk P = 0 := by rw [zt_chk, if_neg (fun z => z h11), if_neg (by rw [h32]; exact Bool.noConfusion)]
      rw [if_pos hx]
      refine gw_vret dz_E_checkWhole_46 rfl ?_
      · rfl
    · skip
      have hx : zt_chk P = 7 := by rw [zt_chk, if_neg (fun z => z h11), if_pos h32]
      rw [hx, if_neg (by decide)]
      refine gq_aload_n dz_E_checkWhole_35 rfl ?_
      refine gq_bipush (v := 7) dz_E_checkWhole_36 rfl ?_
      refine gq_aload_n dz_E_checkWhole_38 rfl ?_
      refine gq_getI zf_E_52 rfl rfl dz_E_checkWhole_39 ?_
      rw [hP.1.1.1]
      refine gq_cV (sp_E_fail _ _) zw_E_fail zl_E_55 dz_E_checkWhole_42 rfl rfl rfl (by decide) rfl rfl (Nat.le_of_ble_eq_true rfl) ?_
      refine gq_pop dz_E_checkWhole_45 rfl ?_
      refine gw_vret dz_E_checkWhole_46 rfl ?_
      · rfl
  · skip
    have h11 : ¬ P.2.2.1 &&& (zt_evb (za_n P.2.1) ^^^ -1) = 0 := h11
    have hx : zt_chk P = 6 := if_pos h11
    rw [hx, if_neg (by decide)]
    refine gq_aload_n dz_E_checkWhole_14 rfl ?_
    refine gq_bipush (v := 6) dz_E_checkWhole_15 rfl ?_
    refine gq_aload_n dz_E_checkWhole_17 rfl ?_
    refine gq_getI zf_E_52 rfl rfl dz_E_checkWhole_18 ?_
    rw [hP.1.1.1]
    refine gq_cV (sp_E_fail _ _) zw_E_fail zl_E_55 dz_E_checkWhole_21 rfl rfl rfl (by decide) rfl rfl (Nat.le_of_ble_eq_true rfl) ?_
    refine gq_pop dz_E_checkWhole_24 rfl ?_
    refine gq_goto (tgt := 46) dz_E_checkWhole_25 rfl ?_
    refine gw_vret dz_E_checkWhole_46 rfl ?_
    · rfl
set_option maxHeartbeats 4000000 in
theorem sp_E_tell {σ : zq_T} {d : Fin 5} {T : za_T} (hw : zt_wf T) (hT : zt_tp σ T) : zq_Sp zm_E_tell 8 [zq_O 3 0, zq_O 1 0, zq_O 10 d] σ (zq_rw (zq_I (nI (zt_tell T).2.1)) (zt_told σ d (zt_tell T))) := by
  refine zq_sp [some (zq_O 3 0), some (zq_O 1 0), some (zq_O 10 d), none] (by decide +kernel) rfl (Nat.le_of_ble_eq_true rfl) (fun ν => ?_)
  refine gq_aload_n dz_E_tell_0 rfl ?_
  refine gq_iconst (v := 0) dz_E_tell_1 rfl ?_
  refine gq_putI zv_E_9 rfl rfl dz_E_tell_2 ?_
  refine gq_aload_n dz_E_tell_5 rfl ?_
  refine gq_iconst (v := 0) dz_E_tell_6 rfl ?_
  refine gq_putI zv_E_15 rfl rfl dz_E_tell_7 ?_
  refine gq_aload_n dz_E_tell_10 rfl ?_
  refine gq_iconst (v := 0) dz_E_tell_11 rfl ?_
  refine gq_putI zv_E_18 rfl rfl dz_E_tell_12 ?_
  refine gq_aload_n dz_E_tell_15 rfl ?_
  refine gq_iconst (v := 0) dz_E_tell_16 rfl ?_
  refine gq_putI zv_E_21 rfl rfl dz_E_tell_17 ?_
  refine gq_aload_n dz_E_tell_20 rfl ?_
  refine gq_ifnull dz_E_tell_21 ?_
  refine gq_aload_n dz_E_tell_24 rfl ?_
  refine gq_ifnonnull (tgt := 30) dz_E_tell_25 rfl ?_
  refine gq_aload_n dz_E_tell_30 rfl ?_
  refine gq_cVX (sp_D_clear (d := d)) zw_D_clear zl_E_24 dz_E_tell_31 rfl rfl rfl (by decide) rfl rfl (Nat.le_of_ble_eq_true rfl) (fun τ31 hq31 => ?_)
  have hF1 : zt_fr d σ τ31 := ((((zt_fr.rf.up (k := 0) (j := 0) (v := 0)).up (k := 1) (j := 0) (v := 0)).up (k := 2) (j := 0) (v := 0)).up (k := 3) (j := 0) (v := 0)).tr hq31.1.fr
  refine gq_aload_n dz_E_tell_34 rfl ?_
  refine gq_cV0 (sp_P_rewind) zw_P_rewind zl_E_29 dz_E_tell_35 rfl rfl rfl (by decide) rfl rfl (Nat.le_of_ble_eq_true rfl) ?_
  have hF2 : zt_fr d σ (zq_up τ31.1 1 0 5 0, τ31.2) := hF1.tr (zt_same.rf.up (by omega) (by omega)).fr
  have hT2 := hF2.tp hT
  refine gq_aload_n dz_E_tell_38 rfl ?_
  refine gq_cVX (sp_P_advance hT2 hw (a := 0) zq_upE (Nat.zero_le _)) zw_P_advance zl_E_34 dz_E_tell_39 rfl rfl rfl (by decide) rfl rfl (Nat.le_of_ble_eq_true rfl) (fun τ39 hq39 => ?_)
  have hS : zt_st τ39 d T (zt_adv T zt_p0) := ⟨⟨hq39.1.tp hT2, hq39.2, zt_lex_kw (Nat.zero_le _)⟩, (hq31.2.up (by omega)).keep (fun t k h1 h2 => hq39.1.2 _ _ _ (by omega)), fun i hi => absurd hi (Nat.not_lt_zero i), (hq39.1.2 _ _ _ (by omega)).trans ((zq_upN (by omega)).trans ((hq31.1.2 _ _ _ (by omega)).trans ((zq_upN (by omega)).trans zq_upE))), (hq39.1.2 _ _ _ (by omega)).trans ((zq_upN (by omega)).trans ((hq31.1.2 _ _ _ (by omega)).trans zq_upE)), (hq39.1.2 _ _ _ (by omega)).trans ((zq_upN (by omega)).trans ((hq31.1.2 _ _ _ (by omega)).trans ((zq_upN (by omega)).trans ((zq_upN (by omega)).trans ((zq_upN (by omega)).trans zq_upE)))))⟩
  have hF := hF2.tr hq39.1.fr
  refine gq_iconst (v := 0) dz_E_tell_42 rfl ?_
  refine gw_istore_n 3 dz_E_tell_43 rfl (Nat.le_of_ble_eq_true rfl) rfl ?_
  dsimp only [List.set]
  have L44 : ∀ (kf : Nat) (n l : Nat) (P : za_P) (τ : zq_T) (hkf : n < kf) (hn : l + n = 160) (hS : zt_st τ d T P) (hF : zt_fr d σ τ) (hv : zt_tell T = zt_tell1 T (zt_lines T n l P)), zq_G ν zm_E_tell 8 (zq_rw (zq_I (nI (zt_tell T).2.1)) (zt_told σ d (zt_tell T))) 44 [some (zq_O 3 0), some (zq_O 1 0), some (zq_O 10 d), some (zq_I (nI l))] [] τ := by
    intro kf
    induction kf with
    | zero => intro n l P τ hkf hn hS hF hv; exact absurd hkf (Nat.not_lt_zero _)
    | succ kf ih44 =>
      intro n l P τ hkf hn hS hF hv
      refine gq_iload_n dz_E_tell_44 rfl ?_
      refine gq_sipush (v := 160) dz_E_tell_45 rfl ?_
      refine gq_icmp_ge (tgt := 79) dz_E_tell_48 rfl (fun h48 => ?_) (fun h48 => ?_)
      · skip
        have hn0 : n = 0 := by have := (nI_leI (a := 160) (by omega) (by omega)).mp h48; omega
        subst hn0
        have hx : zt_tell T = zt_tell1 T (0, l, P) := hv
        refine gq_aload_n dz_E_tell_79 rfl ?_
        refine gq_aload_n dz_E_tell_80 rfl ?_
        refine gq_aload_n dz_E_tell_81 rfl ?_
        refine gq_cV0 (sp_E_checkWhole hS) zw_E_checkWhole zl_E_44 dz_E_tell_82 rfl rfl rfl (by decide) rfl rfl (Nat.le_of_ble_eq_true rfl) ?_
        refine gq_iload_n dz_E_tell_85 rfl ?_
        refine gw_iretP .int dz_E_tell_86 rfl (by first | rfl | exact zb_nar _ | exact pk_nc _) ?_ ?_
        · rw [hx, zt_tell1_l]
        · rw [hx]; exact zt_told.of hF hS rfl
      · skip
        obtain ⟨n, rfl⟩ : ∃ n2, n = n2 + 1 := ⟨n - 1, by rcases n with _ | n; exact absurd (nI_le (a := 160) (by omega) (by omega)) h48; omega⟩
        refine gq_aload_n dz_E_tell_51 rfl ?_
        refine gq_getI zf_E_37 rfl rfl dz_E_tell_52 ?_
        rw [hS.1.2.1.2.1]
        refine gq_if_eq (tgt := 79) dz_E_tell_55 rfl (fun h55 => ?_) (fun h55 => ?_)
        · skip
          have h55 : P.1.2.1 = 0 := (zt_kk (c := 0) (by have := hS.1.2.2.2.2; omega) (by omega)).mp h55
          have hx : zt_tell T = zt_tell1 T (0, l, P) := by rw [hv, zt_lines, if_pos h55]
          refine gq_aload_n dz_E_tell_79 rfl ?_
          refine gq_aload_n dz_E_tell_80 rfl ?_
          refine gq_aload_n dz_E_tell_81 rfl ?_
          refine gq_cV0 (sp_E_checkWhole hS) zw_E_checkWhole zl_E_44 dz_E_tell_82 rfl rfl rfl (by decide) rfl rfl (Nat.le_of_ble_eq_true rfl) ?_
          refine gq_iload_n dz_E_tell_85 rfl ?_
          refine gw_iretP .int dz_E_tell_86 rfl (by first | rfl | exact zb_nar _ | exact pk_nc _) ?_ ?_
          · rw [hx, zt_tell1_l]
          · rw [hx]; exact zt_told.of hF hS rfl
        · skip
          have h55 : ¬ P.1.2.1 = 0 := fun z => h55 (by rw [z]; rfl)
          refine gq_aload_n dz_E_tell_58 rfl ?_
          refine gq_aload_n dz_E_tell_59 rfl ?_
          refine gq_aload_n dz_E_tell_60 rfl ?_
          refine gq_cVP (sp_E_tellLine hw hS) zw_E_tellLine zl_E_40 dz_E_tell_61 rfl rfl rfl (by decide) rfl rfl (Nat.le_of_ble_eq_true rfl) (fun τ61 hq61 => ?_)
          refine gw_ifb_ne (tgt := 69) dz_E_tell_64 rfl (fun h64 => ?_) (fun h64 => ?_)
          · skip
            have e64 := of_decide_eq_true h64
            have hS2 : zt_st τ61 d T (zt_line T P).2 := hq61.2.1 e64
            refine gw_iinc 3 (c := 1) dz_E_tell_69 rfl rfl (Nat.le_of_ble_eq_true rfl) rfl ?_
            dsimp only [List.set]
            refine gq_aload_n dz_E_tell_72 rfl ?_
            refine gq_cVX (sp_P_advance hS2.1.1 hw (a := (zt_line T P).2.1.1) hS2.1.2.1.1 hS2.1.2.2.2.1) zw_P_advance zl_E_34 dz_E_tell_73 rfl rfl rfl (by decide) rfl rfl (Nat.le_of_ble_eq_true rfl) (fun τ73 hq73 => ?_)
            refine gq_goto (tgt := 44) dz_E_tell_76 rfl ?_
            simp only [nI_1]
            exact zq_fewer _ (zq_sub_spec (by repeat (first | exact trivial | exact rfl | refine And.intro ?_ ?_))) (ih44 n (l + 1) _ _ (by omega) (by omega) (hS2.adv hq73.1 hq73.2) (hF.tr (hq61.1.tr hq73.1.fr)) (by rw [hv, zt_lines, if_neg h55, if_neg (fun z => z e64)]))
          · skip
            have e64 := of_decide_eq_false h64
            have hx : zt_tell T = zt_tell1 T ((zt_line T P).1, l, (zt_line T P).2) := by rw [hv, zt_lines, if_neg h55, if_pos e64]
            refine gq_iload_n dz_E_tell_67 rfl ?_
            refine gw_iretP .int dz_E_tell_68 rfl (by first | rfl | exact zb_nar _ | exact pk_nc _) ?_ ?_
            · rw [hx, zt_tell1_l]
            · rw [hx]; exact zt_told.bad hF hq61 e64
  exact zq_fewer _ (zq_sub_spec (by repeat (first | exact trivial | exact rfl | refine And.intro ?_ ?_))) (L44 161 160 0 _ _ (by omega) (by omega) hS hF rfl)
