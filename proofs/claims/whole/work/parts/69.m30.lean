/-! THE MODEL: a line whole -/
def zw_li (σ : zq_T) (T : za_T) (R : Int32 × za_P) (τ : zq_T) : Prop := zw_ff σ τ ∧ ∃ r : Int32 × za_K, zw_r τ T r ∧ (¬ R.1 = 0 → zw_cd r = R.1 ∧ r.2.2.2.1 = R.2.1.2.2.1) ∧ (R.1 = 0 → r = (0, zt_lex T R.2.1.1) ∧ zw_dd τ R.2.2)
theorem zw_50 : ¬ (5 : Int32) = 0 := by decide
theorem zw_dd.fs {σ τ : zq_T} {D : za_D × Int32 × Int32} (h : zw_dd σ D) (hs : zw_fs σ τ) : zw_dd τ D := ⟨h.1.fp hs.p, h.2.1.same (hs.2 _ _ _ (by omega)), (hs.2 _ _ _ (by omega)).trans h.2.2⟩
theorem zw_line_no {T : za_T} {P : za_P} (h : zb_in (zw_name T P.1) 5 = false) : zt_line T P = (zt_mf P.1, P) := by
  have hW : ∀ m, m < 5 → zt_isW T P.1 m = false := fun m hm => by
    rcases zw_name_spec T P.1 with ⟨-, h2⟩ | ⟨n, hn, h1, h2⟩
    · exact h2 m (by omega)
    · rw [h2 m (by omega)]
      refine decide_eq_false (fun z => ?_)
      rw [h1, ← z, zb_in_nI hm (by omega)] at h
      cases h
  rw [zt_line, hW 0 (by omega), hW 1 (by omega), hW 2 (by omega), hW 3 (by omega), hW 4 (by omega)]
  rfl
theorem zw_line_w {T : za_T} {P : za_P} {n : Nat} (hn : n < 5) (h : zw_name T P.1 = nI n) : ∀ m, m < 13 → zt_isW T P.1 m = decide (m = n) := fun m hm => by
  rcases zw_name_spec T P.1 with ⟨h1, -⟩ | ⟨n2, hn2, h1, h2⟩
  · exact absurd (h.symm.trans h1) (fun z => nI_pos (show n < 2 ^ 31 by omega) (by rw [z]; decide))
  · rw [h2 m hm, show n2 = n from (nI_eq (by omega) (by omega)).mp (h1.symm.trans h)]
theorem zw_line0 {T : za_T} {P : za_P} (h : zw_name T P.1 = nI 0) : zt_line T P = zt_one T P := by
  have w := zw_line_w (by omega) h
  rw [zt_line, if_pos (by rw [w 0 (by omega)]; rfl)]
theorem zw_line1 {T : za_T} {P : za_P} (h : zw_name T P.1 = nI 1) : zt_line T P = zt_fact T P := by
  have w := zw_line_w (by omega) h
  rw [zt_line, if_neg (show ¬ zt_isW T P.1 0 = true by rw [w 0 (by omega)]; decide), if_pos (show zt_isW T P.1 1 = true by rw [w 1 (by omega)]; rfl)]
theorem zw_line2 {T : za_T} {P : za_P} (h : zw_name T P.1 = nI 2) : zt_line T P = zt_gone T P := by
  have w := zw_line_w (by omega) h
  rw [zt_line, if_neg (show ¬ zt_isW T P.1 0 = true by rw [w 0 (by omega)]; decide), if_neg (show ¬ zt_isW T P.1 1 = true by rw [w 1 (by omega)]; decide), if_pos (show zt_isW T P.1 2 = true by rw [w 2 (by omega)]; rfl)]
theorem zw_line3 {T : za_T} {P : za_P} (h : zw_name T P.1 = nI 3) : zt_line T P = zt_odds T P := by
  have w := zw_line_w (by omega) h
  rw [zt_line, if_neg (show ¬ zt_isW T P.1 0 = true by rw [w 0 (by omega)]; decide), if_neg (show ¬ zt_isW T P.1 1 = true by rw [w 1 (by omega)]; decide), if_neg (show ¬ zt_isW T P.1 2 = true by rw [w 2 (by omega)]; decide), if_pos (show zt_isW T P.1 3 = true by rw [w 3 (by omega)]; rfl)]
theorem zw_line4 {T : za_T} {P : za_P} (h : zw_name T P.1 = nI 4) : zt_line T P = zt_rule T P := by
  have w := zw_line_w (by omega) h
  rw [zt_line, if_neg (show ¬ zt_isW T P.1 0 = true by rw [w 0 (by omega)]; decide), if_neg (show ¬ zt_isW T P.1 1 = true by rw [w 1 (by omega)]; decide), if_neg (show ¬ zt_isW T P.1 2 = true by rw [w 2 (by omega)]; decide), if_neg (show ¬ zt_isW T P.1 3 = true by rw [w 3 (by omega)]; decide), if_pos (show zt_isW T P.1 4 = true by rw [w 4 (by omega)]; rfl)]
theorem zw_line_k4 {T : za_T} {P : za_P} {n : Nat} (hn : n < 5) (h : zw_name T P.1 = nI n) (h4 : (zt_adv T P).1.2.1 = 4) (h0 : n = 0 → za_n P.2.1 < 6) (h5 : n = 4 → za_m P.2.1 < 5) : (zt_line T P).1 = 1 ∧ (zt_line T P).2.1 = (zt_adv T P).1 := by
  have h9 : n = 0 ∨ n = 1 ∨ n = 2 ∨ n = 3 ∨ n = 4 := by omega
  rcases h9 with rfl | rfl | rfl | rfl | rfl
  · rw [zw_line0 h]; exact zw_line_k h4 (h0 rfl)
  · rw [zw_line1 h, zt_fact, if_pos (zw_nz (zw_num_k h4).1)]; exact zw_num_k h4
  · rw [zw_line2 h, zt_gone, if_pos (zw_nz (zw_num_k h4).1)]; exact zw_num_k h4
  · rw [zw_line3 h, zt_odds, if_pos (zw_nz (zw_num_k h4).1)]; exact zw_num_k h4
  · rw [zw_line4 h]; exact (zw_more_k h4 (h5 rfl)).2.2.2
theorem sp_M_readMore {σ : zq_T} {T : za_T} (hT : zw_t σ T) (hw : zt_wf T) {P : za_P} {n : Nat} (hn : n < 5) (h : zw_name T P.1 = nI n) (hr : zw_r σ T (0, (zt_adv T P).1)) (hc0 : zw_cd (0, (zt_adv T P).1) = 0) (hD : zw_dd σ P.2) (h0 : n = 0 → za_n P.2.1 < 6) (h5 : n = 4 → za_m P.2.1 < 5) : zq_Sp zm_M_readMore 6 [zq_O 30 0, zq_I (nI n)] σ (zq_rx (zw_mo σ T (zt_line T P))) := by
  have h9 : n = 0 ∨ n = 1 ∨ n = 2 ∨ n = 3 ∨ n = 4 := by omega
  rcases h9 with rfl | rfl | rfl | rfl | rfl
  · rw [zw_line0 h]; exact sp_M_readMore0 hT hw hr hc0 hD (h0 rfl)
  · rw [zw_line1 h]; exact sp_M_readMore1 hT hw hr hc0 hD
  · rw [zw_line2 h]; exact sp_M_readMore2 hT hw hr hc0 hD
  · rw [zw_line3 h]; exact sp_M_readMore3 hT hw hr hc0 hD
  · rw [zw_line4 h]; exact sp_M_readMore4 hT hw hr hc0 hD (h5 rfl)
theorem zf_any_iff {P : Nat → Bool} : ∀ {n : Nat}, zf_any P n = true ↔ ∃ k, k < n ∧ P k = true
  | 0 => ⟨fun h => Bool.noConfusion h, fun ⟨k, h, _⟩ => absurd h (Nat.not_lt_zero _)⟩
  | n + 1 => by
    rw [zf_any, Bool.or_eq_true, zf_any_iff]
    constructor
    · rintro (⟨k, a, b⟩ | h)
      · exact ⟨k, by omega, b⟩
      · exact ⟨n, by omega, h⟩
    · rintro ⟨k, a, b⟩
      rcases Nat.lt_or_ge k n with z | z
      · exact Or.inl ⟨k, z, b⟩
      · exact Or.inr (by rw [show n = k by omega]; exact b)
def zw_pr (A : za_D) (a b : Nat) : Prop := za_th A a = za_th A b ∧ za_rk A a = za_rk A b
theorem zw_eqr {A : za_D} {c : Bool} (h : c = true ↔ ∃ a b, a < za_m A ∧ a < b ∧ b < za_m A ∧ zw_pr A a b) : c = zs_eqr A := by
  rw [Bool.eq_iff_iff, h, zs_eqr, zf_any_iff]
  constructor
  · rintro ⟨a, b, h1, h2, h3, h4, h5⟩
    refine ⟨b, h3, zf_any_iff.mpr ⟨a, h2, ?_⟩⟩
    unfold zs_eq1
    rw [h4, h5]
    simp
  · rintro ⟨b, h1, h2⟩
    obtain ⟨a, h3, h4⟩ := zf_any_iff.mp h2
    unfold zs_eq1 at h4
    simp at h4
    exact ⟨a, b, by omega, h3, h1, h4.1, h4.2⟩

set_option maxHeartbeats 4000000 in
theorem sp_M_readLine {σ : zq_T} {T : za_T} (hT : zw_t σ T) (hw : zt_wf T) {K : za_K} {D : za_D × Int32 × Int32} (hr : zw_r σ T (0, K)) (hc0 : zw_cd (0, K) = 0) (hD : zw_dd σ D) : zq_Sp zm_M_readLine 7 [zq_O 30 0] σ (zq_rx (zw_li σ T (zt_line T (K, D)))) := by
  have hkk := (zw_cd0 hc0).2
  have hkk : ¬ K.2.1 = 4 := hkk
  have h8 := hD.1.1.2.2.1
  have h9 := hD.1.1.2.2.2
  have hn6 := hD.1.1.1
  have hm5 := hD.1.1.2.1
  refine zq_sp [some (zq_O 30 0), none] (by decide +kernel) rfl (Nat.le_of_ble_eq_true rfl) (fun ν => ?_)
  refine gq_aload_n dz_M_readLine_0 rfl ?_
  refine gq_cV (sp_M_nameHere hT hw hr) zw_M_nameHere zl_M_117 dz_M_readLine_1 rfl rfl rfl (by decide) rfl rfl (Nat.le_of_ble_eq_true rfl) ?_
  refine gw_istore_n 1 dz_M_readLine_4 rfl (Nat.le_of_ble_eq_true rfl) rfl ?_
  dsimp only [List.set]
  refine gq_iload_n dz_M_readLine_5 rfl ?_
  refine gq_i2l dz_M_readLine_6 ?_
  refine gq_lconst (v := 0) dz_M_readLine_7 rfl ?_
  refine gq_ldc2 zl_M_143 dz_M_readLine_8 ?_
  refine gq_cS (sp_M_in _ _ _) zw_M_in zl_M_65 dz_M_readLine_11 (by decide) rfl rfl (Nat.le_of_ble_eq_true rfl) ?_
  refine gw_ifb_ne (tgt := 23) dz_M_readLine_14 rfl (fun h14 => ?_) (fun h14 => ?_)
  · skip
    rw [zn_inc (n := 5) rfl (by omega)] at h14
    obtain ⟨nm, hnm, hne⟩ := (zb_in_iff (by omega)).mp h14
    have hne : zw_name T (K, D).1 = nI nm := hne
    rw [show zw_name T (0, K).2 = nI nm from hne]
    refine gq_iload_n dz_M_readLine_23 rfl ?_
    refine gq_if_ne (tgt := 36) dz_M_readLine_24 rfl (fun h24 => ?_) (fun h24 => ?_)
    · skip
      have hm0 : ¬ nm = 0 := fun z => h24 (by rw [z]; rfl)
      refine gq_iload_n dz_M_readLine_36 rfl ?_
      refine gq_iconst (v := 4) dz_M_readLine_37 rfl ?_
      refine gq_icmp_ne (tgt := 54) dz_M_readLine_38 rfl (fun h38 => ?_) (fun h38 => ?_)
      · skip
        have hm4 : ¬ nm = 4 := fun z => h38 (by rw [z]; rfl)
        have hz0 : nm = 0 → za_n D.1 < 6 := fun z => absurd z hm0
        have hz4 : nm = 4 → za_m D.1 < 5 := fun z => absurd z hm4
        refine gq_aload_n dz_M_readLine_54 rfl ?_
        refine gq_cVX (sp_M_step hT hw hr) zw_M_step zl_M_107 dz_M_readLine_55 rfl rfl rfl (by decide) rfl rfl (Nat.le_of_ble_eq_true rfl) (fun τ55 hq55 => ?_)
        refine gq_aload_n dz_M_readLine_58 rfl ?_
        refine gq_getI zf_M_73 rfl rfl dz_M_readLine_59 ?_
        rw [hq55.2.2.2.1]
        refine gq_if_le (tgt := 66) dz_M_readLine_62 rfl (fun h62 => ?_) (fun h62 => ?_)
        · skip
          have hkd : ¬ (zt_adv T (K, D)).1.2.1 = 4 := fun z => absurd h62 (by rw [zw_nx0 hc0]; show ¬ zw_cd (0, (zt_adv T (K, D)).1) ≤ 0; rw [zw_cd_k z]; decide)
          have hr1 : zw_r τ55 T (0, (zt_adv T (K, D)).1) := by have := hq55.2; rw [zw_nx0 hc0] at this; exact this
          have hcd1 := zw_cd_z hkd
          refine gq_aload_n dz_M_readLine_66 rfl ?_
          refine gq_iload_n dz_M_readLine_67 rfl ?_
          refine gq_cVX (sp_M_readMore (hT.fs hq55.1) hw (P := (K, D)) hnm hne hr1 hcd1 (hD.fs hq55.1) hz0 hz4) zw_M_readMore zl_M_145 dz_M_readLine_68 rfl rfl rfl (by decide) rfl rfl (Nat.le_of_ble_eq_true rfl) (fun τ68 hq68 => ?_)
          obtain ⟨hF68, r2, D2, hR2, hdd2, hpre1, hpre2⟩ := hq68
          have hFF := hq55.1.p.ff.tr hF68
          obtain ⟨k2, hk21, hk22, hk23, hk24⟩ := hR2.2.2.2.2.2.2.1
          refine gq_aload_n dz_M_readLine_71 rfl ?_
          refine gq_getI zf_M_73 rfl rfl dz_M_readLine_72 ?_
          rw [hR2.2.2.1]
          refine gq_if_ne (tgt := 91) dz_M_readLine_75 rfl (fun h75 => ?_) (fun h75 => ?_)
          · skip
            refine gq_aload_n dz_M_readLine_91 rfl ?_
            refine gq_cVX (sp_M_step (hT.ff hFF) hw hR2) zw_M_step zl_M_107 dz_M_readLine_92 rfl rfl rfl (by decide) rfl rfl (Nat.le_of_ble_eq_true rfl) (fun τ92 hq92 => ?_)
            refine gw_vretP dz_M_readLine_95 rfl ?_
            · exact ⟨hFF.tr hq92.1.p.ff, _, hq92.2, fun _ => by rw [zw_nx1 h75]; exact ⟨(hpre1 h75).1.symm, (hpre1 h75).2.symm⟩, fun z => absurd ((hpre1 h75).1.symm.trans z) h75⟩
          · skip
            refine gq_aload_n dz_M_readLine_78 rfl ?_
            refine gq_getI zf_M_82 rfl rfl dz_M_readLine_79 ?_
            rw [hk22]
            refine gq_iconst (v := 3) dz_M_readLine_82 rfl ?_
            refine gq_icmp_eq (tgt := 91) dz_M_readLine_83 rfl (fun h83 => ?_) (fun h83 => ?_)
            · skip
              have hk3 : r2.2.2.1 = 3 := by rw [← hk23 (zw_cd0 h75).2]; exact (nI_eq (b := 3) (by omega) (by omega)).mp h83
              refine gq_aload_n dz_M_readLine_91 rfl ?_
              refine gq_cVX (sp_M_step (hT.ff hFF) hw hR2) zw_M_step zl_M_107 dz_M_readLine_92 rfl rfl rfl (by decide) rfl rfl (Nat.le_of_ble_eq_true rfl) (fun τ92 hq92 => ?_)
              refine gw_vretP dz_M_readLine_95 rfl ?_
              · have hst := hpre2 h75; have hR0 : (zt_line T (K, D)).1 = 0 := (by rw [hst]; exact if_pos hk3); exact ⟨hFF.tr hq92.1.p.ff, _, hq92.2, fun z => absurd hR0 z, fun _ => by rw [zw_nx0 h75, hst]; exact ⟨rfl, (hdd2 h75).fs hq92.1⟩⟩
            · skip
              have hk3 : ¬ r2.2.2.1 = 3 := fun z => h83 (by rw [hk23 (zw_cd0 h75).2, z]; rfl)
              refine gq_aload_n dz_M_readLine_86 rfl ?_
              refine gq_iconst (v := 2) dz_M_readLine_87 rfl ?_
              refine gq_cVX (sp_M_fails 2) zw_M_fails zl_M_103 dz_M_readLine_88 rfl rfl rfl (by decide) rfl rfl (Nat.le_of_ble_eq_true rfl) (fun τ88 hq88 => ?_)
              have hf88 := hR2.fl (n := 2) (by omega) (by omega) hq88
              refine gq_aload_n dz_M_readLine_91 rfl ?_
              refine gq_cVX (sp_M_step (hT.ff (hFF.tr hf88.1.p.ff)) hw hf88.2) zw_M_step zl_M_107 dz_M_readLine_92 rfl rfl rfl (by decide) rfl rfl (Nat.le_of_ble_eq_true rfl) (fun τ92 hq92 => ?_)
              refine gw_vretP dz_M_readLine_95 rfl ?_
              · have hst := hpre2 h75; have hc2 : zw_cd (2, r2.2) = 2 := zw_cde (by decide); have hR0 : (zt_line T (K, D)).1 = 2 := (by rw [hst]; exact (if_neg hk3).trans (zt_mf2 (zw_cd0 h75).2)); exact ⟨(hFF.tr hf88.1.p.ff).tr hq92.1.p.ff, _, hq92.2, fun _ => by rw [zw_fl0 h75, show (nI 2 : Int32) = 2 from rfl, zw_nx1 (by rw [hc2]; decide), hR0, hst]; exact ⟨hc2, rfl⟩, fun z => by rw [hR0] at z; exact absurd z (by decide)⟩
        · skip
          have hkd : (zt_adv T (K, D)).1.2.1 = 4 := by by_cases z : (zt_adv T (K, D)).1.2.1 = 4; exact z; exact absurd (by rw [zw_nx0 hc0]; show zw_cd (0, (zt_adv T (K, D)).1) ≤ 0; rw [zw_cd_z z]; decide) h62
          refine gw_vretP dz_M_readLine_65 rfl ?_
          · have hk4 := zw_line_k4 hnm hne hkd hz0 hz4; exact ⟨hq55.1.p.ff, _, hq55.2, fun _ => by rw [zw_nx0 hc0, hk4.1, hk4.2]; exact ⟨zw_cd_k hkd, rfl⟩, fun z => by rw [hk4.1] at z; exact absurd z (by decide)⟩
      · skip
        have hm4 : nm = 4 := (nI_eq (b := 4) (by omega) (by omega)).mp h38
        refine gq_aload_n dz_M_readLine_41 rfl ?_
        refine gq_getI zf_M_125 rfl rfl dz_M_readLine_42 ?_
        rw [h9]
        refine gq_iconst (v := 5) dz_M_readLine_45 rfl ?_
        refine gq_icmp_ne (tgt := 54) dz_M_readLine_46 rfl (fun h46 => ?_) (fun h46 => ?_)
        · skip
          have hnf : ¬ za_m D.1 = 5 := fun z => h46 (by rw [z]; rfl)
          have hz0 : nm = 0 → za_n D.1 < 6 := fun z => absurd z hm0
          have hz4 : nm = 4 → za_m D.1 < 5 := fun _ => by omega
          refine gq_aload_n dz_M_readLine_54 rfl ?_
          refine gq_cVX (sp_M_step hT hw hr) zw_M_step zl_M_107 dz_M_readLine_55 rfl rfl rfl (by decide) rfl rfl (Nat.le_of_ble_eq_true rfl) (fun τ55 hq55 => ?_)
          refine gq_aload_n dz_M_readLine_58 rfl ?_
          refine gq_getI zf_M_73 rfl rfl dz_M_readLine_59 ?_
          rw [hq55.2.2.2.1]
          refine gq_if_le (tgt := 66) dz_M_readLine_62 rfl (fun h62 => ?_) (fun h62 => ?_)
          · skip
            have hkd : ¬ (zt_adv T (K, D)).1.2.1 = 4 := fun z => absurd h62 (by rw [zw_nx0 hc0]; show ¬ zw_cd (0, (zt_adv T (K, D)).1) ≤ 0; rw [zw_cd_k z]; decide)
            have hr1 : zw_r τ55 T (0, (zt_adv T (K, D)).1) := by have := hq55.2; rw [zw_nx0 hc0] at this; exact this
            have hcd1 := zw_cd_z hkd
            refine gq_aload_n dz_M_readLine_66 rfl ?_
            refine gq_iload_n dz_M_readLine_67 rfl ?_
            refine gq_cVX (sp_M_readMore (hT.fs hq55.1) hw (P := (K, D)) hnm hne hr1 hcd1 (hD.fs hq55.1) hz0 hz4) zw_M_readMore zl_M_145 dz_M_readLine_68 rfl rfl rfl (by decide) rfl rfl (Nat.le_of_ble_eq_true rfl) (fun τ68 hq68 => ?_)
            obtain ⟨hF68, r2, D2, hR2, hdd2, hpre1, hpre2⟩ := hq68
            have hFF := hq55.1.p.ff.tr hF68
            obtain ⟨k2, hk21, hk22, hk23, hk24⟩ := hR2.2.2.2.2.2.2.1
            refine gq_aload_n dz_M_readLine_71 rfl ?_
            refine gq_getI zf_M_73 rfl rfl dz_M_readLine_72 ?_
            rw [hR2.2.2.1]
            refine gq_if_ne (tgt := 91) dz_M_readLine_75 rfl (fun h75 => ?_) (fun h75 => ?_)
            · skip
              refine gq_aload_n dz_M_readLine_91 rfl ?_
              refine gq_cVX (sp_M_step (hT.ff hFF) hw hR2) zw_M_step zl_M_107 dz_M_readLine_92 rfl rfl rfl (by decide) rfl rfl (Nat.le_of_ble_eq_true rfl) (fun τ92 hq92 => ?_)
              refine gw_vretP dz_M_readLine_95 rfl ?_
              · exact ⟨hFF.tr hq92.1.p.ff, _, hq92.2, fun _ => by rw [zw_nx1 h75]; exact ⟨(hpre1 h75).1.symm, (hpre1 h75).2.symm⟩, fun z => absurd ((hpre1 h75).1.symm.trans z) h75⟩
            · skip
              refine gq_aload_n dz_M_readLine_78 rfl ?_
              refine gq_getI zf_M_82 rfl rfl dz_M_readLine_79 ?_
              rw [hk22]
              refine gq_iconst (v := 3) dz_M_readLine_82 rfl ?_
              refine gq_icmp_eq (tgt := 91) dz_M_readLine_83 rfl (fun h83 => ?_) (fun h83 => ?_)
              · skip
                have hk3 : r2.2.2.1 = 3 := by rw [← hk23 (zw_cd0 h75).2]; exact (nI_eq (b := 3) (by omega) (by omega)).mp h83
                refine gq_aload_n dz_M_readLine_91 rfl ?_
                refine gq_cVX (sp_M_step (hT.ff hFF) hw hR2) zw_M_step zl_M_107 dz_M_readLine_92 rfl rfl rfl (by decide) rfl rfl (Nat.le_of_ble_eq_true rfl) (fun τ92 hq92 => ?_)
                refine gw_vretP dz_M_readLine_95 rfl ?_
                · have hst := hpre2 h75; have hR0 : (zt_line T (K, D)).1 = 0 := (by rw [hst]; exact if_pos hk3); exact ⟨hFF.tr hq92.1.p.ff, _, hq92.2, fun z => absurd hR0 z, fun _ => by rw [zw_nx0 h75, hst]; exact ⟨rfl, (hdd2 h75).fs hq92.1⟩⟩
              · skip
                have hk3 : ¬ r2.2.2.1 = 3 := fun z => h83 (by rw [hk23 (zw_cd0 h75).2, z]; rfl)
                refine gq_aload_n dz_M_readLine_86 rfl ?_
                refine gq_iconst (v := 2) dz_M_readLine_87 rfl ?_
                refine gq_cVX (sp_M_fails 2) zw_M_fails zl_M_103 dz_M_readLine_88 rfl rfl rfl (by decide) rfl rfl (Nat.le_of_ble_eq_true rfl) (fun τ88 hq88 => ?_)
                have hf88 := hR2.fl (n := 2) (by omega) (by omega) hq88
                refine gq_aload_n dz_M_readLine_91 rfl ?_
                refine gq_cVX (sp_M_step (hT.ff (hFF.tr hf88.1.p.ff)) hw hf88.2) zw_M_step zl_M_107 dz_M_readLine_92 rfl rfl rfl (by decide) rfl rfl (Nat.le_of_ble_eq_true rfl) (fun τ92 hq92 => ?_)
                refine gw_vretP dz_M_readLine_95 rfl ?_
                · have hst := hpre2 h75; have hc2 : zw_cd (2, r2.2) = 2 := zw_cde (by decide); have hR0 : (zt_line T (K, D)).1 = 2 := (by rw [hst]; exact (if_neg hk3).trans (zt_mf2 (zw_cd0 h75).2)); exact ⟨(hFF.tr hf88.1.p.ff).tr hq92.1.p.ff, _, hq92.2, fun _ => by rw [zw_fl0 h75, show (nI 2 : Int32) = 2 from rfl, zw_nx1 (by rw [hc2]; decide), hR0, hst]; exact ⟨hc2, rfl⟩, fun z => by rw [hR0] at z; exact absurd z (by decide)⟩
          · skip
            have hkd : (zt_adv T (K, D)).1.2.1 = 4 := by by_cases z : (zt_adv T (K, D)).1.2.1 = 4; exact z; exact absurd (by rw [zw_nx0 hc0]; show zw_cd (0, (zt_adv T (K, D)).1) ≤ 0; rw [zw_cd_z z]; decide) h62
            refine gw_vretP dz_M_readLine_65 rfl ?_
            · have hk4 := zw_line_k4 hnm hne hkd hz0 hz4; exact ⟨hq55.1.p.ff, _, hq55.2, fun _ => by rw [zw_nx0 hc0, hk4.1, hk4.2]; exact ⟨zw_cd_k hkd, rfl⟩, fun z => by rw [hk4.1] at z; exact absurd z (by decide)⟩
        · skip
          have hfull : za_m D.1 = 5 := (nI_eq (b := 5) (by omega) (by omega)).mp h46
          have hR5 : zt_line T (K, D) = (5, (K, D)) := by rw [zw_line4 (by rw [← hm4]; exact hne), zt_rule, if_pos (show ¬ za_m D.1 < 5 by omega)]
          refine gq_aload_n dz_M_readLine_49 rfl ?_
          refine gq_iconst (v := 5) dz_M_readLine_50 rfl ?_
          refine gq_cVX (sp_M_fails 5) zw_M_fails zl_M_103 dz_M_readLine_51 rfl rfl rfl (by decide) rfl rfl (Nat.le_of_ble_eq_true rfl) (fun τ51 hq51 => ?_)
          have hf51 := hr.fl (n := 5) (by omega) (by omega) hq51
          refine gq_aload_n dz_M_readLine_54 rfl ?_
          refine gq_cVX (sp_M_step (hT.fs hf51.1) hw hf51.2) zw_M_step zl_M_107 dz_M_readLine_55 rfl rfl rfl (by decide) rfl rfl (Nat.le_of_ble_eq_true rfl) (fun τ55 hq55 => ?_)
          refine gq_aload_n dz_M_readLine_58 rfl ?_
          refine gq_getI zf_M_73 rfl rfl dz_M_readLine_59 ?_
          rw [hq55.2.2.2.1]
          refine gq_if_le (tgt := 66) dz_M_readLine_62 rfl (fun h62 => ?_) (fun h62 => ?_)
          · skip
            exact absurd h62 (by rw [zw_fl0 hc0, zw_nx1 (by rw [zw_cde (by decide)]; decide), zw_cde (by decide)]; decide)
          · skip
            refine gw_vretP dz_M_readLine_65 rfl ?_
            · exact ⟨(hf51.1.tr hq55.1).p.ff, _, hq55.2, fun _ => by rw [zw_nx1 (by rw [zw_fl0 hc0, zw_cde (by decide)]; decide), zw_fl0 hc0, hR5]; exact ⟨zw_cde zw_50, rfl⟩, fun z => by rw [hR5] at z; exact absurd z zw_50⟩
    · skip
      have hm0 : nm = 0 := (nI_eq (b := 0) (by omega) (by omega)).mp h24
      refine gq_aload_n dz_M_readLine_27 rfl ?_
      refine gq_getI zf_M_134 rfl rfl dz_M_readLine_28 ?_
      rw [h8]
      refine gq_bipush (v := 6) dz_M_readLine_31 rfl ?_
      refine gq_icmp_eq (tgt := 49) dz_M_readLine_33 rfl (fun h33 => ?_) (fun h33 => ?_)
      · skip
        have hfull : za_n D.1 = 6 := (nI_eq (b := 6) (by omega) (by omega)).mp h33
        have hR5 : zt_line T (K, D) = (5, (K, D)) := by rw [zw_line0 (by rw [← hm0]; exact hne), zt_one, if_pos (show ¬ za_n D.1 < 6 by omega)]
        refine gq_aload_n dz_M_readLine_49 rfl ?_
        refine gq_iconst (v := 5) dz_M_readLine_50 rfl ?_
        refine gq_cVX (sp_M_fails 5) zw_M_fails zl_M_103 dz_M_readLine_51 rfl rfl rfl (by decide) rfl rfl (Nat.le_of_ble_eq_true rfl) (fun τ51 hq51 => ?_)
        have hf51 := hr.fl (n := 5) (by omega) (by omega) hq51
        refine gq_aload_n dz_M_readLine_54 rfl ?_
        refine gq_cVX (sp_M_step (hT.fs hf51.1) hw hf51.2) zw_M_step zl_M_107 dz_M_readLine_55 rfl rfl rfl (by decide) rfl rfl (Nat.le_of_ble_eq_true rfl) (fun τ55 hq55 => ?_)
        refine gq_aload_n dz_M_readLine_58 rfl ?_
        refine gq_getI zf_M_73 rfl rfl dz_M_readLine_59 ?_
        rw [hq55.2.2.2.1]
        refine gq_if_le (tgt := 66) dz_M_readLine_62 rfl (fun h62 => ?_) (fun h62 => ?_)
        · skip
          exact absurd h62 (by rw [zw_fl0 hc0, zw_nx1 (by rw [zw_cde (by decide)]; decide), zw_cde (by decide)]; decide)
        · skip
          refine gw_vretP dz_M_readLine_65 rfl ?_
          · exact ⟨(hf51.1.tr hq55.1).p.ff, _, hq55.2, fun _ => by rw [zw_nx1 (by rw [zw_fl0 hc0, zw_cde (by decide)]; decide), zw_fl0 hc0, hR5]; exact ⟨zw_cde zw_50, rfl⟩, fun z => by rw [hR5] at z; exact absurd z zw_50⟩
      · skip
        have hnf : ¬ za_n D.1 = 6 := fun z => h33 (by rw [z]; rfl)
        have hnf : za_n D.1 < 6 := by omega
        refine gq_iload_n dz_M_readLine_36 rfl ?_
        refine gq_iconst (v := 4) dz_M_readLine_37 rfl ?_
        refine gq_icmp_ne (tgt := 54) dz_M_readLine_38 rfl (fun h38 => ?_) (fun h38 => ?_)
        · skip
          have hz0 : nm = 0 → za_n D.1 < 6 := fun _ => hnf
          have hz4 : nm = 4 → za_m D.1 < 5 := fun z => by omega
          refine gq_aload_n dz_M_readLine_54 rfl ?_
          refine gq_cVX (sp_M_step hT hw hr) zw_M_step zl_M_107 dz_M_readLine_55 rfl rfl rfl (by decide) rfl rfl (Nat.le_of_ble_eq_true rfl) (fun τ55 hq55 => ?_)
          refine gq_aload_n dz_M_readLine_58 rfl ?_
          refine gq_getI zf_M_73 rfl rfl dz_M_readLine_59 ?_
          rw [hq55.2.2.2.1]
          refine gq_if_le (tgt := 66) dz_M_readLine_62 rfl (fun h62 => ?_) (fun h62 => ?_)
          · skip
            have hkd : ¬ (zt_adv T (K, D)).1.2.1 = 4 := fun z => absurd h62 (by rw [zw_nx0 hc0]; show ¬ zw_cd (0, (zt_adv T (K, D)).1) ≤ 0; rw [zw_cd_k z]; decide)
            have hr1 : zw_r τ55 T (0, (zt_adv T (K, D)).1) := by have := hq55.2; rw [zw_nx0 hc0] at this; exact this
            have hcd1 := zw_cd_z hkd
            refine gq_aload_n dz_M_readLine_66 rfl ?_
            refine gq_iload_n dz_M_readLine_67 rfl ?_
            refine gq_cVX (sp_M_readMore (hT.fs hq55.1) hw (P := (K, D)) hnm hne hr1 hcd1 (hD.fs hq55.1) hz0 hz4) zw_M_readMore zl_M_145 dz_M_readLine_68 rfl rfl rfl (by decide) rfl rfl (Nat.le_of_ble_eq_true rfl) (fun τ68 hq68 => ?_)
            obtain ⟨hF68, r2, D2, hR2, hdd2, hpre1, hpre2⟩ := hq68
            have hFF := hq55.1.p.ff.tr hF68
            obtain ⟨k2, hk21, hk22, hk23, hk24⟩ := hR2.2.2.2.2.2.2.1
            refine gq_aload_n dz_M_readLine_71 rfl ?_
            refine gq_getI zf_M_73 rfl rfl dz_M_readLine_72 ?_
            rw [hR2.2.2.1]
            refine gq_if_ne (tgt := 91) dz_M_readLine_75 rfl (fun h75 => ?_) (fun h75 => ?_)
            · skip
              refine gq_aload_n dz_M_readLine_91 rfl ?_
              refine gq_cVX (sp_M_step (hT.ff hFF) hw hR2) zw_M_step zl_M_107 dz_M_readLine_92 rfl rfl rfl (by decide) rfl rfl (Nat.le_of_ble_eq_true rfl) (fun τ92 hq92 => ?_)
              refine gw_vretP dz_M_readLine_95 rfl ?_
              · exact ⟨hFF.tr hq92.1.p.ff, _, hq92.2, fun _ => by rw [zw_nx1 h75]; exact ⟨(hpre1 h75).1.symm, (hpre1 h75).2.symm⟩, fun z => absurd ((hpre1 h75).1.symm.trans z) h75⟩
            · skip
              refine gq_aload_n dz_M_readLine_78 rfl ?_
              refine gq_getI zf_M_82 rfl rfl dz_M_readLine_79 ?_
              rw [hk22]
              refine gq_iconst (v := 3) dz_M_readLine_82 rfl ?_
              refine gq_icmp_eq (tgt := 91) dz_M_readLine_83 rfl (fun h83 => ?_) (fun h83 => ?_)
              · skip
                have hk3 : r2.2.2.1 = 3 := by rw [← hk23 (zw_cd0 h75).2]; exact (nI_eq (b := 3) (by omega) (by omega)).mp h83
                refine gq_aload_n dz_M_readLine_91 rfl ?_
                refine gq_cVX (sp_M_step (hT.ff hFF) hw hR2) zw_M_step zl_M_107 dz_M_readLine_92 rfl rfl rfl (by decide) rfl rfl (Nat.le_of_ble_eq_true rfl) (fun τ92 hq92 => ?_)
                refine gw_vretP dz_M_readLine_95 rfl ?_
                · have hst := hpre2 h75; have hR0 : (zt_line T (K, D)).1 = 0 := (by rw [hst]; exact if_pos hk3); exact ⟨hFF.tr hq92.1.p.ff, _, hq92.2, fun z => absurd hR0 z, fun _ => by rw [zw_nx0 h75, hst]; exact ⟨rfl, (hdd2 h75).fs hq92.1⟩⟩
              · skip
                have hk3 : ¬ r2.2.2.1 = 3 := fun z => h83 (by rw [hk23 (zw_cd0 h75).2, z]; rfl)
                refine gq_aload_n dz_M_readLine_86 rfl ?_
                refine gq_iconst (v := 2) dz_M_readLine_87 rfl ?_
                refine gq_cVX (sp_M_fails 2) zw_M_fails zl_M_103 dz_M_readLine_88 rfl rfl rfl (by decide) rfl rfl (Nat.le_of_ble_eq_true rfl) (fun τ88 hq88 => ?_)
                have hf88 := hR2.fl (n := 2) (by omega) (by omega) hq88
                refine gq_aload_n dz_M_readLine_91 rfl ?_
                refine gq_cVX (sp_M_step (hT.ff (hFF.tr hf88.1.p.ff)) hw hf88.2) zw_M_step zl_M_107 dz_M_readLine_92 rfl rfl rfl (by decide) rfl rfl (Nat.le_of_ble_eq_true rfl) (fun τ92 hq92 => ?_)
                refine gw_vretP dz_M_readLine_95 rfl ?_
                · have hst := hpre2 h75; have hc2 : zw_cd (2, r2.2) = 2 := zw_cde (by decide); have hR0 : (zt_line T (K, D)).1 = 2 := (by rw [hst]; exact (if_neg hk3).trans (zt_mf2 (zw_cd0 h75).2)); exact ⟨(hFF.tr hf88.1.p.ff).tr hq92.1.p.ff, _, hq92.2, fun _ => by rw [zw_fl0 h75, show (nI 2 : Int32) = 2 from rfl, zw_nx1 (by rw [hc2]; decide), hR0, hst]; exact ⟨hc2, rfl⟩, fun z => by rw [hR0] at z; exact absurd z (by decide)⟩
          · skip
            have hkd : (zt_adv T (K, D)).1.2.1 = 4 := by by_cases z : (zt_adv T (K, D)).1.2.1 = 4; exact z; exact absurd (by rw [zw_nx0 hc0]; show zw_cd (0, (zt_adv T (K, D)).1) ≤ 0; rw [zw_cd_z z]; decide) h62
            refine gw_vretP dz_M_readLine_65 rfl ?_
            · have hk4 := zw_line_k4 hnm hne hkd hz0 hz4; exact ⟨hq55.1.p.ff, _, hq55.2, fun _ => by rw [zw_nx0 hc0, hk4.1, hk4.2]; exact ⟨zw_cd_k hkd, rfl⟩, fun z => by rw [hk4.1] at z; exact absurd z (by decide)⟩
        · skip
          exact absurd ((nI_eq (b := 4) (by omega) (by omega)).mp h38) (by omega)
  · skip
    rw [zn_inc (n := 5) rfl (by omega)] at h14
    refine gq_aload_n dz_M_readLine_17 rfl ?_
    refine gq_iconst (v := 2) dz_M_readLine_18 rfl ?_
    refine gq_cVX (sp_M_fails 2) zw_M_fails zl_M_103 dz_M_readLine_19 rfl rfl rfl (by decide) rfl rfl (Nat.le_of_ble_eq_true rfl) (fun τ19 hq19 => ?_)
    refine gw_vretP dz_M_readLine_22 rfl ?_
    · have hf := hr.fl (n := 2) (by omega) (by omega) hq19; have hR0 := zw_line_no (P := (K, D)) h14; exact ⟨hf.1.p.ff, _, hf.2, fun _ => by rw [zw_fl0 hc0, hR0]; exact ⟨(zw_cde (by decide)).trans (zt_mf2 hkk).symm, rfl⟩, fun z => by rw [hR0] at z; exact absurd z zt_mf0⟩
set_option maxHeartbeats 4000000 in
theorem sp_M_areAlike {σ : zq_T} {A : za_D} (hD : zw_d σ A) : zq_Sp zm_M_areAlike 0 [zq_O 30 0] σ (zq_rv (zq_I (zb_v (zs_eqr A))) σ) := by
  have hm5 := hD.1.2.1
  refine zq_sp [some (zq_O 30 0), none, none, none] (by decide +kernel) rfl (Nat.le_of_ble_eq_true rfl) (fun ν => ?_)
  refine gq_iconst (v := 0) dz_M_areAlike_0 rfl ?_
  refine gw_istore_n 1 dz_M_areAlike_1 rfl (Nat.le_of_ble_eq_true rfl) rfl ?_
  dsimp only [List.set]
  refine gq_iconst (v := 0) dz_M_areAlike_2 rfl ?_
  refine gw_istore_n 2 dz_M_areAlike_3 rfl (Nat.le_of_ble_eq_true rfl) rfl ?_
  dsimp only [List.set]
  have L4 : ∀ (kf : Nat) (a : Nat) (c : Bool) (hkf : za_m A - a < kf) (ha : a ≤ za_m A) (hc : c = true ↔ ∃ a2 b2, a2 < a ∧ a2 < b2 ∧ b2 < za_m A ∧ zw_pr A a2 b2), zq_G ν zm_M_areAlike 0 (zq_rv (zq_I (zb_v (zs_eqr A))) σ) 4 [some (zq_O 30 0), some (zq_I (zb_v c)), some (zq_I (nI a)), none] [] σ := by
    intro kf
    induction kf with
    | zero => intro a c hkf ha hc; exact absurd hkf (Nat.not_lt_zero _)
    | succ kf ih4 =>
      intro a c hkf ha hc
      refine gq_iload_n dz_M_areAlike_4 rfl ?_
      refine gq_aload_n dz_M_areAlike_5 rfl ?_
      refine gq_getI zf_M_125 rfl rfl dz_M_areAlike_6 ?_
      rw [hD.1.2.2.2]
      refine gq_icmp_ge (tgt := 86) dz_M_areAlike_9 rfl (fun h9 => ?_) (fun h9 => ?_)
      · skip
        have ha2 : a = za_m A := zq_leq h9 ha (by omega)
        refine gq_iload_n dz_M_areAlike_86 rfl ?_
        refine gw_iret .boolean dz_M_areAlike_87 rfl (by first | rfl | exact zb_nar _ | exact pk_nc _) ?_ ?_
        · rw [← zw_eqr (A := A) (c := c) (by rw [hc, ha2])]
        · rfl
      · skip
        have ha2 : a < za_m A := by rcases Nat.lt_or_ge a (za_m A) with z | z; exact z; exact absurd (nI_le z (by omega)) h9
        refine gq_iload_n dz_M_areAlike_12 rfl ?_
        refine gq_iconst (v := 1) dz_M_areAlike_13 rfl ?_
        refine gq_iadd dz_M_areAlike_14 ?_
        rw [nI_1]
        refine gw_istore_n 3 dz_M_areAlike_15 rfl (Nat.le_of_ble_eq_true rfl) rfl ?_
        dsimp only [List.set]
        have L16 : ∀ (kf : Nat) (b : Nat) (e : Bool) (hkf : za_m A - b < kf) (hab : a < b) (hb : b ≤ za_m A) (he : e = true ↔ (∃ a2 b2, a2 < a ∧ a2 < b2 ∧ b2 < za_m A ∧ zw_pr A a2 b2) ∨ ∃ b2, a < b2 ∧ b2 < b ∧ zw_pr A a b2), zq_G ν zm_M_areAlike 0 (zq_rv (zq_I (zb_v (zs_eqr A))) σ) 16 [some (zq_O 30 0), some (zq_I (zb_v e)), some (zq_I (nI a)), some (zq_I (nI b))] [] σ := by
          intro kf
          induction kf with
          | zero => intro b e hkf hab hb he; exact absurd hkf (Nat.not_lt_zero _)
          | succ kf ih16 =>
            intro b e hkf hab hb he
            refine gq_iload_n dz_M_areAlike_16 rfl ?_
            refine gq_aload_n dz_M_areAlike_17 rfl ?_
            refine gq_getI zf_M_125 rfl rfl dz_M_areAlike_18 ?_
            rw [hD.1.2.2.2]
            refine gq_icmp_ge (tgt := 80) dz_M_areAlike_21 rfl (fun h21 => ?_) (fun h21 => ?_)
            · skip
              have hb2 : b = za_m A := zq_leq h21 hb (by omega)
              refine gw_iinc 2 (c := 1) dz_M_areAlike_80 rfl rfl (Nat.le_of_ble_eq_true rfl) rfl ?_
              dsimp only [List.set]
              refine gq_goto (tgt := 4) dz_M_areAlike_83 rfl ?_
              simp only [nI_1]
              exact zq_fewer _ (zq_sub_spec (by repeat (first | exact trivial | exact rfl | refine And.intro ?_ ?_))) (ih4 (a + 1) e (by clear hc he; omega) (by clear hc he; omega) (he.trans ⟨fun z => by rcases z with ⟨x, y, z1, z2, z3, z4⟩ | ⟨y, z1, z2, z3⟩; exact ⟨x, y, by omega, z2, z3, z4⟩; exact ⟨a, y, by omega, z1, by omega, z3⟩, fun ⟨x, y, z1, z2, z3, z4⟩ => by rcases Nat.lt_or_ge x a with w | w; exact Or.inl ⟨x, y, w, z2, z3, z4⟩; have hxa : x = a := (by omega); subst hxa; exact Or.inr ⟨y, z2, by omega, z4⟩⟩))
            · skip
              have hb2 : b < za_m A := by rcases Nat.lt_or_ge b (za_m A) with z | z; exact z; exact absurd (nI_le z (by omega)) h21
              refine gq_iload_n dz_M_areAlike_24 rfl ?_
              refine gw_ifb_ne (tgt := 68) dz_M_areAlike_25 rfl (fun h25 => ?_) (fun h25 => ?_)
              · skip
                refine gq_iconst (v := 1) dz_M_areAlike_68 rfl ?_
                refine gq_goto (tgt := 73) dz_M_areAlike_69 rfl ?_
                refine gw_istore_n 1 dz_M_areAlike_73 rfl (Nat.le_of_ble_eq_true rfl) rfl ?_
                dsimp only [List.set]
                refine gw_iinc 3 (c := 1) dz_M_areAlike_74 rfl rfl (Nat.le_of_ble_eq_true rfl) rfl ?_
                dsimp only [List.set]
                refine gq_goto (tgt := 16) dz_M_areAlike_77 rfl ?_
                simp only [nI_1]
                exact zq_fewer _ (zq_sub_spec (by repeat (first | exact trivial | exact rfl | refine And.intro ?_ ?_))) (ih16 (b + 1) true (by omega) (by omega) (by omega) ⟨fun _ => by rcases he.mp h25 with z | ⟨y, z1, z2, z3⟩; exact Or.inl z; exact Or.inr ⟨y, z1, by omega, z3⟩, fun _ => rfl⟩)
              · skip
                refine gq_aload_n dz_M_areAlike_28 rfl ?_
                refine gq_getR 36 zf_M_25 rfl rfl dz_M_areAlike_29 ?_
                refine gq_iconst (v := 3) dz_M_areAlike_32 rfl ?_
                refine gq_iload_n dz_M_areAlike_33 rfl ?_
                refine gq_imul dz_M_areAlike_34 ?_
                rw [zn_k0]
                refine gw_iald (3 * a) (rfl) rfl (rfl) (Nat.le_of_ble_eq_true rfl) (by omega) dz_M_areAlike_35 ?_
                rw [(hD.2.2.2 a (by omega)).1]
                refine gq_aload_n dz_M_areAlike_36 rfl ?_
                refine gq_getR 36 zf_M_25 rfl rfl dz_M_areAlike_37 ?_
                refine gq_iconst (v := 3) dz_M_areAlike_40 rfl ?_
                refine gq_iload_n dz_M_areAlike_41 rfl ?_
                refine gq_imul dz_M_areAlike_42 ?_
                rw [zn_k0]
                refine gw_iald (3 * b) (rfl) rfl (rfl) (Nat.le_of_ble_eq_true rfl) (by omega) dz_M_areAlike_43 ?_
                rw [(hD.2.2.2 b (by omega)).1]
                refine gq_icmp_ne (tgt := 72) dz_M_areAlike_44 rfl (fun h44 => ?_) (fun h44 => ?_)
                · skip
                  refine gq_iconst (v := 0) dz_M_areAlike_72 rfl ?_
                  refine gw_istore_n 1 dz_M_areAlike_73 rfl (Nat.le_of_ble_eq_true rfl) rfl ?_
                  dsimp only [List.set]
                  refine gw_iinc 3 (c := 1) dz_M_areAlike_74 rfl rfl (Nat.le_of_ble_eq_true rfl) rfl ?_
                  dsimp only [List.set]
                  refine gq_goto (tgt := 16) dz_M_areAlike_77 rfl ?_
                  simp only [nI_1]
                  exact zq_fewer _ (zq_sub_spec (by repeat (first | exact trivial | exact rfl | refine And.intro ?_ ?_))) (ih16 (b + 1) false (by omega) (by omega) (by omega) ⟨fun z => Bool.noConfusion z, fun z => by rcases z with z | ⟨y, z1, z2, z3⟩; exact absurd (he.mpr (Or.inl z)) (by rw [h25]; exact Bool.false_ne_true); rcases Nat.lt_or_ge y b with w | w; exact absurd (he.mpr (Or.inr ⟨y, z1, w, z3⟩)) (by rw [h25]; exact Bool.false_ne_true); have hyb : y = b := (by omega); subst hyb; exact absurd z3.1 h44⟩)
                · skip
                  refine gq_aload_n dz_M_areAlike_47 rfl ?_
                  refine gq_getR 34 zf_M_19 rfl rfl dz_M_areAlike_48 ?_
                  refine gq_bipush (v := 18) dz_M_areAlike_51 rfl ?_
                  refine gq_iload_n dz_M_areAlike_53 rfl ?_
                  refine gq_iadd dz_M_areAlike_54 ?_
                  rw [show (18 : Int32) = nI 18 from rfl, nI_add]
                  refine gw_iald (18 + a) (rfl) rfl (rfl) (Nat.le_of_ble_eq_true rfl) (by omega) dz_M_areAlike_55 ?_
                  rw [(hD.2.1.2.2.2 a (by omega)).1]
                  refine gq_aload_n dz_M_areAlike_56 rfl ?_
                  refine gq_getR 34 zf_M_19 rfl rfl dz_M_areAlike_57 ?_
                  refine gq_bipush (v := 18) dz_M_areAlike_60 rfl ?_
                  refine gq_iload_n dz_M_areAlike_62 rfl ?_
                  refine gq_iadd dz_M_areAlike_63 ?_
                  rw [show (18 : Int32) = nI 18 from rfl, nI_add]
                  refine gw_iald (18 + b) (rfl) rfl (rfl) (Nat.le_of_ble_eq_true rfl) (by omega) dz_M_areAlike_64 ?_
                  rw [(hD.2.1.2.2.2 b (by omega)).1]
                  refine gq_icmp_ne (tgt := 72) dz_M_areAlike_65 rfl (fun h65 => ?_) (fun h65 => ?_)
                  · skip
                    refine gq_iconst (v := 0) dz_M_areAlike_72 rfl ?_
                    refine gw_istore_n 1 dz_M_areAlike_73 rfl (Nat.le_of_ble_eq_true rfl) rfl ?_
                    dsimp only [List.set]
                    refine gw_iinc 3 (c := 1) dz_M_areAlike_74 rfl rfl (Nat.le_of_ble_eq_true rfl) rfl ?_
                    dsimp only [List.set]
                    refine gq_goto (tgt := 16) dz_M_areAlike_77 rfl ?_
                    simp only [nI_1]
                    exact zq_fewer _ (zq_sub_spec (by repeat (first | exact trivial | exact rfl | refine And.intro ?_ ?_))) (ih16 (b + 1) false (by omega) (by omega) (by omega) ⟨fun z => Bool.noConfusion z, fun z => by rcases z with z | ⟨y, z1, z2, z3⟩; exact absurd (he.mpr (Or.inl z)) (by rw [h25]; exact Bool.false_ne_true); rcases Nat.lt_or_ge y b with w | w; exact absurd (he.mpr (Or.inr ⟨y, z1, w, z3⟩)) (by rw [h25]; exact Bool.false_ne_true); have hyb : y = b := (by omega); subst hyb; exact absurd z3.2 h65⟩)
                  · skip
                    refine gq_iconst (v := 1) dz_M_areAlike_68 rfl ?_
                    refine gq_goto (tgt := 73) dz_M_areAlike_69 rfl ?_
                    refine gw_istore_n 1 dz_M_areAlike_73 rfl (Nat.le_of_ble_eq_true rfl) rfl ?_
                    dsimp only [List.set]
                    refine gw_iinc 3 (c := 1) dz_M_areAlike_74 rfl rfl (Nat.le_of_ble_eq_true rfl) rfl ?_
                    dsimp only [List.set]
                    refine gq_goto (tgt := 16) dz_M_areAlike_77 rfl ?_
                    simp only [nI_1]
                    exact zq_fewer _ (zq_sub_spec (by repeat (first | exact trivial | exact rfl | refine And.intro ?_ ?_))) (ih16 (b + 1) true (by omega) (by omega) (by omega) ⟨fun _ => Or.inr ⟨b, hab, by omega, h44, h65⟩, fun _ => rfl⟩)
        exact zq_fewer _ (zq_sub_spec (by repeat (first | exact trivial | exact rfl | refine And.intro ?_ ?_))) (L16 (za_m A + 1) (a + 1) c (by omega) (by omega) (by omega) (hc.trans ⟨fun z => Or.inl z, fun z => by rcases z with z | ⟨y, z1, z2, _⟩; exact z; omega⟩))
  exact zq_fewer _ (zq_sub_spec (by repeat (first | exact trivial | exact rfl | refine And.intro ?_ ?_))) (L4 (za_m A + 1) 0 false (by omega) (by omega) ⟨fun z => Bool.noConfusion z, fun ⟨_, _, z, _⟩ => absurd z (Nat.not_lt_zero _)⟩)
