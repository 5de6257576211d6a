/-! THE TEXT TAKEN OR NOT -/
def zx_text (X : za_X) : za_tR := zt_tell (zx_T X)
def zx_textR (X : za_X) : Int32 := if (zx_text X).1 = 0 then nI (zx_text X).2.1 else -10 - nI (zx_text X).2.2.1
def zx_textX (X : za_X) : za_X := if (zx_text X).1 = 0 then ((zx_text X).2.2.2, X.2.1, (0, (zx_T X).2), (0, (zx_f X).2), (0, (zx_s X).2), (false, (zx_I X).2), (false, (zx_J X).2)) else (X.1, X.2.1, (0, (zx_T X).2), ((zx_text X).1, (zx_f X).2), X.2.2.2.2)
theorem zt_fr.S {d : Fin 5} {σ τ : zq_T} (h : zt_fr d σ τ) : zg_S σ τ := ⟨by rw [h.1], fun t j k q => h.2 t j k (by omega) (by omega) (by omega)⟩
theorem zs_rep.tbad {σ : zq_T} {f : Nat → Fin 5 → Nat → Int32} {X : za_X} (h : zs_rep σ X) (hF : zt_fr σ.2.2.2 σ (f, σ.2)) (e : Int32) : zs_rep (zu (zu (f, σ.2) 0 0 11 e) 1 0 1 0) (X.1, X.2.1, (0, (zx_T X).2), (e, (zx_f X).2), X.2.2.2.2) := by
  obtain ⟨h1, h2, h3, h4, h5, h6, h7, h8, h9⟩ := h
  have k : ∀ (t : Nat) (j : Fin 5) (k : Nat), ¬ (t = 1 ∧ k = 1) → ¬ (t = 0 ∧ k = 11) → ¬ (t = 1 ∧ 2 ≤ k ∧ k ≤ 5) → ¬ t = 3 → ¬ (10 ≤ t ∧ t ≤ 20 ∧ j = σ.2.2.2) → (zu (zu (f, σ.2) 0 0 11 e) 1 0 1 0).1 t j k = σ.1 t j k := fun t j k q1 q2 q3 q4 q5 => by rw [zu_N q1, zu_N q2]; exact hF.2 t j k q3 q4 q5
  have n0 : ∀ j : Fin 5, j.val < 3 → ¬ j = σ.2.2.2 := fun j hj z => by have := h1.2.2; rw [← z] at this; omega
  refine ⟨h1, h2.keep fun t i q1 q2 => k t _ i (by omega) (by omega) (by omega) (by omega) (fun z => h1.1 z.2.2), h3.keep fun t j i q1 q2 => k t j i (by omega) (by omega) (by omega) (by omega) (by omega), ⟨zu_E, fun i hi => absurd hi (Nat.not_lt_zero i)⟩, ⟨(zu_N (by omega)).trans zu_E, (k 0 0 12 (by omega) (by omega) (by omega) (by omega) (by omega)).trans h5.2⟩, ⟨(k 0 0 13 (by omega) (by omega) (by omega) (by omega) (by omega)).trans h6.1, fun i hi => ⟨(k 22 0 i (by omega) (by omega) (by omega) (by omega) (by omega)).trans (h6.2 i hi).1, (k 23 0 i (by omega) (by omega) (by omega) (by omega) (by omega)).trans (h6.2 i hi).2⟩⟩, (k 0 0 14 (by omega) (by omega) (by omega) (by omega) (by omega)).trans h7, fun q => (h8 q).keep fun t i q1 q2 => k t 0 i (by omega) (by omega) (by omega) (by omega) (fun z => n0 0 (by decide) z.2.2), fun q => (h9 q).keep fun t i q1 q2 => k t 1 i (by omega) (by omega) (by omega) (by omega) (fun z => n0 1 (by decide) z.2.2)⟩
theorem zs_rep.tgood {σ : zq_T} {f : Nat → Fin 5 → Nat → Int32} {X : za_X} {A' : za_D} (h : zs_rep σ X) (hF : zt_fr σ.2.2.2 σ (f, σ.2)) (hA : zc_rep (f, σ.2) σ.2.2.2 A') : zs_rep (zu (zu ((zu (zu (f, σ.2) 0 0 11 0) 1 0 1 0).1, σ.2.1, σ.2.2.2, σ.2.2.1) 0 0 13 0) 0 0 14 0) (A', X.2.1, (0, (zx_T X).2), (0, (zx_f X).2), (0, (zx_s X).2), (false, (zx_I X).2), (false, (zx_J X).2)) := by
  obtain ⟨h1, h2, h3, h4, h5, h6, h7, h8, h9⟩ := h
  have k : ∀ (t : Nat) (j : Fin 5) (k : Nat), ¬ (t = 1 ∧ k = 1) → ¬ (t = 0 ∧ k = 11) → ¬ (t = 0 ∧ k = 13) → ¬ (t = 0 ∧ k = 14) → (zu (zu ((zu (zu (f, σ.2) 0 0 11 0) 1 0 1 0).1, σ.2.1, σ.2.2.2, σ.2.2.1) 0 0 13 0) 0 0 14 0).1 t j k = f t j k := fun t j k q1 q2 q3 q4 => by rw [zu_N q4, zu_N q3]; exact (zu_N q1).trans (zu_N q2)
  have v1 : (zu (zu (f, σ.2) 0 0 11 0) 1 0 1 0).1 1 0 1 = nI 0 := zu_E
  have v2 : (zu (zu (f, σ.2) 0 0 11 0) 1 0 1 0).1 0 0 11 = 0 := (zu_N (by omega)).trans zu_E
  refine ⟨⟨fun z => h1.1 z.symm, h1.2.2, h1.2.1⟩, hA.keep fun t i q1 q2 => k t _ i (by omega) (by omega) (by omega) (by omega), (zh_rep.keep (τ := (f, σ.2)) h3 fun t j i q1 q2 => hF.2 t j i (by omega) (by omega) (by omega)).keep fun t j i q1 q2 => k t j i (by omega) (by omega) (by omega) (by omega), ⟨(zu_N (by omega)).trans ((zu_N (by omega)).trans v1), fun i hi => absurd hi (Nat.not_lt_zero i)⟩, ⟨(zu_N (by omega)).trans ((zu_N (by omega)).trans v2), (k 0 0 12 (by omega) (by omega) (by omega) (by omega)).trans ((hF.2 0 0 12 (by omega) (by omega) (by omega)).trans h5.2)⟩, ⟨(zu_N (by omega)).trans zu_E, fun i hi => absurd hi (Nat.not_lt_zero i)⟩, zu_E, fun q => absurd q Bool.noConfusion, fun q => absurd q Bool.noConfusion⟩

set_option maxHeartbeats 4000000 in
theorem sp_S_text {σ : zq_T} {X : za_X} (hS : zs_rep σ X) (hW : zx_wf X) : zq_Sp zm_S_text 9 [zq_O 0 0] σ (zq_rw (zq_I (zx_textR X)) (fun τ => zs_rep τ (zx_textX X) ∧ zg_S σ τ)) := by
  have hT : zt_tp σ (zx_T X) := hS.2.2.2.1
  have hw : zt_wf (zx_T X) := hW.2.2.1
  refine zq_sp [some (zq_O 0 0), none, none] (by decide +kernel) rfl (Nat.le_of_ble_eq_true rfl) (fun ν => ?_)
  refine gq_aload_n dz_S_text_0 rfl ?_
  refine gq_getR 3 zf_S_19 rfl rfl dz_S_text_1 ?_
  refine gq_aload_n dz_S_text_4 rfl ?_
  refine gq_getR 1 zf_S_12 rfl rfl dz_S_text_5 ?_
  refine gq_aload_n dz_S_text_8 rfl ?_
  refine gq_getY zf_S_56 rfl rfl dz_S_text_9 ?_
  refine gq_cVP (sp_E_tell hw hT) zw_E_tell zl_S_67 dz_S_text_12 rfl rfl rfl (by decide) rfl rfl (Nat.le_of_ble_eq_true rfl) (fun τ12 hq12 => ?_)
  obtain ⟨f12, l12⟩ := τ12
  obtain rfl : l12 = σ.2 := hq12.1.1
  refine gw_istore_n 1 dz_S_text_15 rfl (Nat.le_of_ble_eq_true rfl) rfl ?_
  dsimp only [List.set]
  refine gq_aload_n dz_S_text_16 rfl ?_
  refine gq_aload_n dz_S_text_17 rfl ?_
  refine gq_getR 3 zf_S_19 rfl rfl dz_S_text_18 ?_
  refine gq_getI zf_S_71 rfl rfl dz_S_text_21 ?_
  rw [show ((f12, σ.2) : zq_T).1 3 0 0 = (zx_text X).1 from hq12.2.1]
  refine gq_putI zv_S_74 rfl rfl dz_S_text_24 ?_
  refine gq_aload_n dz_S_text_27 rfl ?_
  refine gq_getR 1 zf_S_12 rfl rfl dz_S_text_28 ?_
  refine gq_iconst (v := 0) dz_S_text_31 rfl ?_
  refine gq_putI zv_S_63 rfl rfl dz_S_text_32 ?_
  refine gq_aload_n dz_S_text_35 rfl ?_
  refine gq_getI zf_S_74 rfl rfl dz_S_text_36 ?_
  rw [zq_upN (by omega), zq_upE]
  refine gq_if_eq (tgt := 53) dz_S_text_39 rfl (fun h39 => ?_) (fun h39 => ?_)
  · skip
    have h39 : (zx_text X).1 = 0 := h39
    refine gq_aload_n dz_S_text_53 rfl ?_
    refine gq_getY zf_S_56 rfl rfl dz_S_text_54 ?_
    refine gw_astore_n 2 dz_S_text_57 rfl (Nat.le_of_ble_eq_true rfl) rfl ?_
    dsimp only [List.set]
    refine gq_aload_n dz_S_text_58 rfl ?_
    refine gq_aload_n dz_S_text_59 rfl ?_
    refine gq_getU zf_S_53 rfl rfl dz_S_text_60 ?_
    refine gq_putY zv_S_56 dz_S_text_63 ?_
    refine gq_aload_n dz_S_text_66 rfl ?_
    refine gq_aload_n dz_S_text_67 rfl ?_
    refine gq_putU zv_S_53 dz_S_text_68 ?_
    refine gq_aload_n dz_S_text_71 rfl ?_
    refine gq_iconst (v := 0) dz_S_text_72 rfl ?_
    refine gq_putI zv_S_80 rfl rfl dz_S_text_73 ?_
    refine gq_aload_n dz_S_text_76 rfl ?_
    refine gq_iconst (v := 0) dz_S_text_77 rfl ?_
    refine gq_putI zv_S_83 rfl rfl dz_S_text_78 ?_
    refine gq_iload_n dz_S_text_81 rfl ?_
    refine gw_iretP .int dz_S_text_82 rfl (by first | rfl | exact zb_nar _ | exact pk_nc _) ?_ ?_
    · rw [zx_textR, if_pos h39]; rfl
    · rw [zx_textX, if_pos h39]; rw [h39]; exact ⟨hS.tgood hq12.1 (hq12.2.2.2 h39), rfl, fun t j k q => (zu_N (by omega)).trans ((zu_N (by omega)).trans ((zu_N (σ := (zu (f12, σ.2) 0 0 11 0)) (by omega)).trans ((zu_N (by omega)).trans (hq12.1.2 t j k (by omega) (by omega) (by omega)))))⟩
  · skip
    have h39 : ¬ (zx_text X).1 = 0 := h39
    refine gq_bipush (v := -10) dz_S_text_42 rfl ?_
    refine gq_aload_n dz_S_text_44 rfl ?_
    refine gq_getR 3 zf_S_19 rfl rfl dz_S_text_45 ?_
    refine gq_getI zf_S_77 rfl rfl dz_S_text_48 ?_
    rw [show (zq_up (zq_up f12 0 0 11 (zx_text X).1) 1 0 1 0, σ.2).1 3 0 1 = nI (zx_text X).2.2.1 from (zu_N (σ := (zu (f12, σ.2) 0 0 11 (zx_text X).1)) (by omega)).trans ((zu_N (by omega)).trans (hq12.2.2.1 h39))]
    refine gq_isub dz_S_text_51 ?_
    refine gw_iretP .int dz_S_text_52 rfl (by first | rfl | exact zb_nar _ | exact pk_nc _) ?_ ?_
    · rw [zx_textR, if_neg h39]
    · rw [zx_textX, if_neg h39]; exact ⟨hS.tbad hq12.1 _, (hq12.1.S.up (by omega)).up (by omega)⟩
