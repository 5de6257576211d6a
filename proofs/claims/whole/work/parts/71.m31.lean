/-! THE MODEL'S TEXT -/
theorem zw_od0 : (0 : Int32) = 5 - 5 := by decide
theorem zM_rep.txb {σ sf : zq_T} {X : za_X} (h : zM_rep σ X) (hW : zx_wf X) (hF : zw_ff σ sf) {s6 s7 : zq_T} (e : Int32) (h6 : s6 = (zq_up sf.1 30 0 13 0, sf.2)) (h7 : s7 = (zq_up s6.1 30 0 14 e, s6.2)) : zM_rep s7 (X.1, X.2.1, (0, (zx_T X).2), (e, (zx_f X).2), X.2.2.2.2) ∧ zg_M σ s7 := by
  have k : ∀ (t : Nat) (j : Fin 5) (k : Nat), ¬ (t = 30 ∧ (k = 13 ∨ k = 14)) → ¬ (t = 30 ∧ ((8 ≤ k ∧ k ≤ 11) ∨ (15 ≤ k ∧ k ≤ 20))) → ¬ (34 ≤ t ∧ t ≤ 36) → s7.1 t j k = σ.1 t j k := fun t j k q1 q2 q3 => by
    rw [h7, h6]
    exact (zq_upN (by omega)).trans ((zq_upN (by omega)).trans (hF.2 t j k q2 q3))
  have e13 : s7.1 30 0 13 = 0 := by rw [h7, h6]; exact (zq_upN (by omega)).trans zq_upE
  have e14 : s7.1 30 0 14 = e := by rw [h7]; exact zq_upE
  refine ⟨h.oth hW (τ := s7) (fun t k2 z => k t 0 k2 (by omega) (by omega) (by omega)) (0, (zx_T X).2) (e, (zx_f X).2) (zx_s X) ⟨⟨e13, fun i hi => absurd hi (Nat.not_lt_zero i)⟩, ⟨e14, (k _ _ _ (by omega) (by omega) (by omega)).trans h.2.2.1.2.1.2⟩, ⟨(k _ _ _ (by omega) (by omega) (by omega)).trans h.2.2.1.2.2.1.1, fun i hi => ⟨(k _ _ _ (by omega) (by omega) (by omega)).trans (h.2.2.1.2.2.1.2 i hi).1, (k _ _ _ (by omega) (by omega) (by omega)).trans (h.2.2.1.2.2.1.2 i hi).2⟩⟩, (k _ _ _ (by omega) (by omega) (by omega)).trans h.2.2.1.2.2.2.1, (k _ _ _ (by omega) (by omega) (by omega)).trans h.2.2.1.2.2.2.2⟩, ?_, fun t j k2 q => k t j k2 (by omega) (by omega) (by omega)⟩
  rw [h7, h6]
  exact congrArg (fun q => q.2) hF.1
theorem zM_rep.txg {σ sf : zq_T} {X : za_X} (h : zM_rep σ X) (hF : zw_ff σ sf) {s6 s7 τ3 : zq_T} {A : za_D} (hd : zw_d sf A) (h6 : s6 = (zq_up sf.1 30 0 13 0, sf.2)) (h7 : s7 = (zq_up s6.1 30 0 14 0, s6.2)) (h32 : τ3.2 = s7.2) (hfr : ∀ (t : Nat) (j : Fin 5) (k : Nat), ¬ (t = 31 ∧ k < 28) → ¬ t = 32 → ¬ t = 33 → τ3.1 t j k = s7.1 t j k) (g31 : ∀ q, q < 28 → τ3.1 31 0 q = s7.1 34 0 q) (g32 : ∀ q, q < 6 → q < 28 → τ3.1 32 0 q = s7.1 35 0 q) (g33 : ∀ q, q < 15 → q < 28 → τ3.1 33 0 q = s7.1 36 0 q) {τ : zq_T} (hτ : τ = zu (zu (zu (zu (zu τ3 30 0 3 (nI (za_n A))) 30 0 4 (nI (za_m A))) 30 0 28 0) 44 0 0 0) 44 0 1 0) : zM_rep τ (A, X.2.1, (0, (zx_T X).2), (0, (zx_f X).2), (0, (zx_s X).2), (false, (zx_I X).2), (false, (zx_J X).2)) ∧ zg_M σ τ := by
  have a : ∀ (t : Nat) (j : Fin 5) (k : Nat), ¬ (t = 30 ∧ (k = 3 ∨ k = 4 ∨ k = 28)) → ¬ t = 44 → τ.1 t j k = τ3.1 t j k := fun t j k q1 q2 => by
    rw [hτ]
    exact (zu_N (by omega)).trans ((zu_N (by omega)).trans ((zu_N (by omega)).trans ((zu_N (by omega)).trans (zu_N (by omega)))))
  have b : ∀ (t : Nat) (j : Fin 5) (k : Nat), ¬ (t = 30 ∧ (k = 13 ∨ k = 14)) → s7.1 t j k = sf.1 t j k := fun t j k q1 => by
    rw [h7, h6]
    exact (zq_upN (by omega)).trans (zq_upN (by omega))
  have c : ∀ (t : Nat) (j : Fin 5) (k : Nat), ¬ (t = 30 ∧ (k = 3 ∨ k = 4 ∨ k = 28 ∨ k = 13 ∨ k = 14)) → ¬ t = 44 → ¬ (t = 31 ∧ k < 28) → ¬ t = 32 → ¬ t = 33 → ¬ (t = 30 ∧ ((8 ≤ k ∧ k ≤ 11) ∨ (15 ≤ k ∧ k ≤ 20))) → ¬ (34 ≤ t ∧ t ≤ 36) → τ.1 t j k = σ.1 t j k := fun t j k q1 q2 q3 q4 q5 q6 q7 => (a t j k (by omega) q2).trans ((hfr t j k q3 q4 q5).trans ((b t j k (by omega)).trans (hF.2 t j k q6 q7)))
  have p : ∀ q, q < 28 → τ.1 31 0 q = sf.1 34 0 q := fun q hq => (a 31 0 q (by omega) (by omega)).trans ((g31 q hq).trans (b 34 0 q (by omega)))
  have e13 : τ.1 30 0 13 = 0 := (a 30 0 13 (by omega) (by omega)).trans ((hfr 30 0 13 (by omega) (by omega) (by omega)).trans (by rw [h7, h6]; exact (zq_upN (by omega)).trans zq_upE))
  have e14 : τ.1 30 0 14 = 0 := (a 30 0 14 (by omega) (by omega)).trans ((hfr 30 0 14 (by omega) (by omega) (by omega)).trans (by rw [h7]; exact zq_upE))
  have e3 : τ.1 30 0 3 = nI (za_n A) := by rw [hτ]; exact (zu_N (by omega)).trans ((zu_N (by omega)).trans ((zu_N (by omega)).trans ((zu_N (by omega)).trans zu_E)))
  have e4 : τ.1 30 0 4 = nI (za_m A) := by rw [hτ]; exact (zu_N (by omega)).trans ((zu_N (by omega)).trans ((zu_N (by omega)).trans zu_E))
  have e28 : τ.1 30 0 28 = 0 := by rw [hτ]; exact (zu_N (by omega)).trans ((zu_N (by omega)).trans zu_E)
  have e44 : τ.1 44 0 0 = 0 := by rw [hτ]; exact (zu_N (by omega)).trans zu_E
  have e45 : τ.1 44 0 1 = 0 := by rw [hτ]; exact zu_E
  have hn6 := hd.1.1
  have hm5 := hd.1.2.1
  have hpar : ∀ i, i < za_n A → τ.1 32 0 i = zn_par (za_pa A i) := fun i hi => (a 32 0 i (by omega) (by omega)).trans ((g32 i (by omega) (by omega)).trans ((b 35 0 i (by omega)).trans (hd.2.2.1 i hi)))
  have hrul : ∀ k, k < 15 → τ.1 33 0 k = sf.1 36 0 k := fun k hk => (a 33 0 k (by omega) (by omega)).trans ((g33 k (by omega) (by omega)).trans (b 36 0 k (by omega)))
  refine ⟨⟨⟨⟨hn6, hm5, e3, e4, hpar, fun k hk => ?_⟩, fun i hi => ?_, ?_, fun f hf => ?_, fun k hk => ?_⟩, ⟨fun z => Bool.noConfusion z, fun z => Bool.noConfusion z⟩, ⟨⟨e13, fun i hi => absurd hi (Nat.not_lt_zero i)⟩, ⟨e14, (c _ _ _ (by omega) (by omega) (by omega) (by omega) (by omega) (by omega) (by omega)).trans h.2.2.1.2.1.2⟩, ⟨e28, fun i hi => absurd hi (Nat.not_lt_zero i)⟩, e44, e45⟩, h.2.2.2.1.keep fun t k _ _ => c _ _ _ (by omega) (by omega) (by omega) (by omega) (by omega) (by omega) (by omega), h.2.2.2.2.keep fun t k _ _ => c _ _ _ (by omega) (by omega) (by omega) (by omega) (by omega) (by omega) (by omega)⟩, ?_, fun t j k q => c t j k (by omega) (by omega) (by omega) (by omega) (by omega) (by omega) (by omega)⟩
  · have hk2 : k < za_m A := hk
    exact ⟨(hrul _ (by omega)).trans (hd.2.2.2 k hk).1, (hrul _ (by omega)).trans (hd.2.2.2 k hk).2.1, (hrul _ (by omega)).trans (hd.2.2.2 k hk).2.2⟩
  · rw [Nat.zero_add, Nat.zero_add]
    exact ⟨(p _ (by omega)).trans (hd.2.1.1 i hi).1, (p _ (by omega)).trans (hd.2.1.1 i hi).2⟩
  · exact (p _ (by omega)).trans hd.2.1.2.1
  · rw [Nat.zero_add]
    exact (p _ (by omega)).trans (hd.2.1.2.2.1 f hf)
  · have hk2 : k < za_m A := hk
    rw [Nat.zero_add, Nat.zero_add]
    exact ⟨(p _ (by omega)).trans (hd.2.1.2.2.2 k hk).1, (p _ (by omega)).trans (hd.2.1.2.2.2 k hk).2⟩
  · have e1 : τ.2 = τ3.2 := by rw [hτ]
    rw [e1, h32, h7, h6]
    exact congrArg (fun q => q.2) hF.1

set_option maxHeartbeats 4000000 in
theorem sp_M_text {σ : zq_T} {X : za_X} (hS : zM_rep σ X) (hW : zx_wf X) : zq_Sp zm_M_text 8 [zq_O 30 0] σ (zq_rw (zq_I (zx_textR X)) (fun τ => zM_rep τ (zx_textX X) ∧ zg_M σ τ)) := by
  have hw : zt_wf (zx_T X) := hW.2.2.1
  have hT0 : zw_t σ (zx_T X) := ⟨hS.2.2.1.1.1, hS.2.2.1.1.2, hS.2.2.2.2⟩
  have h160 := hw.1
  refine zq_sp [some (zq_O 30 0), none, none] (by decide +kernel) rfl (Nat.le_of_ble_eq_true rfl) (fun ν => ?_)
  refine gq_aload_n dz_M_text_0 rfl ?_
  refine gq_iconst (v := 0) dz_M_text_1 rfl ?_
  refine gq_putI zv_M_73 rfl rfl dz_M_text_2 ?_
  obtain ⟨a1, ha1⟩ : ∃ s : zq_T, s = (zq_up σ.1 30 0 15 (0), σ.2) := ⟨_, rfl⟩
  rw [← ha1]
  have hf1 : zw_ff σ a1 := by rw [ha1]; exact zw_ff.rf.up (by omega)
  have hx1 : a1.1 30 0 15 = 0 := by rw [ha1]; exact zq_upE
  refine gq_aload_n dz_M_text_5 rfl ?_
  refine gq_iconst (v := 0) dz_M_text_6 rfl ?_
  refine gq_putI zv_M_85 rfl rfl dz_M_text_7 ?_
  obtain ⟨a2, ha2⟩ : ∃ s : zq_T, s = (zq_up a1.1 30 0 17 (0), a1.2) := ⟨_, rfl⟩
  rw [← ha2]
  have hf2 : zw_ff σ a2 := by rw [ha2]; exact hf1.up (by omega)
  have hx2 : a2.1 30 0 15 = 0 := by rw [ha2]; exact (zq_upN (by omega)).trans hx1
  have hy2 : a2.1 30 0 17 = 0 := by rw [ha2]; exact zq_upE
  refine gq_aload_n dz_M_text_10 rfl ?_
  refine gq_iconst (v := 0) dz_M_text_11 rfl ?_
  refine gq_putI zv_M_134 rfl rfl dz_M_text_12 ?_
  obtain ⟨a3, ha3⟩ : ∃ s : zq_T, s = (zq_up a2.1 30 0 8 (0), a2.2) := ⟨_, rfl⟩
  rw [← ha3]
  have hf3 : zw_ff σ a3 := by rw [ha3]; exact hf2.up (by omega)
  have hx3 : a3.1 30 0 15 = 0 := by rw [ha3]; exact (zq_upN (by omega)).trans hx2
  have hy3 : a3.1 30 0 17 = 0 := by rw [ha3]; exact (zq_upN (by omega)).trans hy2
  have hz3 : a3.1 30 0 8 = 0 := by rw [ha3]; exact zq_upE
  refine gq_aload_n dz_M_text_15 rfl ?_
  refine gq_iconst (v := 0) dz_M_text_16 rfl ?_
  refine gq_putI zv_M_125 rfl rfl dz_M_text_17 ?_
  obtain ⟨a4, ha4⟩ : ∃ s : zq_T, s = (zq_up a3.1 30 0 9 (0), a3.2) := ⟨_, rfl⟩
  rw [← ha4]
  have hf4 : zw_ff σ a4 := by rw [ha4]; exact hf3.up (by omega)
  have hx4 : a4.1 30 0 15 = 0 := by rw [ha4]; exact (zq_upN (by omega)).trans hx3
  have hy4 : a4.1 30 0 17 = 0 := by rw [ha4]; exact (zq_upN (by omega)).trans hy3
  have hz4 : a4.1 30 0 8 = 0 := by rw [ha4]; exact (zq_upN (by omega)).trans hz3
  have hu4 : a4.1 30 0 9 = 0 := by rw [ha4]; exact zq_upE
  refine gq_aload_n dz_M_text_20 rfl ?_
  refine gq_iconst (v := 0) dz_M_text_21 rfl ?_
  refine gq_putI zv_M_137 rfl rfl dz_M_text_22 ?_
  obtain ⟨a5, ha5⟩ : ∃ s : zq_T, s = (zq_up a4.1 30 0 10 (0), a4.2) := ⟨_, rfl⟩
  rw [← ha5]
  have hf5 : zw_ff σ a5 := by rw [ha5]; exact hf4.up (by omega)
  have hx5 : a5.1 30 0 15 = 0 := by rw [ha5]; exact (zq_upN (by omega)).trans hx4
  have hy5 : a5.1 30 0 17 = 0 := by rw [ha5]; exact (zq_upN (by omega)).trans hy4
  have hz5 : a5.1 30 0 8 = 0 := by rw [ha5]; exact (zq_upN (by omega)).trans hz4
  have hu5 : a5.1 30 0 9 = 0 := by rw [ha5]; exact (zq_upN (by omega)).trans hu4
  have hv5 : a5.1 30 0 10 = 0 := by rw [ha5]; exact zq_upE
  refine gq_aload_n dz_M_text_25 rfl ?_
  refine gq_iconst (v := -1) dz_M_text_26 rfl ?_
  refine gq_putI zv_M_114 rfl rfl dz_M_text_27 ?_
  obtain ⟨a6, ha6⟩ : ∃ s : zq_T, s = (zq_up a5.1 30 0 11 (-1), a5.2) := ⟨_, rfl⟩
  rw [← ha6]
  have hf6 : zw_ff σ a6 := by rw [ha6]; exact hf5.up (by omega)
  have hx6 : a6.1 30 0 15 = 0 := by rw [ha6]; exact (zq_upN (by omega)).trans hx5
  have hy6 : a6.1 30 0 17 = 0 := by rw [ha6]; exact (zq_upN (by omega)).trans hy5
  have hz6 : a6.1 30 0 8 = 0 := by rw [ha6]; exact (zq_upN (by omega)).trans hz5
  have hu6 : a6.1 30 0 9 = 0 := by rw [ha6]; exact (zq_upN (by omega)).trans hu5
  have hv6 : a6.1 30 0 10 = 0 := by rw [ha6]; exact (zq_upN (by omega)).trans hv5
  have hw6 : a6.1 30 0 11 = -1 := by rw [ha6]; exact zq_upE
  refine gq_iconst (v := 0) dz_M_text_30 rfl ?_
  refine gw_istore_n 1 dz_M_text_31 rfl (Nat.le_of_ble_eq_true rfl) rfl ?_
  dsimp only [List.set]
  refine gq_iconst (v := 0) dz_M_text_32 rfl ?_
  refine gw_istore_n 2 dz_M_text_33 rfl (Nat.le_of_ble_eq_true rfl) rfl ?_
  dsimp only [List.set]
  have L34 : ∀ (kf : Nat) (k : Nat) (τ : zq_T) (hkf : 28 - k < kf) (hk : k ≤ 28) (hff : zw_ff σ τ) (h15 : τ.1 30 0 15 = 0) (h17 : τ.1 30 0 17 = 0) (h8 : τ.1 30 0 8 = 0) (h9 : τ.1 30 0 9 = 0) (h10 : τ.1 30 0 10 = 0) (h11 : τ.1 30 0 11 = -1) (hpg : ∀ q, q < k → τ.1 34 0 q = 0), zq_G ν zm_M_text 8 (zq_rw (zq_I (zx_textR X)) (fun τ => zM_rep τ (zx_textX X) ∧ zg_M σ τ)) 34 [some (zq_O 30 0), some (zq_I 0), some (zq_I (nI k))] [] τ := by
    intro kf
    induction kf with
    | zero => intro k τ hkf hk hff h15 h17 h8 h9 h10 h11 hpg; exact absurd hkf (Nat.not_lt_zero _)
    | succ kf ih34 =>
      intro k τ hkf hk hff h15 h17 h8 h9 h10 h11 hpg
      refine gq_iload_n dz_M_text_34 rfl ?_
      refine gq_bipush (v := 28) dz_M_text_35 rfl ?_
      refine gq_icmp_ge (tgt := 53) dz_M_text_37 rfl (fun h37 => ?_) (fun h37 => ?_)
      · skip
        have hk28 : k = 28 := by have := (nI_leI (a := 28) (by omega) (by omega)).mp h37; omega
        subst hk28
        refine gq_aload_n dz_M_text_53 rfl ?_
        refine gq_cVX (sp_M_step0 (hT0.ff hff) hw (h15) (h17 : τ.1 30 0 17 = nI 0) (Nat.zero_le _)) zw_M_step zl_M_107 dz_M_text_54 rfl rfl rfl (by decide) rfl rfl (Nat.le_of_ble_eq_true rfl) (fun τ54 hq54 => ?_)
        have hst := zw_hd.st (T := zx_T X) (τ := τ54) ⟨⟨⟨Nat.zero_le _, Nat.zero_le _, (hq54.1.2 _ _ _ (by omega)).trans h8, (hq54.1.2 _ _ _ (by omega)).trans h9⟩, ⟨fun i hi => ⟨(hq54.1.2 _ _ _ (by omega)).trans (hpg i (by omega)), (hq54.1.2 _ _ _ (by omega)).trans (hpg (6 + i) (by omega))⟩, (hq54.1.2 _ _ _ (by omega)).trans (hpg 12 (by omega)), fun f hf => (hq54.1.2 _ _ _ (by omega)).trans ((hpg (13 + f) (by omega)).trans zw_od0), fun k hk => absurd hk (Nat.not_lt_zero k)⟩, fun i hi => absurd hi (Nat.not_lt_zero i), fun k hk => absurd hk (Nat.not_lt_zero k)⟩, ⟨0, 0, by omega, (hq54.1.2 _ _ _ (by omega)).trans h11, rfl, by decide, Or.inl rfl⟩, (hq54.1.2 _ _ _ (by omega)).trans h10⟩
        have L57 : ∀ (kf : Nat) (n l : Nat) (r : Int32 × za_K) (Q : za_P) (τ : zq_T) (hkf : n < kf) (hh : zw_hd (zx_T X) n l Q r τ) (hr : zw_r τ (zx_T X) r) (hff2 : zw_ff σ τ), zq_G ν zm_M_text 8 (zq_rw (zq_I (zx_textR X)) (fun τ => zM_rep τ (zx_textX X) ∧ zg_M σ τ)) 57 [some (zq_O 30 0), some (zq_I (nI l)), none] [] τ := by
          intro kf
          induction kf with
          | zero => intro n l r Q τ hkf hh hr hff2; exact absurd hkf (Nat.not_lt_zero _)
          | succ kf ih57 =>
            intro n l r Q τ hkf hh hr hff2
            obtain ⟨kk, hkk1, hkk2, hkk3, hkk4⟩ := hr.2.2.2.2.2.2.1
            obtain ⟨hhl, ⟨av, hav, hQa⟩, hhA, hhB⟩ := id hh
            refine gq_aload_n dz_M_text_57 rfl ?_
            refine gq_getI zf_M_73 rfl rfl dz_M_text_58 ?_
            rw [hr.2.2.1]
            refine gq_if_ne (tgt := 81) dz_M_text_61 rfl (fun h61 => ?_) (fun h61 => ?_)
            · skip
              refine gq_aload_n dz_M_text_81 rfl ?_
              refine gq_getI zf_M_73 rfl rfl dz_M_text_82 ?_
              rw [hr.2.2.1]
              refine gq_if_ne (tgt := 105) dz_M_text_85 rfl (fun h85 => ?_) (fun h85 => ?_)
              · skip
                have hRc := hr
                refine gq_aload_n dz_M_text_105 rfl ?_
                refine gq_getI zf_M_73 rfl rfl dz_M_text_106 ?_
                rw [hRc.2.2.1]
                refine gq_if_ne (tgt := 125) dz_M_text_109 rfl (fun h109 => ?_) (fun h109 => ?_)
                · skip
                  obtain ⟨re, hre⟩ : ∃ q, q = r := ⟨_, rfl⟩
                  have hRe : zw_r τ (zx_T X) re := by rw [hre]; exact hr
                  have hFe : zw_ff σ τ := hff2
                  have hne : ¬ zw_cd re = 0 := by rw [hre]; exact h61
                  have htl : (zt_tell (zx_T X)).1 = zw_cd re ∧ (zt_tell (zx_T X)).2.2.1 = re.2.2.2.1 := by rw [hre]; exact hhB h61
                  rename zq_T => sf
                  refine gq_aload_n dz_M_text_125 rfl ?_
                  refine gq_iconst (v := 0) dz_M_text_126 rfl ?_
                  refine gq_putI zv_M_69 rfl rfl dz_M_text_127 ?_
                  obtain ⟨s6, hs6⟩ : ∃ s : zq_T, s = (zq_up sf.1 30 0 13 0, sf.2) := ⟨_, rfl⟩
                  rw [← hs6]
                  have h15s : s6.1 30 0 15 = zw_cd re := by rw [hs6]; exact (zq_upN (by omega)).trans hRe.2.2.1
                  refine gq_aload_n dz_M_text_130 rfl ?_
                  refine gq_aload_n dz_M_text_131 rfl ?_
                  refine gq_getI zf_M_73 rfl rfl dz_M_text_132 ?_
                  rw [h15s]
                  refine gq_putI zv_M_155 rfl rfl dz_M_text_135 ?_
                  obtain ⟨s7, hs7⟩ : ∃ s : zq_T, s = (zq_up s6.1 30 0 14 (zw_cd re), s6.2) := ⟨_, rfl⟩
                  rw [← hs7]
                  have h15t : s7.1 30 0 15 = zw_cd re := by rw [hs7]; exact (zq_upN (by omega)).trans h15s
                  refine gq_aload_n dz_M_text_138 rfl ?_
                  refine gq_getI zf_M_73 rfl rfl dz_M_text_139 ?_
                  rw [h15t]
                  refine gq_if_le (tgt := 153) dz_M_text_142 rfl (fun h142 => ?_) (fun h142 => ?_)
                  · skip
                    obtain ⟨nn, hnn, hnne⟩ := hRe.2.1
                    rw [hnne] at h142 hne
                    exact absurd h142 (Int32.not_le.mpr (nI_lt (a := 0) (by rcases Nat.eq_zero_or_pos nn with z | z; exact absurd (by rw [z]; rfl) hne; exact z) (by omega)))
                  · skip
                    refine gq_bipush (v := -10) dz_M_text_145 rfl ?_
                    refine gq_aload_n dz_M_text_147 rfl ?_
                    refine gq_getI zf_M_79 rfl rfl dz_M_text_148 ?_
                    rw [show s7.1 30 0 16 = nI re.2.2.2.1 from by rw [hs7, hs6]; exact (zq_upN (by omega)).trans ((zq_upN (by omega)).trans (hRe.2.2.2.1 hne))]
                    refine gq_isub dz_M_text_151 ?_
                    refine gw_iretP .int dz_M_text_152 rfl (by first | rfl | exact zb_nar _ | exact pk_nc _) ?_ ?_
                    · rw [zx_textR, zx_text, htl.1, if_neg hne, htl.2]
                    · rw [zx_textX, zx_text, htl.1, if_neg hne]; exact hS.txb hW hFe (zw_cd re) hs6 hs7
                · skip
                  exact absurd h109 h61
              · skip
                exact absurd h85 h61
            · skip
              obtain ⟨hAe1, hAe2, hAe3, hAe4⟩ := hhA h61
              have hrK : zw_r τ (zx_T X) (0, Q.1) := by rw [← hAe1]; exact hr
              have hk34 := hkk3 (zw_cd0 h61).2
              have hk34 : kk = Q.1.2.1 := by rw [hk34, hAe1]
              refine gq_aload_n dz_M_text_64 rfl ?_
              refine gq_getI zf_M_82 rfl rfl dz_M_text_65 ?_
              rw [hkk2]
              refine gq_if_eq (tgt := 81) dz_M_text_68 rfl (fun h68 => ?_) (fun h68 => ?_)
              · skip
                have hk0 : Q.1.2.1 = 0 := by rw [← hk34]; exact (nI_eq (b := 0) (by omega) (by omega)).mp h68
                have hch := zw_chk (by rw [zw_lines_0 hk0] at hAe4; exact hAe4)
                have hqs : Q.1.2.2.1 = (zx_T X).1 := by have h9 := (zt_lex_kd hav).2; rw [← hQa] at h9; exact h9 hk0
                have hnr : r.2.2.2.1 = (zx_T X).1 := by rw [hAe1]; exact hqs
                refine gq_aload_n dz_M_text_81 rfl ?_
                refine gq_getI zf_M_73 rfl rfl dz_M_text_82 ?_
                rw [hr.2.2.1]
                refine gq_if_ne (tgt := 105) dz_M_text_85 rfl (fun h85 => ?_) (fun h85 => ?_)
                · skip
                  exact absurd h61 h85
                · skip
                  refine gq_aload_n dz_M_text_88 rfl ?_
                  refine gq_getI zf_M_114 rfl rfl dz_M_text_89 ?_
                  refine gq_aload_n dz_M_text_92 rfl ?_
                  refine gq_getI zf_M_134 rfl rfl dz_M_text_93 ?_
                  refine gq_icmp_lt (tgt := 105) dz_M_text_96 rfl (fun h96 => ?_) (fun h96 => ?_)
                  · skip
                    have h96 : Q.2.2.1 &&& (zt_evb (za_n Q.2.1) ^^^ -1) = 0 := (zw_hi hAe2.2.1 hAe2.1.1.1).mp (by rw [← hAe2.1.1.2.2.1]; exact h96)
                    have hRc := hr
                    refine gq_aload_n dz_M_text_105 rfl ?_
                    refine gq_getI zf_M_73 rfl rfl dz_M_text_106 ?_
                    rw [hRc.2.2.1]
                    refine gq_if_ne (tgt := 125) dz_M_text_109 rfl (fun h109 => ?_) (fun h109 => ?_)
                    · skip
                      exact absurd h61 h109
                    · skip
                      refine gq_aload_n dz_M_text_112 rfl ?_
                      refine gq_cV (sp_M_areAlike hAe2.1) zw_M_areAlike zl_M_151 dz_M_text_113 rfl rfl rfl (by decide) rfl rfl (Nat.le_of_ble_eq_true rfl) ?_
                      refine gw_ifb_eq (tgt := 125) dz_M_text_116 rfl (fun h116 => ?_) (fun h116 => ?_)
                      · skip
                        have hck : zt_chk Q = 0 := by rw [zt_chk, if_neg (fun z => z h96), h116]; rfl
                        obtain ⟨re, hre⟩ : ∃ q, q = r := ⟨_, rfl⟩
                        have hRe : zw_r τ (zx_T X) re := by rw [hre]; exact hr
                        have hFe := hff2
                        have hze : zw_cd re = 0 := by rw [hre]; exact h61
                        have hde := hAe2.1
                        have htz : zt_tell (zx_T X) = (0, l, (zx_T X).1, Q.2.1) := by rw [hch, hck]
                        rename zq_T => sf
                        refine gq_aload_n dz_M_text_125 rfl ?_
                        refine gq_iconst (v := 0) dz_M_text_126 rfl ?_
                        refine gq_putI zv_M_69 rfl rfl dz_M_text_127 ?_
                        obtain ⟨s6, hs6⟩ : ∃ s : zq_T, s = (zq_up sf.1 30 0 13 0, sf.2) := ⟨_, rfl⟩
                        rw [← hs6]
                        have h15s : s6.1 30 0 15 = zw_cd re := by rw [hs6]; exact (zq_upN (by omega)).trans hRe.2.2.1
                        refine gq_aload_n dz_M_text_130 rfl ?_
                        refine gq_aload_n dz_M_text_131 rfl ?_
                        refine gq_getI zf_M_73 rfl rfl dz_M_text_132 ?_
                        rw [h15s]
                        refine gq_putI zv_M_155 rfl rfl dz_M_text_135 ?_
                        obtain ⟨s7, hs7⟩ : ∃ s : zq_T, s = (zq_up s6.1 30 0 14 (zw_cd re), s6.2) := ⟨_, rfl⟩
                        rw [← hs7]
                        have h15t : s7.1 30 0 15 = zw_cd re := by rw [hs7]; exact (zq_upN (by omega)).trans h15s
                        refine gq_aload_n dz_M_text_138 rfl ?_
                        refine gq_getI zf_M_73 rfl rfl dz_M_text_139 ?_
                        rw [h15t]
                        refine gq_if_le (tgt := 153) dz_M_text_142 rfl (fun h142 => ?_) (fun h142 => ?_)
                        · skip
                          rw [hze] at hs7
                          refine gq_iconst (v := 0) dz_M_text_153 rfl ?_
                          refine gw_istore_n 2 dz_M_text_154 rfl (Nat.le_of_ble_eq_true rfl) rfl ?_
                          dsimp only [List.set]
                          have L155 : ∀ (kf : Nat) (k : Nat) (τ3 : zq_T) (hkf : 28 - k < kf) (hk : k ≤ 28) (hfr2 : τ3.2 = s7.2) (hfr : ∀ (t : Nat) (j : Fin 5) (k : Nat), ¬ (t = 31 ∧ k < 28) → ¬ t = 32 → ¬ t = 33 → τ3.1 t j k = s7.1 t j k) (hg31 : ∀ q, q < k → τ3.1 31 0 q = s7.1 34 0 q) (hg32 : ∀ q, q < 6 → q < k → τ3.1 32 0 q = s7.1 35 0 q) (hg33 : ∀ q, q < 15 → q < k → τ3.1 33 0 q = s7.1 36 0 q), zq_G ν zm_M_text 8 (zq_rw (zq_I (zx_textR X)) (fun τ => zM_rep τ (zx_textX X) ∧ zg_M σ τ)) 155 [some (zq_O 30 0), some (zq_I (nI l)), some (zq_I (nI k))] [] τ3 := by
                            intro kf
                            induction kf with
                            | zero => intro k τ3 hkf hk hfr2 hfr hg31 hg32 hg33; exact absurd hkf (Nat.not_lt_zero _)
                            | succ kf ih155 =>
                              intro k τ3 hkf hk hfr2 hfr hg31 hg32 hg33
                              have hk6 := Nat.mod_lt k (show 0 < 6 by omega)
                              have hk15 := Nat.mod_lt k (show 0 < 15 by omega)
                              refine gq_iload_n dz_M_text_155 rfl ?_
                              refine gq_bipush (v := 28) dz_M_text_156 rfl ?_
                              refine gq_icmp_ge (tgt := 215) dz_M_text_158 rfl (fun h158 => ?_) (fun h158 => ?_)
                              · skip
                                have hk28 : k = 28 := by have := (nI_leI (a := 28) (by omega) (by omega)).mp h158; omega
                                subst hk28
                                refine gq_aload_n dz_M_text_215 rfl ?_
                                refine gq_aload_n dz_M_text_216 rfl ?_
                                refine gq_getI zf_M_134 rfl rfl dz_M_text_217 ?_
                                rw [(hfr 30 0 8 (by omega) (by omega) (by omega)).trans (show s7.1 30 0 8 = nI (za_n Q.2.1) from by rw [hs7, hs6]; exact (zq_upN (by omega)).trans ((zq_upN (by omega)).trans hde.1.2.2.1))]
                                refine gq_putI zv_M_158 rfl rfl dz_M_text_220 ?_
                                refine gq_aload_n dz_M_text_223 rfl ?_
                                refine gq_aload_n dz_M_text_224 rfl ?_
                                refine gq_getI zf_M_125 rfl rfl dz_M_text_225 ?_
                                rw [zq_upN (by omega), (hfr 30 0 9 (by omega) (by omega) (by omega)).trans (show s7.1 30 0 9 = nI (za_m Q.2.1) from by rw [hs7, hs6]; exact (zq_upN (by omega)).trans ((zq_upN (by omega)).trans hde.1.2.2.2))]
                                refine gq_putI zv_M_161 rfl rfl dz_M_text_228 ?_
                                refine gq_aload_n dz_M_text_231 rfl ?_
                                refine gq_iconst (v := 0) dz_M_text_232 rfl ?_
                                refine gq_putI zv_M_164 rfl rfl dz_M_text_233 ?_
                                refine gq_aload_n dz_M_text_236 rfl ?_
                                refine gq_getR 44 zf_M_50 rfl rfl dz_M_text_237 ?_
                                refine gq_iconst (v := 0) dz_M_text_240 rfl ?_
                                refine gq_iconst (v := 0) dz_M_text_241 rfl ?_
                                refine gw_zast (0) (rfl) rfl (rfl) (Nat.le_of_ble_eq_true rfl) (by omega) dz_M_text_242 ?_
                                refine gq_aload_n dz_M_text_243 rfl ?_
                                refine gq_getR 44 zf_M_50 rfl rfl dz_M_text_244 ?_
                                refine gq_iconst (v := 1) dz_M_text_247 rfl ?_
                                refine gq_iconst (v := 0) dz_M_text_248 rfl ?_
                                refine gw_zast (1) (rfl) rfl (rfl) (Nat.le_of_ble_eq_true rfl) (by omega) dz_M_text_249 ?_
                                refine gq_iload_n dz_M_text_250 rfl ?_
                                refine gw_iretP .int dz_M_text_251 rfl (by first | rfl | exact zb_nar _ | exact pk_nc _) ?_ ?_
                                · rw [zx_textR, zx_text, htz]; rfl
                                · rw [zx_textX, zx_text, htz, if_pos rfl]; exact hS.txg hFe hde hs6 hs7 hfr2 hfr hg31 hg32 hg33 rfl
                              · skip
                                have hk28 : k < 28 := (nI_ltI (b := 28) (by omega) (by omega)).mp (Int32.not_le.mp h158)
                                refine gq_aload_n dz_M_text_161 rfl ?_
                                refine gq_getR 31 zf_M_7 rfl rfl dz_M_text_162 ?_
                                refine gq_iload_n dz_M_text_165 rfl ?_
                                refine gq_aload_n dz_M_text_166 rfl ?_
                                refine gq_getR 34 zf_M_19 rfl rfl dz_M_text_167 ?_
                                refine gq_iload_n dz_M_text_170 rfl ?_
                                refine gw_iald (k) (rfl) rfl (rfl) (Nat.le_of_ble_eq_true rfl) (by omega) dz_M_text_171 ?_
                                rw [hfr 34 0 k (by omega) (by omega) (by omega)]
                                refine gw_iast (k) (rfl) rfl (rfl) (Nat.le_of_ble_eq_true rfl) (by omega) dz_M_text_172 ?_
                                refine gq_aload_n dz_M_text_173 rfl ?_
                                refine gq_getR 32 zf_M_13 rfl rfl dz_M_text_174 ?_
                                refine gq_iload_n dz_M_text_177 rfl ?_
                                refine gq_bipush (v := 6) dz_M_text_178 rfl ?_
                                refine gq_irem dz_M_text_180 (by decide) ?_
                                rw [show (6 : Int32) = nI 6 from rfl, pk_rem (by omega) (by omega) (by omega)]
                                refine gq_aload_n dz_M_text_181 rfl ?_
                                refine gq_getR 35 zf_M_22 rfl rfl dz_M_text_182 ?_
                                refine gq_iload_n dz_M_text_185 rfl ?_
                                refine gq_bipush (v := 6) dz_M_text_186 rfl ?_
                                refine gq_irem dz_M_text_188 (by decide) ?_
                                rw [show (6 : Int32) = nI 6 from rfl, pk_rem (by omega) (by omega) (by omega)]
                                refine gw_iald (k % 6) (rfl) rfl (rfl) (Nat.le_of_ble_eq_true rfl) (by omega) dz_M_text_189 ?_
                                rw [zq_upN (by omega), hfr 35 0 (k % 6) (by omega) (by omega) (by omega)]
                                refine gw_iast (k % 6) (rfl) rfl (rfl) (Nat.le_of_ble_eq_true rfl) (by omega) dz_M_text_190 ?_
                                refine gq_aload_n dz_M_text_191 rfl ?_
                                refine gq_getR 33 zf_M_16 rfl rfl dz_M_text_192 ?_
                                refine gq_iload_n dz_M_text_195 rfl ?_
                                refine gq_bipush (v := 15) dz_M_text_196 rfl ?_
                                refine gq_irem dz_M_text_198 (by decide) ?_
                                rw [show (15 : Int32) = nI 15 from rfl, pk_rem (by omega) (by omega) (by omega)]
                                refine gq_aload_n dz_M_text_199 rfl ?_
                                refine gq_getR 36 zf_M_25 rfl rfl dz_M_text_200 ?_
                                refine gq_iload_n dz_M_text_203 rfl ?_
                                refine gq_bipush (v := 15) dz_M_text_204 rfl ?_
                                refine gq_irem dz_M_text_206 (by decide) ?_
                                rw [show (15 : Int32) = nI 15 from rfl, pk_rem (by omega) (by omega) (by omega)]
                                refine gw_iald (k % 15) (rfl) rfl (rfl) (Nat.le_of_ble_eq_true rfl) (by omega) dz_M_text_207 ?_
                                rw [zq_upN (by omega), zq_upN (by omega), hfr 36 0 (k % 15) (by omega) (by omega) (by omega)]
                                refine gw_iast (k % 15) (rfl) rfl (rfl) (Nat.le_of_ble_eq_true rfl) (by omega) dz_M_text_208 ?_
                                refine gw_iinc 2 (c := 1) dz_M_text_209 rfl rfl (Nat.le_of_ble_eq_true rfl) rfl ?_
                                dsimp only [List.set]
                                refine gq_goto (tgt := 155) dz_M_text_212 rfl ?_
                                simp only [nI_1]
                                exact zq_fewer _ (zq_sub_spec (by repeat (first | exact trivial | exact rfl | refine And.intro ?_ ?_))) (ih155 (k + 1) (zu (zu (zu τ3 31 0 k (s7.1 34 0 k)) 32 0 (k % 6) (s7.1 35 0 (k % 6))) 33 0 (k % 15) (s7.1 36 0 (k % 15))) (by omega) (by omega) hfr2 (fun t j q q1 q2 q3 => (zu_N (by omega)).trans ((zu_N (by omega)).trans ((zu_N (by omega)).trans (hfr t j q q1 q2 q3)))) (fun q z => (zu_N (by omega)).trans ((zu_N (by omega)).trans (by rcases Nat.lt_or_ge q k with y | y; exact (zu_N (by omega)).trans (hg31 q y); rw [show q = k by omega]; exact zu_E))) (fun q z6 z => (zu_N (by omega)).trans (by by_cases y : q = k % 6; rw [y]; exact zu_E; exact (zu_N (by omega)).trans ((zu_N (by omega)).trans (hg32 q z6 (by rcases Nat.lt_or_ge q k with w | w; exact w; exact absurd (show q = k % 6 by rw [Nat.mod_eq_of_lt (by omega)]; omega) y))))) (fun q z15 z => by by_cases y : q = k % 15; rw [y]; exact zu_E; exact (zu_N (by omega)).trans ((zu_N (by omega)).trans ((zu_N (by omega)).trans (hg33 q z15 (by rcases Nat.lt_or_ge q k with w | w; exact w; exact absurd (show q = k % 15 by rw [Nat.mod_eq_of_lt (by omega)]; omega) y))))))
                          exact zq_fewer _ (zq_sub_spec (by repeat (first | exact trivial | exact rfl | refine And.intro ?_ ?_))) (L155 29 0 s7 (by omega) (by omega) rfl (fun _ _ _ _ _ _ => rfl) (fun q z => absurd z (Nat.not_lt_zero q)) (fun q _ z => absurd z (Nat.not_lt_zero q)) (fun q _ z => absurd z (Nat.not_lt_zero q)))
                        · skip
                          exact absurd (by rw [hze]; decide) h142
                      · skip
                        have hck : zt_chk Q = 7 := by rw [zt_chk, if_neg (fun z => z h96), h116]; rfl
                        refine gq_aload_n dz_M_text_119 rfl ?_
                        refine gq_bipush (v := 7) dz_M_text_120 rfl ?_
                        refine gq_cVX (sp_M_fails 7) zw_M_fails zl_M_103 dz_M_text_122 rfl rfl rfl (by decide) rfl rfl (Nat.le_of_ble_eq_true rfl) (fun τ122 hq122 => ?_)
                        have hf122 := hr.fl (n := 7) (by omega) (by omega) hq122
                        have hcd7 : zw_cd (zw_fl 7 r) = 7 := by rw [zw_fl0 h61, zw_cde (by decide)]
                        obtain ⟨re, hre⟩ : ∃ q, q = zw_fl 7 r := ⟨_, rfl⟩
                        have hRe : zw_r τ122 (zx_T X) re := by rw [hre]; exact hf122.2
                        have hFe : zw_ff σ τ122 := hff2.tr hf122.1.p.ff
                        have hne : ¬ zw_cd re = 0 := by rw [hre]; exact fun z => absurd (hcd7.symm.trans z) (by decide)
                        have htl : (zt_tell (zx_T X)).1 = zw_cd re ∧ (zt_tell (zx_T X)).2.2.1 = re.2.2.2.1 := by rw [hre]; exact ⟨by rw [hcd7, hch, hck], by rw [hch, zw_fl0 h61]; exact hnr.symm⟩
                        rename zq_T => sf
                        refine gq_aload_n dz_M_text_125 rfl ?_
                        refine gq_iconst (v := 0) dz_M_text_126 rfl ?_
                        refine gq_putI zv_M_69 rfl rfl dz_M_text_127 ?_
                        obtain ⟨s6, hs6⟩ : ∃ s : zq_T, s = (zq_up sf.1 30 0 13 0, sf.2) := ⟨_, rfl⟩
                        rw [← hs6]
                        have h15s : s6.1 30 0 15 = zw_cd re := by rw [hs6]; exact (zq_upN (by omega)).trans hRe.2.2.1
                        refine gq_aload_n dz_M_text_130 rfl ?_
                        refine gq_aload_n dz_M_text_131 rfl ?_
                        refine gq_getI zf_M_73 rfl rfl dz_M_text_132 ?_
                        rw [h15s]
                        refine gq_putI zv_M_155 rfl rfl dz_M_text_135 ?_
                        obtain ⟨s7, hs7⟩ : ∃ s : zq_T, s = (zq_up s6.1 30 0 14 (zw_cd re), s6.2) := ⟨_, rfl⟩
                        rw [← hs7]
                        have h15t : s7.1 30 0 15 = zw_cd re := by rw [hs7]; exact (zq_upN (by omega)).trans h15s
                        refine gq_aload_n dz_M_text_138 rfl ?_
                        refine gq_getI zf_M_73 rfl rfl dz_M_text_139 ?_
                        rw [h15t]
                        refine gq_if_le (tgt := 153) dz_M_text_142 rfl (fun h142 => ?_) (fun h142 => ?_)
                        · skip
                          obtain ⟨nn, hnn, hnne⟩ := hRe.2.1
                          rw [hnne] at h142 hne
                          exact absurd h142 (Int32.not_le.mpr (nI_lt (a := 0) (by rcases Nat.eq_zero_or_pos nn with z | z; exact absurd (by rw [z]; rfl) hne; exact z) (by omega)))
                        · skip
                          refine gq_bipush (v := -10) dz_M_text_145 rfl ?_
                          refine gq_aload_n dz_M_text_147 rfl ?_
                          refine gq_getI zf_M_79 rfl rfl dz_M_text_148 ?_
                          rw [show s7.1 30 0 16 = nI re.2.2.2.1 from by rw [hs7, hs6]; exact (zq_upN (by omega)).trans ((zq_upN (by omega)).trans (hRe.2.2.2.1 hne))]
                          refine gq_isub dz_M_text_151 ?_
                          refine gw_iretP .int dz_M_text_152 rfl (by first | rfl | exact zb_nar _ | exact pk_nc _) ?_ ?_
                          · rw [zx_textR, zx_text, htl.1, if_neg hne, htl.2]
                          · rw [zx_textX, zx_text, htl.1, if_neg hne]; exact hS.txb hW hFe (zw_cd re) hs6 hs7
                  · skip
                    have hck : zt_chk Q = 6 := if_pos (fun z => h96 (by rw [hAe2.1.1.2.2.1]; exact (zw_hi hAe2.2.1 hAe2.1.1.1).mpr z))
                    refine gq_aload_n dz_M_text_99 rfl ?_
                    refine gq_bipush (v := 6) dz_M_text_100 rfl ?_
                    refine gq_cVX (sp_M_fails 6) zw_M_fails zl_M_103 dz_M_text_102 rfl rfl rfl (by decide) rfl rfl (Nat.le_of_ble_eq_true rfl) (fun τ102 hq102 => ?_)
                    have hf102 := hr.fl (n := 6) (by omega) (by omega) hq102
                    have hRc := hf102.2
                    have hcd6 : zw_cd (zw_fl 6 r) = 6 := by rw [zw_fl0 h61, zw_cde (by decide)]
                    refine gq_aload_n dz_M_text_105 rfl ?_
                    refine gq_getI zf_M_73 rfl rfl dz_M_text_106 ?_
                    rw [hRc.2.2.1]
                    refine gq_if_ne (tgt := 125) dz_M_text_109 rfl (fun h109 => ?_) (fun h109 => ?_)
                    · skip
                      obtain ⟨re, hre⟩ : ∃ q, q = zw_fl 6 r := ⟨_, rfl⟩
                      have hRe : zw_r τ102 (zx_T X) re := by rw [hre]; exact hf102.2
                      have hFe : zw_ff σ τ102 := hff2.tr hf102.1.p.ff
                      have hne : ¬ zw_cd re = 0 := by rw [hre]; exact fun z => absurd (hcd6.symm.trans z) (by decide)
                      have htl : (zt_tell (zx_T X)).1 = zw_cd re ∧ (zt_tell (zx_T X)).2.2.1 = re.2.2.2.1 := by rw [hre]; exact ⟨by rw [hcd6, hch, hck], by rw [hch, zw_fl0 h61]; exact hnr.symm⟩
                      rename zq_T => sf
                      refine gq_aload_n dz_M_text_125 rfl ?_
                      refine gq_iconst (v := 0) dz_M_text_126 rfl ?_
                      refine gq_putI zv_M_69 rfl rfl dz_M_text_127 ?_
                      obtain ⟨s6, hs6⟩ : ∃ s : zq_T, s = (zq_up sf.1 30 0 13 0, sf.2) := ⟨_, rfl⟩
                      rw [← hs6]
                      have h15s : s6.1 30 0 15 = zw_cd re := by rw [hs6]; exact (zq_upN (by omega)).trans hRe.2.2.1
                      refine gq_aload_n dz_M_text_130 rfl ?_
                      refine gq_aload_n dz_M_text_131 rfl ?_
                      refine gq_getI zf_M_73 rfl rfl dz_M_text_132 ?_
                      rw [h15s]
                      refine gq_putI zv_M_155 rfl rfl dz_M_text_135 ?_
                      obtain ⟨s7, hs7⟩ : ∃ s : zq_T, s = (zq_up s6.1 30 0 14 (zw_cd re), s6.2) := ⟨_, rfl⟩
                      rw [← hs7]
                      have h15t : s7.1 30 0 15 = zw_cd re := by rw [hs7]; exact (zq_upN (by omega)).trans h15s
                      refine gq_aload_n dz_M_text_138 rfl ?_
                      refine gq_getI zf_M_73 rfl rfl dz_M_text_139 ?_
                      rw [h15t]
                      refine gq_if_le (tgt := 153) dz_M_text_142 rfl (fun h142 => ?_) (fun h142 => ?_)
                      · skip
                        obtain ⟨nn, hnn, hnne⟩ := hRe.2.1
                        rw [hnne] at h142 hne
                        exact absurd h142 (Int32.not_le.mpr (nI_lt (a := 0) (by rcases Nat.eq_zero_or_pos nn with z | z; exact absurd (by rw [z]; rfl) hne; exact z) (by omega)))
                      · skip
                        refine gq_bipush (v := -10) dz_M_text_145 rfl ?_
                        refine gq_aload_n dz_M_text_147 rfl ?_
                        refine gq_getI zf_M_79 rfl rfl dz_M_text_148 ?_
                        rw [show s7.1 30 0 16 = nI re.2.2.2.1 from by rw [hs7, hs6]; exact (zq_upN (by omega)).trans ((zq_upN (by omega)).trans (hRe.2.2.2.1 hne))]
                        refine gq_isub dz_M_text_151 ?_
                        refine gw_iretP .int dz_M_text_152 rfl (by first | rfl | exact zb_nar _ | exact pk_nc _) ?_ ?_
                        · rw [zx_textR, zx_text, htl.1, if_neg hne, htl.2]
                        · rw [zx_textX, zx_text, htl.1, if_neg hne]; exact hS.txb hW hFe (zw_cd re) hs6 hs7
                    · skip
                      exact absurd (hcd6.symm.trans h109) (by decide)
              · skip
                have hk0 : ¬ Q.1.2.1 = 0 := fun z => h68 (by rw [hk34, z]; rfl)
                refine gq_aload_n dz_M_text_71 rfl ?_
                refine gq_cVX (sp_M_readLine (hT0.ff hff2) hw (hrK) (by rw [← hAe1]; exact h61) hAe2) zw_M_readLine zl_M_148 dz_M_text_72 rfl rfl rfl (by decide) rfl rfl (Nat.le_of_ble_eq_true rfl) (fun τ72 hq72 => ?_)
                obtain ⟨hF72, r2, hR2, hb2, hg2⟩ := hq72
                obtain ⟨n2, Q2, hn2, hh2⟩ := hh.go hw h61 hk0 hb2 hg2
                refine gw_iinc 1 (c := 1) dz_M_text_75 rfl rfl (Nat.le_of_ble_eq_true rfl) rfl ?_
                dsimp only [List.set]
                refine gq_goto (tgt := 57) dz_M_text_78 rfl ?_
                simp only [nI_1]
                exact zq_fewer _ (zq_sub_spec (by repeat (first | exact trivial | exact rfl | refine And.intro ?_ ?_))) (ih57 n2 (l + 1) r2 Q2 τ72 (by omega) hh2 hR2 (hff2.tr hF72))
        exact zq_fewer _ (zq_sub_spec (by repeat (first | exact trivial | exact rfl | refine And.intro ?_ ?_))) (L57 161 160 0 _ _ τ54 (by omega) hst hq54.2 (hff.tr hq54.1.p.ff))
      · skip
        have hk28 : k < 28 := (nI_ltI (b := 28) (by omega) (by omega)).mp (Int32.not_le.mp h37)
        refine gq_aload_n dz_M_text_40 rfl ?_
        refine gq_getR 34 zf_M_19 rfl rfl dz_M_text_41 ?_
        refine gq_iload_n dz_M_text_44 rfl ?_
        refine gq_iconst (v := 0) dz_M_text_45 rfl ?_
        refine gw_iast (k) (rfl) rfl (rfl) (Nat.le_of_ble_eq_true rfl) (by omega) dz_M_text_46 ?_
        refine gw_iinc 2 (c := 1) dz_M_text_47 rfl rfl (Nat.le_of_ble_eq_true rfl) rfl ?_
        dsimp only [List.set]
        refine gq_goto (tgt := 34) dz_M_text_50 rfl ?_
        simp only [nI_1]
        exact zq_fewer _ (zq_sub_spec (by repeat (first | exact trivial | exact rfl | refine And.intro ?_ ?_))) (ih34 (k + 1) (zu τ 34 0 k 0) (by omega) (by omega) (hff.up (by omega)) ((zu_N (by omega)).trans h15) ((zu_N (by omega)).trans h17) ((zu_N (by omega)).trans h8) ((zu_N (by omega)).trans h9) ((zu_N (by omega)).trans h10) ((zu_N (by omega)).trans h11) (fun q z => by rcases Nat.lt_or_ge q k with y | y; exact (zu_N (by omega)).trans (hpg q y); rw [show q = k by omega]; exact zu_E))
  exact zq_fewer _ (zq_sub_spec (by repeat (first | exact trivial | exact rfl | refine And.intro ?_ ?_))) (L34 29 0 a6 (by omega) (by omega) hf6 hx6 hy6 hz6 hu6 hv6 hw6 (fun q z => absurd z (Nat.not_lt_zero q)))
