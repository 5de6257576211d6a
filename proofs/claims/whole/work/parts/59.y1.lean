/-! THE SHORTEST ROW: sorted rows are enough -/
theorem zs_first_non {f : Nat → Option (List Nat)} : ∀ {k D : Nat}, (∀ i, D ≤ i → i < D + k → f i = none) → zs_first f k D = none
  | 0, _, _ => rfl
  | k + 1, D, h => by
    rw [zs_first_no (h D (Nat.le_refl _) (by omega))]
    exact zs_first_non (fun i a b => h i (by omega) (by omega))
theorem zs_first_some {f : Nat → Option (List Nat)} : ∀ {k D : Nat} {l : List Nat}, zs_first f k D = some l → ∃ E, D ≤ E ∧ E < D + k ∧ f E = some l ∧ ∀ i, D ≤ i → i < E → f i = none
  | 0, _, _, h => by cases h
  | k + 1, D, l, h => by
    rcases hf : f D with _ | l2
    · rw [zs_first_no hf] at h
      obtain ⟨E, h1, h2, h3, h4⟩ := zs_first_some h
      refine ⟨E, by omega, by omega, h3, fun i a b => ?_⟩
      rcases Nat.eq_or_lt_of_le a with z | z
      · rw [← z]; exact hf
      · exact h4 i z b
    · rw [zs_first_ye hf] at h
      cases h
      exact ⟨D, Nat.le_refl _, by omega, hf, fun i a b => by omega⟩
theorem zs_first_none {f : Nat → Option (List Nat)} : ∀ {k D : Nat}, zs_first f k D = none → ∀ i, D ≤ i → i < D + k → f i = none
  | 0, D, _, i, a, b => by omega
  | k + 1, D, h, i, a, b => by
    rcases hf : f D with _ | l2
    · rw [zs_first_no hf] at h
      rcases Nat.eq_or_lt_of_le a with z | z
      · rw [← z]; exact hf
      · exact zs_first_none h i z (by omega)
    · rw [zs_first_ye hf] at h
      cases h
theorem zs_first_hit {f : Nat → Option (List Nat)} {E : Nat} {l : List Nat} (h3 : f E = some l) : ∀ {k D : Nat}, D ≤ E → E < D + k → (∀ i, D ≤ i → i < E → f i = none) → zs_first f k D = some l
  | 0, D, a, b, _ => by omega
  | k + 1, D, a, b, h => by
    rcases Nat.eq_or_lt_of_le a with z | z
    · rw [z]; exact zs_first_ye h3
    · rw [zs_first_no (h D (Nat.le_refl _) z)]
      exact zs_first_hit h3 z (by omega) (fun i c d => h i (by omega) d)
theorem zs_first_congr {f g : Nat → Option (List Nat)} : ∀ {k D : Nat}, (∀ i, D ≤ i → i < D + k → (∀ j, D ≤ j → j < i → f j = none) → f i = g i) → zs_first f k D = zs_first g k D
  | 0, _, _ => rfl
  | k + 1, D, h => by
    have h0 := h D (Nat.le_refl _) (by omega) (fun j a b => by omega)
    rcases hf : f D with _ | l
    · rw [zs_first_no hf, zs_first_no (h0.symm.trans hf)]
      refine zs_first_congr (fun i a b c => h i (by omega) (by omega) (fun j d e => ?_))
      rcases Nat.eq_or_lt_of_le d with z | z
      · rw [← z]; exact hf
      · exact c j z e
    · rw [zs_first_ye hf, zs_first_ye (h0.symm.trans hf)]
def zy_ff (F : za_D → Option (List Nat)) (A : za_D) (D : Nat) : Option (List Nat) := if zs_can A D then (F (zs_acts A D)).map (fun l => D :: l) else none
def zy_find (p : Nat) (t : Int32) : Nat → za_D → Option (List Nat)
  | 0, A => if zs_own A t (za_g A) 31 = nI p then some [] else none
  | r + 1, A => zs_first (zy_ff (zy_find p t r) A) (10 * za_n A) 0
theorem zy_ff_no {F : za_D → Option (List Nat)} {A : za_D} {D : Nat} (h : zs_can A D = true) (h2 : zy_ff F A D = none) : F (zs_acts A D) = none := by
  rw [zy_ff, if_pos h] at h2
  exact Option.map_eq_none_iff.mp h2
theorem zs_ff_non {p : Nat} {t : Int32} {F : za_D → Nat → Option (List Nat)} {A : za_D} {D : Nat} (h : F (zs_acts A D) D = none) : zs_ff p t F A D = none := by
  unfold zs_ff
  split
  · rw [h]; rfl
  · rfl
/-- two deeds change places -/
theorem zy_bo : ∀ (g : Fin 64) (p q : Fin 6), p.val ≠ q.val → zb_bit (nI g.val ||| ((1 : Int32) <<< (nI p.val &&& 31))) (nI q.val) = zb_bit (nI g.val) (nI q.val) := by decide +kernel
theorem zy_bs : ∀ (g : Fin 64) (p : Fin 6), zb_bit (nI g.val ||| ((1 : Int32) <<< (nI p.val &&& 31))) (nI p.val) = true := by decide +kernel
theorem zs_can_mk {A : za_D} {D : Nat} (h1 : D / 10 < za_n A) (h2 : D % 10 < 7) (h3 : zb_bit (za_g A) (nI (D / 10)) = false) (h4 : D % 10 = 6 ∨ (za_tr A (D / 10) < 3 ∧ (D % 10 = 5 ∨ zb_bit (za_fa A (D / 10)) (nI (D % 10)) = false))) : zs_can A D = true := by
  rw [zs_can, decide_eq_true h1, decide_eq_true h2, h3]
  rcases h4 with h | ⟨h, h5 | h5⟩
  · rw [decide_eq_true h]; rfl
  · rw [decide_eq_true h, decide_eq_true h5]
    cases decide (D % 10 = 6) <;> rfl
  · rw [decide_eq_true h, h5]
    cases decide (D % 10 = 6) <;> cases decide (D % 10 = 5) <;> rfl
theorem zs_acts_eq (A : za_D) (D : Nat) : zs_acts A D = (A.1, A.2.1, (if D % 10 = 6 then za_g A ||| ((1 : Int32) <<< (nI (D / 10) &&& 31)) else za_g A), A.2.2.2.1, (if D % 10 < 5 then upd (za_fa A) (D / 10) (za_fa A (D / 10) ||| ((1 : Int32) <<< (nI (D % 10) &&& 31))) else za_fa A), (if D % 10 = 6 then za_tr A else upd (za_tr A) (D / 10) (za_tr A (D / 10) + 1)), A.2.2.2.2.2.2) := by
  unfold zs_acts
  by_cases h6 : D % 10 = 6
  · have h5 : ¬ D % 10 < 5 := by omega
    rw [if_pos h6, if_pos h6, if_neg h5, if_pos h6]
  · rw [if_neg h6, if_neg h6, if_neg h6]
    by_cases h5 : D % 10 < 5
    · rw [if_pos h5, if_pos h5]
    · rw [if_neg h5, if_neg h5]
theorem zs_acts_g (A : za_D) (D : Nat) : za_g (zs_acts A D) = if D % 10 = 6 then za_g A ||| ((1 : Int32) <<< (nI (D / 10) &&& 31)) else za_g A := by rw [zs_acts_eq]
theorem zs_acts_fa (A : za_D) (D : Nat) : za_fa (zs_acts A D) = if D % 10 < 5 then upd (za_fa A) (D / 10) (za_fa A (D / 10) ||| ((1 : Int32) <<< (nI (D % 10) &&& 31))) else za_fa A := by rw [zs_acts_eq]
theorem zs_acts_trf (A : za_D) (D : Nat) : za_tr (zs_acts A D) = if D % 10 = 6 then za_tr A else upd (za_tr A) (D / 10) (za_tr A (D / 10) + 1) := by rw [zs_acts_eq]
theorem zy_upd_comm {f : Nat → Int32} {p q : Nat} {x y : Int32} (h : ¬ p = q) : upd (upd f p x) q y = upd (upd f q y) p x := by
  funext i
  unfold upd
  by_cases h1 : i = q
  · rw [if_pos h1, if_neg (fun z => h (z.symm.trans h1)), if_pos h1]
  · rw [if_neg h1]
    split <;> rfl
theorem zy_or_comm (x y z : Int32) : (x ||| y) ||| z = (x ||| z) ||| y := by rw [Int32.or_assoc, Int32.or_comm y, ← Int32.or_assoc]
theorem zy_tr3 : ∀ T : Fin 4, nI T.val + 1 < 3 → nI T.val < 3 := by decide +kernel
theorem zy_swap {A : za_D} (hw : za_wf A) (hn : za_n A ≤ 6) {D E : Nat} (hD : zs_can A D = true) (hE : zs_can (zs_acts A D) E = true) (hlt : E < D) : zs_can A E = true ∧ zs_can (zs_acts A E) D = true ∧ zs_acts (zs_acts A E) D = zs_acts (zs_acts A D) E := by
  obtain ⟨d1, d2, d3, d4⟩ := zs_can_spec hD
  obtain ⟨e1, e2, e3, e4⟩ := zs_can_spec hE
  rw [zs_acts_n] at e1
  obtain ⟨g, hg, hge⟩ := hw.2.2.2
  have hg64 : g < 64 := Nat.lt_of_lt_of_le hg (zw_pow hn)
  have hp6 : D / 10 < 6 := by omega
  have hq6 : E / 10 < 6 := by omega
  obtain ⟨F, hF, hFe⟩ := (hw.1 _ e1).2.1
  obtain ⟨T, hT, hTe⟩ := (hw.1 _ e1).2.2
  rw [zs_acts_g] at e3
  rw [zs_acts_fa, zs_acts_trf] at e4
  by_cases hpq : D / 10 = E / 10
  · have hd6 : ¬ D % 10 = 6 := fun z => by
      rw [if_pos z, hge, ← hpq, zy_bs ⟨g, hg64⟩ ⟨D / 10, hp6⟩] at e3
      cases e3
    have he5 : E % 10 < 5 := by omega
    have hd5 : D % 10 < 6 := by omega
    rw [if_neg hd6] at e3 e4
    rcases e4 with e4 | ⟨e4, e5⟩
    · omega
    · rcases d4 with d4 | ⟨d4, d5⟩
      · omega
      · rw [← hpq, upd_at0] at e4
        rw [← hpq] at hFe
        have eF : zb_bit (za_fa A (D / 10)) (nI (E % 10)) = false := by
          rcases e5 with e5 | e5
          · omega
          · rw [← hpq] at e5
            by_cases hd : D % 10 < 5
            · rw [if_pos hd, upd_at0, hFe, zy_bo ⟨F, by omega⟩ ⟨D % 10, by omega⟩ ⟨E % 10, by omega⟩ (by show D % 10 ≠ E % 10; omega)] at e5
              rw [hFe]; exact e5
            · rw [if_neg hd] at e5; exact e5
        refine ⟨zs_can_mk e1 e2 (by rw [← hpq]; exact d3) (Or.inr ⟨by rw [← hpq]; exact d4, Or.inr (by rw [← hpq]; exact eF)⟩), zs_can_mk (by rw [zs_acts_n]; exact d1) d2 (by rw [zs_acts_g, if_neg (by omega)]; exact d3) (Or.inr ⟨by rw [zs_acts_trf, if_neg (by omega), hpq, upd_at0, ← hpq]; exact e4, ?_⟩), ?_⟩
        · rcases d5 with d5 | d5
          · exact Or.inl d5
          · by_cases hd : D % 10 < 5
            · refine Or.inr ?_
              rw [zs_acts_fa, if_pos he5, hpq, upd_at0, ← hpq, hFe, zy_bo ⟨F, by omega⟩ ⟨E % 10, by omega⟩ ⟨D % 10, by omega⟩ (by show E % 10 ≠ D % 10; omega), ← hFe]
              exact d5
            · exact Or.inl (by omega)
        · rw [zs_acts_eq (zs_acts A E), zs_acts_eq (zs_acts A D), zs_acts_fa, zs_acts_fa, zs_acts_trf, zs_acts_trf, zs_acts_g, zs_acts_g, ← hpq]
          simp only [if_neg hd6, if_neg (show ¬ E % 10 = 6 by omega), if_pos he5]
          simp only [upd_at0, zm_up]
          refine Prod.ext (by rw [zs_acts_eq, zs_acts_eq]) (Prod.ext (by rw [zs_acts_eq, zs_acts_eq]) (Prod.ext rfl (Prod.ext (by rw [zs_acts_eq, zs_acts_eq]) (Prod.ext ?_ (Prod.ext rfl (by rw [zs_acts_eq, zs_acts_eq]))))))
          dsimp only
          by_cases hd : D % 10 < 5
          · simp only [if_pos hd, upd_at0, zm_up]
            rw [zy_or_comm]
          · simp only [if_neg hd]
  · have hqp : ¬ E / 10 = D / 10 := fun z => hpq z.symm
    have gE : zb_bit (za_g A) (nI (E / 10)) = false := by
      by_cases h6 : D % 10 = 6
      · rw [if_pos h6, hge, zy_bo ⟨g, hg64⟩ ⟨D / 10, hp6⟩ ⟨E / 10, hq6⟩ hpq, ← hge] at e3; exact e3
      · rw [if_neg h6] at e3; exact e3
    have tE : (if D % 10 = 6 then za_tr A else upd (za_tr A) (D / 10) (za_tr A (D / 10) + 1)) (E / 10) = za_tr A (E / 10) := by
      split
      · rfl
      · exact upd_not hqp
    have fE : (if D % 10 < 5 then upd (za_fa A) (D / 10) (za_fa A (D / 10) ||| ((1 : Int32) <<< (nI (D % 10) &&& 31))) else za_fa A) (E / 10) = za_fa A (E / 10) := by
      split
      · exact upd_not hqp
      · rfl
    have tD : (if E % 10 = 6 then za_tr A else upd (za_tr A) (E / 10) (za_tr A (E / 10) + 1)) (D / 10) = za_tr A (D / 10) := by
      split
      · rfl
      · exact upd_not hpq
    have fD : (if E % 10 < 5 then upd (za_fa A) (E / 10) (za_fa A (E / 10) ||| ((1 : Int32) <<< (nI (E % 10) &&& 31))) else za_fa A) (D / 10) = za_fa A (D / 10) := by
      split
      · exact upd_not hpq
      · rfl
    rw [tE, fE] at e4
    refine ⟨zs_can_mk e1 e2 gE e4, zs_can_mk (by rw [zs_acts_n]; exact d1) d2 ?_ (by rw [zs_acts_trf, zs_acts_fa, tD, fD]; exact d4), ?_⟩
    · rw [zs_acts_g]
      split
      · rw [hge, zy_bo ⟨g, hg64⟩ ⟨E / 10, hq6⟩ ⟨D / 10, hp6⟩ hqp, ← hge]; exact d3
      · exact d3
    · rw [zs_acts_eq (zs_acts A E), zs_acts_eq (zs_acts A D), zs_acts_fa, zs_acts_fa, zs_acts_trf, zs_acts_trf, zs_acts_g, zs_acts_g, tE, fE, tD, fD]
      refine Prod.ext (by rw [zs_acts_eq, zs_acts_eq]) (Prod.ext (by rw [zs_acts_eq, zs_acts_eq]) (Prod.ext ?_ (Prod.ext (by rw [zs_acts_eq, zs_acts_eq]) (Prod.ext ?_ (Prod.ext ?_ (by rw [zs_acts_eq, zs_acts_eq]))))))
      · show (if D % 10 = 6 then (if E % 10 = 6 then za_g A ||| _ else za_g A) ||| _ else (if E % 10 = 6 then za_g A ||| _ else za_g A)) = (if E % 10 = 6 then (if D % 10 = 6 then za_g A ||| _ else za_g A) ||| _ else (if D % 10 = 6 then za_g A ||| _ else za_g A))
        by_cases h1 : D % 10 = 6
        · rw [if_pos h1, if_pos h1]
          by_cases h2 : E % 10 = 6
          · rw [if_pos h2, if_pos h2, zy_or_comm]
          · rw [if_neg h2, if_neg h2]
        · rw [if_neg h1, if_neg h1]
      · show (if D % 10 < 5 then upd (if E % 10 < 5 then upd (za_fa A) (E / 10) _ else za_fa A) (D / 10) _ else (if E % 10 < 5 then upd (za_fa A) (E / 10) _ else za_fa A)) = (if E % 10 < 5 then upd (if D % 10 < 5 then upd (za_fa A) (D / 10) _ else za_fa A) (E / 10) _ else (if D % 10 < 5 then upd (za_fa A) (D / 10) _ else za_fa A))
        by_cases h1 : D % 10 < 5
        · rw [if_pos h1, if_pos h1]
          by_cases h2 : E % 10 < 5
          · rw [if_pos h2, if_pos h2, zy_upd_comm hqp]
          · rw [if_neg h2, if_neg h2]
        · rw [if_neg h1, if_neg h1]
      · show (if D % 10 = 6 then (if E % 10 = 6 then za_tr A else upd (za_tr A) (E / 10) _) else upd (if E % 10 = 6 then za_tr A else upd (za_tr A) (E / 10) _) (D / 10) _) = (if E % 10 = 6 then (if D % 10 = 6 then za_tr A else upd (za_tr A) (D / 10) _) else upd (if D % 10 = 6 then za_tr A else upd (za_tr A) (D / 10) _) (E / 10) _)
        by_cases h1 : D % 10 = 6
        · rw [if_pos h1, if_pos h1]
        · rw [if_neg h1, if_neg h1]
          by_cases h2 : E % 10 = 6
          · rw [if_pos h2, if_pos h2]
          · rw [if_neg h2, if_neg h2, zy_upd_comm hqp]
theorem zy_ff_hd {F : za_D → Option (List Nat)} {A : za_D} {D : Nat} {l : List Nat} (h : zy_ff F A D = some l) : ∃ l2, l = D :: l2 := by
  by_cases hc : zs_can A D = true
  · rw [zy_ff, if_pos hc] at h
    obtain ⟨l2, -, e⟩ := Option.map_eq_some_iff.mp h
    exact ⟨l2, e.symm⟩
  · rw [zy_ff, if_neg hc] at h
    exact absurd h (by simp)
theorem zs_ff_hd {p : Nat} {t : Int32} {F : za_D → Nat → Option (List Nat)} {A : za_D} {D : Nat} {l : List Nat} (h : zs_ff p t F A D = some l) : ∃ l2, l = D :: l2 := by
  by_cases hc : zs_can A D = true
  · rw [zs_ff, if_pos hc] at h
    obtain ⟨l2, -, e⟩ := Option.map_eq_some_iff.mp h
    exact ⟨l2, e.symm⟩
  · rw [zs_ff, if_neg hc] at h
    exact absurd h (by simp)
theorem zs_can_lt {A : za_D} {D : Nat} (h : zs_can A D = true) : D < 10 * za_n A := by have := (zs_can_spec h).1; omega
theorem zy_sorted {p : Nat} {t : Int32} (r : Nat) : ∀ A : za_D, za_wf A → za_n A ≤ 6 → zy_find p t r A = zs_find p t r A 0 := by
  induction r with
  | zero => exact fun _ _ _ => rfl
  | succ r ih =>
    intro A hw hn
    show zs_first (zy_ff (zy_find p t r) A) (10 * za_n A) 0 = zs_first (zs_ff p t (zs_find p t r) A) (10 * za_n A) 0
    refine zs_first_congr (fun D _ hD hno => ?_)
    unfold zy_ff zs_ff
    by_cases hc : zs_can A D = true
    · rw [if_pos hc, if_pos hc, ih _ (hw.acts hn hc) (by rw [zs_acts_n]; exact hn)]
      congr 1
      rcases r with _ | r
      · rfl
      · have hn2 : za_n (zs_acts A D) = za_n A := zs_acts_n A D
        show zs_first (zs_ff p t (zs_find p t r) (zs_acts A D)) (10 * za_n (zs_acts A D) - 0) 0 = zs_first (zs_ff p t (zs_find p t r) (zs_acts A D)) (10 * za_n (zs_acts A D) - D) D
        have hlt := zs_can_lt hc
        rcases hf : zs_first (zs_ff p t (zs_find p t r) (zs_acts A D)) (10 * za_n (zs_acts A D) - 0) 0 with _ | l
        · exact (zs_first_non (fun i a b => zs_first_none hf i (Nat.zero_le _) (by omega))).symm
        · obtain ⟨E, h1, h2, h3, h4⟩ := zs_first_some hf
          rcases Nat.lt_or_ge E D with hED | hED
          · exfalso
            have hfy : zy_find p t (r + 1) (zs_acts A D) = some l := by
              rw [ih _ (hw.acts hn hc) (by rw [zs_acts_n]; exact hn)]
              exact hf
            have hcE : zs_can (zs_acts A D) E = true := by
              rcases z : zs_can (zs_acts A D) E with _ | _
              · rw [zs_ff_no z] at h3; cases h3
              · rfl
            obtain ⟨s1, s2, s3⟩ := zy_swap hw hn hc hcE hED
            have hnE : zy_find p t (r + 1) (zs_acts A E) = none := zy_ff_no s1 (hno E (Nat.zero_le _) hED)
            have hnD := zs_first_none hnE D (Nat.zero_le _) (by rw [zs_acts_n]; omega)
            have hnn := zy_ff_no s2 hnD
            rw [s3] at hnn
            obtain ⟨E2, g1, g2, g3, g4⟩ := zs_first_some (show zs_first (zy_ff (zy_find p t r) (zs_acts A D)) (10 * za_n (zs_acts A D)) 0 = some l from hfy)
            have hEE : E2 = E := by
              obtain ⟨l2, e2⟩ := zy_ff_hd g3
              obtain ⟨l3, e3⟩ := zs_ff_hd h3
              rw [e2] at e3
              exact (List.cons.inj e3).1
            rw [hEE] at g3
            unfold zy_ff at g3
            rw [hnn] at g3
            split at g3 <;> cases g3
          · exact (zs_first_hit h3 hED (by omega) (fun i a b => h4 i (Nat.zero_le _) b)).symm
    · rw [if_neg hc, if_neg hc]
