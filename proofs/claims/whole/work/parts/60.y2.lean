/-! THE MODEL'S WAYS -/
def zy_H (p : Nat) (t : Int32) : Nat → za_D → Nat → Bool
  | 0, A, _ => decide (zs_own A t (za_g A) 31 = nI p)
  | r + 1, A, w => zs_can A (w / 60 ^ r % 60) && zy_H p t r (zs_acts A (w / 60 ^ r % 60)) w
def zy_B : Nat → za_D → Nat → Nat
  | 0, _, _ => 1
  | r + 1, A, w => if zs_can A (w / 60 ^ r % 60) then zy_B r (zs_acts A (w / 60 ^ r % 60)) w else 60 ^ r
def zy_al : Nat → za_D → Nat → Prop
  | 0, _, _ => True
  | r + 1, A, w => if zs_can A (w / 60 ^ r % 60) then zy_al r (zs_acts A (w / 60 ^ r % 60)) w else w % 60 ^ r = 0
def zy_dig : Nat → Nat → List Nat
  | 0, _ => []
  | r + 1, w => (w / 60 ^ r % 60) :: zy_dig r w
theorem zy_p60 (r : Nat) : 0 < 60 ^ r := Nat.pow_pos (by decide)
theorem zy_md {r w w2 : Nat} (h : w % 60 ^ (r + 1) = w2 % 60 ^ (r + 1)) : w / 60 ^ r % 60 = w2 / 60 ^ r % 60 ∧ w % 60 ^ r = w2 % 60 ^ r := by
  rw [Nat.pow_succ] at h
  constructor
  · rw [← Nat.mod_mul_right_div_self, ← Nat.mod_mul_right_div_self, h]
  · rw [← Nat.mod_mod_of_dvd w (Nat.dvd_mul_right (60 ^ r) 60), h, Nat.mod_mod_of_dvd w2 (Nat.dvd_mul_right (60 ^ r) 60)]
theorem zy_H_md {p : Nat} {t : Int32} : ∀ {r : Nat} {A : za_D} {w w2 : Nat}, w % 60 ^ r = w2 % 60 ^ r → zy_H p t r A w = zy_H p t r A w2
  | 0, _, _, _, _ => rfl
  | r + 1, A, w, w2, h => by
    obtain ⟨h1, h2⟩ := zy_md h
    rw [zy_H, zy_H, h1, zy_H_md h2]
theorem zy_dig_md : ∀ {r w w2 : Nat}, w % 60 ^ r = w2 % 60 ^ r → zy_dig r w = zy_dig r w2
  | 0, _, _, _ => rfl
  | r + 1, w, w2, h => by
    obtain ⟨h1, h2⟩ := zy_md h
    rw [zy_dig, zy_dig, h1, zy_dig_md h2]
theorem zy_dig_len : ∀ r w, (zy_dig r w).length = r
  | 0, _ => rfl
  | r + 1, w => by rw [zy_dig, List.length_cons, zy_dig_len r w]
theorem zy_dig_at : ∀ r w j, j < r → (zy_dig r w).getD j 0 = w / 60 ^ (r - 1 - j) % 60
  | 0, _, j, h => absurd h (Nat.not_lt_zero _)
  | r + 1, w, 0, _ => by rw [zy_dig, Nat.add_sub_cancel]; rfl
  | r + 1, w, j + 1, h => by
    rw [zy_dig]
    show (zy_dig r w).getD j 0 = _
    rw [zy_dig_at r w j (by omega), show r + 1 - 1 - (j + 1) = r - 1 - j by omega]
theorem zy_al_0 : ∀ {r : Nat} {A : za_D} {w : Nat}, w % 60 ^ r = 0 → zy_al r A w
  | 0, _, _, _ => trivial
  | r + 1, A, w, h => by
    have h2 : w % 60 ^ r = 0 := by
      have h1 := (zy_md (r := r) (w := w) (w2 := 0) (by rw [h, Nat.zero_mod])).2
      rw [h1, Nat.zero_mod]
    rw [zy_al]
    split
    · exact zy_al_0 h2
    · exact h2
/-- the top figure and the rest -/
theorem zy_top {r w : Nat} : w % 60 ^ (r + 1) = w % 60 ^ r + 60 ^ r * (w / 60 ^ r % 60) := by rw [Nat.pow_succ, Nat.mod_mul]
theorem zy_uni {P v D v2 D2 B : Nat} (hP : 0 < P) (hv : v + B ≤ P) (h2 : v2 < P) (ha : v + P * D ≤ v2 + P * D2) (hb : v2 + P * D2 < v + P * D + B) : D2 = D ∧ v ≤ v2 ∧ v2 < v + B := by
  have hlt : v < P := by omega
  have hD : D2 = D := by
    rcases Nat.lt_trichotomy D2 D with z | z | z
    · have h3 := Nat.mul_le_mul_left P (show D2 + 1 ≤ D from z)
      rw [Nat.mul_succ] at h3
      omega
    · exact z
    · have h3 := Nat.mul_le_mul_left P (show D + 1 ≤ D2 from z)
      rw [Nat.mul_succ] at h3
      omega
  subst hD
  exact ⟨rfl, by omega, by omega⟩
theorem zy_bl {p : Nat} {t : Int32} : ∀ r (A : za_D) (w : Nat), zy_al r A w → w % 60 ^ r + zy_B r A w ≤ 60 ^ r ∧ 0 < zy_B r A w ∧ (zy_H p t r A w = false → ∀ w2, w % 60 ^ r ≤ w2 % 60 ^ r → w2 % 60 ^ r < w % 60 ^ r + zy_B r A w → zy_H p t r A w2 = false) ∧ zy_al r A (w + zy_B r A w)
  | 0, A, w, _ => ⟨by rw [Nat.pow_zero, Nat.mod_one]; exact Nat.le_refl 1, Nat.one_pos, fun h _ _ _ => h, trivial⟩
  | r + 1, A, w, ha => by
    have hP := zy_p60 r
    have hD : w / 60 ^ r % 60 < 60 := Nat.mod_lt _ (by decide)
    have hv : w % 60 ^ r < 60 ^ r := Nat.mod_lt _ hP
    have hPD : 60 ^ r * (w / 60 ^ r % 60) + 60 ^ r ≤ 60 ^ (r + 1) := by
      rw [Nat.pow_succ, ← Nat.mul_succ]
      exact Nat.mul_le_mul_left _ hD
    rw [zy_al] at ha
    rw [zy_B, zy_top]
    by_cases hc : zs_can A (w / 60 ^ r % 60) = true
    · rw [if_pos hc] at ha
      rw [if_pos hc]
      obtain ⟨i1, i2, i3, i4⟩ := zy_bl (p := p) (t := t) r (zs_acts A (w / 60 ^ r % 60)) w ha
      refine ⟨by omega, i2, fun hH w2 h1 h2 => ?_, ?_⟩
      · rw [zy_H, hc, Bool.true_and] at hH
        rw [zy_top] at h1 h2
        obtain ⟨u1, u2, u3⟩ := zy_uni hP i1 (Nat.mod_lt w2 hP) h1 (by omega)
        rw [zy_H, u1, i3 hH w2 u2 u3, Bool.and_false]
      · rcases Nat.lt_or_ge (w % 60 ^ r + zy_B r (zs_acts A (w / 60 ^ r % 60)) w) (60 ^ r) with z | z
        · have e : (w + zy_B r (zs_acts A (w / 60 ^ r % 60)) w) / 60 ^ r = w / 60 ^ r := by
            have h1 := Nat.div_add_mod w (60 ^ r)
            refine Nat.div_eq_of_lt_le ?_ ?_
            · rw [Nat.mul_comm]; omega
            · rw [Nat.mul_comm, Nat.mul_succ]; omega
          rw [zy_al, e, if_pos hc]
          exact i4
        · have e : (w + zy_B r (zs_acts A (w / 60 ^ r % 60)) w) % 60 ^ r = 0 := by
            rw [Nat.add_mod]
            have h1 : (w % 60 ^ r + zy_B r (zs_acts A (w / 60 ^ r % 60)) w) % 60 ^ r = 0 := by
              rw [show w % 60 ^ r + zy_B r (zs_acts A (w / 60 ^ r % 60)) w = 60 ^ r by omega, Nat.mod_self]
            rw [Nat.add_mod, Nat.mod_mod] at h1
            exact h1
          rw [zy_al]
          split
          · exact zy_al_0 e
          · exact e
    · rw [if_neg hc] at ha
      rw [if_neg hc]
      refine ⟨by omega, hP, fun _ w2 h1 h2 => ?_, ?_⟩
      · rw [zy_top] at h1 h2
        obtain ⟨u1, u2, u3⟩ := zy_uni hP (show w % 60 ^ r + 60 ^ r ≤ 60 ^ r by omega) (Nat.mod_lt w2 hP) h1 (by omega)
        rw [zy_H, u1, show zs_can A (w / 60 ^ r % 60) = false by simpa using hc, Bool.false_and]
      · have e : (w + 60 ^ r) % 60 ^ r = 0 := by rw [Nat.add_mod_right]; exact ha
        rw [zy_al]
        split
        · exact zy_al_0 e
        · exact e
theorem zy_step {p : Nat} {t : Int32} {r w : Nat} {A : za_D} (hw : w < 60 ^ r) (ha : zy_al r A w) (hno : ∀ w2, w2 < w → zy_H p t r A w2 = false) (hH : zy_H p t r A w = false) : w + zy_B r A w ≤ 60 ^ r ∧ 0 < zy_B r A w ∧ (∀ w2, w2 < w + zy_B r A w → zy_H p t r A w2 = false) ∧ zy_al r A (w + zy_B r A w) := by
  obtain ⟨h1, h2, h3, h4⟩ := zy_bl (p := p) (t := t) r A w ha
  rw [Nat.mod_eq_of_lt hw] at h1 h3
  refine ⟨h1, h2, fun w2 hw2 => ?_, h4⟩
  rcases Nat.lt_or_ge w2 w with z | z
  · exact hno w2 z
  · exact h3 hH w2 (by rw [Nat.mod_eq_of_lt (by omega)]; exact z) (by rw [Nat.mod_eq_of_lt (by omega)]; exact hw2)
theorem zy_ffe {F : za_D → Option (List Nat)} {A : za_D} {D : Nat} {l : List Nat} (h : zy_ff F A D = some l) : zs_can A D = true ∧ ∃ l2, F (zs_acts A D) = some l2 ∧ l = D :: l2 := by
  by_cases hc : zs_can A D = true
  · rw [zy_ff, if_pos hc] at h
    obtain ⟨l2, h2, e⟩ := Option.map_eq_some_iff.mp h
    exact ⟨hc, l2, h2, e.symm⟩
  · rw [zy_ff, if_neg hc] at h
    exact absurd h (by simp)
theorem zy_find_H {p : Nat} {t : Int32} : ∀ r (A : za_D), za_n A ≤ 6 → (zy_find p t r A = none ∧ ∀ w, w < 60 ^ r → zy_H p t r A w = false) ∨ ∃ w, w < 60 ^ r ∧ zy_H p t r A w = true ∧ (∀ w2, w2 < w → zy_H p t r A w2 = false) ∧ zy_find p t r A = some (zy_dig r w)
  | 0, A, _ => by
    by_cases h : zs_own A t (za_g A) 31 = nI p
    · exact Or.inr ⟨0, Nat.one_pos, decide_eq_true h, fun w2 z => absurd z (Nat.not_lt_zero _), if_pos h⟩
    · exact Or.inl ⟨if_neg h, fun w _ => decide_eq_false h⟩
  | r + 1, A, hn => by
    have hP := zy_p60 r
    have key : ∀ w, zs_can A (w / 60 ^ r % 60) = true → zy_ff (zy_find p t r) A (w / 60 ^ r % 60) = none → zy_H p t r (zs_acts A (w / 60 ^ r % 60)) w = false := fun w hc hnn => by
      rcases zy_find_H (p := p) (t := t) r (zs_acts A (w / 60 ^ r % 60)) (by rw [zs_acts_n]; exact hn) with ⟨-, h⟩ | ⟨v, -, -, -, h⟩
      · rw [zy_H_md (w2 := w % 60 ^ r) (Nat.mod_mod _ _).symm]
        exact h _ (Nat.mod_lt _ hP)
      · rw [zy_ff_no hc hnn] at h
        exact absurd h (by simp)
    have hfind : zy_find p t (r + 1) A = zs_first (zy_ff (zy_find p t r) A) (10 * za_n A) 0 := rfl
    rcases hf : zs_first (zy_ff (zy_find p t r) A) (10 * za_n A) 0 with _ | l
    · refine Or.inl ⟨hfind.trans hf, fun w _ => ?_⟩
      rw [zy_H]
      rcases hc : zs_can A (w / 60 ^ r % 60) with _ | _
      · rfl
      · rw [key w hc (zs_first_none hf _ (Nat.zero_le _) (by have := zs_can_lt hc; omega))]; rfl
    · obtain ⟨E, h1, h2, h3, h4⟩ := zs_first_some hf
      obtain ⟨hc, l2, g1, g2⟩ := zy_ffe h3
      have hE := zs_can_lt hc
      rcases zy_find_H (p := p) (t := t) r (zs_acts A E) (by rw [zs_acts_n]; exact hn) with ⟨h, -⟩ | ⟨v, v1, v2, v3, v4⟩
      · rw [g1] at h; exact absurd h (by simp)
      · have hlt : 60 ^ r * E + v < 60 ^ (r + 1) := by
          have h5 := Nat.mul_le_mul_left (60 ^ r) (show E + 1 ≤ 60 by omega)
          rw [Nat.mul_succ] at h5
          rw [Nat.pow_succ]
          omega
        have hdiv : (60 ^ r * E + v) / 60 ^ r = E := by
          rw [Nat.mul_add_div hP, Nat.div_eq_of_lt v1, Nat.add_zero]
        have hmod : (60 ^ r * E + v) % 60 ^ r = v := by rw [Nat.mul_add_mod, Nat.mod_eq_of_lt v1]
        have htop : (60 ^ r * E + v) / 60 ^ r % 60 = E := by rw [hdiv, Nat.mod_eq_of_lt (by omega)]
        have hvm : (60 ^ r * E + v) % 60 ^ r = v % 60 ^ r := by rw [hmod, Nat.mod_eq_of_lt v1]
        refine Or.inr ⟨60 ^ r * E + v, hlt, ?_, fun w2 hw2 => ?_, ?_⟩
        · rw [zy_H, htop, hc, Bool.true_and, zy_H_md hvm]; exact v2
        · have hq : w2 / 60 ^ r ≤ E := by
            rw [← hdiv]; exact Nat.div_le_div_right (Nat.le_of_lt hw2)
          have hq2 : w2 / 60 ^ r % 60 = w2 / 60 ^ r := Nat.mod_eq_of_lt (by omega)
          rw [zy_H]
          rcases hc2 : zs_can A (w2 / 60 ^ r % 60) with _ | _
          · rfl
          · rw [Bool.true_and]
            rcases Nat.lt_or_ge (w2 / 60 ^ r) E with z | z
            · exact key w2 hc2 (h4 _ (Nat.zero_le _) (by rw [hq2]; exact z))
            · have e : w2 / 60 ^ r = E := by omega
              have hm := Nat.div_add_mod w2 (60 ^ r)
              rw [e] at hm
              rw [hq2, e, zy_H_md (w2 := w2 % 60 ^ r) (Nat.mod_mod _ _).symm]
              exact v3 _ (by omega)
        · rw [hfind, hf, g2, zy_dig, htop, zy_dig_md hvm]
          rw [v4] at g1
          rw [Option.some.inj g1]
/-- what the search of the model gives -/
theorem zy_hit {A : za_D} (hw : za_wf A) (hn : za_n A ≤ 6) {p r w : Nat} {t : Int32} (h1 : w < 60 ^ r) (h2 : zy_H p t r A w = true) (h3 : ∀ w2, w2 < w → zy_H p t r A w2 = false) : zs_find p t r A 0 = some (zy_dig r w) := by
  rw [← zy_sorted r A hw hn]
  rcases zy_find_H (p := p) (t := t) r A hn with ⟨-, h⟩ | ⟨v, v1, v2, v3, v4⟩
  · rw [h w h1] at h2; cases h2
  · rcases Nat.lt_trichotomy w v with z | z | z
    · rw [v3 w z] at h2; cases h2
    · rw [z]; exact v4
    · rw [h3 v z] at v2; cases v2
theorem zy_miss {A : za_D} (hw : za_wf A) (hn : za_n A ≤ 6) {p r : Nat} {t : Int32} (h : ∀ w, w < 60 ^ r → zy_H p t r A w = false) : zs_find p t r A 0 = none := by
  rw [← zy_sorted r A hw hn]
  rcases zy_find_H (p := p) (t := t) r A hn with ⟨h1, -⟩ | ⟨v, v1, v2, v3, v4⟩
  · exact h1
  · rw [h v v1] at v2; cases v2
