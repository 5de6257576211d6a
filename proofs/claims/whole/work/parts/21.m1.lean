/-! WHAT DEEDS KEEP -/
theorem zs_can_spec {A : za_D} {D : Nat} (h : zs_can A D = true) : D / 10 < za_n A ∧ D % 10 < 7 ∧ zb_bit (za_g A) (nI (D / 10)) = false ∧ (D % 10 = 6 ∨ (za_tr A (D / 10) < 3 ∧ (D % 10 = 5 ∨ zb_bit (za_fa A (D / 10)) (nI (D % 10)) = false))) := by
  simpa [zs_can, Bool.and_eq_true, Bool.or_eq_true, decide_eq_true_eq] using h
theorem zm_or : ∀ (f : Fin 64) (c : Fin 6), nI f.val ||| ((1 : Int32) <<< (nI c.val &&& 31)) = nI (f.val ||| 2 ^ c.val) := by decide +kernel
theorem zm_or32 : ∀ (f : Fin 32) (c : Fin 5), f.val ||| 2 ^ c.val < 32 := by decide +kernel
theorem zm_orn : ∀ (n : Fin 7) (g : Fin 64) (p : Fin 6), p.val < n.val → g.val < 2 ^ n.val → g.val ||| 2 ^ p.val < 2 ^ n.val := by decide +kernel
theorem zm_cl : ∀ (f : Fin 64) (c : Fin 6), nI f.val &&& (((1 : Int32) <<< (nI c.val &&& 31)) ^^^ -1) = nI (f.val &&& (63 - 2 ^ c.val)) := by decide +kernel
theorem zm_and_le (a b : Nat) : a &&& b ≤ a := Nat.and_le_left
theorem zm_rt : ∀ (f : Fin 64) (c : Fin 6), zb_bit (nI f.val) (nI c.val) = false → (nI f.val ||| ((1 : Int32) <<< (nI c.val &&& 31))) &&& (((1 : Int32) <<< (nI c.val &&& 31)) ^^^ -1) = nI f.val := by decide +kernel
theorem zm_bit : ∀ (f : Fin 64) (c : Fin 6), zb_bit (nI f.val) (nI c.val) = f.val.testBit c.val := by decide +kernel
theorem zm_tr {t : Nat} (h : nI t < 3) (ht : t < 4) : t < 3 := (nI_ltI (b := 3) (by omega) (by omega)).mp h
theorem zm_up (f : Nat → Int32) (p : Nat) (x y : Int32) : upd (upd f p x) p y = upd f p y := funext fun i => by unfold upd; split <;> rfl
theorem zm_same (f : Nat → Int32) (p : Nat) : upd f p (f p) = f := funext fun i => by
  unfold upd
  by_cases h : i = p
  · rw [if_pos h, h]
  · rw [if_neg h]
theorem zm_at (f : Nat → Int32) (p : Nat) (x : Int32) : upd f p x p = x := if_pos rfl
theorem zm_ne {f : Nat → Int32} {p i : Nat} {x : Int32} (h : i ≠ p) : upd f p x i = f i := if_neg h
theorem zw_pow {n : Nat} (h : n ≤ 6) : 2 ^ n ≤ 64 := Nat.pow_le_pow_right (n := 2) (by decide) h
theorem za_wf.sg {A : za_D} (h : za_wf A) {g : Nat} (hg : g < 2 ^ za_n A) : za_wf (za_sg A (nI g)) := ⟨h.1, h.2.1, h.2.2.1, g, hg, rfl⟩
theorem za_wf.sf {A : za_D} (h : za_wf A) (p : Nat) {f : Nat} (hf : f < 32) : za_wf (za_sf A (upd (za_fa A) p (nI f))) := by
  refine ⟨fun i hi => ⟨(h.1 i hi).1, ?_, (h.1 i hi).2.2⟩, h.2⟩
  show ∃ f', f' < 32 ∧ upd (za_fa A) p (nI f) i = nI f'
  by_cases e : i = p
  · subst e; exact ⟨f, hf, zm_at _ _ _⟩
  · rw [zm_ne e]; exact (h.1 i hi).2.1
theorem za_wf.st {A : za_D} (h : za_wf A) (p : Nat) {f : Nat} (hf : f < 4) : za_wf (za_st A (upd (za_tr A) p (nI f))) := by
  refine ⟨fun i hi => ⟨(h.1 i hi).1, (h.1 i hi).2.1, ?_⟩, h.2⟩
  show ∃ f', f' < 4 ∧ upd (za_tr A) p (nI f) i = nI f'
  by_cases e : i = p
  · subst e; exact ⟨f, hf, zm_at _ _ _⟩
  · rw [zm_ne e]; exact (h.1 i hi).2.2
theorem za_wf.so {A : za_D} (h : za_wf A) (p : Nat) {f : Nat} (hf : f < 11) : za_wf (za_so A (upd (za_od A) p (nI f))) := by
  refine ⟨h.1, fun i hi => ?_, h.2.2⟩
  show ∃ f', f' < 11 ∧ upd (za_od A) p (nI f) i = nI f'
  by_cases e : i = p
  · subst e; exact ⟨f, hf, zm_at _ _ _⟩
  · rw [zm_ne e]; exact h.2.1 i hi
theorem za_wf.sr {A : za_D} (h : za_wf A) (p : Nat) {f : Nat} (hf : f < 10) : za_wf (za_sr A (upd (za_rk A) p (nI f))) := by
  refine ⟨h.1, h.2.1, fun k hk => ⟨?_, (h.2.2.1 k hk).2⟩, h.2.2.2⟩
  show ∃ f', f' < 10 ∧ upd (za_rk A) p (nI f) k = nI f'
  by_cases e : k = p
  · subst e; exact ⟨f, hf, zm_at _ _ _⟩
  · rw [zm_ne e]; exact (h.2.2.1 k hk).1
theorem za_wf.sp {A : za_D} (h : za_wf A) (p : Nat) {f : Nat} (hf : f < 3) : za_wf (za_sp A (upd (za_pi A) p (nI f))) := by
  refine ⟨h.1, h.2.1, fun k hk => ⟨(h.2.2.1 k hk).1, (h.2.2.1 k hk).2.1, (h.2.2.1 k hk).2.2.1, ?_⟩, h.2.2.2⟩
  show ∃ f', f' < 3 ∧ upd (za_pi A) p (nI f) k = nI f'
  by_cases e : k = p
  · subst e; exact ⟨f, hf, zm_at _ _ _⟩
  · rw [zm_ne e]; exact (h.2.2.1 k hk).2.2.2
theorem za_wf.acts {A : za_D} (h : za_wf A) (hn : za_n A ≤ 6) {D : Nat} (hc : zs_can A D = true) : za_wf (zs_acts A D) := by
  obtain ⟨h1, h2, h3, h4⟩ := zs_can_spec hc
  unfold zs_acts
  split
  · next c6 =>
    obtain ⟨g, hg, eg⟩ := h.2.2.2
    have h64 := zw_pow hn
    rw [eg, zm_or ⟨g, by omega⟩ ⟨D / 10, by omega⟩]
    exact h.sg (zm_orn ⟨za_n A, by omega⟩ ⟨g, by omega⟩ ⟨D / 10, by omega⟩ h1 hg)
  · next c6 =>
    obtain ⟨ht, -⟩ := h4.resolve_left c6
    obtain ⟨t, ht4, et⟩ := (h.1 _ h1).2.2
    rw [et] at ht
    have ht3 := zm_tr ht ht4
    rw [et, nI_1]
    split
    · next c5 =>
      obtain ⟨f, hf, ef⟩ := (h.1 _ h1).2.1
      rw [ef, zm_or ⟨f, by omega⟩ ⟨D % 10, by omega⟩]
      exact (h.sf _ (zm_or32 ⟨f, hf⟩ ⟨D % 10, c5⟩)).st _ (by omega)
    · exact h.st _ (by omega)
theorem za_wf.actS {A : za_D} (h : za_wf A) (hn : za_n A ≤ 6) (D : Nat) : za_wf (zs_actS A D) := by
  unfold zs_actS
  split
  · next c => exact h.acts hn c
  · exact h
theorem zs_acts_n (A : za_D) (D : Nat) : za_n (zs_acts A D) = za_n A := by unfold zs_acts; split; rfl; split <;> rfl
theorem zs_actS_n (A : za_D) (D : Nat) : za_n (zs_actS A D) = za_n A := by unfold zs_actS; split; exact zs_acts_n A D; rfl
theorem zs_back_acts {A : za_D} (h : za_wf A) (hn : za_n A ≤ 6) {D : Nat} (hc : zs_can A D = true) : zs_back (zs_acts A D) D = A := by
  obtain ⟨h1, h2, h3, h4⟩ := zs_can_spec hc
  unfold zs_back zs_acts
  by_cases c6 : D % 10 = 6
  · rw [if_pos c6, if_pos c6]
    obtain ⟨g, hg, eg⟩ := h.2.2.2
    have h64 := zw_pow hn
    have e : (za_g A ||| ((1 : Int32) <<< (nI (D / 10) &&& 31))) &&& (((1 : Int32) <<< (nI (D / 10) &&& 31)) ^^^ -1) = za_g A := by
      rw [eg] at h3 ⊢
      exact zm_rt ⟨g, by omega⟩ ⟨D / 10, by omega⟩ h3
    show (A.1, A.2.1, _, A.2.2.2) = A
    rw [e]
  · rw [if_neg c6, if_neg c6]
    obtain ⟨ht, hf3⟩ := h4.resolve_left c6
    have eT : upd (upd (za_tr A) (D / 10) (za_tr A (D / 10) + 1)) (D / 10) (upd (za_tr A) (D / 10) (za_tr A (D / 10) + 1) (D / 10) - 1) = za_tr A := by
      rw [zm_at, zm_up, Int32.add_sub_cancel, zm_same]
    by_cases c5 : D % 10 < 5
    · rw [if_pos c5, if_pos c5]
      obtain ⟨f, hf, ef⟩ := (h.1 _ h1).2.1
      have hb : zb_bit (za_fa A (D / 10)) (nI (D % 10)) = false := hf3.resolve_left (by omega)
      have eF : upd (upd (za_fa A) (D / 10) (za_fa A (D / 10) ||| ((1 : Int32) <<< (nI (D % 10) &&& 31)))) (D / 10) (upd (za_fa A) (D / 10) (za_fa A (D / 10) ||| ((1 : Int32) <<< (nI (D % 10) &&& 31))) (D / 10) &&& (((1 : Int32) <<< (nI (D % 10) &&& 31)) ^^^ -1)) = za_fa A := by
        rw [zm_at, zm_up]
        rw [ef] at hb
        have e := zm_rt ⟨f, by omega⟩ ⟨D % 10, by omega⟩ hb
        rw [ef, e, ← ef, zm_same]
      show (A.1, A.2.1, A.2.2.1, A.2.2.2.1, upd (upd (za_fa A) (D / 10) (za_fa A (D / 10) ||| ((1 : Int32) <<< (nI (D % 10) &&& 31)))) (D / 10) (upd (za_fa A) (D / 10) (za_fa A (D / 10) ||| ((1 : Int32) <<< (nI (D % 10) &&& 31))) (D / 10) &&& (((1 : Int32) <<< (nI (D % 10) &&& 31)) ^^^ -1)), upd (upd (za_tr A) (D / 10) (za_tr A (D / 10) + 1)) (D / 10) (upd (za_tr A) (D / 10) (za_tr A (D / 10) + 1) (D / 10) - 1), A.2.2.2.2.2.2) = A
      rw [eF, eT]
    · rw [if_neg c5, if_neg c5]
      show (A.1, A.2.1, A.2.2.1, A.2.2.2.1, A.2.2.2.2.1, upd (upd (za_tr A) (D / 10) (za_tr A (D / 10) + 1)) (D / 10) (upd (za_tr A) (D / 10) (za_tr A (D / 10) + 1) (D / 10) - 1), A.2.2.2.2.2.2) = A
      rw [eT]
