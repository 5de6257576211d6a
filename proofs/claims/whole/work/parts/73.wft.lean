/-! WHAT A TEXT THAT IS TAKEN GIVES -/
/-- a draft, and who is named -/
def zw_q (A : za_D) (N : Int32) : Prop := za_n A ≤ 6 ∧ zt_pw A ∧ (∀ i, i < 6 → (∃ f, f < 32 ∧ za_fa A i = nI f) ∧ za_tr A i = 0) ∧ (∀ f, f < 5 → ∃ o, o < 11 ∧ za_od A f = nI o) ∧ (∀ k, k < za_m A → (∃ r, r < 10 ∧ za_rk A k = nI r) ∧ (∃ t, t < 4 ∧ za_th A k = nI t) ∧ (∃ c v, c < 6 ∧ v < 10 ∧ za_cl A k = nI c ∧ za_nu A k = nI v ∧ (c = 4 → v < 6) ∧ (c = 2 → v < 5)) ∧ (∃ q, q < 3 ∧ za_pi A k = nI q)) ∧ ∃ g b, g < 64 ∧ b < 64 ∧ za_g A = nI g ∧ N = nI b ∧ b &&& g = g
theorem zw_gb : ∀ (g b : Fin 64) (q : Fin 6), b.val &&& g.val = g.val → (b.val ||| 2 ^ q.val) &&& g.val = g.val ∧ (b.val ||| 2 ^ q.val) &&& (g.val ||| 2 ^ q.val) = g.val ||| 2 ^ q.val := by decide +kernel
theorem zw_or64 : ∀ (g : Fin 64) (q : Fin 6), g.val ||| 2 ^ q.val < 64 := by decide +kernel
theorem zw_q.nil : zw_q zt_nil 0 := ⟨Nat.zero_le _, fun i h => absurd h (Nat.not_lt_zero _), fun i _ => ⟨⟨0, by omega, rfl⟩, rfl⟩, fun f _ => ⟨5, by omega, rfl⟩, fun k h => absurd h (Nat.not_lt_zero _), 0, 0, by omega, by omega, rfl, rfl, rfl⟩
theorem zw_q.name {A : za_D} {N : Int32} (h : zw_q A N) {q : Nat} (hq : q < 6) : zw_q A (N ||| (1 <<< (nI q &&& 31))) := by
  obtain ⟨g, b, h1, h2, h3, h4, h5⟩ := h.2.2.2.2.2
  refine ⟨h.1, h.2.1, h.2.2.1, h.2.2.2.1, h.2.2.2.2.1, g, b ||| 2 ^ q, h1, zw_or64 ⟨b, h2⟩ ⟨q, hq⟩, h3, ?_, (zw_gb ⟨g, h1⟩ ⟨b, h2⟩ ⟨q, hq⟩ h5).1⟩
  rw [h4]
  exact zm_or ⟨b, h2⟩ ⟨q, hq⟩
theorem zw_q.gone {A : za_D} {N : Int32} (h : zw_q A N) {q : Nat} (hq : q < 6) : zw_q (za_sg A (za_g A ||| (1 <<< (nI q &&& 31)))) (N ||| (1 <<< (nI q &&& 31))) := by
  obtain ⟨g, b, h1, h2, h3, h4, h5⟩ := h.2.2.2.2.2
  refine ⟨h.1, h.2.1, h.2.2.1, h.2.2.2.1, h.2.2.2.2.1, g ||| 2 ^ q, b ||| 2 ^ q, zw_or64 ⟨g, h1⟩ ⟨q, hq⟩, zw_or64 ⟨b, h2⟩ ⟨q, hq⟩, ?_, ?_, (zw_gb ⟨g, h1⟩ ⟨b, h2⟩ ⟨q, hq⟩ h5).2⟩
  · show za_g A ||| (1 <<< (nI q &&& 31)) = _
    rw [h3]
    exact zm_or ⟨g, h1⟩ ⟨q, hq⟩
  · rw [h4]
    exact zm_or ⟨b, h2⟩ ⟨q, hq⟩
theorem zw_q.fact {A : za_D} {N : Int32} (h : zw_q A N) {q v : Nat} (hq : q < 6) (hv : v < 5) : zw_q (za_sf A (upd (za_fa A) q (za_fa A q ||| (1 <<< (nI v &&& 31))))) N := by
  obtain ⟨F, hF, hFe⟩ := (h.2.2.1 q hq).1
  refine ⟨h.1, h.2.1, fun i hi => ⟨?_, (h.2.2.1 i hi).2⟩, h.2.2.2.1, h.2.2.2.2.1, h.2.2.2.2.2⟩
  show ∃ f, f < 32 ∧ upd (za_fa A) q (za_fa A q ||| (1 <<< (nI v &&& 31))) i = nI f
  by_cases z : i = q
  · rw [z, zw_updE, hFe]
    exact ⟨F ||| 2 ^ v, zv_or32 hF hv, zm_or ⟨F, by omega⟩ ⟨v, by omega⟩⟩
  · rw [zw_updN z]
    exact (h.2.2.1 i hi).1
theorem zw_q.odds {A : za_D} {N : Int32} (h : zw_q A N) {q v : Nat} (hv : v < 11) : zw_q (za_so A (upd (za_od A) q (nI v))) N := by
  refine ⟨h.1, h.2.1, h.2.2.1, fun f hf => ?_, h.2.2.2.2.1, h.2.2.2.2.2⟩
  show ∃ o, o < 11 ∧ upd (za_od A) q (nI v) f = nI o
  by_cases z : f = q
  · rw [z, zw_updE]; exact ⟨v, hv, rfl⟩
  · rw [zw_updN z]; exact h.2.2.2.1 f hf
theorem zw_q.add {A : za_D} {N : Int32} (h : zw_q A N) (hn : za_n A < 6) {v : Int32} (hv : v = -4 ∨ ∃ q, q < za_n A ∧ v = nI q) : zw_q (zt_add A v) N := ⟨hn, h.2.1.add hv, h.2.2.1, h.2.2.2.1, h.2.2.2.2.1, h.2.2.2.2.2⟩
theorem zw_q.law {A : za_D} {N : Int32} (h : zw_q A N) {r t c v p : Int32} (hr : ∃ n, n < 10 ∧ r = nI n) (ht : ∃ n, n < 4 ∧ t = nI n) (hc : ∃ a b, a < 6 ∧ b < 10 ∧ c = nI a ∧ v = nI b ∧ (a = 4 → b < 6) ∧ (a = 2 → b < 5)) (hp : ∃ n, n < 3 ∧ p = nI n) : zw_q (zt_law A r t c v p) N := by
  refine ⟨h.1, h.2.1, h.2.2.1, h.2.2.2.1, fun k hk => ?_, h.2.2.2.2.2⟩
  show (∃ n, n < 10 ∧ upd (za_rk A) (za_m A) r k = nI n) ∧ (∃ n, n < 4 ∧ upd (za_th A) (za_m A) t k = nI n) ∧ (∃ a b, a < 6 ∧ b < 10 ∧ upd (za_cl A) (za_m A) c k = nI a ∧ upd (za_nu A) (za_m A) v k = nI b ∧ (a = 4 → b < 6) ∧ (a = 2 → b < 5)) ∧ (∃ n, n < 3 ∧ upd (za_pi A) (za_m A) p k = nI n)
  have hk2 : k < za_m A + 1 := hk
  by_cases z : k = za_m A
  · rw [z, zw_updE, zw_updE, zw_updE, zw_updE, zw_updE]
    exact ⟨hr, ht, hc, hp⟩
  · rw [zw_updN z, zw_updN z, zw_updN z, zw_updN z, zw_updN z]
    exact h.2.2.2.2.1 k (by omega)
theorem zw_num_in {T : za_T} {P : za_P} {lo hi : Int32} {n : Nat} (hn : n < 1000) (hh : hi = nI n) (hl : 0 ≤ lo) (h : (zt_num T lo hi P).1 = 0) : ∃ q, q ≤ n ∧ (zt_adv T P).1.2.2.2 = nI q := by
  obtain ⟨-, h1, h2⟩ := zt_num_ok h
  rw [hh] at h2
  exact zx_3ex (n := n) (fun z => by rw [Int32.le_iff_toInt_le] at h1 hl; rw [Int32.lt_iff_toInt_lt] at z; omega) h2 (by omega)
theorem zw_q_one {T : za_T} {P : za_P} (h : zw_q P.2.1 P.2.2.1) (h0 : (zt_one T P).1 = 0) : zw_q (zt_one T P).2.2.1 (zt_one T P).2.2.2.1 := by
  unfold zt_one at h0 ⊢
  by_cases h1 : ¬ za_n P.2.1 < 6
  · rw [if_pos h1] at h0; exact absurd h0 zw_n5
  · rw [if_neg h1] at h0 ⊢
    have hn : za_n P.2.1 < 6 := by omega
    by_cases h2 : (zt_adv T P).1.2.1 = 2
    · rw [if_pos h2] at h0 ⊢
      by_cases h3 : zb_in (zt_adv T P).1.2.2.2 (za_n P.2.1) = false
      · rw [if_pos h3] at h0; exact absurd h0 zw_n3
      · rw [if_neg h3]
        obtain ⟨q, hq, e⟩ := (zb_in_iff (by omega)).mp (show zb_in (zt_adv T P).1.2.2.2 (za_n P.2.1) = true by simpa using h3)
        exact h.add hn (Or.inr ⟨q, hq, e⟩)
    · rw [if_neg h2]; exact h.add hn (Or.inl rfl)
theorem zw_q_fact {T : za_T} {P : za_P} (h : zw_q P.2.1 P.2.2.1) (h0 : (zt_fact T P).1 = 0) : zw_q (zt_fact T P).2.2.1 (zt_fact T P).2.2.2.1 := by
  unfold zt_fact at h0 ⊢
  by_cases h1 : ¬ (zt_num T 0 5 P).1 = 0
  · rw [if_pos h1] at h0; exact absurd h0 h1
  · rw [if_neg h1] at h0 ⊢
    obtain ⟨q, hq, e⟩ := zw_num_in (n := 5) (by omega) rfl (by decide) (show (zt_num T 0 5 P).1 = 0 by simpa using h1)
    unfold zt_fact2 at h0 ⊢
    by_cases h2 : ¬ (zt_num T 0 4 (zt_adv T P)).1 = 0
    · rw [if_pos h2] at h0; exact absurd h0 h2
    · rw [if_neg h2] at h0 ⊢
      obtain ⟨v, hv, e2⟩ := zw_num_in (n := 4) (by omega) rfl (by decide) (show (zt_num T 0 4 (zt_adv T P)).1 = 0 by simpa using h2)
      by_cases h3 : zb_bit (za_fa (zt_num T 0 4 (zt_adv T P)).2.2.1 (zt_adv T P).1.2.2.2.toNatClampNeg) (zt_num T 0 4 (zt_adv T P)).2.1.2.2.2 = true
      · rw [if_pos h3] at h0; exact absurd h0 zw_n4
      · rw [if_neg h3]
        show zw_q (za_sf P.2.1 (upd (za_fa P.2.1) (zt_adv T P).1.2.2.2.toNatClampNeg (za_fa P.2.1 (zt_adv T P).1.2.2.2.toNatClampNeg ||| (1 <<< ((zt_adv T (zt_adv T P)).1.2.2.2 &&& 31))))) (P.2.2.1 ||| (1 <<< ((zt_adv T P).1.2.2.2 &&& 31)))
        rw [e, e2, nI_clamp (by omega)]
        exact (h.fact (by omega) (by omega)).name (by omega)
theorem zw_q_gone {T : za_T} {P : za_P} (h : zw_q P.2.1 P.2.2.1) (h0 : (zt_gone T P).1 = 0) : zw_q (zt_gone T P).2.2.1 (zt_gone T P).2.2.2.1 := by
  unfold zt_gone at h0 ⊢
  by_cases h1 : ¬ (zt_num T 0 5 P).1 = 0
  · rw [if_pos h1] at h0; exact absurd h0 h1
  · rw [if_neg h1] at h0 ⊢
    obtain ⟨q, hq, e⟩ := zw_num_in (n := 5) (by omega) rfl (by decide) (show (zt_num T 0 5 P).1 = 0 by simpa using h1)
    unfold zt_gone2 at h0 ⊢
    by_cases h3 : zb_bit (za_g (zt_adv T P).2.1) (zt_adv T P).1.2.2.2 = true
    · rw [if_pos h3] at h0; exact absurd h0 zw_n4
    · rw [if_neg h3]
      show zw_q (za_sg P.2.1 (za_g P.2.1 ||| (1 <<< ((zt_adv T P).1.2.2.2 &&& 31)))) (P.2.2.1 ||| (1 <<< ((zt_adv T P).1.2.2.2 &&& 31)))
      rw [e]
      exact h.gone (by omega)
theorem zw_q_odds {T : za_T} {P : za_P} (h : zw_q P.2.1 P.2.2.1) (h0 : (zt_odds T P).1 = 0) : zw_q (zt_odds T P).2.2.1 (zt_odds T P).2.2.2.1 := by
  unfold zt_odds at h0 ⊢
  by_cases h1 : ¬ (zt_num T 0 4 P).1 = 0
  · rw [if_pos h1] at h0; exact absurd h0 h1
  · rw [if_neg h1] at h0 ⊢
    by_cases h3 : zb_bit P.2.2.2 (zt_adv T P).1.2.2.2 = true
    · rw [if_pos h3] at h0; exact absurd h0 zw_n4
    · rw [if_neg h3] at h0 ⊢
      unfold zt_odds2 at h0 ⊢
      by_cases h2 : ¬ (zt_num T 0 10 (zt_adv T P)).1 = 0
      · rw [if_pos h2] at h0; exact absurd h0 h2
      · rw [if_neg h2]
        obtain ⟨v, hv, e2⟩ := zw_num_in (n := 10) (by omega) rfl (by decide) (show (zt_num T 0 10 (zt_adv T P)).1 = 0 by simpa using h2)
        show zw_q (za_so P.2.1 (upd (za_od P.2.1) (zt_adv T P).1.2.2.2.toNatClampNeg (zt_adv T (zt_adv T P)).1.2.2.2)) P.2.2.1
        rw [e2]
        exact h.odds (by omega)
theorem zw_q_rule4 {T : za_T} {R : za_P} {r t c v : Int32} (h : zw_q R.2.1 R.2.2.1) (hr : ∃ n, n < 10 ∧ r = nI n) (ht : ∃ n, n < 4 ∧ t = nI n) (hc : ∃ a b, a < 6 ∧ b < 10 ∧ c = nI a ∧ v = nI b ∧ (a = 4 → b < 6) ∧ (a = 2 → b < 5)) (h0 : (zt_rule4 T r t c v R).1 = 0) : zw_q (zt_rule4 T r t c v R).2.2.1 (zt_rule4 T r t c v R).2.2.2.1 := by
  unfold zt_rule4 at h0 ⊢
  by_cases h1 : zt_pck T R.1 = -4
  · rw [if_pos h1] at h0; exact absurd h0 zt_mf0
  · rw [if_neg h1]
    show zw_q (zt_law R.2.1 r t c v (zt_pck T R.1)) (if c = 4 then R.2.2.1 ||| (1 <<< (v &&& 31)) else R.2.2.1)
    have hp : ∃ n, n < 3 ∧ zt_pck T R.1 = nI n := by
      unfold zt_pck at h1 ⊢
      by_cases w1 : zt_isW T R.1 10 = true
      · rw [if_pos w1]; exact ⟨0, by omega, rfl⟩
      · rw [if_neg w1] at h1 ⊢
        by_cases w2 : zt_isW T R.1 11 = true
        · rw [if_pos w2]; exact ⟨1, by omega, rfl⟩
        · rw [if_neg w2] at h1 ⊢
          by_cases w3 : zt_isW T R.1 12 = true
          · rw [if_pos w3]; exact ⟨2, by omega, rfl⟩
          · rw [if_neg w3] at h1; exact absurd rfl h1
    have hl := h.law hr ht hc hp
    obtain ⟨a, b, h2, h3, h4, h5, h6, h7⟩ := hc
    by_cases hc4 : c = 4
    · rw [if_pos hc4, h5]
      rw [h5] at hl
      exact hl.name (h6 ((nI_eq (b := 4) (by omega) (by omega)).mp (h4.symm.trans hc4)))
    · rw [if_neg hc4]; exact hl
theorem zw_most_ex : ∀ a : Fin 6, ∃ n : Nat, n < 10 ∧ zt_most (nI a.val) = nI n ∧ (a.val = 4 → n < 6) ∧ (a.val = 2 → n < 5) := by decide +kernel
theorem zw_q_rule2 {T : za_T} {R : za_P} {r t : Int32} (h : zw_q R.2.1 R.2.2.1) (hr : ∃ n, n < 10 ∧ r = nI n) (ht : ∃ n, n < 4 ∧ t = nI n) (h0 : (zt_rule2 T r t R).1 = 0) : zw_q (zt_rule2 T r t R).2.2.1 (zt_rule2 T r t R).2.2.2.1 := by
  unfold zt_rule2 at h0 ⊢
  by_cases h1 : zt_clm T R.1 = -4
  · rw [if_pos h1] at h0; exact absurd h0 zt_mf0
  · rw [if_neg h1] at h0 ⊢
    by_cases h2 : ¬ (zt_num T (if zt_clm T R.1 = 1 then 1 else 0) (zt_most (zt_clm T R.1)) R).1 = 0
    · rw [if_pos h2] at h0; exact absurd h0 h2
    · rw [if_neg h2] at h0 ⊢
      obtain ⟨a, ha, hae⟩ := zw_c_ex T (0, R.1)
      have hcc : zw_c T (0, R.1) = zt_clm T R.1 := if_neg h1
      rw [hcc] at hae
      obtain ⟨n, hn, hne, hn4, hn2⟩ := zw_most_ex ⟨a, ha⟩
      obtain ⟨v, hv, e2⟩ := zw_num_in (n := n) (by omega) (by rw [hae]; exact hne) (by split <;> decide) (show (zt_num T (if zt_clm T R.1 = 1 then 1 else 0) (zt_most (zt_clm T R.1)) R).1 = 0 by simpa using h2)
      exact zw_q_rule4 (R := zt_adv T (zt_adv T R)) h hr ht ⟨a, v, ha, by omega, hae, e2, fun z => by have := hn4 z; omega, fun z => by have := hn2 z; omega⟩ h0
theorem zw_q_rule {T : za_T} {P : za_P} (h : zw_q P.2.1 P.2.2.1) (h0 : (zt_rule T P).1 = 0) : zw_q (zt_rule T P).2.2.1 (zt_rule T P).2.2.2.1 := by
  unfold zt_rule at h0 ⊢
  by_cases h1 : ¬ za_m P.2.1 < 5
  · rw [if_pos h1] at h0; exact absurd h0 zw_n5
  · rw [if_neg h1] at h0 ⊢
    by_cases h2 : ¬ (zt_num T 1 9 P).1 = 0
    · rw [if_pos h2] at h0; exact absurd h0 h2
    · rw [if_neg h2] at h0 ⊢
      obtain ⟨v1, hv1, e1⟩ := zw_num_in (n := 9) (by omega) rfl (by decide) (show (zt_num T 1 9 P).1 = 0 by simpa using h2)
      unfold zt_ruleA at h0 ⊢
      by_cases h3 : ¬ (zt_num T 0 3 (zt_adv T P)).1 = 0
      · rw [if_pos h3] at h0; exact absurd h0 h3
      · rw [if_neg h3] at h0 ⊢
        obtain ⟨v2, hv2, e2⟩ := zw_num_in (n := 3) (by omega) rfl (by decide) (show (zt_num T 0 3 (zt_adv T P)).1 = 0 by simpa using h3)
        exact zw_q_rule2 (R := zt_adv T (zt_adv T (zt_adv T P))) h ⟨v1, by omega, e1⟩ ⟨v2, by omega, e2⟩ h0
theorem zw_q_line {T : za_T} {P : za_P} (h : zw_q P.2.1 P.2.2.1) (h0 : (zt_line T P).1 = 0) : zw_q (zt_line T P).2.2.1 (zt_line T P).2.2.2.1 := by
  unfold zt_line at h0 ⊢
  by_cases w0 : zt_isW T P.1 0 = true
  · rw [if_pos w0] at h0 ⊢; exact zw_q_one h h0
  · rw [if_neg w0] at h0 ⊢
    by_cases w1 : zt_isW T P.1 1 = true
    · rw [if_pos w1] at h0 ⊢; exact zw_q_fact h h0
    · rw [if_neg w1] at h0 ⊢
      by_cases w2 : zt_isW T P.1 2 = true
      · rw [if_pos w2] at h0 ⊢; exact zw_q_gone h h0
      · rw [if_neg w2] at h0 ⊢
        by_cases w3 : zt_isW T P.1 3 = true
        · rw [if_pos w3] at h0 ⊢; exact zw_q_odds h h0
        · rw [if_neg w3] at h0 ⊢
          by_cases w4 : zt_isW T P.1 4 = true
          · rw [if_pos w4] at h0 ⊢; exact zw_q_rule h h0
          · rw [if_neg w4] at h0; exact absurd h0 zt_mf0
theorem zw_q_lines {T : za_T} : ∀ n l (P : za_P), zw_q P.2.1 P.2.2.1 → (zt_lines T n l P).1 = 0 → zw_q (zt_lines T n l P).2.2.2.1 (zt_lines T n l P).2.2.2.2.1
  | 0, l, P, h, _ => h
  | n + 1, l, P, h, h0 => by
    rw [zt_lines] at h0 ⊢
    by_cases hk : P.1.2.1 = 0
    · rw [if_pos hk]; exact h
    · rw [if_neg hk] at h0 ⊢
      by_cases h1 : ¬ (zt_line T P).1 = 0
      · rw [if_pos h1] at h0; exact absurd h0 h1
      · rw [if_neg h1] at h0 ⊢
        have h2 := zw_q_line h (show (zt_line T P).1 = 0 by simpa using h1)
        exact zw_q_lines n (l + 1) (zt_adv T (zt_line T P).2) h2 h0
theorem zw_text {X : za_X} (h : zx_wf X) : zx_wf (zx_textX X) := by
  unfold zx_textX
  by_cases h0 : (zx_text X).1 = 0
  · rw [if_pos h0]
    refine ⟨?_, h.2.1, ⟨Nat.zero_le _, fun i hi => absurd hi (Nat.not_lt_zero i)⟩, ⟨Nat.zero_le _, fun i hi => absurd hi (Nat.not_lt_zero i)⟩, fun z => Bool.noConfusion z, fun z => Bool.noConfusion z⟩
    show za_wf (zx_text X).2.2.2
    unfold zx_text zt_tell zt_tell1 at h0 ⊢
    by_cases h1 : (zt_lines (zx_T X) 160 0 (zt_adv (zx_T X) zt_p0)).1 = 0
    · rw [if_pos h1] at h0 ⊢
      have hq := zw_q_lines 160 0 (zt_adv (zx_T X) zt_p0) zw_q.nil h1
      generalize (zt_lines (zx_T X) 160 0 (zt_adv (zx_T X) zt_p0)).2.2 = P at h0 hq ⊢
      have hch : zt_chk P = 0 := h0
      unfold zt_chk at hch
      by_cases hN : ¬ P.2.2.1 &&& (zt_evb (za_n P.2.1) ^^^ -1) = 0
      · rw [if_pos hN] at hch; exact absurd hch (by decide)
      · obtain ⟨g, b, g1, g2, g3, g4, g5⟩ := hq.2.2.2.2.2
        have hn6 := hq.1
        have hb : b < 2 ^ za_n P.2.1 := by
          refine (zw_evf ⟨za_n P.2.1, by omega⟩ ⟨b, g2⟩).mp ?_
          rw [g4] at hN
          simpa using hN
        show za_wf P.2.1
        refine ⟨fun i hi => ⟨hq.2.1 i hi, (hq.2.2.1 i (by omega)).1, 0, by omega, (hq.2.2.1 i (by omega)).2⟩, hq.2.2.2.1, hq.2.2.2.2.1, g, ?_, g3⟩
        exact Nat.lt_of_le_of_lt (Nat.le_trans (Nat.le_of_eq g5.symm) Nat.and_le_left) hb
    · rw [if_neg h1] at h0
      exact absurd h0 h1
  · rw [if_neg h0]
    exact ⟨h.1, h.2.1, ⟨Nat.zero_le _, fun i hi => absurd hi (Nat.not_lt_zero i)⟩, h.2.2.2⟩
