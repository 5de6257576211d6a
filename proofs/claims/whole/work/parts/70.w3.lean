/-! THE MODEL'S TEXT: where tokens lie; the lines, one behind another -/
theorem zt_end_go {P : Int32 → Bool} {T : za_T} {s : Nat} (hs : s < T.1) (h : P (T.2 s) = true) : s + 1 ≤ zt_end P T s := by
  obtain ⟨n, hn⟩ : ∃ n, T.1 - s = n + 1 := ⟨T.1 - s - 1, by omega⟩
  unfold zt_end
  rw [hn, zt_run, if_pos h]
  exact zt_run_ge _ _
theorem zt_lex_kd {T : za_T} {a : Nat} (ha : a ≤ T.1) : (¬ (zt_lex T a).2.1 = 0 → (zt_lex T a).2.2.1 < T.1 ∧ (zt_lex T a).2.2.1 + 1 ≤ (zt_lex T a).1) ∧ ((zt_lex T a).2.1 = 0 → (zt_lex T a).2.2.1 = T.1) := by
  unfold zt_lex zt_lexs
  have h1 := zt_end_le (P := zt_sp) ha
  by_cases h0 : ¬ zt_end zt_sp T a < T.1
  · rw [if_pos h0]
    exact ⟨fun z => absurd rfl z, fun _ => (by show zt_end zt_sp T a = T.1; omega)⟩
  · rw [if_neg h0]
    have h2 : zt_end zt_sp T a < T.1 := by omega
    by_cases h3 : zt_let (T.2 (zt_end zt_sp T a)) = true
    · rw [if_pos h3]
      exact ⟨fun _ => ⟨h2, zt_end_go h2 h3⟩, fun z => by cases z⟩
    · rw [if_neg h3]
      by_cases h4 : zt_fig (T.2 (zt_end zt_sp T a)) = true
      · rw [if_pos h4]
        refine ⟨fun _ => ⟨h2, zt_end_go h2 h4⟩, fun z => ?_⟩
        have z2 : (if zt_end zt_fig T (zt_end zt_sp T a) - zt_end zt_sp T a ≤ 2 then 2 else 4) = 0 := z
        split at z2 <;> cases z2
      · rw [if_neg h4]
        split
        · exact ⟨fun _ => ⟨h2, Nat.le_refl _⟩, fun z => by cases z⟩
        · exact ⟨fun _ => ⟨h2, Nat.le_refl _⟩, fun z => by cases z⟩
theorem zw_n5 : ¬ (5 : Int32) = 0 := by decide
theorem zw_n4 : ¬ (4 : Int32) = 0 := by decide
theorem zw_n3 : ¬ (3 : Int32) = 0 := by decide
def zw_G (T : za_T) (a : Nat) (K : za_K) : Prop := a ≤ K.2.2.1 ∧ K.2.2.1 ≤ K.1 ∧ K.1 ≤ T.1
theorem zw_G.lex {T : za_T} {a : Nat} (h : a ≤ T.1) : zw_G T a (zt_lex T a) := ⟨(zt_lex_st h).2.2, (zt_lex_st h).2.1, zt_lex_le h⟩
theorem zw_G.tr {T : za_T} {a : Nat} {K K2 : za_K} (h : zw_G T a K) (h2 : zw_G T K.1 K2) : zw_G T a K2 := ⟨Nat.le_trans h.1 (Nat.le_trans h.2.1 h2.1), h2.2⟩
theorem zw_G.adv {T : za_T} {P : za_P} (h : P.1.1 ≤ T.1) : zw_G T P.1.1 (zt_adv T P).1 := zw_G.lex h
theorem zw_G.nx {T : za_T} {a : Nat} {P : za_P} (h : zw_G T a P.1) : zw_G T a (zt_adv T P).1 := h.tr (zw_G.adv h.2.2)
theorem zw_go_one {T : za_T} {P : za_P} (h : P.1.1 ≤ T.1) (h0 : (zt_one T P).1 = 0) : zw_G T P.1.1 (zt_one T P).2.1 := by
  have g := zw_G.adv h
  unfold zt_one at h0 ⊢
  by_cases h1 : ¬ za_n P.2.1 < 6
  · rw [if_pos h1] at h0; exact absurd h0 zw_n5
  · rw [if_neg h1] at h0 ⊢
    by_cases h2 : (zt_adv T P).1.2.1 = 2
    · rw [if_pos h2] at h0 ⊢
      by_cases h3 : zb_in (zt_adv T P).1.2.2.2 (za_n P.2.1) = false
      · rw [if_pos h3] at h0; exact absurd h0 zw_n3
      · rw [if_neg h3]; exact zw_G.nx (P := zt_adv T P) g
    · rw [if_neg h2]; exact g
theorem zw_go_fact {T : za_T} {P : za_P} (h : P.1.1 ≤ T.1) (h0 : (zt_fact T P).1 = 0) : zw_G T P.1.1 (zt_fact T P).2.1 := by
  have g := zw_G.adv h
  unfold zt_fact at h0 ⊢
  by_cases h1 : ¬ (zt_num T 0 5 P).1 = 0
  · rw [if_pos h1] at h0; exact absurd h0 h1
  · rw [if_neg h1] at h0 ⊢
    unfold zt_fact2 at h0 ⊢
    by_cases h2 : ¬ (zt_num T 0 4 (zt_adv T P)).1 = 0
    · rw [if_pos h2] at h0; exact absurd h0 h2
    · rw [if_neg h2] at h0 ⊢
      split at h0
      · exact absurd h0 zw_n4
      · next h3 =>
        rw [if_neg h3]
        exact zw_G.nx (P := (zt_num T 0 4 (zt_adv T P)).2) (zw_G.nx (P := zt_adv T P) g)
theorem zw_go_gone {T : za_T} {P : za_P} (h : P.1.1 ≤ T.1) (h0 : (zt_gone T P).1 = 0) : zw_G T P.1.1 (zt_gone T P).2.1 := by
  have g := zw_G.adv h
  unfold zt_gone at h0 ⊢
  by_cases h1 : ¬ (zt_num T 0 5 P).1 = 0
  · rw [if_pos h1] at h0; exact absurd h0 h1
  · rw [if_neg h1] at h0 ⊢
    unfold zt_gone2 at h0 ⊢
    split at h0
    · exact absurd h0 zw_n4
    · next h3 =>
      rw [if_neg h3]
      exact zw_G.nx (P := zt_adv T P) g
theorem zw_go_odds {T : za_T} {P : za_P} (h : P.1.1 ≤ T.1) (h0 : (zt_odds T P).1 = 0) : zw_G T P.1.1 (zt_odds T P).2.1 := by
  have g := zw_G.adv h
  unfold zt_odds at h0 ⊢
  by_cases h1 : ¬ (zt_num T 0 4 P).1 = 0
  · rw [if_pos h1] at h0; exact absurd h0 h1
  · rw [if_neg h1] at h0 ⊢
    by_cases h3 : zb_bit P.2.2.2 (zt_adv T P).1.2.2.2 = true
    · rw [if_pos h3] at h0; exact absurd h0 zw_n4
    · rw [if_neg h3] at h0 ⊢
      unfold zt_odds2 at h0 ⊢
      by_cases h2 : ¬ (zt_num T 0 10 (zt_adv T P)).1 = 0
      · rw [if_pos h2] at h0; exact absurd h0 h2
      · rw [if_neg h2]
        exact zw_G.nx (P := (zt_num T 0 10 (zt_adv T P)).2) (zw_G.nx (P := zt_adv T P) g)
theorem zw_go_rule4 {T : za_T} {R : za_P} {r t c v : Int32} {a : Nat} (g : zw_G T a R.1) (h0 : (zt_rule4 T r t c v R).1 = 0) : zw_G T a (zt_rule4 T r t c v R).2.1 := by
  unfold zt_rule4 at h0 ⊢
  by_cases h1 : zt_pck T R.1 = -4
  · rw [if_pos h1] at h0; exact absurd h0 zt_mf0
  · rw [if_neg h1]
    exact zw_G.nx g
theorem zw_go_rule2 {T : za_T} {R : za_P} {r t : Int32} {a : Nat} (g : zw_G T a R.1) (h0 : (zt_rule2 T r t R).1 = 0) : zw_G T a (zt_rule2 T r t R).2.1 := by
  unfold zt_rule2 at h0 ⊢
  by_cases h1 : zt_clm T R.1 = -4
  · rw [if_pos h1] at h0; exact absurd h0 zt_mf0
  · rw [if_neg h1] at h0 ⊢
    by_cases h2 : ¬ (zt_num T (if zt_clm T R.1 = 1 then 1 else 0) (zt_most (zt_clm T R.1)) R).1 = 0
    · rw [if_pos h2] at h0; exact absurd h0 h2
    · rw [if_neg h2] at h0 ⊢
      exact zw_go_rule4 (zw_G.nx (P := zt_adv T R) (zw_G.nx g)) h0
theorem zw_go_rule {T : za_T} {P : za_P} (h : P.1.1 ≤ T.1) (h0 : (zt_rule T P).1 = 0) : zw_G T P.1.1 (zt_rule T P).2.1 := by
  have g := zw_G.adv h
  unfold zt_rule at h0 ⊢
  by_cases h1 : ¬ za_m P.2.1 < 5
  · rw [if_pos h1] at h0; exact absurd h0 zw_n5
  · rw [if_neg h1] at h0 ⊢
    by_cases h2 : ¬ (zt_num T 1 9 P).1 = 0
    · rw [if_pos h2] at h0; exact absurd h0 h2
    · rw [if_neg h2] at h0 ⊢
      unfold zt_ruleA at h0 ⊢
      by_cases h3 : ¬ (zt_num T 0 3 (zt_adv T P)).1 = 0
      · rw [if_pos h3] at h0; exact absurd h0 h3
      · rw [if_neg h3] at h0 ⊢
        exact zw_go_rule2 (R := zt_adv T (zt_adv T (zt_adv T P))) (zw_G.nx (P := zt_adv T (zt_adv T P)) (zw_G.nx (P := zt_adv T P) g)) h0
theorem zw_go_line {T : za_T} {P : za_P} (h : P.1.1 ≤ T.1) (h0 : (zt_line T P).1 = 0) : zw_G T P.1.1 (zt_line T P).2.1 := by
  unfold zt_line at h0 ⊢
  by_cases w0 : zt_isW T P.1 0 = true
  · rw [if_pos w0] at h0 ⊢; exact zw_go_one h h0
  · rw [if_neg w0] at h0 ⊢
    by_cases w1 : zt_isW T P.1 1 = true
    · rw [if_pos w1] at h0 ⊢; exact zw_go_fact h h0
    · rw [if_neg w1] at h0 ⊢
      by_cases w2 : zt_isW T P.1 2 = true
      · rw [if_pos w2] at h0 ⊢; exact zw_go_gone h h0
      · rw [if_neg w2] at h0 ⊢
        by_cases w3 : zt_isW T P.1 3 = true
        · rw [if_pos w3] at h0 ⊢; exact zw_go_odds h h0
        · rw [if_neg w3] at h0 ⊢
          by_cases w4 : zt_isW T P.1 4 = true
          · rw [if_pos w4] at h0 ⊢; exact zw_go_rule h h0
          · rw [if_neg w4] at h0; exact absurd h0 zt_mf0
theorem zw_line_n {T : za_T} {P : za_P} (h : ¬ P.1.2.1 = 1) : zt_line T P = (zt_mf P.1, P) := zw_line_no (by rw [show zw_name T P.1 = -4 from zw_nmf_no h 13 0]; rfl)
theorem zw_lines_k {T : za_T} {P : za_P} {n l : Nat} (h : P.1.2.1 = 4) : zt_lines T (n + 1) l P = (1, l, P) := by
  rw [zt_lines, if_neg (by omega), zw_line_n (by omega)]
  rw [if_pos (show ¬ zt_mf P.1 = 0 from zt_mf0), zt_mf1 h]
theorem zw_lines_0 {T : za_T} {P : za_P} {n l : Nat} (h : P.1.2.1 = 0) : zt_lines T n l P = (0, l, P) := by
  cases n with
  | zero => rfl
  | succ n => rw [zt_lines, if_pos h]
theorem zw_tell_bad {T : za_T} {e : Int32} {l : Nat} {P : za_P} (h : ¬ e = 0) : (zt_tell1 T (e, l, P)).1 = e ∧ (zt_tell1 T (e, l, P)).2.2.1 = P.1.2.2.1 := by
  rw [zt_tell1, if_neg (show ¬ ((e, l, P) : Int32 × Nat × za_P).1 = 0 from h)]
  exact ⟨rfl, rfl⟩
/-- what holds at the head of the lines -/
def zw_hd (T : za_T) (n l : Nat) (P : za_P) (r : Int32 × za_K) (τ : zq_T) : Prop := l + n = 160 ∧ (∃ a, a ≤ T.1 ∧ P.1 = zt_lex T a) ∧ (zw_cd r = 0 → r = (0, P.1) ∧ zw_dd τ P.2 ∧ l ≤ P.1.2.2.1 ∧ zt_tell T = zt_tell1 T (zt_lines T n l P)) ∧ (¬ zw_cd r = 0 → (zt_tell T).1 = zw_cd r ∧ (zt_tell T).2.2.1 = r.2.2.2.1)
theorem zw_hd.go {T : za_T} (hw : zt_wf T) {n l : Nat} {P : za_P} {r r2 : Int32 × za_K} {τ τ2 : zq_T} (h : zw_hd T n l P r τ) (hc : zw_cd r = 0) (hk0 : ¬ P.1.2.1 = 0) (hb : ¬ (zt_line T P).1 = 0 → zw_cd r2 = (zt_line T P).1 ∧ r2.2.2.2.1 = (zt_line T P).2.1.2.2.1) (hg : (zt_line T P).1 = 0 → r2 = (0, zt_lex T (zt_line T P).2.1.1) ∧ zw_dd τ2 (zt_line T P).2.2) : ∃ n2 P2, n2 < n ∧ zw_hd T n2 (l + 1) P2 r2 τ2 := by
  obtain ⟨h1, ⟨a, ha, hPa⟩, h3, -⟩ := h
  obtain ⟨-, h5, h6, h7⟩ := h3 hc
  have h160 := hw.1
  have hkd := zt_lex_kd ha
  rw [← hPa] at hkd
  obtain ⟨k1, k2⟩ := hkd.1 hk0
  have hle : P.1.1 ≤ T.1 := by rw [hPa]; exact zt_lex_le ha
  obtain ⟨n2, rfl⟩ : ∃ n2, n = n2 + 1 := ⟨n - 1, by omega⟩
  by_cases hz : (zt_line T P).1 = 0
  · obtain ⟨e1, e2⟩ := hg hz
    have g := zw_go_line hle hz
    refine ⟨n2, zt_adv T (zt_line T P).2, Nat.lt_succ_self _, by omega, ⟨_, g.2.2, rfl⟩, fun _ => ⟨e1, e2, ?_, ?_⟩, fun hc2 => ?_⟩
    · have g2 := zw_G.lex g.2.2
      show l + 1 ≤ (zt_lex T (zt_line T P).2.1.1).2.2.1
      have := g.1
      have := g.2.1
      have := g2.1
      omega
    · rw [h7, zt_lines, if_neg hk0, if_neg (fun z => z hz)]
    · have hk4 : (zt_adv T (zt_line T P).2).1.2.1 = 4 := by
        by_cases z : (zt_lex T (zt_line T P).2.1.1).2.1 = 4
        · exact z
        · exact absurd (by rw [e1]; exact zw_cd_z z) hc2
      have g2 := (zt_lex_kd g.2.2).1 (show ¬ (zt_lex T (zt_line T P).2.1.1).2.1 = 0 by have : (zt_lex T (zt_line T P).2.1.1).2.1 = 4 := hk4; omega)
      have g3 := zw_G.lex g.2.2
      have e3 : zw_cd r2 = 1 := by rw [e1]; exact zw_cd_k hk4
      have := g.1
      have := g.2.1
      have := g3.1
      obtain ⟨n3, rfl⟩ : ∃ n3, n2 = n3 + 1 := ⟨n2 - 1, by omega⟩
      rw [e3, h7, zt_lines, if_neg hk0, if_neg (fun z => z hz), zw_lines_k hk4, e1]
      exact zw_tell_bad (by decide)
  · obtain ⟨e1, e2⟩ := hb hz
    refine ⟨n2, P, Nat.lt_succ_self _, by omega, ⟨a, ha, hPa⟩, fun hc2 => absurd (e1.symm.trans hc2) hz, fun _ => ?_⟩
    rw [e1, e2, h7, zt_lines, if_neg hk0, if_pos hz]
    exact zw_tell_bad hz
theorem zw_hd.st {T : za_T} {τ : zq_T} (hD : zw_dd τ (zt_nil, 0, 0)) : zw_hd T 160 0 (zt_adv T zt_p0) (0, zt_lex T 0) τ := by
  refine ⟨rfl, ⟨0, Nat.zero_le _, rfl⟩, fun _ => ⟨rfl, hD, Nat.zero_le _, rfl⟩, fun hc => ?_⟩
  have hk4 : (zt_lex T 0).2.1 = 4 := by
    by_cases z : (zt_lex T 0).2.1 = 4
    · exact z
    · exact absurd (zw_cd_z z) hc
  have e : zt_lines T 160 0 (zt_adv T zt_p0) = (1, 0, zt_adv T zt_p0) := zw_lines_k (n := 159) hk4
  rw [zw_cd_k hk4, zt_tell, e]
  exact zw_tell_bad (by decide)
/-- named ones that there are not -/
theorem zw_evf : ∀ (n : Fin 7) (b : Fin 64), (nI b.val &&& (zt_evb n.val ^^^ -1) = 0) ↔ b.val < 2 ^ n.val := by decide +kernel
theorem zw_hi {σ : zq_T} {N : Int32} {n : Nat} (h : zw_n σ N) (hn : n ≤ 6) : σ.1 30 0 11 < nI n ↔ N &&& (zt_evb n ^^^ -1) = 0 := by
  obtain ⟨hp, b, h1, h2, h3, h4, h5⟩ := h
  have hb : b < 64 := Nat.lt_of_lt_of_le h4 (zw_pow h1)
  rw [h3, h2]
  have e1 := zw_evf ⟨n, by omega⟩ ⟨b, hb⟩
  rw [show (nI b &&& (zt_evb n ^^^ -1) = 0) ↔ b < 2 ^ n from e1, Int32.lt_iff_toInt_lt, nI_toInt (by omega)]
  have e : (nI hp - 1).toInt = (hp : Int) - 1 := by
    rcases hp with _ | hp
    · rfl
    · rw [nI_pred, nI_toInt (by omega)]; omega
  rw [e]
  constructor
  · intro z
    exact Nat.lt_of_lt_of_le h4 (Nat.pow_le_pow_right (by decide) (by omega))
  · intro z
    rcases h5 with h5 | h5
    · omega
    · have h6 : 2 ^ (hp - 1) < 2 ^ n := Nat.lt_of_le_of_lt h5 z
      have h7 := (Nat.pow_lt_pow_iff_right (a := 2) (by decide)).mp h6
      omega
theorem zw_chk {T : za_T} {P : za_P} {l : Nat} (ht : zt_tell T = zt_tell1 T (0, l, P)) : zt_tell T = (zt_chk P, l, T.1, P.2.1) := by rw [ht, zt_tell1, if_pos rfl]
