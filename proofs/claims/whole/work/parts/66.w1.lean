/-! THE MODEL'S LINES: the class's answers by the model's tokens -/
/-- the model's token and draft stand ahead of the stop where the class has R behind it -/
def zw_stop (K : za_K) (D : za_D × Int32 × Int32) : Int32 × za_P := (if K.2.1 = 3 then 0 else zt_mf K, (K, D))
def zw_pre (r : Int32 × za_K) (D : za_D × Int32 × Int32) (R : Int32 × za_P) : Prop := (¬ zw_cd r = 0 → R.1 = zw_cd r ∧ R.2.1.2.2.1 = r.2.2.2.1) ∧ (zw_cd r = 0 → R = zw_stop r.2 D)
theorem zw_cd_k {K : za_K} (h : K.2.1 = 4) : zw_cd (0, K) = 1 := by
  unfold zw_cd
  rw [if_pos rfl, if_pos (show K.2.1 = 4 from h)]
theorem zw_cd_z {K : za_K} (h : ¬ K.2.1 = 4) : zw_cd (0, K) = 0 := by
  unfold zw_cd
  rw [if_pos rfl, if_neg (show ¬ K.2.1 = 4 from h)]
theorem zw_pre_stop {T : za_T} {K : za_K} {D : za_D × Int32 × Int32} : zw_pre (0, zt_lex T K.1) D (zt_stp T (K, D)) := by
  constructor
  · intro h
    have h4 : (zt_lex T K.1).2.1 = 4 := by
      by_cases z : (zt_lex T K.1).2.1 = 4
      · exact z
      · exact absurd (zw_cd_z z) h
    rw [zw_cd_k h4]
    refine ⟨?_, rfl⟩
    show (if (zt_lex T K.1).2.1 = 3 then 0 else zt_mf (zt_lex T K.1)) = 1
    rw [if_neg (by omega), zt_mf, if_pos h4]
  · intro _
    rfl
theorem zw_pre_bad {r : Int32 × za_K} {D : za_D × Int32 × Int32} {R : Int32 × za_P} (h0 : ¬ zw_cd r = 0) (h : R.1 = zw_cd r) (h2 : R.2.1 = r.2) : zw_pre r D R := ⟨fun _ => ⟨h, by rw [h2]⟩, fun z => absurd z h0⟩
theorem zw_nx1 {T : za_T} {r : Int32 × za_K} (h : ¬ zw_cd r = 0) : zw_nx T r = r := if_neg h
theorem zw_nx0 {T : za_T} {r : Int32 × za_K} (h : zw_cd r = 0) : zw_nx T r = (0, zt_lex T r.2.1) := if_pos h
theorem zw_ck1 {lo hi sm : Int32} {r : Int32 × za_K} (h : ¬ zw_cd r = 0) : zw_ck lo hi sm r = r := if_pos h
theorem zb_bit0 (x : Int32) : zb_bit 0 x = false := by
  refine zb_bit_f ?_
  have h : ∀ y : Int32, (0 : Int32) >>> y = 0 := fun y => by
    apply Int32.toBitVec_inj.mp
    rw [Int32.toBitVec_shiftRight]
    simp
  rw [h]
  rfl
theorem zt_mf2 {K : za_K} (h : ¬ K.2.1 = 4) : zt_mf K = 2 := if_neg h
theorem zt_mf1 {K : za_K} (h : K.2.1 = 4) : zt_mf K = 1 := if_pos h
/-- a number, as class and model read it -/
theorem zw_num (T : za_T) (P : za_P) (lo hi sm : Int32) : (¬ (zt_num T lo hi P).1 = 0 → zw_cd (zw_ck lo hi sm (0, (zt_adv T P).1)) = (zt_num T lo hi P).1 ∧ (zw_ck lo hi sm (0, (zt_adv T P).1)).2 = (zt_adv T P).1) ∧ ((zt_num T lo hi P).1 = 0 → zb_bit sm (zt_adv T P).1.2.2.2 = true → zw_ck lo hi sm (0, (zt_adv T P).1) = (4, (zt_adv T P).1)) ∧ ((zt_num T lo hi P).1 = 0 → zb_bit sm (zt_adv T P).1.2.2.2 = false → zw_ck lo hi sm (0, (zt_adv T P).1) = (0, (zt_adv T P).1) ∧ zw_cd (0, (zt_adv T P).1) = 0) := by
  have hx : (zt_num T lo hi P).1 = if ¬ (zt_adv T P).1.2.1 = 2 then zt_mf (zt_adv T P).1 else if lo ≤ (zt_adv T P).1.2.2.2 ∧ (zt_adv T P).1.2.2.2 ≤ hi then 0 else 3 := rfl
  rw [hx]
  generalize (zt_adv T P).1 = K
  by_cases h4 : K.2.1 = 4
  · have h2 : ¬ K.2.1 = 2 := by omega
    have e : (if ¬ K.2.1 = 2 then zt_mf K else if lo ≤ K.2.2.2 ∧ K.2.2.2 ≤ hi then (0 : Int32) else 3) = 1 := (if_pos h2).trans (zt_mf1 h4)
    rw [e, zw_ck1 (by rw [zw_cd_k h4]; decide)]
    exact ⟨fun _ => ⟨zw_cd_k h4, rfl⟩, fun z => absurd z (by decide), fun z => absurd z (by decide)⟩
  · have hcd := zw_cd_z h4
    by_cases h2 : K.2.1 = 2
    · by_cases hr : lo ≤ K.2.2.2 ∧ K.2.2.2 ≤ hi
      · have e : (if ¬ K.2.1 = 2 then zt_mf K else if lo ≤ K.2.2.2 ∧ K.2.2.2 ≤ hi then (0 : Int32) else 3) = 0 := (if_neg (fun z => z h2)).trans (if_pos hr)
        have c : zw_ck lo hi sm (0, K) = if zb_bit sm K.2.2.2 then (4, K) else (0, K) := (if_neg (show ¬ ¬ zw_cd (0, K) = 0 from fun z => z hcd)).trans ((if_neg (show ¬ ¬ K.2.1 = 2 from fun z => z h2)).trans (if_neg (show ¬ ¬ (lo ≤ K.2.2.2 ∧ K.2.2.2 ≤ hi) from fun z => z hr)))
        rw [e, c]
        refine ⟨fun z => absurd rfl z, fun _ hb => ?_, fun _ hb => ⟨?_, hcd⟩⟩
        · rw [hb]; rfl
        · rw [hb]; rfl
      · have e : (if ¬ K.2.1 = 2 then zt_mf K else if lo ≤ K.2.2.2 ∧ K.2.2.2 ≤ hi then (0 : Int32) else 3) = 3 := (if_neg (fun z => z h2)).trans (if_neg hr)
        have c : zw_ck lo hi sm (0, K) = (3, K) := (if_neg (show ¬ ¬ zw_cd (0, K) = 0 from fun z => z hcd)).trans ((if_neg (show ¬ ¬ K.2.1 = 2 from fun z => z h2)).trans (if_pos (show ¬ (lo ≤ K.2.2.2 ∧ K.2.2.2 ≤ hi) from hr)))
        rw [e, c]
        exact ⟨fun _ => ⟨zw_cde (by decide), rfl⟩, fun z => absurd z (by decide), fun z => absurd z (by decide)⟩
    · have e : (if ¬ K.2.1 = 2 then zt_mf K else if lo ≤ K.2.2.2 ∧ K.2.2.2 ≤ hi then (0 : Int32) else 3) = 2 := (if_pos h2).trans (zt_mf2 h4)
      have c : zw_ck lo hi sm (0, K) = (2, K) := (if_neg (show ¬ ¬ zw_cd (0, K) = 0 from fun z => z hcd)).trans (if_pos (show ¬ K.2.1 = 2 from h2))
      rw [e, c]
      exact ⟨fun _ => ⟨zw_cde (by decide), rfl⟩, fun z => absurd z (by decide), fun z => absurd z (by decide)⟩
theorem zw_ckv0 {lo hi sm : Int32} {r : Int32 × za_K} (h : zw_ck lo hi sm r = r) (h2 : zw_cd r = 0) : zw_ckv lo hi sm r = r.2.2.2.2 := by rw [zw_ckv, h, if_pos h2]
/-- what a number that is taken is like -/
theorem zw_ckv_in {lo hi sm : Int32} {r : Int32 × za_K} (hl : lo ≤ hi) : lo ≤ zw_ckv lo hi sm r ∧ zw_ckv lo hi sm r ≤ hi := by
  unfold zw_ckv
  by_cases h : zw_cd (zw_ck lo hi sm r) = 0
  · rw [if_pos h]
    unfold zw_ck at h
    by_cases h1 : zw_cd r = 0
    · rw [if_neg (fun z => z h1)] at h
      by_cases h2 : r.2.2.1 = 2
      · rw [if_neg (fun z => z h2)] at h
        by_cases h3 : lo ≤ r.2.2.2.2 ∧ r.2.2.2.2 ≤ hi
        · exact h3
        · rw [if_pos h3] at h
          exact absurd ((zw_cde (by decide)).symm.trans h) (by decide)
      · rw [if_pos h2] at h
        exact absurd ((zw_cde (by decide)).symm.trans h) (by decide)
    · rw [if_pos h1] at h
      exact absurd h h1
  · rw [if_neg h]
    exact ⟨Int32.le_refl _, hl⟩
theorem zw_ckv_ex {hi sm : Int32} {n : Nat} {r : Int32 × za_K} (hh : hi = nI n) (hn : n < 1000) : ∃ q, q ≤ n ∧ zw_ckv 0 hi sm r = nI q := by
  have h := zw_ckv_in (lo := 0) (hi := hi) (sm := sm) (r := r) (by rw [hh]; exact nI_pos' (by omega))
  rw [hh] at h
  refine zx_3ex (n := n) (fun z => ?_) (by rw [hh]; exact h.2) (by omega)
  rw [hh] at z
  exact absurd z (Int32.not_lt.mpr h.1)
/-- one -/
theorem zw_one_no (T : za_T) (P : za_P) (hn : za_n P.2.1 < 6) (h4 : ¬ (zt_adv T P).1.2.1 = 4) (h2 : ¬ (zt_adv T P).1.2.1 = 2) : zw_pre (0, (zt_adv T P).1) (zt_add P.2.1 (-4), P.2.2) (zt_one T P) := by
  refine ⟨fun z => absurd (zw_cd_z h4) z, fun _ => ?_⟩
  rw [zt_one, if_neg (fun z => z hn), if_neg h2]
  rfl
theorem zb_in_pred {v : Int32} {n : Nat} (hn : n ≤ 6) : zb_in v n = decide (0 ≤ v ∧ v ≤ nI n - 1) := by
  unfold zb_in
  refine decide_eq_decide.mpr ?_
  rw [Int32.le_iff_toInt_le, Int32.lt_iff_toInt_lt, Int32.le_iff_toInt_le, nI_toInt (by omega)]
  have h1 : (nI n - 1).toInt = (n : Int) - 1 := by
    rcases n with _ | n
    · rfl
    · rw [nI_pred, nI_toInt (by omega)]; omega
  rw [h1]
  omega
theorem zw_one_ye (T : za_T) (P : za_P) (hn : za_n P.2.1 < 6) (h2 : (zt_adv T P).1.2.1 = 2) : zw_pre (zw_nx T (zw_ck 0 (nI (za_n P.2.1) - 1) 0 (0, (zt_adv T P).1))) (zt_add P.2.1 (zw_ckv 0 (nI (za_n P.2.1) - 1) 0 (0, (zt_adv T P).1)), P.2.2) (zt_one T P) := by
  have h4 : ¬ (zt_adv T P).1.2.1 = 4 := by omega
  have hcd := zw_cd_z h4
  have hx : zt_one T P = if zb_in (zt_adv T P).1.2.2.2 (za_n P.2.1) = false then (3, zt_adv T P) else (zt_fin (zt_adv T (zt_adv T P)).1, ((zt_adv T (zt_adv T P)).1, zt_add P.2.1 (zt_adv T P).1.2.2.2, P.2.2)) := by rw [zt_one, if_neg (fun z => z hn), if_pos h2]
  rw [hx, zb_in_pred (by omega)]
  by_cases hr : 0 ≤ (zt_adv T P).1.2.2.2 ∧ (zt_adv T P).1.2.2.2 ≤ nI (za_n P.2.1) - 1
  · have hc : zw_ck 0 (nI (za_n P.2.1) - 1) 0 (0, (zt_adv T P).1) = (0, (zt_adv T P).1) := by
      rw [zw_ck, if_neg (fun z => z hcd), if_neg (show ¬ ¬ (zt_adv T P).1.2.1 = 2 from fun z => z h2), if_neg (show ¬ ¬ (0 ≤ (zt_adv T P).1.2.2.2 ∧ (zt_adv T P).1.2.2.2 ≤ nI (za_n P.2.1) - 1) from fun z => z hr), if_neg (by rw [zb_bit0]; exact Bool.false_ne_true)]
    rw [zw_ckv0 hc hcd, hc, zw_nx0 hcd, decide_eq_true hr]
    exact zw_pre_stop (K := (zt_adv T P).1)
  · have hc : zw_ck 0 (nI (za_n P.2.1) - 1) 0 (0, (zt_adv T P).1) = (3, (zt_adv T P).1) := by
      rw [zw_ck, if_neg (fun z => z hcd), if_neg (show ¬ ¬ (zt_adv T P).1.2.1 = 2 from fun z => z h2), if_pos (show ¬ (0 ≤ (zt_adv T P).1.2.2.2 ∧ (zt_adv T P).1.2.2.2 ≤ nI (za_n P.2.1) - 1) from hr)]
    have hc3 : zw_cd (3, (zt_adv T P).1) = 3 := zw_cde (by decide)
    rw [hc, zw_nx1 (by rw [hc3]; decide), decide_eq_false hr]
    exact zw_pre_bad (by rw [hc3]; decide) hc3.symm rfl
/-- fact -/
theorem zw_fact (T : za_T) (P : za_P) {p s v : Int32} {r2 : Int32 × za_K} (hp : p = zw_ckv 0 5 0 (0, (zt_adv T P).1)) (hr2 : r2 = zw_nx T (zw_ck 0 5 0 (0, (zt_adv T P).1))) (hs : s = za_fa P.2.1 p.toNatClampNeg) (hv : v = zw_ckv 0 4 s r2) : zw_pre (zw_nx T (zw_ck 0 4 s r2)) (za_sf P.2.1 (upd (za_fa P.2.1) p.toNatClampNeg (za_fa P.2.1 p.toNatClampNeg ||| (1 <<< (v &&& 31)))), P.2.2.1 ||| (1 <<< (p &&& 31)), P.2.2.2) (zt_fact T P) := by
  obtain ⟨a1, a2, a3⟩ := zw_num T P 0 5 0
  by_cases h1 : (zt_num T 0 5 P).1 = 0
  · obtain ⟨b1, b2⟩ := a3 h1 (zb_bit0 _)
    rw [b1, zw_nx0 b2] at hr2
    have hp2 : p = (zt_adv T P).1.2.2.2 := hp.trans (zw_ckv0 b1 b2)
    have hx : zt_fact T P = zt_fact2 T (zt_adv T P).1.2.2.2 (zt_num T 0 4 (zt_adv T P)) := by rw [zt_fact, if_neg (fun z => z h1)]
    rw [hx, ← hp2]
    obtain ⟨c1, c2, c3⟩ := zw_num T (zt_adv T P) 0 4 s
    have hr3 : r2 = (0, (zt_adv T (zt_adv T P)).1) := hr2
    rw [hr3]
    by_cases h2 : (zt_num T 0 4 (zt_adv T P)).1 = 0
    · unfold zt_fact2
      rw [if_neg (fun z => z h2)]
      have hbe : zb_bit (za_fa (zt_num T 0 4 (zt_adv T P)).2.2.1 p.toNatClampNeg) (zt_num T 0 4 (zt_adv T P)).2.1.2.2.2 = zb_bit s (zt_adv T (zt_adv T P)).1.2.2.2 := by rw [hs]; rfl
      rw [hbe]
      rcases hb : zb_bit s (zt_adv T (zt_adv T P)).1.2.2.2 with _ | _
      · obtain ⟨d1, d2⟩ := c3 h2 hb
        have hv2 : v = (zt_adv T (zt_adv T P)).1.2.2.2 := by rw [hv, hr3]; exact zw_ckv0 d1 d2
        rw [d1, zw_nx0 d2, hv2]
        exact zw_pre_stop (K := (zt_adv T (zt_adv T P)).1)
      · have d1 := c2 h2 hb
        have hc4 : zw_cd (4, (zt_adv T (zt_adv T P)).1) = 4 := zw_cde (by decide)
        rw [d1, zw_nx1 (by rw [hc4]; decide)]
        exact zw_pre_bad (by rw [hc4]; decide) hc4.symm rfl
    · obtain ⟨d1, d2⟩ := c1 h2
      have hn0 : ¬ zw_cd (zw_ck 0 4 s (0, (zt_adv T (zt_adv T P)).1)) = 0 := by rw [d1]; exact h2
      rw [zw_nx1 hn0]
      unfold zt_fact2
      rw [if_pos h2]
      exact zw_pre_bad hn0 d1.symm d2.symm
  · obtain ⟨b1, b2⟩ := a1 h1
    have hn0 : ¬ zw_cd (zw_ck 0 5 0 (0, (zt_adv T P).1)) = 0 := by rw [b1]; exact h1
    rw [zw_nx1 hn0] at hr2
    rw [hr2, zw_ck1 hn0, zw_nx1 hn0, zt_fact, if_pos h1]
    exact zw_pre_bad hn0 b1.symm b2.symm
/-- gone -/
theorem zw_gone (T : za_T) (P : za_P) {p : Int32} (hp : p = zw_ckv 0 5 (za_g P.2.1) (0, (zt_adv T P).1)) : zw_pre (zw_nx T (zw_ck 0 5 (za_g P.2.1) (0, (zt_adv T P).1))) (za_sg P.2.1 (za_g P.2.1 ||| (1 <<< (p &&& 31))), P.2.2.1 ||| (1 <<< (p &&& 31)), P.2.2.2) (zt_gone T P) := by
  obtain ⟨a1, a2, a3⟩ := zw_num T P 0 5 (za_g P.2.1)
  by_cases h1 : (zt_num T 0 5 P).1 = 0
  · rw [zt_gone, if_neg (fun z => z h1)]
    unfold zt_gone2
    rcases hb : zb_bit (za_g (zt_adv T P).2.1) (zt_adv T P).1.2.2.2 with _ | _
    · obtain ⟨d1, d2⟩ := a3 h1 hb
      have hv2 : p = (zt_adv T P).1.2.2.2 := by rw [hp]; exact zw_ckv0 d1 d2
      rw [d1, zw_nx0 d2, hv2]
      exact zw_pre_stop (K := (zt_adv T P).1)
    · have d1 := a2 h1 hb
      have hc4 : zw_cd (4, (zt_adv T P).1) = 4 := zw_cde (by decide)
      rw [d1, zw_nx1 (by rw [hc4]; decide)]
      exact zw_pre_bad (by rw [hc4]; decide) hc4.symm rfl
  · obtain ⟨b1, b2⟩ := a1 h1
    have hn0 : ¬ zw_cd (zw_ck 0 5 (za_g P.2.1) (0, (zt_adv T P).1)) = 0 := by rw [b1]; exact h1
    rw [zw_nx1 hn0, zt_gone, if_pos h1]
    exact zw_pre_bad hn0 b1.symm b2.symm
/-- odds -/
theorem zw_odds (T : za_T) (P : za_P) {f v : Int32} {r2 : Int32 × za_K} (hf : f = zw_ckv 0 4 P.2.2.2 (0, (zt_adv T P).1)) (hr2 : r2 = zw_nx T (zw_ck 0 4 P.2.2.2 (0, (zt_adv T P).1))) (hv : v = zw_ckv 0 10 0 r2) : zw_pre (zw_nx T (zw_ck 0 10 0 r2)) (za_so P.2.1 (upd (za_od P.2.1) f.toNatClampNeg v), P.2.2.1, P.2.2.2 ||| (1 <<< (f &&& 31))) (zt_odds T P) := by
  obtain ⟨a1, a2, a3⟩ := zw_num T P 0 4 P.2.2.2
  by_cases h1 : (zt_num T 0 4 P).1 = 0
  · rw [zt_odds, if_neg (fun z => z h1)]
    rcases hb : zb_bit P.2.2.2 (zt_adv T P).1.2.2.2 with _ | _
    · obtain ⟨b1, b2⟩ := a3 h1 hb
      rw [b1, zw_nx0 b2] at hr2
      have hf2 : f = (zt_adv T P).1.2.2.2 := hf.trans (zw_ckv0 b1 b2)
      have hr3 : r2 = (0, (zt_adv T (zt_adv T P)).1) := hr2
      rw [if_neg Bool.false_ne_true, ← hf2, hr3]
      obtain ⟨c1, c2, c3⟩ := zw_num T (zt_adv T P) 0 10 0
      unfold zt_odds2
      by_cases h2 : (zt_num T 0 10 (zt_adv T P)).1 = 0
      · obtain ⟨d1, d2⟩ := c3 h2 (zb_bit0 _)
        have hv2 : v = (zt_adv T (zt_adv T P)).1.2.2.2 := by rw [hv, hr3]; exact zw_ckv0 d1 d2
        rw [if_neg (fun z => z h2), d1, zw_nx0 d2, hv2]
        exact zw_pre_stop (K := (zt_adv T (zt_adv T P)).1)
      · obtain ⟨d1, d2⟩ := c1 h2
        have hn0 : ¬ zw_cd (zw_ck 0 10 0 (0, (zt_adv T (zt_adv T P)).1)) = 0 := by rw [d1]; exact h2
        rw [zw_nx1 hn0, if_pos h2]
        exact zw_pre_bad hn0 d1.symm d2.symm
    · have d1 := a2 h1 hb
      have hc4 : zw_cd (4, (zt_adv T P).1) = 4 := zw_cde (by decide)
      have hn0 : ¬ zw_cd (4, (zt_adv T P).1) = 0 := by rw [hc4]; decide
      rw [d1, zw_nx1 hn0] at hr2
      rw [hr2, zw_ck1 hn0, zw_nx1 hn0, if_pos rfl]
      exact zw_pre_bad hn0 hc4.symm rfl
  · obtain ⟨b1, b2⟩ := a1 h1
    have hn0 : ¬ zw_cd (zw_ck 0 4 P.2.2.2 (0, (zt_adv T P).1)) = 0 := by rw [b1]; exact h1
    rw [zw_nx1 hn0] at hr2
    rw [hr2, zw_ck1 hn0, zw_nx1 hn0, zt_odds, if_pos h1]
    exact zw_pre_bad hn0 b1.symm b2.symm
