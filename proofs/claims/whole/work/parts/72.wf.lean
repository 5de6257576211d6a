/-! WHAT EVERY CALL KEEPS -/
theorem zx_st.rf {A : za_D} : zx_st A A := ⟨rfl, rfl, rfl, rfl, rfl, rfl⟩
theorem zx_st.sym {A B : za_D} (h : zx_st A B) : zx_st B A := ⟨h.1.symm, h.2.1.symm, h.2.2.1.symm, h.2.2.2.1.symm, h.2.2.2.2.1.symm, h.2.2.2.2.2.symm⟩
theorem zx_st.tr {A B C : za_D} (h : zx_st A B) (h2 : zx_st B C) : zx_st A C := ⟨h.1.trans h2.1, h.2.1.trans h2.2.1, h.2.2.1.trans h2.2.2.1, h.2.2.2.1.trans h2.2.2.2.1, h.2.2.2.2.1.trans h2.2.2.2.2.1, h.2.2.2.2.2.trans h2.2.2.2.2.2⟩
theorem zx_wf.duchy {X : za_X} {A : za_D} (h : zx_wf X) (hA : za_wf A) (hs : zx_st A X.1) : zx_wf (A, X.2) := ⟨hA, h.2.1, h.2.2.1, h.2.2.2.1, fun q => ⟨(h.2.2.2.2.1 q).1, hs.tr (h.2.2.2.2.1 q).2⟩, fun q => ⟨(h.2.2.2.2.2 q).1, hs.tr (h.2.2.2.2.2 q).2⟩⟩
theorem zx_st.acts {A : za_D} {D : Nat} : zx_st (zs_acts A D) A := by rw [zs_acts_eq]; exact ⟨rfl, rfl, rfl, rfl, rfl, rfl⟩
theorem zx_st.doesA {A : za_D} {x : Int32} : zx_st (zx_doesA A x) A := by
  unfold zx_doesA zs_actS
  split
  · exact zx_st.rf
  · split
    · exact zx_st.acts
    · exact zx_st.rf
theorem zw_does {X : za_X} (h : zx_wf X) (hn : za_n X.1 ≤ 6) (x : Int32) : zx_wf (zx_doesA X.1 x, X.2) := h.duchy (h.1.doesA hn x) zx_st.doesA
theorem zw_clg {g n : Nat} (hn : n ≤ 6) (hg : g < 2 ^ n) {q : Nat} (hq : q < 6) : ∃ g2, g2 < 2 ^ n ∧ nI g &&& ((1 <<< (nI q &&& 31)) ^^^ -1) = nI g2 := ⟨g &&& (63 - 2 ^ q), Nat.lt_of_le_of_lt Nat.and_le_left hg, zm_cl ⟨g, Nat.lt_of_lt_of_le hg (zw_pow hn)⟩ ⟨q, hq⟩⟩
theorem zw_comes {X : za_X} (h : zx_wf X) (hn : za_n X.1 ≤ 6) (p : Int32) : zx_wf (if zb_in p (za_n X.1) then zx_comesA X.1 p else X.1, X.2) := by
  by_cases hp : zb_in p (za_n X.1) = true
  · rw [if_pos hp]
    obtain ⟨q, hq, rfl⟩ := (zb_in_iff (by omega)).mp hp
    obtain ⟨g, hg, hge⟩ := h.1.2.2.2
    obtain ⟨g2, hg2, e⟩ := zw_clg hn hg (q := q) (by omega)
    refine h.duchy ?_ ⟨rfl, rfl, rfl, rfl, rfl, rfl⟩
    unfold zx_comesA
    rw [hge, e]
    exact h.1.sg hg2
  · rw [if_neg hp]
    exact h
theorem zw_tries {X : za_X} (h : zx_wf X) (p n : Int32) : zx_wf (if zb_in p (za_n X.1) && zx_3 n 3 then za_st X.1 (upd (za_tr X.1) p.toNatClampNeg n) else X.1, X.2) := by
  by_cases hp : (zb_in p (za_n X.1) && zx_3 n 3) = true
  · rw [if_pos hp]
    obtain ⟨t, ht, rfl⟩ := zx_3of (n := 3) (Bool.and_eq_true_iff.mp hp).2 (by omega)
    exact h.duchy (h.1.st _ (by omega)) ⟨rfl, rfl, rfl, rfl, rfl, rfl⟩
  · rw [if_neg hp]
    exact h
theorem zw_hush {X : za_X} (h : zx_wf X) (hn : za_n X.1 ≤ 6) (p f : Int32) : zx_wf (if zb_in p (za_n X.1) && zb_in f 5 then za_sf X.1 (upd (za_fa X.1) p.toNatClampNeg (za_fa X.1 p.toNatClampNeg &&& ((1 <<< (f &&& 31)) ^^^ -1))) else X.1, X.2) := by
  by_cases hp : (zb_in p (za_n X.1) && zb_in f 5) = true
  · rw [if_pos hp]
    obtain ⟨q, hq, rfl⟩ := (zb_in_iff (by omega)).mp (Bool.and_eq_true_iff.mp hp).1
    obtain ⟨c, hc, rfl⟩ := (zb_in_iff (by omega)).mp (Bool.and_eq_true_iff.mp hp).2
    obtain ⟨F, hF, hFe⟩ := (h.1.1 q hq).2.1
    obtain ⟨g2, hg2, e⟩ := zw_clg (g := F) (n := 5) (by omega) hF (q := c) (by omega)
    rw [nI_clamp (by omega), hFe, e]
    exact h.duchy (h.1.sf _ hg2) ⟨rfl, rfl, rfl, rfl, rfl, rfl⟩
  · rw [if_neg hp]
    exact h
theorem zw_weigh {X : za_X} (h : zx_wf X) (f v : Int32) : zx_wf (if zb_in f 5 && zx_3 v 10 then za_so X.1 (upd (za_od X.1) f.toNatClampNeg v) else X.1, X.2) := by
  by_cases hp : (zb_in f 5 && zx_3 v 10) = true
  · rw [if_pos hp]
    obtain ⟨t, ht, rfl⟩ := zx_3of (n := 10) (Bool.and_eq_true_iff.mp hp).2 (by omega)
    exact h.duchy (h.1.so _ (by omega)) ⟨rfl, rfl, rfl, rfl, rfl, rfl⟩
  · rw [if_neg hp]
    exact h
theorem zw_pick {X : za_X} (h : zx_wf X) (k v : Int32) : zx_wf (if zb_in k (za_m X.1) && zb_in v 3 then za_sp X.1 (upd (za_pi X.1) k.toNatClampNeg v) else X.1, X.2) := by
  by_cases hp : (zb_in k (za_m X.1) && zb_in v 3) = true
  · rw [if_pos hp]
    obtain ⟨t, ht, rfl⟩ := (zb_in_iff (by omega)).mp (Bool.and_eq_true_iff.mp hp).2
    exact h.duchy (h.1.sp _ ht) ⟨rfl, rfl, rfl, rfl, rfl, rfl⟩
  · rw [if_neg hp]
    exact h
theorem zx_r19_ex {r : Int32} (h : zx_r19 r = true) : ∃ n, n < 10 ∧ r = nI n := by
  have h1 := of_decide_eq_true h
  obtain ⟨i, hi, e⟩ := zx_3ex (x := r) (n := 9) (fun z => by have h2 := h1.1; rw [Int32.le_iff_toInt_le] at h2; rw [Int32.lt_iff_toInt_lt] at z; have e1 : (1 : Int32).toInt = 1 := rfl; have e0 : (0 : Int32).toInt = 0 := rfl; omega) h1.2 (by omega)
  exact ⟨i, by omega, e⟩
theorem zw_rank {X : za_X} (h : zx_wf X) (k r : Int32) : zx_wf (zx_rankA X.1 k r, X.2) := by
  unfold zx_rankA zx_rankA1
  split
  · split
    · exact h
    · split
      · exact h
      · next h1 _ =>
        obtain ⟨n, hn, rfl⟩ := zx_r19_ex (by simpa using h1)
        exact h.duchy (h.1.sr _ hn) ⟨rfl, rfl, rfl, rfl, rfl, rfl⟩
  · exact h
theorem zw_feed {X : za_X} (h : zx_wf X) (c : Int32) : zx_wf (zx_fedX X c) := by
  unfold zx_fedX
  split
  · exact h
  · next h1 =>
    split
    · next h2 =>
      have h3 : zx_3 c 127 = true := by simpa using h1
      obtain ⟨q, hq, rfl⟩ := zx_3of (n := 127) h3 (by omega)
      refine ⟨h.1, h.2.1, ⟨h2, fun i hi => ?_⟩, h.2.2.2.1, h.2.2.2.2.1, h.2.2.2.2.2⟩
      show ∃ c, c < 128 ∧ upd (zx_T X).2 (zx_T X).1 (nI q) i = nI c
      have hi2 : i < (zx_T X).1 + 1 := hi
      by_cases z : i = (zx_T X).1
      · rw [z, zw_updE]; exact ⟨q, by omega, rfl⟩
      · rw [zw_updN z]; exact h.2.2.1.2 i (by omega)
    · exact h
theorem zw_end {X : za_X} (h : zx_wf X) (n : Int32) : zx_wf (zx_endX X n) := by
  unfold zx_endX
  split
  · next h1 =>
    have h160 := h.2.2.1.1
    obtain ⟨q, hq, rfl⟩ := zx_3of h1 (by omega)
    rw [nI_clamp (by omega)]
    exact ⟨h.1, h.2.1, ⟨Nat.le_trans hq h160, fun i hi => h.2.2.1.2 i (Nat.lt_of_lt_of_le hi hq)⟩, h.2.2.2.1, h.2.2.2.2.1, h.2.2.2.2.2⟩
  · exact h
theorem zw_see {X : za_X} (h : zx_wf X) (t p : Int32) : zx_wf (zx_seeX X t p) := by
  unfold zx_seeX
  split
  · exact h
  · next h1 =>
    split
    · next h2 =>
      have h3 : zx_seeok X t p = true := by simpa using h1
      obtain ⟨q, hq, rfl⟩ := (zb_in_iff (by omega)).mp (Bool.and_eq_true_iff.mp h3).1
      refine ⟨h.1, h.2.1, h.2.2.1, ⟨h2, fun i hi => ?_⟩, h.2.2.2.2.1, h.2.2.2.2.2⟩
      show ∃ t, t < 4 ∧ upd (zx_s X).2.1 (zx_s X).1 (nI q) i = nI t
      have hi2 : i < (zx_s X).1 + 1 := hi
      by_cases z : i = (zx_s X).1
      · rw [z, zw_updE]; exact ⟨q, hq, rfl⟩
      · rw [zw_updN z]; exact h.2.2.2.1.2 i (by omega)
    · exact h
theorem zw_forget {X : za_X} (h : zx_wf X) (n : Int32) : zx_wf (zx_forX X n) := by
  unfold zx_forX
  split
  · next h1 =>
    have h6 := h.2.2.2.1.1
    obtain ⟨q, hq, rfl⟩ := zx_3of h1 (by omega)
    rw [nI_clamp (by omega)]
    exact ⟨h.1, h.2.1, h.2.2.1, ⟨Nat.le_trans hq h6, fun i hi => h.2.2.2.1.2 i (Nat.lt_of_lt_of_le hi hq)⟩, h.2.2.2.2.1, h.2.2.2.2.2⟩
  · exact h
theorem zw_keep {X : za_X} (h : zx_wf X) (k : Int32) : zx_wf (zx_keepX X k) := by
  unfold zx_keepX
  split
  · exact ⟨h.1, h.2.1, h.2.2.1, h.2.2.2.1, fun _ => ⟨h.1, zx_st.rf⟩, h.2.2.2.2.2⟩
  · split
    · exact ⟨h.1, h.2.1, h.2.2.1, h.2.2.2.1, h.2.2.2.2.1, fun _ => ⟨h.1, zx_st.rf⟩⟩
    · exact h
theorem zw_back {X : za_X} (h : zx_wf X) (k : Int32) : zx_wf (zx_backX X k) := by
  unfold zx_backX
  split
  · split
    · next h1 => exact h.duchy (h.2.2.2.2.1 h1).1 (h.2.2.2.2.1 h1).2.sym
    · exact h
  · split
    · split
      · next h1 => exact h.duchy (h.2.2.2.2.2 h1).1 (h.2.2.2.2.2 h1).2.sym
      · exact h
    · exact h
theorem zw_sheet {X : za_X} (h : zx_wf X) (k l n : Int32) : zx_wf (zx_shX X k l n) := by
  unfold zx_shX
  by_cases hp : (zb_in k 4 && (zb_in l 3 && decide (n ≤ 40))) = true
  · rw [if_pos hp]
    split
    · exact h
    · next h1 =>
      have h2 := (Bool.and_eq_true_iff.mp (Bool.and_eq_true_iff.mp hp).2)
      obtain ⟨q, hq, rfl⟩ := (zb_in_iff (by omega)).mp (Bool.and_eq_true_iff.mp hp).1
      obtain ⟨y, hy, rfl⟩ := (zb_in_iff (by omega)).mp h2.1
      obtain ⟨z, hz, rfl⟩ := zx_3ex (n := 40) h1 (of_decide_eq_true h2.2) (by omega)
      refine ⟨h.1, fun a ha => ?_, h.2.2⟩
      show upd (zx_B X).1 (nI q).toNatClampNeg (nI y) a = -4 ∨ ((∃ l, l < 3 ∧ upd (zx_B X).1 (nI q).toNatClampNeg (nI y) a = nI l) ∧ ∃ w, w ≤ 40 ∧ upd (zx_B X).2.1 (nI q).toNatClampNeg (nI z) a = nI w)
      rw [nI_clamp (by omega)]
      by_cases e : a = q
      · rw [e, zw_updE, zw_updE]; exact Or.inr ⟨⟨y, hy, rfl⟩, z, hz, rfl⟩
      · rw [zw_updN e, zw_updN e]; exact h.2.1 a ha
  · rw [if_neg hp]
    exact h
theorem zw_lay {X : za_X} (h : zx_wf X) (k i v : Int32) : zx_wf (zx_layX X k i v) := by
  unfold zx_layX zx_layX1
  split
  · split
    · exact ⟨h.1, h.2.1, h.2.2⟩
    · exact h
  · exact h
theorem zw_rd {B : za_H} {k : Nat} {l f : Int32} : ∀ r i (A : za_D), za_wf A → za_n A ≤ 6 → za_wf (zs_rd B k l f r i A).2.1 ∧ zx_st (zs_rd B k l f r i A).2.1 A
  | 0, i, A, h, _ => ⟨h, zx_st.rf⟩
  | r + 1, i, A, h, hn => by
    rw [zs_rd]
    split
    · exact ⟨h, zx_st.rf⟩
    · split
      · exact ⟨h, zx_st.rf⟩
      · have hs : zx_st (zx_doesA A (B.2.2 k (f + nI i).toNatClampNeg)) A := zx_st.doesA
        obtain ⟨a, b⟩ := zw_rd (B := B) (k := k) (l := l) (f := f) r (i + 1) _ (h.doesA hn (B.2.2 k (f + nI i).toNatClampNeg)) (by rw [hs.1]; exact hn)
        exact ⟨a, b.tr hs⟩
theorem zw_read {X : za_X} (h : zx_wf X) (hn : za_n X.1 ≤ 6) (k l f n : Int32) : zx_wf (zx_readX X k l f n) := by
  unfold zx_readX zx_read2
  split
  · split
    · obtain ⟨a, b⟩ := zw_rd (B := zx_B X) (k := k.toNatClampNeg) (l := l) (f := f) n.toNatClampNeg 0 X.1 h.1 hn
      have h2 := h.duchy a b
      exact ⟨h2.1, h2.2.1, h2.2.2.1, h2.2.2.2.1, h2.2.2.2.2.1, h2.2.2.2.2.2⟩
    · exact h
  · exact h
