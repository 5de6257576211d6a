/-! TRYING: the class's answer by the model's numbers -/
theorem zs_bs_no {A : za_D} {p n : Nat} {t : Int32} (hW : ∀ f, f < 5 → zs_wt p t f n A = -4) {x : Nat} (hx : x < 2 ^ 62) : ∀ k, k ≤ 5 → zf_fo (zs_bf A p t n) (lN x, 5) k = (lN x, 5)
  | 0, _ => rfl
  | k + 1, hk => by
    rw [zf_fo, zs_bs_no hW hx k (by omega)]
    unfold zs_bf
    rw [hW k (by omega), if_neg]
    intro q
    have h6 := zs_neg4 hx
    have q2 : lN x < (-4 : Int64) := q
    rw [Int64.lt_iff_toInt_lt] at h6 q2
    omega
theorem zv_best_in {A : za_D} (hw : za_wf A) {p F T n : Nat} {t : Int32} (hn : n ≤ 3) (hF : F < 32) (hT : T ≤ 3) (hf : za_fa A p = nI F) (ht : za_tr A p = nI T) (w : Int32) : zx_best1 A p t n w = zv_b1 A p t (min n (3 - T)) F T w := by
  have hA := zv_own_A hf ht
  have h10 : ∀ k, k ≤ 3 → 10 ^ k < 2 ^ 49 := fun k hk => Nat.lt_of_le_of_lt (Nat.pow_le_pow_right (n := 10) (by decide) hk) (by decide)
  rcases Nat.eq_zero_or_pos (min n (3 - T)) with h0 | h0
  · have hW : ∀ f, f < 5 → zs_wt p t f n A = -4 := fun f hf => by
      rcases n with _ | l
      · rfl
      · have hT3 : T = 3 := by omega
        show zs_wtF A p f (zs_wb p t l) = -4
        unfold zs_wtF
        rw [← hA, zv_no hF hf (by omega), decide_eq_true hT3]
        rfl
    have hi := zv_init (A := A) (p := p) (l := n) (m := 0) (t := t) (F := F) (T := T) (Nat.zero_le _)
    rw [hA, Nat.pow_zero, Nat.mul_one, Nat.sub_zero] at hi
    have hx : 10 ^ n * zv_s A p t F T < 2 ^ 49 := by
      have h1 := Nat.mul_le_mul_left (10 ^ n) (zv_s_le (A := A) (p := p) (t := t) (F := F) (T := T))
      have h2 := h10 n hn
      omega
    have hb : zs_bs A p t n 5 = (lN (10 ^ n * zv_s A p t F T), 5) := by
      unfold zs_bs
      rw [hi]
      exact zs_bs_no hW (by omega) 5 (Nat.le_refl 5)
    unfold zx_best1 zv_b1
    rw [hb, h0]
    split
    · rfl
    · have h1 := zv_low (c := 10 ^ n) (x := zv_s A p t F T) (m := 0) (Nat.pow_pos (by decide)) hx (by rw [Nat.pow_zero, Nat.mul_one]; exact h10 n hn) w
      rw [Nat.pow_zero, Nat.mul_one] at h1
      show zs_low (lN (10 ^ n * zv_s A p t F T)) (zs_pw 10 n) w = zs_low (lN (zv_s A p t F T)) (lN (10 ^ 0)) w
      rw [show (10 : Int64) = lN 10 from rfl, zs_pw_nat, h1, Nat.pow_zero]
  · obtain ⟨l, rfl⟩ : ∃ l, n = l + 1 := ⟨n - 1, by omega⟩
    have h3 : T < 3 := by omega
    have hm : min (l + 1) (3 - T) = min l (3 - (T + 1)) + 1 := by omega
    have hml : min l (3 - (T + 1)) ≤ l := Nat.min_le_left _ _
    have hi := zv_init (A := A) (p := p) (l := l + 1) (m := min l (3 - (T + 1)) + 1) (t := t) (F := F) (T := T) (by omega)
    rw [hA, show l + 1 - (min l (3 - (T + 1)) + 1) = l - min l (3 - (T + 1)) by omega] at hi
    have hW : ∀ f, f < 5 → zs_wt p t f (l + 1) A = if F.testBit f then -4 else lN (10 ^ (l - min l (3 - (T + 1))) * zv_w A F (fun G => zv A p t (min l (3 - (T + 1))) G (T + 1)) f) := fun f hf => by
      show zs_wtF A p f (zs_wb p t l) = _
      have h5 := zv_wt_nat (V := fun G => zv A p t (min l (3 - (T + 1))) G (T + 1)) (c := 10 ^ (l - min l (3 - (T + 1)))) (p := p) hw hF hf h3 (zv_wb (p := p) (t := t) hw l F (T + 1) (by omega) hF (by omega)) (zv_wb (p := p) (t := t) hw l _ (T + 1) (by omega) (zv_or32 hF hf) (by omega))
      rw [hA] at h5
      exact h5
    have hz : zv_s A p t F T * 10 ^ (min l (3 - (T + 1)) + 1) ≤ 10 * 10 ^ min l (3 - (T + 1)) := by
      rw [Nat.pow_succ, Nat.mul_comm (10 ^ _) 10]
      exact Nat.le_trans (Nat.mul_le_mul_right _ zv_s_le) (by omega)
    have hbd : 10 ^ (l - min l (3 - (T + 1))) * (10 * 10 ^ min l (3 - (T + 1))) < 2 ^ 49 := by
      rw [Nat.mul_comm 10, ← Nat.pow_succ, ← Nat.pow_add]
      exact h10 _ (by omega)
    obtain ⟨b1, b2⟩ := zv_bsf (b := 10 ^ min l (3 - (T + 1))) hw hW (Nat.pow_pos (by decide)) (fun G => zv_le hw _ _ _) hz (by omega) 5 (Nat.le_refl 5)
    have hy : zv A p t (min l (3 - (T + 1)) + 1) F T ≤ 10 * 10 ^ min l (3 - (T + 1)) := zv_fo_le (F := F) (V := fun G => zv A p t (min l (3 - (T + 1))) G (T + 1)) hw (fun G => zv_le hw _ _ _) hz 5 (Nat.le_refl 5)
    have hb : zs_bs A p t (l + 1) 5 = (lN (10 ^ (l - min l (3 - (T + 1))) * zv A p t (min l (3 - (T + 1)) + 1) F T), zv_wh A p t (min l (3 - (T + 1)) + 1) F T) := by
      unfold zs_bs
      rw [hi, b1, b2]
      rfl
    unfold zx_best1 zv_b1
    rw [hb, hm]
    split
    · rfl
    · have hx : 10 ^ (l - min l (3 - (T + 1))) * zv A p t (min l (3 - (T + 1)) + 1) F T < 2 ^ 49 := Nat.lt_of_le_of_lt (Nat.mul_le_mul_left _ hy) hbd
      have hp : 10 ^ (l - min l (3 - (T + 1))) * 10 ^ (min l (3 - (T + 1)) + 1) < 2 ^ 49 := by
        rw [← Nat.pow_add]
        exact h10 _ (by omega)
      show zs_low _ (zs_pw 10 (l + 1)) w = _
      rw [← zv_low (Nat.pow_pos (by decide)) hx hp, show (10 : Int64) = lN 10 from rfl, zs_pw_nat, ← Nat.pow_add, show l - min l (3 - (T + 1)) + (min l (3 - (T + 1)) + 1) = l + 1 by omega]
theorem zs_rcv_ex {P : Nat → Bool} {last : Bool} {n : Nat} : ∀ r w, r ≤ n → zs_rcv P last n r w = -4 ∨ ∃ x, x < n ∧ zs_rcv P last n r w = nI x ∧ P x = true
  | 0, _, _ => Or.inl rfl
  | r + 1, w, h => by
    have hx : (if last then r else n - (r + 1)) < n := by split <;> omega
    rw [zs_rcv]
    generalize (if last then r else n - (r + 1)) = x at hx ⊢
    by_cases hP : P x = true
    · rw [if_pos hP]
      split
      · exact Or.inr ⟨x, hx, rfl, hP⟩
      · exact zs_rcv_ex r _ (by omega)
    · rw [if_neg hP]
      exact zs_rcv_ex r _ (by omega)
theorem zs_own_there {A : za_D} (hn : za_n A ≤ 6) {t ab set : Int32} {p : Nat} (hp : p < 6) (h : zs_own A t ab set = nI p) : zb_bit ab (nI p) = false := by
  have hneg : ¬ (-4 : Int32) = nI p := fun z => nI_pos (show p < 2 ^ 31 by omega) (by rw [← z]; decide)
  unfold zs_own zs_recvI at h
  split at h
  · unfold zs_recv at h
    rcases zs_rcv_ex (P := fun q => zs_meets A (zs_right A t ab set).toNatClampNeg q ab) (last := decide (za_pi A (zs_right A t ab set).toNatClampNeg = 2)) (n := za_n A) (za_n A) (if za_pi A (zs_right A t ab set).toNatClampNeg = 1 then 3 else 1) (Nat.le_refl _) with q | ⟨x, hx, q, hm⟩
    · exact absurd (q.symm.trans h) hneg
    · have hxp : x = p := (nI_eq (by omega) (by omega)).mp (q.symm.trans h)
      subst hxp
      have hm2 : zs_meets A (zs_right A t ab set).toNatClampNeg x ab = true := hm
      unfold zs_meets at hm2
      split at hm2
      · cases hm2
      · next z => simpa using z
  · exact absurd h hneg
theorem zs_own_gone {A : za_D} (hn : za_n A ≤ 6) {t : Int32} {p : Nat} (hp : p < 6) (hg : zb_bit (za_g A) (nI p) = true) : ¬ zs_own A t (za_g A) 31 = nI p := fun h => by
  rw [zs_own_there hn hp h] at hg
  cases hg
theorem zs_neg40 : ¬ (0 : Int64) < -4 := by decide
theorem zs_wbF_0 {A : za_D} {p : Nat} {t : Int32} {l : Nat} {W : Nat → Int64} (ho : ¬ zs_own A t (za_g A) 31 = nI p) (hW : ∀ f, W f = -4 ∨ W f = 0) : zs_wbF A p t l W = 0 := by
  have h : ∀ k, zf_fo (fun f x => if W f < x then x else W f) (0 : Int64) k = 0 := fun k => by
    induction k with
    | zero => rfl
    | succ k ih =>
      rw [zf_fo, ih]
      rcases hW k with z | z
      · rw [z]; decide
      · rw [z]; decide
  unfold zs_wbF
  rw [if_neg ho]
  exact h 5
theorem zs_wtF_0 {A : za_D} {p f : Nat} {wb : za_D → Int64} (h1 : wb (zs_try1 A p) = 0) (h2 : wb (zs_try2 A p f) = 0) : zs_wtF A p f wb = -4 ∨ zs_wtF A p f wb = 0 := by
  unfold zs_wtF
  split
  · exact Or.inl rfl
  · rw [h1, h2, Int64.mul_zero, Int64.mul_zero]
    exact Or.inr rfl
theorem zs_wb_gone {p : Nat} {t : Int32} (hp : p < 6) : ∀ l (A : za_D), za_n A ≤ 6 → zb_bit (za_g A) (nI p) = true → zs_wb p t l A = 0
  | 0, A, hn, hg => zs_wbF_0 (zs_own_gone hn hp hg) (fun _ => Or.inl rfl)
  | l + 1, A, hn, hg => zs_wbF_0 (zs_own_gone hn hp hg) (fun f => zs_wtF_0 (zs_wb_gone hp l _ hn hg) (zs_wb_gone hp l _ hn hg))
theorem zv_best_gone {A : za_D} {p F T n : Nat} {t : Int32} (hp : p < 6) (hn6 : za_n A ≤ 6) (hn : n ≤ 3) (hg : zb_bit (za_g A) (nI p) = true) (w : Int32) : zx_best1 A p t n w = zv_b1 A p t 0 F T w := by
  have hW : ∀ f, zs_wt p t f n A = -4 ∨ zs_wt p t f n A = 0 := fun f => by
    rcases n with _ | l
    · exact Or.inl rfl
    · exact zs_wtF_0 (zs_wb_gone hp l _ hn6 hg) (zs_wb_gone hp l _ hn6 hg)
  have h : ∀ k, zf_fo (zs_bf A p t n) ((0 : Int64), (5 : Int32)) k = (0, 5) := fun k => by
    induction k with
    | zero => rfl
    | succ k ih =>
      rw [zf_fo, ih]
      unfold zs_bf
      rcases hW k with z | z
      · rw [z, if_neg zs_neg40]
      · rw [z, if_neg (Int64.lt_irrefl)]
  have hb : zs_bs A p t n 5 = (0, 5) := by
    unfold zs_bs
    rw [if_neg (zs_own_gone hn6 hp hg)]
    exact h 5
  have hs : zv_s A p t F T = 0 := if_neg (zs_own_gone (A := zv_A A p F T) hn6 hp hg)
  unfold zx_best1 zv_b1
  rw [hb]
  split
  · rfl
  · have h10 : 10 ^ n < 2 ^ 49 := Nat.lt_of_le_of_lt (Nat.pow_le_pow_right (n := 10) (by decide) hn) (by decide)
    have h1 := zv_low (c := 10 ^ n) (x := 0) (m := 0) (Nat.pow_pos (by decide)) (by rw [Nat.mul_zero]; decide) (by rw [Nat.pow_zero, Nat.mul_one]; exact h10) w
    rw [Nat.pow_zero, Nat.mul_one, Nat.mul_zero] at h1
    show zs_low (lN 0) (zs_pw 10 n) w = zs_low (lN (zv_s A p t F T)) (lN (10 ^ 0)) w
    rw [show (10 : Int64) = lN 10 from rfl, zs_pw_nat, h1, hs, Nat.pow_zero]
