/-! TRYING: the class's numbers and the model's -/
def zv_A (A : za_D) (p F T : Nat) : za_D := za_st (za_sf A (upd (za_fa A) p (nI F))) (upd (za_tr A) p (nI T))
def zv_s (A : za_D) (p : Nat) (t : Int32) (F T : Nat) : Nat := if zs_own (zv_A A p F T) t (za_g A) 31 = nI p then 1 else 0
def zv_o (A : za_D) (f : Nat) : Nat := (za_od A f).toNatClampNeg
def zv_v (A : za_D) (F : Nat) (V : Nat → Nat) (f : Nat) : Nat := zv_o A f * V (F ||| 2 ^ f) + (10 - zv_o A f) * V F
def zv_w (A : za_D) (F : Nat) (V : Nat → Nat) (f : Nat) : Nat := if F.testBit f then 0 else zv_v A F V f
def zv_f (A : za_D) (F : Nat) (V : Nat → Nat) (f x : Nat) : Nat := if x < zv_w A F V f then zv_w A F V f else x
def zv (A : za_D) (p : Nat) (t : Int32) : Nat → Nat → Nat → Nat
  | 0, F, T => zv_s A p t F T
  | m + 1, F, T => zf_fo (zv_f A F (fun G => zv A p t m G (T + 1))) (zv_s A p t F T * 10 ^ (m + 1)) 5
def zv_g (A : za_D) (F : Nat) (V : Nat → Nat) (f : Nat) (S : Nat × Int32) : Nat × Int32 := if S.1 < zv_w A F V f then (zv_w A F V f, nI f) else S
def zv_wh (A : za_D) (p : Nat) (t : Int32) (M F T : Nat) : Int32 := match M with
  | 0 => 5
  | m + 1 => (zf_fo (zv_g A F (fun G => zv A p t m G (T + 1))) (zv_s A p t F T * 10 ^ (m + 1), 5) 5).2
def zv_b1 (A : za_D) (p : Nat) (t : Int32) (M F T : Nat) (w : Int32) : Int64 := if w = 2 then (zv_wh A p t M F T).toInt64 else zs_low (lN (zv A p t M F T)) (lN (10 ^ M)) w
theorem zv_s_le {A : za_D} {p : Nat} {t : Int32} {F T : Nat} : zv_s A p t F T ≤ 1 := by unfold zv_s; split <;> omega
theorem zv_oe {A : za_D} (hw : za_wf A) {f : Nat} (hf : f < 5) : za_od A f = nI (zv_o A f) ∧ zv_o A f ≤ 10 := by
  obtain ⟨o, ho, he⟩ := hw.2.1 f hf
  have e : zv_o A f = o := by rw [zv_o, he, nI_clamp (by omega)]
  rw [e]
  exact ⟨he, by omega⟩
theorem zv_w_le {A : za_D} (hw : za_wf A) {F f b : Nat} {V : Nat → Nat} (hf : f < 5) (hV : ∀ G, V G ≤ b) : zv_w A F V f ≤ 10 * b := by
  unfold zv_w zv_v
  split
  · exact Nat.zero_le _
  · obtain ⟨-, ho⟩ := zv_oe hw hf
    have h1 := Nat.mul_le_mul_left (zv_o A f) (hV (F ||| 2 ^ f))
    have h2 := Nat.mul_le_mul_left (10 - zv_o A f) (hV F)
    have h3 : zv_o A f * b + (10 - zv_o A f) * b = 10 * b := by rw [← Nat.add_mul]; congr 1; omega
    omega
theorem zv_fo_le {A : za_D} (hw : za_wf A) {F b z : Nat} {V : Nat → Nat} (hV : ∀ G, V G ≤ b) (hz : z ≤ 10 * b) : ∀ k, k ≤ 5 → zf_fo (zv_f A F V) z k ≤ 10 * b
  | 0, _ => hz
  | k + 1, hk => by
    have ih := zv_fo_le (F := F) hw hV hz k (by omega)
    have h1 := zv_w_le (F := F) (f := k) hw (by omega) hV
    show zv_f A F V k (zf_fo (zv_f A F V) z k) ≤ 10 * b
    unfold zv_f
    split
    · exact h1
    · exact ih
theorem zv_le {A : za_D} (hw : za_wf A) {p : Nat} {t : Int32} : ∀ m F T, zv A p t m F T ≤ 10 ^ m
  | 0, F, T => zv_s_le
  | m + 1, F, T => by
    have hz : zv_s A p t F T * 10 ^ (m + 1) ≤ 10 * 10 ^ m := by
      rw [Nat.pow_succ, Nat.mul_comm (10 ^ m) 10]
      exact Nat.le_trans (Nat.mul_le_mul_right _ zv_s_le) (by omega)
    have := zv_fo_le (F := F) (V := fun G => zv A p t m G (T + 1)) hw (fun G => zv_le hw m G (T + 1)) hz 5 (Nat.le_refl 5)
    rw [Nat.pow_succ, Nat.mul_comm (10 ^ m) 10]
    exact this
/-- the class's row of maxima -/
theorem zs_wbF_no {A : za_D} {p : Nat} {t : Int32} {l : Nat} {W : Nat → Int64} (hW : ∀ f, f < 5 → W f = -4) {x : Nat} (hx : x < 2 ^ 62) (he : (if zs_own A t (za_g A) 31 = nI p then zs_pw 10 l else 0) = lN x) : zs_wbF A p t l W = lN x := by
  have h : ∀ k, k ≤ 5 → zf_fo (fun f x => if W f < x then x else W f) (lN x) k = lN x := fun k => by
    induction k with
    | zero => exact fun _ => rfl
    | succ k ih =>
      intro hk
      rw [zf_fo, ih (by omega), hW k (by omega), if_pos]
      rw [Int64.lt_iff_toInt_lt]
      have h1 : ¬ lN x < 0 := fun z => by have := (pk_lLT (b := 0) (by omega) (by omega)).mp z; omega
      rw [Int64.lt_iff_toInt_lt] at h1
      have h2 : (-4 : Int64).toInt = -4 := by decide
      have h3 : (0 : Int64).toInt = 0 := rfl
      omega
  unfold zs_wbF
  rw [he]
  exact h 5 (Nat.le_refl 5)
theorem zs_neg4 {x : Nat} (hx : x < 2 ^ 62) : (-4 : Int64) < lN x := by
  have h1 : ¬ lN x < 0 := fun z => by have := (pk_lLT (b := 0) (by omega) (by omega)).mp z; omega
  rw [Int64.lt_iff_toInt_lt] at h1 ⊢
  have h2 : (-4 : Int64).toInt = -4 := by decide
  have h3 : (0 : Int64).toInt = 0 := rfl
  omega
theorem zv_init {A : za_D} {p l m : Nat} {t : Int32} {F T : Nat} (hm : m ≤ l) : (if zs_own (zv_A A p F T) t (za_g (zv_A A p F T)) 31 = nI p then zs_pw 10 l else 0) = lN (10 ^ (l - m) * (zv_s A p t F T * 10 ^ m)) := by
  show (if zs_own (zv_A A p F T) t (za_g A) 31 = nI p then zs_pw 10 l else 0) = _
  unfold zv_s
  split
  · rw [show (10 : Int64) = lN 10 from rfl, zs_pw_nat, Nat.one_mul, ← Nat.pow_add, Nat.sub_add_cancel hm]
  · rw [Nat.zero_mul, Nat.mul_zero]; rfl
theorem zv_or32 {F f : Nat} (hF : F < 32) (hf : f < 5) : F ||| 2 ^ f < 32 := zm_or32 ⟨F, hF⟩ ⟨f, hf⟩
theorem zv_try1 {A : za_D} {p F T : Nat} : zs_try1 (zv_A A p F T) p = zv_A A p F (T + 1) := by
  unfold zs_try1 zv_A
  show za_st (za_sf A (upd (za_fa A) p (nI F))) (upd (upd (za_tr A) p (nI T)) p (upd (za_tr A) p (nI T) p + 1)) = _
  rw [zm_up, zm_at, nI_1]
theorem zv_try2 {A : za_D} {p F T f : Nat} (hF : F < 32) (hf : f < 5) : zs_try2 (zv_A A p F T) p f = zv_A A p (F ||| 2 ^ f) (T + 1) := by
  unfold zs_try2
  rw [zv_try1]
  unfold zv_A
  show za_st (za_sf A (upd (upd (za_fa A) p (nI F)) p (upd (za_fa A) p (nI F) p ||| (1 <<< (nI f &&& 31))))) (upd (za_tr A) p (nI (T + 1))) = _
  rw [zm_up, zm_at, zm_or ⟨F, by omega⟩ ⟨f, by omega⟩]
theorem zv_no {A : za_D} {p F T f : Nat} (hF : F < 32) (hf : f < 5) (hT : T < 4) : zs_no (zv_A A p F T) p f = (decide (T = 3) || F.testBit f) := by
  unfold zs_no zv_A
  show (decide (¬ upd (za_tr A) p (nI T) p < 3) || zb_bit (upd (za_fa A) p (nI F) p) (nI f)) = _
  rw [zm_at, zm_at, zn_bitn (by omega) (by omega)]
  congr 1
  refine decide_eq_decide.mpr ⟨fun h => ?_, fun h z => ?_⟩
  · rcases Nat.lt_or_ge T 3 with z | z
    · exact absurd ((nI_ltI (b := 3) (by omega) (by omega)).mpr z) h
    · omega
  · have := zm_tr z hT
    omega
/-- one more try -/
theorem zv_wt_nat {A : za_D} (hw : za_wf A) {p F T f c : Nat} {wb : za_D → Int64} {V : Nat → Nat} (hF : F < 32) (hf : f < 5) (hT : T < 3) (h1 : wb (zv_A A p F (T + 1)) = lN (c * V F)) (h2 : wb (zv_A A p (F ||| 2 ^ f) (T + 1)) = lN (c * V (F ||| 2 ^ f))) : zs_wtF (zv_A A p F T) p f wb = if F.testBit f then -4 else lN (c * zv_w A F V f) := by
  obtain ⟨ho, ho2⟩ := zv_oe hw hf
  unfold zs_wtF zv_w zv_v
  rw [zv_no hF hf (by omega), decide_eq_false (by omega), Bool.false_or, zv_try1, zv_try2 hF hf, h1, h2]
  by_cases hb : F.testBit f = true
  · rw [if_pos hb, if_pos hb]
  · rw [if_neg hb, if_neg hb, if_neg hb]
    show (za_od A f).toInt64 * _ + (10 - za_od A f).toInt64 * _ = _
    rw [ho, show (10 : Int32) = nI 10 from rfl, pk_sub ho2, nI_l (by omega), nI_l (by omega), lN_mul, lN_mul, lN_add, Nat.mul_add, Nat.mul_left_comm, Nat.mul_left_comm (10 - zv_o A f)]
/-- the fold: the class's maxima are c times the model's -/
theorem zv_fold {A : za_D} (hw : za_wf A) {F c b z : Nat} {V : Nat → Nat} {W : Nat → Int64} (hW : ∀ f, f < 5 → W f = if F.testBit f then -4 else lN (c * zv_w A F V f)) (hV : ∀ G, V G ≤ b) (hz : z ≤ 10 * b) (hb : c * (10 * b) < 2 ^ 62) : ∀ k, k ≤ 5 → zf_fo (fun f x => if W f < x then x else W f) (lN (c * z)) k = lN (c * zf_fo (zv_f A F V) z k)
  | 0, _ => rfl
  | k + 1, hk => by
    have ih := zv_fold hw hW hV hz hb k (by omega)
    have h1 := zv_w_le (F := F) (f := k) hw (by omega) hV
    have h2 := zv_fo_le (F := F) hw hV hz k (by omega)
    have h3 : c * zv_w A F V k < 2 ^ 62 := Nat.lt_of_le_of_lt (Nat.mul_le_mul_left c h1) hb
    have h4 : c * zf_fo (zv_f A F V) z k < 2 ^ 62 := Nat.lt_of_le_of_lt (Nat.mul_le_mul_left c h2) hb
    show (if W k < zf_fo (fun f x => if W f < x then x else W f) (lN (c * z)) k then zf_fo (fun f x => if W f < x then x else W f) (lN (c * z)) k else W k) = lN (c * zv_f A F V k (zf_fo (zv_f A F V) z k))
    rw [ih, hW k (by omega)]
    generalize zf_fo (zv_f A F V) z k = y at h2 h4 ⊢
    unfold zv_f
    by_cases hb2 : F.testBit k = true
    · have h0 : zv_w A F V k = 0 := if_pos hb2
      rw [if_pos hb2, if_pos (zs_neg4 h4), h0, if_neg (Nat.not_lt_zero _)]
    · rw [if_neg hb2]
      by_cases hlt : y < zv_w A F V k
      · rw [if_pos hlt, if_neg]
        intro q
        have := (pk_lLT (by omega) (by omega)).mp q
        have := Nat.mul_le_mul_left c (Nat.le_of_lt hlt)
        omega
      · rw [if_neg hlt]
        split
        · rfl
        · next q =>
          have h5 : ¬ c * zv_w A F V k < c * y := fun z => q ((pk_lLT (by omega) (by omega)).mpr z)
          have h6 := Nat.mul_le_mul_left c (Nat.le_of_not_lt hlt)
          rw [show c * zv_w A F V k = c * y by omega]
theorem zv_c62 {a b : Nat} (h : a + b ≤ 4) : 10 ^ a * 10 ^ b < 2 ^ 62 := by
  rw [← Nat.pow_add]
  exact Nat.lt_of_le_of_lt (Nat.pow_le_pow_right (n := 10) (by decide) h) (by decide)
theorem zv_wb {A : za_D} (hw : za_wf A) {p : Nat} {t : Int32} : ∀ l F T, l ≤ 3 → F < 32 → T ≤ 3 → zs_wb p t l (zv_A A p F T) = lN (10 ^ (l - min l (3 - T)) * zv A p t (min l (3 - T)) F T)
  | 0, F, T, _, hF, hT => by
    rw [Nat.zero_min]
    show zs_wbF (zv_A A p F T) p t 0 (fun _ => -4) = _
    refine zs_wbF_no (fun _ _ => rfl) ?_ ((zv_init (m := 0) (Nat.le_refl 0)).trans ?_)
    · show 10 ^ 0 * zv_s A p t F T < _
      have := zv_s_le (A := A) (p := p) (t := t) (F := F) (T := T)
      omega
    · rw [Nat.pow_zero, Nat.mul_one]; rfl
  | l + 1, F, T, hl, hF, hT => by
    show zs_wbF (zv_A A p F T) p t (l + 1) (fun f => zs_wtF (zv_A A p F T) p f (zs_wb p t l)) = _
    rcases Nat.lt_or_ge T 3 with h3 | h3
    · have hm : min (l + 1) (3 - T) = min l (3 - (T + 1)) + 1 := by omega
      rw [hm]
      have hml : min l (3 - (T + 1)) ≤ l := Nat.min_le_left _ _
      rw [show l + 1 - (min l (3 - (T + 1)) + 1) = l - min l (3 - (T + 1)) by omega]
      unfold zs_wbF
      rw [zv_init (m := min l (3 - (T + 1)) + 1) (by omega), show l + 1 - (min l (3 - (T + 1)) + 1) = l - min l (3 - (T + 1)) by omega]
      refine zv_fold (V := fun G => zv A p t (min l (3 - (T + 1))) G (T + 1)) (b := 10 ^ min l (3 - (T + 1))) hw (fun f hf => ?_) (fun G => zv_le hw _ _ _) ?_ ?_ 5 (Nat.le_refl 5)
      · exact zv_wt_nat hw hF hf h3 (zv_wb hw l F (T + 1) (by omega) hF (by omega)) (zv_wb hw l _ (T + 1) (by omega) (zv_or32 hF hf) (by omega))
      · rw [Nat.pow_succ, Nat.mul_comm (10 ^ _) 10]
        exact Nat.le_trans (Nat.mul_le_mul_right _ zv_s_le) (by omega)
      · rw [Nat.mul_comm 10, ← Nat.pow_succ]
        exact zv_c62 (by omega)
    · have hT3 : T = 3 := by omega
      subst hT3
      rw [show min (l + 1) (3 - 3) = 0 by omega]
      refine zs_wbF_no (fun f hf => ?_) ?_ ((zv_init (m := 0) (Nat.zero_le _)).trans ?_)
      · unfold zs_wtF
        rw [zv_no hF hf (by omega)]
        rfl
      · show 10 ^ (l + 1) * zv_s A p t F 3 < _
        have h1 := Nat.mul_le_mul_left (10 ^ (l + 1)) (zv_s_le (A := A) (p := p) (t := t) (F := F) (T := 3))
        have h2 := zv_c62 (a := l + 1) (b := 0) (by omega)
        omega
      · rw [Nat.pow_zero, Nat.mul_one]; rfl
theorem zv_own_A {A : za_D} {p F T : Nat} (hf : za_fa A p = nI F) (ht : za_tr A p = nI T) : zv_A A p F T = A := by
  unfold zv_A
  rw [← hf, ← ht, zm_same, zm_same]
theorem zv_low {c x m : Nat} (hc : 0 < c) (h1 : c * x < 2 ^ 49) (h2 : c * 10 ^ m < 2 ^ 49) (w : Int32) : zs_low (lN (c * x)) (lN (c * 10 ^ m)) w = zs_low (lN x) (lN (10 ^ m)) w := by
  have hp : 0 < 10 ^ m := Nat.pow_pos (by decide)
  have hx : x ≤ c * x := Nat.le_mul_of_pos_left _ hc
  have hb : 10 ^ m ≤ c * 10 ^ m := Nat.le_mul_of_pos_left _ hc
  have hg := Nat.gcd_pos_of_pos_right x hp
  have hgl := Nat.gcd_le_right x hp
  rw [zn_low_eq h1 (Nat.mul_pos hc hp) h2, zn_low_eq (by omega) hp (by omega), Nat.gcd_mul_left]
  have hcg : c * Nat.gcd x (10 ^ m) ≤ c * 10 ^ m := Nat.mul_le_mul_left c hgl
  have hcp : 0 < c * Nat.gcd x (10 ^ m) := Nat.mul_pos hc hg
  split
  · rw [pk_lDiv (by omega) hcp (by omega), pk_lDiv (by omega) hg (by omega), Nat.mul_div_mul_left _ _ hc]
  · rw [pk_lDiv (by omega) hcp (by omega), pk_lDiv (by omega) hg (by omega), Nat.mul_div_mul_left _ _ hc]
/-- the first FACT of the best -/
theorem zv_bsf {A : za_D} (hw : za_wf A) {p n F c b z : Nat} {t : Int32} {V : Nat → Nat} (hW : ∀ f, f < 5 → zs_wt p t f n A = if F.testBit f then -4 else lN (c * zv_w A F V f)) (hc : 0 < c) (hV : ∀ G, V G ≤ b) (hz : z ≤ 10 * b) (hb : c * (10 * b) < 2 ^ 62) : ∀ k, k ≤ 5 → zf_fo (zs_bf A p t n) (lN (c * z), 5) k = (lN (c * (zf_fo (zv_g A F V) (z, 5) k).1), (zf_fo (zv_g A F V) (z, 5) k).2) ∧ (zf_fo (zv_g A F V) (z, 5) k).1 = zf_fo (zv_f A F V) z k
  | 0, _ => ⟨rfl, rfl⟩
  | k + 1, hk => by
    obtain ⟨i1, i2⟩ := zv_bsf hw hW hc hV hz hb k (by omega)
    have h1 := zv_w_le (F := F) (f := k) hw (by omega) hV
    have h2 := zv_fo_le (F := F) hw hV hz k (by omega)
    have h3 : c * zv_w A F V k < 2 ^ 62 := Nat.lt_of_le_of_lt (Nat.mul_le_mul_left c h1) hb
    rw [← i2] at h2
    have h4 : c * (zf_fo (zv_g A F V) (z, 5) k).1 < 2 ^ 62 := Nat.lt_of_le_of_lt (Nat.mul_le_mul_left c h2) hb
    show zs_bf A p t n k (zf_fo (zs_bf A p t n) (lN (c * z), 5) k) = (lN (c * (zv_g A F V k (zf_fo (zv_g A F V) (z, 5) k)).1), (zv_g A F V k (zf_fo (zv_g A F V) (z, 5) k)).2) ∧ (zv_g A F V k (zf_fo (zv_g A F V) (z, 5) k)).1 = zv_f A F V k (zf_fo (zv_f A F V) z k)
    rw [i1, ← i2]
    generalize zf_fo (zv_g A F V) (z, 5) k = S at h2 h4 ⊢
    unfold zs_bf zv_g zv_f
    rw [hW k (by omega)]
    by_cases hb2 : F.testBit k = true
    · have h0 : zv_w A F V k = 0 := if_pos hb2
      have h5 : ¬ lN (c * S.1) < (-4 : Int64) := fun q => by
        have h6 := zs_neg4 h4
        rw [Int64.lt_iff_toInt_lt] at h6 q
        omega
      rw [if_pos hb2, if_neg h5, h0, if_neg (Nat.not_lt_zero _), if_neg (Nat.not_lt_zero _)]
      exact ⟨rfl, rfl⟩
    · rw [if_neg hb2]
      by_cases hlt : S.1 < zv_w A F V k
      · have h5 : lN (c * S.1) < lN (c * zv_w A F V k) := (pk_lLT (by omega) (by omega)).mpr ((Nat.mul_lt_mul_left hc).mpr hlt)
        rw [if_pos h5, if_pos hlt, if_pos hlt]
        exact ⟨rfl, rfl⟩
      · have h5 : ¬ lN (c * S.1) < lN (c * zv_w A F V k) := fun q => hlt ((Nat.mul_lt_mul_left hc).mp ((pk_lLT (by omega) (by omega)).mp q))
        rw [if_neg h5, if_neg hlt, if_neg hlt]
        exact ⟨rfl, rfl⟩
