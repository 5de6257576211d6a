/-! THE MODEL: odds -/
theorem zn_eu_0 {d : Nat} : ∀ {n : Nat}, zs_eu n (lN d) (lN 0) = lN d
  | 0 => rfl
  | n + 1 => by rw [zs_eu]; exact if_pos rfl
theorem zn_eu_s {n d r : Nat} (hd : d < 2 ^ 62) (hr : 0 < r) (hr2 : r < 2 ^ 62) : zs_eu (n + 1) (lN d) (lN r) = zs_eu n (lN r) (lN (d % r)) := by
  rw [zs_eu, if_neg (fun z => by have := (pk_lEQ (b := 0) (by omega) (by omega)).mp z; omega), pk_lRem (by omega) hr (by omega)]
theorem zn_eu_nat : ∀ k n d r, 2 * k + 1 ≤ n → r < 2 ^ k → d < 2 ^ 62 → r < 2 ^ 62 → zs_eu n (lN d) (lN r) = lN (Nat.gcd d r)
  | 0, n, d, r, hn, hr, _, _ => by
    have h0 : r = 0 := by rw [Nat.pow_zero] at hr; omega
    rw [h0, zn_eu_0, Nat.gcd_zero_right]
  | k + 1, n, d, r, hn, hr, hd, hr2 => by
    rcases Nat.eq_zero_or_pos r with h0 | h0
    · rw [h0, zn_eu_0, Nat.gcd_zero_right]
    · obtain ⟨m, rfl⟩ : ∃ m, n = m + 2 := ⟨n - 2, by omega⟩
      have hs := Nat.mod_lt d h0
      rw [zn_eu_s hd h0 hr2]
      have hg : Nat.gcd d r = Nat.gcd (d % r) r := by rw [Nat.gcd_comm, Nat.gcd_rec]
      rw [hg]
      rcases Nat.eq_zero_or_pos (d % r) with h1 | h1
      · rw [h1, zn_eu_0, Nat.gcd_zero_left]
      · rw [zn_eu_s hr2 h1 (by omega)]
        have h2 := Nat.mod_lt r h1
        have h3 := Nat.div_add_mod r (d % r)
        have h4 : 1 ≤ r / (d % r) := Nat.div_pos (by omega) h1
        have h5 : d % r ≤ (d % r) * (r / (d % r)) := Nat.le_mul_of_pos_right _ h4
        rw [Nat.pow_succ] at hr
        rw [zn_eu_nat k m _ _ (by omega) (by omega) (by omega) (by omega), Nat.gcd_rec (d % r) r, Nat.gcd_comm]
theorem zn_low_eq {U B : Nat} (hU : U < 2 ^ 49) (hB : 0 < B) (hB2 : B < 2 ^ 49) (w : Int32) : zs_low (lN U) (lN B) w = (if w = 0 then lN U else lN B) / lN (Nat.gcd U B) := by
  have e : zs_eu 100 (lN B) (lN U) = lN (Nat.gcd U B) := by rw [zn_eu_nat 49 100 B U (by decide) hU (by omega) (by omega), Nat.gcd_comm]
  have h1 := Nat.gcd_le_right U hB
  rw [zs_low, e, if_pos]
  exact (pk_lLT (a := 0) (by omega) (by omega)).mpr (Nat.gcd_pos_of_pos_right _ hB)
/-- products -/
def zN_pr (F : Nat → Nat) : Nat → Nat
  | 0 => 1
  | n + 1 => zN_pr F n * F n
theorem zN_pr_le {F : Nat → Nat} (h : ∀ q, F q ≤ 10) : ∀ n, zN_pr F n ≤ 10 ^ n
  | 0 => Nat.le_refl 1
  | n + 1 => by rw [zN_pr, Nat.pow_succ]; exact Nat.mul_le_mul (zN_pr_le h n) (h n)
theorem zN_pr_pow {P R : Nat → Bool} {x y : Nat} : ∀ n, zN_pr (fun q => if P q then 1 else if R q then x else y) n = x ^ zf_ct (fun q => !P q && R q) n * y ^ zf_ct (fun q => !P q && !R q) n
  | 0 => rfl
  | n + 1 => by
    rw [zN_pr, zN_pr_pow n]
    cases hP : P n <;> cases hR : R n
    · rw [zf_ct_f (P := fun q => !P q && R q) (by show (!P n && R n) = false; rw [hP, hR]; rfl), zf_ct_t (P := fun q => !P q && !R q) (by show (!P n && !R n) = true; rw [hP, hR]; rfl), Nat.pow_succ, Nat.mul_assoc]
      rfl
    · rw [zf_ct_t (P := fun q => !P q && R q) (by show (!P n && R n) = true; rw [hP, hR]; rfl), zf_ct_f (P := fun q => !P q && !R q) (by show (!P n && !R n) = false; rw [hP, hR]; rfl), Nat.pow_succ]
      show _ * x = _
      rw [Nat.mul_right_comm]
    · rw [zf_ct_f (P := fun q => !P q && R q) (by show (!P n && R n) = false; rw [hP, hR]; rfl), zf_ct_f (P := fun q => !P q && !R q) (by show (!P n && !R n) = false; rw [hP, hR]; rfl)]
      exact Nat.mul_one _
    · rw [zf_ct_f (P := fun q => !P q && R q) (by show (!P n && R n) = false; rw [hP, hR]; rfl), zf_ct_f (P := fun q => !P q && !R q) (by show (!P n && !R n) = false; rw [hP, hR]; rfl)]
      exact Nat.mul_one _
theorem zs_pw_nat (b : Nat) : ∀ k, zs_pw (lN b) k = lN (b ^ k)
  | 0 => rfl
  | k + 1 => by rw [zs_pw, zs_pw_nat b k, lN_mul, Nat.pow_succ]
theorem zf_ct_congr {P Q : Nat → Bool} : ∀ {n : Nat}, (∀ q, q < n → P q = Q q) → zf_ct P n = zf_ct Q n
  | 0, _ => rfl
  | n + 1, h => by rw [zf_ct, zf_ct, zf_ct_congr (fun q hq => h q (by omega)), h n (by omega)]
theorem zf_ct_not (P : Nat → Bool) : ∀ n, zf_ct P n + zf_ct (fun q => !P q) n = n
  | 0 => rfl
  | n + 1 => by
    have ih := zf_ct_not P n
    cases h : P n
    · rw [zf_ct_f h, zf_ct_t (P := fun q => !P q) (by show (!P n) = true; rw [h]; rfl)]; omega
    · rw [zf_ct_t h, zf_ct_f (P := fun q => !P q) (by show (!P n) = false; rw [h]; rfl)]; omega
theorem zn_bc_ct : ∀ (n : Fin 7) (x : Fin 64), x.val < 2 ^ n.val → zs_bc (nI x.val) = nI (zf_ct (fun q => zb_bit (nI x.val) (nI q)) n.val) := by decide +kernel
theorem zn_bc_ctn {n x : Nat} (hn : n ≤ 6) (hx : x < 2 ^ n) : zs_bc (nI x) = nI (zf_ct (fun q => zb_bit (nI x) (nI q)) n) := zn_bc_ct ⟨n, by omega⟩ ⟨x, Nat.lt_of_lt_of_le hx (zw_pow hn)⟩ hx
theorem zn_andn (a b : Nat) : nI a &&& nI b = nI (a &&& b) := Int32.toBitVec_inj.mp (by rw [Int32.toBitVec_and]; exact BitVec.ofNat_and.symm)
theorem zn_compl : ∀ g : Fin 64, nI g.val ^^^ -1 = nI (4294967295 - g.val) := by decide +kernel
theorem zn_cmp2 : ∀ (g : Fin 64) (q : Fin 6), (4294967295 - g.val).testBit q.val = !g.val.testBit q.val := by decide +kernel
theorem zn_bitn {f c : Nat} (hf : f < 64) (hc : c < 6) : zb_bit (nI f) (nI c) = f.testBit c := zm_bit ⟨f, hf⟩ ⟨c, hc⟩
/-- which go, as the model weighs them -/
def zN_F (A : za_D) (v a : Nat) : Nat → Nat := fun q => if zb_bit (za_g A) (nI q) then 1 else if zb_bit (nI a) (nI q) then v else 10 - v
def zN_G (A : za_D) : Nat → Nat := fun q => if zb_bit (za_g A) (nI q) then 1 else 10
def zN_upf (A : za_D) (v : Nat) (p t : Int32) (a x : Nat) : Nat := if nI a &&& za_g A = za_g A ∧ zs_own A t (nI a) 31 = p then x + zN_pr (zN_F A v a) (za_n A) else x
def zN_up (A : za_D) (v : Nat) (p t : Int32) : Nat → Nat := zf_fo (zN_upf A v p t) 0
theorem zN_up_le {A : za_D} {v : Nat} {p t : Int32} (hn : za_n A ≤ 6) (hv : v ≤ 10) : ∀ a, zN_up A v p t a ≤ a * 1000000
  | 0 => Nat.le_refl 0
  | a + 1 => by
    have ih := zN_up_le (p := p) (t := t) hn hv a
    have h1 : zN_pr (zN_F A v a) (za_n A) ≤ 1000000 := Nat.le_trans (zN_pr_le (fun q => by unfold zN_F; split; omega; split <;> omega) _) (Nat.pow_le_pow_right (n := 10) (by decide) hn)
    have h2 : (a + 1) * 1000000 = a * 1000000 + 1000000 := Nat.succ_mul a 1000000
    show zN_upf A v p t a (zN_up A v p t a) ≤ _
    rw [h2]
    unfold zN_upf
    split
    · exact Nat.add_le_add ih h1
    · exact Nat.le_trans ih (Nat.le_add_right _ _)
theorem zs_ways_nat {A : za_D} (hw : za_wf A) (hn : za_n A ≤ 6) {v a : Nat} (hv : v ≤ 10) (ha : a < za_N A) (hs : nI a &&& za_g A = za_g A) : zs_ways A (nI a) (nI v) = lN (zN_pr (zN_F A v a) (za_n A)) := by
  obtain ⟨g, hg, hge⟩ := hw.2.2.2
  have h64 : za_N A ≤ 64 := za_N64 hn
  have hg64 : g < 64 := Nat.lt_of_lt_of_le hg h64
  have ha2 : a < 2 ^ za_n A := ha
  have hF : zN_F A v a = fun q => if zb_bit (nI g) (nI q) then 1 else if zb_bit (nI a) (nI q) then v else 10 - v := by funext q; rw [zN_F, hge]
  rw [hF, zN_pr_pow, zs_ways, hge, zn_compl ⟨g, hg64⟩, zn_andn]
  have hle : a &&& (4294967295 - g) < 2 ^ za_n A := Nat.lt_of_le_of_lt Nat.and_le_left ha2
  have e1 : zf_ct (fun q => zb_bit (nI (a &&& (4294967295 - g))) (nI q)) (za_n A) = zf_ct (fun q => !zb_bit (nI g) (nI q) && zb_bit (nI a) (nI q)) (za_n A) := zf_ct_congr fun q hq => by
    rw [zn_bitn (f := a &&& (4294967295 - g)) (c := q) (Nat.lt_of_lt_of_le hle h64) (by omega), zn_bitn (f := g) (c := q) hg64 (by omega), zn_bitn (f := a) (c := q) (by omega) (by omega), Nat.testBit_and, zn_cmp2 ⟨g, hg64⟩ ⟨q, by omega⟩, Bool.and_comm]
  have hsub : a &&& g = g := by
    rw [hge, zn_andn] at hs
    have h1 : a &&& g ≤ a := Nat.and_le_left
    exact (nI_eq (by omega) (by omega)).mp hs
  have e2 : zf_ct (fun q => !zb_bit (nI g) (nI q) && !zb_bit (nI a) (nI q)) (za_n A) = zf_ct (fun q => !zb_bit (nI a) (nI q)) (za_n A) := zf_ct_congr fun q hq => by
    rw [zn_bitn (f := g) (c := q) hg64 (by omega), zn_bitn (f := a) (c := q) (by omega) (by omega)]
    have h1 : g.testBit q = (a.testBit q && g.testBit q) := by rw [← Nat.testBit_and, hsub]
    rw [h1]
    cases a.testBit q <;> cases g.testBit q <;> rfl
  have e3 := zf_ct_not (fun q => zb_bit (nI a) (nI q)) (za_n A)
  have e4 := zf_ct_le (fun q => zb_bit (nI (a &&& (4294967295 - g))) (nI q)) (za_n A)
  rw [zn_bc_ctn hn hle, zn_bc_ctn hn ha2, pk_sub (by omega), nI_clamp (by omega), nI_clamp (by omega), nI_l (by omega), show (10 : Int32) = nI 10 from rfl, pk_sub hv, nI_l (by omega), zs_pw_nat, zs_pw_nat, lN_mul, e1, e2]
  congr 4
  omega
theorem zN_up_eq {A : za_D} (hw : za_wf A) (hn : za_n A ≤ 6) {v : Nat} {p t : Int32} (hv : v ≤ 10) : ∀ a, a ≤ za_N A → zf_fo (zs_odf A (nI v) p t) 0 a = lN (zN_up A v p t a)
  | 0, _ => rfl
  | a + 1, h => by
    show zs_odf A (nI v) p t a (zf_fo (zs_odf A (nI v) p t) 0 a) = lN (zN_upf A v p t a (zN_up A v p t a))
    rw [zN_up_eq hw hn hv a (by omega)]
    unfold zs_odf zN_upf
    by_cases h1 : nI a &&& za_g A = za_g A
    · rw [if_pos h1]
      by_cases h2 : zs_own A t (nI a) 31 = p
      · rw [if_pos h2, if_pos ⟨h1, h2⟩, zs_ways_nat hw hn hv (by omega) h1, lN_add]
      · rw [if_neg h2, if_neg (fun z => h2 z.2)]
    · rw [if_neg h1, if_neg (fun z => h1 z.1)]
theorem zN_dn_eq {A : za_D} (hw : za_wf A) (hn : za_n A ≤ 6) : zs_pw 10 (nI (za_n A) - zs_bc (za_g A)).toNatClampNeg = lN (zN_pr (zN_G A) (za_n A)) := by
  obtain ⟨g, hg, hge⟩ := hw.2.2.2
  have h64 : za_N A ≤ 64 := za_N64 hn
  have hG : zN_G A = fun q => if zb_bit (nI g) (nI q) then 1 else if (fun _ => true) q then 10 else 10 := by funext q; rw [zN_G, hge]; rfl
  have e3 := zf_ct_not (fun q => zb_bit (nI g) (nI q)) (za_n A)
  have e5 : zf_ct (fun q => !zb_bit (nI g) (nI q) && !(fun _ => true) q) (za_n A) = 0 := by
    have : ∀ m, zf_ct (fun q => !zb_bit (nI g) (nI q) && !(fun _ => true) q) m = 0 := fun m => by
      induction m with
      | zero => rfl
      | succ m ih => rw [zf_ct_f (by show (_ && false) = false; exact Bool.and_false _)]; exact ih
    exact this _
  have e6 : zf_ct (fun q => !zb_bit (nI g) (nI q) && (fun _ => true) q) (za_n A) = zf_ct (fun q => !zb_bit (nI g) (nI q)) (za_n A) := zf_ct_congr fun q _ => Bool.and_true _
  rw [hG, zN_pr_pow, e5, e6, hge, zn_bc_ctn hn hg, pk_sub (by omega), nI_clamp (by omega), show (10 : Int64) = lN 10 from rfl, zs_pw_nat, Nat.pow_zero, Nat.mul_one]
  congr 2
  omega
theorem zN_pr_pos {F : Nat → Nat} (h : ∀ q, 0 < F q) : ∀ n, 0 < zN_pr F n
  | 0 => Nat.one_pos
  | n + 1 => Nat.mul_pos (zN_pr_pos h n) (h n)

set_option maxHeartbeats 4000000 in
theorem sp_M_lowest {σ : zq_T} {U B : Nat} (hU : U < 2 ^ 49) (hB : 0 < B) (hB2 : B < 2 ^ 49) (w : Int32) : zq_Sp zm_M_lowest 0 [zq_L (lN U), zq_L (lN B), zq_I w] σ (zq_rv (zq_L (zs_low (lN U) (lN B) w)) σ) := by
  have hg0 := Nat.gcd_pos_of_pos_right U hB
  have hg1 := Nat.gcd_le_right U hB
  refine zq_sp [some (zq_L (lN U)), none, some (zq_L (lN B)), none, some (zq_I w), none, none, none, none, none, none] (by decide +kernel) rfl (Nat.le_of_ble_eq_true rfl) (fun ν => ?_)
  refine gq_lload_n dz_M_lowest_0 rfl ?_
  refine gw_lstore 5 dz_M_lowest_1 (Nat.le_of_ble_eq_true rfl) rfl ?_
  dsimp only [List.set]
  refine gq_lload_n dz_M_lowest_3 rfl ?_
  refine gw_lstore 7 dz_M_lowest_4 (Nat.le_of_ble_eq_true rfl) rfl ?_
  dsimp only [List.set]
  have L6 : ∀ (kf : Nat) (a b : Nat) (hkf : b < kf) (hg : a.gcd b = U.gcd B) (ha : a < 2 ^ 49) (hb : b < 2 ^ 49), zq_G ν zm_M_lowest 0 (zq_rv (zq_L (zs_low (lN U) (lN B) w)) σ) 6 [some (zq_L (lN U)), none, some (zq_L (lN B)), none, some (zq_I w), some (zq_L (lN a)), none, some (zq_L (lN b)), none, none, none] [] σ := by
    intro kf
    induction kf with
    | zero => intro a b hkf hg ha hb; exact absurd hkf (Nat.not_lt_zero _)
    | succ kf ih6 =>
      intro a b hkf hg ha hb
      refine gq_lload dz_M_lowest_6 rfl ?_
      refine gq_lconst (v := 0) dz_M_lowest_8 rfl ?_
      refine gq_lcmp dz_M_lowest_9 ?_
      refine gq_if_eq (tgt := 31) dz_M_lowest_10 rfl (fun h10 => ?_) (fun h10 => ?_)
      · skip
        have hb0 : b = 0 := (pk_lEQ (b := 0) (by omega) (by omega)).mp (lg_eq0.mp h10)
        subst hb0
        rw [Nat.gcd_zero_right] at hg
        subst hg
        refine gq_iload dz_M_lowest_31 rfl ?_
        refine gq_if_ne (tgt := 40) dz_M_lowest_33 rfl (fun h33 => ?_) (fun h33 => ?_)
        · skip
          refine gq_lload_n dz_M_lowest_40 rfl ?_
          refine gq_lload dz_M_lowest_41 rfl ?_
          refine gq_ldiv dz_M_lowest_43 (fun z => by have := (pk_lEQ (b := 0) (by omega) (by omega)).mp z; omega) ?_
          refine gw_lret dz_M_lowest_44 rfl ?_ ?_
          · rw [zn_low_eq hU hB hB2, if_neg h33]
          · rfl
        · skip
          refine gq_lload_n dz_M_lowest_36 rfl ?_
          refine gq_goto (tgt := 41) dz_M_lowest_37 rfl ?_
          refine gq_lload dz_M_lowest_41 rfl ?_
          refine gq_ldiv dz_M_lowest_43 (fun z => by have := (pk_lEQ (b := 0) (by omega) (by omega)).mp z; omega) ?_
          refine gw_lret dz_M_lowest_44 rfl ?_ ?_
          · rw [zn_low_eq hU hB hB2, if_pos h33]
          · rfl
      · skip
        have hb0 : 0 < b := by rcases Nat.eq_zero_or_pos b with z | z; exact absurd (lg_eq0.mpr (by rw [z]; rfl)) h10; exact z
        refine gq_lload dz_M_lowest_13 rfl ?_
        refine gq_lload dz_M_lowest_15 rfl ?_
        refine gq_lrem dz_M_lowest_17 (fun z => by have := (pk_lEQ (b := 0) (by omega) (by omega)).mp z; omega) ?_
        rw [pk_lRem (by omega) hb0 (by omega)]
        refine gw_lstore 9 dz_M_lowest_18 (Nat.le_of_ble_eq_true rfl) rfl ?_
        dsimp only [List.set]
        refine gq_lload dz_M_lowest_20 rfl ?_
        refine gw_lstore 5 dz_M_lowest_22 (Nat.le_of_ble_eq_true rfl) rfl ?_
        dsimp only [List.set]
        refine gq_lload dz_M_lowest_24 rfl ?_
        refine gw_lstore 7 dz_M_lowest_26 (Nat.le_of_ble_eq_true rfl) rfl ?_
        dsimp only [List.set]
        refine gq_goto (tgt := 6) dz_M_lowest_28 rfl ?_
        exact zq_fewer _ (zq_sub_spec (by repeat (first | exact trivial | exact rfl | refine And.intro ?_ ?_))) (ih6 b (a % b) (by have := Nat.mod_lt a hb0; omega) (by rw [← hg, Nat.gcd_comm b, ← Nat.gcd_rec, Nat.gcd_comm]) hb (by have := Nat.mod_lt a hb0; omega))
  exact zq_fewer _ (zq_sub_spec (by repeat (first | exact trivial | exact rfl | refine And.intro ?_ ?_))) (L6 (B + 1) U B (by omega) rfl hU hB2)
set_option maxHeartbeats 4000000 in
theorem sp_M_odds {σ : zq_T} {A : za_D} (hA : zn_rep σ A) (hw : za_wf A) (v p t w : Int32) : zq_Sp zm_M_odds 8 [zq_O 30 0, zq_I v, zq_I p, zq_I t, zq_I w] σ (zq_rv (zq_L (zx_odds A v p t w)) σ) := by
  have hn6 := zn_n6 hA
  have hm5 := zn_m5 hA
  have hN : za_N A ≤ 64 := za_N64 hn6
  refine zq_sp [some (zq_O 30 0), some (zq_I v), some (zq_I p), some (zq_I t), some (zq_I w), none, none, none, none, none, none, none, none, none] (by decide +kernel) rfl (Nat.le_of_ble_eq_true rfl) (fun ν => ?_)
  refine gq_iload_n dz_M_odds_0 rfl ?_
  refine gq_i2l dz_M_odds_1 ?_
  refine gq_lconst (v := 0) dz_M_odds_2 rfl ?_
  refine gq_ldc2 zl_M_239 dz_M_odds_3 ?_
  refine gq_cS (sp_M_in _ _ _) zw_M_in zl_M_65 dz_M_odds_6 (by decide) rfl rfl (Nat.le_of_ble_eq_true rfl) ?_
  refine gw_ifb_eq (tgt := 38) dz_M_odds_9 rfl (fun h9 => ?_) (fun h9 => ?_)
  · skip
    rw [zn_in3 (n := 10) rfl rfl (by omega)] at h9
    have ho : zx_oddok A v p t w = false := by rw [zx_oddok, show zx_3 v 10 = false from h9]; rfl
    refine gq_ldc2 zl_M_263 dz_M_odds_38 ?_
    refine gw_lret dz_M_odds_41 rfl ?_ ?_
    · rw [zx_odds, ho]; rfl
    · rfl
  · skip
    rw [zn_in3 (n := 10) rfl rfl (by omega)] at h9
    replace h9 : zx_3 v 10 = true := h9
    refine gq_aload_n dz_M_odds_12 rfl ?_
    refine gq_iload_n dz_M_odds_13 rfl ?_
    refine gq_cV (sp_M_isOne hA _) zw_M_isOne zl_M_203 dz_M_odds_14 rfl rfl rfl (by decide) rfl rfl (Nat.le_of_ble_eq_true rfl) ?_
    refine gw_ifb_eq (tgt := 38) dz_M_odds_17 rfl (fun h17 => ?_) (fun h17 => ?_)
    · skip
      have ho : zx_oddok A v p t w = false := by rw [zx_oddok, h9, h17]; rfl
      refine gq_ldc2 zl_M_263 dz_M_odds_38 ?_
      refine gw_lret dz_M_odds_41 rfl ?_ ?_
      · rw [zx_odds, ho]; rfl
      · rfl
    · skip
      refine gq_iload_n dz_M_odds_20 rfl ?_
      refine gq_cS (sp_M_isThing _) zw_M_isThing zl_M_217 dz_M_odds_21 (by decide) rfl rfl (Nat.le_of_ble_eq_true rfl) ?_
      refine gw_ifb_eq (tgt := 38) dz_M_odds_24 rfl (fun h24 => ?_) (fun h24 => ?_)
      · skip
        have ho : zx_oddok A v p t w = false := by rw [zx_oddok, h9, h17, h24]; rfl
        refine gq_ldc2 zl_M_263 dz_M_odds_38 ?_
        refine gw_lret dz_M_odds_41 rfl ?_ ?_
        · rw [zx_odds, ho]; rfl
        · rfl
      · skip
        refine gq_iload dz_M_odds_27 rfl ?_
        refine gq_i2l dz_M_odds_29 ?_
        refine gq_lconst (v := 0) dz_M_odds_30 rfl ?_
        refine gq_lconst (v := 1) dz_M_odds_31 rfl ?_
        refine gq_cS (sp_M_in _ _ _) zw_M_in zl_M_65 dz_M_odds_32 (by decide) rfl rfl (Nat.le_of_ble_eq_true rfl) ?_
        refine gw_ifb_ne (tgt := 42) dz_M_odds_35 rfl (fun h35 => ?_) (fun h35 => ?_)
        · skip
          rw [zn_in3 (n := 1) rfl rfl (by omega)] at h35
          have ho : zx_oddok A v p t w = true := by rw [zx_oddok, h9, h17, h24]; exact h35
          obtain ⟨v, hv, rfl⟩ := zx_3of (n := 10) h9 (by omega)
          obtain ⟨p, hp, rfl⟩ := (zb_in_iff (by omega)).mp h17
          refine gq_aload_n dz_M_odds_42 rfl ?_
          refine gq_getR 31 zf_M_7 rfl rfl dz_M_odds_43 ?_
          refine gq_bipush (v := 12) dz_M_odds_46 rfl ?_
          refine gw_iald (12) (rfl) rfl (rfl) (Nat.le_of_ble_eq_true rfl) (by omega) dz_M_odds_48 ?_
          rw [zn_g hA]
          refine gw_istore 5 dz_M_odds_49 (Nat.le_of_ble_eq_true rfl) rfl ?_
          dsimp only [List.set]
          refine gq_lconst (v := 0) dz_M_odds_51 rfl ?_
          refine gw_lstore 6 dz_M_odds_52 (Nat.le_of_ble_eq_true rfl) rfl ?_
          dsimp only [List.set]
          refine gq_lconst (v := 1) dz_M_odds_54 rfl ?_
          refine gw_lstore 8 dz_M_odds_55 (Nat.le_of_ble_eq_true rfl) rfl ?_
          dsimp only [List.set]
          refine gq_iconst (v := 0) dz_M_odds_57 rfl ?_
          refine gw_istore 10 dz_M_odds_58 (Nat.le_of_ble_eq_true rfl) rfl ?_
          dsimp only [List.set]
          have L60 : ∀ (kf : Nat) (q : Nat) (hkf : za_n A - q < kf) (hq : q ≤ za_n A), zq_G ν zm_M_odds 8 (zq_rv (zq_L (zx_odds A (nI v) (nI p) t w)) σ) 60 [some (zq_O 30 0), some (zq_I (nI v)), some (zq_I (nI p)), some (zq_I t), some (zq_I w), some (zq_I (za_g A)), some (zq_L (lN 0)), none, some (zq_L (lN (zN_pr (zN_G A) q))), none, some (zq_I (nI q)), none, none, none] [] σ := by
            intro kf
            induction kf with
            | zero => intro q hkf hq; exact absurd hkf (Nat.not_lt_zero _)
            | succ kf ih60 =>
              intro q hkf hq
              refine gq_iload dz_M_odds_60 rfl ?_
              refine gq_aload_n dz_M_odds_62 rfl ?_
              refine gq_getI zf_M_158 rfl rfl dz_M_odds_63 ?_
              rw [zn_n hA]
              refine gq_icmp_ge (tgt := 97) dz_M_odds_66 rfl (fun h66 => ?_) (fun h66 => ?_)
              · skip
                have hq2 : q = za_n A := zq_leq h66 hq (by omega)
                subst hq2
                refine gq_iconst (v := 0) dz_M_odds_97 rfl ?_
                refine gw_istore 10 dz_M_odds_98 (Nat.le_of_ble_eq_true rfl) rfl ?_
                dsimp only [List.set]
                have L100 : ∀ (kf : Nat) (a : Nat) (hkf : za_N A - a < kf) (ha : a ≤ za_N A), zq_G ν zm_M_odds 8 (zq_rv (zq_L (zx_odds A (nI v) (nI p) t w)) σ) 100 [some (zq_O 30 0), some (zq_I (nI v)), some (zq_I (nI p)), some (zq_I t), some (zq_I w), some (zq_I (za_g A)), some (zq_L (lN (zN_up A v (nI p) t a))), none, some (zq_L (lN (zN_pr (zN_G A) (za_n A)))), none, some (zq_I (nI a)), none, none, none] [] σ := by
                  intro kf
                  induction kf with
                  | zero => intro a hkf ha; exact absurd hkf (Nat.not_lt_zero _)
                  | succ kf ih100 =>
                    intro a hkf ha
                    refine gq_iload dz_M_odds_100 rfl ?_
                    refine gq_aload_n dz_M_odds_102 rfl ?_
                    refine gq_cV (sp_M_cases hA) zw_M_cases zl_M_254 dz_M_odds_103 rfl rfl rfl (by decide) rfl rfl (Nat.le_of_ble_eq_true rfl) ?_
                    rw [za_caN hn6]
                    refine gq_icmp_ge (tgt := 203) dz_M_odds_106 rfl (fun h106 => ?_) (fun h106 => ?_)
                    · skip
                      have ha2 : a = za_N A := zq_leq h106 ha (by omega)
                      subst ha2
                      have hd0 : 0 < zN_pr (zN_G A) (za_n A) := zN_pr_pos (fun q => by unfold zN_G; split <;> omega) _
                      have hd1 : zN_pr (zN_G A) (za_n A) ≤ 1000000 := Nat.le_trans (zN_pr_le (fun q => by unfold zN_G; split <;> omega) _) (Nat.pow_le_pow_right (n := 10) (by decide) hn6)
                      have hu1 := zN_up_le (A := A) (p := nI p) (t := t) hn6 hv (za_N A)
                      refine gq_lload dz_M_odds_203 rfl ?_
                      refine gq_lload dz_M_odds_205 rfl ?_
                      refine gq_iload dz_M_odds_207 rfl ?_
                      refine gq_cS (sp_M_lowest (by omega) hd0 (by omega) w) zw_M_lowest zl_M_265 dz_M_odds_209 (by decide) rfl rfl (Nat.le_of_ble_eq_true rfl) ?_
                      refine gw_lret dz_M_odds_212 rfl ?_ ?_
                      · rw [zx_odds, ho, if_pos rfl, zN_up_eq hw hn6 hv _ (Nat.le_refl _), zN_dn_eq hw hn6]
                      · rfl
                    · skip
                      have ha2 : a < za_N A := by rcases Nat.lt_or_ge a (za_N A) with z | z; exact z; exact absurd (nI_le z (by omega)) h106
                      refine gq_iload dz_M_odds_109 rfl ?_
                      refine gq_iload dz_M_odds_111 rfl ?_
                      refine gq_iand dz_M_odds_113 ?_
                      refine gq_iload dz_M_odds_114 rfl ?_
                      refine gq_icmp_ne (tgt := 197) dz_M_odds_116 rfl (fun h116 => ?_) (fun h116 => ?_)
                      · skip
                        have hx : zN_up A v (nI p) t (a + 1) = zN_up A v (nI p) t a := if_neg (fun z => h116 z.1)
                        refine gw_iinc 10 (c := 1) dz_M_odds_197 rfl rfl (Nat.le_of_ble_eq_true rfl) rfl ?_
                        dsimp only [List.set]
                        refine gq_goto (tgt := 100) dz_M_odds_200 rfl ?_
                        simp only [nI_1]
                        rw [← hx]
                        exact zq_fewer _ (zq_sub_spec (by repeat (first | exact trivial | exact rfl | refine And.intro ?_ ?_))) (ih100 (a + 1) (by omega) (by omega))
                      · skip
                        refine gq_aload_n dz_M_odds_119 rfl ?_
                        refine gq_iload_n dz_M_odds_120 rfl ?_
                        refine gq_iload dz_M_odds_121 rfl ?_
                        refine gq_cV (sp_M_ownerIn hA hw _ _) zw_M_ownerIn zl_M_220 dz_M_odds_123 rfl rfl rfl (by decide) rfl rfl (Nat.le_of_ble_eq_true rfl) ?_
                        refine gq_iload_n dz_M_odds_126 rfl ?_
                        refine gq_icmp_ne (tgt := 197) dz_M_odds_127 rfl (fun h127 => ?_) (fun h127 => ?_)
                        · skip
                          have hx : zN_up A v (nI p) t (a + 1) = zN_up A v (nI p) t a := if_neg (fun z => h127 z.2)
                          refine gw_iinc 10 (c := 1) dz_M_odds_197 rfl rfl (Nat.le_of_ble_eq_true rfl) rfl ?_
                          dsimp only [List.set]
                          refine gq_goto (tgt := 100) dz_M_odds_200 rfl ?_
                          simp only [nI_1]
                          rw [← hx]
                          exact zq_fewer _ (zq_sub_spec (by repeat (first | exact trivial | exact rfl | refine And.intro ?_ ?_))) (ih100 (a + 1) (by omega) (by omega))
                        · skip
                          have hx : zN_up A v (nI p) t (a + 1) = zN_up A v (nI p) t a + zN_pr (zN_F A v a) (za_n A) := if_pos ⟨h116, h127⟩
                          refine gq_lconst (v := 1) dz_M_odds_130 rfl ?_
                          refine gw_lstore 11 dz_M_odds_131 (Nat.le_of_ble_eq_true rfl) rfl ?_
                          dsimp only [List.set]
                          refine gq_iconst (v := 0) dz_M_odds_133 rfl ?_
                          refine gw_istore 13 dz_M_odds_134 (Nat.le_of_ble_eq_true rfl) rfl ?_
                          dsimp only [List.set]
                          have L136 : ∀ (kf : Nat) (r : Nat) (hkf : za_n A - r < kf) (hr : r ≤ za_n A), zq_G ν zm_M_odds 8 (zq_rv (zq_L (zx_odds A (nI v) (nI p) t w)) σ) 136 [some (zq_O 30 0), some (zq_I (nI v)), some (zq_I (nI p)), some (zq_I t), some (zq_I w), some (zq_I (za_g A)), some (zq_L (lN (zN_up A v (nI p) t a))), none, some (zq_L (lN (zN_pr (zN_G A) (za_n A)))), none, some (zq_I (nI a)), some (zq_L (lN (zN_pr (zN_F A v a) r))), none, some (zq_I (nI r))] [] σ := by
                            intro kf
                            induction kf with
                            | zero => intro r hkf hr; exact absurd hkf (Nat.not_lt_zero _)
                            | succ kf ih136 =>
                              intro r hkf hr
                              refine gq_iload dz_M_odds_136 rfl ?_
                              refine gq_aload_n dz_M_odds_138 rfl ?_
                              refine gq_getI zf_M_158 rfl rfl dz_M_odds_139 ?_
                              rw [zn_n hA]
                              refine gq_icmp_ge (tgt := 190) dz_M_odds_142 rfl (fun h142 => ?_) (fun h142 => ?_)
                              · skip
                                have hr2 : r = za_n A := zq_leq h142 hr (by omega)
                                subst hr2
                                refine gq_lload dz_M_odds_190 rfl ?_
                                refine gq_lload dz_M_odds_192 rfl ?_
                                refine gq_ladd dz_M_odds_194 ?_
                                rw [lN_add]
                                refine gw_lstore 6 dz_M_odds_195 (Nat.le_of_ble_eq_true rfl) rfl ?_
                                dsimp only [List.set]
                                refine gw_iinc 10 (c := 1) dz_M_odds_197 rfl rfl (Nat.le_of_ble_eq_true rfl) rfl ?_
                                dsimp only [List.set]
                                refine gq_goto (tgt := 100) dz_M_odds_200 rfl ?_
                                simp only [nI_1]
                                rw [← hx]
                                exact zq_fewer _ (zq_sub_spec (by repeat (first | exact trivial | exact rfl | refine And.intro ?_ ?_))) (ih100 (a + 1) (by omega) (by omega))
                              · skip
                                have hr2 : r < za_n A := by rcases Nat.lt_or_ge r (za_n A) with z | z; exact z; exact absurd (nI_le z (by omega)) h142
                                refine gq_lload dz_M_odds_145 rfl ?_
                                refine gq_iload dz_M_odds_147 rfl ?_
                                refine gq_iload dz_M_odds_149 rfl ?_
                                refine gq_cS (sp_M_isThere _ _) zw_M_isThere zl_M_169 dz_M_odds_151 (by decide) rfl rfl (Nat.le_of_ble_eq_true rfl) ?_
                                refine gw_ifb_ne (tgt := 161) dz_M_odds_154 rfl (fun h154 => ?_) (fun h154 => ?_)
                                · skip
                                  have hb : zb_bit (za_g A) (nI r) = false := by simpa using h154
                                  refine gq_iload dz_M_odds_161 rfl ?_
                                  refine gq_iload dz_M_odds_163 rfl ?_
                                  refine gq_cS (sp_M_isThere _ _) zw_M_isThere zl_M_169 dz_M_odds_165 (by decide) rfl rfl (Nat.le_of_ble_eq_true rfl) ?_
                                  refine gw_ifb_eq (tgt := 179) dz_M_odds_168 rfl (fun h168 => ?_) (fun h168 => ?_)
                                  · skip
                                    have hF : zN_F A v a r = v := by rw [zN_F, hb, show zb_bit (nI a) (nI r) = true from by simpa using h168]; rfl
                                    refine gq_iload_n dz_M_odds_179 rfl ?_
                                    refine gq_i2l dz_M_odds_180 ?_
                                    rw [nI_l (by omega)]
                                    refine gq_lmul dz_M_odds_181 ?_
                                    refine gw_lstore 11 dz_M_odds_182 (Nat.le_of_ble_eq_true rfl) rfl ?_
                                    dsimp only [List.set]
                                    refine gw_iinc 13 (c := 1) dz_M_odds_184 rfl rfl (Nat.le_of_ble_eq_true rfl) rfl ?_
                                    dsimp only [List.set]
                                    refine gq_goto (tgt := 136) dz_M_odds_187 rfl ?_
                                    simp only [nI_1]
                                    rw [lN_mul, show zN_pr (zN_F A v a) r * v = zN_pr (zN_F A v a) (r + 1) from by rw [zN_pr, hF]]
                                    exact zq_fewer _ (zq_sub_spec (by repeat (first | exact trivial | exact rfl | refine And.intro ?_ ?_))) (ih136 (r + 1) (by omega) (by omega))
                                  · skip
                                    have hF : zN_F A v a r = 10 - v := by rw [zN_F, hb, show zb_bit (nI a) (nI r) = false from by simpa using h168]; rfl
                                    refine gq_bipush (v := 10) dz_M_odds_171 rfl ?_
                                    refine gq_iload_n dz_M_odds_173 rfl ?_
                                    refine gq_isub dz_M_odds_174 ?_
                                    rw [show (10 : Int32) = nI 10 from rfl, pk_sub hv]
                                    refine gq_i2l dz_M_odds_175 ?_
                                    rw [nI_l (by omega)]
                                    refine gq_goto (tgt := 181) dz_M_odds_176 rfl ?_
                                    refine gq_lmul dz_M_odds_181 ?_
                                    refine gw_lstore 11 dz_M_odds_182 (Nat.le_of_ble_eq_true rfl) rfl ?_
                                    dsimp only [List.set]
                                    refine gw_iinc 13 (c := 1) dz_M_odds_184 rfl rfl (Nat.le_of_ble_eq_true rfl) rfl ?_
                                    dsimp only [List.set]
                                    refine gq_goto (tgt := 136) dz_M_odds_187 rfl ?_
                                    simp only [nI_1]
                                    rw [lN_mul, show zN_pr (zN_F A v a) r * (10 - v) = zN_pr (zN_F A v a) (r + 1) from by rw [zN_pr, hF]]
                                    exact zq_fewer _ (zq_sub_spec (by repeat (first | exact trivial | exact rfl | refine And.intro ?_ ?_))) (ih136 (r + 1) (by omega) (by omega))
                                · skip
                                  have hF : zN_F A v a r = 1 := by rw [zN_F, show zb_bit (za_g A) (nI r) = true from by simpa using h154]; rfl
                                  refine gq_lconst (v := 1) dz_M_odds_157 rfl ?_
                                  refine gq_goto (tgt := 181) dz_M_odds_158 rfl ?_
                                  refine gq_lmul dz_M_odds_181 ?_
                                  refine gw_lstore 11 dz_M_odds_182 (Nat.le_of_ble_eq_true rfl) rfl ?_
                                  dsimp only [List.set]
                                  refine gw_iinc 13 (c := 1) dz_M_odds_184 rfl rfl (Nat.le_of_ble_eq_true rfl) rfl ?_
                                  dsimp only [List.set]
                                  refine gq_goto (tgt := 136) dz_M_odds_187 rfl ?_
                                  simp only [nI_1]
                                  rw [show (1 : Int64) = lN 1 from rfl, lN_mul, show zN_pr (zN_F A v a) r * 1 = zN_pr (zN_F A v a) (r + 1) from by rw [zN_pr, hF]]
                                  exact zq_fewer _ (zq_sub_spec (by repeat (first | exact trivial | exact rfl | refine And.intro ?_ ?_))) (ih136 (r + 1) (by omega) (by omega))
                          exact zq_fewer _ (zq_sub_spec (by repeat (first | exact trivial | exact rfl | refine And.intro ?_ ?_))) (L136 (za_n A + 1) 0 (by omega) (by omega))
                exact zq_fewer _ (zq_sub_spec (by repeat (first | exact trivial | exact rfl | refine And.intro ?_ ?_))) (L100 (za_N A + 1) 0 (by omega) (by omega))
              · skip
                have hq2 : q < za_n A := by rcases Nat.lt_or_ge q (za_n A) with z | z; exact z; exact absurd (nI_le z (by omega)) h66
                refine gq_lload dz_M_odds_69 rfl ?_
                refine gq_iload dz_M_odds_71 rfl ?_
                refine gq_iload dz_M_odds_73 rfl ?_
                refine gq_cS (sp_M_isThere _ _) zw_M_isThere zl_M_169 dz_M_odds_75 (by decide) rfl rfl (Nat.le_of_ble_eq_true rfl) ?_
                refine gw_ifb_eq (tgt := 87) dz_M_odds_78 rfl (fun h78 => ?_) (fun h78 => ?_)
                · skip
                  have hG : zN_G A q = 1 := by rw [zN_G, show zb_bit (za_g A) (nI q) = true from by simpa using h78]; rfl
                  refine gq_lconst (v := 1) dz_M_odds_87 rfl ?_
                  rw [show (1 : Int64) = lN 1 from rfl]
                  refine gq_lmul dz_M_odds_88 ?_
                  rw [lN_mul]
                  refine gw_lstore 8 dz_M_odds_89 (Nat.le_of_ble_eq_true rfl) rfl ?_
                  dsimp only [List.set]
                  refine gw_iinc 10 (c := 1) dz_M_odds_91 rfl rfl (Nat.le_of_ble_eq_true rfl) rfl ?_
                  dsimp only [List.set]
                  refine gq_goto (tgt := 60) dz_M_odds_94 rfl ?_
                  simp only [nI_1]
                  rw [show zN_pr (zN_G A) q * 1 = zN_pr (zN_G A) (q + 1) from by rw [zN_pr, hG]]
                  exact zq_fewer _ (zq_sub_spec (by repeat (first | exact trivial | exact rfl | refine And.intro ?_ ?_))) (ih60 (q + 1) (by omega) (by omega))
                · skip
                  have hG : zN_G A q = 10 := by rw [zN_G, show zb_bit (za_g A) (nI q) = false from by simpa using h78]; rfl
                  refine gq_ldc2 zl_M_239 dz_M_odds_81 ?_
                  rw [show (10 : Int64) = lN 10 from rfl]
                  refine gq_goto (tgt := 88) dz_M_odds_84 rfl ?_
                  refine gq_lmul dz_M_odds_88 ?_
                  rw [lN_mul]
                  refine gw_lstore 8 dz_M_odds_89 (Nat.le_of_ble_eq_true rfl) rfl ?_
                  dsimp only [List.set]
                  refine gw_iinc 10 (c := 1) dz_M_odds_91 rfl rfl (Nat.le_of_ble_eq_true rfl) rfl ?_
                  dsimp only [List.set]
                  refine gq_goto (tgt := 60) dz_M_odds_94 rfl ?_
                  simp only [nI_1]
                  rw [show zN_pr (zN_G A) q * 10 = zN_pr (zN_G A) (q + 1) from by rw [zN_pr, hG]]
                  exact zq_fewer _ (zq_sub_spec (by repeat (first | exact trivial | exact rfl | refine And.intro ?_ ?_))) (ih60 (q + 1) (by omega) (by omega))
          exact zq_fewer _ (zq_sub_spec (by repeat (first | exact trivial | exact rfl | refine And.intro ?_ ?_))) (L60 (za_n A + 1) 0 (by omega) (by omega))
        · skip
          rw [zn_in3 (n := 1) rfl rfl (by omega)] at h35
          have ho : zx_oddok A v p t w = false := by rw [zx_oddok, h9, h17, h24]; exact h35
          refine gq_ldc2 zl_M_263 dz_M_odds_38 ?_
          refine gw_lret dz_M_odds_41 rfl ?_ ?_
          · rw [zx_odds, ho]; rfl
          · rfl
