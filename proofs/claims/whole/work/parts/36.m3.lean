/-! WHO IS GIVEN WHAT, IN THE MODEL -/
theorem zf_or_bit {P : Nat → Bool} {q : Nat} (hq : q < 6) : ∀ {n : Nat}, n ≤ 6 → zb_bit (zf_or P n) (nI q) = (decide (q < n) && P q) := by
  intro n
  induction n with
  | zero => intro _; show zb_bit 0 (nI q) = _; rw [zt_no_bit ⟨q, hq⟩]; rfl
  | succ n ih =>
    intro hn
    by_cases h : P n = true
    · rw [zf_or_t h, zt_set_bit (by omega) hq, ih (by omega)]
      by_cases h2 : q = n
      · subst h2; simp [h]
      · have h3 : (q < n + 1) ↔ q < n := by omega
        simp [h2, h3]
    · have h' : P n = false := by simpa using h
      rw [zf_or_f h', ih (by omega)]
      by_cases h2 : q = n
      · subst h2; simp [h']
      · have h3 : (q < n + 1) ↔ q < n := by omega
        simp [h3]
abbrev zn_cd (pick : Int32) (n : Nat) : Prop := pick = 2 ∨ (pick = 0 ∧ n = 1) ∨ (pick = 1 ∧ n = 3)
def zn_who (P : Nat → Bool) (pick : Int32) : Nat → Int32
  | 0 => -4
  | q + 1 => if P q = true ∧ zn_cd pick (zf_ct P q + 1) then nI q else zn_who P pick q
theorem zn_who_f {P : Nat → Bool} {pick : Int32} {q : Nat} (h : ¬ (P q = true ∧ zn_cd pick (zf_ct P q + 1))) : zn_who P pick q = zn_who P pick (q + 1) := (if_neg h).symm
theorem zn_who_t {P : Nat → Bool} {pick : Int32} {q : Nat} (h : P q = true ∧ zn_cd pick (zf_ct P q + 1)) : nI q = zn_who P pick (q + 1) := (if_pos h).symm
def zn_wh (P : Nat → Bool) (W : Nat) : Nat → Int32
  | 0 => -4
  | q + 1 => if P q = true ∧ zf_ct P q + 1 = W then nI q else zn_wh P W q
theorem zn_wh_st {P : Nat → Bool} {W q : Nat} (h : P q = true ∧ zf_ct P q + 1 = W) : ∀ m, q < m → zn_wh P W m = nI q ∧ W ≤ zf_ct P m := by
  intro m
  induction m with
  | zero => intro hq; omega
  | succ m ih =>
    intro hq
    rcases Nat.lt_or_ge q m with z | z
    · obtain ⟨h1, h2⟩ := ih z
      refine ⟨?_, ?_⟩
      · rw [zn_wh, if_neg (fun y => by omega)]; exact h1
      · unfold zf_ct; omega
    · have h4 : m = q := by omega
      subst h4
      refine ⟨if_pos h, ?_⟩
      rw [zf_ct_t h.1]; omega
theorem zn_wh_rc {P : Nat → Bool} {W n : Nat} : ∀ r q, q + r = n → zf_ct P q < W → zn_wh P W q = -4 → zs_rcv P false n r (W - zf_ct P q) = zn_wh P W n := by
  intro r
  induction r with
  | zero => intro q hq _ h2; rw [show n = q by omega, h2]; rfl
  | succ r ih =>
    intro q hq h1 h2
    have hp : (if (false : Bool) then r else n - (r + 1)) = q := by show n - (r + 1) = q; omega
    by_cases h : P q = true
    · by_cases h3 : zf_ct P q + 1 = W
      · rw [show W - zf_ct P q = 0 + 1 by omega, zs_rcv_hit hp h]
        exact ((zn_wh_st ⟨h, h3⟩ n (by omega)).1).symm
      · rw [show W - zf_ct P q = (W - zf_ct P (q + 1)) + 1 by rw [zf_ct_t h]; omega, zs_rcv_go hp h (by rw [zf_ct_t h]; omega)]
        exact ih (q + 1) (by omega) (by rw [zf_ct_t h]; omega) (by rw [zn_wh, if_neg (fun y => h3 y.2)]; exact h2)
    · have h' : P q = false := by simpa using h
      rw [zs_rcv_no hp h', ← zf_ct_f h']
      exact ih (q + 1) (by omega) (by rw [zf_ct_f h']; omega) (by rw [zn_wh, if_neg (fun y => h y.1)]; exact h2)
theorem zn_who_rc {P : Nat → Bool} {pick : Int32} (hp : zb_in pick 3 = true) (n : Nat) : zn_who P pick n = zs_rcv P (decide (pick = 2)) n n (if pick = 1 then 3 else 1) := by
  obtain ⟨j, hj, rfl⟩ := (zb_in_iff (by omega)).mp hp
  have hj3 : j = 0 ∨ j = 1 ∨ j = 2 := by omega
  rcases hj3 with rfl | rfl | rfl
  · have h : ∀ m, zn_who P (nI 0) m = zn_wh P 1 m := by
      intro m
      induction m with
      | zero => rfl
      | succ m ih =>
        rw [zn_who, zn_wh, ih]
        have : zn_cd (nI 0) (zf_ct P m + 1) ↔ zf_ct P m + 1 = 1 := ⟨fun z => by rcases z with z | z | z; exact absurd z (by decide); exact z.2; exact absurd z.1 (by decide), fun z => Or.inr (Or.inl ⟨rfl, z⟩)⟩
        simp only [this]
    rw [h, decide_eq_false (by decide), if_neg (by decide)]
    exact (zn_wh_rc n 0 (by omega) (show 0 < 1 by omega) rfl).symm
  · have h : ∀ m, zn_who P (nI 1) m = zn_wh P 3 m := by
      intro m
      induction m with
      | zero => rfl
      | succ m ih =>
        rw [zn_who, zn_wh, ih]
        have : zn_cd (nI 1) (zf_ct P m + 1) ↔ zf_ct P m + 1 = 3 := ⟨fun z => by rcases z with z | z | z; exact absurd z (by decide); exact absurd z.1 (by decide); exact z.2, fun z => Or.inr (Or.inr ⟨rfl, z⟩)⟩
        simp only [this]
    rw [h, decide_eq_false (by decide), if_pos (show nI 1 = 1 from rfl)]
    exact (zn_wh_rc n 0 (by omega) (show 0 < 3 by omega) rfl).symm
  · rw [decide_eq_true (show nI 2 = 2 from rfl), if_neg (by decide)]
    have h : ∀ N m, zn_who P (nI 2) m = zs_rcv P true N m 1 := by
      intro N m
      induction m with
      | zero => rfl
      | succ m ih =>
        rw [zn_who]
        by_cases h : P m = true
        · rw [if_pos ⟨h, Or.inl rfl⟩]
          exact (zs_rcv_hit (r := m) (p := m) rfl h).symm
        · rw [if_neg (fun z => h z.1), ih]
          exact (zs_rcv_no (p := m) rfl (by simpa using h)).symm
    exact h n n
/-- as zs_recv, with a given pick -/
def zs_rcp (A : za_D) (k : Nat) (ab pick : Int32) : Int32 := zs_rcv (fun p => zs_meets A k p ab) (decide (pick = 2)) (za_n A) (za_n A) (if pick = 1 then 3 else 1)
theorem zs_rcp_own {A : za_D} {k : Nat} {ab : Int32} : zs_rcp A k ab (za_pi A k) = zs_recv A k ab := rfl
abbrev zn_B (A : za_D) (pick : Int32) : za_D := za_sp A (fun k => if pick = -4 then za_pi A k else pick)
theorem zs_rcp_B {A : za_D} {k : Nat} {ab pick x : Int32} (h : (if pick = -4 then za_pi A k else pick) = x) : zs_rcp A k ab x = zs_recv (zn_B A pick) k ab := by subst h; rfl
theorem zn_B4 {A : za_D} : zn_B A (-4) = A := rfl
theorem za_wf.pi {A : za_D} (h : za_wf A) {k : Nat} (hk : k < za_m A) : zb_in (za_pi A k) 3 = true := by
  obtain ⟨q, hq, e⟩ := (h.2.2.1 k hk).2.2.2
  rw [e]; exact zb_in_nI hq (by omega)

set_option maxHeartbeats 4000000 in
theorem sp_M_whoMeet {σ : zq_T} {A : za_D} (hA : zn_rep σ A) (hw : za_wf A) {k : Nat} (hk : k < za_m A) (ab : Int32) : zq_Sp zm_M_whoMeet 3 [zq_O 30 0, zq_I (nI k), zq_I ab] σ (zq_rv (zq_I (zf_or (fun p => zs_meets A k p ab) (za_n A))) σ) := by
  have hn6 := zn_n6 hA
  have hm5 := zn_m5 hA
  refine zq_sp [some (zq_O 30 0), some (zq_I (nI k)), some (zq_I ab), none, none] (by decide +kernel) rfl (Nat.le_of_ble_eq_true rfl) (fun ν => ?_)
  refine gq_iconst (v := 0) dz_M_whoMeet_0 rfl ?_
  refine gw_istore_n 3 dz_M_whoMeet_1 rfl (Nat.le_of_ble_eq_true rfl) rfl ?_
  dsimp only [List.set]
  refine gq_iconst (v := 0) dz_M_whoMeet_2 rfl ?_
  refine gw_istore 4 dz_M_whoMeet_3 (Nat.le_of_ble_eq_true rfl) rfl ?_
  dsimp only [List.set]
  have L5 : ∀ (kf : Nat) (q : Nat) (v : Int32) (hkf : za_n A - q < kf) (hq : q ≤ za_n A) (hv : v = zf_or (fun p => zs_meets A k p ab) q), zq_G ν zm_M_whoMeet 3 (zq_rv (zq_I (zf_or (fun p => zs_meets A k p ab) (za_n A))) σ) 5 [some (zq_O 30 0), some (zq_I (nI k)), some (zq_I ab), some (zq_I v), some (zq_I (nI q))] [] σ := by
    intro kf
    induction kf with
    | zero => intro q v hkf hq hv; exact absurd hkf (Nat.not_lt_zero _)
    | succ kf ih5 =>
      intro q v hkf hq hv
      refine gq_iload dz_M_whoMeet_5 rfl ?_
      refine gq_aload_n dz_M_whoMeet_7 rfl ?_
      refine gq_getI zf_M_158 rfl rfl dz_M_whoMeet_8 ?_
      rw [zn_n hA]
      refine gq_icmp_ge (tgt := 42) dz_M_whoMeet_11 rfl (fun h11 => ?_) (fun h11 => ?_)
      · skip
        refine gq_iload_n dz_M_whoMeet_42 rfl ?_
        refine gw_iret .int dz_M_whoMeet_43 rfl (by first | rfl | exact zb_nar _ | exact pk_nc _) ?_ ?_
        · rw [hv, show q = za_n A from by have := (nI_leI (by omega) (by omega)).mp h11; omega]
        · rfl
      · skip
        have hq2 : q < za_n A := by rcases Nat.lt_or_ge q (za_n A) with z | z; exact z; exact absurd (nI_le z (by omega)) h11
        refine gq_iload_n dz_M_whoMeet_14 rfl ?_
        refine gq_aload_n dz_M_whoMeet_15 rfl ?_
        refine gq_iload_n dz_M_whoMeet_16 rfl ?_
        refine gq_iload dz_M_whoMeet_17 rfl ?_
        refine gq_iload_n dz_M_whoMeet_19 rfl ?_
        refine gq_cV (sp_M_meets hA hw hq2 hk ab) zw_M_meets zl_M_183 dz_M_whoMeet_20 rfl rfl rfl (by decide) rfl rfl (Nat.le_of_ble_eq_true rfl) ?_
        refine gw_ifb_eq (tgt := 33) dz_M_whoMeet_23 rfl (fun h23 => ?_) (fun h23 => ?_)
        · skip
          refine gq_iconst (v := 0) dz_M_whoMeet_33 rfl ?_
          refine gq_ior dz_M_whoMeet_34 ?_
          refine gw_istore_n 3 dz_M_whoMeet_35 rfl (Nat.le_of_ble_eq_true rfl) rfl ?_
          dsimp only [List.set]
          refine gw_iinc 4 (c := 1) dz_M_whoMeet_36 rfl rfl (Nat.le_of_ble_eq_true rfl) rfl ?_
          dsimp only [List.set]
          refine gq_goto (tgt := 5) dz_M_whoMeet_39 rfl ?_
          simp only [nI_1]
          exact zq_fewer _ (zq_sub_spec (by repeat (first | exact trivial | exact rfl | refine And.intro ?_ ?_))) (ih5 (q + 1) _ (by omega) (by omega) (by rw [zf_or_f (P := (fun p => zs_meets A k p ab)) h23, hv]; exact Int32.or_zero))
        · skip
          refine gq_iconst (v := 1) dz_M_whoMeet_26 rfl ?_
          refine gq_iload dz_M_whoMeet_27 rfl ?_
          refine gq_ishl dz_M_whoMeet_29 ?_
          refine gq_goto (tgt := 34) dz_M_whoMeet_30 rfl ?_
          refine gq_ior dz_M_whoMeet_34 ?_
          refine gw_istore_n 3 dz_M_whoMeet_35 rfl (Nat.le_of_ble_eq_true rfl) rfl ?_
          dsimp only [List.set]
          refine gw_iinc 4 (c := 1) dz_M_whoMeet_36 rfl rfl (Nat.le_of_ble_eq_true rfl) rfl ?_
          dsimp only [List.set]
          refine gq_goto (tgt := 5) dz_M_whoMeet_39 rfl ?_
          simp only [nI_1]
          exact zq_fewer _ (zq_sub_spec (by repeat (first | exact trivial | exact rfl | refine And.intro ?_ ?_))) (ih5 (q + 1) _ (by omega) (by omega) (by rw [zf_or_t (P := (fun p => zs_meets A k p ab)) h23, hv]))
  exact zq_fewer _ (zq_sub_spec (by repeat (first | exact trivial | exact rfl | refine And.intro ?_ ?_))) (L5 (za_n A + 1) 0 0 (by omega) (by omega) rfl)
set_option maxHeartbeats 4000000 in
theorem sp_M_givesBy {σ : zq_T} {A : za_D} (hA : zn_rep σ A) (hw : za_wf A) {k : Nat} (hk : k < za_m A) (ab pick : Int32) (hp3 : zb_in pick 3 = true) : zq_Sp zm_M_givesBy 4 [zq_O 30 0, zq_I (nI k), zq_I ab, zq_I pick] σ (zq_rv (zq_I (zs_rcp A k ab pick)) σ) := by
  have hn6 := zn_n6 hA
  have hm5 := zn_m5 hA
  refine zq_sp [some (zq_O 30 0), some (zq_I (nI k)), some (zq_I ab), some (zq_I pick), none, none, none, none] (by decide +kernel) rfl (Nat.le_of_ble_eq_true rfl) (fun ν => ?_)
  refine gq_aload_n dz_M_givesBy_0 rfl ?_
  refine gq_iload_n dz_M_givesBy_1 rfl ?_
  refine gq_iload_n dz_M_givesBy_2 rfl ?_
  refine gq_cV (sp_M_whoMeet hA hw hk ab) zw_M_whoMeet zl_M_187 dz_M_givesBy_3 rfl rfl rfl (by decide) rfl rfl (Nat.le_of_ble_eq_true rfl) ?_
  refine gw_istore 4 dz_M_givesBy_6 (Nat.le_of_ble_eq_true rfl) rfl ?_
  dsimp only [List.set]
  refine gq_iconst (v := 0) dz_M_givesBy_8 rfl ?_
  refine gw_istore 5 dz_M_givesBy_9 (Nat.le_of_ble_eq_true rfl) rfl ?_
  dsimp only [List.set]
  refine gq_bipush (v := -4) dz_M_givesBy_11 rfl ?_
  refine gw_istore 6 dz_M_givesBy_13 (Nat.le_of_ble_eq_true rfl) rfl ?_
  dsimp only [List.set]
  refine gq_iconst (v := 0) dz_M_givesBy_15 rfl ?_
  refine gw_istore 7 dz_M_givesBy_16 (Nat.le_of_ble_eq_true rfl) rfl ?_
  dsimp only [List.set]
  have L18 : ∀ (kf : Nat) (q n : Nat) (w : Int32) (hkf : za_n A - q < kf) (hq : q ≤ za_n A) (hnq : n ≤ q) (hn : n = zf_ct (fun p => zs_meets A k p ab) q) (hv : w = zn_who (fun p => zs_meets A k p ab) pick q), zq_G ν zm_M_givesBy 4 (zq_rv (zq_I (zs_rcp A k ab pick)) σ) 18 [some (zq_O 30 0), some (zq_I (nI k)), some (zq_I ab), some (zq_I pick), some (zq_I (zf_or (fun p => zs_meets A k p ab) (za_n A))), some (zq_I (nI n)), some (zq_I w), some (zq_I (nI q))] [] σ := by
    intro kf
    induction kf with
    | zero => intro q n w hkf hq hnq hn hv; exact absurd hkf (Nat.not_lt_zero _)
    | succ kf ih18 =>
      intro q n w hkf hq hnq hn hv
      refine gq_iload dz_M_givesBy_18 rfl ?_
      refine gq_aload_n dz_M_givesBy_20 rfl ?_
      refine gq_getI zf_M_158 rfl rfl dz_M_givesBy_21 ?_
      rw [zn_n hA]
      refine gq_icmp_ge (tgt := 82) dz_M_givesBy_24 rfl (fun h24 => ?_) (fun h24 => ?_)
      · skip
        refine gq_iload dz_M_givesBy_82 rfl ?_
        refine gw_iret .int dz_M_givesBy_84 rfl (by first | rfl | exact zb_nar _ | exact pk_nc _) ?_ ?_
        · rw [hv, show q = za_n A from by have := (nI_leI (by omega) (by omega)).mp h24; omega]; exact zn_who_rc hp3 _
        · rfl
      · skip
        have hq2 : q < za_n A := by rcases Nat.lt_or_ge q (za_n A) with z | z; exact z; exact absurd (nI_le z (by omega)) h24
        have hbt : zb_bit (zf_or (fun p => zs_meets A k p ab) (za_n A)) (nI q) = (fun p => zs_meets A k p ab) q := by rw [zf_or_bit (by omega) hn6, decide_eq_true hq2, Bool.true_and]
        refine gq_iload dz_M_givesBy_27 rfl ?_
        refine gq_iload dz_M_givesBy_29 rfl ?_
        refine gq_ishr dz_M_givesBy_31 ?_
        refine gq_iconst (v := 1) dz_M_givesBy_32 rfl ?_
        refine gq_iand dz_M_givesBy_33 ?_
        refine gq_iconst (v := 1) dz_M_givesBy_34 rfl ?_
        refine gq_icmp_ne (tgt := 76) dz_M_givesBy_35 rfl (fun h35 => ?_) (fun h35 => ?_)
        · skip
          have hP : (fun p => zs_meets A k p ab) q = false := by rw [← hbt]; rw [zb_bv1] at h35; simpa using h35
          refine gw_iinc 7 (c := 1) dz_M_givesBy_76 rfl rfl (Nat.le_of_ble_eq_true rfl) rfl ?_
          dsimp only [List.set]
          refine gq_goto (tgt := 18) dz_M_givesBy_79 rfl ?_
          simp only [nI_1]
          exact zq_fewer _ (zq_sub_spec (by repeat (first | exact trivial | exact rfl | refine And.intro ?_ ?_))) (ih18 (q + 1) n w (by omega) (by omega) (by omega) (by rw [zf_ct_f hP, hn]) (hv.trans (zn_who_f fun z => Bool.noConfusion (hP.symm.trans z.1))))
        · skip
          have hP : (fun p => zs_meets A k p ab) q = true := by rw [← hbt]; exact zb_bv1.mp h35
          refine gw_iinc 5 (c := 1) dz_M_givesBy_38 rfl rfl (Nat.le_of_ble_eq_true rfl) rfl ?_
          dsimp only [List.set]
          rw [nI_1]
          refine gq_iload_n dz_M_givesBy_41 rfl ?_
          refine gq_iconst (v := 2) dz_M_givesBy_42 rfl ?_
          refine gq_icmp_eq (tgt := 67) dz_M_givesBy_43 rfl (fun h43 => ?_) (fun h43 => ?_)
          · skip
            refine gq_iload dz_M_givesBy_67 rfl ?_
            refine gq_goto (tgt := 74) dz_M_givesBy_69 rfl ?_
            refine gw_istore 6 dz_M_givesBy_74 (Nat.le_of_ble_eq_true rfl) rfl ?_
            dsimp only [List.set]
            refine gw_iinc 7 (c := 1) dz_M_givesBy_76 rfl rfl (Nat.le_of_ble_eq_true rfl) rfl ?_
            dsimp only [List.set]
            refine gq_goto (tgt := 18) dz_M_givesBy_79 rfl ?_
            simp only [nI_1]
            exact zq_fewer _ (zq_sub_spec (by repeat (first | exact trivial | exact rfl | refine And.intro ?_ ?_))) (ih18 (q + 1) (n + 1) _ (by omega) (by omega) (by omega) (by rw [zf_ct_t hP, hn]) (zn_who_t ⟨hP, by rw [← hn]; exact Or.inl h43⟩))
          · skip
            refine gq_iload_n dz_M_givesBy_46 rfl ?_
            refine gq_if_ne (tgt := 56) dz_M_givesBy_47 rfl (fun h47 => ?_) (fun h47 => ?_)
            · skip
              refine gq_iload_n dz_M_givesBy_56 rfl ?_
              refine gq_iconst (v := 1) dz_M_givesBy_57 rfl ?_
              refine gq_icmp_ne (tgt := 72) dz_M_givesBy_58 rfl (fun h58 => ?_) (fun h58 => ?_)
              · skip
                refine gq_iload dz_M_givesBy_72 rfl ?_
                refine gw_istore 6 dz_M_givesBy_74 (Nat.le_of_ble_eq_true rfl) rfl ?_
                dsimp only [List.set]
                refine gw_iinc 7 (c := 1) dz_M_givesBy_76 rfl rfl (Nat.le_of_ble_eq_true rfl) rfl ?_
                dsimp only [List.set]
                refine gq_goto (tgt := 18) dz_M_givesBy_79 rfl ?_
                simp only [nI_1]
                exact zq_fewer _ (zq_sub_spec (by repeat (first | exact trivial | exact rfl | refine And.intro ?_ ?_))) (ih18 (q + 1) (n + 1) w (by omega) (by omega) (by omega) (by rw [zf_ct_t hP, hn]) (hv.trans (zn_who_f fun z => by have z2 := z.2; rw [← hn] at z2; rcases z2 with z2 | z2 | z2; exact h43 z2; exact h47 z2.1; exact h58 z2.1)))
              · skip
                refine gq_iload dz_M_givesBy_61 rfl ?_
                refine gq_iconst (v := 3) dz_M_givesBy_63 rfl ?_
                refine gq_icmp_ne (tgt := 72) dz_M_givesBy_64 rfl (fun h64 => ?_) (fun h64 => ?_)
                · skip
                  have h64 : ¬ n + 1 = 3 := fun z => h64 (by rw [z]; rfl)
                  refine gq_iload dz_M_givesBy_72 rfl ?_
                  refine gw_istore 6 dz_M_givesBy_74 (Nat.le_of_ble_eq_true rfl) rfl ?_
                  dsimp only [List.set]
                  refine gw_iinc 7 (c := 1) dz_M_givesBy_76 rfl rfl (Nat.le_of_ble_eq_true rfl) rfl ?_
                  dsimp only [List.set]
                  refine gq_goto (tgt := 18) dz_M_givesBy_79 rfl ?_
                  simp only [nI_1]
                  exact zq_fewer _ (zq_sub_spec (by repeat (first | exact trivial | exact rfl | refine And.intro ?_ ?_))) (ih18 (q + 1) (n + 1) w (by omega) (by omega) (by omega) (by rw [zf_ct_t hP, hn]) (hv.trans (zn_who_f fun z => by have z2 := z.2; rw [← hn] at z2; rcases z2 with z2 | z2 | z2; exact h43 z2; exact h47 z2.1; exact h64 z2.2)))
                · skip
                  have h64 : n + 1 = 3 := (zt_kk (c := 3) (by omega) (by omega)).mp h64
                  refine gq_iload dz_M_givesBy_67 rfl ?_
                  refine gq_goto (tgt := 74) dz_M_givesBy_69 rfl ?_
                  refine gw_istore 6 dz_M_givesBy_74 (Nat.le_of_ble_eq_true rfl) rfl ?_
                  dsimp only [List.set]
                  refine gw_iinc 7 (c := 1) dz_M_givesBy_76 rfl rfl (Nat.le_of_ble_eq_true rfl) rfl ?_
                  dsimp only [List.set]
                  refine gq_goto (tgt := 18) dz_M_givesBy_79 rfl ?_
                  simp only [nI_1]
                  exact zq_fewer _ (zq_sub_spec (by repeat (first | exact trivial | exact rfl | refine And.intro ?_ ?_))) (ih18 (q + 1) (n + 1) _ (by omega) (by omega) (by omega) (by rw [zf_ct_t hP, hn]) (zn_who_t ⟨hP, by rw [← hn]; exact Or.inr (Or.inr ⟨h58, h64⟩)⟩))
            · skip
              refine gq_iload dz_M_givesBy_50 rfl ?_
              refine gq_iconst (v := 1) dz_M_givesBy_52 rfl ?_
              refine gq_icmp_eq (tgt := 67) dz_M_givesBy_53 rfl (fun h53 => ?_) (fun h53 => ?_)
              · skip
                have h53 : n + 1 = 1 := (zt_kk (c := 1) (by omega) (by omega)).mp h53
                refine gq_iload dz_M_givesBy_67 rfl ?_
                refine gq_goto (tgt := 74) dz_M_givesBy_69 rfl ?_
                refine gw_istore 6 dz_M_givesBy_74 (Nat.le_of_ble_eq_true rfl) rfl ?_
                dsimp only [List.set]
                refine gw_iinc 7 (c := 1) dz_M_givesBy_76 rfl rfl (Nat.le_of_ble_eq_true rfl) rfl ?_
                dsimp only [List.set]
                refine gq_goto (tgt := 18) dz_M_givesBy_79 rfl ?_
                simp only [nI_1]
                exact zq_fewer _ (zq_sub_spec (by repeat (first | exact trivial | exact rfl | refine And.intro ?_ ?_))) (ih18 (q + 1) (n + 1) _ (by omega) (by omega) (by omega) (by rw [zf_ct_t hP, hn]) (zn_who_t ⟨hP, by rw [← hn]; exact Or.inr (Or.inl ⟨h47, h53⟩)⟩))
              · skip
                have h53 : ¬ n + 1 = 1 := fun z => h53 (by rw [z]; rfl)
                refine gq_iload_n dz_M_givesBy_56 rfl ?_
                refine gq_iconst (v := 1) dz_M_givesBy_57 rfl ?_
                refine gq_icmp_ne (tgt := 72) dz_M_givesBy_58 rfl (fun h58 => ?_) (fun h58 => ?_)
                · skip
                  refine gq_iload dz_M_givesBy_72 rfl ?_
                  refine gw_istore 6 dz_M_givesBy_74 (Nat.le_of_ble_eq_true rfl) rfl ?_
                  dsimp only [List.set]
                  refine gw_iinc 7 (c := 1) dz_M_givesBy_76 rfl rfl (Nat.le_of_ble_eq_true rfl) rfl ?_
                  dsimp only [List.set]
                  refine gq_goto (tgt := 18) dz_M_givesBy_79 rfl ?_
                  simp only [nI_1]
                  exact zq_fewer _ (zq_sub_spec (by repeat (first | exact trivial | exact rfl | refine And.intro ?_ ?_))) (ih18 (q + 1) (n + 1) w (by omega) (by omega) (by omega) (by rw [zf_ct_t hP, hn]) (hv.trans (zn_who_f fun z => by have z2 := z.2; rw [← hn] at z2; rcases z2 with z2 | z2 | z2; exact h43 z2; exact h53 z2.2; exact h58 z2.1)))
                · skip
                  exact absurd (h47.symm.trans h58) (by decide)
  exact zq_fewer _ (zq_sub_spec (by repeat (first | exact trivial | exact rfl | refine And.intro ?_ ?_))) (L18 (za_n A + 1) 0 0 (-4) (by omega) (by omega) (by omega) rfl rfl)
set_option maxHeartbeats 4000000 in
theorem sp_M_gives {σ : zq_T} {A : za_D} (hA : zn_rep σ A) (hw : za_wf A) {k : Nat} (hk : k < za_m A) (ab : Int32) : zq_Sp zm_M_gives 5 [zq_O 30 0, zq_I (nI k), zq_I ab] σ (zq_rv (zq_I (zs_recv A k ab)) σ) := by
  have hn6 := zn_n6 hA
  have hm5 := zn_m5 hA
  refine zq_sp [some (zq_O 30 0), some (zq_I (nI k)), some (zq_I ab)] (by decide +kernel) rfl (Nat.le_of_ble_eq_true rfl) (fun ν => ?_)
  refine gq_aload_n dz_M_gives_0 rfl ?_
  refine gq_iload_n dz_M_gives_1 rfl ?_
  refine gq_iload_n dz_M_gives_2 rfl ?_
  refine gq_aload_n dz_M_gives_3 rfl ?_
  refine gq_getR 31 zf_M_7 rfl rfl dz_M_gives_4 ?_
  refine gq_bipush (v := 23) dz_M_gives_7 rfl ?_
  refine gq_iload_n dz_M_gives_9 rfl ?_
  refine gq_iadd dz_M_gives_10 ?_
  refine gw_iald (23 + k) (by rw [show (23 : Int32) = nI 23 from rfl, nI_add]) rfl (rfl) (Nat.le_of_ble_eq_true rfl) (by omega) dz_M_gives_11 ?_
  rw [zn_pi hA hk]
  refine gq_cV (sp_M_givesBy hA hw hk ab _ (hw.pi hk)) zw_M_givesBy zl_M_190 dz_M_gives_12 rfl rfl rfl (by decide) rfl rfl (Nat.le_of_ble_eq_true rfl) ?_
  refine gw_iret .int dz_M_gives_15 rfl (by first | rfl | exact zb_nar _ | exact pk_nc _) ?_ ?_
  · rfl
  · rfl
set_option maxHeartbeats 4000000 in
theorem sp_M_ruleBy {σ : zq_T} {A : za_D} (hA : zn_rep σ A) (hw : za_wf A) (t ab set pick : Int32) (hpk : pick = -4 ∨ zb_in pick 3 = true) : zq_Sp zm_M_ruleBy 5 [zq_O 30 0, zq_I t, zq_I ab, zq_I set, zq_I pick] σ (zq_rv (zq_I (zs_right (zn_B A pick) t ab set)) σ) := by
  have hn6 := zn_n6 hA
  have hm5 := zn_m5 hA
  refine zq_sp [some (zq_O 30 0), some (zq_I t), some (zq_I ab), some (zq_I set), some (zq_I pick), none, none, none] (by decide +kernel) rfl (Nat.le_of_ble_eq_true rfl) (fun ν => ?_)
  refine gq_bipush (v := -4) dz_M_ruleBy_0 rfl ?_
  refine gw_istore 5 dz_M_ruleBy_2 (Nat.le_of_ble_eq_true rfl) rfl ?_
  dsimp only [List.set]
  refine gq_iconst (v := 0) dz_M_ruleBy_4 rfl ?_
  refine gw_istore 6 dz_M_ruleBy_5 (Nat.le_of_ble_eq_true rfl) rfl ?_
  dsimp only [List.set]
  have L7 : ∀ (kf : Nat) (k : Nat) (hkf : za_m A - k < kf) (hk : k ≤ za_m A), zq_G ν zm_M_ruleBy 5 (zq_rv (zq_I (zs_right (zn_B A pick) t ab set)) σ) 7 [some (zq_O 30 0), some (zq_I t), some (zq_I ab), some (zq_I set), some (zq_I pick), some (zq_I (zs_rt (zn_B A pick) t ab set k)), some (zq_I (nI k)), none] [] σ := by
    intro kf
    induction kf with
    | zero => intro k hkf hk; exact absurd hkf (Nat.not_lt_zero _)
    | succ kf ih7 =>
      intro k hkf hk
      refine gq_iload dz_M_ruleBy_7 rfl ?_
      refine gq_aload_n dz_M_ruleBy_9 rfl ?_
      refine gq_getI zf_M_161 rfl rfl dz_M_ruleBy_10 ?_
      rw [zn_m hA]
      refine gq_icmp_ge (tgt := 125) dz_M_ruleBy_13 rfl (fun h13 => ?_) (fun h13 => ?_)
      · skip
        refine gq_iload dz_M_ruleBy_125 rfl ?_
        refine gw_iret .int dz_M_ruleBy_127 rfl (by first | rfl | exact zb_nar _ | exact pk_nc _) ?_ ?_
        · rw [zs_right, show k = za_m A from by have := (nI_leI (by omega) (by omega)).mp h13; omega]
        · rfl
      · skip
        have hk2 : k < za_m A := by rcases Nat.lt_or_ge k (za_m A) with z | z; exact z; exact absurd (nI_le z (by omega)) h13
        refine gq_iload_n dz_M_ruleBy_16 rfl ?_
        refine gq_iload dz_M_ruleBy_17 rfl ?_
        refine gq_ishr dz_M_ruleBy_19 ?_
        refine gq_iconst (v := 1) dz_M_ruleBy_20 rfl ?_
        refine gq_iand dz_M_ruleBy_21 ?_
        refine gq_iconst (v := 1) dz_M_ruleBy_22 rfl ?_
        refine gq_icmp_ne (tgt := 73) dz_M_ruleBy_23 rfl (fun h23 => ?_) (fun h23 => ?_)
        · skip
          have hs : ¬ zb_bit set (nI k) = true := fun z => h23 (zb_bv1.mpr z)
          refine gq_iconst (v := 0) dz_M_ruleBy_73 rfl ?_
          refine gw_istore 7 dz_M_ruleBy_74 (Nat.le_of_ble_eq_true rfl) rfl ?_
          dsimp only [List.set]
          refine gq_iload dz_M_ruleBy_76 rfl ?_
          refine gq_if_eq (tgt := 119) dz_M_ruleBy_78 rfl (fun h78 => ?_) (fun h78 => ?_)
          · skip
            refine gw_iinc 6 (c := 1) dz_M_ruleBy_119 rfl rfl (Nat.le_of_ble_eq_true rfl) rfl ?_
            dsimp only [List.set]
            refine gq_goto (tgt := 7) dz_M_ruleBy_122 rfl ?_
            simp only [nI_1]
            rw [← zs_rt_f (A := zn_B A pick) (t := t) (ab := ab) (set := set) (k := k) (fun z => hs z.1)]
            exact zq_fewer _ (zq_sub_spec (by repeat (first | exact trivial | exact rfl | refine And.intro ?_ ?_))) (ih7 (k + 1) (by omega) (by omega))
          · skip
            exact absurd rfl h78
        · skip
          have hs : zb_bit set (nI k) = true := zb_bv1.mp h23
          refine gq_aload_n dz_M_ruleBy_26 rfl ?_
          refine gq_getR 33 zf_M_16 rfl rfl dz_M_ruleBy_27 ?_
          refine gq_iconst (v := 3) dz_M_ruleBy_30 rfl ?_
          refine gq_iload dz_M_ruleBy_31 rfl ?_
          refine gq_imul dz_M_ruleBy_33 ?_
          refine gw_iald (3 * k) (zn_k0 k) rfl (rfl) (Nat.le_of_ble_eq_true rfl) (by omega) dz_M_ruleBy_34 ?_
          rw [zn_th hA hk2]
          refine gq_iload_n dz_M_ruleBy_35 rfl ?_
          refine gq_icmp_ne (tgt := 73) dz_M_ruleBy_36 rfl (fun h36 => ?_) (fun h36 => ?_)
          · skip
            refine gq_iconst (v := 0) dz_M_ruleBy_73 rfl ?_
            refine gw_istore 7 dz_M_ruleBy_74 (Nat.le_of_ble_eq_true rfl) rfl ?_
            dsimp only [List.set]
            refine gq_iload dz_M_ruleBy_76 rfl ?_
            refine gq_if_eq (tgt := 119) dz_M_ruleBy_78 rfl (fun h78 => ?_) (fun h78 => ?_)
            · skip
              refine gw_iinc 6 (c := 1) dz_M_ruleBy_119 rfl rfl (Nat.le_of_ble_eq_true rfl) rfl ?_
              dsimp only [List.set]
              refine gq_goto (tgt := 7) dz_M_ruleBy_122 rfl ?_
              simp only [nI_1]
              rw [← zs_rt_f (A := zn_B A pick) (t := t) (ab := ab) (set := set) (k := k) (fun z => h36 z.2.1)]
              exact zq_fewer _ (zq_sub_spec (by repeat (first | exact trivial | exact rfl | refine And.intro ?_ ?_))) (ih7 (k + 1) (by omega) (by omega))
            · skip
              exact absurd rfl h78
          · skip
            refine gq_iload dz_M_ruleBy_39 rfl ?_
            refine gq_bipush (v := -4) dz_M_ruleBy_41 rfl ?_
            refine gq_icmp_eq (tgt := 69) dz_M_ruleBy_43 rfl (fun h43 => ?_) (fun h43 => ?_)
            · skip
              refine gq_iconst (v := 1) dz_M_ruleBy_69 rfl ?_
              refine gq_goto (tgt := 74) dz_M_ruleBy_70 rfl ?_
              refine gw_istore 7 dz_M_ruleBy_74 (Nat.le_of_ble_eq_true rfl) rfl ?_
              dsimp only [List.set]
              refine gq_iload dz_M_ruleBy_76 rfl ?_
              refine gq_if_eq (tgt := 119) dz_M_ruleBy_78 rfl (fun h78 => ?_) (fun h78 => ?_)
              · skip
                exact absurd h78 (by decide)
              · skip
                refine gq_aload_n dz_M_ruleBy_81 rfl ?_
                refine gq_iload dz_M_ruleBy_82 rfl ?_
                refine gq_iload_n dz_M_ruleBy_84 rfl ?_
                refine gq_iload dz_M_ruleBy_85 rfl ?_
                refine gq_bipush (v := -4) dz_M_ruleBy_87 rfl ?_
                refine gq_icmp_ne (tgt := 105) dz_M_ruleBy_89 rfl (fun h89 => ?_) (fun h89 => ?_)
                · skip
                  have hpv : zb_in pick 3 = true := by rcases hpk with z | z; exact absurd z h89; exact z
                  have hB : zs_rcp A k ab pick = zs_recv (zn_B A pick) k ab := zs_rcp_B (if_neg h89)
                  refine gq_iload dz_M_ruleBy_105 rfl ?_
                  refine gq_cV (sp_M_givesBy hA hw hk2 ab _ hpv) zw_M_givesBy zl_M_190 dz_M_ruleBy_107 rfl rfl rfl (by decide) rfl rfl (Nat.le_of_ble_eq_true rfl) ?_
                  rw [hB]
                  refine gq_bipush (v := -4) dz_M_ruleBy_110 rfl ?_
                  refine gq_icmp_eq (tgt := 119) dz_M_ruleBy_112 rfl (fun h112 => ?_) (fun h112 => ?_)
                  · skip
                    refine gw_iinc 6 (c := 1) dz_M_ruleBy_119 rfl rfl (Nat.le_of_ble_eq_true rfl) rfl ?_
                    dsimp only [List.set]
                    refine gq_goto (tgt := 7) dz_M_ruleBy_122 rfl ?_
                    simp only [nI_1]
                    rw [← zs_rt_f (A := zn_B A pick) (t := t) (ab := ab) (set := set) (k := k) (fun z => z.2.2.2 h112)]
                    exact zq_fewer _ (zq_sub_spec (by repeat (first | exact trivial | exact rfl | refine And.intro ?_ ?_))) (ih7 (k + 1) (by omega) (by omega))
                  · skip
                    refine gq_iload dz_M_ruleBy_115 rfl ?_
                    refine gw_istore 5 dz_M_ruleBy_117 (Nat.le_of_ble_eq_true rfl) rfl ?_
                    dsimp only [List.set]
                    refine gw_iinc 6 (c := 1) dz_M_ruleBy_119 rfl rfl (Nat.le_of_ble_eq_true rfl) rfl ?_
                    dsimp only [List.set]
                    refine gq_goto (tgt := 7) dz_M_ruleBy_122 rfl ?_
                    simp only [nI_1]
                    rw [← zs_rt_t (A := zn_B A pick) (t := t) (ab := ab) (set := set) (k := k) ⟨hs, h36, Or.inl h43, h112⟩]
                    exact zq_fewer _ (zq_sub_spec (by repeat (first | exact trivial | exact rfl | refine And.intro ?_ ?_))) (ih7 (k + 1) (by omega) (by omega))
                · skip
                  have hpv := hw.pi hk2
                  have hB : zs_rcp A k ab (za_pi A k) = zs_recv (zn_B A pick) k ab := zs_rcp_B (if_pos h89)
                  refine gq_aload_n dz_M_ruleBy_92 rfl ?_
                  refine gq_getR 31 zf_M_7 rfl rfl dz_M_ruleBy_93 ?_
                  refine gq_bipush (v := 23) dz_M_ruleBy_96 rfl ?_
                  refine gq_iload dz_M_ruleBy_98 rfl ?_
                  refine gq_iadd dz_M_ruleBy_100 ?_
                  refine gw_iald (23 + k) (by rw [show (23 : Int32) = nI 23 from rfl, nI_add]) rfl (rfl) (Nat.le_of_ble_eq_true rfl) (by omega) dz_M_ruleBy_101 ?_
                  rw [zn_pi hA hk2]
                  refine gq_goto (tgt := 107) dz_M_ruleBy_102 rfl ?_
                  refine gq_cV (sp_M_givesBy hA hw hk2 ab _ hpv) zw_M_givesBy zl_M_190 dz_M_ruleBy_107 rfl rfl rfl (by decide) rfl rfl (Nat.le_of_ble_eq_true rfl) ?_
                  rw [hB]
                  refine gq_bipush (v := -4) dz_M_ruleBy_110 rfl ?_
                  refine gq_icmp_eq (tgt := 119) dz_M_ruleBy_112 rfl (fun h112 => ?_) (fun h112 => ?_)
                  · skip
                    refine gw_iinc 6 (c := 1) dz_M_ruleBy_119 rfl rfl (Nat.le_of_ble_eq_true rfl) rfl ?_
                    dsimp only [List.set]
                    refine gq_goto (tgt := 7) dz_M_ruleBy_122 rfl ?_
                    simp only [nI_1]
                    rw [← zs_rt_f (A := zn_B A pick) (t := t) (ab := ab) (set := set) (k := k) (fun z => z.2.2.2 h112)]
                    exact zq_fewer _ (zq_sub_spec (by repeat (first | exact trivial | exact rfl | refine And.intro ?_ ?_))) (ih7 (k + 1) (by omega) (by omega))
                  · skip
                    refine gq_iload dz_M_ruleBy_115 rfl ?_
                    refine gw_istore 5 dz_M_ruleBy_117 (Nat.le_of_ble_eq_true rfl) rfl ?_
                    dsimp only [List.set]
                    refine gw_iinc 6 (c := 1) dz_M_ruleBy_119 rfl rfl (Nat.le_of_ble_eq_true rfl) rfl ?_
                    dsimp only [List.set]
                    refine gq_goto (tgt := 7) dz_M_ruleBy_122 rfl ?_
                    simp only [nI_1]
                    rw [← zs_rt_t (A := zn_B A pick) (t := t) (ab := ab) (set := set) (k := k) ⟨hs, h36, Or.inl h43, h112⟩]
                    exact zq_fewer _ (zq_sub_spec (by repeat (first | exact trivial | exact rfl | refine And.intro ?_ ?_))) (ih7 (k + 1) (by omega) (by omega))
            · skip
              obtain ⟨q, hq, he⟩ := zs_rt_lt h43
              refine gq_aload_n dz_M_ruleBy_46 rfl ?_
              refine gq_getR 31 zf_M_7 rfl rfl dz_M_ruleBy_47 ?_
              refine gq_bipush (v := 18) dz_M_ruleBy_50 rfl ?_
              refine gq_iload dz_M_ruleBy_52 rfl ?_
              refine gq_iadd dz_M_ruleBy_54 ?_
              refine gw_iald (18 + k) (by rw [show (18 : Int32) = nI 18 from rfl, nI_add]) rfl (rfl) (Nat.le_of_ble_eq_true rfl) (by omega) dz_M_ruleBy_55 ?_
              rw [zn_rk hA hk2]
              refine gq_aload_n dz_M_ruleBy_56 rfl ?_
              refine gq_getR 31 zf_M_7 rfl rfl dz_M_ruleBy_57 ?_
              refine gq_bipush (v := 18) dz_M_ruleBy_60 rfl ?_
              refine gq_iload dz_M_ruleBy_62 rfl ?_
              refine gq_iadd dz_M_ruleBy_64 ?_
              refine gw_iald (18 + q) (by rw [he, show (18 : Int32) = nI 18 from rfl, nI_add]) rfl (rfl) (Nat.le_of_ble_eq_true rfl) (by omega) dz_M_ruleBy_65 ?_
              rw [zn_rk hA (by omega)]
              refine gq_icmp_ge (tgt := 73) dz_M_ruleBy_66 rfl (fun h66 => ?_) (fun h66 => ?_)
              · skip
                refine gq_iconst (v := 0) dz_M_ruleBy_73 rfl ?_
                refine gw_istore 7 dz_M_ruleBy_74 (Nat.le_of_ble_eq_true rfl) rfl ?_
                dsimp only [List.set]
                refine gq_iload dz_M_ruleBy_76 rfl ?_
                refine gq_if_eq (tgt := 119) dz_M_ruleBy_78 rfl (fun h78 => ?_) (fun h78 => ?_)
                · skip
                  refine gw_iinc 6 (c := 1) dz_M_ruleBy_119 rfl rfl (Nat.le_of_ble_eq_true rfl) rfl ?_
                  dsimp only [List.set]
                  refine gq_goto (tgt := 7) dz_M_ruleBy_122 rfl ?_
                  simp only [nI_1]
                  rw [← zs_rt_f (A := zn_B A pick) (t := t) (ab := ab) (set := set) (k := k) (fun z => zs_rt_no h43 he h66 (by omega) z.2.2.1)]
                  exact zq_fewer _ (zq_sub_spec (by repeat (first | exact trivial | exact rfl | refine And.intro ?_ ?_))) (ih7 (k + 1) (by omega) (by omega))
                · skip
                  exact absurd rfl h78
              · skip
                refine gq_iconst (v := 1) dz_M_ruleBy_69 rfl ?_
                refine gq_goto (tgt := 74) dz_M_ruleBy_70 rfl ?_
                refine gw_istore 7 dz_M_ruleBy_74 (Nat.le_of_ble_eq_true rfl) rfl ?_
                dsimp only [List.set]
                refine gq_iload dz_M_ruleBy_76 rfl ?_
                refine gq_if_eq (tgt := 119) dz_M_ruleBy_78 rfl (fun h78 => ?_) (fun h78 => ?_)
                · skip
                  exact absurd h78 (by decide)
                · skip
                  refine gq_aload_n dz_M_ruleBy_81 rfl ?_
                  refine gq_iload dz_M_ruleBy_82 rfl ?_
                  refine gq_iload_n dz_M_ruleBy_84 rfl ?_
                  refine gq_iload dz_M_ruleBy_85 rfl ?_
                  refine gq_bipush (v := -4) dz_M_ruleBy_87 rfl ?_
                  refine gq_icmp_ne (tgt := 105) dz_M_ruleBy_89 rfl (fun h89 => ?_) (fun h89 => ?_)
                  · skip
                    have hpv : zb_in pick 3 = true := by rcases hpk with z | z; exact absurd z h89; exact z
                    have hB : zs_rcp A k ab pick = zs_recv (zn_B A pick) k ab := zs_rcp_B (if_neg h89)
                    refine gq_iload dz_M_ruleBy_105 rfl ?_
                    refine gq_cV (sp_M_givesBy hA hw hk2 ab _ hpv) zw_M_givesBy zl_M_190 dz_M_ruleBy_107 rfl rfl rfl (by decide) rfl rfl (Nat.le_of_ble_eq_true rfl) ?_
                    rw [hB]
                    refine gq_bipush (v := -4) dz_M_ruleBy_110 rfl ?_
                    refine gq_icmp_eq (tgt := 119) dz_M_ruleBy_112 rfl (fun h112 => ?_) (fun h112 => ?_)
                    · skip
                      refine gw_iinc 6 (c := 1) dz_M_ruleBy_119 rfl rfl (Nat.le_of_ble_eq_true rfl) rfl ?_
                      dsimp only [List.set]
                      refine gq_goto (tgt := 7) dz_M_ruleBy_122 rfl ?_
                      simp only [nI_1]
                      rw [← zs_rt_f (A := zn_B A pick) (t := t) (ab := ab) (set := set) (k := k) (fun z => z.2.2.2 h112)]
                      exact zq_fewer _ (zq_sub_spec (by repeat (first | exact trivial | exact rfl | refine And.intro ?_ ?_))) (ih7 (k + 1) (by omega) (by omega))
                    · skip
                      refine gq_iload dz_M_ruleBy_115 rfl ?_
                      refine gw_istore 5 dz_M_ruleBy_117 (Nat.le_of_ble_eq_true rfl) rfl ?_
                      dsimp only [List.set]
                      refine gw_iinc 6 (c := 1) dz_M_ruleBy_119 rfl rfl (Nat.le_of_ble_eq_true rfl) rfl ?_
                      dsimp only [List.set]
                      refine gq_goto (tgt := 7) dz_M_ruleBy_122 rfl ?_
                      simp only [nI_1]
                      rw [← zs_rt_t (A := zn_B A pick) (t := t) (ab := ab) (set := set) (k := k) ⟨hs, h36, Or.inr (zs_rt_ye he (by omega) h66), h112⟩]
                      exact zq_fewer _ (zq_sub_spec (by repeat (first | exact trivial | exact rfl | refine And.intro ?_ ?_))) (ih7 (k + 1) (by omega) (by omega))
                  · skip
                    have hpv := hw.pi hk2
                    have hB : zs_rcp A k ab (za_pi A k) = zs_recv (zn_B A pick) k ab := zs_rcp_B (if_pos h89)
                    refine gq_aload_n dz_M_ruleBy_92 rfl ?_
                    refine gq_getR 31 zf_M_7 rfl rfl dz_M_ruleBy_93 ?_
                    refine gq_bipush (v := 23) dz_M_ruleBy_96 rfl ?_
                    refine gq_iload dz_M_ruleBy_98 rfl ?_
                    refine gq_iadd dz_M_ruleBy_100 ?_
                    refine gw_iald (23 + k) (by rw [show (23 : Int32) = nI 23 from rfl, nI_add]) rfl (rfl) (Nat.le_of_ble_eq_true rfl) (by omega) dz_M_ruleBy_101 ?_
                    rw [zn_pi hA hk2]
                    refine gq_goto (tgt := 107) dz_M_ruleBy_102 rfl ?_
                    refine gq_cV (sp_M_givesBy hA hw hk2 ab _ hpv) zw_M_givesBy zl_M_190 dz_M_ruleBy_107 rfl rfl rfl (by decide) rfl rfl (Nat.le_of_ble_eq_true rfl) ?_
                    rw [hB]
                    refine gq_bipush (v := -4) dz_M_ruleBy_110 rfl ?_
                    refine gq_icmp_eq (tgt := 119) dz_M_ruleBy_112 rfl (fun h112 => ?_) (fun h112 => ?_)
                    · skip
                      refine gw_iinc 6 (c := 1) dz_M_ruleBy_119 rfl rfl (Nat.le_of_ble_eq_true rfl) rfl ?_
                      dsimp only [List.set]
                      refine gq_goto (tgt := 7) dz_M_ruleBy_122 rfl ?_
                      simp only [nI_1]
                      rw [← zs_rt_f (A := zn_B A pick) (t := t) (ab := ab) (set := set) (k := k) (fun z => z.2.2.2 h112)]
                      exact zq_fewer _ (zq_sub_spec (by repeat (first | exact trivial | exact rfl | refine And.intro ?_ ?_))) (ih7 (k + 1) (by omega) (by omega))
                    · skip
                      refine gq_iload dz_M_ruleBy_115 rfl ?_
                      refine gw_istore 5 dz_M_ruleBy_117 (Nat.le_of_ble_eq_true rfl) rfl ?_
                      dsimp only [List.set]
                      refine gw_iinc 6 (c := 1) dz_M_ruleBy_119 rfl rfl (Nat.le_of_ble_eq_true rfl) rfl ?_
                      dsimp only [List.set]
                      refine gq_goto (tgt := 7) dz_M_ruleBy_122 rfl ?_
                      simp only [nI_1]
                      rw [← zs_rt_t (A := zn_B A pick) (t := t) (ab := ab) (set := set) (k := k) ⟨hs, h36, Or.inr (zs_rt_ye he (by omega) h66), h112⟩]
                      exact zq_fewer _ (zq_sub_spec (by repeat (first | exact trivial | exact rfl | refine And.intro ?_ ?_))) (ih7 (k + 1) (by omega) (by omega))
  exact zq_fewer _ (zq_sub_spec (by repeat (first | exact trivial | exact rfl | refine And.intro ?_ ?_))) (L7 (za_m A + 1) 0 (by omega) (by omega))
set_option maxHeartbeats 4000000 in
theorem sp_M_ownerBy {σ : zq_T} {A : za_D} (hA : zn_rep σ A) (hw : za_wf A) (t ab set : Int32) : zq_Sp zm_M_ownerBy 6 [zq_O 30 0, zq_I t, zq_I ab, zq_I set] σ (zq_rv (zq_I (zs_own A t ab set)) σ) := by
  have hn6 := zn_n6 hA
  have hm5 := zn_m5 hA
  refine zq_sp [some (zq_O 30 0), some (zq_I t), some (zq_I ab), some (zq_I set), none] (by decide +kernel) rfl (Nat.le_of_ble_eq_true rfl) (fun ν => ?_)
  refine gq_aload_n dz_M_ownerBy_0 rfl ?_
  refine gq_iload_n dz_M_ownerBy_1 rfl ?_
  refine gq_iload_n dz_M_ownerBy_2 rfl ?_
  refine gq_iload_n dz_M_ownerBy_3 rfl ?_
  refine gq_bipush (v := -4) dz_M_ownerBy_4 rfl ?_
  refine gq_cV (sp_M_ruleBy hA hw t ab set (-4) (Or.inl rfl)) zw_M_ruleBy zl_M_193 dz_M_ownerBy_6 rfl rfl rfl (by decide) rfl rfl (Nat.le_of_ble_eq_true rfl) ?_
  rw [zn_B4]
  refine gw_istore 4 dz_M_ownerBy_9 (Nat.le_of_ble_eq_true rfl) rfl ?_
  dsimp only [List.set]
  refine gq_iload dz_M_ownerBy_11 rfl ?_
  refine gq_bipush (v := -4) dz_M_ownerBy_13 rfl ?_
  refine gq_icmp_ne (tgt := 23) dz_M_ownerBy_15 rfl (fun h15 => ?_) (fun h15 => ?_)
  · skip
    obtain ⟨k, hk, he⟩ := zs_rt_lt h15
    have hk : k < za_m A := hk
    have he : zs_right A t ab set = nI k := he
    rw [he]
    refine gq_aload_n dz_M_ownerBy_23 rfl ?_
    refine gq_iload dz_M_ownerBy_24 rfl ?_
    refine gq_iload_n dz_M_ownerBy_26 rfl ?_
    refine gq_cV (sp_M_gives hA hw hk ab) zw_M_gives zl_M_197 dz_M_ownerBy_27 rfl rfl rfl (by decide) rfl rfl (Nat.le_of_ble_eq_true rfl) ?_
    refine gw_iret .int dz_M_ownerBy_30 rfl (by first | rfl | exact zb_nar _ | exact pk_nc _) ?_ ?_
    · rw [zs_own, he, zs_recvI_nI hk]
    · rfl
  · skip
    refine gq_bipush (v := -4) dz_M_ownerBy_18 rfl ?_
    refine gq_goto (tgt := 30) dz_M_ownerBy_20 rfl ?_
    refine gw_iret .int dz_M_ownerBy_30 rfl (by first | rfl | exact zb_nar _ | exact pk_nc _) ?_ ?_
    · rw [zs_own, h15]; rfl
    · rfl
set_option maxHeartbeats 4000000 in
theorem sp_M_ownerIn {σ : zq_T} {A : za_D} (hA : zn_rep σ A) (hw : za_wf A) (t ab : Int32) : zq_Sp zm_M_ownerIn 7 [zq_O 30 0, zq_I t, zq_I ab] σ (zq_rv (zq_I (zs_own A t ab 31)) σ) := by
  refine zq_sp [some (zq_O 30 0), some (zq_I t), some (zq_I ab)] (by decide +kernel) rfl (Nat.le_of_ble_eq_true rfl) (fun ν => ?_)
  refine gq_aload_n dz_M_ownerIn_0 rfl ?_
  refine gq_iload_n dz_M_ownerIn_1 rfl ?_
  refine gq_iload_n dz_M_ownerIn_2 rfl ?_
  refine gq_bipush (v := 31) dz_M_ownerIn_3 rfl ?_
  refine gq_cV (sp_M_ownerBy hA hw t ab 31) zw_M_ownerBy zl_M_200 dz_M_ownerIn_5 rfl rfl rfl (by decide) rfl rfl (Nat.le_of_ble_eq_true rfl) ?_
  refine gw_iret .int dz_M_ownerIn_8 rfl (by first | rfl | exact zb_nar _ | exact pk_nc _) ?_ ?_
  · rfl
  · rfl
