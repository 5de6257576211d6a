/-! THE MODEL'S LINES: a rule, pure; the draft -/
def zw_c (T : za_T) (r : Int32 × za_K) : Int32 := if zt_clm T r.2 = -4 then 0 else zt_clm T r.2
def zw_lo (c : Int32) : Int32 := if c = 1 then 1 else 0
def zw_r4 (T : za_T) (r : Int32 × za_K) : Int32 × za_K := zw_nx T (if zt_clm T r.2 = -4 then zw_fl 2 r else r)
def zw_r5 (T : za_T) (c : Int32) (r : Int32 × za_K) : Int32 × za_K := zw_nx T (zw_ck (zw_lo c) (zt_most c) 0 r)
def zw_r6 (T : za_T) (r : Int32 × za_K) : Int32 × za_K := zw_nx T (if zw_name T r.2 - 10 < 0 then zw_fl 2 r else r)
theorem zw_r4b {T : za_T} {r : Int32 × za_K} (h : ¬ zw_cd r = 0) : zw_r4 T r = r := by
  unfold zw_r4
  rw [zw_fl1 h, show (if zt_clm T r.2 = -4 then r else r) = r from by split <;> rfl, zw_nx1 h]
theorem zw_r5b {T : za_T} {c : Int32} {r : Int32 × za_K} (h : ¬ zw_cd r = 0) : zw_r5 T c r = r := by rw [zw_r5, zw_ck1 h, zw_nx1 h]
theorem zw_r6b {T : za_T} {r : Int32 × za_K} (h : ¬ zw_cd r = 0) : zw_r6 T r = r := by
  unfold zw_r6
  rw [zw_fl1 h, show (if zw_name T r.2 - 10 < 0 then r else r) = r from by split <;> rfl, zw_nx1 h]
theorem zw_rule4 (T : za_T) (R : za_P) (r t c v : Int32) : zw_pre (zw_r6 T (0, R.1)) (zt_law R.2.1 r t c v (zw_name T R.1 - 10), if c = 4 then R.2.2.1 ||| (1 <<< (v &&& 31)) else R.2.2.1, R.2.2.2) (zt_rule4 T r t c v R) := by
  obtain ⟨p1, p2⟩ := zw_pk_eq T R.1
  unfold zw_r6 zt_rule4
  show zw_pre (zw_nx T (if zw_name T R.1 - 10 < 0 then zw_fl 2 (0, R.1) else (0, R.1))) _ _
  by_cases hx : zw_name T R.1 - 10 < 0
  · rw [if_pos hx, if_pos (p1.mp hx)]
    by_cases h4 : R.1.2.1 = 4
    · have h1 := zw_cd_k h4
      have h0 : ¬ zw_cd (0, R.1) = 0 := by rw [h1]; decide
      rw [zw_fl1 h0, zw_nx1 h0]
      exact zw_pre_bad h0 (by rw [h1]; exact zt_mf1 h4) rfl
    · rw [zw_fl0 (zw_cd_z h4)]
      have h1 : zw_cd (2, R.1) = 2 := zw_cde (by decide)
      have h0 : ¬ zw_cd (2, R.1) = 0 := by rw [h1]; decide
      rw [zw_nx1 h0]
      exact zw_pre_bad h0 (by rw [h1]; exact zt_mf2 h4) rfl
  · have h4 : ¬ R.1.2.1 = 4 := fun z => by
      have h5 : zw_name T R.1 = -4 := zw_nmf_no (by omega) 13 0
      rw [h5] at hx
      exact hx (by decide)
    rw [if_neg hx, if_neg (fun z => hx (p1.mpr z)), zw_nx0 (zw_cd_z h4), p2 hx]
    exact zw_pre_stop (K := R.1)
theorem zt_clm_k {T : za_T} {K : za_K} (h : ¬ zt_clm T K = -4) : K.2.1 = 1 := by
  by_cases z : K.2.1 = 1
  · exact z
  · exfalso
    refine h ((zw_cl_eq T K).symm.trans ?_)
    rw [show zw_name T K = -4 from zw_nmf_no z 13 0]
    rfl
theorem zw_rule2 (T : za_T) (R : za_P) (r t v : Int32) (r4 : Int32 × za_K) (hr4 : r4 = zw_r4 T (0, R.1)) (hv : v = zw_ckv (zw_lo (zw_c T (0, R.1))) (zt_most (zw_c T (0, R.1))) 0 r4) : zw_pre (zw_r6 T (zw_r5 T (zw_c T (0, R.1)) r4)) (zt_law R.2.1 r t (zw_c T (0, R.1)) v (zw_name T (zw_r5 T (zw_c T (0, R.1)) r4).2 - 10), if zw_c T (0, R.1) = 4 then R.2.2.1 ||| (1 <<< (v &&& 31)) else R.2.2.1, R.2.2.2) (zt_rule2 T r t R) := by
  by_cases hc : zt_clm T R.1 = -4
  · have hx : zt_rule2 T r t R = (zt_mf R.1, R) := if_pos hc
    rw [hx]
    have hf : zw_r4 T (0, R.1) = zw_nx T (zw_fl 2 (0, R.1)) := by unfold zw_r4; exact congrArg _ (if_pos hc)
    by_cases h4 : R.1.2.1 = 4
    · have h1 := zw_cd_k h4
      have h0 : ¬ zw_cd (0, R.1) = 0 := by rw [h1]; decide
      rw [hf, zw_fl1 h0, zw_nx1 h0] at hr4
      rw [hr4, zw_r5b h0, zw_r6b h0]
      exact zw_pre_bad h0 (by rw [h1]; exact zt_mf1 h4) rfl
    · have h1 : zw_cd (2, R.1) = 2 := zw_cde (by decide)
      have h0 : ¬ zw_cd (2, R.1) = 0 := by rw [h1]; decide
      rw [hf, zw_fl0 (zw_cd_z h4), zw_nx1 h0] at hr4
      rw [hr4, zw_r5b h0, zw_r6b h0]
      exact zw_pre_bad h0 (by rw [h1]; exact zt_mf2 h4) rfl
  · have h4 : ¬ R.1.2.1 = 4 := by have := zt_clm_k hc; omega
    have hcc : zw_c T (0, R.1) = zt_clm T R.1 := if_neg hc
    have hf : zw_r4 T (0, R.1) = (0, (zt_adv T R).1) := by unfold zw_r4; rw [if_neg (show ¬ zt_clm T (0, R.1).2 = -4 from hc), zw_nx0 (zw_cd_z h4)]; rfl
    rw [hf] at hr4
    rw [hcc] at hv ⊢
    have hlo : zw_lo (zt_clm T R.1) = if zt_clm T R.1 = 1 then 1 else 0 := rfl
    obtain ⟨a1, a2, a3⟩ := zw_num T R (zw_lo (zt_clm T R.1)) (zt_most (zt_clm T R.1)) 0
    have hx : zt_rule2 T r t R = if ¬ (zt_num T (zw_lo (zt_clm T R.1)) (zt_most (zt_clm T R.1)) R).1 = 0 then zt_num T (zw_lo (zt_clm T R.1)) (zt_most (zt_clm T R.1)) R else zt_rule3 T r t (zt_clm T R.1) (zt_adv T R) := if_neg hc
    rw [hx]
    by_cases h1 : (zt_num T (zw_lo (zt_clm T R.1)) (zt_most (zt_clm T R.1)) R).1 = 0
    · obtain ⟨b1, b2⟩ := a3 h1 (zb_bit0 _)
      have h5 : zw_r5 T (zt_clm T R.1) r4 = (0, (zt_adv T (zt_adv T R)).1) := by rw [zw_r5, hr4, b1, zw_nx0 b2]; rfl
      have hv2 : v = (zt_adv T R).1.2.2.2 := by rw [hv, hr4]; exact zw_ckv0 b1 b2
      rw [h5, if_neg (show ¬ ¬ (zt_num T (zw_lo (zt_clm T R.1)) (zt_most (zt_clm T R.1)) R).1 = 0 from fun z => z h1), hv2]
      exact zw_rule4 T (zt_adv T (zt_adv T R)) r t (zt_clm T R.1) (zt_adv T R).1.2.2.2
    · obtain ⟨b1, b2⟩ := a1 h1
      have h0 : ¬ zw_cd (zw_ck (zw_lo (zt_clm T R.1)) (zt_most (zt_clm T R.1)) 0 (0, (zt_adv T R).1)) = 0 := by rw [b1]; exact h1
      rw [zw_r5, hr4, zw_nx1 h0, zw_r6b h0, if_pos h1]
      exact zw_pre_bad h0 b1.symm b2.symm
theorem zw_rule (T : za_T) (P : za_P) (hm : za_m P.2.1 < 5) {v1 v2 v3 c : Int32} {r2 r3 r4 r5 : Int32 × za_K} (hv1 : v1 = zw_ckv 1 9 0 (0, (zt_adv T P).1)) (hr2 : r2 = zw_nx T (zw_ck 1 9 0 (0, (zt_adv T P).1))) (hv2 : v2 = zw_ckv 0 3 0 r2) (hr3 : r3 = zw_nx T (zw_ck 0 3 0 r2)) (hc : c = zw_c T r3) (hr4 : r4 = zw_r4 T r3) (hv3 : v3 = zw_ckv (zw_lo c) (zt_most c) 0 r4) (hr5 : r5 = zw_r5 T c r4) : zw_pre (zw_r6 T r5) (zt_law P.2.1 v1 v2 c v3 (zw_name T r5.2 - 10), if c = 4 then P.2.2.1 ||| (1 <<< (v3 &&& 31)) else P.2.2.1, P.2.2.2) (zt_rule T P) := by
  obtain ⟨a1, a2, a3⟩ := zw_num T P 1 9 0
  by_cases h1 : (zt_num T 1 9 P).1 = 0
  · obtain ⟨b1, b2⟩ := a3 h1 (zb_bit0 _)
    have e1 : v1 = (zt_adv T P).1.2.2.2 := hv1.trans (zw_ckv0 b1 b2)
    rw [b1, zw_nx0 b2] at hr2
    have hr2 : r2 = (0, (zt_adv T (zt_adv T P)).1) := hr2
    have hx : zt_rule T P = zt_ruleA T (zt_adv T P) := by rw [zt_rule, if_neg (fun z => z hm), if_neg (fun z => z h1)]
    rw [hx]
    obtain ⟨c1, c2, c3⟩ := zw_num T (zt_adv T P) 0 3 0
    by_cases h2 : (zt_num T 0 3 (zt_adv T P)).1 = 0
    · obtain ⟨d1, d2⟩ := c3 h2 (zb_bit0 _)
      rw [hr2] at hv2 hr3
      have e2 : v2 = (zt_adv T (zt_adv T P)).1.2.2.2 := hv2.trans (zw_ckv0 d1 d2)
      rw [d1, zw_nx0 d2] at hr3
      have hr3 : r3 = (0, (zt_adv T (zt_adv T (zt_adv T P))).1) := hr3
      have hx2 : zt_ruleA T (zt_adv T P) = zt_rule2 T (zt_adv T P).1.2.2.2 (zt_adv T (zt_adv T P)).1.2.2.2 (zt_adv T (zt_adv T (zt_adv T P))) := by rw [zt_ruleA, if_neg (fun z => z h2), zt_ruleB]
      rw [hx2, hr5, e1, e2]
      rw [hr3] at hc hr4
      rw [hc] at hv3 ⊢
      exact zw_rule2 T (zt_adv T (zt_adv T (zt_adv T P))) _ _ v3 r4 hr4 hv3
    · obtain ⟨d1, d2⟩ := c1 h2
      rw [hr2] at hr3
      have h0 : ¬ zw_cd (zw_ck 0 3 0 (0, (zt_adv T (zt_adv T P)).1)) = 0 := by rw [d1]; exact h2
      rw [zw_nx1 h0] at hr3
      rw [← hr3] at h0 d1 d2
      rw [zw_r4b h0] at hr4
      rw [hr5, hr4, zw_r5b h0, zw_r6b h0, zt_ruleA, if_pos h2]
      exact zw_pre_bad h0 d1.symm d2.symm
  · obtain ⟨b1, b2⟩ := a1 h1
    have h0 : ¬ zw_cd (zw_ck 1 9 0 (0, (zt_adv T P).1)) = 0 := by rw [b1]; exact h1
    rw [zw_nx1 h0] at hr2
    rw [← hr2] at h0 b1 b2
    rw [zw_ck1 h0, zw_nx1 h0] at hr3
    rw [← hr3] at h0 b1 b2
    rw [zw_r4b h0] at hr4
    rw [hr5, hr4, zw_r5b h0, zw_r6b h0, zt_rule, if_neg (show ¬ ¬ za_m P.2.1 < 5 from fun z => z hm), if_pos h1]
    exact zw_pre_bad h0 b1.symm b2.symm
/-- a kind of line whose first token is none -/
theorem zw_line_k {T : za_T} {P : za_P} (h4 : (zt_adv T P).1.2.1 = 4) (hn : za_n P.2.1 < 6) : (zt_one T P).1 = 1 ∧ (zt_one T P).2.1 = (zt_adv T P).1 := by
  rw [zt_one, if_neg (fun z => z hn), if_neg (by omega)]
  refine ⟨?_, rfl⟩
  show (if (zt_adv T P).1.2.1 = 3 then 0 else zt_mf (zt_adv T P).1) = 1
  rw [if_neg (by omega), zt_mf1 h4]
theorem zw_num_k {T : za_T} {P : za_P} {lo hi : Int32} (h4 : (zt_adv T P).1.2.1 = 4) : (zt_num T lo hi P).1 = 1 ∧ (zt_num T lo hi P).2.1 = (zt_adv T P).1 := by
  refine ⟨?_, rfl⟩
  show (if ¬ (zt_adv T P).1.2.1 = 2 then zt_mf (zt_adv T P).1 else _) = 1
  rw [if_pos (by omega), zt_mf1 h4]
theorem zw_nz {x : Int32} (h : x = 1) : ¬ x = 0 := by rw [h]; decide
theorem zw_more_k {T : za_T} {P : za_P} (h4 : (zt_adv T P).1.2.1 = 4) (hm : za_m P.2.1 < 5) : ((zt_fact T P).1 = 1 ∧ (zt_fact T P).2.1 = (zt_adv T P).1) ∧ ((zt_gone T P).1 = 1 ∧ (zt_gone T P).2.1 = (zt_adv T P).1) ∧ ((zt_odds T P).1 = 1 ∧ (zt_odds T P).2.1 = (zt_adv T P).1) ∧ ((zt_rule T P).1 = 1 ∧ (zt_rule T P).2.1 = (zt_adv T P).1) := by
  refine ⟨?_, ?_, ?_, ?_⟩
  · rw [zt_fact, if_pos (zw_nz (zw_num_k h4).1)]; exact zw_num_k h4
  · rw [zt_gone, if_pos (zw_nz (zw_num_k h4).1)]; exact zw_num_k h4
  · rw [zt_odds, if_pos (zw_nz (zw_num_k h4).1)]; exact zw_num_k h4
  · rw [zt_rule, if_neg (fun z => z hm), if_pos (zw_nz (zw_num_k h4).1)]; exact zw_num_k h4
/-- the draft -/
def zw_d (σ : zq_T) (A : za_D) : Prop := (za_n A ≤ 6 ∧ za_m A ≤ 5 ∧ σ.1 30 0 8 = nI (za_n A) ∧ σ.1 30 0 9 = nI (za_m A)) ∧ ((∀ i, i < 6 → σ.1 34 0 i = za_fa A i ∧ σ.1 34 0 (6 + i) = za_tr A i) ∧ σ.1 34 0 12 = za_g A ∧ (∀ f, f < 5 → σ.1 34 0 (13 + f) = za_od A f - 5) ∧ ∀ k, k < za_m A → σ.1 34 0 (18 + k) = za_rk A k ∧ σ.1 34 0 (23 + k) = za_pi A k) ∧ (∀ i, i < za_n A → σ.1 35 0 i = zn_par (za_pa A i)) ∧ ∀ k, k < za_m A → σ.1 36 0 (3 * k) = za_th A k ∧ σ.1 36 0 (3 * k + 1) = za_cl A k ∧ σ.1 36 0 (3 * k + 2) = za_nu A k
def zw_n (σ : zq_T) (N : Int32) : Prop := ∃ hp b : Nat, hp ≤ 6 ∧ σ.1 30 0 11 = nI hp - 1 ∧ N = nI b ∧ b < 2 ^ hp ∧ (hp = 0 ∨ 2 ^ (hp - 1) ≤ b)
def zw_dd (σ : zq_T) (D : za_D × Int32 × Int32) : Prop := zw_d σ D.1 ∧ zw_n σ D.2.1 ∧ σ.1 30 0 10 = D.2.2
def zw_ff (σ τ : zq_T) : Prop := τ.2 = σ.2 ∧ ∀ (t : Nat) (j : Fin 5) (k : Nat), ¬ (t = 30 ∧ ((8 ≤ k ∧ k ≤ 11) ∨ (15 ≤ k ∧ k ≤ 20))) → ¬ (34 ≤ t ∧ t ≤ 36) → τ.1 t j k = σ.1 t j k
theorem zw_ff.rf {σ : zq_T} : zw_ff σ σ := ⟨rfl, fun _ _ _ _ _ => rfl⟩
theorem zw_ff.tr {σ τ υ : zq_T} (h : zw_ff σ τ) (h2 : zw_ff τ υ) : zw_ff σ υ := ⟨h2.1.trans h.1, fun t j k q q2 => (h2.2 t j k q q2).trans (h.2 t j k q q2)⟩
theorem zw_fp.ff {σ τ : zq_T} (h : zw_fp σ τ) : zw_ff σ τ := ⟨h.1, fun t j k q _ => h.2 t j k (by omega)⟩
theorem zw_ff.up {σ τ : zq_T} (h : zw_ff σ τ) {t k : Nat} {j : Fin 5} {v : Int32} (h1 : (t = 30 ∧ ((8 ≤ k ∧ k ≤ 11) ∨ (15 ≤ k ∧ k ≤ 20))) ∨ (34 ≤ t ∧ t ≤ 36)) : zw_ff σ (zq_up τ.1 t j k v, τ.2) :=
  ⟨h.1, fun t' j' k' q1 q2 => by
    show zq_up τ.1 t j k v t' j' k' = σ.1 t' j' k'
    rw [← h.2 t' j' k' q1 q2]
    exact if_neg fun z => by omega⟩
theorem zw_t.ff {σ τ : zq_T} {T : za_T} (h : zw_t σ T) (hs : zw_ff σ τ) : zw_t τ T := ⟨(hs.2 _ _ _ (by omega) (by omega)).trans h.1, fun i hi => (hs.2 _ _ _ (by omega) (by omega)).trans (h.2.1 i hi), h.2.2.keep fun t k _ _ => hs.2 _ _ _ (by omega) (by omega)⟩
theorem zw_d.fp {σ τ : zq_T} {A : za_D} (h : zw_d σ A) (hs : zw_fp σ τ) : zw_d τ A :=
  ⟨⟨h.1.1, h.1.2.1, (hs.2 _ _ _ (by omega)).trans h.1.2.2.1, (hs.2 _ _ _ (by omega)).trans h.1.2.2.2⟩, ⟨fun i hi => ⟨(hs.2 _ _ _ (by omega)).trans (h.2.1.1 i hi).1, (hs.2 _ _ _ (by omega)).trans (h.2.1.1 i hi).2⟩, (hs.2 _ _ _ (by omega)).trans h.2.1.2.1, fun f hf => (hs.2 _ _ _ (by omega)).trans (h.2.1.2.2.1 f hf), fun k hk => ⟨(hs.2 _ _ _ (by omega)).trans (h.2.1.2.2.2 k hk).1, (hs.2 _ _ _ (by omega)).trans (h.2.1.2.2.2 k hk).2⟩⟩, fun i hi => (hs.2 _ _ _ (by omega)).trans (h.2.2.1 i hi), fun k hk => ⟨(hs.2 _ _ _ (by omega)).trans (h.2.2.2 k hk).1, (hs.2 _ _ _ (by omega)).trans (h.2.2.2 k hk).2.1, (hs.2 _ _ _ (by omega)).trans (h.2.2.2 k hk).2.2⟩⟩
theorem zw_n.same {σ τ : zq_T} {N : Int32} (h : zw_n σ N) (he : τ.1 30 0 11 = σ.1 30 0 11) : zw_n τ N := by
  obtain ⟨hp, b, h1, h2, h3⟩ := h
  exact ⟨hp, b, h1, he.trans h2, h3⟩
theorem zw_n.add {σ τ : zq_T} {N : Int32} (h : zw_n σ N) {q : Nat} (hq : q < 6) (he : τ.1 30 0 11 = if σ.1 30 0 11 < nI q then nI q else σ.1 30 0 11) : zw_n τ (N ||| (1 <<< (nI q &&& 31))) := by
  obtain ⟨hp, b, h1, h2, h3, h4, h5⟩ := h
  have hb : b < 64 := Nat.lt_of_lt_of_le h4 (zw_pow h1)
  have hN : N ||| (1 <<< (nI q &&& 31)) = nI (b ||| 2 ^ q) := by rw [h3]; exact zm_or ⟨b, hb⟩ ⟨q, hq⟩
  have hlt : (nI hp - 1 < nI q) ↔ hp ≤ q := by
    rw [Int32.lt_iff_toInt_lt, nI_toInt (by omega)]
    have e : (nI hp - 1).toInt = (hp : Int) - 1 := by
      rcases hp with _ | hp
      · rfl
      · rw [nI_pred, nI_toInt (by omega)]; omega
    rw [e]
    omega
  rw [hN]
  rw [h2] at he
  by_cases hc : hp ≤ q
  · rw [if_pos (hlt.mpr hc)] at he
    have hb2 : b < 2 ^ (q + 1) := Nat.lt_of_lt_of_le h4 (Nat.pow_le_pow_right (by decide) (by omega))
    exact ⟨q + 1, b ||| 2 ^ q, by omega, by rw [nI_pred]; exact he, rfl, zm_orn ⟨q + 1, by omega⟩ ⟨b, hb⟩ ⟨q, hq⟩ (Nat.lt_succ_self q) hb2, Or.inr (by rw [Nat.add_sub_cancel]; exact Nat.right_le_or)⟩
  · rw [if_neg (fun z => hc (hlt.mp z))] at he
    exact ⟨hp, b ||| 2 ^ q, h1, he, rfl, zm_orn ⟨hp, by omega⟩ ⟨b, hb⟩ ⟨q, hq⟩ (by show q < hp; omega) h4, Or.inr (Nat.le_trans (by rcases h5 with h5 | h5; omega; exact h5) Nat.left_le_or)⟩
/-- what a line's reading gives, ahead of its stop -/
def zw_mo (σ : zq_T) (T : za_T) (R : Int32 × za_P) (τ : zq_T) : Prop := zw_ff σ τ ∧ ∃ (r : Int32 × za_K) (D : za_D × Int32 × Int32), zw_r τ T r ∧ (zw_cd r = 0 → zw_dd τ D) ∧ zw_pre r D R
