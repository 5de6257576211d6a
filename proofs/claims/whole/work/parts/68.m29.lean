/-! THE MODEL: lines -/
theorem zw_d.far {σ : zq_T} {A : za_D} (h : zw_d σ A) {t k : Nat} {j : Fin 5} {v : Int32} (ht : (t = 34 ∧ (k = 18 + za_m A ∨ k = 23 + za_m A)) ∨ (t = 36 ∧ 3 * za_m A ≤ k) ∨ (t = 35 ∧ za_n A ≤ k) ∨ (t = 30 ∧ 10 ≤ k)) (hm : t = 34 → za_m A < 5) : zw_d (zq_up σ.1 t j k v, σ.2) A :=
  ⟨⟨h.1.1, h.1.2.1, (zq_upN (by omega)).trans h.1.2.2.1, (zq_upN (by omega)).trans h.1.2.2.2⟩, ⟨fun i hi => ⟨(zq_upN (by omega)).trans (h.2.1.1 i hi).1, (zq_upN (by omega)).trans (h.2.1.1 i hi).2⟩, (zq_upN (by omega)).trans h.2.1.2.1, fun f hf => (zq_upN (by omega)).trans (h.2.1.2.2.1 f hf), fun k hk => ⟨(zq_upN (by omega)).trans (h.2.1.2.2.2 k hk).1, (zq_upN (by omega)).trans (h.2.1.2.2.2 k hk).2⟩⟩, fun i hi => (zq_upN (by omega)).trans (h.2.2.1 i hi), fun k hk => ⟨(zq_upN (by omega)).trans (h.2.2.2 k hk).1, (zq_upN (by omega)).trans (h.2.2.2 k hk).2.1, (zq_upN (by omega)).trans (h.2.2.2 k hk).2.2⟩⟩
theorem zw_updE {f : Nat → Int32} {p : Nat} {v : Int32} : upd f p v p = v := if_pos rfl
theorem zw_updN {f : Nat → Int32} {p q : Nat} {v : Int32} (h : ¬ q = p) : upd f p v q = f q := if_neg h
theorem zw_d.law {σ : zq_T} {A : za_D} (h : zw_d σ A) (hm : za_m A < 5) {r t c v p : Int32} (c1 : σ.1 34 0 (18 + za_m A) = r) (c2 : σ.1 36 0 (3 * za_m A) = t) (c3 : σ.1 36 0 (3 * za_m A + 1) = c) (c4 : σ.1 36 0 (3 * za_m A + 2) = v) (c5 : σ.1 34 0 (23 + za_m A) = p) : zw_d (zq_up σ.1 30 0 9 (nI (za_m A + 1)), σ.2) (zt_law A r t c v p) := by
  refine ⟨⟨h.1.1, hm, (zq_upN (by omega)).trans h.1.2.2.1, zq_upE⟩, ⟨fun i hi => ⟨(zq_upN (by omega)).trans (h.2.1.1 i hi).1, (zq_upN (by omega)).trans (h.2.1.1 i hi).2⟩, (zq_upN (by omega)).trans h.2.1.2.1, fun f hf => (zq_upN (by omega)).trans (h.2.1.2.2.1 f hf), fun k hk => ?_⟩, fun i hi => (zq_upN (by omega)).trans (h.2.2.1 i hi), fun k hk => ?_⟩
  · have hk2 : k < za_m A + 1 := hk
    rcases Nat.lt_or_ge k (za_m A) with z | z
    · exact ⟨(zq_upN (by omega)).trans ((h.2.1.2.2.2 k z).1.trans (zw_updN (by omega)).symm), (zq_upN (by omega)).trans ((h.2.1.2.2.2 k z).2.trans (zw_updN (by omega)).symm)⟩
    · have e : k = za_m A := by omega
      subst e
      exact ⟨(zq_upN (by omega)).trans (c1.trans zw_updE.symm), (zq_upN (by omega)).trans (c5.trans zw_updE.symm)⟩
  · have hk2 : k < za_m A + 1 := hk
    rcases Nat.lt_or_ge k (za_m A) with z | z
    · exact ⟨(zq_upN (by omega)).trans ((h.2.2.2 k z).1.trans (zw_updN (by omega)).symm), (zq_upN (by omega)).trans ((h.2.2.2 k z).2.1.trans (zw_updN (by omega)).symm), (zq_upN (by omega)).trans ((h.2.2.2 k z).2.2.trans (zw_updN (by omega)).symm)⟩
    · have e : k = za_m A := by omega
      subst e
      exact ⟨(zq_upN (by omega)).trans (c2.trans zw_updE.symm), (zq_upN (by omega)).trans (c3.trans zw_updE.symm), (zq_upN (by omega)).trans (c4.trans zw_updE.symm)⟩
theorem zw_d.add {σ : zq_T} {A : za_D} (h : zw_d σ A) (hn : za_n A < 6) {v : Int32} (c : σ.1 35 0 (za_n A) = zn_par v) : zw_d (zq_up σ.1 30 0 8 (nI (za_n A + 1)), σ.2) (zt_add A v) := by
  refine ⟨⟨hn, h.1.2.1, zq_upE, (zq_upN (by omega)).trans h.1.2.2.2⟩, ⟨fun i hi => ⟨(zq_upN (by omega)).trans (h.2.1.1 i hi).1, (zq_upN (by omega)).trans (h.2.1.1 i hi).2⟩, (zq_upN (by omega)).trans h.2.1.2.1, fun f hf => (zq_upN (by omega)).trans (h.2.1.2.2.1 f hf), fun k hk => ⟨(zq_upN (by omega)).trans (h.2.1.2.2.2 k hk).1, (zq_upN (by omega)).trans (h.2.1.2.2.2 k hk).2⟩⟩, fun i hi => ?_, fun k hk => ⟨(zq_upN (by omega)).trans (h.2.2.2 k hk).1, (zq_upN (by omega)).trans (h.2.2.2 k hk).2.1, (zq_upN (by omega)).trans (h.2.2.2 k hk).2.2⟩⟩
  have hi2 : i < za_n A + 1 := hi
  show zq_up σ.1 30 0 8 (nI (za_n A + 1)) 35 0 i = zn_par (upd (za_pa A) (za_n A) v i)
  rcases Nat.lt_or_ge i (za_n A) with z | z
  · rw [zw_updN (by omega)]
    exact (zq_upM (by omega)).trans (h.2.2.1 i z)
  · have e : i = za_n A := by omega
    subst e
    rw [zw_updE]
    exact (zq_upM (by omega)).trans c
theorem zw_d.sf {σ : zq_T} {A : za_D} (h : zw_d σ A) {q : Nat} (hq : q < 6) {v : Int32} : zw_d (zq_up σ.1 34 0 q v, σ.2) (za_sf A (upd (za_fa A) q v)) := by
  refine ⟨⟨h.1.1, h.1.2.1, (zq_upN (by omega)).trans h.1.2.2.1, (zq_upN (by omega)).trans h.1.2.2.2⟩, ⟨fun i hi => ⟨?_, (zq_upN (by omega)).trans (h.2.1.1 i hi).2⟩, (zq_upN (by omega)).trans h.2.1.2.1, fun f hf => (zq_upN (by omega)).trans (h.2.1.2.2.1 f hf), fun k hk => ⟨(zq_upN (by omega)).trans (h.2.1.2.2.2 k hk).1, (zq_upN (by omega)).trans (h.2.1.2.2.2 k hk).2⟩⟩, fun i hi => (zq_upN (by omega)).trans (h.2.2.1 i hi), fun k hk => ⟨(zq_upN (by omega)).trans (h.2.2.2 k hk).1, (zq_upN (by omega)).trans (h.2.2.2 k hk).2.1, (zq_upN (by omega)).trans (h.2.2.2 k hk).2.2⟩⟩
  show zq_up σ.1 34 0 q v 34 0 i = upd (za_fa A) q v i
  by_cases z : i = q
  · rw [z, zw_updE]; exact zq_up_at _ _ _ _ _
  · rw [zw_updN z]; exact (zq_upM (by omega)).trans (h.2.1.1 i hi).1
theorem zw_d.sg {σ : zq_T} {A : za_D} (h : zw_d σ A) {v : Int32} : zw_d (zq_up σ.1 34 0 12 v, σ.2) (za_sg A v) :=
  ⟨⟨h.1.1, h.1.2.1, (zq_upN (by omega)).trans h.1.2.2.1, (zq_upN (by omega)).trans h.1.2.2.2⟩, ⟨fun i hi => ⟨(zq_upN (by omega)).trans (h.2.1.1 i hi).1, (zq_upN (by omega)).trans (h.2.1.1 i hi).2⟩, zq_upE, fun f hf => (zq_upN (by omega)).trans (h.2.1.2.2.1 f hf), fun k hk => ⟨(zq_upN (by omega)).trans (h.2.1.2.2.2 k hk).1, (zq_upN (by omega)).trans (h.2.1.2.2.2 k hk).2⟩⟩, fun i hi => (zq_upN (by omega)).trans (h.2.2.1 i hi), fun k hk => ⟨(zq_upN (by omega)).trans (h.2.2.2 k hk).1, (zq_upN (by omega)).trans (h.2.2.2 k hk).2.1, (zq_upN (by omega)).trans (h.2.2.2 k hk).2.2⟩⟩
theorem zw_d.so {σ : zq_T} {A : za_D} (h : zw_d σ A) {q : Nat} (hq : q < 5) {v : Int32} : zw_d (zq_up σ.1 34 0 (13 + q) (v - 5), σ.2) (za_so A (upd (za_od A) q v)) := by
  refine ⟨⟨h.1.1, h.1.2.1, (zq_upN (by omega)).trans h.1.2.2.1, (zq_upN (by omega)).trans h.1.2.2.2⟩, ⟨fun i hi => ⟨(zq_upN (by omega)).trans (h.2.1.1 i hi).1, (zq_upN (by omega)).trans (h.2.1.1 i hi).2⟩, (zq_upN (by omega)).trans h.2.1.2.1, fun f hf => ?_, fun k hk => ⟨(zq_upN (by omega)).trans (h.2.1.2.2.2 k hk).1, (zq_upN (by omega)).trans (h.2.1.2.2.2 k hk).2⟩⟩, fun i hi => (zq_upN (by omega)).trans (h.2.2.1 i hi), fun k hk => ⟨(zq_upN (by omega)).trans (h.2.2.2 k hk).1, (zq_upN (by omega)).trans (h.2.2.2 k hk).2.1, (zq_upN (by omega)).trans (h.2.2.2 k hk).2.2⟩⟩
  show zq_up σ.1 34 0 (13 + q) (v - 5) 34 0 (13 + f) = upd (za_od A) q v f - 5
  by_cases z : f = q
  · rw [z, zw_updE]; exact zq_up_at _ _ _ _ _
  · rw [zw_updN z]; exact (zq_upM (by omega)).trans (h.2.1.2.2.1 f hf)
theorem zw_ckv_nn {hi sm : Int32} {r : Int32 × za_K} : ¬ zw_ckv 0 hi sm r < 0 := by
  intro h
  unfold zw_ckv at h
  by_cases hc : zw_cd (zw_ck 0 hi sm r) = 0
  · rw [if_pos hc] at h
    unfold zw_ck at hc
    by_cases h1 : zw_cd r = 0
    · rw [if_neg (fun z => z h1)] at hc
      by_cases h2 : r.2.2.1 = 2
      · rw [if_neg (fun z => z h2)] at hc
        by_cases h3 : 0 ≤ r.2.2.2.2 ∧ r.2.2.2.2 ≤ hi
        · exact absurd h (Int32.not_lt.mpr h3.1)
        · rw [if_pos h3] at hc
          exact absurd ((zw_cde (by decide)).symm.trans hc) (by decide)
      · rw [if_pos h2] at hc
        exact absurd ((zw_cde (by decide)).symm.trans hc) (by decide)
    · rw [if_pos h1] at hc
      exact absurd hc h1
  · rw [if_neg hc] at h
    exact absurd h (by decide)
theorem zw_par_ckv {hi sm : Int32} {r : Int32 × za_K} : zn_par (zw_ckv 0 hi sm r) = zw_ckv 0 hi sm r + 1 := if_neg zw_ckv_nn
theorem zw_c_ex (T : za_T) (r : Int32 × za_K) : ∃ q, q < 6 ∧ zw_c T r = nI q := by
  unfold zw_c zt_clm
  cases zt_isW T r.2 5 with
  | true => exact ⟨0, by omega, rfl⟩
  | false =>
    cases zt_isW T r.2 6 with
    | true => exact ⟨1, by omega, rfl⟩
    | false =>
      cases zt_isW T r.2 1 with
      | true => exact ⟨2, by omega, rfl⟩
      | false =>
        cases zt_isW T r.2 7 with
        | true => exact ⟨3, by omega, rfl⟩
        | false =>
          cases zt_isW T r.2 8 with
          | true => exact ⟨4, by omega, rfl⟩
          | false =>
            cases zt_isW T r.2 9 with
            | true => exact ⟨5, by omega, rfl⟩
            | false => exact ⟨0, by omega, rfl⟩
theorem zw_mstf : ∀ q : Fin 6, zn_mst.getD q.val 0 = zt_most (nI q.val) := by decide +kernel
theorem zw_n.rule {σ τ : zq_T} {N c v3 : Int32} {r4 : Int32 × za_K} (h : zw_n σ N) (hv3 : v3 = zw_ckv (zw_lo c) (zt_most c) 0 r4) (he : τ.1 30 0 11 = if c = 4 then (if σ.1 30 0 11 < v3 then v3 else σ.1 30 0 11) else σ.1 30 0 11) : zw_n τ (if c = 4 then N ||| (1 <<< (v3 &&& 31)) else N) := by
  by_cases hc : c = 4
  · rw [if_pos hc] at he ⊢
    have e1 : zw_lo c = 0 := by rw [hc]; rfl
    have e2 : zt_most c = nI 5 := by rw [hc]; rfl
    obtain ⟨q, hq, hqe⟩ := zw_ckv_ex (hi := zt_most c) (sm := 0) (n := 5) (r := r4) e2 (by omega)
    rw [e1, hqe] at hv3
    rw [hv3] at he ⊢
    exact h.add (by omega) he
  · rw [if_neg hc] at he ⊢
    exact h.same he

set_option maxHeartbeats 4000000 in
theorem sp_M_readRule {σ : zq_T} {T : za_T} (hT : zw_t σ T) (hw : zt_wf T) {P : za_P} (hr : zw_r σ T (0, (zt_adv T P).1)) (hc0 : zw_cd (0, (zt_adv T P).1) = 0) (hD : zw_dd σ P.2) (hm5 : za_m P.2.1 < 5) : zq_Sp zm_M_readRule 5 [zq_O 30 0] σ (zq_rx (zw_mo σ T (zt_rule T P))) := by
  obtain ⟨hDd, hDn, hDw⟩ := hD
  have h9 := hDd.1.2.2.2
  refine zq_sp [some (zq_O 30 0), none, none, none] (by decide +kernel) rfl (Nat.le_of_ble_eq_true rfl) (fun ν => ?_)
  refine gq_aload_n dz_M_readRule_0 rfl ?_
  refine gq_getI zf_M_125 rfl rfl dz_M_readRule_1 ?_
  rw [h9]
  refine gw_istore_n 1 dz_M_readRule_4 rfl (Nat.le_of_ble_eq_true rfl) rfl ?_
  dsimp only [List.set]
  refine gq_aload_n dz_M_readRule_5 rfl ?_
  refine gq_getR 34 zf_M_19 rfl rfl dz_M_readRule_6 ?_
  refine gq_bipush (v := 18) dz_M_readRule_9 rfl ?_
  refine gq_iload_n dz_M_readRule_11 rfl ?_
  refine gq_iadd dz_M_readRule_12 ?_
  rw [show (18 : Int32) = nI 18 from rfl, nI_add]
  refine gq_aload_n dz_M_readRule_13 rfl ?_
  refine gq_iconst (v := 1) dz_M_readRule_14 rfl ?_
  refine gq_bipush (v := 9) dz_M_readRule_15 rfl ?_
  refine gq_iconst (v := 0) dz_M_readRule_17 rfl ?_
  refine gq_cVP (sp_M_other hT hw hr 1 9 0) zw_M_other zl_M_110 dz_M_readRule_18 rfl rfl rfl (by decide) rfl rfl (Nat.le_of_ble_eq_true rfl) (fun τ18 hq18 => ?_)
  obtain ⟨v1, hv1⟩ : ∃ v, v = zw_ckv 1 9 0 (0, (zt_adv T P).1) := ⟨_, rfl⟩
  rw [← hv1]
  obtain ⟨r2, hr2⟩ : ∃ v, v = zw_nx T (zw_ck 1 9 0 (0, (zt_adv T P).1)) := ⟨_, rfl⟩
  rw [← hr2] at hq18
  refine gw_iast (18 + za_m P.2.1) (rfl) rfl (rfl) (Nat.le_of_ble_eq_true rfl) (by omega) dz_M_readRule_21 ?_
  obtain ⟨s1, hs1⟩ : ∃ s : zq_T, s = (zq_up τ18.1 34 0 (18 + za_m P.2.1) (v1), τ18.2) := ⟨_, rfl⟩
  rw [← hs1]
  have hXs1 : zw_ff σ s1 := by rw [hs1]; exact (zw_ff.rf.tr hq18.1.p.ff).up (by omega)
  have hTs1 := hT.ff hXs1
  have hRs1 : zw_r s1 T r2 := by rw [hs1]; exact hq18.2.keep (fun k _ _ => zq_upN (by omega))
  have hEs1 : zw_d s1 P.2.1 := by rw [hs1]; exact (hDd.fp hq18.1.p).far (by omega) (fun _ => hm5)
  have cas1 : s1.1 34 0 (18 + za_m P.2.1) = v1 := by rw [hs1]; exact zq_upE
  have h11s1 : s1.1 30 0 11 = σ.1 30 0 11 := by rw [hs1]; exact (zq_upN (by omega)).trans (hq18.1.2 _ _ _ (by omega))
  have h10s1 : s1.1 30 0 10 = P.2.2.2 := by rw [hs1]; exact (zq_upN (by omega)).trans ((hq18.1.p.2 _ _ _ (by omega)).trans hDw)
  refine gq_aload_n dz_M_readRule_22 rfl ?_
  refine gq_getR 36 zf_M_25 rfl rfl dz_M_readRule_23 ?_
  refine gq_iconst (v := 3) dz_M_readRule_26 rfl ?_
  refine gq_iload_n dz_M_readRule_27 rfl ?_
  refine gq_imul dz_M_readRule_28 ?_
  rw [zn_k0]
  refine gq_aload_n dz_M_readRule_29 rfl ?_
  refine gq_iconst (v := 0) dz_M_readRule_30 rfl ?_
  refine gq_iconst (v := 3) dz_M_readRule_31 rfl ?_
  refine gq_iconst (v := 0) dz_M_readRule_32 rfl ?_
  refine gq_cVP (sp_M_other hTs1 hw hRs1 0 3 0) zw_M_other zl_M_110 dz_M_readRule_33 rfl rfl rfl (by decide) rfl rfl (Nat.le_of_ble_eq_true rfl) (fun τ33 hq33 => ?_)
  obtain ⟨v2, hv2⟩ : ∃ v, v = zw_ckv 0 3 0 r2 := ⟨_, rfl⟩
  rw [← hv2]
  obtain ⟨r3, hr3⟩ : ∃ v, v = zw_nx T (zw_ck 0 3 0 r2) := ⟨_, rfl⟩
  rw [← hr3] at hq33
  refine gw_iast (3 * za_m P.2.1) (rfl) rfl (rfl) (Nat.le_of_ble_eq_true rfl) (by omega) dz_M_readRule_36 ?_
  obtain ⟨s2, hs2⟩ : ∃ s : zq_T, s = (zq_up τ33.1 36 0 (3 * za_m P.2.1) (v2), τ33.2) := ⟨_, rfl⟩
  rw [← hs2]
  have hXs2 : zw_ff σ s2 := by rw [hs2]; exact (hXs1.tr hq33.1.p.ff).up (by omega)
  have hTs2 := hT.ff hXs2
  have hRs2 : zw_r s2 T r3 := by rw [hs2]; exact hq33.2.keep (fun k _ _ => zq_upN (by omega))
  have hEs2 : zw_d s2 P.2.1 := by rw [hs2]; exact (hEs1.fp hq33.1.p).far (by omega) (fun _ => hm5)
  have cas2 : s2.1 34 0 (18 + za_m P.2.1) = v1 := by rw [hs2]; exact (zq_upN (by omega)).trans ((hq33.1.p.2 _ _ _ (by omega)).trans cas1)
  have cbs2 : s2.1 36 0 (3 * za_m P.2.1) = v2 := by rw [hs2]; exact zq_upE
  have h11s2 : s2.1 30 0 11 = σ.1 30 0 11 := by rw [hs2]; exact (zq_upN (by omega)).trans ((hq33.1.2 _ _ _ (by omega)).trans h11s1)
  have h10s2 : s2.1 30 0 10 = P.2.2.2 := by rw [hs2]; exact (zq_upN (by omega)).trans ((hq33.1.p.2 _ _ _ (by omega)).trans h10s1)
  refine gq_aload_n dz_M_readRule_37 rfl ?_
  refine gq_cVP (sp_M_claimHere hTs2 hw hRs2) zw_M_claimHere zl_M_128 dz_M_readRule_38 rfl rfl rfl (by decide) rfl rfl (Nat.le_of_ble_eq_true rfl) (fun τ38 hq38 => ?_)
  obtain ⟨c, hc⟩ : ∃ v, v = zw_c T r3 := ⟨_, rfl⟩
  rw [show (if zt_clm T r3.2 = -4 then 0 else zt_clm T r3.2) = c from hc.symm]
  obtain ⟨r4, hr4⟩ : ∃ v, v = zw_r4 T r3 := ⟨_, rfl⟩
  have hq38b : zw_r τ38 T r4 := by rw [hr4]; exact hq38.2
  obtain ⟨q, hq, hce⟩ : ∃ q, q < 6 ∧ c = nI q := by rw [hc]; exact zw_c_ex T r3
  refine gw_istore_n 2 dz_M_readRule_41 rfl (Nat.le_of_ble_eq_true rfl) rfl ?_
  dsimp only [List.set]
  refine gq_aload_n dz_M_readRule_42 rfl ?_
  refine gq_getR 36 zf_M_25 rfl rfl dz_M_readRule_43 ?_
  refine gq_iconst (v := 3) dz_M_readRule_46 rfl ?_
  refine gq_iload_n dz_M_readRule_47 rfl ?_
  refine gq_imul dz_M_readRule_48 ?_
  rw [zn_k0]
  refine gq_iconst (v := 1) dz_M_readRule_49 rfl ?_
  refine gq_iadd dz_M_readRule_50 ?_
  rw [nI_1]
  refine gq_iload_n dz_M_readRule_51 rfl ?_
  refine gw_iast (3 * za_m P.2.1 + 1) (rfl) rfl (rfl) (Nat.le_of_ble_eq_true rfl) (by omega) dz_M_readRule_52 ?_
  obtain ⟨s3, hs3⟩ : ∃ s : zq_T, s = (zq_up τ38.1 36 0 (3 * za_m P.2.1 + 1) (c), τ38.2) := ⟨_, rfl⟩
  rw [← hs3]
  have hXs3 : zw_ff σ s3 := by rw [hs3]; exact (hXs2.tr hq38.1.p.ff).up (by omega)
  have hTs3 := hT.ff hXs3
  have hRs3 : zw_r s3 T r4 := by rw [hs3]; exact hq38b.keep (fun k _ _ => zq_upN (by omega))
  have hEs3 : zw_d s3 P.2.1 := by rw [hs3]; exact (hEs2.fp hq38.1.p).far (by omega) (fun _ => hm5)
  have cas3 : s3.1 34 0 (18 + za_m P.2.1) = v1 := by rw [hs3]; exact (zq_upN (by omega)).trans ((hq38.1.p.2 _ _ _ (by omega)).trans cas2)
  have cbs3 : s3.1 36 0 (3 * za_m P.2.1) = v2 := by rw [hs3]; exact (zq_upN (by omega)).trans ((hq38.1.p.2 _ _ _ (by omega)).trans cbs2)
  have ccs3 : s3.1 36 0 (3 * za_m P.2.1 + 1) = c := by rw [hs3]; exact zq_upE
  have h11s3 : s3.1 30 0 11 = σ.1 30 0 11 := by rw [hs3]; exact (zq_upN (by omega)).trans ((hq38.1.2 _ _ _ (by omega)).trans h11s2)
  have h10s3 : s3.1 30 0 10 = P.2.2.2 := by rw [hs3]; exact (zq_upN (by omega)).trans ((hq38.1.p.2 _ _ _ (by omega)).trans h10s2)
  refine gq_aload_n dz_M_readRule_53 rfl ?_
  refine gq_getR 36 zf_M_25 rfl rfl dz_M_readRule_54 ?_
  refine gq_iconst (v := 3) dz_M_readRule_57 rfl ?_
  refine gq_iload_n dz_M_readRule_58 rfl ?_
  refine gq_imul dz_M_readRule_59 ?_
  rw [zn_k0]
  refine gq_iconst (v := 2) dz_M_readRule_60 rfl ?_
  refine gq_iadd dz_M_readRule_61 ?_
  rw [show (2 : Int32) = nI 2 from rfl, nI_add]
  refine gq_iload_n dz_M_readRule_62 rfl ?_
  refine gq_iconst (v := 4) dz_M_readRule_63 rfl ?_
  refine gq_icmp_ne (tgt := 75) dz_M_readRule_64 rfl (fun h64 => ?_) (fun h64 => ?_)
  · skip
    refine gq_aload_n dz_M_readRule_75 rfl ?_
    refine gq_iload_n dz_M_readRule_76 rfl ?_
    refine gq_iconst (v := 1) dz_M_readRule_77 rfl ?_
    refine gq_icmp_ne (tgt := 85) dz_M_readRule_78 rfl (fun h78 => ?_) (fun h78 => ?_)
    · skip
      have hlo : (0 : Int32) = zw_lo c := (if_neg h78).symm
      have hvl : ∀ h s r, zw_ckv 0 h s r = zw_ckv (zw_lo c) h s r := fun h s r => by rw [← hlo]
      refine gq_iconst (v := 0) dz_M_readRule_85 rfl ?_
      refine gq_aload_n dz_M_readRule_86 rfl ?_
      refine gq_getR 40 zf_M_37 rfl rfl dz_M_readRule_87 ?_
      refine gq_iload_n dz_M_readRule_90 rfl ?_
      refine gw_iald (q) (hce) rfl (rfl) (Nat.le_of_ble_eq_true rfl) (by omega) dz_M_readRule_91 ?_
      rw [hTs3.2.2.2.2 q (by omega)]
      rw [show zn_mst.getD q 0 = zt_most c from by rw [hce]; exact zw_mstf ⟨q, hq⟩]
      refine gq_iconst (v := 0) dz_M_readRule_92 rfl ?_
      refine gq_cVP (sp_M_other hTs3 hw hRs3 0 (zt_most c) 0) zw_M_other zl_M_110 dz_M_readRule_93 rfl rfl rfl (by decide) rfl rfl (Nat.le_of_ble_eq_true rfl) (fun τ93 hq93 => ?_)
      rw [hvl]
      obtain ⟨v3, hv3⟩ : ∃ v, v = zw_ckv (zw_lo c) (zt_most c) 0 r4 := ⟨_, rfl⟩
      rw [← hv3]
      obtain ⟨r5, hr5⟩ : ∃ v, v = zw_r5 T c r4 := ⟨_, rfl⟩
      have hRd : zw_r τ93 T r5 := by rw [hr5, zw_r5, ← hlo]; exact hq93.2
      have hFd := hq93.1.p
      have hHd : τ93.1 30 0 11 = if c = 4 then (if σ.1 30 0 11 < v3 then v3 else σ.1 30 0 11) else σ.1 30 0 11 := by rw [if_neg h64, ← h11s3]; exact hq93.1.2 _ _ _ (by omega)
      rename zq_T => τd
      refine gw_iast (3 * za_m P.2.1 + 2) (rfl) rfl (rfl) (Nat.le_of_ble_eq_true rfl) (by omega) dz_M_readRule_96 ?_
      obtain ⟨s4, hs4⟩ : ∃ s : zq_T, s = (zq_up τd.1 36 0 (3 * za_m P.2.1 + 2) (v3), τd.2) := ⟨_, rfl⟩
      rw [← hs4]
      have hXs4 : zw_ff σ s4 := by rw [hs4]; exact (hXs3.tr hFd.ff).up (by omega)
      have hTs4 := hT.ff hXs4
      have hRs4 : zw_r s4 T r5 := by rw [hs4]; exact hRd.keep (fun k _ _ => zq_upN (by omega))
      have hEs4 : zw_d s4 P.2.1 := by rw [hs4]; exact (hEs3.fp hFd).far (by omega) (fun _ => hm5)
      have cas4 : s4.1 34 0 (18 + za_m P.2.1) = v1 := by rw [hs4]; exact (zq_upN (by omega)).trans ((hFd.2 _ _ _ (by omega)).trans cas3)
      have cbs4 : s4.1 36 0 (3 * za_m P.2.1) = v2 := by rw [hs4]; exact (zq_upN (by omega)).trans ((hFd.2 _ _ _ (by omega)).trans cbs3)
      have ccs4 : s4.1 36 0 (3 * za_m P.2.1 + 1) = c := by rw [hs4]; exact (zq_upN (by omega)).trans ((hFd.2 _ _ _ (by omega)).trans ccs3)
      have ces4 : s4.1 36 0 (3 * za_m P.2.1 + 2) = v3 := by rw [hs4]; exact zq_upE
      have h11s4 : s4.1 30 0 11 = if c = 4 then (if σ.1 30 0 11 < v3 then v3 else σ.1 30 0 11) else σ.1 30 0 11 := by rw [hs4]; exact (zq_upN (by omega)).trans (hHd)
      have h10s4 : s4.1 30 0 10 = P.2.2.2 := by rw [hs4]; exact (zq_upN (by omega)).trans ((hFd.2 _ _ _ (by omega)).trans h10s3)
      refine gq_aload_n dz_M_readRule_97 rfl ?_
      refine gq_cV (sp_M_nameHere hTs4 hw hRs4) zw_M_nameHere zl_M_117 dz_M_readRule_98 rfl rfl rfl (by decide) rfl rfl (Nat.le_of_ble_eq_true rfl) ?_
      refine gq_bipush (v := 10) dz_M_readRule_101 rfl ?_
      refine gq_isub dz_M_readRule_103 ?_
      refine gw_istore_n 3 dz_M_readRule_104 rfl (Nat.le_of_ble_eq_true rfl) rfl ?_
      dsimp only [List.set]
      refine gq_aload_n dz_M_readRule_105 rfl ?_
      refine gq_getI zf_M_73 rfl rfl dz_M_readRule_106 ?_
      rw [hRs4.2.2.1]
      refine gq_if_ne (tgt := 121) dz_M_readRule_109 rfl (fun h109 => ?_) (fun h109 => ?_)
      · skip
        have h6 : (if zw_name T r5.2 - 10 < 0 then zw_fl 2 r5 else r5) = r5 := by rw [zw_fl1 h109]; split <;> rfl
        obtain ⟨s5, hs5⟩ : ∃ s : zq_T, s = s4 := ⟨_, rfl⟩
        rw [← hs5]
        have hF5 : zw_fs s4 s5 := by rw [hs5]; exact zw_fs.rf
        have hR5 : zw_r s5 T (if zw_name T r5.2 - 10 < 0 then zw_fl 2 r5 else r5) := by rw [h6, hs5]; exact hRs4
        refine gq_aload_n dz_M_readRule_121 rfl ?_
        refine gq_getR 34 zf_M_19 rfl rfl dz_M_readRule_122 ?_
        refine gq_bipush (v := 23) dz_M_readRule_125 rfl ?_
        refine gq_iload_n dz_M_readRule_127 rfl ?_
        refine gq_iadd dz_M_readRule_128 ?_
        rw [show (23 : Int32) = nI 23 from rfl, nI_add]
        refine gq_iload_n dz_M_readRule_129 rfl ?_
        refine gw_iast (23 + za_m P.2.1) (rfl) rfl (rfl) (Nat.le_of_ble_eq_true rfl) (by omega) dz_M_readRule_130 ?_
        obtain ⟨s6, hs6⟩ : ∃ s : zq_T, s = (zq_up s5.1 34 0 (23 + za_m P.2.1) (zw_name T r5.2 - 10), s5.2) := ⟨_, rfl⟩
        rw [← hs6]
        have hXs6 : zw_ff σ s6 := by rw [hs6]; exact (hXs4.tr hF5.p.ff).up (by omega)
        have hTs6 := hT.ff hXs6
        have hRs6 : zw_r s6 T (if zw_name T r5.2 - 10 < 0 then zw_fl 2 r5 else r5) := by rw [hs6]; exact hR5.keep (fun k _ _ => zq_upN (by omega))
        have hEs6 : zw_d s6 P.2.1 := by rw [hs6]; exact (hEs4.fp hF5.p).far (by omega) (fun _ => hm5)
        have cas6 : s6.1 34 0 (18 + za_m P.2.1) = v1 := by rw [hs6]; exact (zq_upN (by omega)).trans ((hF5.p.2 _ _ _ (by omega)).trans cas4)
        have cbs6 : s6.1 36 0 (3 * za_m P.2.1) = v2 := by rw [hs6]; exact (zq_upN (by omega)).trans ((hF5.p.2 _ _ _ (by omega)).trans cbs4)
        have ccs6 : s6.1 36 0 (3 * za_m P.2.1 + 1) = c := by rw [hs6]; exact (zq_upN (by omega)).trans ((hF5.p.2 _ _ _ (by omega)).trans ccs4)
        have ces6 : s6.1 36 0 (3 * za_m P.2.1 + 2) = v3 := by rw [hs6]; exact (zq_upN (by omega)).trans ((hF5.p.2 _ _ _ (by omega)).trans ces4)
        have cfs6 : s6.1 34 0 (23 + za_m P.2.1) = zw_name T r5.2 - 10 := by rw [hs6]; exact zq_upE
        have h11s6 : s6.1 30 0 11 = if c = 4 then (if σ.1 30 0 11 < v3 then v3 else σ.1 30 0 11) else σ.1 30 0 11 := by rw [hs6]; exact (zq_upN (by omega)).trans ((hF5.2 _ _ _ (by omega)).trans h11s4)
        have h10s6 : s6.1 30 0 10 = P.2.2.2 := by rw [hs6]; exact (zq_upN (by omega)).trans ((hF5.p.2 _ _ _ (by omega)).trans h10s4)
        refine gq_aload_n dz_M_readRule_131 rfl ?_
        refine gq_cVX (sp_M_step hTs6 hw hRs6) zw_M_step zl_M_107 dz_M_readRule_132 rfl rfl rfl (by decide) rfl rfl (Nat.le_of_ble_eq_true rfl) (fun τ132 hq132 => ?_)
        refine gq_aload_n dz_M_readRule_135 rfl ?_
        refine gq_dup dz_M_readRule_136 rfl ?_
        refine gq_getI zf_M_125 rfl rfl dz_M_readRule_137 ?_
        rw [(hq132.1.2 30 0 9 (by omega)).trans hEs6.1.2.2.2]
        refine gq_iconst (v := 1) dz_M_readRule_140 rfl ?_
        refine gq_iadd dz_M_readRule_141 ?_
        rw [nI_1]
        refine gq_putI zv_M_125 rfl rfl dz_M_readRule_142 ?_
        refine gw_vretP dz_M_readRule_145 rfl ?_
        · exact ⟨(hXs6.tr hq132.1.p.ff).up (by omega), zw_r6 T r5, (zt_law P.2.1 v1 v2 c v3 (zw_name T r5.2 - 10), if c = 4 then P.2.2.1 ||| (1 <<< (v3 &&& 31)) else P.2.2.1, P.2.2.2), hq132.2.keep (fun k _ _ => zq_upN (by omega)), fun _ => ⟨(hEs6.fp hq132.1.p).law hm5 ((hq132.1.2 _ _ _ (by omega)).trans cas6) ((hq132.1.2 _ _ _ (by omega)).trans cbs6) ((hq132.1.2 _ _ _ (by omega)).trans ccs6) ((hq132.1.2 _ _ _ (by omega)).trans ces6) ((hq132.1.2 _ _ _ (by omega)).trans cfs6), hDn.rule hv3 ((zq_upN (by omega)).trans ((hq132.1.2 _ _ _ (by omega)).trans h11s6)), (zq_upN (by omega)).trans ((hq132.1.2 _ _ _ (by omega)).trans h10s6)⟩, zw_rule T P hm5 hv1 hr2 hv2 hr3 hc hr4 hv3 hr5⟩
      · skip
        refine gq_iload_n dz_M_readRule_112 rfl ?_
        refine gq_if_ge (tgt := 121) dz_M_readRule_113 rfl (fun h113 => ?_) (fun h113 => ?_)
        · skip
          have h6 : (if zw_name T r5.2 - 10 < 0 then zw_fl 2 r5 else r5) = r5 := if_neg (Int32.not_lt.mpr h113)
          obtain ⟨s5, hs5⟩ : ∃ s : zq_T, s = s4 := ⟨_, rfl⟩
          rw [← hs5]
          have hF5 : zw_fs s4 s5 := by rw [hs5]; exact zw_fs.rf
          have hR5 : zw_r s5 T (if zw_name T r5.2 - 10 < 0 then zw_fl 2 r5 else r5) := by rw [h6, hs5]; exact hRs4
          refine gq_aload_n dz_M_readRule_121 rfl ?_
          refine gq_getR 34 zf_M_19 rfl rfl dz_M_readRule_122 ?_
          refine gq_bipush (v := 23) dz_M_readRule_125 rfl ?_
          refine gq_iload_n dz_M_readRule_127 rfl ?_
          refine gq_iadd dz_M_readRule_128 ?_
          rw [show (23 : Int32) = nI 23 from rfl, nI_add]
          refine gq_iload_n dz_M_readRule_129 rfl ?_
          refine gw_iast (23 + za_m P.2.1) (rfl) rfl (rfl) (Nat.le_of_ble_eq_true rfl) (by omega) dz_M_readRule_130 ?_
          obtain ⟨s6, hs6⟩ : ∃ s : zq_T, s = (zq_up s5.1 34 0 (23 + za_m P.2.1) (zw_name T r5.2 - 10), s5.2) := ⟨_, rfl⟩
          rw [← hs6]
          have hXs6 : zw_ff σ s6 := by rw [hs6]; exact (hXs4.tr hF5.p.ff).up (by omega)
          have hTs6 := hT.ff hXs6
          have hRs6 : zw_r s6 T (if zw_name T r5.2 - 10 < 0 then zw_fl 2 r5 else r5) := by rw [hs6]; exact hR5.keep (fun k _ _ => zq_upN (by omega))
          have hEs6 : zw_d s6 P.2.1 := by rw [hs6]; exact (hEs4.fp hF5.p).far (by omega) (fun _ => hm5)
          have cas6 : s6.1 34 0 (18 + za_m P.2.1) = v1 := by rw [hs6]; exact (zq_upN (by omega)).trans ((hF5.p.2 _ _ _ (by omega)).trans cas4)
          have cbs6 : s6.1 36 0 (3 * za_m P.2.1) = v2 := by rw [hs6]; exact (zq_upN (by omega)).trans ((hF5.p.2 _ _ _ (by omega)).trans cbs4)
          have ccs6 : s6.1 36 0 (3 * za_m P.2.1 + 1) = c := by rw [hs6]; exact (zq_upN (by omega)).trans ((hF5.p.2 _ _ _ (by omega)).trans ccs4)
          have ces6 : s6.1 36 0 (3 * za_m P.2.1 + 2) = v3 := by rw [hs6]; exact (zq_upN (by omega)).trans ((hF5.p.2 _ _ _ (by omega)).trans ces4)
          have cfs6 : s6.1 34 0 (23 + za_m P.2.1) = zw_name T r5.2 - 10 := by rw [hs6]; exact zq_upE
          have h11s6 : s6.1 30 0 11 = if c = 4 then (if σ.1 30 0 11 < v3 then v3 else σ.1 30 0 11) else σ.1 30 0 11 := by rw [hs6]; exact (zq_upN (by omega)).trans ((hF5.2 _ _ _ (by omega)).trans h11s4)
          have h10s6 : s6.1 30 0 10 = P.2.2.2 := by rw [hs6]; exact (zq_upN (by omega)).trans ((hF5.p.2 _ _ _ (by omega)).trans h10s4)
          refine gq_aload_n dz_M_readRule_131 rfl ?_
          refine gq_cVX (sp_M_step hTs6 hw hRs6) zw_M_step zl_M_107 dz_M_readRule_132 rfl rfl rfl (by decide) rfl rfl (Nat.le_of_ble_eq_true rfl) (fun τ132 hq132 => ?_)
          refine gq_aload_n dz_M_readRule_135 rfl ?_
          refine gq_dup dz_M_readRule_136 rfl ?_
          refine gq_getI zf_M_125 rfl rfl dz_M_readRule_137 ?_
          rw [(hq132.1.2 30 0 9 (by omega)).trans hEs6.1.2.2.2]
          refine gq_iconst (v := 1) dz_M_readRule_140 rfl ?_
          refine gq_iadd dz_M_readRule_141 ?_
          rw [nI_1]
          refine gq_putI zv_M_125 rfl rfl dz_M_readRule_142 ?_
          refine gw_vretP dz_M_readRule_145 rfl ?_
          · exact ⟨(hXs6.tr hq132.1.p.ff).up (by omega), zw_r6 T r5, (zt_law P.2.1 v1 v2 c v3 (zw_name T r5.2 - 10), if c = 4 then P.2.2.1 ||| (1 <<< (v3 &&& 31)) else P.2.2.1, P.2.2.2), hq132.2.keep (fun k _ _ => zq_upN (by omega)), fun _ => ⟨(hEs6.fp hq132.1.p).law hm5 ((hq132.1.2 _ _ _ (by omega)).trans cas6) ((hq132.1.2 _ _ _ (by omega)).trans cbs6) ((hq132.1.2 _ _ _ (by omega)).trans ccs6) ((hq132.1.2 _ _ _ (by omega)).trans ces6) ((hq132.1.2 _ _ _ (by omega)).trans cfs6), hDn.rule hv3 ((zq_upN (by omega)).trans ((hq132.1.2 _ _ _ (by omega)).trans h11s6)), (zq_upN (by omega)).trans ((hq132.1.2 _ _ _ (by omega)).trans h10s6)⟩, zw_rule T P hm5 hv1 hr2 hv2 hr3 hc hr4 hv3 hr5⟩
        · skip
          have h6 : (if zw_name T r5.2 - 10 < 0 then zw_fl 2 r5 else r5) = zw_fl 2 r5 := if_pos (Int32.not_le.mp h113)
          refine gq_aload_n dz_M_readRule_116 rfl ?_
          refine gq_iconst (v := 2) dz_M_readRule_117 rfl ?_
          refine gq_cVX (sp_M_fails 2) zw_M_fails zl_M_103 dz_M_readRule_118 rfl rfl rfl (by decide) rfl rfl (Nat.le_of_ble_eq_true rfl) (fun τ118 hq118 => ?_)
          have hf118 := hRs4.fl (n := 2) (by omega) (by omega) hq118
          have hF5 : zw_fs s4 τ118 := hf118.1
          have hR5 : zw_r τ118 T (if zw_name T r5.2 - 10 < 0 then zw_fl 2 r5 else r5) := by rw [h6]; exact hf118.2
          rename zq_T => s5
          refine gq_aload_n dz_M_readRule_121 rfl ?_
          refine gq_getR 34 zf_M_19 rfl rfl dz_M_readRule_122 ?_
          refine gq_bipush (v := 23) dz_M_readRule_125 rfl ?_
          refine gq_iload_n dz_M_readRule_127 rfl ?_
          refine gq_iadd dz_M_readRule_128 ?_
          rw [show (23 : Int32) = nI 23 from rfl, nI_add]
          refine gq_iload_n dz_M_readRule_129 rfl ?_
          refine gw_iast (23 + za_m P.2.1) (rfl) rfl (rfl) (Nat.le_of_ble_eq_true rfl) (by omega) dz_M_readRule_130 ?_
          obtain ⟨s6, hs6⟩ : ∃ s : zq_T, s = (zq_up s5.1 34 0 (23 + za_m P.2.1) (zw_name T r5.2 - 10), s5.2) := ⟨_, rfl⟩
          rw [← hs6]
          have hXs6 : zw_ff σ s6 := by rw [hs6]; exact (hXs4.tr hF5.p.ff).up (by omega)
          have hTs6 := hT.ff hXs6
          have hRs6 : zw_r s6 T (if zw_name T r5.2 - 10 < 0 then zw_fl 2 r5 else r5) := by rw [hs6]; exact hR5.keep (fun k _ _ => zq_upN (by omega))
          have hEs6 : zw_d s6 P.2.1 := by rw [hs6]; exact (hEs4.fp hF5.p).far (by omega) (fun _ => hm5)
          have cas6 : s6.1 34 0 (18 + za_m P.2.1) = v1 := by rw [hs6]; exact (zq_upN (by omega)).trans ((hF5.p.2 _ _ _ (by omega)).trans cas4)
          have cbs6 : s6.1 36 0 (3 * za_m P.2.1) = v2 := by rw [hs6]; exact (zq_upN (by omega)).trans ((hF5.p.2 _ _ _ (by omega)).trans cbs4)
          have ccs6 : s6.1 36 0 (3 * za_m P.2.1 + 1) = c := by rw [hs6]; exact (zq_upN (by omega)).trans ((hF5.p.2 _ _ _ (by omega)).trans ccs4)
          have ces6 : s6.1 36 0 (3 * za_m P.2.1 + 2) = v3 := by rw [hs6]; exact (zq_upN (by omega)).trans ((hF5.p.2 _ _ _ (by omega)).trans ces4)
          have cfs6 : s6.1 34 0 (23 + za_m P.2.1) = zw_name T r5.2 - 10 := by rw [hs6]; exact zq_upE
          have h11s6 : s6.1 30 0 11 = if c = 4 then (if σ.1 30 0 11 < v3 then v3 else σ.1 30 0 11) else σ.1 30 0 11 := by rw [hs6]; exact (zq_upN (by omega)).trans ((hF5.2 _ _ _ (by omega)).trans h11s4)
          have h10s6 : s6.1 30 0 10 = P.2.2.2 := by rw [hs6]; exact (zq_upN (by omega)).trans ((hF5.p.2 _ _ _ (by omega)).trans h10s4)
          refine gq_aload_n dz_M_readRule_131 rfl ?_
          refine gq_cVX (sp_M_step hTs6 hw hRs6) zw_M_step zl_M_107 dz_M_readRule_132 rfl rfl rfl (by decide) rfl rfl (Nat.le_of_ble_eq_true rfl) (fun τ132 hq132 => ?_)
          refine gq_aload_n dz_M_readRule_135 rfl ?_
          refine gq_dup dz_M_readRule_136 rfl ?_
          refine gq_getI zf_M_125 rfl rfl dz_M_readRule_137 ?_
          rw [(hq132.1.2 30 0 9 (by omega)).trans hEs6.1.2.2.2]
          refine gq_iconst (v := 1) dz_M_readRule_140 rfl ?_
          refine gq_iadd dz_M_readRule_141 ?_
          rw [nI_1]
          refine gq_putI zv_M_125 rfl rfl dz_M_readRule_142 ?_
          refine gw_vretP dz_M_readRule_145 rfl ?_
          · exact ⟨(hXs6.tr hq132.1.p.ff).up (by omega), zw_r6 T r5, (zt_law P.2.1 v1 v2 c v3 (zw_name T r5.2 - 10), if c = 4 then P.2.2.1 ||| (1 <<< (v3 &&& 31)) else P.2.2.1, P.2.2.2), hq132.2.keep (fun k _ _ => zq_upN (by omega)), fun _ => ⟨(hEs6.fp hq132.1.p).law hm5 ((hq132.1.2 _ _ _ (by omega)).trans cas6) ((hq132.1.2 _ _ _ (by omega)).trans cbs6) ((hq132.1.2 _ _ _ (by omega)).trans ccs6) ((hq132.1.2 _ _ _ (by omega)).trans ces6) ((hq132.1.2 _ _ _ (by omega)).trans cfs6), hDn.rule hv3 ((zq_upN (by omega)).trans ((hq132.1.2 _ _ _ (by omega)).trans h11s6)), (zq_upN (by omega)).trans ((hq132.1.2 _ _ _ (by omega)).trans h10s6)⟩, zw_rule T P hm5 hv1 hr2 hv2 hr3 hc hr4 hv3 hr5⟩
    · skip
      have hlo : (1 : Int32) = zw_lo c := (if_pos h78).symm
      have hvl : ∀ h s r, zw_ckv 1 h s r = zw_ckv (zw_lo c) h s r := fun h s r => by rw [← hlo]
      refine gq_iconst (v := 1) dz_M_readRule_81 rfl ?_
      refine gq_goto (tgt := 86) dz_M_readRule_82 rfl ?_
      refine gq_aload_n dz_M_readRule_86 rfl ?_
      refine gq_getR 40 zf_M_37 rfl rfl dz_M_readRule_87 ?_
      refine gq_iload_n dz_M_readRule_90 rfl ?_
      refine gw_iald (q) (hce) rfl (rfl) (Nat.le_of_ble_eq_true rfl) (by omega) dz_M_readRule_91 ?_
      rw [hTs3.2.2.2.2 q (by omega)]
      rw [show zn_mst.getD q 0 = zt_most c from by rw [hce]; exact zw_mstf ⟨q, hq⟩]
      refine gq_iconst (v := 0) dz_M_readRule_92 rfl ?_
      refine gq_cVP (sp_M_other hTs3 hw hRs3 1 (zt_most c) 0) zw_M_other zl_M_110 dz_M_readRule_93 rfl rfl rfl (by decide) rfl rfl (Nat.le_of_ble_eq_true rfl) (fun τ93 hq93 => ?_)
      rw [hvl]
      obtain ⟨v3, hv3⟩ : ∃ v, v = zw_ckv (zw_lo c) (zt_most c) 0 r4 := ⟨_, rfl⟩
      rw [← hv3]
      obtain ⟨r5, hr5⟩ : ∃ v, v = zw_r5 T c r4 := ⟨_, rfl⟩
      have hRd : zw_r τ93 T r5 := by rw [hr5, zw_r5, ← hlo]; exact hq93.2
      have hFd := hq93.1.p
      have hHd : τ93.1 30 0 11 = if c = 4 then (if σ.1 30 0 11 < v3 then v3 else σ.1 30 0 11) else σ.1 30 0 11 := by rw [if_neg h64, ← h11s3]; exact hq93.1.2 _ _ _ (by omega)
      rename zq_T => τd
      refine gw_iast (3 * za_m P.2.1 + 2) (rfl) rfl (rfl) (Nat.le_of_ble_eq_true rfl) (by omega) dz_M_readRule_96 ?_
      obtain ⟨s4, hs4⟩ : ∃ s : zq_T, s = (zq_up τd.1 36 0 (3 * za_m P.2.1 + 2) (v3), τd.2) := ⟨_, rfl⟩
      rw [← hs4]
      have hXs4 : zw_ff σ s4 := by rw [hs4]; exact (hXs3.tr hFd.ff).up (by omega)
      have hTs4 := hT.ff hXs4
      have hRs4 : zw_r s4 T r5 := by rw [hs4]; exact hRd.keep (fun k _ _ => zq_upN (by omega))
      have hEs4 : zw_d s4 P.2.1 := by rw [hs4]; exact (hEs3.fp hFd).far (by omega) (fun _ => hm5)
      have cas4 : s4.1 34 0 (18 + za_m P.2.1) = v1 := by rw [hs4]; exact (zq_upN (by omega)).trans ((hFd.2 _ _ _ (by omega)).trans cas3)
      have cbs4 : s4.1 36 0 (3 * za_m P.2.1) = v2 := by rw [hs4]; exact (zq_upN (by omega)).trans ((hFd.2 _ _ _ (by omega)).trans cbs3)
      have ccs4 : s4.1 36 0 (3 * za_m P.2.1 + 1) = c := by rw [hs4]; exact (zq_upN (by omega)).trans ((hFd.2 _ _ _ (by omega)).trans ccs3)
      have ces4 : s4.1 36 0 (3 * za_m P.2.1 + 2) = v3 := by rw [hs4]; exact zq_upE
      have h11s4 : s4.1 30 0 11 = if c = 4 then (if σ.1 30 0 11 < v3 then v3 else σ.1 30 0 11) else σ.1 30 0 11 := by rw [hs4]; exact (zq_upN (by omega)).trans (hHd)
      have h10s4 : s4.1 30 0 10 = P.2.2.2 := by rw [hs4]; exact (zq_upN (by omega)).trans ((hFd.2 _ _ _ (by omega)).trans h10s3)
      refine gq_aload_n dz_M_readRule_97 rfl ?_
      refine gq_cV (sp_M_nameHere hTs4 hw hRs4) zw_M_nameHere zl_M_117 dz_M_readRule_98 rfl rfl rfl (by decide) rfl rfl (Nat.le_of_ble_eq_true rfl) ?_
      refine gq_bipush (v := 10) dz_M_readRule_101 rfl ?_
      refine gq_isub dz_M_readRule_103 ?_
      refine gw_istore_n 3 dz_M_readRule_104 rfl (Nat.le_of_ble_eq_true rfl) rfl ?_
      dsimp only [List.set]
      refine gq_aload_n dz_M_readRule_105 rfl ?_
      refine gq_getI zf_M_73 rfl rfl dz_M_readRule_106 ?_
      rw [hRs4.2.2.1]
      refine gq_if_ne (tgt := 121) dz_M_readRule_109 rfl (fun h109 => ?_) (fun h109 => ?_)
      · skip
        have h6 : (if zw_name T r5.2 - 10 < 0 then zw_fl 2 r5 else r5) = r5 := by rw [zw_fl1 h109]; split <;> rfl
        obtain ⟨s5, hs5⟩ : ∃ s : zq_T, s = s4 := ⟨_, rfl⟩
        rw [← hs5]
        have hF5 : zw_fs s4 s5 := by rw [hs5]; exact zw_fs.rf
        have hR5 : zw_r s5 T (if zw_name T r5.2 - 10 < 0 then zw_fl 2 r5 else r5) := by rw [h6, hs5]; exact hRs4
        refine gq_aload_n dz_M_readRule_121 rfl ?_
        refine gq_getR 34 zf_M_19 rfl rfl dz_M_readRule_122 ?_
        refine gq_bipush (v := 23) dz_M_readRule_125 rfl ?_
        refine gq_iload_n dz_M_readRule_127 rfl ?_
        refine gq_iadd dz_M_readRule_128 ?_
        rw [show (23 : Int32) = nI 23 from rfl, nI_add]
        refine gq_iload_n dz_M_readRule_129 rfl ?_
        refine gw_iast (23 + za_m P.2.1) (rfl) rfl (rfl) (Nat.le_of_ble_eq_true rfl) (by omega) dz_M_readRule_130 ?_
        obtain ⟨s6, hs6⟩ : ∃ s : zq_T, s = (zq_up s5.1 34 0 (23 + za_m P.2.1) (zw_name T r5.2 - 10), s5.2) := ⟨_, rfl⟩
        rw [← hs6]
        have hXs6 : zw_ff σ s6 := by rw [hs6]; exact (hXs4.tr hF5.p.ff).up (by omega)
        have hTs6 := hT.ff hXs6
        have hRs6 : zw_r s6 T (if zw_name T r5.2 - 10 < 0 then zw_fl 2 r5 else r5) := by rw [hs6]; exact hR5.keep (fun k _ _ => zq_upN (by omega))
        have hEs6 : zw_d s6 P.2.1 := by rw [hs6]; exact (hEs4.fp hF5.p).far (by omega) (fun _ => hm5)
        have cas6 : s6.1 34 0 (18 + za_m P.2.1) = v1 := by rw [hs6]; exact (zq_upN (by omega)).trans ((hF5.p.2 _ _ _ (by omega)).trans cas4)
        have cbs6 : s6.1 36 0 (3 * za_m P.2.1) = v2 := by rw [hs6]; exact (zq_upN (by omega)).trans ((hF5.p.2 _ _ _ (by omega)).trans cbs4)
        have ccs6 : s6.1 36 0 (3 * za_m P.2.1 + 1) = c := by rw [hs6]; exact (zq_upN (by omega)).trans ((hF5.p.2 _ _ _ (by omega)).trans ccs4)
        have ces6 : s6.1 36 0 (3 * za_m P.2.1 + 2) = v3 := by rw [hs6]; exact (zq_upN (by omega)).trans ((hF5.p.2 _ _ _ (by omega)).trans ces4)
        have cfs6 : s6.1 34 0 (23 + za_m P.2.1) = zw_name T r5.2 - 10 := by rw [hs6]; exact zq_upE
        have h11s6 : s6.1 30 0 11 = if c = 4 then (if σ.1 30 0 11 < v3 then v3 else σ.1 30 0 11) else σ.1 30 0 11 := by rw [hs6]; exact (zq_upN (by omega)).trans ((hF5.2 _ _ _ (by omega)).trans h11s4)
        have h10s6 : s6.1 30 0 10 = P.2.2.2 := by rw [hs6]; exact (zq_upN (by omega)).trans ((hF5.p.2 _ _ _ (by omega)).trans h10s4)
        refine gq_aload_n dz_M_readRule_131 rfl ?_
        refine gq_cVX (sp_M_step hTs6 hw hRs6) zw_M_step zl_M_107 dz_M_readRule_132 rfl rfl rfl (by decide) rfl rfl (Nat.le_of_ble_eq_true rfl) (fun τ132 hq132 => ?_)
        refine gq_aload_n dz_M_readRule_135 rfl ?_
        refine gq_dup dz_M_readRule_136 rfl ?_
        refine gq_getI zf_M_125 rfl rfl dz_M_readRule_137 ?_
        rw [(hq132.1.2 30 0 9 (by omega)).trans hEs6.1.2.2.2]
        refine gq_iconst (v := 1) dz_M_readRule_140 rfl ?_
        refine gq_iadd dz_M_readRule_141 ?_
        rw [nI_1]
        refine gq_putI zv_M_125 rfl rfl dz_M_readRule_142 ?_
        refine gw_vretP dz_M_readRule_145 rfl ?_
        · exact ⟨(hXs6.tr hq132.1.p.ff).up (by omega), zw_r6 T r5, (zt_law P.2.1 v1 v2 c v3 (zw_name T r5.2 - 10), if c = 4 then P.2.2.1 ||| (1 <<< (v3 &&& 31)) else P.2.2.1, P.2.2.2), hq132.2.keep (fun k _ _ => zq_upN (by omega)), fun _ => ⟨(hEs6.fp hq132.1.p).law hm5 ((hq132.1.2 _ _ _ (by omega)).trans cas6) ((hq132.1.2 _ _ _ (by omega)).trans cbs6) ((hq132.1.2 _ _ _ (by omega)).trans ccs6) ((hq132.1.2 _ _ _ (by omega)).trans ces6) ((hq132.1.2 _ _ _ (by omega)).trans cfs6), hDn.rule hv3 ((zq_upN (by omega)).trans ((hq132.1.2 _ _ _ (by omega)).trans h11s6)), (zq_upN (by omega)).trans ((hq132.1.2 _ _ _ (by omega)).trans h10s6)⟩, zw_rule T P hm5 hv1 hr2 hv2 hr3 hc hr4 hv3 hr5⟩
      · skip
        refine gq_iload_n dz_M_readRule_112 rfl ?_
        refine gq_if_ge (tgt := 121) dz_M_readRule_113 rfl (fun h113 => ?_) (fun h113 => ?_)
        · skip
          have h6 : (if zw_name T r5.2 - 10 < 0 then zw_fl 2 r5 else r5) = r5 := if_neg (Int32.not_lt.mpr h113)
          obtain ⟨s5, hs5⟩ : ∃ s : zq_T, s = s4 := ⟨_, rfl⟩
          rw [← hs5]
          have hF5 : zw_fs s4 s5 := by rw [hs5]; exact zw_fs.rf
          have hR5 : zw_r s5 T (if zw_name T r5.2 - 10 < 0 then zw_fl 2 r5 else r5) := by rw [h6, hs5]; exact hRs4
          refine gq_aload_n dz_M_readRule_121 rfl ?_
          refine gq_getR 34 zf_M_19 rfl rfl dz_M_readRule_122 ?_
          refine gq_bipush (v := 23) dz_M_readRule_125 rfl ?_
          refine gq_iload_n dz_M_readRule_127 rfl ?_
          refine gq_iadd dz_M_readRule_128 ?_
          rw [show (23 : Int32) = nI 23 from rfl, nI_add]
          refine gq_iload_n dz_M_readRule_129 rfl ?_
          refine gw_iast (23 + za_m P.2.1) (rfl) rfl (rfl) (Nat.le_of_ble_eq_true rfl) (by omega) dz_M_readRule_130 ?_
          obtain ⟨s6, hs6⟩ : ∃ s : zq_T, s = (zq_up s5.1 34 0 (23 + za_m P.2.1) (zw_name T r5.2 - 10), s5.2) := ⟨_, rfl⟩
          rw [← hs6]
          have hXs6 : zw_ff σ s6 := by rw [hs6]; exact (hXs4.tr hF5.p.ff).up (by omega)
          have hTs6 := hT.ff hXs6
          have hRs6 : zw_r s6 T (if zw_name T r5.2 - 10 < 0 then zw_fl 2 r5 else r5) := by rw [hs6]; exact hR5.keep (fun k _ _ => zq_upN (by omega))
          have hEs6 : zw_d s6 P.2.1 := by rw [hs6]; exact (hEs4.fp hF5.p).far (by omega) (fun _ => hm5)
          have cas6 : s6.1 34 0 (18 + za_m P.2.1) = v1 := by rw [hs6]; exact (zq_upN (by omega)).trans ((hF5.p.2 _ _ _ (by omega)).trans cas4)
          have cbs6 : s6.1 36 0 (3 * za_m P.2.1) = v2 := by rw [hs6]; exact (zq_upN (by omega)).trans ((hF5.p.2 _ _ _ (by omega)).trans cbs4)
          have ccs6 : s6.1 36 0 (3 * za_m P.2.1 + 1) = c := by rw [hs6]; exact (zq_upN (by omega)).trans ((hF5.p.2 _ _ _ (by omega)).trans ccs4)
          have ces6 : s6.1 36 0 (3 * za_m P.2.1 + 2) = v3 := by rw [hs6]; exact (zq_upN (by omega)).trans ((hF5.p.2 _ _ _ (by omega)).trans ces4)
          have cfs6 : s6.1 34 0 (23 + za_m P.2.1) = zw_name T r5.2 - 10 := by rw [hs6]; exact zq_upE
          have h11s6 : s6.1 30 0 11 = if c = 4 then (if σ.1 30 0 11 < v3 then v3 else σ.1 30 0 11) else σ.1 30 0 11 := by rw [hs6]; exact (zq_upN (by omega)).trans ((hF5.2 _ _ _ (by omega)).trans h11s4)
          have h10s6 : s6.1 30 0 10 = P.2.2.2 := by rw [hs6]; exact (zq_upN (by omega)).trans ((hF5.p.2 _ _ _ (by omega)).trans h10s4)
          refine gq_aload_n dz_M_readRule_131 rfl ?_
          refine gq_cVX (sp_M_step hTs6 hw hRs6) zw_M_step zl_M_107 dz_M_readRule_132 rfl rfl rfl (by decide) rfl rfl (Nat.le_of_ble_eq_true rfl) (fun τ132 hq132 => ?_)
          refine gq_aload_n dz_M_readRule_135 rfl ?_
          refine gq_dup dz_M_readRule_136 rfl ?_
          refine gq_getI zf_M_125 rfl rfl dz_M_readRule_137 ?_
          rw [(hq132.1.2 30 0 9 (by omega)).trans hEs6.1.2.2.2]
          refine gq_iconst (v := 1) dz_M_readRule_140 rfl ?_
          refine gq_iadd dz_M_readRule_141 ?_
          rw [nI_1]
          refine gq_putI zv_M_125 rfl rfl dz_M_readRule_142 ?_
          refine gw_vretP dz_M_readRule_145 rfl ?_
          · exact ⟨(hXs6.tr hq132.1.p.ff).up (by omega), zw_r6 T r5, (zt_law P.2.1 v1 v2 c v3 (zw_name T r5.2 - 10), if c = 4 then P.2.2.1 ||| (1 <<< (v3 &&& 31)) else P.2.2.1, P.2.2.2), hq132.2.keep (fun k _ _ => zq_upN (by omega)), fun _ => ⟨(hEs6.fp hq132.1.p).law hm5 ((hq132.1.2 _ _ _ (by omega)).trans cas6) ((hq132.1.2 _ _ _ (by omega)).trans cbs6) ((hq132.1.2 _ _ _ (by omega)).trans ccs6) ((hq132.1.2 _ _ _ (by omega)).trans ces6) ((hq132.1.2 _ _ _ (by omega)).trans cfs6), hDn.rule hv3 ((zq_upN (by omega)).trans ((hq132.1.2 _ _ _ (by omega)).trans h11s6)), (zq_upN (by omega)).trans ((hq132.1.2 _ _ _ (by omega)).trans h10s6)⟩, zw_rule T P hm5 hv1 hr2 hv2 hr3 hc hr4 hv3 hr5⟩
        · skip
          have h6 : (if zw_name T r5.2 - 10 < 0 then zw_fl 2 r5 else r5) = zw_fl 2 r5 := if_pos (Int32.not_le.mp h113)
          refine gq_aload_n dz_M_readRule_116 rfl ?_
          refine gq_iconst (v := 2) dz_M_readRule_117 rfl ?_
          refine gq_cVX (sp_M_fails 2) zw_M_fails zl_M_103 dz_M_readRule_118 rfl rfl rfl (by decide) rfl rfl (Nat.le_of_ble_eq_true rfl) (fun τ118 hq118 => ?_)
          have hf118 := hRs4.fl (n := 2) (by omega) (by omega) hq118
          have hF5 : zw_fs s4 τ118 := hf118.1
          have hR5 : zw_r τ118 T (if zw_name T r5.2 - 10 < 0 then zw_fl 2 r5 else r5) := by rw [h6]; exact hf118.2
          rename zq_T => s5
          refine gq_aload_n dz_M_readRule_121 rfl ?_
          refine gq_getR 34 zf_M_19 rfl rfl dz_M_readRule_122 ?_
          refine gq_bipush (v := 23) dz_M_readRule_125 rfl ?_
          refine gq_iload_n dz_M_readRule_127 rfl ?_
          refine gq_iadd dz_M_readRule_128 ?_
          rw [show (23 : Int32) = nI 23 from rfl, nI_add]
          refine gq_iload_n dz_M_readRule_129 rfl ?_
          refine gw_iast (23 + za_m P.2.1) (rfl) rfl (rfl) (Nat.le_of_ble_eq_true rfl) (by omega) dz_M_readRule_130 ?_
          obtain ⟨s6, hs6⟩ : ∃ s : zq_T, s = (zq_up s5.1 34 0 (23 + za_m P.2.1) (zw_name T r5.2 - 10), s5.2) := ⟨_, rfl⟩
          rw [← hs6]
          have hXs6 : zw_ff σ s6 := by rw [hs6]; exact (hXs4.tr hF5.p.ff).up (by omega)
          have hTs6 := hT.ff hXs6
          have hRs6 : zw_r s6 T (if zw_name T r5.2 - 10 < 0 then zw_fl 2 r5 else r5) := by rw [hs6]; exact hR5.keep (fun k _ _ => zq_upN (by omega))
          have hEs6 : zw_d s6 P.2.1 := by rw [hs6]; exact (hEs4.fp hF5.p).far (by omega) (fun _ => hm5)
          have cas6 : s6.1 34 0 (18 + za_m P.2.1) = v1 := by rw [hs6]; exact (zq_upN (by omega)).trans ((hF5.p.2 _ _ _ (by omega)).trans cas4)
          have cbs6 : s6.1 36 0 (3 * za_m P.2.1) = v2 := by rw [hs6]; exact (zq_upN (by omega)).trans ((hF5.p.2 _ _ _ (by omega)).trans cbs4)
          have ccs6 : s6.1 36 0 (3 * za_m P.2.1 + 1) = c := by rw [hs6]; exact (zq_upN (by omega)).trans ((hF5.p.2 _ _ _ (by omega)).trans ccs4)
          have ces6 : s6.1 36 0 (3 * za_m P.2.1 + 2) = v3 := by rw [hs6]; exact (zq_upN (by omega)).trans ((hF5.p.2 _ _ _ (by omega)).trans ces4)
          have cfs6 : s6.1 34 0 (23 + za_m P.2.1) = zw_name T r5.2 - 10 := by rw [hs6]; exact zq_upE
          have h11s6 : s6.1 30 0 11 = if c = 4 then (if σ.1 30 0 11 < v3 then v3 else σ.1 30 0 11) else σ.1 30 0 11 := by rw [hs6]; exact (zq_upN (by omega)).trans ((hF5.2 _ _ _ (by omega)).trans h11s4)
          have h10s6 : s6.1 30 0 10 = P.2.2.2 := by rw [hs6]; exact (zq_upN (by omega)).trans ((hF5.p.2 _ _ _ (by omega)).trans h10s4)
          refine gq_aload_n dz_M_readRule_131 rfl ?_
          refine gq_cVX (sp_M_step hTs6 hw hRs6) zw_M_step zl_M_107 dz_M_readRule_132 rfl rfl rfl (by decide) rfl rfl (Nat.le_of_ble_eq_true rfl) (fun τ132 hq132 => ?_)
          refine gq_aload_n dz_M_readRule_135 rfl ?_
          refine gq_dup dz_M_readRule_136 rfl ?_
          refine gq_getI zf_M_125 rfl rfl dz_M_readRule_137 ?_
          rw [(hq132.1.2 30 0 9 (by omega)).trans hEs6.1.2.2.2]
          refine gq_iconst (v := 1) dz_M_readRule_140 rfl ?_
          refine gq_iadd dz_M_readRule_141 ?_
          rw [nI_1]
          refine gq_putI zv_M_125 rfl rfl dz_M_readRule_142 ?_
          refine gw_vretP dz_M_readRule_145 rfl ?_
          · exact ⟨(hXs6.tr hq132.1.p.ff).up (by omega), zw_r6 T r5, (zt_law P.2.1 v1 v2 c v3 (zw_name T r5.2 - 10), if c = 4 then P.2.2.1 ||| (1 <<< (v3 &&& 31)) else P.2.2.1, P.2.2.2), hq132.2.keep (fun k _ _ => zq_upN (by omega)), fun _ => ⟨(hEs6.fp hq132.1.p).law hm5 ((hq132.1.2 _ _ _ (by omega)).trans cas6) ((hq132.1.2 _ _ _ (by omega)).trans cbs6) ((hq132.1.2 _ _ _ (by omega)).trans ccs6) ((hq132.1.2 _ _ _ (by omega)).trans ces6) ((hq132.1.2 _ _ _ (by omega)).trans cfs6), hDn.rule hv3 ((zq_upN (by omega)).trans ((hq132.1.2 _ _ _ (by omega)).trans h11s6)), (zq_upN (by omega)).trans ((hq132.1.2 _ _ _ (by omega)).trans h10s6)⟩, zw_rule T P hm5 hv1 hr2 hv2 hr3 hc hr4 hv3 hr5⟩
  · skip
    refine gq_aload_n dz_M_readRule_67 rfl ?_
    refine gq_iconst (v := 0) dz_M_readRule_68 rfl ?_
    refine gq_cVP (sp_M_person hTs3 hw hRs3 0) zw_M_person zl_M_131 dz_M_readRule_69 rfl rfl rfl (by decide) rfl rfl (Nat.le_of_ble_eq_true rfl) (fun τ69 hq69 => ?_)
    have hlo : zw_lo c = 0 := by rw [h64]; rfl
    have hmo : zt_most c = 5 := by rw [h64]; rfl
    obtain ⟨v3, hv3⟩ : ∃ v, v = zw_ckv (zw_lo c) (zt_most c) 0 r4 := ⟨_, rfl⟩
    have hv3b : zw_ckv 0 5 0 r4 = v3 := by rw [hv3, hlo, hmo]
    rw [hv3b]
    rw [hv3b] at hq69
    obtain ⟨r5, hr5⟩ : ∃ v, v = zw_r5 T c r4 := ⟨_, rfl⟩
    have hRd : zw_r τ69 T r5 := by rw [hr5, zw_r5, hlo, hmo]; exact hq69.2.1
    have hFd := hq69.1
    have hHd : τ69.1 30 0 11 = if c = 4 then (if σ.1 30 0 11 < v3 then v3 else σ.1 30 0 11) else σ.1 30 0 11 := by rw [if_pos h64, ← h11s3]; exact hq69.2.2
    rename zq_T => τd
    refine gq_goto (tgt := 96) dz_M_readRule_72 rfl ?_
    refine gw_iast (3 * za_m P.2.1 + 2) (rfl) rfl (rfl) (Nat.le_of_ble_eq_true rfl) (by omega) dz_M_readRule_96 ?_
    obtain ⟨s4, hs4⟩ : ∃ s : zq_T, s = (zq_up τd.1 36 0 (3 * za_m P.2.1 + 2) (v3), τd.2) := ⟨_, rfl⟩
    rw [← hs4]
    have hXs4 : zw_ff σ s4 := by rw [hs4]; exact (hXs3.tr hFd.ff).up (by omega)
    have hTs4 := hT.ff hXs4
    have hRs4 : zw_r s4 T r5 := by rw [hs4]; exact hRd.keep (fun k _ _ => zq_upN (by omega))
    have hEs4 : zw_d s4 P.2.1 := by rw [hs4]; exact (hEs3.fp hFd).far (by omega) (fun _ => hm5)
    have cas4 : s4.1 34 0 (18 + za_m P.2.1) = v1 := by rw [hs4]; exact (zq_upN (by omega)).trans ((hFd.2 _ _ _ (by omega)).trans cas3)
    have cbs4 : s4.1 36 0 (3 * za_m P.2.1) = v2 := by rw [hs4]; exact (zq_upN (by omega)).trans ((hFd.2 _ _ _ (by omega)).trans cbs3)
    have ccs4 : s4.1 36 0 (3 * za_m P.2.1 + 1) = c := by rw [hs4]; exact (zq_upN (by omega)).trans ((hFd.2 _ _ _ (by omega)).trans ccs3)
    have ces4 : s4.1 36 0 (3 * za_m P.2.1 + 2) = v3 := by rw [hs4]; exact zq_upE
    have h11s4 : s4.1 30 0 11 = if c = 4 then (if σ.1 30 0 11 < v3 then v3 else σ.1 30 0 11) else σ.1 30 0 11 := by rw [hs4]; exact (zq_upN (by omega)).trans (hHd)
    have h10s4 : s4.1 30 0 10 = P.2.2.2 := by rw [hs4]; exact (zq_upN (by omega)).trans ((hFd.2 _ _ _ (by omega)).trans h10s3)
    refine gq_aload_n dz_M_readRule_97 rfl ?_
    refine gq_cV (sp_M_nameHere hTs4 hw hRs4) zw_M_nameHere zl_M_117 dz_M_readRule_98 rfl rfl rfl (by decide) rfl rfl (Nat.le_of_ble_eq_true rfl) ?_
    refine gq_bipush (v := 10) dz_M_readRule_101 rfl ?_
    refine gq_isub dz_M_readRule_103 ?_
    refine gw_istore_n 3 dz_M_readRule_104 rfl (Nat.le_of_ble_eq_true rfl) rfl ?_
    dsimp only [List.set]
    refine gq_aload_n dz_M_readRule_105 rfl ?_
    refine gq_getI zf_M_73 rfl rfl dz_M_readRule_106 ?_
    rw [hRs4.2.2.1]
    refine gq_if_ne (tgt := 121) dz_M_readRule_109 rfl (fun h109 => ?_) (fun h109 => ?_)
    · skip
      have h6 : (if zw_name T r5.2 - 10 < 0 then zw_fl 2 r5 else r5) = r5 := by rw [zw_fl1 h109]; split <;> rfl
      obtain ⟨s5, hs5⟩ : ∃ s : zq_T, s = s4 := ⟨_, rfl⟩
      rw [← hs5]
      have hF5 : zw_fs s4 s5 := by rw [hs5]; exact zw_fs.rf
      have hR5 : zw_r s5 T (if zw_name T r5.2 - 10 < 0 then zw_fl 2 r5 else r5) := by rw [h6, hs5]; exact hRs4
      refine gq_aload_n dz_M_readRule_121 rfl ?_
      refine gq_getR 34 zf_M_19 rfl rfl dz_M_readRule_122 ?_
      refine gq_bipush (v := 23) dz_M_readRule_125 rfl ?_
      refine gq_iload_n dz_M_readRule_127 rfl ?_
      refine gq_iadd dz_M_readRule_128 ?_
      rw [show (23 : Int32) = nI 23 from rfl, nI_add]
      refine gq_iload_n dz_M_readRule_129 rfl ?_
      refine gw_iast (23 + za_m P.2.1) (rfl) rfl (rfl) (Nat.le_of_ble_eq_true rfl) (by omega) dz_M_readRule_130 ?_
      obtain ⟨s6, hs6⟩ : ∃ s : zq_T, s = (zq_up s5.1 34 0 (23 + za_m P.2.1) (zw_name T r5.2 - 10), s5.2) := ⟨_, rfl⟩
      rw [← hs6]
      have hXs6 : zw_ff σ s6 := by rw [hs6]; exact (hXs4.tr hF5.p.ff).up (by omega)
      have hTs6 := hT.ff hXs6
      have hRs6 : zw_r s6 T (if zw_name T r5.2 - 10 < 0 then zw_fl 2 r5 else r5) := by rw [hs6]; exact hR5.keep (fun k _ _ => zq_upN (by omega))
      have hEs6 : zw_d s6 P.2.1 := by rw [hs6]; exact (hEs4.fp hF5.p).far (by omega) (fun _ => hm5)
      have cas6 : s6.1 34 0 (18 + za_m P.2.1) = v1 := by rw [hs6]; exact (zq_upN (by omega)).trans ((hF5.p.2 _ _ _ (by omega)).trans cas4)
      have cbs6 : s6.1 36 0 (3 * za_m P.2.1) = v2 := by rw [hs6]; exact (zq_upN (by omega)).trans ((hF5.p.2 _ _ _ (by omega)).trans cbs4)
      have ccs6 : s6.1 36 0 (3 * za_m P.2.1 + 1) = c := by rw [hs6]; exact (zq_upN (by omega)).trans ((hF5.p.2 _ _ _ (by omega)).trans ccs4)
      have ces6 : s6.1 36 0 (3 * za_m P.2.1 + 2) = v3 := by rw [hs6]; exact (zq_upN (by omega)).trans ((hF5.p.2 _ _ _ (by omega)).trans ces4)
      have cfs6 : s6.1 34 0 (23 + za_m P.2.1) = zw_name T r5.2 - 10 := by rw [hs6]; exact zq_upE
      have h11s6 : s6.1 30 0 11 = if c = 4 then (if σ.1 30 0 11 < v3 then v3 else σ.1 30 0 11) else σ.1 30 0 11 := by rw [hs6]; exact (zq_upN (by omega)).trans ((hF5.2 _ _ _ (by omega)).trans h11s4)
      have h10s6 : s6.1 30 0 10 = P.2.2.2 := by rw [hs6]; exact (zq_upN (by omega)).trans ((hF5.p.2 _ _ _ (by omega)).trans h10s4)
      refine gq_aload_n dz_M_readRule_131 rfl ?_
      refine gq_cVX (sp_M_step hTs6 hw hRs6) zw_M_step zl_M_107 dz_M_readRule_132 rfl rfl rfl (by decide) rfl rfl (Nat.le_of_ble_eq_true rfl) (fun τ132 hq132 => ?_)
      refine gq_aload_n dz_M_readRule_135 rfl ?_
      refine gq_dup dz_M_readRule_136 rfl ?_
      refine gq_getI zf_M_125 rfl rfl dz_M_readRule_137 ?_
      rw [(hq132.1.2 30 0 9 (by omega)).trans hEs6.1.2.2.2]
      refine gq_iconst (v := 1) dz_M_readRule_140 rfl ?_
      refine gq_iadd dz_M_readRule_141 ?_
      rw [nI_1]
      refine gq_putI zv_M_125 rfl rfl dz_M_readRule_142 ?_
      refine gw_vretP dz_M_readRule_145 rfl ?_
      · exact ⟨(hXs6.tr hq132.1.p.ff).up (by omega), zw_r6 T r5, (zt_law P.2.1 v1 v2 c v3 (zw_name T r5.2 - 10), if c = 4 then P.2.2.1 ||| (1 <<< (v3 &&& 31)) else P.2.2.1, P.2.2.2), hq132.2.keep (fun k _ _ => zq_upN (by omega)), fun _ => ⟨(hEs6.fp hq132.1.p).law hm5 ((hq132.1.2 _ _ _ (by omega)).trans cas6) ((hq132.1.2 _ _ _ (by omega)).trans cbs6) ((hq132.1.2 _ _ _ (by omega)).trans ccs6) ((hq132.1.2 _ _ _ (by omega)).trans ces6) ((hq132.1.2 _ _ _ (by omega)).trans cfs6), hDn.rule hv3 ((zq_upN (by omega)).trans ((hq132.1.2 _ _ _ (by omega)).trans h11s6)), (zq_upN (by omega)).trans ((hq132.1.2 _ _ _ (by omega)).trans h10s6)⟩, zw_rule T P hm5 hv1 hr2 hv2 hr3 hc hr4 hv3 hr5⟩
    · skip
      refine gq_iload_n dz_M_readRule_112 rfl ?_
      refine gq_if_ge (tgt := 121) dz_M_readRule_113 rfl (fun h113 => ?_) (fun h113 => ?_)
      · skip
        have h6 : (if zw_name T r5.2 - 10 < 0 then zw_fl 2 r5 else r5) = r5 := if_neg (Int32.not_lt.mpr h113)
        obtain ⟨s5, hs5⟩ : ∃ s : zq_T, s = s4 := ⟨_, rfl⟩
        rw [← hs5]
        have hF5 : zw_fs s4 s5 := by rw [hs5]; exact zw_fs.rf
        have hR5 : zw_r s5 T (if zw_name T r5.2 - 10 < 0 then zw_fl 2 r5 else r5) := by rw [h6, hs5]; exact hRs4
        refine gq_aload_n dz_M_readRule_121 rfl ?_
        refine gq_getR 34 zf_M_19 rfl rfl dz_M_readRule_122 ?_
        refine gq_bipush (v := 23) dz_M_readRule_125 rfl ?_
        refine gq_iload_n dz_M_readRule_127 rfl ?_
        refine gq_iadd dz_M_readRule_128 ?_
        rw [show (23 : Int32) = nI 23 from rfl, nI_add]
        refine gq_iload_n dz_M_readRule_129 rfl ?_
        refine gw_iast (23 + za_m P.2.1) (rfl) rfl (rfl) (Nat.le_of_ble_eq_true rfl) (by omega) dz_M_readRule_130 ?_
        obtain ⟨s6, hs6⟩ : ∃ s : zq_T, s = (zq_up s5.1 34 0 (23 + za_m P.2.1) (zw_name T r5.2 - 10), s5.2) := ⟨_, rfl⟩
        rw [← hs6]
        have hXs6 : zw_ff σ s6 := by rw [hs6]; exact (hXs4.tr hF5.p.ff).up (by omega)
        have hTs6 := hT.ff hXs6
        have hRs6 : zw_r s6 T (if zw_name T r5.2 - 10 < 0 then zw_fl 2 r5 else r5) := by rw [hs6]; exact hR5.keep (fun k _ _ => zq_upN (by omega))
        have hEs6 : zw_d s6 P.2.1 := by rw [hs6]; exact (hEs4.fp hF5.p).far (by omega) (fun _ => hm5)
        have cas6 : s6.1 34 0 (18 + za_m P.2.1) = v1 := by rw [hs6]; exact (zq_upN (by omega)).trans ((hF5.p.2 _ _ _ (by omega)).trans cas4)
        have cbs6 : s6.1 36 0 (3 * za_m P.2.1) = v2 := by rw [hs6]; exact (zq_upN (by omega)).trans ((hF5.p.2 _ _ _ (by omega)).trans cbs4)
        have ccs6 : s6.1 36 0 (3 * za_m P.2.1 + 1) = c := by rw [hs6]; exact (zq_upN (by omega)).trans ((hF5.p.2 _ _ _ (by omega)).trans ccs4)
        have ces6 : s6.1 36 0 (3 * za_m P.2.1 + 2) = v3 := by rw [hs6]; exact (zq_upN (by omega)).trans ((hF5.p.2 _ _ _ (by omega)).trans ces4)
        have cfs6 : s6.1 34 0 (23 + za_m P.2.1) = zw_name T r5.2 - 10 := by rw [hs6]; exact zq_upE
        have h11s6 : s6.1 30 0 11 = if c = 4 then (if σ.1 30 0 11 < v3 then v3 else σ.1 30 0 11) else σ.1 30 0 11 := by rw [hs6]; exact (zq_upN (by omega)).trans ((hF5.2 _ _ _ (by omega)).trans h11s4)
        have h10s6 : s6.1 30 0 10 = P.2.2.2 := by rw [hs6]; exact (zq_upN (by omega)).trans ((hF5.p.2 _ _ _ (by omega)).trans h10s4)
        refine gq_aload_n dz_M_readRule_131 rfl ?_
        refine gq_cVX (sp_M_step hTs6 hw hRs6) zw_M_step zl_M_107 dz_M_readRule_132 rfl rfl rfl (by decide) rfl rfl (Nat.le_of_ble_eq_true rfl) (fun τ132 hq132 => ?_)
        refine gq_aload_n dz_M_readRule_135 rfl ?_
        refine gq_dup dz_M_readRule_136 rfl ?_
        refine gq_getI zf_M_125 rfl rfl dz_M_readRule_137 ?_
        rw [(hq132.1.2 30 0 9 (by omega)).trans hEs6.1.2.2.2]
        refine gq_iconst (v := 1) dz_M_readRule_140 rfl ?_
        refine gq_iadd dz_M_readRule_141 ?_
        rw [nI_1]
        refine gq_putI zv_M_125 rfl rfl dz_M_readRule_142 ?_
        refine gw_vretP dz_M_readRule_145 rfl ?_
        · exact ⟨(hXs6.tr hq132.1.p.ff).up (by omega), zw_r6 T r5, (zt_law P.2.1 v1 v2 c v3 (zw_name T r5.2 - 10), if c = 4 then P.2.2.1 ||| (1 <<< (v3 &&& 31)) else P.2.2.1, P.2.2.2), hq132.2.keep (fun k _ _ => zq_upN (by omega)), fun _ => ⟨(hEs6.fp hq132.1.p).law hm5 ((hq132.1.2 _ _ _ (by omega)).trans cas6) ((hq132.1.2 _ _ _ (by omega)).trans cbs6) ((hq132.1.2 _ _ _ (by omega)).trans ccs6) ((hq132.1.2 _ _ _ (by omega)).trans ces6) ((hq132.1.2 _ _ _ (by omega)).trans cfs6), hDn.rule hv3 ((zq_upN (by omega)).trans ((hq132.1.2 _ _ _ (by omega)).trans h11s6)), (zq_upN (by omega)).trans ((hq132.1.2 _ _ _ (by omega)).trans h10s6)⟩, zw_rule T P hm5 hv1 hr2 hv2 hr3 hc hr4 hv3 hr5⟩
      · skip
        have h6 : (if zw_name T r5.2 - 10 < 0 then zw_fl 2 r5 else r5) = zw_fl 2 r5 := if_pos (Int32.not_le.mp h113)
        refine gq_aload_n dz_M_readRule_116 rfl ?_
        refine gq_iconst (v := 2) dz_M_readRule_117 rfl ?_
        refine gq_cVX (sp_M_fails 2) zw_M_fails zl_M_103 dz_M_readRule_118 rfl rfl rfl (by decide) rfl rfl (Nat.le_of_ble_eq_true rfl) (fun τ118 hq118 => ?_)
        have hf118 := hRs4.fl (n := 2) (by omega) (by omega) hq118
        have hF5 : zw_fs s4 τ118 := hf118.1
        have hR5 : zw_r τ118 T (if zw_name T r5.2 - 10 < 0 then zw_fl 2 r5 else r5) := by rw [h6]; exact hf118.2
        rename zq_T => s5
        refine gq_aload_n dz_M_readRule_121 rfl ?_
        refine gq_getR 34 zf_M_19 rfl rfl dz_M_readRule_122 ?_
        refine gq_bipush (v := 23) dz_M_readRule_125 rfl ?_
        refine gq_iload_n dz_M_readRule_127 rfl ?_
        refine gq_iadd dz_M_readRule_128 ?_
        rw [show (23 : Int32) = nI 23 from rfl, nI_add]
        refine gq_iload_n dz_M_readRule_129 rfl ?_
        refine gw_iast (23 + za_m P.2.1) (rfl) rfl (rfl) (Nat.le_of_ble_eq_true rfl) (by omega) dz_M_readRule_130 ?_
        obtain ⟨s6, hs6⟩ : ∃ s : zq_T, s = (zq_up s5.1 34 0 (23 + za_m P.2.1) (zw_name T r5.2 - 10), s5.2) := ⟨_, rfl⟩
        rw [← hs6]
        have hXs6 : zw_ff σ s6 := by rw [hs6]; exact (hXs4.tr hF5.p.ff).up (by omega)
        have hTs6 := hT.ff hXs6
        have hRs6 : zw_r s6 T (if zw_name T r5.2 - 10 < 0 then zw_fl 2 r5 else r5) := by rw [hs6]; exact hR5.keep (fun k _ _ => zq_upN (by omega))
        have hEs6 : zw_d s6 P.2.1 := by rw [hs6]; exact (hEs4.fp hF5.p).far (by omega) (fun _ => hm5)
        have cas6 : s6.1 34 0 (18 + za_m P.2.1) = v1 := by rw [hs6]; exact (zq_upN (by omega)).trans ((hF5.p.2 _ _ _ (by omega)).trans cas4)
        have cbs6 : s6.1 36 0 (3 * za_m P.2.1) = v2 := by rw [hs6]; exact (zq_upN (by omega)).trans ((hF5.p.2 _ _ _ (by omega)).trans cbs4)
        have ccs6 : s6.1 36 0 (3 * za_m P.2.1 + 1) = c := by rw [hs6]; exact (zq_upN (by omega)).trans ((hF5.p.2 _ _ _ (by omega)).trans ccs4)
        have ces6 : s6.1 36 0 (3 * za_m P.2.1 + 2) = v3 := by rw [hs6]; exact (zq_upN (by omega)).trans ((hF5.p.2 _ _ _ (by omega)).trans ces4)
        have cfs6 : s6.1 34 0 (23 + za_m P.2.1) = zw_name T r5.2 - 10 := by rw [hs6]; exact zq_upE
        have h11s6 : s6.1 30 0 11 = if c = 4 then (if σ.1 30 0 11 < v3 then v3 else σ.1 30 0 11) else σ.1 30 0 11 := by rw [hs6]; exact (zq_upN (by omega)).trans ((hF5.2 _ _ _ (by omega)).trans h11s4)
        have h10s6 : s6.1 30 0 10 = P.2.2.2 := by rw [hs6]; exact (zq_upN (by omega)).trans ((hF5.p.2 _ _ _ (by omega)).trans h10s4)
        refine gq_aload_n dz_M_readRule_131 rfl ?_
        refine gq_cVX (sp_M_step hTs6 hw hRs6) zw_M_step zl_M_107 dz_M_readRule_132 rfl rfl rfl (by decide) rfl rfl (Nat.le_of_ble_eq_true rfl) (fun τ132 hq132 => ?_)
        refine gq_aload_n dz_M_readRule_135 rfl ?_
        refine gq_dup dz_M_readRule_136 rfl ?_
        refine gq_getI zf_M_125 rfl rfl dz_M_readRule_137 ?_
        rw [(hq132.1.2 30 0 9 (by omega)).trans hEs6.1.2.2.2]
        refine gq_iconst (v := 1) dz_M_readRule_140 rfl ?_
        refine gq_iadd dz_M_readRule_141 ?_
        rw [nI_1]
        refine gq_putI zv_M_125 rfl rfl dz_M_readRule_142 ?_
        refine gw_vretP dz_M_readRule_145 rfl ?_
        · exact ⟨(hXs6.tr hq132.1.p.ff).up (by omega), zw_r6 T r5, (zt_law P.2.1 v1 v2 c v3 (zw_name T r5.2 - 10), if c = 4 then P.2.2.1 ||| (1 <<< (v3 &&& 31)) else P.2.2.1, P.2.2.2), hq132.2.keep (fun k _ _ => zq_upN (by omega)), fun _ => ⟨(hEs6.fp hq132.1.p).law hm5 ((hq132.1.2 _ _ _ (by omega)).trans cas6) ((hq132.1.2 _ _ _ (by omega)).trans cbs6) ((hq132.1.2 _ _ _ (by omega)).trans ccs6) ((hq132.1.2 _ _ _ (by omega)).trans ces6) ((hq132.1.2 _ _ _ (by omega)).trans cfs6), hDn.rule hv3 ((zq_upN (by omega)).trans ((hq132.1.2 _ _ _ (by omega)).trans h11s6)), (zq_upN (by omega)).trans ((hq132.1.2 _ _ _ (by omega)).trans h10s6)⟩, zw_rule T P hm5 hv1 hr2 hv2 hr3 hc hr4 hv3 hr5⟩
set_option maxHeartbeats 4000000 in
theorem sp_M_readMore0 {σ : zq_T} {T : za_T} (hT : zw_t σ T) (hw : zt_wf T) {P : za_P} (hr : zw_r σ T (0, (zt_adv T P).1)) (hc0 : zw_cd (0, (zt_adv T P).1) = 0) (hD : zw_dd σ P.2) (hn6 : za_n P.2.1 < 6) : zq_Sp zm_M_readMore 6 [zq_O 30 0, zq_I 0] σ (zq_rx (zw_mo σ T (zt_one T P))) := by
  obtain ⟨hDd, hDn, hDw⟩ := hD
  obtain ⟨kk, hk1, hk2, hk3, hk4⟩ := hr.2.2.2.2.2.2.1
  have hk34 := hk3 (zw_cd0 hc0).2
  have hk34 : kk = (zt_adv T P).1.2.1 := hk34
  refine zq_sp [some (zq_O 30 0), some (zq_I 0), none] (by decide +kernel) rfl (Nat.le_of_ble_eq_true rfl) (fun ν => ?_)
  refine gq_iload_n dz_M_readMore_0 rfl ?_
  refine gq_if_ne (tgt := 65) dz_M_readMore_1 rfl (fun h1 => ?_) (fun h1 => ?_)
  · skip
    exact absurd rfl h1
  · skip
    refine gq_aload_n dz_M_readMore_4 rfl ?_
    refine gq_getR 35 zf_M_22 rfl rfl dz_M_readMore_5 ?_
    refine gq_aload_n dz_M_readMore_8 rfl ?_
    refine gq_getI zf_M_134 rfl rfl dz_M_readMore_9 ?_
    rw [hDd.1.2.2.1]
    refine gq_iconst (v := 0) dz_M_readMore_12 rfl ?_
    refine gw_iast (za_n P.2.1) (rfl) rfl (rfl) (Nat.le_of_ble_eq_true rfl) (by omega) dz_M_readMore_13 ?_
    obtain ⟨s1, hs1⟩ : ∃ s : zq_T, s = (zq_up σ.1 35 0 (za_n P.2.1) 0, σ.2) := ⟨_, rfl⟩
    rw [← hs1]
    have hXs1 : zw_ff σ s1 := by rw [hs1]; exact zw_ff.rf.up (by omega)
    have hTs1 := hT.ff hXs1
    have hRs1 : zw_r s1 T (0, (zt_adv T P).1) := by rw [hs1]; exact hr.keep (fun k _ _ => zq_upN (by omega))
    have hEs1 : zw_d s1 P.2.1 := by rw [hs1]; exact hDd.far (by omega) (fun z => by omega)
    have cas1 : s1.1 35 0 (za_n P.2.1) = 0 := by rw [hs1]; exact zq_upE
    have h11s1 : s1.1 30 0 11 = σ.1 30 0 11 := by rw [hs1]; exact zq_upN (by omega)
    have h10s1 : s1.1 30 0 10 = P.2.2.2 := by rw [hs1]; exact (zq_upN (by omega)).trans hDw
    have h19s1 : s1.1 30 0 19 = nI kk := by rw [hs1]; exact (zq_upN (by omega)).trans hk2
    refine gq_aload_n dz_M_readMore_14 rfl ?_
    refine gq_getI zf_M_73 rfl rfl dz_M_readMore_15 ?_
    rw [hRs1.2.2.1, hc0]
    refine gq_if_ne (tgt := 52) dz_M_readMore_18 rfl (fun h18 => ?_) (fun h18 => ?_)
    · skip
      exact absurd rfl h18
    · skip
      refine gq_aload_n dz_M_readMore_21 rfl ?_
      refine gq_getI zf_M_82 rfl rfl dz_M_readMore_22 ?_
      rw [h19s1]
      refine gq_iconst (v := 2) dz_M_readMore_25 rfl ?_
      refine gq_icmp_ne (tgt := 52) dz_M_readMore_26 rfl (fun h26 => ?_) (fun h26 => ?_)
      · skip
        have hkd : ¬ (zt_adv T P).1.2.1 = 2 := fun z => h26 (by rw [hk34, z]; rfl)
        have hEx := hEs1
        refine gq_aload_n dz_M_readMore_52 rfl ?_
        refine gq_dup dz_M_readMore_53 rfl ?_
        refine gq_getI zf_M_134 rfl rfl dz_M_readMore_54 ?_
        rw [hEx.1.2.2.1]
        refine gq_iconst (v := 1) dz_M_readMore_57 rfl ?_
        refine gq_iadd dz_M_readMore_58 ?_
        rw [nI_1]
        refine gq_putI zv_M_134 rfl rfl dz_M_readMore_59 ?_
        refine gq_goto (tgt := 187) dz_M_readMore_62 rfl ?_
        refine gw_vretP dz_M_readMore_187 rfl ?_
        · exact ⟨hXs1.up (by omega), (0, (zt_adv T P).1), (zt_add P.2.1 (-4), P.2.2), hRs1.keep (fun k _ _ => zq_upN (by omega)), fun _ => ⟨hEs1.add hn6 cas1, hDn.same ((zq_upN (by omega)).trans h11s1), (zq_upN (by omega)).trans h10s1⟩, zw_one_no T P hn6 (zw_cd0 hc0).2 hkd⟩
      · skip
        have hkd : (zt_adv T P).1.2.1 = 2 := by rw [← hk34]; exact (nI_eq (b := 2) (by omega) (by omega)).mp h26
        refine gq_aload_n dz_M_readMore_29 rfl ?_
        refine gq_getR 35 zf_M_22 rfl rfl dz_M_readMore_30 ?_
        refine gq_aload_n dz_M_readMore_33 rfl ?_
        refine gq_getI zf_M_134 rfl rfl dz_M_readMore_34 ?_
        rw [hEs1.1.2.2.1]
        refine gq_aload_n dz_M_readMore_37 rfl ?_
        refine gq_iconst (v := 0) dz_M_readMore_38 rfl ?_
        refine gq_aload_n dz_M_readMore_39 rfl ?_
        refine gq_getI zf_M_134 rfl rfl dz_M_readMore_40 ?_
        rw [hEs1.1.2.2.1]
        refine gq_iconst (v := 1) dz_M_readMore_43 rfl ?_
        refine gq_isub dz_M_readMore_44 ?_
        refine gq_iconst (v := 0) dz_M_readMore_45 rfl ?_
        refine gq_cVP (sp_M_other hTs1 hw hRs1 0 (nI (za_n P.2.1) - 1) 0) zw_M_other zl_M_110 dz_M_readMore_46 rfl rfl rfl (by decide) rfl rfl (Nat.le_of_ble_eq_true rfl) (fun τ46 hq46 => ?_)
        refine gq_iconst (v := 1) dz_M_readMore_49 rfl ?_
        refine gq_iadd dz_M_readMore_50 ?_
        refine gw_iast (za_n P.2.1) (rfl) rfl (rfl) (Nat.le_of_ble_eq_true rfl) (by omega) dz_M_readMore_51 ?_
        obtain ⟨s2, hs2⟩ : ∃ s : zq_T, s = (zq_up τ46.1 35 0 (za_n P.2.1) (zw_ckv 0 (nI (za_n P.2.1) - 1) 0 (0, (zt_adv T P).1) + 1), τ46.2) := ⟨_, rfl⟩
        rw [← hs2]
        have hXs2 : zw_ff σ s2 := by rw [hs2]; exact (hXs1.tr hq46.1.p.ff).up (by omega)
        have hRs2 : zw_r s2 T (zw_nx T (zw_ck 0 (nI (za_n P.2.1) - 1) 0 (0, (zt_adv T P).1))) := by rw [hs2]; exact hq46.2.keep (fun k _ _ => zq_upN (by omega))
        have hEx : zw_d s2 P.2.1 := by rw [hs2]; exact (hEs1.fp hq46.1.p).far (by omega) (fun z => by omega)
        have cas2 : s2.1 35 0 (za_n P.2.1) = zn_par (zw_ckv 0 (nI (za_n P.2.1) - 1) 0 (0, (zt_adv T P).1)) := by rw [hs2, zw_par_ckv]; exact zq_upE
        have h11s2 : s2.1 30 0 11 = σ.1 30 0 11 := by rw [hs2]; exact (zq_upN (by omega)).trans ((hq46.1.2 _ _ _ (by omega)).trans h11s1)
        have h10s2 : s2.1 30 0 10 = P.2.2.2 := by rw [hs2]; exact (zq_upN (by omega)).trans ((hq46.1.2 _ _ _ (by omega)).trans h10s1)
        refine gq_aload_n dz_M_readMore_52 rfl ?_
        refine gq_dup dz_M_readMore_53 rfl ?_
        refine gq_getI zf_M_134 rfl rfl dz_M_readMore_54 ?_
        rw [hEx.1.2.2.1]
        refine gq_iconst (v := 1) dz_M_readMore_57 rfl ?_
        refine gq_iadd dz_M_readMore_58 ?_
        rw [nI_1]
        refine gq_putI zv_M_134 rfl rfl dz_M_readMore_59 ?_
        refine gq_goto (tgt := 187) dz_M_readMore_62 rfl ?_
        refine gw_vretP dz_M_readMore_187 rfl ?_
        · exact ⟨hXs2.up (by omega), _, (zt_add P.2.1 (zw_ckv 0 (nI (za_n P.2.1) - 1) 0 (0, (zt_adv T P).1)), P.2.2), hRs2.keep (fun k _ _ => zq_upN (by omega)), fun _ => ⟨hEx.add hn6 cas2, hDn.same ((zq_upN (by omega)).trans h11s2), (zq_upN (by omega)).trans h10s2⟩, zw_one_ye T P hn6 hkd⟩
set_option maxHeartbeats 4000000 in
theorem sp_M_readMore1 {σ : zq_T} {T : za_T} (hT : zw_t σ T) (hw : zt_wf T) {P : za_P} (hr : zw_r σ T (0, (zt_adv T P).1)) (hc0 : zw_cd (0, (zt_adv T P).1) = 0) (hD : zw_dd σ P.2) : zq_Sp zm_M_readMore 6 [zq_O 30 0, zq_I 1] σ (zq_rx (zw_mo σ T (zt_fact T P))) := by
  obtain ⟨hDd, hDn, hDw⟩ := hD
  obtain ⟨q, hq5, hpe⟩ := zw_ckv_ex (hi := 5) (sm := 0) (n := 5) (r := (0, (zt_adv T P).1)) rfl (by omega)
  refine zq_sp [some (zq_O 30 0), some (zq_I 1), none] (by decide +kernel) rfl (Nat.le_of_ble_eq_true rfl) (fun ν => ?_)
  refine gq_iload_n dz_M_readMore_0 rfl ?_
  refine gq_if_ne (tgt := 65) dz_M_readMore_1 rfl (fun h1 => ?_) (fun h1 => ?_)
  · skip
    refine gq_iload_n dz_M_readMore_65 rfl ?_
    refine gq_iconst (v := 1) dz_M_readMore_66 rfl ?_
    refine gq_icmp_ne (tgt := 102) dz_M_readMore_67 rfl (fun h67 => ?_) (fun h67 => ?_)
    · skip
      exact absurd rfl h67
    · skip
      refine gq_aload_n dz_M_readMore_70 rfl ?_
      refine gq_iconst (v := 0) dz_M_readMore_71 rfl ?_
      refine gq_cVP (sp_M_person hT hw hr 0) zw_M_person zl_M_131 dz_M_readMore_72 rfl rfl rfl (by decide) rfl rfl (Nat.le_of_ble_eq_true rfl) (fun τ72 hq72 => ?_)
      rw [hpe]
      rw [hpe] at hq72
      have hE1 := hDd.fp hq72.1
      refine gw_istore_n 2 dz_M_readMore_75 rfl (Nat.le_of_ble_eq_true rfl) rfl ?_
      dsimp only [List.set]
      refine gq_aload_n dz_M_readMore_76 rfl ?_
      refine gq_getR 34 zf_M_19 rfl rfl dz_M_readMore_77 ?_
      refine gq_iload_n dz_M_readMore_80 rfl ?_
      refine gq_dup2 dz_M_readMore_81 rfl rfl ?_
      refine gw_iald (q) (rfl) rfl (rfl) (Nat.le_of_ble_eq_true rfl) (by omega) dz_M_readMore_82 ?_
      rw [(hE1.2.1.1 q (by omega)).1]
      refine gq_iconst (v := 1) dz_M_readMore_83 rfl ?_
      refine gq_aload_n dz_M_readMore_84 rfl ?_
      refine gq_iconst (v := 0) dz_M_readMore_85 rfl ?_
      refine gq_iconst (v := 4) dz_M_readMore_86 rfl ?_
      refine gq_aload_n dz_M_readMore_87 rfl ?_
      refine gq_getR 34 zf_M_19 rfl rfl dz_M_readMore_88 ?_
      refine gq_iload_n dz_M_readMore_91 rfl ?_
      refine gw_iald (q) (rfl) rfl (rfl) (Nat.le_of_ble_eq_true rfl) (by omega) dz_M_readMore_92 ?_
      rw [(hE1.2.1.1 q (by omega)).1]
      refine gq_cVP (sp_M_other (hT.fp hq72.1) hw hq72.2.1 0 4 (za_fa P.2.1 q)) zw_M_other zl_M_110 dz_M_readMore_93 rfl rfl rfl (by decide) rfl rfl (Nat.le_of_ble_eq_true rfl) (fun τ93 hq93 => ?_)
      refine gq_ishl dz_M_readMore_96 ?_
      refine gq_ior dz_M_readMore_97 ?_
      refine gw_iast (q) (rfl) rfl (rfl) (Nat.le_of_ble_eq_true rfl) (by omega) dz_M_readMore_98 ?_
      refine gq_goto (tgt := 187) dz_M_readMore_99 rfl ?_
      refine gw_vretP dz_M_readMore_187 rfl ?_
      · have hz := zw_fact T P hpe.symm rfl (s := za_fa P.2.1 q) (by rw [nI_clamp (by omega)]) rfl; rw [nI_clamp (by omega)] at hz; exact ⟨(hq72.1.ff.tr hq93.1.p.ff).up (by omega), zw_nx T (zw_ck 0 4 (za_fa P.2.1 q) (zw_nx T (zw_ck 0 5 0 (0, (zt_adv T P).1)))), (za_sf P.2.1 (upd (za_fa P.2.1) q (za_fa P.2.1 q ||| (1 <<< (zw_ckv 0 4 (za_fa P.2.1 q) (zw_nx T (zw_ck 0 5 0 (0, (zt_adv T P).1))) &&& 31)))), P.2.2.1 ||| (1 <<< (nI q &&& 31)), P.2.2.2), hq93.2.keep (fun k _ _ => zq_upN (by omega)), fun _ => ⟨(hE1.fp hq93.1.p).sf (by omega), hDn.add (by omega) ((zq_upN (by omega)).trans ((hq93.1.2 _ _ _ (by omega)).trans hq72.2.2)), (zq_upN (by omega)).trans ((hq93.1.2 _ _ _ (by omega)).trans ((hq72.1.2 _ _ _ (by omega)).trans hDw))⟩, hz⟩
  · skip
    exact absurd h1 (by decide)
set_option maxHeartbeats 4000000 in
theorem sp_M_readMore2 {σ : zq_T} {T : za_T} (hT : zw_t σ T) (hw : zt_wf T) {P : za_P} (hr : zw_r σ T (0, (zt_adv T P).1)) (hc0 : zw_cd (0, (zt_adv T P).1) = 0) (hD : zw_dd σ P.2) : zq_Sp zm_M_readMore 6 [zq_O 30 0, zq_I 2] σ (zq_rx (zw_mo σ T (zt_gone T P))) := by
  obtain ⟨hDd, hDn, hDw⟩ := hD
  obtain ⟨q, hq5, hpe⟩ := zw_ckv_ex (hi := 5) (sm := za_g P.2.1) (n := 5) (r := (0, (zt_adv T P).1)) rfl (by omega)
  refine zq_sp [some (zq_O 30 0), some (zq_I 2), none] (by decide +kernel) rfl (Nat.le_of_ble_eq_true rfl) (fun ν => ?_)
  refine gq_iload_n dz_M_readMore_0 rfl ?_
  refine gq_if_ne (tgt := 65) dz_M_readMore_1 rfl (fun h1 => ?_) (fun h1 => ?_)
  · skip
    refine gq_iload_n dz_M_readMore_65 rfl ?_
    refine gq_iconst (v := 1) dz_M_readMore_66 rfl ?_
    refine gq_icmp_ne (tgt := 102) dz_M_readMore_67 rfl (fun h67 => ?_) (fun h67 => ?_)
    · skip
      refine gq_iload_n dz_M_readMore_102 rfl ?_
      refine gq_iconst (v := 2) dz_M_readMore_103 rfl ?_
      refine gq_icmp_ne (tgt := 133) dz_M_readMore_104 rfl (fun h104 => ?_) (fun h104 => ?_)
      · skip
        exact absurd rfl h104
      · skip
        refine gq_aload_n dz_M_readMore_107 rfl ?_
        refine gq_getR 34 zf_M_19 rfl rfl dz_M_readMore_108 ?_
        refine gq_bipush (v := 12) dz_M_readMore_111 rfl ?_
        refine gq_dup2 dz_M_readMore_113 rfl rfl ?_
        refine gw_iald (12) (rfl) rfl (rfl) (Nat.le_of_ble_eq_true rfl) (by omega) dz_M_readMore_114 ?_
        rw [hDd.2.1.2.1]
        refine gq_iconst (v := 1) dz_M_readMore_115 rfl ?_
        refine gq_aload_n dz_M_readMore_116 rfl ?_
        refine gq_aload_n dz_M_readMore_117 rfl ?_
        refine gq_getR 34 zf_M_19 rfl rfl dz_M_readMore_118 ?_
        refine gq_bipush (v := 12) dz_M_readMore_121 rfl ?_
        refine gw_iald (12) (rfl) rfl (rfl) (Nat.le_of_ble_eq_true rfl) (by omega) dz_M_readMore_123 ?_
        rw [hDd.2.1.2.1]
        refine gq_cVP (sp_M_person hT hw hr (za_g P.2.1)) zw_M_person zl_M_131 dz_M_readMore_124 rfl rfl rfl (by decide) rfl rfl (Nat.le_of_ble_eq_true rfl) (fun τ124 hq124 => ?_)
        rw [hpe]
        rw [hpe] at hq124
        refine gq_ishl dz_M_readMore_127 ?_
        refine gq_ior dz_M_readMore_128 ?_
        refine gw_iast (12) (rfl) rfl (rfl) (Nat.le_of_ble_eq_true rfl) (by omega) dz_M_readMore_129 ?_
        refine gq_goto (tgt := 187) dz_M_readMore_130 rfl ?_
        refine gw_vretP dz_M_readMore_187 rfl ?_
        · have hz := zw_gone T P hpe.symm; exact ⟨hq124.1.ff.up (by omega), zw_nx T (zw_ck 0 5 (za_g P.2.1) (0, (zt_adv T P).1)), (za_sg P.2.1 (za_g P.2.1 ||| (1 <<< (nI q &&& 31))), P.2.2.1 ||| (1 <<< (nI q &&& 31)), P.2.2.2), hq124.2.1.keep (fun k _ _ => zq_upN (by omega)), fun _ => ⟨(hDd.fp hq124.1).sg, hDn.add (by omega) ((zq_upN (by omega)).trans hq124.2.2), (zq_upN (by omega)).trans ((hq124.1.2 _ _ _ (by omega)).trans hDw)⟩, hz⟩
    · skip
      exact absurd h67 (by decide)
  · skip
    exact absurd h1 (by decide)
set_option maxHeartbeats 4000000 in
theorem sp_M_readMore3 {σ : zq_T} {T : za_T} (hT : zw_t σ T) (hw : zt_wf T) {P : za_P} (hr : zw_r σ T (0, (zt_adv T P).1)) (hc0 : zw_cd (0, (zt_adv T P).1) = 0) (hD : zw_dd σ P.2) : zq_Sp zm_M_readMore 6 [zq_O 30 0, zq_I 3] σ (zq_rx (zw_mo σ T (zt_odds T P))) := by
  obtain ⟨hDd, hDn, hDw⟩ := hD
  obtain ⟨q, hq5, hpe⟩ := zw_ckv_ex (hi := 4) (sm := P.2.2.2) (n := 4) (r := (0, (zt_adv T P).1)) rfl (by omega)
  refine zq_sp [some (zq_O 30 0), some (zq_I 3), none] (by decide +kernel) rfl (Nat.le_of_ble_eq_true rfl) (fun ν => ?_)
  refine gq_iload_n dz_M_readMore_0 rfl ?_
  refine gq_if_ne (tgt := 65) dz_M_readMore_1 rfl (fun h1 => ?_) (fun h1 => ?_)
  · skip
    refine gq_iload_n dz_M_readMore_65 rfl ?_
    refine gq_iconst (v := 1) dz_M_readMore_66 rfl ?_
    refine gq_icmp_ne (tgt := 102) dz_M_readMore_67 rfl (fun h67 => ?_) (fun h67 => ?_)
    · skip
      refine gq_iload_n dz_M_readMore_102 rfl ?_
      refine gq_iconst (v := 2) dz_M_readMore_103 rfl ?_
      refine gq_icmp_ne (tgt := 133) dz_M_readMore_104 rfl (fun h104 => ?_) (fun h104 => ?_)
      · skip
        refine gq_iload_n dz_M_readMore_133 rfl ?_
        refine gq_iconst (v := 3) dz_M_readMore_134 rfl ?_
        refine gq_icmp_ne (tgt := 183) dz_M_readMore_135 rfl (fun h135 => ?_) (fun h135 => ?_)
        · skip
          exact absurd rfl h135
        · skip
          refine gq_aload_n dz_M_readMore_138 rfl ?_
          refine gq_iconst (v := 0) dz_M_readMore_139 rfl ?_
          refine gq_iconst (v := 4) dz_M_readMore_140 rfl ?_
          refine gq_aload_n dz_M_readMore_141 rfl ?_
          refine gq_getI zf_M_137 rfl rfl dz_M_readMore_142 ?_
          rw [hDw]
          refine gq_cVP (sp_M_other hT hw hr 0 4 P.2.2.2) zw_M_other zl_M_110 dz_M_readMore_145 rfl rfl rfl (by decide) rfl rfl (Nat.le_of_ble_eq_true rfl) (fun τ145 hq145 => ?_)
          rw [hpe]
          refine gw_istore_n 2 dz_M_readMore_148 rfl (Nat.le_of_ble_eq_true rfl) rfl ?_
          dsimp only [List.set]
          refine gq_aload_n dz_M_readMore_149 rfl ?_
          refine gq_dup dz_M_readMore_150 rfl ?_
          refine gq_getI zf_M_137 rfl rfl dz_M_readMore_151 ?_
          rw [(hq145.1.2 30 0 10 (by omega)).trans hDw]
          refine gq_iconst (v := 1) dz_M_readMore_154 rfl ?_
          refine gq_iload_n dz_M_readMore_155 rfl ?_
          refine gq_ishl dz_M_readMore_156 ?_
          refine gq_ior dz_M_readMore_157 ?_
          refine gq_putI zv_M_137 rfl rfl dz_M_readMore_158 ?_
          obtain ⟨s1, hs1⟩ : ∃ s : zq_T, s = (zq_up τ145.1 30 0 10 (P.2.2.2 ||| (1 <<< (nI q &&& 31))), τ145.2) := ⟨_, rfl⟩
          rw [← hs1]
          have hXs1 : zw_ff σ s1 := by rw [hs1]; exact hq145.1.p.ff.up (by omega)
          have hTs1 := hT.ff hXs1
          have hRs1 : zw_r s1 T (zw_nx T (zw_ck 0 4 P.2.2.2 (0, (zt_adv T P).1))) := by rw [hs1]; exact hq145.2.keep (fun k _ _ => zq_upN (by omega))
          have hEs1 : zw_d s1 P.2.1 := by rw [hs1]; exact (hDd.fp hq145.1.p).far (by omega) (fun z => by omega)
          have h11s1 : s1.1 30 0 11 = σ.1 30 0 11 := by rw [hs1]; exact (zq_upN (by omega)).trans (hq145.1.2 _ _ _ (by omega))
          have h10s1 : s1.1 30 0 10 = P.2.2.2 ||| (1 <<< (nI q &&& 31)) := by rw [hs1]; exact zq_upE
          refine gq_aload_n dz_M_readMore_161 rfl ?_
          refine gq_getR 34 zf_M_19 rfl rfl dz_M_readMore_162 ?_
          refine gq_bipush (v := 13) dz_M_readMore_165 rfl ?_
          refine gq_iload_n dz_M_readMore_167 rfl ?_
          refine gq_iadd dz_M_readMore_168 ?_
          rw [show (13 : Int32) = nI 13 from rfl, nI_add]
          refine gq_aload_n dz_M_readMore_169 rfl ?_
          refine gq_iconst (v := 0) dz_M_readMore_170 rfl ?_
          refine gq_bipush (v := 10) dz_M_readMore_171 rfl ?_
          refine gq_iconst (v := 0) dz_M_readMore_173 rfl ?_
          refine gq_cVP (sp_M_other hTs1 hw hRs1 0 10 0) zw_M_other zl_M_110 dz_M_readMore_174 rfl rfl rfl (by decide) rfl rfl (Nat.le_of_ble_eq_true rfl) (fun τ174 hq174 => ?_)
          refine gq_iconst (v := 5) dz_M_readMore_177 rfl ?_
          refine gq_isub dz_M_readMore_178 ?_
          refine gw_iast (13 + q) (rfl) rfl (rfl) (Nat.le_of_ble_eq_true rfl) (by omega) dz_M_readMore_179 ?_
          refine gq_goto (tgt := 187) dz_M_readMore_180 rfl ?_
          refine gw_vretP dz_M_readMore_187 rfl ?_
          · have hz := zw_odds T P hpe.symm rfl rfl; rw [nI_clamp (by omega)] at hz; exact ⟨(hXs1.tr hq174.1.p.ff).up (by omega), zw_nx T (zw_ck 0 10 0 (zw_nx T (zw_ck 0 4 P.2.2.2 (0, (zt_adv T P).1)))), (za_so P.2.1 (upd (za_od P.2.1) q (zw_ckv 0 10 0 (zw_nx T (zw_ck 0 4 P.2.2.2 (0, (zt_adv T P).1))))), P.2.2.1, P.2.2.2 ||| (1 <<< (nI q &&& 31))), hq174.2.keep (fun k _ _ => zq_upN (by omega)), fun _ => ⟨(hEs1.fp hq174.1.p).so (by omega), hDn.same ((zq_upN (by omega)).trans ((hq174.1.2 _ _ _ (by omega)).trans h11s1)), (zq_upN (by omega)).trans ((hq174.1.2 _ _ _ (by omega)).trans h10s1)⟩, hz⟩
      · skip
        exact absurd h104 (by decide)
    · skip
      exact absurd h67 (by decide)
  · skip
    exact absurd h1 (by decide)
set_option maxHeartbeats 4000000 in
theorem sp_M_readMore4 {σ : zq_T} {T : za_T} (hT : zw_t σ T) (hw : zt_wf T) {P : za_P} (hr : zw_r σ T (0, (zt_adv T P).1)) (hc0 : zw_cd (0, (zt_adv T P).1) = 0) (hD : zw_dd σ P.2) (hm5 : za_m P.2.1 < 5) : zq_Sp zm_M_readMore 6 [zq_O 30 0, zq_I 4] σ (zq_rx (zw_mo σ T (zt_rule T P))) := by
  refine zq_sp [some (zq_O 30 0), some (zq_I 4), none] (by decide +kernel) rfl (Nat.le_of_ble_eq_true rfl) (fun ν => ?_)
  refine gq_iload_n dz_M_readMore_0 rfl ?_
  refine gq_if_ne (tgt := 65) dz_M_readMore_1 rfl (fun h1 => ?_) (fun h1 => ?_)
  · skip
    refine gq_iload_n dz_M_readMore_65 rfl ?_
    refine gq_iconst (v := 1) dz_M_readMore_66 rfl ?_
    refine gq_icmp_ne (tgt := 102) dz_M_readMore_67 rfl (fun h67 => ?_) (fun h67 => ?_)
    · skip
      refine gq_iload_n dz_M_readMore_102 rfl ?_
      refine gq_iconst (v := 2) dz_M_readMore_103 rfl ?_
      refine gq_icmp_ne (tgt := 133) dz_M_readMore_104 rfl (fun h104 => ?_) (fun h104 => ?_)
      · skip
        refine gq_iload_n dz_M_readMore_133 rfl ?_
        refine gq_iconst (v := 3) dz_M_readMore_134 rfl ?_
        refine gq_icmp_ne (tgt := 183) dz_M_readMore_135 rfl (fun h135 => ?_) (fun h135 => ?_)
        · skip
          refine gq_aload_n dz_M_readMore_183 rfl ?_
          refine gq_cVX (sp_M_readRule hT hw hr hc0 hD hm5) zw_M_readRule zl_M_140 dz_M_readMore_184 rfl rfl rfl (by decide) rfl rfl (Nat.le_of_ble_eq_true rfl) (fun τ184 hq184 => ?_)
          refine gw_vretP dz_M_readMore_187 rfl ?_
          · exact hq184
        · skip
          exact absurd h135 (by decide)
      · skip
        exact absurd h104 (by decide)
    · skip
      exact absurd h67 (by decide)
  · skip
    exact absurd h1 (by decide)
