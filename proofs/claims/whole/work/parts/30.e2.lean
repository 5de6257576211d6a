/-! THE TELLER: its duchy is d -/
theorem zc_rep.frn {σ τ : zq_T} {d : Fin 5} {A : za_D} (h : zc_rep σ d A) (hs : ∀ t k, 10 ≤ t → t ≤ 20 → ¬ (t = 11 ∧ k = za_n A) → ¬ (t = 12 ∧ k = za_n A) → τ.1 t d k = σ.1 t d k) : zc_rep τ d A := by
  obtain ⟨a1, a2, a3, a4, a5, a6, a7, a8, a9⟩ := h
  refine ⟨a1, a2, ?_, ?_, ?_, ?_, ?_, ?_, ?_⟩
  · rw [hs 10 0 (by omega) (by omega) (by omega) (by omega)]; exact a3
  · rw [hs 10 1 (by omega) (by omega) (by omega) (by omega)]; exact a4
  · rw [hs 10 2 (by omega) (by omega) (by omega) (by omega)]; exact a5
  · intro i hi
    rw [hs 11 i (by omega) (by omega) (by omega) (by omega), hs 12 i (by omega) (by omega) (by omega) (by omega)]
    exact a6 i hi
  · intro i hi
    rw [hs 13 i (by omega) (by omega) (by omega) (by omega), hs 14 i (by omega) (by omega) (by omega) (by omega)]
    exact a7 i hi
  · intro i hi
    rw [hs 15 i (by omega) (by omega) (by omega) (by omega)]
    exact a8 i hi
  · intro i hi
    rw [hs 16 i (by omega) (by omega) (by omega) (by omega), hs 17 i (by omega) (by omega) (by omega) (by omega), hs 18 i (by omega) (by omega) (by omega) (by omega), hs 19 i (by omega) (by omega) (by omega) (by omega), hs 20 i (by omega) (by omega) (by omega) (by omega)]
    exact a9 i hi
theorem zq_upM {f : Nat → Fin 5 → Nat → Int32} {t t' k k' : Nat} {j j' : Fin 5} {v : Int32} (h : ¬ (t' = t ∧ k' = k)) : zq_up f t j k v t' j' k' = f t' j' k' := if_neg fun z => h ⟨z.1, z.2.2⟩
abbrev zu (σ : zq_T) (t : Nat) (j : Fin 5) (k : Nat) (v : Int32) : zq_T := (zq_up σ.1 t j k v, σ.2)
theorem zu_N {σ : zq_T} {t t' k k' : Nat} {j j' : Fin 5} {v : Int32} (h : ¬ (t' = t ∧ k' = k)) : (zu σ t j k v).1 t' j' k' = σ.1 t' j' k' := if_neg fun z => h ⟨z.1, z.2.2⟩
theorem zu_E {σ : zq_T} {t k : Nat} {j : Fin 5} {v : Int32} : (zu σ t j k v).1 t j k = v := if_pos ⟨rfl, rfl, rfl⟩
abbrev za_P : Type := za_K × za_D × Int32 × Int32
def zt_fr (d : Fin 5) (σ τ : zq_T) : Prop := τ.2 = σ.2 ∧ ∀ (t : Nat) (j : Fin 5) (k : Nat), ¬ (t = 1 ∧ 2 ≤ k ∧ k ≤ 5) → ¬ t = 3 → ¬ (10 ≤ t ∧ t ≤ 20 ∧ j = d) → τ.1 t j k = σ.1 t j k
theorem zt_fr.rf {d : Fin 5} {σ : zq_T} : zt_fr d σ σ := ⟨rfl, fun _ _ _ _ _ _ => rfl⟩
theorem zt_fr.tr {d : Fin 5} {σ τ υ : zq_T} (h : zt_fr d σ τ) (h2 : zt_fr d τ υ) : zt_fr d σ υ := ⟨h2.1.trans h.1, fun t j k q q2 q3 => (h2.2 t j k q q2 q3).trans (h.2 t j k q q2 q3)⟩
theorem zt_same.fr {d : Fin 5} {σ τ : zq_T} (h : zt_same σ τ) : zt_fr d σ τ := ⟨h.1, fun t j k q _ _ => h.2 t j k q⟩
theorem zd_same.fr {d : Fin 5} {σ τ : zq_T} (h : zd_same d σ τ) : zt_fr d σ τ := ⟨h.1, fun t j k _ _ q => h.2 t j k q⟩
theorem zt_fr.up {d : Fin 5} {σ τ : zq_T} (h : zt_fr d σ τ) {k : Nat} {j : Fin 5} {v : Int32} : zt_fr d σ (zq_up τ.1 3 j k v, τ.2) :=
  ⟨h.1, fun t' j' k' q1 q2 q3 => by
    show zq_up τ.1 3 j k v t' j' k' = σ.1 t' j' k'
    rw [← h.2 t' j' k' q1 q2 q3]
    exact if_neg fun z => q2 z.1⟩
theorem zt_fr.upd {d : Fin 5} {σ τ : zq_T} (h : zt_fr d σ τ) {t k : Nat} {v : Int32} (h1 : 10 ≤ t) (h2 : t ≤ 20) : zt_fr d σ (zq_up τ.1 t d k v, τ.2) := h.tr (zd_same.rf.up h1 h2).fr
theorem zt_fr.tp {d : Fin 5} {σ τ : zq_T} {T : za_T} (h : zt_fr d σ τ) (hT : zt_tp σ T) : zt_tp τ T := ⟨by rw [h.2 1 0 1 (by omega) (by omega) (by omega)]; exact hT.1, fun i hi => by rw [h.2 2 0 i (by omega) (by omega) (by omega)]; exact hT.2 i hi⟩
/-- all but the duchy and what is named -/
def zt_s1 (σ : zq_T) (T : za_T) (K : za_K) : Prop := zt_tp σ T ∧ zt_tk σ K ∧ zt_kw T K
def zt_st (σ : zq_T) (d : Fin 5) (T : za_T) (P : za_P) : Prop := zt_s1 σ T P.1 ∧ zc_rep σ d P.2.1 ∧ zt_pw P.2.1 ∧ σ.1 3 0 2 = P.2.2.1 ∧ σ.1 3 0 3 = P.2.2.2 ∧ σ.1 3 0 0 = 0
theorem zt_s1.up {σ : zq_T} {T : za_T} {K : za_K} (h : zt_s1 σ T K) {t : Nat} {j : Fin 5} {k : Nat} {v : Int32} (ht : 3 ≤ t) : zt_s1 (zq_up σ.1 t j k v, σ.2) T K :=
  ⟨⟨(zq_upN (by omega)).trans h.1.1, fun i hi => (zq_upN (by omega)).trans (h.1.2 i hi)⟩, ⟨(zq_upN (by omega)).trans h.2.1.1, (zq_upN (by omega)).trans h.2.1.2.1, (zq_upN (by omega)).trans h.2.1.2.2.1, fun z => (zq_upN (by omega)).trans (h.2.1.2.2.2 z)⟩, h.2.2⟩
theorem zt_s1.ds {d : Fin 5} {σ τ : zq_T} {T : za_T} {K : za_K} (h : zt_s1 σ T K) (hs : zd_same d σ τ) : zt_s1 τ T K :=
  ⟨⟨(hs.2 _ _ _ (by omega)).trans h.1.1, fun i hi => (hs.2 _ _ _ (by omega)).trans (h.1.2 i hi)⟩, ⟨(hs.2 _ _ _ (by omega)).trans h.2.1.1, (hs.2 _ _ _ (by omega)).trans h.2.1.2.1, (hs.2 _ _ _ (by omega)).trans h.2.1.2.2.1, fun z => (hs.2 _ _ _ (by omega)).trans (h.2.1.2.2.2 z)⟩, h.2.2⟩
theorem zc_rep.up {σ : zq_T} {d : Fin 5} {A : za_D} (h : zc_rep σ d A) {t : Nat} {j : Fin 5} {k : Nat} {v : Int32} (ht : t < 10) : zc_rep (zq_up σ.1 t j k v, σ.2) d A := h.keep fun t2 k2 _ _ => zq_upN (by omega)
def zt_mf (K : za_K) : Int32 := if K.2.1 = 4 then 1 else 2
def zt_adv (T : za_T) (P : za_P) : za_P := (zt_lex T P.1.1, P.2)
def zt_num (T : za_T) (lo hi : Int32) (P : za_P) : Int32 × za_P := (if ¬ (zt_adv T P).1.2.1 = 2 then zt_mf (zt_adv T P).1 else if lo ≤ (zt_adv T P).1.2.2.2 ∧ (zt_adv T P).1.2.2.2 ≤ hi then 0 else 3, zt_adv T P)
def zt_stp (T : za_T) (P : za_P) : Int32 × za_P := (if (zt_adv T P).1.2.1 = 3 then 0 else zt_mf (zt_adv T P).1, zt_adv T P)
def zt_flt (σ : zq_T) (e p : Int32) : zq_T := (zq_up (zq_up σ.1 3 0 0 e) 3 0 1 p, σ.2)
def zt_out (σ : zq_T) (d : Fin 5) (T : za_T) (r : Int32 × za_P) (τ : zq_T) : Prop := zt_fr d σ τ ∧ (r.1 = 0 → zt_st τ d T r.2) ∧ (¬ r.1 = 0 → τ.1 3 0 0 = r.1 ∧ τ.1 3 0 1 = nI r.2.1.2.2.1)
theorem zt_mf0 {K : za_K} : ¬ zt_mf K = 0 := by unfold zt_mf; split <;> decide
theorem zt_out.ok {σ τ : zq_T} {d : Fin 5} {T : za_T} {P : za_P} (hF : zt_fr d σ τ) (hS : zt_st τ d T P) : zt_out σ d T (0, P) τ := ⟨hF, fun _ => hS, fun z => absurd rfl z⟩
theorem zt_out.bad {σ τ : zq_T} {d : Fin 5} {T : za_T} {P : za_P} {e p : Int32} (hF : zt_fr d σ τ) (he : ¬ e = 0) (hp : p = nI P.1.2.2.1) : zt_out σ d T (e, P) (zt_flt τ e p) := ⟨hF.up.up, fun z => absurd z he, fun _ => ⟨(zq_upN (by omega)).trans zq_upE, zq_upE.trans hp⟩⟩
theorem zt_out.tr {σ τ υ : zq_T} {d : Fin 5} {T : za_T} {r : Int32 × za_P} (hF : zt_fr d σ τ) (h : zt_out τ d T r υ) : zt_out σ d T r υ := ⟨hF.tr h.1, h.2⟩
theorem zt_dt {e : Int32} (h : e = 0) : zb_v (decide (e = 0)) = 1 := by rw [decide_eq_true h]; rfl
theorem zt_df {e : Int32} (h : ¬ e = 0) : zb_v (decide (e = 0)) = 0 := by rw [decide_eq_false h]; rfl
theorem zt_lex_kw {T : za_T} {a : Nat} (h : a ≤ T.1) : zt_kw T (zt_lex T a) := by
  refine ⟨(zt_lex_st h).2.1, zt_lex_le h, ?_⟩
  unfold zt_lex zt_lexs
  split
  · exact Nat.zero_le 4
  · split
    · exact (by decide : 1 ≤ 4)
    · split
      · show (if _ then 2 else 4) ≤ 4
        split <;> decide
      · split <;> (first | exact (by decide : 3 ≤ 4) | exact Nat.le_refl 4)
theorem zt_st.adv {σ τ : zq_T} {d : Fin 5} {T : za_T} {P : za_P} (h : zt_st σ d T P) (hs : zt_same σ τ) (hk : zt_tk τ (zt_lex T P.1.1)) : zt_st τ d T (zt_adv T P) :=
  ⟨⟨hs.tp h.1.1, hk, zt_lex_kw h.1.2.2.2.1⟩, h.2.1.keep fun t k h1 h2 => hs.2 t d k (by omega), h.2.2.1, (hs.2 _ _ _ (by omega)).trans h.2.2.2.1, (hs.2 _ _ _ (by omega)).trans h.2.2.2.2.1, (hs.2 _ _ _ (by omega)).trans h.2.2.2.2.2⟩
def zt_most (c : Int32) : Int32 := if c = 0 then 9 else if c = 1 then 6 else if c = 2 then 4 else if c = 3 then 3 else 5
def zt_clm (T : za_T) (K : za_K) : Int32 := if zt_isW T K 5 then 0 else if zt_isW T K 6 then 1 else if zt_isW T K 1 then 2 else if zt_isW T K 7 then 3 else if zt_isW T K 8 then 4 else if zt_isW T K 9 then 5 else -4
def zt_pck (T : za_T) (K : za_K) : Int32 := if zt_isW T K 10 then 0 else if zt_isW T K 11 then 1 else if zt_isW T K 12 then 2 else -4

set_option maxHeartbeats 4000000 in
theorem sp_D_clear {σ : zq_T} {d : Fin 5} : zq_Sp zm_D_clear 0 [zq_O 10 d] σ (zq_rx (fun τ => zd_same d σ τ ∧ zc_rep τ d zt_nil)) := by
  refine zq_sp [some (zq_O 10 d), none] (by decide +kernel) rfl (Nat.le_of_ble_eq_true rfl) (fun ν => ?_)
  refine gq_aload_n dz_D_clear_0 rfl ?_
  refine gq_iconst (v := 0) dz_D_clear_1 rfl ?_
  refine gq_putI zv_D_45 rfl rfl dz_D_clear_2 ?_
  refine gq_aload_n dz_D_clear_5 rfl ?_
  refine gq_iconst (v := 0) dz_D_clear_6 rfl ?_
  refine gq_putI zv_D_49 rfl rfl dz_D_clear_7 ?_
  refine gq_aload_n dz_D_clear_10 rfl ?_
  refine gq_iconst (v := 0) dz_D_clear_11 rfl ?_
  refine gq_putI zv_D_52 rfl rfl dz_D_clear_12 ?_
  refine gq_iconst (v := 0) dz_D_clear_15 rfl ?_
  refine gw_istore_n 1 dz_D_clear_16 rfl (Nat.le_of_ble_eq_true rfl) rfl ?_
  dsimp only [List.set]
  have L17 : ∀ (kf : Nat) (n i : Nat) (τ : zq_T) (hkf : n < kf) (hn : i + n = 6) (hs : zd_same d σ τ) (h0 : τ.1 10 d 0 = 0) (h1 : τ.1 10 d 1 = 0) (h2 : τ.1 10 d 2 = 0) (hf : ∀ q, q < i → τ.1 13 d q = 0 ∧ τ.1 14 d q = 0), zq_G ν zm_D_clear 0 (zq_rx (fun τ => zd_same d σ τ ∧ zc_rep τ d zt_nil)) 17 [some (zq_O 10 d), some (zq_I (nI i))] [] τ := by
    intro kf
    induction kf with
    | zero => intro n i τ hkf hn hs h0 h1 h2 hf; exact absurd hkf (Nat.not_lt_zero _)
    | succ kf ih17 =>
      intro n i τ hkf hn hs h0 h1 h2 hf
      refine gq_iload_n dz_D_clear_17 rfl ?_
      refine gq_bipush (v := 6) dz_D_clear_18 rfl ?_
      refine gq_icmp_ge (tgt := 43) dz_D_clear_20 rfl (fun h20 => ?_) (fun h20 => ?_)
      · skip
        have hi6 : 6 ≤ i := (nI_leI (b := i) (a := 6) (by omega) (by omega)).mp h20
        refine gq_iconst (v := 0) dz_D_clear_43 rfl ?_
        refine gw_istore_n 1 dz_D_clear_44 rfl (Nat.le_of_ble_eq_true rfl) rfl ?_
        dsimp only [List.set]
        have L45 : ∀ (kf : Nat) (n i : Nat) (τ : zq_T) (hkf : n < kf) (hn : i + n = 5) (hs : zd_same d σ τ) (h0 : τ.1 10 d 0 = 0) (h1 : τ.1 10 d 1 = 0) (h2 : τ.1 10 d 2 = 0) (hf : ∀ q, q < 6 → τ.1 13 d q = 0 ∧ τ.1 14 d q = 0) (ho : ∀ q, q < i → τ.1 15 d q = 5), zq_G ν zm_D_clear 0 (zq_rx (fun τ => zd_same d σ τ ∧ zc_rep τ d zt_nil)) 45 [some (zq_O 10 d), some (zq_I (nI i))] [] τ := by
          intro kf
          induction kf with
          | zero => intro n i τ hkf hn hs h0 h1 h2 hf ho; exact absurd hkf (Nat.not_lt_zero _)
          | succ kf ih45 =>
            intro n i τ hkf hn hs h0 h1 h2 hf ho
            refine gq_iload_n dz_D_clear_45 rfl ?_
            refine gq_iconst (v := 5) dz_D_clear_46 rfl ?_
            refine gq_icmp_ge (tgt := 63) dz_D_clear_47 rfl (fun h47 => ?_) (fun h47 => ?_)
            · skip
              have hi5 : 5 ≤ i := (nI_leI (b := i) (a := 5) (by omega) (by omega)).mp h47
              refine gw_vretP dz_D_clear_63 rfl ?_
              · exact ⟨hs, Nat.zero_le 6, Nat.zero_le 5, h0, h1, h2, fun i hi => absurd hi (Nat.not_lt_zero i), hf, fun f hf2 => ho f (by omega), fun k hk => absurd hk (Nat.not_lt_zero k)⟩
            · skip
              have hi5 : i < 5 := (nI_ltI (b := 5) (by omega) (by omega)).mp (Int32.not_le.mp h47)
              refine gq_aload_n dz_D_clear_50 rfl ?_
              refine gq_getR 15 zf_D_24 rfl rfl dz_D_clear_51 ?_
              refine gq_iload_n dz_D_clear_54 rfl ?_
              refine gq_iconst (v := 5) dz_D_clear_55 rfl ?_
              refine gw_iast (i) (rfl) rfl (rfl) (Nat.le_of_ble_eq_true rfl) (by omega) dz_D_clear_56 ?_
              refine gw_iinc 1 (c := 1) dz_D_clear_57 rfl rfl (Nat.le_of_ble_eq_true rfl) rfl ?_
              dsimp only [List.set]
              rw [nI_1]
              refine gq_goto (tgt := 45) dz_D_clear_60 rfl ?_
              obtain ⟨n, rfl⟩ : ∃ n2, n = n2 + 1 := ⟨n - 1, by omega⟩
              exact zq_fewer _ (zq_sub_spec (by repeat (first | exact trivial | exact rfl | refine And.intro ?_ ?_))) (ih45 n (i + 1) (zu τ 15 d i 5) (by omega) (by omega) (hs.up (by omega) (by omega)) ((zu_N (by omega)).trans (h0)) ((zu_N (by omega)).trans (h1)) ((zu_N (by omega)).trans (h2)) (fun q hq => ⟨(zu_N (by omega)).trans ((hf q hq).1), (zu_N (by omega)).trans ((hf q hq).2)⟩) (fun q hq => by rcases Nat.lt_or_ge q i with z | z; exact (zu_N (by omega)).trans (ho q z); rw [show q = i by omega]; exact zu_E))
        exact zq_fewer _ (zq_sub_spec (by repeat (first | exact trivial | exact rfl | refine And.intro ?_ ?_))) (L45 6 5 0 _ (by omega) (by omega) hs h0 h1 h2 (fun q hq => hf q (by omega)) (fun q hq => absurd hq (Nat.not_lt_zero q)))
      · skip
        have hi6 : i < 6 := (nI_ltI (b := 6) (by omega) (by omega)).mp (Int32.not_le.mp h20)
        refine gq_aload_n dz_D_clear_23 rfl ?_
        refine gq_getR 13 zf_D_18 rfl rfl dz_D_clear_24 ?_
        refine gq_iload_n dz_D_clear_27 rfl ?_
        refine gq_iconst (v := 0) dz_D_clear_28 rfl ?_
        refine gw_iast (i) (rfl) rfl (rfl) (Nat.le_of_ble_eq_true rfl) (by omega) dz_D_clear_29 ?_
        refine gq_aload_n dz_D_clear_30 rfl ?_
        refine gq_getR 14 zf_D_21 rfl rfl dz_D_clear_31 ?_
        refine gq_iload_n dz_D_clear_34 rfl ?_
        refine gq_iconst (v := 0) dz_D_clear_35 rfl ?_
        refine gw_iast (i) (rfl) rfl (rfl) (Nat.le_of_ble_eq_true rfl) (by omega) dz_D_clear_36 ?_
        refine gw_iinc 1 (c := 1) dz_D_clear_37 rfl rfl (Nat.le_of_ble_eq_true rfl) rfl ?_
        dsimp only [List.set]
        rw [nI_1]
        refine gq_goto (tgt := 17) dz_D_clear_40 rfl ?_
        obtain ⟨n, rfl⟩ : ∃ n2, n = n2 + 1 := ⟨n - 1, by omega⟩
        exact zq_fewer _ (zq_sub_spec (by repeat (first | exact trivial | exact rfl | refine And.intro ?_ ?_))) (ih17 n (i + 1) (zu (zu τ 13 d i 0) 14 d i 0) (by omega) (by omega) ((hs.up (by omega) (by omega)).up (by omega) (by omega)) ((zu_N (by omega)).trans ((zu_N (by omega)).trans (h0))) ((zu_N (by omega)).trans ((zu_N (by omega)).trans (h1))) ((zu_N (by omega)).trans ((zu_N (by omega)).trans (h2))) (fun q hq => by rcases Nat.lt_or_ge q i with z | z; exact ⟨(zu_N (by omega)).trans ((zu_N (by omega)).trans ((hf q z).1)), (zu_N (by omega)).trans ((zu_N (by omega)).trans ((hf q z).2))⟩; rw [show q = i by omega]; exact ⟨(zu_N (by omega)).trans (zu_E), zu_E⟩))
  exact zq_fewer _ (zq_sub_spec (by repeat (first | exact trivial | exact rfl | refine And.intro ?_ ?_))) (L17 7 6 0 (zu (zu (zu σ 10 d 0 0) 10 d 1 0) 10 d 2 0) (by omega) (by omega) (((zd_same.rf.up (by omega) (by omega)).up (by omega) (by omega)).up (by omega) (by omega)) ((zu_N (by omega)).trans ((zu_N (by omega)).trans (zu_E))) ((zu_N (by omega)).trans (zu_E)) zu_E (fun q hq => absurd hq (Nat.not_lt_zero q)))
set_option maxHeartbeats 4000000 in
theorem sp_D_addOne {σ : zq_T} {d : Fin 5} {A : za_D} (hA : zc_rep σ d A) (hw : zt_pw A) (hn : za_n A < 6) {v : Int32} (hv : v = -4 ∨ ∃ q, q < za_n A ∧ v = nI q) : zq_Sp zm_D_addOne 1 [zq_O 10 d, zq_I v] σ (zq_rx (fun τ => zd_same d σ τ ∧ zc_rep τ d (zt_add A v))) := by
  refine zq_sp [some (zq_O 10 d), some (zq_I v)] (by decide +kernel) rfl (Nat.le_of_ble_eq_true rfl) (fun ν => ?_)
  refine gq_aload_n dz_D_addOne_0 rfl ?_
  refine gq_getI zf_D_45 rfl rfl dz_D_addOne_1 ?_
  rw [zc_n hA]
  refine gq_bipush (v := 6) dz_D_addOne_4 rfl ?_
  refine gq_icmp_lt (tgt := 10) dz_D_addOne_6 rfl (fun h6 => ?_) (fun h6 => ?_)
  · skip
    refine gq_aload_n dz_D_addOne_10 rfl ?_
    refine gq_getR 11 zf_D_9 rfl rfl dz_D_addOne_11 ?_
    refine gq_aload_n dz_D_addOne_14 rfl ?_
    refine gq_getI zf_D_45 rfl rfl dz_D_addOne_15 ?_
    rw [zc_n hA]
    refine gq_bipush (v := -4) dz_D_addOne_18 rfl ?_
    refine gw_iast (za_n A) (rfl) rfl (rfl) (Nat.le_of_ble_eq_true rfl) (by omega) dz_D_addOne_20 ?_
    refine gq_aload_n dz_D_addOne_21 rfl ?_
    refine gq_getR 12 zf_D_15 rfl rfl dz_D_addOne_22 ?_
    refine gq_aload_n dz_D_addOne_25 rfl ?_
    refine gq_getI zf_D_45 rfl rfl dz_D_addOne_26 ?_
    rw [zq_upN (by omega), zc_n hA]
    refine gq_iconst (v := 0) dz_D_addOne_29 rfl ?_
    refine gw_iast (za_n A) (rfl) rfl (rfl) (Nat.le_of_ble_eq_true rfl) (by omega) dz_D_addOne_30 ?_
    refine gq_aload_n dz_D_addOne_31 rfl ?_
    refine gq_iload_n dz_D_addOne_32 rfl ?_
    refine gq_cV (sp_D_isOne (A := A) (hA.frn fun t k _ _ _ _ => by rw [zq_upN (by omega), zq_upN (by omega)]) v) zw_D_isOne zl_D_55 dz_D_addOne_33 rfl rfl rfl (by decide) rfl rfl (Nat.le_of_ble_eq_true rfl) ?_
    refine gw_ifb_eq (tgt := 68) dz_D_addOne_36 rfl (fun h36 => ?_) (fun h36 => ?_)
    · skip
      have hv4 : v = -4 := by rcases hv with h | ⟨q, hq, rfl⟩; exact h; rw [zb_in_nI hq (by omega)] at h36; exact absurd h36 Bool.noConfusion
      subst hv4
      refine gq_aload_n dz_D_addOne_68 rfl ?_
      refine gq_dup dz_D_addOne_69 rfl ?_
      refine gq_getI zf_D_45 rfl rfl dz_D_addOne_70 ?_
      simp only [zq_upM (show ¬ ((10 : Nat) = 11 ∧ (0 : Nat) = za_n A) by omega), zq_upM (show ¬ ((10 : Nat) = 12 ∧ (0 : Nat) = za_n A) by omega)]
      rw [zc_n hA]
      refine gq_iconst (v := 1) dz_D_addOne_73 rfl ?_
      refine gq_iadd dz_D_addOne_74 ?_
      rw [nI_1]
      refine gq_putI zv_D_45 rfl rfl dz_D_addOne_75 ?_
      refine gw_vretP dz_D_addOne_78 rfl ?_
      · exact ⟨(((zd_same.rf.up (by omega) (by omega)).up (by omega) (by omega)).up (by omega) (by omega)), hA.add (τ := zu (zu (zu σ 11 d (za_n A) (-4)) 12 d (za_n A) 0) 10 d 0 (nI (za_n A + 1))) hw hn hv (fun t k _ _ q1 q2 q3 => by rw [zu_N (by omega), zu_N (by omega), zu_N (by omega)]) zu_E ((zu_N (by omega)).trans ((zu_N (by omega)).trans (zu_E))) (fun w hw6 => by rw [zu_N (by omega), zu_E]; rw [zt_no_bit ⟨w, hw6⟩]; rfl)⟩
    · skip
      obtain ⟨q, hq, rfl⟩ := (zb_in_iff (by omega)).mp h36
      refine gq_aload_n dz_D_addOne_39 rfl ?_
      refine gq_getR 11 zf_D_9 rfl rfl dz_D_addOne_40 ?_
      refine gq_aload_n dz_D_addOne_43 rfl ?_
      refine gq_getI zf_D_45 rfl rfl dz_D_addOne_44 ?_
      rw [zq_upN (by omega), zq_upN (by omega), zc_n hA]
      refine gq_iload_n dz_D_addOne_47 rfl ?_
      refine gw_iast (za_n A) (rfl) rfl (rfl) (Nat.le_of_ble_eq_true rfl) (by omega) dz_D_addOne_48 ?_
      refine gq_aload_n dz_D_addOne_49 rfl ?_
      refine gq_getR 12 zf_D_15 rfl rfl dz_D_addOne_50 ?_
      refine gq_aload_n dz_D_addOne_53 rfl ?_
      refine gq_getI zf_D_45 rfl rfl dz_D_addOne_54 ?_
      rw [zq_upN (by omega), zq_upN (by omega), zq_upN (by omega), zc_n hA]
      refine gq_aload_n dz_D_addOne_57 rfl ?_
      refine gq_getR 12 zf_D_15 rfl rfl dz_D_addOne_58 ?_
      refine gq_iload_n dz_D_addOne_61 rfl ?_
      refine gw_iald (q) (rfl) rfl (rfl) (Nat.le_of_ble_eq_true rfl) (by omega) dz_D_addOne_62 ?_
      rw [zq_upN (by omega), zq_upN (by omega), zq_upN (by omega)]
      refine gq_iconst (v := 1) dz_D_addOne_63 rfl ?_
      refine gq_iload_n dz_D_addOne_64 rfl ?_
      refine gq_ishl dz_D_addOne_65 ?_
      refine gq_ior dz_D_addOne_66 ?_
      refine gw_iast (za_n A) (rfl) rfl (rfl) (Nat.le_of_ble_eq_true rfl) (by omega) dz_D_addOne_67 ?_
      refine gq_aload_n dz_D_addOne_68 rfl ?_
      refine gq_dup dz_D_addOne_69 rfl ?_
      refine gq_getI zf_D_45 rfl rfl dz_D_addOne_70 ?_
      simp only [zq_upM (show ¬ ((10 : Nat) = 11 ∧ (0 : Nat) = za_n A) by omega), zq_upM (show ¬ ((10 : Nat) = 12 ∧ (0 : Nat) = za_n A) by omega)]
      rw [zc_n hA]
      refine gq_iconst (v := 1) dz_D_addOne_73 rfl ?_
      refine gq_iadd dz_D_addOne_74 ?_
      rw [nI_1]
      refine gq_putI zv_D_45 rfl rfl dz_D_addOne_75 ?_
      refine gw_vretP dz_D_addOne_78 rfl ?_
      · exact ⟨(((((zd_same.rf.up (by omega) (by omega)).up (by omega) (by omega)).up (by omega) (by omega)).up (by omega) (by omega)).up (by omega) (by omega)), hA.add (τ := zu (zu (zu (zu (zu σ 11 d (za_n A) (-4)) 12 d (za_n A) 0) 11 d (za_n A) (nI q)) 12 d (za_n A) (σ.1 12 d q ||| (1 <<< (nI q &&& 31)))) 10 d 0 (nI (za_n A + 1))) hw hn hv (fun t k _ _ q1 q2 q3 => by rw [zu_N (by omega), zu_N (by omega), zu_N (by omega), zu_N (by omega), zu_N (by omega)]) zu_E ((zu_N (by omega)).trans ((zu_N (by omega)).trans (zu_E))) (fun w hw6 => by rw [zu_N (by omega), zu_E]; rw [zt_set_bit (by omega) hw6, decide_eq_true (nI_pos (by omega)), nI_clamp (by omega), Bool.true_and, ← ((hA.2.2.2.2.2.1 q hq).2 w hw6), Bool.or_comm, show ((nI q == nI w) = decide (w = q)) from by rw [Bool.eq_iff_iff, beq_iff_eq, decide_eq_true_iff, nI_eq (by omega) (by omega)]; exact eq_comm])⟩
  · skip
    exact absurd (nI_lt (b := 6) hn (by omega)) h6
set_option maxHeartbeats 4000000 in
theorem sp_D_addRule {σ : zq_T} {d : Fin 5} {A : za_D} (hA : zc_rep σ d A) (hn : za_m A < 5) (r t c v p : Int32) : zq_Sp zm_D_addRule 0 [zq_O 10 d, zq_I r, zq_I t, zq_I c, zq_I v, zq_I p] σ (zq_rx (fun τ => zd_same d σ τ ∧ zc_rep τ d (zt_law A r t c v p))) := by
  refine zq_sp [some (zq_O 10 d), some (zq_I r), some (zq_I t), some (zq_I c), some (zq_I v), some (zq_I p)] (by decide +kernel) rfl (Nat.le_of_ble_eq_true rfl) (fun ν => ?_)
  refine gq_aload_n dz_D_addRule_0 rfl ?_
  refine gq_getI zf_D_52 rfl rfl dz_D_addRule_1 ?_
  rw [hA.2.2.2.2.1]
  refine gq_iconst (v := 5) dz_D_addRule_4 rfl ?_
  refine gq_icmp_lt (tgt := 9) dz_D_addRule_5 rfl (fun h5 => ?_) (fun h5 => ?_)
  · skip
    refine gq_aload_n dz_D_addRule_9 rfl ?_
    refine gq_getR 16 zf_D_27 rfl rfl dz_D_addRule_10 ?_
    refine gq_aload_n dz_D_addRule_13 rfl ?_
    refine gq_getI zf_D_52 rfl rfl dz_D_addRule_14 ?_
    rw [hA.2.2.2.2.1]
    refine gq_iload_n dz_D_addRule_17 rfl ?_
    refine gw_iast (za_m A) (rfl) rfl (rfl) (Nat.le_of_ble_eq_true rfl) (by omega) dz_D_addRule_18 ?_
    refine gq_aload_n dz_D_addRule_19 rfl ?_
    refine gq_getR 17 zf_D_30 rfl rfl dz_D_addRule_20 ?_
    refine gq_aload_n dz_D_addRule_23 rfl ?_
    refine gq_getI zf_D_52 rfl rfl dz_D_addRule_24 ?_
    rw [zq_upN (by omega), hA.2.2.2.2.1]
    refine gq_iload_n dz_D_addRule_27 rfl ?_
    refine gw_iast (za_m A) (rfl) rfl (rfl) (Nat.le_of_ble_eq_true rfl) (by omega) dz_D_addRule_28 ?_
    refine gq_aload_n dz_D_addRule_29 rfl ?_
    refine gq_getR 18 zf_D_33 rfl rfl dz_D_addRule_30 ?_
    refine gq_aload_n dz_D_addRule_33 rfl ?_
    refine gq_getI zf_D_52 rfl rfl dz_D_addRule_34 ?_
    rw [zq_upN (by omega), zq_upN (by omega), hA.2.2.2.2.1]
    refine gq_iload_n dz_D_addRule_37 rfl ?_
    refine gw_iast (za_m A) (rfl) rfl (rfl) (Nat.le_of_ble_eq_true rfl) (by omega) dz_D_addRule_38 ?_
    refine gq_aload_n dz_D_addRule_39 rfl ?_
    refine gq_getR 19 zf_D_36 rfl rfl dz_D_addRule_40 ?_
    refine gq_aload_n dz_D_addRule_43 rfl ?_
    refine gq_getI zf_D_52 rfl rfl dz_D_addRule_44 ?_
    rw [zq_upN (by omega), zq_upN (by omega), zq_upN (by omega), hA.2.2.2.2.1]
    refine gq_iload dz_D_addRule_47 rfl ?_
    refine gw_iast (za_m A) (rfl) rfl (rfl) (Nat.le_of_ble_eq_true rfl) (by omega) dz_D_addRule_49 ?_
    refine gq_aload_n dz_D_addRule_50 rfl ?_
    refine gq_getR 20 zf_D_39 rfl rfl dz_D_addRule_51 ?_
    refine gq_aload_n dz_D_addRule_54 rfl ?_
    refine gq_getI zf_D_52 rfl rfl dz_D_addRule_55 ?_
    rw [zq_upN (by omega), zq_upN (by omega), zq_upN (by omega), zq_upN (by omega), hA.2.2.2.2.1]
    refine gq_iload dz_D_addRule_58 rfl ?_
    refine gw_iast (za_m A) (rfl) rfl (rfl) (Nat.le_of_ble_eq_true rfl) (by omega) dz_D_addRule_60 ?_
    refine gq_aload_n dz_D_addRule_61 rfl ?_
    refine gq_dup dz_D_addRule_62 rfl ?_
    refine gq_getI zf_D_52 rfl rfl dz_D_addRule_63 ?_
    rw [zq_upN (by omega), zq_upN (by omega), zq_upN (by omega), zq_upN (by omega), zq_upN (by omega), hA.2.2.2.2.1]
    refine gq_iconst (v := 1) dz_D_addRule_66 rfl ?_
    refine gq_iadd dz_D_addRule_67 ?_
    rw [nI_1]
    refine gq_putI zv_D_52 rfl rfl dz_D_addRule_68 ?_
    refine gw_vretP dz_D_addRule_71 rfl ?_
    · exact ⟨((((((zd_same.rf.up (by omega) (by omega)).up (by omega) (by omega)).up (by omega) (by omega)).up (by omega) (by omega)).up (by omega) (by omega)).up (by omega) (by omega)), hA.law (τ := zu (zu (zu (zu (zu (zu σ 16 d (za_m A) r) 17 d (za_m A) t) 18 d (za_m A) c) 19 d (za_m A) v) 20 d (za_m A) p) 10 d 2 (nI (za_m A + 1))) hn (fun t k _ _ q1 q2 => by rw [zu_N (by omega), zu_N (by omega), zu_N (by omega), zu_N (by omega), zu_N (by omega), zu_N (by omega)]) zu_E ⟨(zu_N (by omega)).trans ((zu_N (by omega)).trans ((zu_N (by omega)).trans ((zu_N (by omega)).trans ((zu_N (by omega)).trans (zu_E))))), (zu_N (by omega)).trans ((zu_N (by omega)).trans ((zu_N (by omega)).trans ((zu_N (by omega)).trans (zu_E)))), (zu_N (by omega)).trans ((zu_N (by omega)).trans ((zu_N (by omega)).trans (zu_E))), (zu_N (by omega)).trans ((zu_N (by omega)).trans (zu_E)), (zu_N (by omega)).trans (zu_E)⟩⟩
  · skip
    exact absurd (nI_lt (b := 5) hn (by omega)) h5
set_option maxHeartbeats 4000000 in
theorem sp_E_fail {σ : zq_T} (e p : Int32) : zq_Sp zm_E_fail 0 [zq_O 3 0, zq_I e, zq_I p] σ (zq_rv (zq_I 0) (zt_flt σ e p)) := by
  refine zq_sp [some (zq_O 3 0), some (zq_I e), some (zq_I p)] (by decide +kernel) rfl (Nat.le_of_ble_eq_true rfl) (fun ν => ?_)
  refine gq_aload_n dz_E_fail_0 rfl ?_
  refine gq_iload_n dz_E_fail_1 rfl ?_
  refine gq_putI zv_E_9 rfl rfl dz_E_fail_2 ?_
  refine gq_aload_n dz_E_fail_5 rfl ?_
  refine gq_iload_n dz_E_fail_6 rfl ?_
  refine gq_putI zv_E_15 rfl rfl dz_E_fail_7 ?_
  refine gq_iconst (v := 0) dz_E_fail_10 rfl ?_
  refine gw_iret .boolean dz_E_fail_11 rfl (by first | rfl | exact zb_nar _ | exact pk_nc _) ?_ ?_
  · rfl
  · rfl
set_option maxHeartbeats 4000000 in
theorem sp_E_misplaced {σ : zq_T} {T : za_T} {K : za_K} (hK : zt_tk σ K) (hkw : zt_kw T K) : zq_Sp zm_E_misplaced 1 [zq_O 3 0, zq_O 1 0] σ (zq_rv (zq_I 0) (zt_flt σ (zt_mf K) (nI K.2.2.1))) := by
  have w3 := hkw.2.2
  refine zq_sp [some (zq_O 3 0), some (zq_O 1 0)] (by decide +kernel) rfl (Nat.le_of_ble_eq_true rfl) (fun ν => ?_)
  refine gq_aload_n dz_E_misplaced_0 rfl ?_
  refine gq_aload_n dz_E_misplaced_1 rfl ?_
  refine gq_getI zf_E_37 rfl rfl dz_E_misplaced_2 ?_
  rw [hK.2.1]
  refine gq_iconst (v := 4) dz_E_misplaced_5 rfl ?_
  refine gq_icmp_ne (tgt := 13) dz_E_misplaced_6 rfl (fun h6 => ?_) (fun h6 => ?_)
  · skip
    have hx : zt_mf K = 2 := if_neg (fun z => h6 ((zt_kk (c := 4) (by omega) (by omega)).mpr z))
    rw [hx]
    refine gq_iconst (v := 2) dz_E_misplaced_13 rfl ?_
    refine gq_aload_n dz_E_misplaced_14 rfl ?_
    refine gq_getI zf_E_99 rfl rfl dz_E_misplaced_15 ?_
    rw [hK.2.2.1]
    refine gq_cV (sp_E_fail _ _) zw_E_fail zl_E_55 dz_E_misplaced_18 rfl rfl rfl (by decide) rfl rfl (Nat.le_of_ble_eq_true rfl) ?_
    refine gw_iret .boolean dz_E_misplaced_21 rfl (by first | rfl | exact zb_nar _ | exact pk_nc _) ?_ ?_
    · rfl
    · rfl
  · skip
    have hx : zt_mf K = 1 := if_pos ((zt_kk (c := 4) (by omega) (by omega)).mp h6)
    rw [hx]
    refine gq_iconst (v := 1) dz_E_misplaced_9 rfl ?_
    refine gq_goto (tgt := 14) dz_E_misplaced_10 rfl ?_
    refine gq_aload_n dz_E_misplaced_14 rfl ?_
    refine gq_getI zf_E_99 rfl rfl dz_E_misplaced_15 ?_
    rw [hK.2.2.1]
    refine gq_cV (sp_E_fail _ _) zw_E_fail zl_E_55 dz_E_misplaced_18 rfl rfl rfl (by decide) rfl rfl (Nat.le_of_ble_eq_true rfl) ?_
    refine gw_iret .boolean dz_E_misplaced_21 rfl (by first | rfl | exact zb_nar _ | exact pk_nc _) ?_ ?_
    · rfl
    · rfl
set_option maxHeartbeats 4000000 in
theorem sp_E_stop {σ : zq_T} {d : Fin 5} {T : za_T} (hw : zt_wf T) {P : za_P} (hP : zt_st σ d T P) : zq_Sp zm_E_stop 3 [zq_O 3 0, zq_O 1 0] σ (zq_rw (zq_I (zb_v (decide ((zt_stp T P).1 = 0)))) (zt_out σ d T (zt_stp T P))) := by
  refine zq_sp [some (zq_O 3 0), some (zq_O 1 0)] (by decide +kernel) rfl (Nat.le_of_ble_eq_true rfl) (fun ν => ?_)
  refine gq_aload_n dz_E_stop_0 rfl ?_
  refine gq_cVX (sp_P_advance hP.1.1 hw (a := P.1.1) hP.1.2.1.1 hP.1.2.2.2.1) zw_P_advance zl_E_34 dz_E_stop_1 rfl rfl rfl (by decide) rfl rfl (Nat.le_of_ble_eq_true rfl) (fun τ1 hq1 => ?_)
  have hS := hP.adv hq1.1 hq1.2
  have hF : zt_fr d σ τ1 := hq1.1.fr
  have hk4 := hS.1.2.2.2.2
  refine gq_aload_n dz_E_stop_4 rfl ?_
  refine gq_getI zf_E_37 rfl rfl dz_E_stop_5 ?_
  rw [hS.1.2.1.2.1]
  refine gq_iconst (v := 3) dz_E_stop_8 rfl ?_
  refine gq_icmp_eq (tgt := 20) dz_E_stop_9 rfl (fun h9 => ?_) (fun h9 => ?_)
  · skip
    have h9 := (zt_kk (c := 3) (by omega) (by omega)).mp h9
    have hx : zt_stp T P = (0, zt_adv T P) := by rw [zt_stp, if_pos h9]
    rw [hx]
    refine gq_iconst (v := 1) dz_E_stop_20 rfl ?_
    refine gq_goto (tgt := 25) dz_E_stop_21 rfl ?_
    refine gw_iretP .boolean dz_E_stop_25 rfl (by first | rfl | exact zb_nar _ | exact pk_nc _) ?_ ?_
    · exact (zt_dt rfl).symm
    · exact zt_out.ok hF hS
  · skip
    have hx : zt_stp T P = (zt_mf (zt_adv T P).1, zt_adv T P) := by rw [zt_stp, if_neg (fun z => h9 (by rw [z]; rfl))]
    rw [hx]
    refine gq_aload_n dz_E_stop_12 rfl ?_
    refine gq_aload_n dz_E_stop_13 rfl ?_
    refine gq_cV (sp_E_misplaced hS.1.2.1 hS.1.2.2) zw_E_misplaced zl_E_92 dz_E_stop_14 rfl rfl rfl (by decide) rfl rfl (Nat.le_of_ble_eq_true rfl) ?_
    refine gq_if_eq (tgt := 24) dz_E_stop_17 rfl (fun h17 => ?_) (fun h17 => ?_)
    · skip
      refine gq_iconst (v := 0) dz_E_stop_24 rfl ?_
      refine gw_iretP .boolean dz_E_stop_25 rfl (by first | rfl | exact zb_nar _ | exact pk_nc _) ?_ ?_
      · exact (zt_df zt_mf0).symm
      · exact zt_out.bad hF zt_mf0 rfl
    · skip
      exact absurd rfl h17
set_option maxHeartbeats 4000000 in
theorem sp_E_number {σ : zq_T} {d : Fin 5} {T : za_T} (hw : zt_wf T) {P : za_P} (hP : zt_st σ d T P) (lo hi : Int32) : zq_Sp zm_E_number 3 [zq_O 3 0, zq_O 1 0, zq_I lo, zq_I hi] σ (zq_rw (zq_I (zb_v (decide ((zt_num T lo hi P).1 = 0)))) (zt_out σ d T (zt_num T lo hi P))) := by
  refine zq_sp [some (zq_O 3 0), some (zq_O 1 0), some (zq_I lo), some (zq_I hi)] (by decide +kernel) rfl (Nat.le_of_ble_eq_true rfl) (fun ν => ?_)
  refine gq_aload_n dz_E_number_0 rfl ?_
  refine gq_cVX (sp_P_advance hP.1.1 hw (a := P.1.1) hP.1.2.1.1 hP.1.2.2.2.1) zw_P_advance zl_E_34 dz_E_number_1 rfl rfl rfl (by decide) rfl rfl (Nat.le_of_ble_eq_true rfl) (fun τ1 hq1 => ?_)
  have hS := hP.adv hq1.1 hq1.2
  have hF : zt_fr d σ τ1 := hq1.1.fr
  have hk4 := hS.1.2.2.2.2
  refine gq_aload_n dz_E_number_4 rfl ?_
  refine gq_getI zf_E_37 rfl rfl dz_E_number_5 ?_
  rw [hS.1.2.1.2.1]
  refine gq_iconst (v := 2) dz_E_number_8 rfl ?_
  refine gq_icmp_eq (tgt := 18) dz_E_number_9 rfl (fun h9 => ?_) (fun h9 => ?_)
  · skip
    have h9 := (zt_kk (c := 2) (by omega) (by omega)).mp h9
    refine gq_aload_n dz_E_number_18 rfl ?_
    refine gq_getI zf_E_102 rfl rfl dz_E_number_19 ?_
    rw [hS.1.2.1.2.2.2 h9]
    refine gq_iload_n dz_E_number_22 rfl ?_
    refine gq_icmp_lt (tgt := 34) dz_E_number_23 rfl (fun h23 => ?_) (fun h23 => ?_)
    · skip
      have hx : zt_num T lo hi P = (3, zt_adv T P) := by rw [zt_num, if_neg (fun z => z h9), if_neg (fun z => absurd z.1 (Int32.not_le.mpr h23))]
      rw [hx]
      refine gq_aload_n dz_E_number_34 rfl ?_
      refine gq_iconst (v := 3) dz_E_number_35 rfl ?_
      refine gq_aload_n dz_E_number_36 rfl ?_
      refine gq_getI zf_E_99 rfl rfl dz_E_number_37 ?_
      rw [hS.1.2.1.2.2.1]
      refine gq_cV (sp_E_fail _ _) zw_E_fail zl_E_55 dz_E_number_40 rfl rfl rfl (by decide) rfl rfl (Nat.le_of_ble_eq_true rfl) ?_
      refine gq_if_eq (tgt := 50) dz_E_number_43 rfl (fun h43 => ?_) (fun h43 => ?_)
      · skip
        refine gq_iconst (v := 0) dz_E_number_50 rfl ?_
        refine gw_iretP .boolean dz_E_number_51 rfl (by first | rfl | exact zb_nar _ | exact pk_nc _) ?_ ?_
        · exact (zt_df (e := 3) (by decide)).symm
        · exact zt_out.bad hF (by decide) rfl
      · skip
        exact absurd rfl h43
    · skip
      refine gq_aload_n dz_E_number_26 rfl ?_
      refine gq_getI zf_E_102 rfl rfl dz_E_number_27 ?_
      rw [hS.1.2.1.2.2.2 h9]
      refine gq_iload_n dz_E_number_30 rfl ?_
      refine gq_icmp_le (tgt := 46) dz_E_number_31 rfl (fun h31 => ?_) (fun h31 => ?_)
      · skip
        have hx : zt_num T lo hi P = (0, zt_adv T P) := by rw [zt_num, if_neg (fun z => z h9), if_pos ⟨Int32.not_lt.mp h23, h31⟩]
        rw [hx]
        refine gq_iconst (v := 1) dz_E_number_46 rfl ?_
        refine gq_goto (tgt := 51) dz_E_number_47 rfl ?_
        refine gw_iretP .boolean dz_E_number_51 rfl (by first | rfl | exact zb_nar _ | exact pk_nc _) ?_ ?_
        · exact (zt_dt rfl).symm
        · exact zt_out.ok hF hS
      · skip
        have hx : zt_num T lo hi P = (3, zt_adv T P) := by rw [zt_num, if_neg (fun z => z h9), if_neg (fun z => h31 z.2)]
        rw [hx]
        refine gq_aload_n dz_E_number_34 rfl ?_
        refine gq_iconst (v := 3) dz_E_number_35 rfl ?_
        refine gq_aload_n dz_E_number_36 rfl ?_
        refine gq_getI zf_E_99 rfl rfl dz_E_number_37 ?_
        rw [hS.1.2.1.2.2.1]
        refine gq_cV (sp_E_fail _ _) zw_E_fail zl_E_55 dz_E_number_40 rfl rfl rfl (by decide) rfl rfl (Nat.le_of_ble_eq_true rfl) ?_
        refine gq_if_eq (tgt := 50) dz_E_number_43 rfl (fun h43 => ?_) (fun h43 => ?_)
        · skip
          refine gq_iconst (v := 0) dz_E_number_50 rfl ?_
          refine gw_iretP .boolean dz_E_number_51 rfl (by first | rfl | exact zb_nar _ | exact pk_nc _) ?_ ?_
          · exact (zt_df (e := 3) (by decide)).symm
          · exact zt_out.bad hF (by decide) rfl
        · skip
          exact absurd rfl h43
  · skip
    have hx : zt_num T lo hi P = (zt_mf (zt_adv T P).1, zt_adv T P) := by rw [zt_num, if_pos (fun z => h9 (by rw [z]; rfl))]
    rw [hx]
    refine gq_aload_n dz_E_number_12 rfl ?_
    refine gq_aload_n dz_E_number_13 rfl ?_
    refine gq_cV (sp_E_misplaced hS.1.2.1 hS.1.2.2) zw_E_misplaced zl_E_92 dz_E_number_14 rfl rfl rfl (by decide) rfl rfl (Nat.le_of_ble_eq_true rfl) ?_
    refine gw_iretP .boolean dz_E_number_17 rfl (by first | rfl | exact zb_nar _ | exact pk_nc _) ?_ ?_
    · exact (zt_df zt_mf0).symm
    · exact zt_out.bad hF zt_mf0 rfl
set_option maxHeartbeats 4000000 in
theorem sp_E_mostOf {σ : zq_T} (c : Int32) : zq_Sp zm_E_mostOf 0 [zq_I c] σ (zq_rv (zq_I (zt_most c)) σ) := by
  refine zq_sp [some (zq_I c)] (by decide +kernel) rfl (Nat.le_of_ble_eq_true rfl) (fun ν => ?_)
  refine gq_iload_n dz_E_mostOf_0 rfl ?_
  by_cases hs1_0 : c = 0
  · rw [hs1_0]
    refine gq_tin (off := 31) (tgt := 32) dz_E_mostOf_1 (by decide) (by decide) rfl rfl ?_
    refine gq_bipush (v := 9) dz_E_mostOf_32 rfl ?_
    refine gw_iret .int dz_E_mostOf_34 rfl (by first | rfl | exact zb_nar _ | exact pk_nc _) ?_ ?_
    · simp [zt_most, *]
    · rfl
  · skip
    by_cases hs1_1 : c = 1
    · rw [hs1_1]
      refine gq_tin (off := 34) (tgt := 35) dz_E_mostOf_1 (by decide) (by decide) rfl rfl ?_
      refine gq_bipush (v := 6) dz_E_mostOf_35 rfl ?_
      refine gw_iret .int dz_E_mostOf_37 rfl (by first | rfl | exact zb_nar _ | exact pk_nc _) ?_ ?_
      · simp [zt_most, *]
      · rfl
    · skip
      by_cases hs1_2 : c = 2
      · rw [hs1_2]
        refine gq_tin (off := 37) (tgt := 38) dz_E_mostOf_1 (by decide) (by decide) rfl rfl ?_
        refine gq_iconst (v := 4) dz_E_mostOf_38 rfl ?_
        refine gw_iret .int dz_E_mostOf_39 rfl (by first | rfl | exact zb_nar _ | exact pk_nc _) ?_ ?_
        · simp [zt_most, *]
        · rfl
      · skip
        by_cases hs1_3 : c = 3
        · rw [hs1_3]
          refine gq_tin (off := 39) (tgt := 40) dz_E_mostOf_1 (by decide) (by decide) rfl rfl ?_
          refine gq_iconst (v := 3) dz_E_mostOf_40 rfl ?_
          refine gw_iret .int dz_E_mostOf_41 rfl (by first | rfl | exact zb_nar _ | exact pk_nc _) ?_ ?_
          · simp [zt_most, *]
          · rfl
        · skip
          refine gq_tout (tgt := 42) dz_E_mostOf_1 (by have := zq_ne hs1_0; have h_0 := zq_ne hs1_0; have h_1 := zq_ne hs1_1; have h_2 := zq_ne hs1_2; have h_3 := zq_ne hs1_3; simp at *; omega) rfl ?_
          refine gq_iconst (v := 5) dz_E_mostOf_42 rfl ?_
          refine gw_iret .int dz_E_mostOf_43 rfl (by first | rfl | exact zb_nar _ | exact pk_nc _) ?_ ?_
          · simp [zt_most, *]
          · rfl
set_option maxHeartbeats 4000000 in
theorem sp_E_claimNamed {σ : zq_T} {T : za_T} (hT : zt_tp σ T) (hw : zt_wf T) {K : za_K} (hK : zt_tk σ K) (hkw : zt_kw T K) : zq_Sp zm_E_claimNamed 5 [zq_O 1 0] σ (zq_rv (zq_I (zt_clm T K)) σ) := by
  refine zq_sp [some (zq_O 1 0)] (by decide +kernel) rfl (Nat.le_of_ble_eq_true rfl) (fun ν => ?_)
  refine gq_aload_n dz_E_claimNamed_0 rfl ?_
  refine gq_ldcS (i := 5) rfl rfl dz_E_claimNamed_1 ?_
  refine gq_cV (sp_P_isWord hT hw hK hkw (i := 5) (by decide)) zw_P_isWord zl_E_65 dz_E_claimNamed_3 rfl rfl rfl (by decide) rfl rfl (Nat.le_of_ble_eq_true rfl) ?_
  refine gw_ifb_eq (tgt := 11) dz_E_claimNamed_6 rfl (fun h6 => ?_) (fun h6 => ?_)
  · skip
    refine gq_aload_n dz_E_claimNamed_11 rfl ?_
    refine gq_ldcS (i := 6) rfl rfl dz_E_claimNamed_12 ?_
    refine gq_cV (sp_P_isWord hT hw hK hkw (i := 6) (by decide)) zw_P_isWord zl_E_65 dz_E_claimNamed_14 rfl rfl rfl (by decide) rfl rfl (Nat.le_of_ble_eq_true rfl) ?_
    refine gw_ifb_eq (tgt := 22) dz_E_claimNamed_17 rfl (fun h17 => ?_) (fun h17 => ?_)
    · skip
      refine gq_aload_n dz_E_claimNamed_22 rfl ?_
      refine gq_ldcS (i := 1) rfl rfl dz_E_claimNamed_23 ?_
      refine gq_cV (sp_P_isWord hT hw hK hkw (i := 1) (by decide)) zw_P_isWord zl_E_65 dz_E_claimNamed_25 rfl rfl rfl (by decide) rfl rfl (Nat.le_of_ble_eq_true rfl) ?_
      refine gw_ifb_eq (tgt := 33) dz_E_claimNamed_28 rfl (fun h28 => ?_) (fun h28 => ?_)
      · skip
        refine gq_aload_n dz_E_claimNamed_33 rfl ?_
        refine gq_ldcS (i := 7) rfl rfl dz_E_claimNamed_34 ?_
        refine gq_cV (sp_P_isWord hT hw hK hkw (i := 7) (by decide)) zw_P_isWord zl_E_65 dz_E_claimNamed_36 rfl rfl rfl (by decide) rfl rfl (Nat.le_of_ble_eq_true rfl) ?_
        refine gw_ifb_eq (tgt := 44) dz_E_claimNamed_39 rfl (fun h39 => ?_) (fun h39 => ?_)
        · skip
          refine gq_aload_n dz_E_claimNamed_44 rfl ?_
          refine gq_ldcS (i := 8) rfl rfl dz_E_claimNamed_45 ?_
          refine gq_cV (sp_P_isWord hT hw hK hkw (i := 8) (by decide)) zw_P_isWord zl_E_65 dz_E_claimNamed_47 rfl rfl rfl (by decide) rfl rfl (Nat.le_of_ble_eq_true rfl) ?_
          refine gw_ifb_eq (tgt := 55) dz_E_claimNamed_50 rfl (fun h50 => ?_) (fun h50 => ?_)
          · skip
            refine gq_aload_n dz_E_claimNamed_55 rfl ?_
            refine gq_ldcS (i := 9) rfl rfl dz_E_claimNamed_56 ?_
            refine gq_cV (sp_P_isWord hT hw hK hkw (i := 9) (by decide)) zw_P_isWord zl_E_65 dz_E_claimNamed_58 rfl rfl rfl (by decide) rfl rfl (Nat.le_of_ble_eq_true rfl) ?_
            refine gw_ifb_eq (tgt := 68) dz_E_claimNamed_61 rfl (fun h61 => ?_) (fun h61 => ?_)
            · skip
              refine gq_bipush (v := -4) dz_E_claimNamed_68 rfl ?_
              refine gw_iret .int dz_E_claimNamed_70 rfl (by first | rfl | exact zb_nar _ | exact pk_nc _) ?_ ?_
              · simp [zt_clm, *]
              · rfl
            · skip
              refine gq_iconst (v := 5) dz_E_claimNamed_64 rfl ?_
              refine gq_goto (tgt := 70) dz_E_claimNamed_65 rfl ?_
              refine gw_iret .int dz_E_claimNamed_70 rfl (by first | rfl | exact zb_nar _ | exact pk_nc _) ?_ ?_
              · simp [zt_clm, *]
              · rfl
          · skip
            refine gq_iconst (v := 4) dz_E_claimNamed_53 rfl ?_
            refine gw_iret .int dz_E_claimNamed_54 rfl (by first | rfl | exact zb_nar _ | exact pk_nc _) ?_ ?_
            · simp [zt_clm, *]
            · rfl
        · skip
          refine gq_iconst (v := 3) dz_E_claimNamed_42 rfl ?_
          refine gw_iret .int dz_E_claimNamed_43 rfl (by first | rfl | exact zb_nar _ | exact pk_nc _) ?_ ?_
          · simp [zt_clm, *]
          · rfl
      · skip
        refine gq_iconst (v := 2) dz_E_claimNamed_31 rfl ?_
        refine gw_iret .int dz_E_claimNamed_32 rfl (by first | rfl | exact zb_nar _ | exact pk_nc _) ?_ ?_
        · simp [zt_clm, *]
        · rfl
    · skip
      refine gq_iconst (v := 1) dz_E_claimNamed_20 rfl ?_
      refine gw_iret .int dz_E_claimNamed_21 rfl (by first | rfl | exact zb_nar _ | exact pk_nc _) ?_ ?_
      · simp [zt_clm, *]
      · rfl
  · skip
    refine gq_iconst (v := 0) dz_E_claimNamed_9 rfl ?_
    refine gw_iret .int dz_E_claimNamed_10 rfl (by first | rfl | exact zb_nar _ | exact pk_nc _) ?_ ?_
    · simp [zt_clm, *]
    · rfl
set_option maxHeartbeats 4000000 in
theorem sp_E_pickNamed {σ : zq_T} {T : za_T} (hT : zt_tp σ T) (hw : zt_wf T) {K : za_K} (hK : zt_tk σ K) (hkw : zt_kw T K) : zq_Sp zm_E_pickNamed 5 [zq_O 1 0] σ (zq_rv (zq_I (zt_pck T K)) σ) := by
  refine zq_sp [some (zq_O 1 0)] (by decide +kernel) rfl (Nat.le_of_ble_eq_true rfl) (fun ν => ?_)
  refine gq_aload_n dz_E_pickNamed_0 rfl ?_
  refine gq_ldcS (i := 10) rfl rfl dz_E_pickNamed_1 ?_
  refine gq_cV (sp_P_isWord hT hw hK hkw (i := 10) (by decide)) zw_P_isWord zl_E_65 dz_E_pickNamed_3 rfl rfl rfl (by decide) rfl rfl (Nat.le_of_ble_eq_true rfl) ?_
  refine gw_ifb_eq (tgt := 11) dz_E_pickNamed_6 rfl (fun h6 => ?_) (fun h6 => ?_)
  · skip
    refine gq_aload_n dz_E_pickNamed_11 rfl ?_
    refine gq_ldcS (i := 11) rfl rfl dz_E_pickNamed_12 ?_
    refine gq_cV (sp_P_isWord hT hw hK hkw (i := 11) (by decide)) zw_P_isWord zl_E_65 dz_E_pickNamed_14 rfl rfl rfl (by decide) rfl rfl (Nat.le_of_ble_eq_true rfl) ?_
    refine gw_ifb_eq (tgt := 22) dz_E_pickNamed_17 rfl (fun h17 => ?_) (fun h17 => ?_)
    · skip
      refine gq_aload_n dz_E_pickNamed_22 rfl ?_
      refine gq_ldcS (i := 12) rfl rfl dz_E_pickNamed_23 ?_
      refine gq_cV (sp_P_isWord hT hw hK hkw (i := 12) (by decide)) zw_P_isWord zl_E_65 dz_E_pickNamed_25 rfl rfl rfl (by decide) rfl rfl (Nat.le_of_ble_eq_true rfl) ?_
      refine gw_ifb_eq (tgt := 35) dz_E_pickNamed_28 rfl (fun h28 => ?_) (fun h28 => ?_)
      · skip
        refine gq_bipush (v := -4) dz_E_pickNamed_35 rfl ?_
        refine gw_iret .int dz_E_pickNamed_37 rfl (by first | rfl | exact zb_nar _ | exact pk_nc _) ?_ ?_
        · simp [zt_pck, *]
        · rfl
      · skip
        refine gq_iconst (v := 2) dz_E_pickNamed_31 rfl ?_
        refine gq_goto (tgt := 37) dz_E_pickNamed_32 rfl ?_
        refine gw_iret .int dz_E_pickNamed_37 rfl (by first | rfl | exact zb_nar _ | exact pk_nc _) ?_ ?_
        · simp [zt_pck, *]
        · rfl
    · skip
      refine gq_iconst (v := 1) dz_E_pickNamed_20 rfl ?_
      refine gw_iret .int dz_E_pickNamed_21 rfl (by first | rfl | exact zb_nar _ | exact pk_nc _) ?_ ?_
      · simp [zt_pck, *]
      · rfl
  · skip
    refine gq_iconst (v := 0) dz_E_pickNamed_9 rfl ?_
    refine gw_iret .int dz_E_pickNamed_10 rfl (by first | rfl | exact zb_nar _ | exact pk_nc _) ?_ ?_
    · simp [zt_pck, *]
    · rfl
