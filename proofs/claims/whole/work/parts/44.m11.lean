theorem zn_pg.copy {σ τ : zq_T} {a b : Nat} {A : za_D} (h : zn_pg σ a A) (hm : za_m A ≤ 5) (hc : ∀ k, k < 28 → τ.1 31 0 (b + k) = σ.1 31 0 (a + k)) : zn_pg τ b A :=
  ⟨fun i hi => ⟨(hc _ (by omega)).trans (h.1 i hi).1, (hc _ (by omega)).trans (h.1 i hi).2⟩, (hc _ (by omega)).trans h.2.1, fun f hf => (hc _ (by omega)).trans (h.2.2.1 f hf), fun k hk => ⟨(hc _ (by omega)).trans (h.2.2.2 k hk).1, (hc _ (by omega)).trans (h.2.2.2 k hk).2⟩⟩

set_option maxHeartbeats 4000000 in
theorem sp_M_copies {σ : zq_T} {a b : Nat} (ha : a ≤ 84) (hb : b ≤ 84) (hab : a + 28 ≤ b ∨ b + 28 ≤ a) : zq_Sp zm_M_copies 0 [zq_O 30 0, zq_I (nI a), zq_I (nI b)] σ (zq_rx (fun τ => zp_same b σ τ ∧ ∀ k, k < 28 → τ.1 31 0 (b + k) = σ.1 31 0 (a + k))) := by
  refine zq_sp [some (zq_O 30 0), some (zq_I (nI a)), some (zq_I (nI b)), none] (by decide +kernel) rfl (Nat.le_of_ble_eq_true rfl) (fun ν => ?_)
  refine gq_iconst (v := 0) dz_M_copies_0 rfl ?_
  refine gw_istore_n 3 dz_M_copies_1 rfl (Nat.le_of_ble_eq_true rfl) rfl ?_
  dsimp only [List.set]
  have L2 : ∀ (kf : Nat) (k : Nat) (τ : zq_T) (hkf : 28 - k < kf) (hk : k ≤ 28) (hs : zp_same b σ τ) (hc : ∀ q, q < k → τ.1 31 0 (b + q) = σ.1 31 0 (a + q)), zq_G ν zm_M_copies 0 (zq_rx (fun τ => zp_same b σ τ ∧ ∀ k, k < 28 → τ.1 31 0 (b + k) = σ.1 31 0 (a + k))) 2 [some (zq_O 30 0), some (zq_I (nI a)), some (zq_I (nI b)), some (zq_I (nI k))] [] τ := by
    intro kf
    induction kf with
    | zero => intro k τ hkf hk hs hc; exact absurd hkf (Nat.not_lt_zero _)
    | succ kf ih2 =>
      intro k τ hkf hk hs hc
      refine gq_iload_n dz_M_copies_2 rfl ?_
      refine gq_bipush (v := 28) dz_M_copies_3 rfl ?_
      refine gq_icmp_ge (tgt := 30) dz_M_copies_5 rfl (fun h5 => ?_) (fun h5 => ?_)
      · skip
        have hk28 : k = 28 := by have := (nI_leI (a := 28) (by omega) (by omega)).mp h5; omega
        refine gw_vretP dz_M_copies_30 rfl ?_
        · exact ⟨hs, fun q hq => hc q (by omega)⟩
      · skip
        have hk28 : k < 28 := (nI_ltI (b := 28) (by omega) (by omega)).mp (Int32.not_le.mp h5)
        refine gq_aload_n dz_M_copies_8 rfl ?_
        refine gq_getR 31 zf_M_7 rfl rfl dz_M_copies_9 ?_
        refine gq_iload_n dz_M_copies_12 rfl ?_
        refine gq_iload_n dz_M_copies_13 rfl ?_
        refine gq_iadd dz_M_copies_14 ?_
        rw [nI_add]
        refine gq_aload_n dz_M_copies_15 rfl ?_
        refine gq_getR 31 zf_M_7 rfl rfl dz_M_copies_16 ?_
        refine gq_iload_n dz_M_copies_19 rfl ?_
        refine gq_iload_n dz_M_copies_20 rfl ?_
        refine gq_iadd dz_M_copies_21 ?_
        rw [nI_add]
        refine gw_iald (a + k) (rfl) rfl (rfl) (Nat.le_of_ble_eq_true rfl) (by omega) dz_M_copies_22 ?_
        rw [hs.2 31 0 (a + k) (by omega)]
        refine gw_iast (b + k) (rfl) rfl (rfl) (Nat.le_of_ble_eq_true rfl) (by omega) dz_M_copies_23 ?_
        refine gw_iinc 3 (c := 1) dz_M_copies_24 rfl rfl (Nat.le_of_ble_eq_true rfl) rfl ?_
        dsimp only [List.set]
        refine gq_goto (tgt := 2) dz_M_copies_27 rfl ?_
        simp only [nI_1]
        exact zq_fewer _ (zq_sub_spec (by repeat (first | exact trivial | exact rfl | refine And.intro ?_ ?_))) (ih2 (k + 1) (zu τ 31 0 (b + k) (σ.1 31 0 (a + k))) (by omega) (by omega) (hs.up (by omega) (by omega)) (fun q hq => by rcases Nat.lt_or_ge q k with z | z; exact (zu_N (by omega)).trans (hc q z); rw [show q = k by omega]; exact zu_E))
  exact zq_fewer _ (zq_sub_spec (by repeat (first | exact trivial | exact rfl | refine And.intro ?_ ?_))) (L2 29 0 σ (by omega) (by omega) zp_same.rf (fun q hq => absurd hq (Nat.not_lt_zero q)))
