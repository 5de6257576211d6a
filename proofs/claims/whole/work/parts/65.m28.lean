/-! THE MODEL: a number, a person, a claim -/
def zw_ck (lo hi sm : Int32) (r : Int32 × za_K) : Int32 × za_K := if ¬ zw_cd r = 0 then r else if ¬ r.2.2.1 = 2 then (2, r.2) else if ¬ (lo ≤ r.2.2.2.2 ∧ r.2.2.2.2 ≤ hi) then (3, r.2) else if zb_bit sm r.2.2.2.2 then (4, r.2) else r
def zw_ckv (lo hi sm : Int32) (r : Int32 × za_K) : Int32 := if zw_cd (zw_ck lo hi sm r) = 0 then r.2.2.2.2 else lo
theorem zn_in3232 {x lo hi : Int32} : zn_in x.toInt64 lo.toInt64 hi.toInt64 = decide (lo ≤ x ∧ x ≤ hi) := by
  rw [zn_in32, Int32.toInt_toInt64, Int32.toInt_toInt64]
  refine decide_eq_decide.mpr ?_
  rw [Int32.le_iff_toInt_le, Int32.le_iff_toInt_le]
theorem zw_fl0 {e : Int32} {r : Int32 × za_K} (h : zw_cd r = 0) : zw_fl e r = (e, r.2) := if_pos h
theorem zw_fl1 {e : Int32} {r : Int32 × za_K} (h : ¬ zw_cd r = 0) : zw_fl e r = r := if_neg h
theorem zw_cd0 {r : Int32 × za_K} (h : zw_cd r = 0) : r.1 = 0 ∧ ¬ r.2.2.1 = 4 := by
  unfold zw_cd at h
  by_cases h1 : r.1 = 0
  · rw [if_pos h1] at h
    refine ⟨h1, fun z => ?_⟩
    rw [if_pos z] at h
    exact absurd h (by decide)
  · rw [if_neg h1] at h
    exact absurd h h1
theorem zw_cde {e : Int32} {K : za_K} (h : ¬ e = 0) : zw_cd (e, K) = e := if_neg h
def zw_fp (σ τ : zq_T) : Prop := τ.2 = σ.2 ∧ ∀ (t : Nat) (j : Fin 5) (k : Nat), ¬ (t = 30 ∧ ((15 ≤ k ∧ k ≤ 20) ∨ k = 11)) → τ.1 t j k = σ.1 t j k
theorem zw_fp.rf {σ : zq_T} : zw_fp σ σ := ⟨rfl, fun _ _ _ _ => rfl⟩
theorem zw_fp.tr {σ τ υ : zq_T} (h : zw_fp σ τ) (h2 : zw_fp τ υ) : zw_fp σ υ := ⟨h2.1.trans h.1, fun t j k q => (h2.2 t j k q).trans (h.2 t j k q)⟩
theorem zw_fs.p {σ τ : zq_T} (h : zw_fs σ τ) : zw_fp σ τ := ⟨h.1, fun t j k q => h.2 t j k (by omega)⟩
theorem zw_fp.up {σ τ : zq_T} (h : zw_fp σ τ) {j : Fin 5} {v : Int32} : zw_fp σ (zq_up τ.1 30 j 11 v, τ.2) :=
  ⟨h.1, fun t' j' k' q => by
    show zq_up τ.1 30 j 11 v t' j' k' = σ.1 t' j' k'
    rw [← h.2 t' j' k' q]
    exact if_neg fun z => q (by omega)⟩
theorem zw_t.fp {σ τ : zq_T} {T : za_T} (h : zw_t σ T) (hs : zw_fp σ τ) : zw_t τ T := ⟨(hs.2 _ _ _ (by omega)).trans h.1, fun i hi => (hs.2 _ _ _ (by omega)).trans (h.2.1 i hi), h.2.2.keep fun t k _ _ => hs.2 _ _ _ (by omega)⟩
theorem zw_r.keep {σ τ : zq_T} {T : za_T} {r : Int32 × za_K} (h : zw_r σ T r) (he : ∀ k, 15 ≤ k → k ≤ 20 → τ.1 30 0 k = σ.1 30 0 k) : zw_r τ T r := by
  obtain ⟨h1, h2, h3, h4, h5, h6, ⟨k, k1, k2, k3, k4⟩, h8⟩ := h
  exact ⟨h1, h2, (he 15 (by omega) (by omega)).trans h3, fun z => (he 16 (by omega) (by omega)).trans (h4 z), (he 17 (by omega) (by omega)).trans h5, (he 18 (by omega) (by omega)).trans h6, ⟨k, k1, (he 19 (by omega) (by omega)).trans k2, k3, k4⟩, fun z => (he 20 (by omega) (by omega)).trans (h8 z)⟩
/-- names are apart -/
theorem zw_wdf : ∀ i j : Fin 13, zq_len.getD i.val 0 = zq_len.getD j.val 0 → (∀ k : Fin 10, k.val < zq_len.getD i.val 0 → zt_wd i.val k.val = zt_wd j.val k.val) → i.val = j.val := by decide +kernel
theorem zt_isW_uni {T : za_T} {K : za_K} {i j : Nat} (hi : i < 13) (hj : j < 13) (h1 : zt_isW T K i = true) (h2 : zt_isW T K j = true) : i = j := by
  have a := of_decide_eq_true h1
  have b := of_decide_eq_true h2
  refine zw_wdf ⟨i, hi⟩ ⟨j, hj⟩ (a.2.1.symm.trans b.2.1) (fun k hk => ?_)
  have hk2 : k.val < zq_len.getD j 0 := by rw [← a.2.1.symm.trans b.2.1]; exact hk
  exact (a.2.2 k.val hk).symm.trans (b.2.2 k.val hk2)
theorem zw_nmf_spec {T : za_T} {K : za_K} : ∀ k n, (zw_nmf T K k n = -4 ∧ ∀ m, n ≤ m → m < n + k → zt_isW T K m = false) ∨ ∃ m, n ≤ m ∧ m < n + k ∧ zw_nmf T K k n = nI m ∧ zt_isW T K m = true
  | 0, n => Or.inl ⟨rfl, fun m a b => by omega⟩
  | k + 1, n => by
    rw [zw_nmf]
    rcases hW : zt_isW T K n with _ | _
    · rcases zw_nmf_spec (T := T) (K := K) k (n + 1) with ⟨h1, h2⟩ | ⟨m, a, b, c, d⟩
      · refine Or.inl ⟨h1, fun m a b => ?_⟩
        rcases Nat.eq_or_lt_of_le a with z | z
        · rw [← z]; exact hW
        · exact h2 m z (by omega)
      · exact Or.inr ⟨m, by omega, by omega, c, d⟩
    · exact Or.inr ⟨n, Nat.le_refl _, by omega, rfl, hW⟩
theorem zw_name_spec (T : za_T) (K : za_K) : (zw_name T K = -4 ∧ ∀ m, m < 13 → zt_isW T K m = false) ∨ ∃ n, n < 13 ∧ zw_name T K = nI n ∧ ∀ m, m < 13 → zt_isW T K m = decide (m = n) := by
  rcases zw_nmf_spec (T := T) (K := K) 13 0 with ⟨h1, h2⟩ | ⟨n, a, b, c, d⟩
  · exact Or.inl ⟨h1, fun m hm => h2 m (Nat.zero_le _) (by omega)⟩
  · refine Or.inr ⟨n, by omega, c, fun m hm => ?_⟩
    rcases hW : zt_isW T K m with _ | _
    · exact (decide_eq_false (fun z => by rw [z, d] at hW; cases hW)).symm
    · exact (decide_eq_true (zt_isW_uni hm (by omega) hW d)).symm
def zw_clf (x : Int32) : Int32 := if x = 1 then 2 else if x = 5 then x - 5 else if x = 6 then x - 5 else if zn_in x.toInt64 7 9 then x - 5 + 1 else -4
theorem zw_clff : ∀ n : Fin 13, zw_clf (nI n.val) = if decide (5 = n.val) then 0 else if decide (6 = n.val) then 1 else if decide (1 = n.val) then 2 else if decide (7 = n.val) then 3 else if decide (8 = n.val) then 4 else if decide (9 = n.val) then 5 else -4 := by decide +kernel
theorem zw_cl_eq (T : za_T) (K : za_K) : zw_clf (zw_name T K) = zt_clm T K := by
  unfold zt_clm
  rcases zw_name_spec T K with ⟨h1, h2⟩ | ⟨n, hn, h1, h2⟩
  · rw [h1, h2 5 (by omega), h2 6 (by omega), h2 1 (by omega), h2 7 (by omega), h2 8 (by omega), h2 9 (by omega)]; rfl
  · rw [h1, h2 5 (by omega), h2 6 (by omega), h2 1 (by omega), h2 7 (by omega), h2 8 (by omega), h2 9 (by omega)]
    exact zw_clff ⟨n, hn⟩
theorem zw_pkff : ∀ n : Fin 13, (nI n.val - 10 < 0 ↔ (if decide (10 = n.val) then (0 : Int32) else if decide (11 = n.val) then 1 else if decide (12 = n.val) then 2 else -4) = -4) ∧ (¬ nI n.val - 10 < 0 → nI n.val - 10 = if decide (10 = n.val) then (0 : Int32) else if decide (11 = n.val) then 1 else if decide (12 = n.val) then 2 else -4) := by decide +kernel
theorem zw_pk_eq (T : za_T) (K : za_K) : (zw_name T K - 10 < 0 ↔ zt_pck T K = -4) ∧ (¬ zw_name T K - 10 < 0 → zw_name T K - 10 = zt_pck T K) := by
  unfold zt_pck
  rcases zw_name_spec T K with ⟨h1, h2⟩ | ⟨n, hn, h1, h2⟩
  · rw [h1, h2 10 (by omega), h2 11 (by omega), h2 12 (by omega)]
    exact ⟨⟨fun _ => rfl, fun _ => by decide⟩, fun z => absurd (show (-4 : Int32) - 10 < 0 by decide) z⟩
  · rw [h1, h2 10 (by omega), h2 11 (by omega), h2 12 (by omega)]
    exact zw_pkff ⟨n, hn⟩

set_option maxHeartbeats 4000000 in
theorem sp_M_other {σ : zq_T} {T : za_T} (hT : zw_t σ T) (hw : zt_wf T) {r : Int32 × za_K} (hr : zw_r σ T r) (lo hi sm : Int32) : zq_Sp zm_M_other 3 [zq_O 30 0, zq_I lo, zq_I hi, zq_I sm] σ (zq_rw (zq_I (zw_ckv lo hi sm r)) (fun τ => zw_fs σ τ ∧ zw_r τ T (zw_nx T (zw_ck lo hi sm r)))) := by
  obtain ⟨kk, hk1, hk2, hk3, hk4⟩ := hr.2.2.2.2.2.2.1
  have h20 := hr.2.2.2.2.2.2.2
  refine zq_sp [some (zq_O 30 0), some (zq_I lo), some (zq_I hi), some (zq_I sm), none] (by decide +kernel) rfl (Nat.le_of_ble_eq_true rfl) (fun ν => ?_)
  refine gq_aload_n dz_M_other_0 rfl ?_
  refine gq_getI zf_M_73 rfl rfl dz_M_other_1 ?_
  refine gq_if_ne (tgt := 20) dz_M_other_4 rfl (fun h4 => ?_) (fun h4 => ?_)
  · skip
    have hc0 : ¬ zw_cd r = 0 := fun z => h4 (hr.2.2.1.trans z)
    have hC : zw_ck lo hi sm r = r := by rw [zw_ck, if_pos hc0]
    refine gq_aload_n dz_M_other_20 rfl ?_
    refine gq_getI zf_M_73 rfl rfl dz_M_other_21 ?_
    refine gq_if_ne (tgt := 47) dz_M_other_24 rfl (fun h24 => ?_) (fun h24 => ?_)
    · skip
      refine gq_aload_n dz_M_other_47 rfl ?_
      refine gq_getI zf_M_73 rfl rfl dz_M_other_48 ?_
      refine gq_if_ne (tgt := 71) dz_M_other_51 rfl (fun h51 => ?_) (fun h51 => ?_)
      · skip
        refine gq_aload_n dz_M_other_71 rfl ?_
        refine gq_getI zf_M_73 rfl rfl dz_M_other_72 ?_
        refine gq_if_ne (tgt := 85) dz_M_other_75 rfl (fun h75 => ?_) (fun h75 => ?_)
        · skip
          refine gq_iload_n dz_M_other_85 rfl ?_
          refine gw_istore 4 dz_M_other_86 (Nat.le_of_ble_eq_true rfl) rfl ?_
          dsimp only [List.set]
          refine gq_aload_n dz_M_other_88 rfl ?_
          refine gq_cVX (sp_M_step hT hw hr) zw_M_step zl_M_107 dz_M_other_89 rfl rfl rfl (by decide) rfl rfl (Nat.le_of_ble_eq_true rfl) (fun τ89 hq89 => ?_)
          refine gq_iload dz_M_other_92 rfl ?_
          refine gw_iretP .int dz_M_other_94 rfl (by first | rfl | exact zb_nar _ | exact pk_nc _) ?_ ?_
          · rw [zw_ckv, hC, if_neg hc0]
          · rw [hC]; exact hq89
        · skip
          exact absurd h75 h4
      · skip
        exact absurd h51 h4
    · skip
      exact absurd h24 h4
  · skip
    have hc0 : zw_cd r = 0 := hr.2.2.1.symm.trans h4
    have hk34 := hk3 (zw_cd0 hc0).2
    refine gq_aload_n dz_M_other_7 rfl ?_
    refine gq_getI zf_M_82 rfl rfl dz_M_other_8 ?_
    rw [hk2]
    refine gq_iconst (v := 2) dz_M_other_11 rfl ?_
    refine gq_icmp_eq (tgt := 20) dz_M_other_12 rfl (fun h12 => ?_) (fun h12 => ?_)
    · skip
      have hkd : r.2.2.1 = 2 := by rw [← hk34]; exact (nI_eq (b := 2) (by omega) (by omega)).mp h12
      refine gq_aload_n dz_M_other_20 rfl ?_
      refine gq_getI zf_M_73 rfl rfl dz_M_other_21 ?_
      refine gq_if_ne (tgt := 47) dz_M_other_24 rfl (fun h24 => ?_) (fun h24 => ?_)
      · skip
        exact absurd h4 h24
      · skip
        refine gq_aload_n dz_M_other_27 rfl ?_
        refine gq_getI zf_M_92 rfl rfl dz_M_other_28 ?_
        rw [h20 hkd]
        refine gq_i2l dz_M_other_31 ?_
        refine gq_iload_n dz_M_other_32 rfl ?_
        refine gq_i2l dz_M_other_33 ?_
        refine gq_iload_n dz_M_other_34 rfl ?_
        refine gq_i2l dz_M_other_35 ?_
        refine gq_cS (sp_M_in _ _ _) zw_M_in zl_M_65 dz_M_other_36 (by decide) rfl rfl (Nat.le_of_ble_eq_true rfl) ?_
        refine gw_ifb_ne (tgt := 47) dz_M_other_39 rfl (fun h39 => ?_) (fun h39 => ?_)
        · skip
          rw [zn_in3232] at h39
          refine gq_aload_n dz_M_other_47 rfl ?_
          refine gq_getI zf_M_73 rfl rfl dz_M_other_48 ?_
          refine gq_if_ne (tgt := 71) dz_M_other_51 rfl (fun h51 => ?_) (fun h51 => ?_)
          · skip
            exact absurd h4 h51
          · skip
            refine gq_iload_n dz_M_other_54 rfl ?_
            refine gq_aload_n dz_M_other_55 rfl ?_
            refine gq_getI zf_M_92 rfl rfl dz_M_other_56 ?_
            rw [h20 hkd]
            refine gq_ishr dz_M_other_59 ?_
            refine gq_iconst (v := 1) dz_M_other_60 rfl ?_
            refine gq_iand dz_M_other_61 ?_
            refine gq_iconst (v := 1) dz_M_other_62 rfl ?_
            refine gq_icmp_ne (tgt := 71) dz_M_other_63 rfl (fun h63 => ?_) (fun h63 => ?_)
            · skip
              have hC : zw_ck lo hi sm r = r := by rw [zw_ck, if_neg (fun z => z hc0), if_neg (fun z => z hkd), if_neg (fun z => z (of_decide_eq_true h39)), if_neg (fun z => h63 (zb_bv1.mpr z))]
              refine gq_aload_n dz_M_other_71 rfl ?_
              refine gq_getI zf_M_73 rfl rfl dz_M_other_72 ?_
              refine gq_if_ne (tgt := 85) dz_M_other_75 rfl (fun h75 => ?_) (fun h75 => ?_)
              · skip
                exact absurd h4 h75
              · skip
                refine gq_aload_n dz_M_other_78 rfl ?_
                refine gq_getI zf_M_92 rfl rfl dz_M_other_79 ?_
                rw [h20 hkd]
                refine gq_goto (tgt := 86) dz_M_other_82 rfl ?_
                refine gw_istore 4 dz_M_other_86 (Nat.le_of_ble_eq_true rfl) rfl ?_
                dsimp only [List.set]
                refine gq_aload_n dz_M_other_88 rfl ?_
                refine gq_cVX (sp_M_step hT hw hr) zw_M_step zl_M_107 dz_M_other_89 rfl rfl rfl (by decide) rfl rfl (Nat.le_of_ble_eq_true rfl) (fun τ89 hq89 => ?_)
                refine gq_iload dz_M_other_92 rfl ?_
                refine gw_iretP .int dz_M_other_94 rfl (by first | rfl | exact zb_nar _ | exact pk_nc _) ?_ ?_
                · rw [zw_ckv, hC, if_pos hc0]
                · rw [hC]; exact hq89
            · skip
              refine gq_aload_n dz_M_other_66 rfl ?_
              refine gq_iconst (v := 4) dz_M_other_67 rfl ?_
              refine gq_cVX (sp_M_fails 4) zw_M_fails zl_M_103 dz_M_other_68 rfl rfl rfl (by decide) rfl rfl (Nat.le_of_ble_eq_true rfl) (fun τ68 hq68 => ?_)
              obtain ⟨hf68, hR68⟩ := hr.fl (n := 4) (by omega) (by omega) hq68
              rw [zw_fl0 hc0] at hR68
              have hb68 : τ68.1 30 0 15 = 4 := hR68.2.2.1.trans (zw_cde (by decide))
              have hC : zw_ck lo hi sm r = (4, r.2) := by rw [zw_ck, if_neg (fun z => z hc0), if_neg (fun z => z hkd), if_neg (fun z => z (of_decide_eq_true h39)), if_pos (zb_bv1.mp h63)]
              refine gq_aload_n dz_M_other_71 rfl ?_
              refine gq_getI zf_M_73 rfl rfl dz_M_other_72 ?_
              refine gq_if_ne (tgt := 85) dz_M_other_75 rfl (fun h75 => ?_) (fun h75 => ?_)
              · skip
                refine gq_iload_n dz_M_other_85 rfl ?_
                refine gw_istore 4 dz_M_other_86 (Nat.le_of_ble_eq_true rfl) rfl ?_
                dsimp only [List.set]
                refine gq_aload_n dz_M_other_88 rfl ?_
                refine gq_cVX (sp_M_step (hT.fs hf68) hw hR68) zw_M_step zl_M_107 dz_M_other_89 rfl rfl rfl (by decide) rfl rfl (Nat.le_of_ble_eq_true rfl) (fun τ89 hq89 => ?_)
                refine gq_iload dz_M_other_92 rfl ?_
                refine gw_iretP .int dz_M_other_94 rfl (by first | rfl | exact zb_nar _ | exact pk_nc _) ?_ ?_
                · rw [zw_ckv, hC, zw_cde (by decide)]; rfl
                · rw [hC]; exact ⟨hf68.tr hq89.1, hq89.2⟩
              · skip
                exact absurd (hb68.symm.trans h75) (by decide)
        · skip
          rw [zn_in3232] at h39
          refine gq_aload_n dz_M_other_42 rfl ?_
          refine gq_iconst (v := 3) dz_M_other_43 rfl ?_
          refine gq_cVX (sp_M_fails 3) zw_M_fails zl_M_103 dz_M_other_44 rfl rfl rfl (by decide) rfl rfl (Nat.le_of_ble_eq_true rfl) (fun τ44 hq44 => ?_)
          obtain ⟨hf44, hR44⟩ := hr.fl (n := 3) (by omega) (by omega) hq44
          rw [zw_fl0 hc0] at hR44
          have hb44 : τ44.1 30 0 15 = 3 := hR44.2.2.1.trans (zw_cde (by decide))
          have hC : zw_ck lo hi sm r = (3, r.2) := by rw [zw_ck, if_neg (fun z => z hc0), if_neg (fun z => z hkd), if_pos (of_decide_eq_false h39)]
          refine gq_aload_n dz_M_other_47 rfl ?_
          refine gq_getI zf_M_73 rfl rfl dz_M_other_48 ?_
          refine gq_if_ne (tgt := 71) dz_M_other_51 rfl (fun h51 => ?_) (fun h51 => ?_)
          · skip
            refine gq_aload_n dz_M_other_71 rfl ?_
            refine gq_getI zf_M_73 rfl rfl dz_M_other_72 ?_
            refine gq_if_ne (tgt := 85) dz_M_other_75 rfl (fun h75 => ?_) (fun h75 => ?_)
            · skip
              refine gq_iload_n dz_M_other_85 rfl ?_
              refine gw_istore 4 dz_M_other_86 (Nat.le_of_ble_eq_true rfl) rfl ?_
              dsimp only [List.set]
              refine gq_aload_n dz_M_other_88 rfl ?_
              refine gq_cVX (sp_M_step (hT.fs hf44) hw hR44) zw_M_step zl_M_107 dz_M_other_89 rfl rfl rfl (by decide) rfl rfl (Nat.le_of_ble_eq_true rfl) (fun τ89 hq89 => ?_)
              refine gq_iload dz_M_other_92 rfl ?_
              refine gw_iretP .int dz_M_other_94 rfl (by first | rfl | exact zb_nar _ | exact pk_nc _) ?_ ?_
              · rw [zw_ckv, hC, zw_cde (by decide)]; rfl
              · rw [hC]; exact ⟨hf44.tr hq89.1, hq89.2⟩
            · skip
              exact absurd (hb44.symm.trans h75) (by decide)
          · skip
            exact absurd (hb44.symm.trans h51) (by decide)
    · skip
      have hkd : ¬ r.2.2.1 = 2 := fun z => h12 (by rw [hk34, z]; rfl)
      refine gq_aload_n dz_M_other_15 rfl ?_
      refine gq_iconst (v := 2) dz_M_other_16 rfl ?_
      refine gq_cVX (sp_M_fails 2) zw_M_fails zl_M_103 dz_M_other_17 rfl rfl rfl (by decide) rfl rfl (Nat.le_of_ble_eq_true rfl) (fun τ17 hq17 => ?_)
      obtain ⟨hf17, hR17⟩ := hr.fl (n := 2) (by omega) (by omega) hq17
      rw [zw_fl0 hc0] at hR17
      have hb17 : τ17.1 30 0 15 = 2 := hR17.2.2.1.trans (zw_cde (by decide))
      have hC : zw_ck lo hi sm r = (2, r.2) := by rw [zw_ck, if_neg (fun z => z hc0), if_pos hkd]
      refine gq_aload_n dz_M_other_20 rfl ?_
      refine gq_getI zf_M_73 rfl rfl dz_M_other_21 ?_
      refine gq_if_ne (tgt := 47) dz_M_other_24 rfl (fun h24 => ?_) (fun h24 => ?_)
      · skip
        refine gq_aload_n dz_M_other_47 rfl ?_
        refine gq_getI zf_M_73 rfl rfl dz_M_other_48 ?_
        refine gq_if_ne (tgt := 71) dz_M_other_51 rfl (fun h51 => ?_) (fun h51 => ?_)
        · skip
          refine gq_aload_n dz_M_other_71 rfl ?_
          refine gq_getI zf_M_73 rfl rfl dz_M_other_72 ?_
          refine gq_if_ne (tgt := 85) dz_M_other_75 rfl (fun h75 => ?_) (fun h75 => ?_)
          · skip
            refine gq_iload_n dz_M_other_85 rfl ?_
            refine gw_istore 4 dz_M_other_86 (Nat.le_of_ble_eq_true rfl) rfl ?_
            dsimp only [List.set]
            refine gq_aload_n dz_M_other_88 rfl ?_
            refine gq_cVX (sp_M_step (hT.fs hf17) hw hR17) zw_M_step zl_M_107 dz_M_other_89 rfl rfl rfl (by decide) rfl rfl (Nat.le_of_ble_eq_true rfl) (fun τ89 hq89 => ?_)
            refine gq_iload dz_M_other_92 rfl ?_
            refine gw_iretP .int dz_M_other_94 rfl (by first | rfl | exact zb_nar _ | exact pk_nc _) ?_ ?_
            · rw [zw_ckv, hC, zw_cde (by decide)]; rfl
            · rw [hC]; exact ⟨hf17.tr hq89.1, hq89.2⟩
          · skip
            exact absurd (hb17.symm.trans h75) (by decide)
        · skip
          exact absurd (hb17.symm.trans h51) (by decide)
      · skip
        exact absurd (hb17.symm.trans h24) (by decide)
set_option maxHeartbeats 4000000 in
theorem sp_M_person {σ : zq_T} {T : za_T} (hT : zw_t σ T) (hw : zt_wf T) {r : Int32 × za_K} (hr : zw_r σ T r) (sm : Int32) : zq_Sp zm_M_person 4 [zq_O 30 0, zq_I sm] σ (zq_rw (zq_I (zw_ckv 0 5 sm r)) (fun τ => zw_fp σ τ ∧ zw_r τ T (zw_nx T (zw_ck 0 5 sm r)) ∧ τ.1 30 0 11 = if σ.1 30 0 11 < zw_ckv 0 5 sm r then zw_ckv 0 5 sm r else σ.1 30 0 11)) := by
  refine zq_sp [some (zq_O 30 0), some (zq_I sm), none] (by decide +kernel) rfl (Nat.le_of_ble_eq_true rfl) (fun ν => ?_)
  refine gq_aload_n dz_M_person_0 rfl ?_
  refine gq_iconst (v := 0) dz_M_person_1 rfl ?_
  refine gq_iconst (v := 5) dz_M_person_2 rfl ?_
  refine gq_iload_n dz_M_person_3 rfl ?_
  refine gq_cVP (sp_M_other hT hw hr 0 5 sm) zw_M_other zl_M_110 dz_M_person_4 rfl rfl rfl (by decide) rfl rfl (Nat.le_of_ble_eq_true rfl) (fun τ4 hq4 => ?_)
  refine gw_istore_n 2 dz_M_person_7 rfl (Nat.le_of_ble_eq_true rfl) rfl ?_
  dsimp only [List.set]
  refine gq_aload_n dz_M_person_8 rfl ?_
  refine gq_iload_n dz_M_person_9 rfl ?_
  refine gq_aload_n dz_M_person_10 rfl ?_
  refine gq_getI zf_M_114 rfl rfl dz_M_person_11 ?_
  rw [hq4.1.2 30 0 11 (by omega)]
  refine gq_icmp_le (tgt := 21) dz_M_person_14 rfl (fun h14 => ?_) (fun h14 => ?_)
  · skip
    refine gq_aload_n dz_M_person_21 rfl ?_
    refine gq_getI zf_M_114 rfl rfl dz_M_person_22 ?_
    rw [hq4.1.2 30 0 11 (by omega)]
    refine gq_putI zv_M_114 rfl rfl dz_M_person_25 ?_
    refine gq_iload_n dz_M_person_28 rfl ?_
    refine gw_iretP .int dz_M_person_29 rfl (by first | rfl | exact zb_nar _ | exact pk_nc _) ?_ ?_
    · rfl
    · exact ⟨hq4.1.p.up, hq4.2.keep (fun k a b => zq_upN (by omega)), by rw [if_neg (Int32.not_lt.mpr h14)]; exact zq_upE⟩
  · skip
    refine gq_iload_n dz_M_person_17 rfl ?_
    refine gq_goto (tgt := 25) dz_M_person_18 rfl ?_
    refine gq_putI zv_M_114 rfl rfl dz_M_person_25 ?_
    refine gq_iload_n dz_M_person_28 rfl ?_
    refine gw_iretP .int dz_M_person_29 rfl (by first | rfl | exact zb_nar _ | exact pk_nc _) ?_ ?_
    · rfl
    · exact ⟨hq4.1.p.up, hq4.2.keep (fun k a b => zq_upN (by omega)), by rw [if_pos (Int32.not_le.mp h14)]; exact zq_upE⟩
set_option maxHeartbeats 4000000 in
theorem sp_M_claimHere {σ : zq_T} {T : za_T} (hT : zw_t σ T) (hw : zt_wf T) {r : Int32 × za_K} (hr : zw_r σ T r) : zq_Sp zm_M_claimHere 3 [zq_O 30 0] σ (zq_rw (zq_I (if zt_clm T r.2 = -4 then 0 else zt_clm T r.2)) (fun τ => zw_fs σ τ ∧ zw_r τ T (zw_nx T (if zt_clm T r.2 = -4 then zw_fl 2 r else r)))) := by
  have hcl := zw_cl_eq T r.2
  unfold zw_clf at hcl
  refine zq_sp [some (zq_O 30 0), none, none] (by decide +kernel) rfl (Nat.le_of_ble_eq_true rfl) (fun ν => ?_)
  refine gq_aload_n dz_M_claimHere_0 rfl ?_
  refine gq_cV (sp_M_nameHere hT hw hr) zw_M_nameHere zl_M_117 dz_M_claimHere_1 rfl rfl rfl (by decide) rfl rfl (Nat.le_of_ble_eq_true rfl) ?_
  refine gw_istore_n 1 dz_M_claimHere_4 rfl (Nat.le_of_ble_eq_true rfl) rfl ?_
  dsimp only [List.set]
  refine gq_iload_n dz_M_claimHere_5 rfl ?_
  refine gq_iconst (v := 1) dz_M_claimHere_6 rfl ?_
  refine gq_icmp_ne (tgt := 14) dz_M_claimHere_7 rfl (fun h7 => ?_) (fun h7 => ?_)
  · skip
    rw [if_neg h7] at hcl
    refine gq_iload_n dz_M_claimHere_14 rfl ?_
    refine gq_iconst (v := 5) dz_M_claimHere_15 rfl ?_
    refine gq_icmp_eq (tgt := 25) dz_M_claimHere_16 rfl (fun h16 => ?_) (fun h16 => ?_)
    · skip
      rw [if_pos h16] at hcl
      refine gq_iload_n dz_M_claimHere_25 rfl ?_
      refine gq_iconst (v := 5) dz_M_claimHere_26 rfl ?_
      refine gq_isub dz_M_claimHere_27 ?_
      rw [hcl]
      refine gq_goto (tgt := 55) dz_M_claimHere_28 rfl ?_
      refine gw_istore_n 2 dz_M_claimHere_55 rfl (Nat.le_of_ble_eq_true rfl) rfl ?_
      dsimp only [List.set]
      refine gq_aload_n dz_M_claimHere_56 rfl ?_
      refine gq_getI zf_M_73 rfl rfl dz_M_claimHere_57 ?_
      refine gq_if_ne (tgt := 74) dz_M_claimHere_60 rfl (fun h60 => ?_) (fun h60 => ?_)
      · skip
        have hc0 : ¬ zw_cd r = 0 := fun z => h60 (hr.2.2.1.trans z)
        refine gq_aload_n dz_M_claimHere_74 rfl ?_
        refine gq_cVX (sp_M_step hT hw hr) zw_M_step zl_M_107 dz_M_claimHere_75 rfl rfl rfl (by decide) rfl rfl (Nat.le_of_ble_eq_true rfl) (fun τ75 hq75 => ?_)
        refine gq_iload_n dz_M_claimHere_78 rfl ?_
        refine gq_bipush (v := -4) dz_M_claimHere_79 rfl ?_
        refine gq_icmp_ne (tgt := 88) dz_M_claimHere_81 rfl (fun h81 => ?_) (fun h81 => ?_)
        · skip
          refine gq_iload_n dz_M_claimHere_88 rfl ?_
          refine gw_iretP .int dz_M_claimHere_89 rfl (by first | rfl | exact zb_nar _ | exact pk_nc _) ?_ ?_
          · rw [if_neg h81]
          · rw [if_neg h81]; exact hq75
        · skip
          refine gq_iconst (v := 0) dz_M_claimHere_84 rfl ?_
          refine gq_goto (tgt := 89) dz_M_claimHere_85 rfl ?_
          refine gw_iretP .int dz_M_claimHere_89 rfl (by first | rfl | exact zb_nar _ | exact pk_nc _) ?_ ?_
          · rw [if_pos h81]
          · rw [if_pos h81, zw_fl1 hc0]; exact hq75
      · skip
        have hc0 : zw_cd r = 0 := hr.2.2.1.symm.trans h60
        refine gq_iload_n dz_M_claimHere_63 rfl ?_
        refine gq_bipush (v := -4) dz_M_claimHere_64 rfl ?_
        refine gq_icmp_ne (tgt := 74) dz_M_claimHere_66 rfl (fun h66 => ?_) (fun h66 => ?_)
        · skip
          refine gq_aload_n dz_M_claimHere_74 rfl ?_
          refine gq_cVX (sp_M_step hT hw hr) zw_M_step zl_M_107 dz_M_claimHere_75 rfl rfl rfl (by decide) rfl rfl (Nat.le_of_ble_eq_true rfl) (fun τ75 hq75 => ?_)
          refine gq_iload_n dz_M_claimHere_78 rfl ?_
          refine gq_bipush (v := -4) dz_M_claimHere_79 rfl ?_
          refine gq_icmp_ne (tgt := 88) dz_M_claimHere_81 rfl (fun h81 => ?_) (fun h81 => ?_)
          · skip
            refine gq_iload_n dz_M_claimHere_88 rfl ?_
            refine gw_iretP .int dz_M_claimHere_89 rfl (by first | rfl | exact zb_nar _ | exact pk_nc _) ?_ ?_
            · rw [if_neg h81]
            · rw [if_neg h81]; exact hq75
          · skip
            exact absurd h81 h66
        · skip
          refine gq_aload_n dz_M_claimHere_69 rfl ?_
          refine gq_iconst (v := 2) dz_M_claimHere_70 rfl ?_
          refine gq_cVX (sp_M_fails 2) zw_M_fails zl_M_103 dz_M_claimHere_71 rfl rfl rfl (by decide) rfl rfl (Nat.le_of_ble_eq_true rfl) (fun τ71 hq71 => ?_)
          have hf71 := hr.fl (n := 2) (by omega) (by omega) hq71
          refine gq_aload_n dz_M_claimHere_74 rfl ?_
          refine gq_cVX (sp_M_step (hT.fs hf71.1) hw hf71.2) zw_M_step zl_M_107 dz_M_claimHere_75 rfl rfl rfl (by decide) rfl rfl (Nat.le_of_ble_eq_true rfl) (fun τ75 hq75 => ?_)
          refine gq_iload_n dz_M_claimHere_78 rfl ?_
          refine gq_bipush (v := -4) dz_M_claimHere_79 rfl ?_
          refine gq_icmp_ne (tgt := 88) dz_M_claimHere_81 rfl (fun h81 => ?_) (fun h81 => ?_)
          · skip
            exact absurd h66 h81
          · skip
            refine gq_iconst (v := 0) dz_M_claimHere_84 rfl ?_
            refine gq_goto (tgt := 89) dz_M_claimHere_85 rfl ?_
            refine gw_iretP .int dz_M_claimHere_89 rfl (by first | rfl | exact zb_nar _ | exact pk_nc _) ?_ ?_
            · rw [if_pos h81]
            · rw [if_pos h81]; exact ⟨hf71.1.tr hq75.1, hq75.2⟩
    · skip
      rw [if_neg h16] at hcl
      refine gq_iload_n dz_M_claimHere_19 rfl ?_
      refine gq_bipush (v := 6) dz_M_claimHere_20 rfl ?_
      refine gq_icmp_ne (tgt := 31) dz_M_claimHere_22 rfl (fun h22 => ?_) (fun h22 => ?_)
      · skip
        rw [if_neg h22] at hcl
        refine gq_iload_n dz_M_claimHere_31 rfl ?_
        refine gq_i2l dz_M_claimHere_32 ?_
        refine gq_ldc2 zl_M_121 dz_M_claimHere_33 ?_
        refine gq_ldc2 zl_M_123 dz_M_claimHere_36 ?_
        refine gq_cS (sp_M_in _ _ _) zw_M_in zl_M_65 dz_M_claimHere_39 (by decide) rfl rfl (Nat.le_of_ble_eq_true rfl) ?_
        refine gw_ifb_eq (tgt := 53) dz_M_claimHere_42 rfl (fun h42 => ?_) (fun h42 => ?_)
        · skip
          rw [h42] at hcl
          replace hcl : (-4 : Int32) = zt_clm T r.2 := hcl
          refine gq_bipush (v := -4) dz_M_claimHere_53 rfl ?_
          rw [show ([zq_I (-4)] : List zq_V) = [zq_I (zt_clm T r.2)] from by rw [hcl]]
          refine gw_istore_n 2 dz_M_claimHere_55 rfl (Nat.le_of_ble_eq_true rfl) rfl ?_
          dsimp only [List.set]
          refine gq_aload_n dz_M_claimHere_56 rfl ?_
          refine gq_getI zf_M_73 rfl rfl dz_M_claimHere_57 ?_
          refine gq_if_ne (tgt := 74) dz_M_claimHere_60 rfl (fun h60 => ?_) (fun h60 => ?_)
          · skip
            have hc0 : ¬ zw_cd r = 0 := fun z => h60 (hr.2.2.1.trans z)
            refine gq_aload_n dz_M_claimHere_74 rfl ?_
            refine gq_cVX (sp_M_step hT hw hr) zw_M_step zl_M_107 dz_M_claimHere_75 rfl rfl rfl (by decide) rfl rfl (Nat.le_of_ble_eq_true rfl) (fun τ75 hq75 => ?_)
            refine gq_iload_n dz_M_claimHere_78 rfl ?_
            refine gq_bipush (v := -4) dz_M_claimHere_79 rfl ?_
            refine gq_icmp_ne (tgt := 88) dz_M_claimHere_81 rfl (fun h81 => ?_) (fun h81 => ?_)
            · skip
              refine gq_iload_n dz_M_claimHere_88 rfl ?_
              refine gw_iretP .int dz_M_claimHere_89 rfl (by first | rfl | exact zb_nar _ | exact pk_nc _) ?_ ?_
              · rw [if_neg h81]
              · rw [if_neg h81]; exact hq75
            · skip
              refine gq_iconst (v := 0) dz_M_claimHere_84 rfl ?_
              refine gq_goto (tgt := 89) dz_M_claimHere_85 rfl ?_
              refine gw_iretP .int dz_M_claimHere_89 rfl (by first | rfl | exact zb_nar _ | exact pk_nc _) ?_ ?_
              · rw [if_pos h81]
              · rw [if_pos h81, zw_fl1 hc0]; exact hq75
          · skip
            have hc0 : zw_cd r = 0 := hr.2.2.1.symm.trans h60
            refine gq_iload_n dz_M_claimHere_63 rfl ?_
            refine gq_bipush (v := -4) dz_M_claimHere_64 rfl ?_
            refine gq_icmp_ne (tgt := 74) dz_M_claimHere_66 rfl (fun h66 => ?_) (fun h66 => ?_)
            · skip
              refine gq_aload_n dz_M_claimHere_74 rfl ?_
              refine gq_cVX (sp_M_step hT hw hr) zw_M_step zl_M_107 dz_M_claimHere_75 rfl rfl rfl (by decide) rfl rfl (Nat.le_of_ble_eq_true rfl) (fun τ75 hq75 => ?_)
              refine gq_iload_n dz_M_claimHere_78 rfl ?_
              refine gq_bipush (v := -4) dz_M_claimHere_79 rfl ?_
              refine gq_icmp_ne (tgt := 88) dz_M_claimHere_81 rfl (fun h81 => ?_) (fun h81 => ?_)
              · skip
                refine gq_iload_n dz_M_claimHere_88 rfl ?_
                refine gw_iretP .int dz_M_claimHere_89 rfl (by first | rfl | exact zb_nar _ | exact pk_nc _) ?_ ?_
                · rw [if_neg h81]
                · rw [if_neg h81]; exact hq75
              · skip
                exact absurd h81 h66
            · skip
              refine gq_aload_n dz_M_claimHere_69 rfl ?_
              refine gq_iconst (v := 2) dz_M_claimHere_70 rfl ?_
              refine gq_cVX (sp_M_fails 2) zw_M_fails zl_M_103 dz_M_claimHere_71 rfl rfl rfl (by decide) rfl rfl (Nat.le_of_ble_eq_true rfl) (fun τ71 hq71 => ?_)
              have hf71 := hr.fl (n := 2) (by omega) (by omega) hq71
              refine gq_aload_n dz_M_claimHere_74 rfl ?_
              refine gq_cVX (sp_M_step (hT.fs hf71.1) hw hf71.2) zw_M_step zl_M_107 dz_M_claimHere_75 rfl rfl rfl (by decide) rfl rfl (Nat.le_of_ble_eq_true rfl) (fun τ75 hq75 => ?_)
              refine gq_iload_n dz_M_claimHere_78 rfl ?_
              refine gq_bipush (v := -4) dz_M_claimHere_79 rfl ?_
              refine gq_icmp_ne (tgt := 88) dz_M_claimHere_81 rfl (fun h81 => ?_) (fun h81 => ?_)
              · skip
                exact absurd h66 h81
              · skip
                refine gq_iconst (v := 0) dz_M_claimHere_84 rfl ?_
                refine gq_goto (tgt := 89) dz_M_claimHere_85 rfl ?_
                refine gw_iretP .int dz_M_claimHere_89 rfl (by first | rfl | exact zb_nar _ | exact pk_nc _) ?_ ?_
                · rw [if_pos h81]
                · rw [if_pos h81]; exact ⟨hf71.1.tr hq75.1, hq75.2⟩
        · skip
          rw [h42, if_pos rfl] at hcl
          refine gq_iload_n dz_M_claimHere_45 rfl ?_
          refine gq_iconst (v := 5) dz_M_claimHere_46 rfl ?_
          refine gq_isub dz_M_claimHere_47 ?_
          refine gq_iconst (v := 1) dz_M_claimHere_48 rfl ?_
          refine gq_iadd dz_M_claimHere_49 ?_
          rw [hcl]
          refine gq_goto (tgt := 55) dz_M_claimHere_50 rfl ?_
          refine gw_istore_n 2 dz_M_claimHere_55 rfl (Nat.le_of_ble_eq_true rfl) rfl ?_
          dsimp only [List.set]
          refine gq_aload_n dz_M_claimHere_56 rfl ?_
          refine gq_getI zf_M_73 rfl rfl dz_M_claimHere_57 ?_
          refine gq_if_ne (tgt := 74) dz_M_claimHere_60 rfl (fun h60 => ?_) (fun h60 => ?_)
          · skip
            have hc0 : ¬ zw_cd r = 0 := fun z => h60 (hr.2.2.1.trans z)
            refine gq_aload_n dz_M_claimHere_74 rfl ?_
            refine gq_cVX (sp_M_step hT hw hr) zw_M_step zl_M_107 dz_M_claimHere_75 rfl rfl rfl (by decide) rfl rfl (Nat.le_of_ble_eq_true rfl) (fun τ75 hq75 => ?_)
            refine gq_iload_n dz_M_claimHere_78 rfl ?_
            refine gq_bipush (v := -4) dz_M_claimHere_79 rfl ?_
            refine gq_icmp_ne (tgt := 88) dz_M_claimHere_81 rfl (fun h81 => ?_) (fun h81 => ?_)
            · skip
              refine gq_iload_n dz_M_claimHere_88 rfl ?_
              refine gw_iretP .int dz_M_claimHere_89 rfl (by first | rfl | exact zb_nar _ | exact pk_nc _) ?_ ?_
              · rw [if_neg h81]
              · rw [if_neg h81]; exact hq75
            · skip
              refine gq_iconst (v := 0) dz_M_claimHere_84 rfl ?_
              refine gq_goto (tgt := 89) dz_M_claimHere_85 rfl ?_
              refine gw_iretP .int dz_M_claimHere_89 rfl (by first | rfl | exact zb_nar _ | exact pk_nc _) ?_ ?_
              · rw [if_pos h81]
              · rw [if_pos h81, zw_fl1 hc0]; exact hq75
          · skip
            have hc0 : zw_cd r = 0 := hr.2.2.1.symm.trans h60
            refine gq_iload_n dz_M_claimHere_63 rfl ?_
            refine gq_bipush (v := -4) dz_M_claimHere_64 rfl ?_
            refine gq_icmp_ne (tgt := 74) dz_M_claimHere_66 rfl (fun h66 => ?_) (fun h66 => ?_)
            · skip
              refine gq_aload_n dz_M_claimHere_74 rfl ?_
              refine gq_cVX (sp_M_step hT hw hr) zw_M_step zl_M_107 dz_M_claimHere_75 rfl rfl rfl (by decide) rfl rfl (Nat.le_of_ble_eq_true rfl) (fun τ75 hq75 => ?_)
              refine gq_iload_n dz_M_claimHere_78 rfl ?_
              refine gq_bipush (v := -4) dz_M_claimHere_79 rfl ?_
              refine gq_icmp_ne (tgt := 88) dz_M_claimHere_81 rfl (fun h81 => ?_) (fun h81 => ?_)
              · skip
                refine gq_iload_n dz_M_claimHere_88 rfl ?_
                refine gw_iretP .int dz_M_claimHere_89 rfl (by first | rfl | exact zb_nar _ | exact pk_nc _) ?_ ?_
                · rw [if_neg h81]
                · rw [if_neg h81]; exact hq75
              · skip
                exact absurd h81 h66
            · skip
              refine gq_aload_n dz_M_claimHere_69 rfl ?_
              refine gq_iconst (v := 2) dz_M_claimHere_70 rfl ?_
              refine gq_cVX (sp_M_fails 2) zw_M_fails zl_M_103 dz_M_claimHere_71 rfl rfl rfl (by decide) rfl rfl (Nat.le_of_ble_eq_true rfl) (fun τ71 hq71 => ?_)
              have hf71 := hr.fl (n := 2) (by omega) (by omega) hq71
              refine gq_aload_n dz_M_claimHere_74 rfl ?_
              refine gq_cVX (sp_M_step (hT.fs hf71.1) hw hf71.2) zw_M_step zl_M_107 dz_M_claimHere_75 rfl rfl rfl (by decide) rfl rfl (Nat.le_of_ble_eq_true rfl) (fun τ75 hq75 => ?_)
              refine gq_iload_n dz_M_claimHere_78 rfl ?_
              refine gq_bipush (v := -4) dz_M_claimHere_79 rfl ?_
              refine gq_icmp_ne (tgt := 88) dz_M_claimHere_81 rfl (fun h81 => ?_) (fun h81 => ?_)
              · skip
                exact absurd h66 h81
              · skip
                refine gq_iconst (v := 0) dz_M_claimHere_84 rfl ?_
                refine gq_goto (tgt := 89) dz_M_claimHere_85 rfl ?_
                refine gw_iretP .int dz_M_claimHere_89 rfl (by first | rfl | exact zb_nar _ | exact pk_nc _) ?_ ?_
                · rw [if_pos h81]
                · rw [if_pos h81]; exact ⟨hf71.1.tr hq75.1, hq75.2⟩
      · skip
        rw [if_pos h22] at hcl
        refine gq_iload_n dz_M_claimHere_25 rfl ?_
        refine gq_iconst (v := 5) dz_M_claimHere_26 rfl ?_
        refine gq_isub dz_M_claimHere_27 ?_
        rw [hcl]
        refine gq_goto (tgt := 55) dz_M_claimHere_28 rfl ?_
        refine gw_istore_n 2 dz_M_claimHere_55 rfl (Nat.le_of_ble_eq_true rfl) rfl ?_
        dsimp only [List.set]
        refine gq_aload_n dz_M_claimHere_56 rfl ?_
        refine gq_getI zf_M_73 rfl rfl dz_M_claimHere_57 ?_
        refine gq_if_ne (tgt := 74) dz_M_claimHere_60 rfl (fun h60 => ?_) (fun h60 => ?_)
        · skip
          have hc0 : ¬ zw_cd r = 0 := fun z => h60 (hr.2.2.1.trans z)
          refine gq_aload_n dz_M_claimHere_74 rfl ?_
          refine gq_cVX (sp_M_step hT hw hr) zw_M_step zl_M_107 dz_M_claimHere_75 rfl rfl rfl (by decide) rfl rfl (Nat.le_of_ble_eq_true rfl) (fun τ75 hq75 => ?_)
          refine gq_iload_n dz_M_claimHere_78 rfl ?_
          refine gq_bipush (v := -4) dz_M_claimHere_79 rfl ?_
          refine gq_icmp_ne (tgt := 88) dz_M_claimHere_81 rfl (fun h81 => ?_) (fun h81 => ?_)
          · skip
            refine gq_iload_n dz_M_claimHere_88 rfl ?_
            refine gw_iretP .int dz_M_claimHere_89 rfl (by first | rfl | exact zb_nar _ | exact pk_nc _) ?_ ?_
            · rw [if_neg h81]
            · rw [if_neg h81]; exact hq75
          · skip
            refine gq_iconst (v := 0) dz_M_claimHere_84 rfl ?_
            refine gq_goto (tgt := 89) dz_M_claimHere_85 rfl ?_
            refine gw_iretP .int dz_M_claimHere_89 rfl (by first | rfl | exact zb_nar _ | exact pk_nc _) ?_ ?_
            · rw [if_pos h81]
            · rw [if_pos h81, zw_fl1 hc0]; exact hq75
        · skip
          have hc0 : zw_cd r = 0 := hr.2.2.1.symm.trans h60
          refine gq_iload_n dz_M_claimHere_63 rfl ?_
          refine gq_bipush (v := -4) dz_M_claimHere_64 rfl ?_
          refine gq_icmp_ne (tgt := 74) dz_M_claimHere_66 rfl (fun h66 => ?_) (fun h66 => ?_)
          · skip
            refine gq_aload_n dz_M_claimHere_74 rfl ?_
            refine gq_cVX (sp_M_step hT hw hr) zw_M_step zl_M_107 dz_M_claimHere_75 rfl rfl rfl (by decide) rfl rfl (Nat.le_of_ble_eq_true rfl) (fun τ75 hq75 => ?_)
            refine gq_iload_n dz_M_claimHere_78 rfl ?_
            refine gq_bipush (v := -4) dz_M_claimHere_79 rfl ?_
            refine gq_icmp_ne (tgt := 88) dz_M_claimHere_81 rfl (fun h81 => ?_) (fun h81 => ?_)
            · skip
              refine gq_iload_n dz_M_claimHere_88 rfl ?_
              refine gw_iretP .int dz_M_claimHere_89 rfl (by first | rfl | exact zb_nar _ | exact pk_nc _) ?_ ?_
              · rw [if_neg h81]
              · rw [if_neg h81]; exact hq75
            · skip
              exact absurd h81 h66
          · skip
            refine gq_aload_n dz_M_claimHere_69 rfl ?_
            refine gq_iconst (v := 2) dz_M_claimHere_70 rfl ?_
            refine gq_cVX (sp_M_fails 2) zw_M_fails zl_M_103 dz_M_claimHere_71 rfl rfl rfl (by decide) rfl rfl (Nat.le_of_ble_eq_true rfl) (fun τ71 hq71 => ?_)
            have hf71 := hr.fl (n := 2) (by omega) (by omega) hq71
            refine gq_aload_n dz_M_claimHere_74 rfl ?_
            refine gq_cVX (sp_M_step (hT.fs hf71.1) hw hf71.2) zw_M_step zl_M_107 dz_M_claimHere_75 rfl rfl rfl (by decide) rfl rfl (Nat.le_of_ble_eq_true rfl) (fun τ75 hq75 => ?_)
            refine gq_iload_n dz_M_claimHere_78 rfl ?_
            refine gq_bipush (v := -4) dz_M_claimHere_79 rfl ?_
            refine gq_icmp_ne (tgt := 88) dz_M_claimHere_81 rfl (fun h81 => ?_) (fun h81 => ?_)
            · skip
              exact absurd h66 h81
            · skip
              refine gq_iconst (v := 0) dz_M_claimHere_84 rfl ?_
              refine gq_goto (tgt := 89) dz_M_claimHere_85 rfl ?_
              refine gw_iretP .int dz_M_claimHere_89 rfl (by first | rfl | exact zb_nar _ | exact pk_nc _) ?_ ?_
              · rw [if_pos h81]
              · rw [if_pos h81]; exact ⟨hf71.1.tr hq75.1, hq75.2⟩
  · skip
    rw [if_pos h7] at hcl
    refine gq_iconst (v := 2) dz_M_claimHere_10 rfl ?_
    rw [show ([zq_I 2] : List zq_V) = [zq_I (zt_clm T r.2)] from by rw [hcl]]
    refine gq_goto (tgt := 55) dz_M_claimHere_11 rfl ?_
    refine gw_istore_n 2 dz_M_claimHere_55 rfl (Nat.le_of_ble_eq_true rfl) rfl ?_
    dsimp only [List.set]
    refine gq_aload_n dz_M_claimHere_56 rfl ?_
    refine gq_getI zf_M_73 rfl rfl dz_M_claimHere_57 ?_
    refine gq_if_ne (tgt := 74) dz_M_claimHere_60 rfl (fun h60 => ?_) (fun h60 => ?_)
    · skip
      have hc0 : ¬ zw_cd r = 0 := fun z => h60 (hr.2.2.1.trans z)
      refine gq_aload_n dz_M_claimHere_74 rfl ?_
      refine gq_cVX (sp_M_step hT hw hr) zw_M_step zl_M_107 dz_M_claimHere_75 rfl rfl rfl (by decide) rfl rfl (Nat.le_of_ble_eq_true rfl) (fun τ75 hq75 => ?_)
      refine gq_iload_n dz_M_claimHere_78 rfl ?_
      refine gq_bipush (v := -4) dz_M_claimHere_79 rfl ?_
      refine gq_icmp_ne (tgt := 88) dz_M_claimHere_81 rfl (fun h81 => ?_) (fun h81 => ?_)
      · skip
        refine gq_iload_n dz_M_claimHere_88 rfl ?_
        refine gw_iretP .int dz_M_claimHere_89 rfl (by first | rfl | exact zb_nar _ | exact pk_nc _) ?_ ?_
        · rw [if_neg h81]
        · rw [if_neg h81]; exact hq75
      · skip
        refine gq_iconst (v := 0) dz_M_claimHere_84 rfl ?_
        refine gq_goto (tgt := 89) dz_M_claimHere_85 rfl ?_
        refine gw_iretP .int dz_M_claimHere_89 rfl (by first | rfl | exact zb_nar _ | exact pk_nc _) ?_ ?_
        · rw [if_pos h81]
        · rw [if_pos h81, zw_fl1 hc0]; exact hq75
    · skip
      have hc0 : zw_cd r = 0 := hr.2.2.1.symm.trans h60
      refine gq_iload_n dz_M_claimHere_63 rfl ?_
      refine gq_bipush (v := -4) dz_M_claimHere_64 rfl ?_
      refine gq_icmp_ne (tgt := 74) dz_M_claimHere_66 rfl (fun h66 => ?_) (fun h66 => ?_)
      · skip
        refine gq_aload_n dz_M_claimHere_74 rfl ?_
        refine gq_cVX (sp_M_step hT hw hr) zw_M_step zl_M_107 dz_M_claimHere_75 rfl rfl rfl (by decide) rfl rfl (Nat.le_of_ble_eq_true rfl) (fun τ75 hq75 => ?_)
        refine gq_iload_n dz_M_claimHere_78 rfl ?_
        refine gq_bipush (v := -4) dz_M_claimHere_79 rfl ?_
        refine gq_icmp_ne (tgt := 88) dz_M_claimHere_81 rfl (fun h81 => ?_) (fun h81 => ?_)
        · skip
          refine gq_iload_n dz_M_claimHere_88 rfl ?_
          refine gw_iretP .int dz_M_claimHere_89 rfl (by first | rfl | exact zb_nar _ | exact pk_nc _) ?_ ?_
          · rw [if_neg h81]
          · rw [if_neg h81]; exact hq75
        · skip
          exact absurd h81 h66
      · skip
        refine gq_aload_n dz_M_claimHere_69 rfl ?_
        refine gq_iconst (v := 2) dz_M_claimHere_70 rfl ?_
        refine gq_cVX (sp_M_fails 2) zw_M_fails zl_M_103 dz_M_claimHere_71 rfl rfl rfl (by decide) rfl rfl (Nat.le_of_ble_eq_true rfl) (fun τ71 hq71 => ?_)
        have hf71 := hr.fl (n := 2) (by omega) (by omega) hq71
        refine gq_aload_n dz_M_claimHere_74 rfl ?_
        refine gq_cVX (sp_M_step (hT.fs hf71.1) hw hf71.2) zw_M_step zl_M_107 dz_M_claimHere_75 rfl rfl rfl (by decide) rfl rfl (Nat.le_of_ble_eq_true rfl) (fun τ75 hq75 => ?_)
        refine gq_iload_n dz_M_claimHere_78 rfl ?_
        refine gq_bipush (v := -4) dz_M_claimHere_79 rfl ?_
        refine gq_icmp_ne (tgt := 88) dz_M_claimHere_81 rfl (fun h81 => ?_) (fun h81 => ?_)
        · skip
          exact absurd h66 h81
        · skip
          refine gq_iconst (v := 0) dz_M_claimHere_84 rfl ?_
          refine gq_goto (tgt := 89) dz_M_claimHere_85 rfl ?_
          refine gw_iretP .int dz_M_claimHere_89 rfl (by first | rfl | exact zb_nar _ | exact pk_nc _) ?_ ?_
          · rw [if_pos h81]
          · rw [if_pos h81]; exact ⟨hf71.1.tr hq75.1, hq75.2⟩
