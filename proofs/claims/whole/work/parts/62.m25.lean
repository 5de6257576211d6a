theorem zx_cl1_of {A : za_D} {p n : Nat} {t w : Int32} {l : List Nat} (h : zs_sh A p t (n + 1) 0 = some l) : zx_cl1 A p t n w = if w = 0 then nI l.length else if w - 10 < nI l.length then nI (l.getD (w - 10).toNatClampNeg 0) else -4 := by rw [zx_cl1, h]
theorem zx_cl1_no {A : za_D} {p n : Nat} {t w : Int32} (h : zs_sh A p t (n + 1) 0 = none) : zx_cl1 A p t n w = -4 := by rw [zx_cl1, h]

set_option maxHeartbeats 4000000 in
theorem sp_M_claim {σ : zq_T} {X : za_X} (hS : zM_rep σ X) (hW : zx_wf X) (p t n w : Int32) : zq_Sp zm_M_claim 9 [zq_O 30 0, zq_I p, zq_I t, zq_I n, zq_I w] σ (zq_rw (zq_I (zx_claim X.1 p t n w)) (fun τ => zM_rep τ (X) ∧ zg_M σ τ)) := by
  have hA : zn_rep σ X.1 := hS.1
  have hw : za_wf X.1 := hW.1
  have hn6 := zn_n6 hA
  have hm5 := zn_m5 hA
  refine zq_sp [some (zq_O 30 0), some (zq_I p), some (zq_I t), some (zq_I n), some (zq_I w), none, none, none] (by decide +kernel) rfl (Nat.le_of_ble_eq_true rfl) (fun ν => ?_)
  refine gq_aload_n dz_M_claim_0 rfl ?_
  refine gq_iload_n dz_M_claim_1 rfl ?_
  refine gq_cV (sp_M_isOne hA _) zw_M_isOne zl_M_203 dz_M_claim_2 rfl rfl rfl (by decide) rfl rfl (Nat.le_of_ble_eq_true rfl) ?_
  refine gw_ifb_eq (tgt := 49) dz_M_claim_5 rfl (fun h5 => ?_) (fun h5 => ?_)
  · skip
    have ho : zx_clok X.1 p t n w = false := by rw [zx_clok, h5]; rfl
    refine gq_iconst (v := -1) dz_M_claim_49 rfl ?_
    refine gw_iretP .int dz_M_claim_50 rfl (by first | rfl | exact zb_nar _ | exact pk_nc _) ?_ ?_
    · rw [zx_claim, ho]; rfl
    · exact ⟨hS, zg_M.rf⟩
  · skip
    refine gq_iload_n dz_M_claim_8 rfl ?_
    refine gq_cS (sp_M_isThing _) zw_M_isThing zl_M_217 dz_M_claim_9 (by decide) rfl rfl (Nat.le_of_ble_eq_true rfl) ?_
    refine gw_ifb_eq (tgt := 49) dz_M_claim_12 rfl (fun h12 => ?_) (fun h12 => ?_)
    · skip
      have ho : zx_clok X.1 p t n w = false := by rw [zx_clok, h5, h12]; rfl
      refine gq_iconst (v := -1) dz_M_claim_49 rfl ?_
      refine gw_iretP .int dz_M_claim_50 rfl (by first | rfl | exact zb_nar _ | exact pk_nc _) ?_ ?_
      · rw [zx_claim, ho]; rfl
      · exact ⟨hS, zg_M.rf⟩
    · skip
      refine gq_iload_n dz_M_claim_15 rfl ?_
      refine gq_i2l dz_M_claim_16 ?_
      refine gq_lconst (v := 0) dz_M_claim_17 rfl ?_
      refine gq_ldc2 zl_M_167 dz_M_claim_18 ?_
      refine gq_cS (sp_M_in _ _ _) zw_M_in zl_M_65 dz_M_claim_21 (by decide) rfl rfl (Nat.le_of_ble_eq_true rfl) ?_
      refine gw_ifb_eq (tgt := 49) dz_M_claim_24 rfl (fun h24 => ?_) (fun h24 => ?_)
      · skip
        rw [zn_in3 (n := 3) rfl rfl (by omega)] at h24
        have ho : zx_clok X.1 p t n w = false := by rw [zx_clok, h5, h12, show zx_3 n 3 = false from h24]; rfl
        refine gq_iconst (v := -1) dz_M_claim_49 rfl ?_
        refine gw_iretP .int dz_M_claim_50 rfl (by first | rfl | exact zb_nar _ | exact pk_nc _) ?_ ?_
        · rw [zx_claim, ho]; rfl
        · exact ⟨hS, zg_M.rf⟩
      · skip
        rw [zn_in3 (n := 3) rfl rfl (by omega)] at h24
        obtain ⟨q, hq, rfl⟩ := (zb_in_iff (by omega)).mp h5
        obtain ⟨n0, hn0, rfl⟩ := zx_3of (n := 3) h24 (by omega)
        replace h24 : zx_3 (nI n0) 3 = true := h24
        refine gq_iload dz_M_claim_27 rfl ?_
        refine gq_if_eq (tgt := 51) dz_M_claim_29 rfl (fun h29 => ?_) (fun h29 => ?_)
        · skip
          have ho : zx_clok X.1 (nI q) t (nI n0) w = true := by rw [zx_clok, h5, h12, h24, decide_eq_true h29]; rfl
          have hw10 : ¬ w = 0 → ¬ w < 10 := fun z => absurd h29 z
          refine gq_iconst (v := 1) dz_M_claim_51 rfl ?_
          refine gw_istore 5 dz_M_claim_52 (Nat.le_of_ble_eq_true rfl) rfl ?_
          dsimp only [List.set]
          refine gq_iconst (v := 0) dz_M_claim_54 rfl ?_
          refine gw_istore 6 dz_M_claim_55 (Nat.le_of_ble_eq_true rfl) rfl ?_
          dsimp only [List.set]
          have L57 : ∀ (kf : Nat) (m : Nat) (τ : zq_T) (hkf : n0 + 1 - m < kf) (hm : m ≤ n0 + 1) (hk : zk_same σ τ) (hsh : zs_sh X.1 q t (n0 + 1) 0 = zs_sh X.1 q t (n0 + 1 - m) m), zq_G ν zm_M_claim 9 (zq_rw (zq_I (zx_claim X.1 (nI q) t (nI n0) w)) (fun τ => zM_rep τ (X) ∧ zg_M σ τ)) 57 [some (zq_O 30 0), some (zq_I (nI q)), some (zq_I t), some (zq_I (nI n0)), some (zq_I w), some (zq_I (nI (60 ^ m))), some (zq_I (nI m)), none] [] τ := by
            intro kf
            induction kf with
            | zero => intro m τ hkf hm hk hsh; exact absurd hkf (Nat.not_lt_zero _)
            | succ kf ih57 =>
              intro m τ hkf hm hk hsh
              refine gq_iload dz_M_claim_57 rfl ?_
              refine gq_iload_n dz_M_claim_59 rfl ?_
              refine gq_icmp_gt (tgt := 147) dz_M_claim_60 rfl (fun h60 => ?_) (fun h60 => ?_)
              · skip
                have hmn : m = n0 + 1 := by have := (nI_ltI (by omega) (by omega)).mp h60; omega
                have hs : zs_sh X.1 q t (n0 + 1) 0 = none := by rw [hsh, hmn, Nat.sub_self]; rfl
                refine gq_bipush (v := -4) dz_M_claim_147 rfl ?_
                refine gw_iretP .int dz_M_claim_149 rfl (by first | rfl | exact zb_nar _ | exact pk_nc _) ?_ ?_
                · rw [zx_claim, ho, if_pos rfl, nI_clamp (by omega), nI_clamp (by omega), zx_cl1_no hs]
                · exact ⟨hS.as hW hk, hk.M⟩
              · skip
                have hmn : m ≤ n0 := by rcases Nat.lt_or_ge n0 m with z | z; exact absurd (nI_lt z (by omega)) h60; exact z
                have hm3 : m ≤ 3 := by omega
                have hp3 := zy_p3 hm3
                refine gq_iconst (v := 0) dz_M_claim_63 rfl ?_
                refine gw_istore 7 dz_M_claim_64 (Nat.le_of_ble_eq_true rfl) rfl ?_
                dsimp only [List.set]
                have L66 : ∀ (kf : Nat) (way : Nat) (τ2 : zq_T) (hkf : 60 ^ m - way < kf) (hway : way ≤ 60 ^ m) (hk2 : zk_same σ τ2) (hno : ∀ w2, w2 < way → zy_H q t m X.1 w2 = false) (hal : way < 60 ^ m → zy_al m X.1 way), zq_G ν zm_M_claim 9 (zq_rw (zq_I (zx_claim X.1 (nI q) t (nI n0) w)) (fun τ => zM_rep τ (X) ∧ zg_M σ τ)) 66 [some (zq_O 30 0), some (zq_I (nI q)), some (zq_I t), some (zq_I (nI n0)), some (zq_I w), some (zq_I (nI (60 ^ m))), some (zq_I (nI m)), some (zq_I (nI way))] [] τ2 := by
                  intro kf
                  induction kf with
                  | zero => intro way τ2 hkf hway hk2 hno hal; exact absurd hkf (Nat.not_lt_zero _)
                  | succ kf ih66 =>
                    intro way τ2 hkf hway hk2 hno hal
                    refine gq_iload dz_M_claim_66 rfl ?_
                    refine gq_iload dz_M_claim_68 rfl ?_
                    refine gq_icmp_ge (tgt := 134) dz_M_claim_70 rfl (fun h70 => ?_) (fun h70 => ?_)
                    · skip
                      have hge : 60 ^ m ≤ way := (nI_leI (by omega) (by omega)).mp h70
                      refine gq_iload dz_M_claim_134 rfl ?_
                      refine gq_bipush (v := 60) dz_M_claim_136 rfl ?_
                      refine gq_imul dz_M_claim_138 ?_
                      rw [show (60 : Int32) = nI 60 from rfl, pk_mul, ← Nat.pow_succ]
                      refine gw_istore 5 dz_M_claim_139 (Nat.le_of_ble_eq_true rfl) rfl ?_
                      dsimp only [List.set]
                      refine gw_iinc 6 (c := 1) dz_M_claim_141 rfl rfl (Nat.le_of_ble_eq_true rfl) rfl ?_
                      dsimp only [List.set]
                      refine gq_goto (tgt := 57) dz_M_claim_144 rfl ?_
                      simp only [nI_1]
                      exact zq_fewer _ (zq_sub_spec (by repeat (first | exact trivial | exact rfl | refine And.intro ?_ ?_))) (ih57 (m + 1) τ2 (by omega) (by omega) hk2 (by rw [hsh, show n0 + 1 - m = (n0 + 1 - (m + 1)) + 1 by omega]; exact zs_first_no (zy_miss hw hn6 (fun w2 hw2 => hno w2 (by omega)))))
                    · skip
                      have hlt : way < 60 ^ m := by rcases Nat.lt_or_ge way (60 ^ m) with z | z; exact z; exact absurd (nI_le z (by omega)) h70
                      refine gq_aload_n dz_M_claim_73 rfl ?_
                      refine gq_iload_n dz_M_claim_74 rfl ?_
                      refine gq_iload_n dz_M_claim_75 rfl ?_
                      refine gq_iload dz_M_claim_76 rfl ?_
                      refine gq_iload dz_M_claim_78 rfl ?_
                      refine gq_cVP (sp_M_isHisBy (hA.zk hk2) hw t hm3 hlt) zw_M_isHisBy zl_M_250 dz_M_claim_80 rfl rfl rfl (by decide) rfl rfl (Nat.le_of_ble_eq_true rfl) (fun τ80 hq80 => ?_)
                      refine gw_ifb_eq (tgt := 122) dz_M_claim_83 rfl (fun h83 => ?_) (fun h83 => ?_)
                      · skip
                        have hst := zy_step hlt (hal hlt) hno h83
                        obtain ⟨hst1, hst2, hst3, hst4⟩ := hst
                        refine gq_iload dz_M_claim_122 rfl ?_
                        refine gq_aload_n dz_M_claim_124 rfl ?_
                        refine gq_getI zf_M_243 rfl rfl dz_M_claim_125 ?_
                        rw [hq80.2.1]
                        refine gq_iadd dz_M_claim_128 ?_
                        rw [nI_add]
                        refine gw_istore 7 dz_M_claim_129 (Nat.le_of_ble_eq_true rfl) rfl ?_
                        dsimp only [List.set]
                        refine gq_goto (tgt := 66) dz_M_claim_131 rfl ?_
                        exact zq_fewer _ (zq_sub_spec (by repeat (first | exact trivial | exact rfl | refine And.intro ?_ ?_))) (ih66 (way + zy_B m X.1 way) τ80 (by omega) hst1 (hk2.tr hq80.1) hst3 (fun _ => hst4))
                      · skip
                        have hs : zs_sh X.1 q t (n0 + 1) 0 = some (zy_dig m way) := by rw [hsh]; obtain ⟨k, hk9⟩ : ∃ k, n0 + 1 - m = k + 1 := ⟨n0 - m, (by omega)⟩; rw [hk9]; exact zs_first_ye (zy_hit hw hn6 hlt h83 hno)
                        refine gq_iload dz_M_claim_86 rfl ?_
                        refine gq_if_ne (tgt := 96) dz_M_claim_88 rfl (fun h88 => ?_) (fun h88 => ?_)
                        · skip
                          refine gq_iload dz_M_claim_96 rfl ?_
                          refine gq_bipush (v := 10) dz_M_claim_98 rfl ?_
                          refine gq_isub dz_M_claim_100 ?_
                          refine gq_iload dz_M_claim_101 rfl ?_
                          refine gq_icmp_ge (tgt := 119) dz_M_claim_103 rfl (fun h103 => ?_) (fun h103 => ?_)
                          · skip
                            have h103 : ¬ w - 10 < nI m := Int32.not_lt.mpr h103
                            refine gq_bipush (v := -4) dz_M_claim_119 rfl ?_
                            refine gw_iretP .int dz_M_claim_121 rfl (by first | rfl | exact zb_nar _ | exact pk_nc _) ?_ ?_
                            · rw [zx_claim, ho, if_pos rfl, nI_clamp (by omega), nI_clamp (by omega), zx_cl1_of hs, zy_dig_len, if_neg h88, if_neg h103]
                            · exact ⟨hS.as hW (hk2.tr hq80.1), (hk2.tr hq80.1).M⟩
                          · skip
                            have h103 : w - 10 < nI m := Int32.not_le.mp h103
                            obtain ⟨j, hj31, hje⟩ := nI_of (zq_w10 (hw10 h88) h103 hm3)
                            have hj : j < m := by rw [hje] at h103; exact (nI_ltI (by omega) (by omega)).mp h103
                            refine gq_aload_n dz_M_claim_106 rfl ?_
                            refine gq_getR 41 zf_M_40 rfl rfl dz_M_claim_107 ?_
                            refine gq_iload dz_M_claim_110 rfl ?_
                            refine gq_bipush (v := 10) dz_M_claim_112 rfl ?_
                            refine gq_isub dz_M_claim_114 ?_
                            refine gw_iald (j) (hje) rfl (rfl) (Nat.le_of_ble_eq_true rfl) (by omega) dz_M_claim_115 ?_
                            rw [hq80.2.2 h83 j hj]
                            refine gq_goto (tgt := 121) dz_M_claim_116 rfl ?_
                            refine gw_iretP .int dz_M_claim_121 rfl (by first | rfl | exact zb_nar _ | exact pk_nc _) ?_ ?_
                            · rw [zx_claim, ho, if_pos rfl, nI_clamp (by omega), nI_clamp (by omega), zx_cl1_of hs, zy_dig_len, if_neg h88, if_pos h103, hje, nI_clamp (by omega), zy_dig_at _ _ _ hj]
                            · exact ⟨hS.as hW (hk2.tr hq80.1), (hk2.tr hq80.1).M⟩
                        · skip
                          refine gq_iload dz_M_claim_91 rfl ?_
                          refine gq_goto (tgt := 121) dz_M_claim_93 rfl ?_
                          refine gw_iretP .int dz_M_claim_121 rfl (by first | rfl | exact zb_nar _ | exact pk_nc _) ?_ ?_
                          · rw [zx_claim, ho, if_pos rfl, nI_clamp (by omega), nI_clamp (by omega), zx_cl1_of hs, zy_dig_len, if_pos h88]
                          · exact ⟨hS.as hW (hk2.tr hq80.1), (hk2.tr hq80.1).M⟩
                exact zq_fewer _ (zq_sub_spec (by repeat (first | exact trivial | exact rfl | refine And.intro ?_ ?_))) (L66 (60 ^ m + 1) 0 τ (Nat.lt_succ_self _) (Nat.zero_le _) hk (fun w2 z => absurd z (Nat.not_lt_zero _)) (fun _ => zy_al_0 (Nat.zero_mod _)))
          exact zq_fewer _ (zq_sub_spec (by repeat (first | exact trivial | exact rfl | refine And.intro ?_ ?_))) (L57 (n0 + 2) 0 σ (by omega) (by omega) zk_same.rf rfl)
        · skip
          refine gq_iload dz_M_claim_32 rfl ?_
          refine gq_i2l dz_M_claim_34 ?_
          refine gq_ldc2 zl_M_239 dz_M_claim_35 ?_
          refine gq_bipush (v := 9) dz_M_claim_38 rfl ?_
          refine gq_iload_n dz_M_claim_40 rfl ?_
          refine gq_iadd dz_M_claim_41 ?_
          rw [show (9 : Int32) = nI 9 from rfl, nI_add]
          refine gq_i2l dz_M_claim_42 ?_
          refine gq_cS (sp_M_in _ _ _) zw_M_in zl_M_65 dz_M_claim_43 (by decide) rfl rfl (Nat.le_of_ble_eq_true rfl) ?_
          refine gw_ifb_ne (tgt := 51) dz_M_claim_46 rfl (fun h46 => ?_) (fun h46 => ?_)
          · skip
            rw [zn_in109 hn0] at h46
            have ho : zx_clok X.1 (nI q) t (nI n0) w = true := by rw [zx_clok, h5, h12, h24, h46, Bool.or_true]; rfl
            have hw10 : ¬ w = 0 → ¬ w < 10 := fun _ => Int32.not_lt.mpr (of_decide_eq_true h46).1
            refine gq_iconst (v := 1) dz_M_claim_51 rfl ?_
            refine gw_istore 5 dz_M_claim_52 (Nat.le_of_ble_eq_true rfl) rfl ?_
            dsimp only [List.set]
            refine gq_iconst (v := 0) dz_M_claim_54 rfl ?_
            refine gw_istore 6 dz_M_claim_55 (Nat.le_of_ble_eq_true rfl) rfl ?_
            dsimp only [List.set]
            have L57 : ∀ (kf : Nat) (m : Nat) (τ : zq_T) (hkf : n0 + 1 - m < kf) (hm : m ≤ n0 + 1) (hk : zk_same σ τ) (hsh : zs_sh X.1 q t (n0 + 1) 0 = zs_sh X.1 q t (n0 + 1 - m) m), zq_G ν zm_M_claim 9 (zq_rw (zq_I (zx_claim X.1 (nI q) t (nI n0) w)) (fun τ => zM_rep τ (X) ∧ zg_M σ τ)) 57 [some (zq_O 30 0), some (zq_I (nI q)), some (zq_I t), some (zq_I (nI n0)), some (zq_I w), some (zq_I (nI (60 ^ m))), some (zq_I (nI m)), none] [] τ := by
              intro kf
              induction kf with
              | zero => intro m τ hkf hm hk hsh; exact absurd hkf (Nat.not_lt_zero _)
              | succ kf ih57 =>
                intro m τ hkf hm hk hsh
                refine gq_iload dz_M_claim_57 rfl ?_
                refine gq_iload_n dz_M_claim_59 rfl ?_
                refine gq_icmp_gt (tgt := 147) dz_M_claim_60 rfl (fun h60 => ?_) (fun h60 => ?_)
                · skip
                  have hmn : m = n0 + 1 := by have := (nI_ltI (by omega) (by omega)).mp h60; omega
                  have hs : zs_sh X.1 q t (n0 + 1) 0 = none := by rw [hsh, hmn, Nat.sub_self]; rfl
                  refine gq_bipush (v := -4) dz_M_claim_147 rfl ?_
                  refine gw_iretP .int dz_M_claim_149 rfl (by first | rfl | exact zb_nar _ | exact pk_nc _) ?_ ?_
                  · rw [zx_claim, ho, if_pos rfl, nI_clamp (by omega), nI_clamp (by omega), zx_cl1_no hs]
                  · exact ⟨hS.as hW hk, hk.M⟩
                · skip
                  have hmn : m ≤ n0 := by rcases Nat.lt_or_ge n0 m with z | z; exact absurd (nI_lt z (by omega)) h60; exact z
                  have hm3 : m ≤ 3 := by omega
                  have hp3 := zy_p3 hm3
                  refine gq_iconst (v := 0) dz_M_claim_63 rfl ?_
                  refine gw_istore 7 dz_M_claim_64 (Nat.le_of_ble_eq_true rfl) rfl ?_
                  dsimp only [List.set]
                  have L66 : ∀ (kf : Nat) (way : Nat) (τ2 : zq_T) (hkf : 60 ^ m - way < kf) (hway : way ≤ 60 ^ m) (hk2 : zk_same σ τ2) (hno : ∀ w2, w2 < way → zy_H q t m X.1 w2 = false) (hal : way < 60 ^ m → zy_al m X.1 way), zq_G ν zm_M_claim 9 (zq_rw (zq_I (zx_claim X.1 (nI q) t (nI n0) w)) (fun τ => zM_rep τ (X) ∧ zg_M σ τ)) 66 [some (zq_O 30 0), some (zq_I (nI q)), some (zq_I t), some (zq_I (nI n0)), some (zq_I w), some (zq_I (nI (60 ^ m))), some (zq_I (nI m)), some (zq_I (nI way))] [] τ2 := by
                    intro kf
                    induction kf with
                    | zero => intro way τ2 hkf hway hk2 hno hal; exact absurd hkf (Nat.not_lt_zero _)
                    | succ kf ih66 =>
                      intro way τ2 hkf hway hk2 hno hal
                      refine gq_iload dz_M_claim_66 rfl ?_
                      refine gq_iload dz_M_claim_68 rfl ?_
                      refine gq_icmp_ge (tgt := 134) dz_M_claim_70 rfl (fun h70 => ?_) (fun h70 => ?_)
                      · skip
                        have hge : 60 ^ m ≤ way := (nI_leI (by omega) (by omega)).mp h70
                        refine gq_iload dz_M_claim_134 rfl ?_
                        refine gq_bipush (v := 60) dz_M_claim_136 rfl ?_
                        refine gq_imul dz_M_claim_138 ?_
                        rw [show (60 : Int32) = nI 60 from rfl, pk_mul, ← Nat.pow_succ]
                        refine gw_istore 5 dz_M_claim_139 (Nat.le_of_ble_eq_true rfl) rfl ?_
                        dsimp only [List.set]
                        refine gw_iinc 6 (c := 1) dz_M_claim_141 rfl rfl (Nat.le_of_ble_eq_true rfl) rfl ?_
                        dsimp only [List.set]
                        refine gq_goto (tgt := 57) dz_M_claim_144 rfl ?_
                        simp only [nI_1]
                        exact zq_fewer _ (zq_sub_spec (by repeat (first | exact trivial | exact rfl | refine And.intro ?_ ?_))) (ih57 (m + 1) τ2 (by omega) (by omega) hk2 (by rw [hsh, show n0 + 1 - m = (n0 + 1 - (m + 1)) + 1 by omega]; exact zs_first_no (zy_miss hw hn6 (fun w2 hw2 => hno w2 (by omega)))))
                      · skip
                        have hlt : way < 60 ^ m := by rcases Nat.lt_or_ge way (60 ^ m) with z | z; exact z; exact absurd (nI_le z (by omega)) h70
                        refine gq_aload_n dz_M_claim_73 rfl ?_
                        refine gq_iload_n dz_M_claim_74 rfl ?_
                        refine gq_iload_n dz_M_claim_75 rfl ?_
                        refine gq_iload dz_M_claim_76 rfl ?_
                        refine gq_iload dz_M_claim_78 rfl ?_
                        refine gq_cVP (sp_M_isHisBy (hA.zk hk2) hw t hm3 hlt) zw_M_isHisBy zl_M_250 dz_M_claim_80 rfl rfl rfl (by decide) rfl rfl (Nat.le_of_ble_eq_true rfl) (fun τ80 hq80 => ?_)
                        refine gw_ifb_eq (tgt := 122) dz_M_claim_83 rfl (fun h83 => ?_) (fun h83 => ?_)
                        · skip
                          have hst := zy_step hlt (hal hlt) hno h83
                          obtain ⟨hst1, hst2, hst3, hst4⟩ := hst
                          refine gq_iload dz_M_claim_122 rfl ?_
                          refine gq_aload_n dz_M_claim_124 rfl ?_
                          refine gq_getI zf_M_243 rfl rfl dz_M_claim_125 ?_
                          rw [hq80.2.1]
                          refine gq_iadd dz_M_claim_128 ?_
                          rw [nI_add]
                          refine gw_istore 7 dz_M_claim_129 (Nat.le_of_ble_eq_true rfl) rfl ?_
                          dsimp only [List.set]
                          refine gq_goto (tgt := 66) dz_M_claim_131 rfl ?_
                          exact zq_fewer _ (zq_sub_spec (by repeat (first | exact trivial | exact rfl | refine And.intro ?_ ?_))) (ih66 (way + zy_B m X.1 way) τ80 (by omega) hst1 (hk2.tr hq80.1) hst3 (fun _ => hst4))
                        · skip
                          have hs : zs_sh X.1 q t (n0 + 1) 0 = some (zy_dig m way) := by rw [hsh]; obtain ⟨k, hk9⟩ : ∃ k, n0 + 1 - m = k + 1 := ⟨n0 - m, (by omega)⟩; rw [hk9]; exact zs_first_ye (zy_hit hw hn6 hlt h83 hno)
                          refine gq_iload dz_M_claim_86 rfl ?_
                          refine gq_if_ne (tgt := 96) dz_M_claim_88 rfl (fun h88 => ?_) (fun h88 => ?_)
                          · skip
                            refine gq_iload dz_M_claim_96 rfl ?_
                            refine gq_bipush (v := 10) dz_M_claim_98 rfl ?_
                            refine gq_isub dz_M_claim_100 ?_
                            refine gq_iload dz_M_claim_101 rfl ?_
                            refine gq_icmp_ge (tgt := 119) dz_M_claim_103 rfl (fun h103 => ?_) (fun h103 => ?_)
                            · skip
                              have h103 : ¬ w - 10 < nI m := Int32.not_lt.mpr h103
                              refine gq_bipush (v := -4) dz_M_claim_119 rfl ?_
                              refine gw_iretP .int dz_M_claim_121 rfl (by first | rfl | exact zb_nar _ | exact pk_nc _) ?_ ?_
                              · rw [zx_claim, ho, if_pos rfl, nI_clamp (by omega), nI_clamp (by omega), zx_cl1_of hs, zy_dig_len, if_neg h88, if_neg h103]
                              · exact ⟨hS.as hW (hk2.tr hq80.1), (hk2.tr hq80.1).M⟩
                            · skip
                              have h103 : w - 10 < nI m := Int32.not_le.mp h103
                              obtain ⟨j, hj31, hje⟩ := nI_of (zq_w10 (hw10 h88) h103 hm3)
                              have hj : j < m := by rw [hje] at h103; exact (nI_ltI (by omega) (by omega)).mp h103
                              refine gq_aload_n dz_M_claim_106 rfl ?_
                              refine gq_getR 41 zf_M_40 rfl rfl dz_M_claim_107 ?_
                              refine gq_iload dz_M_claim_110 rfl ?_
                              refine gq_bipush (v := 10) dz_M_claim_112 rfl ?_
                              refine gq_isub dz_M_claim_114 ?_
                              refine gw_iald (j) (hje) rfl (rfl) (Nat.le_of_ble_eq_true rfl) (by omega) dz_M_claim_115 ?_
                              rw [hq80.2.2 h83 j hj]
                              refine gq_goto (tgt := 121) dz_M_claim_116 rfl ?_
                              refine gw_iretP .int dz_M_claim_121 rfl (by first | rfl | exact zb_nar _ | exact pk_nc _) ?_ ?_
                              · rw [zx_claim, ho, if_pos rfl, nI_clamp (by omega), nI_clamp (by omega), zx_cl1_of hs, zy_dig_len, if_neg h88, if_pos h103, hje, nI_clamp (by omega), zy_dig_at _ _ _ hj]
                              · exact ⟨hS.as hW (hk2.tr hq80.1), (hk2.tr hq80.1).M⟩
                          · skip
                            refine gq_iload dz_M_claim_91 rfl ?_
                            refine gq_goto (tgt := 121) dz_M_claim_93 rfl ?_
                            refine gw_iretP .int dz_M_claim_121 rfl (by first | rfl | exact zb_nar _ | exact pk_nc _) ?_ ?_
                            · rw [zx_claim, ho, if_pos rfl, nI_clamp (by omega), nI_clamp (by omega), zx_cl1_of hs, zy_dig_len, if_pos h88]
                            · exact ⟨hS.as hW (hk2.tr hq80.1), (hk2.tr hq80.1).M⟩
                  exact zq_fewer _ (zq_sub_spec (by repeat (first | exact trivial | exact rfl | refine And.intro ?_ ?_))) (L66 (60 ^ m + 1) 0 τ (Nat.lt_succ_self _) (Nat.zero_le _) hk (fun w2 z => absurd z (Nat.not_lt_zero _)) (fun _ => zy_al_0 (Nat.zero_mod _)))
            exact zq_fewer _ (zq_sub_spec (by repeat (first | exact trivial | exact rfl | refine And.intro ?_ ?_))) (L57 (n0 + 2) 0 σ (by omega) (by omega) zk_same.rf rfl)
          · skip
            rw [zn_in109 hn0] at h46
            have ho : zx_clok X.1 (nI q) t (nI n0) w = false := by rw [zx_clok, h5, h12, h24, h46, decide_eq_false h29]; rfl
            refine gq_iconst (v := -1) dz_M_claim_49 rfl ?_
            refine gw_iretP .int dz_M_claim_50 rfl (by first | rfl | exact zb_nar _ | exact pk_nc _) ?_ ?_
            · rw [zx_claim, ho]; rfl
            · exact ⟨hS, zg_M.rf⟩
