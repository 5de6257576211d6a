/-! THE MODEL: claim -/
def zj_same (σ τ : zq_T) : Prop := τ.2 = σ.2 ∧ ∀ (t : Nat) (j : Fin 5) (k : Nat), ¬ ((t = 31 ∧ k < 28) ∨ t = 41 ∨ (t = 30 ∧ k = 25)) → τ.1 t j k = σ.1 t j k
theorem zj_same.rf {σ : zq_T} : zj_same σ σ := ⟨rfl, fun _ _ _ _ => rfl⟩
theorem zj_same.p {σ τ υ : zq_T} (h : zj_same σ τ) (h2 : zp_same 0 τ υ) : zj_same σ υ := ⟨h2.1.trans h.1, fun t j k q => (h2.2 t j k (by omega)).trans (h.2 t j k q)⟩
theorem zj_same.up {σ τ : zq_T} (h : zj_same σ τ) {t k : Nat} {j : Fin 5} {v : Int32} (h1 : t = 41 ∨ (t = 30 ∧ k = 25)) : zj_same σ (zq_up τ.1 t j k v, τ.2) :=
  ⟨h.1, fun t' j' k' q => by
    show zq_up τ.1 t j k v t' j' k' = σ.1 t' j' k'
    rw [← h.2 t' j' k' q]
    exact if_neg fun z => q (by omega)⟩
theorem zn_rep.j {σ : zq_T} {A : za_D} (h : zn_rep σ A) {t k : Nat} {j : Fin 5} {v : Int32} (h1 : t = 41 ∨ (t = 30 ∧ k = 25)) : zn_rep (zq_up σ.1 t j k v, σ.2) A :=
  ⟨h.1.keep fun t' k' _ => if_neg fun z => by omega, h.2.keep h.1.2.1 fun k' _ _ => if_neg fun z => by omega⟩
theorem zj_rest {σ τ1 τ2 τ3 : zq_T} {v : Int32} (h1 : zp_same 84 (zu σ 30 0 25 v) τ1) (c1 : ∀ k, k < 28 → τ1.1 31 0 (84 + k) = (zu σ 30 0 25 v).1 31 0 (0 + k)) (h2 : zj_same τ1 τ2) (h3 : zp_same 0 τ2 τ3) (c3 : ∀ k, k < 28 → τ3.1 31 0 (0 + k) = τ2.1 31 0 (84 + k)) : zk_same σ τ3 :=
  ⟨by rw [h3.1, h2.1, h1.1], fun t j k q => (h3.2 t j k (by omega)).trans ((h2.2 t j k (by omega)).trans ((h1.2 t j k (by omega)).trans (zu_N (by omega)))), fun k hk => by
    by_cases z : k < 28
    · have e1 := c3 k z
      have e2 := c1 k z
      rw [Nat.zero_add] at e1 e2
      rw [e1, h2.2 31 0 (84 + k) (by omega), e2]
      exact zu_N (by omega)
    · rw [h3.2 31 0 k (by omega), h2.2 31 0 k (by omega), h1.2 31 0 k (by omega)]
      exact zu_N (by omega)⟩
theorem zy_p1 (s : Nat) : 60 ^ (s + 1) / 60 = 60 ^ s := by rw [Nat.pow_succ, Nat.mul_div_cancel _ (by decide)]
theorem zy_p3 {m : Nat} (h : m ≤ 3) : 60 ^ m ≤ 216000 := Nat.pow_le_pow_right (n := 60) (by decide) h
theorem zn_in109 {w : Int32} {n : Nat} (hn : n ≤ 3) : zn_in w.toInt64 10 (nI (9 + n)).toInt64 = decide (10 ≤ w ∧ w - 10 < nI n) := by
  rw [zn_in32, Int32.toInt_toInt64, nI_toInt (by omega)]
  refine decide_eq_decide.mpr ?_
  rw [Int32.le_iff_toInt_le, Int32.lt_iff_toInt_lt, Int32.toInt_sub, nI_toInt (by omega)]
  have h1 : (10 : Int64).toInt = 10 := by decide
  have h2 : (10 : Int32).toInt = 10 := by decide
  have h3 := w.toInt_lt
  have h4 := w.le_toInt
  have e2 : ((2 ^ 32 : Nat) : Int) = 4294967296 := rfl
  rw [h1, h2]
  unfold Int.bmod
  dsimp only
  rw [e2]
  split <;> omega

set_option maxHeartbeats 4000000 in
theorem sp_M_isHisBy {σ : zq_T} {A : za_D} (hA : zn_rep σ A) (hw : za_wf A) {p m way : Nat} (t : Int32) (hm : m ≤ 3) (hway : way < 60 ^ m) : zq_Sp zm_M_isHisBy 8 [zq_O 30 0, zq_I (nI p), zq_I t, zq_I (nI m), zq_I (nI way)] σ (zq_rw (zq_I (zb_v (zy_H p t m A way))) (fun τ => zk_same σ τ ∧ τ.1 30 0 25 = nI (zy_B m A way) ∧ (zy_H p t m A way = true → ∀ j, j < m → τ.1 41 0 j = nI (way / 60 ^ (m - 1 - j) % 60)))) := by
  have hn6 := zn_n6 hA
  have hm5 := zn_m5 hA
  have hp3 := zy_p3 hm
  refine zq_sp [some (zq_O 30 0), some (zq_I (nI p)), some (zq_I t), some (zq_I (nI m)), some (zq_I (nI way)), none, none, none] (by decide +kernel) rfl (Nat.le_of_ble_eq_true rfl) (fun ν => ?_)
  refine gq_iload_n dz_M_isHisBy_0 rfl ?_
  refine gq_if_ne (tgt := 8) dz_M_isHisBy_1 rfl (fun h1 => ?_) (fun h1 => ?_)
  · skip
    have hm0 : ¬ m = 0 := fun z => h1 (by rw [z]; rfl)
    refine gq_iload_n dz_M_isHisBy_8 rfl ?_
    refine gq_iconst (v := 1) dz_M_isHisBy_9 rfl ?_
    refine gq_icmp_ne (tgt := 17) dz_M_isHisBy_10 rfl (fun h10 => ?_) (fun h10 => ?_)
    · skip
      have hm1 : ¬ m = 1 := fun z => h10 (by rw [z]; rfl)
      refine gq_iload_n dz_M_isHisBy_17 rfl ?_
      refine gq_iconst (v := 2) dz_M_isHisBy_18 rfl ?_
      refine gq_icmp_ne (tgt := 27) dz_M_isHisBy_19 rfl (fun h19 => ?_) (fun h19 => ?_)
      · skip
        have hm2 : ¬ m = 2 := fun z => h19 (by rw [z]; rfl)
        have hm3 : m = 3 := by omega
        refine gq_sipush (v := 3600) dz_M_isHisBy_27 rfl ?_
        rw [show ([zq_I 3600] : List zq_V) = [zq_I (nI (60 ^ m / 60))] from by rw [hm3]; rfl]
        refine gw_istore 5 dz_M_isHisBy_30 (Nat.le_of_ble_eq_true rfl) rfl ?_
        dsimp only [List.set]
        refine gq_iconst (v := 1) dz_M_isHisBy_32 rfl ?_
        refine gw_istore 6 dz_M_isHisBy_33 (Nat.le_of_ble_eq_true rfl) rfl ?_
        dsimp only [List.set]
        refine gq_aload_n dz_M_isHisBy_35 rfl ?_
        refine gq_iconst (v := 1) dz_M_isHisBy_36 rfl ?_
        refine gq_putI zv_M_243 rfl rfl dz_M_isHisBy_37 ?_
        refine gq_aload_n dz_M_isHisBy_40 rfl ?_
        refine gq_iconst (v := 0) dz_M_isHisBy_41 rfl ?_
        refine gq_bipush (v := 84) dz_M_isHisBy_42 rfl ?_
        refine gq_cVX (sp_M_copies (a := 0) (b := 84) (by omega) (by omega) (by omega)) zw_M_copies zl_M_246 dz_M_isHisBy_44 rfl rfl rfl (by decide) rfl rfl (Nat.le_of_ble_eq_true rfl) (fun τ44 hq44 => ?_)
        refine gq_iconst (v := 0) dz_M_isHisBy_47 rfl ?_
        refine gw_istore 7 dz_M_isHisBy_48 (Nat.le_of_ble_eq_true rfl) rfl ?_
        dsimp only [List.set]
        have L50 : ∀ (kf : Nat) (i r : Nat) (c : Bool) (A2 : za_D) (τ : zq_T) (hkf : r < kf) (hi : i + r = m) (hT : zn_rep τ A2) (hwA : za_wf A2) (hnA : za_n A2 ≤ 6) (hj : zj_same τ44 τ) (hc : c = true → zy_H p t m A way = zy_H p t r A2 way ∧ zy_B m A way = zy_B r A2 way ∧ τ.1 30 0 25 = 1) (hf : c = false → zy_H p t m A way = false ∧ τ.1 30 0 25 = nI (zy_B m A way)) (hrow : ∀ j, j < i → τ.1 41 0 j = nI (way / 60 ^ (m - 1 - j) % 60)), zq_G ν zm_M_isHisBy 8 (zq_rw (zq_I (zb_v (zy_H p t m A way))) (fun τ => zk_same σ τ ∧ τ.1 30 0 25 = nI (zy_B m A way) ∧ (zy_H p t m A way = true → ∀ j, j < m → τ.1 41 0 j = nI (way / 60 ^ (m - 1 - j) % 60)))) 50 [some (zq_O 30 0), some (zq_I (nI p)), some (zq_I t), some (zq_I (nI m)), some (zq_I (nI way)), some (zq_I (nI (60 ^ r / 60))), some (zq_I (zb_v c)), some (zq_I (nI i))] [] τ := by
          intro kf
          induction kf with
          | zero => intro i r c A2 τ hkf hi hT hwA hnA hj hc hf hrow; exact absurd hkf (Nat.not_lt_zero _)
          | succ kf ih50 =>
            intro i r c A2 τ hkf hi hT hwA hnA hj hc hf hrow
            refine gq_iload dz_M_isHisBy_50 rfl ?_
            refine gq_iload_n dz_M_isHisBy_52 rfl ?_
            refine gq_icmp_ge (tgt := 155) dz_M_isHisBy_53 rfl (fun h53 => ?_) (fun h53 => ?_)
            · skip
              have hi2 : m ≤ i := (nI_leI (by omega) (by omega)).mp h53
              have hr0 : r = 0 := by omega
              subst hr0
              refine gq_iload dz_M_isHisBy_155 rfl ?_
              refine gw_ifb_eq (tgt := 180) dz_M_isHisBy_157 rfl (fun h157 => ?_) (fun h157 => ?_)
              · skip
                have hv : zy_H p t m A way = false := (hf h157).1
                refine gq_iconst (v := 0) dz_M_isHisBy_180 rfl ?_
                refine gw_istore 7 dz_M_isHisBy_181 (Nat.le_of_ble_eq_true rfl) rfl ?_
                dsimp only [List.set]
                refine gq_aload_n dz_M_isHisBy_183 rfl ?_
                refine gq_bipush (v := 84) dz_M_isHisBy_184 rfl ?_
                refine gq_iconst (v := 0) dz_M_isHisBy_186 rfl ?_
                refine gq_cVX (sp_M_copies (a := 84) (b := 0) (by omega) (by omega) (by omega)) zw_M_copies zl_M_246 dz_M_isHisBy_187 rfl rfl rfl (by decide) rfl rfl (Nat.le_of_ble_eq_true rfl) (fun τ187 hq187 => ?_)
                refine gq_iload dz_M_isHisBy_190 rfl ?_
                refine gw_iretP .boolean dz_M_isHisBy_192 rfl (by first | rfl | exact zb_nar _ | exact pk_nc _) ?_ ?_
                · rw [hv]; rfl
                · exact ⟨zj_rest hq44.1 hq44.2 hj hq187.1 hq187.2, (hq187.1.2 30 0 25 (by omega)).trans ((hf h157).2), fun hz j hjm => (hq187.1.2 41 0 j (by omega)).trans (by rw [hv] at hz; cases hz)⟩
              · skip
                obtain ⟨hc1, hc2, hc3⟩ := hc h157
                refine gq_aload_n dz_M_isHisBy_160 rfl ?_
                refine gq_iload_n dz_M_isHisBy_161 rfl ?_
                refine gq_aload_n dz_M_isHisBy_162 rfl ?_
                refine gq_getR 31 zf_M_7 rfl rfl dz_M_isHisBy_163 ?_
                refine gq_bipush (v := 12) dz_M_isHisBy_166 rfl ?_
                refine gw_iald (12) (rfl) rfl (rfl) (Nat.le_of_ble_eq_true rfl) (by omega) dz_M_isHisBy_168 ?_
                rw [zn_g hT]
                refine gq_cV (sp_M_ownerIn hT hwA _ _) zw_M_ownerIn zl_M_220 dz_M_isHisBy_169 rfl rfl rfl (by decide) rfl rfl (Nat.le_of_ble_eq_true rfl) ?_
                refine gq_iload_n dz_M_isHisBy_172 rfl ?_
                refine gq_icmp_ne (tgt := 180) dz_M_isHisBy_173 rfl (fun h173 => ?_) (fun h173 => ?_)
                · skip
                  have hv : zy_H p t m A way = false := by rw [hc1]; exact decide_eq_false h173
                  refine gq_iconst (v := 0) dz_M_isHisBy_180 rfl ?_
                  refine gw_istore 7 dz_M_isHisBy_181 (Nat.le_of_ble_eq_true rfl) rfl ?_
                  dsimp only [List.set]
                  refine gq_aload_n dz_M_isHisBy_183 rfl ?_
                  refine gq_bipush (v := 84) dz_M_isHisBy_184 rfl ?_
                  refine gq_iconst (v := 0) dz_M_isHisBy_186 rfl ?_
                  refine gq_cVX (sp_M_copies (a := 84) (b := 0) (by omega) (by omega) (by omega)) zw_M_copies zl_M_246 dz_M_isHisBy_187 rfl rfl rfl (by decide) rfl rfl (Nat.le_of_ble_eq_true rfl) (fun τ187 hq187 => ?_)
                  refine gq_iload dz_M_isHisBy_190 rfl ?_
                  refine gw_iretP .boolean dz_M_isHisBy_192 rfl (by first | rfl | exact zb_nar _ | exact pk_nc _) ?_ ?_
                  · rw [hv]; rfl
                  · exact ⟨zj_rest hq44.1 hq44.2 hj hq187.1 hq187.2, (hq187.1.2 30 0 25 (by omega)).trans (hc3.trans (by rw [hc2]; rfl)), fun hz j hjm => (hq187.1.2 41 0 j (by omega)).trans (by rw [hv] at hz; cases hz)⟩
                · skip
                  have hv : zy_H p t m A way = true := by rw [hc1]; exact decide_eq_true h173
                  refine gq_iconst (v := 1) dz_M_isHisBy_176 rfl ?_
                  refine gq_goto (tgt := 181) dz_M_isHisBy_177 rfl ?_
                  refine gw_istore 7 dz_M_isHisBy_181 (Nat.le_of_ble_eq_true rfl) rfl ?_
                  dsimp only [List.set]
                  refine gq_aload_n dz_M_isHisBy_183 rfl ?_
                  refine gq_bipush (v := 84) dz_M_isHisBy_184 rfl ?_
                  refine gq_iconst (v := 0) dz_M_isHisBy_186 rfl ?_
                  refine gq_cVX (sp_M_copies (a := 84) (b := 0) (by omega) (by omega) (by omega)) zw_M_copies zl_M_246 dz_M_isHisBy_187 rfl rfl rfl (by decide) rfl rfl (Nat.le_of_ble_eq_true rfl) (fun τ187 hq187 => ?_)
                  refine gq_iload dz_M_isHisBy_190 rfl ?_
                  refine gw_iretP .boolean dz_M_isHisBy_192 rfl (by first | rfl | exact zb_nar _ | exact pk_nc _) ?_ ?_
                  · rw [hv]; rfl
                  · exact ⟨zj_rest hq44.1 hq44.2 hj hq187.1 hq187.2, (hq187.1.2 30 0 25 (by omega)).trans (hc3.trans (by rw [hc2]; rfl)), fun hz j hjm => (hq187.1.2 41 0 j (by omega)).trans (hrow j (by omega))⟩
            · skip
              have hi2 : i < m := by rcases Nat.lt_or_ge i (m) with z | z; exact z; exact absurd (nI_le z (by omega)) h53
              refine gq_iload dz_M_isHisBy_56 rfl ?_
              refine gw_ifb_eq (tgt := 155) dz_M_isHisBy_58 rfl (fun h58 => ?_) (fun h58 => ?_)
              · skip
                refine gq_iload dz_M_isHisBy_155 rfl ?_
                refine gw_ifb_eq (tgt := 180) dz_M_isHisBy_157 rfl (fun h157 => ?_) (fun h157 => ?_)
                · skip
                  have hv : zy_H p t m A way = false := (hf h157).1
                  refine gq_iconst (v := 0) dz_M_isHisBy_180 rfl ?_
                  refine gw_istore 7 dz_M_isHisBy_181 (Nat.le_of_ble_eq_true rfl) rfl ?_
                  dsimp only [List.set]
                  refine gq_aload_n dz_M_isHisBy_183 rfl ?_
                  refine gq_bipush (v := 84) dz_M_isHisBy_184 rfl ?_
                  refine gq_iconst (v := 0) dz_M_isHisBy_186 rfl ?_
                  refine gq_cVX (sp_M_copies (a := 84) (b := 0) (by omega) (by omega) (by omega)) zw_M_copies zl_M_246 dz_M_isHisBy_187 rfl rfl rfl (by decide) rfl rfl (Nat.le_of_ble_eq_true rfl) (fun τ187 hq187 => ?_)
                  refine gq_iload dz_M_isHisBy_190 rfl ?_
                  refine gw_iretP .boolean dz_M_isHisBy_192 rfl (by first | rfl | exact zb_nar _ | exact pk_nc _) ?_ ?_
                  · rw [hv]; rfl
                  · exact ⟨zj_rest hq44.1 hq44.2 hj hq187.1 hq187.2, (hq187.1.2 30 0 25 (by omega)).trans ((hf h157).2), fun hz j hjm => (hq187.1.2 41 0 j (by omega)).trans (by rw [hv] at hz; cases hz)⟩
                · skip
                  exact Bool.noConfusion (h58.symm.trans h157)
              · skip
                obtain ⟨s, rfl⟩ : ∃ s, r = s + 1 := ⟨r - 1, by omega⟩
                obtain ⟨hc1, hc2, hc3⟩ := hc h58
                have hs3 : 60 ^ s ≤ 216000 := zy_p3 (by omega)
                rw [zy_p1]
                have hD : way / 60 ^ s % 60 < 2 ^ 31 := by omega
                have hway2 : way / 60 ^ s < 2 ^ 31 := Nat.lt_of_le_of_lt (Nat.div_le_self _ _) (by omega)
                have hse : s = m - 1 - i := by omega
                have hrow2 : ∀ τ2 : zq_T, (∀ j, j < i + 1 → τ2.1 41 0 j = (zu τ 41 0 i (nI (way / 60 ^ s % 60))).1 41 0 j) → ∀ j, j < i + 1 → τ2.1 41 0 j = nI (way / 60 ^ (m - 1 - j) % 60) := fun τ2 hz j hj => by rw [hz j hj]; rcases Nat.lt_or_ge j i with y | y; exact (zu_N (by omega)).trans (hrow j y); rw [show j = i by omega, ← hse]; exact zu_E
                refine gq_aload_n dz_M_isHisBy_61 rfl ?_
                refine gq_getR 41 zf_M_40 rfl rfl dz_M_isHisBy_62 ?_
                refine gq_iload dz_M_isHisBy_65 rfl ?_
                refine gq_iload dz_M_isHisBy_67 rfl ?_
                refine gq_iload dz_M_isHisBy_69 rfl ?_
                refine gq_idiv dz_M_isHisBy_71 (fun z => by have := (nI_eq (b := 0) (by omega) (by omega)).mp z; have := zy_p60 s; omega) ?_
                rw [pk_div (by omega) (zy_p60 s) (by omega)]
                refine gq_bipush (v := 60) dz_M_isHisBy_72 rfl ?_
                refine gq_irem dz_M_isHisBy_74 (by decide) ?_
                rw [show (60 : Int32) = nI 60 from rfl, pk_rem (by omega) (by omega) (by omega)]
                refine gw_iast (i) (rfl) rfl (rfl) (Nat.le_of_ble_eq_true rfl) (by omega) dz_M_isHisBy_75 ?_
                have hT2 := hT.j (t := 41) (k := i) (j := 0) (v := nI (way / 60 ^ s % 60)) (Or.inl rfl)
                refine gq_aload_n dz_M_isHisBy_76 rfl ?_
                refine gq_aload_n dz_M_isHisBy_77 rfl ?_
                refine gq_getR 41 zf_M_40 rfl rfl dz_M_isHisBy_78 ?_
                refine gq_iload dz_M_isHisBy_81 rfl ?_
                refine gw_iald (i) (rfl) rfl (rfl) (Nat.le_of_ble_eq_true rfl) (by omega) dz_M_isHisBy_83 ?_
                rw [zu_E]
                refine gq_cV (sp_M_isDeed hT2 hD) zw_M_isDeed zl_M_223 dz_M_isHisBy_84 rfl rfl rfl (by decide) rfl rfl (Nat.le_of_ble_eq_true rfl) ?_
                refine gw_ifb_eq (tgt := 108) dz_M_isHisBy_87 rfl (fun h87 => ?_) (fun h87 => ?_)
                · skip
                  have hcan : zs_can A2 (way / 60 ^ s % 60) = false := by rw [zs_can]; rcases Bool.and_eq_false_iff.mp h87 with z | z; rw [z]; rfl; rw [z, Bool.false_and, Bool.and_false]
                  refine gq_iconst (v := 0) dz_M_isHisBy_108 rfl ?_
                  refine gw_istore 6 dz_M_isHisBy_109 (Nat.le_of_ble_eq_true rfl) rfl ?_
                  dsimp only [List.set]
                  refine gq_aload_n dz_M_isHisBy_111 rfl ?_
                  refine gq_iload dz_M_isHisBy_112 rfl ?_
                  refine gq_if_eq (tgt := 121) dz_M_isHisBy_114 rfl (fun h114 => ?_) (fun h114 => ?_)
                  · skip
                    refine gq_iload dz_M_isHisBy_121 rfl ?_
                    refine gq_putI zv_M_243 rfl rfl dz_M_isHisBy_123 ?_
                    refine gq_iload dz_M_isHisBy_126 rfl ?_
                    refine gq_if_eq (tgt := 142) dz_M_isHisBy_128 rfl (fun h128 => ?_) (fun h128 => ?_)
                    · skip
                      refine gq_iload dz_M_isHisBy_142 rfl ?_
                      refine gq_bipush (v := 60) dz_M_isHisBy_144 rfl ?_
                      refine gq_idiv dz_M_isHisBy_146 (by decide) ?_
                      rw [show (60 : Int32) = nI 60 from rfl, pk_div (by omega) (by omega) (by omega)]
                      refine gw_istore 5 dz_M_isHisBy_147 (Nat.le_of_ble_eq_true rfl) rfl ?_
                      dsimp only [List.set]
                      refine gw_iinc 7 (c := 1) dz_M_isHisBy_149 rfl rfl (Nat.le_of_ble_eq_true rfl) rfl ?_
                      dsimp only [List.set]
                      refine gq_goto (tgt := 50) dz_M_isHisBy_152 rfl ?_
                      simp only [nI_1]
                      exact zq_fewer _ (zq_sub_spec (by repeat (first | exact trivial | exact rfl | refine And.intro ?_ ?_))) (ih50 (i + 1) s false A2 _ (by omega) (by omega) ((hT2.j (Or.inr ⟨rfl, rfl⟩))) hwA hnA ((hj.up (Or.inl rfl)).up (Or.inr ⟨rfl, rfl⟩)) (fun z => Bool.noConfusion z) (fun _ => ⟨by rw [hc1, zy_H, hcan]; rfl, by rw [hc2, zy_B, hcan]; exact zu_E⟩) (hrow2 (zu (zu τ 41 0 i (nI (way / 60 ^ s % 60))) 30 0 25 (nI (60 ^ s))) (fun j _ => zu_N (by omega))))
                    · skip
                      exact absurd rfl h128
                  · skip
                    exact absurd rfl h114
                · skip
                  have hDp : way / 60 ^ s % 60 / 10 < za_n A2 := of_decide_eq_true (Bool.and_eq_true_iff.mp h87).1
                  have hDf : way / 60 ^ s % 60 % 10 < 7 := of_decide_eq_true (Bool.and_eq_true_iff.mp h87).2
                  refine gq_aload_n dz_M_isHisBy_90 rfl ?_
                  refine gq_aload_n dz_M_isHisBy_91 rfl ?_
                  refine gq_getR 41 zf_M_40 rfl rfl dz_M_isHisBy_92 ?_
                  refine gq_iload dz_M_isHisBy_95 rfl ?_
                  refine gw_iald (i) (rfl) rfl (rfl) (Nat.le_of_ble_eq_true rfl) (by omega) dz_M_isHisBy_97 ?_
                  rw [zu_E]
                  refine gq_cV (sp_M_canDo hT2 hwA hD hDp hDf) zw_M_canDo zl_M_226 dz_M_isHisBy_98 rfl rfl rfl (by decide) rfl rfl (Nat.le_of_ble_eq_true rfl) ?_
                  refine gw_ifb_eq (tgt := 108) dz_M_isHisBy_101 rfl (fun h101 => ?_) (fun h101 => ?_)
                  · skip
                    have hcan : zs_can A2 (way / 60 ^ s % 60) = false := h101
                    refine gq_iconst (v := 0) dz_M_isHisBy_108 rfl ?_
                    refine gw_istore 6 dz_M_isHisBy_109 (Nat.le_of_ble_eq_true rfl) rfl ?_
                    dsimp only [List.set]
                    refine gq_aload_n dz_M_isHisBy_111 rfl ?_
                    refine gq_iload dz_M_isHisBy_112 rfl ?_
                    refine gq_if_eq (tgt := 121) dz_M_isHisBy_114 rfl (fun h114 => ?_) (fun h114 => ?_)
                    · skip
                      refine gq_iload dz_M_isHisBy_121 rfl ?_
                      refine gq_putI zv_M_243 rfl rfl dz_M_isHisBy_123 ?_
                      refine gq_iload dz_M_isHisBy_126 rfl ?_
                      refine gq_if_eq (tgt := 142) dz_M_isHisBy_128 rfl (fun h128 => ?_) (fun h128 => ?_)
                      · skip
                        refine gq_iload dz_M_isHisBy_142 rfl ?_
                        refine gq_bipush (v := 60) dz_M_isHisBy_144 rfl ?_
                        refine gq_idiv dz_M_isHisBy_146 (by decide) ?_
                        rw [show (60 : Int32) = nI 60 from rfl, pk_div (by omega) (by omega) (by omega)]
                        refine gw_istore 5 dz_M_isHisBy_147 (Nat.le_of_ble_eq_true rfl) rfl ?_
                        dsimp only [List.set]
                        refine gw_iinc 7 (c := 1) dz_M_isHisBy_149 rfl rfl (Nat.le_of_ble_eq_true rfl) rfl ?_
                        dsimp only [List.set]
                        refine gq_goto (tgt := 50) dz_M_isHisBy_152 rfl ?_
                        simp only [nI_1]
                        exact zq_fewer _ (zq_sub_spec (by repeat (first | exact trivial | exact rfl | refine And.intro ?_ ?_))) (ih50 (i + 1) s false A2 _ (by omega) (by omega) ((hT2.j (Or.inr ⟨rfl, rfl⟩))) hwA hnA ((hj.up (Or.inl rfl)).up (Or.inr ⟨rfl, rfl⟩)) (fun z => Bool.noConfusion z) (fun _ => ⟨by rw [hc1, zy_H, hcan]; rfl, by rw [hc2, zy_B, hcan]; exact zu_E⟩) (hrow2 (zu (zu τ 41 0 i (nI (way / 60 ^ s % 60))) 30 0 25 (nI (60 ^ s))) (fun j _ => zu_N (by omega))))
                      · skip
                        exact absurd rfl h128
                    · skip
                      exact absurd rfl h114
                  · skip
                    have hcan : zs_can A2 (way / 60 ^ s % 60) = true := h101
                    refine gq_iconst (v := 1) dz_M_isHisBy_104 rfl ?_
                    refine gq_goto (tgt := 109) dz_M_isHisBy_105 rfl ?_
                    refine gw_istore 6 dz_M_isHisBy_109 (Nat.le_of_ble_eq_true rfl) rfl ?_
                    dsimp only [List.set]
                    refine gq_aload_n dz_M_isHisBy_111 rfl ?_
                    refine gq_iload dz_M_isHisBy_112 rfl ?_
                    refine gq_if_eq (tgt := 121) dz_M_isHisBy_114 rfl (fun h114 => ?_) (fun h114 => ?_)
                    · skip
                      exact absurd h114 (by decide)
                    · skip
                      refine gq_iconst (v := 1) dz_M_isHisBy_117 rfl ?_
                      refine gq_goto (tgt := 123) dz_M_isHisBy_118 rfl ?_
                      refine gq_putI zv_M_243 rfl rfl dz_M_isHisBy_123 ?_
                      refine gq_iload dz_M_isHisBy_126 rfl ?_
                      refine gq_if_eq (tgt := 142) dz_M_isHisBy_128 rfl (fun h128 => ?_) (fun h128 => ?_)
                      · skip
                        exact absurd h128 (by decide)
                      · skip
                        refine gq_aload_n dz_M_isHisBy_131 rfl ?_
                        refine gq_aload_n dz_M_isHisBy_132 rfl ?_
                        refine gq_getR 41 zf_M_40 rfl rfl dz_M_isHisBy_133 ?_
                        refine gq_iload dz_M_isHisBy_136 rfl ?_
                        refine gw_iald (i) (rfl) rfl (rfl) (Nat.le_of_ble_eq_true rfl) (by omega) dz_M_isHisBy_138 ?_
                        rw [(zu_N (by omega)).trans zu_E]
                        refine gq_cVX (sp_M_doesIt (hT2.j (Or.inr ⟨rfl, rfl⟩)) hwA hD hDp hDf) zw_M_doesIt zl_M_229 dz_M_isHisBy_139 rfl rfl rfl (by decide) rfl rfl (Nat.le_of_ble_eq_true rfl) (fun τ139 hq139 => ?_)
                        refine gq_iload dz_M_isHisBy_142 rfl ?_
                        refine gq_bipush (v := 60) dz_M_isHisBy_144 rfl ?_
                        refine gq_idiv dz_M_isHisBy_146 (by decide) ?_
                        rw [show (60 : Int32) = nI 60 from rfl, pk_div (by omega) (by omega) (by omega)]
                        refine gw_istore 5 dz_M_isHisBy_147 (Nat.le_of_ble_eq_true rfl) rfl ?_
                        dsimp only [List.set]
                        refine gw_iinc 7 (c := 1) dz_M_isHisBy_149 rfl rfl (Nat.le_of_ble_eq_true rfl) rfl ?_
                        dsimp only [List.set]
                        refine gq_goto (tgt := 50) dz_M_isHisBy_152 rfl ?_
                        simp only [nI_1]
                        exact zq_fewer _ (zq_sub_spec (by repeat (first | exact trivial | exact rfl | refine And.intro ?_ ?_))) (ih50 (i + 1) s true (zs_acts A2 (way / 60 ^ s % 60)) _ (by omega) (by omega) hq139.2 (hwA.acts hnA hcan) (by rw [zs_acts_n]; exact hnA) (((hj.up (Or.inl rfl)).up (Or.inr ⟨rfl, rfl⟩)).p hq139.1) (fun _ => ⟨by rw [hc1, zy_H, hcan, Bool.true_and], by rw [hc2, zy_B, if_pos hcan], (hq139.1.2 30 0 25 (by omega)).trans zu_E⟩) (fun z => Bool.noConfusion z) (hrow2 _ (fun j _ => (hq139.1.2 41 0 j (by omega)).trans (zu_N (by omega)))))
        have hA44 : zn_rep τ44 A := (hA.j (t := 30) (k := 25) (j := 0) (v := 1) (Or.inr ⟨rfl, rfl⟩)).as84 hq44.1
        have hb44 : τ44.1 30 0 25 = 1 := (hq44.1.2 30 0 25 (by omega)).trans zu_E
        exact zq_fewer _ (zq_sub_spec (by repeat (first | exact trivial | exact rfl | refine And.intro ?_ ?_))) (L50 (m + 1) 0 m true A τ44 (by omega) (by omega) hA44 hw hn6 zj_same.rf (fun _ => ⟨rfl, rfl, hb44⟩) (fun z => Bool.noConfusion z) (fun j z => absurd z (Nat.not_lt_zero _)))
      · skip
        have hm2 : m = 2 := (nI_eq (b := 2) (by omega) (by omega)).mp h19
        refine gq_bipush (v := 60) dz_M_isHisBy_22 rfl ?_
        rw [show ([zq_I 60] : List zq_V) = [zq_I (nI (60 ^ m / 60))] from by rw [hm2]; rfl]
        refine gq_goto (tgt := 30) dz_M_isHisBy_24 rfl ?_
        refine gw_istore 5 dz_M_isHisBy_30 (Nat.le_of_ble_eq_true rfl) rfl ?_
        dsimp only [List.set]
        refine gq_iconst (v := 1) dz_M_isHisBy_32 rfl ?_
        refine gw_istore 6 dz_M_isHisBy_33 (Nat.le_of_ble_eq_true rfl) rfl ?_
        dsimp only [List.set]
        refine gq_aload_n dz_M_isHisBy_35 rfl ?_
        refine gq_iconst (v := 1) dz_M_isHisBy_36 rfl ?_
        refine gq_putI zv_M_243 rfl rfl dz_M_isHisBy_37 ?_
        refine gq_aload_n dz_M_isHisBy_40 rfl ?_
        refine gq_iconst (v := 0) dz_M_isHisBy_41 rfl ?_
        refine gq_bipush (v := 84) dz_M_isHisBy_42 rfl ?_
        refine gq_cVX (sp_M_copies (a := 0) (b := 84) (by omega) (by omega) (by omega)) zw_M_copies zl_M_246 dz_M_isHisBy_44 rfl rfl rfl (by decide) rfl rfl (Nat.le_of_ble_eq_true rfl) (fun τ44 hq44 => ?_)
        refine gq_iconst (v := 0) dz_M_isHisBy_47 rfl ?_
        refine gw_istore 7 dz_M_isHisBy_48 (Nat.le_of_ble_eq_true rfl) rfl ?_
        dsimp only [List.set]
        have L50 : ∀ (kf : Nat) (i r : Nat) (c : Bool) (A2 : za_D) (τ : zq_T) (hkf : r < kf) (hi : i + r = m) (hT : zn_rep τ A2) (hwA : za_wf A2) (hnA : za_n A2 ≤ 6) (hj : zj_same τ44 τ) (hc : c = true → zy_H p t m A way = zy_H p t r A2 way ∧ zy_B m A way = zy_B r A2 way ∧ τ.1 30 0 25 = 1) (hf : c = false → zy_H p t m A way = false ∧ τ.1 30 0 25 = nI (zy_B m A way)) (hrow : ∀ j, j < i → τ.1 41 0 j = nI (way / 60 ^ (m - 1 - j) % 60)), zq_G ν zm_M_isHisBy 8 (zq_rw (zq_I (zb_v (zy_H p t m A way))) (fun τ => zk_same σ τ ∧ τ.1 30 0 25 = nI (zy_B m A way) ∧ (zy_H p t m A way = true → ∀ j, j < m → τ.1 41 0 j = nI (way / 60 ^ (m - 1 - j) % 60)))) 50 [some (zq_O 30 0), some (zq_I (nI p)), some (zq_I t), some (zq_I (nI m)), some (zq_I (nI way)), some (zq_I (nI (60 ^ r / 60))), some (zq_I (zb_v c)), some (zq_I (nI i))] [] τ := by
          intro kf
          induction kf with
          | zero => intro i r c A2 τ hkf hi hT hwA hnA hj hc hf hrow; exact absurd hkf (Nat.not_lt_zero _)
          | succ kf ih50 =>
            intro i r c A2 τ hkf hi hT hwA hnA hj hc hf hrow
            refine gq_iload dz_M_isHisBy_50 rfl ?_
            refine gq_iload_n dz_M_isHisBy_52 rfl ?_
            refine gq_icmp_ge (tgt := 155) dz_M_isHisBy_53 rfl (fun h53 => ?_) (fun h53 => ?_)
            · skip
              have hi2 : m ≤ i := (nI_leI (by omega) (by omega)).mp h53
              have hr0 : r = 0 := by omega
              subst hr0
              refine gq_iload dz_M_isHisBy_155 rfl ?_
              refine gw_ifb_eq (tgt := 180) dz_M_isHisBy_157 rfl (fun h157 => ?_) (fun h157 => ?_)
              · skip
                have hv : zy_H p t m A way = false := (hf h157).1
                refine gq_iconst (v := 0) dz_M_isHisBy_180 rfl ?_
                refine gw_istore 7 dz_M_isHisBy_181 (Nat.le_of_ble_eq_true rfl) rfl ?_
                dsimp only [List.set]
                refine gq_aload_n dz_M_isHisBy_183 rfl ?_
                refine gq_bipush (v := 84) dz_M_isHisBy_184 rfl ?_
                refine gq_iconst (v := 0) dz_M_isHisBy_186 rfl ?_
                refine gq_cVX (sp_M_copies (a := 84) (b := 0) (by omega) (by omega) (by omega)) zw_M_copies zl_M_246 dz_M_isHisBy_187 rfl rfl rfl (by decide) rfl rfl (Nat.le_of_ble_eq_true rfl) (fun τ187 hq187 => ?_)
                refine gq_iload dz_M_isHisBy_190 rfl ?_
                refine gw_iretP .boolean dz_M_isHisBy_192 rfl (by first | rfl | exact zb_nar _ | exact pk_nc _) ?_ ?_
                · rw [hv]; rfl
                · exact ⟨zj_rest hq44.1 hq44.2 hj hq187.1 hq187.2, (hq187.1.2 30 0 25 (by omega)).trans ((hf h157).2), fun hz j hjm => (hq187.1.2 41 0 j (by omega)).trans (by rw [hv] at hz; cases hz)⟩
              · skip
                obtain ⟨hc1, hc2, hc3⟩ := hc h157
                refine gq_aload_n dz_M_isHisBy_160 rfl ?_
                refine gq_iload_n dz_M_isHisBy_161 rfl ?_
                refine gq_aload_n dz_M_isHisBy_162 rfl ?_
                refine gq_getR 31 zf_M_7 rfl rfl dz_M_isHisBy_163 ?_
                refine gq_bipush (v := 12) dz_M_isHisBy_166 rfl ?_
                refine gw_iald (12) (rfl) rfl (rfl) (Nat.le_of_ble_eq_true rfl) (by omega) dz_M_isHisBy_168 ?_
                rw [zn_g hT]
                refine gq_cV (sp_M_ownerIn hT hwA _ _) zw_M_ownerIn zl_M_220 dz_M_isHisBy_169 rfl rfl rfl (by decide) rfl rfl (Nat.le_of_ble_eq_true rfl) ?_
                refine gq_iload_n dz_M_isHisBy_172 rfl ?_
                refine gq_icmp_ne (tgt := 180) dz_M_isHisBy_173 rfl (fun h173 => ?_) (fun h173 => ?_)
                · skip
                  have hv : zy_H p t m A way = false := by rw [hc1]; exact decide_eq_false h173
                  refine gq_iconst (v := 0) dz_M_isHisBy_180 rfl ?_
                  refine gw_istore 7 dz_M_isHisBy_181 (Nat.le_of_ble_eq_true rfl) rfl ?_
                  dsimp only [List.set]
                  refine gq_aload_n dz_M_isHisBy_183 rfl ?_
                  refine gq_bipush (v := 84) dz_M_isHisBy_184 rfl ?_
                  refine gq_iconst (v := 0) dz_M_isHisBy_186 rfl ?_
                  refine gq_cVX (sp_M_copies (a := 84) (b := 0) (by omega) (by omega) (by omega)) zw_M_copies zl_M_246 dz_M_isHisBy_187 rfl rfl rfl (by decide) rfl rfl (Nat.le_of_ble_eq_true rfl) (fun τ187 hq187 => ?_)
                  refine gq_iload dz_M_isHisBy_190 rfl ?_
                  refine gw_iretP .boolean dz_M_isHisBy_192 rfl (by first | rfl | exact zb_nar _ | exact pk_nc _) ?_ ?_
                  · rw [hv]; rfl
                  · exact ⟨zj_rest hq44.1 hq44.2 hj hq187.1 hq187.2, (hq187.1.2 30 0 25 (by omega)).trans (hc3.trans (by rw [hc2]; rfl)), fun hz j hjm => (hq187.1.2 41 0 j (by omega)).trans (by rw [hv] at hz; cases hz)⟩
                · skip
                  have hv : zy_H p t m A way = true := by rw [hc1]; exact decide_eq_true h173
                  refine gq_iconst (v := 1) dz_M_isHisBy_176 rfl ?_
                  refine gq_goto (tgt := 181) dz_M_isHisBy_177 rfl ?_
                  refine gw_istore 7 dz_M_isHisBy_181 (Nat.le_of_ble_eq_true rfl) rfl ?_
                  dsimp only [List.set]
                  refine gq_aload_n dz_M_isHisBy_183 rfl ?_
                  refine gq_bipush (v := 84) dz_M_isHisBy_184 rfl ?_
                  refine gq_iconst (v := 0) dz_M_isHisBy_186 rfl ?_
                  refine gq_cVX (sp_M_copies (a := 84) (b := 0) (by omega) (by omega) (by omega)) zw_M_copies zl_M_246 dz_M_isHisBy_187 rfl rfl rfl (by decide) rfl rfl (Nat.le_of_ble_eq_true rfl) (fun τ187 hq187 => ?_)
                  refine gq_iload dz_M_isHisBy_190 rfl ?_
                  refine gw_iretP .boolean dz_M_isHisBy_192 rfl (by first | rfl | exact zb_nar _ | exact pk_nc _) ?_ ?_
                  · rw [hv]; rfl
                  · exact ⟨zj_rest hq44.1 hq44.2 hj hq187.1 hq187.2, (hq187.1.2 30 0 25 (by omega)).trans (hc3.trans (by rw [hc2]; rfl)), fun hz j hjm => (hq187.1.2 41 0 j (by omega)).trans (hrow j (by omega))⟩
            · skip
              have hi2 : i < m := by rcases Nat.lt_or_ge i (m) with z | z; exact z; exact absurd (nI_le z (by omega)) h53
              refine gq_iload dz_M_isHisBy_56 rfl ?_
              refine gw_ifb_eq (tgt := 155) dz_M_isHisBy_58 rfl (fun h58 => ?_) (fun h58 => ?_)
              · skip
                refine gq_iload dz_M_isHisBy_155 rfl ?_
                refine gw_ifb_eq (tgt := 180) dz_M_isHisBy_157 rfl (fun h157 => ?_) (fun h157 => ?_)
                · skip
                  have hv : zy_H p t m A way = false := (hf h157).1
                  refine gq_iconst (v := 0) dz_M_isHisBy_180 rfl ?_
                  refine gw_istore 7 dz_M_isHisBy_181 (Nat.le_of_ble_eq_true rfl) rfl ?_
                  dsimp only [List.set]
                  refine gq_aload_n dz_M_isHisBy_183 rfl ?_
                  refine gq_bipush (v := 84) dz_M_isHisBy_184 rfl ?_
                  refine gq_iconst (v := 0) dz_M_isHisBy_186 rfl ?_
                  refine gq_cVX (sp_M_copies (a := 84) (b := 0) (by omega) (by omega) (by omega)) zw_M_copies zl_M_246 dz_M_isHisBy_187 rfl rfl rfl (by decide) rfl rfl (Nat.le_of_ble_eq_true rfl) (fun τ187 hq187 => ?_)
                  refine gq_iload dz_M_isHisBy_190 rfl ?_
                  refine gw_iretP .boolean dz_M_isHisBy_192 rfl (by first | rfl | exact zb_nar _ | exact pk_nc _) ?_ ?_
                  · rw [hv]; rfl
                  · exact ⟨zj_rest hq44.1 hq44.2 hj hq187.1 hq187.2, (hq187.1.2 30 0 25 (by omega)).trans ((hf h157).2), fun hz j hjm => (hq187.1.2 41 0 j (by omega)).trans (by rw [hv] at hz; cases hz)⟩
                · skip
                  exact Bool.noConfusion (h58.symm.trans h157)
              · skip
                obtain ⟨s, rfl⟩ : ∃ s, r = s + 1 := ⟨r - 1, by omega⟩
                obtain ⟨hc1, hc2, hc3⟩ := hc h58
                have hs3 : 60 ^ s ≤ 216000 := zy_p3 (by omega)
                rw [zy_p1]
                have hD : way / 60 ^ s % 60 < 2 ^ 31 := by omega
                have hway2 : way / 60 ^ s < 2 ^ 31 := Nat.lt_of_le_of_lt (Nat.div_le_self _ _) (by omega)
                have hse : s = m - 1 - i := by omega
                have hrow2 : ∀ τ2 : zq_T, (∀ j, j < i + 1 → τ2.1 41 0 j = (zu τ 41 0 i (nI (way / 60 ^ s % 60))).1 41 0 j) → ∀ j, j < i + 1 → τ2.1 41 0 j = nI (way / 60 ^ (m - 1 - j) % 60) := fun τ2 hz j hj => by rw [hz j hj]; rcases Nat.lt_or_ge j i with y | y; exact (zu_N (by omega)).trans (hrow j y); rw [show j = i by omega, ← hse]; exact zu_E
                refine gq_aload_n dz_M_isHisBy_61 rfl ?_
                refine gq_getR 41 zf_M_40 rfl rfl dz_M_isHisBy_62 ?_
                refine gq_iload dz_M_isHisBy_65 rfl ?_
                refine gq_iload dz_M_isHisBy_67 rfl ?_
                refine gq_iload dz_M_isHisBy_69 rfl ?_
                refine gq_idiv dz_M_isHisBy_71 (fun z => by have := (nI_eq (b := 0) (by omega) (by omega)).mp z; have := zy_p60 s; omega) ?_
                rw [pk_div (by omega) (zy_p60 s) (by omega)]
                refine gq_bipush (v := 60) dz_M_isHisBy_72 rfl ?_
                refine gq_irem dz_M_isHisBy_74 (by decide) ?_
                rw [show (60 : Int32) = nI 60 from rfl, pk_rem (by omega) (by omega) (by omega)]
                refine gw_iast (i) (rfl) rfl (rfl) (Nat.le_of_ble_eq_true rfl) (by omega) dz_M_isHisBy_75 ?_
                have hT2 := hT.j (t := 41) (k := i) (j := 0) (v := nI (way / 60 ^ s % 60)) (Or.inl rfl)
                refine gq_aload_n dz_M_isHisBy_76 rfl ?_
                refine gq_aload_n dz_M_isHisBy_77 rfl ?_
                refine gq_getR 41 zf_M_40 rfl rfl dz_M_isHisBy_78 ?_
                refine gq_iload dz_M_isHisBy_81 rfl ?_
                refine gw_iald (i) (rfl) rfl (rfl) (Nat.le_of_ble_eq_true rfl) (by omega) dz_M_isHisBy_83 ?_
                rw [zu_E]
                refine gq_cV (sp_M_isDeed hT2 hD) zw_M_isDeed zl_M_223 dz_M_isHisBy_84 rfl rfl rfl (by decide) rfl rfl (Nat.le_of_ble_eq_true rfl) ?_
                refine gw_ifb_eq (tgt := 108) dz_M_isHisBy_87 rfl (fun h87 => ?_) (fun h87 => ?_)
                · skip
                  have hcan : zs_can A2 (way / 60 ^ s % 60) = false := by rw [zs_can]; rcases Bool.and_eq_false_iff.mp h87 with z | z; rw [z]; rfl; rw [z, Bool.false_and, Bool.and_false]
                  refine gq_iconst (v := 0) dz_M_isHisBy_108 rfl ?_
                  refine gw_istore 6 dz_M_isHisBy_109 (Nat.le_of_ble_eq_true rfl) rfl ?_
                  dsimp only [List.set]
                  refine gq_aload_n dz_M_isHisBy_111 rfl ?_
                  refine gq_iload dz_M_isHisBy_112 rfl ?_
                  refine gq_if_eq (tgt := 121) dz_M_isHisBy_114 rfl (fun h114 => ?_) (fun h114 => ?_)
                  · skip
                    refine gq_iload dz_M_isHisBy_121 rfl ?_
                    refine gq_putI zv_M_243 rfl rfl dz_M_isHisBy_123 ?_
                    refine gq_iload dz_M_isHisBy_126 rfl ?_
                    refine gq_if_eq (tgt := 142) dz_M_isHisBy_128 rfl (fun h128 => ?_) (fun h128 => ?_)
                    · skip
                      refine gq_iload dz_M_isHisBy_142 rfl ?_
                      refine gq_bipush (v := 60) dz_M_isHisBy_144 rfl ?_
                      refine gq_idiv dz_M_isHisBy_146 (by decide) ?_
                      rw [show (60 : Int32) = nI 60 from rfl, pk_div (by omega) (by omega) (by omega)]
                      refine gw_istore 5 dz_M_isHisBy_147 (Nat.le_of_ble_eq_true rfl) rfl ?_
                      dsimp only [List.set]
                      refine gw_iinc 7 (c := 1) dz_M_isHisBy_149 rfl rfl (Nat.le_of_ble_eq_true rfl) rfl ?_
                      dsimp only [List.set]
                      refine gq_goto (tgt := 50) dz_M_isHisBy_152 rfl ?_
                      simp only [nI_1]
                      exact zq_fewer _ (zq_sub_spec (by repeat (first | exact trivial | exact rfl | refine And.intro ?_ ?_))) (ih50 (i + 1) s false A2 _ (by omega) (by omega) ((hT2.j (Or.inr ⟨rfl, rfl⟩))) hwA hnA ((hj.up (Or.inl rfl)).up (Or.inr ⟨rfl, rfl⟩)) (fun z => Bool.noConfusion z) (fun _ => ⟨by rw [hc1, zy_H, hcan]; rfl, by rw [hc2, zy_B, hcan]; exact zu_E⟩) (hrow2 (zu (zu τ 41 0 i (nI (way / 60 ^ s % 60))) 30 0 25 (nI (60 ^ s))) (fun j _ => zu_N (by omega))))
                    · skip
                      exact absurd rfl h128
                  · skip
                    exact absurd rfl h114
                · skip
                  have hDp : way / 60 ^ s % 60 / 10 < za_n A2 := of_decide_eq_true (Bool.and_eq_true_iff.mp h87).1
                  have hDf : way / 60 ^ s % 60 % 10 < 7 := of_decide_eq_true (Bool.and_eq_true_iff.mp h87).2
                  refine gq_aload_n dz_M_isHisBy_90 rfl ?_
                  refine gq_aload_n dz_M_isHisBy_91 rfl ?_
                  refine gq_getR 41 zf_M_40 rfl rfl dz_M_isHisBy_92 ?_
                  refine gq_iload dz_M_isHisBy_95 rfl ?_
                  refine gw_iald (i) (rfl) rfl (rfl) (Nat.le_of_ble_eq_true rfl) (by omega) dz_M_isHisBy_97 ?_
                  rw [zu_E]
                  refine gq_cV (sp_M_canDo hT2 hwA hD hDp hDf) zw_M_canDo zl_M_226 dz_M_isHisBy_98 rfl rfl rfl (by decide) rfl rfl (Nat.le_of_ble_eq_true rfl) ?_
                  refine gw_ifb_eq (tgt := 108) dz_M_isHisBy_101 rfl (fun h101 => ?_) (fun h101 => ?_)
                  · skip
                    have hcan : zs_can A2 (way / 60 ^ s % 60) = false := h101
                    refine gq_iconst (v := 0) dz_M_isHisBy_108 rfl ?_
                    refine gw_istore 6 dz_M_isHisBy_109 (Nat.le_of_ble_eq_true rfl) rfl ?_
                    dsimp only [List.set]
                    refine gq_aload_n dz_M_isHisBy_111 rfl ?_
                    refine gq_iload dz_M_isHisBy_112 rfl ?_
                    refine gq_if_eq (tgt := 121) dz_M_isHisBy_114 rfl (fun h114 => ?_) (fun h114 => ?_)
                    · skip
                      refine gq_iload dz_M_isHisBy_121 rfl ?_
                      refine gq_putI zv_M_243 rfl rfl dz_M_isHisBy_123 ?_
                      refine gq_iload dz_M_isHisBy_126 rfl ?_
                      refine gq_if_eq (tgt := 142) dz_M_isHisBy_128 rfl (fun h128 => ?_) (fun h128 => ?_)
                      · skip
                        refine gq_iload dz_M_isHisBy_142 rfl ?_
                        refine gq_bipush (v := 60) dz_M_isHisBy_144 rfl ?_
                        refine gq_idiv dz_M_isHisBy_146 (by decide) ?_
                        rw [show (60 : Int32) = nI 60 from rfl, pk_div (by omega) (by omega) (by omega)]
                        refine gw_istore 5 dz_M_isHisBy_147 (Nat.le_of_ble_eq_true rfl) rfl ?_
                        dsimp only [List.set]
                        refine gw_iinc 7 (c := 1) dz_M_isHisBy_149 rfl rfl (Nat.le_of_ble_eq_true rfl) rfl ?_
                        dsimp only [List.set]
                        refine gq_goto (tgt := 50) dz_M_isHisBy_152 rfl ?_
                        simp only [nI_1]
                        exact zq_fewer _ (zq_sub_spec (by repeat (first | exact trivial | exact rfl | refine And.intro ?_ ?_))) (ih50 (i + 1) s false A2 _ (by omega) (by omega) ((hT2.j (Or.inr ⟨rfl, rfl⟩))) hwA hnA ((hj.up (Or.inl rfl)).up (Or.inr ⟨rfl, rfl⟩)) (fun z => Bool.noConfusion z) (fun _ => ⟨by rw [hc1, zy_H, hcan]; rfl, by rw [hc2, zy_B, hcan]; exact zu_E⟩) (hrow2 (zu (zu τ 41 0 i (nI (way / 60 ^ s % 60))) 30 0 25 (nI (60 ^ s))) (fun j _ => zu_N (by omega))))
                      · skip
                        exact absurd rfl h128
                    · skip
                      exact absurd rfl h114
                  · skip
                    have hcan : zs_can A2 (way / 60 ^ s % 60) = true := h101
                    refine gq_iconst (v := 1) dz_M_isHisBy_104 rfl ?_
                    refine gq_goto (tgt := 109) dz_M_isHisBy_105 rfl ?_
                    refine gw_istore 6 dz_M_isHisBy_109 (Nat.le_of_ble_eq_true rfl) rfl ?_
                    dsimp only [List.set]
                    refine gq_aload_n dz_M_isHisBy_111 rfl ?_
                    refine gq_iload dz_M_isHisBy_112 rfl ?_
                    refine gq_if_eq (tgt := 121) dz_M_isHisBy_114 rfl (fun h114 => ?_) (fun h114 => ?_)
                    · skip
                      exact absurd h114 (by decide)
                    · skip
                      refine gq_iconst (v := 1) dz_M_isHisBy_117 rfl ?_
                      refine gq_goto (tgt := 123) dz_M_isHisBy_118 rfl ?_
                      refine gq_putI zv_M_243 rfl rfl dz_M_isHisBy_123 ?_
                      refine gq_iload dz_M_isHisBy_126 rfl ?_
                      refine gq_if_eq (tgt := 142) dz_M_isHisBy_128 rfl (fun h128 => ?_) (fun h128 => ?_)
                      · skip
                        exact absurd h128 (by decide)
                      · skip
                        refine gq_aload_n dz_M_isHisBy_131 rfl ?_
                        refine gq_aload_n dz_M_isHisBy_132 rfl ?_
                        refine gq_getR 41 zf_M_40 rfl rfl dz_M_isHisBy_133 ?_
                        refine gq_iload dz_M_isHisBy_136 rfl ?_
                        refine gw_iald (i) (rfl) rfl (rfl) (Nat.le_of_ble_eq_true rfl) (by omega) dz_M_isHisBy_138 ?_
                        rw [(zu_N (by omega)).trans zu_E]
                        refine gq_cVX (sp_M_doesIt (hT2.j (Or.inr ⟨rfl, rfl⟩)) hwA hD hDp hDf) zw_M_doesIt zl_M_229 dz_M_isHisBy_139 rfl rfl rfl (by decide) rfl rfl (Nat.le_of_ble_eq_true rfl) (fun τ139 hq139 => ?_)
                        refine gq_iload dz_M_isHisBy_142 rfl ?_
                        refine gq_bipush (v := 60) dz_M_isHisBy_144 rfl ?_
                        refine gq_idiv dz_M_isHisBy_146 (by decide) ?_
                        rw [show (60 : Int32) = nI 60 from rfl, pk_div (by omega) (by omega) (by omega)]
                        refine gw_istore 5 dz_M_isHisBy_147 (Nat.le_of_ble_eq_true rfl) rfl ?_
                        dsimp only [List.set]
                        refine gw_iinc 7 (c := 1) dz_M_isHisBy_149 rfl rfl (Nat.le_of_ble_eq_true rfl) rfl ?_
                        dsimp only [List.set]
                        refine gq_goto (tgt := 50) dz_M_isHisBy_152 rfl ?_
                        simp only [nI_1]
                        exact zq_fewer _ (zq_sub_spec (by repeat (first | exact trivial | exact rfl | refine And.intro ?_ ?_))) (ih50 (i + 1) s true (zs_acts A2 (way / 60 ^ s % 60)) _ (by omega) (by omega) hq139.2 (hwA.acts hnA hcan) (by rw [zs_acts_n]; exact hnA) (((hj.up (Or.inl rfl)).up (Or.inr ⟨rfl, rfl⟩)).p hq139.1) (fun _ => ⟨by rw [hc1, zy_H, hcan, Bool.true_and], by rw [hc2, zy_B, if_pos hcan], (hq139.1.2 30 0 25 (by omega)).trans zu_E⟩) (fun z => Bool.noConfusion z) (hrow2 _ (fun j _ => (hq139.1.2 41 0 j (by omega)).trans (zu_N (by omega)))))
        have hA44 : zn_rep τ44 A := (hA.j (t := 30) (k := 25) (j := 0) (v := 1) (Or.inr ⟨rfl, rfl⟩)).as84 hq44.1
        have hb44 : τ44.1 30 0 25 = 1 := (hq44.1.2 30 0 25 (by omega)).trans zu_E
        exact zq_fewer _ (zq_sub_spec (by repeat (first | exact trivial | exact rfl | refine And.intro ?_ ?_))) (L50 (m + 1) 0 m true A τ44 (by omega) (by omega) hA44 hw hn6 zj_same.rf (fun _ => ⟨rfl, rfl, hb44⟩) (fun z => Bool.noConfusion z) (fun j z => absurd z (Nat.not_lt_zero _)))
    · skip
      have hm1 : m = 1 := (nI_eq (b := 1) (by omega) (by omega)).mp h10
      refine gq_iconst (v := 1) dz_M_isHisBy_13 rfl ?_
      rw [show ([zq_I 1] : List zq_V) = [zq_I (nI (60 ^ m / 60))] from by rw [hm1]; rfl]
      refine gq_goto (tgt := 30) dz_M_isHisBy_14 rfl ?_
      refine gw_istore 5 dz_M_isHisBy_30 (Nat.le_of_ble_eq_true rfl) rfl ?_
      dsimp only [List.set]
      refine gq_iconst (v := 1) dz_M_isHisBy_32 rfl ?_
      refine gw_istore 6 dz_M_isHisBy_33 (Nat.le_of_ble_eq_true rfl) rfl ?_
      dsimp only [List.set]
      refine gq_aload_n dz_M_isHisBy_35 rfl ?_
      refine gq_iconst (v := 1) dz_M_isHisBy_36 rfl ?_
      refine gq_putI zv_M_243 rfl rfl dz_M_isHisBy_37 ?_
      refine gq_aload_n dz_M_isHisBy_40 rfl ?_
      refine gq_iconst (v := 0) dz_M_isHisBy_41 rfl ?_
      refine gq_bipush (v := 84) dz_M_isHisBy_42 rfl ?_
      refine gq_cVX (sp_M_copies (a := 0) (b := 84) (by omega) (by omega) (by omega)) zw_M_copies zl_M_246 dz_M_isHisBy_44 rfl rfl rfl (by decide) rfl rfl (Nat.le_of_ble_eq_true rfl) (fun τ44 hq44 => ?_)
      refine gq_iconst (v := 0) dz_M_isHisBy_47 rfl ?_
      refine gw_istore 7 dz_M_isHisBy_48 (Nat.le_of_ble_eq_true rfl) rfl ?_
      dsimp only [List.set]
      have L50 : ∀ (kf : Nat) (i r : Nat) (c : Bool) (A2 : za_D) (τ : zq_T) (hkf : r < kf) (hi : i + r = m) (hT : zn_rep τ A2) (hwA : za_wf A2) (hnA : za_n A2 ≤ 6) (hj : zj_same τ44 τ) (hc : c = true → zy_H p t m A way = zy_H p t r A2 way ∧ zy_B m A way = zy_B r A2 way ∧ τ.1 30 0 25 = 1) (hf : c = false → zy_H p t m A way = false ∧ τ.1 30 0 25 = nI (zy_B m A way)) (hrow : ∀ j, j < i → τ.1 41 0 j = nI (way / 60 ^ (m - 1 - j) % 60)), zq_G ν zm_M_isHisBy 8 (zq_rw (zq_I (zb_v (zy_H p t m A way))) (fun τ => zk_same σ τ ∧ τ.1 30 0 25 = nI (zy_B m A way) ∧ (zy_H p t m A way = true → ∀ j, j < m → τ.1 41 0 j = nI (way / 60 ^ (m - 1 - j) % 60)))) 50 [some (zq_O 30 0), some (zq_I (nI p)), some (zq_I t), some (zq_I (nI m)), some (zq_I (nI way)), some (zq_I (nI (60 ^ r / 60))), some (zq_I (zb_v c)), some (zq_I (nI i))] [] τ := by
        intro kf
        induction kf with
        | zero => intro i r c A2 τ hkf hi hT hwA hnA hj hc hf hrow; exact absurd hkf (Nat.not_lt_zero _)
        | succ kf ih50 =>
          intro i r c A2 τ hkf hi hT hwA hnA hj hc hf hrow
          refine gq_iload dz_M_isHisBy_50 rfl ?_
          refine gq_iload_n dz_M_isHisBy_52 rfl ?_
          refine gq_icmp_ge (tgt := 155) dz_M_isHisBy_53 rfl (fun h53 => ?_) (fun h53 => ?_)
          · skip
            have hi2 : m ≤ i := (nI_leI (by omega) (by omega)).mp h53
            have hr0 : r = 0 := by omega
            subst hr0
            refine gq_iload dz_M_isHisBy_155 rfl ?_
            refine gw_ifb_eq (tgt := 180) dz_M_isHisBy_157 rfl (fun h157 => ?_) (fun h157 => ?_)
            · skip
              have hv : zy_H p t m A way = false := (hf h157).1
              refine gq_iconst (v := 0) dz_M_isHisBy_180 rfl ?_
              refine gw_istore 7 dz_M_isHisBy_181 (Nat.le_of_ble_eq_true rfl) rfl ?_
              dsimp only [List.set]
              refine gq_aload_n dz_M_isHisBy_183 rfl ?_
              refine gq_bipush (v := 84) dz_M_isHisBy_184 rfl ?_
              refine gq_iconst (v := 0) dz_M_isHisBy_186 rfl ?_
              refine gq_cVX (sp_M_copies (a := 84) (b := 0) (by omega) (by omega) (by omega)) zw_M_copies zl_M_246 dz_M_isHisBy_187 rfl rfl rfl (by decide) rfl rfl (Nat.le_of_ble_eq_true rfl) (fun τ187 hq187 => ?_)
              refine gq_iload dz_M_isHisBy_190 rfl ?_
              refine gw_iretP .boolean dz_M_isHisBy_192 rfl (by first | rfl | exact zb_nar _ | exact pk_nc _) ?_ ?_
              · rw [hv]; rfl
              · exact ⟨zj_rest hq44.1 hq44.2 hj hq187.1 hq187.2, (hq187.1.2 30 0 25 (by omega)).trans ((hf h157).2), fun hz j hjm => (hq187.1.2 41 0 j (by omega)).trans (by rw [hv] at hz; cases hz)⟩
            · skip
              obtain ⟨hc1, hc2, hc3⟩ := hc h157
              refine gq_aload_n dz_M_isHisBy_160 rfl ?_
              refine gq_iload_n dz_M_isHisBy_161 rfl ?_
              refine gq_aload_n dz_M_isHisBy_162 rfl ?_
              refine gq_getR 31 zf_M_7 rfl rfl dz_M_isHisBy_163 ?_
              refine gq_bipush (v := 12) dz_M_isHisBy_166 rfl ?_
              refine gw_iald (12) (rfl) rfl (rfl) (Nat.le_of_ble_eq_true rfl) (by omega) dz_M_isHisBy_168 ?_
              rw [zn_g hT]
              refine gq_cV (sp_M_ownerIn hT hwA _ _) zw_M_ownerIn zl_M_220 dz_M_isHisBy_169 rfl rfl rfl (by decide) rfl rfl (Nat.le_of_ble_eq_true rfl) ?_
              refine gq_iload_n dz_M_isHisBy_172 rfl ?_
              refine gq_icmp_ne (tgt := 180) dz_M_isHisBy_173 rfl (fun h173 => ?_) (fun h173 => ?_)
              · skip
                have hv : zy_H p t m A way = false := by rw [hc1]; exact decide_eq_false h173
                refine gq_iconst (v := 0) dz_M_isHisBy_180 rfl ?_
                refine gw_istore 7 dz_M_isHisBy_181 (Nat.le_of_ble_eq_true rfl) rfl ?_
                dsimp only [List.set]
                refine gq_aload_n dz_M_isHisBy_183 rfl ?_
                refine gq_bipush (v := 84) dz_M_isHisBy_184 rfl ?_
                refine gq_iconst (v := 0) dz_M_isHisBy_186 rfl ?_
                refine gq_cVX (sp_M_copies (a := 84) (b := 0) (by omega) (by omega) (by omega)) zw_M_copies zl_M_246 dz_M_isHisBy_187 rfl rfl rfl (by decide) rfl rfl (Nat.le_of_ble_eq_true rfl) (fun τ187 hq187 => ?_)
                refine gq_iload dz_M_isHisBy_190 rfl ?_
                refine gw_iretP .boolean dz_M_isHisBy_192 rfl (by first | rfl | exact zb_nar _ | exact pk_nc _) ?_ ?_
                · rw [hv]; rfl
                · exact ⟨zj_rest hq44.1 hq44.2 hj hq187.1 hq187.2, (hq187.1.2 30 0 25 (by omega)).trans (hc3.trans (by rw [hc2]; rfl)), fun hz j hjm => (hq187.1.2 41 0 j (by omega)).trans (by rw [hv] at hz; cases hz)⟩
              · skip
                have hv : zy_H p t m A way = true := by rw [hc1]; exact decide_eq_true h173
                refine gq_iconst (v := 1) dz_M_isHisBy_176 rfl ?_
                refine gq_goto (tgt := 181) dz_M_isHisBy_177 rfl ?_
                refine gw_istore 7 dz_M_isHisBy_181 (Nat.le_of_ble_eq_true rfl) rfl ?_
                dsimp only [List.set]
                refine gq_aload_n dz_M_isHisBy_183 rfl ?_
                refine gq_bipush (v := 84) dz_M_isHisBy_184 rfl ?_
                refine gq_iconst (v := 0) dz_M_isHisBy_186 rfl ?_
                refine gq_cVX (sp_M_copies (a := 84) (b := 0) (by omega) (by omega) (by omega)) zw_M_copies zl_M_246 dz_M_isHisBy_187 rfl rfl rfl (by decide) rfl rfl (Nat.le_of_ble_eq_true rfl) (fun τ187 hq187 => ?_)
                refine gq_iload dz_M_isHisBy_190 rfl ?_
                refine gw_iretP .boolean dz_M_isHisBy_192 rfl (by first | rfl | exact zb_nar _ | exact pk_nc _) ?_ ?_
                · rw [hv]; rfl
                · exact ⟨zj_rest hq44.1 hq44.2 hj hq187.1 hq187.2, (hq187.1.2 30 0 25 (by omega)).trans (hc3.trans (by rw [hc2]; rfl)), fun hz j hjm => (hq187.1.2 41 0 j (by omega)).trans (hrow j (by omega))⟩
          · skip
            have hi2 : i < m := by rcases Nat.lt_or_ge i (m) with z | z; exact z; exact absurd (nI_le z (by omega)) h53
            refine gq_iload dz_M_isHisBy_56 rfl ?_
            refine gw_ifb_eq (tgt := 155) dz_M_isHisBy_58 rfl (fun h58 => ?_) (fun h58 => ?_)
            · skip
              refine gq_iload dz_M_isHisBy_155 rfl ?_
              refine gw_ifb_eq (tgt := 180) dz_M_isHisBy_157 rfl (fun h157 => ?_) (fun h157 => ?_)
              · skip
                have hv : zy_H p t m A way = false := (hf h157).1
                refine gq_iconst (v := 0) dz_M_isHisBy_180 rfl ?_
                refine gw_istore 7 dz_M_isHisBy_181 (Nat.le_of_ble_eq_true rfl) rfl ?_
                dsimp only [List.set]
                refine gq_aload_n dz_M_isHisBy_183 rfl ?_
                refine gq_bipush (v := 84) dz_M_isHisBy_184 rfl ?_
                refine gq_iconst (v := 0) dz_M_isHisBy_186 rfl ?_
                refine gq_cVX (sp_M_copies (a := 84) (b := 0) (by omega) (by omega) (by omega)) zw_M_copies zl_M_246 dz_M_isHisBy_187 rfl rfl rfl (by decide) rfl rfl (Nat.le_of_ble_eq_true rfl) (fun τ187 hq187 => ?_)
                refine gq_iload dz_M_isHisBy_190 rfl ?_
                refine gw_iretP .boolean dz_M_isHisBy_192 rfl (by first | rfl | exact zb_nar _ | exact pk_nc _) ?_ ?_
                · rw [hv]; rfl
                · exact ⟨zj_rest hq44.1 hq44.2 hj hq187.1 hq187.2, (hq187.1.2 30 0 25 (by omega)).trans ((hf h157).2), fun hz j hjm => (hq187.1.2 41 0 j (by omega)).trans (by rw [hv] at hz; cases hz)⟩
              · skip
                exact Bool.noConfusion (h58.symm.trans h157)
            · skip
              obtain ⟨s, rfl⟩ : ∃ s, r = s + 1 := ⟨r - 1, by omega⟩
              obtain ⟨hc1, hc2, hc3⟩ := hc h58
              have hs3 : 60 ^ s ≤ 216000 := zy_p3 (by omega)
              rw [zy_p1]
              have hD : way / 60 ^ s % 60 < 2 ^ 31 := by omega
              have hway2 : way / 60 ^ s < 2 ^ 31 := Nat.lt_of_le_of_lt (Nat.div_le_self _ _) (by omega)
              have hse : s = m - 1 - i := by omega
              have hrow2 : ∀ τ2 : zq_T, (∀ j, j < i + 1 → τ2.1 41 0 j = (zu τ 41 0 i (nI (way / 60 ^ s % 60))).1 41 0 j) → ∀ j, j < i + 1 → τ2.1 41 0 j = nI (way / 60 ^ (m - 1 - j) % 60) := fun τ2 hz j hj => by rw [hz j hj]; rcases Nat.lt_or_ge j i with y | y; exact (zu_N (by omega)).trans (hrow j y); rw [show j = i by omega, ← hse]; exact zu_E
              refine gq_aload_n dz_M_isHisBy_61 rfl ?_
              refine gq_getR 41 zf_M_40 rfl rfl dz_M_isHisBy_62 ?_
              refine gq_iload dz_M_isHisBy_65 rfl ?_
              refine gq_iload dz_M_isHisBy_67 rfl ?_
              refine gq_iload dz_M_isHisBy_69 rfl ?_
              refine gq_idiv dz_M_isHisBy_71 (fun z => by have := (nI_eq (b := 0) (by omega) (by omega)).mp z; have := zy_p60 s; omega) ?_
              rw [pk_div (by omega) (zy_p60 s) (by omega)]
              refine gq_bipush (v := 60) dz_M_isHisBy_72 rfl ?_
              refine gq_irem dz_M_isHisBy_74 (by decide) ?_
              rw [show (60 : Int32) = nI 60 from rfl, pk_rem (by omega) (by omega) (by omega)]
              refine gw_iast (i) (rfl) rfl (rfl) (Nat.le_of_ble_eq_true rfl) (by omega) dz_M_isHisBy_75 ?_
              have hT2 := hT.j (t := 41) (k := i) (j := 0) (v := nI (way / 60 ^ s % 60)) (Or.inl rfl)
              refine gq_aload_n dz_M_isHisBy_76 rfl ?_
              refine gq_aload_n dz_M_isHisBy_77 rfl ?_
              refine gq_getR 41 zf_M_40 rfl rfl dz_M_isHisBy_78 ?_
              refine gq_iload dz_M_isHisBy_81 rfl ?_
              refine gw_iald (i) (rfl) rfl (rfl) (Nat.le_of_ble_eq_true rfl) (by omega) dz_M_isHisBy_83 ?_
              rw [zu_E]
              refine gq_cV (sp_M_isDeed hT2 hD) zw_M_isDeed zl_M_223 dz_M_isHisBy_84 rfl rfl rfl (by decide) rfl rfl (Nat.le_of_ble_eq_true rfl) ?_
              refine gw_ifb_eq (tgt := 108) dz_M_isHisBy_87 rfl (fun h87 => ?_) (fun h87 => ?_)
              · skip
                have hcan : zs_can A2 (way / 60 ^ s % 60) = false := by rw [zs_can]; rcases Bool.and_eq_false_iff.mp h87 with z | z; rw [z]; rfl; rw [z, Bool.false_and, Bool.and_false]
                refine gq_iconst (v := 0) dz_M_isHisBy_108 rfl ?_
                refine gw_istore 6 dz_M_isHisBy_109 (Nat.le_of_ble_eq_true rfl) rfl ?_
                dsimp only [List.set]
                refine gq_aload_n dz_M_isHisBy_111 rfl ?_
                refine gq_iload dz_M_isHisBy_112 rfl ?_
                refine gq_if_eq (tgt := 121) dz_M_isHisBy_114 rfl (fun h114 => ?_) (fun h114 => ?_)
                · skip
                  refine gq_iload dz_M_isHisBy_121 rfl ?_
                  refine gq_putI zv_M_243 rfl rfl dz_M_isHisBy_123 ?_
                  refine gq_iload dz_M_isHisBy_126 rfl ?_
                  refine gq_if_eq (tgt := 142) dz_M_isHisBy_128 rfl (fun h128 => ?_) (fun h128 => ?_)
                  · skip
                    refine gq_iload dz_M_isHisBy_142 rfl ?_
                    refine gq_bipush (v := 60) dz_M_isHisBy_144 rfl ?_
                    refine gq_idiv dz_M_isHisBy_146 (by decide) ?_
                    rw [show (60 : Int32) = nI 60 from rfl, pk_div (by omega) (by omega) (by omega)]
                    refine gw_istore 5 dz_M_isHisBy_147 (Nat.le_of_ble_eq_true rfl) rfl ?_
                    dsimp only [List.set]
                    refine gw_iinc 7 (c := 1) dz_M_isHisBy_149 rfl rfl (Nat.le_of_ble_eq_true rfl) rfl ?_
                    dsimp only [List.set]
                    refine gq_goto (tgt := 50) dz_M_isHisBy_152 rfl ?_
                    simp only [nI_1]
                    exact zq_fewer _ (zq_sub_spec (by repeat (first | exact trivial | exact rfl | refine And.intro ?_ ?_))) (ih50 (i + 1) s false A2 _ (by omega) (by omega) ((hT2.j (Or.inr ⟨rfl, rfl⟩))) hwA hnA ((hj.up (Or.inl rfl)).up (Or.inr ⟨rfl, rfl⟩)) (fun z => Bool.noConfusion z) (fun _ => ⟨by rw [hc1, zy_H, hcan]; rfl, by rw [hc2, zy_B, hcan]; exact zu_E⟩) (hrow2 (zu (zu τ 41 0 i (nI (way / 60 ^ s % 60))) 30 0 25 (nI (60 ^ s))) (fun j _ => zu_N (by omega))))
                  · skip
                    exact absurd rfl h128
                · skip
                  exact absurd rfl h114
              · skip
                have hDp : way / 60 ^ s % 60 / 10 < za_n A2 := of_decide_eq_true (Bool.and_eq_true_iff.mp h87).1
                have hDf : way / 60 ^ s % 60 % 10 < 7 := of_decide_eq_true (Bool.and_eq_true_iff.mp h87).2
                refine gq_aload_n dz_M_isHisBy_90 rfl ?_
                refine gq_aload_n dz_M_isHisBy_91 rfl ?_
                refine gq_getR 41 zf_M_40 rfl rfl dz_M_isHisBy_92 ?_
                refine gq_iload dz_M_isHisBy_95 rfl ?_
                refine gw_iald (i) (rfl) rfl (rfl) (Nat.le_of_ble_eq_true rfl) (by omega) dz_M_isHisBy_97 ?_
                rw [zu_E]
                refine gq_cV (sp_M_canDo hT2 hwA hD hDp hDf) zw_M_canDo zl_M_226 dz_M_isHisBy_98 rfl rfl rfl (by decide) rfl rfl (Nat.le_of_ble_eq_true rfl) ?_
                refine gw_ifb_eq (tgt := 108) dz_M_isHisBy_101 rfl (fun h101 => ?_) (fun h101 => ?_)
                · skip
                  have hcan : zs_can A2 (way / 60 ^ s % 60) = false := h101
                  refine gq_iconst (v := 0) dz_M_isHisBy_108 rfl ?_
                  refine gw_istore 6 dz_M_isHisBy_109 (Nat.le_of_ble_eq_true rfl) rfl ?_
                  dsimp only [List.set]
                  refine gq_aload_n dz_M_isHisBy_111 rfl ?_
                  refine gq_iload dz_M_isHisBy_112 rfl ?_
                  refine gq_if_eq (tgt := 121) dz_M_isHisBy_114 rfl (fun h114 => ?_) (fun h114 => ?_)
                  · skip
                    refine gq_iload dz_M_isHisBy_121 rfl ?_
                    refine gq_putI zv_M_243 rfl rfl dz_M_isHisBy_123 ?_
                    refine gq_iload dz_M_isHisBy_126 rfl ?_
                    refine gq_if_eq (tgt := 142) dz_M_isHisBy_128 rfl (fun h128 => ?_) (fun h128 => ?_)
                    · skip
                      refine gq_iload dz_M_isHisBy_142 rfl ?_
                      refine gq_bipush (v := 60) dz_M_isHisBy_144 rfl ?_
                      refine gq_idiv dz_M_isHisBy_146 (by decide) ?_
                      rw [show (60 : Int32) = nI 60 from rfl, pk_div (by omega) (by omega) (by omega)]
                      refine gw_istore 5 dz_M_isHisBy_147 (Nat.le_of_ble_eq_true rfl) rfl ?_
                      dsimp only [List.set]
                      refine gw_iinc 7 (c := 1) dz_M_isHisBy_149 rfl rfl (Nat.le_of_ble_eq_true rfl) rfl ?_
                      dsimp only [List.set]
                      refine gq_goto (tgt := 50) dz_M_isHisBy_152 rfl ?_
                      simp only [nI_1]
                      exact zq_fewer _ (zq_sub_spec (by repeat (first | exact trivial | exact rfl | refine And.intro ?_ ?_))) (ih50 (i + 1) s false A2 _ (by omega) (by omega) ((hT2.j (Or.inr ⟨rfl, rfl⟩))) hwA hnA ((hj.up (Or.inl rfl)).up (Or.inr ⟨rfl, rfl⟩)) (fun z => Bool.noConfusion z) (fun _ => ⟨by rw [hc1, zy_H, hcan]; rfl, by rw [hc2, zy_B, hcan]; exact zu_E⟩) (hrow2 (zu (zu τ 41 0 i (nI (way / 60 ^ s % 60))) 30 0 25 (nI (60 ^ s))) (fun j _ => zu_N (by omega))))
                    · skip
                      exact absurd rfl h128
                  · skip
                    exact absurd rfl h114
                · skip
                  have hcan : zs_can A2 (way / 60 ^ s % 60) = true := h101
                  refine gq_iconst (v := 1) dz_M_isHisBy_104 rfl ?_
                  refine gq_goto (tgt := 109) dz_M_isHisBy_105 rfl ?_
                  refine gw_istore 6 dz_M_isHisBy_109 (Nat.le_of_ble_eq_true rfl) rfl ?_
                  dsimp only [List.set]
                  refine gq_aload_n dz_M_isHisBy_111 rfl ?_
                  refine gq_iload dz_M_isHisBy_112 rfl ?_
                  refine gq_if_eq (tgt := 121) dz_M_isHisBy_114 rfl (fun h114 => ?_) (fun h114 => ?_)
                  · skip
                    exact absurd h114 (by decide)
                  · skip
                    refine gq_iconst (v := 1) dz_M_isHisBy_117 rfl ?_
                    refine gq_goto (tgt := 123) dz_M_isHisBy_118 rfl ?_
                    refine gq_putI zv_M_243 rfl rfl dz_M_isHisBy_123 ?_
                    refine gq_iload dz_M_isHisBy_126 rfl ?_
                    refine gq_if_eq (tgt := 142) dz_M_isHisBy_128 rfl (fun h128 => ?_) (fun h128 => ?_)
                    · skip
                      exact absurd h128 (by decide)
                    · skip
                      refine gq_aload_n dz_M_isHisBy_131 rfl ?_
                      refine gq_aload_n dz_M_isHisBy_132 rfl ?_
                      refine gq_getR 41 zf_M_40 rfl rfl dz_M_isHisBy_133 ?_
                      refine gq_iload dz_M_isHisBy_136 rfl ?_
                      refine gw_iald (i) (rfl) rfl (rfl) (Nat.le_of_ble_eq_true rfl) (by omega) dz_M_isHisBy_138 ?_
                      rw [(zu_N (by omega)).trans zu_E]
                      refine gq_cVX (sp_M_doesIt (hT2.j (Or.inr ⟨rfl, rfl⟩)) hwA hD hDp hDf) zw_M_doesIt zl_M_229 dz_M_isHisBy_139 rfl rfl rfl (by decide) rfl rfl (Nat.le_of_ble_eq_true rfl) (fun τ139 hq139 => ?_)
                      refine gq_iload dz_M_isHisBy_142 rfl ?_
                      refine gq_bipush (v := 60) dz_M_isHisBy_144 rfl ?_
                      refine gq_idiv dz_M_isHisBy_146 (by decide) ?_
                      rw [show (60 : Int32) = nI 60 from rfl, pk_div (by omega) (by omega) (by omega)]
                      refine gw_istore 5 dz_M_isHisBy_147 (Nat.le_of_ble_eq_true rfl) rfl ?_
                      dsimp only [List.set]
                      refine gw_iinc 7 (c := 1) dz_M_isHisBy_149 rfl rfl (Nat.le_of_ble_eq_true rfl) rfl ?_
                      dsimp only [List.set]
                      refine gq_goto (tgt := 50) dz_M_isHisBy_152 rfl ?_
                      simp only [nI_1]
                      exact zq_fewer _ (zq_sub_spec (by repeat (first | exact trivial | exact rfl | refine And.intro ?_ ?_))) (ih50 (i + 1) s true (zs_acts A2 (way / 60 ^ s % 60)) _ (by omega) (by omega) hq139.2 (hwA.acts hnA hcan) (by rw [zs_acts_n]; exact hnA) (((hj.up (Or.inl rfl)).up (Or.inr ⟨rfl, rfl⟩)).p hq139.1) (fun _ => ⟨by rw [hc1, zy_H, hcan, Bool.true_and], by rw [hc2, zy_B, if_pos hcan], (hq139.1.2 30 0 25 (by omega)).trans zu_E⟩) (fun z => Bool.noConfusion z) (hrow2 _ (fun j _ => (hq139.1.2 41 0 j (by omega)).trans (zu_N (by omega)))))
      have hA44 : zn_rep τ44 A := (hA.j (t := 30) (k := 25) (j := 0) (v := 1) (Or.inr ⟨rfl, rfl⟩)).as84 hq44.1
      have hb44 : τ44.1 30 0 25 = 1 := (hq44.1.2 30 0 25 (by omega)).trans zu_E
      exact zq_fewer _ (zq_sub_spec (by repeat (first | exact trivial | exact rfl | refine And.intro ?_ ?_))) (L50 (m + 1) 0 m true A τ44 (by omega) (by omega) hA44 hw hn6 zj_same.rf (fun _ => ⟨rfl, rfl, hb44⟩) (fun z => Bool.noConfusion z) (fun j z => absurd z (Nat.not_lt_zero _)))
  · skip
    have hm0 : m = 0 := (nI_eq (b := 0) (by omega) (by omega)).mp h1
    refine gq_iconst (v := 0) dz_M_isHisBy_4 rfl ?_
    rw [show ([zq_I 0] : List zq_V) = [zq_I (nI (60 ^ m / 60))] from by rw [hm0]; rfl]
    refine gq_goto (tgt := 30) dz_M_isHisBy_5 rfl ?_
    refine gw_istore 5 dz_M_isHisBy_30 (Nat.le_of_ble_eq_true rfl) rfl ?_
    dsimp only [List.set]
    refine gq_iconst (v := 1) dz_M_isHisBy_32 rfl ?_
    refine gw_istore 6 dz_M_isHisBy_33 (Nat.le_of_ble_eq_true rfl) rfl ?_
    dsimp only [List.set]
    refine gq_aload_n dz_M_isHisBy_35 rfl ?_
    refine gq_iconst (v := 1) dz_M_isHisBy_36 rfl ?_
    refine gq_putI zv_M_243 rfl rfl dz_M_isHisBy_37 ?_
    refine gq_aload_n dz_M_isHisBy_40 rfl ?_
    refine gq_iconst (v := 0) dz_M_isHisBy_41 rfl ?_
    refine gq_bipush (v := 84) dz_M_isHisBy_42 rfl ?_
    refine gq_cVX (sp_M_copies (a := 0) (b := 84) (by omega) (by omega) (by omega)) zw_M_copies zl_M_246 dz_M_isHisBy_44 rfl rfl rfl (by decide) rfl rfl (Nat.le_of_ble_eq_true rfl) (fun τ44 hq44 => ?_)
    refine gq_iconst (v := 0) dz_M_isHisBy_47 rfl ?_
    refine gw_istore 7 dz_M_isHisBy_48 (Nat.le_of_ble_eq_true rfl) rfl ?_
    dsimp only [List.set]
    have L50 : ∀ (kf : Nat) (i r : Nat) (c : Bool) (A2 : za_D) (τ : zq_T) (hkf : r < kf) (hi : i + r = m) (hT : zn_rep τ A2) (hwA : za_wf A2) (hnA : za_n A2 ≤ 6) (hj : zj_same τ44 τ) (hc : c = true → zy_H p t m A way = zy_H p t r A2 way ∧ zy_B m A way = zy_B r A2 way ∧ τ.1 30 0 25 = 1) (hf : c = false → zy_H p t m A way = false ∧ τ.1 30 0 25 = nI (zy_B m A way)) (hrow : ∀ j, j < i → τ.1 41 0 j = nI (way / 60 ^ (m - 1 - j) % 60)), zq_G ν zm_M_isHisBy 8 (zq_rw (zq_I (zb_v (zy_H p t m A way))) (fun τ => zk_same σ τ ∧ τ.1 30 0 25 = nI (zy_B m A way) ∧ (zy_H p t m A way = true → ∀ j, j < m → τ.1 41 0 j = nI (way / 60 ^ (m - 1 - j) % 60)))) 50 [some (zq_O 30 0), some (zq_I (nI p)), some (zq_I t), some (zq_I (nI m)), some (zq_I (nI way)), some (zq_I (nI (60 ^ r / 60))), some (zq_I (zb_v c)), some (zq_I (nI i))] [] τ := by
      intro kf
      induction kf with
      | zero => intro i r c A2 τ hkf hi hT hwA hnA hj hc hf hrow; exact absurd hkf (Nat.not_lt_zero _)
      | succ kf ih50 =>
        intro i r c A2 τ hkf hi hT hwA hnA hj hc hf hrow
        refine gq_iload dz_M_isHisBy_50 rfl ?_
        refine gq_iload_n dz_M_isHisBy_52 rfl ?_
        refine gq_icmp_ge (tgt := 155) dz_M_isHisBy_53 rfl (fun h53 => ?_) (fun h53 => ?_)
        · skip
          have hi2 : m ≤ i := (nI_leI (by omega) (by omega)).mp h53
          have hr0 : r = 0 := by omega
          subst hr0
          refine gq_iload dz_M_isHisBy_155 rfl ?_
          refine gw_ifb_eq (tgt := 180) dz_M_isHisBy_157 rfl (fun h157 => ?_) (fun h157 => ?_)
          · skip
            have hv : zy_H p t m A way = false := (hf h157).1
            refine gq_iconst (v := 0) dz_M_isHisBy_180 rfl ?_
            refine gw_istore 7 dz_M_isHisBy_181 (Nat.le_of_ble_eq_true rfl) rfl ?_
            dsimp only [List.set]
            refine gq_aload_n dz_M_isHisBy_183 rfl ?_
            refine gq_bipush (v := 84) dz_M_isHisBy_184 rfl ?_
            refine gq_iconst (v := 0) dz_M_isHisBy_186 rfl ?_
            refine gq_cVX (sp_M_copies (a := 84) (b := 0) (by omega) (by omega) (by omega)) zw_M_copies zl_M_246 dz_M_isHisBy_187 rfl rfl rfl (by decide) rfl rfl (Nat.le_of_ble_eq_true rfl) (fun τ187 hq187 => ?_)
            refine gq_iload dz_M_isHisBy_190 rfl ?_
            refine gw_iretP .boolean dz_M_isHisBy_192 rfl (by first | rfl | exact zb_nar _ | exact pk_nc _) ?_ ?_
            · rw [hv]; rfl
            · exact ⟨zj_rest hq44.1 hq44.2 hj hq187.1 hq187.2, (hq187.1.2 30 0 25 (by omega)).trans ((hf h157).2), fun hz j hjm => (hq187.1.2 41 0 j (by omega)).trans (by rw [hv] at hz; cases hz)⟩
          · skip
            obtain ⟨hc1, hc2, hc3⟩ := hc h157
            refine gq_aload_n dz_M_isHisBy_160 rfl ?_
            refine gq_iload_n dz_M_isHisBy_161 rfl ?_
            refine gq_aload_n dz_M_isHisBy_162 rfl ?_
            refine gq_getR 31 zf_M_7 rfl rfl dz_M_isHisBy_163 ?_
            refine gq_bipush (v := 12) dz_M_isHisBy_166 rfl ?_
            refine gw_iald (12) (rfl) rfl (rfl) (Nat.le_of_ble_eq_true rfl) (by omega) dz_M_isHisBy_168 ?_
            rw [zn_g hT]
            refine gq_cV (sp_M_ownerIn hT hwA _ _) zw_M_ownerIn zl_M_220 dz_M_isHisBy_169 rfl rfl rfl (by decide) rfl rfl (Nat.le_of_ble_eq_true rfl) ?_
            refine gq_iload_n dz_M_isHisBy_172 rfl ?_
            refine gq_icmp_ne (tgt := 180) dz_M_isHisBy_173 rfl (fun h173 => ?_) (fun h173 => ?_)
            · skip
              have hv : zy_H p t m A way = false := by rw [hc1]; exact decide_eq_false h173
              refine gq_iconst (v := 0) dz_M_isHisBy_180 rfl ?_
              refine gw_istore 7 dz_M_isHisBy_181 (Nat.le_of_ble_eq_true rfl) rfl ?_
              dsimp only [List.set]
              refine gq_aload_n dz_M_isHisBy_183 rfl ?_
              refine gq_bipush (v := 84) dz_M_isHisBy_184 rfl ?_
              refine gq_iconst (v := 0) dz_M_isHisBy_186 rfl ?_
              refine gq_cVX (sp_M_copies (a := 84) (b := 0) (by omega) (by omega) (by omega)) zw_M_copies zl_M_246 dz_M_isHisBy_187 rfl rfl rfl (by decide) rfl rfl (Nat.le_of_ble_eq_true rfl) (fun τ187 hq187 => ?_)
              refine gq_iload dz_M_isHisBy_190 rfl ?_
              refine gw_iretP .boolean dz_M_isHisBy_192 rfl (by first | rfl | exact zb_nar _ | exact pk_nc _) ?_ ?_
              · rw [hv]; rfl
              · exact ⟨zj_rest hq44.1 hq44.2 hj hq187.1 hq187.2, (hq187.1.2 30 0 25 (by omega)).trans (hc3.trans (by rw [hc2]; rfl)), fun hz j hjm => (hq187.1.2 41 0 j (by omega)).trans (by rw [hv] at hz; cases hz)⟩
            · skip
              have hv : zy_H p t m A way = true := by rw [hc1]; exact decide_eq_true h173
              refine gq_iconst (v := 1) dz_M_isHisBy_176 rfl ?_
              refine gq_goto (tgt := 181) dz_M_isHisBy_177 rfl ?_
              refine gw_istore 7 dz_M_isHisBy_181 (Nat.le_of_ble_eq_true rfl) rfl ?_
              dsimp only [List.set]
              refine gq_aload_n dz_M_isHisBy_183 rfl ?_
              refine gq_bipush (v := 84) dz_M_isHisBy_184 rfl ?_
              refine gq_iconst (v := 0) dz_M_isHisBy_186 rfl ?_
              refine gq_cVX (sp_M_copies (a := 84) (b := 0) (by omega) (by omega) (by omega)) zw_M_copies zl_M_246 dz_M_isHisBy_187 rfl rfl rfl (by decide) rfl rfl (Nat.le_of_ble_eq_true rfl) (fun τ187 hq187 => ?_)
              refine gq_iload dz_M_isHisBy_190 rfl ?_
              refine gw_iretP .boolean dz_M_isHisBy_192 rfl (by first | rfl | exact zb_nar _ | exact pk_nc _) ?_ ?_
              · rw [hv]; rfl
              · exact ⟨zj_rest hq44.1 hq44.2 hj hq187.1 hq187.2, (hq187.1.2 30 0 25 (by omega)).trans (hc3.trans (by rw [hc2]; rfl)), fun hz j hjm => (hq187.1.2 41 0 j (by omega)).trans (hrow j (by omega))⟩
        · skip
          have hi2 : i < m := by rcases Nat.lt_or_ge i (m) with z | z; exact z; exact absurd (nI_le z (by omega)) h53
          refine gq_iload dz_M_isHisBy_56 rfl ?_
          refine gw_ifb_eq (tgt := 155) dz_M_isHisBy_58 rfl (fun h58 => ?_) (fun h58 => ?_)
          · skip
            refine gq_iload dz_M_isHisBy_155 rfl ?_
            refine gw_ifb_eq (tgt := 180) dz_M_isHisBy_157 rfl (fun h157 => ?_) (fun h157 => ?_)
            · skip
              have hv : zy_H p t m A way = false := (hf h157).1
              refine gq_iconst (v := 0) dz_M_isHisBy_180 rfl ?_
              refine gw_istore 7 dz_M_isHisBy_181 (Nat.le_of_ble_eq_true rfl) rfl ?_
              dsimp only [List.set]
              refine gq_aload_n dz_M_isHisBy_183 rfl ?_
              refine gq_bipush (v := 84) dz_M_isHisBy_184 rfl ?_
              refine gq_iconst (v := 0) dz_M_isHisBy_186 rfl ?_
              refine gq_cVX (sp_M_copies (a := 84) (b := 0) (by omega) (by omega) (by omega)) zw_M_copies zl_M_246 dz_M_isHisBy_187 rfl rfl rfl (by decide) rfl rfl (Nat.le_of_ble_eq_true rfl) (fun τ187 hq187 => ?_)
              refine gq_iload dz_M_isHisBy_190 rfl ?_
              refine gw_iretP .boolean dz_M_isHisBy_192 rfl (by first | rfl | exact zb_nar _ | exact pk_nc _) ?_ ?_
              · rw [hv]; rfl
              · exact ⟨zj_rest hq44.1 hq44.2 hj hq187.1 hq187.2, (hq187.1.2 30 0 25 (by omega)).trans ((hf h157).2), fun hz j hjm => (hq187.1.2 41 0 j (by omega)).trans (by rw [hv] at hz; cases hz)⟩
            · skip
              exact Bool.noConfusion (h58.symm.trans h157)
          · skip
            obtain ⟨s, rfl⟩ : ∃ s, r = s + 1 := ⟨r - 1, by omega⟩
            obtain ⟨hc1, hc2, hc3⟩ := hc h58
            have hs3 : 60 ^ s ≤ 216000 := zy_p3 (by omega)
            rw [zy_p1]
            have hD : way / 60 ^ s % 60 < 2 ^ 31 := by omega
            have hway2 : way / 60 ^ s < 2 ^ 31 := Nat.lt_of_le_of_lt (Nat.div_le_self _ _) (by omega)
            have hse : s = m - 1 - i := by omega
            have hrow2 : ∀ τ2 : zq_T, (∀ j, j < i + 1 → τ2.1 41 0 j = (zu τ 41 0 i (nI (way / 60 ^ s % 60))).1 41 0 j) → ∀ j, j < i + 1 → τ2.1 41 0 j = nI (way / 60 ^ (m - 1 - j) % 60) := fun τ2 hz j hj => by rw [hz j hj]; rcases Nat.lt_or_ge j i with y | y; exact (zu_N (by omega)).trans (hrow j y); rw [show j = i by omega, ← hse]; exact zu_E
            refine gq_aload_n dz_M_isHisBy_61 rfl ?_
            refine gq_getR 41 zf_M_40 rfl rfl dz_M_isHisBy_62 ?_
            refine gq_iload dz_M_isHisBy_65 rfl ?_
            refine gq_iload dz_M_isHisBy_67 rfl ?_
            refine gq_iload dz_M_isHisBy_69 rfl ?_
            refine gq_idiv dz_M_isHisBy_71 (fun z => by have := (nI_eq (b := 0) (by omega) (by omega)).mp z; have := zy_p60 s; omega) ?_
            rw [pk_div (by omega) (zy_p60 s) (by omega)]
            refine gq_bipush (v := 60) dz_M_isHisBy_72 rfl ?_
            refine gq_irem dz_M_isHisBy_74 (by decide) ?_
            rw [show (60 : Int32) = nI 60 from rfl, pk_rem (by omega) (by omega) (by omega)]
            refine gw_iast (i) (rfl) rfl (rfl) (Nat.le_of_ble_eq_true rfl) (by omega) dz_M_isHisBy_75 ?_
            have hT2 := hT.j (t := 41) (k := i) (j := 0) (v := nI (way / 60 ^ s % 60)) (Or.inl rfl)
            refine gq_aload_n dz_M_isHisBy_76 rfl ?_
            refine gq_aload_n dz_M_isHisBy_77 rfl ?_
            refine gq_getR 41 zf_M_40 rfl rfl dz_M_isHisBy_78 ?_
            refine gq_iload dz_M_isHisBy_81 rfl ?_
            refine gw_iald (i) (rfl) rfl (rfl) (Nat.le_of_ble_eq_true rfl) (by omega) dz_M_isHisBy_83 ?_
            rw [zu_E]
            refine gq_cV (sp_M_isDeed hT2 hD) zw_M_isDeed zl_M_223 dz_M_isHisBy_84 rfl rfl rfl (by decide) rfl rfl (Nat.le_of_ble_eq_true rfl) ?_
            refine gw_ifb_eq (tgt := 108) dz_M_isHisBy_87 rfl (fun h87 => ?_) (fun h87 => ?_)
            · skip
              have hcan : zs_can A2 (way / 60 ^ s % 60) = false := by rw [zs_can]; rcases Bool.and_eq_false_iff.mp h87 with z | z; rw [z]; rfl; rw [z, Bool.false_and, Bool.and_false]
              refine gq_iconst (v := 0) dz_M_isHisBy_108 rfl ?_
              refine gw_istore 6 dz_M_isHisBy_109 (Nat.le_of_ble_eq_true rfl) rfl ?_
              dsimp only [List.set]
              refine gq_aload_n dz_M_isHisBy_111 rfl ?_
              refine gq_iload dz_M_isHisBy_112 rfl ?_
              refine gq_if_eq (tgt := 121) dz_M_isHisBy_114 rfl (fun h114 => ?_) (fun h114 => ?_)
              · skip
                refine gq_iload dz_M_isHisBy_121 rfl ?_
                refine gq_putI zv_M_243 rfl rfl dz_M_isHisBy_123 ?_
                refine gq_iload dz_M_isHisBy_126 rfl ?_
                refine gq_if_eq (tgt := 142) dz_M_isHisBy_128 rfl (fun h128 => ?_) (fun h128 => ?_)
                · skip
                  refine gq_iload dz_M_isHisBy_142 rfl ?_
                  refine gq_bipush (v := 60) dz_M_isHisBy_144 rfl ?_
                  refine gq_idiv dz_M_isHisBy_146 (by decide) ?_
                  rw [show (60 : Int32) = nI 60 from rfl, pk_div (by omega) (by omega) (by omega)]
                  refine gw_istore 5 dz_M_isHisBy_147 (Nat.le_of_ble_eq_true rfl) rfl ?_
                  dsimp only [List.set]
                  refine gw_iinc 7 (c := 1) dz_M_isHisBy_149 rfl rfl (Nat.le_of_ble_eq_true rfl) rfl ?_
                  dsimp only [List.set]
                  refine gq_goto (tgt := 50) dz_M_isHisBy_152 rfl ?_
                  simp only [nI_1]
                  exact zq_fewer _ (zq_sub_spec (by repeat (first | exact trivial | exact rfl | refine And.intro ?_ ?_))) (ih50 (i + 1) s false A2 _ (by omega) (by omega) ((hT2.j (Or.inr ⟨rfl, rfl⟩))) hwA hnA ((hj.up (Or.inl rfl)).up (Or.inr ⟨rfl, rfl⟩)) (fun z => Bool.noConfusion z) (fun _ => ⟨by rw [hc1, zy_H, hcan]; rfl, by rw [hc2, zy_B, hcan]; exact zu_E⟩) (hrow2 (zu (zu τ 41 0 i (nI (way / 60 ^ s % 60))) 30 0 25 (nI (60 ^ s))) (fun j _ => zu_N (by omega))))
                · skip
                  exact absurd rfl h128
              · skip
                exact absurd rfl h114
            · skip
              have hDp : way / 60 ^ s % 60 / 10 < za_n A2 := of_decide_eq_true (Bool.and_eq_true_iff.mp h87).1
              have hDf : way / 60 ^ s % 60 % 10 < 7 := of_decide_eq_true (Bool.and_eq_true_iff.mp h87).2
              refine gq_aload_n dz_M_isHisBy_90 rfl ?_
              refine gq_aload_n dz_M_isHisBy_91 rfl ?_
              refine gq_getR 41 zf_M_40 rfl rfl dz_M_isHisBy_92 ?_
              refine gq_iload dz_M_isHisBy_95 rfl ?_
              refine gw_iald (i) (rfl) rfl (rfl) (Nat.le_of_ble_eq_true rfl) (by omega) dz_M_isHisBy_97 ?_
              rw [zu_E]
              refine gq_cV (sp_M_canDo hT2 hwA hD hDp hDf) zw_M_canDo zl_M_226 dz_M_isHisBy_98 rfl rfl rfl (by decide) rfl rfl (Nat.le_of_ble_eq_true rfl) ?_
              refine gw_ifb_eq (tgt := 108) dz_M_isHisBy_101 rfl (fun h101 => ?_) (fun h101 => ?_)
              · skip
                have hcan : zs_can A2 (way / 60 ^ s % 60) = false := h101
                refine gq_iconst (v := 0) dz_M_isHisBy_108 rfl ?_
                refine gw_istore 6 dz_M_isHisBy_109 (Nat.le_of_ble_eq_true rfl) rfl ?_
                dsimp only [List.set]
                refine gq_aload_n dz_M_isHisBy_111 rfl ?_
                refine gq_iload dz_M_isHisBy_112 rfl ?_
                refine gq_if_eq (tgt := 121) dz_M_isHisBy_114 rfl (fun h114 => ?_) (fun h114 => ?_)
                · skip
                  refine gq_iload dz_M_isHisBy_121 rfl ?_
                  refine gq_putI zv_M_243 rfl rfl dz_M_isHisBy_123 ?_
                  refine gq_iload dz_M_isHisBy_126 rfl ?_
                  refine gq_if_eq (tgt := 142) dz_M_isHisBy_128 rfl (fun h128 => ?_) (fun h128 => ?_)
                  · skip
                    refine gq_iload dz_M_isHisBy_142 rfl ?_
                    refine gq_bipush (v := 60) dz_M_isHisBy_144 rfl ?_
                    refine gq_idiv dz_M_isHisBy_146 (by decide) ?_
                    rw [show (60 : Int32) = nI 60 from rfl, pk_div (by omega) (by omega) (by omega)]
                    refine gw_istore 5 dz_M_isHisBy_147 (Nat.le_of_ble_eq_true rfl) rfl ?_
                    dsimp only [List.set]
                    refine gw_iinc 7 (c := 1) dz_M_isHisBy_149 rfl rfl (Nat.le_of_ble_eq_true rfl) rfl ?_
                    dsimp only [List.set]
                    refine gq_goto (tgt := 50) dz_M_isHisBy_152 rfl ?_
                    simp only [nI_1]
                    exact zq_fewer _ (zq_sub_spec (by repeat (first | exact trivial | exact rfl | refine And.intro ?_ ?_))) (ih50 (i + 1) s false A2 _ (by omega) (by omega) ((hT2.j (Or.inr ⟨rfl, rfl⟩))) hwA hnA ((hj.up (Or.inl rfl)).up (Or.inr ⟨rfl, rfl⟩)) (fun z => Bool.noConfusion z) (fun _ => ⟨by rw [hc1, zy_H, hcan]; rfl, by rw [hc2, zy_B, hcan]; exact zu_E⟩) (hrow2 (zu (zu τ 41 0 i (nI (way / 60 ^ s % 60))) 30 0 25 (nI (60 ^ s))) (fun j _ => zu_N (by omega))))
                  · skip
                    exact absurd rfl h128
                · skip
                  exact absurd rfl h114
              · skip
                have hcan : zs_can A2 (way / 60 ^ s % 60) = true := h101
                refine gq_iconst (v := 1) dz_M_isHisBy_104 rfl ?_
                refine gq_goto (tgt := 109) dz_M_isHisBy_105 rfl ?_
                refine gw_istore 6 dz_M_isHisBy_109 (Nat.le_of_ble_eq_true rfl) rfl ?_
                dsimp only [List.set]
                refine gq_aload_n dz_M_isHisBy_111 rfl ?_
                refine gq_iload dz_M_isHisBy_112 rfl ?_
                refine gq_if_eq (tgt := 121) dz_M_isHisBy_114 rfl (fun h114 => ?_) (fun h114 => ?_)
                · skip
                  exact absurd h114 (by decide)
                · skip
                  refine gq_iconst (v := 1) dz_M_isHisBy_117 rfl ?_
                  refine gq_goto (tgt := 123) dz_M_isHisBy_118 rfl ?_
                  refine gq_putI zv_M_243 rfl rfl dz_M_isHisBy_123 ?_
                  refine gq_iload dz_M_isHisBy_126 rfl ?_
                  refine gq_if_eq (tgt := 142) dz_M_isHisBy_128 rfl (fun h128 => ?_) (fun h128 => ?_)
                  · skip
                    exact absurd h128 (by decide)
                  · skip
                    refine gq_aload_n dz_M_isHisBy_131 rfl ?_
                    refine gq_aload_n dz_M_isHisBy_132 rfl ?_
                    refine gq_getR 41 zf_M_40 rfl rfl dz_M_isHisBy_133 ?_
                    refine gq_iload dz_M_isHisBy_136 rfl ?_
                    refine gw_iald (i) (rfl) rfl (rfl) (Nat.le_of_ble_eq_true rfl) (by omega) dz_M_isHisBy_138 ?_
                    rw [(zu_N (by omega)).trans zu_E]
                    refine gq_cVX (sp_M_doesIt (hT2.j (Or.inr ⟨rfl, rfl⟩)) hwA hD hDp hDf) zw_M_doesIt zl_M_229 dz_M_isHisBy_139 rfl rfl rfl (by decide) rfl rfl (Nat.le_of_ble_eq_true rfl) (fun τ139 hq139 => ?_)
                    refine gq_iload dz_M_isHisBy_142 rfl ?_
                    refine gq_bipush (v := 60) dz_M_isHisBy_144 rfl ?_
                    refine gq_idiv dz_M_isHisBy_146 (by decide) ?_
                    rw [show (60 : Int32) = nI 60 from rfl, pk_div (by omega) (by omega) (by omega)]
                    refine gw_istore 5 dz_M_isHisBy_147 (Nat.le_of_ble_eq_true rfl) rfl ?_
                    dsimp only [List.set]
                    refine gw_iinc 7 (c := 1) dz_M_isHisBy_149 rfl rfl (Nat.le_of_ble_eq_true rfl) rfl ?_
                    dsimp only [List.set]
                    refine gq_goto (tgt := 50) dz_M_isHisBy_152 rfl ?_
                    simp only [nI_1]
                    exact zq_fewer _ (zq_sub_spec (by repeat (first | exact trivial | exact rfl | refine And.intro ?_ ?_))) (ih50 (i + 1) s true (zs_acts A2 (way / 60 ^ s % 60)) _ (by omega) (by omega) hq139.2 (hwA.acts hnA hcan) (by rw [zs_acts_n]; exact hnA) (((hj.up (Or.inl rfl)).up (Or.inr ⟨rfl, rfl⟩)).p hq139.1) (fun _ => ⟨by rw [hc1, zy_H, hcan, Bool.true_and], by rw [hc2, zy_B, if_pos hcan], (hq139.1.2 30 0 25 (by omega)).trans zu_E⟩) (fun z => Bool.noConfusion z) (hrow2 _ (fun j _ => (hq139.1.2 41 0 j (by omega)).trans (zu_N (by omega)))))
    have hA44 : zn_rep τ44 A := (hA.j (t := 30) (k := 25) (j := 0) (v := 1) (Or.inr ⟨rfl, rfl⟩)).as84 hq44.1
    have hb44 : τ44.1 30 0 25 = 1 := (hq44.1.2 30 0 25 (by omega)).trans zu_E
    exact zq_fewer _ (zq_sub_spec (by repeat (first | exact trivial | exact rfl | refine And.intro ?_ ?_))) (L50 (m + 1) 0 m true A τ44 (by omega) (by omega) hA44 hw hn6 zj_same.rf (fun _ => ⟨rfl, rfl, hb44⟩) (fun z => Bool.noConfusion z) (fun j z => absurd z (Nat.not_lt_zero _)))
