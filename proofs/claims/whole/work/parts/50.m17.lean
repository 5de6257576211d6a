/-! ALL CASES, IN THE MODEL, 2: dead, least -/
theorem zn_wk4 {A : za_D} {a s : Nat} {x : Int32} : zs_wk1 A (-4) (-4) a s x = if zs_right A (nI s) (nI a) 31 = -4 then x else x ||| (1 <<< (zs_right A (nI s) (nI a) 31 &&& 31)) := by
  unfold zs_wk1
  split
  · rfl
  · rw [if_neg (fun z => z.1 rfl), if_neg (fun z => z.1 rfl)]
theorem zf_all_mono {P : Nat → Bool} {a : Nat} (h : zf_all P a = false) : ∀ {n : Nat}, a ≤ n → zf_all P n = false
  | 0, hn => by rw [show a = 0 by omega] at h; exact h
  | n + 1, hn => by
    rcases Nat.lt_or_ge a (n + 1) with z | z
    · rw [zf_all, zf_all_mono h (show a ≤ n by omega), Bool.false_and]
    · rw [show a = n + 1 by omega] at h; exact h
/-- the least set, as the model looks for it -/
def zn_lef (A : za_D) (s : Nat) (S : Int32 × Int32) : Int32 × Int32 := if zn_bo (nI s) < S.1 ∧ zs_same A (nI s) = true then (zn_bo (nI s), nI s) else S
def zn_le (A : za_D) : Nat → Int32 × Int32 := zf_fo (zn_lef A) (100, 0)
theorem zn_rt_set {A : za_D} {t ab s1 s2 : Int32} : ∀ k, (∀ i, i < k → zb_bit s1 (nI i) = zb_bit s2 (nI i)) → zs_rt A t ab s1 k = zs_rt A t ab s2 k
  | 0, _ => rfl
  | k + 1, h => by rw [zs_rt, zs_rt, zn_rt_set k (fun i hi => h i (by omega)), h k (by omega)]
theorem zn_bits31 : ∀ (m : Fin 6) (k : Fin 5), k.val < m.val → zb_bit (nI (2 ^ m.val) - 1) (nI k.val) = zb_bit 31 (nI k.val) := by decide +kernel
theorem zn_bits31n (m k : Nat) (h1 : m < 6) (h2 : k < 5) (h3 : k < m) : zb_bit (nI (2 ^ m) - 1) (nI k) = zb_bit 31 (nI k) := zn_bits31 ⟨m, h1⟩ ⟨k, h2⟩ h3
theorem zn_all_same {A : za_D} (hm : za_m A ≤ 5) : zs_same A (nI (2 ^ za_m A) - 1) = true := by
  have h1 : ∀ t ab, zs_own A t ab (nI (2 ^ za_m A) - 1) = zs_own A t ab 31 := fun t ab => by
    rw [zs_own, zs_own, zs_right, zs_right, zn_rt_set (s1 := nI (2 ^ za_m A) - 1) (s2 := 31) (za_m A) (fun i hi => zn_bits31n (za_m A) i (by omega) (by omega) hi)]
  have h2 : ∀ P : Nat → Bool, (∀ i, P i = true) → ∀ n, zf_all P n = true := fun P h n => by
    induction n with
    | zero => rfl
    | succ n ih => exact zf_all_ye ih (h n)
  exact h2 _ (fun a => h2 _ (fun t => decide_eq_true (h1 _ _)) _) _
theorem zn_bc_sub : ∀ (m : Fin 6) (s : Fin 32), s.val < 2 ^ m.val - 1 → zs_bc (nI s.val) < zs_bc (nI (2 ^ m.val) - 1) := by decide +kernel
theorem zn_bc_100 : ∀ s : Fin 64, zs_bc (nI s.val) < 100 := by decide +kernel
theorem zn_le_inv {A : za_D} (hm : za_m A ≤ 5) : ∀ s, s ≤ 2 ^ za_m A - 1 → (zn_le A s = (100, 0) ∧ zf_fo (zs_lef A) (nI (2 ^ za_m A) - 1) s = nI (2 ^ za_m A) - 1) ∨ (zn_le A s = (zs_bc (zf_fo (zs_lef A) (nI (2 ^ za_m A) - 1) s), zf_fo (zs_lef A) (nI (2 ^ za_m A) - 1) s) ∧ zs_bc (zf_fo (zs_lef A) (nI (2 ^ za_m A) - 1) s) < zs_bc (nI (2 ^ za_m A) - 1))
  | 0, _ => Or.inl ⟨rfl, rfl⟩
  | s + 1, hs => by
    have h32 := za_2m5 hm
    have hbo : zn_bo (nI s) = zs_bc (nI s) := zn_bo_eq (by omega)
    have hsub : zs_bc (nI s) < zs_bc (nI (2 ^ za_m A) - 1) := zn_bc_sub ⟨za_m A, by omega⟩ ⟨s, by omega⟩ (show s < 2 ^ za_m A - 1 by omega)
    have h100 : zs_bc (nI s) < 100 := zn_bc_100 ⟨s, by omega⟩
    have e1 : zn_le A (s + 1) = zn_lef A s (zn_le A s) := rfl
    have e2 : zf_fo (zs_lef A) (nI (2 ^ za_m A) - 1) (s + 1) = zs_lef A s (zf_fo (zs_lef A) (nI (2 ^ za_m A) - 1) s) := rfl
    rw [e1, e2]
    rcases zn_le_inv hm s (by omega) with ⟨i1, i2⟩ | ⟨i1, i2⟩
    · rw [i1, i2]
      unfold zn_lef zs_lef
      rw [hbo]
      by_cases hq : zs_same A (nI s) = true
      · rw [if_pos ⟨h100, hq⟩, if_pos ⟨hsub, hq⟩]
        exact Or.inr ⟨rfl, hsub⟩
      · rw [if_neg (fun z => hq z.2), if_neg (fun z => hq z.2)]
        exact Or.inl ⟨rfl, rfl⟩
    · rw [i1]
      generalize zf_fo (zs_lef A) (nI (2 ^ za_m A) - 1) s = L at i2 ⊢
      unfold zn_lef zs_lef
      rw [hbo]
      by_cases hq : zs_bc (nI s) < zs_bc L ∧ zs_same A (nI s) = true
      · rw [if_pos hq, if_pos hq]
        exact Or.inr ⟨rfl, hsub⟩
      · rw [if_neg hq, if_neg hq]
        exact Or.inr ⟨rfl, i2⟩
theorem zn_le_eq {A : za_D} (hm : za_m A ≤ 5) : zn_le A (2 ^ za_m A) = (zs_bc (zs_le A), zs_le A) := by
  have h32 := za_2m5 hm
  have h1 := za_2m A
  have hp : nI (2 ^ za_m A) - 1 = nI (2 ^ za_m A - 1) := by
    obtain ⟨k, hk⟩ : ∃ k, 2 ^ za_m A = k + 1 := ⟨2 ^ za_m A - 1, by omega⟩
    rw [hk, nI_pred, Nat.add_sub_cancel]
  have hbo : zn_bo (nI (2 ^ za_m A) - 1) = zs_bc (nI (2 ^ za_m A) - 1) := by rw [hp]; exact zn_bo_eq (by omega)
  have e1 : zn_le A (2 ^ za_m A) = zn_lef A (2 ^ za_m A - 1) (zn_le A (2 ^ za_m A - 1)) := by
    obtain ⟨k, hk⟩ : ∃ k, 2 ^ za_m A = k + 1 := ⟨2 ^ za_m A - 1, by omega⟩
    rw [hk]; rfl
  rw [e1, zs_le]
  have h100 : zs_bc (nI (2 ^ za_m A) - 1) < 100 := by rw [hp]; exact zn_bc_100 ⟨2 ^ za_m A - 1, by omega⟩
  rcases zn_le_inv hm _ (Nat.le_refl _) with ⟨i1, i2⟩ | ⟨i1, i2⟩
  · rw [i1, i2]
    unfold zn_lef
    rw [← hp, hbo, if_pos ⟨h100, zn_all_same hm⟩]
  · rw [i1]
    unfold zn_lef
    rw [← hp, hbo, if_neg]
    exact fun z => Int32.lt_irrefl (Int32.lt_trans z.1 i2)

set_option maxHeartbeats 4000000 in
theorem sp_M_dead {σ : zq_T} {A : za_D} (hA : zn_rep σ A) (hw : za_wf A) (w : Int32) : zq_Sp zm_M_dead 6 [zq_O 30 0, zq_I w] σ (zq_rv (zq_I (zx_dead A w)) σ) := by
  have hn6 := zn_n6 hA
  have hm5 := zn_m5 hA
  have hN : za_N A ≤ 64 := za_N64 hn6
  refine zq_sp [some (zq_O 30 0), some (zq_I w), none, none, none, none, none, none, none, none] (by decide +kernel) rfl (Nat.le_of_ble_eq_true rfl) (fun ν => ?_)
  refine gq_iload_n dz_M_dead_0 rfl ?_
  refine gq_i2l dz_M_dead_1 ?_
  refine gq_lconst (v := 0) dz_M_dead_2 rfl ?_
  refine gq_ldc2 zl_M_241 dz_M_dead_3 ?_
  refine gq_cS (sp_M_in _ _ _) zw_M_in zl_M_65 dz_M_dead_6 (by decide) rfl rfl (Nat.le_of_ble_eq_true rfl) ?_
  refine gw_ifb_ne (tgt := 14) dz_M_dead_9 rfl (fun h9 => ?_) (fun h9 => ?_)
  · skip
    rw [zn_inc (n := 3) rfl (by omega)] at h9
    refine gq_iconst (v := 1) dz_M_dead_14 rfl ?_
    refine gq_aload_n dz_M_dead_15 rfl ?_
    refine gq_getI zf_M_161 rfl rfl dz_M_dead_16 ?_
    rw [zn_m hA]
    refine gq_ishl dz_M_dead_19 ?_
    rw [za_pm hm5]
    refine gq_iconst (v := 1) dz_M_dead_20 rfl ?_
    refine gq_isub dz_M_dead_21 ?_
    refine gw_istore_n 2 dz_M_dead_22 rfl (Nat.le_of_ble_eq_true rfl) rfl ?_
    dsimp only [List.set]
    refine gq_iconst (v := 0) dz_M_dead_23 rfl ?_
    refine gw_istore_n 3 dz_M_dead_24 rfl (Nat.le_of_ble_eq_true rfl) rfl ?_
    dsimp only [List.set]
    refine gq_iload_n dz_M_dead_25 rfl ?_
    refine gw_istore 4 dz_M_dead_26 (Nat.le_of_ble_eq_true rfl) rfl ?_
    dsimp only [List.set]
    refine gq_iconst (v := 0) dz_M_dead_28 rfl ?_
    refine gw_istore 5 dz_M_dead_29 (Nat.le_of_ble_eq_true rfl) rfl ?_
    dsimp only [List.set]
    refine gq_iconst (v := 0) dz_M_dead_31 rfl ?_
    refine gw_istore 6 dz_M_dead_32 (Nat.le_of_ble_eq_true rfl) rfl ?_
    dsimp only [List.set]
    have L34 : ∀ (kf : Nat) (a : Nat) (hkf : za_N A - a < kf) (ha : a ≤ za_N A), zq_G ν zm_M_dead 6 (zq_rv (zq_I (zx_dead A w)) σ) 34 [some (zq_O 30 0), some (zq_I w), some (zq_I (nI (2 ^ za_m A) - 1)), some (zq_I (zf_orI (zs_give A) a)), some (zq_I (zf_fo (zs_alwf A) (nI (2 ^ za_m A) - 1) a)), some (zq_I (zf_fo (fun a x => zf_fo (zs_wk1 A (-4) (-4) a) x 4) 0 a)), some (zq_I (nI a)), none, none, none] [] σ := by
      intro kf
      induction kf with
      | zero => intro a hkf ha; exact absurd hkf (Nat.not_lt_zero _)
      | succ kf ih34 =>
        intro a hkf ha
        refine gq_iload dz_M_dead_34 rfl ?_
        refine gq_aload_n dz_M_dead_36 rfl ?_
        refine gq_cV (sp_M_cases hA) zw_M_cases zl_M_254 dz_M_dead_37 rfl rfl rfl (by decide) rfl rfl (Nat.le_of_ble_eq_true rfl) ?_
        rw [za_caN hn6]
        refine gq_icmp_ge (tgt := 172) dz_M_dead_40 rfl (fun h40 => ?_) (fun h40 => ?_)
        · skip
          have ha2 : a = za_N A := zq_leq h40 ha (by omega)
          subst ha2
          refine gq_iload_n dz_M_dead_172 rfl ?_
          refine gq_if_ne (tgt := 184) dz_M_dead_173 rfl (fun h173 => ?_) (fun h173 => ?_)
          · skip
            refine gq_iload_n dz_M_dead_184 rfl ?_
            refine gq_iconst (v := 1) dz_M_dead_185 rfl ?_
            refine gq_icmp_ne (tgt := 194) dz_M_dead_186 rfl (fun h186 => ?_) (fun h186 => ?_)
            · skip
              refine gq_iload_n dz_M_dead_194 rfl ?_
              refine gq_iload dz_M_dead_195 rfl ?_
              refine gq_iconst (v := -1) dz_M_dead_197 rfl ?_
              refine gq_ixor dz_M_dead_198 ?_
              refine gq_iand dz_M_dead_199 ?_
              refine gw_iret .int dz_M_dead_200 rfl (by first | rfl | exact zb_nar _ | exact pk_nc _) ?_ ?_
              · rw [zx_dead, if_neg h173, if_neg h186, if_pos (show w = 2 from zn_last (n := 2) h9 (by omega) (fun i hi => (by have h2 : i = 0 ∨ i = 1 := (by omega); rcases h2 with rfl | rfl; exact h173; exact h186)))]; rfl
              · rfl
            · skip
              refine gq_iload dz_M_dead_189 rfl ?_
              refine gq_goto (tgt := 200) dz_M_dead_191 rfl ?_
              refine gw_iret .int dz_M_dead_200 rfl (by first | rfl | exact zb_nar _ | exact pk_nc _) ?_ ?_
              · rw [zx_dead, if_neg h173, if_pos h186]; rfl
              · rfl
          · skip
            refine gq_iload_n dz_M_dead_176 rfl ?_
            refine gq_iload_n dz_M_dead_177 rfl ?_
            refine gq_iconst (v := -1) dz_M_dead_178 rfl ?_
            refine gq_ixor dz_M_dead_179 ?_
            refine gq_iand dz_M_dead_180 ?_
            refine gq_goto (tgt := 200) dz_M_dead_181 rfl ?_
            refine gw_iret .int dz_M_dead_200 rfl (by first | rfl | exact zb_nar _ | exact pk_nc _) ?_ ?_
            · rw [zx_dead, if_pos h173]; rfl
            · rfl
        · skip
          have ha2 : a < za_N A := by rcases Nat.lt_or_ge a (za_N A) with z | z; exact z; exact absurd (nI_le z (by omega)) h40
          refine gq_iconst (v := 0) dz_M_dead_43 rfl ?_
          refine gw_istore 7 dz_M_dead_44 (Nat.le_of_ble_eq_true rfl) rfl ?_
          dsimp only [List.set]
          refine gq_iconst (v := 0) dz_M_dead_46 rfl ?_
          refine gw_istore 8 dz_M_dead_47 (Nat.le_of_ble_eq_true rfl) rfl ?_
          dsimp only [List.set]
          have L49 : ∀ (kf : Nat) (k : Nat) (v : Int32) (hkf : za_m A - k < kf) (hk : k ≤ za_m A) (hv : v = zf_or (fun k => decide (¬ zs_recv A k (nI a) = -4)) k), zq_G ν zm_M_dead 6 (zq_rv (zq_I (zx_dead A w)) σ) 49 [some (zq_O 30 0), some (zq_I w), some (zq_I (nI (2 ^ za_m A) - 1)), some (zq_I (zf_orI (zs_give A) a)), some (zq_I (zf_fo (zs_alwf A) (nI (2 ^ za_m A) - 1) a)), some (zq_I (zf_fo (fun a x => zf_fo (zs_wk1 A (-4) (-4) a) x 4) 0 a)), some (zq_I (nI a)), some (zq_I v), some (zq_I (nI k)), none] [] σ := by
            intro kf
            induction kf with
            | zero => intro k v hkf hk hv; exact absurd hkf (Nat.not_lt_zero _)
            | succ kf ih49 =>
              intro k v hkf hk hv
              refine gq_iload dz_M_dead_49 rfl ?_
              refine gq_aload_n dz_M_dead_51 rfl ?_
              refine gq_getI zf_M_161 rfl rfl dz_M_dead_52 ?_
              rw [zn_m hA]
              refine gq_icmp_ge (tgt := 90) dz_M_dead_55 rfl (fun h55 => ?_) (fun h55 => ?_)
              · skip
                have hk4 : k = za_m A := zq_leq h55 hk (by omega)
                subst hk4
                subst hv
                refine gq_iload_n dz_M_dead_90 rfl ?_
                refine gq_iload dz_M_dead_91 rfl ?_
                refine gq_ior dz_M_dead_93 ?_
                refine gw_istore_n 3 dz_M_dead_94 rfl (Nat.le_of_ble_eq_true rfl) rfl ?_
                dsimp only [List.set]
                refine gq_iload dz_M_dead_95 rfl ?_
                refine gq_iload dz_M_dead_97 rfl ?_
                refine gq_aload_n dz_M_dead_99 rfl ?_
                refine gq_cV (sp_M_cases hA) zw_M_cases zl_M_254 dz_M_dead_100 rfl rfl rfl (by decide) rfl rfl (Nat.le_of_ble_eq_true rfl) ?_
                rw [za_caN hn6]
                refine gq_iconst (v := 1) dz_M_dead_103 rfl ?_
                refine gq_isub dz_M_dead_104 ?_
                refine gq_icmp_ne (tgt := 112) dz_M_dead_105 rfl (fun h105 => ?_) (fun h105 => ?_)
                · skip
                  have hal : zf_fo (zs_alwf A) (nI (2 ^ za_m A) - 1) a &&& zf_or (fun k => decide (¬ zs_recv A k (nI a) = -4)) (za_m A) = zf_fo (zs_alwf A) (nI (2 ^ za_m A) - 1) (a + 1) := (if_neg h105).symm
                  refine gq_iload dz_M_dead_112 rfl ?_
                  refine gq_iand dz_M_dead_114 ?_
                  rw [hal]
                  refine gw_istore 4 dz_M_dead_115 (Nat.le_of_ble_eq_true rfl) rfl ?_
                  dsimp only [List.set]
                  refine gq_iconst (v := 0) dz_M_dead_117 rfl ?_
                  refine gw_istore 8 dz_M_dead_118 (Nat.le_of_ble_eq_true rfl) rfl ?_
                  dsimp only [List.set]
                  have L120 : ∀ (kf : Nat) (s : Nat) (u : Int32) (hkf : 4 - s < kf) (hs : s ≤ 4) (hu : u = zf_fo (zs_wk1 A (-4) (-4) a) (zf_fo (fun a x => zf_fo (zs_wk1 A (-4) (-4) a) x 4) 0 a) s), zq_G ν zm_M_dead 6 (zq_rv (zq_I (zx_dead A w)) σ) 120 [some (zq_O 30 0), some (zq_I w), some (zq_I (nI (2 ^ za_m A) - 1)), some (zq_I (zf_orI (zs_give A) (a + 1))), some (zq_I (zf_fo (zs_alwf A) (nI (2 ^ za_m A) - 1) (a + 1))), some (zq_I u), some (zq_I (nI a)), none, some (zq_I (nI s)), none] [] σ := by
                    intro kf
                    induction kf with
                    | zero => intro s u hkf hs hu; exact absurd hkf (Nat.not_lt_zero _)
                    | succ kf ih120 =>
                      intro s u hkf hs hu
                      refine gq_iload dz_M_dead_120 rfl ?_
                      refine gq_iconst (v := 4) dz_M_dead_122 rfl ?_
                      refine gq_icmp_ge (tgt := 166) dz_M_dead_123 rfl (fun h123 => ?_) (fun h123 => ?_)
                      · skip
                        have hs4 : s = 4 := by have := (nI_leI (a := 4) (by omega) (by omega)).mp h123; omega
                        subst hs4
                        subst hu
                        refine gw_iinc 6 (c := 1) dz_M_dead_166 rfl rfl (Nat.le_of_ble_eq_true rfl) rfl ?_
                        dsimp only [List.set]
                        refine gq_goto (tgt := 34) dz_M_dead_169 rfl ?_
                        simp only [nI_1]
                        exact zq_fewer _ (zq_sub_spec (by repeat (first | exact trivial | exact rfl | refine And.intro ?_ ?_))) (ih34 (a + 1) (by omega) (by omega))
                      · skip
                        have hs2 : s < 4 := (nI_ltI (b := 4) (by omega) (by omega)).mp (Int32.not_le.mp h123)
                        refine gq_aload_n dz_M_dead_126 rfl ?_
                        refine gq_iload dz_M_dead_127 rfl ?_
                        refine gq_iload dz_M_dead_129 rfl ?_
                        refine gq_bipush (v := 31) dz_M_dead_131 rfl ?_
                        refine gq_bipush (v := -4) dz_M_dead_133 rfl ?_
                        refine gq_cV (sp_M_ruleBy hA hw _ _ _ (-4) (Or.inl rfl)) zw_M_ruleBy zl_M_193 dz_M_dead_135 rfl rfl rfl (by decide) rfl rfl (Nat.le_of_ble_eq_true rfl) ?_
                        rw [zn_B4]
                        refine gw_istore 9 dz_M_dead_138 (Nat.le_of_ble_eq_true rfl) rfl ?_
                        dsimp only [List.set]
                        refine gq_iload dz_M_dead_140 rfl ?_
                        refine gq_iload dz_M_dead_142 rfl ?_
                        refine gq_bipush (v := -4) dz_M_dead_144 rfl ?_
                        refine gq_icmp_ne (tgt := 153) dz_M_dead_146 rfl (fun h146 => ?_) (fun h146 => ?_)
                        · skip
                          refine gq_iconst (v := 1) dz_M_dead_153 rfl ?_
                          refine gq_iload dz_M_dead_154 rfl ?_
                          refine gq_ishl dz_M_dead_156 ?_
                          refine gq_ior dz_M_dead_157 ?_
                          refine gw_istore 5 dz_M_dead_158 (Nat.le_of_ble_eq_true rfl) rfl ?_
                          dsimp only [List.set]
                          refine gw_iinc 8 (c := 1) dz_M_dead_160 rfl rfl (Nat.le_of_ble_eq_true rfl) rfl ?_
                          dsimp only [List.set]
                          refine gq_goto (tgt := 120) dz_M_dead_163 rfl ?_
                          simp only [nI_1]
                          exact zq_fewer _ (zq_sub_spec (by repeat (first | exact trivial | exact rfl | refine And.intro ?_ ?_))) (ih120 (s + 1) _ (by omega) (by omega) (by rw [hu]; exact (zn_wk4.trans (if_neg h146)).symm))
                        · skip
                          refine gq_iconst (v := 0) dz_M_dead_149 rfl ?_
                          refine gq_goto (tgt := 157) dz_M_dead_150 rfl ?_
                          refine gq_ior dz_M_dead_157 ?_
                          refine gw_istore 5 dz_M_dead_158 (Nat.le_of_ble_eq_true rfl) rfl ?_
                          dsimp only [List.set]
                          refine gw_iinc 8 (c := 1) dz_M_dead_160 rfl rfl (Nat.le_of_ble_eq_true rfl) rfl ?_
                          dsimp only [List.set]
                          refine gq_goto (tgt := 120) dz_M_dead_163 rfl ?_
                          simp only [nI_1]
                          exact zq_fewer _ (zq_sub_spec (by repeat (first | exact trivial | exact rfl | refine And.intro ?_ ?_))) (ih120 (s + 1) _ (by omega) (by omega) (by rw [hu, Int32.or_zero]; exact (zn_wk4.trans (if_pos h146)).symm))
                  exact zq_fewer _ (zq_sub_spec (by repeat (first | exact trivial | exact rfl | refine And.intro ?_ ?_))) (L120 5 0 _ (by omega) (by omega) rfl)
                · skip
                  have hal : zf_fo (zs_alwf A) (nI (2 ^ za_m A) - 1) a &&& -1 = zf_fo (zs_alwf A) (nI (2 ^ za_m A) - 1) (a + 1) := Int32.and_neg_one.trans (if_pos h105).symm
                  refine gq_iconst (v := -1) dz_M_dead_108 rfl ?_
                  refine gq_goto (tgt := 114) dz_M_dead_109 rfl ?_
                  refine gq_iand dz_M_dead_114 ?_
                  rw [hal]
                  refine gw_istore 4 dz_M_dead_115 (Nat.le_of_ble_eq_true rfl) rfl ?_
                  dsimp only [List.set]
                  refine gq_iconst (v := 0) dz_M_dead_117 rfl ?_
                  refine gw_istore 8 dz_M_dead_118 (Nat.le_of_ble_eq_true rfl) rfl ?_
                  dsimp only [List.set]
                  have L120 : ∀ (kf : Nat) (s : Nat) (u : Int32) (hkf : 4 - s < kf) (hs : s ≤ 4) (hu : u = zf_fo (zs_wk1 A (-4) (-4) a) (zf_fo (fun a x => zf_fo (zs_wk1 A (-4) (-4) a) x 4) 0 a) s), zq_G ν zm_M_dead 6 (zq_rv (zq_I (zx_dead A w)) σ) 120 [some (zq_O 30 0), some (zq_I w), some (zq_I (nI (2 ^ za_m A) - 1)), some (zq_I (zf_orI (zs_give A) (a + 1))), some (zq_I (zf_fo (zs_alwf A) (nI (2 ^ za_m A) - 1) (a + 1))), some (zq_I u), some (zq_I (nI a)), none, some (zq_I (nI s)), none] [] σ := by
                    intro kf
                    induction kf with
                    | zero => intro s u hkf hs hu; exact absurd hkf (Nat.not_lt_zero _)
                    | succ kf ih120 =>
                      intro s u hkf hs hu
                      refine gq_iload dz_M_dead_120 rfl ?_
                      refine gq_iconst (v := 4) dz_M_dead_122 rfl ?_
                      refine gq_icmp_ge (tgt := 166) dz_M_dead_123 rfl (fun h123 => ?_) (fun h123 => ?_)
                      · skip
                        have hs4 : s = 4 := by have := (nI_leI (a := 4) (by omega) (by omega)).mp h123; omega
                        subst hs4
                        subst hu
                        refine gw_iinc 6 (c := 1) dz_M_dead_166 rfl rfl (Nat.le_of_ble_eq_true rfl) rfl ?_
                        dsimp only [List.set]
                        refine gq_goto (tgt := 34) dz_M_dead_169 rfl ?_
                        simp only [nI_1]
                        exact zq_fewer _ (zq_sub_spec (by repeat (first | exact trivial | exact rfl | refine And.intro ?_ ?_))) (ih34 (a + 1) (by omega) (by omega))
                      · skip
                        have hs2 : s < 4 := (nI_ltI (b := 4) (by omega) (by omega)).mp (Int32.not_le.mp h123)
                        refine gq_aload_n dz_M_dead_126 rfl ?_
                        refine gq_iload dz_M_dead_127 rfl ?_
                        refine gq_iload dz_M_dead_129 rfl ?_
                        refine gq_bipush (v := 31) dz_M_dead_131 rfl ?_
                        refine gq_bipush (v := -4) dz_M_dead_133 rfl ?_
                        refine gq_cV (sp_M_ruleBy hA hw _ _ _ (-4) (Or.inl rfl)) zw_M_ruleBy zl_M_193 dz_M_dead_135 rfl rfl rfl (by decide) rfl rfl (Nat.le_of_ble_eq_true rfl) ?_
                        rw [zn_B4]
                        refine gw_istore 9 dz_M_dead_138 (Nat.le_of_ble_eq_true rfl) rfl ?_
                        dsimp only [List.set]
                        refine gq_iload dz_M_dead_140 rfl ?_
                        refine gq_iload dz_M_dead_142 rfl ?_
                        refine gq_bipush (v := -4) dz_M_dead_144 rfl ?_
                        refine gq_icmp_ne (tgt := 153) dz_M_dead_146 rfl (fun h146 => ?_) (fun h146 => ?_)
                        · skip
                          refine gq_iconst (v := 1) dz_M_dead_153 rfl ?_
                          refine gq_iload dz_M_dead_154 rfl ?_
                          refine gq_ishl dz_M_dead_156 ?_
                          refine gq_ior dz_M_dead_157 ?_
                          refine gw_istore 5 dz_M_dead_158 (Nat.le_of_ble_eq_true rfl) rfl ?_
                          dsimp only [List.set]
                          refine gw_iinc 8 (c := 1) dz_M_dead_160 rfl rfl (Nat.le_of_ble_eq_true rfl) rfl ?_
                          dsimp only [List.set]
                          refine gq_goto (tgt := 120) dz_M_dead_163 rfl ?_
                          simp only [nI_1]
                          exact zq_fewer _ (zq_sub_spec (by repeat (first | exact trivial | exact rfl | refine And.intro ?_ ?_))) (ih120 (s + 1) _ (by omega) (by omega) (by rw [hu]; exact (zn_wk4.trans (if_neg h146)).symm))
                        · skip
                          refine gq_iconst (v := 0) dz_M_dead_149 rfl ?_
                          refine gq_goto (tgt := 157) dz_M_dead_150 rfl ?_
                          refine gq_ior dz_M_dead_157 ?_
                          refine gw_istore 5 dz_M_dead_158 (Nat.le_of_ble_eq_true rfl) rfl ?_
                          dsimp only [List.set]
                          refine gw_iinc 8 (c := 1) dz_M_dead_160 rfl rfl (Nat.le_of_ble_eq_true rfl) rfl ?_
                          dsimp only [List.set]
                          refine gq_goto (tgt := 120) dz_M_dead_163 rfl ?_
                          simp only [nI_1]
                          exact zq_fewer _ (zq_sub_spec (by repeat (first | exact trivial | exact rfl | refine And.intro ?_ ?_))) (ih120 (s + 1) _ (by omega) (by omega) (by rw [hu, Int32.or_zero]; exact (zn_wk4.trans (if_pos h146)).symm))
                  exact zq_fewer _ (zq_sub_spec (by repeat (first | exact trivial | exact rfl | refine And.intro ?_ ?_))) (L120 5 0 _ (by omega) (by omega) rfl)
              · skip
                have hk2 : k < za_m A := by rcases Nat.lt_or_ge k (za_m A) with z | z; exact z; exact absurd (nI_le z (by omega)) h55
                refine gq_iload dz_M_dead_58 rfl ?_
                refine gq_aload_n dz_M_dead_60 rfl ?_
                refine gq_iload dz_M_dead_61 rfl ?_
                refine gq_iload dz_M_dead_63 rfl ?_
                refine gq_cV (sp_M_gives hA hw hk2 _) zw_M_gives zl_M_197 dz_M_dead_65 rfl rfl rfl (by decide) rfl rfl (Nat.le_of_ble_eq_true rfl) ?_
                refine gq_bipush (v := -4) dz_M_dead_68 rfl ?_
                refine gq_icmp_eq (tgt := 80) dz_M_dead_70 rfl (fun h70 => ?_) (fun h70 => ?_)
                · skip
                  refine gq_iconst (v := 0) dz_M_dead_80 rfl ?_
                  refine gq_ior dz_M_dead_81 ?_
                  refine gw_istore 7 dz_M_dead_82 (Nat.le_of_ble_eq_true rfl) rfl ?_
                  dsimp only [List.set]
                  refine gw_iinc 8 (c := 1) dz_M_dead_84 rfl rfl (Nat.le_of_ble_eq_true rfl) rfl ?_
                  dsimp only [List.set]
                  refine gq_goto (tgt := 49) dz_M_dead_87 rfl ?_
                  simp only [nI_1]
                  exact zq_fewer _ (zq_sub_spec (by repeat (first | exact trivial | exact rfl | refine And.intro ?_ ?_))) (ih49 (k + 1) _ (by omega) (by omega) (by rw [hv, Int32.or_zero]; exact (zf_or_f (P := (fun k => decide (¬ zs_recv A k (nI a) = -4))) (decide_eq_false (fun z => z h70))).symm))
                · skip
                  refine gq_iconst (v := 1) dz_M_dead_73 rfl ?_
                  refine gq_iload dz_M_dead_74 rfl ?_
                  refine gq_ishl dz_M_dead_76 ?_
                  refine gq_goto (tgt := 81) dz_M_dead_77 rfl ?_
                  refine gq_ior dz_M_dead_81 ?_
                  refine gw_istore 7 dz_M_dead_82 (Nat.le_of_ble_eq_true rfl) rfl ?_
                  dsimp only [List.set]
                  refine gw_iinc 8 (c := 1) dz_M_dead_84 rfl rfl (Nat.le_of_ble_eq_true rfl) rfl ?_
                  dsimp only [List.set]
                  refine gq_goto (tgt := 49) dz_M_dead_87 rfl ?_
                  simp only [nI_1]
                  exact zq_fewer _ (zq_sub_spec (by repeat (first | exact trivial | exact rfl | refine And.intro ?_ ?_))) (ih49 (k + 1) _ (by omega) (by omega) (by rw [hv]; exact (zf_or_t (P := (fun k => decide (¬ zs_recv A k (nI a) = -4))) (decide_eq_true h70)).symm))
          exact zq_fewer _ (zq_sub_spec (by repeat (first | exact trivial | exact rfl | refine And.intro ?_ ?_))) (L49 (za_m A + 1) 0 0 (by omega) (by omega) rfl)
    exact zq_fewer _ (zq_sub_spec (by repeat (first | exact trivial | exact rfl | refine And.intro ?_ ?_))) (L34 (za_N A + 1) 0 (by omega) (by omega))
  · skip
    rw [zn_inc (n := 3) rfl (by omega)] at h9
    refine gq_iconst (v := -1) dz_M_dead_12 rfl ?_
    refine gw_iret .int dz_M_dead_13 rfl (by first | rfl | exact zb_nar _ | exact pk_nc _) ?_ ?_
    · rw [zx_dead, if_neg (show ¬ w = 0 from zn_out (i := 0) h9 (by omega) (by omega)), if_neg (show ¬ w = 1 from zn_out (i := 1) h9 (by omega) (by omega)), if_neg (show ¬ w = 2 from zn_out (i := 2) h9 (by omega) (by omega))]
    · rfl
set_option maxHeartbeats 4000000 in
theorem sp_M_isEnough {σ : zq_T} {A : za_D} (hA : zn_rep σ A) (hw : za_wf A) (set : Int32) : zq_Sp zm_M_isEnough 8 [zq_O 30 0, zq_I set] σ (zq_rv (zq_I (zb_v (zs_same A set))) σ) := by
  have hn6 := zn_n6 hA
  have hm5 := zn_m5 hA
  have hN : za_N A ≤ 64 := za_N64 hn6
  refine zq_sp [some (zq_O 30 0), some (zq_I set), none, none, none] (by decide +kernel) rfl (Nat.le_of_ble_eq_true rfl) (fun ν => ?_)
  refine gq_iconst (v := 1) dz_M_isEnough_0 rfl ?_
  refine gw_istore_n 2 dz_M_isEnough_1 rfl (Nat.le_of_ble_eq_true rfl) rfl ?_
  dsimp only [List.set]
  refine gq_iconst (v := 0) dz_M_isEnough_2 rfl ?_
  refine gw_istore_n 3 dz_M_isEnough_3 rfl (Nat.le_of_ble_eq_true rfl) rfl ?_
  dsimp only [List.set]
  have L4 : ∀ (kf : Nat) (a : Nat) (b : Bool) (hkf : za_N A - a < kf) (ha : a ≤ za_N A) (hb : b = zf_all (fun a => zf_all (zs_same1 A set a) 4) a), zq_G ν zm_M_isEnough 8 (zq_rv (zq_I (zb_v (zs_same A set))) σ) 4 [some (zq_O 30 0), some (zq_I set), some (zq_I (zb_v b)), some (zq_I (nI a)), none] [] σ := by
    intro kf
    induction kf with
    | zero => intro a b hkf ha hb; exact absurd hkf (Nat.not_lt_zero _)
    | succ kf ih4 =>
      intro a b hkf ha hb
      refine gq_iload_n dz_M_isEnough_4 rfl ?_
      refine gq_aload_n dz_M_isEnough_5 rfl ?_
      refine gq_cV (sp_M_cases hA) zw_M_cases zl_M_254 dz_M_isEnough_6 rfl rfl rfl (by decide) rfl rfl (Nat.le_of_ble_eq_true rfl) ?_
      rw [za_caN hn6]
      refine gq_icmp_ge (tgt := 65) dz_M_isEnough_9 rfl (fun h9 => ?_) (fun h9 => ?_)
      · skip
        have ha2 : a = za_N A := zq_leq h9 ha (by omega)
        refine gq_iload_n dz_M_isEnough_65 rfl ?_
        refine gw_iret .boolean dz_M_isEnough_66 rfl (by first | rfl | exact zb_nar _ | exact pk_nc _) ?_ ?_
        · rw [hb, ha2]; rfl
        · rfl
      · skip
        have ha2 : a < za_N A := by rcases Nat.lt_or_ge a (za_N A) with z | z; exact z; exact absurd (nI_le z (by omega)) h9
        refine gq_iload_n dz_M_isEnough_12 rfl ?_
        refine gw_ifb_eq (tgt := 65) dz_M_isEnough_13 rfl (fun h13 => ?_) (fun h13 => ?_)
        · skip
          refine gq_iload_n dz_M_isEnough_65 rfl ?_
          refine gw_iret .boolean dz_M_isEnough_66 rfl (by first | rfl | exact zb_nar _ | exact pk_nc _) ?_ ?_
          · rw [h13, zs_same, zf_all_mono (hb.symm.trans h13) ha]
          · rfl
        · skip
          refine gq_iconst (v := 0) dz_M_isEnough_16 rfl ?_
          refine gw_istore 4 dz_M_isEnough_17 (Nat.le_of_ble_eq_true rfl) rfl ?_
          dsimp only [List.set]
          have L19 : ∀ (kf : Nat) (s : Nat) (c : Bool) (hkf : 4 - s < kf) (hs : s ≤ 4) (hc : c = (zf_all (fun a => zf_all (zs_same1 A set a) 4) a && zf_all (zs_same1 A set a) s)), zq_G ν zm_M_isEnough 8 (zq_rv (zq_I (zb_v (zs_same A set))) σ) 19 [some (zq_O 30 0), some (zq_I set), some (zq_I (zb_v c)), some (zq_I (nI a)), some (zq_I (nI s))] [] σ := by
            intro kf
            induction kf with
            | zero => intro s c hkf hs hc; exact absurd hkf (Nat.not_lt_zero _)
            | succ kf ih19 =>
              intro s c hkf hs hc
              refine gq_iload dz_M_isEnough_19 rfl ?_
              refine gq_iconst (v := 4) dz_M_isEnough_21 rfl ?_
              refine gq_icmp_ge (tgt := 59) dz_M_isEnough_22 rfl (fun h22 => ?_) (fun h22 => ?_)
              · skip
                have hs4 : s = 4 := by have := (nI_leI (a := 4) (by omega) (by omega)).mp h22; omega
                subst hs4
                refine gw_iinc 3 (c := 1) dz_M_isEnough_59 rfl rfl (Nat.le_of_ble_eq_true rfl) rfl ?_
                dsimp only [List.set]
                refine gq_goto (tgt := 4) dz_M_isEnough_62 rfl ?_
                simp only [nI_1]
                exact zq_fewer _ (zq_sub_spec (by repeat (first | exact trivial | exact rfl | refine And.intro ?_ ?_))) (ih4 (a + 1) c (by omega) (by omega) hc)
              · skip
                have hs2 : s < 4 := (nI_ltI (b := 4) (by omega) (by omega)).mp (Int32.not_le.mp h22)
                refine gq_iload_n dz_M_isEnough_25 rfl ?_
                refine gw_ifb_eq (tgt := 51) dz_M_isEnough_26 rfl (fun h26 => ?_) (fun h26 => ?_)
                · skip
                  refine gq_iconst (v := 0) dz_M_isEnough_51 rfl ?_
                  refine gw_istore_n 2 dz_M_isEnough_52 rfl (Nat.le_of_ble_eq_true rfl) rfl ?_
                  dsimp only [List.set]
                  refine gw_iinc 4 (c := 1) dz_M_isEnough_53 rfl rfl (Nat.le_of_ble_eq_true rfl) rfl ?_
                  dsimp only [List.set]
                  refine gq_goto (tgt := 19) dz_M_isEnough_56 rfl ?_
                  simp only [nI_1]
                  exact zq_fewer _ (zq_sub_spec (by repeat (first | exact trivial | exact rfl | refine And.intro ?_ ?_))) (ih19 (s + 1) false (by omega) (by omega) (by rw [zf_all, ← Bool.and_assoc, ← hc, h26]; rfl))
                · skip
                  refine gq_aload_n dz_M_isEnough_29 rfl ?_
                  refine gq_iload dz_M_isEnough_30 rfl ?_
                  refine gq_iload_n dz_M_isEnough_32 rfl ?_
                  refine gq_iload_n dz_M_isEnough_33 rfl ?_
                  refine gq_cV (sp_M_ownerBy hA hw _ _ _) zw_M_ownerBy zl_M_200 dz_M_isEnough_34 rfl rfl rfl (by decide) rfl rfl (Nat.le_of_ble_eq_true rfl) ?_
                  refine gq_aload_n dz_M_isEnough_37 rfl ?_
                  refine gq_iload dz_M_isEnough_38 rfl ?_
                  refine gq_iload_n dz_M_isEnough_40 rfl ?_
                  refine gq_cV (sp_M_ownerIn hA hw _ _) zw_M_ownerIn zl_M_220 dz_M_isEnough_41 rfl rfl rfl (by decide) rfl rfl (Nat.le_of_ble_eq_true rfl) ?_
                  refine gq_icmp_ne (tgt := 51) dz_M_isEnough_44 rfl (fun h44 => ?_) (fun h44 => ?_)
                  · skip
                    refine gq_iconst (v := 0) dz_M_isEnough_51 rfl ?_
                    refine gw_istore_n 2 dz_M_isEnough_52 rfl (Nat.le_of_ble_eq_true rfl) rfl ?_
                    dsimp only [List.set]
                    refine gw_iinc 4 (c := 1) dz_M_isEnough_53 rfl rfl (Nat.le_of_ble_eq_true rfl) rfl ?_
                    dsimp only [List.set]
                    refine gq_goto (tgt := 19) dz_M_isEnough_56 rfl ?_
                    simp only [nI_1]
                    exact zq_fewer _ (zq_sub_spec (by repeat (first | exact trivial | exact rfl | refine And.intro ?_ ?_))) (ih19 (s + 1) false (by omega) (by omega) (by rw [zf_all, show zs_same1 A set a s = false from decide_eq_false h44, Bool.and_false, Bool.and_false]))
                  · skip
                    refine gq_iconst (v := 1) dz_M_isEnough_47 rfl ?_
                    refine gq_goto (tgt := 52) dz_M_isEnough_48 rfl ?_
                    refine gw_istore_n 2 dz_M_isEnough_52 rfl (Nat.le_of_ble_eq_true rfl) rfl ?_
                    dsimp only [List.set]
                    refine gw_iinc 4 (c := 1) dz_M_isEnough_53 rfl rfl (Nat.le_of_ble_eq_true rfl) rfl ?_
                    dsimp only [List.set]
                    refine gq_goto (tgt := 19) dz_M_isEnough_56 rfl ?_
                    simp only [nI_1]
                    exact zq_fewer _ (zq_sub_spec (by repeat (first | exact trivial | exact rfl | refine And.intro ?_ ?_))) (ih19 (s + 1) true (by omega) (by omega) (by rw [zf_all, ← Bool.and_assoc, ← hc, h26, show zs_same1 A set a s = true from decide_eq_true h44]; rfl))
          exact zq_fewer _ (zq_sub_spec (by repeat (first | exact trivial | exact rfl | refine And.intro ?_ ?_))) (L19 5 0 b (by omega) (by omega) (by rw [hb]; exact (Bool.and_true _).symm))
  exact zq_fewer _ (zq_sub_spec (by repeat (first | exact trivial | exact rfl | refine And.intro ?_ ?_))) (L4 (za_N A + 1) 0 true (by omega) (by omega) rfl)
set_option maxHeartbeats 4000000 in
theorem sp_M_least {σ : zq_T} {A : za_D} (hA : zn_rep σ A) (hw : za_wf A) (w : Int32) : zq_Sp zm_M_least 9 [zq_O 30 0, zq_I w] σ (zq_rv (zq_I (zx_least A w)) σ) := by
  have hn6 := zn_n6 hA
  have hm5 := zn_m5 hA
  have hN : za_N A ≤ 64 := za_N64 hn6
  have h2m := za_2m5 hm5
  have hle := zn_le_eq hm5
  refine zq_sp [some (zq_O 30 0), some (zq_I w), none, none, none] (by decide +kernel) rfl (Nat.le_of_ble_eq_true rfl) (fun ν => ?_)
  refine gq_iload_n dz_M_least_0 rfl ?_
  refine gq_i2l dz_M_least_1 ?_
  refine gq_lconst (v := 0) dz_M_least_2 rfl ?_
  refine gq_lconst (v := 1) dz_M_least_3 rfl ?_
  refine gq_cS (sp_M_in _ _ _) zw_M_in zl_M_65 dz_M_least_4 (by decide) rfl rfl (Nat.le_of_ble_eq_true rfl) ?_
  refine gw_ifb_ne (tgt := 12) dz_M_least_7 rfl (fun h7 => ?_) (fun h7 => ?_)
  · skip
    rw [zn_in3 (n := 1) rfl rfl (by omega)] at h7
    replace h7 : zx_3 w 1 = true := h7
    refine gq_bipush (v := 100) dz_M_least_12 rfl ?_
    refine gw_istore_n 2 dz_M_least_14 rfl (Nat.le_of_ble_eq_true rfl) rfl ?_
    dsimp only [List.set]
    refine gq_iconst (v := 0) dz_M_least_15 rfl ?_
    refine gw_istore_n 3 dz_M_least_16 rfl (Nat.le_of_ble_eq_true rfl) rfl ?_
    dsimp only [List.set]
    refine gq_iconst (v := 0) dz_M_least_17 rfl ?_
    refine gw_istore 4 dz_M_least_18 (Nat.le_of_ble_eq_true rfl) rfl ?_
    dsimp only [List.set]
    have L20 : ∀ (kf : Nat) (s : Nat) (S : Int32 × Int32) (hkf : 2 ^ za_m A - s < kf) (hs : s ≤ 2 ^ za_m A) (hS : S = zn_le A s), zq_G ν zm_M_least 9 (zq_rv (zq_I (zx_least A w)) σ) 20 [some (zq_O 30 0), some (zq_I w), some (zq_I S.1), some (zq_I S.2), some (zq_I (nI s))] [] σ := by
      intro kf
      induction kf with
      | zero => intro s S hkf hs hS; exact absurd hkf (Nat.not_lt_zero _)
      | succ kf ih20 =>
        intro s S hkf hs hS
        refine gq_iload dz_M_least_20 rfl ?_
        refine gq_iconst (v := 1) dz_M_least_22 rfl ?_
        refine gq_aload_n dz_M_least_23 rfl ?_
        refine gq_getI zf_M_161 rfl rfl dz_M_least_24 ?_
        rw [zn_m hA]
        refine gq_ishl dz_M_least_27 ?_
        rw [za_pm hm5]
        refine gq_icmp_ge (tgt := 64) dz_M_least_28 rfl (fun h28 => ?_) (fun h28 => ?_)
        · skip
          have hs4 : s = 2 ^ za_m A := zq_leq h28 hs (by omega)
          refine gq_iload_n dz_M_least_64 rfl ?_
          refine gq_if_ne (tgt := 72) dz_M_least_65 rfl (fun h65 => ?_) (fun h65 => ?_)
          · skip
            refine gq_iload_n dz_M_least_72 rfl ?_
            refine gw_iret .int dz_M_least_73 rfl (by first | rfl | exact zb_nar _ | exact pk_nc _) ?_ ?_
            · rw [hS, hs4, hle, zx_least, show zx_3 w 1 = true from h7, if_pos rfl, if_neg h65]
            · rfl
          · skip
            refine gq_iload_n dz_M_least_68 rfl ?_
            refine gq_goto (tgt := 73) dz_M_least_69 rfl ?_
            refine gw_iret .int dz_M_least_73 rfl (by first | rfl | exact zb_nar _ | exact pk_nc _) ?_ ?_
            · rw [hS, hs4, hle, zx_least, show zx_3 w 1 = true from h7, if_pos rfl, if_pos h65]
            · rfl
        · skip
          have hs2 : s < 2 ^ za_m A := by rcases Nat.lt_or_ge s (2 ^ za_m A) with z | z; exact z; exact absurd (nI_le z (by omega)) h28
          refine gq_iload dz_M_least_31 rfl ?_
          refine gq_cS (sp_M_bitsOf _) zw_M_bitsOf zl_M_257 dz_M_least_33 (by decide) rfl rfl (Nat.le_of_ble_eq_true rfl) ?_
          refine gq_iload_n dz_M_least_36 rfl ?_
          refine gq_icmp_ge (tgt := 58) dz_M_least_37 rfl (fun h37 => ?_) (fun h37 => ?_)
          · skip
            have h37 : ¬ zn_bo (nI s) < S.1 := Int32.not_lt.mpr h37
            refine gw_iinc 4 (c := 1) dz_M_least_58 rfl rfl (Nat.le_of_ble_eq_true rfl) rfl ?_
            dsimp only [List.set]
            refine gq_goto (tgt := 20) dz_M_least_61 rfl ?_
            simp only [nI_1]
            exact zq_fewer _ (zq_sub_spec (by repeat (first | exact trivial | exact rfl | refine And.intro ?_ ?_))) (ih20 (s + 1) S (by omega) (by omega) (by rw [hS]; exact (if_neg (fun z => h37 (hS ▸ z.1))).symm))
          · skip
            have h37 : zn_bo (nI s) < S.1 := Int32.not_le.mp h37
            refine gq_aload_n dz_M_least_40 rfl ?_
            refine gq_iload dz_M_least_41 rfl ?_
            refine gq_cV (sp_M_isEnough hA hw _) zw_M_isEnough zl_M_260 dz_M_least_43 rfl rfl rfl (by decide) rfl rfl (Nat.le_of_ble_eq_true rfl) ?_
            refine gw_ifb_eq (tgt := 58) dz_M_least_46 rfl (fun h46 => ?_) (fun h46 => ?_)
            · skip
              refine gw_iinc 4 (c := 1) dz_M_least_58 rfl rfl (Nat.le_of_ble_eq_true rfl) rfl ?_
              dsimp only [List.set]
              refine gq_goto (tgt := 20) dz_M_least_61 rfl ?_
              simp only [nI_1]
              exact zq_fewer _ (zq_sub_spec (by repeat (first | exact trivial | exact rfl | refine And.intro ?_ ?_))) (ih20 (s + 1) S (by omega) (by omega) (by rw [hS]; exact (if_neg (fun z => Bool.noConfusion (h46.symm.trans z.2))).symm))
            · skip
              refine gq_iload dz_M_least_49 rfl ?_
              refine gq_cS (sp_M_bitsOf _) zw_M_bitsOf zl_M_257 dz_M_least_51 (by decide) rfl rfl (Nat.le_of_ble_eq_true rfl) ?_
              refine gw_istore_n 2 dz_M_least_54 rfl (Nat.le_of_ble_eq_true rfl) rfl ?_
              dsimp only [List.set]
              refine gq_iload dz_M_least_55 rfl ?_
              refine gw_istore_n 3 dz_M_least_57 rfl (Nat.le_of_ble_eq_true rfl) rfl ?_
              dsimp only [List.set]
              refine gw_iinc 4 (c := 1) dz_M_least_58 rfl rfl (Nat.le_of_ble_eq_true rfl) rfl ?_
              dsimp only [List.set]
              refine gq_goto (tgt := 20) dz_M_least_61 rfl ?_
              simp only [nI_1]
              exact zq_fewer _ (zq_sub_spec (by repeat (first | exact trivial | exact rfl | refine And.intro ?_ ?_))) (ih20 (s + 1) (zn_bo (nI s), nI s) (by omega) (by omega) ((if_pos ⟨hS ▸ h37, h46⟩ : zn_lef A s (zn_le A s) = _).symm))
    exact zq_fewer _ (zq_sub_spec (by repeat (first | exact trivial | exact rfl | refine And.intro ?_ ?_))) (L20 (2 ^ za_m A + 1) 0 (100, 0) (Nat.lt_succ_self _) (Nat.zero_le _) rfl)
  · skip
    rw [zn_in3 (n := 1) rfl rfl (by omega)] at h7
    replace h7 : zx_3 w 1 = false := h7
    refine gq_iconst (v := -1) dz_M_least_10 rfl ?_
    refine gw_iret .int dz_M_least_11 rfl (by first | rfl | exact zb_nar _ | exact pk_nc _) ?_ ?_
    · rw [zx_least, h7]; rfl
    · rfl
