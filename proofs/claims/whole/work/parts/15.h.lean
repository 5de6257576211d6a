/-- of duchy d some are already as w says, all else is the same -/
def zd_w (d : Fin 5) (σ τ : zq_T) (w : Nat → Nat → Int32) (N : Nat → Nat) : Prop := zd_same d σ τ ∧ ∀ t, 10 ≤ t → t ≤ 20 → ∀ k, k < N t → τ.1 t d k = w t k
theorem zd_w.rf {d : Fin 5} {σ : zq_T} {w : Nat → Nat → Int32} : zd_w d σ σ w (fun _ => 0) := ⟨zd_same.rf, fun _ _ _ k hk => absurd hk (Nat.not_lt_zero k)⟩
theorem zd_w.mono {d : Fin 5} {σ τ : zq_T} {w : Nat → Nat → Int32} {N N' : Nat → Nat} (h : zd_w d σ τ w N) (hN : ∀ t, 10 ≤ t → t ≤ 20 → N' t ≤ N t) : zd_w d σ τ w N' := ⟨h.1, fun t h1 h2 k hk => h.2 t h1 h2 k (Nat.lt_of_lt_of_le hk (hN t h1 h2))⟩
theorem zd_w.up {d : Fin 5} {σ τ : zq_T} {w : Nat → Nat → Int32} {N : Nat → Nat} (h : zd_w d σ τ w N) {t k : Nat} {x : Int32} (h1 : 10 ≤ t) (h2 : t ≤ 20) (hk : N t = k) (hx : x = w t k) : zd_w d σ (zq_up τ.1 t d k x, τ.2) w (fun t' => if t' = t then k + 1 else N t') := by
  refine ⟨h.1.up h1 h2, fun t' a b k' hk' => ?_⟩
  show zq_up τ.1 t d k x t' d k' = w t' k'
  unfold zq_up
  by_cases e : t' = t
  · subst e
    simp only [if_true] at hk'
    by_cases e2 : k' = k
    · subst e2
      rw [if_pos ⟨rfl, rfl, rfl⟩]; exact hx
    · rw [if_neg (fun q => e2 q.2.2)]
      exact h.2 t' a b k' (by omega)
  · simp only [e, if_false] at hk'
    rw [if_neg (fun q => e q.1)]
    exact h.2 t' a b k' hk'
/-- the other duchy's numbers while this one is written -/
theorem zd_w.eq {d e : Fin 5} {σ τ : zq_T} {w : Nat → Nat → Int32} {N : Nat → Nat} (h : zd_w d σ τ w N) (hde : d ≠ e) (t k : Nat) : τ.1 t e k = σ.1 t e k := h.1.2 t e k (fun q => hde q.2.2.symm)
def zd_N (a b c : Nat) : Nat → Nat := fun t => if t = 10 then 3 else if t ≤ 14 then a else if t = 15 then b else c
theorem zd_all {P : Nat → Prop} (h : P 10 ∧ P 11 ∧ P 12 ∧ P 13 ∧ P 14 ∧ P 15 ∧ P 16 ∧ P 17 ∧ P 18 ∧ P 19 ∧ P 20) : ∀ t, 10 ≤ t → t ≤ 20 → P t := by
  intro t h1 h2
  obtain ⟨a, b, c, d, e, f, g, i, j, k, l⟩ := h
  have t3 : t = 10 ∨ t = 11 ∨ t = 12 ∨ t = 13 ∨ t = 14 ∨ t = 15 ∨ t = 16 ∨ t = 17 ∨ t = 18 ∨ t = 19 ∨ t = 20 := by omega
  rcases t3 with rfl | rfl | rfl | rfl | rfl | rfl | rfl | rfl | rfl | rfl | rfl <;> assumption
theorem zd_w.rep {d e : Fin 5} {σ τ : zq_T} {A : za_D} (h : zd_w d σ τ (fun t k => σ.1 t e k) (zd_N 6 5 5)) (hA : zc_rep σ e A) : zc_rep τ d A := by
  have he : ∀ t, 10 ≤ t → t ≤ 20 → ∀ k, k < zd_N 6 5 5 t → τ.1 t d k = σ.1 t e k := h.2
  obtain ⟨h1, h2, h3, h4, h5, h6, h7, h8, h9⟩ := hA
  refine ⟨h1, h2, ?_, ?_, ?_, fun i hi => ?_, fun i hi => ?_, fun f hf => ?_, fun k hk => ?_⟩
  · rw [he 10 (by omega) (by omega) 0 (by decide)]; exact h3
  · rw [he 10 (by omega) (by omega) 1 (by decide)]; exact h4
  · rw [he 10 (by omega) (by omega) 2 (by decide)]; exact h5
  · rw [he 11 (by omega) (by omega) i (by show i < 6; omega), he 12 (by omega) (by omega) i (by show i < 6; omega)]; exact h6 i hi
  · rw [he 13 (by omega) (by omega) i hi, he 14 (by omega) (by omega) i hi]; exact h7 i hi
  · rw [he 15 (by omega) (by omega) f hf]; exact h8 f hf
  · have hk5 : k < 5 := by omega
    rw [he 16 (by omega) (by omega) k hk5, he 17 (by omega) (by omega) k hk5, he 18 (by omega) (by omega) k hk5, he 19 (by omega) (by omega) k hk5, he 20 (by omega) (by omega) k hk5]; exact h9 k hk
set_option maxHeartbeats 4000000 in
theorem sp_D_copyFrom {σ : zq_T} {d e : Fin 5} {A : za_D} (hA : zc_rep σ e A) (hde : d ≠ e) : zq_Sp zm_D_copyFrom 0 [zq_O 10 d, zq_O 10 e] σ (zq_rx (fun τ => zc_rep τ d A ∧ zd_same d σ τ)) := by
  refine zq_sp [some (zq_O 10 d), some (zq_O 10 e), none] (by decide +kernel) rfl (Nat.le_of_ble_eq_true rfl) (fun ν => ?_)
  refine gq_aload_n dz_D_copyFrom_0 rfl ?_
  refine gq_ifnonnull (tgt := 5) dz_D_copyFrom_1 rfl ?_
  refine gq_aload_n dz_D_copyFrom_5 rfl ?_
  refine gq_aload_n dz_D_copyFrom_6 rfl ?_
  refine gq_getI zf_D_45 rfl rfl dz_D_copyFrom_7 ?_
  refine gq_putI zv_D_45 rfl rfl dz_D_copyFrom_10 ?_
  refine gq_aload_n dz_D_copyFrom_13 rfl ?_
  refine gq_aload_n dz_D_copyFrom_14 rfl ?_
  refine gq_getI zf_D_49 rfl rfl dz_D_copyFrom_15 ?_
  refine gq_putI zv_D_49 rfl rfl dz_D_copyFrom_18 ?_
  refine gq_aload_n dz_D_copyFrom_21 rfl ?_
  refine gq_aload_n dz_D_copyFrom_22 rfl ?_
  refine gq_getI zf_D_52 rfl rfl dz_D_copyFrom_23 ?_
  refine gq_putI zv_D_52 rfl rfl dz_D_copyFrom_26 ?_
  refine gq_iconst (v := 0) dz_D_copyFrom_29 rfl ?_
  refine gw_istore_n 2 dz_D_copyFrom_30 rfl (Nat.le_of_ble_eq_true rfl) rfl ?_
  dsimp only [List.set]
  have L31 : ∀ (kf : Nat) (i : Nat) (τ : zq_T) (hkf : 6 - i < kf) (hi : i ≤ 6) (hw : zd_w d σ τ (fun t k => σ.1 t e k) (zd_N i 0 0)), zq_G ν zm_D_copyFrom 0 (zq_rx (fun τ => zc_rep τ d A ∧ zd_same d σ τ)) 31 [some (zq_O 10 d), some (zq_O 10 e), some (zq_I (nI i))] [] τ := by
    intro kf
    induction kf with
    | zero => intro i τ hkf hi hw; exact absurd hkf (Nat.not_lt_zero _)
    | succ kf ih31 =>
      intro i τ hkf hi hw
      refine gq_iload_n dz_D_copyFrom_31 rfl ?_
      refine gq_bipush (v := 6) dz_D_copyFrom_32 rfl ?_
      refine gq_icmp_ge (tgt := 91) dz_D_copyFrom_34 rfl (fun h34 => ?_) (fun h34 => ?_)
      · skip
        refine gq_iconst (v := 0) dz_D_copyFrom_91 rfl ?_
        refine gw_istore_n 2 dz_D_copyFrom_92 rfl (Nat.le_of_ble_eq_true rfl) rfl ?_
        dsimp only [List.set]
        have L93 : ∀ (kf : Nat) (i : Nat) (τ : zq_T) (hkf : 5 - i < kf) (hi : i ≤ 5) (hw : zd_w d σ τ (fun t k => σ.1 t e k) (zd_N 6 i 0)), zq_G ν zm_D_copyFrom 0 (zq_rx (fun τ => zc_rep τ d A ∧ zd_same d σ τ)) 93 [some (zq_O 10 d), some (zq_O 10 e), some (zq_I (nI i))] [] τ := by
          intro kf
          induction kf with
          | zero => intro i τ hkf hi hw; exact absurd hkf (Nat.not_lt_zero _)
          | succ kf ih93 =>
            intro i τ hkf hi hw
            refine gq_iload_n dz_D_copyFrom_93 rfl ?_
            refine gq_iconst (v := 5) dz_D_copyFrom_94 rfl ?_
            refine gq_icmp_ge (tgt := 116) dz_D_copyFrom_95 rfl (fun h95 => ?_) (fun h95 => ?_)
            · skip
              refine gq_iconst (v := 0) dz_D_copyFrom_116 rfl ?_
              refine gw_istore_n 2 dz_D_copyFrom_117 rfl (Nat.le_of_ble_eq_true rfl) rfl ?_
              dsimp only [List.set]
              have L118 : ∀ (kf : Nat) (i : Nat) (τ : zq_T) (hkf : 5 - i < kf) (hi : i ≤ 5) (hw : zd_w d σ τ (fun t k => σ.1 t e k) (zd_N 6 5 i)), zq_G ν zm_D_copyFrom 0 (zq_rx (fun τ => zc_rep τ d A ∧ zd_same d σ τ)) 118 [some (zq_O 10 d), some (zq_O 10 e), some (zq_I (nI i))] [] τ := by
                intro kf
                induction kf with
                | zero => intro i τ hkf hi hw; exact absurd hkf (Nat.not_lt_zero _)
                | succ kf ih118 =>
                  intro i τ hkf hi hw
                  refine gq_iload_n dz_D_copyFrom_118 rfl ?_
                  refine gq_iconst (v := 5) dz_D_copyFrom_119 rfl ?_
                  refine gq_icmp_ge (tgt := 189) dz_D_copyFrom_120 rfl (fun h120 => ?_) (fun h120 => ?_)
                  · skip
                    have hi6 : i = 5 := zq_leq h120 hi (by omega)
                    subst hi6
                    refine gw_vretP dz_D_copyFrom_189 rfl ?_
                    · exact ⟨hw.rep hA, hw.1⟩
                  · skip
                    have hi2 : i < 5 := by rcases Nat.lt_or_ge i (5) with z | z; exact z; exact absurd (nI_le z (by omega)) h120
                    refine gq_aload_n dz_D_copyFrom_123 rfl ?_
                    refine gq_getR 16 zf_D_27 rfl rfl dz_D_copyFrom_124 ?_
                    refine gq_iload_n dz_D_copyFrom_127 rfl ?_
                    refine gq_aload_n dz_D_copyFrom_128 rfl ?_
                    refine gq_getR 16 zf_D_27 rfl rfl dz_D_copyFrom_129 ?_
                    refine gq_iload_n dz_D_copyFrom_132 rfl ?_
                    refine gw_iald (i) (rfl) rfl (rfl) (Nat.le_of_ble_eq_true rfl) (by omega) dz_D_copyFrom_133 ?_
                    refine gw_iast (i) (rfl) rfl (rfl) (Nat.le_of_ble_eq_true rfl) (by omega) dz_D_copyFrom_134 ?_
                    refine gq_aload_n dz_D_copyFrom_135 rfl ?_
                    refine gq_getR 17 zf_D_30 rfl rfl dz_D_copyFrom_136 ?_
                    refine gq_iload_n dz_D_copyFrom_139 rfl ?_
                    refine gq_aload_n dz_D_copyFrom_140 rfl ?_
                    refine gq_getR 17 zf_D_30 rfl rfl dz_D_copyFrom_141 ?_
                    refine gq_iload_n dz_D_copyFrom_144 rfl ?_
                    refine gw_iald (i) (rfl) rfl (rfl) (Nat.le_of_ble_eq_true rfl) (by omega) dz_D_copyFrom_145 ?_
                    refine gw_iast (i) (rfl) rfl (rfl) (Nat.le_of_ble_eq_true rfl) (by omega) dz_D_copyFrom_146 ?_
                    refine gq_aload_n dz_D_copyFrom_147 rfl ?_
                    refine gq_getR 18 zf_D_33 rfl rfl dz_D_copyFrom_148 ?_
                    refine gq_iload_n dz_D_copyFrom_151 rfl ?_
                    refine gq_aload_n dz_D_copyFrom_152 rfl ?_
                    refine gq_getR 18 zf_D_33 rfl rfl dz_D_copyFrom_153 ?_
                    refine gq_iload_n dz_D_copyFrom_156 rfl ?_
                    refine gw_iald (i) (rfl) rfl (rfl) (Nat.le_of_ble_eq_true rfl) (by omega) dz_D_copyFrom_157 ?_
                    refine gw_iast (i) (rfl) rfl (rfl) (Nat.le_of_ble_eq_true rfl) (by omega) dz_D_copyFrom_158 ?_
                    refine gq_aload_n dz_D_copyFrom_159 rfl ?_
                    refine gq_getR 19 zf_D_36 rfl rfl dz_D_copyFrom_160 ?_
                    refine gq_iload_n dz_D_copyFrom_163 rfl ?_
                    refine gq_aload_n dz_D_copyFrom_164 rfl ?_
                    refine gq_getR 19 zf_D_36 rfl rfl dz_D_copyFrom_165 ?_
                    refine gq_iload_n dz_D_copyFrom_168 rfl ?_
                    refine gw_iald (i) (rfl) rfl (rfl) (Nat.le_of_ble_eq_true rfl) (by omega) dz_D_copyFrom_169 ?_
                    refine gw_iast (i) (rfl) rfl (rfl) (Nat.le_of_ble_eq_true rfl) (by omega) dz_D_copyFrom_170 ?_
                    refine gq_aload_n dz_D_copyFrom_171 rfl ?_
                    refine gq_getR 20 zf_D_39 rfl rfl dz_D_copyFrom_172 ?_
                    refine gq_iload_n dz_D_copyFrom_175 rfl ?_
                    refine gq_aload_n dz_D_copyFrom_176 rfl ?_
                    refine gq_getR 20 zf_D_39 rfl rfl dz_D_copyFrom_177 ?_
                    refine gq_iload_n dz_D_copyFrom_180 rfl ?_
                    refine gw_iald (i) (rfl) rfl (rfl) (Nat.le_of_ble_eq_true rfl) (by omega) dz_D_copyFrom_181 ?_
                    refine gw_iast (i) (rfl) rfl (rfl) (Nat.le_of_ble_eq_true rfl) (by omega) dz_D_copyFrom_182 ?_
                    refine gw_iinc 2 (c := 1) dz_D_copyFrom_183 rfl rfl (Nat.le_of_ble_eq_true rfl) rfl ?_
                    dsimp only [List.set]
                    refine gq_goto (tgt := 118) dz_D_copyFrom_186 rfl ?_
                    simp only [nI_1]
                    have w0 := zd_w.up hw (t := 16) (k := i) (by omega) (by omega) (by simp [zd_N]) (hw.eq hde 16 i)
                    have w1 := zd_w.up w0 (t := 17) (k := i) (by omega) (by omega) (by simp [zd_N]) (w0.eq hde 17 i)
                    have w2 := zd_w.up w1 (t := 18) (k := i) (by omega) (by omega) (by simp [zd_N]) (w1.eq hde 18 i)
                    have w3 := zd_w.up w2 (t := 19) (k := i) (by omega) (by omega) (by simp [zd_N]) (w2.eq hde 19 i)
                    have w4 := zd_w.up w3 (t := 20) (k := i) (by omega) (by omega) (by simp [zd_N]) (w3.eq hde 20 i)
                    exact zq_fewer _ (zq_sub_spec (by repeat (first | exact trivial | exact rfl | refine And.intro ?_ ?_))) (ih118 (i + 1) _ (by omega) (by omega) (w4.mono (zd_all (by simp [zd_N]))))
              have hi6 : i = 5 := zq_leq h95 hi (by omega)
              subst hi6
              exact zq_fewer _ (zq_sub_spec (by repeat (first | exact trivial | exact rfl | refine And.intro ?_ ?_))) (L118 6 0 _ (by omega) (by omega) hw)
            · skip
              have hi2 : i < 5 := by rcases Nat.lt_or_ge i (5) with z | z; exact z; exact absurd (nI_le z (by omega)) h95
              refine gq_aload_n dz_D_copyFrom_98 rfl ?_
              refine gq_getR 15 zf_D_24 rfl rfl dz_D_copyFrom_99 ?_
              refine gq_iload_n dz_D_copyFrom_102 rfl ?_
              refine gq_aload_n dz_D_copyFrom_103 rfl ?_
              refine gq_getR 15 zf_D_24 rfl rfl dz_D_copyFrom_104 ?_
              refine gq_iload_n dz_D_copyFrom_107 rfl ?_
              refine gw_iald (i) (rfl) rfl (rfl) (Nat.le_of_ble_eq_true rfl) (by omega) dz_D_copyFrom_108 ?_
              refine gw_iast (i) (rfl) rfl (rfl) (Nat.le_of_ble_eq_true rfl) (by omega) dz_D_copyFrom_109 ?_
              refine gw_iinc 2 (c := 1) dz_D_copyFrom_110 rfl rfl (Nat.le_of_ble_eq_true rfl) rfl ?_
              dsimp only [List.set]
              refine gq_goto (tgt := 93) dz_D_copyFrom_113 rfl ?_
              simp only [nI_1]
              have w0 := zd_w.up hw (t := 15) (k := i) (by omega) (by omega) (by simp [zd_N]) (hw.eq hde 15 i)
              exact zq_fewer _ (zq_sub_spec (by repeat (first | exact trivial | exact rfl | refine And.intro ?_ ?_))) (ih93 (i + 1) _ (by omega) (by omega) (w0.mono (zd_all (by simp [zd_N]))))
        have hi6 : i = 6 := zq_leq h34 hi (by omega)
        subst hi6
        exact zq_fewer _ (zq_sub_spec (by repeat (first | exact trivial | exact rfl | refine And.intro ?_ ?_))) (L93 6 0 _ (by omega) (by omega) hw)
      · skip
        have hi2 : i < 6 := by rcases Nat.lt_or_ge i (6) with z | z; exact z; exact absurd (nI_le z (by omega)) h34
        refine gq_aload_n dz_D_copyFrom_37 rfl ?_
        refine gq_getR 11 zf_D_9 rfl rfl dz_D_copyFrom_38 ?_
        refine gq_iload_n dz_D_copyFrom_41 rfl ?_
        refine gq_aload_n dz_D_copyFrom_42 rfl ?_
        refine gq_getR 11 zf_D_9 rfl rfl dz_D_copyFrom_43 ?_
        refine gq_iload_n dz_D_copyFrom_46 rfl ?_
        refine gw_iald (i) (rfl) rfl (rfl) (Nat.le_of_ble_eq_true rfl) (by omega) dz_D_copyFrom_47 ?_
        refine gw_iast (i) (rfl) rfl (rfl) (Nat.le_of_ble_eq_true rfl) (by omega) dz_D_copyFrom_48 ?_
        refine gq_aload_n dz_D_copyFrom_49 rfl ?_
        refine gq_getR 12 zf_D_15 rfl rfl dz_D_copyFrom_50 ?_
        refine gq_iload_n dz_D_copyFrom_53 rfl ?_
        refine gq_aload_n dz_D_copyFrom_54 rfl ?_
        refine gq_getR 12 zf_D_15 rfl rfl dz_D_copyFrom_55 ?_
        refine gq_iload_n dz_D_copyFrom_58 rfl ?_
        refine gw_iald (i) (rfl) rfl (rfl) (Nat.le_of_ble_eq_true rfl) (by omega) dz_D_copyFrom_59 ?_
        refine gw_iast (i) (rfl) rfl (rfl) (Nat.le_of_ble_eq_true rfl) (by omega) dz_D_copyFrom_60 ?_
        refine gq_aload_n dz_D_copyFrom_61 rfl ?_
        refine gq_getR 13 zf_D_18 rfl rfl dz_D_copyFrom_62 ?_
        refine gq_iload_n dz_D_copyFrom_65 rfl ?_
        refine gq_aload_n dz_D_copyFrom_66 rfl ?_
        refine gq_getR 13 zf_D_18 rfl rfl dz_D_copyFrom_67 ?_
        refine gq_iload_n dz_D_copyFrom_70 rfl ?_
        refine gw_iald (i) (rfl) rfl (rfl) (Nat.le_of_ble_eq_true rfl) (by omega) dz_D_copyFrom_71 ?_
        refine gw_iast (i) (rfl) rfl (rfl) (Nat.le_of_ble_eq_true rfl) (by omega) dz_D_copyFrom_72 ?_
        refine gq_aload_n dz_D_copyFrom_73 rfl ?_
        refine gq_getR 14 zf_D_21 rfl rfl dz_D_copyFrom_74 ?_
        refine gq_iload_n dz_D_copyFrom_77 rfl ?_
        refine gq_aload_n dz_D_copyFrom_78 rfl ?_
        refine gq_getR 14 zf_D_21 rfl rfl dz_D_copyFrom_79 ?_
        refine gq_iload_n dz_D_copyFrom_82 rfl ?_
        refine gw_iald (i) (rfl) rfl (rfl) (Nat.le_of_ble_eq_true rfl) (by omega) dz_D_copyFrom_83 ?_
        refine gw_iast (i) (rfl) rfl (rfl) (Nat.le_of_ble_eq_true rfl) (by omega) dz_D_copyFrom_84 ?_
        refine gw_iinc 2 (c := 1) dz_D_copyFrom_85 rfl rfl (Nat.le_of_ble_eq_true rfl) rfl ?_
        dsimp only [List.set]
        refine gq_goto (tgt := 31) dz_D_copyFrom_88 rfl ?_
        simp only [nI_1]
        have w0 := zd_w.up hw (t := 11) (k := i) (by omega) (by omega) (by simp [zd_N]) (hw.eq hde 11 i)
        have w1 := zd_w.up w0 (t := 12) (k := i) (by omega) (by omega) (by simp [zd_N]) (w0.eq hde 12 i)
        have w2 := zd_w.up w1 (t := 13) (k := i) (by omega) (by omega) (by simp [zd_N]) (w1.eq hde 13 i)
        have w3 := zd_w.up w2 (t := 14) (k := i) (by omega) (by omega) (by simp [zd_N]) (w2.eq hde 14 i)
        exact zq_fewer _ (zq_sub_spec (by repeat (first | exact trivial | exact rfl | refine And.intro ?_ ?_))) (ih31 (i + 1) _ (by omega) (by omega) (w3.mono (zd_all (by simp [zd_N]))))
  have z0 : zd_w d σ σ (fun t k => σ.1 t e k) (fun _ => 0) := zd_w.rf
  have w0 := zd_w.up z0 (t := 10) (k := 0) (by omega) (by omega) (by simp [zd_N]) (z0.eq hde 10 0)
  have w1 := zd_w.up w0 (t := 10) (k := 1) (by omega) (by omega) (by simp [zd_N]) (w0.eq hde 10 1)
  have w2 := zd_w.up w1 (t := 10) (k := 2) (by omega) (by omega) (by simp [zd_N]) (w1.eq hde 10 2)
  exact zq_fewer _ (zq_sub_spec (by repeat (first | exact trivial | exact rfl | refine And.intro ?_ ?_))) (L31 7 0 _ (by omega) (by omega) (w2.mono (zd_all (by simp [zd_N]))))
/-! THE SHEETS: lane (-4: nothing), size, cells -/
abbrev za_H : Type := (Nat → Int32) × (Nat → Int32) × (Nat → Nat → Int32)
def zh_rep (σ : zq_T) (B : za_H) : Prop := (∀ k, k < 4 → σ.1 7 0 k = B.1 k ∧ σ.1 8 0 k = B.2.1 k) ∧ ∀ (j : Fin 5), j.val < 4 → ∀ i, i < 40 → σ.1 6 j i = B.2.2 j.val i
def zh_wf (B : za_H) : Prop := ∀ k, k < 4 → B.1 k = -4 ∨ ((∃ l, l < 3 ∧ B.1 k = nI l) ∧ ∃ z, z ≤ 40 ∧ B.2.1 k = nI z)
def zh_in (B : za_H) (k : Nat) (i : Int32) : Bool := decide (¬ B.1 k = -4) && zb_in i (B.2.1 k).toNatClampNeg
def zh_fault (B : za_H) (k : Nat) (lane i : Int32) : Int32 := if B.1 k = -4 then 1 else if ¬ B.1 k = lane then 3 else if zh_in B k i then 0 else 2
def zh_same (σ τ : zq_T) : Prop := τ.2 = σ.2 ∧ ∀ (t : Nat) (j : Fin 5) (k : Nat), ¬ (6 ≤ t ∧ t ≤ 8) → τ.1 t j k = σ.1 t j k
theorem zh_same.rf {σ : zq_T} : zh_same σ σ := ⟨rfl, fun _ _ _ _ => rfl⟩
theorem zh_same.up {σ τ : zq_T} (h : zh_same σ τ) {t k : Nat} {j : Fin 5} {v : Int32} (h1 : 6 ≤ t) (h2 : t ≤ 8) : zh_same σ (zq_up τ.1 t j k v, τ.2) :=
  ⟨h.1, fun t' j' k' q => by
    show zq_up τ.1 t j k v t' j' k' = σ.1 t' j' k'
    rw [← h.2 t' j' k' q]
    exact if_neg fun z => q ⟨by omega, by omega⟩⟩
theorem zq_vd6 {j : Fin 5} {k : Nat} (h : j.val = (nI k).toNatClampNeg) (hk : k < 4) : zq_vd 6 j = true := by
  have : j.val = k := h.trans (nI_clamp (by omega))
  unfold zq_vd
  simp [Nat.blt_eq, show j.val < 4 by omega]
theorem zq_jr {j : Fin 5} {k : Nat} (h : j.val = (nI k).toNatClampNeg) (hk : k < 4) : j.val = k := h.trans (nI_clamp (by omega))
def zh_put (B : za_H) (k i : Nat) (v : Int32) : za_H := (B.1, B.2.1, fun k' i' => if k' = k ∧ i' = i then v else B.2.2 k' i')
theorem zh_rep.put {σ : zq_T} {B : za_H} (h : zh_rep σ B) {j : Fin 5} {k i : Nat} {v : Int32} (hj : j.val = k) : zh_rep (zq_up σ.1 6 j i v, σ.2) (zh_put B k i v) := by
  refine ⟨h.1, fun j' hj' i' hi' => ?_⟩
  show zq_up σ.1 6 j i v 6 j' i' = if j'.val = k ∧ i' = i then v else B.2.2 j'.val i'
  unfold zq_up
  by_cases e : j'.val = k ∧ i' = i
  · rw [if_pos e, if_pos ⟨rfl, Fin.ext (e.1.trans hj.symm), e.2⟩]
  · rw [if_neg e, if_neg (fun q => e ⟨by rw [q.2.1]; exact hj, q.2.2⟩)]
    exact h.2 j' hj' i' hi'
def zh_nar (l v : Int32) : Int32 := if l = 0 then v.toInt8.toInt32 else if l = 1 then v.toInt16.toInt32 else v
def zh_new (B : za_H) (k : Nat) (l n : Int32) : za_H := (upd B.1 k l, upd B.2.1 k n, fun k' i' => if k' = k then 0 else B.2.2 k' i')
theorem zb_in3 {x : Int32} (h : 2 < x) : zb_in x 3 = false := zb_in_ge (n := 3) (by rw [Int32.le_iff_toInt_le]; rw [Int32.lt_iff_toInt_lt] at h; have : (nI 3).toInt = 3 := rfl; have : (2 : Int32).toInt = 2 := rfl; omega)
theorem zb_in3b {x : Int32} (h : ¬ x < 0) (h2 : ¬ 2 < x) : zb_in x 3 = true := zb_in_of h (by rw [Int32.le_iff_toInt_le]; rw [Int32.lt_iff_toInt_lt] at h2; have : (nI 3).toInt = 3 := rfl; have : (2 : Int32).toInt = 2 := rfl; omega)
theorem zh_in_no {B : za_H} {k : Nat} {i : Int32} (hW : zh_wf B) (hk : k < 4) (h : (if B.1 k = -4 then -4 else B.2.1 k) ≤ i) : zh_in B k i = false := by
  unfold zh_in
  by_cases c : B.1 k = -4
  · rw [decide_eq_false (fun q => q c)]; rfl
  · rw [if_neg c] at h
    obtain ⟨z, hz, e⟩ := ((hW k hk).resolve_left c).2
    rw [e, nI_clamp (by omega)]
    rw [e] at h
    rw [zb_in_ge h, Bool.and_false]
theorem zh_in_40 {B : za_H} {k : Nat} {i : Int32} (hW : zh_wf B) (hk : k < 4) (h : 40 ≤ i) : zh_in B k i = false := by
  unfold zh_in
  by_cases c : B.1 k = -4
  · rw [decide_eq_false (fun q => q c)]; rfl
  · obtain ⟨z, hz, e⟩ := ((hW k hk).resolve_left c).2
    rw [e, nI_clamp (by omega), zb_in_ge, Bool.and_false]
    have h1 : nI z ≤ nI 40 := nI_le hz (by omega)
    rw [Int32.le_iff_toInt_le] at *
    have : (40 : Int32).toInt = (nI 40).toInt := rfl
    omega
theorem zh_in_ye {B : za_H} {k : Nat} {i : Int32} (hW : zh_wf B) (hk : k < 4) (h0 : ¬ i < 0) (h : ¬ (if B.1 k = -4 then -4 else B.2.1 k) ≤ i) : zh_in B k i = true := by
  unfold zh_in
  by_cases c : B.1 k = -4
  · rw [if_pos c] at h
    exact absurd (by rw [Int32.le_iff_toInt_le]; rw [Int32.lt_iff_toInt_lt] at h0; have : (-4 : Int32).toInt = -4 := rfl; have : (0 : Int32).toInt = 0 := rfl; omega) h
  · rw [if_neg c] at h
    obtain ⟨z, hz, e⟩ := ((hW k hk).resolve_left c).2
    rw [e, nI_clamp (by omega)]
    rw [e] at h
    rw [zb_in_of h0 h, decide_eq_true c]; rfl
theorem zh_in_ex {B : za_H} {k : Nat} {i : Int32} (hW : zh_wf B) (hk : k < 4) (h : zh_in B k i = true) : ∃ q, q < 40 ∧ i = nI q := by
  unfold zh_in at h
  rw [Bool.and_eq_true] at h
  have c := of_decide_eq_true h.1
  obtain ⟨z, hz, e⟩ := ((hW k hk).resolve_left c).2
  have h2 := h.2
  rw [e, nI_clamp (by omega)] at h2
  obtain ⟨q, h3, h4⟩ := (zb_in_iff (by omega)).mp h2
  exact ⟨q, by omega, h4⟩
set_option maxHeartbeats 4000000 in
theorem sp_H_isSheet {σ : zq_T} (x : Int32) : zq_Sp zm_H_isSheet 0 [zq_O 4 0, zq_I x] σ (zq_rv (zq_I (zb_v (zb_in x 4))) σ) := by
  refine zq_sp [some (zq_O 4 0), some (zq_I x)] (by decide +kernel) rfl (Nat.le_of_ble_eq_true rfl) (fun ν => ?_)
  refine gq_iload_n dz_H_isSheet_0 rfl ?_
  refine gq_if_lt (tgt := 13) dz_H_isSheet_1 rfl (fun h1 => ?_) (fun h1 => ?_)
  · skip
    refine gq_iconst (v := 0) dz_H_isSheet_13 rfl ?_
    refine gw_iret .boolean dz_H_isSheet_14 rfl (by first | rfl | exact zb_nar _) ?_ ?_
    · rw [zb_in_lt h1]; rfl
    · rfl
  · skip
    refine gq_iload_n dz_H_isSheet_4 rfl ?_
    refine gq_iconst (v := 4) dz_H_isSheet_5 rfl ?_
    refine gq_icmp_ge (tgt := 13) dz_H_isSheet_6 rfl (fun h6 => ?_) (fun h6 => ?_)
    · skip
      refine gq_iconst (v := 0) dz_H_isSheet_13 rfl ?_
      refine gw_iret .boolean dz_H_isSheet_14 rfl (by first | rfl | exact zb_nar _) ?_ ?_
      · rw [zb_in_ge (n := 4) h6]; rfl
      · rfl
    · skip
      refine gq_iconst (v := 1) dz_H_isSheet_9 rfl ?_
      refine gq_goto (tgt := 14) dz_H_isSheet_10 rfl ?_
      refine gw_iret .boolean dz_H_isSheet_14 rfl (by first | rfl | exact zb_nar _) ?_ ?_
      · rw [zb_in_of (n := 4) h1 h6]; rfl
      · rfl
set_option maxHeartbeats 4000000 in
theorem sp_H_isLane {σ : zq_T} (x : Int32) : zq_Sp zm_H_isLane 0 [zq_O 4 0, zq_I x] σ (zq_rv (zq_I (zb_v (zb_in x 3))) σ) := by
  refine zq_sp [some (zq_O 4 0), some (zq_I x)] (by decide +kernel) rfl (Nat.le_of_ble_eq_true rfl) (fun ν => ?_)
  refine gq_iload_n dz_H_isLane_0 rfl ?_
  refine gq_if_lt (tgt := 13) dz_H_isLane_1 rfl (fun h1 => ?_) (fun h1 => ?_)
  · skip
    refine gq_iconst (v := 0) dz_H_isLane_13 rfl ?_
    refine gw_iret .boolean dz_H_isLane_14 rfl (by first | rfl | exact zb_nar _) ?_ ?_
    · rw [zb_in_lt h1]; rfl
    · rfl
  · skip
    refine gq_iload_n dz_H_isLane_4 rfl ?_
    refine gq_iconst (v := 2) dz_H_isLane_5 rfl ?_
    refine gq_icmp_gt (tgt := 13) dz_H_isLane_6 rfl (fun h6 => ?_) (fun h6 => ?_)
    · skip
      refine gq_iconst (v := 0) dz_H_isLane_13 rfl ?_
      refine gw_iret .boolean dz_H_isLane_14 rfl (by first | rfl | exact zb_nar _) ?_ ?_
      · rw [zb_in3 h6]; rfl
      · rfl
    · skip
      refine gq_iconst (v := 1) dz_H_isLane_9 rfl ?_
      refine gq_goto (tgt := 14) dz_H_isLane_10 rfl ?_
      refine gw_iret .boolean dz_H_isLane_14 rfl (by first | rfl | exact zb_nar _) ?_ ?_
      · rw [zb_in3b h1 h6]; rfl
      · rfl
set_option maxHeartbeats 4000000 in
theorem sp_H_laneOf {σ : zq_T} {B : za_H} (hB : zh_rep σ B) {k : Nat} (hk : k < 4) : zq_Sp zm_H_laneOf 1 [zq_O 4 0, zq_I (nI k)] σ (zq_rv (zq_I (B.1 k)) σ) := by
  have hin := zb_in_nI hk (by omega)
  refine zq_sp [some (zq_O 4 0), some (zq_I (nI k))] (by decide +kernel) rfl (Nat.le_of_ble_eq_true rfl) (fun ν => ?_)
  refine gq_aload_n dz_H_laneOf_0 rfl ?_
  refine gq_iload_n dz_H_laneOf_1 rfl ?_
  refine gq_cV (sp_H_isSheet _) zw_H_isSheet zl_H_23 dz_H_laneOf_2 rfl rfl rfl (by decide) rfl rfl (Nat.le_of_ble_eq_true rfl) ?_
  refine gw_ifb_eq (tgt := 17) dz_H_laneOf_5 rfl (fun h5 => ?_) (fun h5 => ?_)
  · skip
    rw [hin] at h5; cases h5
  · skip
    refine gq_aload_n dz_H_laneOf_8 rfl ?_
    refine gq_getR 7 zf_H_16 rfl rfl dz_H_laneOf_9 ?_
    refine gq_iload_n dz_H_laneOf_12 rfl ?_
    refine gw_iald (k) (rfl) rfl (rfl) (Nat.le_of_ble_eq_true rfl) (by omega) dz_H_laneOf_13 ?_
    rw [(hB.1 k hk).1]
    refine gq_goto (tgt := 19) dz_H_laneOf_14 rfl ?_
    refine gw_iret .int dz_H_laneOf_19 rfl (by first | rfl | exact zb_nar _) ?_ ?_
    · rfl
    · rfl
set_option maxHeartbeats 4000000 in
theorem sp_H_sizeOf {σ : zq_T} {B : za_H} (hB : zh_rep σ B) {k : Nat} (hk : k < 4) : zq_Sp zm_H_sizeOf 2 [zq_O 4 0, zq_I (nI k)] σ (zq_rv (zq_I (if B.1 k = -4 then -4 else B.2.1 k)) σ) := by
  refine zq_sp [some (zq_O 4 0), some (zq_I (nI k))] (by decide +kernel) rfl (Nat.le_of_ble_eq_true rfl) (fun ν => ?_)
  refine gq_aload_n dz_H_sizeOf_0 rfl ?_
  refine gq_iload_n dz_H_sizeOf_1 rfl ?_
  refine gq_cV (sp_H_laneOf hB hk) zw_H_laneOf zl_H_27 dz_H_sizeOf_2 rfl rfl rfl (by decide) rfl rfl (Nat.le_of_ble_eq_true rfl) ?_
  refine gq_bipush (v := -4) dz_H_sizeOf_5 rfl ?_
  refine gq_icmp_ne (tgt := 15) dz_H_sizeOf_7 rfl (fun h7 => ?_) (fun h7 => ?_)
  · skip
    refine gq_aload_n dz_H_sizeOf_15 rfl ?_
    refine gq_getR 8 zf_H_20 rfl rfl dz_H_sizeOf_16 ?_
    refine gq_iload_n dz_H_sizeOf_19 rfl ?_
    refine gw_iald (k) (rfl) rfl (rfl) (Nat.le_of_ble_eq_true rfl) (by omega) dz_H_sizeOf_20 ?_
    rw [(hB.1 k hk).2]
    refine gw_iret .int dz_H_sizeOf_21 rfl (by first | rfl | exact zb_nar _) ?_ ?_
    · rw [if_neg h7]
    · rfl
  · skip
    refine gq_bipush (v := -4) dz_H_sizeOf_10 rfl ?_
    refine gq_goto (tgt := 21) dz_H_sizeOf_12 rfl ?_
    refine gw_iret .int dz_H_sizeOf_21 rfl (by first | rfl | exact zb_nar _) ?_ ?_
    · rw [if_pos h7]
    · rfl
set_option maxHeartbeats 4000000 in
theorem sp_H_isCell {σ : zq_T} {B : za_H} (hB : zh_rep σ B) (hW : zh_wf B) {k : Nat} (hk : k < 4) (i : Int32) : zq_Sp zm_H_isCell 3 [zq_O 4 0, zq_I (nI k), zq_I i] σ (zq_rv (zq_I (zb_v (zh_in B k i))) σ) := by
  refine zq_sp [some (zq_O 4 0), some (zq_I (nI k)), some (zq_I i)] (by decide +kernel) rfl (Nat.le_of_ble_eq_true rfl) (fun ν => ?_)
  refine gq_iload_n dz_H_isCell_0 rfl ?_
  refine gq_if_lt (tgt := 23) dz_H_isCell_1 rfl (fun h1 => ?_) (fun h1 => ?_)
  · skip
    refine gq_iconst (v := 0) dz_H_isCell_23 rfl ?_
    refine gw_iret .boolean dz_H_isCell_24 rfl (by first | rfl | exact zb_nar _) ?_ ?_
    · rw [zh_in, zb_in_lt h1, Bool.and_false]; rfl
    · rfl
  · skip
    refine gq_iload_n dz_H_isCell_4 rfl ?_
    refine gq_aload_n dz_H_isCell_5 rfl ?_
    refine gq_iload_n dz_H_isCell_6 rfl ?_
    refine gq_cV (sp_H_sizeOf hB hk) zw_H_sizeOf zl_H_35 dz_H_isCell_7 rfl rfl rfl (by decide) rfl rfl (Nat.le_of_ble_eq_true rfl) ?_
    refine gq_icmp_ge (tgt := 23) dz_H_isCell_10 rfl (fun h10 => ?_) (fun h10 => ?_)
    · skip
      refine gq_iconst (v := 0) dz_H_isCell_23 rfl ?_
      refine gw_iret .boolean dz_H_isCell_24 rfl (by first | rfl | exact zb_nar _) ?_ ?_
      · rw [zh_in_no hW hk h10]; rfl
      · rfl
    · skip
      refine gq_iload_n dz_H_isCell_13 rfl ?_
      refine gq_bipush (v := 40) dz_H_isCell_14 rfl ?_
      refine gq_icmp_ge (tgt := 23) dz_H_isCell_16 rfl (fun h16 => ?_) (fun h16 => ?_)
      · skip
        refine gq_iconst (v := 0) dz_H_isCell_23 rfl ?_
        refine gw_iret .boolean dz_H_isCell_24 rfl (by first | rfl | exact zb_nar _) ?_ ?_
        · rw [zh_in_40 hW hk h16]; rfl
        · rfl
      · skip
        refine gq_iconst (v := 1) dz_H_isCell_19 rfl ?_
        refine gq_goto (tgt := 24) dz_H_isCell_20 rfl ?_
        refine gw_iret .boolean dz_H_isCell_24 rfl (by first | rfl | exact zb_nar _) ?_ ?_
        · rw [zh_in_ye hW hk h1 h10]; rfl
        · rfl
set_option maxHeartbeats 4000000 in
theorem sp_H_faultAt {σ : zq_T} {B : za_H} (hB : zh_rep σ B) (hW : zh_wf B) {k : Nat} (hk : k < 4) (lane i : Int32) : zq_Sp zm_H_faultAt 4 [zq_O 4 0, zq_I (nI k), zq_I lane, zq_I i] σ (zq_rv (zq_I (zh_fault B k lane i)) σ) := by
  refine zq_sp [some (zq_O 4 0), some (zq_I (nI k)), some (zq_I lane), some (zq_I i)] (by decide +kernel) rfl (Nat.le_of_ble_eq_true rfl) (fun ν => ?_)
  refine gq_aload_n dz_H_faultAt_0 rfl ?_
  refine gq_iload_n dz_H_faultAt_1 rfl ?_
  refine gq_cV (sp_H_laneOf hB hk) zw_H_laneOf zl_H_27 dz_H_faultAt_2 rfl rfl rfl (by decide) rfl rfl (Nat.le_of_ble_eq_true rfl) ?_
  refine gq_bipush (v := -4) dz_H_faultAt_5 rfl ?_
  refine gq_icmp_ne (tgt := 12) dz_H_faultAt_7 rfl (fun h7 => ?_) (fun h7 => ?_)
  · skip
    refine gq_aload_n dz_H_faultAt_12 rfl ?_
    refine gq_iload_n dz_H_faultAt_13 rfl ?_
    refine gq_cV (sp_H_laneOf hB hk) zw_H_laneOf zl_H_27 dz_H_faultAt_14 rfl rfl rfl (by decide) rfl rfl (Nat.le_of_ble_eq_true rfl) ?_
    refine gq_iload_n dz_H_faultAt_17 rfl ?_
    refine gq_icmp_eq (tgt := 23) dz_H_faultAt_18 rfl (fun h18 => ?_) (fun h18 => ?_)
    · skip
      refine gq_aload_n dz_H_faultAt_23 rfl ?_
      refine gq_iload_n dz_H_faultAt_24 rfl ?_
      refine gq_iload_n dz_H_faultAt_25 rfl ?_
      refine gq_cV (sp_H_isCell hB hW hk _) zw_H_isCell zl_H_31 dz_H_faultAt_26 rfl rfl rfl (by decide) rfl rfl (Nat.le_of_ble_eq_true rfl) ?_
      refine gw_ifb_eq (tgt := 36) dz_H_faultAt_29 rfl (fun h29 => ?_) (fun h29 => ?_)
      · skip
        refine gq_iconst (v := 2) dz_H_faultAt_36 rfl ?_
        refine gw_iret .int dz_H_faultAt_37 rfl (by first | rfl | exact zb_nar _) ?_ ?_
        · rw [zh_fault, if_neg h7, if_neg (fun q => q h18), h29]; rfl
        · rfl
      · skip
        refine gq_iconst (v := 0) dz_H_faultAt_32 rfl ?_
        refine gq_goto (tgt := 37) dz_H_faultAt_33 rfl ?_
        refine gw_iret .int dz_H_faultAt_37 rfl (by first | rfl | exact zb_nar _) ?_ ?_
        · rw [zh_fault, if_neg h7, if_neg (fun q => q h18), h29]; rfl
        · rfl
    · skip
      refine gq_iconst (v := 3) dz_H_faultAt_21 rfl ?_
      refine gw_iret .int dz_H_faultAt_22 rfl (by first | rfl | exact zb_nar _) ?_ ?_
      · rw [zh_fault, if_neg h7, if_pos h18]
      · rfl
  · skip
    refine gq_iconst (v := 1) dz_H_faultAt_10 rfl ?_
    refine gw_iret .int dz_H_faultAt_11 rfl (by first | rfl | exact zb_nar _) ?_ ?_
    · rw [zh_fault, if_pos h7]
    · rfl
set_option maxHeartbeats 4000000 in
theorem sp_H_cell {σ : zq_T} {B : za_H} (hB : zh_rep σ B) (hW : zh_wf B) {k : Nat} (hk : k < 4) {i : Nat} (hi : zh_in B k (nI i) = true) (hi4 : i < 40) : zq_Sp zm_H_cell 4 [zq_O 4 0, zq_I (nI k), zq_I (nI i)] σ (zq_rv (zq_I (B.2.2 k i)) σ) := by
  refine zq_sp [some (zq_O 4 0), some (zq_I (nI k)), some (zq_I (nI i))] (by decide +kernel) rfl (Nat.le_of_ble_eq_true rfl) (fun ν => ?_)
  refine gq_aload_n dz_H_cell_0 rfl ?_
  refine gq_iload_n dz_H_cell_1 rfl ?_
  refine gq_iload_n dz_H_cell_2 rfl ?_
  refine gq_cV (sp_H_isCell hB hW hk _) zw_H_isCell zl_H_31 dz_H_cell_3 rfl rfl rfl (by decide) rfl rfl (Nat.le_of_ble_eq_true rfl) ?_
  refine gw_ifb_eq (tgt := 20) dz_H_cell_6 rfl (fun h6 => ?_) (fun h6 => ?_)
  · skip
    rw [hi] at h6; cases h6
  · skip
    refine gq_aload_n dz_H_cell_9 rfl ?_
    refine gq_getR 5 zf_H_13 rfl rfl dz_H_cell_10 ?_
    refine gq_iload_n dz_H_cell_13 rfl ?_
    refine gq_aald (vp_in_nI hk (by omega)) dz_H_cell_14 (fun jr14 hjr14 => ?_)
    refine gq_iload_n dz_H_cell_15 rfl ?_
    refine gw_iald (i) (rfl) rfl (zq_vd6 hjr14 hk) (Nat.le_of_ble_eq_true rfl) (hi4) dz_H_cell_16 ?_
    refine gq_goto (tgt := 21) dz_H_cell_17 rfl ?_
    refine gw_iret .int dz_H_cell_21 rfl (by first | rfl | exact zb_nar _) ?_ ?_
    · rw [hB.2 jr14 (by rw [zq_jr hjr14 hk]; exact hk) i hi4, zq_jr hjr14 hk]
    · rfl
set_option maxHeartbeats 4000000 in
theorem sp_H_put {σ : zq_T} {B : za_H} (hB : zh_rep σ B) (hW : zh_wf B) {k : Nat} (hk : k < 4) {i : Nat} (hi : zh_in B k (nI i) = true) (hi4 : i < 40) (v : Int32) : zq_Sp zm_H_put 4 [zq_O 4 0, zq_I (nI k), zq_I (nI i), zq_I v] σ (zq_rx (fun τ => zh_rep τ (zh_put B k i (zh_nar (B.1 k) v)) ∧ zh_same σ τ)) := by
  refine zq_sp [some (zq_O 4 0), some (zq_I (nI k)), some (zq_I (nI i)), some (zq_I v)] (by decide +kernel) rfl (Nat.le_of_ble_eq_true rfl) (fun ν => ?_)
  refine gq_aload_n dz_H_put_0 rfl ?_
  refine gq_iload_n dz_H_put_1 rfl ?_
  refine gq_iload_n dz_H_put_2 rfl ?_
  refine gq_cV (sp_H_isCell hB hW hk _) zw_H_isCell zl_H_31 dz_H_put_3 rfl rfl rfl (by decide) rfl rfl (Nat.le_of_ble_eq_true rfl) ?_
  refine gw_ifb_ne (tgt := 10) dz_H_put_6 rfl (fun h6 => ?_) (fun h6 => ?_)
  · skip
    refine gq_aload_n dz_H_put_10 rfl ?_
    refine gq_iload_n dz_H_put_11 rfl ?_
    refine gq_cV (sp_H_laneOf hB hk) zw_H_laneOf zl_H_27 dz_H_put_12 rfl rfl rfl (by decide) rfl rfl (Nat.le_of_ble_eq_true rfl) ?_
    by_cases hs15_0 : B.1 k = 0
    · rw [hs15_0]
      refine gq_lsw (off := 25) (tgt := 40) dz_H_put_15 rfl rfl rfl ?_
      refine gq_aload_n dz_H_put_40 rfl ?_
      refine gq_getR 5 zf_H_13 rfl rfl dz_H_put_41 ?_
      refine gq_iload_n dz_H_put_44 rfl ?_
      refine gq_aald (vp_in_nI hk (by omega)) dz_H_put_45 (fun jr45 hjr45 => ?_)
      refine gq_iload_n dz_H_put_46 rfl ?_
      refine gq_iload_n dz_H_put_47 rfl ?_
      refine gq_i2b dz_H_put_48 ?_
      refine gw_iast (i) (rfl) rfl (zq_vd6 hjr45 hk) (Nat.le_of_ble_eq_true rfl) (hi4) dz_H_put_49 ?_
      refine gq_goto (tgt := 75) dz_H_put_50 rfl ?_
      refine gw_vretP dz_H_put_75 rfl ?_
      · rw [zh_nar, if_pos rfl]; exact ⟨hB.put (zq_jr hjr45 hk), zh_same.rf.up (by omega) (by omega)⟩
    · skip
      by_cases hs15_1 : B.1 k = 1
      · rw [hs15_1]
        refine gq_lsw (off := 38) (tgt := 53) dz_H_put_15 rfl rfl rfl ?_
        refine gq_aload_n dz_H_put_53 rfl ?_
        refine gq_getR 5 zf_H_13 rfl rfl dz_H_put_54 ?_
        refine gq_iload_n dz_H_put_57 rfl ?_
        refine gq_aald (vp_in_nI hk (by omega)) dz_H_put_58 (fun jr58 hjr58 => ?_)
        refine gq_iload_n dz_H_put_59 rfl ?_
        refine gq_iload_n dz_H_put_60 rfl ?_
        refine gq_i2s dz_H_put_61 ?_
        refine gw_iast (i) (rfl) rfl (zq_vd6 hjr58 hk) (Nat.le_of_ble_eq_true rfl) (hi4) dz_H_put_62 ?_
        refine gq_goto (tgt := 75) dz_H_put_63 rfl ?_
        refine gw_vretP dz_H_put_75 rfl ?_
        · rw [zh_nar, if_neg (by decide), if_pos rfl]; exact ⟨hB.put (zq_jr hjr58 hk), zh_same.rf.up (by omega) (by omega)⟩
      · skip
        refine gq_lsw (off := 51) (tgt := 66) dz_H_put_15 rfl (by show Op.lookupswitch.offset [(0, 25), (1, 38)] 51 _ = 51; rw [lv_osw (a := 0) (o := 25) hs15_0 rfl]; rw [lv_osw (a := 1) (o := 38) hs15_1 rfl]; rfl) rfl ?_
        refine gq_aload_n dz_H_put_66 rfl ?_
        refine gq_getR 5 zf_H_13 rfl rfl dz_H_put_67 ?_
        refine gq_iload_n dz_H_put_70 rfl ?_
        refine gq_aald (vp_in_nI hk (by omega)) dz_H_put_71 (fun jr71 hjr71 => ?_)
        refine gq_iload_n dz_H_put_72 rfl ?_
        refine gq_iload_n dz_H_put_73 rfl ?_
        refine gw_iast (i) (rfl) rfl (zq_vd6 hjr71 hk) (Nat.le_of_ble_eq_true rfl) (hi4) dz_H_put_74 ?_
        refine gw_vretP dz_H_put_75 rfl ?_
        · rw [zh_nar, if_neg hs15_0, if_neg hs15_1]; exact ⟨hB.put (zq_jr hjr71 hk), zh_same.rf.up (by omega) (by omega)⟩
  · skip
    rw [hi] at h6; cases h6
theorem zh_ren0 {σ : zq_T} {B : za_H} (hB : zh_rep σ B) {k : Nat} (l n : Int32) : ∀ q, q < 4 → (zq_up (zq_up σ.1 7 0 k l) 8 0 k n) 7 0 q = upd B.1 k l q ∧ (zq_up (zq_up σ.1 7 0 k l) 8 0 k n) 8 0 q = upd B.2.1 k n q := by
  intro q hq
  unfold zq_up upd
  by_cases e : q = k
  · simp [e]
  · simp [e, hB.1 q hq]
theorem zh_ren1 {τ : zq_T} {B : za_H} {k i : Nat} {jr : Fin 5} (hj : jr.val = k) (h8 : ∀ (j : Fin 5), j.val < 4 → ∀ q, q < 40 → τ.1 6 j q = if j.val = k ∧ q < i then 0 else B.2.2 j.val q) : ∀ (j : Fin 5), j.val < 4 → ∀ q, q < 40 → (zq_up τ.1 6 jr i 0) 6 j q = if j.val = k ∧ q < i + 1 then 0 else B.2.2 j.val q := by
  intro j hj4 q hq
  unfold zq_up
  by_cases e : j = jr ∧ q = i
  · rw [if_pos ⟨rfl, e⟩, if_pos ⟨by rw [e.1]; exact hj, by omega⟩]
  · rw [if_neg (fun z => e z.2), h8 j hj4 q hq]
    by_cases c : j.val = k ∧ q < i
    · rw [if_pos c, if_pos ⟨c.1, by omega⟩]
    · rw [if_neg c, if_neg]
      rintro ⟨c1, c2⟩
      exact e ⟨Fin.ext (c1.trans hj.symm), by rcases Nat.lt_or_ge q i with z | z; exact absurd ⟨c1, z⟩ c; omega⟩
set_option maxHeartbeats 4000000 in
theorem sp_H_renew {σ : zq_T} {B : za_H} (hB : zh_rep σ B) {k : Nat} (hk : k < 4) (l n : Int32) : zq_Sp zm_H_renew 1 [zq_O 4 0, zq_I (nI k), zq_I l, zq_I n] σ (zq_rx (fun τ => zh_rep τ (zh_new B k l n) ∧ zh_same σ τ)) := by
  have hin := zb_in_nI hk (by omega)
  refine zq_sp [some (zq_O 4 0), some (zq_I (nI k)), some (zq_I l), some (zq_I n), none] (by decide +kernel) rfl (Nat.le_of_ble_eq_true rfl) (fun ν => ?_)
  refine gq_aload_n dz_H_renew_0 rfl ?_
  refine gq_iload_n dz_H_renew_1 rfl ?_
  refine gq_cV (sp_H_isSheet _) zw_H_isSheet zl_H_23 dz_H_renew_2 rfl rfl rfl (by decide) rfl rfl (Nat.le_of_ble_eq_true rfl) ?_
  refine gw_ifb_ne (tgt := 9) dz_H_renew_5 rfl (fun h5 => ?_) (fun h5 => ?_)
  · skip
    refine gq_aload_n dz_H_renew_9 rfl ?_
    refine gq_getR 7 zf_H_16 rfl rfl dz_H_renew_10 ?_
    refine gq_iload_n dz_H_renew_13 rfl ?_
    refine gq_iload_n dz_H_renew_14 rfl ?_
    refine gw_iast (k) (rfl) rfl (rfl) (Nat.le_of_ble_eq_true rfl) (by omega) dz_H_renew_15 ?_
    refine gq_aload_n dz_H_renew_16 rfl ?_
    refine gq_getR 8 zf_H_20 rfl rfl dz_H_renew_17 ?_
    refine gq_iload_n dz_H_renew_20 rfl ?_
    refine gq_iload_n dz_H_renew_21 rfl ?_
    refine gw_iast (k) (rfl) rfl (rfl) (Nat.le_of_ble_eq_true rfl) (by omega) dz_H_renew_22 ?_
    refine gq_iconst (v := 0) dz_H_renew_23 rfl ?_
    refine gw_istore 4 dz_H_renew_24 (Nat.le_of_ble_eq_true rfl) rfl ?_
    dsimp only [List.set]
    have L26 : ∀ (kf : Nat) (i : Nat) (τ : zq_T) (hkf : 40 - i < kf) (hi : i ≤ 40) (hs : zh_same σ τ) (h7 : ∀ q, q < 4 → τ.1 7 0 q = upd B.1 k l q ∧ τ.1 8 0 q = upd B.2.1 k n q) (h8 : ∀ (j : Fin 5), j.val < 4 → ∀ q, q < 40 → τ.1 6 j q = if j.val = k ∧ q < i then 0 else B.2.2 j.val q), zq_G ν zm_H_renew 1 (zq_rx (fun τ => zh_rep τ (zh_new B k l n) ∧ zh_same σ τ)) 26 [some (zq_O 4 0), some (zq_I (nI k)), some (zq_I l), some (zq_I n), some (zq_I (nI i))] [] τ := by
      intro kf
      induction kf with
      | zero => intro i τ hkf hi hs h7 h8; exact absurd hkf (Nat.not_lt_zero _)
      | succ kf ih26 =>
        intro i τ hkf hi hs h7 h8
        refine gq_iload dz_H_renew_26 rfl ?_
        refine gq_bipush (v := 40) dz_H_renew_28 rfl ?_
        refine gq_icmp_ge (tgt := 49) dz_H_renew_30 rfl (fun h30 => ?_) (fun h30 => ?_)
        · skip
          have hi40 : i = 40 := zq_leq h30 hi (by omega)
          subst hi40
          refine gw_vretP dz_H_renew_49 rfl ?_
          · exact ⟨⟨h7, fun j hj i hi => by rw [h8 j hj i hi]; show _ = if j.val = k then 0 else B.2.2 j.val i; by_cases c : j.val = k; rw [if_pos c, if_pos ⟨c, hi⟩]; rw [if_neg c, if_neg (fun z => c z.1)]⟩, hs⟩
        · skip
          have hi2 : i < 40 := by rcases Nat.lt_or_ge i (40) with z | z; exact z; exact absurd (nI_le z (by omega)) h30
          refine gq_aload_n dz_H_renew_33 rfl ?_
          refine gq_getR 5 zf_H_13 rfl rfl dz_H_renew_34 ?_
          refine gq_iload_n dz_H_renew_37 rfl ?_
          refine gq_aald (vp_in_nI hk (by omega)) dz_H_renew_38 (fun jr38 hjr38 => ?_)
          refine gq_iload dz_H_renew_39 rfl ?_
          refine gq_iconst (v := 0) dz_H_renew_41 rfl ?_
          refine gw_iast (i) (rfl) rfl (zq_vd6 hjr38 hk) (Nat.le_of_ble_eq_true rfl) (hi2) dz_H_renew_42 ?_
          refine gw_iinc 4 (c := 1) dz_H_renew_43 rfl rfl (Nat.le_of_ble_eq_true rfl) rfl ?_
          dsimp only [List.set]
          refine gq_goto (tgt := 26) dz_H_renew_46 rfl ?_
          simp only [nI_1]
          exact zq_fewer _ (zq_sub_spec (by repeat (first | exact trivial | exact rfl | refine And.intro ?_ ?_))) (ih26 (i + 1) _ (by omega) (by omega) (hs.up (by omega) (by omega)) (fun q hq => h7 q hq) (zh_ren1 (zq_jr hjr38 hk) h8))
    exact zq_fewer _ (zq_sub_spec (by repeat (first | exact trivial | exact rfl | refine And.intro ?_ ?_))) (L26 41 0 _ (by omega) (by omega) ((zh_same.rf.up (by omega) (by omega)).up (by omega) (by omega)) (zh_ren0 hB l n) (fun j hj q hq => by rw [if_neg (by omega)]; exact hB.2 j hj q hq))
  · skip
    rw [hin] at h5; cases h5
