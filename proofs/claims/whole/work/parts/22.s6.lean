/-- seen in a case -/
def zs_sn (X : za_X) (a : Nat) : Bool := zf_all (fun i => decide (zs_own X.1 ((zx_s X).2.1 i) (nI a) 31 = (zx_s X).2.2 i)) (zx_s X).1
def zs_lstf (X : za_X) (a : Nat) (x : Int32) : Int32 := if zs_sn X a then (if x = -4 then nI a else x) else x
def zs_giaf (X : za_X) (a : Nat) (x : Int32) : Int32 := if zs_sn X a then x &&& nI a else x
def zs_gisf (X : za_X) (a : Nat) (x : Int32) : Int32 := if zs_sn X a then x ||| nI a else x
def zx_fits (X : za_X) (w : Int32) : Int32 := if zx_3 w 3 = false then -1 else if w = 0 then nI (zf_ct (zs_sn X) (za_N X.1)) else if zf_ct (zs_sn X) (za_N X.1) = 0 then -4 else if w = 1 then zf_fo (zs_lstf X) (-4) (za_N X.1) else if w = 2 then zf_fo (zs_giaf X) (nI (za_N X.1) - 1) (za_N X.1) else (nI (za_N X.1) - 1) &&& (zf_fo (zs_gisf X) 0 (za_N X.1) ^^^ -1)
theorem zf_ct_le (P : Nat → Bool) : ∀ n, zf_ct P n ≤ n
  | 0 => Nat.le_refl 0
  | n + 1 => by have := zf_ct_le P n; unfold zf_ct; split <;> omega
/-- all rules with one pick -/
def za_allp (A : za_D) (v : Int32) : za_D := za_sp A (fun _ => v)
def zx_turn (A : za_D) (v t : Int32) : Int32 := if zb_in v 3 && zb_in t 4 then zs_own (za_allp A v) t (za_g A) 31 else -1
theorem za_wf.allp {A : za_D} (h : za_wf A) {v : Int32} (hv : zb_in v 3 = true) : za_wf (za_allp A v) := by
  obtain ⟨q, hq, e⟩ := (zb_in_iff (by omega)).mp hv
  exact ⟨h.1, h.2.1, fun k hk => ⟨(h.2.2.1 k hk).1, (h.2.2.1 k hk).2.1, (h.2.2.1 k hk).2.2.1, q, hq, e⟩, h.2.2.2⟩
/-- a drawn number -/
def zs_drw (s : Int32) : Int32 := (s.toUInt32 >>> ((16 : Int32).toUInt32 &&& Int32.toUInt32 31)).toInt32 &&& 32767
theorem zs_drw_ex (s : Int32) : ∃ j : Nat, j < 32768 ∧ zs_drw s = nI j := pk_andE _ 15 (by decide)
def zs_j (s : Int32) : Nat := (zs_drw s).toNatClampNeg
theorem zs_drw_j (s : Int32) : zs_drw s = nI (zs_j s) := by
  obtain ⟨j, hj, e⟩ := zs_drw_ex s
  rw [zs_j, e, nI_clamp (by omega)]
theorem zs_j_lt (s : Int32) : zs_j s < 32768 := by
  obtain ⟨j, hj, e⟩ := zs_drw_ex s
  rw [zs_j, e, nI_clamp (by omega)]
  exact hj
def zs_nx (s : Int32) : Int32 := s * 1103515245 + 12345
abbrev za_R : Type := za_D × Int32 × Int32 × Int32
def zs_rD (A : za_D) (s : Int32) : Nat := 10 * (zs_j (zs_nx s) % za_n A) + zs_j (zs_nx (zs_nx s)) % 7
def zs_rA (A : za_D) : za_D := if za_g A = nI (za_N A) - 1 then za_sg A 0 else A
def zs_rst (S : za_R) : za_R :=
  (zs_rA (zs_actS S.1 (zs_rD S.1 S.2.1)), zs_nx (zs_nx S.2.1), S.2.2.1 + (if zs_own (zs_rA (zs_actS S.1 (zs_rD S.1 S.2.1))) 0 (za_g (zs_rA (zs_actS S.1 (zs_rD S.1 S.2.1)))) 31 = S.2.2.2 then 0 else 1), zs_own (zs_rA (zs_actS S.1 (zs_rD S.1 S.2.1))) 0 (za_g (zs_rA (zs_actS S.1 (zs_rD S.1 S.2.1)))) 31)
def zs_ri (A : za_D) (s : Int32) : Nat → za_R := zf_fo (fun _ => zs_rst) (A, s, 0, zs_own A 0 (za_g A) 31)
def zx_r160 (n : Int32) : Bool := decide (1 ≤ n ∧ n ≤ 60)
def zx_drift (A : za_D) (s n w : Int32) : Int32 := if (zx_r160 n && zx_3 w 1) = false then -1 else if za_n A = 0 then -2 else if w = 0 then (zs_ri A s n.toNatClampNeg).2.2.1 else (zs_ri A s n.toNatClampNeg).2.2.2
theorem zs_ri_e {A : za_D} {s : Int32} {i : Nat} (h : zs_own (zs_rA (zs_actS (zs_ri A s i).1 (zs_rD (zs_ri A s i).1 (zs_ri A s i).2.1))) 0 (za_g (zs_rA (zs_actS (zs_ri A s i).1 (zs_rD (zs_ri A s i).1 (zs_ri A s i).2.1)))) 31 = (zs_ri A s i).2.2.2) : (zs_ri A s i).2.2.1 + 0 = (zs_ri A s (i + 1)).2.2.1 := by
  show _ = (zs_rst (zs_ri A s i)).2.2.1
  unfold zs_rst
  rw [if_pos h]
theorem zs_ri_n {A : za_D} {s : Int32} {i : Nat} (h : ¬ zs_own (zs_rA (zs_actS (zs_ri A s i).1 (zs_rD (zs_ri A s i).1 (zs_ri A s i).2.1))) 0 (za_g (zs_rA (zs_actS (zs_ri A s i).1 (zs_rD (zs_ri A s i).1 (zs_ri A s i).2.1)))) 31 = (zs_ri A s i).2.2.2) : (zs_ri A s i).2.2.1 + 1 = (zs_ri A s (i + 1)).2.2.1 := by
  show _ = (zs_rst (zs_ri A s i)).2.2.1
  unfold zs_rst
  rw [if_neg h]
theorem zs_rA_n (A : za_D) : za_n (zs_rA A) = za_n A := by unfold zs_rA; split <;> rfl
theorem za_wf.rA {A : za_D} (h : za_wf A) : za_wf (zs_rA A) := by
  unfold zs_rA
  split
  · exact h.sg (g := 0) (Nat.two_pow_pos _)
  · exact h
theorem zs_ri_wf {A : za_D} (h : za_wf A) (hn : za_n A ≤ 6) (s : Int32) : ∀ i, za_wf (zs_ri A s i).1 ∧ za_n (zs_ri A s i).1 = za_n A
  | 0 => ⟨h, rfl⟩
  | i + 1 => by
    obtain ⟨h1, h2⟩ := zs_ri_wf h hn s i
    refine ⟨(h1.actS (by rw [h2]; exact hn) _).rA, ?_⟩
    exact (zs_rA_n _).trans ((zs_actS_n _ _).trans h2)

set_option maxHeartbeats 4000000 in
theorem sp_S_isAsSeen {σ : zq_T} {X : za_X} (hS : zs_rep σ X) (hW : zx_wf X) (a : Nat) : zq_Sp zm_S_isAsSeen 5 [zq_O 0 0, zq_I (nI a)] σ (zq_rv (zq_I (zb_v (zs_sn X a))) σ) := by
  have hA : zc_rep σ σ.2.2.1 X.1 := hS.2.1
  have hw : za_wf X.1 := hW.1
  have hn6 : za_n X.1 ≤ 6 := zc_n6 hA
  have hm5 : za_m X.1 ≤ 5 := zc_m5 hA
  have hs6 : (zx_s X).1 ≤ 6 := hW.2.2.2.1.1
  have hT6 : (zx_T X).1 ≤ 160 := hW.2.2.1.1
  refine zq_sp [some (zq_O 0 0), some (zq_I (nI a)), none] (by decide +kernel) rfl (Nat.le_of_ble_eq_true rfl) (fun ν => ?_)
  refine gq_iconst (v := 0) dz_S_isAsSeen_0 rfl ?_
  refine gw_istore_n 2 dz_S_isAsSeen_1 rfl (Nat.le_of_ble_eq_true rfl) rfl ?_
  dsimp only [List.set]
  have L2 : ∀ (kf : Nat) (i : Nat) (hkf : (zx_s X).1 - i < kf) (hi : i ≤ (zx_s X).1) (hf : zf_all (fun i => decide (zs_own X.1 ((zx_s X).2.1 i) (nI a) 31 = (zx_s X).2.2 i)) i = true), zq_G ν zm_S_isAsSeen 5 (zq_rv (zq_I (zb_v (zs_sn X a))) σ) 2 [some (zq_O 0 0), some (zq_I (nI a)), some (zq_I (nI i))] [] σ := by
    intro kf
    induction kf with
    | zero => intro i hkf hi hf; exact absurd hkf (Nat.not_lt_zero _)
    | succ kf ih2 =>
      intro i hkf hi hf
      refine gq_iload_n dz_S_isAsSeen_2 rfl ?_
      refine gq_aload_n dz_S_isAsSeen_3 rfl ?_
      refine gq_getI zf_S_80 rfl rfl dz_S_isAsSeen_4 ?_
      rw [hS.2.2.2.2.2.1.1]
      refine gq_icmp_ge (tgt := 49) dz_S_isAsSeen_7 rfl (fun h7 => ?_) (fun h7 => ?_)
      · skip
        refine gq_iconst (v := 1) dz_S_isAsSeen_49 rfl ?_
        refine gw_iret .boolean dz_S_isAsSeen_50 rfl (by first | rfl | exact zb_nar _) ?_ ?_
        · rw [zs_sn, ← zq_leq h7 hi (by omega), hf]; rfl
        · rfl
      · skip
        have i2 : i < (zx_s X).1 := by rcases Nat.lt_or_ge i ((zx_s X).1) with z | z; exact z; exact absurd (nI_le z (by omega)) h7
        refine gq_iload_n dz_S_isAsSeen_10 rfl ?_
        refine gq_bipush (v := 6) dz_S_isAsSeen_11 rfl ?_
        refine gq_icmp_ge (tgt := 49) dz_S_isAsSeen_13 rfl (fun h13 => ?_) (fun h13 => ?_)
        · skip
          exact absurd (show i < 6 by omega) (fun z => by have := (nI_leI (a := 6) (by omega) (by omega)).mp h13; omega)
        · skip
          refine gq_aload_n dz_S_isAsSeen_16 rfl ?_
          refine gq_getU zf_S_53 rfl rfl dz_S_isAsSeen_17 ?_
          refine gq_aload_n dz_S_isAsSeen_20 rfl ?_
          refine gq_getR 22 zf_S_47 rfl rfl dz_S_isAsSeen_21 ?_
          refine gq_iload_n dz_S_isAsSeen_24 rfl ?_
          refine gw_iald (i) (rfl) rfl (rfl) (Nat.le_of_ble_eq_true rfl) (by omega) dz_S_isAsSeen_25 ?_
          rw [(hS.2.2.2.2.2.1.2 i i2).1]
          refine gq_iload_n dz_S_isAsSeen_26 rfl ?_
          refine gq_bipush (v := 31) dz_S_isAsSeen_27 rfl ?_
          refine gq_cV (sp_D_ownerIn hA hw _ _ _) zw_D_ownerIn zl_S_171 dz_S_isAsSeen_29 rfl rfl rfl (by decide) rfl rfl (Nat.le_of_ble_eq_true rfl) ?_
          refine gq_aload_n dz_S_isAsSeen_32 rfl ?_
          refine gq_getR 23 zf_S_50 rfl rfl dz_S_isAsSeen_33 ?_
          refine gq_iload_n dz_S_isAsSeen_36 rfl ?_
          refine gw_iald (i) (rfl) rfl (rfl) (Nat.le_of_ble_eq_true rfl) (by omega) dz_S_isAsSeen_37 ?_
          rw [(hS.2.2.2.2.2.1.2 i i2).2]
          refine gq_icmp_eq (tgt := 43) dz_S_isAsSeen_38 rfl (fun h38 => ?_) (fun h38 => ?_)
          · skip
            refine gw_iinc 2 (c := 1) dz_S_isAsSeen_43 rfl rfl (Nat.le_of_ble_eq_true rfl) rfl ?_
            dsimp only [List.set]
            refine gq_goto (tgt := 2) dz_S_isAsSeen_46 rfl ?_
            simp only [nI_1]
            exact zq_fewer _ (zq_sub_spec (by repeat (first | exact trivial | exact rfl | refine And.intro ?_ ?_))) (ih2 (i + 1) (by omega) (by omega) (zf_all_ye hf (decide_eq_true h38)))
          · skip
            refine gq_iconst (v := 0) dz_S_isAsSeen_41 rfl ?_
            refine gw_iret .boolean dz_S_isAsSeen_42 rfl (by first | rfl | exact zb_nar _) ?_ ?_
            · rw [zs_sn, zf_all_no i2 (decide_eq_false h38)]; rfl
            · rfl
  exact zq_fewer _ (zq_sub_spec (by repeat (first | exact trivial | exact rfl | refine And.intro ?_ ?_))) (L2 ((zx_s X).1 + 1) 0 (by omega) (by omega) rfl)
set_option maxHeartbeats 4000000 in
theorem sp_S_fits {σ : zq_T} {X : za_X} (hS : zs_rep σ X) (hW : zx_wf X) (w : Int32) : zq_Sp zm_S_fits 6 [zq_O 0 0, zq_I w] σ (zq_rv (zq_I (zx_fits X w)) σ) := by
  have hA : zc_rep σ σ.2.2.1 X.1 := hS.2.1
  have hw : za_wf X.1 := hW.1
  have hn6 : za_n X.1 ≤ 6 := zc_n6 hA
  have hm5 : za_m X.1 ≤ 5 := zc_m5 hA
  have hs6 : (zx_s X).1 ≤ 6 := hW.2.2.2.1.1
  have hT6 : (zx_T X).1 ≤ 160 := hW.2.2.1.1
  have hN : za_N X.1 ≤ 64 := za_N64 hn6
  refine zq_sp [some (zq_O 0 0), some (zq_I w), none, none, none, none, none] (by decide +kernel) rfl (Nat.le_of_ble_eq_true rfl) (fun ν => ?_)
  refine gq_iload_n dz_S_fits_0 rfl ?_
  refine gq_if_lt (tgt := 9) dz_S_fits_1 rfl (fun h1 => ?_) (fun h1 => ?_)
  · skip
    refine gq_iconst (v := -1) dz_S_fits_9 rfl ?_
    refine gw_iret .int dz_S_fits_10 rfl (by first | rfl | exact zb_nar _) ?_ ?_
    · rw [zx_fits, zx_3lt h1, if_pos rfl]
    · rfl
  · skip
    refine gq_iload_n dz_S_fits_4 rfl ?_
    refine gq_iconst (v := 3) dz_S_fits_5 rfl ?_
    refine gq_icmp_le (tgt := 11) dz_S_fits_6 rfl (fun h6 => ?_) (fun h6 => ?_)
    · skip
      refine gq_iconst (v := 0) dz_S_fits_11 rfl ?_
      refine gw_istore_n 2 dz_S_fits_12 rfl (Nat.le_of_ble_eq_true rfl) rfl ?_
      dsimp only [List.set]
      refine gq_bipush (v := -4) dz_S_fits_13 rfl ?_
      refine gw_istore_n 3 dz_S_fits_15 rfl (Nat.le_of_ble_eq_true rfl) rfl ?_
      dsimp only [List.set]
      refine gq_aload_n dz_S_fits_16 rfl ?_
      refine gq_getU zf_S_53 rfl rfl dz_S_fits_17 ?_
      refine gq_cV (sp_D_everybody hA) zw_D_everybody zl_S_226 dz_S_fits_20 rfl rfl rfl (by decide) rfl rfl (Nat.le_of_ble_eq_true rfl) ?_
      rw [za_caN hn6]
      refine gw_istore 4 dz_S_fits_23 (Nat.le_of_ble_eq_true rfl) rfl ?_
      dsimp only [List.set]
      refine gq_iconst (v := 0) dz_S_fits_25 rfl ?_
      refine gw_istore 5 dz_S_fits_26 (Nat.le_of_ble_eq_true rfl) rfl ?_
      dsimp only [List.set]
      refine gq_iconst (v := 0) dz_S_fits_28 rfl ?_
      refine gw_istore 6 dz_S_fits_29 (Nat.le_of_ble_eq_true rfl) rfl ?_
      dsimp only [List.set]
      have L31 : ∀ (kf : Nat) (a : Nat) (hkf : za_N X.1 - a < kf) (ha : a ≤ za_N X.1), zq_G ν zm_S_fits 6 (zq_rv (zq_I (zx_fits X w)) σ) 31 [some (zq_O 0 0), some (zq_I w), some (zq_I (nI (zf_ct (zs_sn X) a))), some (zq_I (zf_fo (zs_lstf X) (-4) a)), some (zq_I (zf_fo (zs_giaf X) (nI (za_N X.1) - 1) a)), some (zq_I (zf_fo (zs_gisf X) 0 a)), some (zq_I (nI a))] [] σ := by
        intro kf
        induction kf with
        | zero => intro a hkf ha; exact absurd hkf (Nat.not_lt_zero _)
        | succ kf ih31 =>
          intro a hkf ha
          refine gq_iload dz_S_fits_31 rfl ?_
          refine gq_aload_n dz_S_fits_33 rfl ?_
          refine gq_getU zf_S_53 rfl rfl dz_S_fits_34 ?_
          refine gq_cV (sp_D_cases hA) zw_D_cases zl_S_206 dz_S_fits_37 rfl rfl rfl (by decide) rfl rfl (Nat.le_of_ble_eq_true rfl) ?_
          rw [za_caN hn6]
          refine gq_icmp_ge (tgt := 88) dz_S_fits_40 rfl (fun h40 => ?_) (fun h40 => ?_)
          · skip
            have ha4 : a = za_N X.1 := zq_leq h40 ha (by omega)
            subst ha4
            have hctl := zf_ct_le (zs_sn X) (za_N X.1)
            refine gq_iload_n dz_S_fits_88 rfl ?_
            refine gq_if_eq (tgt := 96) dz_S_fits_89 rfl (fun h89 => ?_) (fun h89 => ?_)
            · skip
              refine gq_iload_n dz_S_fits_96 rfl ?_
              refine gq_if_ne (tgt := 104) dz_S_fits_97 rfl (fun h97 => ?_) (fun h97 => ?_)
              · skip
                refine gq_bipush (v := -4) dz_S_fits_104 rfl ?_
                refine gw_iret .int dz_S_fits_106 rfl (by first | rfl | exact zb_nar _) ?_ ?_
                · exact absurd h89 h97
                · rfl
              · skip
                refine gq_iload_n dz_S_fits_100 rfl ?_
                refine gq_goto (tgt := 106) dz_S_fits_101 rfl ?_
                refine gw_iret .int dz_S_fits_106 rfl (by first | rfl | exact zb_nar _) ?_ ?_
                · rw [zx_fits, zx_3ye h1 h6, if_neg (by decide), if_pos h89]
                · rfl
            · skip
              refine gq_iload_n dz_S_fits_92 rfl ?_
              refine gq_if_ne (tgt := 107) dz_S_fits_93 rfl (fun h93 => ?_) (fun h93 => ?_)
              · skip
                have h0 : ¬ zf_ct (zs_sn X) (za_N X.1) = 0 := fun z => h93 (by rw [z]; rfl)
                refine gq_iload_n dz_S_fits_107 rfl ?_
                refine gq_iconst (v := 1) dz_S_fits_108 rfl ?_
                refine gq_icmp_ne (tgt := 114) dz_S_fits_109 rfl (fun h109 => ?_) (fun h109 => ?_)
                · skip
                  refine gq_iload_n dz_S_fits_114 rfl ?_
                  refine gq_iconst (v := 2) dz_S_fits_115 rfl ?_
                  refine gq_icmp_ne (tgt := 124) dz_S_fits_116 rfl (fun h116 => ?_) (fun h116 => ?_)
                  · skip
                    refine gq_aload_n dz_S_fits_124 rfl ?_
                    refine gq_getU zf_S_53 rfl rfl dz_S_fits_125 ?_
                    refine gq_cV (sp_D_everybody hA) zw_D_everybody zl_S_226 dz_S_fits_128 rfl rfl rfl (by decide) rfl rfl (Nat.le_of_ble_eq_true rfl) ?_
                    rw [za_caN hn6]
                    refine gq_iload dz_S_fits_131 rfl ?_
                    refine gq_iconst (v := -1) dz_S_fits_133 rfl ?_
                    refine gq_ixor dz_S_fits_134 ?_
                    refine gq_iand dz_S_fits_135 ?_
                    refine gw_iret .int dz_S_fits_136 rfl (by first | rfl | exact zb_nar _) ?_ ?_
                    · rw [zx_fits, zx_3ye h1 h6, if_neg (by decide), if_neg h89, if_neg h0, if_neg h109, if_neg h116]
                    · rfl
                  · skip
                    refine gq_iload dz_S_fits_119 rfl ?_
                    refine gq_goto (tgt := 136) dz_S_fits_121 rfl ?_
                    refine gw_iret .int dz_S_fits_136 rfl (by first | rfl | exact zb_nar _) ?_ ?_
                    · rw [zx_fits, zx_3ye h1 h6, if_neg (by decide), if_neg h89, if_neg h0, if_neg h109, if_pos h116]
                    · rfl
                · skip
                  refine gq_iload_n dz_S_fits_112 rfl ?_
                  refine gw_iret .int dz_S_fits_113 rfl (by first | rfl | exact zb_nar _) ?_ ?_
                  · rw [zx_fits, zx_3ye h1 h6, if_neg (by decide), if_neg h89, if_neg h0, if_pos h109]
                  · rfl
              · skip
                have h0 : zf_ct (zs_sn X) (za_N X.1) = 0 := (nI_eq (b := 0) (by omega) (by omega)).mp h93
                refine gq_iload_n dz_S_fits_96 rfl ?_
                refine gq_if_ne (tgt := 104) dz_S_fits_97 rfl (fun h97 => ?_) (fun h97 => ?_)
                · skip
                  refine gq_bipush (v := -4) dz_S_fits_104 rfl ?_
                  refine gw_iret .int dz_S_fits_106 rfl (by first | rfl | exact zb_nar _) ?_ ?_
                  · rw [zx_fits, zx_3ye h1 h6, if_neg (by decide), if_neg h89, if_pos h0]
                  · rfl
                · skip
                  refine gq_iload_n dz_S_fits_100 rfl ?_
                  refine gq_goto (tgt := 106) dz_S_fits_101 rfl ?_
                  refine gw_iret .int dz_S_fits_106 rfl (by first | rfl | exact zb_nar _) ?_ ?_
                  · exact absurd h97 h89
                  · rfl
          · skip
            have a2 : a < za_N X.1 := by rcases Nat.lt_or_ge a (za_N X.1) with z | z; exact z; exact absurd (nI_le z (by omega)) h40
            refine gq_aload_n dz_S_fits_43 rfl ?_
            refine gq_iload dz_S_fits_44 rfl ?_
            refine gq_cV (sp_S_isAsSeen hS hW _) zw_S_isAsSeen zl_S_229 dz_S_fits_46 rfl rfl rfl (by decide) rfl rfl (Nat.le_of_ble_eq_true rfl) ?_
            refine gw_ifb_eq (tgt := 82) dz_S_fits_49 rfl (fun h49 => ?_) (fun h49 => ?_)
            · skip
              refine gw_iinc 6 (c := 1) dz_S_fits_82 rfl rfl (Nat.le_of_ble_eq_true rfl) rfl ?_
              dsimp only [List.set]
              refine gq_goto (tgt := 31) dz_S_fits_85 rfl ?_
              have hb : ¬ zs_sn X a = true := by rw [h49]; exact Bool.false_ne_true
              rw [show zf_fo (zs_lstf X) (-4) a = zf_fo (zs_lstf X) (-4) (a + 1) from (if_neg hb).symm]
              rw [show zf_fo (zs_giaf X) (nI (za_N X.1) - 1) a = zf_fo (zs_giaf X) (nI (za_N X.1) - 1) (a + 1) from (if_neg hb).symm]
              rw [show zf_fo (zs_gisf X) 0 a = zf_fo (zs_gisf X) 0 (a + 1) from (if_neg hb).symm]
              rw [← zf_ct_f (P := zs_sn X) h49]
              simp only [nI_1]
              exact zq_fewer _ (zq_sub_spec (by repeat (first | exact trivial | exact rfl | refine And.intro ?_ ?_))) (ih31 (a + 1) (by omega) (by omega))
            · skip
              refine gw_iinc 2 (c := 1) dz_S_fits_52 rfl rfl (Nat.le_of_ble_eq_true rfl) rfl ?_
              dsimp only [List.set]
              refine gq_iload_n dz_S_fits_55 rfl ?_
              refine gq_bipush (v := -4) dz_S_fits_56 rfl ?_
              refine gq_icmp_ne (tgt := 66) dz_S_fits_58 rfl (fun h58 => ?_) (fun h58 => ?_)
              · skip
                refine gq_iload_n dz_S_fits_66 rfl ?_
                refine gw_istore_n 3 dz_S_fits_67 rfl (Nat.le_of_ble_eq_true rfl) rfl ?_
                dsimp only [List.set]
                refine gq_iload dz_S_fits_68 rfl ?_
                refine gq_iload dz_S_fits_70 rfl ?_
                refine gq_iand dz_S_fits_72 ?_
                refine gw_istore 4 dz_S_fits_73 (Nat.le_of_ble_eq_true rfl) rfl ?_
                dsimp only [List.set]
                refine gq_iload dz_S_fits_75 rfl ?_
                refine gq_iload dz_S_fits_77 rfl ?_
                refine gq_ior dz_S_fits_79 ?_
                refine gw_istore 5 dz_S_fits_80 (Nat.le_of_ble_eq_true rfl) rfl ?_
                dsimp only [List.set]
                refine gw_iinc 6 (c := 1) dz_S_fits_82 rfl rfl (Nat.le_of_ble_eq_true rfl) rfl ?_
                dsimp only [List.set]
                refine gq_goto (tgt := 31) dz_S_fits_85 rfl ?_
                simp only [nI_1]
                rw [show zf_fo (zs_giaf X) (nI (za_N X.1) - 1) a &&& nI a = zf_fo (zs_giaf X) (nI (za_N X.1) - 1) (a + 1) from (if_pos h49).symm]
                rw [show zf_fo (zs_gisf X) 0 a ||| nI a = zf_fo (zs_gisf X) 0 (a + 1) from (if_pos h49).symm]
                rw [← zf_ct_t (P := zs_sn X) h49]
                rw [show zf_fo (zs_lstf X) (-4) a = zf_fo (zs_lstf X) (-4) (a + 1) from ((if_pos h49).trans (if_neg h58)).symm]
                exact zq_fewer _ (zq_sub_spec (by repeat (first | exact trivial | exact rfl | refine And.intro ?_ ?_))) (ih31 (a + 1) (by omega) (by omega))
              · skip
                refine gq_iload dz_S_fits_61 rfl ?_
                refine gq_goto (tgt := 67) dz_S_fits_63 rfl ?_
                refine gw_istore_n 3 dz_S_fits_67 rfl (Nat.le_of_ble_eq_true rfl) rfl ?_
                dsimp only [List.set]
                refine gq_iload dz_S_fits_68 rfl ?_
                refine gq_iload dz_S_fits_70 rfl ?_
                refine gq_iand dz_S_fits_72 ?_
                refine gw_istore 4 dz_S_fits_73 (Nat.le_of_ble_eq_true rfl) rfl ?_
                dsimp only [List.set]
                refine gq_iload dz_S_fits_75 rfl ?_
                refine gq_iload dz_S_fits_77 rfl ?_
                refine gq_ior dz_S_fits_79 ?_
                refine gw_istore 5 dz_S_fits_80 (Nat.le_of_ble_eq_true rfl) rfl ?_
                dsimp only [List.set]
                refine gw_iinc 6 (c := 1) dz_S_fits_82 rfl rfl (Nat.le_of_ble_eq_true rfl) rfl ?_
                dsimp only [List.set]
                refine gq_goto (tgt := 31) dz_S_fits_85 rfl ?_
                simp only [nI_1]
                rw [show zf_fo (zs_giaf X) (nI (za_N X.1) - 1) a &&& nI a = zf_fo (zs_giaf X) (nI (za_N X.1) - 1) (a + 1) from (if_pos h49).symm]
                rw [show zf_fo (zs_gisf X) 0 a ||| nI a = zf_fo (zs_gisf X) 0 (a + 1) from (if_pos h49).symm]
                rw [← zf_ct_t (P := zs_sn X) h49]
                rw [show some (zq_I (nI a)) = some (zq_I (zf_fo (zs_lstf X) (-4) (a + 1))) from by rw [show zf_fo (zs_lstf X) (-4) (a + 1) = nI a from (if_pos h49).trans (if_pos h58)]]
                exact zq_fewer _ (zq_sub_spec (by repeat (first | exact trivial | exact rfl | refine And.intro ?_ ?_))) (ih31 (a + 1) (by omega) (by omega))
      exact zq_fewer _ (zq_sub_spec (by repeat (first | exact trivial | exact rfl | refine And.intro ?_ ?_))) (L31 (za_N X.1 + 1) 0 (by omega) (by omega))
    · skip
      refine gq_iconst (v := -1) dz_S_fits_9 rfl ?_
      refine gw_iret .int dz_S_fits_10 rfl (by first | rfl | exact zb_nar _) ?_ ?_
      · rw [zx_fits, zx_3gt h6, if_pos rfl]
      · rfl
theorem zc_allp {σ τ : zq_T} {d : Fin 5} {A : za_D} {v : Int32} (hA : zc_rep σ d A) (hs : ∀ t k, 10 ≤ t → t ≤ 19 → τ.1 t d k = σ.1 t d k) (hp : ∀ k, k < za_m A → τ.1 20 d k = v) : zc_rep τ d (za_allp A v) := by
  obtain ⟨h1, h2, h3, h4, h5, h6, h7, h8, h9⟩ := hA
  refine ⟨h1, h2, ?_, ?_, ?_, fun i hi => ?_, fun i hi => ?_, fun f hf => ?_, fun k hk => ?_⟩
  · rw [hs 10 0 (by omega) (by omega)]; exact h3
  · rw [hs 10 1 (by omega) (by omega)]; exact h4
  · rw [hs 10 2 (by omega) (by omega)]; exact h5
  · rw [hs 11 i (by omega) (by omega), hs 12 i (by omega) (by omega)]; exact h6 i hi
  · rw [hs 13 i (by omega) (by omega), hs 14 i (by omega) (by omega)]; exact h7 i hi
  · rw [hs 15 f (by omega) (by omega)]; exact h8 f hf
  · rw [hs 16 k (by omega) (by omega), hs 17 k (by omega) (by omega), hs 18 k (by omega) (by omega), hs 19 k (by omega) (by omega)]; exact ⟨(h9 k hk).1, (h9 k hk).2.1, (h9 k hk).2.2.1, (h9 k hk).2.2.2.1, hp k hk⟩
set_option maxHeartbeats 4000000 in
theorem sp_S_turn {σ : zq_T} {X : za_X} (hS : zs_rep σ X) (hW : zx_wf X) (v t : Int32) : zq_Sp zm_S_turn 6 [zq_O 0 0, zq_I v, zq_I t] σ (zq_rw (zq_I (zx_turn X.1 v t)) (fun τ => zs_rep τ (X) ∧ zg_S σ τ)) := by
  have hA : zc_rep σ σ.2.2.1 X.1 := hS.2.1
  have hw : za_wf X.1 := hW.1
  have hn6 : za_n X.1 ≤ 6 := zc_n6 hA
  have hm5 : za_m X.1 ≤ 5 := zc_m5 hA
  have hs6 : (zx_s X).1 ≤ 6 := hW.2.2.2.1.1
  have hT6 : (zx_T X).1 ≤ 160 := hW.2.2.1.1
  refine zq_sp [some (zq_O 0 0), some (zq_I v), some (zq_I t), none] (by decide +kernel) rfl (Nat.le_of_ble_eq_true rfl) (fun ν => ?_)
  refine gq_iload_n dz_S_turn_0 rfl ?_
  refine gq_cS (sp_S_isPick _) zw_S_isPick zl_S_165 dz_S_turn_1 (by decide) rfl rfl (Nat.le_of_ble_eq_true rfl) ?_
  refine gw_ifb_eq (tgt := 14) dz_S_turn_4 rfl (fun h4 => ?_) (fun h4 => ?_)
  · skip
    refine gq_iconst (v := -1) dz_S_turn_14 rfl ?_
    refine gw_iretP .int dz_S_turn_15 rfl (by first | rfl | exact zb_nar _) ?_ ?_
    · rw [zx_turn, h4]; rfl
    · exact ⟨hS, zg_S.rf⟩
  · skip
    refine gq_iload_n dz_S_turn_7 rfl ?_
    refine gq_cS (sp_S_isThing _) zw_S_isThing zl_S_147 dz_S_turn_8 (by decide) rfl rfl (Nat.le_of_ble_eq_true rfl) ?_
    refine gw_ifb_ne (tgt := 16) dz_S_turn_11 rfl (fun h11 => ?_) (fun h11 => ?_)
    · skip
      refine gq_aload_n dz_S_turn_16 rfl ?_
      refine gq_getX 2 2 zf_S_40 rfl rfl rfl dz_S_turn_17 ?_
      refine gq_aload_n dz_S_turn_20 rfl ?_
      refine gq_getU zf_S_53 rfl rfl dz_S_turn_21 ?_
      refine gq_cVX (sp_D_copyFrom (d := 2) hA (zs_d0 hS (by decide))) zw_D_copyFrom zl_S_174 dz_S_turn_24 rfl rfl rfl (by decide) rfl rfl (Nat.le_of_ble_eq_true rfl) (fun τ24 hq24 => ?_)
      refine gq_iconst (v := 0) dz_S_turn_27 rfl ?_
      refine gw_istore_n 3 dz_S_turn_28 rfl (Nat.le_of_ble_eq_true rfl) rfl ?_
      dsimp only [List.set]
      have L29 : ∀ (kf : Nat) (k : Nat) (τ : zq_T) (hkf : za_m X.1 - k < kf) (hk : k ≤ za_m X.1) (hs : zd_same 2 σ τ) (hk1 : ∀ t k, 10 ≤ t → t ≤ 19 → τ.1 t 2 k = τ24.1 t 2 k) (hk2 : ∀ q, q < k → τ.1 20 2 q = v), zq_G ν zm_S_turn 6 (zq_rw (zq_I (zx_turn X.1 v t)) (fun τ => zs_rep τ (X) ∧ zg_S σ τ)) 29 [some (zq_O 0 0), some (zq_I v), some (zq_I t), some (zq_I (nI k))] [] τ := by
        intro kf
        induction kf with
        | zero => intro k τ hkf hk hs hk1 hk2; exact absurd hkf (Nat.not_lt_zero _)
        | succ kf ih29 =>
          intro k τ hkf hk hs hk1 hk2
          have hA3 := hq24.1
          refine gq_iload_n dz_S_turn_29 rfl ?_
          refine gq_aload_n dz_S_turn_30 rfl ?_
          refine gq_getX 2 2 zf_S_40 rfl rfl rfl dz_S_turn_31 ?_
          refine gq_getI zf_S_89 rfl rfl dz_S_turn_34 ?_
          rw [show τ.1 10 2 2 = nI (za_m X.1) from by rw [hk1 10 2 (by omega) (by omega)]; exact zc_m hA3]
          refine gq_icmp_ge (tgt := 56) dz_S_turn_37 rfl (fun h37 => ?_) (fun h37 => ?_)
          · skip
            have hk4 : k = za_m X.1 := zq_leq h37 hk (by omega)
            subst hk4
            have hAp : zc_rep τ 2 (za_allp X.1 v) := zc_allp hA3 hk1 hk2
            refine gq_aload_n dz_S_turn_56 rfl ?_
            refine gq_getX 2 2 zf_S_40 rfl rfl rfl dz_S_turn_57 ?_
            refine gq_iload_n dz_S_turn_60 rfl ?_
            refine gq_cV (sp_D_ownerNow hAp (hw.allp h4) _) zw_D_ownerNow zl_S_150 dz_S_turn_61 rfl rfl rfl (by decide) rfl rfl (Nat.le_of_ble_eq_true rfl) ?_
            refine gw_iretP .int dz_S_turn_64 rfl (by first | rfl | exact zb_nar _) ?_ ?_
            · rw [zx_turn, h4, h11]; rfl
            · exact ⟨hS.trial hs, hs.S⟩
          · skip
            have k2 : k < za_m X.1 := by rcases Nat.lt_or_ge k (za_m X.1) with z | z; exact z; exact absurd (nI_le z (by omega)) h37
            refine gq_aload_n dz_S_turn_40 rfl ?_
            refine gq_getX 2 2 zf_S_40 rfl rfl rfl dz_S_turn_41 ?_
            refine gq_getR 20 zf_S_138 rfl rfl dz_S_turn_44 ?_
            refine gq_iload_n dz_S_turn_47 rfl ?_
            refine gq_iload_n dz_S_turn_48 rfl ?_
            refine gw_iast (k) (rfl) rfl (rfl) (Nat.le_of_ble_eq_true rfl) (by omega) dz_S_turn_49 ?_
            refine gw_iinc 3 (c := 1) dz_S_turn_50 rfl rfl (Nat.le_of_ble_eq_true rfl) rfl ?_
            dsimp only [List.set]
            refine gq_goto (tgt := 29) dz_S_turn_53 rfl ?_
            simp only [nI_1]
            exact zq_fewer _ (zq_sub_spec (by repeat (first | exact trivial | exact rfl | refine And.intro ?_ ?_))) (ih29 (k + 1) _ (by omega) (by omega) (hs.up (by omega) (by omega)) (fun t q p1 p2 => (if_neg (fun z => by omega) : zq_up τ.1 20 2 k v t 2 q = τ.1 t 2 q).trans (hk1 t q p1 p2)) (fun q z => by show zq_up τ.1 20 2 k v 20 2 q = v; unfold zq_up; by_cases e : q = k; rw [if_pos ⟨rfl, rfl, e⟩]; rw [if_neg (fun y => e y.2.2)]; exact hk2 q (by omega)))
      exact zq_fewer _ (zq_sub_spec (by repeat (first | exact trivial | exact rfl | refine And.intro ?_ ?_))) (L29 (za_m X.1 + 1) 0 _ (by omega) (by omega) hq24.2 (fun _ _ _ _ => rfl) (fun q z => absurd z (Nat.not_lt_zero q)))
    · skip
      refine gq_iconst (v := -1) dz_S_turn_14 rfl ?_
      refine gw_iretP .int dz_S_turn_15 rfl (by first | rfl | exact zb_nar _) ?_ ?_
      · rw [zx_turn, h11, Bool.and_false]; rfl
      · exact ⟨hS, zg_S.rf⟩
set_option maxHeartbeats 4000000 in
theorem sp_S_nextSeed {σ : zq_T} (s : Int32) : zq_Sp zm_S_nextSeed 0 [zq_I s] σ (zq_rv (zq_I (zs_nx s)) σ) := by
  refine zq_sp [some (zq_I s)] (by decide +kernel) rfl (Nat.le_of_ble_eq_true rfl) (fun ν => ?_)
  refine gq_iload_n dz_S_nextSeed_0 rfl ?_
  refine gq_ldcw zl_S_298 dz_S_nextSeed_1 ?_
  refine gq_imul dz_S_nextSeed_4 ?_
  refine gq_sipush (v := 12345) dz_S_nextSeed_5 rfl ?_
  refine gq_iadd dz_S_nextSeed_8 ?_
  refine gw_iret .int dz_S_nextSeed_9 rfl (by first | rfl | exact zb_nar _) ?_ ?_
  · rfl
  · rfl
set_option maxHeartbeats 4000000 in
theorem sp_S_drawn {σ : zq_T} (s : Int32) : zq_Sp zm_S_drawn 0 [zq_I s] σ (zq_rv (zq_I (zs_drw s)) σ) := by
  refine zq_sp [some (zq_I s)] (by decide +kernel) rfl (Nat.le_of_ble_eq_true rfl) (fun ν => ?_)
  refine gq_iload_n dz_S_drawn_0 rfl ?_
  refine gq_bipush (v := 16) dz_S_drawn_1 rfl ?_
  refine gq_iushr dz_S_drawn_3 ?_
  refine gq_sipush (v := 32767) dz_S_drawn_4 rfl ?_
  refine gq_iand dz_S_drawn_7 ?_
  refine gw_iret .int dz_S_drawn_8 rfl (by first | rfl | exact zb_nar _) ?_ ?_
  · rfl
  · rfl
set_option maxHeartbeats 4000000 in
theorem sp_S_drift {σ : zq_T} {X : za_X} (hS : zs_rep σ X) (hW : zx_wf X) (s n w : Int32) : zq_Sp zm_S_drift 6 [zq_O 0 0, zq_I s, zq_I n, zq_I w] σ (zq_rw (zq_I (zx_drift X.1 s n w)) (fun τ => zs_rep τ (X) ∧ zg_S σ τ)) := by
  have hA : zc_rep σ σ.2.2.1 X.1 := hS.2.1
  have hw : za_wf X.1 := hW.1
  have hn6 : za_n X.1 ≤ 6 := zc_n6 hA
  have hm5 : za_m X.1 ≤ 5 := zc_m5 hA
  have hs6 : (zx_s X).1 ≤ 6 := hW.2.2.2.1.1
  have hT6 : (zx_T X).1 ≤ 160 := hW.2.2.1.1
  have hN : za_N X.1 ≤ 64 := za_N64 hn6
  refine zq_sp [some (zq_O 0 0), some (zq_I s), some (zq_I n), some (zq_I w), none, none, none, none, none, none] (by decide +kernel) rfl (Nat.le_of_ble_eq_true rfl) (fun ν => ?_)
  refine gq_iload_n dz_S_drift_0 rfl ?_
  refine gq_iconst (v := 1) dz_S_drift_1 rfl ?_
  refine gq_icmp_lt (tgt := 20) dz_S_drift_2 rfl (fun h2 => ?_) (fun h2 => ?_)
  · skip
    have hr : zx_r160 n = false := decide_eq_false (fun z => by have := z.1; rw [Int32.le_iff_toInt_le] at this; rw [Int32.lt_iff_toInt_lt] at h2; omega)
    refine gq_iconst (v := -1) dz_S_drift_20 rfl ?_
    refine gw_iretP .int dz_S_drift_21 rfl (by first | rfl | exact zb_nar _) ?_ ?_
    · rw [zx_drift, hr]; rfl
    · exact ⟨hS, zg_S.rf⟩
  · skip
    refine gq_iload_n dz_S_drift_5 rfl ?_
    refine gq_bipush (v := 60) dz_S_drift_6 rfl ?_
    refine gq_icmp_gt (tgt := 20) dz_S_drift_8 rfl (fun h8 => ?_) (fun h8 => ?_)
    · skip
      have hr : zx_r160 n = false := decide_eq_false (fun z => by have := z.2; rw [Int32.le_iff_toInt_le] at this; rw [Int32.lt_iff_toInt_lt] at h8; omega)
      refine gq_iconst (v := -1) dz_S_drift_20 rfl ?_
      refine gw_iretP .int dz_S_drift_21 rfl (by first | rfl | exact zb_nar _) ?_ ?_
      · rw [zx_drift, hr]; rfl
      · exact ⟨hS, zg_S.rf⟩
    · skip
      have hr : zx_r160 n = true := decide_eq_true ⟨by rw [Int32.le_iff_toInt_le]; rw [Int32.lt_iff_toInt_lt] at h2; omega, by rw [Int32.le_iff_toInt_le]; rw [Int32.lt_iff_toInt_lt] at h8; omega⟩
      refine gq_iload_n dz_S_drift_11 rfl ?_
      refine gq_if_lt (tgt := 20) dz_S_drift_12 rfl (fun h12 => ?_) (fun h12 => ?_)
      · skip
        refine gq_iconst (v := -1) dz_S_drift_20 rfl ?_
        refine gw_iretP .int dz_S_drift_21 rfl (by first | rfl | exact zb_nar _) ?_ ?_
        · rw [zx_drift, hr, zx_3lt h12]; rfl
        · exact ⟨hS, zg_S.rf⟩
      · skip
        refine gq_iload_n dz_S_drift_15 rfl ?_
        refine gq_iconst (v := 1) dz_S_drift_16 rfl ?_
        refine gq_icmp_le (tgt := 22) dz_S_drift_17 rfl (fun h17 => ?_) (fun h17 => ?_)
        · skip
          obtain ⟨m, hm, rfl⟩ := zx_3ex (n := 60) (fun z => h2 (by rw [Int32.lt_iff_toInt_lt] at z ⊢; have : (1 : Int32).toInt = 1 := rfl; have : (0 : Int32).toInt = 0 := rfl; omega)) (of_decide_eq_true hr).2 (by omega)
          have hw3 := zx_3ye h12 h17
          refine gq_aload_n dz_S_drift_22 rfl ?_
          refine gq_getU zf_S_53 rfl rfl dz_S_drift_23 ?_
          refine gq_getI zf_S_86 rfl rfl dz_S_drift_26 ?_
          rw [zc_n hA]
          refine gw_istore 4 dz_S_drift_29 (Nat.le_of_ble_eq_true rfl) rfl ?_
          dsimp only [List.set]
          refine gq_iload dz_S_drift_31 rfl ?_
          refine gq_if_gt (tgt := 39) dz_S_drift_33 rfl (fun h33 => ?_) (fun h33 => ?_)
          · skip
            have hn0 : 0 < za_n X.1 := (nI_ltI (a := 0) (by omega) (by omega)).mp h33
            refine gq_aload_n dz_S_drift_39 rfl ?_
            refine gq_getX 2 2 zf_S_40 rfl rfl rfl dz_S_drift_40 ?_
            refine gq_aload_n dz_S_drift_43 rfl ?_
            refine gq_getU zf_S_53 rfl rfl dz_S_drift_44 ?_
            refine gq_cVX (sp_D_copyFrom (d := 2) hA (zs_d0 hS (by decide))) zw_D_copyFrom zl_S_174 dz_S_drift_47 rfl rfl rfl (by decide) rfl rfl (Nat.le_of_ble_eq_true rfl) (fun τ47 hq47 => ?_)
            refine gq_aload_n dz_S_drift_50 rfl ?_
            refine gq_getX 2 2 zf_S_40 rfl rfl rfl dz_S_drift_51 ?_
            refine gq_iconst (v := 0) dz_S_drift_54 rfl ?_
            refine gq_cV (sp_D_ownerNow hq47.1 hw 0) zw_D_ownerNow zl_S_150 dz_S_drift_55 rfl rfl rfl (by decide) rfl rfl (Nat.le_of_ble_eq_true rfl) ?_
            refine gw_istore 5 dz_S_drift_58 (Nat.le_of_ble_eq_true rfl) rfl ?_
            dsimp only [List.set]
            refine gq_iconst (v := 0) dz_S_drift_60 rfl ?_
            refine gw_istore 6 dz_S_drift_61 (Nat.le_of_ble_eq_true rfl) rfl ?_
            dsimp only [List.set]
            refine gq_iconst (v := 0) dz_S_drift_63 rfl ?_
            refine gw_istore 7 dz_S_drift_64 (Nat.le_of_ble_eq_true rfl) rfl ?_
            dsimp only [List.set]
            have L66 : ∀ (kf : Nat) (i : Nat) (τ : zq_T) (hkf : m - i < kf) (hi : i ≤ m) (hs : zd_same 2 σ τ) (hT : zc_rep τ 2 (zs_ri X.1 s i).1), zq_G ν zm_S_drift 6 (zq_rw (zq_I (zx_drift X.1 s (nI m) w)) (fun τ => zs_rep τ (X) ∧ zg_S σ τ)) 66 [some (zq_O 0 0), some (zq_I (zs_ri X.1 s i).2.1), some (zq_I (nI m)), some (zq_I w), some (zq_I (nI (za_n X.1))), some (zq_I (zs_ri X.1 s i).2.2.2), some (zq_I (zs_ri X.1 s i).2.2.1), some (zq_I (nI i)), none, none] [] τ := by
              intro kf
              induction kf with
              | zero => intro i τ hkf hi hs hT; exact absurd hkf (Nat.not_lt_zero _)
              | succ kf ih66 =>
                intro i τ hkf hi hs hT
                obtain ⟨hRw, hRn⟩ := zs_ri_wf hw hn6 s i
                have hRn6 : za_n (zs_ri X.1 s i).1 ≤ 6 := by rw [hRn]; exact hn6
                have hwA4 := (hRw.actS hRn6 (zs_rD (zs_ri X.1 s i).1 (zs_ri X.1 s i).2.1)).rA
                have hD : zs_rD (zs_ri X.1 s i).1 (zs_ri X.1 s i).2.1 < 2 ^ 31 := by rw [zs_rD, hRn]; have := Nat.mod_lt (zs_j (zs_nx (zs_ri X.1 s i).2.1)) hn0; have := Nat.mod_lt (zs_j (zs_nx (zs_nx (zs_ri X.1 s i).2.1))) (show 0 < 7 by omega); omega
                refine gq_iload dz_S_drift_66 rfl ?_
                refine gq_iload_n dz_S_drift_68 rfl ?_
                refine gq_icmp_ge (tgt := 174) dz_S_drift_69 rfl (fun h69 => ?_) (fun h69 => ?_)
                · skip
                  have hi4 : i = m := zq_leq h69 hi (by omega)
                  subst hi4
                  refine gq_iload_n dz_S_drift_174 rfl ?_
                  refine gq_if_ne (tgt := 183) dz_S_drift_175 rfl (fun h175 => ?_) (fun h175 => ?_)
                  · skip
                    refine gq_iload dz_S_drift_183 rfl ?_
                    refine gw_iretP .int dz_S_drift_185 rfl (by first | rfl | exact zb_nar _) ?_ ?_
                    · rw [zx_drift, hr, hw3, if_neg (by decide), if_neg (by omega), if_neg h175, nI_clamp (by omega)]
                    · exact ⟨hS.trial hs, hs.S⟩
                  · skip
                    refine gq_iload dz_S_drift_178 rfl ?_
                    refine gq_goto (tgt := 185) dz_S_drift_180 rfl ?_
                    refine gw_iretP .int dz_S_drift_185 rfl (by first | rfl | exact zb_nar _) ?_ ?_
                    · rw [zx_drift, hr, hw3, if_neg (by decide), if_neg (by omega), if_pos h175, nI_clamp (by omega)]
                    · exact ⟨hS.trial hs, hs.S⟩
                · skip
                  have i2 : i < m := by rcases Nat.lt_or_ge i (m) with z | z; exact z; exact absurd (nI_le z (by omega)) h69
                  refine gq_iload_n dz_S_drift_72 rfl ?_
                  refine gq_cS (sp_S_nextSeed _) zw_S_nextSeed zl_S_232 dz_S_drift_73 (by decide) rfl rfl (Nat.le_of_ble_eq_true rfl) ?_
                  refine gw_istore_n 1 dz_S_drift_76 rfl (Nat.le_of_ble_eq_true rfl) rfl ?_
                  dsimp only [List.set]
                  refine gq_iload_n dz_S_drift_77 rfl ?_
                  refine gq_cS (sp_S_drawn _) zw_S_drawn zl_S_235 dz_S_drift_78 (by decide) rfl rfl (Nat.le_of_ble_eq_true rfl) ?_
                  rw [zs_drw_j]
                  refine gq_iload dz_S_drift_81 rfl ?_
                  refine gq_irem dz_S_drift_83 (fun z => by have := (nI_eq (b := 0) (by omega) (by omega)).mp z; omega) ?_
                  rw [pk_rem (by have := zs_j_lt (zs_nx (zs_ri X.1 s i).2.1); omega) hn0 (by omega)]
                  refine gw_istore 8 dz_S_drift_84 (Nat.le_of_ble_eq_true rfl) rfl ?_
                  dsimp only [List.set]
                  refine gq_iload_n dz_S_drift_86 rfl ?_
                  refine gq_cS (sp_S_nextSeed _) zw_S_nextSeed zl_S_232 dz_S_drift_87 (by decide) rfl rfl (Nat.le_of_ble_eq_true rfl) ?_
                  refine gw_istore_n 1 dz_S_drift_90 rfl (Nat.le_of_ble_eq_true rfl) rfl ?_
                  dsimp only [List.set]
                  refine gq_aload_n dz_S_drift_91 rfl ?_
                  refine gq_getX 2 2 zf_S_40 rfl rfl rfl dz_S_drift_92 ?_
                  refine gq_bipush (v := 10) dz_S_drift_95 rfl ?_
                  refine gq_iload dz_S_drift_97 rfl ?_
                  refine gq_imul dz_S_drift_99 ?_
                  rw [show (10 : Int32) = nI 10 from rfl, pk_mul]
                  refine gq_iload_n dz_S_drift_100 rfl ?_
                  refine gq_cS (sp_S_drawn _) zw_S_drawn zl_S_235 dz_S_drift_101 (by decide) rfl rfl (Nat.le_of_ble_eq_true rfl) ?_
                  rw [zs_drw_j]
                  refine gq_bipush (v := 7) dz_S_drift_104 rfl ?_
                  refine gq_irem dz_S_drift_106 (by decide) ?_
                  rw [show (7 : Int32) = nI 7 from rfl, pk_rem (by have := zs_j_lt (zs_nx (zs_nx (zs_ri X.1 s i).2.1)); omega) (by omega) (by omega)]
                  refine gq_iadd dz_S_drift_107 ?_
                  rw [nI_add, show 10 * (zs_j (zs_nx (zs_ri X.1 s i).2.1) % za_n X.1) + zs_j (zs_nx (zs_nx (zs_ri X.1 s i).2.1)) % 7 = zs_rD (zs_ri X.1 s i).1 (zs_ri X.1 s i).2.1 from by rw [zs_rD, hRn]]
                  refine gq_cVP (sp_D_act hT hD) zw_D_act zl_S_158 dz_S_drift_108 rfl rfl rfl (by decide) rfl rfl (Nat.le_of_ble_eq_true rfl) (fun τ108 hq108 => ?_)
                  refine gq_pop dz_S_drift_111 rfl ?_
                  refine gq_aload_n dz_S_drift_112 rfl ?_
                  refine gq_getX 2 2 zf_S_40 rfl rfl rfl dz_S_drift_113 ?_
                  refine gq_getI zf_S_92 rfl rfl dz_S_drift_116 ?_
                  rw [zc_g hq108.1]
                  refine gq_aload_n dz_S_drift_119 rfl ?_
                  refine gq_getX 2 2 zf_S_40 rfl rfl rfl dz_S_drift_120 ?_
                  refine gq_cV (sp_D_everybody hq108.1) zw_D_everybody zl_S_226 dz_S_drift_123 rfl rfl rfl (by decide) rfl rfl (Nat.le_of_ble_eq_true rfl) ?_
                  rw [zs_actS_n, hRn, za_caN hn6, show za_N X.1 = za_N (zs_actS (zs_ri X.1 s i).1 (zs_rD (zs_ri X.1 s i).1 (zs_ri X.1 s i).2.1)) from by rw [za_N, za_N, zs_actS_n, hRn]]
                  refine gq_icmp_ne (tgt := 137) dz_S_drift_126 rfl (fun h126 => ?_) (fun h126 => ?_)
                  · skip
                    refine gq_aload_n dz_S_drift_137 rfl ?_
                    refine gq_getX 2 2 zf_S_40 rfl rfl rfl dz_S_drift_138 ?_
                    refine gq_iconst (v := 0) dz_S_drift_141 rfl ?_
                    have hA4 : zc_rep τ108 2 (zs_rA (zs_actS (zs_ri X.1 s i).1 (zs_rD (zs_ri X.1 s i).1 (zs_ri X.1 s i).2.1))) := by rw [zs_rA, if_neg h126]; exact hq108.1
                    refine gq_cV (sp_D_ownerNow hA4 hwA4 0) zw_D_ownerNow zl_S_150 dz_S_drift_142 rfl rfl rfl (by decide) rfl rfl (Nat.le_of_ble_eq_true rfl) ?_
                    refine gw_istore 9 dz_S_drift_145 (Nat.le_of_ble_eq_true rfl) rfl ?_
                    dsimp only [List.set]
                    refine gq_iload dz_S_drift_147 rfl ?_
                    refine gq_iload dz_S_drift_149 rfl ?_
                    refine gq_iload dz_S_drift_151 rfl ?_
                    refine gq_icmp_eq (tgt := 160) dz_S_drift_153 rfl (fun h153 => ?_) (fun h153 => ?_)
                    · skip
                      refine gq_iconst (v := 0) dz_S_drift_160 rfl ?_
                      refine gq_iadd dz_S_drift_161 ?_
                      refine gw_istore 6 dz_S_drift_162 (Nat.le_of_ble_eq_true rfl) rfl ?_
                      dsimp only [List.set]
                      refine gq_iload dz_S_drift_164 rfl ?_
                      refine gw_istore 5 dz_S_drift_166 (Nat.le_of_ble_eq_true rfl) rfl ?_
                      dsimp only [List.set]
                      refine gw_iinc 7 (c := 1) dz_S_drift_168 rfl rfl (Nat.le_of_ble_eq_true rfl) rfl ?_
                      dsimp only [List.set]
                      refine gq_goto (tgt := 66) dz_S_drift_171 rfl ?_
                      simp only [nI_1]
                      rw [show (zs_ri X.1 s i).2.2.1 + 0 = (zs_ri X.1 s (i + 1)).2.2.1 from zs_ri_e h153]
                      exact zq_fewer _ (zq_sub_spec (by repeat (first | exact trivial | exact rfl | refine And.intro ?_ ?_))) (ih66 (i + 1) _ (by omega) (by omega) (hs.tr hq108.2) hA4)
                    · skip
                      refine gq_iconst (v := 1) dz_S_drift_156 rfl ?_
                      refine gq_goto (tgt := 161) dz_S_drift_157 rfl ?_
                      refine gq_iadd dz_S_drift_161 ?_
                      refine gw_istore 6 dz_S_drift_162 (Nat.le_of_ble_eq_true rfl) rfl ?_
                      dsimp only [List.set]
                      refine gq_iload dz_S_drift_164 rfl ?_
                      refine gw_istore 5 dz_S_drift_166 (Nat.le_of_ble_eq_true rfl) rfl ?_
                      dsimp only [List.set]
                      refine gw_iinc 7 (c := 1) dz_S_drift_168 rfl rfl (Nat.le_of_ble_eq_true rfl) rfl ?_
                      dsimp only [List.set]
                      refine gq_goto (tgt := 66) dz_S_drift_171 rfl ?_
                      simp only [nI_1]
                      rw [show (zs_ri X.1 s i).2.2.1 + 1 = (zs_ri X.1 s (i + 1)).2.2.1 from zs_ri_n h153]
                      exact zq_fewer _ (zq_sub_spec (by repeat (first | exact trivial | exact rfl | refine And.intro ?_ ?_))) (ih66 (i + 1) _ (by omega) (by omega) (hs.tr hq108.2) hA4)
                  · skip
                    refine gq_aload_n dz_S_drift_129 rfl ?_
                    refine gq_getX 2 2 zf_S_40 rfl rfl rfl dz_S_drift_130 ?_
                    refine gq_iconst (v := 0) dz_S_drift_133 rfl ?_
                    refine gq_putI zv_S_92 rfl rfl dz_S_drift_134 ?_
                    refine gq_aload_n dz_S_drift_137 rfl ?_
                    refine gq_getX 2 2 zf_S_40 rfl rfl rfl dz_S_drift_138 ?_
                    refine gq_iconst (v := 0) dz_S_drift_141 rfl ?_
                    have hA4 : zc_rep (zq_up τ108.1 10 2 1 0, τ108.2) 2 (zs_rA (zs_actS (zs_ri X.1 s i).1 (zs_rD (zs_ri X.1 s i).1 (zs_ri X.1 s i).2.1))) := by rw [zs_rA, if_pos h126]; exact hq108.1.sg 0
                    refine gq_cV (sp_D_ownerNow hA4 hwA4 0) zw_D_ownerNow zl_S_150 dz_S_drift_142 rfl rfl rfl (by decide) rfl rfl (Nat.le_of_ble_eq_true rfl) ?_
                    refine gw_istore 9 dz_S_drift_145 (Nat.le_of_ble_eq_true rfl) rfl ?_
                    dsimp only [List.set]
                    refine gq_iload dz_S_drift_147 rfl ?_
                    refine gq_iload dz_S_drift_149 rfl ?_
                    refine gq_iload dz_S_drift_151 rfl ?_
                    refine gq_icmp_eq (tgt := 160) dz_S_drift_153 rfl (fun h153 => ?_) (fun h153 => ?_)
                    · skip
                      refine gq_iconst (v := 0) dz_S_drift_160 rfl ?_
                      refine gq_iadd dz_S_drift_161 ?_
                      refine gw_istore 6 dz_S_drift_162 (Nat.le_of_ble_eq_true rfl) rfl ?_
                      dsimp only [List.set]
                      refine gq_iload dz_S_drift_164 rfl ?_
                      refine gw_istore 5 dz_S_drift_166 (Nat.le_of_ble_eq_true rfl) rfl ?_
                      dsimp only [List.set]
                      refine gw_iinc 7 (c := 1) dz_S_drift_168 rfl rfl (Nat.le_of_ble_eq_true rfl) rfl ?_
                      dsimp only [List.set]
                      refine gq_goto (tgt := 66) dz_S_drift_171 rfl ?_
                      simp only [nI_1]
                      rw [show (zs_ri X.1 s i).2.2.1 + 0 = (zs_ri X.1 s (i + 1)).2.2.1 from zs_ri_e h153]
                      exact zq_fewer _ (zq_sub_spec (by repeat (first | exact trivial | exact rfl | refine And.intro ?_ ?_))) (ih66 (i + 1) _ (by omega) (by omega) ((hs.tr hq108.2).up (by omega) (by omega)) hA4)
                    · skip
                      refine gq_iconst (v := 1) dz_S_drift_156 rfl ?_
                      refine gq_goto (tgt := 161) dz_S_drift_157 rfl ?_
                      refine gq_iadd dz_S_drift_161 ?_
                      refine gw_istore 6 dz_S_drift_162 (Nat.le_of_ble_eq_true rfl) rfl ?_
                      dsimp only [List.set]
                      refine gq_iload dz_S_drift_164 rfl ?_
                      refine gw_istore 5 dz_S_drift_166 (Nat.le_of_ble_eq_true rfl) rfl ?_
                      dsimp only [List.set]
                      refine gw_iinc 7 (c := 1) dz_S_drift_168 rfl rfl (Nat.le_of_ble_eq_true rfl) rfl ?_
                      dsimp only [List.set]
                      refine gq_goto (tgt := 66) dz_S_drift_171 rfl ?_
                      simp only [nI_1]
                      rw [show (zs_ri X.1 s i).2.2.1 + 1 = (zs_ri X.1 s (i + 1)).2.2.1 from zs_ri_n h153]
                      exact zq_fewer _ (zq_sub_spec (by repeat (first | exact trivial | exact rfl | refine And.intro ?_ ?_))) (ih66 (i + 1) _ (by omega) (by omega) ((hs.tr hq108.2).up (by omega) (by omega)) hA4)
            exact zq_fewer _ (zq_sub_spec (by repeat (first | exact trivial | exact rfl | refine And.intro ?_ ?_))) (L66 (m + 1) 0 _ (by omega) (by omega) hq47.2 hq47.1)
          · skip
            have hn0 : za_n X.1 = 0 := by rcases Nat.eq_zero_or_pos (za_n X.1) with z | z; exact z; exact absurd (nI_lt (a := 0) z (by omega)) h33
            refine gq_bipush (v := -2) dz_S_drift_36 rfl ?_
            refine gw_iretP .int dz_S_drift_38 rfl (by first | rfl | exact zb_nar _) ?_ ?_
            · rw [zx_drift, hr, hw3, if_neg (by decide), if_pos hn0]
            · exact ⟨hS, zg_S.rf⟩
        · skip
          refine gq_iconst (v := -1) dz_S_drift_20 rfl ?_
          refine gw_iretP .int dz_S_drift_21 rfl (by first | rfl | exact zb_nar _) ?_ ?_
          · rw [zx_drift, hr, zx_3gt h17]; rfl
          · exact ⟨hS, zg_S.rf⟩
