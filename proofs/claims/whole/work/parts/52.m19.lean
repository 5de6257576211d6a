/-! THE MODEL'S PAGE ASIDE: drift, spoils -/
/-- but for the page aside, the row and the block all is the same -/
def zk_same (σ τ : zq_T) : Prop := τ.2.2 = σ.2.2 ∧ (∀ (t : Nat) (j : Fin 5) (k : Nat), ¬ (t = 31 ∨ t = 41 ∨ (t = 30 ∧ k = 25)) → τ.1 t j k = σ.1 t j k) ∧ ∀ k, k < 84 → τ.1 31 0 k = σ.1 31 0 k
theorem zk_same.rf {σ : zq_T} : zk_same σ σ := ⟨rfl, fun _ _ _ _ => rfl, fun _ _ => rfl⟩
theorem zk_same.tr {σ τ υ : zq_T} (h : zk_same σ τ) (h2 : zk_same τ υ) : zk_same σ υ := ⟨h2.1.trans h.1, fun t j k q => (h2.2.1 t j k q).trans (h.2.1 t j k q), fun k q => (h2.2.2 k q).trans (h.2.2 k q)⟩
theorem zk_same.M {σ τ : zq_T} (h : zk_same σ τ) : zg_M σ τ := ⟨h.1, fun t j k q => h.2.1 t j k (by omega)⟩
theorem zn_rep.zk {σ τ : zq_T} {A : za_D} (h : zn_rep σ A) (hs : zk_same σ τ) : zn_rep τ A := ⟨h.1.keep fun t k q => hs.2.1 _ _ _ (by omega), h.2.keep h.1.2.1 fun k _ _ => hs.2.2 _ (by omega)⟩
theorem zn_rep.as84 {σ τ : zq_T} {A : za_D} (h : zn_rep σ A) (hs : zp_same 84 σ τ) : zn_rep τ A := ⟨h.1.keep fun t k q => hs.2 _ _ _ (by omega), h.2.keep h.1.2.1 fun k _ _ => hs.2 _ _ _ (by omega)⟩
theorem zM_rep.as {σ τ : zq_T} {X : za_X} (h : zM_rep σ X) (hW : zx_wf X) (hs : zk_same σ τ) : zM_rep τ X :=
  ⟨h.1.zk hs, ⟨fun q => (h.2.1.1 q).keep ((zx_m5 h.1 hW).1 q) fun k _ _ => hs.2.2 _ (by omega), fun q => (h.2.1.2 q).keep ((zx_m5 h.1 hW).2 q) fun k _ _ => hs.2.2 _ (by omega)⟩, h.2.2.1.keep fun t k _ => hs.2.1 _ _ _ (by omega), h.2.2.2.1.keep fun t k _ _ => hs.2.1 _ _ _ (by omega), h.2.2.2.2.keep fun t k _ _ => hs.2.1 _ _ _ (by omega)⟩
theorem zk_rest {σ τ1 τ2 τ3 : zq_T} (h1 : zp_same 84 σ τ1) (c1 : ∀ k, k < 28 → τ1.1 31 0 (84 + k) = σ.1 31 0 (0 + k)) (h2 : zp_same 0 τ1 τ2) (h3 : zp_same 0 τ2 τ3) (c3 : ∀ k, k < 28 → τ3.1 31 0 (0 + k) = τ2.1 31 0 (84 + k)) : zk_same σ τ3 :=
  ⟨by rw [h3.1, h2.1, h1.1], fun t j k q => (h3.2 t j k (by omega)).trans ((h2.2 t j k (by omega)).trans (h1.2 t j k (by omega))), fun k hk => by
    by_cases z : k < 28
    · have e1 := c3 k z
      have e2 := c1 k z
      rw [Nat.zero_add] at e1 e2
      rw [e1, h2.2 31 0 (84 + k) (by omega), e2]
    · rw [h3.2 31 0 k (by omega), h2.2 31 0 k (by omega), h1.2 31 0 k (by omega)]⟩
theorem zn_drw (x : Int32) : (x >>> ((16 : Int32) &&& 31)) &&& 32767 = zs_drw x := by
  unfold zs_drw
  apply Int32.toBitVec_inj.mp
  rw [Int32.toBitVec_and, Int32.toBitVec_and, Int32.toBitVec_shiftRight, show (((16 : Int32) &&& 31).toBitVec.smod 32) = 16#32 from by decide]
  show x.toBitVec.sshiftRight' 16#32 &&& 32767#32 = (x.toBitVec >>> 16#32) &&& 32767#32
  apply BitVec.eq_of_getLsbD_eq
  intro i hi
  rw [BitVec.getLsbD_and, BitVec.getLsbD_and, BitVec.sshiftRight_eq', BitVec.getLsbD_sshiftRight, BitVec.ushiftRight_eq', BitVec.getLsbD_ushiftRight]
  by_cases h : i < 15
  · have h1 : 16 + i < 32 := by omega
    have h2 : ¬ 32 ≤ i := by omega
    simp [h1, h2]
  · have h3 : (32767#32).getLsbD i = false := by
      rw [BitVec.getLsbD_ofNat, show (32767 : Nat) = 2 ^ 15 - 1 from rfl, Nat.testBit_two_pow_sub_one, decide_eq_false h, Bool.and_false]
    rw [h3, Bool.and_false, Bool.and_false]
theorem zn_in160 {x : Int32} : zn_in x.toInt64 1 60 = zx_r160 x := by
  rw [zn_in32]
  unfold zx_r160
  refine decide_eq_decide.mpr ?_
  rw [Int32.le_iff_toInt_le, Int32.le_iff_toInt_le]
  exact Iff.rfl
theorem zx_r160_ex {n : Int32} (h : zx_r160 n = true) : ∃ m, m ≤ 60 ∧ n = nI m := by
  have h1 := of_decide_eq_true h
  refine zx_3ex (n := 60) (fun z => ?_) h1.2 (by omega)
  have h2 := h1.1
  rw [Int32.le_iff_toInt_le] at h2
  rw [Int32.lt_iff_toInt_lt] at z
  have : (1 : Int32).toInt = 1 := rfl
  have : (0 : Int32).toInt = 0 := rfl
  omega
theorem zs_nx_eq (x : Int32) : x * 1103515245 + 12345 = zs_nx x := rfl
theorem zn_rep.rA0 {σ : zq_T} {A : za_D} (h : zn_rep σ A) (hz : ¬ za_g A = nI (za_N A) - 1) : zn_rep (zq_up σ.1 31 0 12 (za_g A), σ.2) (zs_rA A) := by
  have e : zs_rA A = A := if_neg hz
  rw [e]
  exact h.sg (za_g A)
theorem zn_rep.rA1 {σ : zq_T} {A : za_D} (h : zn_rep σ A) (hz : za_g A = nI (za_N A) - 1) : zn_rep (zq_up σ.1 31 0 12 0, σ.2) (zs_rA A) := by
  have e : zs_rA A = za_sg A 0 := if_pos hz
  rw [e]
  exact h.sg 0
/-- what a ONE spoils, as the model looks for it -/
def zn_spf (A : za_D) (q t c : Nat) : Bool := zs_can A (10 * q + c) && decide (¬ zs_own (zs_acts A (10 * q + c)) (nI t) (za_g (zs_acts A (10 * q + c))) 31 = nI q)
def zn_spt (A : za_D) (q t : Nat) : Bool := decide (zs_own A (nI t) (za_g A) 31 = nI q) && zf_any (zn_spf A q t) 6
def zn_g4 (a b c d : Bool) : Int32 := zf_or (fun t => if t = 0 then a else if t = 1 then b else if t = 2 then c else d) 4
theorem zn_g4_eq (P : Nat → Bool) : zf_or P 4 = zn_g4 (P 0) (P 1) (P 2) (P 3) := rfl
theorem zn_g4_op : ∀ r0 r1 r2 r3 p0 p1 p2 p3 n0 n1 n2 n3 : Bool, zn_g4 r0 r1 r2 r3 ||| (zn_g4 p0 p1 p2 p3 &&& (zn_g4 n0 n1 n2 n3 ^^^ -1)) = zn_g4 (r0 || (p0 && !n0)) (r1 || (p1 && !n1)) (r2 || (p2 && !n2)) (r3 || (p3 && !n3)) := by decide +kernel
theorem zn_or4 (R P N : Nat → Bool) : zf_or R 4 ||| (zf_or P 4 &&& (zf_or N 4 ^^^ -1)) = zf_or (fun t => R t || (P t && !N t)) 4 := by
  rw [zn_g4_eq, zn_g4_eq, zn_g4_eq, zn_g4_eq, zn_g4_op]
theorem zn_spoil_eq (A : za_D) (q : Nat) : ∀ c, zf_fo (zs_spf A q) 0 c = zf_or (fun t => decide (zs_own A (nI t) (za_g A) 31 = nI q) && zf_any (zn_spf A q t) c) 4
  | 0 => by
    show (0 : Int32) = zf_or (fun t => decide (zs_own A (nI t) (za_g A) 31 = nI q) && false) 4
    rw [show (fun t => decide (zs_own A (nI t) (za_g A) 31 = nI q) && false) = (fun _ : Nat => false) from funext fun t => Bool.and_false _]
    rfl
  | c + 1 => by
    show zs_spf A q c (zf_fo (zs_spf A q) 0 c) = _
    rw [zn_spoil_eq A q c]
    unfold zs_spf
    by_cases h : zs_can A (10 * q + c) = true
    · rw [if_pos h, zs_thg, zs_thg, zn_or4]
      congr 1
      funext t
      show _ = (decide (zs_own A (nI t) (za_g A) 31 = nI q) && (zf_any (zn_spf A q t) c || zn_spf A q t c))
      rw [show zn_spf A q t c = !decide (zs_own (zs_acts A (10 * q + c)) (nI t) (za_g (zs_acts A (10 * q + c))) 31 = nI q) from by rw [zn_spf, h, Bool.true_and, decide_not]]
      cases decide (zs_own A (nI t) (za_g A) 31 = nI q) <;> rfl
    · rw [if_neg h]
      congr 1
      funext t
      show _ = (decide (zs_own A (nI t) (za_g A) 31 = nI q) && (zf_any (zn_spf A q t) c || zn_spf A q t c))
      rw [show zn_spf A q t c = false from by rw [zn_spf, show zs_can A (10 * q + c) = false from by simpa using h]; rfl, Bool.or_false]

set_option maxHeartbeats 4000000 in
theorem sp_M_drift {σ : zq_T} {X : za_X} (hS : zM_rep σ X) (hW : zx_wf X) (s n w : Int32) : zq_Sp zm_M_drift 8 [zq_O 30 0, zq_I s, zq_I n, zq_I w] σ (zq_rw (zq_I (zx_drift X.1 s n w)) (fun τ => zM_rep τ (X) ∧ zg_M σ τ)) := by
  have hA : zn_rep σ X.1 := hS.1
  have hw : za_wf X.1 := hW.1
  have hn6 := zn_n6 hA
  have hm5 := zn_m5 hA
  refine zq_sp [some (zq_O 30 0), some (zq_I s), some (zq_I n), some (zq_I w), none, none, none, none, none, none, none] (by decide +kernel) rfl (Nat.le_of_ble_eq_true rfl) (fun ν => ?_)
  refine gq_iload_n dz_M_drift_0 rfl ?_
  refine gq_i2l dz_M_drift_1 ?_
  refine gq_lconst (v := 1) dz_M_drift_2 rfl ?_
  refine gq_ldc2 zl_M_289 dz_M_drift_3 ?_
  refine gq_cS (sp_M_in _ _ _) zw_M_in zl_M_65 dz_M_drift_6 (by decide) rfl rfl (Nat.le_of_ble_eq_true rfl) ?_
  refine gw_ifb_eq (tgt := 22) dz_M_drift_9 rfl (fun h9 => ?_) (fun h9 => ?_)
  · skip
    rw [zn_in160] at h9
    refine gq_iconst (v := -1) dz_M_drift_22 rfl ?_
    refine gw_iretP .int dz_M_drift_23 rfl (by first | rfl | exact zb_nar _ | exact pk_nc _) ?_ ?_
    · rw [zx_drift, h9]; rfl
    · exact ⟨hS, zg_M.rf⟩
  · skip
    rw [zn_in160] at h9
    refine gq_iload_n dz_M_drift_12 rfl ?_
    refine gq_i2l dz_M_drift_13 ?_
    refine gq_lconst (v := 0) dz_M_drift_14 rfl ?_
    refine gq_lconst (v := 1) dz_M_drift_15 rfl ?_
    refine gq_cS (sp_M_in _ _ _) zw_M_in zl_M_65 dz_M_drift_16 (by decide) rfl rfl (Nat.le_of_ble_eq_true rfl) ?_
    refine gw_ifb_ne (tgt := 24) dz_M_drift_19 rfl (fun h19 => ?_) (fun h19 => ?_)
    · skip
      rw [zn_in3 (n := 1) rfl rfl (by omega)] at h19
      obtain ⟨m, hm, rfl⟩ := zx_r160_ex h9
      have hw3 : zx_3 w 1 = true := h19
      refine gq_aload_n dz_M_drift_24 rfl ?_
      refine gq_getI zf_M_158 rfl rfl dz_M_drift_25 ?_
      rw [zn_n hA]
      refine gq_if_ne (tgt := 34) dz_M_drift_28 rfl (fun h28 => ?_) (fun h28 => ?_)
      · skip
        have hn0 : 0 < za_n X.1 := by rcases Nat.eq_zero_or_pos (za_n X.1) with z | z; exact absurd (show nI (za_n X.1) = 0 by rw [z]; rfl) h28; exact z
        refine gq_aload_n dz_M_drift_34 rfl ?_
        refine gq_iconst (v := 0) dz_M_drift_35 rfl ?_
        refine gq_bipush (v := 84) dz_M_drift_36 rfl ?_
        refine gq_cVX (sp_M_copies (a := 0) (b := 84) (by omega) (by omega) (by omega)) zw_M_copies zl_M_246 dz_M_drift_38 rfl rfl rfl (by decide) rfl rfl (Nat.le_of_ble_eq_true rfl) (fun τ38 hq38 => ?_)
        have hA1 : zn_rep τ38 X.1 := hA.as84 hq38.1
        refine gq_iload_n dz_M_drift_41 rfl ?_
        refine gw_istore 4 dz_M_drift_42 (Nat.le_of_ble_eq_true rfl) rfl ?_
        dsimp only [List.set]
        refine gq_iconst (v := 0) dz_M_drift_44 rfl ?_
        refine gw_istore 5 dz_M_drift_45 (Nat.le_of_ble_eq_true rfl) rfl ?_
        dsimp only [List.set]
        refine gq_aload_n dz_M_drift_47 rfl ?_
        refine gq_iconst (v := 0) dz_M_drift_48 rfl ?_
        refine gq_aload_n dz_M_drift_49 rfl ?_
        refine gq_getR 31 zf_M_7 rfl rfl dz_M_drift_50 ?_
        refine gq_bipush (v := 12) dz_M_drift_53 rfl ?_
        refine gw_iald (12) (rfl) rfl (rfl) (Nat.le_of_ble_eq_true rfl) (by omega) dz_M_drift_55 ?_
        rw [zn_g hA1]
        refine gq_cV (sp_M_ownerIn hA1 hw _ _) zw_M_ownerIn zl_M_220 dz_M_drift_56 rfl rfl rfl (by decide) rfl rfl (Nat.le_of_ble_eq_true rfl) ?_
        refine gw_istore 6 dz_M_drift_59 (Nat.le_of_ble_eq_true rfl) rfl ?_
        dsimp only [List.set]
        refine gq_iconst (v := 0) dz_M_drift_61 rfl ?_
        refine gw_istore 7 dz_M_drift_62 (Nat.le_of_ble_eq_true rfl) rfl ?_
        dsimp only [List.set]
        have L64 : ∀ (kf : Nat) (i : Nat) (τ : zq_T) (hkf : m - i < kf) (hi : i ≤ m) (hs : zp_same 0 τ38 τ) (hT : zn_rep τ (zs_ri X.1 s i).1), zq_G ν zm_M_drift 8 (zq_rw (zq_I (zx_drift X.1 s (nI m) w)) (fun τ => zM_rep τ (X) ∧ zg_M σ τ)) 64 [some (zq_O 30 0), some (zq_I s), some (zq_I (nI m)), some (zq_I w), some (zq_I (zs_ri X.1 s i).2.1), some (zq_I (zs_ri X.1 s i).2.2.1), some (zq_I (zs_ri X.1 s i).2.2.2), some (zq_I (nI i)), none, none, none] [] τ := by
          intro kf
          induction kf with
          | zero => intro i τ hkf hi hs hT; exact absurd hkf (Nat.not_lt_zero _)
          | succ kf ih64 =>
            intro i τ hkf hi hs hT
            obtain ⟨hRw, hRn⟩ := zs_ri_wf hw hn6 s i
            have hRn6 : za_n (zs_ri X.1 s i).1 ≤ 6 := by rw [hRn]; exact hn6
            have hwA4 := (hRw.actS hRn6 (zs_rD (zs_ri X.1 s i).1 (zs_ri X.1 s i).2.1)).rA
            have hm1 := Nat.mod_lt (zs_j (zs_nx (zs_ri X.1 s i).2.1)) hn0
            have hm2 := Nat.mod_lt (zs_j (zs_nx (zs_nx (zs_ri X.1 s i).2.1))) (show 0 < 7 by omega)
            have hD : zs_rD (zs_ri X.1 s i).1 (zs_ri X.1 s i).2.1 < 2 ^ 31 := by rw [zs_rD, hRn]; omega
            have hDp : (zs_rD (zs_ri X.1 s i).1 (zs_ri X.1 s i).2.1) / 10 < za_n (zs_ri X.1 s i).1 := by rw [zs_rD, hRn]; omega
            have hDf : (zs_rD (zs_ri X.1 s i).1 (zs_ri X.1 s i).2.1) % 10 < 7 := by rw [zs_rD, hRn]; omega
            refine gq_iload dz_M_drift_64 rfl ?_
            refine gq_iload_n dz_M_drift_66 rfl ?_
            refine gq_icmp_ge (tgt := 220) dz_M_drift_67 rfl (fun h67 => ?_) (fun h67 => ?_)
            · skip
              have hi4 : i = m := zq_leq h67 hi (by omega)
              subst hi4
              refine gq_aload_n dz_M_drift_220 rfl ?_
              refine gq_bipush (v := 84) dz_M_drift_221 rfl ?_
              refine gq_iconst (v := 0) dz_M_drift_223 rfl ?_
              refine gq_cVX (sp_M_copies (a := 84) (b := 0) (by omega) (by omega) (by omega)) zw_M_copies zl_M_246 dz_M_drift_224 rfl rfl rfl (by decide) rfl rfl (Nat.le_of_ble_eq_true rfl) (fun τ224 hq224 => ?_)
              refine gq_iload_n dz_M_drift_227 rfl ?_
              refine gq_if_ne (tgt := 236) dz_M_drift_228 rfl (fun h228 => ?_) (fun h228 => ?_)
              · skip
                refine gq_iload dz_M_drift_236 rfl ?_
                refine gw_iretP .int dz_M_drift_238 rfl (by first | rfl | exact zb_nar _ | exact pk_nc _) ?_ ?_
                · rw [zx_drift, h9, hw3, if_neg (by decide), if_neg (by omega), if_neg h228, nI_clamp (by omega)]
                · exact ⟨hS.as hW (zk_rest hq38.1 hq38.2 hs hq224.1 hq224.2), (zk_rest hq38.1 hq38.2 hs hq224.1 hq224.2).M⟩
              · skip
                refine gq_iload dz_M_drift_231 rfl ?_
                refine gq_goto (tgt := 238) dz_M_drift_233 rfl ?_
                refine gw_iretP .int dz_M_drift_238 rfl (by first | rfl | exact zb_nar _ | exact pk_nc _) ?_ ?_
                · rw [zx_drift, h9, hw3, if_neg (by decide), if_neg (by omega), if_pos h228, nI_clamp (by omega)]
                · exact ⟨hS.as hW (zk_rest hq38.1 hq38.2 hs hq224.1 hq224.2), (zk_rest hq38.1 hq38.2 hs hq224.1 hq224.2).M⟩
            · skip
              have i2 : i < m := by rcases Nat.lt_or_ge i (m) with z | z; exact z; exact absurd (nI_le z (by omega)) h67
              refine gq_iload dz_M_drift_70 rfl ?_
              refine gq_ldcw zl_M_291 dz_M_drift_72 ?_
              refine gq_imul dz_M_drift_75 ?_
              refine gq_sipush (v := 12345) dz_M_drift_76 rfl ?_
              refine gq_iadd dz_M_drift_79 ?_
              rw [zs_nx_eq]
              refine gw_istore 4 dz_M_drift_80 (Nat.le_of_ble_eq_true rfl) rfl ?_
              dsimp only [List.set]
              refine gq_iload dz_M_drift_82 rfl ?_
              refine gq_bipush (v := 16) dz_M_drift_84 rfl ?_
              refine gq_ishr dz_M_drift_86 ?_
              refine gq_sipush (v := 32767) dz_M_drift_87 rfl ?_
              refine gq_iand dz_M_drift_90 ?_
              rw [zn_drw, zs_drw_j]
              refine gq_aload_n dz_M_drift_91 rfl ?_
              refine gq_getI zf_M_158 rfl rfl dz_M_drift_92 ?_
              rw [zn_n hT, hRn]
              refine gq_irem dz_M_drift_95 (fun z => by have := (nI_eq (b := 0) (by omega) (by omega)).mp z; omega) ?_
              rw [pk_rem (by have := zs_j_lt (zs_nx (zs_ri X.1 s i).2.1); omega) hn0 (by omega)]
              refine gw_istore 8 dz_M_drift_96 (Nat.le_of_ble_eq_true rfl) rfl ?_
              dsimp only [List.set]
              refine gq_iload dz_M_drift_98 rfl ?_
              refine gq_ldcw zl_M_291 dz_M_drift_100 ?_
              refine gq_imul dz_M_drift_103 ?_
              refine gq_sipush (v := 12345) dz_M_drift_104 rfl ?_
              refine gq_iadd dz_M_drift_107 ?_
              rw [zs_nx_eq]
              refine gw_istore 4 dz_M_drift_108 (Nat.le_of_ble_eq_true rfl) rfl ?_
              dsimp only [List.set]
              refine gq_bipush (v := 10) dz_M_drift_110 rfl ?_
              refine gq_iload dz_M_drift_112 rfl ?_
              refine gq_imul dz_M_drift_114 ?_
              rw [show (10 : Int32) = nI 10 from rfl, pk_mul]
              refine gq_iload dz_M_drift_115 rfl ?_
              refine gq_bipush (v := 16) dz_M_drift_117 rfl ?_
              refine gq_ishr dz_M_drift_119 ?_
              refine gq_sipush (v := 32767) dz_M_drift_120 rfl ?_
              refine gq_iand dz_M_drift_123 ?_
              rw [zn_drw, zs_drw_j]
              refine gq_bipush (v := 7) dz_M_drift_124 rfl ?_
              refine gq_irem dz_M_drift_126 (by decide) ?_
              rw [show (7 : Int32) = nI 7 from rfl, pk_rem (by have := zs_j_lt (zs_nx (zs_nx (zs_ri X.1 s i).2.1)); omega) (by omega) (by omega)]
              refine gq_iadd dz_M_drift_127 ?_
              rw [nI_add, show 10 * (zs_j (zs_nx (zs_ri X.1 s i).2.1) % za_n X.1) + zs_j (zs_nx (zs_nx (zs_ri X.1 s i).2.1)) % 7 = zs_rD (zs_ri X.1 s i).1 (zs_ri X.1 s i).2.1 from by rw [zs_rD, hRn]]
              refine gw_istore 9 dz_M_drift_128 (Nat.le_of_ble_eq_true rfl) rfl ?_
              dsimp only [List.set]
              refine gq_aload_n dz_M_drift_130 rfl ?_
              refine gq_iload dz_M_drift_131 rfl ?_
              refine gq_cV (sp_M_canDo hT hRw hD hDp hDf) zw_M_canDo zl_M_226 dz_M_drift_133 rfl rfl rfl (by decide) rfl rfl (Nat.le_of_ble_eq_true rfl) ?_
              refine gw_ifb_eq (tgt := 145) dz_M_drift_136 rfl (fun h136 => ?_) (fun h136 => ?_)
              · skip
                have hA3 : zn_rep τ (zs_actS (zs_ri X.1 s i).1 (zs_rD (zs_ri X.1 s i).1 (zs_ri X.1 s i).2.1)) := hT.to (zs_actS_cannot h136).symm
                have hs3 := hs
                refine gq_aload_n dz_M_drift_145 rfl ?_
                refine gq_getR 31 zf_M_7 rfl rfl dz_M_drift_146 ?_
                refine gq_bipush (v := 12) dz_M_drift_149 rfl ?_
                refine gq_aload_n dz_M_drift_151 rfl ?_
                refine gq_getR 31 zf_M_7 rfl rfl dz_M_drift_152 ?_
                refine gq_bipush (v := 12) dz_M_drift_155 rfl ?_
                refine gw_iald (12) (rfl) rfl (rfl) (Nat.le_of_ble_eq_true rfl) (by omega) dz_M_drift_157 ?_
                rw [zn_g hA3]
                refine gq_aload_n dz_M_drift_158 rfl ?_
                refine gq_cV (sp_M_cases hA3) zw_M_cases zl_M_254 dz_M_drift_159 rfl rfl rfl (by decide) rfl rfl (Nat.le_of_ble_eq_true rfl) ?_
                rw [zs_actS_n, hRn, za_caN hn6, show za_N X.1 = za_N (zs_actS (zs_ri X.1 s i).1 (zs_rD (zs_ri X.1 s i).1 (zs_ri X.1 s i).2.1)) from by rw [za_N, za_N, zs_actS_n, hRn]]
                refine gq_iconst (v := 1) dz_M_drift_162 rfl ?_
                refine gq_isub dz_M_drift_163 ?_
                refine gq_icmp_ne (tgt := 171) dz_M_drift_164 rfl (fun h164 => ?_) (fun h164 => ?_)
                · skip
                  have hA4 := hA3.rA0 h164
                  refine gq_aload_n dz_M_drift_171 rfl ?_
                  refine gq_getR 31 zf_M_7 rfl rfl dz_M_drift_172 ?_
                  refine gq_bipush (v := 12) dz_M_drift_175 rfl ?_
                  refine gw_iald (12) (rfl) rfl (rfl) (Nat.le_of_ble_eq_true rfl) (by omega) dz_M_drift_177 ?_
                  rw [zn_g hA3]
                  refine gw_iast (12) (rfl) rfl (rfl) (Nat.le_of_ble_eq_true rfl) (by omega) dz_M_drift_178 ?_
                  refine gq_aload_n dz_M_drift_179 rfl ?_
                  refine gq_iconst (v := 0) dz_M_drift_180 rfl ?_
                  refine gq_aload_n dz_M_drift_181 rfl ?_
                  refine gq_getR 31 zf_M_7 rfl rfl dz_M_drift_182 ?_
                  refine gq_bipush (v := 12) dz_M_drift_185 rfl ?_
                  refine gw_iald (12) (rfl) rfl (rfl) (Nat.le_of_ble_eq_true rfl) (by omega) dz_M_drift_187 ?_
                  rw [zn_g hA4]
                  refine gq_cV (sp_M_ownerIn hA4 hwA4 _ _) zw_M_ownerIn zl_M_220 dz_M_drift_188 rfl rfl rfl (by decide) rfl rfl (Nat.le_of_ble_eq_true rfl) ?_
                  refine gw_istore 10 dz_M_drift_191 (Nat.le_of_ble_eq_true rfl) rfl ?_
                  dsimp only [List.set]
                  refine gq_iload dz_M_drift_193 rfl ?_
                  refine gq_iload dz_M_drift_195 rfl ?_
                  refine gq_iload dz_M_drift_197 rfl ?_
                  refine gq_icmp_eq (tgt := 206) dz_M_drift_199 rfl (fun h199 => ?_) (fun h199 => ?_)
                  · skip
                    refine gq_iconst (v := 0) dz_M_drift_206 rfl ?_
                    refine gq_iadd dz_M_drift_207 ?_
                    refine gw_istore 5 dz_M_drift_208 (Nat.le_of_ble_eq_true rfl) rfl ?_
                    dsimp only [List.set]
                    refine gq_iload dz_M_drift_210 rfl ?_
                    refine gw_istore 6 dz_M_drift_212 (Nat.le_of_ble_eq_true rfl) rfl ?_
                    dsimp only [List.set]
                    refine gw_iinc 7 (c := 1) dz_M_drift_214 rfl rfl (Nat.le_of_ble_eq_true rfl) rfl ?_
                    dsimp only [List.set]
                    refine gq_goto (tgt := 64) dz_M_drift_217 rfl ?_
                    simp only [nI_1]
                    rw [show (zs_ri X.1 s i).2.2.1 + 0 = (zs_ri X.1 s (i + 1)).2.2.1 from zs_ri_e h199]
                    exact zq_fewer _ (zq_sub_spec (by repeat (first | exact trivial | exact rfl | refine And.intro ?_ ?_))) (ih64 (i + 1) _ (by omega) (by omega) (hs3.up (by omega) (by omega)) hA4)
                  · skip
                    refine gq_iconst (v := 1) dz_M_drift_202 rfl ?_
                    refine gq_goto (tgt := 207) dz_M_drift_203 rfl ?_
                    refine gq_iadd dz_M_drift_207 ?_
                    refine gw_istore 5 dz_M_drift_208 (Nat.le_of_ble_eq_true rfl) rfl ?_
                    dsimp only [List.set]
                    refine gq_iload dz_M_drift_210 rfl ?_
                    refine gw_istore 6 dz_M_drift_212 (Nat.le_of_ble_eq_true rfl) rfl ?_
                    dsimp only [List.set]
                    refine gw_iinc 7 (c := 1) dz_M_drift_214 rfl rfl (Nat.le_of_ble_eq_true rfl) rfl ?_
                    dsimp only [List.set]
                    refine gq_goto (tgt := 64) dz_M_drift_217 rfl ?_
                    simp only [nI_1]
                    rw [show (zs_ri X.1 s i).2.2.1 + 1 = (zs_ri X.1 s (i + 1)).2.2.1 from zs_ri_n h199]
                    exact zq_fewer _ (zq_sub_spec (by repeat (first | exact trivial | exact rfl | refine And.intro ?_ ?_))) (ih64 (i + 1) _ (by omega) (by omega) (hs3.up (by omega) (by omega)) hA4)
                · skip
                  have hA4 := hA3.rA1 h164
                  refine gq_iconst (v := 0) dz_M_drift_167 rfl ?_
                  refine gq_goto (tgt := 178) dz_M_drift_168 rfl ?_
                  refine gw_iast (12) (rfl) rfl (rfl) (Nat.le_of_ble_eq_true rfl) (by omega) dz_M_drift_178 ?_
                  refine gq_aload_n dz_M_drift_179 rfl ?_
                  refine gq_iconst (v := 0) dz_M_drift_180 rfl ?_
                  refine gq_aload_n dz_M_drift_181 rfl ?_
                  refine gq_getR 31 zf_M_7 rfl rfl dz_M_drift_182 ?_
                  refine gq_bipush (v := 12) dz_M_drift_185 rfl ?_
                  refine gw_iald (12) (rfl) rfl (rfl) (Nat.le_of_ble_eq_true rfl) (by omega) dz_M_drift_187 ?_
                  rw [zn_g hA4]
                  refine gq_cV (sp_M_ownerIn hA4 hwA4 _ _) zw_M_ownerIn zl_M_220 dz_M_drift_188 rfl rfl rfl (by decide) rfl rfl (Nat.le_of_ble_eq_true rfl) ?_
                  refine gw_istore 10 dz_M_drift_191 (Nat.le_of_ble_eq_true rfl) rfl ?_
                  dsimp only [List.set]
                  refine gq_iload dz_M_drift_193 rfl ?_
                  refine gq_iload dz_M_drift_195 rfl ?_
                  refine gq_iload dz_M_drift_197 rfl ?_
                  refine gq_icmp_eq (tgt := 206) dz_M_drift_199 rfl (fun h199 => ?_) (fun h199 => ?_)
                  · skip
                    refine gq_iconst (v := 0) dz_M_drift_206 rfl ?_
                    refine gq_iadd dz_M_drift_207 ?_
                    refine gw_istore 5 dz_M_drift_208 (Nat.le_of_ble_eq_true rfl) rfl ?_
                    dsimp only [List.set]
                    refine gq_iload dz_M_drift_210 rfl ?_
                    refine gw_istore 6 dz_M_drift_212 (Nat.le_of_ble_eq_true rfl) rfl ?_
                    dsimp only [List.set]
                    refine gw_iinc 7 (c := 1) dz_M_drift_214 rfl rfl (Nat.le_of_ble_eq_true rfl) rfl ?_
                    dsimp only [List.set]
                    refine gq_goto (tgt := 64) dz_M_drift_217 rfl ?_
                    simp only [nI_1]
                    rw [show (zs_ri X.1 s i).2.2.1 + 0 = (zs_ri X.1 s (i + 1)).2.2.1 from zs_ri_e h199]
                    exact zq_fewer _ (zq_sub_spec (by repeat (first | exact trivial | exact rfl | refine And.intro ?_ ?_))) (ih64 (i + 1) _ (by omega) (by omega) (hs3.up (by omega) (by omega)) hA4)
                  · skip
                    refine gq_iconst (v := 1) dz_M_drift_202 rfl ?_
                    refine gq_goto (tgt := 207) dz_M_drift_203 rfl ?_
                    refine gq_iadd dz_M_drift_207 ?_
                    refine gw_istore 5 dz_M_drift_208 (Nat.le_of_ble_eq_true rfl) rfl ?_
                    dsimp only [List.set]
                    refine gq_iload dz_M_drift_210 rfl ?_
                    refine gw_istore 6 dz_M_drift_212 (Nat.le_of_ble_eq_true rfl) rfl ?_
                    dsimp only [List.set]
                    refine gw_iinc 7 (c := 1) dz_M_drift_214 rfl rfl (Nat.le_of_ble_eq_true rfl) rfl ?_
                    dsimp only [List.set]
                    refine gq_goto (tgt := 64) dz_M_drift_217 rfl ?_
                    simp only [nI_1]
                    rw [show (zs_ri X.1 s i).2.2.1 + 1 = (zs_ri X.1 s (i + 1)).2.2.1 from zs_ri_n h199]
                    exact zq_fewer _ (zq_sub_spec (by repeat (first | exact trivial | exact rfl | refine And.intro ?_ ?_))) (ih64 (i + 1) _ (by omega) (by omega) (hs3.up (by omega) (by omega)) hA4)
              · skip
                refine gq_aload_n dz_M_drift_139 rfl ?_
                refine gq_iload dz_M_drift_140 rfl ?_
                refine gq_cVX (sp_M_doesIt hT hRw hD hDp hDf) zw_M_doesIt zl_M_229 dz_M_drift_142 rfl rfl rfl (by decide) rfl rfl (Nat.le_of_ble_eq_true rfl) (fun τ142 hq142 => ?_)
                have hA3 : zn_rep τ142 (zs_actS (zs_ri X.1 s i).1 (zs_rD (zs_ri X.1 s i).1 (zs_ri X.1 s i).2.1)) := hq142.2.to (zs_actS_can h136).symm
                have hs3 := hs.tr hq142.1
                refine gq_aload_n dz_M_drift_145 rfl ?_
                refine gq_getR 31 zf_M_7 rfl rfl dz_M_drift_146 ?_
                refine gq_bipush (v := 12) dz_M_drift_149 rfl ?_
                refine gq_aload_n dz_M_drift_151 rfl ?_
                refine gq_getR 31 zf_M_7 rfl rfl dz_M_drift_152 ?_
                refine gq_bipush (v := 12) dz_M_drift_155 rfl ?_
                refine gw_iald (12) (rfl) rfl (rfl) (Nat.le_of_ble_eq_true rfl) (by omega) dz_M_drift_157 ?_
                rw [zn_g hA3]
                refine gq_aload_n dz_M_drift_158 rfl ?_
                refine gq_cV (sp_M_cases hA3) zw_M_cases zl_M_254 dz_M_drift_159 rfl rfl rfl (by decide) rfl rfl (Nat.le_of_ble_eq_true rfl) ?_
                rw [zs_actS_n, hRn, za_caN hn6, show za_N X.1 = za_N (zs_actS (zs_ri X.1 s i).1 (zs_rD (zs_ri X.1 s i).1 (zs_ri X.1 s i).2.1)) from by rw [za_N, za_N, zs_actS_n, hRn]]
                refine gq_iconst (v := 1) dz_M_drift_162 rfl ?_
                refine gq_isub dz_M_drift_163 ?_
                refine gq_icmp_ne (tgt := 171) dz_M_drift_164 rfl (fun h164 => ?_) (fun h164 => ?_)
                · skip
                  have hA4 := hA3.rA0 h164
                  refine gq_aload_n dz_M_drift_171 rfl ?_
                  refine gq_getR 31 zf_M_7 rfl rfl dz_M_drift_172 ?_
                  refine gq_bipush (v := 12) dz_M_drift_175 rfl ?_
                  refine gw_iald (12) (rfl) rfl (rfl) (Nat.le_of_ble_eq_true rfl) (by omega) dz_M_drift_177 ?_
                  rw [zn_g hA3]
                  refine gw_iast (12) (rfl) rfl (rfl) (Nat.le_of_ble_eq_true rfl) (by omega) dz_M_drift_178 ?_
                  refine gq_aload_n dz_M_drift_179 rfl ?_
                  refine gq_iconst (v := 0) dz_M_drift_180 rfl ?_
                  refine gq_aload_n dz_M_drift_181 rfl ?_
                  refine gq_getR 31 zf_M_7 rfl rfl dz_M_drift_182 ?_
                  refine gq_bipush (v := 12) dz_M_drift_185 rfl ?_
                  refine gw_iald (12) (rfl) rfl (rfl) (Nat.le_of_ble_eq_true rfl) (by omega) dz_M_drift_187 ?_
                  rw [zn_g hA4]
                  refine gq_cV (sp_M_ownerIn hA4 hwA4 _ _) zw_M_ownerIn zl_M_220 dz_M_drift_188 rfl rfl rfl (by decide) rfl rfl (Nat.le_of_ble_eq_true rfl) ?_
                  refine gw_istore 10 dz_M_drift_191 (Nat.le_of_ble_eq_true rfl) rfl ?_
                  dsimp only [List.set]
                  refine gq_iload dz_M_drift_193 rfl ?_
                  refine gq_iload dz_M_drift_195 rfl ?_
                  refine gq_iload dz_M_drift_197 rfl ?_
                  refine gq_icmp_eq (tgt := 206) dz_M_drift_199 rfl (fun h199 => ?_) (fun h199 => ?_)
                  · skip
                    refine gq_iconst (v := 0) dz_M_drift_206 rfl ?_
                    refine gq_iadd dz_M_drift_207 ?_
                    refine gw_istore 5 dz_M_drift_208 (Nat.le_of_ble_eq_true rfl) rfl ?_
                    dsimp only [List.set]
                    refine gq_iload dz_M_drift_210 rfl ?_
                    refine gw_istore 6 dz_M_drift_212 (Nat.le_of_ble_eq_true rfl) rfl ?_
                    dsimp only [List.set]
                    refine gw_iinc 7 (c := 1) dz_M_drift_214 rfl rfl (Nat.le_of_ble_eq_true rfl) rfl ?_
                    dsimp only [List.set]
                    refine gq_goto (tgt := 64) dz_M_drift_217 rfl ?_
                    simp only [nI_1]
                    rw [show (zs_ri X.1 s i).2.2.1 + 0 = (zs_ri X.1 s (i + 1)).2.2.1 from zs_ri_e h199]
                    exact zq_fewer _ (zq_sub_spec (by repeat (first | exact trivial | exact rfl | refine And.intro ?_ ?_))) (ih64 (i + 1) _ (by omega) (by omega) (hs3.up (by omega) (by omega)) hA4)
                  · skip
                    refine gq_iconst (v := 1) dz_M_drift_202 rfl ?_
                    refine gq_goto (tgt := 207) dz_M_drift_203 rfl ?_
                    refine gq_iadd dz_M_drift_207 ?_
                    refine gw_istore 5 dz_M_drift_208 (Nat.le_of_ble_eq_true rfl) rfl ?_
                    dsimp only [List.set]
                    refine gq_iload dz_M_drift_210 rfl ?_
                    refine gw_istore 6 dz_M_drift_212 (Nat.le_of_ble_eq_true rfl) rfl ?_
                    dsimp only [List.set]
                    refine gw_iinc 7 (c := 1) dz_M_drift_214 rfl rfl (Nat.le_of_ble_eq_true rfl) rfl ?_
                    dsimp only [List.set]
                    refine gq_goto (tgt := 64) dz_M_drift_217 rfl ?_
                    simp only [nI_1]
                    rw [show (zs_ri X.1 s i).2.2.1 + 1 = (zs_ri X.1 s (i + 1)).2.2.1 from zs_ri_n h199]
                    exact zq_fewer _ (zq_sub_spec (by repeat (first | exact trivial | exact rfl | refine And.intro ?_ ?_))) (ih64 (i + 1) _ (by omega) (by omega) (hs3.up (by omega) (by omega)) hA4)
                · skip
                  have hA4 := hA3.rA1 h164
                  refine gq_iconst (v := 0) dz_M_drift_167 rfl ?_
                  refine gq_goto (tgt := 178) dz_M_drift_168 rfl ?_
                  refine gw_iast (12) (rfl) rfl (rfl) (Nat.le_of_ble_eq_true rfl) (by omega) dz_M_drift_178 ?_
                  refine gq_aload_n dz_M_drift_179 rfl ?_
                  refine gq_iconst (v := 0) dz_M_drift_180 rfl ?_
                  refine gq_aload_n dz_M_drift_181 rfl ?_
                  refine gq_getR 31 zf_M_7 rfl rfl dz_M_drift_182 ?_
                  refine gq_bipush (v := 12) dz_M_drift_185 rfl ?_
                  refine gw_iald (12) (rfl) rfl (rfl) (Nat.le_of_ble_eq_true rfl) (by omega) dz_M_drift_187 ?_
                  rw [zn_g hA4]
                  refine gq_cV (sp_M_ownerIn hA4 hwA4 _ _) zw_M_ownerIn zl_M_220 dz_M_drift_188 rfl rfl rfl (by decide) rfl rfl (Nat.le_of_ble_eq_true rfl) ?_
                  refine gw_istore 10 dz_M_drift_191 (Nat.le_of_ble_eq_true rfl) rfl ?_
                  dsimp only [List.set]
                  refine gq_iload dz_M_drift_193 rfl ?_
                  refine gq_iload dz_M_drift_195 rfl ?_
                  refine gq_iload dz_M_drift_197 rfl ?_
                  refine gq_icmp_eq (tgt := 206) dz_M_drift_199 rfl (fun h199 => ?_) (fun h199 => ?_)
                  · skip
                    refine gq_iconst (v := 0) dz_M_drift_206 rfl ?_
                    refine gq_iadd dz_M_drift_207 ?_
                    refine gw_istore 5 dz_M_drift_208 (Nat.le_of_ble_eq_true rfl) rfl ?_
                    dsimp only [List.set]
                    refine gq_iload dz_M_drift_210 rfl ?_
                    refine gw_istore 6 dz_M_drift_212 (Nat.le_of_ble_eq_true rfl) rfl ?_
                    dsimp only [List.set]
                    refine gw_iinc 7 (c := 1) dz_M_drift_214 rfl rfl (Nat.le_of_ble_eq_true rfl) rfl ?_
                    dsimp only [List.set]
                    refine gq_goto (tgt := 64) dz_M_drift_217 rfl ?_
                    simp only [nI_1]
                    rw [show (zs_ri X.1 s i).2.2.1 + 0 = (zs_ri X.1 s (i + 1)).2.2.1 from zs_ri_e h199]
                    exact zq_fewer _ (zq_sub_spec (by repeat (first | exact trivial | exact rfl | refine And.intro ?_ ?_))) (ih64 (i + 1) _ (by omega) (by omega) (hs3.up (by omega) (by omega)) hA4)
                  · skip
                    refine gq_iconst (v := 1) dz_M_drift_202 rfl ?_
                    refine gq_goto (tgt := 207) dz_M_drift_203 rfl ?_
                    refine gq_iadd dz_M_drift_207 ?_
                    refine gw_istore 5 dz_M_drift_208 (Nat.le_of_ble_eq_true rfl) rfl ?_
                    dsimp only [List.set]
                    refine gq_iload dz_M_drift_210 rfl ?_
                    refine gw_istore 6 dz_M_drift_212 (Nat.le_of_ble_eq_true rfl) rfl ?_
                    dsimp only [List.set]
                    refine gw_iinc 7 (c := 1) dz_M_drift_214 rfl rfl (Nat.le_of_ble_eq_true rfl) rfl ?_
                    dsimp only [List.set]
                    refine gq_goto (tgt := 64) dz_M_drift_217 rfl ?_
                    simp only [nI_1]
                    rw [show (zs_ri X.1 s i).2.2.1 + 1 = (zs_ri X.1 s (i + 1)).2.2.1 from zs_ri_n h199]
                    exact zq_fewer _ (zq_sub_spec (by repeat (first | exact trivial | exact rfl | refine And.intro ?_ ?_))) (ih64 (i + 1) _ (by omega) (by omega) (hs3.up (by omega) (by omega)) hA4)
        exact zq_fewer _ (zq_sub_spec (by repeat (first | exact trivial | exact rfl | refine And.intro ?_ ?_))) (L64 (m + 1) 0 _ (by omega) (by omega) zp_same.rf hA1)
      · skip
        have hn0 : za_n X.1 = 0 := (nI_eq (b := 0) (by omega) (by omega)).mp h28
        refine gq_bipush (v := -2) dz_M_drift_31 rfl ?_
        refine gw_iretP .int dz_M_drift_33 rfl (by first | rfl | exact zb_nar _ | exact pk_nc _) ?_ ?_
        · rw [zx_drift, h9, hw3, if_neg (by decide), if_pos hn0]
        · exact ⟨hS, zg_M.rf⟩
    · skip
      rw [zn_in3 (n := 1) rfl rfl (by omega)] at h19
      have hw3 : zx_3 w 1 = false := h19
      refine gq_iconst (v := -1) dz_M_drift_22 rfl ?_
      refine gw_iretP .int dz_M_drift_23 rfl (by first | rfl | exact zb_nar _ | exact pk_nc _) ?_ ?_
      · rw [zx_drift, h9, hw3]; rfl
      · exact ⟨hS, zg_M.rf⟩
set_option maxHeartbeats 4000000 in
theorem sp_M_spoils {σ : zq_T} {X : za_X} (hS : zM_rep σ X) (hW : zx_wf X) (p : Int32) : zq_Sp zm_M_spoils 8 [zq_O 30 0, zq_I p] σ (zq_rw (zq_I (zx_spoil X.1 p)) (fun τ => zM_rep τ (X) ∧ zg_M σ τ)) := by
  have hA : zn_rep σ X.1 := hS.1
  have hw : za_wf X.1 := hW.1
  have hn6 := zn_n6 hA
  have hm5 := zn_m5 hA
  refine zq_sp [some (zq_O 30 0), some (zq_I p), none, none, none, none] (by decide +kernel) rfl (Nat.le_of_ble_eq_true rfl) (fun ν => ?_)
  refine gq_aload_n dz_M_spoils_0 rfl ?_
  refine gq_iload_n dz_M_spoils_1 rfl ?_
  refine gq_cV (sp_M_isOne hA _) zw_M_isOne zl_M_203 dz_M_spoils_2 rfl rfl rfl (by decide) rfl rfl (Nat.le_of_ble_eq_true rfl) ?_
  refine gw_ifb_ne (tgt := 10) dz_M_spoils_5 rfl (fun h5 => ?_) (fun h5 => ?_)
  · skip
    obtain ⟨q, hq, rfl⟩ := (zb_in_iff (by omega)).mp h5
    refine gq_iconst (v := 0) dz_M_spoils_10 rfl ?_
    refine gw_istore_n 2 dz_M_spoils_11 rfl (Nat.le_of_ble_eq_true rfl) rfl ?_
    dsimp only [List.set]
    refine gq_iconst (v := 0) dz_M_spoils_12 rfl ?_
    refine gw_istore_n 3 dz_M_spoils_13 rfl (Nat.le_of_ble_eq_true rfl) rfl ?_
    dsimp only [List.set]
    have L14 : ∀ (kf : Nat) (s : Nat) (v : Int32) (τ : zq_T) (hkf : 4 - s < kf) (hs : s ≤ 4) (hv : v = zf_or (zn_spt X.1 q) s) (hk : zk_same σ τ), zq_G ν zm_M_spoils 8 (zq_rw (zq_I (zx_spoil X.1 (nI q))) (fun τ => zM_rep τ (X) ∧ zg_M σ τ)) 14 [some (zq_O 30 0), some (zq_I (nI q)), some (zq_I v), some (zq_I (nI s)), none, none] [] τ := by
      intro kf
      induction kf with
      | zero => intro s v τ hkf hs hv hk; exact absurd hkf (Nat.not_lt_zero _)
      | succ kf ih14 =>
        intro s v τ hkf hs hv hk
        refine gq_iload_n dz_M_spoils_14 rfl ?_
        refine gq_iconst (v := 4) dz_M_spoils_15 rfl ?_
        refine gq_icmp_ge (tgt := 133) dz_M_spoils_16 rfl (fun h16 => ?_) (fun h16 => ?_)
        · skip
          have hs4 : s = 4 := by have := (nI_leI (a := 4) (by omega) (by omega)).mp h16; omega
          subst hs4
          refine gq_iload_n dz_M_spoils_133 rfl ?_
          refine gw_iretP .int dz_M_spoils_134 rfl (by first | rfl | exact zb_nar _ | exact pk_nc _) ?_ ?_
          · rw [zx_spoil, h5, if_pos rfl, nI_clamp (by omega), hv]; exact (zn_spoil_eq X.1 q 6).symm
          · exact ⟨hS.as hW hk, hk.M⟩
        · skip
          have hs2 : s < 4 := (nI_ltI (b := 4) (by omega) (by omega)).mp (Int32.not_le.mp h16)
          refine gq_iconst (v := 0) dz_M_spoils_19 rfl ?_
          refine gw_istore 4 dz_M_spoils_20 (Nat.le_of_ble_eq_true rfl) rfl ?_
          dsimp only [List.set]
          have L22 : ∀ (kf : Nat) (c : Nat) (u : Int32) (τ2 : zq_T) (hkf : 7 - c < kf) (hc : c ≤ 6) (hu : u = if zf_any (zn_spf X.1 q s) c then v ||| (1 <<< (nI s &&& 31)) else v) (ho : 0 < c → zs_own X.1 (nI s) (za_g X.1) 31 = nI q) (hk2 : zk_same σ τ2), zq_G ν zm_M_spoils 8 (zq_rw (zq_I (zx_spoil X.1 (nI q))) (fun τ => zM_rep τ (X) ∧ zg_M σ τ)) 22 [some (zq_O 30 0), some (zq_I (nI q)), some (zq_I u), some (zq_I (nI s)), some (zq_I (nI c)), none] [] τ2 := by
            intro kf
            induction kf with
            | zero => intro c u τ2 hkf hc hu ho hk2; exact absurd hkf (Nat.not_lt_zero _)
            | succ kf ih22 =>
              intro c u τ2 hkf hc hu ho hk2
              have hT2 : zn_rep τ2 X.1 := hA.zk hk2
              refine gq_iload dz_M_spoils_22 rfl ?_
              refine gq_iconst (v := 5) dz_M_spoils_24 rfl ?_
              refine gq_icmp_gt (tgt := 127) dz_M_spoils_25 rfl (fun h25 => ?_) (fun h25 => ?_)
              · skip
                have hc6 : c = 6 := by have := (nI_ltI (a := 5) (by omega) (by omega)).mp h25; omega
                subst hc6
                have hx : u = zf_or (zn_spt X.1 q) (s + 1) := by rw [hu]; have e : zn_spt X.1 q s = zf_any (zn_spf X.1 q s) 6 := (by rw [zn_spt, decide_eq_true (ho (by omega)), Bool.true_and]); rw [← e, hv]; rfl
                refine gw_iinc 3 (c := 1) dz_M_spoils_127 rfl rfl (Nat.le_of_ble_eq_true rfl) rfl ?_
                dsimp only [List.set]
                refine gq_goto (tgt := 14) dz_M_spoils_130 rfl ?_
                simp only [nI_1]
                exact zq_fewer _ (zq_sub_spec (by repeat (first | exact trivial | exact rfl | refine And.intro ?_ ?_))) (ih14 (s + 1) _ _ (by omega) (by omega) hx hk2)
              · skip
                have hc2 : c < 6 := by have := (nI_leI (b := 5) (by omega) (by omega)).mp (Int32.not_lt.mp h25); omega
                refine gq_aload_n dz_M_spoils_28 rfl ?_
                refine gq_iload_n dz_M_spoils_29 rfl ?_
                refine gq_aload_n dz_M_spoils_30 rfl ?_
                refine gq_getR 31 zf_M_7 rfl rfl dz_M_spoils_31 ?_
                refine gq_bipush (v := 12) dz_M_spoils_34 rfl ?_
                refine gw_iald (12) (rfl) rfl (rfl) (Nat.le_of_ble_eq_true rfl) (by omega) dz_M_spoils_36 ?_
                rw [zn_g hT2]
                refine gq_cV (sp_M_ownerIn hT2 hw _ _) zw_M_ownerIn zl_M_220 dz_M_spoils_37 rfl rfl rfl (by decide) rfl rfl (Nat.le_of_ble_eq_true rfl) ?_
                refine gq_iload_n dz_M_spoils_40 rfl ?_
                refine gq_icmp_ne (tgt := 127) dz_M_spoils_41 rfl (fun h41 => ?_) (fun h41 => ?_)
                · skip
                  have hc0 : c = 0 := by rcases Nat.eq_zero_or_pos c with z | z; exact z; exact absurd (ho z) h41
                  subst hc0
                  have hx : u = zf_or (zn_spt X.1 q) (s + 1) := by rw [hu]; show v = _; rw [hv]; exact (zf_or_f (P := zn_spt X.1 q) (by rw [zn_spt, decide_eq_false h41]; rfl)).symm
                  refine gw_iinc 3 (c := 1) dz_M_spoils_127 rfl rfl (Nat.le_of_ble_eq_true rfl) rfl ?_
                  dsimp only [List.set]
                  refine gq_goto (tgt := 14) dz_M_spoils_130 rfl ?_
                  simp only [nI_1]
                  exact zq_fewer _ (zq_sub_spec (by repeat (first | exact trivial | exact rfl | refine And.intro ?_ ?_))) (ih14 (s + 1) _ _ (by omega) (by omega) hx hk2)
                · skip
                  have hD : 10 * q + c < 2 ^ 31 := by omega
                  have hDp : (10 * q + c) / 10 < za_n X.1 := by omega
                  have hDf : (10 * q + c) % 10 < 7 := by omega
                  refine gq_aload_n dz_M_spoils_44 rfl ?_
                  refine gq_bipush (v := 10) dz_M_spoils_45 rfl ?_
                  refine gq_iload_n dz_M_spoils_47 rfl ?_
                  refine gq_imul dz_M_spoils_48 ?_
                  rw [show (10 : Int32) = nI 10 from rfl, pk_mul]
                  refine gq_iload dz_M_spoils_49 rfl ?_
                  refine gq_iadd dz_M_spoils_51 ?_
                  rw [nI_add]
                  refine gq_cV (sp_M_canDo hT2 hw hD hDp hDf) zw_M_canDo zl_M_226 dz_M_spoils_52 rfl rfl rfl (by decide) rfl rfl (Nat.le_of_ble_eq_true rfl) ?_
                  refine gw_ifb_eq (tgt := 121) dz_M_spoils_55 rfl (fun h55 => ?_) (fun h55 => ?_)
                  · skip
                    refine gw_iinc 4 (c := 1) dz_M_spoils_121 rfl rfl (Nat.le_of_ble_eq_true rfl) rfl ?_
                    dsimp only [List.set]
                    refine gq_goto (tgt := 22) dz_M_spoils_124 rfl ?_
                    simp only [nI_1]
                    exact zq_fewer _ (zq_sub_spec (by repeat (first | exact trivial | exact rfl | refine And.intro ?_ ?_))) (ih22 (c + 1) _ _ (by omega) (by omega) (by rw [zf_any, show zn_spf X.1 q s c = false from by rw [zn_spf, h55]; rfl, Bool.or_false]; exact hu) (fun _ => h41) hk2)
                  · skip
                    refine gq_aload_n dz_M_spoils_58 rfl ?_
                    refine gq_iconst (v := 0) dz_M_spoils_59 rfl ?_
                    refine gq_bipush (v := 84) dz_M_spoils_60 rfl ?_
                    refine gq_cVX (sp_M_copies (a := 0) (b := 84) (by omega) (by omega) (by omega)) zw_M_copies zl_M_246 dz_M_spoils_62 rfl rfl rfl (by decide) rfl rfl (Nat.le_of_ble_eq_true rfl) (fun τ62 hq62 => ?_)
                    refine gq_aload_n dz_M_spoils_65 rfl ?_
                    refine gq_bipush (v := 10) dz_M_spoils_66 rfl ?_
                    refine gq_iload_n dz_M_spoils_68 rfl ?_
                    refine gq_imul dz_M_spoils_69 ?_
                    rw [show (10 : Int32) = nI 10 from rfl, pk_mul]
                    refine gq_iload dz_M_spoils_70 rfl ?_
                    refine gq_iadd dz_M_spoils_72 ?_
                    rw [nI_add]
                    refine gq_cVX (sp_M_doesIt (hT2.as84 hq62.1) hw hD hDp hDf) zw_M_doesIt zl_M_229 dz_M_spoils_73 rfl rfl rfl (by decide) rfl rfl (Nat.le_of_ble_eq_true rfl) (fun τ73 hq73 => ?_)
                    refine gq_aload_n dz_M_spoils_76 rfl ?_
                    refine gq_iload_n dz_M_spoils_77 rfl ?_
                    refine gq_aload_n dz_M_spoils_78 rfl ?_
                    refine gq_getR 31 zf_M_7 rfl rfl dz_M_spoils_79 ?_
                    refine gq_bipush (v := 12) dz_M_spoils_82 rfl ?_
                    refine gw_iald (12) (rfl) rfl (rfl) (Nat.le_of_ble_eq_true rfl) (by omega) dz_M_spoils_84 ?_
                    rw [zn_g hq73.2]
                    refine gq_cV (sp_M_ownerIn hq73.2 (hw.acts hn6 h55) _ _) zw_M_ownerIn zl_M_220 dz_M_spoils_85 rfl rfl rfl (by decide) rfl rfl (Nat.le_of_ble_eq_true rfl) ?_
                    refine gq_iload_n dz_M_spoils_88 rfl ?_
                    refine gq_icmp_ne (tgt := 96) dz_M_spoils_89 rfl (fun h89 => ?_) (fun h89 => ?_)
                    · skip
                      refine gq_iconst (v := 0) dz_M_spoils_96 rfl ?_
                      refine gw_istore 5 dz_M_spoils_97 (Nat.le_of_ble_eq_true rfl) rfl ?_
                      dsimp only [List.set]
                      refine gq_aload_n dz_M_spoils_99 rfl ?_
                      refine gq_bipush (v := 84) dz_M_spoils_100 rfl ?_
                      refine gq_iconst (v := 0) dz_M_spoils_102 rfl ?_
                      refine gq_cVX (sp_M_copies (a := 84) (b := 0) (by omega) (by omega) (by omega)) zw_M_copies zl_M_246 dz_M_spoils_103 rfl rfl rfl (by decide) rfl rfl (Nat.le_of_ble_eq_true rfl) (fun τ103 hq103 => ?_)
                      refine gq_iload_n dz_M_spoils_106 rfl ?_
                      refine gq_iload dz_M_spoils_107 rfl ?_
                      refine gq_if_eq (tgt := 116) dz_M_spoils_109 rfl (fun h109 => ?_) (fun h109 => ?_)
                      · skip
                        have hF : zn_spf X.1 q s c = true := by rw [zn_spf, h55, decide_eq_true h89]; rfl
                        refine gq_iconst (v := 1) dz_M_spoils_116 rfl ?_
                        refine gq_iload_n dz_M_spoils_117 rfl ?_
                        refine gq_ishl dz_M_spoils_118 ?_
                        refine gq_ior dz_M_spoils_119 ?_
                        refine gw_istore_n 2 dz_M_spoils_120 rfl (Nat.le_of_ble_eq_true rfl) rfl ?_
                        dsimp only [List.set]
                        refine gw_iinc 4 (c := 1) dz_M_spoils_121 rfl rfl (Nat.le_of_ble_eq_true rfl) rfl ?_
                        dsimp only [List.set]
                        refine gq_goto (tgt := 22) dz_M_spoils_124 rfl ?_
                        simp only [nI_1]
                        exact zq_fewer _ (zq_sub_spec (by repeat (first | exact trivial | exact rfl | refine And.intro ?_ ?_))) (ih22 (c + 1) _ _ (by omega) (by omega) (by rw [zf_any, hF, Bool.or_true, if_pos rfl, hu]; split; rw [Int32.or_assoc, Int32.or_self]; rfl) (fun _ => h41) (hk2.tr (zk_rest hq62.1 hq62.2 hq73.1 hq103.1 hq103.2)))
                      · skip
                        exact absurd rfl h109
                    · skip
                      refine gq_iconst (v := 1) dz_M_spoils_92 rfl ?_
                      refine gq_goto (tgt := 97) dz_M_spoils_93 rfl ?_
                      refine gw_istore 5 dz_M_spoils_97 (Nat.le_of_ble_eq_true rfl) rfl ?_
                      dsimp only [List.set]
                      refine gq_aload_n dz_M_spoils_99 rfl ?_
                      refine gq_bipush (v := 84) dz_M_spoils_100 rfl ?_
                      refine gq_iconst (v := 0) dz_M_spoils_102 rfl ?_
                      refine gq_cVX (sp_M_copies (a := 84) (b := 0) (by omega) (by omega) (by omega)) zw_M_copies zl_M_246 dz_M_spoils_103 rfl rfl rfl (by decide) rfl rfl (Nat.le_of_ble_eq_true rfl) (fun τ103 hq103 => ?_)
                      refine gq_iload_n dz_M_spoils_106 rfl ?_
                      refine gq_iload dz_M_spoils_107 rfl ?_
                      refine gq_if_eq (tgt := 116) dz_M_spoils_109 rfl (fun h109 => ?_) (fun h109 => ?_)
                      · skip
                        exact absurd h109 (by decide)
                      · skip
                        have hF : zn_spf X.1 q s c = false := by rw [zn_spf, decide_eq_false (fun z => z h89), Bool.and_false]
                        refine gq_iconst (v := 0) dz_M_spoils_112 rfl ?_
                        refine gq_goto (tgt := 119) dz_M_spoils_113 rfl ?_
                        refine gq_ior dz_M_spoils_119 ?_
                        refine gw_istore_n 2 dz_M_spoils_120 rfl (Nat.le_of_ble_eq_true rfl) rfl ?_
                        dsimp only [List.set]
                        refine gw_iinc 4 (c := 1) dz_M_spoils_121 rfl rfl (Nat.le_of_ble_eq_true rfl) rfl ?_
                        dsimp only [List.set]
                        refine gq_goto (tgt := 22) dz_M_spoils_124 rfl ?_
                        simp only [nI_1]
                        exact zq_fewer _ (zq_sub_spec (by repeat (first | exact trivial | exact rfl | refine And.intro ?_ ?_))) (ih22 (c + 1) _ _ (by omega) (by omega) (by rw [zf_any, hF, Bool.or_false, Int32.or_zero]; exact hu) (fun _ => h41) (hk2.tr (zk_rest hq62.1 hq62.2 hq73.1 hq103.1 hq103.2)))
          exact zq_fewer _ (zq_sub_spec (by repeat (first | exact trivial | exact rfl | refine And.intro ?_ ?_))) (L22 8 0 v _ (by omega) (by omega) rfl (fun z => absurd z (Nat.lt_irrefl 0)) hk)
    exact zq_fewer _ (zq_sub_spec (by repeat (first | exact trivial | exact rfl | refine And.intro ?_ ?_))) (L14 5 0 0 _ (by omega) (by omega) rfl zk_same.rf)
  · skip
    refine gq_iconst (v := -1) dz_M_spoils_8 rfl ?_
    refine gw_iretP .int dz_M_spoils_9 rfl (by first | rfl | exact zb_nar _ | exact pk_nc _) ?_ ?_
    · rw [zx_spoil, h5]; rfl
    · exact ⟨hS, zg_M.rf⟩
