theorem zb_nle {x y : Int32} (h : x < y) : decide (y ≤ x) = false := decide_eq_false (by rw [Int32.le_iff_toInt_le]; rw [Int32.lt_iff_toInt_lt] at h; omega)
theorem zb_nlt {x y : Int32} (h : ¬ x < y) : decide (y ≤ x) = true := decide_eq_true (by rw [Int32.le_iff_toInt_le]; rw [Int32.lt_iff_toInt_lt] at h; omega)
theorem zs_rcv_no {P : Nat → Bool} {last : Bool} {n r w p : Nat} (hp : (if last then r else n - (r + 1)) = p) (h : P p = false) : zs_rcv P last n (r + 1) w = zs_rcv P last n r w := by rw [zs_rcv, hp, h]; rfl
theorem zs_rcv_go {P : Nat → Bool} {last : Bool} {n r w p : Nat} (hp : (if last then r else n - (r + 1)) = p) (h : P p = true) (hw : 1 ≤ w) : zs_rcv P last n (r + 1) (w + 1) = zs_rcv P last n r w := by rw [zs_rcv, hp, h, if_pos rfl, if_neg (by omega)]; rfl
theorem zs_rcv_hit {P : Nat → Bool} {last : Bool} {n r p : Nat} (hp : (if last then r else n - (r + 1)) = p) (h : P p = true) : zs_rcv P last n (r + 1) (0 + 1) = nI p := by rw [zs_rcv, hp, h, if_pos rfl, if_pos rfl]
theorem zs_recvI_nI {A : za_D} {k : Nat} {ab : Int32} (hk : k < za_m A) (hm : za_m A ≤ 5 := by assumption) : zs_recvI A (nI k) ab = zs_recv A k ab := by rw [zs_recvI, zb_in_nI hk (by omega), if_pos rfl, nI_clamp (by omega)]
theorem zs_rt_f {A : za_D} {t ab set : Int32} {k : Nat} (h : ¬ (zb_bit set (nI k) = true ∧ za_th A k = t ∧ (zs_rt A t ab set k = -4 ∨ za_rk A k < za_rk A (zs_rt A t ab set k).toNatClampNeg) ∧ ¬ zs_recv A k ab = -4)) : zs_rt A t ab set (k + 1) = zs_rt A t ab set k := if_neg h
theorem zs_rt_t {A : za_D} {t ab set : Int32} {k : Nat} (h : zb_bit set (nI k) = true ∧ za_th A k = t ∧ (zs_rt A t ab set k = -4 ∨ za_rk A k < za_rk A (zs_rt A t ab set k).toNatClampNeg) ∧ ¬ zs_recv A k ab = -4) : zs_rt A t ab set (k + 1) = nI k := if_pos h
theorem zs_rt_lt {A : za_D} {t ab set : Int32} : ∀ {k : Nat}, ¬ zs_rt A t ab set k = -4 → ∃ q, q < k ∧ zs_rt A t ab set k = nI q
  | 0, h => absurd rfl h
  | k + 1, h => by
    by_cases c : zb_bit set (nI k) = true ∧ za_th A k = t ∧ (zs_rt A t ab set k = -4 ∨ za_rk A k < za_rk A (zs_rt A t ab set k).toNatClampNeg) ∧ ¬ zs_recv A k ab = -4
    · exact ⟨k, Nat.lt_succ_self k, zs_rt_t c⟩
    · rw [zs_rt_f c] at h ⊢
      obtain ⟨q, h1, h2⟩ := zs_rt_lt h
      exact ⟨q, by omega, h2⟩
theorem zs_rt_no {A : za_D} {t ab set : Int32} {k q : Nat} (h : ¬ zs_rt A t ab set k = -4) (he : zs_rt A t ab set k = nI q) (h2 : za_rk A q ≤ za_rk A k) (hq : q < 1000 := by omega) : ¬ (zs_rt A t ab set k = -4 ∨ za_rk A k < za_rk A (zs_rt A t ab set k).toNatClampNeg) := by
  rintro (z | z)
  · exact h z
  · rw [he, nI_clamp (by omega), Int32.lt_iff_toInt_lt] at z
    rw [Int32.le_iff_toInt_le] at h2
    omega
theorem zs_rt_ye {A : za_D} {t ab set : Int32} {k q : Nat} (he : zs_rt A t ab set k = nI q) (hq : q < 1000) (h2 : ¬ za_rk A q ≤ za_rk A k) : za_rk A k < za_rk A (zs_rt A t ab set k).toNatClampNeg := by
  rw [he, nI_clamp (by omega), Int32.lt_iff_toInt_lt]
  rw [Int32.le_iff_toInt_le] at h2
  omega

set_option maxHeartbeats 4000000 in
theorem sp_D_meets {σ : zq_T} {d : Fin 5} {A : za_D} (hA : zc_rep σ d A) (hW : za_wf A) {p k : Nat} (hp : p < za_n A) (hk : k < za_m A) (ab : Int32) : zq_Sp zm_D_meets 1 [zq_O 10 d, zq_I (nI p), zq_I (nI k), zq_I ab] σ (zq_rv (zq_I (zb_v (zs_meets A k p ab))) σ) := by
  have hn6 := zc_n6 hA
  have hm5 := zc_m5 hA
  have hi1 := zb_in_nI hp (by omega)
  have hi2 := zb_in_nI hk (by omega)
  refine zq_sp [some (zq_O 10 d), some (zq_I (nI p)), some (zq_I (nI k)), some (zq_I ab), none] (by decide +kernel) rfl (Nat.le_of_ble_eq_true rfl) (fun ν => ?_)
  refine gq_aload_n dz_D_meets_0 rfl ?_
  refine gq_iload_n dz_D_meets_1 rfl ?_
  refine gq_cV (sp_D_isOne hA _) zw_D_isOne zl_D_55 dz_D_meets_2 rfl rfl rfl (by decide) rfl rfl (Nat.le_of_ble_eq_true rfl) ?_
  refine gw_ifb_eq (tgt := 24) dz_D_meets_5 rfl (fun h5 => ?_) (fun h5 => ?_)
  · skip
    rw [hi1] at h5; cases h5
  · skip
    refine gq_aload_n dz_D_meets_8 rfl ?_
    refine gq_iload_n dz_D_meets_9 rfl ?_
    refine gq_cV (sp_D_isRule hA _) zw_D_isRule zl_D_59 dz_D_meets_10 rfl rfl rfl (by decide) rfl rfl (Nat.le_of_ble_eq_true rfl) ?_
    refine gw_ifb_eq (tgt := 24) dz_D_meets_13 rfl (fun h13 => ?_) (fun h13 => ?_)
    · skip
      rw [hi2] at h13; cases h13
    · skip
      refine gq_iload_n dz_D_meets_16 rfl ?_
      refine gq_iload_n dz_D_meets_17 rfl ?_
      refine gq_ishr dz_D_meets_18 ?_
      refine gq_iconst (v := 1) dz_D_meets_19 rfl ?_
      refine gq_iand dz_D_meets_20 ?_
      refine gq_if_eq (tgt := 26) dz_D_meets_21 rfl (fun h21 => ?_) (fun h21 => ?_)
      · skip
        have hb0 := zb_bit_f h21
        refine gq_aload_n dz_D_meets_26 rfl ?_
        refine gq_getR 19 zf_D_36 rfl rfl dz_D_meets_27 ?_
        refine gq_iload_n dz_D_meets_30 rfl ?_
        refine gw_iald (k) (rfl) rfl rfl (Nat.le_of_ble_eq_true rfl) (by omega) dz_D_meets_31 ?_
        rw [zc_nu hA hk]
        refine gw_istore 4 dz_D_meets_32 (Nat.le_of_ble_eq_true rfl) rfl ?_
        dsimp only [List.set]
        refine gq_aload_n dz_D_meets_34 rfl ?_
        refine gq_getR 18 zf_D_33 rfl rfl dz_D_meets_35 ?_
        refine gq_iload_n dz_D_meets_38 rfl ?_
        refine gw_iald (k) (rfl) rfl rfl (Nat.le_of_ble_eq_true rfl) (by omega) dz_D_meets_39 ?_
        rw [zc_cl hA hk]
        by_cases hs40_0 : za_cl A k = 0
        · rw [hs40_0]
          refine gq_tin (off := 36) (tgt := 76) dz_D_meets_40 (by decide) (by decide) rfl rfl ?_
          refine gq_iconst (v := 1) dz_D_meets_76 rfl ?_
          refine gw_iret .boolean dz_D_meets_77 rfl (by first | rfl | exact zb_nar _) ?_ ?_
          · simp [zs_meets, hb0, hs40_0, zb_v]
          · rfl
        · skip
          by_cases hs40_1 : za_cl A k = 1
          · rw [hs40_1]
            refine gq_tin (off := 38) (tgt := 78) dz_D_meets_40 (by decide) (by decide) rfl rfl ?_
            refine gq_aload_n dz_D_meets_78 rfl ?_
            refine gq_iload_n dz_D_meets_79 rfl ?_
            refine gq_iload_n dz_D_meets_80 rfl ?_
            refine gq_cV (sp_D_placeAmongBorn hA hp _) zw_D_placeAmongBorn zl_D_62 dz_D_meets_81 rfl rfl rfl (by decide) rfl rfl (Nat.le_of_ble_eq_true rfl) ?_
            refine gq_iload dz_D_meets_84 rfl ?_
            refine gq_icmp_ne (tgt := 93) dz_D_meets_86 rfl (fun h86 => ?_) (fun h86 => ?_)
            · skip
              refine gq_iconst (v := 0) dz_D_meets_93 rfl ?_
              refine gw_iret .boolean dz_D_meets_94 rfl (by first | rfl | exact zb_nar _) ?_ ?_
              · simp [zs_meets, hb0, hs40_1, zb_v, h86]
              · rfl
            · skip
              refine gq_iconst (v := 1) dz_D_meets_89 rfl ?_
              refine gq_goto (tgt := 94) dz_D_meets_90 rfl ?_
              refine gw_iret .boolean dz_D_meets_94 rfl (by first | rfl | exact zb_nar _) ?_ ?_
              · simp [zs_meets, hb0, hs40_1, zb_v, h86]
              · rfl
          · skip
            by_cases hs40_2 : za_cl A k = 2
            · rw [hs40_2]
              refine gq_tin (off := 55) (tgt := 95) dz_D_meets_40 (by decide) (by decide) rfl rfl ?_
              refine gq_aload_n dz_D_meets_95 rfl ?_
              refine gq_getR 13 zf_D_18 rfl rfl dz_D_meets_96 ?_
              refine gq_iload_n dz_D_meets_99 rfl ?_
              refine gw_iald (p) (rfl) rfl rfl (Nat.le_of_ble_eq_true rfl) (by omega) dz_D_meets_100 ?_
              rw [zc_fa hA (by omega)]
              refine gq_iload dz_D_meets_101 rfl ?_
              refine gq_ishr dz_D_meets_103 ?_
              refine gq_iconst (v := 1) dz_D_meets_104 rfl ?_
              refine gq_iand dz_D_meets_105 ?_
              refine gq_if_eq (tgt := 113) dz_D_meets_106 rfl (fun h106 => ?_) (fun h106 => ?_)
              · skip
                refine gq_iconst (v := 0) dz_D_meets_113 rfl ?_
                refine gw_iret .boolean dz_D_meets_114 rfl (by first | rfl | exact zb_nar _) ?_ ?_
                · simp [zs_meets, hb0, hs40_2, zb_v, zb_bit_f h106]
                · rfl
              · skip
                refine gq_iconst (v := 1) dz_D_meets_109 rfl ?_
                refine gq_goto (tgt := 114) dz_D_meets_110 rfl ?_
                refine gw_iret .boolean dz_D_meets_114 rfl (by first | rfl | exact zb_nar _) ?_ ?_
                · simp [zs_meets, hb0, hs40_2, zb_v, zb_bit_t h106]
                · rfl
            · skip
              by_cases hs40_3 : za_cl A k = 3
              · rw [hs40_3]
                refine gq_tin (off := 75) (tgt := 115) dz_D_meets_40 (by decide) (by decide) rfl rfl ?_
                refine gq_aload_n dz_D_meets_115 rfl ?_
                refine gq_getR 14 zf_D_21 rfl rfl dz_D_meets_116 ?_
                refine gq_iload_n dz_D_meets_119 rfl ?_
                refine gw_iald (p) (rfl) rfl rfl (Nat.le_of_ble_eq_true rfl) (by omega) dz_D_meets_120 ?_
                rw [zc_tr hA (by omega)]
                refine gq_iload dz_D_meets_121 rfl ?_
                refine gq_icmp_lt (tgt := 130) dz_D_meets_123 rfl (fun h123 => ?_) (fun h123 => ?_)
                · skip
                  refine gq_iconst (v := 0) dz_D_meets_130 rfl ?_
                  refine gw_iret .boolean dz_D_meets_131 rfl (by first | rfl | exact zb_nar _) ?_ ?_
                  · simp [zs_meets, hb0, hs40_3, zb_v, zb_nle h123]
                  · rfl
                · skip
                  refine gq_iconst (v := 1) dz_D_meets_126 rfl ?_
                  refine gq_goto (tgt := 131) dz_D_meets_127 rfl ?_
                  refine gw_iret .boolean dz_D_meets_131 rfl (by first | rfl | exact zb_nar _) ?_ ?_
                  · simp [zs_meets, hb0, hs40_3, zb_v, zb_nlt h123]
                  · rfl
              · skip
                by_cases hs40_4 : za_cl A k = 4
                · rw [hs40_4]
                  refine gq_tin (off := 92) (tgt := 132) dz_D_meets_40 (by decide) (by decide) rfl rfl ?_
                  obtain ⟨v, hv, hvn⟩ := hW.kin k hk hs40_4
                  refine gq_aload_n dz_D_meets_132 rfl ?_
                  refine gq_getR 12 zf_D_15 rfl rfl dz_D_meets_133 ?_
                  refine gq_iload_n dz_D_meets_136 rfl ?_
                  refine gw_iald (p) (rfl) rfl rfl (Nat.le_of_ble_eq_true rfl) (by omega) dz_D_meets_137 ?_
                  refine gq_iload dz_D_meets_138 rfl ?_
                  refine gq_ishr dz_D_meets_140 ?_
                  refine gq_iconst (v := 1) dz_D_meets_141 rfl ?_
                  refine gq_iand dz_D_meets_142 ?_
                  refine gq_if_eq (tgt := 150) dz_D_meets_143 rfl (fun h143 => ?_) (fun h143 => ?_)
                  · skip
                    refine gq_iconst (v := 0) dz_D_meets_150 rfl ?_
                    refine gw_iret .boolean dz_D_meets_151 rfl (by first | rfl | exact zb_nar _) ?_ ?_
                    · rw [hvn] at h143; simp [zs_meets, hb0, hs40_4, zb_v, hvn, nI_clamp (show v < 2 ^ 31 by omega), ← zc_an hA hp hv, zb_bit_f h143]
                    · rfl
                  · skip
                    refine gq_iconst (v := 1) dz_D_meets_146 rfl ?_
                    refine gq_goto (tgt := 151) dz_D_meets_147 rfl ?_
                    refine gw_iret .boolean dz_D_meets_151 rfl (by first | rfl | exact zb_nar _) ?_ ?_
                    · rw [hvn] at h143; simp [zs_meets, hb0, hs40_4, zb_v, hvn, nI_clamp (show v < 2 ^ 31 by omega), ← zc_an hA hp hv, zb_bit_t h143]
                    · rfl
                · skip
                  refine gq_tout (tgt := 152) dz_D_meets_40 (by have := zq_ne hs40_0; have h_0 := zq_ne hs40_0; have h_1 := zq_ne hs40_1; have h_2 := zq_ne hs40_2; have h_3 := zq_ne hs40_3; have h_4 := zq_ne hs40_4; simp at *; omega) rfl ?_
                  refine gq_aload_n dz_D_meets_152 rfl ?_
                  refine gq_iload_n dz_D_meets_153 rfl ?_
                  refine gq_iload_n dz_D_meets_154 rfl ?_
                  refine gq_cV (sp_D_childrenLeft hA hp _) zw_D_childrenLeft zl_D_66 dz_D_meets_155 rfl rfl rfl (by decide) rfl rfl (Nat.le_of_ble_eq_true rfl) ?_
                  refine gq_iload dz_D_meets_158 rfl ?_
                  refine gq_icmp_ne (tgt := 167) dz_D_meets_160 rfl (fun h160 => ?_) (fun h160 => ?_)
                  · skip
                    refine gq_iconst (v := 0) dz_D_meets_167 rfl ?_
                    refine gw_iret .boolean dz_D_meets_168 rfl (by first | rfl | exact zb_nar _) ?_ ?_
                    · simp [zs_meets, hb0, hs40_0, hs40_1, hs40_2, hs40_3, hs40_4, zb_v, h160]
                    · rfl
                  · skip
                    refine gq_iconst (v := 1) dz_D_meets_163 rfl ?_
                    refine gq_goto (tgt := 168) dz_D_meets_164 rfl ?_
                    refine gw_iret .boolean dz_D_meets_168 rfl (by first | rfl | exact zb_nar _) ?_ ?_
                    · simp [zs_meets, hb0, hs40_0, hs40_1, hs40_2, hs40_3, hs40_4, zb_v, h160]
                    · rfl
      · skip
        have hb0 := zb_bit_t h21
        refine gq_iconst (v := 0) dz_D_meets_24 rfl ?_
        refine gw_iret .boolean dz_D_meets_25 rfl (by first | rfl | exact zb_nar _) ?_ ?_
        · simp [zs_meets, hb0, zb_v]
        · rfl
set_option maxHeartbeats 4000000 in
theorem sp_D_whoMeet {σ : zq_T} {d : Fin 5} {A : za_D} (hA : zc_rep σ d A) (hW : za_wf A) {k : Nat} (hk : k < za_m A) (ab : Int32) : zq_Sp zm_D_whoMeet 2 [zq_O 10 d, zq_I (nI k), zq_I ab] σ (zq_rv (zq_I (zf_or (fun p => zs_meets A k p ab) (za_n A))) σ) := by
  have hn6 := zc_n6 hA
  have hm5 := zc_m5 hA
  refine zq_sp [some (zq_O 10 d), some (zq_I (nI k)), some (zq_I ab), none, none] (by decide +kernel) rfl (Nat.le_of_ble_eq_true rfl) (fun ν => ?_)
  refine gq_iconst (v := 0) dz_D_whoMeet_0 rfl ?_
  refine gw_istore_n 3 dz_D_whoMeet_1 rfl (Nat.le_of_ble_eq_true rfl) rfl ?_
  dsimp only [List.set]
  refine gq_iconst (v := 0) dz_D_whoMeet_2 rfl ?_
  refine gw_istore 4 dz_D_whoMeet_3 (Nat.le_of_ble_eq_true rfl) rfl ?_
  dsimp only [List.set]
  have L5 : ∀ (kf : Nat) (q : Nat) (hkf : za_n A - q < kf) (hq : q ≤ za_n A), zq_G ν zm_D_whoMeet 2 (zq_rv (zq_I (zf_or (fun p => zs_meets A k p ab) (za_n A))) σ) 5 [some (zq_O 10 d), some (zq_I (nI k)), some (zq_I ab), some (zq_I (zf_or (fun p => zs_meets A k p ab) q)), some (zq_I (nI q))] [] σ := by
    intro kf
    induction kf with
    | zero => intro q hkf hq; exact absurd hkf (Nat.not_lt_zero _)
    | succ kf ih5 =>
      intro q hkf hq
      refine gq_iload dz_D_whoMeet_5 rfl ?_
      refine gq_aload_n dz_D_whoMeet_7 rfl ?_
      refine gq_getI zf_D_45 rfl rfl dz_D_whoMeet_8 ?_
      rw [zc_n hA]
      refine gq_icmp_ge (tgt := 38) dz_D_whoMeet_11 rfl (fun h11 => ?_) (fun h11 => ?_)
      · skip
        refine gq_iload_n dz_D_whoMeet_38 rfl ?_
        refine gw_iret .int dz_D_whoMeet_39 rfl (by first | rfl | exact zb_nar _) ?_ ?_
        · rw [show q = za_n A from by have := (nI_leI (by omega) (by omega)).mp h11; omega]
        · rfl
      · skip
        have hq2 : q < za_n A := by rcases Nat.lt_or_ge q (za_n A) with z | z; exact z; exact absurd (nI_le z (by omega)) h11
        refine gq_aload_n dz_D_whoMeet_14 rfl ?_
        refine gq_iload dz_D_whoMeet_15 rfl ?_
        refine gq_iload_n dz_D_whoMeet_17 rfl ?_
        refine gq_iload_n dz_D_whoMeet_18 rfl ?_
        refine gq_cV (sp_D_meets hA hW hq2 hk ab) zw_D_meets zl_D_69 dz_D_whoMeet_19 rfl rfl rfl (by decide) rfl rfl (Nat.le_of_ble_eq_true rfl) ?_
        refine gw_ifb_eq (tgt := 32) dz_D_whoMeet_22 rfl (fun h22 => ?_) (fun h22 => ?_)
        · skip
          refine gw_iinc 4 (c := 1) dz_D_whoMeet_32 rfl rfl (Nat.le_of_ble_eq_true rfl) rfl ?_
          dsimp only [List.set]
          refine gq_goto (tgt := 5) dz_D_whoMeet_35 rfl ?_
          simp only [nI_1]
          rw [← zf_or_f (P := fun p => zs_meets A k p ab) h22]
          exact zq_fewer _ (zq_sub_spec (by repeat (first | exact trivial | exact rfl | refine And.intro ?_ ?_))) (ih5 (q + 1) (by omega) (by omega))
        · skip
          refine gq_iload_n dz_D_whoMeet_25 rfl ?_
          refine gq_iconst (v := 1) dz_D_whoMeet_26 rfl ?_
          refine gq_iload dz_D_whoMeet_27 rfl ?_
          refine gq_ishl dz_D_whoMeet_29 ?_
          refine gq_ior dz_D_whoMeet_30 ?_
          refine gw_istore_n 3 dz_D_whoMeet_31 rfl (Nat.le_of_ble_eq_true rfl) rfl ?_
          dsimp only [List.set]
          refine gw_iinc 4 (c := 1) dz_D_whoMeet_32 rfl rfl (Nat.le_of_ble_eq_true rfl) rfl ?_
          dsimp only [List.set]
          refine gq_goto (tgt := 5) dz_D_whoMeet_35 rfl ?_
          simp only [nI_1]
          rw [← zf_or_t (P := fun p => zs_meets A k p ab) h22]
          exact zq_fewer _ (zq_sub_spec (by repeat (first | exact trivial | exact rfl | refine And.intro ?_ ?_))) (ih5 (q + 1) (by omega) (by omega))
  exact zq_fewer _ (zq_sub_spec (by repeat (first | exact trivial | exact rfl | refine And.intro ?_ ?_))) (L5 (za_n A + 1) 0 (by omega) (by omega))
set_option maxHeartbeats 4000000 in
theorem sp_D_receiver {σ : zq_T} {d : Fin 5} {A : za_D} (hA : zc_rep σ d A) (hW : za_wf A) (kk : Int32) (ab : Int32) : zq_Sp zm_D_receiver 2 [zq_O 10 d, zq_I kk, zq_I ab] σ (zq_rv (zq_I (zs_recvI A kk ab)) σ) := by
  have hn6 := zc_n6 hA
  have hm5 := zc_m5 hA
  refine zq_sp [some (zq_O 10 d), some (zq_I kk), some (zq_I ab), none, none, none] (by decide +kernel) rfl (Nat.le_of_ble_eq_true rfl) (fun ν => ?_)
  refine gq_aload_n dz_D_receiver_0 rfl ?_
  refine gq_iload_n dz_D_receiver_1 rfl ?_
  refine gq_cV (sp_D_isRule hA _) zw_D_isRule zl_D_59 dz_D_receiver_2 rfl rfl rfl (by decide) rfl rfl (Nat.le_of_ble_eq_true rfl) ?_
  refine gw_ifb_ne (tgt := 11) dz_D_receiver_5 rfl (fun h5 => ?_) (fun h5 => ?_)
  · skip
    obtain ⟨k, hk, rfl⟩ := (zb_in_iff (by omega)).mp h5
    have hV : zs_recvI A (nI k) ab = zs_recv A k ab := by rw [zs_recvI, h5, if_pos rfl, nI_clamp (by omega)]
    rw [hV]
    refine gq_aload_n dz_D_receiver_11 rfl ?_
    refine gq_getR 20 zf_D_39 rfl rfl dz_D_receiver_12 ?_
    refine gq_iload_n dz_D_receiver_15 rfl ?_
    refine gw_iald (k) (rfl) rfl rfl (Nat.le_of_ble_eq_true rfl) (by omega) dz_D_receiver_16 ?_
    rw [zc_pi hA hk]
    refine gq_iconst (v := 1) dz_D_receiver_17 rfl ?_
    refine gq_icmp_ne (tgt := 25) dz_D_receiver_18 rfl (fun h18 => ?_) (fun h18 => ?_)
    · skip
      have hV2 : zs_recv A k ab = zs_rcv (fun p => zs_meets A k p ab) (za_pi A k = 2) (za_n A) (za_n A) 1 := by rw [zs_recv, if_neg h18]
      refine gq_iconst (v := 1) dz_D_receiver_25 rfl ?_
      refine gw_istore_n 3 dz_D_receiver_26 rfl (Nat.le_of_ble_eq_true rfl) rfl ?_
      dsimp only [List.set]
      refine gq_iconst (v := 0) dz_D_receiver_27 rfl ?_
      refine gw_istore 4 dz_D_receiver_28 (Nat.le_of_ble_eq_true rfl) rfl ?_
      dsimp only [List.set]
      have L30 : ∀ (kf : Nat) (r w i : Nat) (hkf : r < kf) (hi : i + r = za_n A) (hw : 1 ≤ w) (hw4 : w < 4) (hv : zs_recv A k ab = zs_rcv (fun p => zs_meets A k p ab) (za_pi A k = 2) (za_n A) r w), zq_G ν zm_D_receiver 2 (zq_rv (zq_I (zs_recv A k ab)) σ) 30 [some (zq_O 10 d), some (zq_I (nI k)), some (zq_I ab), some (zq_I (nI w)), some (zq_I (nI i)), none] [] σ := by
        intro kf
        induction kf with
        | zero => intro r w i hkf hi hw hw4 hv; exact absurd hkf (Nat.not_lt_zero _)
        | succ kf ih30 =>
          intro r w i hkf hi hw hw4 hv
          refine gq_iload dz_D_receiver_30 rfl ?_
          refine gq_aload_n dz_D_receiver_32 rfl ?_
          refine gq_getI zf_D_45 rfl rfl dz_D_receiver_33 ?_
          rw [zc_n hA]
          refine gq_icmp_ge (tgt := 92) dz_D_receiver_36 rfl (fun h36 => ?_) (fun h36 => ?_)
          · skip
            refine gq_bipush (v := -4) dz_D_receiver_92 rfl ?_
            refine gw_iret .int dz_D_receiver_94 rfl (by first | rfl | exact zb_nar _) ?_ ?_
            · rw [hv, show r = 0 from by have := (nI_leI (by omega) (by omega)).mp h36; omega]; rfl
            · rfl
          · skip
            have hi2 : i < za_n A := by rcases Nat.lt_or_ge i (za_n A) with z | z; exact z; exact absurd (nI_le z (by omega)) h36
            obtain ⟨r2, rfl⟩ : ∃ r2, r = r2 + 1 := ⟨r - 1, by omega⟩
            refine gq_aload_n dz_D_receiver_39 rfl ?_
            refine gq_getR 20 zf_D_39 rfl rfl dz_D_receiver_40 ?_
            refine gq_iload_n dz_D_receiver_43 rfl ?_
            refine gw_iald (k) (rfl) rfl rfl (Nat.le_of_ble_eq_true rfl) (by omega) dz_D_receiver_44 ?_
            rw [zc_pi hA hk]
            refine gq_iconst (v := 2) dz_D_receiver_45 rfl ?_
            refine gq_icmp_ne (tgt := 61) dz_D_receiver_46 rfl (fun h46 => ?_) (fun h46 => ?_)
            · skip
              have hp0 : (if (decide (za_pi A k = 2) : Bool) then r2 else za_n A - (r2 + 1)) = i := by rw [if_neg (by simpa using h46)]; omega
              refine gq_iload dz_D_receiver_61 rfl ?_
              refine gw_istore 5 dz_D_receiver_63 (Nat.le_of_ble_eq_true rfl) rfl ?_
              dsimp only [List.set]
              refine gq_aload_n dz_D_receiver_65 rfl ?_
              refine gq_iload dz_D_receiver_66 rfl ?_
              refine gq_iload_n dz_D_receiver_68 rfl ?_
              refine gq_iload_n dz_D_receiver_69 rfl ?_
              refine gq_cV (sp_D_meets hA hW (p := i) hi2 hk ab) zw_D_meets zl_D_69 dz_D_receiver_70 rfl rfl rfl (by decide) rfl rfl (Nat.le_of_ble_eq_true rfl) ?_
              refine gw_ifb_eq (tgt := 86) dz_D_receiver_73 rfl (fun h73 => ?_) (fun h73 => ?_)
              · skip
                refine gw_iinc 4 (c := 1) dz_D_receiver_86 rfl rfl (Nat.le_of_ble_eq_true rfl) rfl ?_
                dsimp only [List.set]
                refine gq_goto (tgt := 30) dz_D_receiver_89 rfl ?_
                simp only [nI_1]
                exact zq_fewer _ (zq_sub_spec (by repeat (first | exact trivial | exact rfl | refine And.intro ?_ ?_))) (ih30 r2 w (i + 1) (by omega) (by omega) hw hw4 (hv.trans (zs_rcv_no hp0 h73)))
              · skip
                obtain ⟨w2, rfl⟩ : ∃ w2, w = w2 + 1 := ⟨w - 1, by omega⟩
                refine gw_iinc 3 (c := (-1)) dz_D_receiver_76 rfl rfl (Nat.le_of_ble_eq_true rfl) rfl ?_
                dsimp only [List.set]
                rw [pk_m1]
                refine gq_iload_n dz_D_receiver_79 rfl ?_
                refine gq_if_ne (tgt := 86) dz_D_receiver_80 rfl (fun h80 => ?_) (fun h80 => ?_)
                · skip
                  have hw2 : 1 ≤ w2 := by rcases w2 with _ | w2; exact absurd rfl h80; omega
                  refine gw_iinc 4 (c := 1) dz_D_receiver_86 rfl rfl (Nat.le_of_ble_eq_true rfl) rfl ?_
                  dsimp only [List.set]
                  refine gq_goto (tgt := 30) dz_D_receiver_89 rfl ?_
                  simp only [nI_1]
                  exact zq_fewer _ (zq_sub_spec (by repeat (first | exact trivial | exact rfl | refine And.intro ?_ ?_))) (ih30 r2 w2 (i + 1) (by omega) (by omega) hw2 (by omega) (hv.trans (zs_rcv_go hp0 h73 (by omega))))
                · skip
                  have hw2 : w2 = 0 := (nI_eq (by omega) (by omega)).mp h80
                  subst hw2
                  refine gq_iload dz_D_receiver_83 rfl ?_
                  refine gw_iret .int dz_D_receiver_85 rfl (by first | rfl | exact zb_nar _) ?_ ?_
                  · rw [hv, zs_rcv_hit hp0 h73]
                  · rfl
            · skip
              have hp0 : (if (decide (za_pi A k = 2) : Bool) then r2 else za_n A - (r2 + 1)) = r2 := by rw [if_pos (by simpa using h46)]
              refine gq_aload_n dz_D_receiver_49 rfl ?_
              refine gq_getI zf_D_45 rfl rfl dz_D_receiver_50 ?_
              rw [zc_n hA]
              refine gq_iconst (v := 1) dz_D_receiver_53 rfl ?_
              refine gq_isub dz_D_receiver_54 ?_
              refine gq_iload dz_D_receiver_55 rfl ?_
              refine gq_isub dz_D_receiver_57 ?_
              refine gq_goto (tgt := 63) dz_D_receiver_58 rfl ?_
              refine gw_istore 5 dz_D_receiver_63 (Nat.le_of_ble_eq_true rfl) rfl ?_
              dsimp only [List.set]
              refine gq_aload_n dz_D_receiver_65 rfl ?_
              refine gq_iload dz_D_receiver_66 rfl ?_
              refine gq_iload_n dz_D_receiver_68 rfl ?_
              refine gq_iload_n dz_D_receiver_69 rfl ?_
              rw [show nI (za_n A) - 1 - nI i = nI r2 from by rw [show (1 : Int32) = nI 1 from rfl, pk_sub (by omega), pk_sub (by omega)]; congr 1; omega]
              refine gq_cV (sp_D_meets hA hW (p := r2) (by omega) hk ab) zw_D_meets zl_D_69 dz_D_receiver_70 rfl rfl rfl (by decide) rfl rfl (Nat.le_of_ble_eq_true rfl) ?_
              refine gw_ifb_eq (tgt := 86) dz_D_receiver_73 rfl (fun h73 => ?_) (fun h73 => ?_)
              · skip
                refine gw_iinc 4 (c := 1) dz_D_receiver_86 rfl rfl (Nat.le_of_ble_eq_true rfl) rfl ?_
                dsimp only [List.set]
                refine gq_goto (tgt := 30) dz_D_receiver_89 rfl ?_
                simp only [nI_1]
                exact zq_fewer _ (zq_sub_spec (by repeat (first | exact trivial | exact rfl | refine And.intro ?_ ?_))) (ih30 r2 w (i + 1) (by omega) (by omega) hw hw4 (hv.trans (zs_rcv_no hp0 h73)))
              · skip
                obtain ⟨w2, rfl⟩ : ∃ w2, w = w2 + 1 := ⟨w - 1, by omega⟩
                refine gw_iinc 3 (c := (-1)) dz_D_receiver_76 rfl rfl (Nat.le_of_ble_eq_true rfl) rfl ?_
                dsimp only [List.set]
                rw [pk_m1]
                refine gq_iload_n dz_D_receiver_79 rfl ?_
                refine gq_if_ne (tgt := 86) dz_D_receiver_80 rfl (fun h80 => ?_) (fun h80 => ?_)
                · skip
                  have hw2 : 1 ≤ w2 := by rcases w2 with _ | w2; exact absurd rfl h80; omega
                  refine gw_iinc 4 (c := 1) dz_D_receiver_86 rfl rfl (Nat.le_of_ble_eq_true rfl) rfl ?_
                  dsimp only [List.set]
                  refine gq_goto (tgt := 30) dz_D_receiver_89 rfl ?_
                  simp only [nI_1]
                  exact zq_fewer _ (zq_sub_spec (by repeat (first | exact trivial | exact rfl | refine And.intro ?_ ?_))) (ih30 r2 w2 (i + 1) (by omega) (by omega) hw2 (by omega) (hv.trans (zs_rcv_go hp0 h73 (by omega))))
                · skip
                  have hw2 : w2 = 0 := (nI_eq (by omega) (by omega)).mp h80
                  subst hw2
                  refine gq_iload dz_D_receiver_83 rfl ?_
                  refine gw_iret .int dz_D_receiver_85 rfl (by first | rfl | exact zb_nar _) ?_ ?_
                  · rw [hv, zs_rcv_hit hp0 h73]
                  · rfl
      exact zq_fewer _ (zq_sub_spec (by repeat (first | exact trivial | exact rfl | refine And.intro ?_ ?_))) (L30 (za_n A + 1) (za_n A) _ 0 (by omega) (by omega) (by omega) (by omega) hV2)
    · skip
      have hV2 : zs_recv A k ab = zs_rcv (fun p => zs_meets A k p ab) (za_pi A k = 2) (za_n A) (za_n A) 3 := by rw [zs_recv, if_pos h18]
      refine gq_iconst (v := 3) dz_D_receiver_21 rfl ?_
      refine gq_goto (tgt := 26) dz_D_receiver_22 rfl ?_
      refine gw_istore_n 3 dz_D_receiver_26 rfl (Nat.le_of_ble_eq_true rfl) rfl ?_
      dsimp only [List.set]
      refine gq_iconst (v := 0) dz_D_receiver_27 rfl ?_
      refine gw_istore 4 dz_D_receiver_28 (Nat.le_of_ble_eq_true rfl) rfl ?_
      dsimp only [List.set]
      have L30 : ∀ (kf : Nat) (r w i : Nat) (hkf : r < kf) (hi : i + r = za_n A) (hw : 1 ≤ w) (hw4 : w < 4) (hv : zs_recv A k ab = zs_rcv (fun p => zs_meets A k p ab) (za_pi A k = 2) (za_n A) r w), zq_G ν zm_D_receiver 2 (zq_rv (zq_I (zs_recv A k ab)) σ) 30 [some (zq_O 10 d), some (zq_I (nI k)), some (zq_I ab), some (zq_I (nI w)), some (zq_I (nI i)), none] [] σ := by
        intro kf
        induction kf with
        | zero => intro r w i hkf hi hw hw4 hv; exact absurd hkf (Nat.not_lt_zero _)
        | succ kf ih30 =>
          intro r w i hkf hi hw hw4 hv
          refine gq_iload dz_D_receiver_30 rfl ?_
          refine gq_aload_n dz_D_receiver_32 rfl ?_
          refine gq_getI zf_D_45 rfl rfl dz_D_receiver_33 ?_
          rw [zc_n hA]
          refine gq_icmp_ge (tgt := 92) dz_D_receiver_36 rfl (fun h36 => ?_) (fun h36 => ?_)
          · skip
            refine gq_bipush (v := -4) dz_D_receiver_92 rfl ?_
            refine gw_iret .int dz_D_receiver_94 rfl (by first | rfl | exact zb_nar _) ?_ ?_
            · rw [hv, show r = 0 from by have := (nI_leI (by omega) (by omega)).mp h36; omega]; rfl
            · rfl
          · skip
            have hi2 : i < za_n A := by rcases Nat.lt_or_ge i (za_n A) with z | z; exact z; exact absurd (nI_le z (by omega)) h36
            obtain ⟨r2, rfl⟩ : ∃ r2, r = r2 + 1 := ⟨r - 1, by omega⟩
            refine gq_aload_n dz_D_receiver_39 rfl ?_
            refine gq_getR 20 zf_D_39 rfl rfl dz_D_receiver_40 ?_
            refine gq_iload_n dz_D_receiver_43 rfl ?_
            refine gw_iald (k) (rfl) rfl rfl (Nat.le_of_ble_eq_true rfl) (by omega) dz_D_receiver_44 ?_
            rw [zc_pi hA hk]
            refine gq_iconst (v := 2) dz_D_receiver_45 rfl ?_
            refine gq_icmp_ne (tgt := 61) dz_D_receiver_46 rfl (fun h46 => ?_) (fun h46 => ?_)
            · skip
              have hp0 : (if (decide (za_pi A k = 2) : Bool) then r2 else za_n A - (r2 + 1)) = i := by rw [if_neg (by simpa using h46)]; omega
              refine gq_iload dz_D_receiver_61 rfl ?_
              refine gw_istore 5 dz_D_receiver_63 (Nat.le_of_ble_eq_true rfl) rfl ?_
              dsimp only [List.set]
              refine gq_aload_n dz_D_receiver_65 rfl ?_
              refine gq_iload dz_D_receiver_66 rfl ?_
              refine gq_iload_n dz_D_receiver_68 rfl ?_
              refine gq_iload_n dz_D_receiver_69 rfl ?_
              refine gq_cV (sp_D_meets hA hW (p := i) hi2 hk ab) zw_D_meets zl_D_69 dz_D_receiver_70 rfl rfl rfl (by decide) rfl rfl (Nat.le_of_ble_eq_true rfl) ?_
              refine gw_ifb_eq (tgt := 86) dz_D_receiver_73 rfl (fun h73 => ?_) (fun h73 => ?_)
              · skip
                refine gw_iinc 4 (c := 1) dz_D_receiver_86 rfl rfl (Nat.le_of_ble_eq_true rfl) rfl ?_
                dsimp only [List.set]
                refine gq_goto (tgt := 30) dz_D_receiver_89 rfl ?_
                simp only [nI_1]
                exact zq_fewer _ (zq_sub_spec (by repeat (first | exact trivial | exact rfl | refine And.intro ?_ ?_))) (ih30 r2 w (i + 1) (by omega) (by omega) hw hw4 (hv.trans (zs_rcv_no hp0 h73)))
              · skip
                obtain ⟨w2, rfl⟩ : ∃ w2, w = w2 + 1 := ⟨w - 1, by omega⟩
                refine gw_iinc 3 (c := (-1)) dz_D_receiver_76 rfl rfl (Nat.le_of_ble_eq_true rfl) rfl ?_
                dsimp only [List.set]
                rw [pk_m1]
                refine gq_iload_n dz_D_receiver_79 rfl ?_
                refine gq_if_ne (tgt := 86) dz_D_receiver_80 rfl (fun h80 => ?_) (fun h80 => ?_)
                · skip
                  have hw2 : 1 ≤ w2 := by rcases w2 with _ | w2; exact absurd rfl h80; omega
                  refine gw_iinc 4 (c := 1) dz_D_receiver_86 rfl rfl (Nat.le_of_ble_eq_true rfl) rfl ?_
                  dsimp only [List.set]
                  refine gq_goto (tgt := 30) dz_D_receiver_89 rfl ?_
                  simp only [nI_1]
                  exact zq_fewer _ (zq_sub_spec (by repeat (first | exact trivial | exact rfl | refine And.intro ?_ ?_))) (ih30 r2 w2 (i + 1) (by omega) (by omega) hw2 (by omega) (hv.trans (zs_rcv_go hp0 h73 (by omega))))
                · skip
                  have hw2 : w2 = 0 := (nI_eq (by omega) (by omega)).mp h80
                  subst hw2
                  refine gq_iload dz_D_receiver_83 rfl ?_
                  refine gw_iret .int dz_D_receiver_85 rfl (by first | rfl | exact zb_nar _) ?_ ?_
                  · rw [hv, zs_rcv_hit hp0 h73]
                  · rfl
            · skip
              have hp0 : (if (decide (za_pi A k = 2) : Bool) then r2 else za_n A - (r2 + 1)) = r2 := by rw [if_pos (by simpa using h46)]
              refine gq_aload_n dz_D_receiver_49 rfl ?_
              refine gq_getI zf_D_45 rfl rfl dz_D_receiver_50 ?_
              rw [zc_n hA]
              refine gq_iconst (v := 1) dz_D_receiver_53 rfl ?_
              refine gq_isub dz_D_receiver_54 ?_
              refine gq_iload dz_D_receiver_55 rfl ?_
              refine gq_isub dz_D_receiver_57 ?_
              refine gq_goto (tgt := 63) dz_D_receiver_58 rfl ?_
              refine gw_istore 5 dz_D_receiver_63 (Nat.le_of_ble_eq_true rfl) rfl ?_
              dsimp only [List.set]
              refine gq_aload_n dz_D_receiver_65 rfl ?_
              refine gq_iload dz_D_receiver_66 rfl ?_
              refine gq_iload_n dz_D_receiver_68 rfl ?_
              refine gq_iload_n dz_D_receiver_69 rfl ?_
              rw [show nI (za_n A) - 1 - nI i = nI r2 from by rw [show (1 : Int32) = nI 1 from rfl, pk_sub (by omega), pk_sub (by omega)]; congr 1; omega]
              refine gq_cV (sp_D_meets hA hW (p := r2) (by omega) hk ab) zw_D_meets zl_D_69 dz_D_receiver_70 rfl rfl rfl (by decide) rfl rfl (Nat.le_of_ble_eq_true rfl) ?_
              refine gw_ifb_eq (tgt := 86) dz_D_receiver_73 rfl (fun h73 => ?_) (fun h73 => ?_)
              · skip
                refine gw_iinc 4 (c := 1) dz_D_receiver_86 rfl rfl (Nat.le_of_ble_eq_true rfl) rfl ?_
                dsimp only [List.set]
                refine gq_goto (tgt := 30) dz_D_receiver_89 rfl ?_
                simp only [nI_1]
                exact zq_fewer _ (zq_sub_spec (by repeat (first | exact trivial | exact rfl | refine And.intro ?_ ?_))) (ih30 r2 w (i + 1) (by omega) (by omega) hw hw4 (hv.trans (zs_rcv_no hp0 h73)))
              · skip
                obtain ⟨w2, rfl⟩ : ∃ w2, w = w2 + 1 := ⟨w - 1, by omega⟩
                refine gw_iinc 3 (c := (-1)) dz_D_receiver_76 rfl rfl (Nat.le_of_ble_eq_true rfl) rfl ?_
                dsimp only [List.set]
                rw [pk_m1]
                refine gq_iload_n dz_D_receiver_79 rfl ?_
                refine gq_if_ne (tgt := 86) dz_D_receiver_80 rfl (fun h80 => ?_) (fun h80 => ?_)
                · skip
                  have hw2 : 1 ≤ w2 := by rcases w2 with _ | w2; exact absurd rfl h80; omega
                  refine gw_iinc 4 (c := 1) dz_D_receiver_86 rfl rfl (Nat.le_of_ble_eq_true rfl) rfl ?_
                  dsimp only [List.set]
                  refine gq_goto (tgt := 30) dz_D_receiver_89 rfl ?_
                  simp only [nI_1]
                  exact zq_fewer _ (zq_sub_spec (by repeat (first | exact trivial | exact rfl | refine And.intro ?_ ?_))) (ih30 r2 w2 (i + 1) (by omega) (by omega) hw2 (by omega) (hv.trans (zs_rcv_go hp0 h73 (by omega))))
                · skip
                  have hw2 : w2 = 0 := (nI_eq (by omega) (by omega)).mp h80
                  subst hw2
                  refine gq_iload dz_D_receiver_83 rfl ?_
                  refine gw_iret .int dz_D_receiver_85 rfl (by first | rfl | exact zb_nar _) ?_ ?_
                  · rw [hv, zs_rcv_hit hp0 h73]
                  · rfl
      exact zq_fewer _ (zq_sub_spec (by repeat (first | exact trivial | exact rfl | refine And.intro ?_ ?_))) (L30 (za_n A + 1) (za_n A) _ 0 (by omega) (by omega) (by omega) (by omega) hV2)
  · skip
    refine gq_bipush (v := -4) dz_D_receiver_8 rfl ?_
    refine gw_iret .int dz_D_receiver_10 rfl (by first | rfl | exact zb_nar _) ?_ ?_
    · rw [zs_recvI, h5]; rfl
    · rfl
set_option maxHeartbeats 4000000 in
theorem sp_D_rightOn {σ : zq_T} {d : Fin 5} {A : za_D} (hA : zc_rep σ d A) (hW : za_wf A) (t ab set : Int32) : zq_Sp zm_D_rightOn 3 [zq_O 10 d, zq_I t, zq_I ab, zq_I set] σ (zq_rv (zq_I (zs_right A t ab set)) σ) := by
  have hn6 := zc_n6 hA
  have hm5 := zc_m5 hA
  refine zq_sp [some (zq_O 10 d), some (zq_I t), some (zq_I ab), some (zq_I set), none, none, none] (by decide +kernel) rfl (Nat.le_of_ble_eq_true rfl) (fun ν => ?_)
  refine gq_bipush (v := -4) dz_D_rightOn_0 rfl ?_
  refine gw_istore 4 dz_D_rightOn_2 (Nat.le_of_ble_eq_true rfl) rfl ?_
  dsimp only [List.set]
  refine gq_iconst (v := 0) dz_D_rightOn_4 rfl ?_
  refine gw_istore 5 dz_D_rightOn_5 (Nat.le_of_ble_eq_true rfl) rfl ?_
  dsimp only [List.set]
  have L7 : ∀ (kf : Nat) (k : Nat) (hkf : za_m A - k < kf) (hk : k ≤ za_m A), zq_G ν zm_D_rightOn 3 (zq_rv (zq_I (zs_right A t ab set)) σ) 7 [some (zq_O 10 d), some (zq_I t), some (zq_I ab), some (zq_I set), some (zq_I (zs_rt A t ab set k)), some (zq_I (nI k)), none] [] σ := by
    intro kf
    induction kf with
    | zero => intro k hkf hk; exact absurd hkf (Nat.not_lt_zero _)
    | succ kf ih7 =>
      intro k hkf hk
      refine gq_iload dz_D_rightOn_7 rfl ?_
      refine gq_aload_n dz_D_rightOn_9 rfl ?_
      refine gq_getI zf_D_52 rfl rfl dz_D_rightOn_10 ?_
      rw [zc_m hA]
      refine gq_icmp_ge (tgt := 97) dz_D_rightOn_13 rfl (fun h13 => ?_) (fun h13 => ?_)
      · skip
        refine gq_iload dz_D_rightOn_97 rfl ?_
        refine gw_iret .int dz_D_rightOn_99 rfl (by first | rfl | exact zb_nar _) ?_ ?_
        · rw [zs_right, show k = za_m A from by have := (nI_leI (by omega) (by omega)).mp h13; omega]
        · rfl
      · skip
        have hk2 : k < za_m A := by rcases Nat.lt_or_ge k (za_m A) with z | z; exact z; exact absurd (nI_le z (by omega)) h13
        refine gq_iload_n dz_D_rightOn_16 rfl ?_
        refine gq_iload dz_D_rightOn_17 rfl ?_
        refine gq_ishr dz_D_rightOn_19 ?_
        refine gq_iconst (v := 1) dz_D_rightOn_20 rfl ?_
        refine gq_iand dz_D_rightOn_21 ?_
        refine gq_if_eq (tgt := 91) dz_D_rightOn_22 rfl (fun h22 => ?_) (fun h22 => ?_)
        · skip
          refine gw_iinc 5 (c := 1) dz_D_rightOn_91 rfl rfl (Nat.le_of_ble_eq_true rfl) rfl ?_
          dsimp only [List.set]
          refine gq_goto (tgt := 7) dz_D_rightOn_94 rfl ?_
          simp only [nI_1]
          rw [← zs_rt_f (A := A) (t := t) (ab := ab) (set := set) (k := k) (fun z => by have := z.1; rw [zb_bit_f h22] at this; cases this)]
          exact zq_fewer _ (zq_sub_spec (by repeat (first | exact trivial | exact rfl | refine And.intro ?_ ?_))) (ih7 (k + 1) (by omega) (by omega))
        · skip
          refine gq_aload_n dz_D_rightOn_25 rfl ?_
          refine gq_getR 17 zf_D_30 rfl rfl dz_D_rightOn_26 ?_
          refine gq_iload dz_D_rightOn_29 rfl ?_
          refine gw_iald (k) (rfl) rfl rfl (Nat.le_of_ble_eq_true rfl) (by omega) dz_D_rightOn_31 ?_
          rw [zc_th hA hk2]
          refine gq_iload_n dz_D_rightOn_32 rfl ?_
          refine gq_icmp_eq (tgt := 39) dz_D_rightOn_33 rfl (fun h33 => ?_) (fun h33 => ?_)
          · skip
            refine gq_iload dz_D_rightOn_39 rfl ?_
            refine gq_bipush (v := -4) dz_D_rightOn_41 rfl ?_
            refine gq_icmp_eq (tgt := 63) dz_D_rightOn_43 rfl (fun h43 => ?_) (fun h43 => ?_)
            · skip
              refine gq_iconst (v := 1) dz_D_rightOn_63 rfl ?_
              refine gq_goto (tgt := 68) dz_D_rightOn_64 rfl ?_
              refine gw_istore 6 dz_D_rightOn_68 (Nat.le_of_ble_eq_true rfl) rfl ?_
              dsimp only [List.set]
              refine gq_iload dz_D_rightOn_70 rfl ?_
              refine gq_if_eq (tgt := 91) dz_D_rightOn_72 rfl (fun h72 => ?_) (fun h72 => ?_)
              · skip
                exact absurd h72 (by decide)
              · skip
                refine gq_aload_n dz_D_rightOn_75 rfl ?_
                refine gq_iload dz_D_rightOn_76 rfl ?_
                refine gq_iload_n dz_D_rightOn_78 rfl ?_
                refine gq_cV (sp_D_receiver hA hW _ _) zw_D_receiver zl_D_73 dz_D_rightOn_79 rfl rfl rfl (by decide) rfl rfl (Nat.le_of_ble_eq_true rfl) ?_
                rw [zs_recvI_nI hk2]
                refine gq_bipush (v := -4) dz_D_rightOn_82 rfl ?_
                refine gq_icmp_eq (tgt := 91) dz_D_rightOn_84 rfl (fun h84 => ?_) (fun h84 => ?_)
                · skip
                  refine gw_iinc 5 (c := 1) dz_D_rightOn_91 rfl rfl (Nat.le_of_ble_eq_true rfl) rfl ?_
                  dsimp only [List.set]
                  refine gq_goto (tgt := 7) dz_D_rightOn_94 rfl ?_
                  simp only [nI_1]
                  rw [← zs_rt_f (A := A) (t := t) (ab := ab) (set := set) (k := k) (fun z => z.2.2.2 h84)]
                  exact zq_fewer _ (zq_sub_spec (by repeat (first | exact trivial | exact rfl | refine And.intro ?_ ?_))) (ih7 (k + 1) (by omega) (by omega))
                · skip
                  refine gq_iload dz_D_rightOn_87 rfl ?_
                  refine gw_istore 4 dz_D_rightOn_89 (Nat.le_of_ble_eq_true rfl) rfl ?_
                  dsimp only [List.set]
                  refine gw_iinc 5 (c := 1) dz_D_rightOn_91 rfl rfl (Nat.le_of_ble_eq_true rfl) rfl ?_
                  dsimp only [List.set]
                  refine gq_goto (tgt := 7) dz_D_rightOn_94 rfl ?_
                  simp only [nI_1]
                  rw [← zs_rt_t (A := A) (t := t) (ab := ab) (set := set) (k := k) ⟨zb_bit_t h22, h33, Or.inl h43, h84⟩]
                  exact zq_fewer _ (zq_sub_spec (by repeat (first | exact trivial | exact rfl | refine And.intro ?_ ?_))) (ih7 (k + 1) (by omega) (by omega))
            · skip
              obtain ⟨q, hq, he⟩ := zs_rt_lt h43
              refine gq_aload_n dz_D_rightOn_46 rfl ?_
              refine gq_getR 16 zf_D_27 rfl rfl dz_D_rightOn_47 ?_
              refine gq_iload dz_D_rightOn_50 rfl ?_
              refine gw_iald (k) (rfl) rfl rfl (Nat.le_of_ble_eq_true rfl) (by omega) dz_D_rightOn_52 ?_
              rw [zc_rk hA hk2]
              refine gq_aload_n dz_D_rightOn_53 rfl ?_
              refine gq_getR 16 zf_D_27 rfl rfl dz_D_rightOn_54 ?_
              refine gq_iload dz_D_rightOn_57 rfl ?_
              refine gw_iald (q) (he) rfl rfl (Nat.le_of_ble_eq_true rfl) (by omega) dz_D_rightOn_59 ?_
              rw [zc_rk hA (by omega)]
              refine gq_icmp_ge (tgt := 67) dz_D_rightOn_60 rfl (fun h60 => ?_) (fun h60 => ?_)
              · skip
                refine gq_iconst (v := 0) dz_D_rightOn_67 rfl ?_
                refine gw_istore 6 dz_D_rightOn_68 (Nat.le_of_ble_eq_true rfl) rfl ?_
                dsimp only [List.set]
                refine gq_iload dz_D_rightOn_70 rfl ?_
                refine gq_if_eq (tgt := 91) dz_D_rightOn_72 rfl (fun h72 => ?_) (fun h72 => ?_)
                · skip
                  refine gw_iinc 5 (c := 1) dz_D_rightOn_91 rfl rfl (Nat.le_of_ble_eq_true rfl) rfl ?_
                  dsimp only [List.set]
                  refine gq_goto (tgt := 7) dz_D_rightOn_94 rfl ?_
                  simp only [nI_1]
                  rw [← zs_rt_f (A := A) (t := t) (ab := ab) (set := set) (k := k) (fun z => zs_rt_no h43 he h60 (by omega) z.2.2.1)]
                  exact zq_fewer _ (zq_sub_spec (by repeat (first | exact trivial | exact rfl | refine And.intro ?_ ?_))) (ih7 (k + 1) (by omega) (by omega))
                · skip
                  exact absurd rfl h72
              · skip
                refine gq_iconst (v := 1) dz_D_rightOn_63 rfl ?_
                refine gq_goto (tgt := 68) dz_D_rightOn_64 rfl ?_
                refine gw_istore 6 dz_D_rightOn_68 (Nat.le_of_ble_eq_true rfl) rfl ?_
                dsimp only [List.set]
                refine gq_iload dz_D_rightOn_70 rfl ?_
                refine gq_if_eq (tgt := 91) dz_D_rightOn_72 rfl (fun h72 => ?_) (fun h72 => ?_)
                · skip
                  exact absurd h72 (by decide)
                · skip
                  refine gq_aload_n dz_D_rightOn_75 rfl ?_
                  refine gq_iload dz_D_rightOn_76 rfl ?_
                  refine gq_iload_n dz_D_rightOn_78 rfl ?_
                  refine gq_cV (sp_D_receiver hA hW _ _) zw_D_receiver zl_D_73 dz_D_rightOn_79 rfl rfl rfl (by decide) rfl rfl (Nat.le_of_ble_eq_true rfl) ?_
                  rw [zs_recvI_nI hk2]
                  refine gq_bipush (v := -4) dz_D_rightOn_82 rfl ?_
                  refine gq_icmp_eq (tgt := 91) dz_D_rightOn_84 rfl (fun h84 => ?_) (fun h84 => ?_)
                  · skip
                    refine gw_iinc 5 (c := 1) dz_D_rightOn_91 rfl rfl (Nat.le_of_ble_eq_true rfl) rfl ?_
                    dsimp only [List.set]
                    refine gq_goto (tgt := 7) dz_D_rightOn_94 rfl ?_
                    simp only [nI_1]
                    rw [← zs_rt_f (A := A) (t := t) (ab := ab) (set := set) (k := k) (fun z => z.2.2.2 h84)]
                    exact zq_fewer _ (zq_sub_spec (by repeat (first | exact trivial | exact rfl | refine And.intro ?_ ?_))) (ih7 (k + 1) (by omega) (by omega))
                  · skip
                    refine gq_iload dz_D_rightOn_87 rfl ?_
                    refine gw_istore 4 dz_D_rightOn_89 (Nat.le_of_ble_eq_true rfl) rfl ?_
                    dsimp only [List.set]
                    refine gw_iinc 5 (c := 1) dz_D_rightOn_91 rfl rfl (Nat.le_of_ble_eq_true rfl) rfl ?_
                    dsimp only [List.set]
                    refine gq_goto (tgt := 7) dz_D_rightOn_94 rfl ?_
                    simp only [nI_1]
                    rw [← zs_rt_t (A := A) (t := t) (ab := ab) (set := set) (k := k) ⟨zb_bit_t h22, h33, Or.inr (zs_rt_ye he (by omega) h60), h84⟩]
                    exact zq_fewer _ (zq_sub_spec (by repeat (first | exact trivial | exact rfl | refine And.intro ?_ ?_))) (ih7 (k + 1) (by omega) (by omega))
          · skip
            refine gq_goto (tgt := 91) dz_D_rightOn_36 rfl ?_
            refine gw_iinc 5 (c := 1) dz_D_rightOn_91 rfl rfl (Nat.le_of_ble_eq_true rfl) rfl ?_
            dsimp only [List.set]
            refine gq_goto (tgt := 7) dz_D_rightOn_94 rfl ?_
            simp only [nI_1]
            rw [← zs_rt_f (A := A) (t := t) (ab := ab) (set := set) (k := k) (fun z => h33 z.2.1)]
            exact zq_fewer _ (zq_sub_spec (by repeat (first | exact trivial | exact rfl | refine And.intro ?_ ?_))) (ih7 (k + 1) (by omega) (by omega))
  exact zq_fewer _ (zq_sub_spec (by repeat (first | exact trivial | exact rfl | refine And.intro ?_ ?_))) (L7 (za_m A + 1) 0 (by omega) (by omega))
set_option maxHeartbeats 4000000 in
theorem sp_D_ownerIn {σ : zq_T} {d : Fin 5} {A : za_D} (hA : zc_rep σ d A) (hW : za_wf A) (t ab set : Int32) : zq_Sp zm_D_ownerIn 4 [zq_O 10 d, zq_I t, zq_I ab, zq_I set] σ (zq_rv (zq_I (zs_own A t ab set)) σ) := by
  refine zq_sp [some (zq_O 10 d), some (zq_I t), some (zq_I ab), some (zq_I set)] (by decide +kernel) rfl (Nat.le_of_ble_eq_true rfl) (fun ν => ?_)
  refine gq_aload_n dz_D_ownerIn_0 rfl ?_
  refine gq_aload_n dz_D_ownerIn_1 rfl ?_
  refine gq_iload_n dz_D_ownerIn_2 rfl ?_
  refine gq_iload_n dz_D_ownerIn_3 rfl ?_
  refine gq_iload_n dz_D_ownerIn_4 rfl ?_
  refine gq_cV (sp_D_rightOn hA hW _ _ _) zw_D_rightOn zl_D_76 dz_D_ownerIn_5 rfl rfl rfl (by decide) rfl rfl (Nat.le_of_ble_eq_true rfl) ?_
  refine gq_iload_n dz_D_ownerIn_8 rfl ?_
  refine gq_cV (sp_D_receiver hA hW _ _) zw_D_receiver zl_D_73 dz_D_ownerIn_9 rfl rfl rfl (by decide) rfl rfl (Nat.le_of_ble_eq_true rfl) ?_
  refine gw_iret .int dz_D_ownerIn_12 rfl (by first | rfl | exact zb_nar _) ?_ ?_
  · rfl
  · rfl
set_option maxHeartbeats 4000000 in
theorem sp_D_ownerNow {σ : zq_T} {d : Fin 5} {A : za_D} (hA : zc_rep σ d A) (hW : za_wf A) (t : Int32) : zq_Sp zm_D_ownerNow 5 [zq_O 10 d, zq_I t] σ (zq_rv (zq_I (zs_own A t (za_g A) 31)) σ) := by
  refine zq_sp [some (zq_O 10 d), some (zq_I t)] (by decide +kernel) rfl (Nat.le_of_ble_eq_true rfl) (fun ν => ?_)
  refine gq_aload_n dz_D_ownerNow_0 rfl ?_
  refine gq_iload_n dz_D_ownerNow_1 rfl ?_
  refine gq_aload_n dz_D_ownerNow_2 rfl ?_
  refine gq_getI zf_D_49 rfl rfl dz_D_ownerNow_3 ?_
  rw [zc_g hA]
  refine gq_bipush (v := 31) dz_D_ownerNow_6 rfl ?_
  refine gq_cV (sp_D_ownerIn hA hW _ _ _) zw_D_ownerIn zl_D_80 dz_D_ownerNow_8 rfl rfl rfl (by decide) rfl rfl (Nat.le_of_ble_eq_true rfl) ?_
  refine gw_iret .int dz_D_ownerNow_11 rfl (by first | rfl | exact zb_nar _) ?_ ?_
  · rfl
  · rfl
set_option maxHeartbeats 4000000 in
theorem sp_D_thingsOf {σ : zq_T} {d : Fin 5} {A : za_D} (hA : zc_rep σ d A) (hW : za_wf A) (p : Int32) : zq_Sp zm_D_thingsOf 6 [zq_O 10 d, zq_I p] σ (zq_rv (zq_I (zf_or (fun t => decide (zs_own A (nI t) (za_g A) 31 = p)) 4)) σ) := by
  have hn6 := zc_n6 hA
  have hm5 := zc_m5 hA
  refine zq_sp [some (zq_O 10 d), some (zq_I p), none, none] (by decide +kernel) rfl (Nat.le_of_ble_eq_true rfl) (fun ν => ?_)
  refine gq_iconst (v := 0) dz_D_thingsOf_0 rfl ?_
  refine gw_istore_n 2 dz_D_thingsOf_1 rfl (Nat.le_of_ble_eq_true rfl) rfl ?_
  dsimp only [List.set]
  refine gq_iconst (v := 0) dz_D_thingsOf_2 rfl ?_
  refine gw_istore_n 3 dz_D_thingsOf_3 rfl (Nat.le_of_ble_eq_true rfl) rfl ?_
  dsimp only [List.set]
  have L4 : ∀ (kf : Nat) (t : Nat) (hkf : 4 - t < kf) (ht : t ≤ 4), zq_G ν zm_D_thingsOf 6 (zq_rv (zq_I (zf_or (fun t => decide (zs_own A (nI t) (za_g A) 31 = p)) 4)) σ) 4 [some (zq_O 10 d), some (zq_I p), some (zq_I (zf_or (fun t => decide (zs_own A (nI t) (za_g A) 31 = p)) t)), some (zq_I (nI t))] [] σ := by
    intro kf
    induction kf with
    | zero => intro t hkf ht; exact absurd hkf (Nat.not_lt_zero _)
    | succ kf ih4 =>
      intro t hkf ht
      refine gq_iload_n dz_D_thingsOf_4 rfl ?_
      refine gq_iconst (v := 4) dz_D_thingsOf_5 rfl ?_
      refine gq_icmp_ge (tgt := 30) dz_D_thingsOf_6 rfl (fun h6 => ?_) (fun h6 => ?_)
      · skip
        refine gq_iload_n dz_D_thingsOf_30 rfl ?_
        refine gw_iret .int dz_D_thingsOf_31 rfl (by first | rfl | exact zb_nar _) ?_ ?_
        · rw [show t = 4 from by have := (nI_leI (a := 4) (by omega) (by omega)).mp h6; omega]
        · rfl
      · skip
        have ht2 : t < 4 := by rcases Nat.lt_or_ge t 4 with z | z; exact z; exact absurd (nI_le z (by omega)) h6
        refine gq_aload_n dz_D_thingsOf_9 rfl ?_
        refine gq_iload_n dz_D_thingsOf_10 rfl ?_
        refine gq_cV (sp_D_ownerNow hA hW _) zw_D_ownerNow zl_D_83 dz_D_thingsOf_11 rfl rfl rfl (by decide) rfl rfl (Nat.le_of_ble_eq_true rfl) ?_
        refine gq_iload_n dz_D_thingsOf_14 rfl ?_
        refine gq_icmp_ne (tgt := 24) dz_D_thingsOf_15 rfl (fun h15 => ?_) (fun h15 => ?_)
        · skip
          refine gw_iinc 3 (c := 1) dz_D_thingsOf_24 rfl rfl (Nat.le_of_ble_eq_true rfl) rfl ?_
          dsimp only [List.set]
          refine gq_goto (tgt := 4) dz_D_thingsOf_27 rfl ?_
          simp only [nI_1]
          rw [← zf_or_f (P := fun t => decide (zs_own A (nI t) (za_g A) 31 = p)) (decide_eq_false h15)]
          exact zq_fewer _ (zq_sub_spec (by repeat (first | exact trivial | exact rfl | refine And.intro ?_ ?_))) (ih4 (t + 1) (by omega) (by omega))
        · skip
          refine gq_iload_n dz_D_thingsOf_18 rfl ?_
          refine gq_iconst (v := 1) dz_D_thingsOf_19 rfl ?_
          refine gq_iload_n dz_D_thingsOf_20 rfl ?_
          refine gq_ishl dz_D_thingsOf_21 ?_
          refine gq_ior dz_D_thingsOf_22 ?_
          refine gw_istore_n 2 dz_D_thingsOf_23 rfl (Nat.le_of_ble_eq_true rfl) rfl ?_
          dsimp only [List.set]
          refine gw_iinc 3 (c := 1) dz_D_thingsOf_24 rfl rfl (Nat.le_of_ble_eq_true rfl) rfl ?_
          dsimp only [List.set]
          refine gq_goto (tgt := 4) dz_D_thingsOf_27 rfl ?_
          simp only [nI_1]
          rw [← zf_or_t (P := fun t => decide (zs_own A (nI t) (za_g A) 31 = p)) (decide_eq_true h15)]
          exact zq_fewer _ (zq_sub_spec (by repeat (first | exact trivial | exact rfl | refine And.intro ?_ ?_))) (ih4 (t + 1) (by omega) (by omega))
  exact zq_fewer _ (zq_sub_spec (by repeat (first | exact trivial | exact rfl | refine And.intro ?_ ?_))) (L4 5 0 (by omega) (by omega))
set_option maxHeartbeats 4000000 in
theorem sp_D_givingRules {σ : zq_T} {d : Fin 5} {A : za_D} (hA : zc_rep σ d A) (hW : za_wf A) (ab : Int32) : zq_Sp zm_D_givingRules 3 [zq_O 10 d, zq_I ab] σ (zq_rv (zq_I (zf_or (fun k => decide (¬ zs_recv A k ab = -4)) (za_m A))) σ) := by
  have hn6 := zc_n6 hA
  have hm5 := zc_m5 hA
  refine zq_sp [some (zq_O 10 d), some (zq_I ab), none, none] (by decide +kernel) rfl (Nat.le_of_ble_eq_true rfl) (fun ν => ?_)
  refine gq_iconst (v := 0) dz_D_givingRules_0 rfl ?_
  refine gw_istore_n 2 dz_D_givingRules_1 rfl (Nat.le_of_ble_eq_true rfl) rfl ?_
  dsimp only [List.set]
  refine gq_iconst (v := 0) dz_D_givingRules_2 rfl ?_
  refine gw_istore_n 3 dz_D_givingRules_3 rfl (Nat.le_of_ble_eq_true rfl) rfl ?_
  dsimp only [List.set]
  have L4 : ∀ (kf : Nat) (k : Nat) (hkf : za_m A - k < kf) (hk : k ≤ za_m A), zq_G ν zm_D_givingRules 3 (zq_rv (zq_I (zf_or (fun k => decide (¬ zs_recv A k ab = -4)) (za_m A))) σ) 4 [some (zq_O 10 d), some (zq_I ab), some (zq_I (zf_or (fun k => decide (¬ zs_recv A k ab = -4)) k)), some (zq_I (nI k))] [] σ := by
    intro kf
    induction kf with
    | zero => intro k hkf hk; exact absurd hkf (Nat.not_lt_zero _)
    | succ kf ih4 =>
      intro k hkf hk
      refine gq_iload_n dz_D_givingRules_4 rfl ?_
      refine gq_aload_n dz_D_givingRules_5 rfl ?_
      refine gq_getI zf_D_52 rfl rfl dz_D_givingRules_6 ?_
      rw [zc_m hA]
      refine gq_icmp_ge (tgt := 35) dz_D_givingRules_9 rfl (fun h9 => ?_) (fun h9 => ?_)
      · skip
        refine gq_iload_n dz_D_givingRules_35 rfl ?_
        refine gw_iret .int dz_D_givingRules_36 rfl (by first | rfl | exact zb_nar _) ?_ ?_
        · rw [show k = za_m A from by have := (nI_leI (by omega) (by omega)).mp h9; omega]
        · rfl
      · skip
        have hk2 : k < za_m A := by rcases Nat.lt_or_ge k (za_m A) with z | z; exact z; exact absurd (nI_le z (by omega)) h9
        refine gq_aload_n dz_D_givingRules_12 rfl ?_
        refine gq_iload_n dz_D_givingRules_13 rfl ?_
        refine gq_iload_n dz_D_givingRules_14 rfl ?_
        refine gq_cV (sp_D_receiver hA hW _ _) zw_D_receiver zl_D_73 dz_D_givingRules_15 rfl rfl rfl (by decide) rfl rfl (Nat.le_of_ble_eq_true rfl) ?_
        rw [zs_recvI_nI hk2]
        refine gq_bipush (v := -4) dz_D_givingRules_18 rfl ?_
        refine gq_icmp_eq (tgt := 29) dz_D_givingRules_20 rfl (fun h20 => ?_) (fun h20 => ?_)
        · skip
          refine gw_iinc 3 (c := 1) dz_D_givingRules_29 rfl rfl (Nat.le_of_ble_eq_true rfl) rfl ?_
          dsimp only [List.set]
          refine gq_goto (tgt := 4) dz_D_givingRules_32 rfl ?_
          simp only [nI_1]
          rw [← zf_or_f (P := fun k => decide (¬ zs_recv A k ab = -4)) (decide_eq_false (fun z => z h20))]
          exact zq_fewer _ (zq_sub_spec (by repeat (first | exact trivial | exact rfl | refine And.intro ?_ ?_))) (ih4 (k + 1) (by omega) (by omega))
        · skip
          refine gq_iload_n dz_D_givingRules_23 rfl ?_
          refine gq_iconst (v := 1) dz_D_givingRules_24 rfl ?_
          refine gq_iload_n dz_D_givingRules_25 rfl ?_
          refine gq_ishl dz_D_givingRules_26 ?_
          refine gq_ior dz_D_givingRules_27 ?_
          refine gw_istore_n 2 dz_D_givingRules_28 rfl (Nat.le_of_ble_eq_true rfl) rfl ?_
          dsimp only [List.set]
          refine gw_iinc 3 (c := 1) dz_D_givingRules_29 rfl rfl (Nat.le_of_ble_eq_true rfl) rfl ?_
          dsimp only [List.set]
          refine gq_goto (tgt := 4) dz_D_givingRules_32 rfl ?_
          simp only [nI_1]
          rw [← zf_or_t (P := fun k => decide (¬ zs_recv A k ab = -4)) (decide_eq_true h20)]
          exact zq_fewer _ (zq_sub_spec (by repeat (first | exact trivial | exact rfl | refine And.intro ?_ ?_))) (ih4 (k + 1) (by omega) (by omega))
  exact zq_fewer _ (zq_sub_spec (by repeat (first | exact trivial | exact rfl | refine And.intro ?_ ?_))) (L4 (za_m A + 1) 0 (by omega) (by omega))
