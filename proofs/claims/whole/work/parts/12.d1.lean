theorem zq_le6 {x : Int32} {n : Nat} (h : 6 ≤ x) (hn : n ≤ 6) : nI n ≤ x := by
  have h1 : nI n ≤ nI 6 := nI_le hn (by omega)
  rw [Int32.le_iff_toInt_le] at *
  have : (6 : Int32).toInt = (nI 6).toInt := rfl
  omega
theorem zq_le5 {x : Int32} {n : Nat} (h : 5 ≤ x) (hn : n ≤ 5) : nI n ≤ x := by
  have h1 : nI n ≤ nI 5 := nI_le hn (by omega)
  rw [Int32.le_iff_toInt_le] at *
  have : (5 : Int32).toInt = (nI 5).toInt := rfl
  omega

set_option maxHeartbeats 4000000 in
theorem sp_S_isFact {σ : zq_T} (f : Int32) : zq_Sp zm_S_isFact 0 [zq_I f] σ (zq_rv (zq_I (zb_v (zb_in f 5))) σ) := by
  refine zq_sp [some (zq_I f)] (by decide +kernel) rfl (Nat.le_of_ble_eq_true rfl) (fun ν => ?_)
  refine gq_iload_n dz_S_isFact_0 rfl ?_
  refine gq_if_lt (tgt := 13) dz_S_isFact_1 rfl (fun h1 => ?_) (fun h1 => ?_)
  · skip
    refine gq_iconst (v := 0) dz_S_isFact_13 rfl ?_
    refine gw_iret .boolean dz_S_isFact_14 rfl (by first | rfl | exact zb_nar _) ?_ ?_
    · rw [zb_in_lt h1]; rfl
    · rfl
  · skip
    refine gq_iload_n dz_S_isFact_4 rfl ?_
    refine gq_iconst (v := 5) dz_S_isFact_5 rfl ?_
    refine gq_icmp_ge (tgt := 13) dz_S_isFact_6 rfl (fun h6 => ?_) (fun h6 => ?_)
    · skip
      refine gq_iconst (v := 0) dz_S_isFact_13 rfl ?_
      refine gw_iret .boolean dz_S_isFact_14 rfl (by first | rfl | exact zb_nar _) ?_ ?_
      · rw [zb_in_ge (n := 5) h6]; rfl
      · rfl
    · skip
      refine gq_iconst (v := 1) dz_S_isFact_9 rfl ?_
      refine gq_goto (tgt := 14) dz_S_isFact_10 rfl ?_
      refine gw_iret .boolean dz_S_isFact_14 rfl (by first | rfl | exact zb_nar _) ?_ ?_
      · rw [zb_in_of (n := 5) h1 h6]; rfl
      · rfl
set_option maxHeartbeats 4000000 in
theorem sp_S_isThing {σ : zq_T} (f : Int32) : zq_Sp zm_S_isThing 0 [zq_I f] σ (zq_rv (zq_I (zb_v (zb_in f 4))) σ) := by
  refine zq_sp [some (zq_I f)] (by decide +kernel) rfl (Nat.le_of_ble_eq_true rfl) (fun ν => ?_)
  refine gq_iload_n dz_S_isThing_0 rfl ?_
  refine gq_if_lt (tgt := 13) dz_S_isThing_1 rfl (fun h1 => ?_) (fun h1 => ?_)
  · skip
    refine gq_iconst (v := 0) dz_S_isThing_13 rfl ?_
    refine gw_iret .boolean dz_S_isThing_14 rfl (by first | rfl | exact zb_nar _) ?_ ?_
    · rw [zb_in_lt h1]; rfl
    · rfl
  · skip
    refine gq_iload_n dz_S_isThing_4 rfl ?_
    refine gq_iconst (v := 4) dz_S_isThing_5 rfl ?_
    refine gq_icmp_ge (tgt := 13) dz_S_isThing_6 rfl (fun h6 => ?_) (fun h6 => ?_)
    · skip
      refine gq_iconst (v := 0) dz_S_isThing_13 rfl ?_
      refine gw_iret .boolean dz_S_isThing_14 rfl (by first | rfl | exact zb_nar _) ?_ ?_
      · rw [zb_in_ge (n := 4) h6]; rfl
      · rfl
    · skip
      refine gq_iconst (v := 1) dz_S_isThing_9 rfl ?_
      refine gq_goto (tgt := 14) dz_S_isThing_10 rfl ?_
      refine gw_iret .boolean dz_S_isThing_14 rfl (by first | rfl | exact zb_nar _) ?_ ?_
      · rw [zb_in_of (n := 4) h1 h6]; rfl
      · rfl
set_option maxHeartbeats 4000000 in
theorem sp_D_isOne {σ : zq_T} {d : Fin 5} {A : za_D} (hA : zc_rep σ d A) (p : Int32) : zq_Sp zm_D_isOne 0 [zq_O 10 d, zq_I p] σ (zq_rv (zq_I (zb_v (zb_in p (za_n A)))) σ) := by
  have hn6 := zc_n6 hA
  have hm5 := zc_m5 hA
  refine zq_sp [some (zq_O 10 d), some (zq_I p)] (by decide +kernel) rfl (Nat.le_of_ble_eq_true rfl) (fun ν => ?_)
  refine gq_iload_n dz_D_isOne_0 rfl ?_
  refine gq_if_lt (tgt := 22) dz_D_isOne_1 rfl (fun h1 => ?_) (fun h1 => ?_)
  · skip
    refine gq_iconst (v := 0) dz_D_isOne_22 rfl ?_
    refine gw_iret .boolean dz_D_isOne_23 rfl (by first | rfl | exact zb_nar _) ?_ ?_
    · rw [zb_in_lt h1]; rfl
    · rfl
  · skip
    refine gq_iload_n dz_D_isOne_4 rfl ?_
    refine gq_aload_n dz_D_isOne_5 rfl ?_
    refine gq_getI zf_D_45 rfl rfl dz_D_isOne_6 ?_
    rw [zc_n hA]
    refine gq_icmp_ge (tgt := 22) dz_D_isOne_9 rfl (fun h9 => ?_) (fun h9 => ?_)
    · skip
      refine gq_iconst (v := 0) dz_D_isOne_22 rfl ?_
      refine gw_iret .boolean dz_D_isOne_23 rfl (by first | rfl | exact zb_nar _) ?_ ?_
      · rw [zb_in_ge h9]; rfl
      · rfl
    · skip
      refine gq_iload_n dz_D_isOne_12 rfl ?_
      refine gq_bipush (v := 6) dz_D_isOne_13 rfl ?_
      refine gq_icmp_ge (tgt := 22) dz_D_isOne_15 rfl (fun h15 => ?_) (fun h15 => ?_)
      · skip
        refine gq_iconst (v := 0) dz_D_isOne_22 rfl ?_
        refine gw_iret .boolean dz_D_isOne_23 rfl (by first | rfl | exact zb_nar _) ?_ ?_
        · rw [zb_in_ge (zq_le6 h15 (by omega))]; rfl
        · rfl
      · skip
        refine gq_iconst (v := 1) dz_D_isOne_18 rfl ?_
        refine gq_goto (tgt := 23) dz_D_isOne_19 rfl ?_
        refine gw_iret .boolean dz_D_isOne_23 rfl (by first | rfl | exact zb_nar _) ?_ ?_
        · rw [zb_in_of h1 h9]; rfl
        · rfl
set_option maxHeartbeats 4000000 in
theorem sp_D_isRule {σ : zq_T} {d : Fin 5} {A : za_D} (hA : zc_rep σ d A) (p : Int32) : zq_Sp zm_D_isRule 0 [zq_O 10 d, zq_I p] σ (zq_rv (zq_I (zb_v (zb_in p (za_m A)))) σ) := by
  have hn6 := zc_n6 hA
  have hm5 := zc_m5 hA
  refine zq_sp [some (zq_O 10 d), some (zq_I p)] (by decide +kernel) rfl (Nat.le_of_ble_eq_true rfl) (fun ν => ?_)
  refine gq_iload_n dz_D_isRule_0 rfl ?_
  refine gq_if_lt (tgt := 21) dz_D_isRule_1 rfl (fun h1 => ?_) (fun h1 => ?_)
  · skip
    refine gq_iconst (v := 0) dz_D_isRule_21 rfl ?_
    refine gw_iret .boolean dz_D_isRule_22 rfl (by first | rfl | exact zb_nar _) ?_ ?_
    · rw [zb_in_lt h1]; rfl
    · rfl
  · skip
    refine gq_iload_n dz_D_isRule_4 rfl ?_
    refine gq_aload_n dz_D_isRule_5 rfl ?_
    refine gq_getI zf_D_52 rfl rfl dz_D_isRule_6 ?_
    rw [zc_m hA]
    refine gq_icmp_ge (tgt := 21) dz_D_isRule_9 rfl (fun h9 => ?_) (fun h9 => ?_)
    · skip
      refine gq_iconst (v := 0) dz_D_isRule_21 rfl ?_
      refine gw_iret .boolean dz_D_isRule_22 rfl (by first | rfl | exact zb_nar _) ?_ ?_
      · rw [zb_in_ge h9]; rfl
      · rfl
    · skip
      refine gq_iload_n dz_D_isRule_12 rfl ?_
      refine gq_iconst (v := 5) dz_D_isRule_13 rfl ?_
      refine gq_icmp_ge (tgt := 21) dz_D_isRule_14 rfl (fun h14 => ?_) (fun h14 => ?_)
      · skip
        refine gq_iconst (v := 0) dz_D_isRule_21 rfl ?_
        refine gw_iret .boolean dz_D_isRule_22 rfl (by first | rfl | exact zb_nar _) ?_ ?_
        · rw [zb_in_ge (zq_le5 h14 (by omega))]; rfl
        · rfl
      · skip
        refine gq_iconst (v := 1) dz_D_isRule_17 rfl ?_
        refine gq_goto (tgt := 22) dz_D_isRule_18 rfl ?_
        refine gw_iret .boolean dz_D_isRule_22 rfl (by first | rfl | exact zb_nar _) ?_ ?_
        · rw [zb_in_of h1 h9]; rfl
        · rfl
set_option maxHeartbeats 4000000 in
theorem sp_D_isGone {σ : zq_T} {d : Fin 5} {A : za_D} (hA : zc_rep σ d A) (p : Int32) : zq_Sp zm_D_isGone 0 [zq_O 10 d, zq_I p] σ (zq_rv (zq_I (zb_v (zb_bit (za_g A) p))) σ) := by
  refine zq_sp [some (zq_O 10 d), some (zq_I p)] (by decide +kernel) rfl (Nat.le_of_ble_eq_true rfl) (fun ν => ?_)
  refine gq_aload_n dz_D_isGone_0 rfl ?_
  refine gq_getI zf_D_49 rfl rfl dz_D_isGone_1 ?_
  rw [zc_g hA]
  refine gq_iload_n dz_D_isGone_4 rfl ?_
  refine gq_ishr dz_D_isGone_5 ?_
  refine gq_iconst (v := 1) dz_D_isGone_6 rfl ?_
  refine gq_iand dz_D_isGone_7 ?_
  refine gq_if_eq (tgt := 15) dz_D_isGone_8 rfl (fun h8 => ?_) (fun h8 => ?_)
  · skip
    refine gq_iconst (v := 0) dz_D_isGone_15 rfl ?_
    refine gw_iret .boolean dz_D_isGone_16 rfl (by first | rfl | exact zb_nar _) ?_ ?_
    · rw [zb_bit_f h8]; rfl
    · rfl
  · skip
    refine gq_iconst (v := 1) dz_D_isGone_11 rfl ?_
    refine gq_goto (tgt := 16) dz_D_isGone_12 rfl ?_
    refine gw_iret .boolean dz_D_isGone_16 rfl (by first | rfl | exact zb_nar _) ?_ ?_
    · rw [zb_bit_t h8]; rfl
    · rfl
set_option maxHeartbeats 4000000 in
theorem sp_D_isKnown {σ : zq_T} {d : Fin 5} {A : za_D} (hA : zc_rep σ d A) (p f : Int32) : zq_Sp zm_D_isKnown 1 [zq_O 10 d, zq_I p, zq_I f] σ (zq_rv (zq_I (zb_v (zb_in p (za_n A) && zb_bit (za_fa A p.toNatClampNeg) f))) σ) := by
  have hn6 := zc_n6 hA
  have hm5 := zc_m5 hA
  refine zq_sp [some (zq_O 10 d), some (zq_I p), some (zq_I f)] (by decide +kernel) rfl (Nat.le_of_ble_eq_true rfl) (fun ν => ?_)
  refine gq_aload_n dz_D_isKnown_0 rfl ?_
  refine gq_iload_n dz_D_isKnown_1 rfl ?_
  refine gq_cV (sp_D_isOne hA p) zw_D_isOne zl_D_55 dz_D_isKnown_2 rfl rfl rfl (by decide) rfl rfl (Nat.le_of_ble_eq_true rfl) ?_
  refine gw_ifb_eq (tgt := 25) dz_D_isKnown_5 rfl (fun h5 => ?_) (fun h5 => ?_)
  · skip
    refine gq_iconst (v := 0) dz_D_isKnown_25 rfl ?_
    refine gw_iret .boolean dz_D_isKnown_26 rfl (by first | rfl | exact zb_nar _) ?_ ?_
    · rw [h5]; rfl
    · rfl
  · skip
    obtain ⟨q, hq, rfl⟩ := (zb_in_iff (by omega)).mp h5
    rw [zq_cl31 hq (by omega)]
    refine gq_aload_n dz_D_isKnown_8 rfl ?_
    refine gq_getR 13 zf_D_18 rfl rfl dz_D_isKnown_9 ?_
    refine gq_iload_n dz_D_isKnown_12 rfl ?_
    refine gw_iald (q) (rfl) rfl rfl (Nat.le_of_ble_eq_true rfl) (by omega) dz_D_isKnown_13 ?_
    rw [zc_fa hA (by omega)]
    refine gq_iload_n dz_D_isKnown_14 rfl ?_
    refine gq_ishr dz_D_isKnown_15 ?_
    refine gq_iconst (v := 1) dz_D_isKnown_16 rfl ?_
    refine gq_iand dz_D_isKnown_17 ?_
    refine gq_if_eq (tgt := 25) dz_D_isKnown_18 rfl (fun h18 => ?_) (fun h18 => ?_)
    · skip
      refine gq_iconst (v := 0) dz_D_isKnown_25 rfl ?_
      refine gw_iret .boolean dz_D_isKnown_26 rfl (by first | rfl | exact zb_nar _) ?_ ?_
      · rw [h5, zb_bit_f h18]; rfl
      · rfl
    · skip
      refine gq_iconst (v := 1) dz_D_isKnown_21 rfl ?_
      refine gq_goto (tgt := 26) dz_D_isKnown_22 rfl ?_
      refine gw_iret .boolean dz_D_isKnown_26 rfl (by first | rfl | exact zb_nar _) ?_ ?_
      · rw [h5, zb_bit_t h18]; rfl
      · rfl
set_option maxHeartbeats 4000000 in
theorem sp_D_everybody {σ : zq_T} {d : Fin 5} {A : za_D} (hA : zc_rep σ d A) : zq_Sp zm_D_everybody 0 [zq_O 10 d] σ (zq_rv (zq_I ((1 <<< (nI (za_n A) &&& 31)) - 1)) σ) := by
  refine zq_sp [some (zq_O 10 d)] (by decide +kernel) rfl (Nat.le_of_ble_eq_true rfl) (fun ν => ?_)
  refine gq_iconst (v := 1) dz_D_everybody_0 rfl ?_
  refine gq_aload_n dz_D_everybody_1 rfl ?_
  refine gq_getI zf_D_45 rfl rfl dz_D_everybody_2 ?_
  rw [zc_n hA]
  refine gq_ishl dz_D_everybody_5 ?_
  refine gq_iconst (v := 1) dz_D_everybody_6 rfl ?_
  refine gq_isub dz_D_everybody_7 ?_
  refine gw_iret .int dz_D_everybody_8 rfl (by first | rfl | exact zb_nar _) ?_ ?_
  · rfl
  · rfl
set_option maxHeartbeats 4000000 in
theorem sp_D_allRules {σ : zq_T} {d : Fin 5} {A : za_D} (hA : zc_rep σ d A) : zq_Sp zm_D_allRules 0 [zq_O 10 d] σ (zq_rv (zq_I ((1 <<< (nI (za_m A) &&& 31)) - 1)) σ) := by
  refine zq_sp [some (zq_O 10 d)] (by decide +kernel) rfl (Nat.le_of_ble_eq_true rfl) (fun ν => ?_)
  refine gq_iconst (v := 1) dz_D_allRules_0 rfl ?_
  refine gq_aload_n dz_D_allRules_1 rfl ?_
  refine gq_getI zf_D_52 rfl rfl dz_D_allRules_2 ?_
  rw [zc_m hA]
  refine gq_ishl dz_D_allRules_5 ?_
  refine gq_iconst (v := 1) dz_D_allRules_6 rfl ?_
  refine gq_isub dz_D_allRules_7 ?_
  refine gw_iret .int dz_D_allRules_8 rfl (by first | rfl | exact zb_nar _) ?_ ?_
  · rfl
  · rfl
set_option maxHeartbeats 4000000 in
theorem sp_D_cases {σ : zq_T} {d : Fin 5} {A : za_D} (hA : zc_rep σ d A) : zq_Sp zm_D_cases 0 [zq_O 10 d] σ (zq_rv (zq_I (1 <<< (nI (za_n A) &&& 31))) σ) := by
  refine zq_sp [some (zq_O 10 d)] (by decide +kernel) rfl (Nat.le_of_ble_eq_true rfl) (fun ν => ?_)
  refine gq_iconst (v := 1) dz_D_cases_0 rfl ?_
  refine gq_aload_n dz_D_cases_1 rfl ?_
  refine gq_getI zf_D_45 rfl rfl dz_D_cases_2 ?_
  rw [zc_n hA]
  refine gq_ishl dz_D_cases_5 ?_
  refine gw_iret .int dz_D_cases_6 rfl (by first | rfl | exact zb_nar _) ?_ ?_
  · rfl
  · rfl
set_option maxHeartbeats 4000000 in
theorem sp_D_placeAmongBorn {σ : zq_T} {d : Fin 5} {A : za_D} (hA : zc_rep σ d A) {p : Nat} (hp : p < za_n A) (ab : Int32) : zq_Sp zm_D_placeAmongBorn 0 [zq_O 10 d, zq_I (nI p), zq_I ab] σ (zq_rv (zq_I (nI (zs_place A p ab))) σ) := by
  have hn6 := zc_n6 hA
  have hm5 := zc_m5 hA
  refine zq_sp [some (zq_O 10 d), some (zq_I (nI p)), some (zq_I ab), none, none] (by decide +kernel) rfl (Nat.le_of_ble_eq_true rfl) (fun ν => ?_)
  refine gq_iload_n dz_D_placeAmongBorn_0 rfl ?_
  refine gq_if_lt (tgt := 20) dz_D_placeAmongBorn_1 rfl (fun h1 => ?_) (fun h1 => ?_)
  · skip
    exact absurd h1 (nI_pos (by omega))
  · skip
    refine gq_iload_n dz_D_placeAmongBorn_4 rfl ?_
    refine gq_aload_n dz_D_placeAmongBorn_5 rfl ?_
    refine gq_getI zf_D_45 rfl rfl dz_D_placeAmongBorn_6 ?_
    rw [zc_n hA]
    refine gq_icmp_ge (tgt := 20) dz_D_placeAmongBorn_9 rfl (fun h9 => ?_) (fun h9 => ?_)
    · skip
      exact absurd h9 (nI_ge hp (by omega))
    · skip
      refine gq_iload_n dz_D_placeAmongBorn_12 rfl ?_
      refine gq_iload_n dz_D_placeAmongBorn_13 rfl ?_
      refine gq_ishr dz_D_placeAmongBorn_14 ?_
      refine gq_iconst (v := 1) dz_D_placeAmongBorn_15 rfl ?_
      refine gq_iand dz_D_placeAmongBorn_16 ?_
      refine gq_if_eq (tgt := 22) dz_D_placeAmongBorn_17 rfl (fun h17 => ?_) (fun h17 => ?_)
      · skip
        refine gq_iconst (v := 0) dz_D_placeAmongBorn_22 rfl ?_
        refine gw_istore_n 3 dz_D_placeAmongBorn_23 rfl (Nat.le_of_ble_eq_true rfl) rfl ?_
        dsimp only [List.set]
        refine gq_iconst (v := 0) dz_D_placeAmongBorn_24 rfl ?_
        refine gw_istore 4 dz_D_placeAmongBorn_25 (Nat.le_of_ble_eq_true rfl) rfl ?_
        dsimp only [List.set]
        have L27 : ∀ (kf : Nat) (q : Nat) (hkf : p + 1 - q < kf) (hq : q ≤ p + 1), zq_G ν zm_D_placeAmongBorn 0 (zq_rv (zq_I (nI (zs_place A p ab))) σ) 27 [some (zq_O 10 d), some (zq_I (nI p)), some (zq_I ab), some (zq_I (nI (zf_ct (zs_born A p ab) q))), some (zq_I (nI q))] [] σ := by
          intro kf
          induction kf with
          | zero => intro q hkf hq; exact absurd hkf (Nat.not_lt_zero _)
          | succ kf ih27 =>
            intro q hkf hq
            refine gq_iload dz_D_placeAmongBorn_27 rfl ?_
            refine gq_iload_n dz_D_placeAmongBorn_29 rfl ?_
            refine gq_icmp_gt (tgt := 67) dz_D_placeAmongBorn_30 rfl (fun h30 => ?_) (fun h30 => ?_)
            · skip
              refine gq_iload_n dz_D_placeAmongBorn_67 rfl ?_
              refine gw_iret .int dz_D_placeAmongBorn_68 rfl (by first | rfl | exact zb_nar _) ?_ ?_
              · rw [zs_place, if_neg (by rw [zb_bit_f h17]; exact Bool.false_ne_true), show q = p + 1 from by have := (nI_ltI (by omega) (by omega)).mp h30; omega]
              · rfl
            · skip
              have hq2 : q ≤ p := by rcases Nat.lt_or_ge p q with z | z; exact absurd (nI_lt z (by omega)) h30; exact z
              refine gq_aload_n dz_D_placeAmongBorn_33 rfl ?_
              refine gq_getR 11 zf_D_9 rfl rfl dz_D_placeAmongBorn_34 ?_
              refine gq_iload dz_D_placeAmongBorn_37 rfl ?_
              refine gw_iald (q) (rfl) rfl rfl (Nat.le_of_ble_eq_true rfl) (by omega) dz_D_placeAmongBorn_39 ?_
              rw [zc_pa hA (by omega)]
              refine gq_aload_n dz_D_placeAmongBorn_40 rfl ?_
              refine gq_getR 11 zf_D_9 rfl rfl dz_D_placeAmongBorn_41 ?_
              refine gq_iload_n dz_D_placeAmongBorn_44 rfl ?_
              refine gw_iald (p) (rfl) rfl rfl (Nat.le_of_ble_eq_true rfl) (by omega) dz_D_placeAmongBorn_45 ?_
              rw [zc_pa hA hp]
              refine gq_icmp_ne (tgt := 61) dz_D_placeAmongBorn_46 rfl (fun h46 => ?_) (fun h46 => ?_)
              · skip
                refine gw_iinc 4 (c := 1) dz_D_placeAmongBorn_61 rfl rfl (Nat.le_of_ble_eq_true rfl) rfl ?_
                dsimp only [List.set]
                refine gq_goto (tgt := 27) dz_D_placeAmongBorn_64 rfl ?_
                simp only [nI_1]
                rw [← zf_ct_f (P := zs_born A p ab) (by simp [zs_born, h46])]
                exact zq_fewer _ (zq_sub_spec (by repeat (first | exact trivial | exact rfl | refine And.intro ?_ ?_))) (ih27 (q + 1) (by omega) (by omega))
              · skip
                refine gq_iload_n dz_D_placeAmongBorn_49 rfl ?_
                refine gq_iload dz_D_placeAmongBorn_50 rfl ?_
                refine gq_ishr dz_D_placeAmongBorn_52 ?_
                refine gq_iconst (v := 1) dz_D_placeAmongBorn_53 rfl ?_
                refine gq_iand dz_D_placeAmongBorn_54 ?_
                refine gq_if_ne (tgt := 61) dz_D_placeAmongBorn_55 rfl (fun h55 => ?_) (fun h55 => ?_)
                · skip
                  refine gw_iinc 4 (c := 1) dz_D_placeAmongBorn_61 rfl rfl (Nat.le_of_ble_eq_true rfl) rfl ?_
                  dsimp only [List.set]
                  refine gq_goto (tgt := 27) dz_D_placeAmongBorn_64 rfl ?_
                  simp only [nI_1]
                  rw [← zf_ct_f (P := zs_born A p ab) (by simp [zs_born, zb_bit_t h55])]
                  exact zq_fewer _ (zq_sub_spec (by repeat (first | exact trivial | exact rfl | refine And.intro ?_ ?_))) (ih27 (q + 1) (by omega) (by omega))
                · skip
                  refine gw_iinc 3 (c := 1) dz_D_placeAmongBorn_58 rfl rfl (Nat.le_of_ble_eq_true rfl) rfl ?_
                  dsimp only [List.set]
                  refine gw_iinc 4 (c := 1) dz_D_placeAmongBorn_61 rfl rfl (Nat.le_of_ble_eq_true rfl) rfl ?_
                  dsimp only [List.set]
                  refine gq_goto (tgt := 27) dz_D_placeAmongBorn_64 rfl ?_
                  simp only [nI_1]
                  rw [← zf_ct_t (P := zs_born A p ab) (by simp [zs_born, h46, zb_bit_f h55])]
                  exact zq_fewer _ (zq_sub_spec (by repeat (first | exact trivial | exact rfl | refine And.intro ?_ ?_))) (ih27 (q + 1) (by omega) (by omega))
        exact zq_fewer _ (zq_sub_spec (by repeat (first | exact trivial | exact rfl | refine And.intro ?_ ?_))) (L27 (p + 2) 0 (by omega) (by omega))
      · skip
        refine gq_iconst (v := 0) dz_D_placeAmongBorn_20 rfl ?_
        refine gw_iret .int dz_D_placeAmongBorn_21 rfl (by first | rfl | exact zb_nar _) ?_ ?_
        · rw [zs_place, if_pos (zb_bit_t h17)]; rfl
        · rfl
set_option maxHeartbeats 4000000 in
theorem sp_D_childrenLeft {σ : zq_T} {d : Fin 5} {A : za_D} (hA : zc_rep σ d A) {p : Nat} (hp : p < za_n A) (ab : Int32) : zq_Sp zm_D_childrenLeft 0 [zq_O 10 d, zq_I (nI p), zq_I ab] σ (zq_rv (zq_I (nI (zs_child A p ab))) σ) := by
  have hn6 := zc_n6 hA
  have hm5 := zc_m5 hA
  refine zq_sp [some (zq_O 10 d), some (zq_I (nI p)), some (zq_I ab), none, none] (by decide +kernel) rfl (Nat.le_of_ble_eq_true rfl) (fun ν => ?_)
  refine gq_iconst (v := 0) dz_D_childrenLeft_0 rfl ?_
  refine gw_istore_n 3 dz_D_childrenLeft_1 rfl (Nat.le_of_ble_eq_true rfl) rfl ?_
  dsimp only [List.set]
  refine gq_iconst (v := 0) dz_D_childrenLeft_2 rfl ?_
  refine gw_istore 4 dz_D_childrenLeft_3 (Nat.le_of_ble_eq_true rfl) rfl ?_
  dsimp only [List.set]
  have L5 : ∀ (kf : Nat) (q : Nat) (hkf : za_n A - q < kf) (hq : q ≤ za_n A), zq_G ν zm_D_childrenLeft 0 (zq_rv (zq_I (nI (zs_child A p ab))) σ) 5 [some (zq_O 10 d), some (zq_I (nI p)), some (zq_I ab), some (zq_I (nI (zf_ct (zs_chd A p ab) q))), some (zq_I (nI q))] [] σ := by
    intro kf
    induction kf with
    | zero => intro q hkf hq; exact absurd hkf (Nat.not_lt_zero _)
    | succ kf ih5 =>
      intro q hkf hq
      refine gq_iload dz_D_childrenLeft_5 rfl ?_
      refine gq_aload_n dz_D_childrenLeft_7 rfl ?_
      refine gq_getI zf_D_45 rfl rfl dz_D_childrenLeft_8 ?_
      rw [zc_n hA]
      refine gq_icmp_ge (tgt := 43) dz_D_childrenLeft_11 rfl (fun h11 => ?_) (fun h11 => ?_)
      · skip
        refine gq_iload_n dz_D_childrenLeft_43 rfl ?_
        refine gw_iret .int dz_D_childrenLeft_44 rfl (by first | rfl | exact zb_nar _) ?_ ?_
        · rw [zs_child, show q = za_n A from by have := (nI_leI (by omega) (by omega)).mp h11; omega]
        · rfl
      · skip
        have hq2 : q < za_n A := by rcases Nat.lt_or_ge q (za_n A) with z | z; exact z; exact absurd (nI_le z (by omega)) h11
        refine gq_aload_n dz_D_childrenLeft_14 rfl ?_
        refine gq_getR 11 zf_D_9 rfl rfl dz_D_childrenLeft_15 ?_
        refine gq_iload dz_D_childrenLeft_18 rfl ?_
        refine gw_iald (q) (rfl) rfl rfl (Nat.le_of_ble_eq_true rfl) (by omega) dz_D_childrenLeft_20 ?_
        rw [zc_pa hA hq2]
        refine gq_iload_n dz_D_childrenLeft_21 rfl ?_
        refine gq_icmp_ne (tgt := 37) dz_D_childrenLeft_22 rfl (fun h22 => ?_) (fun h22 => ?_)
        · skip
          refine gw_iinc 4 (c := 1) dz_D_childrenLeft_37 rfl rfl (Nat.le_of_ble_eq_true rfl) rfl ?_
          dsimp only [List.set]
          refine gq_goto (tgt := 5) dz_D_childrenLeft_40 rfl ?_
          simp only [nI_1]
          rw [← zf_ct_f (P := zs_chd A p ab) (by simp [zs_chd, h22])]
          exact zq_fewer _ (zq_sub_spec (by repeat (first | exact trivial | exact rfl | refine And.intro ?_ ?_))) (ih5 (q + 1) (by omega) (by omega))
        · skip
          refine gq_iload_n dz_D_childrenLeft_25 rfl ?_
          refine gq_iload dz_D_childrenLeft_26 rfl ?_
          refine gq_ishr dz_D_childrenLeft_28 ?_
          refine gq_iconst (v := 1) dz_D_childrenLeft_29 rfl ?_
          refine gq_iand dz_D_childrenLeft_30 ?_
          refine gq_if_ne (tgt := 37) dz_D_childrenLeft_31 rfl (fun h31 => ?_) (fun h31 => ?_)
          · skip
            refine gw_iinc 4 (c := 1) dz_D_childrenLeft_37 rfl rfl (Nat.le_of_ble_eq_true rfl) rfl ?_
            dsimp only [List.set]
            refine gq_goto (tgt := 5) dz_D_childrenLeft_40 rfl ?_
            simp only [nI_1]
            rw [← zf_ct_f (P := zs_chd A p ab) (by simp [zs_chd, zb_bit_t h31])]
            exact zq_fewer _ (zq_sub_spec (by repeat (first | exact trivial | exact rfl | refine And.intro ?_ ?_))) (ih5 (q + 1) (by omega) (by omega))
          · skip
            refine gw_iinc 3 (c := 1) dz_D_childrenLeft_34 rfl rfl (Nat.le_of_ble_eq_true rfl) rfl ?_
            dsimp only [List.set]
            refine gw_iinc 4 (c := 1) dz_D_childrenLeft_37 rfl rfl (Nat.le_of_ble_eq_true rfl) rfl ?_
            dsimp only [List.set]
            refine gq_goto (tgt := 5) dz_D_childrenLeft_40 rfl ?_
            simp only [nI_1]
            rw [← zf_ct_t (P := zs_chd A p ab) (by simp [zs_chd, h22, zb_bit_f h31])]
            exact zq_fewer _ (zq_sub_spec (by repeat (first | exact trivial | exact rfl | refine And.intro ?_ ?_))) (ih5 (q + 1) (by omega) (by omega))
  exact zq_fewer _ (zq_sub_spec (by repeat (first | exact trivial | exact rfl | refine And.intro ?_ ?_))) (L5 (za_n A + 1) 0 (by omega) (by omega))
