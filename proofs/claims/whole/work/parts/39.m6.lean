/-! THE MODEL'S DEEDS -/
theorem upd_own (f : Nat → Int32) (p : Nat) : upd f p (f p) = f := funext fun i => by
  unfold upd
  split
  · rename_i h; rw [h]
  · rfl

set_option maxHeartbeats 4000000 in
theorem sp_M_sets {σ : zq_T} (b : Bool) (i : Nat) (x v : Int32) (hx : b = true → x = nI i) (hi : i < 112) : zq_Sp zm_M_sets 0 [zq_O 30 0, zq_I (zb_v b), zq_I x, zq_I v] σ (zq_rv (zq_I (if b then σ.1 31 0 i else -1)) (if b then (zq_up σ.1 31 0 i v, σ.2) else σ)) := by
  refine zq_sp [some (zq_O 30 0), some (zq_I (zb_v b)), some (zq_I x), some (zq_I v), none] (by decide +kernel) rfl (Nat.le_of_ble_eq_true rfl) (fun ν => ?_)
  refine gq_iload_n dz_M_sets_0 rfl ?_
  refine gw_ifb_ne (tgt := 6) dz_M_sets_1 rfl (fun h1 => ?_) (fun h1 => ?_)
  · skip
    subst h1
    obtain rfl := hx rfl
    refine gq_aload_n dz_M_sets_6 rfl ?_
    refine gq_getR 31 zf_M_7 rfl rfl dz_M_sets_7 ?_
    refine gq_iload_n dz_M_sets_10 rfl ?_
    refine gw_iald (i) (rfl) rfl (rfl) (Nat.le_of_ble_eq_true rfl) (by omega) dz_M_sets_11 ?_
    refine gw_istore 4 dz_M_sets_12 (Nat.le_of_ble_eq_true rfl) rfl ?_
    dsimp only [List.set]
    refine gq_aload_n dz_M_sets_14 rfl ?_
    refine gq_getR 31 zf_M_7 rfl rfl dz_M_sets_15 ?_
    refine gq_iload_n dz_M_sets_18 rfl ?_
    refine gq_iload_n dz_M_sets_19 rfl ?_
    refine gw_iast (i) (rfl) rfl (rfl) (Nat.le_of_ble_eq_true rfl) (by omega) dz_M_sets_20 ?_
    refine gq_iload dz_M_sets_21 rfl ?_
    refine gw_iret .int dz_M_sets_23 rfl (by first | rfl | exact zb_nar _ | exact pk_nc _) ?_ ?_
    · rfl
    · rfl
  · skip
    subst h1
    refine gq_iconst (v := -1) dz_M_sets_4 rfl ?_
    refine gw_iret .int dz_M_sets_5 rfl (by first | rfl | exact zb_nar _ | exact pk_nc _) ?_ ?_
    · rfl
    · rfl
set_option maxHeartbeats 4000000 in
theorem sp_M_isDeed {σ : zq_T} {A : za_D} (hA : zn_rep σ A) {D : Nat} (hD : D < 2 ^ 31) : zq_Sp zm_M_isDeed 2 [zq_O 30 0, zq_I (nI D)] σ (zq_rv (zq_I (zb_v (decide (D / 10 < za_n A) && decide (D % 10 < 7)))) σ) := by
  have hn6 := zn_n6 hA
  have hm5 := zn_m5 hA
  refine zq_sp [some (zq_O 30 0), some (zq_I (nI D))] (by decide +kernel) rfl (Nat.le_of_ble_eq_true rfl) (fun ν => ?_)
  refine gq_iload_n dz_M_isDeed_0 rfl ?_
  refine gq_if_lt (tgt := 28) dz_M_isDeed_1 rfl (fun h1 => ?_) (fun h1 => ?_)
  · skip
    exact absurd h1 (nI_pos hD)
  · skip
    refine gq_aload_n dz_M_isDeed_4 rfl ?_
    refine gq_iload_n dz_M_isDeed_5 rfl ?_
    refine gq_bipush (v := 10) dz_M_isDeed_6 rfl ?_
    refine gq_idiv dz_M_isDeed_8 (by decide) ?_
    rw [show (10 : Int32) = nI 10 from rfl, pk_div hD (by omega) (by omega)]
    refine gq_cV (sp_M_isOne hA _) zw_M_isOne zl_M_203 dz_M_isDeed_9 rfl rfl rfl (by decide) rfl rfl (Nat.le_of_ble_eq_true rfl) ?_
    refine gw_ifb_eq (tgt := 28) dz_M_isDeed_12 rfl (fun h12 => ?_) (fun h12 => ?_)
    · skip
      have hz : ¬ D / 10 < za_n A := fun z => by rw [zb_in_nI z (by omega)] at h12; exact Bool.noConfusion h12
      refine gq_iconst (v := 0) dz_M_isDeed_28 rfl ?_
      refine gw_iret .boolean dz_M_isDeed_29 rfl (by first | rfl | exact zb_nar _ | exact pk_nc _) ?_ ?_
      · rw [decide_eq_false hz]; rfl
      · rfl
    · skip
      have hz : D / 10 < za_n A := by obtain ⟨q, hq, e⟩ := (zb_in_iff (by omega)).mp h12; rw [(nI_eq (by omega) (by omega)).mp e]; exact hq
      refine gq_iload_n dz_M_isDeed_15 rfl ?_
      refine gq_bipush (v := 10) dz_M_isDeed_16 rfl ?_
      refine gq_irem dz_M_isDeed_18 (by decide) ?_
      rw [show (10 : Int32) = nI 10 from rfl, pk_rem hD (by omega) (by omega)]
      refine gq_bipush (v := 6) dz_M_isDeed_19 rfl ?_
      refine gq_icmp_gt (tgt := 28) dz_M_isDeed_21 rfl (fun h21 => ?_) (fun h21 => ?_)
      · skip
        have hy : ¬ D % 10 < 7 := fun z => by rw [Int32.lt_iff_toInt_lt, nI_toInt (by omega)] at h21; have : (6 : Int32).toInt = 6 := rfl; omega
        refine gq_iconst (v := 0) dz_M_isDeed_28 rfl ?_
        refine gw_iret .boolean dz_M_isDeed_29 rfl (by first | rfl | exact zb_nar _ | exact pk_nc _) ?_ ?_
        · rw [decide_eq_false hy, Bool.and_false]; rfl
        · rfl
      · skip
        have hy : D % 10 < 7 := by rw [Int32.lt_iff_toInt_lt, nI_toInt (by omega)] at h21; have : (6 : Int32).toInt = 6 := rfl; omega
        refine gq_iconst (v := 1) dz_M_isDeed_24 rfl ?_
        refine gq_goto (tgt := 29) dz_M_isDeed_25 rfl ?_
        refine gw_iret .boolean dz_M_isDeed_29 rfl (by first | rfl | exact zb_nar _ | exact pk_nc _) ?_ ?_
        · rw [decide_eq_true hz, decide_eq_true hy]; rfl
        · rfl
set_option maxHeartbeats 4000000 in
theorem sp_M_isDeedN {σ : zq_T} {A : za_D} (hA : zn_rep σ A) {x : Int32} (hx : x < 0) : zq_Sp zm_M_isDeed 2 [zq_O 30 0, zq_I x] σ (zq_rv (zq_I (zb_v false)) σ) := by
  refine zq_sp [some (zq_O 30 0), some (zq_I x)] (by decide +kernel) rfl (Nat.le_of_ble_eq_true rfl) (fun ν => ?_)
  refine gq_iload_n dz_M_isDeed_0 rfl ?_
  refine gq_if_lt (tgt := 28) dz_M_isDeed_1 rfl (fun h1 => ?_) (fun h1 => ?_)
  · skip
    refine gq_iconst (v := 0) dz_M_isDeed_28 rfl ?_
    refine gw_iret .boolean dz_M_isDeed_29 rfl (by first | rfl | exact zb_nar _ | exact pk_nc _) ?_ ?_
    · rfl
    · rfl
  · skip
    exact absurd hx h1
set_option maxHeartbeats 4000000 in
theorem sp_M_canDo {σ : zq_T} {A : za_D} (hA : zn_rep σ A) (hw : za_wf A) {D : Nat} (hD : D < 2 ^ 31) (hp : D / 10 < za_n A) (hf : D % 10 < 7) : zq_Sp zm_M_canDo 1 [zq_O 30 0, zq_I (nI D)] σ (zq_rv (zq_I (zb_v (zs_can A D))) σ) := by
  have hn6 := zn_n6 hA
  have hm5 := zn_m5 hA
  refine zq_sp [some (zq_O 30 0), some (zq_I (nI D)), none, none, none] (by decide +kernel) rfl (Nat.le_of_ble_eq_true rfl) (fun ν => ?_)
  refine gq_iload_n dz_M_canDo_0 rfl ?_
  refine gq_bipush (v := 10) dz_M_canDo_1 rfl ?_
  refine gq_idiv dz_M_canDo_3 (by decide) ?_
  rw [show (10 : Int32) = nI 10 from rfl, pk_div hD (by omega) (by omega)]
  refine gw_istore_n 2 dz_M_canDo_4 rfl (Nat.le_of_ble_eq_true rfl) rfl ?_
  dsimp only [List.set]
  refine gq_iload_n dz_M_canDo_5 rfl ?_
  refine gq_bipush (v := 10) dz_M_canDo_6 rfl ?_
  refine gq_irem dz_M_canDo_8 (by decide) ?_
  rw [show (10 : Int32) = nI 10 from rfl, pk_rem hD (by omega) (by omega)]
  refine gw_istore_n 3 dz_M_canDo_9 rfl (Nat.le_of_ble_eq_true rfl) rfl ?_
  dsimp only [List.set]
  refine gq_iload_n dz_M_canDo_10 rfl ?_
  refine gq_bipush (v := 6) dz_M_canDo_11 rfl ?_
  refine gq_icmp_eq (tgt := 47) dz_M_canDo_13 rfl (fun h13 => ?_) (fun h13 => ?_)
  · skip
    have h13 : D % 10 = 6 := (zt_kk (c := 6) (by omega) (by omega)).mp h13
    refine gq_iconst (v := 1) dz_M_canDo_47 rfl ?_
    refine gq_goto (tgt := 52) dz_M_canDo_48 rfl ?_
    refine gw_istore 4 dz_M_canDo_52 (Nat.le_of_ble_eq_true rfl) rfl ?_
    dsimp only [List.set]
    refine gq_iload_n dz_M_canDo_54 rfl ?_
    refine gq_aload_n dz_M_canDo_55 rfl ?_
    refine gq_getR 31 zf_M_7 rfl rfl dz_M_canDo_56 ?_
    refine gq_bipush (v := 12) dz_M_canDo_59 rfl ?_
    refine gw_iald (12) (rfl) rfl (rfl) (Nat.le_of_ble_eq_true rfl) (by omega) dz_M_canDo_61 ?_
    rw [zn_g hA]
    refine gq_cS (sp_M_isThere _ _) zw_M_isThere zl_M_169 dz_M_canDo_62 (by decide) rfl rfl (Nat.le_of_ble_eq_true rfl) ?_
    refine gw_ifb_eq (tgt := 77) dz_M_canDo_65 rfl (fun h65 => ?_) (fun h65 => ?_)
    · skip
      refine gq_iconst (v := 0) dz_M_canDo_77 rfl ?_
      refine gw_iret .boolean dz_M_canDo_78 rfl (by first | rfl | exact zb_nar _ | exact pk_nc _) ?_ ?_
      · simp [zs_can, zb_v, *]
      · rfl
    · skip
      refine gq_iload dz_M_canDo_68 rfl ?_
      refine gq_if_eq (tgt := 77) dz_M_canDo_70 rfl (fun h70 => ?_) (fun h70 => ?_)
      · skip
        exact absurd h70 (by decide)
      · skip
        refine gq_iconst (v := 1) dz_M_canDo_73 rfl ?_
        refine gq_goto (tgt := 78) dz_M_canDo_74 rfl ?_
        refine gw_iret .boolean dz_M_canDo_78 rfl (by first | rfl | exact zb_nar _ | exact pk_nc _) ?_ ?_
        · simp [zs_can, zb_v, *]
        · rfl
  · skip
    have h13 : ¬ D % 10 = 6 := fun z => h13 (by rw [z]; rfl)
    refine gq_aload_n dz_M_canDo_16 rfl ?_
    refine gq_getR 31 zf_M_7 rfl rfl dz_M_canDo_17 ?_
    refine gq_bipush (v := 6) dz_M_canDo_20 rfl ?_
    refine gq_iload_n dz_M_canDo_22 rfl ?_
    refine gq_iadd dz_M_canDo_23 ?_
    refine gw_iald (6 + D / 10) (by rw [show (6 : Int32) = nI 6 from rfl, nI_add]) rfl (rfl) (Nat.le_of_ble_eq_true rfl) (by omega) dz_M_canDo_24 ?_
    rw [zn_tr hA (by omega)]
    refine gq_iconst (v := 3) dz_M_canDo_25 rfl ?_
    refine gq_icmp_ge (tgt := 51) dz_M_canDo_26 rfl (fun h26 => ?_) (fun h26 => ?_)
    · skip
      have h26 : ¬ za_tr A (D / 10) < 3 := Int32.not_lt.mpr h26
      refine gq_iconst (v := 0) dz_M_canDo_51 rfl ?_
      refine gw_istore 4 dz_M_canDo_52 (Nat.le_of_ble_eq_true rfl) rfl ?_
      dsimp only [List.set]
      refine gq_iload_n dz_M_canDo_54 rfl ?_
      refine gq_aload_n dz_M_canDo_55 rfl ?_
      refine gq_getR 31 zf_M_7 rfl rfl dz_M_canDo_56 ?_
      refine gq_bipush (v := 12) dz_M_canDo_59 rfl ?_
      refine gw_iald (12) (rfl) rfl (rfl) (Nat.le_of_ble_eq_true rfl) (by omega) dz_M_canDo_61 ?_
      rw [zn_g hA]
      refine gq_cS (sp_M_isThere _ _) zw_M_isThere zl_M_169 dz_M_canDo_62 (by decide) rfl rfl (Nat.le_of_ble_eq_true rfl) ?_
      refine gw_ifb_eq (tgt := 77) dz_M_canDo_65 rfl (fun h65 => ?_) (fun h65 => ?_)
      · skip
        refine gq_iconst (v := 0) dz_M_canDo_77 rfl ?_
        refine gw_iret .boolean dz_M_canDo_78 rfl (by first | rfl | exact zb_nar _ | exact pk_nc _) ?_ ?_
        · simp [zs_can, zb_v, *]
        · rfl
      · skip
        refine gq_iload dz_M_canDo_68 rfl ?_
        refine gq_if_eq (tgt := 77) dz_M_canDo_70 rfl (fun h70 => ?_) (fun h70 => ?_)
        · skip
          refine gq_iconst (v := 0) dz_M_canDo_77 rfl ?_
          refine gw_iret .boolean dz_M_canDo_78 rfl (by first | rfl | exact zb_nar _ | exact pk_nc _) ?_ ?_
          · simp [zs_can, zb_v, *]
          · rfl
        · skip
          exact absurd rfl h70
    · skip
      have h26 : za_tr A (D / 10) < 3 := Int32.not_le.mp h26
      refine gq_iload_n dz_M_canDo_29 rfl ?_
      refine gq_iconst (v := 5) dz_M_canDo_30 rfl ?_
      refine gq_icmp_eq (tgt := 47) dz_M_canDo_31 rfl (fun h31 => ?_) (fun h31 => ?_)
      · skip
        have h31 : D % 10 = 5 := (zt_kk (c := 5) (by omega) (by omega)).mp h31
        refine gq_iconst (v := 1) dz_M_canDo_47 rfl ?_
        refine gq_goto (tgt := 52) dz_M_canDo_48 rfl ?_
        refine gw_istore 4 dz_M_canDo_52 (Nat.le_of_ble_eq_true rfl) rfl ?_
        dsimp only [List.set]
        refine gq_iload_n dz_M_canDo_54 rfl ?_
        refine gq_aload_n dz_M_canDo_55 rfl ?_
        refine gq_getR 31 zf_M_7 rfl rfl dz_M_canDo_56 ?_
        refine gq_bipush (v := 12) dz_M_canDo_59 rfl ?_
        refine gw_iald (12) (rfl) rfl (rfl) (Nat.le_of_ble_eq_true rfl) (by omega) dz_M_canDo_61 ?_
        rw [zn_g hA]
        refine gq_cS (sp_M_isThere _ _) zw_M_isThere zl_M_169 dz_M_canDo_62 (by decide) rfl rfl (Nat.le_of_ble_eq_true rfl) ?_
        refine gw_ifb_eq (tgt := 77) dz_M_canDo_65 rfl (fun h65 => ?_) (fun h65 => ?_)
        · skip
          refine gq_iconst (v := 0) dz_M_canDo_77 rfl ?_
          refine gw_iret .boolean dz_M_canDo_78 rfl (by first | rfl | exact zb_nar _ | exact pk_nc _) ?_ ?_
          · simp [zs_can, zb_v, *]
          · rfl
        · skip
          refine gq_iload dz_M_canDo_68 rfl ?_
          refine gq_if_eq (tgt := 77) dz_M_canDo_70 rfl (fun h70 => ?_) (fun h70 => ?_)
          · skip
            exact absurd h70 (by decide)
          · skip
            refine gq_iconst (v := 1) dz_M_canDo_73 rfl ?_
            refine gq_goto (tgt := 78) dz_M_canDo_74 rfl ?_
            refine gw_iret .boolean dz_M_canDo_78 rfl (by first | rfl | exact zb_nar _ | exact pk_nc _) ?_ ?_
            · simp [zs_can, zb_v, *]
            · rfl
      · skip
        have h31 : ¬ D % 10 = 5 := fun z => h31 (by rw [z]; rfl)
        refine gq_aload_n dz_M_canDo_34 rfl ?_
        refine gq_getR 31 zf_M_7 rfl rfl dz_M_canDo_35 ?_
        refine gq_iload_n dz_M_canDo_38 rfl ?_
        refine gw_iald (D / 10) (rfl) rfl (rfl) (Nat.le_of_ble_eq_true rfl) (by omega) dz_M_canDo_39 ?_
        rw [zn_fa hA (by omega)]
        refine gq_iload_n dz_M_canDo_40 rfl ?_
        refine gq_ishr dz_M_canDo_41 ?_
        refine gq_iconst (v := 1) dz_M_canDo_42 rfl ?_
        refine gq_iand dz_M_canDo_43 ?_
        refine gq_if_ne (tgt := 51) dz_M_canDo_44 rfl (fun h44 => ?_) (fun h44 => ?_)
        · skip
          have hb : zb_bit (za_fa A (D / 10)) (nI (D % 10)) = true := zb_bit_t h44
          refine gq_iconst (v := 0) dz_M_canDo_51 rfl ?_
          refine gw_istore 4 dz_M_canDo_52 (Nat.le_of_ble_eq_true rfl) rfl ?_
          dsimp only [List.set]
          refine gq_iload_n dz_M_canDo_54 rfl ?_
          refine gq_aload_n dz_M_canDo_55 rfl ?_
          refine gq_getR 31 zf_M_7 rfl rfl dz_M_canDo_56 ?_
          refine gq_bipush (v := 12) dz_M_canDo_59 rfl ?_
          refine gw_iald (12) (rfl) rfl (rfl) (Nat.le_of_ble_eq_true rfl) (by omega) dz_M_canDo_61 ?_
          rw [zn_g hA]
          refine gq_cS (sp_M_isThere _ _) zw_M_isThere zl_M_169 dz_M_canDo_62 (by decide) rfl rfl (Nat.le_of_ble_eq_true rfl) ?_
          refine gw_ifb_eq (tgt := 77) dz_M_canDo_65 rfl (fun h65 => ?_) (fun h65 => ?_)
          · skip
            refine gq_iconst (v := 0) dz_M_canDo_77 rfl ?_
            refine gw_iret .boolean dz_M_canDo_78 rfl (by first | rfl | exact zb_nar _ | exact pk_nc _) ?_ ?_
            · simp [zs_can, zb_v, *]
            · rfl
          · skip
            refine gq_iload dz_M_canDo_68 rfl ?_
            refine gq_if_eq (tgt := 77) dz_M_canDo_70 rfl (fun h70 => ?_) (fun h70 => ?_)
            · skip
              refine gq_iconst (v := 0) dz_M_canDo_77 rfl ?_
              refine gw_iret .boolean dz_M_canDo_78 rfl (by first | rfl | exact zb_nar _ | exact pk_nc _) ?_ ?_
              · simp [zs_can, zb_v, *]
              · rfl
            · skip
              exact absurd rfl h70
        · skip
          have hb : zb_bit (za_fa A (D / 10)) (nI (D % 10)) = false := zb_bit_f h44
          refine gq_iconst (v := 1) dz_M_canDo_47 rfl ?_
          refine gq_goto (tgt := 52) dz_M_canDo_48 rfl ?_
          refine gw_istore 4 dz_M_canDo_52 (Nat.le_of_ble_eq_true rfl) rfl ?_
          dsimp only [List.set]
          refine gq_iload_n dz_M_canDo_54 rfl ?_
          refine gq_aload_n dz_M_canDo_55 rfl ?_
          refine gq_getR 31 zf_M_7 rfl rfl dz_M_canDo_56 ?_
          refine gq_bipush (v := 12) dz_M_canDo_59 rfl ?_
          refine gw_iald (12) (rfl) rfl (rfl) (Nat.le_of_ble_eq_true rfl) (by omega) dz_M_canDo_61 ?_
          rw [zn_g hA]
          refine gq_cS (sp_M_isThere _ _) zw_M_isThere zl_M_169 dz_M_canDo_62 (by decide) rfl rfl (Nat.le_of_ble_eq_true rfl) ?_
          refine gw_ifb_eq (tgt := 77) dz_M_canDo_65 rfl (fun h65 => ?_) (fun h65 => ?_)
          · skip
            refine gq_iconst (v := 0) dz_M_canDo_77 rfl ?_
            refine gw_iret .boolean dz_M_canDo_78 rfl (by first | rfl | exact zb_nar _ | exact pk_nc _) ?_ ?_
            · simp [zs_can, zb_v, *]
            · rfl
          · skip
            refine gq_iload dz_M_canDo_68 rfl ?_
            refine gq_if_eq (tgt := 77) dz_M_canDo_70 rfl (fun h70 => ?_) (fun h70 => ?_)
            · skip
              exact absurd h70 (by decide)
            · skip
              refine gq_iconst (v := 1) dz_M_canDo_73 rfl ?_
              refine gq_goto (tgt := 78) dz_M_canDo_74 rfl ?_
              refine gw_iret .boolean dz_M_canDo_78 rfl (by first | rfl | exact zb_nar _ | exact pk_nc _) ?_ ?_
              · simp [zs_can, zb_v, *]
              · rfl
