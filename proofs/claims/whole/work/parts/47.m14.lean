theorem zn_b8 (v : Int32) : (v <<< ((24 : Int32) &&& 31)) >>> ((24 : Int32) &&& 31) = v.toInt8.toInt32 := by
  apply Int32.toBitVec_inj.mp
  rw [Int32.toBitVec_shiftRight, Int32.toBitVec_shiftLeft, Int8.toBitVec_toInt32, Int32.toBitVec_toInt8, show (((24 : Int32) &&& 31).toBitVec.smod 32) = 24#32 from by decide]
  apply BitVec.eq_of_getLsbD_eq
  intro i hi
  rw [BitVec.sshiftRight_eq', BitVec.getLsbD_sshiftRight, BitVec.getLsbD_signExtend]
  simp only [BitVec.shiftLeft_eq', BitVec.getLsbD_shiftLeft, BitVec.msb_eq_getLsbD_last, BitVec.getLsbD_signExtend, BitVec.getLsbD_setWidth]
  simp
  have h2 : ¬ 32 ≤ i := by omega
  have h3 : ¬ 24 + i < 24 := by omega
  by_cases h : i < 8
  · have h1 : 24 + i < 32 := by omega
    simp [h, h1, h2, h3, hi]
  · have h1 : ¬ 24 + i < 32 := by omega
    simp [h, h1, h2, h3, hi]
theorem zn_b16 (v : Int32) : (v <<< ((16 : Int32) &&& 31)) >>> ((16 : Int32) &&& 31) = v.toInt16.toInt32 := by
  apply Int32.toBitVec_inj.mp
  rw [Int32.toBitVec_shiftRight, Int32.toBitVec_shiftLeft, Int16.toBitVec_toInt32, Int32.toBitVec_toInt16, show (((16 : Int32) &&& 31).toBitVec.smod 32) = 16#32 from by decide]
  apply BitVec.eq_of_getLsbD_eq
  intro i hi
  rw [BitVec.sshiftRight_eq', BitVec.getLsbD_sshiftRight, BitVec.getLsbD_signExtend]
  simp only [BitVec.shiftLeft_eq', BitVec.getLsbD_shiftLeft, BitVec.msb_eq_getLsbD_last, BitVec.getLsbD_signExtend, BitVec.getLsbD_setWidth]
  simp
  have h2 : ¬ 32 ≤ i := by omega
  have h3 : ¬ 16 + i < 16 := by omega
  by_cases h : i < 16
  · have h1 : 16 + i < 32 := by omega
    simp [h, h1, h2, h3, hi]
  · have h1 : ¬ 16 + i < 32 := by omega
    simp [h, h1, h2, h3, hi]

theorem zM_h.put {σ : zq_T} {B : za_H} (h : zM_h σ B) {q i : Nat} (hq : q < 4) (hi : i < 40) (v : Int32) : zM_h (zu σ 47 0 (40 * q + i) v) (zh_put B q i v) :=
  ⟨fun k hk => ⟨(zu_N (by omega)).trans (h.1 k hk).1, (zu_N (by omega)).trans (h.1 k hk).2⟩, fun k hk j hj => by
    show _ = if k = q ∧ j = i then v else B.2.2 k j
    by_cases z : k = q ∧ j = i
    · rw [if_pos z, z.1, z.2]; exact zu_E
    · rw [if_neg z]; exact (zu_N (by omega)).trans (h.2 k hk j hj)⟩
set_option maxHeartbeats 4000000 in
theorem sp_M_lay {σ : zq_T} {X : za_X} (hS : zM_rep σ X) (hW : zx_wf X) (k i v : Int32) : zq_Sp zm_M_lay 1 [zq_O 30 0, zq_I k, zq_I i, zq_I v] σ (zq_rw (zq_I (zx_layR X k i)) (fun τ => zM_rep τ (zx_layX X k i v) ∧ zg_M σ τ)) := by
  refine zq_sp [some (zq_O 30 0), some (zq_I k), some (zq_I i), some (zq_I v)] (by decide +kernel) rfl (Nat.le_of_ble_eq_true rfl) (fun ν => ?_)
  refine gq_iload_n dz_M_lay_0 rfl ?_
  refine gq_i2l dz_M_lay_1 ?_
  refine gq_lconst (v := 0) dz_M_lay_2 rfl ?_
  refine gq_ldc2 zl_M_167 dz_M_lay_3 ?_
  refine gq_cS (sp_M_in _ _ _) zw_M_in zl_M_65 dz_M_lay_6 (by decide) rfl rfl (Nat.le_of_ble_eq_true rfl) ?_
  refine gw_ifb_ne (tgt := 14) dz_M_lay_9 rfl (fun h9 => ?_) (fun h9 => ?_)
  · skip
    rw [zn_inc (n := 4) rfl (by omega)] at h9
    obtain ⟨q, hq, rfl⟩ := (zb_in_iff (by omega)).mp h9
    rw [show zx_layR X (nI q) i = zx_layR1 (zx_B X) q i from by rw [zx_layR, h9, if_pos rfl, nI_clamp (by omega)], show zx_layX X (nI q) i v = zx_layX1 X q i v from by rw [zx_layX, h9, if_pos rfl, nI_clamp (by omega)]]
    refine gq_aload_n dz_M_lay_14 rfl ?_
    refine gq_getR 45 zf_M_54 rfl rfl dz_M_lay_15 ?_
    refine gq_iload_n dz_M_lay_18 rfl ?_
    refine gw_iald (q) (rfl) rfl (rfl) (Nat.le_of_ble_eq_true rfl) (by omega) dz_M_lay_19 ?_
    rw [(hS.2.2.2.1.1 q hq).1]
    refine gq_bipush (v := -4) dz_M_lay_20 rfl ?_
    refine gq_icmp_ne (tgt := 28) dz_M_lay_22 rfl (fun h22 => ?_) (fun h22 => ?_)
    · skip
      obtain ⟨⟨l, hl, hle⟩, z, hz, hze⟩ : (∃ l, l < 3 ∧ (zx_B X).1 q = nI l) ∧ ∃ z, z ≤ 40 ∧ (zx_B X).2.1 q = nI z := by rcases hW.2.1 q hq with y | y; exact absurd y h22; exact y
      refine gq_iload_n dz_M_lay_28 rfl ?_
      refine gq_i2l dz_M_lay_29 ?_
      refine gq_lconst (v := 0) dz_M_lay_30 rfl ?_
      refine gq_aload_n dz_M_lay_31 rfl ?_
      refine gq_getR 46 zf_M_57 rfl rfl dz_M_lay_32 ?_
      refine gq_iload_n dz_M_lay_35 rfl ?_
      refine gw_iald (q) (rfl) rfl (rfl) (Nat.le_of_ble_eq_true rfl) (by omega) dz_M_lay_36 ?_
      rw [(hS.2.2.2.1.1 q hq).2]
      refine gq_iconst (v := 1) dz_M_lay_37 rfl ?_
      refine gq_isub dz_M_lay_38 ?_
      refine gq_i2l dz_M_lay_39 ?_
      refine gq_cS (sp_M_in _ _ _) zw_M_in zl_M_65 dz_M_lay_40 (by decide) rfl rfl (Nat.le_of_ble_eq_true rfl) ?_
      refine gw_ifb_ne (tgt := 49) dz_M_lay_43 rfl (fun h43 => ?_) (fun h43 => ?_)
      · skip
        rw [hze, zn_inn (by omega)] at h43
        obtain ⟨j, hj, rfl⟩ := (zb_in_iff (by omega)).mp h43
        have hf : zh_fault (zx_B X) q ((zx_B X).1 q) (nI j) = 0 := by rw [zh_fault, if_neg h22, if_neg (fun y => y rfl), zh_in, decide_eq_true h22, hze, nI_clamp (by omega), h43]; rfl
        refine gq_aload_n dz_M_lay_49 rfl ?_
        refine gq_getR 47 zf_M_60 rfl rfl dz_M_lay_50 ?_
        refine gq_bipush (v := 40) dz_M_lay_53 rfl ?_
        refine gq_iload_n dz_M_lay_55 rfl ?_
        refine gq_imul dz_M_lay_56 ?_
        rw [show (40 : Int32) = nI 40 from rfl, pk_mul]
        refine gq_iload_n dz_M_lay_57 rfl ?_
        refine gq_iadd dz_M_lay_58 ?_
        rw [nI_add]
        refine gq_aload_n dz_M_lay_59 rfl ?_
        refine gq_getR 45 zf_M_54 rfl rfl dz_M_lay_60 ?_
        refine gq_iload_n dz_M_lay_63 rfl ?_
        refine gw_iald (q) (rfl) rfl (rfl) (Nat.le_of_ble_eq_true rfl) (by omega) dz_M_lay_64 ?_
        rw [(hS.2.2.2.1.1 q hq).1]
        refine gq_if_ne (tgt := 78) dz_M_lay_65 rfl (fun h65 => ?_) (fun h65 => ?_)
        · skip
          have h65 : ¬ (zx_B X).1 q = 0 := h65
          refine gq_aload_n dz_M_lay_78 rfl ?_
          refine gq_getR 45 zf_M_54 rfl rfl dz_M_lay_79 ?_
          refine gq_iload_n dz_M_lay_82 rfl ?_
          refine gw_iald (q) (rfl) rfl (rfl) (Nat.le_of_ble_eq_true rfl) (by omega) dz_M_lay_83 ?_
          rw [(hS.2.2.2.1.1 q hq).1]
          refine gq_iconst (v := 1) dz_M_lay_84 rfl ?_
          refine gq_icmp_ne (tgt := 98) dz_M_lay_85 rfl (fun h85 => ?_) (fun h85 => ?_)
          · skip
            have hv : zh_nar ((zx_B X).1 q) v = v := by rw [zh_nar, if_neg h65, if_neg h85]
            refine gq_iload_n dz_M_lay_98 rfl ?_
            refine gw_iast (40 * q + j) (rfl) rfl (rfl) (Nat.le_of_ble_eq_true rfl) (by omega) dz_M_lay_99 ?_
            refine gq_iconst (v := 1) dz_M_lay_100 rfl ?_
            refine gw_iretP .int dz_M_lay_101 rfl (by first | rfl | exact zb_nar _ | exact pk_nc _) ?_ ?_
            · rw [zx_layR1, if_pos hf]
            · rw [zx_layX1, if_pos hf, hv, nI_clamp (by omega)]; exact ⟨hS.she hW (fun t k z => zu_N (by omega)) (zM_h.put hS.2.2.2.1 hq (by omega) _), zg_M.rf.up (by omega)⟩
          · skip
            have hv : zh_nar ((zx_B X).1 q) v = v.toInt16.toInt32 := by rw [zh_nar, if_neg h65, if_pos h85]
            refine gq_iload_n dz_M_lay_88 rfl ?_
            refine gq_bipush (v := 16) dz_M_lay_89 rfl ?_
            refine gq_ishl dz_M_lay_91 ?_
            refine gq_bipush (v := 16) dz_M_lay_92 rfl ?_
            refine gq_ishr dz_M_lay_94 ?_
            rw [zn_b16]
            refine gq_goto (tgt := 99) dz_M_lay_95 rfl ?_
            refine gw_iast (40 * q + j) (rfl) rfl (rfl) (Nat.le_of_ble_eq_true rfl) (by omega) dz_M_lay_99 ?_
            refine gq_iconst (v := 1) dz_M_lay_100 rfl ?_
            refine gw_iretP .int dz_M_lay_101 rfl (by first | rfl | exact zb_nar _ | exact pk_nc _) ?_ ?_
            · rw [zx_layR1, if_pos hf]
            · rw [zx_layX1, if_pos hf, hv, nI_clamp (by omega)]; exact ⟨hS.she hW (fun t k z => zu_N (by omega)) (zM_h.put hS.2.2.2.1 hq (by omega) _), zg_M.rf.up (by omega)⟩
        · skip
          have hv : zh_nar ((zx_B X).1 q) v = v.toInt8.toInt32 := if_pos h65
          refine gq_iload_n dz_M_lay_68 rfl ?_
          refine gq_bipush (v := 24) dz_M_lay_69 rfl ?_
          refine gq_ishl dz_M_lay_71 ?_
          refine gq_bipush (v := 24) dz_M_lay_72 rfl ?_
          refine gq_ishr dz_M_lay_74 ?_
          rw [zn_b8]
          refine gq_goto (tgt := 99) dz_M_lay_75 rfl ?_
          refine gw_iast (40 * q + j) (rfl) rfl (rfl) (Nat.le_of_ble_eq_true rfl) (by omega) dz_M_lay_99 ?_
          refine gq_iconst (v := 1) dz_M_lay_100 rfl ?_
          refine gw_iretP .int dz_M_lay_101 rfl (by first | rfl | exact zb_nar _ | exact pk_nc _) ?_ ?_
          · rw [zx_layR1, if_pos hf]
          · rw [zx_layX1, if_pos hf, hv, nI_clamp (by omega)]; exact ⟨hS.she hW (fun t k z => zu_N (by omega)) (zM_h.put hS.2.2.2.1 hq (by omega) _), zg_M.rf.up (by omega)⟩
      · skip
        rw [hze, zn_inn (by omega)] at h43
        have hf : zh_fault (zx_B X) q ((zx_B X).1 q) i = 2 := by rw [zh_fault, if_neg h22, if_neg (fun y => y rfl), zh_in, decide_eq_true h22, hze, nI_clamp (by omega), h43]; rfl
        refine gq_bipush (v := -12) dz_M_lay_46 rfl ?_
        refine gw_iretP .int dz_M_lay_48 rfl (by first | rfl | exact zb_nar _ | exact pk_nc _) ?_ ?_
        · rw [zx_layR1, hf]; rfl
        · rw [zx_layX1, hf]; exact ⟨hS, zg_M.rf⟩
    · skip
      have hf : zh_fault (zx_B X) q ((zx_B X).1 q) i = 1 := if_pos h22
      refine gq_bipush (v := -11) dz_M_lay_25 rfl ?_
      refine gw_iretP .int dz_M_lay_27 rfl (by first | rfl | exact zb_nar _ | exact pk_nc _) ?_ ?_
      · rw [zx_layR1, hf]; rfl
      · rw [zx_layX1, hf]; exact ⟨hS, zg_M.rf⟩
  · skip
    rw [zn_inc (n := 4) rfl (by omega)] at h9
    refine gq_iconst (v := -1) dz_M_lay_12 rfl ?_
    refine gw_iretP .int dz_M_lay_13 rfl (by first | rfl | exact zb_nar _ | exact pk_nc _) ?_ ?_
    · rw [zx_layR, h9]; rfl
    · rw [zx_layX, h9]; exact ⟨hS, zg_M.rf⟩
