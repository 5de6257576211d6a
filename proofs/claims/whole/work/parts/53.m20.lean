/-! THE MODEL: read -/
theorem zn_rdin {f : Int32} {i z : Nat} (hi : i ≤ 20) (hz : z ≤ 40) : zn_in (f.toInt64 + (nI i).toInt64) 0 ((nI z - 1).toInt64) = zb_in (f + nI i) z := by
  unfold zn_in zb_in
  refine decide_eq_decide.mpr ?_
  rw [Int64.le_iff_toInt_le, Int64.le_iff_toInt_le, Int32.le_iff_toInt_le, Int32.lt_iff_toInt_lt, Int64.toInt_add, Int32.toInt_add, Int32.toInt_toInt64, Int32.toInt_toInt64, Int32.toInt_toInt64, nI_toInt (by omega), nI_toInt (by omega)]
  have h1 : (nI z - 1).toInt = (z : Int) - 1 := by
    rcases z with _ | z
    · rfl
    · rw [nI_pred, nI_toInt (by omega)]; omega
  rw [h1]
  have h2 := f.toInt_lt
  have h3 := f.le_toInt
  have h4 : (0 : Int64).toInt = 0 := rfl
  have h5 : (0 : Int32).toInt = 0 := rfl
  rw [h4, h5]
  generalize f.toInt = F at h2 h3 ⊢
  have e1 : ((2 ^ 64 : Nat) : Int) = 18446744073709551616 := rfl
  have e2 : ((2 ^ 32 : Nat) : Int) = 4294967296 := rfl
  unfold Int.bmod
  dsimp only
  rw [e1, e2]
  split <;> split <;> omega
theorem za_wf.doesA {A : za_D} (h : za_wf A) (hn : za_n A ≤ 6) (x : Int32) : za_wf (zx_doesA A x) := by
  unfold zx_doesA
  split
  · exact h
  · exact h.actS hn _
theorem zp_same.zk84 {σ τ : zq_T} (h : zp_same 84 σ τ) : zk_same σ τ := ⟨by rw [h.1], fun t j k q => h.2 t j k (by omega), fun k q => h.2 31 0 k (by omega)⟩
theorem zM_rep.rd {σ τ1 τ : zq_T} {X : za_X} {A : za_D} (h : zM_rep σ X) (hW : zx_wf X) (h1 : zp_same 84 σ τ1) (h2 : zp_same 0 τ1 τ) (hA : zn_rep τ A) (b : Int32) : zM_rep (zu τ 30 0 33 b) (A, X.2.1, X.2.2.1, ((zx_f X).1, b), X.2.2.2.2) ∧ zg_M σ (zu τ 30 0 33 b) := by
  have hs := h.as hW h1.zk84
  have e : zM_rep (zu τ1 30 0 33 b) (X.1, X.2.1, zx_T X, ((zx_f X).1, b), zx_s X, X.2.2.2.2.2) := hs.oth hW (τ := zu τ1 30 0 33 b) (fun t k z => zu_N (by omega)) (zx_T X) ((zx_f X).1, b) (zx_s X) ⟨⟨(zu_N (by omega)).trans hs.2.2.1.1.1, fun i hi => (zu_N (by omega)).trans (hs.2.2.1.1.2 i hi)⟩, ⟨(zu_N (by omega)).trans hs.2.2.1.2.1.1, zu_E⟩, ⟨(zu_N (by omega)).trans hs.2.2.1.2.2.1.1, fun i hi => ⟨(zu_N (by omega)).trans (hs.2.2.1.2.2.1.2 i hi).1, (zu_N (by omega)).trans (hs.2.2.1.2.2.1.2 i hi).2⟩⟩, (zu_N (by omega)).trans hs.2.2.1.2.2.2.1, (zu_N (by omega)).trans hs.2.2.1.2.2.2.2⟩
  have hz : zp_same 0 (zu τ1 30 0 33 b) (zu τ 30 0 33 b) := ⟨h2.1, fun t j k q => by
    show zq_up τ.1 30 0 33 b t j k = zq_up τ1.1 30 0 33 b t j k
    unfold zq_up
    split
    · rfl
    · exact h2.2 t j k q⟩
  have hA2 : zn_rep (zu τ 30 0 33 b) A := ⟨hA.1.keep fun t k q => zu_N (by omega), hA.2.keep hA.1.2.1 fun k _ _ => zu_N (by omega)⟩
  exact ⟨e.duchy (X := (X.1, X.2.1, zx_T X, ((zx_f X).1, b), zx_s X, X.2.2.2.2.2)) hW hz hA2, (h1.M.tr h2.M).up (by omega)⟩
theorem zh_fl {B : za_H} {k : Nat} {l i : Int32} : (B.1 k = -4 → zh_fault B k l i = 1) ∧ (¬ B.1 k = -4 → ¬ B.1 k = l → zh_fault B k l i = 3) ∧ (¬ B.1 k = -4 → B.1 k = l → zh_in B k i = false → zh_fault B k l i = 2) ∧ (¬ B.1 k = -4 → B.1 k = l → zh_in B k i = true → zh_fault B k l i = 0) := by
  refine ⟨fun h => if_pos h, fun h h2 => (if_neg h).trans (if_pos h2), fun h h2 h3 => ?_, fun h h2 h3 => ?_⟩
  · rw [zh_fault, if_neg h, if_neg (fun z => z h2), h3]; rfl
  · rw [zh_fault, if_neg h, if_neg (fun z => z h2), h3]; rfl

set_option maxHeartbeats 4000000 in
theorem sp_M_read {σ : zq_T} {X : za_X} (hS : zM_rep σ X) (hW : zx_wf X) (k l f n : Int32) : zq_Sp zm_M_read 4 [zq_O 30 0, zq_I k, zq_I l, zq_I f, zq_I n] σ (zq_rw (zq_I (zx_readR X k l f n)) (fun τ => zM_rep τ (zx_readX X k l f n) ∧ zg_M σ τ)) := by
  have hA : zn_rep σ X.1 := hS.1
  have hw : za_wf X.1 := hW.1
  have hn6 := zn_n6 hA
  have hm5 := zn_m5 hA
  refine zq_sp [some (zq_O 30 0), some (zq_I k), some (zq_I l), some (zq_I f), some (zq_I n), none, none] (by decide +kernel) rfl (Nat.le_of_ble_eq_true rfl) (fun ν => ?_)
  refine gq_iload_n dz_M_read_0 rfl ?_
  refine gq_i2l dz_M_read_1 ?_
  refine gq_lconst (v := 0) dz_M_read_2 rfl ?_
  refine gq_ldc2 zl_M_167 dz_M_read_3 ?_
  refine gq_cS (sp_M_in _ _ _) zw_M_in zl_M_65 dz_M_read_6 (by decide) rfl rfl (Nat.le_of_ble_eq_true rfl) ?_
  refine gw_ifb_eq (tgt := 37) dz_M_read_9 rfl (fun h9 => ?_) (fun h9 => ?_)
  · skip
    rw [zn_inc (n := 4) rfl (by omega)] at h9
    have ho : zx_rdok k l n = false := by rw [zx_rdok, h9]; rfl
    refine gq_iconst (v := -1) dz_M_read_37 rfl ?_
    refine gw_iretP .int dz_M_read_38 rfl (by first | rfl | exact zb_nar _ | exact pk_nc _) ?_ ?_
    · rw [zx_readR, ho]; rfl
    · rw [zx_readX, ho]; exact ⟨hS, zg_M.rf⟩
  · skip
    rw [zn_inc (n := 4) rfl (by omega)] at h9
    refine gq_iload_n dz_M_read_12 rfl ?_
    refine gq_i2l dz_M_read_13 ?_
    refine gq_lconst (v := 0) dz_M_read_14 rfl ?_
    refine gq_ldc2 zl_M_241 dz_M_read_15 ?_
    refine gq_cS (sp_M_in _ _ _) zw_M_in zl_M_65 dz_M_read_18 (by decide) rfl rfl (Nat.le_of_ble_eq_true rfl) ?_
    refine gw_ifb_eq (tgt := 37) dz_M_read_21 rfl (fun h21 => ?_) (fun h21 => ?_)
    · skip
      rw [zn_inc (n := 3) rfl (by omega)] at h21
      have ho : zx_rdok k l n = false := by rw [zx_rdok, h9, h21]; rfl
      refine gq_iconst (v := -1) dz_M_read_37 rfl ?_
      refine gw_iretP .int dz_M_read_38 rfl (by first | rfl | exact zb_nar _ | exact pk_nc _) ?_ ?_
      · rw [zx_readR, ho]; rfl
      · rw [zx_readX, ho]; exact ⟨hS, zg_M.rf⟩
    · skip
      rw [zn_inc (n := 3) rfl (by omega)] at h21
      refine gq_iload dz_M_read_24 rfl ?_
      refine gq_i2l dz_M_read_26 ?_
      refine gq_lconst (v := 0) dz_M_read_27 rfl ?_
      refine gq_ldc2 zl_M_292 dz_M_read_28 ?_
      refine gq_cS (sp_M_in _ _ _) zw_M_in zl_M_65 dz_M_read_31 (by decide) rfl rfl (Nat.le_of_ble_eq_true rfl) ?_
      refine gw_ifb_ne (tgt := 39) dz_M_read_34 rfl (fun h34 => ?_) (fun h34 => ?_)
      · skip
        rw [zn_in3 (n := 20) rfl rfl (by omega)] at h34
        have ho : zx_rdok k l n = true := by rw [zx_rdok, h9, h21]; exact h34
        obtain ⟨q, hq, rfl⟩ := (zb_in_iff (by omega)).mp h9
        obtain ⟨m, hm, rfl⟩ := zx_3of (n := 20) h34 (by omega)
        refine gq_aload_n dz_M_read_39 rfl ?_
        refine gq_iconst (v := 0) dz_M_read_40 rfl ?_
        refine gq_bipush (v := 84) dz_M_read_41 rfl ?_
        refine gq_cVX (sp_M_copies (a := 0) (b := 84) (by omega) (by omega) (by omega)) zw_M_copies zl_M_246 dz_M_read_43 rfl rfl rfl (by decide) rfl rfl (Nat.le_of_ble_eq_true rfl) (fun τ43 hq43 => ?_)
        refine gq_iconst (v := 0) dz_M_read_46 rfl ?_
        refine gw_istore 5 dz_M_read_47 (Nat.le_of_ble_eq_true rfl) rfl ?_
        dsimp only [List.set]
        refine gq_iconst (v := 0) dz_M_read_49 rfl ?_
        refine gw_istore 6 dz_M_read_50 (Nat.le_of_ble_eq_true rfl) rfl ?_
        dsimp only [List.set]
        have L52 : ∀ (kf : Nat) (i r : Nat) (b : Int32) (A : za_D) (τ : zq_T) (e : Nat) (hkf : 2 * r + e < kf) (he : b = 0 → e = 1) (hi : i + r = m) (hV : zx_read1 X q l f m = if b = 0 then zs_rd (zx_B X) q l f r i A else (nI i, A, b, true)) (hA2 : za_wf A) (hs : zp_same 0 τ43 τ) (hT : zn_rep τ A), zq_G ν zm_M_read 4 (zq_rw (zq_I (zx_readR X (nI q) l f (nI m))) (fun τ => zM_rep τ (zx_readX X (nI q) l f (nI m)) ∧ zg_M σ τ)) 52 [some (zq_O 30 0), some (zq_I (nI q)), some (zq_I l), some (zq_I f), some (zq_I (nI m)), some (zq_I b), some (zq_I (nI i))] [] τ := by
          intro kf
          induction kf with
          | zero => intro i r b A τ e hkf he hi hV hA2 hs hT; exact absurd hkf (Nat.not_lt_zero _)
          | succ kf ih52 =>
            intro i r b A τ e hkf he hi hV hA2 hs hT
            have hH : zM_h τ (zx_B X) := (hS.2.2.2.1.keep (fun t k _ _ => hq43.1.2 _ _ _ (by omega))).keep (fun t k _ _ => hs.2 _ _ _ (by omega))
            have hT6 := zn_n6 hT
            refine gq_iload dz_M_read_52 rfl ?_
            refine gq_iload dz_M_read_54 rfl ?_
            refine gq_icmp_ge (tgt := 167) dz_M_read_56 rfl (fun h56 => ?_) (fun h56 => ?_)
            · skip
              have hi4 : m ≤ i := (nI_leI (by omega) (by omega)).mp h56
              have hr0 : r = 0 := by omega
              have hV2 : zx_read1 X q l f m = (nI i, A, b, true) := by rw [hV, hr0]; split; rw [zs_rd]; rename_i hb0; rw [hb0]; rfl
              refine gq_aload_n dz_M_read_167 rfl ?_
              refine gq_iload dz_M_read_168 rfl ?_
              refine gq_putI zv_M_294 rfl rfl dz_M_read_170 ?_
              refine gq_iload dz_M_read_173 rfl ?_
              refine gw_iretP .int dz_M_read_175 rfl (by first | rfl | exact zb_nar _ | exact pk_nc _) ?_ ?_
              · rw [zx_readR, ho, if_pos rfl, nI_clamp (by omega), nI_clamp (by omega), hV2]
              · rw [zx_readX, ho, if_pos rfl, nI_clamp (by omega), nI_clamp (by omega), hV2]; exact hS.rd hW hq43.1 hs hT b
            · skip
              have i2 : i < m := by rcases Nat.lt_or_ge i (m) with z | z; exact z; exact absurd (nI_le z (by omega)) h56
              refine gq_iload dz_M_read_59 rfl ?_
              refine gq_if_ne (tgt := 167) dz_M_read_61 rfl (fun h61 => ?_) (fun h61 => ?_)
              · skip
                have hV2 : zx_read1 X q l f m = (nI i, A, b, true) := by rw [hV, if_neg h61]
                refine gq_aload_n dz_M_read_167 rfl ?_
                refine gq_iload dz_M_read_168 rfl ?_
                refine gq_putI zv_M_294 rfl rfl dz_M_read_170 ?_
                refine gq_iload dz_M_read_173 rfl ?_
                refine gw_iretP .int dz_M_read_175 rfl (by first | rfl | exact zb_nar _ | exact pk_nc _) ?_ ?_
                · rw [zx_readR, ho, if_pos rfl, nI_clamp (by omega), nI_clamp (by omega), hV2]
                · rw [zx_readX, ho, if_pos rfl, nI_clamp (by omega), nI_clamp (by omega), hV2]; exact hS.rd hW hq43.1 hs hT b
              · skip
                refine gq_aload_n dz_M_read_64 rfl ?_
                refine gq_getR 45 zf_M_54 rfl rfl dz_M_read_65 ?_
                refine gq_iload_n dz_M_read_68 rfl ?_
                refine gw_iald (q) (rfl) rfl (rfl) (Nat.le_of_ble_eq_true rfl) (by omega) dz_M_read_69 ?_
                rw [(hH.1 q hq).1]
                refine gq_bipush (v := -4) dz_M_read_70 rfl ?_
                refine gq_icmp_ne (tgt := 79) dz_M_read_72 rfl (fun h72 => ?_) (fun h72 => ?_)
                · skip
                  refine gq_aload_n dz_M_read_79 rfl ?_
                  refine gq_getR 45 zf_M_54 rfl rfl dz_M_read_80 ?_
                  refine gq_iload_n dz_M_read_83 rfl ?_
                  refine gw_iald (q) (rfl) rfl (rfl) (Nat.le_of_ble_eq_true rfl) (by omega) dz_M_read_84 ?_
                  rw [(hH.1 q hq).1]
                  refine gq_iload_n dz_M_read_85 rfl ?_
                  refine gq_icmp_eq (tgt := 93) dz_M_read_86 rfl (fun h86 => ?_) (fun h86 => ?_)
                  · skip
                    obtain ⟨zz, hzz, hze⟩ : ∃ z, z ≤ 40 ∧ (zx_B X).2.1 q = nI z := by rcases hW.2.1 q hq with z | z; exact absurd z h72; exact z.2
                    refine gq_iload_n dz_M_read_93 rfl ?_
                    refine gq_i2l dz_M_read_94 ?_
                    refine gq_iload dz_M_read_95 rfl ?_
                    refine gq_i2l dz_M_read_97 ?_
                    refine gq_ladd dz_M_read_98 ?_
                    refine gq_lconst (v := 0) dz_M_read_99 rfl ?_
                    refine gq_aload_n dz_M_read_100 rfl ?_
                    refine gq_getR 46 zf_M_57 rfl rfl dz_M_read_101 ?_
                    refine gq_iload_n dz_M_read_104 rfl ?_
                    refine gw_iald (q) (rfl) rfl (rfl) (Nat.le_of_ble_eq_true rfl) (by omega) dz_M_read_105 ?_
                    rw [(hH.1 q hq).2]
                    rw [hze]
                    refine gq_iconst (v := 1) dz_M_read_106 rfl ?_
                    refine gq_isub dz_M_read_107 ?_
                    refine gq_i2l dz_M_read_108 ?_
                    refine gq_cS (sp_M_in _ _ _) zw_M_in zl_M_65 dz_M_read_109 (by decide) rfl rfl (Nat.le_of_ble_eq_true rfl) ?_
                    refine gw_ifb_ne (tgt := 119) dz_M_read_112 rfl (fun h112 => ?_) (fun h112 => ?_)
                    · skip
                      have hin : zh_in (zx_B X) q (f + nI i) = true := by rw [zh_in, hze, nI_clamp (by omega), ← h112, zn_rdin (by omega) hzz, decide_eq_true h72, Bool.true_and]
                      have hj0 := zh_in_ex hW.2.1 hq hin
                      obtain ⟨j, hj, hje⟩ := hj0
                      refine gq_iconst (v := 0) dz_M_read_119 rfl ?_
                      refine gw_istore 5 dz_M_read_120 (Nat.le_of_ble_eq_true rfl) rfl ?_
                      dsimp only [List.set]
                      refine gq_iload dz_M_read_122 rfl ?_
                      refine gq_if_ne (tgt := 52) dz_M_read_124 rfl (fun h124 => ?_) (fun h124 => ?_)
                      · skip
                        exact absurd rfl h124
                      · skip
                        refine gq_aload_n dz_M_read_127 rfl ?_
                        refine gq_aload_n dz_M_read_128 rfl ?_
                        refine gq_getR 47 zf_M_60 rfl rfl dz_M_read_129 ?_
                        refine gq_bipush (v := 40) dz_M_read_132 rfl ?_
                        refine gq_iload_n dz_M_read_134 rfl ?_
                        refine gq_imul dz_M_read_135 ?_
                        rw [show (40 : Int32) = nI 40 from rfl, pk_mul]
                        refine gq_iload_n dz_M_read_136 rfl ?_
                        refine gq_iadd dz_M_read_137 ?_
                        refine gq_iload dz_M_read_138 rfl ?_
                        refine gq_iadd dz_M_read_140 ?_
                        rw [Int32.add_assoc, hje, nI_add]
                        refine gw_iald (40 * q + j) (rfl) rfl (rfl) (Nat.le_of_ble_eq_true rfl) (by omega) dz_M_read_141 ?_
                        rw [hH.2 q hq j hj]
                        refine gq_cVP (sp_M_done hT hA2 _) zw_M_done zl_M_232 dz_M_read_142 rfl rfl rfl (by decide) rfl rfl (Nat.le_of_ble_eq_true rfl) (fun τ142 hq142 => ?_)
                        refine gq_if_ge (tgt := 161) dz_M_read_145 rfl (fun h145 => ?_) (fun h145 => ?_)
                        · skip
                          have hd0 : ¬ zx_doesR A ((zx_B X).2.2 q j) < 0 := Int32.not_lt.mpr h145
                          refine gw_iinc 6 (c := 1) dz_M_read_161 rfl rfl (Nat.le_of_ble_eq_true rfl) rfl ?_
                          dsimp only [List.set]
                          refine gq_goto (tgt := 52) dz_M_read_164 rfl ?_
                          simp only [nI_1]
                          exact zq_fewer _ (zq_sub_spec (by repeat (first | exact trivial | exact rfl | refine And.intro ?_ ?_))) (ih52 (i + 1) (r - 1) 0 (zx_doesA A ((zx_B X).2.2 q j)) _ 1 (by have := he h61; omega) (fun _ => rfl) (by omega) (by rw [hV, if_pos h61, if_pos rfl]; obtain ⟨r2, rfl⟩ : ∃ r2, r = r2 + 1 := ⟨r - 1, by omega⟩; rw [zs_rd, zh_fl.2.2.2 h72 h86 hin, if_neg (fun z => z rfl), hje, nI_clamp (by omega), if_neg hd0, Nat.add_sub_cancel]) (hA2.doesA hT6 _) (hs.tr hq142.1) hq142.2)
                        · skip
                          have hd0 : zx_doesR A ((zx_B X).2.2 q j) < 0 := Int32.not_le.mp h145
                          have hV3 : zx_read1 X q l f m = (-20 - nI i, A, 0, false) := by rw [hV, if_pos h61]; obtain ⟨r2, rfl⟩ : ∃ r2, r = r2 + 1 := ⟨r - 1, by omega⟩; rw [zs_rd, zh_fl.2.2.2 h72 h86 hin, if_neg (fun z => z rfl), hje, nI_clamp (by omega), if_pos hd0]
                          refine gq_aload_n dz_M_read_148 rfl ?_
                          refine gq_bipush (v := 84) dz_M_read_149 rfl ?_
                          refine gq_iconst (v := 0) dz_M_read_151 rfl ?_
                          refine gq_cVX (sp_M_copies (a := 84) (b := 0) (by omega) (by omega) (by omega)) zw_M_copies zl_M_246 dz_M_read_152 rfl rfl rfl (by decide) rfl rfl (Nat.le_of_ble_eq_true rfl) (fun τ152 hq152 => ?_)
                          refine gq_bipush (v := -20) dz_M_read_155 rfl ?_
                          refine gq_iload dz_M_read_157 rfl ?_
                          refine gq_isub dz_M_read_159 ?_
                          refine gw_iretP .int dz_M_read_160 rfl (by first | rfl | exact zb_nar _ | exact pk_nc _) ?_ ?_
                          · rw [zx_readR, ho, if_pos rfl, nI_clamp (by omega), nI_clamp (by omega), hV3]
                          · rw [zx_readX, ho, if_pos rfl, nI_clamp (by omega), nI_clamp (by omega), hV3]; have hz := zk_rest hq43.1 hq43.2 (hs.tr hq142.1) hq152.1 hq152.2; exact ⟨hS.as hW hz, hz.M⟩
                    · skip
                      have hin : zh_in (zx_B X) q (f + nI i) = false := by rw [zh_in, hze, nI_clamp (by omega), ← h112, zn_rdin (by omega) hzz, decide_eq_true h72, Bool.true_and]
                      refine gq_iconst (v := 2) dz_M_read_115 rfl ?_
                      refine gq_goto (tgt := 120) dz_M_read_116 rfl ?_
                      refine gw_istore 5 dz_M_read_120 (Nat.le_of_ble_eq_true rfl) rfl ?_
                      dsimp only [List.set]
                      refine gq_iload dz_M_read_122 rfl ?_
                      refine gq_if_ne (tgt := 52) dz_M_read_124 rfl (fun h124 => ?_) (fun h124 => ?_)
                      · skip
                        exact zq_fewer _ (zq_sub_spec (by repeat (first | exact trivial | exact rfl | refine And.intro ?_ ?_))) (ih52 i r 2 A τ 0 (by have := he h61; omega) (fun z => absurd z (by decide)) hi (by rw [hV, if_pos h61, if_neg (by decide)]; obtain ⟨r2, rfl⟩ : ∃ r2, r = r2 + 1 := ⟨r - 1, by omega⟩; rw [zs_rd, zh_fl.2.2.1 h72 h86 hin, if_pos (by decide)]) hA2 hs hT)
                      · skip
                        exact absurd h124 (by decide)
                  · skip
                    refine gq_iconst (v := 3) dz_M_read_89 rfl ?_
                    refine gq_goto (tgt := 120) dz_M_read_90 rfl ?_
                    refine gw_istore 5 dz_M_read_120 (Nat.le_of_ble_eq_true rfl) rfl ?_
                    dsimp only [List.set]
                    refine gq_iload dz_M_read_122 rfl ?_
                    refine gq_if_ne (tgt := 52) dz_M_read_124 rfl (fun h124 => ?_) (fun h124 => ?_)
                    · skip
                      exact zq_fewer _ (zq_sub_spec (by repeat (first | exact trivial | exact rfl | refine And.intro ?_ ?_))) (ih52 i r 3 A τ 0 (by have := he h61; omega) (fun z => absurd z (by decide)) hi (by rw [hV, if_pos h61, if_neg (by decide)]; obtain ⟨r2, rfl⟩ : ∃ r2, r = r2 + 1 := ⟨r - 1, by omega⟩; rw [zs_rd, zh_fl.2.1 h72 (fun z => h86 z), if_pos (by decide)]) hA2 hs hT)
                    · skip
                      exact absurd h124 (by decide)
                · skip
                  refine gq_iconst (v := 1) dz_M_read_75 rfl ?_
                  refine gq_goto (tgt := 120) dz_M_read_76 rfl ?_
                  refine gw_istore 5 dz_M_read_120 (Nat.le_of_ble_eq_true rfl) rfl ?_
                  dsimp only [List.set]
                  refine gq_iload dz_M_read_122 rfl ?_
                  refine gq_if_ne (tgt := 52) dz_M_read_124 rfl (fun h124 => ?_) (fun h124 => ?_)
                  · skip
                    exact zq_fewer _ (zq_sub_spec (by repeat (first | exact trivial | exact rfl | refine And.intro ?_ ?_))) (ih52 i r 1 A τ 0 (by have := he h61; omega) (fun z => absurd z (by decide)) hi (by rw [hV, if_pos h61, if_neg (by decide)]; obtain ⟨r2, rfl⟩ : ∃ r2, r = r2 + 1 := ⟨r - 1, by omega⟩; rw [zs_rd, zh_fl.1 h72, if_pos (by decide)]) hA2 hs hT)
                  · skip
                    exact absurd h124 (by decide)
        exact zq_fewer _ (zq_sub_spec (by repeat (first | exact trivial | exact rfl | refine And.intro ?_ ?_))) (L52 (2 * m + 2) 0 m 0 X.1 _ 1 (by omega) (fun _ => rfl) (by omega) rfl hw zp_same.rf (hA.as84 hq43.1))
      · skip
        rw [zn_in3 (n := 20) rfl rfl (by omega)] at h34
        have ho : zx_rdok k l n = false := by rw [zx_rdok, h9, h21]; exact h34
        refine gq_iconst (v := -1) dz_M_read_37 rfl ?_
        refine gw_iretP .int dz_M_read_38 rfl (by first | rfl | exact zb_nar _ | exact pk_nc _) ?_ ?_
        · rw [zx_readR, ho]; rfl
        · rw [zx_readX, ho]; exact ⟨hS, zg_M.rf⟩
