theorem upd_at0 {f : Nat → Int32} {p : Nat} {v : Int32} : upd f p v p = v := if_pos rfl
theorem upd_not {f : Nat → Int32} {p q : Nat} {v : Int32} (h : ¬ q = p) : upd f p v q = f q := if_neg h

set_option maxHeartbeats 4000000 in
theorem sp_M_feed {σ : zq_T} {X : za_X} (hS : zM_rep σ X) (hW : zx_wf X) (c : Int32) : zq_Sp zm_M_feed 1 [zq_O 30 0, zq_I c] σ (zq_rw (zq_I (zx_fedR X c)) (fun τ => zM_rep τ (zx_fedX X c) ∧ zg_M σ τ)) := by
  have ht6 : (zx_T X).1 ≤ 160 := hW.2.2.1.1
  refine zq_sp [some (zq_O 30 0), some (zq_I c)] (by decide +kernel) rfl (Nat.le_of_ble_eq_true rfl) (fun ν => ?_)
  refine gq_iload_n dz_M_feed_0 rfl ?_
  refine gq_i2l dz_M_feed_1 ?_
  refine gq_lconst (v := 0) dz_M_feed_2 rfl ?_
  refine gq_ldc2 zl_M_63 dz_M_feed_3 ?_
  refine gq_cS (sp_M_in _ _ _) zw_M_in zl_M_65 dz_M_feed_6 (by decide) rfl rfl (Nat.le_of_ble_eq_true rfl) ?_
  refine gw_ifb_ne (tgt := 14) dz_M_feed_9 rfl (fun h9 => ?_) (fun h9 => ?_)
  · skip
    rw [zn_in3 (n := 127) rfl rfl (by omega)] at h9
    have h9 : zx_3 c 127 = true := h9
    refine gq_aload_n dz_M_feed_14 rfl ?_
    refine gq_getI zf_M_69 rfl rfl dz_M_feed_15 ?_
    rw [hS.2.2.1.1.1]
    refine gq_sipush (v := 160) dz_M_feed_18 rfl ?_
    refine gq_icmp_ne (tgt := 27) dz_M_feed_21 rfl (fun h21 => ?_) (fun h21 => ?_)
    · skip
      have hl : (zx_T X).1 < 160 := by rcases Nat.lt_or_ge (zx_T X).1 160 with z | z; exact z; exact absurd (by rw [show (zx_T X).1 = 160 by omega]; rfl) h21
      refine gq_aload_n dz_M_feed_27 rfl ?_
      refine gq_getR 37 zf_M_28 rfl rfl dz_M_feed_28 ?_
      refine gq_aload_n dz_M_feed_31 rfl ?_
      refine gq_getI zf_M_69 rfl rfl dz_M_feed_32 ?_
      rw [hS.2.2.1.1.1]
      refine gq_iload_n dz_M_feed_35 rfl ?_
      refine gw_iast ((zx_T X).1) (rfl) rfl (rfl) (Nat.le_of_ble_eq_true rfl) (by omega) dz_M_feed_36 ?_
      refine gq_aload_n dz_M_feed_37 rfl ?_
      refine gq_dup dz_M_feed_38 rfl ?_
      refine gq_getI zf_M_69 rfl rfl dz_M_feed_39 ?_
      rw [zq_upN (by omega), hS.2.2.1.1.1]
      refine gq_iconst (v := 1) dz_M_feed_42 rfl ?_
      refine gq_iadd dz_M_feed_43 ?_
      rw [nI_1]
      refine gq_putI zv_M_69 rfl rfl dz_M_feed_44 ?_
      refine gq_aload_n dz_M_feed_47 rfl ?_
      refine gq_getI zf_M_69 rfl rfl dz_M_feed_48 ?_
      rw [zq_upE]
      refine gw_iretP .int dz_M_feed_51 rfl (by first | rfl | exact zb_nar _ | exact pk_nc _) ?_ ?_
      · rw [zx_fedR, if_neg (c := zx_3 c 127 = false) (by rw [h9]; exact Bool.noConfusion), if_pos hl]
      · rw [zx_fedX, if_neg (c := zx_3 c 127 = false) (by rw [h9]; exact Bool.noConfusion), if_pos hl]; exact ⟨hS.oth hW (τ := zu (zu σ 37 0 (zx_T X).1 c) 30 0 13 (nI ((zx_T X).1 + 1))) (fun t k z => by rw [zu_N (by omega), zu_N (by omega)]) ((zx_T X).1 + 1, upd (zx_T X).2 (zx_T X).1 c) (zx_f X) (zx_s X) ⟨⟨zu_E, fun i hi => (by show _ = upd (zx_T X).2 (zx_T X).1 c i; have hi2 : i < (zx_T X).1 + 1 := hi; by_cases z : i = (zx_T X).1; rw [z, upd_at0]; exact (zu_N (by omega)).trans zu_E; rw [upd_not z]; exact (zu_N (by omega)).trans ((zu_N (by omega)).trans (hS.2.2.1.1.2 i (by omega))))⟩, ⟨(zu_N (by omega)).trans ((zu_N (by omega)).trans (hS.2.2.1.2.1.1)), (zu_N (by omega)).trans ((zu_N (by omega)).trans (hS.2.2.1.2.1.2))⟩, ⟨(zu_N (by omega)).trans ((zu_N (by omega)).trans (hS.2.2.1.2.2.1.1)), fun i hi => ⟨(zu_N (by omega)).trans ((zu_N (by omega)).trans ((hS.2.2.1.2.2.1.2 i hi).1)), (zu_N (by omega)).trans ((zu_N (by omega)).trans ((hS.2.2.1.2.2.1.2 i hi).2))⟩⟩, (zu_N (by omega)).trans ((zu_N (by omega)).trans (hS.2.2.1.2.2.2.1)), (zu_N (by omega)).trans ((zu_N (by omega)).trans (hS.2.2.1.2.2.2.2))⟩, (zg_M.rf.up (by omega)).up (by omega)⟩
    · skip
      have hl : ¬ (zx_T X).1 < 160 := fun z => by have := (nI_eq (b := 160) (by omega) (by omega)).mp h21; omega
      refine gq_bipush (v := -3) dz_M_feed_24 rfl ?_
      refine gw_iretP .int dz_M_feed_26 rfl (by first | rfl | exact zb_nar _ | exact pk_nc _) ?_ ?_
      · rw [zx_fedR, if_neg (c := zx_3 c 127 = false) (by rw [h9]; exact Bool.noConfusion), if_neg hl]
      · rw [zx_fedX, if_neg (c := zx_3 c 127 = false) (by rw [h9]; exact Bool.noConfusion), if_neg hl]; exact ⟨hS, zg_M.rf⟩
  · skip
    rw [zn_in3 (n := 127) rfl rfl (by omega)] at h9
    have h9 : zx_3 c 127 = false := h9
    refine gq_iconst (v := -1) dz_M_feed_12 rfl ?_
    refine gw_iretP .int dz_M_feed_13 rfl (by first | rfl | exact zb_nar _ | exact pk_nc _) ?_ ?_
    · rw [zx_fedR, if_pos h9]
    · rw [zx_fedX, if_pos h9]; exact ⟨hS, zg_M.rf⟩
set_option maxHeartbeats 4000000 in
theorem sp_M_see {σ : zq_T} {X : za_X} (hS : zM_rep σ X) (hW : zx_wf X) (t p : Int32) : zq_Sp zm_M_see 2 [zq_O 30 0, zq_I t, zq_I p] σ (zq_rw (zq_I (zx_seeR X t p)) (fun τ => zM_rep τ (zx_seeX X t p) ∧ zg_M σ τ)) := by
  have hs6 : (zx_s X).1 ≤ 6 := hW.2.2.2.1.1
  have hA : zn_rep σ X.1 := hS.1
  refine zq_sp [some (zq_O 30 0), some (zq_I t), some (zq_I p)] (by decide +kernel) rfl (Nat.le_of_ble_eq_true rfl) (fun ν => ?_)
  refine gq_iload_n dz_M_see_0 rfl ?_
  refine gq_cS (sp_M_isThing _) zw_M_isThing zl_M_217 dz_M_see_1 (by decide) rfl rfl (Nat.le_of_ble_eq_true rfl) ?_
  refine gw_ifb_eq (tgt := 21) dz_M_see_4 rfl (fun h4 => ?_) (fun h4 => ?_)
  · skip
    have ho : zx_seeok X t p = false := by rw [zx_seeok, h4]; rfl
    refine gq_iconst (v := -1) dz_M_see_21 rfl ?_
    refine gw_iretP .int dz_M_see_22 rfl (by first | rfl | exact zb_nar _ | exact pk_nc _) ?_ ?_
    · rw [zx_seeR, if_pos ho]
    · rw [zx_seeX, if_pos ho]; exact ⟨hS, zg_M.rf⟩
  · skip
    refine gq_aload_n dz_M_see_7 rfl ?_
    refine gq_iload_n dz_M_see_8 rfl ?_
    refine gq_cV (sp_M_isOne hA _) zw_M_isOne zl_M_203 dz_M_see_9 rfl rfl rfl (by decide) rfl rfl (Nat.le_of_ble_eq_true rfl) ?_
    refine gw_ifb_ne (tgt := 23) dz_M_see_12 rfl (fun h12 => ?_) (fun h12 => ?_)
    · skip
      have ho : zx_seeok X t p = true := by rw [zx_seeok, h4, h12, Bool.or_true]; rfl
      refine gq_aload_n dz_M_see_23 rfl ?_
      refine gq_getI zf_M_164 rfl rfl dz_M_see_24 ?_
      rw [hS.2.2.1.2.2.1.1]
      refine gq_bipush (v := 6) dz_M_see_27 rfl ?_
      refine gq_icmp_ne (tgt := 35) dz_M_see_29 rfl (fun h29 => ?_) (fun h29 => ?_)
      · skip
        have hl : (zx_s X).1 < 6 := by rcases Nat.lt_or_ge (zx_s X).1 6 with z | z; exact z; exact absurd (by rw [show (zx_s X).1 = 6 by omega]; rfl) h29
        refine gq_aload_n dz_M_see_35 rfl ?_
        refine gq_getR 43 zf_M_47 rfl rfl dz_M_see_36 ?_
        refine gq_iconst (v := 2) dz_M_see_39 rfl ?_
        refine gq_aload_n dz_M_see_40 rfl ?_
        refine gq_getI zf_M_164 rfl rfl dz_M_see_41 ?_
        rw [hS.2.2.1.2.2.1.1]
        refine gq_imul dz_M_see_44 ?_
        refine gq_iload_n dz_M_see_45 rfl ?_
        refine gw_iast (2 * (zx_s X).1) (zn_2k _) rfl (rfl) (Nat.le_of_ble_eq_true rfl) (by omega) dz_M_see_46 ?_
        refine gq_aload_n dz_M_see_47 rfl ?_
        refine gq_getR 43 zf_M_47 rfl rfl dz_M_see_48 ?_
        refine gq_iconst (v := 2) dz_M_see_51 rfl ?_
        refine gq_aload_n dz_M_see_52 rfl ?_
        refine gq_getI zf_M_164 rfl rfl dz_M_see_53 ?_
        rw [zq_upN (by omega), hS.2.2.1.2.2.1.1]
        refine gq_imul dz_M_see_56 ?_
        refine gq_iconst (v := 1) dz_M_see_57 rfl ?_
        refine gq_iadd dz_M_see_58 ?_
        refine gq_iload_n dz_M_see_59 rfl ?_
        refine gw_iast (2 * (zx_s X).1 + 1) (zn_2k1 _) rfl (rfl) (Nat.le_of_ble_eq_true rfl) (by omega) dz_M_see_60 ?_
        refine gq_aload_n dz_M_see_61 rfl ?_
        refine gq_dup dz_M_see_62 rfl ?_
        refine gq_getI zf_M_164 rfl rfl dz_M_see_63 ?_
        rw [zq_upN (by omega), zq_upN (by omega), hS.2.2.1.2.2.1.1]
        refine gq_iconst (v := 1) dz_M_see_66 rfl ?_
        refine gq_iadd dz_M_see_67 ?_
        rw [nI_1]
        refine gq_putI zv_M_164 rfl rfl dz_M_see_68 ?_
        refine gq_aload_n dz_M_see_71 rfl ?_
        refine gq_getI zf_M_164 rfl rfl dz_M_see_72 ?_
        rw [zq_upE]
        refine gw_iretP .int dz_M_see_75 rfl (by first | rfl | exact zb_nar _ | exact pk_nc _) ?_ ?_
        · rw [zx_seeR, if_neg (c := zx_seeok X t p = false) (by rw [ho]; exact Bool.noConfusion), if_pos hl]
        · rw [zx_seeX, if_neg (c := zx_seeok X t p = false) (by rw [ho]; exact Bool.noConfusion), if_pos hl]; exact ⟨hS.oth hW (τ := zu (zu (zu σ 43 0 (2 * (zx_s X).1) t) 43 0 (2 * (zx_s X).1 + 1) p) 30 0 28 (nI ((zx_s X).1 + 1))) (fun t k z => by rw [zu_N (by omega), zu_N (by omega), zu_N (by omega)]) (zx_T X) (zx_f X) ((zx_s X).1 + 1, upd (zx_s X).2.1 (zx_s X).1 t, upd (zx_s X).2.2 (zx_s X).1 p) ⟨⟨(zu_N (by omega)).trans ((zu_N (by omega)).trans ((zu_N (by omega)).trans (hS.2.2.1.1.1))), fun i hi => (zu_N (by omega)).trans ((zu_N (by omega)).trans ((zu_N (by omega)).trans (hS.2.2.1.1.2 i hi)))⟩, ⟨(zu_N (by omega)).trans ((zu_N (by omega)).trans ((zu_N (by omega)).trans (hS.2.2.1.2.1.1))), (zu_N (by omega)).trans ((zu_N (by omega)).trans ((zu_N (by omega)).trans (hS.2.2.1.2.1.2)))⟩, ⟨zu_E, fun i hi => (by show _ = upd (zx_s X).2.1 (zx_s X).1 t i ∧ _ = upd (zx_s X).2.2 (zx_s X).1 p i; have hi2 : i < (zx_s X).1 + 1 := hi; by_cases z : i = (zx_s X).1; rw [z, upd_at0, upd_at0]; exact ⟨(zu_N (by omega)).trans ((zu_N (by omega)).trans zu_E), (zu_N (by omega)).trans zu_E⟩; rw [upd_not z, upd_not z]; exact ⟨(zu_N (by omega)).trans ((zu_N (by omega)).trans ((zu_N (by omega)).trans ((hS.2.2.1.2.2.1.2 i (by omega)).1))), (zu_N (by omega)).trans ((zu_N (by omega)).trans ((zu_N (by omega)).trans ((hS.2.2.1.2.2.1.2 i (by omega)).2)))⟩)⟩, (zu_N (by omega)).trans ((zu_N (by omega)).trans ((zu_N (by omega)).trans (hS.2.2.1.2.2.2.1))), (zu_N (by omega)).trans ((zu_N (by omega)).trans ((zu_N (by omega)).trans (hS.2.2.1.2.2.2.2)))⟩, ((zg_M.rf.up (by omega)).up (by omega)).up (by omega)⟩
      · skip
        have hl : ¬ (zx_s X).1 < 6 := fun z => by have := (nI_eq (b := 6) (by omega) (by omega)).mp h29; omega
        refine gq_bipush (v := -3) dz_M_see_32 rfl ?_
        refine gw_iretP .int dz_M_see_34 rfl (by first | rfl | exact zb_nar _ | exact pk_nc _) ?_ ?_
        · rw [zx_seeR, if_neg (c := zx_seeok X t p = false) (by rw [ho]; exact Bool.noConfusion), if_neg hl]
        · rw [zx_seeX, if_neg (c := zx_seeok X t p = false) (by rw [ho]; exact Bool.noConfusion), if_neg hl]; exact ⟨hS, zg_M.rf⟩
    · skip
      refine gq_iload_n dz_M_see_15 rfl ?_
      refine gq_bipush (v := -4) dz_M_see_16 rfl ?_
      refine gq_icmp_eq (tgt := 23) dz_M_see_18 rfl (fun h18 => ?_) (fun h18 => ?_)
      · skip
        have ho : zx_seeok X t p = true := by rw [zx_seeok, h4, decide_eq_true h18]; rfl
        refine gq_aload_n dz_M_see_23 rfl ?_
        refine gq_getI zf_M_164 rfl rfl dz_M_see_24 ?_
        rw [hS.2.2.1.2.2.1.1]
        refine gq_bipush (v := 6) dz_M_see_27 rfl ?_
        refine gq_icmp_ne (tgt := 35) dz_M_see_29 rfl (fun h29 => ?_) (fun h29 => ?_)
        · skip
          have hl : (zx_s X).1 < 6 := by rcases Nat.lt_or_ge (zx_s X).1 6 with z | z; exact z; exact absurd (by rw [show (zx_s X).1 = 6 by omega]; rfl) h29
          refine gq_aload_n dz_M_see_35 rfl ?_
          refine gq_getR 43 zf_M_47 rfl rfl dz_M_see_36 ?_
          refine gq_iconst (v := 2) dz_M_see_39 rfl ?_
          refine gq_aload_n dz_M_see_40 rfl ?_
          refine gq_getI zf_M_164 rfl rfl dz_M_see_41 ?_
          rw [hS.2.2.1.2.2.1.1]
          refine gq_imul dz_M_see_44 ?_
          refine gq_iload_n dz_M_see_45 rfl ?_
          refine gw_iast (2 * (zx_s X).1) (zn_2k _) rfl (rfl) (Nat.le_of_ble_eq_true rfl) (by omega) dz_M_see_46 ?_
          refine gq_aload_n dz_M_see_47 rfl ?_
          refine gq_getR 43 zf_M_47 rfl rfl dz_M_see_48 ?_
          refine gq_iconst (v := 2) dz_M_see_51 rfl ?_
          refine gq_aload_n dz_M_see_52 rfl ?_
          refine gq_getI zf_M_164 rfl rfl dz_M_see_53 ?_
          rw [zq_upN (by omega), hS.2.2.1.2.2.1.1]
          refine gq_imul dz_M_see_56 ?_
          refine gq_iconst (v := 1) dz_M_see_57 rfl ?_
          refine gq_iadd dz_M_see_58 ?_
          refine gq_iload_n dz_M_see_59 rfl ?_
          refine gw_iast (2 * (zx_s X).1 + 1) (zn_2k1 _) rfl (rfl) (Nat.le_of_ble_eq_true rfl) (by omega) dz_M_see_60 ?_
          refine gq_aload_n dz_M_see_61 rfl ?_
          refine gq_dup dz_M_see_62 rfl ?_
          refine gq_getI zf_M_164 rfl rfl dz_M_see_63 ?_
          rw [zq_upN (by omega), zq_upN (by omega), hS.2.2.1.2.2.1.1]
          refine gq_iconst (v := 1) dz_M_see_66 rfl ?_
          refine gq_iadd dz_M_see_67 ?_
          rw [nI_1]
          refine gq_putI zv_M_164 rfl rfl dz_M_see_68 ?_
          refine gq_aload_n dz_M_see_71 rfl ?_
          refine gq_getI zf_M_164 rfl rfl dz_M_see_72 ?_
          rw [zq_upE]
          refine gw_iretP .int dz_M_see_75 rfl (by first | rfl | exact zb_nar _ | exact pk_nc _) ?_ ?_
          · rw [zx_seeR, if_neg (c := zx_seeok X t p = false) (by rw [ho]; exact Bool.noConfusion), if_pos hl]
          · rw [zx_seeX, if_neg (c := zx_seeok X t p = false) (by rw [ho]; exact Bool.noConfusion), if_pos hl]; exact ⟨hS.oth hW (τ := zu (zu (zu σ 43 0 (2 * (zx_s X).1) t) 43 0 (2 * (zx_s X).1 + 1) p) 30 0 28 (nI ((zx_s X).1 + 1))) (fun t k z => by rw [zu_N (by omega), zu_N (by omega), zu_N (by omega)]) (zx_T X) (zx_f X) ((zx_s X).1 + 1, upd (zx_s X).2.1 (zx_s X).1 t, upd (zx_s X).2.2 (zx_s X).1 p) ⟨⟨(zu_N (by omega)).trans ((zu_N (by omega)).trans ((zu_N (by omega)).trans (hS.2.2.1.1.1))), fun i hi => (zu_N (by omega)).trans ((zu_N (by omega)).trans ((zu_N (by omega)).trans (hS.2.2.1.1.2 i hi)))⟩, ⟨(zu_N (by omega)).trans ((zu_N (by omega)).trans ((zu_N (by omega)).trans (hS.2.2.1.2.1.1))), (zu_N (by omega)).trans ((zu_N (by omega)).trans ((zu_N (by omega)).trans (hS.2.2.1.2.1.2)))⟩, ⟨zu_E, fun i hi => (by show _ = upd (zx_s X).2.1 (zx_s X).1 t i ∧ _ = upd (zx_s X).2.2 (zx_s X).1 p i; have hi2 : i < (zx_s X).1 + 1 := hi; by_cases z : i = (zx_s X).1; rw [z, upd_at0, upd_at0]; exact ⟨(zu_N (by omega)).trans ((zu_N (by omega)).trans zu_E), (zu_N (by omega)).trans zu_E⟩; rw [upd_not z, upd_not z]; exact ⟨(zu_N (by omega)).trans ((zu_N (by omega)).trans ((zu_N (by omega)).trans ((hS.2.2.1.2.2.1.2 i (by omega)).1))), (zu_N (by omega)).trans ((zu_N (by omega)).trans ((zu_N (by omega)).trans ((hS.2.2.1.2.2.1.2 i (by omega)).2)))⟩)⟩, (zu_N (by omega)).trans ((zu_N (by omega)).trans ((zu_N (by omega)).trans (hS.2.2.1.2.2.2.1))), (zu_N (by omega)).trans ((zu_N (by omega)).trans ((zu_N (by omega)).trans (hS.2.2.1.2.2.2.2)))⟩, ((zg_M.rf.up (by omega)).up (by omega)).up (by omega)⟩
        · skip
          have hl : ¬ (zx_s X).1 < 6 := fun z => by have := (nI_eq (b := 6) (by omega) (by omega)).mp h29; omega
          refine gq_bipush (v := -3) dz_M_see_32 rfl ?_
          refine gw_iretP .int dz_M_see_34 rfl (by first | rfl | exact zb_nar _ | exact pk_nc _) ?_ ?_
          · rw [zx_seeR, if_neg (c := zx_seeok X t p = false) (by rw [ho]; exact Bool.noConfusion), if_neg hl]
          · rw [zx_seeX, if_neg (c := zx_seeok X t p = false) (by rw [ho]; exact Bool.noConfusion), if_neg hl]; exact ⟨hS, zg_M.rf⟩
      · skip
        have ho : zx_seeok X t p = false := by rw [zx_seeok, h4, h12, decide_eq_false h18]; rfl
        refine gq_iconst (v := -1) dz_M_see_21 rfl ?_
        refine gw_iretP .int dz_M_see_22 rfl (by first | rfl | exact zb_nar _ | exact pk_nc _) ?_ ?_
        · rw [zx_seeR, if_pos ho]
        · rw [zx_seeX, if_pos ho]; exact ⟨hS, zg_M.rf⟩
