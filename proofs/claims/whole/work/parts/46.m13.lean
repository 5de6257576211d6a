theorem zM_rep.she {σ τ : zq_T} {X : za_X} {B : za_H} (h : zM_rep σ X) (hW : zx_wf X) (hs : ∀ t k, ¬ (45 ≤ t ∧ t ≤ 47) → τ.1 t 0 k = σ.1 t 0 k) (hB : zM_h τ B) : zM_rep τ (X.1, B, X.2.2) :=
  ⟨⟨h.1.1.keep fun t k q => hs _ _ (by omega), h.1.2.keep h.1.1.2.1 fun k _ _ => hs _ _ (by omega)⟩, ⟨fun q => (h.2.1.1 q).keep ((zx_m5 h.1 hW).1 q) fun k _ _ => hs _ _ (by omega), fun q => (h.2.1.2 q).keep ((zx_m5 h.1 hW).2 q) fun k _ _ => hs _ _ (by omega)⟩, zM_o.keep (X := (X.1, B, X.2.2)) h.2.2.1 fun t k _ => hs _ _ (by omega), hB, h.2.2.2.2.keep fun t k _ _ => hs _ _ (by omega)⟩

set_option maxHeartbeats 4000000 in
theorem sp_M_sheet {σ : zq_T} {X : za_X} (hS : zM_rep σ X) (hW : zx_wf X) (k l n : Int32) : zq_Sp zm_M_sheet 1 [zq_O 30 0, zq_I k, zq_I l, zq_I n] σ (zq_rw (zq_I (zx_shR k l n)) (fun τ => zM_rep τ (zx_shX X k l n) ∧ zg_M σ τ)) := by
  refine zq_sp [some (zq_O 30 0), some (zq_I k), some (zq_I l), some (zq_I n), none] (by decide +kernel) rfl (Nat.le_of_ble_eq_true rfl) (fun ν => ?_)
  refine gq_iload_n dz_M_sheet_0 rfl ?_
  refine gq_i2l dz_M_sheet_1 ?_
  refine gq_lconst (v := 0) dz_M_sheet_2 rfl ?_
  refine gq_ldc2 zl_M_167 dz_M_sheet_3 ?_
  refine gq_cS (sp_M_in _ _ _) zw_M_in zl_M_65 dz_M_sheet_6 (by decide) rfl rfl (Nat.le_of_ble_eq_true rfl) ?_
  refine gw_ifb_eq (tgt := 30) dz_M_sheet_9 rfl (fun h9 => ?_) (fun h9 => ?_)
  · skip
    rw [zn_inc (n := 4) rfl (by omega)] at h9
    have ho : (zb_in k 4 && (zb_in l 3 && decide (n ≤ 40))) = false := by rw [h9]; rfl
    refine gq_iconst (v := -1) dz_M_sheet_30 rfl ?_
    refine gw_iretP .int dz_M_sheet_31 rfl (by first | rfl | exact zb_nar _ | exact pk_nc _) ?_ ?_
    · rw [zx_shR, ho]; rfl
    · rw [zx_shX, ho]; exact ⟨hS, zg_M.rf⟩
  · skip
    rw [zn_inc (n := 4) rfl (by omega)] at h9
    refine gq_iload_n dz_M_sheet_12 rfl ?_
    refine gq_i2l dz_M_sheet_13 ?_
    refine gq_lconst (v := 0) dz_M_sheet_14 rfl ?_
    refine gq_ldc2 zl_M_241 dz_M_sheet_15 ?_
    refine gq_cS (sp_M_in _ _ _) zw_M_in zl_M_65 dz_M_sheet_18 (by decide) rfl rfl (Nat.le_of_ble_eq_true rfl) ?_
    refine gw_ifb_eq (tgt := 30) dz_M_sheet_21 rfl (fun h21 => ?_) (fun h21 => ?_)
    · skip
      rw [zn_inc (n := 3) rfl (by omega)] at h21
      have ho : (zb_in k 4 && (zb_in l 3 && decide (n ≤ 40))) = false := by rw [h9, h21]; rfl
      refine gq_iconst (v := -1) dz_M_sheet_30 rfl ?_
      refine gw_iretP .int dz_M_sheet_31 rfl (by first | rfl | exact zb_nar _ | exact pk_nc _) ?_ ?_
      · rw [zx_shR, ho]; rfl
      · rw [zx_shX, ho]; exact ⟨hS, zg_M.rf⟩
    · skip
      rw [zn_inc (n := 3) rfl (by omega)] at h21
      refine gq_iload_n dz_M_sheet_24 rfl ?_
      refine gq_bipush (v := 40) dz_M_sheet_25 rfl ?_
      refine gq_icmp_le (tgt := 32) dz_M_sheet_27 rfl (fun h27 => ?_) (fun h27 => ?_)
      · skip
        have ho : (zb_in k 4 && (zb_in l 3 && decide (n ≤ 40))) = true := by rw [h9, h21, decide_eq_true h27]; rfl
        refine gq_iload_n dz_M_sheet_32 rfl ?_
        refine gq_if_ge (tgt := 39) dz_M_sheet_33 rfl (fun h33 => ?_) (fun h33 => ?_)
        · skip
          have h33 : ¬ n < 0 := Int32.not_lt.mpr h33
          obtain ⟨q, hq, rfl⟩ := (zb_in_iff (by omega)).mp h9
          refine gq_aload_n dz_M_sheet_39 rfl ?_
          refine gq_getR 45 zf_M_54 rfl rfl dz_M_sheet_40 ?_
          refine gq_iload_n dz_M_sheet_43 rfl ?_
          refine gq_iload_n dz_M_sheet_44 rfl ?_
          refine gw_iast (q) (rfl) rfl (rfl) (Nat.le_of_ble_eq_true rfl) (by omega) dz_M_sheet_45 ?_
          refine gq_aload_n dz_M_sheet_46 rfl ?_
          refine gq_getR 46 zf_M_57 rfl rfl dz_M_sheet_47 ?_
          refine gq_iload_n dz_M_sheet_50 rfl ?_
          refine gq_iload_n dz_M_sheet_51 rfl ?_
          refine gw_iast (q) (rfl) rfl (rfl) (Nat.le_of_ble_eq_true rfl) (by omega) dz_M_sheet_52 ?_
          refine gq_iconst (v := 0) dz_M_sheet_53 rfl ?_
          refine gw_istore 4 dz_M_sheet_54 (Nat.le_of_ble_eq_true rfl) rfl ?_
          dsimp only [List.set]
          have L56 : ∀ (kf : Nat) (i : Nat) (τ : zq_T) (hkf : 40 - i < kf) (hi : i ≤ 40) (hs : ∀ t j k, ¬ (45 ≤ t ∧ t ≤ 47) → τ.1 t j k = σ.1 t j k) (h2 : τ.2 = σ.2) (hl : ∀ a, a < 4 → τ.1 45 0 a = upd (zx_B X).1 q l a ∧ τ.1 46 0 a = upd (zx_B X).2.1 q n a) (hc : ∀ a, a < 4 → ∀ b, b < 40 → τ.1 47 0 (40 * a + b) = if a = q ∧ b < i then 0 else (zx_B X).2.2 a b), zq_G ν zm_M_sheet 1 (zq_rw (zq_I (zx_shR (nI q) l n)) (fun τ => zM_rep τ (zx_shX X (nI q) l n) ∧ zg_M σ τ)) 56 [some (zq_O 30 0), some (zq_I (nI q)), some (zq_I l), some (zq_I n), some (zq_I (nI i))] [] τ := by
            intro kf
            induction kf with
            | zero => intro i τ hkf hi hs h2 hl hc; exact absurd hkf (Nat.not_lt_zero _)
            | succ kf ih56 =>
              intro i τ hkf hi hs h2 hl hc
              refine gq_iload dz_M_sheet_56 rfl ?_
              refine gq_bipush (v := 40) dz_M_sheet_58 rfl ?_
              refine gq_icmp_ge (tgt := 82) dz_M_sheet_60 rfl (fun h60 => ?_) (fun h60 => ?_)
              · skip
                have hi40 : i = 40 := by have := (nI_leI (a := 40) (by omega) (by omega)).mp h60; omega
                refine gq_iconst (v := 1) dz_M_sheet_82 rfl ?_
                refine gw_iretP .int dz_M_sheet_83 rfl (by first | rfl | exact zb_nar _ | exact pk_nc _) ?_ ?_
                · rw [zx_shR, ho, if_pos rfl, if_neg h33]
                · rw [zx_shX, ho, if_pos rfl, if_neg h33, nI_clamp (by omega)]; exact ⟨hS.she hW (fun t k z => hs t 0 k z) ⟨hl, fun a ha b hb => by rw [hc a ha b hb]; show _ = if a = q then 0 else (zx_B X).2.2 a b; by_cases z : a = q; rw [if_pos ⟨z, by omega⟩, if_pos z]; rw [if_neg (fun y => z y.1), if_neg z]⟩, by rw [h2], fun t j k z => hs t j k (by omega)⟩
              · skip
                have hi40 : i < 40 := (nI_ltI (b := 40) (by omega) (by omega)).mp (Int32.not_le.mp h60)
                refine gq_aload_n dz_M_sheet_63 rfl ?_
                refine gq_getR 47 zf_M_60 rfl rfl dz_M_sheet_64 ?_
                refine gq_bipush (v := 40) dz_M_sheet_67 rfl ?_
                refine gq_iload_n dz_M_sheet_69 rfl ?_
                refine gq_imul dz_M_sheet_70 ?_
                rw [show (40 : Int32) = nI 40 from rfl, pk_mul]
                refine gq_iload dz_M_sheet_71 rfl ?_
                refine gq_iadd dz_M_sheet_73 ?_
                rw [nI_add]
                refine gq_iconst (v := 0) dz_M_sheet_74 rfl ?_
                refine gw_iast (40 * q + i) (rfl) rfl (rfl) (Nat.le_of_ble_eq_true rfl) (by omega) dz_M_sheet_75 ?_
                refine gw_iinc 4 (c := 1) dz_M_sheet_76 rfl rfl (Nat.le_of_ble_eq_true rfl) rfl ?_
                dsimp only [List.set]
                refine gq_goto (tgt := 56) dz_M_sheet_79 rfl ?_
                simp only [nI_1]
                exact zq_fewer _ (zq_sub_spec (by repeat (first | exact trivial | exact rfl | refine And.intro ?_ ?_))) (ih56 (i + 1) (zu τ 47 0 (40 * q + i) 0) (by omega) (by omega) (fun t j k z => (zu_N (by omega)).trans (hs t j k z)) h2 (fun a ha => ⟨(zu_N (by omega)).trans (hl a ha).1, (zu_N (by omega)).trans (hl a ha).2⟩) (fun a ha b hb => by by_cases z : a = q ∧ b = i; rw [z.1, z.2, if_pos ⟨rfl, by omega⟩]; exact zu_E; refine (zu_N (by omega)).trans ((hc a ha b hb).trans ?_); by_cases y : a = q ∧ b < i; rw [if_pos y, if_pos ⟨y.1, by omega⟩]; rw [if_neg y, if_neg (fun x => by omega)]))
          exact zq_fewer _ (zq_sub_spec (by repeat (first | exact trivial | exact rfl | refine And.intro ?_ ?_))) (L56 41 0 (zu (zu σ 45 0 q l) 46 0 q n) (by omega) (by omega) (fun t j k z => (zu_N (by omega)).trans (zu_N (by omega))) rfl (fun a ha => ⟨by unfold upd; by_cases z : a = q; rw [if_pos z, z]; exact (zu_N (by omega)).trans zu_E; rw [if_neg z]; exact (zu_N (by omega)).trans ((zu_N (by omega)).trans (hS.2.2.2.1.1 a ha).1), by unfold upd; by_cases z : a = q; rw [if_pos z, z]; exact zu_E; rw [if_neg z]; exact (zu_N (by omega)).trans ((zu_N (by omega)).trans (hS.2.2.2.1.1 a ha).2)⟩) (fun a ha b hb => by rw [if_neg (fun z => Nat.not_lt_zero b z.2)]; exact (zu_N (by omega)).trans ((zu_N (by omega)).trans (hS.2.2.2.1.2 a ha b hb))))
        · skip
          have h33 : n < 0 := Int32.not_le.mp h33
          refine gq_bipush (v := -14) dz_M_sheet_36 rfl ?_
          refine gw_iretP .int dz_M_sheet_38 rfl (by first | rfl | exact zb_nar _ | exact pk_nc _) ?_ ?_
          · rw [zx_shR, ho, if_pos rfl, if_pos h33]
          · rw [zx_shX, ho, if_pos rfl, if_pos h33]; exact ⟨hS, zg_M.rf⟩
      · skip
        have ho : (zb_in k 4 && (zb_in l 3 && decide (n ≤ 40))) = false := by rw [h9, h21, decide_eq_false h27]; rfl
        refine gq_iconst (v := -1) dz_M_sheet_30 rfl ?_
        refine gw_iretP .int dz_M_sheet_31 rfl (by first | rfl | exact zb_nar _ | exact pk_nc _) ?_ ?_
        · rw [zx_shR, ho]; rfl
        · rw [zx_shX, ho]; exact ⟨hS, zg_M.rf⟩
