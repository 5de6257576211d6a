theorem zq_upE {f : Nat → Fin 5 → Nat → Int32} {t : Nat} {j : Fin 5} {k : Nat} {x : Int32} {y : (Nat → Int64) × Fin 5 × Fin 5} : ((zq_up f t j k x, y) : zq_T).1 t j k = x := zq_up_at _ _ _ _ _
theorem zx_b2 (x : Int32) : x.toInt8.toInt32.toInt8.toInt32 = x.toInt8.toInt32 := by have := pk_vb x; rwa [vp_nar_byte] at this
theorem zd_same.up2 {d : Fin 5} {σ : zq_T} : zd_same d σ σ := zd_same.rf
/-- only numbers of the class's own object, of the tape or of what is seen have changed: the duchies and the sheets stay -/
def zo_same (σ τ : zq_T) : Prop := τ.2 = σ.2 ∧ ∀ (t : Nat) (j : Fin 5) (k : Nat), ¬ (t < 3 ∨ t = 22 ∨ t = 23) → τ.1 t j k = σ.1 t j k
theorem zo_same.rf {σ : zq_T} : zo_same σ σ := ⟨rfl, fun _ _ _ _ => rfl⟩
theorem zo_same.up {σ τ : zq_T} (h : zo_same σ τ) {t k : Nat} {j : Fin 5} {v : Int32} (h1 : t < 3 ∨ t = 22 ∨ t = 23) : zo_same σ (zq_up τ.1 t j k v, τ.2) :=
  ⟨h.1, fun t' j' k' q => by
    show zq_up τ.1 t j k v t' j' k' = σ.1 t' j' k'
    rw [← h.2 t' j' k' q]
    exact if_neg fun z => q (by rw [z.1]; exact h1)⟩
theorem zo_same.S {σ τ : zq_T} (h : zo_same σ τ) : zg_S σ τ := ⟨by rw [h.1], fun t j k q => h.2 t j k (fun z => by omega)⟩
theorem zs_rep.other {σ τ : zq_T} {X : za_X} (h : zs_rep σ X) (hs : zo_same σ τ) (T : Nat × (Nat → Int32)) (f : Int32 × Int32) (s : Nat × (Nat → Int32) × (Nat → Int32))
    (h4 : τ.1 1 0 1 = nI T.1 ∧ ∀ i, i < T.1 → τ.1 2 0 i = T.2 i) (h5 : τ.1 0 0 11 = f.1 ∧ τ.1 0 0 12 = f.2) (h6 : τ.1 0 0 13 = nI s.1 ∧ ∀ i, i < s.1 → τ.1 22 0 i = s.2.1 i ∧ τ.1 23 0 i = s.2.2 i) (h7 : τ.1 0 0 14 = σ.1 0 0 14) : zs_rep τ (X.1, X.2.1, T, f, s, X.2.2.2.2.2) := by
  obtain ⟨a1, a2, a3, a4, a5, a6, a7, a8, a9⟩ := h
  have e2 : τ.2.2 = σ.2.2 := by rw [hs.1]
  have e : ∀ (t : Nat) (j : Fin 5) (k : Nat), 3 ≤ t → t ≤ 21 → τ.1 t j k = σ.1 t j k := fun t j k q q2 => hs.2 t j k (fun z => by omega)
  exact ⟨by rw [e2]; exact a1, by rw [e2]; exact a2.keep (fun t k p q => e t _ k (by omega) (by omega)), a3.keep (fun t j k p q => e t j k (by omega) (by omega)), h4, h5, h6, by rw [h7]; exact a7, fun q => (a8 q).keep (fun t k p q => e t _ k (by omega) (by omega)), fun q => (a9 q).keep (fun t k p q => e t _ k (by omega) (by omega))⟩
theorem zs_rep.sheets {σ τ : zq_T} {X : za_X} {B : za_H} (h : zs_rep σ X) (hs : zh_same σ τ) (hB : zh_rep τ B) : zs_rep τ (X.1, B, X.2.2) := by
  obtain ⟨a1, a2, a3, a4, a5, a6, a7, a8, a9⟩ := h
  have e2 : τ.2.2 = σ.2.2 := by rw [hs.1]
  have e : ∀ (t : Nat) (j : Fin 5) (k : Nat), t < 6 ∨ 8 < t → τ.1 t j k = σ.1 t j k := fun t j k q => hs.2 t j k (fun z => by omega)
  exact ⟨by rw [e2]; exact a1, by rw [e2]; exact a2.keep (fun t k p q => e t _ k (by omega)), hB, ⟨by rw [e 1 0 1 (by omega)]; exact a4.1, fun i hi => by rw [e 2 0 i (by omega)]; exact a4.2 i hi⟩, ⟨by rw [e 0 0 11 (by omega)]; exact a5.1, by rw [e 0 0 12 (by omega)]; exact a5.2⟩, ⟨by rw [e 0 0 13 (by omega)]; exact a6.1, fun i hi => by rw [e 22 0 i (by omega), e 23 0 i (by omega)]; exact a6.2 i hi⟩, by rw [e 0 0 14 (by omega)]; exact a7, fun q => (a8 q).keep (fun t k p q => e t _ k (by omega)), fun q => (a9 q).keep (fun t k p q => e t _ k (by omega))⟩
def zx_s6 (s : Nat × (Nat → Int32) × (Nat → Int32)) (t p : Int32) : Nat × (Nat → Int32) × (Nat → Int32) := (s.1 + 1, upd s.2.1 s.1 t, upd s.2.2 s.1 p)
def zx_set (X : za_X) (s : Nat × (Nat → Int32) × (Nat → Int32)) : za_X := (X.1, X.2.1, X.2.2.1, X.2.2.2.1, s, X.2.2.2.2.2)
def zx_seeok (X : za_X) (t p : Int32) : Bool := zb_in t 4 && (decide (p = -4) || zb_in p (za_n X.1))
def zx_seeR (X : za_X) (t p : Int32) : Int32 := if zx_seeok X t p = false then -1 else if (zx_s X).1 < 6 then nI ((zx_s X).1 + 1) else -3
def zx_seeX (X : za_X) (t p : Int32) : za_X := if zx_seeok X t p = false then X else if (zx_s X).1 < 6 then zx_set X (zx_s6 (zx_s X) t p) else X
def zx_forR (X : za_X) (n : Int32) : Int32 := if zx_3 n (nI (zx_s X).1) then nI (zx_s X).1 else -1
def zx_forX (X : za_X) (n : Int32) : za_X := if zx_3 n (nI (zx_s X).1) then zx_set X (n.toNatClampNeg, (zx_s X).2) else X
def zx_count (X : za_X) (w : Int32) : Int32 := if w = 0 then nI (zx_s X).1 else if w = 1 then zs_bc (nI (zx_kb X)) else if w = 2 then nI (zx_T X).1 else if w = 3 then (if (zx_B X).1 0 = -4 then -4 else (zx_B X).2.1 0) else if w = 4 then nI (zf_ct (fun t => decide (¬ zs_own X.1 (nI t) (za_g X.1) 31 = -4)) 4) else if w = 5 then zf_sum (fun p => zs_bc (za_fa X.1 p)) (za_n X.1) else if w = 6 then zf_sum (za_tr X.1) (za_n X.1) else -1
def zx_fedR (X : za_X) (c : Int32) : Int32 := if zx_3 c 127 = false then -1 else if (zx_T X).1 < 160 then nI ((zx_T X).1 + 1) else -3
def zx_tap (X : za_X) (T : Nat × (Nat → Int32)) : za_X := (X.1, X.2.1, T, X.2.2.2)
def zx_fedX (X : za_X) (c : Int32) : za_X := if zx_3 c 127 = false then X else if (zx_T X).1 < 160 then zx_tap X ((zx_T X).1 + 1, upd (zx_T X).2 (zx_T X).1 c) else X
def zx_endR (X : za_X) (n : Int32) : Int32 := if zx_3 n (nI (zx_T X).1) then nI (zx_T X).1 else -1
def zx_endX (X : za_X) (n : Int32) : za_X := if zx_3 n (nI (zx_T X).1) then zx_tap X (n.toNatClampNeg, (zx_T X).2) else X
theorem zx_3ex {x : Int32} {n : Nat} (h : ¬ x < 0) (h2 : x ≤ nI n) (hn : n < 2 ^ 31) : ∃ i, i ≤ n ∧ x = nI i := by
  obtain ⟨j, hj, rfl⟩ := nI_of h
  exact ⟨j, (nI_leI hj hn).mp h2, rfl⟩
theorem zx_byte {x : Int32} (h : ¬ x < 0) (h2 : x ≤ 127) : x.toInt8.toInt32 = x := by
  obtain ⟨i, hi, rfl⟩ := zx_3ex (n := 127) h h2 (by omega)
  have : ∀ i : Fin 128, (nI i.val).toInt8.toInt32 = nI i.val := by decide +kernel
  exact this ⟨i, by omega⟩

theorem zx_see1 {σ : zq_T} {X : za_X} (hS : zs_rep σ X) (t p : Int32) : (fun τ => zs_rep τ (zx_set X (zx_s6 (zx_s X) t p)) ∧ zg_S σ τ) (zq_up (zq_up (zq_up σ.1 22 0 (zx_s X).1 t) 23 0 (zx_s X).1 p) 0 0 13 (nI ((zx_s X).1 + 1)), σ.2) := by
  have hs : zo_same σ (zq_up (zq_up (zq_up σ.1 22 0 (zx_s X).1 t) 23 0 (zx_s X).1 p) 0 0 13 (nI ((zx_s X).1 + 1)), σ.2) := ((zo_same.rf.up (t := 22) (j := 0) (k := (zx_s X).1) (v := t) (by omega)).up (t := 23) (j := 0) (k := (zx_s X).1) (v := p) (by omega)).up (t := 0) (j := 0) (k := 13) (v := nI ((zx_s X).1 + 1)) (by omega)
  refine ⟨hS.other hs (zx_T X) (zx_f X) (zx_s6 (zx_s X) t p) hS.2.2.2.1 hS.2.2.2.2.1 ⟨zq_upE, fun i hi => ?_⟩ rfl, hs.S⟩
  have hi : i < (zx_s X).1 + 1 := hi
  simp only [zq_up, zx_s6, upd]
  by_cases e : i = (zx_s X).1
  · simp [e]
  · have h := hS.2.2.2.2.2.1.2 i (by omega)
    simp [e, h]

set_option maxHeartbeats 4000000 in
theorem sp_S_see {σ : zq_T} {X : za_X} (hS : zs_rep σ X) (hW : zx_wf X) (t p : Int32) : zq_Sp zm_S_see 1 [zq_O 0 0, zq_I t, zq_I p] σ (zq_rw (zq_I (zx_seeR X t p)) (fun τ => zs_rep τ (zx_seeX X t p) ∧ zg_S σ τ)) := by
  have hA : zc_rep σ σ.2.2.1 X.1 := hS.2.1
  have hw : za_wf X.1 := hW.1
  have hn6 : za_n X.1 ≤ 6 := zc_n6 hA
  have hm5 : za_m X.1 ≤ 5 := zc_m5 hA
  have hs6 : (zx_s X).1 ≤ 6 := hW.2.2.2.1.1
  have hT6 : (zx_T X).1 ≤ 160 := hW.2.2.1.1
  refine zq_sp [some (zq_O 0 0), some (zq_I t), some (zq_I p)] (by decide +kernel) rfl (Nat.le_of_ble_eq_true rfl) (fun ν => ?_)
  refine gq_iload_n dz_S_see_0 rfl ?_
  refine gq_cS (sp_S_isThing _) zw_S_isThing zl_S_147 dz_S_see_1 (by decide) rfl rfl (Nat.le_of_ble_eq_true rfl) ?_
  refine gw_ifb_eq (tgt := 24) dz_S_see_4 rfl (fun h4 => ?_) (fun h4 => ?_)
  · skip
    have hok : zx_seeok X t p = false := by rw [zx_seeok, h4]; rfl
    refine gq_iconst (v := -1) dz_S_see_24 rfl ?_
    refine gw_iretP .int dz_S_see_25 rfl (by first | rfl | exact zb_nar _) ?_ ?_
    · rw [zx_seeR, if_pos hok]
    · rw [zx_seeX, if_pos hok]; exact ⟨hS, zg_S.rf⟩
  · skip
    refine gq_iload_n dz_S_see_7 rfl ?_
    refine gq_bipush (v := -4) dz_S_see_8 rfl ?_
    refine gq_icmp_eq (tgt := 26) dz_S_see_10 rfl (fun h10 => ?_) (fun h10 => ?_)
    · skip
      have hok : zx_seeok X t p = true := by rw [zx_seeok, h4, decide_eq_true h10]; rfl
      refine gq_aload_n dz_S_see_26 rfl ?_
      refine gq_getI zf_S_80 rfl rfl dz_S_see_27 ?_
      rw [hS.2.2.2.2.2.1.1]
      refine gq_bipush (v := 6) dz_S_see_30 rfl ?_
      refine gq_icmp_lt (tgt := 38) dz_S_see_32 rfl (fun h32 => ?_) (fun h32 => ?_)
      · skip
        have hlt : (zx_s X).1 < 6 := (nI_ltI (b := 6) (by omega) (by omega)).mp h32
        refine gq_aload_n dz_S_see_38 rfl ?_
        refine gq_getR 22 zf_S_47 rfl rfl dz_S_see_39 ?_
        refine gq_aload_n dz_S_see_42 rfl ?_
        refine gq_getI zf_S_80 rfl rfl dz_S_see_43 ?_
        rw [hS.2.2.2.2.2.1.1]
        refine gq_iload_n dz_S_see_46 rfl ?_
        refine gw_iast ((zx_s X).1) (rfl) rfl (rfl) (Nat.le_of_ble_eq_true rfl) (by omega) dz_S_see_47 ?_
        refine gq_aload_n dz_S_see_48 rfl ?_
        refine gq_getR 23 zf_S_50 rfl rfl dz_S_see_49 ?_
        refine gq_aload_n dz_S_see_52 rfl ?_
        refine gq_getI zf_S_80 rfl rfl dz_S_see_53 ?_
        rw [show ((zq_up σ.1 22 0 (zx_s X).1 t, σ.2) : zq_T).1 0 0 13 = nI (zx_s X).1 from hS.2.2.2.2.2.1.1]
        refine gq_iload_n dz_S_see_56 rfl ?_
        refine gw_iast ((zx_s X).1) (rfl) rfl (rfl) (Nat.le_of_ble_eq_true rfl) (by omega) dz_S_see_57 ?_
        refine gq_aload_n dz_S_see_58 rfl ?_
        refine gq_dup dz_S_see_59 rfl ?_
        refine gq_getI zf_S_80 rfl rfl dz_S_see_60 ?_
        rw [show (zq_up (zq_up σ.1 22 0 (zx_s X).1 t, σ.2).1 23 0 (zx_s X).1 p, (zq_up σ.1 22 0 (zx_s X).1 t, σ.2).2).1 0 0 13 = nI (zx_s X).1 from hS.2.2.2.2.2.1.1]
        refine gq_iconst (v := 1) dz_S_see_63 rfl ?_
        refine gq_iadd dz_S_see_64 ?_
        rw [nI_1]
        refine gq_putI zv_S_80 rfl rfl dz_S_see_65 ?_
        refine gq_aload_n dz_S_see_68 rfl ?_
        refine gq_getI zf_S_80 rfl rfl dz_S_see_69 ?_
        refine gw_iretP .int dz_S_see_72 rfl (by first | rfl | exact zb_nar _) ?_ ?_
        · rw [zx_seeR, hok, if_neg (by decide), if_pos hlt]; exact zq_upE
        · rw [zx_seeX, hok, if_neg (by decide), if_pos hlt]; exact zx_see1 hS t p
      · skip
        have hlt : ¬ (zx_s X).1 < 6 := fun z => h32 (nI_lt (b := 6) z (by omega))
        refine gq_bipush (v := -3) dz_S_see_35 rfl ?_
        refine gw_iretP .int dz_S_see_37 rfl (by first | rfl | exact zb_nar _) ?_ ?_
        · rw [zx_seeR, hok, if_neg (by decide), if_neg hlt]
        · rw [zx_seeX, hok, if_neg (by decide), if_neg hlt]; exact ⟨hS, zg_S.rf⟩
    · skip
      refine gq_aload_n dz_S_see_13 rfl ?_
      refine gq_getU zf_S_53 rfl rfl dz_S_see_14 ?_
      refine gq_iload_n dz_S_see_17 rfl ?_
      refine gq_cV (sp_D_isOne hA _) zw_D_isOne zl_S_95 dz_S_see_18 rfl rfl rfl (by decide) rfl rfl (Nat.le_of_ble_eq_true rfl) ?_
      refine gw_ifb_ne (tgt := 26) dz_S_see_21 rfl (fun h21 => ?_) (fun h21 => ?_)
      · skip
        have hok : zx_seeok X t p = true := by rw [zx_seeok, h4, h21, Bool.or_true]; rfl
        refine gq_aload_n dz_S_see_26 rfl ?_
        refine gq_getI zf_S_80 rfl rfl dz_S_see_27 ?_
        rw [hS.2.2.2.2.2.1.1]
        refine gq_bipush (v := 6) dz_S_see_30 rfl ?_
        refine gq_icmp_lt (tgt := 38) dz_S_see_32 rfl (fun h32 => ?_) (fun h32 => ?_)
        · skip
          have hlt : (zx_s X).1 < 6 := (nI_ltI (b := 6) (by omega) (by omega)).mp h32
          refine gq_aload_n dz_S_see_38 rfl ?_
          refine gq_getR 22 zf_S_47 rfl rfl dz_S_see_39 ?_
          refine gq_aload_n dz_S_see_42 rfl ?_
          refine gq_getI zf_S_80 rfl rfl dz_S_see_43 ?_
          rw [hS.2.2.2.2.2.1.1]
          refine gq_iload_n dz_S_see_46 rfl ?_
          refine gw_iast ((zx_s X).1) (rfl) rfl (rfl) (Nat.le_of_ble_eq_true rfl) (by omega) dz_S_see_47 ?_
          refine gq_aload_n dz_S_see_48 rfl ?_
          refine gq_getR 23 zf_S_50 rfl rfl dz_S_see_49 ?_
          refine gq_aload_n dz_S_see_52 rfl ?_
          refine gq_getI zf_S_80 rfl rfl dz_S_see_53 ?_
          rw [show ((zq_up σ.1 22 0 (zx_s X).1 t, σ.2) : zq_T).1 0 0 13 = nI (zx_s X).1 from hS.2.2.2.2.2.1.1]
          refine gq_iload_n dz_S_see_56 rfl ?_
          refine gw_iast ((zx_s X).1) (rfl) rfl (rfl) (Nat.le_of_ble_eq_true rfl) (by omega) dz_S_see_57 ?_
          refine gq_aload_n dz_S_see_58 rfl ?_
          refine gq_dup dz_S_see_59 rfl ?_
          refine gq_getI zf_S_80 rfl rfl dz_S_see_60 ?_
          rw [show (zq_up (zq_up σ.1 22 0 (zx_s X).1 t, σ.2).1 23 0 (zx_s X).1 p, (zq_up σ.1 22 0 (zx_s X).1 t, σ.2).2).1 0 0 13 = nI (zx_s X).1 from hS.2.2.2.2.2.1.1]
          refine gq_iconst (v := 1) dz_S_see_63 rfl ?_
          refine gq_iadd dz_S_see_64 ?_
          rw [nI_1]
          refine gq_putI zv_S_80 rfl rfl dz_S_see_65 ?_
          refine gq_aload_n dz_S_see_68 rfl ?_
          refine gq_getI zf_S_80 rfl rfl dz_S_see_69 ?_
          refine gw_iretP .int dz_S_see_72 rfl (by first | rfl | exact zb_nar _) ?_ ?_
          · rw [zx_seeR, hok, if_neg (by decide), if_pos hlt]; exact zq_upE
          · rw [zx_seeX, hok, if_neg (by decide), if_pos hlt]; exact zx_see1 hS t p
        · skip
          have hlt : ¬ (zx_s X).1 < 6 := fun z => h32 (nI_lt (b := 6) z (by omega))
          refine gq_bipush (v := -3) dz_S_see_35 rfl ?_
          refine gw_iretP .int dz_S_see_37 rfl (by first | rfl | exact zb_nar _) ?_ ?_
          · rw [zx_seeR, hok, if_neg (by decide), if_neg hlt]
          · rw [zx_seeX, hok, if_neg (by decide), if_neg hlt]; exact ⟨hS, zg_S.rf⟩
      · skip
        have hok : zx_seeok X t p = false := by rw [zx_seeok, h4, h21, decide_eq_false h10]; rfl
        refine gq_iconst (v := -1) dz_S_see_24 rfl ?_
        refine gw_iretP .int dz_S_see_25 rfl (by first | rfl | exact zb_nar _) ?_ ?_
        · rw [zx_seeR, if_pos hok]
        · rw [zx_seeX, if_pos hok]; exact ⟨hS, zg_S.rf⟩
set_option maxHeartbeats 4000000 in
theorem sp_S_forget {σ : zq_T} {X : za_X} (hS : zs_rep σ X) (hW : zx_wf X) (n : Int32) : zq_Sp zm_S_forget 0 [zq_O 0 0, zq_I n] σ (zq_rw (zq_I (zx_forR X n)) (fun τ => zs_rep τ (zx_forX X n) ∧ zg_S σ τ)) := by
  have hA : zc_rep σ σ.2.2.1 X.1 := hS.2.1
  have hw : za_wf X.1 := hW.1
  have hn6 : za_n X.1 ≤ 6 := zc_n6 hA
  have hm5 : za_m X.1 ≤ 5 := zc_m5 hA
  have hs6 : (zx_s X).1 ≤ 6 := hW.2.2.2.1.1
  have hT6 : (zx_T X).1 ≤ 160 := hW.2.2.1.1
  refine zq_sp [some (zq_O 0 0), some (zq_I n), none] (by decide +kernel) rfl (Nat.le_of_ble_eq_true rfl) (fun ν => ?_)
  refine gq_iload_n dz_S_forget_0 rfl ?_
  refine gq_if_lt (tgt := 12) dz_S_forget_1 rfl (fun h1 => ?_) (fun h1 => ?_)
  · skip
    refine gq_iconst (v := -1) dz_S_forget_12 rfl ?_
    refine gw_iretP .int dz_S_forget_13 rfl (by first | rfl | exact zb_nar _) ?_ ?_
    · rw [zx_forR, zx_3lt h1]; rfl
    · rw [zx_forX, zx_3lt h1]; exact ⟨hS, zg_S.rf⟩
  · skip
    refine gq_iload_n dz_S_forget_4 rfl ?_
    refine gq_aload_n dz_S_forget_5 rfl ?_
    refine gq_getI zf_S_80 rfl rfl dz_S_forget_6 ?_
    rw [hS.2.2.2.2.2.1.1]
    refine gq_icmp_le (tgt := 14) dz_S_forget_9 rfl (fun h9 => ?_) (fun h9 => ?_)
    · skip
      refine gq_aload_n dz_S_forget_14 rfl ?_
      refine gq_getI zf_S_80 rfl rfl dz_S_forget_15 ?_
      rw [hS.2.2.2.2.2.1.1]
      refine gw_istore_n 2 dz_S_forget_18 rfl (Nat.le_of_ble_eq_true rfl) rfl ?_
      dsimp only [List.set]
      refine gq_aload_n dz_S_forget_19 rfl ?_
      refine gq_iload_n dz_S_forget_20 rfl ?_
      refine gq_putI zv_S_80 rfl rfl dz_S_forget_21 ?_
      refine gq_iload_n dz_S_forget_24 rfl ?_
      refine gw_iretP .int dz_S_forget_25 rfl (by first | rfl | exact zb_nar _) ?_ ?_
      · rw [zx_forR, zx_3ye h1 h9]; rfl
      · obtain ⟨i, hi, rfl⟩ := zx_3ex h1 h9 (by omega); rw [zx_forX, zx_3ye h1 h9, if_pos rfl, nI_clamp (by omega)]; exact ⟨hS.other (zo_same.rf.up (by omega)) (zx_T X) (zx_f X) (i, (zx_s X).2) hS.2.2.2.1 hS.2.2.2.2.1 ⟨zq_upE, fun q hq => hS.2.2.2.2.2.1.2 q (by have : q < i := hq; omega)⟩ rfl, (zo_same.rf.up (by omega)).S⟩
    · skip
      refine gq_iconst (v := -1) dz_S_forget_12 rfl ?_
      refine gw_iretP .int dz_S_forget_13 rfl (by first | rfl | exact zb_nar _) ?_ ?_
      · rw [zx_forR, zx_3gt h9]; rfl
      · rw [zx_forX, zx_3gt h9]; exact ⟨hS, zg_S.rf⟩
set_option maxHeartbeats 4000000 in
theorem sp_S_count {σ : zq_T} {X : za_X} (hS : zs_rep σ X) (hW : zx_wf X) (w : Int32) : zq_Sp zm_S_count 7 [zq_O 0 0, zq_I w] σ (zq_rv (zq_I (zx_count X w)) σ) := by
  have hA : zc_rep σ σ.2.2.1 X.1 := hS.2.1
  have hw : za_wf X.1 := hW.1
  have hn6 : za_n X.1 ≤ 6 := zc_n6 hA
  have hm5 : za_m X.1 ≤ 5 := zc_m5 hA
  have hs6 : (zx_s X).1 ≤ 6 := hW.2.2.2.1.1
  have hT6 : (zx_T X).1 ≤ 160 := hW.2.2.1.1
  refine zq_sp [some (zq_O 0 0), some (zq_I w)] (by decide +kernel) rfl (Nat.le_of_ble_eq_true rfl) (fun ν => ?_)
  refine gq_iload_n dz_S_count_0 rfl ?_
  by_cases hs1_0 : w = 0
  · rw [hs1_0]
    refine gq_tin (off := 43) (tgt := 44) dz_S_count_1 (by decide) (by decide) rfl rfl ?_
    refine gq_aload_n dz_S_count_44 rfl ?_
    refine gq_getI zf_S_80 rfl rfl dz_S_count_45 ?_
    rw [hS.2.2.2.2.2.1.1]
    refine gw_iret .int dz_S_count_48 rfl (by first | rfl | exact zb_nar _) ?_ ?_
    · rfl
    · rfl
  · skip
    by_cases hs1_1 : w = 1
    · rw [hs1_1]
      refine gq_tin (off := 48) (tgt := 49) dz_S_count_1 (by decide) (by decide) rfl rfl ?_
      refine gq_aload_n dz_S_count_49 rfl ?_
      refine gq_getI zf_S_83 rfl rfl dz_S_count_50 ?_
      rw [hS.2.2.2.2.2.2.1]
      refine gq_cS (sp_JI_bitCount _) zw_JI_bitCount zl_S_198 dz_S_count_53 (by decide) rfl rfl (Nat.le_of_ble_eq_true rfl) ?_
      refine gw_iret .int dz_S_count_56 rfl (by first | rfl | exact zb_nar _) ?_ ?_
      · rfl
      · rfl
    · skip
      by_cases hs1_2 : w = 2
      · rw [hs1_2]
        refine gq_tin (off := 56) (tgt := 57) dz_S_count_1 (by decide) (by decide) rfl rfl ?_
        refine gq_aload_n dz_S_count_57 rfl ?_
        refine gq_getR 1 zf_S_12 rfl rfl dz_S_count_58 ?_
        refine gq_getI zf_S_63 rfl rfl dz_S_count_61 ?_
        rw [hS.2.2.2.1.1]
        refine gw_iret .int dz_S_count_64 rfl (by first | rfl | exact zb_nar _) ?_ ?_
        · rfl
        · rfl
      · skip
        by_cases hs1_3 : w = 3
        · rw [hs1_3]
          refine gq_tin (off := 64) (tgt := 65) dz_S_count_1 (by decide) (by decide) rfl rfl ?_
          refine gq_aload_n dz_S_count_65 rfl ?_
          refine gq_getR 4 zf_S_26 rfl rfl dz_S_count_66 ?_
          refine gq_iconst (v := 0) dz_S_count_69 rfl ?_
          refine gq_cV (sp_H_sizeOf (k := 0) hS.2.2.1 (by omega)) zw_H_sizeOf zl_S_267 dz_S_count_70 rfl rfl rfl (by decide) rfl rfl (Nat.le_of_ble_eq_true rfl) ?_
          refine gw_iret .int dz_S_count_73 rfl (by first | rfl | exact zb_nar _) ?_ ?_
          · rfl
          · rfl
        · skip
          by_cases hs1_4 : w = 4
          · rw [hs1_4]
            refine gq_tin (off := 73) (tgt := 74) dz_S_count_1 (by decide) (by decide) rfl rfl ?_
            refine gq_aload_n dz_S_count_74 rfl ?_
            refine gq_getU zf_S_53 rfl rfl dz_S_count_75 ?_
            refine gq_cV (sp_D_ownedThings hA hw) zw_D_ownedThings zl_S_270 dz_S_count_78 rfl rfl rfl (by decide) rfl rfl (Nat.le_of_ble_eq_true rfl) ?_
            refine gw_iret .int dz_S_count_81 rfl (by first | rfl | exact zb_nar _) ?_ ?_
            · rfl
            · rfl
          · skip
            by_cases hs1_5 : w = 5
            · rw [hs1_5]
              refine gq_tin (off := 81) (tgt := 82) dz_S_count_1 (by decide) (by decide) rfl rfl ?_
              refine gq_aload_n dz_S_count_82 rfl ?_
              refine gq_getU zf_S_53 rfl rfl dz_S_count_83 ?_
              refine gq_cV (sp_D_knownFacts hA) zw_D_knownFacts zl_S_273 dz_S_count_86 rfl rfl rfl (by decide) rfl rfl (Nat.le_of_ble_eq_true rfl) ?_
              refine gw_iret .int dz_S_count_89 rfl (by first | rfl | exact zb_nar _) ?_ ?_
              · rfl
              · rfl
            · skip
              by_cases hs1_6 : w = 6
              · rw [hs1_6]
                refine gq_tin (off := 89) (tgt := 90) dz_S_count_1 (by decide) (by decide) rfl rfl ?_
                refine gq_aload_n dz_S_count_90 rfl ?_
                refine gq_getU zf_S_53 rfl rfl dz_S_count_91 ?_
                refine gq_cV (sp_D_allTries hA) zw_D_allTries zl_S_276 dz_S_count_94 rfl rfl rfl (by decide) rfl rfl (Nat.le_of_ble_eq_true rfl) ?_
                refine gw_iret .int dz_S_count_97 rfl (by first | rfl | exact zb_nar _) ?_ ?_
                · rfl
                · rfl
              · skip
                refine gq_tout (tgt := 98) dz_S_count_1 (by have := zq_ne hs1_0; have h_0 := zq_ne hs1_0; have h_1 := zq_ne hs1_1; have h_2 := zq_ne hs1_2; have h_3 := zq_ne hs1_3; have h_4 := zq_ne hs1_4; have h_5 := zq_ne hs1_5; have h_6 := zq_ne hs1_6; simp at *; omega) rfl ?_
                refine gq_iconst (v := -1) dz_S_count_98 rfl ?_
                refine gw_iret .int dz_S_count_99 rfl (by first | rfl | exact zb_nar _) ?_ ?_
                · simp [zx_count, hs1_0, hs1_1, hs1_2, hs1_3, hs1_4, hs1_5, hs1_6]
                · rfl
theorem zx_fed1 {σ : zq_T} {X : za_X} (hS : zs_rep σ X) (c : Int32) : (fun τ => zs_rep τ (zx_tap X ((zx_T X).1 + 1, upd (zx_T X).2 (zx_T X).1 c)) ∧ zg_S σ τ) (zq_up (zq_up σ.1 2 0 (zx_T X).1 c) 1 0 1 (nI ((zx_T X).1 + 1)), σ.2) := by
  have hs : zo_same σ (zq_up (zq_up σ.1 2 0 (zx_T X).1 c) 1 0 1 (nI ((zx_T X).1 + 1)), σ.2) := (zo_same.rf.up (t := 2) (j := 0) (k := (zx_T X).1) (v := c) (by omega)).up (t := 1) (j := 0) (k := 1) (v := nI ((zx_T X).1 + 1)) (by omega)
  refine ⟨hS.other hs ((zx_T X).1 + 1, upd (zx_T X).2 (zx_T X).1 c) (zx_f X) (zx_s X) ⟨zq_upE, fun i hi => ?_⟩ hS.2.2.2.2.1 hS.2.2.2.2.2.1 rfl, hs.S⟩
  have hi : i < (zx_T X).1 + 1 := hi
  simp only [zq_up, upd]
  by_cases e : i = (zx_T X).1
  · simp [e]
  · have h := hS.2.2.2.1.2 i (by omega)
    simp [e, h]
set_option maxHeartbeats 4000000 in
theorem sp_P_append {σ : zq_T} {n : Nat} (hn : σ.1 1 0 1 = nI n) (hn2 : n ≤ 160) (c : Int32) : zq_Sp zm_P_append 0 [zq_O 1 0, zq_I c] σ (zq_rv (zq_I (zb_v (decide (n < 160)))) (if n < 160 then (zq_up (zq_up σ.1 2 0 n c.toInt8.toInt32) 1 0 1 (nI (n + 1)), σ.2) else σ)) := by
  refine zq_sp [some (zq_O 1 0), some (zq_I c)] (by decide +kernel) rfl (Nat.le_of_ble_eq_true rfl) (fun ν => ?_)
  refine gq_aload_n dz_P_append_0 rfl ?_
  refine gq_getI zf_P_13 rfl rfl dz_P_append_1 ?_
  rw [hn]
  refine gq_if_lt (tgt := 17) dz_P_append_4 rfl (fun h4 => ?_) (fun h4 => ?_)
  · skip
    exact absurd h4 (nI_pos (by omega))
  · skip
    refine gq_aload_n dz_P_append_7 rfl ?_
    refine gq_getI zf_P_13 rfl rfl dz_P_append_8 ?_
    rw [hn]
    refine gq_sipush (v := 160) dz_P_append_11 rfl ?_
    refine gq_icmp_lt (tgt := 19) dz_P_append_14 rfl (fun h14 => ?_) (fun h14 => ?_)
    · skip
      have hlt : n < 160 := (nI_ltI (b := 160) (by omega) (by omega)).mp h14
      refine gq_aload_n dz_P_append_19 rfl ?_
      refine gq_getR 2 zf_P_9 rfl rfl dz_P_append_20 ?_
      refine gq_aload_n dz_P_append_23 rfl ?_
      refine gq_getI zf_P_13 rfl rfl dz_P_append_24 ?_
      rw [hn]
      refine gq_iload_n dz_P_append_27 rfl ?_
      refine gq_i2b dz_P_append_28 ?_
      refine gw_bast (n) (rfl) rfl (rfl) (Nat.le_of_ble_eq_true rfl) (by omega) dz_P_append_29 ?_
      rw [zx_b2]
      refine gq_aload_n dz_P_append_30 rfl ?_
      refine gq_dup dz_P_append_31 rfl ?_
      refine gq_getI zf_P_13 rfl rfl dz_P_append_32 ?_
      rw [show ((zq_up σ.1 2 0 n c.toInt8.toInt32, σ.2) : zq_T).1 1 0 1 = nI n from hn]
      refine gq_iconst (v := 1) dz_P_append_35 rfl ?_
      refine gq_iadd dz_P_append_36 ?_
      rw [nI_1]
      refine gq_putI zv_P_13 rfl rfl dz_P_append_37 ?_
      refine gq_iconst (v := 1) dz_P_append_40 rfl ?_
      refine gw_iret .boolean dz_P_append_41 rfl (by first | rfl | exact zb_nar _) ?_ ?_
      · rw [decide_eq_true hlt]; rfl
      · rw [if_pos hlt]
    · skip
      have hlt : ¬ n < 160 := fun z => h14 (nI_lt (b := 160) z (by omega))
      refine gq_iconst (v := 0) dz_P_append_17 rfl ?_
      refine gw_iret .boolean dz_P_append_18 rfl (by first | rfl | exact zb_nar _) ?_ ?_
      · rw [decide_eq_false hlt]; rfl
      · rw [if_neg hlt]
set_option maxHeartbeats 4000000 in
theorem sp_S_feed {σ : zq_T} {X : za_X} (hS : zs_rep σ X) (hW : zx_wf X) (c : Int32) : zq_Sp zm_S_feed 1 [zq_O 0 0, zq_I c] σ (zq_rw (zq_I (zx_fedR X c)) (fun τ => zs_rep τ (zx_fedX X c) ∧ zg_S σ τ)) := by
  have hA : zc_rep σ σ.2.2.1 X.1 := hS.2.1
  have hw : za_wf X.1 := hW.1
  have hn6 : za_n X.1 ≤ 6 := zc_n6 hA
  have hm5 : za_m X.1 ≤ 5 := zc_m5 hA
  have hs6 : (zx_s X).1 ≤ 6 := hW.2.2.2.1.1
  have hT6 : (zx_T X).1 ≤ 160 := hW.2.2.1.1
  refine zq_sp [some (zq_O 0 0), some (zq_I c)] (by decide +kernel) rfl (Nat.le_of_ble_eq_true rfl) (fun ν => ?_)
  refine gq_iload_n dz_S_feed_0 rfl ?_
  refine gq_if_lt (tgt := 10) dz_S_feed_1 rfl (fun h1 => ?_) (fun h1 => ?_)
  · skip
    refine gq_iconst (v := -1) dz_S_feed_10 rfl ?_
    refine gw_iretP .int dz_S_feed_11 rfl (by first | rfl | exact zb_nar _) ?_ ?_
    · rw [zx_fedR, zx_3lt h1, if_pos rfl]
    · rw [zx_fedX, zx_3lt h1, if_pos rfl]; exact ⟨hS, zg_S.rf⟩
  · skip
    refine gq_iload_n dz_S_feed_4 rfl ?_
    refine gq_bipush (v := 127) dz_S_feed_5 rfl ?_
    refine gq_icmp_le (tgt := 12) dz_S_feed_7 rfl (fun h7 => ?_) (fun h7 => ?_)
    · skip
      refine gq_aload_n dz_S_feed_12 rfl ?_
      refine gq_getR 1 zf_S_12 rfl rfl dz_S_feed_13 ?_
      refine gq_iload_n dz_S_feed_16 rfl ?_
      refine gq_cV (sp_P_append hS.2.2.2.1.1 hT6 _) zw_P_append zl_S_59 dz_S_feed_17 rfl rfl rfl (by decide) rfl rfl (Nat.le_of_ble_eq_true rfl) ?_
      refine gw_ifb_eq (tgt := 33) dz_S_feed_20 rfl (fun h20 => ?_) (fun h20 => ?_)
      · skip
        have hlt := of_decide_eq_false h20
        rw [if_neg hlt]
        refine gq_bipush (v := -3) dz_S_feed_33 rfl ?_
        refine gw_iretP .int dz_S_feed_35 rfl (by first | rfl | exact zb_nar _) ?_ ?_
        · rw [zx_fedR, zx_3ye h1 h7, if_neg (by decide), if_neg hlt]
        · rw [zx_fedX, zx_3ye h1 h7, if_neg (by decide), if_neg hlt]; exact ⟨hS, zg_S.rf⟩
      · skip
        have hlt := of_decide_eq_true h20
        rw [if_pos hlt, zx_byte h1 h7]
        refine gq_aload_n dz_S_feed_23 rfl ?_
        refine gq_getR 1 zf_S_12 rfl rfl dz_S_feed_24 ?_
        refine gq_getI zf_S_63 rfl rfl dz_S_feed_27 ?_
        refine gq_goto (tgt := 35) dz_S_feed_30 rfl ?_
        refine gw_iretP .int dz_S_feed_35 rfl (by first | rfl | exact zb_nar _) ?_ ?_
        · rw [zx_fedR, zx_3ye h1 h7, if_neg (by decide), if_pos hlt]; exact zq_upE
        · rw [zx_fedX, zx_3ye h1 h7, if_neg (by decide), if_pos hlt]; exact zx_fed1 hS c
    · skip
      refine gq_iconst (v := -1) dz_S_feed_10 rfl ?_
      refine gw_iretP .int dz_S_feed_11 rfl (by first | rfl | exact zb_nar _) ?_ ?_
      · rw [zx_fedR, zx_3gt h7, if_pos rfl]
      · rw [zx_fedX, zx_3gt h7, if_pos rfl]; exact ⟨hS, zg_S.rf⟩
set_option maxHeartbeats 4000000 in
theorem sp_S_end {σ : zq_T} {X : za_X} (hS : zs_rep σ X) (hW : zx_wf X) (n : Int32) : zq_Sp zm_S_end 0 [zq_O 0 0, zq_I n] σ (zq_rw (zq_I (zx_endR X n)) (fun τ => zs_rep τ (zx_endX X n) ∧ zg_S σ τ)) := by
  have hA : zc_rep σ σ.2.2.1 X.1 := hS.2.1
  have hw : za_wf X.1 := hW.1
  have hn6 : za_n X.1 ≤ 6 := zc_n6 hA
  have hm5 : za_m X.1 ≤ 5 := zc_m5 hA
  have hs6 : (zx_s X).1 ≤ 6 := hW.2.2.2.1.1
  have hT6 : (zx_T X).1 ≤ 160 := hW.2.2.1.1
  refine zq_sp [some (zq_O 0 0), some (zq_I n), none] (by decide +kernel) rfl (Nat.le_of_ble_eq_true rfl) (fun ν => ?_)
  refine gq_aload_n dz_S_end_0 rfl ?_
  refine gq_getR 1 zf_S_12 rfl rfl dz_S_end_1 ?_
  refine gq_getI zf_S_63 rfl rfl dz_S_end_4 ?_
  rw [hS.2.2.2.1.1]
  refine gw_istore_n 2 dz_S_end_7 rfl (Nat.le_of_ble_eq_true rfl) rfl ?_
  dsimp only [List.set]
  refine gq_iload_n dz_S_end_8 rfl ?_
  refine gq_if_lt (tgt := 17) dz_S_end_9 rfl (fun h9 => ?_) (fun h9 => ?_)
  · skip
    refine gq_iconst (v := -1) dz_S_end_17 rfl ?_
    refine gw_iretP .int dz_S_end_18 rfl (by first | rfl | exact zb_nar _) ?_ ?_
    · rw [zx_endR, zx_3lt h9]; rfl
    · rw [zx_endX, zx_3lt h9]; exact ⟨hS, zg_S.rf⟩
  · skip
    refine gq_iload_n dz_S_end_12 rfl ?_
    refine gq_iload_n dz_S_end_13 rfl ?_
    refine gq_icmp_le (tgt := 19) dz_S_end_14 rfl (fun h14 => ?_) (fun h14 => ?_)
    · skip
      refine gq_aload_n dz_S_end_19 rfl ?_
      refine gq_getR 1 zf_S_12 rfl rfl dz_S_end_20 ?_
      refine gq_iload_n dz_S_end_23 rfl ?_
      refine gq_putI zv_S_63 rfl rfl dz_S_end_24 ?_
      refine gq_iload_n dz_S_end_27 rfl ?_
      refine gw_iretP .int dz_S_end_28 rfl (by first | rfl | exact zb_nar _) ?_ ?_
      · rw [zx_endR, zx_3ye h9 h14]; rfl
      · obtain ⟨i, hi, rfl⟩ := zx_3ex h9 h14 (by omega); rw [zx_endX, zx_3ye h9 h14, if_pos rfl, nI_clamp (by omega)]; exact ⟨hS.other (zo_same.rf.up (by omega)) (i, (zx_T X).2) (zx_f X) (zx_s X) ⟨zq_upE, fun q hq => hS.2.2.2.1.2 q (by have : q < i := hq; omega)⟩ hS.2.2.2.2.1 hS.2.2.2.2.2.1 rfl, (zo_same.rf.up (by omega)).S⟩
    · skip
      refine gq_iconst (v := -1) dz_S_end_17 rfl ?_
      refine gw_iretP .int dz_S_end_18 rfl (by first | rfl | exact zb_nar _) ?_ ?_
      · rw [zx_endR, zx_3gt h14]; rfl
      · rw [zx_endX, zx_3gt h14]; exact ⟨hS, zg_S.rf⟩
