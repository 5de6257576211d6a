/-! THE WHOLE ABSTRACT STATE: duchy, sheets, tape (length, bytes), the two faults, seen (how many, things, owners), two images -/
abbrev za_X : Type := za_D × za_H × (Nat × (Nat → Int32)) × (Int32 × Int32) × (Nat × (Nat → Int32) × (Nat → Int32)) × (Bool × za_D) × (Bool × za_D)
abbrev zx_A (X : za_X) : za_D := X.1
abbrev zx_B (X : za_X) : za_H := X.2.1
abbrev zx_T (X : za_X) : Nat × (Nat → Int32) := X.2.2.1
abbrev zx_f (X : za_X) : Int32 × Int32 := X.2.2.2.1
abbrev zx_s (X : za_X) : Nat × (Nat → Int32) × (Nat → Int32) := X.2.2.2.2.1
abbrev zx_I (X : za_X) : Bool × za_D := X.2.2.2.2.2.1
abbrev zx_J (X : za_X) : Bool × za_D := X.2.2.2.2.2.2
def zx_kb (X : za_X) : Nat := (if (zx_I X).1 then 1 else 0) + (if (zx_J X).1 then 2 else 0)
def zs_rep (σ : zq_T) (X : za_X) : Prop := (σ.2.2.1 ≠ σ.2.2.2 ∧ 3 ≤ σ.2.2.1.val ∧ 3 ≤ σ.2.2.2.val) ∧ zc_rep σ σ.2.2.1 (zx_A X) ∧ zh_rep σ (zx_B X) ∧ (σ.1 1 0 1 = nI (zx_T X).1 ∧ ∀ i, i < (zx_T X).1 → σ.1 2 0 i = (zx_T X).2 i) ∧ (σ.1 0 0 11 = (zx_f X).1 ∧ σ.1 0 0 12 = (zx_f X).2) ∧ (σ.1 0 0 13 = nI (zx_s X).1 ∧ ∀ i, i < (zx_s X).1 → σ.1 22 0 i = (zx_s X).2.1 i ∧ σ.1 23 0 i = (zx_s X).2.2 i) ∧ σ.1 0 0 14 = nI (zx_kb X) ∧ ((zx_I X).1 = true → zc_rep σ 0 (zx_I X).2) ∧ ((zx_J X).1 = true → zc_rep σ 1 (zx_J X).2)
/-- what a text fixes -/
def zx_st (A A' : za_D) : Prop := za_n A = za_n A' ∧ za_m A = za_m A' ∧ za_pa A = za_pa A' ∧ za_th A = za_th A' ∧ za_cl A = za_cl A' ∧ za_nu A = za_nu A'
def zx_wf (X : za_X) : Prop := za_wf (zx_A X) ∧ zh_wf (zx_B X) ∧ ((zx_T X).1 ≤ 160 ∧ ∀ i, i < (zx_T X).1 → ∃ c, c < 128 ∧ (zx_T X).2 i = nI c) ∧ ((zx_s X).1 ≤ 6 ∧ ∀ i, i < (zx_s X).1 → ∃ t, t < 4 ∧ (zx_s X).2.1 i = nI t) ∧ ((zx_I X).1 = true → za_wf (zx_I X).2 ∧ zx_st (zx_A X) (zx_I X).2) ∧ ((zx_J X).1 = true → za_wf (zx_J X).2 ∧ zx_st (zx_A X) (zx_J X).2)
/-- the model's places are the same; the class's places are the same -/
def zg_S (σ τ : zq_T) : Prop := τ.2.1 = σ.2.1 ∧ ∀ (t : Nat) (j : Fin 5) (k : Nat), 30 ≤ t → τ.1 t j k = σ.1 t j k
def zg_M (σ τ : zq_T) : Prop := τ.2.2 = σ.2.2 ∧ ∀ (t : Nat) (j : Fin 5) (k : Nat), t < 30 → τ.1 t j k = σ.1 t j k
theorem zg_S.rf {σ : zq_T} : zg_S σ σ := ⟨rfl, fun _ _ _ _ => rfl⟩
theorem zg_S.tr {σ τ υ : zq_T} (h : zg_S σ τ) (h2 : zg_S τ υ) : zg_S σ υ := ⟨h2.1.trans h.1, fun t j k q => (h2.2 t j k q).trans (h.2 t j k q)⟩
theorem zg_S.up {σ τ : zq_T} (h : zg_S σ τ) {t k : Nat} {j : Fin 5} {v : Int32} (h1 : t < 30) : zg_S σ (zq_up τ.1 t j k v, τ.2) :=
  ⟨h.1, fun t' j' k' q => by
    show zq_up τ.1 t j k v t' j' k' = σ.1 t' j' k'
    rw [← h.2 t' j' k' q]
    exact if_neg fun z => by omega⟩
theorem zd_same.S {d : Fin 5} {σ τ : zq_T} (h : zd_same d σ τ) : zg_S σ τ := ⟨by rw [h.1], fun t j k q => h.2 t j k (fun z => by omega)⟩
theorem zh_same.S {σ τ : zq_T} (h : zh_same σ τ) : zg_S σ τ := ⟨by rw [h.1], fun t j k q => h.2 t j k (fun z => by omega)⟩
theorem zh_rep.keep {σ τ : zq_T} {B : za_H} (h : zh_rep σ B) (he : ∀ t j k, 6 ≤ t → t ≤ 8 → τ.1 t j k = σ.1 t j k) : zh_rep τ B :=
  ⟨fun k hk => by rw [he 7 0 k (by omega) (by omega), he 8 0 k (by omega) (by omega)]; exact h.1 k hk, fun j hj i hi => by rw [he 6 j i (by omega) (by omega)]; exact h.2 j hj i hi⟩
/-- only a duchy of number d has changed, which is none of those told -/
theorem zs_rep.trial {σ τ : zq_T} {X : za_X} (h : zs_rep σ X) (hs : zd_same 2 σ τ) : zs_rep τ X := by
  obtain ⟨h1, h2, h3, h4, h5, h6, h7, h8, h9⟩ := h
  have e : ∀ (t : Nat) (j : Fin 5) (k : Nat), t < 10 ∨ 20 < t → τ.1 t j k = σ.1 t j k := fun t j k q => hs.2 t j k (fun z => by omega)
  have e2 : τ.2.2 = σ.2.2 := by rw [hs.1]
  refine ⟨by rw [e2]; exact h1, by rw [e2]; exact hs.rep (fun q => by have := h1.2.1; rw [q] at this; exact absurd this (by decide)) h2, h3.keep (fun t j k _ _ => e t j k (by omega)), ⟨by rw [e 1 0 1 (by omega)]; exact h4.1, fun i hi => by rw [e 2 0 i (by omega)]; exact h4.2 i hi⟩, ⟨by rw [e 0 0 11 (by omega)]; exact h5.1, by rw [e 0 0 12 (by omega)]; exact h5.2⟩, ⟨by rw [e 0 0 13 (by omega)]; exact h6.1, fun i hi => by rw [e 22 0 i (by omega), e 23 0 i (by omega)]; exact h6.2 i hi⟩, by rw [e 0 0 14 (by omega)]; exact h7, fun q => hs.rep (by decide) (h8 q), fun q => hs.rep (by decide) (h9 q)⟩
/-- the duchy has changed -/
theorem zs_rep.duchy {σ τ : zq_T} {X : za_X} {A' : za_D} (h : zs_rep σ X) (hs : zd_same σ.2.2.1 σ τ) (hA : zc_rep τ σ.2.2.1 A') : zs_rep τ (A', X.2) := by
  obtain ⟨h1, h2, h3, h4, h5, h6, h7, h8, h9⟩ := h
  have e : ∀ (t : Nat) (j : Fin 5) (k : Nat), t < 10 ∨ 20 < t → τ.1 t j k = σ.1 t j k := fun t j k q => hs.2 t j k (fun z => by omega)
  have e2 : τ.2.2 = σ.2.2 := by rw [hs.1]
  have n0 : ∀ j : Fin 5, j.val < 3 → j ≠ σ.2.2.1 := fun j hj q => by have := h1.2.1; rw [← q] at this; omega
  refine ⟨by rw [e2]; exact h1, by rw [e2]; exact hA, h3.keep (fun t j k _ _ => e t j k (by omega)), ⟨by rw [e 1 0 1 (by omega)]; exact h4.1, fun i hi => by rw [e 2 0 i (by omega)]; exact h4.2 i hi⟩, ⟨by rw [e 0 0 11 (by omega)]; exact h5.1, by rw [e 0 0 12 (by omega)]; exact h5.2⟩, ⟨by rw [e 0 0 13 (by omega)]; exact h6.1, fun i hi => by rw [e 22 0 i (by omega), e 23 0 i (by omega)]; exact h6.2 i hi⟩, by rw [e 0 0 14 (by omega)]; exact h7, fun q => hs.rep (n0 0 (by decide)) (h8 q), fun q => hs.rep (n0 1 (by decide)) (h9 q)⟩
theorem zb_bv {a p : Int32} : zb_v (zb_bit a p) = (a >>> (p &&& 31)) &&& 1 := by
  unfold zb_v zb_bit
  have h01 : ∀ x : Int32, x &&& 1 = 0 ∨ x &&& 1 = 1 := fun x => by
    have := x.toBitVec
    have h : ∀ b : BitVec 32, b &&& 1#32 = 0#32 ∨ b &&& 1#32 = 1#32 := fun b => by
      rcases BitVec.eq_zero_or_eq_one (b.extractLsb' 0 1) with z | z
      · left; apply BitVec.eq_of_getLsbD_eq; intro i hi
        have := congrArg (fun v => v.getLsbD 0) z
        simp at this ⊢
        rcases i with _ | i
        · simp [this]
        · simp
      · right; apply BitVec.eq_of_getLsbD_eq; intro i hi
        have := congrArg (fun v => v.getLsbD 0) z
        simp at this ⊢
        rcases i with _ | i
        · simp [this]
        · simp
    rcases h x.toBitVec with z | z
    · left; exact Int32.toBitVec_inj.mp (by rw [Int32.toBitVec_and]; exact z)
    · right; exact Int32.toBitVec_inj.mp (by rw [Int32.toBitVec_and]; exact z)
  rcases h01 (a >>> (p &&& 31)) with z | z
  · rw [z]; rfl
  · rw [z]; rfl
/-- the answers -/
def zx_rule (A : za_D) (w : Int32) : Int32 := if w = 0 then nI (za_n A) else if w = 1 then nI (za_m A) else if w = 2 then za_g A else -1
def zx_one1 (A : za_D) (q : Nat) (w : Int32) : Int32 := if w = 0 then za_pa A q else if w = 1 then za_fa A q else if w = 2 then za_tr A q else if w = 3 then zb_v (zb_bit (za_g A) (nI q)) else if w = 4 then nI (zs_place A q (za_g A)) else if w = 5 then nI (zs_child A q (za_g A)) else -1
def zx_one (A : za_D) (p w : Int32) : Int32 := if zb_in p (za_n A) then zx_one1 A p.toNatClampNeg w else -1
def zx_odd (A : za_D) (f : Int32) : Int32 := if zb_in f 5 then za_od A f.toNatClampNeg else -1
def zx_law1 (A : za_D) (k : Nat) (w : Int32) : Int32 := if w = 0 then za_rk A k else if w = 1 then za_th A k else if w = 2 then za_cl A k else if w = 3 then za_nu A k else if w = 4 then za_pi A k else if w = 5 then zf_or (fun p => zs_meets A k p (za_g A)) (za_n A) else if w = 6 then zs_recv A k (za_g A) else -1
def zx_law (A : za_D) (k w : Int32) : Int32 := if zb_in k (za_m A) then zx_law1 A k.toNatClampNeg w else -1
def zx_owner (A : za_D) (t : Int32) : Int32 := if zb_in t 4 then zs_own A t (za_g A) 31 else -1
def zx_by (A : za_D) (t : Int32) : Int32 := if zb_in t 4 then zs_right A t (za_g A) 31 else -1
def zx_doesR (A : za_D) (x : Int32) : Int32 := if x < 0 then -1 else zs_actr A x.toNatClampNeg
def zx_doesA (A : za_D) (x : Int32) : za_D := if x < 0 then A else zs_actS A x.toNatClampNeg
theorem zx_in {x : Int32} {n : Nat} {α : Type} {f : Nat → α} {z : α} {i : Nat} (hi : i < n) (hn : n < 2 ^ 31) : (if zb_in (nI i) n then f (nI i).toNatClampNeg else z) = f i := by rw [zb_in_nI hi hn, if_pos rfl, nI_clamp (by omega)]

set_option maxHeartbeats 4000000 in
theorem sp_S_fault {σ : zq_T} {X : za_X} (hS : zs_rep σ X) (hW : zx_wf X) : zq_Sp zm_S_fault 0 [zq_O 0 0] σ (zq_rv (zq_I (zx_f X).1) σ) := by
  refine zq_sp [some (zq_O 0 0)] (by decide +kernel) rfl (Nat.le_of_ble_eq_true rfl) (fun ν => ?_)
  refine gq_aload_n dz_S_fault_0 rfl ?_
  refine gq_getI zf_S_74 rfl rfl dz_S_fault_1 ?_
  rw [hS.2.2.2.2.1.1]
  refine gw_iret .int dz_S_fault_4 rfl (by first | rfl | exact zb_nar _) ?_ ?_
  · rfl
  · rfl
set_option maxHeartbeats 4000000 in
theorem sp_S_torn {σ : zq_T} {X : za_X} (hS : zs_rep σ X) (hW : zx_wf X) : zq_Sp zm_S_torn 0 [zq_O 0 0] σ (zq_rv (zq_I (zx_f X).2) σ) := by
  refine zq_sp [some (zq_O 0 0)] (by decide +kernel) rfl (Nat.le_of_ble_eq_true rfl) (fun ν => ?_)
  refine gq_aload_n dz_S_torn_0 rfl ?_
  refine gq_getI zf_S_264 rfl rfl dz_S_torn_1 ?_
  rw [hS.2.2.2.2.1.2]
  refine gw_iret .int dz_S_torn_4 rfl (by first | rfl | exact zb_nar _) ?_ ?_
  · rfl
  · rfl
set_option maxHeartbeats 4000000 in
theorem sp_S_rule {σ : zq_T} {X : za_X} (hS : zs_rep σ X) (hW : zx_wf X) (w : Int32) : zq_Sp zm_S_rule 0 [zq_O 0 0, zq_I w] σ (zq_rv (zq_I (zx_rule X.1 w)) σ) := by
  have hA : zc_rep σ σ.2.2.1 X.1 := hS.2.1
  have hw : za_wf X.1 := hW.1
  have hn6 : za_n X.1 ≤ 6 := zc_n6 hA
  have hm5 : za_m X.1 ≤ 5 := zc_m5 hA
  refine zq_sp [some (zq_O 0 0), some (zq_I w)] (by decide +kernel) rfl (Nat.le_of_ble_eq_true rfl) (fun ν => ?_)
  refine gq_iload_n dz_S_rule_0 rfl ?_
  by_cases hs1_0 : w = 0
  · rw [hs1_0]
    refine gq_tin (off := 27) (tgt := 28) dz_S_rule_1 (by decide) (by decide) rfl rfl ?_
    refine gq_aload_n dz_S_rule_28 rfl ?_
    refine gq_getU zf_S_53 rfl rfl dz_S_rule_29 ?_
    refine gq_getI zf_S_86 rfl rfl dz_S_rule_32 ?_
    rw [zc_n hA]
    refine gw_iret .int dz_S_rule_35 rfl (by first | rfl | exact zb_nar _) ?_ ?_
    · rfl
    · rfl
  · skip
    by_cases hs1_1 : w = 1
    · rw [hs1_1]
      refine gq_tin (off := 35) (tgt := 36) dz_S_rule_1 (by decide) (by decide) rfl rfl ?_
      refine gq_aload_n dz_S_rule_36 rfl ?_
      refine gq_getU zf_S_53 rfl rfl dz_S_rule_37 ?_
      refine gq_getI zf_S_89 rfl rfl dz_S_rule_40 ?_
      rw [zc_m hA]
      refine gw_iret .int dz_S_rule_43 rfl (by first | rfl | exact zb_nar _) ?_ ?_
      · rfl
      · rfl
    · skip
      by_cases hs1_2 : w = 2
      · rw [hs1_2]
        refine gq_tin (off := 43) (tgt := 44) dz_S_rule_1 (by decide) (by decide) rfl rfl ?_
        refine gq_aload_n dz_S_rule_44 rfl ?_
        refine gq_getU zf_S_53 rfl rfl dz_S_rule_45 ?_
        refine gq_getI zf_S_92 rfl rfl dz_S_rule_48 ?_
        rw [zc_g hA]
        refine gw_iret .int dz_S_rule_51 rfl (by first | rfl | exact zb_nar _) ?_ ?_
        · rfl
        · rfl
      · skip
        refine gq_tout (tgt := 52) dz_S_rule_1 (by have := zq_ne hs1_0; have h_0 := zq_ne hs1_0; have h_1 := zq_ne hs1_1; have h_2 := zq_ne hs1_2; simp at *; omega) rfl ?_
        refine gq_iconst (v := -1) dz_S_rule_52 rfl ?_
        refine gw_iret .int dz_S_rule_53 rfl (by first | rfl | exact zb_nar _) ?_ ?_
        · simp [zx_rule, hs1_0, hs1_1, hs1_2]
        · rfl
set_option maxHeartbeats 4000000 in
theorem sp_S_one {σ : zq_T} {X : za_X} (hS : zs_rep σ X) (hW : zx_wf X) (p w : Int32) : zq_Sp zm_S_one 2 [zq_O 0 0, zq_I p, zq_I w] σ (zq_rv (zq_I (zx_one X.1 p w)) σ) := by
  have hA : zc_rep σ σ.2.2.1 X.1 := hS.2.1
  have hw : za_wf X.1 := hW.1
  have hn6 : za_n X.1 ≤ 6 := zc_n6 hA
  have hm5 : za_m X.1 ≤ 5 := zc_m5 hA
  refine zq_sp [some (zq_O 0 0), some (zq_I p), some (zq_I w)] (by decide +kernel) rfl (Nat.le_of_ble_eq_true rfl) (fun ν => ?_)
  refine gq_aload_n dz_S_one_0 rfl ?_
  refine gq_getU zf_S_53 rfl rfl dz_S_one_1 ?_
  refine gq_iload_n dz_S_one_4 rfl ?_
  refine gq_cV (sp_D_isOne hA _) zw_D_isOne zl_S_95 dz_S_one_5 rfl rfl rfl (by decide) rfl rfl (Nat.le_of_ble_eq_true rfl) ?_
  refine gw_ifb_ne (tgt := 13) dz_S_one_8 rfl (fun h8 => ?_) (fun h8 => ?_)
  · skip
    obtain ⟨q, hq, rfl⟩ := (zb_in_iff (by omega)).mp h8
    refine gq_iload_n dz_S_one_13 rfl ?_
    by_cases hs14_0 : w = 0
    · rw [hs14_0]
      refine gq_tin (off := 38) (tgt := 52) dz_S_one_14 (by decide) (by decide) rfl rfl ?_
      refine gq_aload_n dz_S_one_52 rfl ?_
      refine gq_getU zf_S_53 rfl rfl dz_S_one_53 ?_
      refine gq_getR 11 zf_S_98 rfl rfl dz_S_one_56 ?_
      refine gq_iload_n dz_S_one_59 rfl ?_
      refine gw_iald (q) (rfl) rfl (rfl) (Nat.le_of_ble_eq_true rfl) (by omega) dz_S_one_60 ?_
      rw [zc_pa hA hq]
      refine gw_iret .int dz_S_one_61 rfl (by first | rfl | exact zb_nar _) ?_ ?_
      · rw [zx_one, zx_in (x := 0) (f := fun i => zx_one1 X.1 i _) hq (by omega)]; rfl
      · rfl
    · skip
      by_cases hs14_1 : w = 1
      · rw [hs14_1]
        refine gq_tin (off := 48) (tgt := 62) dz_S_one_14 (by decide) (by decide) rfl rfl ?_
        refine gq_aload_n dz_S_one_62 rfl ?_
        refine gq_getU zf_S_53 rfl rfl dz_S_one_63 ?_
        refine gq_getR 13 zf_S_101 rfl rfl dz_S_one_66 ?_
        refine gq_iload_n dz_S_one_69 rfl ?_
        refine gw_iald (q) (rfl) rfl (rfl) (Nat.le_of_ble_eq_true rfl) (by omega) dz_S_one_70 ?_
        rw [zc_fa hA (by omega)]
        refine gw_iret .int dz_S_one_71 rfl (by first | rfl | exact zb_nar _) ?_ ?_
        · rw [zx_one, zx_in (x := 0) (f := fun i => zx_one1 X.1 i _) hq (by omega)]; rfl
        · rfl
      · skip
        by_cases hs14_2 : w = 2
        · rw [hs14_2]
          refine gq_tin (off := 58) (tgt := 72) dz_S_one_14 (by decide) (by decide) rfl rfl ?_
          refine gq_aload_n dz_S_one_72 rfl ?_
          refine gq_getU zf_S_53 rfl rfl dz_S_one_73 ?_
          refine gq_getR 14 zf_S_104 rfl rfl dz_S_one_76 ?_
          refine gq_iload_n dz_S_one_79 rfl ?_
          refine gw_iald (q) (rfl) rfl (rfl) (Nat.le_of_ble_eq_true rfl) (by omega) dz_S_one_80 ?_
          rw [zc_tr hA (by omega)]
          refine gw_iret .int dz_S_one_81 rfl (by first | rfl | exact zb_nar _) ?_ ?_
          · rw [zx_one, zx_in (x := 0) (f := fun i => zx_one1 X.1 i _) hq (by omega)]; rfl
          · rfl
        · skip
          by_cases hs14_3 : w = 3
          · rw [hs14_3]
            refine gq_tin (off := 68) (tgt := 82) dz_S_one_14 (by decide) (by decide) rfl rfl ?_
            refine gq_aload_n dz_S_one_82 rfl ?_
            refine gq_getU zf_S_53 rfl rfl dz_S_one_83 ?_
            refine gq_iload_n dz_S_one_86 rfl ?_
            refine gq_cV (sp_D_isGone hA _) zw_D_isGone zl_S_107 dz_S_one_87 rfl rfl rfl (by decide) rfl rfl (Nat.le_of_ble_eq_true rfl) ?_
            refine gw_ifb_eq (tgt := 97) dz_S_one_90 rfl (fun h90 => ?_) (fun h90 => ?_)
            · skip
              refine gq_iconst (v := 0) dz_S_one_97 rfl ?_
              refine gw_iret .int dz_S_one_98 rfl (by first | rfl | exact zb_nar _) ?_ ?_
              · rw [zx_one, zx_in (x := 0) (f := fun i => zx_one1 X.1 i _) hq (by omega)]; show _ = zb_v _; rw [h90]; rfl
              · rfl
            · skip
              refine gq_iconst (v := 1) dz_S_one_93 rfl ?_
              refine gq_goto (tgt := 98) dz_S_one_94 rfl ?_
              refine gw_iret .int dz_S_one_98 rfl (by first | rfl | exact zb_nar _) ?_ ?_
              · rw [zx_one, zx_in (x := 0) (f := fun i => zx_one1 X.1 i _) hq (by omega)]; show _ = zb_v _; rw [h90]; rfl
              · rfl
          · skip
            by_cases hs14_4 : w = 4
            · rw [hs14_4]
              refine gq_tin (off := 85) (tgt := 99) dz_S_one_14 (by decide) (by decide) rfl rfl ?_
              refine gq_aload_n dz_S_one_99 rfl ?_
              refine gq_getU zf_S_53 rfl rfl dz_S_one_100 ?_
              refine gq_iload_n dz_S_one_103 rfl ?_
              refine gq_aload_n dz_S_one_104 rfl ?_
              refine gq_getU zf_S_53 rfl rfl dz_S_one_105 ?_
              refine gq_getI zf_S_92 rfl rfl dz_S_one_108 ?_
              rw [zc_g hA]
              refine gq_cV (sp_D_placeAmongBorn hA hq _) zw_D_placeAmongBorn zl_S_110 dz_S_one_111 rfl rfl rfl (by decide) rfl rfl (Nat.le_of_ble_eq_true rfl) ?_
              refine gw_iret .int dz_S_one_114 rfl (by first | rfl | exact zb_nar _) ?_ ?_
              · rw [zx_one, zx_in (x := 0) (f := fun i => zx_one1 X.1 i _) hq (by omega)]; rfl
              · rfl
            · skip
              by_cases hs14_5 : w = 5
              · rw [hs14_5]
                refine gq_tin (off := 101) (tgt := 115) dz_S_one_14 (by decide) (by decide) rfl rfl ?_
                refine gq_aload_n dz_S_one_115 rfl ?_
                refine gq_getU zf_S_53 rfl rfl dz_S_one_116 ?_
                refine gq_iload_n dz_S_one_119 rfl ?_
                refine gq_aload_n dz_S_one_120 rfl ?_
                refine gq_getU zf_S_53 rfl rfl dz_S_one_121 ?_
                refine gq_getI zf_S_92 rfl rfl dz_S_one_124 ?_
                rw [zc_g hA]
                refine gq_cV (sp_D_childrenLeft hA hq _) zw_D_childrenLeft zl_S_114 dz_S_one_127 rfl rfl rfl (by decide) rfl rfl (Nat.le_of_ble_eq_true rfl) ?_
                refine gw_iret .int dz_S_one_130 rfl (by first | rfl | exact zb_nar _) ?_ ?_
                · rw [zx_one, zx_in (x := 0) (f := fun i => zx_one1 X.1 i _) hq (by omega)]; rfl
                · rfl
              · skip
                refine gq_tout (tgt := 131) dz_S_one_14 (by have := zq_ne hs14_0; have h_0 := zq_ne hs14_0; have h_1 := zq_ne hs14_1; have h_2 := zq_ne hs14_2; have h_3 := zq_ne hs14_3; have h_4 := zq_ne hs14_4; have h_5 := zq_ne hs14_5; simp at *; omega) rfl ?_
                refine gq_iconst (v := -1) dz_S_one_131 rfl ?_
                refine gw_iret .int dz_S_one_132 rfl (by first | rfl | exact zb_nar _) ?_ ?_
                · rw [zx_one, zx_in (x := 0) (f := fun i => zx_one1 X.1 i _) hq (by omega)]; simp [zx_one1, hs14_0, hs14_1, hs14_2, hs14_3, hs14_4, hs14_5]
                · rfl
  · skip
    refine gq_iconst (v := -1) dz_S_one_11 rfl ?_
    refine gw_iret .int dz_S_one_12 rfl (by first | rfl | exact zb_nar _) ?_ ?_
    · rw [zx_one, h8]; rfl
    · rfl
set_option maxHeartbeats 4000000 in
theorem sp_S_odd {σ : zq_T} {X : za_X} (hS : zs_rep σ X) (hW : zx_wf X) (f : Int32) : zq_Sp zm_S_odd 1 [zq_O 0 0, zq_I f] σ (zq_rv (zq_I (zx_odd X.1 f)) σ) := by
  have hA : zc_rep σ σ.2.2.1 X.1 := hS.2.1
  have hw : za_wf X.1 := hW.1
  have hn6 : za_n X.1 ≤ 6 := zc_n6 hA
  have hm5 : za_m X.1 ≤ 5 := zc_m5 hA
  refine zq_sp [some (zq_O 0 0), some (zq_I f)] (by decide +kernel) rfl (Nat.le_of_ble_eq_true rfl) (fun ν => ?_)
  refine gq_iload_n dz_S_odd_0 rfl ?_
  refine gq_cS (sp_S_isFact _) zw_S_isFact zl_S_117 dz_S_odd_1 (by decide) rfl rfl (Nat.le_of_ble_eq_true rfl) ?_
  refine gw_ifb_eq (tgt := 19) dz_S_odd_4 rfl (fun h4 => ?_) (fun h4 => ?_)
  · skip
    refine gq_iconst (v := -1) dz_S_odd_19 rfl ?_
    refine gw_iret .int dz_S_odd_20 rfl (by first | rfl | exact zb_nar _) ?_ ?_
    · rw [zx_odd, h4]; rfl
    · rfl
  · skip
    obtain ⟨q, hq, rfl⟩ := (zb_in_iff (by omega)).mp h4
    refine gq_aload_n dz_S_odd_7 rfl ?_
    refine gq_getU zf_S_53 rfl rfl dz_S_odd_8 ?_
    refine gq_getR 15 zf_S_120 rfl rfl dz_S_odd_11 ?_
    refine gq_iload_n dz_S_odd_14 rfl ?_
    refine gw_iald (q) (rfl) rfl (rfl) (Nat.le_of_ble_eq_true rfl) (by omega) dz_S_odd_15 ?_
    rw [zc_od hA hq]
    refine gq_goto (tgt := 20) dz_S_odd_16 rfl ?_
    refine gw_iret .int dz_S_odd_20 rfl (by first | rfl | exact zb_nar _) ?_ ?_
    · rw [zx_odd, zx_in (x := 0) (f := za_od X.1) hq (by omega)]
    · rfl
set_option maxHeartbeats 4000000 in
theorem sp_S_law {σ : zq_T} {X : za_X} (hS : zs_rep σ X) (hW : zx_wf X) (k w : Int32) : zq_Sp zm_S_law 3 [zq_O 0 0, zq_I k, zq_I w] σ (zq_rv (zq_I (zx_law X.1 k w)) σ) := by
  have hA : zc_rep σ σ.2.2.1 X.1 := hS.2.1
  have hw : za_wf X.1 := hW.1
  have hn6 : za_n X.1 ≤ 6 := zc_n6 hA
  have hm5 : za_m X.1 ≤ 5 := zc_m5 hA
  refine zq_sp [some (zq_O 0 0), some (zq_I k), some (zq_I w)] (by decide +kernel) rfl (Nat.le_of_ble_eq_true rfl) (fun ν => ?_)
  refine gq_aload_n dz_S_law_0 rfl ?_
  refine gq_getU zf_S_53 rfl rfl dz_S_law_1 ?_
  refine gq_iload_n dz_S_law_4 rfl ?_
  refine gq_cV (sp_D_isRule hA _) zw_D_isRule zl_S_123 dz_S_law_5 rfl rfl rfl (by decide) rfl rfl (Nat.le_of_ble_eq_true rfl) ?_
  refine gw_ifb_ne (tgt := 13) dz_S_law_8 rfl (fun h8 => ?_) (fun h8 => ?_)
  · skip
    obtain ⟨q, hq, rfl⟩ := (zb_in_iff (by omega)).mp h8
    refine gq_iload_n dz_S_law_13 rfl ?_
    by_cases hs14_0 : w = 0
    · rw [hs14_0]
      refine gq_tin (off := 42) (tgt := 56) dz_S_law_14 (by decide) (by decide) rfl rfl ?_
      refine gq_aload_n dz_S_law_56 rfl ?_
      refine gq_getU zf_S_53 rfl rfl dz_S_law_57 ?_
      refine gq_getR 16 zf_S_126 rfl rfl dz_S_law_60 ?_
      refine gq_iload_n dz_S_law_63 rfl ?_
      refine gw_iald (q) (rfl) rfl (rfl) (Nat.le_of_ble_eq_true rfl) (by omega) dz_S_law_64 ?_
      rw [zc_rk hA hq]
      refine gw_iret .int dz_S_law_65 rfl (by first | rfl | exact zb_nar _) ?_ ?_
      · rw [zx_law, zx_in (x := 0) (f := fun i => zx_law1 X.1 i _) hq (by omega)]; rfl
      · rfl
    · skip
      by_cases hs14_1 : w = 1
      · rw [hs14_1]
        refine gq_tin (off := 52) (tgt := 66) dz_S_law_14 (by decide) (by decide) rfl rfl ?_
        refine gq_aload_n dz_S_law_66 rfl ?_
        refine gq_getU zf_S_53 rfl rfl dz_S_law_67 ?_
        refine gq_getR 17 zf_S_129 rfl rfl dz_S_law_70 ?_
        refine gq_iload_n dz_S_law_73 rfl ?_
        refine gw_iald (q) (rfl) rfl (rfl) (Nat.le_of_ble_eq_true rfl) (by omega) dz_S_law_74 ?_
        rw [zc_th hA hq]
        refine gw_iret .int dz_S_law_75 rfl (by first | rfl | exact zb_nar _) ?_ ?_
        · rw [zx_law, zx_in (x := 0) (f := fun i => zx_law1 X.1 i _) hq (by omega)]; rfl
        · rfl
      · skip
        by_cases hs14_2 : w = 2
        · rw [hs14_2]
          refine gq_tin (off := 62) (tgt := 76) dz_S_law_14 (by decide) (by decide) rfl rfl ?_
          refine gq_aload_n dz_S_law_76 rfl ?_
          refine gq_getU zf_S_53 rfl rfl dz_S_law_77 ?_
          refine gq_getR 18 zf_S_132 rfl rfl dz_S_law_80 ?_
          refine gq_iload_n dz_S_law_83 rfl ?_
          refine gw_iald (q) (rfl) rfl (rfl) (Nat.le_of_ble_eq_true rfl) (by omega) dz_S_law_84 ?_
          rw [zc_cl hA hq]
          refine gw_iret .int dz_S_law_85 rfl (by first | rfl | exact zb_nar _) ?_ ?_
          · rw [zx_law, zx_in (x := 0) (f := fun i => zx_law1 X.1 i _) hq (by omega)]; rfl
          · rfl
        · skip
          by_cases hs14_3 : w = 3
          · rw [hs14_3]
            refine gq_tin (off := 72) (tgt := 86) dz_S_law_14 (by decide) (by decide) rfl rfl ?_
            refine gq_aload_n dz_S_law_86 rfl ?_
            refine gq_getU zf_S_53 rfl rfl dz_S_law_87 ?_
            refine gq_getR 19 zf_S_135 rfl rfl dz_S_law_90 ?_
            refine gq_iload_n dz_S_law_93 rfl ?_
            refine gw_iald (q) (rfl) rfl (rfl) (Nat.le_of_ble_eq_true rfl) (by omega) dz_S_law_94 ?_
            rw [zc_nu hA hq]
            refine gw_iret .int dz_S_law_95 rfl (by first | rfl | exact zb_nar _) ?_ ?_
            · rw [zx_law, zx_in (x := 0) (f := fun i => zx_law1 X.1 i _) hq (by omega)]; rfl
            · rfl
          · skip
            by_cases hs14_4 : w = 4
            · rw [hs14_4]
              refine gq_tin (off := 82) (tgt := 96) dz_S_law_14 (by decide) (by decide) rfl rfl ?_
              refine gq_aload_n dz_S_law_96 rfl ?_
              refine gq_getU zf_S_53 rfl rfl dz_S_law_97 ?_
              refine gq_getR 20 zf_S_138 rfl rfl dz_S_law_100 ?_
              refine gq_iload_n dz_S_law_103 rfl ?_
              refine gw_iald (q) (rfl) rfl (rfl) (Nat.le_of_ble_eq_true rfl) (by omega) dz_S_law_104 ?_
              rw [zc_pi hA hq]
              refine gw_iret .int dz_S_law_105 rfl (by first | rfl | exact zb_nar _) ?_ ?_
              · rw [zx_law, zx_in (x := 0) (f := fun i => zx_law1 X.1 i _) hq (by omega)]; rfl
              · rfl
            · skip
              by_cases hs14_5 : w = 5
              · rw [hs14_5]
                refine gq_tin (off := 92) (tgt := 106) dz_S_law_14 (by decide) (by decide) rfl rfl ?_
                refine gq_aload_n dz_S_law_106 rfl ?_
                refine gq_getU zf_S_53 rfl rfl dz_S_law_107 ?_
                refine gq_iload_n dz_S_law_110 rfl ?_
                refine gq_aload_n dz_S_law_111 rfl ?_
                refine gq_getU zf_S_53 rfl rfl dz_S_law_112 ?_
                refine gq_getI zf_S_92 rfl rfl dz_S_law_115 ?_
                rw [zc_g hA]
                refine gq_cV (sp_D_whoMeet hA hw hq _) zw_D_whoMeet zl_S_141 dz_S_law_118 rfl rfl rfl (by decide) rfl rfl (Nat.le_of_ble_eq_true rfl) ?_
                refine gw_iret .int dz_S_law_121 rfl (by first | rfl | exact zb_nar _) ?_ ?_
                · rw [zx_law, zx_in (x := 0) (f := fun i => zx_law1 X.1 i _) hq (by omega)]; rfl
                · rfl
              · skip
                by_cases hs14_6 : w = 6
                · rw [hs14_6]
                  refine gq_tin (off := 108) (tgt := 122) dz_S_law_14 (by decide) (by decide) rfl rfl ?_
                  refine gq_aload_n dz_S_law_122 rfl ?_
                  refine gq_getU zf_S_53 rfl rfl dz_S_law_123 ?_
                  refine gq_iload_n dz_S_law_126 rfl ?_
                  refine gq_aload_n dz_S_law_127 rfl ?_
                  refine gq_getU zf_S_53 rfl rfl dz_S_law_128 ?_
                  refine gq_getI zf_S_92 rfl rfl dz_S_law_131 ?_
                  rw [zc_g hA]
                  refine gq_cV (sp_D_receiver hA hw _ _) zw_D_receiver zl_S_144 dz_S_law_134 rfl rfl rfl (by decide) rfl rfl (Nat.le_of_ble_eq_true rfl) ?_
                  refine gw_iret .int dz_S_law_137 rfl (by first | rfl | exact zb_nar _) ?_ ?_
                  · rw [zx_law, zx_in (x := 0) (f := fun i => zx_law1 X.1 i _) hq (by omega)]; rw [zs_recvI_nI hq]; rfl
                  · rfl
                · skip
                  refine gq_tout (tgt := 138) dz_S_law_14 (by have := zq_ne hs14_0; have h_0 := zq_ne hs14_0; have h_1 := zq_ne hs14_1; have h_2 := zq_ne hs14_2; have h_3 := zq_ne hs14_3; have h_4 := zq_ne hs14_4; have h_5 := zq_ne hs14_5; have h_6 := zq_ne hs14_6; simp at *; omega) rfl ?_
                  refine gq_iconst (v := -1) dz_S_law_138 rfl ?_
                  refine gw_iret .int dz_S_law_139 rfl (by first | rfl | exact zb_nar _) ?_ ?_
                  · rw [zx_law, zx_in (x := 0) (f := fun i => zx_law1 X.1 i _) hq (by omega)]; simp [zx_law1, hs14_0, hs14_1, hs14_2, hs14_3, hs14_4, hs14_5, hs14_6]
                  · rfl
  · skip
    refine gq_iconst (v := -1) dz_S_law_11 rfl ?_
    refine gw_iret .int dz_S_law_12 rfl (by first | rfl | exact zb_nar _) ?_ ?_
    · rw [zx_law, h8]; rfl
    · rfl
set_option maxHeartbeats 4000000 in
theorem sp_S_owner {σ : zq_T} {X : za_X} (hS : zs_rep σ X) (hW : zx_wf X) (t : Int32) : zq_Sp zm_S_owner 6 [zq_O 0 0, zq_I t] σ (zq_rv (zq_I (zx_owner X.1 t)) σ) := by
  have hA : zc_rep σ σ.2.2.1 X.1 := hS.2.1
  have hw : za_wf X.1 := hW.1
  have hn6 : za_n X.1 ≤ 6 := zc_n6 hA
  have hm5 : za_m X.1 ≤ 5 := zc_m5 hA
  refine zq_sp [some (zq_O 0 0), some (zq_I t)] (by decide +kernel) rfl (Nat.le_of_ble_eq_true rfl) (fun ν => ?_)
  refine gq_iload_n dz_S_owner_0 rfl ?_
  refine gq_cS (sp_S_isThing _) zw_S_isThing zl_S_147 dz_S_owner_1 (by decide) rfl rfl (Nat.le_of_ble_eq_true rfl) ?_
  refine gw_ifb_eq (tgt := 18) dz_S_owner_4 rfl (fun h4 => ?_) (fun h4 => ?_)
  · skip
    refine gq_iconst (v := -1) dz_S_owner_18 rfl ?_
    refine gw_iret .int dz_S_owner_19 rfl (by first | rfl | exact zb_nar _) ?_ ?_
    · rw [zx_owner, h4]; rfl
    · rfl
  · skip
    refine gq_aload_n dz_S_owner_7 rfl ?_
    refine gq_getU zf_S_53 rfl rfl dz_S_owner_8 ?_
    refine gq_iload_n dz_S_owner_11 rfl ?_
    refine gq_cV (sp_D_ownerNow hA hw _) zw_D_ownerNow zl_S_150 dz_S_owner_12 rfl rfl rfl (by decide) rfl rfl (Nat.le_of_ble_eq_true rfl) ?_
    refine gq_goto (tgt := 19) dz_S_owner_15 rfl ?_
    refine gw_iret .int dz_S_owner_19 rfl (by first | rfl | exact zb_nar _) ?_ ?_
    · rw [zx_owner, h4]; rfl
    · rfl
set_option maxHeartbeats 4000000 in
theorem sp_S_by {σ : zq_T} {X : za_X} (hS : zs_rep σ X) (hW : zx_wf X) (t : Int32) : zq_Sp zm_S_by 4 [zq_O 0 0, zq_I t] σ (zq_rv (zq_I (zx_by X.1 t)) σ) := by
  have hA : zc_rep σ σ.2.2.1 X.1 := hS.2.1
  have hw : za_wf X.1 := hW.1
  have hn6 : za_n X.1 ≤ 6 := zc_n6 hA
  have hm5 : za_m X.1 ≤ 5 := zc_m5 hA
  refine zq_sp [some (zq_O 0 0), some (zq_I t)] (by decide +kernel) rfl (Nat.le_of_ble_eq_true rfl) (fun ν => ?_)
  refine gq_iload_n dz_S_by_0 rfl ?_
  refine gq_cS (sp_S_isThing _) zw_S_isThing zl_S_147 dz_S_by_1 (by decide) rfl rfl (Nat.le_of_ble_eq_true rfl) ?_
  refine gw_ifb_eq (tgt := 27) dz_S_by_4 rfl (fun h4 => ?_) (fun h4 => ?_)
  · skip
    refine gq_iconst (v := -1) dz_S_by_27 rfl ?_
    refine gw_iret .int dz_S_by_28 rfl (by first | rfl | exact zb_nar _) ?_ ?_
    · rw [zx_by, h4]; rfl
    · rfl
  · skip
    refine gq_aload_n dz_S_by_7 rfl ?_
    refine gq_getU zf_S_53 rfl rfl dz_S_by_8 ?_
    refine gq_iload_n dz_S_by_11 rfl ?_
    refine gq_aload_n dz_S_by_12 rfl ?_
    refine gq_getU zf_S_53 rfl rfl dz_S_by_13 ?_
    refine gq_getI zf_S_92 rfl rfl dz_S_by_16 ?_
    rw [zc_g hA]
    refine gq_bipush (v := 31) dz_S_by_19 rfl ?_
    refine gq_cV (sp_D_rightOn hA hw _ _ _) zw_D_rightOn zl_S_154 dz_S_by_21 rfl rfl rfl (by decide) rfl rfl (Nat.le_of_ble_eq_true rfl) ?_
    refine gq_goto (tgt := 28) dz_S_by_24 rfl ?_
    refine gw_iret .int dz_S_by_28 rfl (by first | rfl | exact zb_nar _) ?_ ?_
    · rw [zx_by, h4]; rfl
    · rfl
