/-- how many cases -/
def za_N (A : za_D) : Nat := 2 ^ za_n A
theorem za_N64 {A : za_D} (h : za_n A ≤ 6) : za_N A ≤ 64 := Nat.pow_le_pow_right (n := 2) (by decide) h
theorem za_pw : ∀ n : Fin 7, (1 : Int32) <<< (nI n.val &&& 31) = nI (2 ^ n.val) := by decide +kernel
theorem za_caN {A : za_D} (h : za_n A ≤ 6) : (1 : Int32) <<< (nI (za_n A) &&& 31) = nI (za_N A) := za_pw ⟨za_n A, by omega⟩
/-- or of f below n; what f gives from an accumulator -/
def zf_orI (f : Nat → Int32) : Nat → Int32
  | 0 => 0
  | n + 1 => zf_orI f n ||| f n
def zf_fo {α : Type} (f : Nat → α → α) (z : α) : Nat → α
  | 0 => z
  | n + 1 => f n (zf_fo f z n)
def zf_all (P : Nat → Bool) : Nat → Bool
  | 0 => true
  | n + 1 => zf_all P n && P n
theorem zf_all_no {P : Nat → Bool} {i : Nat} : ∀ {n : Nat}, i < n → P i = false → zf_all P n = false
  | 0, h, _ => absurd h (Nat.not_lt_zero _)
  | n + 1, h, hp => by
    rw [zf_all]
    rcases Nat.lt_or_ge i n with q | q
    · rw [zf_all_no q hp]; rfl
    · rw [show n = i by omega, hp, Bool.and_false]
theorem zf_all_ye {P : Nat → Bool} {n : Nat} (h : zf_all P n = true) (hp : P n = true) : zf_all P (n + 1) = true := by rw [zf_all, h, hp]; rfl
def zs_give (A : za_D) (a : Nat) : Int32 := zf_or (fun k => decide (¬ zs_recv A k (nI a) = -4)) (za_m A)
def zs_some (A : za_D) : Int32 := zf_orI (zs_give A) (za_N A)
def zs_alwf (A : za_D) (a : Nat) (x : Int32) : Int32 := if nI a = nI (za_N A) - 1 then x else x &&& zs_give A a
def zs_alw (A : za_D) : Int32 := zf_fo (zs_alwf A) (nI (2 ^ za_m A) - 1) (za_N A)
def zs_wk1 (A : za_D) (p t : Int32) (a s : Nat) (x : Int32) : Int32 := if zs_right A (nI s) (nI a) 31 = -4 then x else if ¬ t = -4 ∧ ¬ nI s = t then x else if ¬ p = -4 ∧ ¬ zs_recvI A (zs_right A (nI s) (nI a) 31) (nI a) = p then x else x ||| (1 <<< (zs_right A (nI s) (nI a) 31 &&& 31))
def zs_wk (A : za_D) (p t : Int32) : Int32 := zf_fo (fun a x => zf_fo (zs_wk1 A p t a) x 4) 0 (za_N A)
def zx_dead (A : za_D) (w : Int32) : Int32 := if w = 0 then (nI (2 ^ za_m A) - 1) &&& (zs_some A ^^^ -1) else if w = 1 then zs_alw A else if w = 2 then (nI (2 ^ za_m A) - 1) &&& (zs_wk A (-4) (-4) ^^^ -1) else -1
def zx_via (A : za_D) (p t : Int32) : Int32 := if zb_in p (za_n A) && zb_in t 4 then zs_wk A p t else -1
def zs_whof (A : za_D) (t : Int32) (a : Nat) (x : Int32) : Int32 := if zs_own A t (nI a) 31 = -4 then x else x ||| (1 <<< (zs_own A t (nI a) 31 &&& 31))
def zx_who (A : za_D) (t : Int32) : Int32 := if zb_in t 4 then zf_fo (zs_whof A t) 0 (za_N A) else -1
def zs_pivf (A : za_D) (t : Int32) : Nat → Bool := fun p => !zb_bit (za_g A) (nI p) && decide (¬ zs_own A t (za_g A ||| (1 <<< (nI p &&& 31))) 31 = zs_own A t (za_g A) 31)
def zx_pivot (A : za_D) (t : Int32) : Int32 := if zb_in t 4 then zf_or (zs_pivf A t) (za_n A) else -1
def zs_same1 (A : za_D) (set : Int32) (a : Nat) : Nat → Bool := fun t => decide (zs_own A (nI t) (nI a) set = zs_own A (nI t) (nI a) 31)
def zs_same (A : za_D) (set : Int32) : Bool := zf_all (fun a => zf_all (zs_same1 A set a) 4) (za_N A)
def zs_lef (A : za_D) (s : Nat) (b : Int32) : Int32 := if zs_bc (nI s) < zs_bc b ∧ zs_same A (nI s) = true then nI s else b
def zs_le (A : za_D) : Int32 := zf_fo (zs_lef A) (nI (2 ^ za_m A) - 1) (2 ^ za_m A - 1)
def zx_least (A : za_D) (w : Int32) : Int32 := if zx_3 w 1 then (if w = 0 then zs_bc (zs_le A) else zs_le A) else -1
theorem za_pm {A : za_D} (h : za_m A ≤ 5) : (1 : Int32) <<< (nI (za_m A) &&& 31) = nI (2 ^ za_m A) := za_pw ⟨za_m A, by omega⟩
theorem za_2m (A : za_D) : 1 ≤ 2 ^ za_m A := Nat.one_le_two_pow
theorem za_2m5 {A : za_D} (h : za_m A ≤ 5) : 2 ^ za_m A ≤ 32 := Nat.pow_le_pow_right (n := 2) (by decide) h

set_option maxHeartbeats 4000000 in
theorem sp_S_givingSomewhere {σ : zq_T} {X : za_X} (hS : zs_rep σ X) (hW : zx_wf X) : zq_Sp zm_S_givingSomewhere 4 [zq_O 0 0] σ (zq_rv (zq_I (zs_some X.1)) σ) := by
  have hA : zc_rep σ σ.2.2.1 X.1 := hS.2.1
  have hw : za_wf X.1 := hW.1
  have hn6 : za_n X.1 ≤ 6 := zc_n6 hA
  have hm5 : za_m X.1 ≤ 5 := zc_m5 hA
  have hs6 : (zx_s X).1 ≤ 6 := hW.2.2.2.1.1
  have hT6 : (zx_T X).1 ≤ 160 := hW.2.2.1.1
  have hN : za_N X.1 ≤ 64 := za_N64 hn6
  refine zq_sp [some (zq_O 0 0), none, none] (by decide +kernel) rfl (Nat.le_of_ble_eq_true rfl) (fun ν => ?_)
  refine gq_iconst (v := 0) dz_S_givingSomewhere_0 rfl ?_
  refine gw_istore_n 1 dz_S_givingSomewhere_1 rfl (Nat.le_of_ble_eq_true rfl) rfl ?_
  dsimp only [List.set]
  refine gq_iconst (v := 0) dz_S_givingSomewhere_2 rfl ?_
  refine gw_istore_n 2 dz_S_givingSomewhere_3 rfl (Nat.le_of_ble_eq_true rfl) rfl ?_
  dsimp only [List.set]
  have L4 : ∀ (kf : Nat) (a : Nat) (hkf : za_N X.1 - a < kf) (ha : a ≤ za_N X.1), zq_G ν zm_S_givingSomewhere 4 (zq_rv (zq_I (zs_some X.1)) σ) 4 [some (zq_O 0 0), some (zq_I (zf_orI (zs_give X.1) a)), some (zq_I (nI a))] [] σ := by
    intro kf
    induction kf with
    | zero => intro a hkf ha; exact absurd hkf (Nat.not_lt_zero _)
    | succ kf ih4 =>
      intro a hkf ha
      refine gq_iload_n dz_S_givingSomewhere_4 rfl ?_
      refine gq_aload_n dz_S_givingSomewhere_5 rfl ?_
      refine gq_getU zf_S_53 rfl rfl dz_S_givingSomewhere_6 ?_
      refine gq_cV (sp_D_cases hA) zw_D_cases zl_S_206 dz_S_givingSomewhere_9 rfl rfl rfl (by decide) rfl rfl (Nat.le_of_ble_eq_true rfl) ?_
      rw [za_caN hn6]
      refine gq_icmp_ge (tgt := 32) dz_S_givingSomewhere_12 rfl (fun h12 => ?_) (fun h12 => ?_)
      · skip
        refine gq_iload_n dz_S_givingSomewhere_32 rfl ?_
        refine gw_iret .int dz_S_givingSomewhere_33 rfl (by first | rfl | exact zb_nar _) ?_ ?_
        · rw [zs_some, zq_leq h12 ha (by omega)]
        · rfl
      · skip
        have a2 : a < za_N X.1 := by rcases Nat.lt_or_ge a (za_N X.1) with z | z; exact z; exact absurd (nI_le z (by omega)) h12
        refine gq_iload_n dz_S_givingSomewhere_15 rfl ?_
        refine gq_aload_n dz_S_givingSomewhere_16 rfl ?_
        refine gq_getU zf_S_53 rfl rfl dz_S_givingSomewhere_17 ?_
        refine gq_iload_n dz_S_givingSomewhere_20 rfl ?_
        refine gq_cV (sp_D_givingRules hA hw _) zw_D_givingRules zl_S_283 dz_S_givingSomewhere_21 rfl rfl rfl (by decide) rfl rfl (Nat.le_of_ble_eq_true rfl) ?_
        refine gq_ior dz_S_givingSomewhere_24 ?_
        refine gw_istore_n 1 dz_S_givingSomewhere_25 rfl (Nat.le_of_ble_eq_true rfl) rfl ?_
        dsimp only [List.set]
        refine gw_iinc 2 (c := 1) dz_S_givingSomewhere_26 rfl rfl (Nat.le_of_ble_eq_true rfl) rfl ?_
        dsimp only [List.set]
        refine gq_goto (tgt := 4) dz_S_givingSomewhere_29 rfl ?_
        simp only [nI_1]
        exact zq_fewer _ (zq_sub_spec (by repeat (first | exact trivial | exact rfl | refine And.intro ?_ ?_))) (ih4 (a + 1) (by omega) (by omega))
  exact zq_fewer _ (zq_sub_spec (by repeat (first | exact trivial | exact rfl | refine And.intro ?_ ?_))) (L4 (za_N X.1 + 1) 0 (by omega) (by omega))
set_option maxHeartbeats 4000000 in
theorem sp_S_givingEverywhere {σ : zq_T} {X : za_X} (hS : zs_rep σ X) (hW : zx_wf X) : zq_Sp zm_S_givingEverywhere 4 [zq_O 0 0] σ (zq_rv (zq_I (zs_alw X.1)) σ) := by
  have hA : zc_rep σ σ.2.2.1 X.1 := hS.2.1
  have hw : za_wf X.1 := hW.1
  have hn6 : za_n X.1 ≤ 6 := zc_n6 hA
  have hm5 : za_m X.1 ≤ 5 := zc_m5 hA
  have hs6 : (zx_s X).1 ≤ 6 := hW.2.2.2.1.1
  have hT6 : (zx_T X).1 ≤ 160 := hW.2.2.1.1
  have hN : za_N X.1 ≤ 64 := za_N64 hn6
  refine zq_sp [some (zq_O 0 0), none, none] (by decide +kernel) rfl (Nat.le_of_ble_eq_true rfl) (fun ν => ?_)
  refine gq_aload_n dz_S_givingEverywhere_0 rfl ?_
  refine gq_getU zf_S_53 rfl rfl dz_S_givingEverywhere_1 ?_
  refine gq_cV (sp_D_allRules hA) zw_D_allRules zl_S_185 dz_S_givingEverywhere_4 rfl rfl rfl (by decide) rfl rfl (Nat.le_of_ble_eq_true rfl) ?_
  rw [za_pm hm5]
  refine gw_istore_n 1 dz_S_givingEverywhere_7 rfl (Nat.le_of_ble_eq_true rfl) rfl ?_
  dsimp only [List.set]
  refine gq_iconst (v := 0) dz_S_givingEverywhere_8 rfl ?_
  refine gw_istore_n 2 dz_S_givingEverywhere_9 rfl (Nat.le_of_ble_eq_true rfl) rfl ?_
  dsimp only [List.set]
  have L10 : ∀ (kf : Nat) (a : Nat) (hkf : za_N X.1 - a < kf) (ha : a ≤ za_N X.1), zq_G ν zm_S_givingEverywhere 4 (zq_rv (zq_I (zs_alw X.1)) σ) 10 [some (zq_O 0 0), some (zq_I (zf_fo (zs_alwf X.1) (nI (2 ^ za_m X.1) - 1) a)), some (zq_I (nI a))] [] σ := by
    intro kf
    induction kf with
    | zero => intro a hkf ha; exact absurd hkf (Nat.not_lt_zero _)
    | succ kf ih10 =>
      intro a hkf ha
      refine gq_iload_n dz_S_givingEverywhere_10 rfl ?_
      refine gq_aload_n dz_S_givingEverywhere_11 rfl ?_
      refine gq_getU zf_S_53 rfl rfl dz_S_givingEverywhere_12 ?_
      refine gq_cV (sp_D_cases hA) zw_D_cases zl_S_206 dz_S_givingEverywhere_15 rfl rfl rfl (by decide) rfl rfl (Nat.le_of_ble_eq_true rfl) ?_
      rw [za_caN hn6]
      refine gq_icmp_ge (tgt := 49) dz_S_givingEverywhere_18 rfl (fun h18 => ?_) (fun h18 => ?_)
      · skip
        refine gq_iload_n dz_S_givingEverywhere_49 rfl ?_
        refine gw_iret .int dz_S_givingEverywhere_50 rfl (by first | rfl | exact zb_nar _) ?_ ?_
        · rw [zs_alw, zq_leq h18 ha (by omega)]
        · rfl
      · skip
        have a2 : a < za_N X.1 := by rcases Nat.lt_or_ge a (za_N X.1) with z | z; exact z; exact absurd (nI_le z (by omega)) h18
        refine gq_iload_n dz_S_givingEverywhere_21 rfl ?_
        refine gq_aload_n dz_S_givingEverywhere_22 rfl ?_
        refine gq_getU zf_S_53 rfl rfl dz_S_givingEverywhere_23 ?_
        refine gq_cV (sp_D_everybody hA) zw_D_everybody zl_S_226 dz_S_givingEverywhere_26 rfl rfl rfl (by decide) rfl rfl (Nat.le_of_ble_eq_true rfl) ?_
        rw [za_caN hn6]
        refine gq_icmp_eq (tgt := 43) dz_S_givingEverywhere_29 rfl (fun h29 => ?_) (fun h29 => ?_)
        · skip
          refine gw_iinc 2 (c := 1) dz_S_givingEverywhere_43 rfl rfl (Nat.le_of_ble_eq_true rfl) rfl ?_
          dsimp only [List.set]
          refine gq_goto (tgt := 10) dz_S_givingEverywhere_46 rfl ?_
          simp only [nI_1]
          rw [show zf_fo (zs_alwf X.1) (nI (2 ^ za_m X.1) - 1) a = zf_fo (zs_alwf X.1) (nI (2 ^ za_m X.1) - 1) (a + 1) from (if_pos h29).symm]
          exact zq_fewer _ (zq_sub_spec (by repeat (first | exact trivial | exact rfl | refine And.intro ?_ ?_))) (ih10 (a + 1) (by omega) (by omega))
        · skip
          refine gq_iload_n dz_S_givingEverywhere_32 rfl ?_
          refine gq_aload_n dz_S_givingEverywhere_33 rfl ?_
          refine gq_getU zf_S_53 rfl rfl dz_S_givingEverywhere_34 ?_
          refine gq_iload_n dz_S_givingEverywhere_37 rfl ?_
          refine gq_cV (sp_D_givingRules hA hw _) zw_D_givingRules zl_S_283 dz_S_givingEverywhere_38 rfl rfl rfl (by decide) rfl rfl (Nat.le_of_ble_eq_true rfl) ?_
          refine gq_iand dz_S_givingEverywhere_41 ?_
          refine gw_istore_n 1 dz_S_givingEverywhere_42 rfl (Nat.le_of_ble_eq_true rfl) rfl ?_
          dsimp only [List.set]
          refine gw_iinc 2 (c := 1) dz_S_givingEverywhere_43 rfl rfl (Nat.le_of_ble_eq_true rfl) rfl ?_
          dsimp only [List.set]
          refine gq_goto (tgt := 10) dz_S_givingEverywhere_46 rfl ?_
          simp only [nI_1]
          rw [show zf_fo (zs_alwf X.1) (nI (2 ^ za_m X.1) - 1) a &&& zf_or (fun k => decide (¬ zs_recv X.1 k (nI a) = -4)) (za_m X.1) = zf_fo (zs_alwf X.1) (nI (2 ^ za_m X.1) - 1) (a + 1) from (if_neg h29).symm]
          exact zq_fewer _ (zq_sub_spec (by repeat (first | exact trivial | exact rfl | refine And.intro ?_ ?_))) (ih10 (a + 1) (by omega) (by omega))
  exact zq_fewer _ (zq_sub_spec (by repeat (first | exact trivial | exact rfl | refine And.intro ?_ ?_))) (L10 (za_N X.1 + 1) 0 (by omega) (by omega))
set_option maxHeartbeats 4000000 in
theorem sp_S_rulesAtWork {σ : zq_T} {X : za_X} (hS : zs_rep σ X) (hW : zx_wf X) (p t : Int32) : zq_Sp zm_S_rulesAtWork 4 [zq_O 0 0, zq_I p, zq_I t] σ (zq_rv (zq_I (zs_wk X.1 p t)) σ) := by
  have hA : zc_rep σ σ.2.2.1 X.1 := hS.2.1
  have hw : za_wf X.1 := hW.1
  have hn6 : za_n X.1 ≤ 6 := zc_n6 hA
  have hm5 : za_m X.1 ≤ 5 := zc_m5 hA
  have hs6 : (zx_s X).1 ≤ 6 := hW.2.2.2.1.1
  have hT6 : (zx_T X).1 ≤ 160 := hW.2.2.1.1
  have hN : za_N X.1 ≤ 64 := za_N64 hn6
  refine zq_sp [some (zq_O 0 0), some (zq_I p), some (zq_I t), none, none, none, none] (by decide +kernel) rfl (Nat.le_of_ble_eq_true rfl) (fun ν => ?_)
  refine gq_iconst (v := 0) dz_S_rulesAtWork_0 rfl ?_
  refine gw_istore_n 3 dz_S_rulesAtWork_1 rfl (Nat.le_of_ble_eq_true rfl) rfl ?_
  dsimp only [List.set]
  refine gq_iconst (v := 0) dz_S_rulesAtWork_2 rfl ?_
  refine gw_istore 4 dz_S_rulesAtWork_3 (Nat.le_of_ble_eq_true rfl) rfl ?_
  dsimp only [List.set]
  have L5 : ∀ (kf : Nat) (a : Nat) (hkf : za_N X.1 - a < kf) (ha : a ≤ za_N X.1), zq_G ν zm_S_rulesAtWork 4 (zq_rv (zq_I (zs_wk X.1 p t)) σ) 5 [some (zq_O 0 0), some (zq_I p), some (zq_I t), some (zq_I (zf_fo (fun a x => zf_fo (zs_wk1 X.1 p t a) x 4) 0 a)), some (zq_I (nI a)), none, none] [] σ := by
    intro kf
    induction kf with
    | zero => intro a hkf ha; exact absurd hkf (Nat.not_lt_zero _)
    | succ kf ih5 =>
      intro a hkf ha
      refine gq_iload dz_S_rulesAtWork_5 rfl ?_
      refine gq_aload_n dz_S_rulesAtWork_7 rfl ?_
      refine gq_getU zf_S_53 rfl rfl dz_S_rulesAtWork_8 ?_
      refine gq_cV (sp_D_cases hA) zw_D_cases zl_S_206 dz_S_rulesAtWork_11 rfl rfl rfl (by decide) rfl rfl (Nat.le_of_ble_eq_true rfl) ?_
      rw [za_caN hn6]
      refine gq_icmp_ge (tgt := 103) dz_S_rulesAtWork_14 rfl (fun h14 => ?_) (fun h14 => ?_)
      · skip
        refine gq_iload_n dz_S_rulesAtWork_103 rfl ?_
        refine gw_iret .int dz_S_rulesAtWork_104 rfl (by first | rfl | exact zb_nar _) ?_ ?_
        · rw [zs_wk, zq_leq h14 ha (by omega)]
        · rfl
      · skip
        have a2 : a < za_N X.1 := by rcases Nat.lt_or_ge a (za_N X.1) with z | z; exact z; exact absurd (nI_le z (by omega)) h14
        refine gq_iconst (v := 0) dz_S_rulesAtWork_17 rfl ?_
        refine gw_istore 5 dz_S_rulesAtWork_18 (Nat.le_of_ble_eq_true rfl) rfl ?_
        dsimp only [List.set]
        have L20 : ∀ (kf : Nat) (s : Nat) (hkf : 4 - s < kf) (hs : s ≤ 4), zq_G ν zm_S_rulesAtWork 4 (zq_rv (zq_I (zs_wk X.1 p t)) σ) 20 [some (zq_O 0 0), some (zq_I p), some (zq_I t), some (zq_I (zf_fo (zs_wk1 X.1 p t a) (zf_fo (fun a x => zf_fo (zs_wk1 X.1 p t a) x 4) 0 a) s)), some (zq_I (nI a)), some (zq_I (nI s)), none] [] σ := by
          intro kf
          induction kf with
          | zero => intro s hkf hs; exact absurd hkf (Nat.not_lt_zero _)
          | succ kf ih20 =>
            intro s hkf hs
            refine gq_iload dz_S_rulesAtWork_20 rfl ?_
            refine gq_iconst (v := 4) dz_S_rulesAtWork_22 rfl ?_
            refine gq_icmp_ge (tgt := 97) dz_S_rulesAtWork_23 rfl (fun h23 => ?_) (fun h23 => ?_)
            · skip
              refine gw_iinc 4 (c := 1) dz_S_rulesAtWork_97 rfl rfl (Nat.le_of_ble_eq_true rfl) rfl ?_
              dsimp only [List.set]
              refine gq_goto (tgt := 5) dz_S_rulesAtWork_100 rfl ?_
              simp only [nI_1]
              have hs4 : s = 4 := zq_leq h23 hs (by omega)
              subst hs4
              exact zq_fewer _ (zq_sub_spec (by repeat (first | exact trivial | exact rfl | refine And.intro ?_ ?_))) (ih5 (a + 1) (by omega) (by omega))
            · skip
              have s2 : s < 4 := by rcases Nat.lt_or_ge s (4) with z | z; exact z; exact absurd (nI_le z (by omega)) h23
              refine gq_aload_n dz_S_rulesAtWork_26 rfl ?_
              refine gq_getU zf_S_53 rfl rfl dz_S_rulesAtWork_27 ?_
              refine gq_iload dz_S_rulesAtWork_30 rfl ?_
              refine gq_iload dz_S_rulesAtWork_32 rfl ?_
              refine gq_bipush (v := 31) dz_S_rulesAtWork_34 rfl ?_
              refine gq_cV (sp_D_rightOn hA hw _ _ _) zw_D_rightOn zl_S_154 dz_S_rulesAtWork_36 rfl rfl rfl (by decide) rfl rfl (Nat.le_of_ble_eq_true rfl) ?_
              refine gw_istore 6 dz_S_rulesAtWork_39 (Nat.le_of_ble_eq_true rfl) rfl ?_
              dsimp only [List.set]
              refine gq_iload dz_S_rulesAtWork_41 rfl ?_
              refine gq_bipush (v := -4) dz_S_rulesAtWork_43 rfl ?_
              refine gq_icmp_eq (tgt := 91) dz_S_rulesAtWork_45 rfl (fun h45 => ?_) (fun h45 => ?_)
              · skip
                refine gw_iinc 5 (c := 1) dz_S_rulesAtWork_91 rfl rfl (Nat.le_of_ble_eq_true rfl) rfl ?_
                dsimp only [List.set]
                refine gq_goto (tgt := 20) dz_S_rulesAtWork_94 rfl ?_
                simp only [nI_1]
                rw [show zf_fo (zs_wk1 X.1 p t a) (zf_fo (fun a x => zf_fo (zs_wk1 X.1 p t a) x 4) 0 a) s = zf_fo (zs_wk1 X.1 p t a) (zf_fo (fun a x => zf_fo (zs_wk1 X.1 p t a) x 4) 0 a) (s + 1) from (if_pos h45).symm]
                exact zq_fewer _ (zq_sub_spec (by repeat (first | exact trivial | exact rfl | refine And.intro ?_ ?_))) (ih20 (s + 1) (by omega) (by omega))
              · skip
                refine gq_iload_n dz_S_rulesAtWork_48 rfl ?_
                refine gq_bipush (v := -4) dz_S_rulesAtWork_49 rfl ?_
                refine gq_icmp_eq (tgt := 63) dz_S_rulesAtWork_51 rfl (fun h51 => ?_) (fun h51 => ?_)
                · skip
                  refine gq_iload_n dz_S_rulesAtWork_63 rfl ?_
                  refine gq_bipush (v := -4) dz_S_rulesAtWork_64 rfl ?_
                  refine gq_icmp_eq (tgt := 84) dz_S_rulesAtWork_66 rfl (fun h66 => ?_) (fun h66 => ?_)
                  · skip
                    refine gq_iload_n dz_S_rulesAtWork_84 rfl ?_
                    refine gq_iconst (v := 1) dz_S_rulesAtWork_85 rfl ?_
                    refine gq_iload dz_S_rulesAtWork_86 rfl ?_
                    refine gq_ishl dz_S_rulesAtWork_88 ?_
                    refine gq_ior dz_S_rulesAtWork_89 ?_
                    refine gw_istore_n 3 dz_S_rulesAtWork_90 rfl (Nat.le_of_ble_eq_true rfl) rfl ?_
                    dsimp only [List.set]
                    refine gw_iinc 5 (c := 1) dz_S_rulesAtWork_91 rfl rfl (Nat.le_of_ble_eq_true rfl) rfl ?_
                    dsimp only [List.set]
                    refine gq_goto (tgt := 20) dz_S_rulesAtWork_94 rfl ?_
                    simp only [nI_1]
                    rw [show zf_fo (zs_wk1 X.1 p t a) (zf_fo (fun a x => zf_fo (zs_wk1 X.1 p t a) x 4) 0 a) s ||| (1 <<< (zs_right X.1 (nI s) (nI a) 31 &&& 31)) = zf_fo (zs_wk1 X.1 p t a) (zf_fo (fun a x => zf_fo (zs_wk1 X.1 p t a) x 4) 0 a) (s + 1) from ((if_neg h45).trans ((if_neg (fun z : ¬ t = -4 ∧ ¬ nI s = t => z.1 h51)).trans (if_neg (fun z => z.1 h66)))).symm]
                    exact zq_fewer _ (zq_sub_spec (by repeat (first | exact trivial | exact rfl | refine And.intro ?_ ?_))) (ih20 (s + 1) (by omega) (by omega))
                  · skip
                    refine gq_aload_n dz_S_rulesAtWork_69 rfl ?_
                    refine gq_getU zf_S_53 rfl rfl dz_S_rulesAtWork_70 ?_
                    refine gq_iload dz_S_rulesAtWork_73 rfl ?_
                    refine gq_iload dz_S_rulesAtWork_75 rfl ?_
                    refine gq_cV (sp_D_receiver hA hw _ _) zw_D_receiver zl_S_144 dz_S_rulesAtWork_77 rfl rfl rfl (by decide) rfl rfl (Nat.le_of_ble_eq_true rfl) ?_
                    refine gq_iload_n dz_S_rulesAtWork_80 rfl ?_
                    refine gq_icmp_ne (tgt := 91) dz_S_rulesAtWork_81 rfl (fun h81 => ?_) (fun h81 => ?_)
                    · skip
                      refine gw_iinc 5 (c := 1) dz_S_rulesAtWork_91 rfl rfl (Nat.le_of_ble_eq_true rfl) rfl ?_
                      dsimp only [List.set]
                      refine gq_goto (tgt := 20) dz_S_rulesAtWork_94 rfl ?_
                      simp only [nI_1]
                      rw [show zf_fo (zs_wk1 X.1 p t a) (zf_fo (fun a x => zf_fo (zs_wk1 X.1 p t a) x 4) 0 a) s = zf_fo (zs_wk1 X.1 p t a) (zf_fo (fun a x => zf_fo (zs_wk1 X.1 p t a) x 4) 0 a) (s + 1) from ((if_neg h45).trans ((if_neg (fun z : ¬ t = -4 ∧ ¬ nI s = t => z.1 h51)).trans (if_pos ⟨h66, h81⟩))).symm]
                      exact zq_fewer _ (zq_sub_spec (by repeat (first | exact trivial | exact rfl | refine And.intro ?_ ?_))) (ih20 (s + 1) (by omega) (by omega))
                    · skip
                      refine gq_iload_n dz_S_rulesAtWork_84 rfl ?_
                      refine gq_iconst (v := 1) dz_S_rulesAtWork_85 rfl ?_
                      refine gq_iload dz_S_rulesAtWork_86 rfl ?_
                      refine gq_ishl dz_S_rulesAtWork_88 ?_
                      refine gq_ior dz_S_rulesAtWork_89 ?_
                      refine gw_istore_n 3 dz_S_rulesAtWork_90 rfl (Nat.le_of_ble_eq_true rfl) rfl ?_
                      dsimp only [List.set]
                      refine gw_iinc 5 (c := 1) dz_S_rulesAtWork_91 rfl rfl (Nat.le_of_ble_eq_true rfl) rfl ?_
                      dsimp only [List.set]
                      refine gq_goto (tgt := 20) dz_S_rulesAtWork_94 rfl ?_
                      simp only [nI_1]
                      rw [show zf_fo (zs_wk1 X.1 p t a) (zf_fo (fun a x => zf_fo (zs_wk1 X.1 p t a) x 4) 0 a) s ||| (1 <<< (zs_right X.1 (nI s) (nI a) 31 &&& 31)) = zf_fo (zs_wk1 X.1 p t a) (zf_fo (fun a x => zf_fo (zs_wk1 X.1 p t a) x 4) 0 a) (s + 1) from ((if_neg h45).trans ((if_neg (fun z : ¬ t = -4 ∧ ¬ nI s = t => z.1 h51)).trans (if_neg (fun z => z.2 h81)))).symm]
                      exact zq_fewer _ (zq_sub_spec (by repeat (first | exact trivial | exact rfl | refine And.intro ?_ ?_))) (ih20 (s + 1) (by omega) (by omega))
                · skip
                  refine gq_iload dz_S_rulesAtWork_54 rfl ?_
                  refine gq_iload_n dz_S_rulesAtWork_56 rfl ?_
                  refine gq_icmp_eq (tgt := 63) dz_S_rulesAtWork_57 rfl (fun h57 => ?_) (fun h57 => ?_)
                  · skip
                    refine gq_iload_n dz_S_rulesAtWork_63 rfl ?_
                    refine gq_bipush (v := -4) dz_S_rulesAtWork_64 rfl ?_
                    refine gq_icmp_eq (tgt := 84) dz_S_rulesAtWork_66 rfl (fun h66 => ?_) (fun h66 => ?_)
                    · skip
                      refine gq_iload_n dz_S_rulesAtWork_84 rfl ?_
                      refine gq_iconst (v := 1) dz_S_rulesAtWork_85 rfl ?_
                      refine gq_iload dz_S_rulesAtWork_86 rfl ?_
                      refine gq_ishl dz_S_rulesAtWork_88 ?_
                      refine gq_ior dz_S_rulesAtWork_89 ?_
                      refine gw_istore_n 3 dz_S_rulesAtWork_90 rfl (Nat.le_of_ble_eq_true rfl) rfl ?_
                      dsimp only [List.set]
                      refine gw_iinc 5 (c := 1) dz_S_rulesAtWork_91 rfl rfl (Nat.le_of_ble_eq_true rfl) rfl ?_
                      dsimp only [List.set]
                      refine gq_goto (tgt := 20) dz_S_rulesAtWork_94 rfl ?_
                      simp only [nI_1]
                      rw [show zf_fo (zs_wk1 X.1 p t a) (zf_fo (fun a x => zf_fo (zs_wk1 X.1 p t a) x 4) 0 a) s ||| (1 <<< (zs_right X.1 (nI s) (nI a) 31 &&& 31)) = zf_fo (zs_wk1 X.1 p t a) (zf_fo (fun a x => zf_fo (zs_wk1 X.1 p t a) x 4) 0 a) (s + 1) from ((if_neg h45).trans ((if_neg (fun z : ¬ t = -4 ∧ ¬ nI s = t => z.2 h57)).trans (if_neg (fun z => z.1 h66)))).symm]
                      exact zq_fewer _ (zq_sub_spec (by repeat (first | exact trivial | exact rfl | refine And.intro ?_ ?_))) (ih20 (s + 1) (by omega) (by omega))
                    · skip
                      refine gq_aload_n dz_S_rulesAtWork_69 rfl ?_
                      refine gq_getU zf_S_53 rfl rfl dz_S_rulesAtWork_70 ?_
                      refine gq_iload dz_S_rulesAtWork_73 rfl ?_
                      refine gq_iload dz_S_rulesAtWork_75 rfl ?_
                      refine gq_cV (sp_D_receiver hA hw _ _) zw_D_receiver zl_S_144 dz_S_rulesAtWork_77 rfl rfl rfl (by decide) rfl rfl (Nat.le_of_ble_eq_true rfl) ?_
                      refine gq_iload_n dz_S_rulesAtWork_80 rfl ?_
                      refine gq_icmp_ne (tgt := 91) dz_S_rulesAtWork_81 rfl (fun h81 => ?_) (fun h81 => ?_)
                      · skip
                        refine gw_iinc 5 (c := 1) dz_S_rulesAtWork_91 rfl rfl (Nat.le_of_ble_eq_true rfl) rfl ?_
                        dsimp only [List.set]
                        refine gq_goto (tgt := 20) dz_S_rulesAtWork_94 rfl ?_
                        simp only [nI_1]
                        rw [show zf_fo (zs_wk1 X.1 p t a) (zf_fo (fun a x => zf_fo (zs_wk1 X.1 p t a) x 4) 0 a) s = zf_fo (zs_wk1 X.1 p t a) (zf_fo (fun a x => zf_fo (zs_wk1 X.1 p t a) x 4) 0 a) (s + 1) from ((if_neg h45).trans ((if_neg (fun z : ¬ t = -4 ∧ ¬ nI s = t => z.2 h57)).trans (if_pos ⟨h66, h81⟩))).symm]
                        exact zq_fewer _ (zq_sub_spec (by repeat (first | exact trivial | exact rfl | refine And.intro ?_ ?_))) (ih20 (s + 1) (by omega) (by omega))
                      · skip
                        refine gq_iload_n dz_S_rulesAtWork_84 rfl ?_
                        refine gq_iconst (v := 1) dz_S_rulesAtWork_85 rfl ?_
                        refine gq_iload dz_S_rulesAtWork_86 rfl ?_
                        refine gq_ishl dz_S_rulesAtWork_88 ?_
                        refine gq_ior dz_S_rulesAtWork_89 ?_
                        refine gw_istore_n 3 dz_S_rulesAtWork_90 rfl (Nat.le_of_ble_eq_true rfl) rfl ?_
                        dsimp only [List.set]
                        refine gw_iinc 5 (c := 1) dz_S_rulesAtWork_91 rfl rfl (Nat.le_of_ble_eq_true rfl) rfl ?_
                        dsimp only [List.set]
                        refine gq_goto (tgt := 20) dz_S_rulesAtWork_94 rfl ?_
                        simp only [nI_1]
                        rw [show zf_fo (zs_wk1 X.1 p t a) (zf_fo (fun a x => zf_fo (zs_wk1 X.1 p t a) x 4) 0 a) s ||| (1 <<< (zs_right X.1 (nI s) (nI a) 31 &&& 31)) = zf_fo (zs_wk1 X.1 p t a) (zf_fo (fun a x => zf_fo (zs_wk1 X.1 p t a) x 4) 0 a) (s + 1) from ((if_neg h45).trans ((if_neg (fun z : ¬ t = -4 ∧ ¬ nI s = t => z.2 h57)).trans (if_neg (fun z => z.2 h81)))).symm]
                        exact zq_fewer _ (zq_sub_spec (by repeat (first | exact trivial | exact rfl | refine And.intro ?_ ?_))) (ih20 (s + 1) (by omega) (by omega))
                  · skip
                    refine gq_goto (tgt := 91) dz_S_rulesAtWork_60 rfl ?_
                    refine gw_iinc 5 (c := 1) dz_S_rulesAtWork_91 rfl rfl (Nat.le_of_ble_eq_true rfl) rfl ?_
                    dsimp only [List.set]
                    refine gq_goto (tgt := 20) dz_S_rulesAtWork_94 rfl ?_
                    simp only [nI_1]
                    rw [show zf_fo (zs_wk1 X.1 p t a) (zf_fo (fun a x => zf_fo (zs_wk1 X.1 p t a) x 4) 0 a) s = zf_fo (zs_wk1 X.1 p t a) (zf_fo (fun a x => zf_fo (zs_wk1 X.1 p t a) x 4) 0 a) (s + 1) from ((if_neg h45).trans (if_pos ⟨h51, h57⟩)).symm]
                    exact zq_fewer _ (zq_sub_spec (by repeat (first | exact trivial | exact rfl | refine And.intro ?_ ?_))) (ih20 (s + 1) (by omega) (by omega))
        exact zq_fewer _ (zq_sub_spec (by repeat (first | exact trivial | exact rfl | refine And.intro ?_ ?_))) (L20 5 0 (by omega) (by omega))
  exact zq_fewer _ (zq_sub_spec (by repeat (first | exact trivial | exact rfl | refine And.intro ?_ ?_))) (L5 (za_N X.1 + 1) 0 (by omega) (by omega))
set_option maxHeartbeats 4000000 in
theorem sp_S_via {σ : zq_T} {X : za_X} (hS : zs_rep σ X) (hW : zx_wf X) (p t : Int32) : zq_Sp zm_S_via 5 [zq_O 0 0, zq_I p, zq_I t] σ (zq_rv (zq_I (zx_via X.1 p t)) σ) := by
  have hA : zc_rep σ σ.2.2.1 X.1 := hS.2.1
  have hw : za_wf X.1 := hW.1
  have hn6 : za_n X.1 ≤ 6 := zc_n6 hA
  have hm5 : za_m X.1 ≤ 5 := zc_m5 hA
  have hs6 : (zx_s X).1 ≤ 6 := hW.2.2.2.1.1
  have hT6 : (zx_T X).1 ≤ 160 := hW.2.2.1.1
  have hN : za_N X.1 ≤ 64 := za_N64 hn6
  refine zq_sp [some (zq_O 0 0), some (zq_I p), some (zq_I t)] (by decide +kernel) rfl (Nat.le_of_ble_eq_true rfl) (fun ν => ?_)
  refine gq_aload_n dz_S_via_0 rfl ?_
  refine gq_getU zf_S_53 rfl rfl dz_S_via_1 ?_
  refine gq_iload_n dz_S_via_4 rfl ?_
  refine gq_cV (sp_D_isOne hA _) zw_D_isOne zl_S_95 dz_S_via_5 rfl rfl rfl (by decide) rfl rfl (Nat.le_of_ble_eq_true rfl) ?_
  refine gw_ifb_eq (tgt := 27) dz_S_via_8 rfl (fun h8 => ?_) (fun h8 => ?_)
  · skip
    refine gq_iconst (v := -1) dz_S_via_27 rfl ?_
    refine gw_iret .int dz_S_via_28 rfl (by first | rfl | exact zb_nar _) ?_ ?_
    · rw [zx_via, h8]; rfl
    · rfl
  · skip
    refine gq_iload_n dz_S_via_11 rfl ?_
    refine gq_cS (sp_S_isThing _) zw_S_isThing zl_S_147 dz_S_via_12 (by decide) rfl rfl (Nat.le_of_ble_eq_true rfl) ?_
    refine gw_ifb_eq (tgt := 27) dz_S_via_15 rfl (fun h15 => ?_) (fun h15 => ?_)
    · skip
      refine gq_iconst (v := -1) dz_S_via_27 rfl ?_
      refine gw_iret .int dz_S_via_28 rfl (by first | rfl | exact zb_nar _) ?_ ?_
      · rw [zx_via, h15, Bool.and_false]; rfl
      · rfl
    · skip
      refine gq_aload_n dz_S_via_18 rfl ?_
      refine gq_iload_n dz_S_via_19 rfl ?_
      refine gq_iload_n dz_S_via_20 rfl ?_
      refine gq_cV (sp_S_rulesAtWork hS hW _ _) zw_S_rulesAtWork zl_S_195 dz_S_via_21 rfl rfl rfl (by decide) rfl rfl (Nat.le_of_ble_eq_true rfl) ?_
      refine gq_goto (tgt := 28) dz_S_via_24 rfl ?_
      refine gw_iret .int dz_S_via_28 rfl (by first | rfl | exact zb_nar _) ?_ ?_
      · rw [zx_via, h8, h15]; rfl
      · rfl
set_option maxHeartbeats 4000000 in
theorem sp_S_dead {σ : zq_T} {X : za_X} (hS : zs_rep σ X) (hW : zx_wf X) (w : Int32) : zq_Sp zm_S_dead 5 [zq_O 0 0, zq_I w] σ (zq_rv (zq_I (zx_dead X.1 w)) σ) := by
  have hA : zc_rep σ σ.2.2.1 X.1 := hS.2.1
  have hw : za_wf X.1 := hW.1
  have hn6 : za_n X.1 ≤ 6 := zc_n6 hA
  have hm5 : za_m X.1 ≤ 5 := zc_m5 hA
  have hs6 : (zx_s X).1 ≤ 6 := hW.2.2.2.1.1
  have hT6 : (zx_T X).1 ≤ 160 := hW.2.2.1.1
  have hN : za_N X.1 ≤ 64 := za_N64 hn6
  refine zq_sp [some (zq_O 0 0), some (zq_I w), none] (by decide +kernel) rfl (Nat.le_of_ble_eq_true rfl) (fun ν => ?_)
  refine gq_aload_n dz_S_dead_0 rfl ?_
  refine gq_getU zf_S_53 rfl rfl dz_S_dead_1 ?_
  refine gq_cV (sp_D_allRules hA) zw_D_allRules zl_S_185 dz_S_dead_4 rfl rfl rfl (by decide) rfl rfl (Nat.le_of_ble_eq_true rfl) ?_
  rw [za_pm hm5]
  refine gw_istore_n 2 dz_S_dead_7 rfl (Nat.le_of_ble_eq_true rfl) rfl ?_
  dsimp only [List.set]
  refine gq_iload_n dz_S_dead_8 rfl ?_
  by_cases hs9_0 : w = 0
  · rw [hs9_0]
    refine gq_tin (off := 27) (tgt := 36) dz_S_dead_9 (by decide) (by decide) rfl rfl ?_
    refine gq_iload_n dz_S_dead_36 rfl ?_
    refine gq_aload_n dz_S_dead_37 rfl ?_
    refine gq_cV (sp_S_givingSomewhere hS hW) zw_S_givingSomewhere zl_S_189 dz_S_dead_38 rfl rfl rfl (by decide) rfl rfl (Nat.le_of_ble_eq_true rfl) ?_
    refine gq_iconst (v := -1) dz_S_dead_41 rfl ?_
    refine gq_ixor dz_S_dead_42 ?_
    refine gq_iand dz_S_dead_43 ?_
    refine gw_iret .int dz_S_dead_44 rfl (by first | rfl | exact zb_nar _) ?_ ?_
    · rfl
    · rfl
  · skip
    by_cases hs9_1 : w = 1
    · rw [hs9_1]
      refine gq_tin (off := 36) (tgt := 45) dz_S_dead_9 (by decide) (by decide) rfl rfl ?_
      refine gq_aload_n dz_S_dead_45 rfl ?_
      refine gq_cV (sp_S_givingEverywhere hS hW) zw_S_givingEverywhere zl_S_192 dz_S_dead_46 rfl rfl rfl (by decide) rfl rfl (Nat.le_of_ble_eq_true rfl) ?_
      refine gw_iret .int dz_S_dead_49 rfl (by first | rfl | exact zb_nar _) ?_ ?_
      · rfl
      · rfl
    · skip
      by_cases hs9_2 : w = 2
      · rw [hs9_2]
        refine gq_tin (off := 41) (tgt := 50) dz_S_dead_9 (by decide) (by decide) rfl rfl ?_
        refine gq_iload_n dz_S_dead_50 rfl ?_
        refine gq_aload_n dz_S_dead_51 rfl ?_
        refine gq_bipush (v := -4) dz_S_dead_52 rfl ?_
        refine gq_bipush (v := -4) dz_S_dead_54 rfl ?_
        refine gq_cV (sp_S_rulesAtWork hS hW _ _) zw_S_rulesAtWork zl_S_195 dz_S_dead_56 rfl rfl rfl (by decide) rfl rfl (Nat.le_of_ble_eq_true rfl) ?_
        refine gq_iconst (v := -1) dz_S_dead_59 rfl ?_
        refine gq_ixor dz_S_dead_60 ?_
        refine gq_iand dz_S_dead_61 ?_
        refine gw_iret .int dz_S_dead_62 rfl (by first | rfl | exact zb_nar _) ?_ ?_
        · rfl
        · rfl
      · skip
        refine gq_tout (tgt := 63) dz_S_dead_9 (by have := zq_ne hs9_0; have h_0 := zq_ne hs9_0; have h_1 := zq_ne hs9_1; have h_2 := zq_ne hs9_2; simp at *; omega) rfl ?_
        refine gq_iconst (v := -1) dz_S_dead_63 rfl ?_
        refine gw_iret .int dz_S_dead_64 rfl (by first | rfl | exact zb_nar _) ?_ ?_
        · simp [zx_dead, hs9_0, hs9_1, hs9_2]
        · rfl
set_option maxHeartbeats 4000000 in
theorem sp_S_who {σ : zq_T} {X : za_X} (hS : zs_rep σ X) (hW : zx_wf X) (t : Int32) : zq_Sp zm_S_who 5 [zq_O 0 0, zq_I t] σ (zq_rv (zq_I (zx_who X.1 t)) σ) := by
  have hA : zc_rep σ σ.2.2.1 X.1 := hS.2.1
  have hw : za_wf X.1 := hW.1
  have hn6 : za_n X.1 ≤ 6 := zc_n6 hA
  have hm5 : za_m X.1 ≤ 5 := zc_m5 hA
  have hs6 : (zx_s X).1 ≤ 6 := hW.2.2.2.1.1
  have hT6 : (zx_T X).1 ≤ 160 := hW.2.2.1.1
  have hN : za_N X.1 ≤ 64 := za_N64 hn6
  refine zq_sp [some (zq_O 0 0), some (zq_I t), none, none, none] (by decide +kernel) rfl (Nat.le_of_ble_eq_true rfl) (fun ν => ?_)
  refine gq_iload_n dz_S_who_0 rfl ?_
  refine gq_cS (sp_S_isThing _) zw_S_isThing zl_S_147 dz_S_who_1 (by decide) rfl rfl (Nat.le_of_ble_eq_true rfl) ?_
  refine gw_ifb_ne (tgt := 9) dz_S_who_4 rfl (fun h4 => ?_) (fun h4 => ?_)
  · skip
    refine gq_iconst (v := 0) dz_S_who_9 rfl ?_
    refine gw_istore_n 2 dz_S_who_10 rfl (Nat.le_of_ble_eq_true rfl) rfl ?_
    dsimp only [List.set]
    refine gq_iconst (v := 0) dz_S_who_11 rfl ?_
    refine gw_istore_n 3 dz_S_who_12 rfl (Nat.le_of_ble_eq_true rfl) rfl ?_
    dsimp only [List.set]
    have L13 : ∀ (kf : Nat) (a : Nat) (hkf : za_N X.1 - a < kf) (ha : a ≤ za_N X.1), zq_G ν zm_S_who 5 (zq_rv (zq_I (zx_who X.1 t)) σ) 13 [some (zq_O 0 0), some (zq_I t), some (zq_I (zf_fo (zs_whof X.1 t) 0 a)), some (zq_I (nI a)), none] [] σ := by
      intro kf
      induction kf with
      | zero => intro a hkf ha; exact absurd hkf (Nat.not_lt_zero _)
      | succ kf ih13 =>
        intro a hkf ha
        refine gq_iload_n dz_S_who_13 rfl ?_
        refine gq_aload_n dz_S_who_14 rfl ?_
        refine gq_getU zf_S_53 rfl rfl dz_S_who_15 ?_
        refine gq_cV (sp_D_cases hA) zw_D_cases zl_S_206 dz_S_who_18 rfl rfl rfl (by decide) rfl rfl (Nat.le_of_ble_eq_true rfl) ?_
        rw [za_caN hn6]
        refine gq_icmp_ge (tgt := 57) dz_S_who_21 rfl (fun h21 => ?_) (fun h21 => ?_)
        · skip
          refine gq_iload_n dz_S_who_57 rfl ?_
          refine gw_iret .int dz_S_who_58 rfl (by first | rfl | exact zb_nar _) ?_ ?_
          · rw [zx_who, h4, zq_leq h21 ha (by omega)]; rfl
          · rfl
        · skip
          have a2 : a < za_N X.1 := by rcases Nat.lt_or_ge a (za_N X.1) with z | z; exact z; exact absurd (nI_le z (by omega)) h21
          refine gq_aload_n dz_S_who_24 rfl ?_
          refine gq_getU zf_S_53 rfl rfl dz_S_who_25 ?_
          refine gq_iload_n dz_S_who_28 rfl ?_
          refine gq_iload_n dz_S_who_29 rfl ?_
          refine gq_bipush (v := 31) dz_S_who_30 rfl ?_
          refine gq_cV (sp_D_ownerIn hA hw _ _ _) zw_D_ownerIn zl_S_171 dz_S_who_32 rfl rfl rfl (by decide) rfl rfl (Nat.le_of_ble_eq_true rfl) ?_
          refine gw_istore 4 dz_S_who_35 (Nat.le_of_ble_eq_true rfl) rfl ?_
          dsimp only [List.set]
          refine gq_iload dz_S_who_37 rfl ?_
          refine gq_bipush (v := -4) dz_S_who_39 rfl ?_
          refine gq_icmp_eq (tgt := 51) dz_S_who_41 rfl (fun h41 => ?_) (fun h41 => ?_)
          · skip
            refine gw_iinc 3 (c := 1) dz_S_who_51 rfl rfl (Nat.le_of_ble_eq_true rfl) rfl ?_
            dsimp only [List.set]
            refine gq_goto (tgt := 13) dz_S_who_54 rfl ?_
            simp only [nI_1]
            rw [show zf_fo (zs_whof X.1 t) 0 a = zf_fo (zs_whof X.1 t) 0 (a + 1) from (if_pos h41).symm]
            exact zq_fewer _ (zq_sub_spec (by repeat (first | exact trivial | exact rfl | refine And.intro ?_ ?_))) (ih13 (a + 1) (by omega) (by omega))
          · skip
            refine gq_iload_n dz_S_who_44 rfl ?_
            refine gq_iconst (v := 1) dz_S_who_45 rfl ?_
            refine gq_iload dz_S_who_46 rfl ?_
            refine gq_ishl dz_S_who_48 ?_
            refine gq_ior dz_S_who_49 ?_
            refine gw_istore_n 2 dz_S_who_50 rfl (Nat.le_of_ble_eq_true rfl) rfl ?_
            dsimp only [List.set]
            refine gw_iinc 3 (c := 1) dz_S_who_51 rfl rfl (Nat.le_of_ble_eq_true rfl) rfl ?_
            dsimp only [List.set]
            refine gq_goto (tgt := 13) dz_S_who_54 rfl ?_
            simp only [nI_1]
            rw [show zf_fo (zs_whof X.1 t) 0 a ||| (1 <<< (zs_own X.1 t (nI a) 31 &&& 31)) = zf_fo (zs_whof X.1 t) 0 (a + 1) from (if_neg h41).symm]
            exact zq_fewer _ (zq_sub_spec (by repeat (first | exact trivial | exact rfl | refine And.intro ?_ ?_))) (ih13 (a + 1) (by omega) (by omega))
    exact zq_fewer _ (zq_sub_spec (by repeat (first | exact trivial | exact rfl | refine And.intro ?_ ?_))) (L13 (za_N X.1 + 1) 0 (by omega) (by omega))
  · skip
    refine gq_iconst (v := -1) dz_S_who_7 rfl ?_
    refine gw_iret .int dz_S_who_8 rfl (by first | rfl | exact zb_nar _) ?_ ?_
    · rw [zx_who, h4]; rfl
    · rfl
set_option maxHeartbeats 4000000 in
theorem sp_S_pivot {σ : zq_T} {X : za_X} (hS : zs_rep σ X) (hW : zx_wf X) (t : Int32) : zq_Sp zm_S_pivot 6 [zq_O 0 0, zq_I t] σ (zq_rv (zq_I (zx_pivot X.1 t)) σ) := by
  have hA : zc_rep σ σ.2.2.1 X.1 := hS.2.1
  have hw : za_wf X.1 := hW.1
  have hn6 : za_n X.1 ≤ 6 := zc_n6 hA
  have hm5 : za_m X.1 ≤ 5 := zc_m5 hA
  have hs6 : (zx_s X).1 ≤ 6 := hW.2.2.2.1.1
  have hT6 : (zx_T X).1 ≤ 160 := hW.2.2.1.1
  have hN : za_N X.1 ≤ 64 := za_N64 hn6
  refine zq_sp [some (zq_O 0 0), some (zq_I t), none, none, none, none] (by decide +kernel) rfl (Nat.le_of_ble_eq_true rfl) (fun ν => ?_)
  refine gq_iload_n dz_S_pivot_0 rfl ?_
  refine gq_cS (sp_S_isThing _) zw_S_isThing zl_S_147 dz_S_pivot_1 (by decide) rfl rfl (Nat.le_of_ble_eq_true rfl) ?_
  refine gw_ifb_ne (tgt := 9) dz_S_pivot_4 rfl (fun h4 => ?_) (fun h4 => ?_)
  · skip
    refine gq_aload_n dz_S_pivot_9 rfl ?_
    refine gq_getU zf_S_53 rfl rfl dz_S_pivot_10 ?_
    refine gq_iload_n dz_S_pivot_13 rfl ?_
    refine gq_cV (sp_D_ownerNow hA hw _) zw_D_ownerNow zl_S_150 dz_S_pivot_14 rfl rfl rfl (by decide) rfl rfl (Nat.le_of_ble_eq_true rfl) ?_
    refine gw_istore_n 2 dz_S_pivot_17 rfl (Nat.le_of_ble_eq_true rfl) rfl ?_
    dsimp only [List.set]
    refine gq_iconst (v := 0) dz_S_pivot_18 rfl ?_
    refine gw_istore_n 3 dz_S_pivot_19 rfl (Nat.le_of_ble_eq_true rfl) rfl ?_
    dsimp only [List.set]
    refine gq_iconst (v := 0) dz_S_pivot_20 rfl ?_
    refine gw_istore 4 dz_S_pivot_21 (Nat.le_of_ble_eq_true rfl) rfl ?_
    dsimp only [List.set]
    have L23 : ∀ (kf : Nat) (p : Nat) (hkf : za_n X.1 - p < kf) (hp : p ≤ za_n X.1), zq_G ν zm_S_pivot 6 (zq_rv (zq_I (zx_pivot X.1 t)) σ) 23 [some (zq_O 0 0), some (zq_I t), some (zq_I (zs_own X.1 t (za_g X.1) 31)), some (zq_I (zf_or (zs_pivf X.1 t) p)), some (zq_I (nI p)), none] [] σ := by
      intro kf
      induction kf with
      | zero => intro p hkf hp; exact absurd hkf (Nat.not_lt_zero _)
      | succ kf ih23 =>
        intro p hkf hp
        refine gq_iload dz_S_pivot_23 rfl ?_
        refine gq_aload_n dz_S_pivot_25 rfl ?_
        refine gq_getU zf_S_53 rfl rfl dz_S_pivot_26 ?_
        refine gq_getI zf_S_86 rfl rfl dz_S_pivot_29 ?_
        rw [zc_n hA]
        refine gq_icmp_ge (tgt := 90) dz_S_pivot_32 rfl (fun h32 => ?_) (fun h32 => ?_)
        · skip
          refine gq_iload_n dz_S_pivot_90 rfl ?_
          refine gw_iret .int dz_S_pivot_91 rfl (by first | rfl | exact zb_nar _) ?_ ?_
          · rw [zx_pivot, h4, zq_leq h32 hp (by omega)]; rfl
          · rfl
        · skip
          have p2 : p < za_n X.1 := by rcases Nat.lt_or_ge p (za_n X.1) with z | z; exact z; exact absurd (nI_le z (by omega)) h32
          refine gq_aload_n dz_S_pivot_35 rfl ?_
          refine gq_getU zf_S_53 rfl rfl dz_S_pivot_36 ?_
          refine gq_getI zf_S_92 rfl rfl dz_S_pivot_39 ?_
          rw [zc_g hA]
          refine gq_iconst (v := 1) dz_S_pivot_42 rfl ?_
          refine gq_iload dz_S_pivot_43 rfl ?_
          refine gq_ishl dz_S_pivot_45 ?_
          refine gq_ior dz_S_pivot_46 ?_
          refine gw_istore 5 dz_S_pivot_47 (Nat.le_of_ble_eq_true rfl) rfl ?_
          dsimp only [List.set]
          refine gq_aload_n dz_S_pivot_49 rfl ?_
          refine gq_getU zf_S_53 rfl rfl dz_S_pivot_50 ?_
          refine gq_iload dz_S_pivot_53 rfl ?_
          refine gq_cV (sp_D_isGone hA _) zw_D_isGone zl_S_107 dz_S_pivot_55 rfl rfl rfl (by decide) rfl rfl (Nat.le_of_ble_eq_true rfl) ?_
          refine gw_ifb_ne (tgt := 84) dz_S_pivot_58 rfl (fun h58 => ?_) (fun h58 => ?_)
          · skip
            refine gw_iinc 4 (c := 1) dz_S_pivot_84 rfl rfl (Nat.le_of_ble_eq_true rfl) rfl ?_
            dsimp only [List.set]
            refine gq_goto (tgt := 23) dz_S_pivot_87 rfl ?_
            simp only [nI_1]
            rw [← zf_or_f (P := zs_pivf X.1 t) (n := p) (by simp [zs_pivf, h58])]
            exact zq_fewer _ (zq_sub_spec (by repeat (first | exact trivial | exact rfl | refine And.intro ?_ ?_))) (ih23 (p + 1) (by omega) (by omega))
          · skip
            refine gq_aload_n dz_S_pivot_61 rfl ?_
            refine gq_getU zf_S_53 rfl rfl dz_S_pivot_62 ?_
            refine gq_iload_n dz_S_pivot_65 rfl ?_
            refine gq_iload dz_S_pivot_66 rfl ?_
            refine gq_bipush (v := 31) dz_S_pivot_68 rfl ?_
            refine gq_cV (sp_D_ownerIn hA hw _ _ _) zw_D_ownerIn zl_S_171 dz_S_pivot_70 rfl rfl rfl (by decide) rfl rfl (Nat.le_of_ble_eq_true rfl) ?_
            refine gq_iload_n dz_S_pivot_73 rfl ?_
            refine gq_icmp_eq (tgt := 84) dz_S_pivot_74 rfl (fun h74 => ?_) (fun h74 => ?_)
            · skip
              refine gw_iinc 4 (c := 1) dz_S_pivot_84 rfl rfl (Nat.le_of_ble_eq_true rfl) rfl ?_
              dsimp only [List.set]
              refine gq_goto (tgt := 23) dz_S_pivot_87 rfl ?_
              simp only [nI_1]
              rw [← zf_or_f (P := zs_pivf X.1 t) (n := p) (by simp [zs_pivf, h58, h74])]
              exact zq_fewer _ (zq_sub_spec (by repeat (first | exact trivial | exact rfl | refine And.intro ?_ ?_))) (ih23 (p + 1) (by omega) (by omega))
            · skip
              refine gq_iload_n dz_S_pivot_77 rfl ?_
              refine gq_iconst (v := 1) dz_S_pivot_78 rfl ?_
              refine gq_iload dz_S_pivot_79 rfl ?_
              refine gq_ishl dz_S_pivot_81 ?_
              refine gq_ior dz_S_pivot_82 ?_
              refine gw_istore_n 3 dz_S_pivot_83 rfl (Nat.le_of_ble_eq_true rfl) rfl ?_
              dsimp only [List.set]
              refine gw_iinc 4 (c := 1) dz_S_pivot_84 rfl rfl (Nat.le_of_ble_eq_true rfl) rfl ?_
              dsimp only [List.set]
              refine gq_goto (tgt := 23) dz_S_pivot_87 rfl ?_
              simp only [nI_1]
              rw [← zf_or_t (P := zs_pivf X.1 t) (n := p) (by simp [zs_pivf, h58, h74])]
              exact zq_fewer _ (zq_sub_spec (by repeat (first | exact trivial | exact rfl | refine And.intro ?_ ?_))) (ih23 (p + 1) (by omega) (by omega))
    exact zq_fewer _ (zq_sub_spec (by repeat (first | exact trivial | exact rfl | refine And.intro ?_ ?_))) (L23 (za_n X.1 + 1) 0 (by omega) (by omega))
  · skip
    refine gq_iconst (v := -1) dz_S_pivot_7 rfl ?_
    refine gw_iret .int dz_S_pivot_8 rfl (by first | rfl | exact zb_nar _) ?_ ?_
    · rw [zx_pivot, h4]; rfl
    · rfl
set_option maxHeartbeats 4000000 in
theorem sp_S_sameOwnersBy {σ : zq_T} {X : za_X} (hS : zs_rep σ X) (hW : zx_wf X) (set : Int32) : zq_Sp zm_S_sameOwnersBy 5 [zq_O 0 0, zq_I set] σ (zq_rv (zq_I (zb_v (zs_same X.1 set))) σ) := by
  have hA : zc_rep σ σ.2.2.1 X.1 := hS.2.1
  have hw : za_wf X.1 := hW.1
  have hn6 : za_n X.1 ≤ 6 := zc_n6 hA
  have hm5 : za_m X.1 ≤ 5 := zc_m5 hA
  have hs6 : (zx_s X).1 ≤ 6 := hW.2.2.2.1.1
  have hT6 : (zx_T X).1 ≤ 160 := hW.2.2.1.1
  have hN : za_N X.1 ≤ 64 := za_N64 hn6
  refine zq_sp [some (zq_O 0 0), some (zq_I set), none, none] (by decide +kernel) rfl (Nat.le_of_ble_eq_true rfl) (fun ν => ?_)
  refine gq_iconst (v := 0) dz_S_sameOwnersBy_0 rfl ?_
  refine gw_istore_n 2 dz_S_sameOwnersBy_1 rfl (Nat.le_of_ble_eq_true rfl) rfl ?_
  dsimp only [List.set]
  have L2 : ∀ (kf : Nat) (a : Nat) (hkf : za_N X.1 - a < kf) (ha : a ≤ za_N X.1) (hf : zf_all (fun a => zf_all (zs_same1 X.1 set a) 4) a = true), zq_G ν zm_S_sameOwnersBy 5 (zq_rv (zq_I (zb_v (zs_same X.1 set))) σ) 2 [some (zq_O 0 0), some (zq_I set), some (zq_I (nI a)), none] [] σ := by
    intro kf
    induction kf with
    | zero => intro a hkf ha hf; exact absurd hkf (Nat.not_lt_zero _)
    | succ kf ih2 =>
      intro a hkf ha hf
      refine gq_iload_n dz_S_sameOwnersBy_2 rfl ?_
      refine gq_aload_n dz_S_sameOwnersBy_3 rfl ?_
      refine gq_getU zf_S_53 rfl rfl dz_S_sameOwnersBy_4 ?_
      refine gq_cV (sp_D_cases hA) zw_D_cases zl_S_206 dz_S_sameOwnersBy_7 rfl rfl rfl (by decide) rfl rfl (Nat.le_of_ble_eq_true rfl) ?_
      rw [za_caN hn6]
      refine gq_icmp_ge (tgt := 58) dz_S_sameOwnersBy_10 rfl (fun h10 => ?_) (fun h10 => ?_)
      · skip
        refine gq_iconst (v := 1) dz_S_sameOwnersBy_58 rfl ?_
        refine gw_iret .boolean dz_S_sameOwnersBy_59 rfl (by first | rfl | exact zb_nar _) ?_ ?_
        · rw [zs_same, ← zq_leq h10 ha (by omega), hf]; rfl
        · rfl
      · skip
        have a2 : a < za_N X.1 := by rcases Nat.lt_or_ge a (za_N X.1) with z | z; exact z; exact absurd (nI_le z (by omega)) h10
        refine gq_iconst (v := 0) dz_S_sameOwnersBy_13 rfl ?_
        refine gw_istore_n 3 dz_S_sameOwnersBy_14 rfl (Nat.le_of_ble_eq_true rfl) rfl ?_
        dsimp only [List.set]
        have L15 : ∀ (kf : Nat) (t : Nat) (hkf : 4 - t < kf) (ht : t ≤ 4) (hg : zf_all (zs_same1 X.1 set a) t = true), zq_G ν zm_S_sameOwnersBy 5 (zq_rv (zq_I (zb_v (zs_same X.1 set))) σ) 15 [some (zq_O 0 0), some (zq_I set), some (zq_I (nI a)), some (zq_I (nI t))] [] σ := by
          intro kf
          induction kf with
          | zero => intro t hkf ht hg; exact absurd hkf (Nat.not_lt_zero _)
          | succ kf ih15 =>
            intro t hkf ht hg
            refine gq_iload_n dz_S_sameOwnersBy_15 rfl ?_
            refine gq_iconst (v := 4) dz_S_sameOwnersBy_16 rfl ?_
            refine gq_icmp_ge (tgt := 52) dz_S_sameOwnersBy_17 rfl (fun h17 => ?_) (fun h17 => ?_)
            · skip
              refine gw_iinc 2 (c := 1) dz_S_sameOwnersBy_52 rfl rfl (Nat.le_of_ble_eq_true rfl) rfl ?_
              dsimp only [List.set]
              refine gq_goto (tgt := 2) dz_S_sameOwnersBy_55 rfl ?_
              simp only [nI_1]
              have ht4 : t = 4 := zq_leq h17 ht (by omega)
              subst ht4
              exact zq_fewer _ (zq_sub_spec (by repeat (first | exact trivial | exact rfl | refine And.intro ?_ ?_))) (ih2 (a + 1) (by omega) (by omega) (zf_all_ye hf hg))
            · skip
              have t2 : t < 4 := by rcases Nat.lt_or_ge t (4) with z | z; exact z; exact absurd (nI_le z (by omega)) h17
              refine gq_aload_n dz_S_sameOwnersBy_20 rfl ?_
              refine gq_getU zf_S_53 rfl rfl dz_S_sameOwnersBy_21 ?_
              refine gq_iload_n dz_S_sameOwnersBy_24 rfl ?_
              refine gq_iload_n dz_S_sameOwnersBy_25 rfl ?_
              refine gq_iload_n dz_S_sameOwnersBy_26 rfl ?_
              refine gq_cV (sp_D_ownerIn hA hw _ _ _) zw_D_ownerIn zl_S_171 dz_S_sameOwnersBy_27 rfl rfl rfl (by decide) rfl rfl (Nat.le_of_ble_eq_true rfl) ?_
              refine gq_aload_n dz_S_sameOwnersBy_30 rfl ?_
              refine gq_getU zf_S_53 rfl rfl dz_S_sameOwnersBy_31 ?_
              refine gq_iload_n dz_S_sameOwnersBy_34 rfl ?_
              refine gq_iload_n dz_S_sameOwnersBy_35 rfl ?_
              refine gq_bipush (v := 31) dz_S_sameOwnersBy_36 rfl ?_
              refine gq_cV (sp_D_ownerIn hA hw _ _ _) zw_D_ownerIn zl_S_171 dz_S_sameOwnersBy_38 rfl rfl rfl (by decide) rfl rfl (Nat.le_of_ble_eq_true rfl) ?_
              refine gq_icmp_eq (tgt := 46) dz_S_sameOwnersBy_41 rfl (fun h41 => ?_) (fun h41 => ?_)
              · skip
                refine gw_iinc 3 (c := 1) dz_S_sameOwnersBy_46 rfl rfl (Nat.le_of_ble_eq_true rfl) rfl ?_
                dsimp only [List.set]
                refine gq_goto (tgt := 15) dz_S_sameOwnersBy_49 rfl ?_
                simp only [nI_1]
                exact zq_fewer _ (zq_sub_spec (by repeat (first | exact trivial | exact rfl | refine And.intro ?_ ?_))) (ih15 (t + 1) (by omega) (by omega) (zf_all_ye hg (decide_eq_true h41)))
              · skip
                refine gq_iconst (v := 0) dz_S_sameOwnersBy_44 rfl ?_
                refine gw_iret .boolean dz_S_sameOwnersBy_45 rfl (by first | rfl | exact zb_nar _) ?_ ?_
                · rw [zs_same, zf_all_no (P := fun a => zf_all (zs_same1 X.1 set a) 4) a2 (zf_all_no t2 (decide_eq_false h41))]; rfl
                · rfl
        exact zq_fewer _ (zq_sub_spec (by repeat (first | exact trivial | exact rfl | refine And.intro ?_ ?_))) (L15 5 0 (by omega) (by omega) rfl)
  exact zq_fewer _ (zq_sub_spec (by repeat (first | exact trivial | exact rfl | refine And.intro ?_ ?_))) (L2 (za_N X.1 + 1) 0 (by omega) (by omega) rfl)
set_option maxHeartbeats 4000000 in
theorem sp_S_least {σ : zq_T} {X : za_X} (hS : zs_rep σ X) (hW : zx_wf X) (w : Int32) : zq_Sp zm_S_least 6 [zq_O 0 0, zq_I w] σ (zq_rv (zq_I (zx_least X.1 w)) σ) := by
  have hA : zc_rep σ σ.2.2.1 X.1 := hS.2.1
  have hw : za_wf X.1 := hW.1
  have hn6 : za_n X.1 ≤ 6 := zc_n6 hA
  have hm5 : za_m X.1 ≤ 5 := zc_m5 hA
  have hs6 : (zx_s X).1 ≤ 6 := hW.2.2.2.1.1
  have hT6 : (zx_T X).1 ≤ 160 := hW.2.2.1.1
  have hN : za_N X.1 ≤ 64 := za_N64 hn6
  have h2m := za_2m X.1
  have h2m5 := za_2m5 hm5
  have hmm : nI (2 ^ za_m X.1) - 1 = nI (2 ^ za_m X.1 - 1) := pk_sub (a := 2 ^ za_m X.1) (b := 1) h2m
  refine zq_sp [some (zq_O 0 0), some (zq_I w), none, none, none] (by decide +kernel) rfl (Nat.le_of_ble_eq_true rfl) (fun ν => ?_)
  refine gq_iload_n dz_S_least_0 rfl ?_
  refine gq_if_lt (tgt := 9) dz_S_least_1 rfl (fun h1 => ?_) (fun h1 => ?_)
  · skip
    refine gq_iconst (v := -1) dz_S_least_9 rfl ?_
    refine gw_iret .int dz_S_least_10 rfl (by first | rfl | exact zb_nar _) ?_ ?_
    · rw [zx_least, zx_3lt h1]; rfl
    · rfl
  · skip
    refine gq_iload_n dz_S_least_4 rfl ?_
    refine gq_iconst (v := 1) dz_S_least_5 rfl ?_
    refine gq_icmp_le (tgt := 11) dz_S_least_6 rfl (fun h6 => ?_) (fun h6 => ?_)
    · skip
      refine gq_aload_n dz_S_least_11 rfl ?_
      refine gq_getU zf_S_53 rfl rfl dz_S_least_12 ?_
      refine gq_cV (sp_D_allRules hA) zw_D_allRules zl_S_185 dz_S_least_15 rfl rfl rfl (by decide) rfl rfl (Nat.le_of_ble_eq_true rfl) ?_
      rw [za_pm hm5]
      refine gw_istore_n 2 dz_S_least_18 rfl (Nat.le_of_ble_eq_true rfl) rfl ?_
      dsimp only [List.set]
      refine gq_iload_n dz_S_least_19 rfl ?_
      refine gw_istore_n 3 dz_S_least_20 rfl (Nat.le_of_ble_eq_true rfl) rfl ?_
      dsimp only [List.set]
      refine gq_iconst (v := 0) dz_S_least_21 rfl ?_
      refine gw_istore 4 dz_S_least_22 (Nat.le_of_ble_eq_true rfl) rfl ?_
      dsimp only [List.set]
      have L24 : ∀ (kf : Nat) (s : Nat) (hkf : 2 ^ za_m X.1 - s < kf) (hs : s ≤ 2 ^ za_m X.1 - 1), zq_G ν zm_S_least 6 (zq_rv (zq_I (zx_least X.1 w)) σ) 24 [some (zq_O 0 0), some (zq_I w), some (zq_I (nI (2 ^ za_m X.1) - 1)), some (zq_I (zf_fo (zs_lef X.1) (nI (2 ^ za_m X.1) - 1) s)), some (zq_I (nI s))] [] σ := by
        intro kf
        induction kf with
        | zero => intro s hkf hs; exact absurd hkf (Nat.not_lt_zero _)
        | succ kf ih24 =>
          intro s hkf hs
          refine gq_iload dz_S_least_24 rfl ?_
          refine gq_iload_n dz_S_least_26 rfl ?_
          refine gq_icmp_ge (tgt := 60) dz_S_least_27 rfl (fun h27 => ?_) (fun h27 => ?_)
          · skip
            rw [hmm] at h27
            refine gq_iload_n dz_S_least_60 rfl ?_
            refine gq_if_ne (tgt := 71) dz_S_least_61 rfl (fun h61 => ?_) (fun h61 => ?_)
            · skip
              refine gq_iload_n dz_S_least_71 rfl ?_
              refine gw_iret .int dz_S_least_72 rfl (by first | rfl | exact zb_nar _) ?_ ?_
              · rw [zx_least, zx_3ye h1 h6, if_pos rfl, if_neg h61, zs_le, zq_leq h27 hs (by omega)]
              · rfl
            · skip
              refine gq_iload_n dz_S_least_64 rfl ?_
              refine gq_cS (sp_JI_bitCount _) zw_JI_bitCount zl_S_198 dz_S_least_65 (by decide) rfl rfl (Nat.le_of_ble_eq_true rfl) ?_
              refine gq_goto (tgt := 72) dz_S_least_68 rfl ?_
              refine gw_iret .int dz_S_least_72 rfl (by first | rfl | exact zb_nar _) ?_ ?_
              · rw [zx_least, zx_3ye h1 h6, if_pos rfl, if_pos h61, zs_le, zq_leq h27 hs (by omega)]
              · rfl
          · skip
            rw [hmm] at h27
            have s2 : s < 2 ^ za_m X.1 - 1 := by rcases Nat.lt_or_ge s (2 ^ za_m X.1 - 1) with z | z; exact z; exact absurd (nI_le z (by omega)) h27
            refine gq_iload dz_S_least_30 rfl ?_
            refine gq_cS (sp_JI_bitCount _) zw_JI_bitCount zl_S_198 dz_S_least_32 (by decide) rfl rfl (Nat.le_of_ble_eq_true rfl) ?_
            refine gq_iload_n dz_S_least_35 rfl ?_
            refine gq_cS (sp_JI_bitCount _) zw_JI_bitCount zl_S_198 dz_S_least_36 (by decide) rfl rfl (Nat.le_of_ble_eq_true rfl) ?_
            refine gq_icmp_ge (tgt := 54) dz_S_least_39 rfl (fun h39 => ?_) (fun h39 => ?_)
            · skip
              have h39 : ¬ zs_bc (nI s) < zs_bc (zf_fo (zs_lef X.1) (nI (2 ^ za_m X.1) - 1) s) := fun z => by rw [Int32.lt_iff_toInt_lt] at z; rw [Int32.le_iff_toInt_le] at h39; omega
              refine gw_iinc 4 (c := 1) dz_S_least_54 rfl rfl (Nat.le_of_ble_eq_true rfl) rfl ?_
              dsimp only [List.set]
              refine gq_goto (tgt := 24) dz_S_least_57 rfl ?_
              simp only [nI_1]
              rw [show zf_fo (zs_lef X.1) (nI (2 ^ za_m X.1) - 1) s = zf_fo (zs_lef X.1) (nI (2 ^ za_m X.1) - 1) (s + 1) from (if_neg (fun z => h39 z.1)).symm]
              exact zq_fewer _ (zq_sub_spec (by repeat (first | exact trivial | exact rfl | refine And.intro ?_ ?_))) (ih24 (s + 1) (by omega) (by omega))
            · skip
              have h39 : zs_bc (nI s) < zs_bc (zf_fo (zs_lef X.1) (nI (2 ^ za_m X.1) - 1) s) := by rw [Int32.lt_iff_toInt_lt]; rw [Int32.le_iff_toInt_le] at h39; omega
              refine gq_aload_n dz_S_least_42 rfl ?_
              refine gq_iload dz_S_least_43 rfl ?_
              refine gq_cV (sp_S_sameOwnersBy hS hW _) zw_S_sameOwnersBy zl_S_203 dz_S_least_45 rfl rfl rfl (by decide) rfl rfl (Nat.le_of_ble_eq_true rfl) ?_
              refine gw_ifb_eq (tgt := 54) dz_S_least_48 rfl (fun h48 => ?_) (fun h48 => ?_)
              · skip
                refine gw_iinc 4 (c := 1) dz_S_least_54 rfl rfl (Nat.le_of_ble_eq_true rfl) rfl ?_
                dsimp only [List.set]
                refine gq_goto (tgt := 24) dz_S_least_57 rfl ?_
                simp only [nI_1]
                rw [show zf_fo (zs_lef X.1) (nI (2 ^ za_m X.1) - 1) s = zf_fo (zs_lef X.1) (nI (2 ^ za_m X.1) - 1) (s + 1) from (if_neg (fun z => by rw [h48] at z; exact absurd z.2 (by decide))).symm]
                exact zq_fewer _ (zq_sub_spec (by repeat (first | exact trivial | exact rfl | refine And.intro ?_ ?_))) (ih24 (s + 1) (by omega) (by omega))
              · skip
                refine gq_iload dz_S_least_51 rfl ?_
                refine gw_istore_n 3 dz_S_least_53 rfl (Nat.le_of_ble_eq_true rfl) rfl ?_
                dsimp only [List.set]
                refine gw_iinc 4 (c := 1) dz_S_least_54 rfl rfl (Nat.le_of_ble_eq_true rfl) rfl ?_
                dsimp only [List.set]
                refine gq_goto (tgt := 24) dz_S_least_57 rfl ?_
                simp only [nI_1]
                rw [show some (zq_I (nI s)) = some (zq_I (zf_fo (zs_lef X.1) (nI (2 ^ za_m X.1) - 1) (s + 1))) from by rw [show zf_fo (zs_lef X.1) (nI (2 ^ za_m X.1) - 1) (s + 1) = nI s from if_pos ⟨h39, h48⟩]]
                exact zq_fewer _ (zq_sub_spec (by repeat (first | exact trivial | exact rfl | refine And.intro ?_ ?_))) (ih24 (s + 1) (by omega) (by omega))
      exact zq_fewer _ (zq_sub_spec (by repeat (first | exact trivial | exact rfl | refine And.intro ?_ ?_))) (L24 (2 ^ za_m X.1 + 1) 0 (by omega) (by omega))
    · skip
      refine gq_iconst (v := -1) dz_S_least_9 rfl ?_
      refine gw_iret .int dz_S_least_10 rfl (by first | rfl | exact zb_nar _) ?_ ?_
      · rw [zx_least, zx_3gt h6]; rfl
      · rfl
