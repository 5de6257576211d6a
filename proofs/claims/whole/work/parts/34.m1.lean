/-! THE MODEL: its places hold the same abstract state -/
def zn_par (v : Int32) : Int32 := if v < 0 then 0 else v + 1
def zn_pg (σ : zq_T) (o : Nat) (A : za_D) : Prop := (∀ i, i < 6 → σ.1 31 0 (o + i) = za_fa A i ∧ σ.1 31 0 (o + (6 + i)) = za_tr A i) ∧ σ.1 31 0 (o + 12) = za_g A ∧ (∀ f, f < 5 → σ.1 31 0 (o + (13 + f)) = za_od A f - 5) ∧ ∀ k, k < za_m A → σ.1 31 0 (o + (18 + k)) = za_rk A k ∧ σ.1 31 0 (o + (23 + k)) = za_pi A k
def zn_st (σ : zq_T) (A : za_D) : Prop := za_n A ≤ 6 ∧ za_m A ≤ 5 ∧ σ.1 30 0 3 = nI (za_n A) ∧ σ.1 30 0 4 = nI (za_m A) ∧ (∀ i, i < za_n A → σ.1 32 0 i = zn_par (za_pa A i)) ∧ ∀ k, k < za_m A → σ.1 33 0 (3 * k) = za_th A k ∧ σ.1 33 0 (3 * k + 1) = za_cl A k ∧ σ.1 33 0 (3 * k + 2) = za_nu A k
def zn_rep (σ : zq_T) (A : za_D) : Prop := zn_st σ A ∧ zn_pg σ 0 A
section MR
variable {σ : zq_T} {A : za_D}
theorem zn_n6 (h : zn_rep σ A) : za_n A ≤ 6 := h.1.1
theorem zn_m5 (h : zn_rep σ A) : za_m A ≤ 5 := h.1.2.1
theorem zn_n (h : zn_rep σ A) : σ.1 30 0 3 = nI (za_n A) := h.1.2.2.1
theorem zn_m (h : zn_rep σ A) : σ.1 30 0 4 = nI (za_m A) := h.1.2.2.2.1
theorem zn_pa (h : zn_rep σ A) {i : Nat} (hi : i < za_n A) : σ.1 32 0 i = zn_par (za_pa A i) := h.1.2.2.2.2.1 i hi
theorem zn_th (h : zn_rep σ A) {k : Nat} (hk : k < za_m A) : σ.1 33 0 (3 * k) = za_th A k := (h.1.2.2.2.2.2 k hk).1
theorem zn_cl (h : zn_rep σ A) {k : Nat} (hk : k < za_m A) : σ.1 33 0 (3 * k + 1) = za_cl A k := (h.1.2.2.2.2.2 k hk).2.1
theorem zn_nu (h : zn_rep σ A) {k : Nat} (hk : k < za_m A) : σ.1 33 0 (3 * k + 2) = za_nu A k := (h.1.2.2.2.2.2 k hk).2.2
theorem zn_fa (h : zn_rep σ A) {i : Nat} (hi : i < 6) : σ.1 31 0 i = za_fa A i := by have := (h.2.1 i hi).1; rwa [Nat.zero_add] at this
theorem zn_tr (h : zn_rep σ A) {i : Nat} (hi : i < 6) : σ.1 31 0 (6 + i) = za_tr A i := by have := (h.2.1 i hi).2; rwa [Nat.zero_add] at this
theorem zn_g (h : zn_rep σ A) : σ.1 31 0 12 = za_g A := h.2.2.1
theorem zn_od (h : zn_rep σ A) {f : Nat} (hf : f < 5) : σ.1 31 0 (13 + f) = za_od A f - 5 := by have := h.2.2.2.1 f hf; rwa [Nat.zero_add] at this
theorem zn_rk (h : zn_rep σ A) {k : Nat} (hk : k < za_m A) : σ.1 31 0 (18 + k) = za_rk A k := by have := (h.2.2.2.2 k hk).1; rwa [Nat.zero_add] at this
theorem zn_pi (h : zn_rep σ A) {k : Nat} (hk : k < za_m A) : σ.1 31 0 (23 + k) = za_pi A k := by have := (h.2.2.2.2 k hk).2; rwa [Nat.zero_add] at this
end MR
theorem lg_lt0 {x y : Int64} : lg_cmp x y < 0 ↔ x < y := by
  unfold lg_cmp
  split
  · next h => exact ⟨fun q => absurd q (by decide), fun q => by have h1 := Int64.lt_iff_toInt_lt.mp h; have h2 := Int64.lt_iff_toInt_lt.mp q; omega⟩
  · next h =>
    split
    · next h2 => subst h2; exact ⟨fun q => absurd q (by decide), fun q => absurd q (by rw [Int64.lt_iff_toInt_lt]; omega)⟩
    · next h2 => exact ⟨fun _ => by have h1 : ¬ y.toInt < x.toInt := fun z => h (Int64.lt_iff_toInt_lt.mpr z); have h3 : ¬ x.toInt = y.toInt := fun z => h2 (Int64.toInt_inj.mp z); exact Int64.lt_iff_toInt_lt.mpr (by omega), fun _ => by decide⟩
def zn_in (x lo hi : Int64) : Bool := decide (lo ≤ x ∧ x ≤ hi)
theorem zn_in32 {x : Int32} {lo hi : Int64} : zn_in x.toInt64 lo hi = decide (lo.toInt ≤ x.toInt ∧ x.toInt ≤ hi.toInt) := by
  unfold zn_in
  exact decide_eq_decide.mpr (by rw [Int64.le_iff_toInt_le, Int64.le_iff_toInt_le, Int32.toInt_toInt64])
theorem zn_inn {x : Int32} {n : Nat} (hn : n < 1000) : zn_in x.toInt64 0 (nI n - 1).toInt64 = zb_in x n := by
  rw [zn_in32, Int32.toInt_toInt64]
  unfold zb_in
  refine decide_eq_decide.mpr ?_
  rw [Int32.le_iff_toInt_le, Int32.lt_iff_toInt_lt, nI_toInt (by omega)]
  have h1 : (nI n - 1).toInt = (n : Int) - 1 := by
    rcases n with _ | n
    · rfl
    · rw [nI_pred, nI_toInt (by omega)]; omega
  rw [h1]
  have : (0 : Int64).toInt = 0 := rfl
  have : (0 : Int32).toInt = 0 := rfl
  omega
theorem zn_inc {x : Int32} {n : Nat} {c : Int64} (hc : c.toInt = (n : Int) - 1) (hn : n < 1000) : zn_in x.toInt64 0 c = zb_in x n := by
  rw [zn_in32, hc]
  unfold zb_in
  refine decide_eq_decide.mpr ?_
  rw [Int32.le_iff_toInt_le, Int32.lt_iff_toInt_lt, nI_toInt (by omega)]
  have : (0 : Int64).toInt = 0 := rfl
  have : (0 : Int32).toInt = 0 := rfl
  omega
theorem zn_par_in {A : za_D} (hw : za_wf A) {p q : Nat} (hp : p < za_n A) (hq : q < za_n A) (hn : za_n A ≤ 6) : zn_par (za_pa A q) = zn_par (za_pa A p) ↔ za_pa A q = za_pa A p := by
  have h1 : ∀ i, i < za_n A → zn_par (za_pa A i) = 0 ∧ za_pa A i = -4 ∨ ∃ j, j < i ∧ za_pa A i = nI j ∧ zn_par (za_pa A i) = nI (j + 1) := by
    intro i hi
    rcases (hw.1 i hi).1 with h | ⟨j, hj, h⟩
    · left; rw [h]; exact ⟨rfl, rfl⟩
    · right; refine ⟨j, hj, h, ?_⟩; rw [h, zn_par, if_neg (nI_pos (by omega)), nI_1]
  rcases h1 q hq with ⟨a, b⟩ | ⟨j, hj, b, a⟩ <;> rcases h1 p hp with ⟨a2, b2⟩ | ⟨j2, hj2, b2, a2⟩
  · rw [a, a2, b, b2]; exact ⟨fun _ => rfl, fun _ => rfl⟩
  · rw [a, a2, b, b2]
    exact ⟨fun z => absurd ((nI_eq (a := 0) (by omega) (by omega)).mp z) (by omega), fun z => absurd z (fun y => by have h3 := nI_pos (show j2 < 2 ^ 31 by omega); rw [← y] at h3; exact h3 (by decide))⟩
  · rw [a, a2, b, b2]
    exact ⟨fun z => absurd ((nI_eq (b := 0) (by omega) (by omega)).mp z) (by omega), fun z => absurd z (fun y => by have h3 := nI_pos (show j < 2 ^ 31 by omega); rw [y] at h3; exact h3 (by decide))⟩
  · rw [a, a2, b, b2, nI_eq (by omega) (by omega), nI_eq (by omega) (by omega)]; omega
theorem zn_par_ch {A : za_D} (hw : za_wf A) {p q : Nat} (hp : p < 6) (hq : q < za_n A) (hn : za_n A ≤ 6) : zn_par (za_pa A q) = nI (p + 1) ↔ za_pa A q = nI p := by
  rcases (hw.1 q hq).1 with h | ⟨j, hj, h⟩
  · rw [h]
    exact ⟨fun z => absurd ((nI_eq (a := 0) (by omega) (by omega)).mp z) (by omega), fun z => absurd z (fun y => by have h3 := nI_pos (show p < 2 ^ 31 by omega); rw [← y] at h3; exact h3 (by decide))⟩
  · rw [h, zn_par, if_neg (nI_pos (by omega)), nI_1, nI_eq (by omega) (by omega), nI_eq (by omega) (by omega)]; omega
/-- from one upwards, whether v is met -/
def zn_ab (pa : Nat → Int32) (x : Int32) (s v : Nat) : Bool := if x < 0 then false else (x == nI v) || za_up pa s x.toNatClampNeg v

set_option maxHeartbeats 4000000 in
theorem sp_M_in {σ : zq_T} (x lo hi : Int64) : zq_Sp zm_M_in 0 [zq_L x, zq_L lo, zq_L hi] σ (zq_rv (zq_I (zb_v (zn_in x lo hi))) σ) := by
  refine zq_sp [some (zq_L x), none, some (zq_L lo), none, some (zq_L hi), none] (by decide +kernel) rfl (Nat.le_of_ble_eq_true rfl) (fun ν => ?_)
  refine gq_lload_n dz_M_in_0 rfl ?_
  refine gq_lload_n dz_M_in_1 rfl ?_
  refine gq_lcmp dz_M_in_2 ?_
  refine gq_if_lt (tgt := 17) dz_M_in_3 rfl (fun h3 => ?_) (fun h3 => ?_)
  · skip
    refine gq_iconst (v := 0) dz_M_in_17 rfl ?_
    refine gw_iret .boolean dz_M_in_18 rfl (by first | rfl | exact zb_nar _ | exact pk_nc _) ?_ ?_
    · rw [zn_in, decide_eq_false (fun z => by have := lg_lt0.mp h3; rw [Int64.lt_iff_toInt_lt] at this; have := z.1; rw [Int64.le_iff_toInt_le] at this; omega)]; rfl
    · rfl
  · skip
    refine gq_lload_n dz_M_in_6 rfl ?_
    refine gq_lload dz_M_in_7 rfl ?_
    refine gq_lcmp dz_M_in_9 ?_
    refine gq_if_gt (tgt := 17) dz_M_in_10 rfl (fun h10 => ?_) (fun h10 => ?_)
    · skip
      refine gq_iconst (v := 0) dz_M_in_17 rfl ?_
      refine gw_iret .boolean dz_M_in_18 rfl (by first | rfl | exact zb_nar _ | exact pk_nc _) ?_ ?_
      · rw [zn_in, decide_eq_false (fun z => by have := lg_gt0.mp h10; rw [Int64.lt_iff_toInt_lt] at this; have := z.2; rw [Int64.le_iff_toInt_le] at this; omega)]; rfl
      · rfl
    · skip
      refine gq_iconst (v := 1) dz_M_in_13 rfl ?_
      refine gq_goto (tgt := 18) dz_M_in_14 rfl ?_
      refine gw_iret .boolean dz_M_in_18 rfl (by first | rfl | exact zb_nar _ | exact pk_nc _) ?_ ?_
      · rw [zn_in, decide_eq_true ⟨by rw [lg_lt0, Int64.lt_iff_toInt_lt] at h3; rw [Int64.le_iff_toInt_le]; omega, by rw [lg_gt0, Int64.lt_iff_toInt_lt] at h10; rw [Int64.le_iff_toInt_le]; omega⟩]; rfl
      · rfl
set_option maxHeartbeats 4000000 in
theorem sp_M_isOne {σ : zq_T} {A : za_D} (hA : zn_rep σ A) (p : Int32) : zq_Sp zm_M_isOne 1 [zq_O 30 0, zq_I p] σ (zq_rv (zq_I (zb_v (zb_in p (za_n A)))) σ) := by
  have hn6 := zn_n6 hA
  have hm5 := zn_m5 hA
  refine zq_sp [some (zq_O 30 0), some (zq_I p)] (by decide +kernel) rfl (Nat.le_of_ble_eq_true rfl) (fun ν => ?_)
  refine gq_iload_n dz_M_isOne_0 rfl ?_
  refine gq_i2l dz_M_isOne_1 ?_
  refine gq_lconst (v := 0) dz_M_isOne_2 rfl ?_
  refine gq_aload_n dz_M_isOne_3 rfl ?_
  refine gq_getI zf_M_158 rfl rfl dz_M_isOne_4 ?_
  rw [zn_n hA]
  refine gq_iconst (v := 1) dz_M_isOne_7 rfl ?_
  refine gq_isub dz_M_isOne_8 ?_
  refine gq_i2l dz_M_isOne_9 ?_
  refine gq_cS (sp_M_in _ _ _) zw_M_in zl_M_65 dz_M_isOne_10 (by decide) rfl rfl (Nat.le_of_ble_eq_true rfl) ?_
  refine gw_iret .boolean dz_M_isOne_13 rfl (by first | rfl | exact zb_nar _ | exact pk_nc _) ?_ ?_
  · rw [zn_inn (by omega)]
  · rfl
set_option maxHeartbeats 4000000 in
theorem sp_M_isRule {σ : zq_T} {A : za_D} (hA : zn_rep σ A) (p : Int32) : zq_Sp zm_M_isRule 1 [zq_O 30 0, zq_I p] σ (zq_rv (zq_I (zb_v (zb_in p (za_m A)))) σ) := by
  have hn6 := zn_n6 hA
  have hm5 := zn_m5 hA
  refine zq_sp [some (zq_O 30 0), some (zq_I p)] (by decide +kernel) rfl (Nat.le_of_ble_eq_true rfl) (fun ν => ?_)
  refine gq_iload_n dz_M_isRule_0 rfl ?_
  refine gq_i2l dz_M_isRule_1 ?_
  refine gq_lconst (v := 0) dz_M_isRule_2 rfl ?_
  refine gq_aload_n dz_M_isRule_3 rfl ?_
  refine gq_getI zf_M_161 rfl rfl dz_M_isRule_4 ?_
  rw [zn_m hA]
  refine gq_iconst (v := 1) dz_M_isRule_7 rfl ?_
  refine gq_isub dz_M_isRule_8 ?_
  refine gq_i2l dz_M_isRule_9 ?_
  refine gq_cS (sp_M_in _ _ _) zw_M_in zl_M_65 dz_M_isRule_10 (by decide) rfl rfl (Nat.le_of_ble_eq_true rfl) ?_
  refine gw_iret .boolean dz_M_isRule_13 rfl (by first | rfl | exact zb_nar _ | exact pk_nc _) ?_ ?_
  · rw [zn_inn (by omega)]
  · rfl
set_option maxHeartbeats 4000000 in
theorem sp_M_isThing {σ : zq_T} (p : Int32) : zq_Sp zm_M_isThing 1 [zq_I p] σ (zq_rv (zq_I (zb_v (zb_in p 4))) σ) := by
  refine zq_sp [some (zq_I p)] (by decide +kernel) rfl (Nat.le_of_ble_eq_true rfl) (fun ν => ?_)
  refine gq_iload_n dz_M_isThing_0 rfl ?_
  refine gq_i2l dz_M_isThing_1 ?_
  refine gq_lconst (v := 0) dz_M_isThing_2 rfl ?_
  refine gq_ldc2 zl_M_167 dz_M_isThing_3 ?_
  refine gq_cS (sp_M_in _ _ _) zw_M_in zl_M_65 dz_M_isThing_6 (by decide) rfl rfl (Nat.le_of_ble_eq_true rfl) ?_
  refine gw_iret .boolean dz_M_isThing_9 rfl (by first | rfl | exact zb_nar _ | exact pk_nc _) ?_ ?_
  · rw [zn_inc (n := 4) rfl (by omega)]
  · rfl
set_option maxHeartbeats 4000000 in
theorem sp_M_isFact {σ : zq_T} (p : Int32) : zq_Sp zm_M_isFact 1 [zq_I p] σ (zq_rv (zq_I (zb_v (zb_in p 5))) σ) := by
  refine zq_sp [some (zq_I p)] (by decide +kernel) rfl (Nat.le_of_ble_eq_true rfl) (fun ν => ?_)
  refine gq_iload_n dz_M_isFact_0 rfl ?_
  refine gq_i2l dz_M_isFact_1 ?_
  refine gq_lconst (v := 0) dz_M_isFact_2 rfl ?_
  refine gq_ldc2 zl_M_143 dz_M_isFact_3 ?_
  refine gq_cS (sp_M_in _ _ _) zw_M_in zl_M_65 dz_M_isFact_6 (by decide) rfl rfl (Nat.le_of_ble_eq_true rfl) ?_
  refine gw_iret .boolean dz_M_isFact_9 rfl (by first | rfl | exact zb_nar _ | exact pk_nc _) ?_ ?_
  · rw [zn_inc (n := 5) rfl (by omega)]
  · rfl
set_option maxHeartbeats 4000000 in
theorem sp_M_isThere {σ : zq_T} (p g : Int32) : zq_Sp zm_M_isThere 0 [zq_I p, zq_I g] σ (zq_rv (zq_I (zb_v (!zb_bit g p))) σ) := by
  refine zq_sp [some (zq_I p), some (zq_I g)] (by decide +kernel) rfl (Nat.le_of_ble_eq_true rfl) (fun ν => ?_)
  refine gq_iload_n dz_M_isThere_0 rfl ?_
  refine gq_iload_n dz_M_isThere_1 rfl ?_
  refine gq_ishr dz_M_isThere_2 ?_
  refine gq_iconst (v := 1) dz_M_isThere_3 rfl ?_
  refine gq_iand dz_M_isThere_4 ?_
  refine gq_if_ne (tgt := 12) dz_M_isThere_5 rfl (fun h5 => ?_) (fun h5 => ?_)
  · skip
    refine gq_iconst (v := 0) dz_M_isThere_12 rfl ?_
    refine gw_iret .boolean dz_M_isThere_13 rfl (by first | rfl | exact zb_nar _ | exact pk_nc _) ?_ ?_
    · rw [zb_bit_t h5]; rfl
    · rfl
  · skip
    refine gq_iconst (v := 1) dz_M_isThere_8 rfl ?_
    refine gq_goto (tgt := 13) dz_M_isThere_9 rfl ?_
    refine gw_iret .boolean dz_M_isThere_13 rfl (by first | rfl | exact zb_nar _ | exact pk_nc _) ?_ ?_
    · rw [zb_bit_f h5]; rfl
    · rfl
