/-! THE TEXT: tokens (where the next begins, kind, where it began, value): kinds 0 the end, 1 a name, 2 a number, 3 the stop, 4 none -/
abbrev za_T : Type := Nat × (Nat → Int32)
abbrev za_K : Type := Nat × Nat × Nat × Int32
def zt_wf (T : za_T) : Prop := T.1 ≤ 160 ∧ ∀ i, i < T.1 → ∃ c, c < 128 ∧ T.2 i = nI c
def zt_b (T : za_T) (i : Nat) : Int32 := if i < T.1 then T.2 i else -1
def zt_let (c : Int32) : Bool := decide (97 ≤ c ∧ c ≤ 122)
def zt_fig (c : Int32) : Bool := decide (48 ≤ c ∧ c ≤ 57)
def zt_sp (c : Int32) : Bool := decide (c = 32)
def zt_run (P : Int32 → Bool) (T : za_T) : Nat → Nat → Nat
  | 0, i => i
  | n + 1, i => if P (T.2 i) then zt_run P T n (i + 1) else i
def zt_end (P : Int32 → Bool) (T : za_T) (i : Nat) : Nat := zt_run P T (T.1 - i) i
def zt_val (T : za_T) : Nat → Nat → Int32 → Int32
  | 0, _, x => x
  | n + 1, i, x => if zt_fig (T.2 i) then zt_val T n (i + 1) (10 * x + T.2 i - 48) else x
def zt_lexs (T : za_T) (s : Nat) : za_K :=
  if ¬ s < T.1 then (s, 0, s, 0)
  else if zt_let (T.2 s) then (zt_end zt_let T s, 1, s, 0)
  else if zt_fig (T.2 s) then (zt_end zt_fig T s, if zt_end zt_fig T s - s ≤ 2 then 2 else 4, s, zt_val T (T.1 - s) s 0)
  else if T.2 s = 59 then (s + 1, 3, s, 0) else (s + 1, 4, s, 0)
def zt_lex (T : za_T) (a : Nat) : za_K := zt_lexs T (zt_end zt_sp T a)
theorem zt_run_le {P : Int32 → Bool} {T : za_T} : ∀ (n i : Nat), zt_run P T n i ≤ i + n
  | 0, i => Nat.le_refl _
  | n + 1, i => by
    unfold zt_run
    split
    · have := zt_run_le (P := P) (T := T) n (i + 1); omega
    · omega
theorem zt_run_ge {P : Int32 → Bool} {T : za_T} : ∀ (n i : Nat), i ≤ zt_run P T n i
  | 0, i => Nat.le_refl _
  | n + 1, i => by
    unfold zt_run
    split
    · have := zt_run_ge (P := P) (T := T) n (i + 1); omega
    · omega
theorem zt_end_le {P : Int32 → Bool} {T : za_T} {i : Nat} (h : i ≤ T.1) : zt_end P T i ≤ T.1 := by have := zt_run_le (P := P) (T := T) (T.1 - i) i; unfold zt_end; omega
theorem zt_end_ge {P : Int32 → Bool} {T : za_T} {i : Nat} : i ≤ zt_end P T i := zt_run_ge _ _
theorem zt_lex_le {T : za_T} {a : Nat} (h : a ≤ T.1) : (zt_lex T a).1 ≤ T.1 := by
  unfold zt_lex zt_lexs
  have h1 := zt_end_le (P := zt_sp) h
  split
  · exact h1
  · split
    · exact zt_end_le h1
    · split
      · exact zt_end_le h1
      · split <;> (show _ + 1 ≤ _; omega)
theorem zt_lex_st {T : za_T} {a : Nat} (h : a ≤ T.1) : (zt_lex T a).2.2.1 ≤ T.1 ∧ (zt_lex T a).2.2.1 ≤ (zt_lex T a).1 ∧ a ≤ (zt_lex T a).2.2.1 := by
  unfold zt_lex zt_lexs
  have h1 := zt_end_le (P := zt_sp) h
  have h2 : a ≤ zt_end zt_sp T a := zt_end_ge
  split
  · exact ⟨h1, Nat.le_refl _, h2⟩
  · split
    · exact ⟨h1, zt_end_ge, h2⟩
    · split
      · exact ⟨h1, zt_end_ge, h2⟩
      · split <;> exact ⟨h1, Nat.le_succ _, h2⟩
def zt_tp (σ : zq_T) (T : za_T) : Prop := σ.1 1 0 1 = nI T.1 ∧ ∀ i, i < T.1 → σ.1 2 0 i = T.2 i
def zt_tk (σ : zq_T) (K : za_K) : Prop := σ.1 1 0 5 = nI K.1 ∧ σ.1 1 0 2 = nI K.2.1 ∧ σ.1 1 0 3 = nI K.2.2.1 ∧ (K.2.1 = 2 → σ.1 1 0 4 = K.2.2.2)
/-- only the token has changed -/
def zt_same (σ τ : zq_T) : Prop := τ.2 = σ.2 ∧ ∀ (t : Nat) (j : Fin 5) (k : Nat), ¬ (t = 1 ∧ 2 ≤ k ∧ k ≤ 5) → τ.1 t j k = σ.1 t j k
theorem zt_same.rf {σ : zq_T} : zt_same σ σ := ⟨rfl, fun _ _ _ _ => rfl⟩
theorem zt_same.tr {σ τ υ : zq_T} (h : zt_same σ τ) (h2 : zt_same τ υ) : zt_same σ υ := ⟨h2.1.trans h.1, fun t j k q => (h2.2 t j k q).trans (h.2 t j k q)⟩
theorem zt_same.up {σ τ : zq_T} (h : zt_same σ τ) {k : Nat} {j : Fin 5} {v : Int32} (h1 : 2 ≤ k) (h2 : k ≤ 5) : zt_same σ (zq_up τ.1 1 j k v, τ.2) :=
  ⟨h.1, fun t' j' k' q => by
    show zq_up τ.1 1 j k v t' j' k' = σ.1 t' j' k'
    rw [← h.2 t' j' k' q]
    exact if_neg fun z => q ⟨z.1, by omega, by omega⟩⟩
theorem zt_same.tp {σ τ : zq_T} {T : za_T} (h : zt_same σ τ) (hT : zt_tp σ T) : zt_tp τ T := ⟨by rw [h.2 1 0 1 (by omega)]; exact hT.1, fun i hi => by rw [h.2 2 0 i (by omega)]; exact hT.2 i hi⟩
theorem zq_upN {σ : zq_T} {t t' k k' : Nat} {j j' : Fin 5} {v : Int32} (h : ¬ (t' = t ∧ k' = k)) : ((zq_up σ.1 t j k v, σ.2) : zq_T).1 t' j' k' = σ.1 t' j' k' := if_neg fun z => h ⟨z.1, z.2.2⟩

set_option maxHeartbeats 4000000 in
theorem sp_P_isLetter {σ : zq_T} (c : Int32) : zq_Sp zm_P_isLetter 0 [zq_I c] σ (zq_rv (zq_I (zb_v (zt_let c))) σ) := by
  refine zq_sp [some (zq_I c)] (by decide +kernel) rfl (Nat.le_of_ble_eq_true rfl) (fun ν => ?_)
  refine gq_iload_n dz_P_isLetter_0 rfl ?_
  refine gq_bipush (v := 97) dz_P_isLetter_1 rfl ?_
  refine gq_icmp_lt (tgt := 16) dz_P_isLetter_3 rfl (fun h3 => ?_) (fun h3 => ?_)
  · skip
    refine gq_iconst (v := 0) dz_P_isLetter_16 rfl ?_
    refine gw_iret .boolean dz_P_isLetter_17 rfl (by first | rfl | exact zb_nar _ | exact pk_nc _) ?_ ?_
    · rw [zt_let, decide_eq_false (fun z => by have := z.1; rw [Int32.le_iff_toInt_le] at this; rw [Int32.lt_iff_toInt_lt] at h3; omega)]; rfl
    · rfl
  · skip
    refine gq_iload_n dz_P_isLetter_6 rfl ?_
    refine gq_bipush (v := 122) dz_P_isLetter_7 rfl ?_
    refine gq_icmp_gt (tgt := 16) dz_P_isLetter_9 rfl (fun h9 => ?_) (fun h9 => ?_)
    · skip
      refine gq_iconst (v := 0) dz_P_isLetter_16 rfl ?_
      refine gw_iret .boolean dz_P_isLetter_17 rfl (by first | rfl | exact zb_nar _ | exact pk_nc _) ?_ ?_
      · rw [zt_let, decide_eq_false (fun z => by have := z.2; rw [Int32.le_iff_toInt_le] at this; rw [Int32.lt_iff_toInt_lt] at h9; omega)]; rfl
      · rfl
    · skip
      refine gq_iconst (v := 1) dz_P_isLetter_12 rfl ?_
      refine gq_goto (tgt := 17) dz_P_isLetter_13 rfl ?_
      refine gw_iret .boolean dz_P_isLetter_17 rfl (by first | rfl | exact zb_nar _ | exact pk_nc _) ?_ ?_
      · rw [zt_let, decide_eq_true ⟨by rw [Int32.le_iff_toInt_le]; rw [Int32.lt_iff_toInt_lt] at h3; omega, by rw [Int32.le_iff_toInt_le]; rw [Int32.lt_iff_toInt_lt] at h9; omega⟩]; rfl
      · rfl
set_option maxHeartbeats 4000000 in
theorem sp_P_isFigure {σ : zq_T} (c : Int32) : zq_Sp zm_P_isFigure 0 [zq_I c] σ (zq_rv (zq_I (zb_v (zt_fig c))) σ) := by
  refine zq_sp [some (zq_I c)] (by decide +kernel) rfl (Nat.le_of_ble_eq_true rfl) (fun ν => ?_)
  refine gq_iload_n dz_P_isFigure_0 rfl ?_
  refine gq_bipush (v := 48) dz_P_isFigure_1 rfl ?_
  refine gq_icmp_lt (tgt := 16) dz_P_isFigure_3 rfl (fun h3 => ?_) (fun h3 => ?_)
  · skip
    refine gq_iconst (v := 0) dz_P_isFigure_16 rfl ?_
    refine gw_iret .boolean dz_P_isFigure_17 rfl (by first | rfl | exact zb_nar _ | exact pk_nc _) ?_ ?_
    · rw [zt_fig, decide_eq_false (fun z => by have := z.1; rw [Int32.le_iff_toInt_le] at this; rw [Int32.lt_iff_toInt_lt] at h3; omega)]; rfl
    · rfl
  · skip
    refine gq_iload_n dz_P_isFigure_6 rfl ?_
    refine gq_bipush (v := 57) dz_P_isFigure_7 rfl ?_
    refine gq_icmp_gt (tgt := 16) dz_P_isFigure_9 rfl (fun h9 => ?_) (fun h9 => ?_)
    · skip
      refine gq_iconst (v := 0) dz_P_isFigure_16 rfl ?_
      refine gw_iret .boolean dz_P_isFigure_17 rfl (by first | rfl | exact zb_nar _ | exact pk_nc _) ?_ ?_
      · rw [zt_fig, decide_eq_false (fun z => by have := z.2; rw [Int32.le_iff_toInt_le] at this; rw [Int32.lt_iff_toInt_lt] at h9; omega)]; rfl
      · rfl
    · skip
      refine gq_iconst (v := 1) dz_P_isFigure_12 rfl ?_
      refine gq_goto (tgt := 17) dz_P_isFigure_13 rfl ?_
      refine gw_iret .boolean dz_P_isFigure_17 rfl (by first | rfl | exact zb_nar _ | exact pk_nc _) ?_ ?_
      · rw [zt_fig, decide_eq_true ⟨by rw [Int32.le_iff_toInt_le]; rw [Int32.lt_iff_toInt_lt] at h3; omega, by rw [Int32.le_iff_toInt_le]; rw [Int32.lt_iff_toInt_lt] at h9; omega⟩]; rfl
      · rfl
set_option maxHeartbeats 4000000 in
theorem sp_P_rewind {σ : zq_T} : zq_Sp zm_P_rewind 0 [zq_O 1 0] σ (zq_r0 (zq_up σ.1 1 0 5 0, σ.2)) := by
  refine zq_sp [some (zq_O 1 0)] (by decide +kernel) rfl (Nat.le_of_ble_eq_true rfl) (fun ν => ?_)
  refine gq_aload_n dz_P_rewind_0 rfl ?_
  refine gq_iconst (v := 0) dz_P_rewind_1 rfl ?_
  refine gq_putI zv_P_17 rfl rfl dz_P_rewind_2 ?_
  refine gw_vret dz_P_rewind_5 rfl ?_
  · rfl
set_option maxHeartbeats 4000000 in
theorem sp_P_byteAt {σ : zq_T} {T : za_T} (hT : zt_tp σ T) (hw : zt_wf T) {i : Nat} (hi : i < 1000) : zq_Sp zm_P_byteAt 0 [zq_O 1 0, zq_I (nI i)] σ (zq_rv (zq_I (zt_b T i)) σ) := by
  have h160 := hw.1
  refine zq_sp [some (zq_O 1 0), some (zq_I (nI i))] (by decide +kernel) rfl (Nat.le_of_ble_eq_true rfl) (fun ν => ?_)
  refine gq_iload_n dz_P_byteAt_0 rfl ?_
  refine gq_if_lt (tgt := 28) dz_P_byteAt_1 rfl (fun h1 => ?_) (fun h1 => ?_)
  · skip
    exact absurd h1 (nI_pos (by omega))
  · skip
    refine gq_iload_n dz_P_byteAt_4 rfl ?_
    refine gq_aload_n dz_P_byteAt_5 rfl ?_
    refine gq_getI zf_P_13 rfl rfl dz_P_byteAt_6 ?_
    rw [hT.1]
    refine gq_icmp_ge (tgt := 28) dz_P_byteAt_9 rfl (fun h9 => ?_) (fun h9 => ?_)
    · skip
      have hi2 : ¬ i < T.1 := fun z => by have := (nI_leI (by omega) (by omega)).mp h9; omega
      refine gq_iconst (v := -1) dz_P_byteAt_28 rfl ?_
      refine gw_iret .int dz_P_byteAt_29 rfl (by first | rfl | exact zb_nar _ | exact pk_nc _) ?_ ?_
      · rw [zt_b, if_neg hi2]
      · rfl
    · skip
      have hi2 : i < T.1 := by rcases Nat.lt_or_ge i (T.1) with z | z; exact z; exact absurd (nI_le z (by omega)) h9
      refine gq_iload_n dz_P_byteAt_12 rfl ?_
      refine gq_sipush (v := 160) dz_P_byteAt_13 rfl ?_
      refine gq_icmp_ge (tgt := 28) dz_P_byteAt_16 rfl (fun h16 => ?_) (fun h16 => ?_)
      · skip
        exact absurd h16 (nI_ge (b := 160) (by omega) (by omega))
      · skip
        refine gq_aload_n dz_P_byteAt_19 rfl ?_
        refine gq_getR 2 zf_P_9 rfl rfl dz_P_byteAt_20 ?_
        refine gq_iload_n dz_P_byteAt_23 rfl ?_
        refine gw_bald (i) (rfl) rfl (rfl) (Nat.le_of_ble_eq_true rfl) (by omega) dz_P_byteAt_24 ?_
        rw [hT.2 i hi2]
        refine gq_goto (tgt := 29) dz_P_byteAt_25 rfl ?_
        refine gw_iret .int dz_P_byteAt_29 rfl (by first | rfl | exact zb_nar _ | exact pk_nc _) ?_ ?_
        · rw [zt_b, if_pos hi2]
        · rfl
set_option maxHeartbeats 4000000 in
theorem sp_P_readName {σ : zq_T} {T : za_T} (hT : zt_tp σ T) (hw : zt_wf T) {a : Nat} (ha : σ.1 1 0 5 = nI a) (ha2 : a ≤ T.1) : zq_Sp zm_P_readName 1 [zq_O 1 0] σ (zq_rx (fun τ => zt_same σ τ ∧ τ.1 1 0 5 = nI (zt_end zt_let T a) ∧ τ.1 1 0 2 = nI 1 ∧ τ.1 1 0 3 = σ.1 1 0 3)) := by
  have h160 := hw.1
  refine zq_sp [some (zq_O 1 0)] (by decide +kernel) rfl (Nat.le_of_ble_eq_true rfl) (fun ν => ?_)
  refine gq_aload_n dz_P_readName_0 rfl ?_
  refine gq_iconst (v := 1) dz_P_readName_1 rfl ?_
  refine gq_putI zv_P_27 rfl rfl dz_P_readName_2 ?_
  have L5 : ∀ (kf : Nat) (n c : Nat) (τ : zq_T) (hkf : n < kf) (hn : c + n = T.1) (hs : zt_same σ τ) (hc : τ.1 1 0 5 = nI c) (hk : τ.1 1 0 2 = nI 1) (h3 : τ.1 1 0 3 = σ.1 1 0 3) (hv : zt_end zt_let T a = zt_run zt_let T n c), zq_G ν zm_P_readName 1 (zq_rx (fun τ => zt_same σ τ ∧ τ.1 1 0 5 = nI (zt_end zt_let T a) ∧ τ.1 1 0 2 = nI 1 ∧ τ.1 1 0 3 = σ.1 1 0 3)) 5 [some (zq_O 1 0)] [] τ := by
    intro kf
    induction kf with
    | zero => intro n c τ hkf hn hs hc hk h3 hv; exact absurd hkf (Nat.not_lt_zero _)
    | succ kf ih5 =>
      intro n c τ hkf hn hs hc hk h3 hv
      refine gq_aload_n dz_P_readName_5 rfl ?_
      refine gq_getI zf_P_17 rfl rfl dz_P_readName_6 ?_
      rw [hc]
      refine gq_aload_n dz_P_readName_9 rfl ?_
      refine gq_getI zf_P_13 rfl rfl dz_P_readName_10 ?_
      rw [(hs.tp hT).1]
      refine gq_icmp_ge (tgt := 43) dz_P_readName_13 rfl (fun h13 => ?_) (fun h13 => ?_)
      · skip
        have hn0 : n = 0 := by have := (nI_leI (by omega) (by omega)).mp h13; omega
        subst hn0
        refine gw_vretP dz_P_readName_43 rfl ?_
        · exact ⟨hs, by rw [hv]; exact hc, hk, h3⟩
      · skip
        obtain ⟨n, rfl⟩ : ∃ n2, n = n2 + 1 := ⟨n - 1, by rcases n with _ | n; exact absurd (nI_le (by omega) (by omega)) h13; omega⟩
        have hcb : zt_b T c = T.2 c := if_pos (by omega)
        refine gq_aload_n dz_P_readName_16 rfl ?_
        refine gq_aload_n dz_P_readName_17 rfl ?_
        refine gq_getI zf_P_17 rfl rfl dz_P_readName_18 ?_
        rw [hc]
        refine gq_cV (sp_P_byteAt (hs.tp hT) hw (by omega)) zw_P_byteAt zl_P_20 dz_P_readName_21 rfl rfl rfl (by decide) rfl rfl (Nat.le_of_ble_eq_true rfl) ?_
        refine gq_cS (sp_P_isLetter _) zw_P_isLetter zl_P_30 dz_P_readName_24 (by decide) rfl rfl (Nat.le_of_ble_eq_true rfl) ?_
        refine gw_ifb_eq (tgt := 43) dz_P_readName_27 rfl (fun h27 => ?_) (fun h27 => ?_)
        · skip
          rw [hcb] at h27
          refine gw_vretP dz_P_readName_43 rfl ?_
          · exact ⟨hs, by rw [hv, zt_run, h27]; exact hc, hk, h3⟩
        · skip
          rw [hcb] at h27
          refine gq_aload_n dz_P_readName_30 rfl ?_
          refine gq_dup dz_P_readName_31 rfl ?_
          refine gq_getI zf_P_17 rfl rfl dz_P_readName_32 ?_
          rw [hc]
          refine gq_iconst (v := 1) dz_P_readName_35 rfl ?_
          refine gq_iadd dz_P_readName_36 ?_
          rw [nI_1]
          refine gq_putI zv_P_17 rfl rfl dz_P_readName_37 ?_
          refine gq_goto (tgt := 5) dz_P_readName_40 rfl ?_
          exact zq_fewer _ (zq_sub_spec (by repeat (first | exact trivial | exact rfl | refine And.intro ?_ ?_))) (ih5 n (c + 1) _ (by omega) (by omega) (hs.up (by omega) (by omega)) zq_upE ((zq_upN (by omega)).trans hk) ((zq_upN (by omega)).trans h3) (hv.trans (if_pos h27)))
  exact zq_fewer _ (zq_sub_spec (by repeat (first | exact trivial | exact rfl | refine And.intro ?_ ?_))) (L5 (T.1 - a + 1) (T.1 - a) a _ (by omega) (by omega) (zt_same.rf.up (by omega) (by omega)) ((zq_upN (by omega)).trans ha) zq_upE (zq_upN (by omega)) rfl)
theorem zt_fig_num {c v : Int32} : 10 * v + c - 48 = 10 * v + c - 48 := rfl
set_option maxHeartbeats 4000000 in
theorem sp_P_readNumber {σ : zq_T} {T : za_T} (hT : zt_tp σ T) (hw : zt_wf T) {a : Nat} (ha : σ.1 1 0 5 = nI a) (ha2 : a ≤ T.1) (ha3 : σ.1 1 0 3 = nI a) : zq_Sp zm_P_readNumber 1 [zq_O 1 0] σ (zq_rx (fun τ => zt_same σ τ ∧ τ.1 1 0 5 = nI (zt_end zt_fig T a) ∧ τ.1 1 0 2 = nI (if zt_end zt_fig T a - a ≤ 2 then 2 else 4) ∧ τ.1 1 0 3 = nI a ∧ τ.1 1 0 4 = zt_val T (T.1 - a) a 0)) := by
  have h160 := hw.1
  refine zq_sp [some (zq_O 1 0)] (by decide +kernel) rfl (Nat.le_of_ble_eq_true rfl) (fun ν => ?_)
  refine gq_aload_n dz_P_readNumber_0 rfl ?_
  refine gq_iconst (v := 0) dz_P_readNumber_1 rfl ?_
  refine gq_putI zv_P_52 rfl rfl dz_P_readNumber_2 ?_
  have L5 : ∀ (kf : Nat) (n c : Nat) (x : Int32) (τ : zq_T) (hkf : n < kf) (hn : c + n = T.1) (hac : a ≤ c) (hs : zt_same σ τ) (hc : τ.1 1 0 5 = nI c) (h3 : τ.1 1 0 3 = nI a) (hx : τ.1 1 0 4 = x) (hv : zt_end zt_fig T a = zt_run zt_fig T n c) (hvx : zt_val T (T.1 - a) a 0 = zt_val T n c x), zq_G ν zm_P_readNumber 1 (zq_rx (fun τ => zt_same σ τ ∧ τ.1 1 0 5 = nI (zt_end zt_fig T a) ∧ τ.1 1 0 2 = nI (if zt_end zt_fig T a - a ≤ 2 then 2 else 4) ∧ τ.1 1 0 3 = nI a ∧ τ.1 1 0 4 = zt_val T (T.1 - a) a 0)) 5 [some (zq_O 1 0)] [] τ := by
    intro kf
    induction kf with
    | zero => intro n c x τ hkf hn hac hs hc h3 hx hv hvx; exact absurd hkf (Nat.not_lt_zero _)
    | succ kf ih5 =>
      intro n c x τ hkf hn hac hs hc h3 hx hv hvx
      refine gq_aload_n dz_P_readNumber_5 rfl ?_
      refine gq_getI zf_P_17 rfl rfl dz_P_readNumber_6 ?_
      rw [hc]
      refine gq_aload_n dz_P_readNumber_9 rfl ?_
      refine gq_getI zf_P_13 rfl rfl dz_P_readNumber_10 ?_
      rw [(hs.tp hT).1]
      refine gq_icmp_ge (tgt := 66) dz_P_readNumber_13 rfl (fun h13 => ?_) (fun h13 => ?_)
      · skip
        have hn0 : n = 0 := by have := (nI_leI (by omega) (by omega)).mp h13; omega
        subst hn0
        have he : zt_end zt_fig T a = c := hv
        have hev : zt_val T (T.1 - a) a 0 = x := hvx
        refine gq_aload_n dz_P_readNumber_66 rfl ?_
        refine gq_aload_n dz_P_readNumber_67 rfl ?_
        refine gq_getI zf_P_17 rfl rfl dz_P_readNumber_68 ?_
        rw [hc]
        refine gq_aload_n dz_P_readNumber_71 rfl ?_
        refine gq_getI zf_P_24 rfl rfl dz_P_readNumber_72 ?_
        rw [h3]
        refine gq_isub dz_P_readNumber_75 ?_
        rw [pk_sub hac]
        refine gq_iconst (v := 2) dz_P_readNumber_76 rfl ?_
        refine gq_icmp_gt (tgt := 84) dz_P_readNumber_77 rfl (fun h77 => ?_) (fun h77 => ?_)
        · skip
          have h77 : ¬ c - a ≤ 2 := fun z => by rw [Int32.lt_iff_toInt_lt, nI_toInt (by omega)] at h77; have : (2 : Int32).toInt = 2 := rfl; omega
          refine gq_iconst (v := 4) dz_P_readNumber_84 rfl ?_
          refine gq_putI zv_P_27 rfl rfl dz_P_readNumber_85 ?_
          refine gw_vretP dz_P_readNumber_88 rfl ?_
          · exact ⟨hs.up (by omega) (by omega), by rw [he]; exact (zq_upN (by omega)).trans hc, by rw [he, if_neg h77]; exact zq_upE, (zq_upN (by omega)).trans h3, by rw [hev]; exact (zq_upN (by omega)).trans hx⟩
        · skip
          have h77 : c - a ≤ 2 := by rw [Int32.lt_iff_toInt_lt, nI_toInt (by omega)] at h77; have : (2 : Int32).toInt = 2 := rfl; omega
          refine gq_iconst (v := 2) dz_P_readNumber_80 rfl ?_
          refine gq_goto (tgt := 85) dz_P_readNumber_81 rfl ?_
          refine gq_putI zv_P_27 rfl rfl dz_P_readNumber_85 ?_
          refine gw_vretP dz_P_readNumber_88 rfl ?_
          · exact ⟨hs.up (by omega) (by omega), by rw [he]; exact (zq_upN (by omega)).trans hc, by rw [he, if_pos h77]; exact zq_upE, (zq_upN (by omega)).trans h3, by rw [hev]; exact (zq_upN (by omega)).trans hx⟩
      · skip
        obtain ⟨n, rfl⟩ : ∃ n2, n = n2 + 1 := ⟨n - 1, by rcases n with _ | n; exact absurd (nI_le (by omega) (by omega)) h13; omega⟩
        have hcb : zt_b T c = T.2 c := if_pos (by omega)
        refine gq_aload_n dz_P_readNumber_16 rfl ?_
        refine gq_aload_n dz_P_readNumber_17 rfl ?_
        refine gq_getI zf_P_17 rfl rfl dz_P_readNumber_18 ?_
        rw [hc]
        refine gq_cV (sp_P_byteAt (hs.tp hT) hw (by omega)) zw_P_byteAt zl_P_20 dz_P_readNumber_21 rfl rfl rfl (by decide) rfl rfl (Nat.le_of_ble_eq_true rfl) ?_
        refine gq_cS (sp_P_isFigure _) zw_P_isFigure zl_P_37 dz_P_readNumber_24 (by decide) rfl rfl (Nat.le_of_ble_eq_true rfl) ?_
        refine gw_ifb_eq (tgt := 66) dz_P_readNumber_27 rfl (fun h27 => ?_) (fun h27 => ?_)
        · skip
          rw [hcb] at h27
          have he : zt_end zt_fig T a = c := by rw [hv, zt_run, h27]; rfl
          have hev : zt_val T (T.1 - a) a 0 = x := by rw [hvx, zt_val, h27]; rfl
          refine gq_aload_n dz_P_readNumber_66 rfl ?_
          refine gq_aload_n dz_P_readNumber_67 rfl ?_
          refine gq_getI zf_P_17 rfl rfl dz_P_readNumber_68 ?_
          rw [hc]
          refine gq_aload_n dz_P_readNumber_71 rfl ?_
          refine gq_getI zf_P_24 rfl rfl dz_P_readNumber_72 ?_
          rw [h3]
          refine gq_isub dz_P_readNumber_75 ?_
          rw [pk_sub hac]
          refine gq_iconst (v := 2) dz_P_readNumber_76 rfl ?_
          refine gq_icmp_gt (tgt := 84) dz_P_readNumber_77 rfl (fun h77 => ?_) (fun h77 => ?_)
          · skip
            have h77 : ¬ c - a ≤ 2 := fun z => by rw [Int32.lt_iff_toInt_lt, nI_toInt (by omega)] at h77; have : (2 : Int32).toInt = 2 := rfl; omega
            refine gq_iconst (v := 4) dz_P_readNumber_84 rfl ?_
            refine gq_putI zv_P_27 rfl rfl dz_P_readNumber_85 ?_
            refine gw_vretP dz_P_readNumber_88 rfl ?_
            · exact ⟨hs.up (by omega) (by omega), by rw [he]; exact (zq_upN (by omega)).trans hc, by rw [he, if_neg h77]; exact zq_upE, (zq_upN (by omega)).trans h3, by rw [hev]; exact (zq_upN (by omega)).trans hx⟩
          · skip
            have h77 : c - a ≤ 2 := by rw [Int32.lt_iff_toInt_lt, nI_toInt (by omega)] at h77; have : (2 : Int32).toInt = 2 := rfl; omega
            refine gq_iconst (v := 2) dz_P_readNumber_80 rfl ?_
            refine gq_goto (tgt := 85) dz_P_readNumber_81 rfl ?_
            refine gq_putI zv_P_27 rfl rfl dz_P_readNumber_85 ?_
            refine gw_vretP dz_P_readNumber_88 rfl ?_
            · exact ⟨hs.up (by omega) (by omega), by rw [he]; exact (zq_upN (by omega)).trans hc, by rw [he, if_pos h77]; exact zq_upE, (zq_upN (by omega)).trans h3, by rw [hev]; exact (zq_upN (by omega)).trans hx⟩
        · skip
          rw [hcb] at h27
          refine gq_aload_n dz_P_readNumber_30 rfl ?_
          refine gq_bipush (v := 10) dz_P_readNumber_31 rfl ?_
          refine gq_aload_n dz_P_readNumber_33 rfl ?_
          refine gq_getI zf_P_52 rfl rfl dz_P_readNumber_34 ?_
          rw [hx]
          refine gq_imul dz_P_readNumber_37 ?_
          refine gq_aload_n dz_P_readNumber_38 rfl ?_
          refine gq_aload_n dz_P_readNumber_39 rfl ?_
          refine gq_getI zf_P_17 rfl rfl dz_P_readNumber_40 ?_
          rw [hc]
          refine gq_cV (sp_P_byteAt (hs.tp hT) hw (by omega)) zw_P_byteAt zl_P_20 dz_P_readNumber_43 rfl rfl rfl (by decide) rfl rfl (Nat.le_of_ble_eq_true rfl) ?_
          rw [hcb]
          refine gq_iadd dz_P_readNumber_46 ?_
          refine gq_bipush (v := 48) dz_P_readNumber_47 rfl ?_
          refine gq_isub dz_P_readNumber_49 ?_
          refine gq_putI zv_P_52 rfl rfl dz_P_readNumber_50 ?_
          refine gq_aload_n dz_P_readNumber_53 rfl ?_
          refine gq_dup dz_P_readNumber_54 rfl ?_
          refine gq_getI zf_P_17 rfl rfl dz_P_readNumber_55 ?_
          rw [zq_upN (by omega), hc]
          refine gq_iconst (v := 1) dz_P_readNumber_58 rfl ?_
          refine gq_iadd dz_P_readNumber_59 ?_
          rw [nI_1]
          refine gq_putI zv_P_17 rfl rfl dz_P_readNumber_60 ?_
          refine gq_goto (tgt := 5) dz_P_readNumber_63 rfl ?_
          exact zq_fewer _ (zq_sub_spec (by repeat (first | exact trivial | exact rfl | refine And.intro ?_ ?_))) (ih5 n (c + 1) _ _ (by omega) (by omega) (by omega) ((hs.up (by omega) (by omega)).up (by omega) (by omega)) zq_upE ((zq_upN (by omega)).trans ((zq_upN (by omega)).trans h3)) ((zq_upN (by omega)).trans zq_upE) (hv.trans (if_pos h27)) (hvx.trans (if_pos h27)))
  exact zq_fewer _ (zq_sub_spec (by repeat (first | exact trivial | exact rfl | refine And.intro ?_ ?_))) (L5 (T.1 - a + 1) (T.1 - a) a 0 _ (by omega) (by omega) (by omega) (zt_same.rf.up (by omega) (by omega)) ((zq_upN (by omega)).trans ha) ((zq_upN (by omega)).trans ha3) zq_upE rfl rfl)
set_option maxHeartbeats 4000000 in
theorem sp_P_advance {σ : zq_T} {T : za_T} (hT : zt_tp σ T) (hw : zt_wf T) {a : Nat} (ha : σ.1 1 0 5 = nI a) (ha2 : a ≤ T.1) : zq_Sp zm_P_advance 2 [zq_O 1 0] σ (zq_rx (fun τ => zt_same σ τ ∧ zt_tk τ (zt_lex T a))) := by
  have h160 := hw.1
  refine zq_sp [some (zq_O 1 0), none] (by decide +kernel) rfl (Nat.le_of_ble_eq_true rfl) (fun ν => ?_)
  have L0 : ∀ (kf : Nat) (n c : Nat) (τ : zq_T) (hkf : n < kf) (hn : c + n = T.1) (hs : zt_same σ τ) (hc : τ.1 1 0 5 = nI c) (hv : zt_end zt_sp T a = zt_run zt_sp T n c), zq_G ν zm_P_advance 2 (zq_rx (fun τ => zt_same σ τ ∧ zt_tk τ (zt_lex T a))) 0 [some (zq_O 1 0), none] [] τ := by
    intro kf
    induction kf with
    | zero => intro n c τ hkf hn hs hc hv; exact absurd hkf (Nat.not_lt_zero _)
    | succ kf ih0 =>
      intro n c τ hkf hn hs hc hv
      refine gq_aload_n dz_P_advance_0 rfl ?_
      refine gq_getI zf_P_17 rfl rfl dz_P_advance_1 ?_
      rw [hc]
      refine gq_aload_n dz_P_advance_4 rfl ?_
      refine gq_getI zf_P_13 rfl rfl dz_P_advance_5 ?_
      rw [(hs.tp hT).1]
      refine gq_icmp_ge (tgt := 37) dz_P_advance_8 rfl (fun h8 => ?_) (fun h8 => ?_)
      · skip
        have hn0 : n = 0 := by have := (nI_leI (by omega) (by omega)).mp h8; omega
        subst hn0
        have he : zt_end zt_sp T a = c := hv
        refine gq_aload_n dz_P_advance_37 rfl ?_
        refine gq_aload_n dz_P_advance_38 rfl ?_
        refine gq_getI zf_P_17 rfl rfl dz_P_advance_39 ?_
        rw [hc]
        refine gq_putI zv_P_24 rfl rfl dz_P_advance_42 ?_
        refine gq_aload_n dz_P_advance_45 rfl ?_
        refine gq_aload_n dz_P_advance_46 rfl ?_
        refine gq_getI zf_P_17 rfl rfl dz_P_advance_47 ?_
        rw [zq_upN (by omega), hc]
        refine gq_cV (sp_P_byteAt ((hs.up (by omega) (by omega)).tp hT) hw (i := c) (by omega)) zw_P_byteAt zl_P_20 dz_P_advance_50 rfl rfl rfl (by decide) rfl rfl (Nat.le_of_ble_eq_true rfl) ?_
        refine gw_istore_n 1 dz_P_advance_53 rfl (Nat.le_of_ble_eq_true rfl) rfl ?_
        dsimp only [List.set]
        refine gq_iload_n dz_P_advance_54 rfl ?_
        refine gq_if_ge (tgt := 66) dz_P_advance_55 rfl (fun h55 => ?_) (fun h55 => ?_)
        · skip
          have hcl : c < T.1 := by rcases Nat.lt_or_ge c T.1 with z | z; exact z; rw [zt_b, if_neg (by omega)] at h55; exact absurd h55 (by decide)
          have hcb2 : zt_b T c = T.2 c := if_pos hcl
          refine gq_iload_n dz_P_advance_66 rfl ?_
          refine gq_cS (sp_P_isLetter _) zw_P_isLetter zl_P_30 dz_P_advance_67 (by decide) rfl rfl (Nat.le_of_ble_eq_true rfl) ?_
          refine gw_ifb_eq (tgt := 80) dz_P_advance_70 rfl (fun h70 => ?_) (fun h70 => ?_)
          · skip
            rw [hcb2] at h70
            refine gq_iload_n dz_P_advance_80 rfl ?_
            refine gq_cS (sp_P_isFigure _) zw_P_isFigure zl_P_37 dz_P_advance_81 (by decide) rfl rfl (Nat.le_of_ble_eq_true rfl) ?_
            refine gw_ifb_eq (tgt := 94) dz_P_advance_84 rfl (fun h84 => ?_) (fun h84 => ?_)
            · skip
              rw [hcb2] at h84
              refine gq_aload_n dz_P_advance_94 rfl ?_
              refine gq_iload_n dz_P_advance_95 rfl ?_
              refine gq_bipush (v := 59) dz_P_advance_96 rfl ?_
              refine gq_icmp_ne (tgt := 105) dz_P_advance_98 rfl (fun h98 => ?_) (fun h98 => ?_)
              · skip
                rw [hcb2] at h98
                have hx : zt_lex T a = (c + 1, 4, c, 0) := by rw [zt_lex, he, zt_lexs, if_neg (fun z => z hcl), if_neg (by rw [h70]; exact Bool.false_ne_true), if_neg (by rw [h84]; exact Bool.false_ne_true), if_neg h98]
                refine gq_iconst (v := 4) dz_P_advance_105 rfl ?_
                refine gq_putI zv_P_27 rfl rfl dz_P_advance_106 ?_
                refine gq_aload_n dz_P_advance_109 rfl ?_
                refine gq_dup dz_P_advance_110 rfl ?_
                refine gq_getI zf_P_17 rfl rfl dz_P_advance_111 ?_
                rw [zq_upN (by omega), zq_upN (by omega), hc]
                refine gq_iconst (v := 1) dz_P_advance_114 rfl ?_
                refine gq_iadd dz_P_advance_115 ?_
                rw [nI_1]
                refine gq_putI zv_P_17 rfl rfl dz_P_advance_116 ?_
                refine gw_vretP dz_P_advance_119 rfl ?_
                · exact ⟨((((hs.up (by omega) (by omega)).up (by omega) (by omega)).up (by omega) (by omega))), by rw [hx]; exact ⟨zq_upE, (zq_upN (by omega)).trans zq_upE, (zq_upN (by omega)).trans ((zq_upN (by omega)).trans zq_upE), fun z => by simp at z⟩⟩
              · skip
                rw [hcb2] at h98
                have hx : zt_lex T a = (c + 1, 3, c, 0) := by rw [zt_lex, he, zt_lexs, if_neg (fun z => z hcl), if_neg (by rw [h70]; exact Bool.false_ne_true), if_neg (by rw [h84]; exact Bool.false_ne_true), if_pos h98]
                refine gq_iconst (v := 3) dz_P_advance_101 rfl ?_
                refine gq_goto (tgt := 106) dz_P_advance_102 rfl ?_
                refine gq_putI zv_P_27 rfl rfl dz_P_advance_106 ?_
                refine gq_aload_n dz_P_advance_109 rfl ?_
                refine gq_dup dz_P_advance_110 rfl ?_
                refine gq_getI zf_P_17 rfl rfl dz_P_advance_111 ?_
                rw [zq_upN (by omega), zq_upN (by omega), hc]
                refine gq_iconst (v := 1) dz_P_advance_114 rfl ?_
                refine gq_iadd dz_P_advance_115 ?_
                rw [nI_1]
                refine gq_putI zv_P_17 rfl rfl dz_P_advance_116 ?_
                refine gw_vretP dz_P_advance_119 rfl ?_
                · exact ⟨((((hs.up (by omega) (by omega)).up (by omega) (by omega)).up (by omega) (by omega))), by rw [hx]; exact ⟨zq_upE, (zq_upN (by omega)).trans zq_upE, (zq_upN (by omega)).trans ((zq_upN (by omega)).trans zq_upE), fun z => by simp at z⟩⟩
            · skip
              rw [hcb2] at h84
              have hx : zt_lex T a = (zt_end zt_fig T c, if zt_end zt_fig T c - c ≤ 2 then 2 else 4, c, zt_val T (T.1 - c) c 0) := by rw [zt_lex, he, zt_lexs, if_neg (fun z => z hcl), if_neg (by rw [h70]; exact Bool.false_ne_true), if_pos h84]
              refine gq_aload_n dz_P_advance_87 rfl ?_
              refine gq_cVX (sp_P_readNumber ((hs.up (by omega) (by omega)).tp hT) hw (a := c) ((zq_upN (by omega)).trans hc) (by omega) zq_upE) zw_P_readNumber zl_P_40 dz_P_advance_88 rfl rfl rfl (by decide) rfl rfl (Nat.le_of_ble_eq_true rfl) (fun τ88 hq88 => ?_)
              refine gq_goto (tgt := 119) dz_P_advance_91 rfl ?_
              refine gw_vretP dz_P_advance_119 rfl ?_
              · exact ⟨(hs.up (by omega) (by omega)).tr hq88.1, by rw [hx]; exact ⟨hq88.2.1, hq88.2.2.1, hq88.2.2.2.1, fun _ => hq88.2.2.2.2⟩⟩
          · skip
            rw [hcb2] at h70
            have hx : zt_lex T a = (zt_end zt_let T c, 1, c, 0) := by rw [zt_lex, he, zt_lexs, if_neg (fun z => z hcl), if_pos h70]
            refine gq_aload_n dz_P_advance_73 rfl ?_
            refine gq_cVX (sp_P_readName ((hs.up (by omega) (by omega)).tp hT) hw (a := c) ((zq_upN (by omega)).trans hc) (by omega)) zw_P_readName zl_P_34 dz_P_advance_74 rfl rfl rfl (by decide) rfl rfl (Nat.le_of_ble_eq_true rfl) (fun τ74 hq74 => ?_)
            refine gq_goto (tgt := 119) dz_P_advance_77 rfl ?_
            refine gw_vretP dz_P_advance_119 rfl ?_
            · exact ⟨(hs.up (by omega) (by omega)).tr hq74.1, by rw [hx]; exact ⟨hq74.2.1, hq74.2.2.1, hq74.2.2.2.trans zq_upE, fun z => by simp at z⟩⟩
        · skip
          have hcl : ¬ c < T.1 := fun z => by obtain ⟨y, hy, ey⟩ := hw.2 c z; rw [zt_b, if_pos z, ey] at h55; exact h55 (nI_pos' (by omega))
          have hx : zt_lex T a = (c, 0, c, 0) := by rw [zt_lex, he, zt_lexs, if_pos hcl]
          refine gq_aload_n dz_P_advance_58 rfl ?_
          refine gq_iconst (v := 0) dz_P_advance_59 rfl ?_
          refine gq_putI zv_P_27 rfl rfl dz_P_advance_60 ?_
          refine gq_goto (tgt := 119) dz_P_advance_63 rfl ?_
          refine gw_vretP dz_P_advance_119 rfl ?_
          · exact ⟨(hs.up (by omega) (by omega)).up (by omega) (by omega), by rw [hx]; exact ⟨(zq_upN (by omega)).trans ((zq_upN (by omega)).trans hc), zq_upE, (zq_upN (by omega)).trans zq_upE, fun z => by simp at z⟩⟩
      · skip
        obtain ⟨n, rfl⟩ : ∃ n2, n = n2 + 1 := ⟨n - 1, by rcases n with _ | n; exact absurd (nI_le (by omega) (by omega)) h8; omega⟩
        have hcb : zt_b T c = T.2 c := if_pos (by omega)
        refine gq_aload_n dz_P_advance_11 rfl ?_
        refine gq_aload_n dz_P_advance_12 rfl ?_
        refine gq_getI zf_P_17 rfl rfl dz_P_advance_13 ?_
        rw [hc]
        refine gq_cV (sp_P_byteAt (hs.tp hT) hw (by omega)) zw_P_byteAt zl_P_20 dz_P_advance_16 rfl rfl rfl (by decide) rfl rfl (Nat.le_of_ble_eq_true rfl) ?_
        refine gq_bipush (v := 32) dz_P_advance_19 rfl ?_
        refine gq_icmp_ne (tgt := 37) dz_P_advance_21 rfl (fun h21 => ?_) (fun h21 => ?_)
        · skip
          rw [hcb] at h21
          have he : zt_end zt_sp T a = c := by rw [hv, zt_run, zt_sp, decide_eq_false h21]; rfl
          refine gq_aload_n dz_P_advance_37 rfl ?_
          refine gq_aload_n dz_P_advance_38 rfl ?_
          refine gq_getI zf_P_17 rfl rfl dz_P_advance_39 ?_
          rw [hc]
          refine gq_putI zv_P_24 rfl rfl dz_P_advance_42 ?_
          refine gq_aload_n dz_P_advance_45 rfl ?_
          refine gq_aload_n dz_P_advance_46 rfl ?_
          refine gq_getI zf_P_17 rfl rfl dz_P_advance_47 ?_
          rw [zq_upN (by omega), hc]
          refine gq_cV (sp_P_byteAt ((hs.up (by omega) (by omega)).tp hT) hw (i := c) (by omega)) zw_P_byteAt zl_P_20 dz_P_advance_50 rfl rfl rfl (by decide) rfl rfl (Nat.le_of_ble_eq_true rfl) ?_
          refine gw_istore_n 1 dz_P_advance_53 rfl (Nat.le_of_ble_eq_true rfl) rfl ?_
          dsimp only [List.set]
          refine gq_iload_n dz_P_advance_54 rfl ?_
          refine gq_if_ge (tgt := 66) dz_P_advance_55 rfl (fun h55 => ?_) (fun h55 => ?_)
          · skip
            have hcl : c < T.1 := by rcases Nat.lt_or_ge c T.1 with z | z; exact z; rw [zt_b, if_neg (by omega)] at h55; exact absurd h55 (by decide)
            have hcb2 : zt_b T c = T.2 c := if_pos hcl
            refine gq_iload_n dz_P_advance_66 rfl ?_
            refine gq_cS (sp_P_isLetter _) zw_P_isLetter zl_P_30 dz_P_advance_67 (by decide) rfl rfl (Nat.le_of_ble_eq_true rfl) ?_
            refine gw_ifb_eq (tgt := 80) dz_P_advance_70 rfl (fun h70 => ?_) (fun h70 => ?_)
            · skip
              rw [hcb2] at h70
              refine gq_iload_n dz_P_advance_80 rfl ?_
              refine gq_cS (sp_P_isFigure _) zw_P_isFigure zl_P_37 dz_P_advance_81 (by decide) rfl rfl (Nat.le_of_ble_eq_true rfl) ?_
              refine gw_ifb_eq (tgt := 94) dz_P_advance_84 rfl (fun h84 => ?_) (fun h84 => ?_)
              · skip
                rw [hcb2] at h84
                refine gq_aload_n dz_P_advance_94 rfl ?_
                refine gq_iload_n dz_P_advance_95 rfl ?_
                refine gq_bipush (v := 59) dz_P_advance_96 rfl ?_
                refine gq_icmp_ne (tgt := 105) dz_P_advance_98 rfl (fun h98 => ?_) (fun h98 => ?_)
                · skip
                  rw [hcb2] at h98
                  have hx : zt_lex T a = (c + 1, 4, c, 0) := by rw [zt_lex, he, zt_lexs, if_neg (fun z => z hcl), if_neg (by rw [h70]; exact Bool.false_ne_true), if_neg (by rw [h84]; exact Bool.false_ne_true), if_neg h98]
                  refine gq_iconst (v := 4) dz_P_advance_105 rfl ?_
                  refine gq_putI zv_P_27 rfl rfl dz_P_advance_106 ?_
                  refine gq_aload_n dz_P_advance_109 rfl ?_
                  refine gq_dup dz_P_advance_110 rfl ?_
                  refine gq_getI zf_P_17 rfl rfl dz_P_advance_111 ?_
                  rw [zq_upN (by omega), zq_upN (by omega), hc]
                  refine gq_iconst (v := 1) dz_P_advance_114 rfl ?_
                  refine gq_iadd dz_P_advance_115 ?_
                  rw [nI_1]
                  refine gq_putI zv_P_17 rfl rfl dz_P_advance_116 ?_
                  refine gw_vretP dz_P_advance_119 rfl ?_
                  · exact ⟨((((hs.up (by omega) (by omega)).up (by omega) (by omega)).up (by omega) (by omega))), by rw [hx]; exact ⟨zq_upE, (zq_upN (by omega)).trans zq_upE, (zq_upN (by omega)).trans ((zq_upN (by omega)).trans zq_upE), fun z => by simp at z⟩⟩
                · skip
                  rw [hcb2] at h98
                  have hx : zt_lex T a = (c + 1, 3, c, 0) := by rw [zt_lex, he, zt_lexs, if_neg (fun z => z hcl), if_neg (by rw [h70]; exact Bool.false_ne_true), if_neg (by rw [h84]; exact Bool.false_ne_true), if_pos h98]
                  refine gq_iconst (v := 3) dz_P_advance_101 rfl ?_
                  refine gq_goto (tgt := 106) dz_P_advance_102 rfl ?_
                  refine gq_putI zv_P_27 rfl rfl dz_P_advance_106 ?_
                  refine gq_aload_n dz_P_advance_109 rfl ?_
                  refine gq_dup dz_P_advance_110 rfl ?_
                  refine gq_getI zf_P_17 rfl rfl dz_P_advance_111 ?_
                  rw [zq_upN (by omega), zq_upN (by omega), hc]
                  refine gq_iconst (v := 1) dz_P_advance_114 rfl ?_
                  refine gq_iadd dz_P_advance_115 ?_
                  rw [nI_1]
                  refine gq_putI zv_P_17 rfl rfl dz_P_advance_116 ?_
                  refine gw_vretP dz_P_advance_119 rfl ?_
                  · exact ⟨((((hs.up (by omega) (by omega)).up (by omega) (by omega)).up (by omega) (by omega))), by rw [hx]; exact ⟨zq_upE, (zq_upN (by omega)).trans zq_upE, (zq_upN (by omega)).trans ((zq_upN (by omega)).trans zq_upE), fun z => by simp at z⟩⟩
              · skip
                rw [hcb2] at h84
                have hx : zt_lex T a = (zt_end zt_fig T c, if zt_end zt_fig T c - c ≤ 2 then 2 else 4, c, zt_val T (T.1 - c) c 0) := by rw [zt_lex, he, zt_lexs, if_neg (fun z => z hcl), if_neg (by rw [h70]; exact Bool.false_ne_true), if_pos h84]
                refine gq_aload_n dz_P_advance_87 rfl ?_
                refine gq_cVX (sp_P_readNumber ((hs.up (by omega) (by omega)).tp hT) hw (a := c) ((zq_upN (by omega)).trans hc) (by omega) zq_upE) zw_P_readNumber zl_P_40 dz_P_advance_88 rfl rfl rfl (by decide) rfl rfl (Nat.le_of_ble_eq_true rfl) (fun τ88 hq88 => ?_)
                refine gq_goto (tgt := 119) dz_P_advance_91 rfl ?_
                refine gw_vretP dz_P_advance_119 rfl ?_
                · exact ⟨(hs.up (by omega) (by omega)).tr hq88.1, by rw [hx]; exact ⟨hq88.2.1, hq88.2.2.1, hq88.2.2.2.1, fun _ => hq88.2.2.2.2⟩⟩
            · skip
              rw [hcb2] at h70
              have hx : zt_lex T a = (zt_end zt_let T c, 1, c, 0) := by rw [zt_lex, he, zt_lexs, if_neg (fun z => z hcl), if_pos h70]
              refine gq_aload_n dz_P_advance_73 rfl ?_
              refine gq_cVX (sp_P_readName ((hs.up (by omega) (by omega)).tp hT) hw (a := c) ((zq_upN (by omega)).trans hc) (by omega)) zw_P_readName zl_P_34 dz_P_advance_74 rfl rfl rfl (by decide) rfl rfl (Nat.le_of_ble_eq_true rfl) (fun τ74 hq74 => ?_)
              refine gq_goto (tgt := 119) dz_P_advance_77 rfl ?_
              refine gw_vretP dz_P_advance_119 rfl ?_
              · exact ⟨(hs.up (by omega) (by omega)).tr hq74.1, by rw [hx]; exact ⟨hq74.2.1, hq74.2.2.1, hq74.2.2.2.trans zq_upE, fun z => by simp at z⟩⟩
          · skip
            have hcl : ¬ c < T.1 := fun z => by obtain ⟨y, hy, ey⟩ := hw.2 c z; rw [zt_b, if_pos z, ey] at h55; exact h55 (nI_pos' (by omega))
            have hx : zt_lex T a = (c, 0, c, 0) := by rw [zt_lex, he, zt_lexs, if_pos hcl]
            refine gq_aload_n dz_P_advance_58 rfl ?_
            refine gq_iconst (v := 0) dz_P_advance_59 rfl ?_
            refine gq_putI zv_P_27 rfl rfl dz_P_advance_60 ?_
            refine gq_goto (tgt := 119) dz_P_advance_63 rfl ?_
            refine gw_vretP dz_P_advance_119 rfl ?_
            · exact ⟨(hs.up (by omega) (by omega)).up (by omega) (by omega), by rw [hx]; exact ⟨(zq_upN (by omega)).trans ((zq_upN (by omega)).trans hc), zq_upE, (zq_upN (by omega)).trans zq_upE, fun z => by simp at z⟩⟩
        · skip
          rw [hcb] at h21
          refine gq_aload_n dz_P_advance_24 rfl ?_
          refine gq_dup dz_P_advance_25 rfl ?_
          refine gq_getI zf_P_17 rfl rfl dz_P_advance_26 ?_
          rw [hc]
          refine gq_iconst (v := 1) dz_P_advance_29 rfl ?_
          refine gq_iadd dz_P_advance_30 ?_
          rw [nI_1]
          refine gq_putI zv_P_17 rfl rfl dz_P_advance_31 ?_
          refine gq_goto (tgt := 0) dz_P_advance_34 rfl ?_
          exact zq_fewer _ (zq_sub_spec (by repeat (first | exact trivial | exact rfl | refine And.intro ?_ ?_))) (ih0 n (c + 1) _ (by omega) (by omega) (hs.up (by omega) (by omega)) zq_upE (hv.trans (if_pos (by rw [zt_sp, decide_eq_true h21]))))
  exact zq_fewer _ (zq_sub_spec (by repeat (first | exact trivial | exact rfl | refine And.intro ?_ ?_))) (L0 (T.1 - a + 1) (T.1 - a) a _ (by omega) (by omega) zt_same.rf ha rfl)
