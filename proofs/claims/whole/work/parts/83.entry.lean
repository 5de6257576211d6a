/-! WHAT HOLDS AT THE LAW'S ENTRY: texts, statics, classes -/
def zi_A (s : State) : Nat → Prop := fun q => s.heap.size ≤ q
def zi_tm (i : Nat) : Term := Term.string "ThirdSon$Teller" (([63, 72, 77, 82, 87, 152, 154, 156, 158, 160, 162, 164, 166] : List Nat).getD i 0)
def zi_fl : List Cond := flatC (Jvm.Cond.and given_1 narrow_1)
theorem zi_s1 : ∀ i : Fin 13, Cond.exactly (zi_tm i.val) "java/lang/String" ∈ zi_fl := by decide +kernel
theorem zi_s2 : ∀ i : Fin 13, Cond.eq (.field (zi_tm i.val) "java/lang/String" "coder" "B") (.int 0) ∈ zi_fl := by decide +kernel
theorem zi_s3 : ∀ i : Fin 13, Cond.arrayOf (.field (zi_tm i.val) "java/lang/String" "value" "[B") .byte ∈ zi_fl := by decide +kernel
theorem zi_s4 : ∀ i : Fin 13, Cond.eq (.length (.field (zi_tm i.val) "java/lang/String" "value" "[B")) (.int (Int32.ofNat (zq_len.getD i.val 0))) ∈ zi_fl := by decide +kernel
theorem zi_s5 : ∀ (i : Fin 13) (j : Fin 5), j.val < zq_len.getD i.val 0 → Cond.eq (.elem (.field (zi_tm i.val) "java/lang/String" "value" "[B") (.int (Int32.ofNat j.val))) (.int ((zq_byt.getD i.val []).getD j.val 0)) ∈ zi_fl := by decide +kernel
theorem zi_s6_0 : ∀ j : Fin 13, 0 < j.val → zi_fl[([0, 24, 33, 43, 54, 65, 78, 93, 107, 123, 141, 160, 179] : List Nat).getD j.val 0]? = some (Cond.not (Cond.eq (zi_tm 0) (zi_tm j.val))) := by decide +kernel
theorem zi_s6_1 : ∀ j : Fin 13, 1 < j.val → zi_fl[([0, 0, 34, 44, 55, 66, 79, 94, 108, 124, 142, 161, 180] : List Nat).getD j.val 0]? = some (Cond.not (Cond.eq (zi_tm 1) (zi_tm j.val))) := by decide +kernel
theorem zi_s6_2 : ∀ j : Fin 13, 2 < j.val → zi_fl[([0, 0, 0, 45, 56, 67, 80, 95, 109, 125, 143, 162, 181] : List Nat).getD j.val 0]? = some (Cond.not (Cond.eq (zi_tm 2) (zi_tm j.val))) := by decide +kernel
theorem zi_s6_3 : ∀ j : Fin 13, 3 < j.val → zi_fl[([0, 0, 0, 0, 57, 68, 81, 96, 110, 126, 144, 163, 182] : List Nat).getD j.val 0]? = some (Cond.not (Cond.eq (zi_tm 3) (zi_tm j.val))) := by decide +kernel
theorem zi_s6_4 : ∀ j : Fin 13, 4 < j.val → zi_fl[([0, 0, 0, 0, 0, 69, 82, 97, 111, 127, 145, 164, 183] : List Nat).getD j.val 0]? = some (Cond.not (Cond.eq (zi_tm 4) (zi_tm j.val))) := by decide +kernel
theorem zi_s6_5 : ∀ j : Fin 13, 5 < j.val → zi_fl[([0, 0, 0, 0, 0, 0, 83, 98, 112, 128, 146, 165, 184] : List Nat).getD j.val 0]? = some (Cond.not (Cond.eq (zi_tm 5) (zi_tm j.val))) := by decide +kernel
theorem zi_s6_6 : ∀ j : Fin 13, 6 < j.val → zi_fl[([0, 0, 0, 0, 0, 0, 0, 99, 113, 129, 147, 166, 185] : List Nat).getD j.val 0]? = some (Cond.not (Cond.eq (zi_tm 6) (zi_tm j.val))) := by decide +kernel
theorem zi_s6_7 : ∀ j : Fin 13, 7 < j.val → zi_fl[([0, 0, 0, 0, 0, 0, 0, 0, 114, 130, 148, 167, 186] : List Nat).getD j.val 0]? = some (Cond.not (Cond.eq (zi_tm 7) (zi_tm j.val))) := by decide +kernel
theorem zi_s6_8 : ∀ j : Fin 13, 8 < j.val → zi_fl[([0, 0, 0, 0, 0, 0, 0, 0, 0, 131, 149, 168, 187] : List Nat).getD j.val 0]? = some (Cond.not (Cond.eq (zi_tm 8) (zi_tm j.val))) := by decide +kernel
theorem zi_s6_9 : ∀ j : Fin 13, 9 < j.val → zi_fl[([0, 0, 0, 0, 0, 0, 0, 0, 0, 0, 150, 169, 188] : List Nat).getD j.val 0]? = some (Cond.not (Cond.eq (zi_tm 9) (zi_tm j.val))) := by decide +kernel
theorem zi_s6_10 : ∀ j : Fin 13, 10 < j.val → zi_fl[([0, 0, 0, 0, 0, 0, 0, 0, 0, 0, 0, 170, 189] : List Nat).getD j.val 0]? = some (Cond.not (Cond.eq (zi_tm 10) (zi_tm j.val))) := by decide +kernel
theorem zi_s6_11 : ∀ j : Fin 13, 11 < j.val → zi_fl[([0, 0, 0, 0, 0, 0, 0, 0, 0, 0, 0, 0, 190] : List Nat).getD j.val 0]? = some (Cond.not (Cond.eq (zi_tm 11) (zi_tm j.val))) := by decide +kernel
theorem zi_s6l : ∀ i j : Fin 13, i.val < j.val → Cond.not (Cond.eq (zi_tm i.val) (zi_tm j.val)) ∈ zi_fl := by
  intro i j h
  match i, h with
  | ⟨0, _⟩, h => exact List.mem_of_getElem? (zi_s6_0 j h)
  | ⟨1, _⟩, h => exact List.mem_of_getElem? (zi_s6_1 j h)
  | ⟨2, _⟩, h => exact List.mem_of_getElem? (zi_s6_2 j h)
  | ⟨3, _⟩, h => exact List.mem_of_getElem? (zi_s6_3 j h)
  | ⟨4, _⟩, h => exact List.mem_of_getElem? (zi_s6_4 j h)
  | ⟨5, _⟩, h => exact List.mem_of_getElem? (zi_s6_5 j h)
  | ⟨6, _⟩, h => exact List.mem_of_getElem? (zi_s6_6 j h)
  | ⟨7, _⟩, h => exact List.mem_of_getElem? (zi_s6_7 j h)
  | ⟨8, _⟩, h => exact List.mem_of_getElem? (zi_s6_8 j h)
  | ⟨9, _⟩, h => exact List.mem_of_getElem? (zi_s6_9 j h)
  | ⟨10, _⟩, h => exact List.mem_of_getElem? (zi_s6_10 j h)
  | ⟨11, _⟩, h => exact List.mem_of_getElem? (zi_s6_11 j h)
  | ⟨12, _⟩, h => exact absurd h (by have := j.isLt; show ¬ 12 < j.val; omega)
theorem zi_s6 : ∀ i j : Fin 13, i ≠ j → Cond.not (Cond.eq (zi_tm i.val) (zi_tm j.val)) ∈ zi_fl ∨ Cond.not (Cond.eq (zi_tm j.val) (zi_tm i.val)) ∈ zi_fl := by
  intro i j h
  rcases Nat.lt_or_ge i.val j.val with q | q
  · exact Or.inl (zi_s6l i j q)
  · exact Or.inr (zi_s6l j i (Nat.lt_of_le_of_ne q fun e => h (Fin.ext e.symm)))
theorem zi_len : ∀ i : Fin 13, zq_len.getD i.val 0 ≤ 5 := by decide
theorem zi_s7 : Cond.eq (.static "java/lang/String" "COMPACT_STRINGS" "Z") (.int 1) ∈ zi_fl := by decide +kernel
theorem zi_s8 : Cond.isRef (.static "jdk/internal/util/Preconditions" "SIOOBE_FORMATTER" "Ljava/util/function/BiFunction;") ∈ zi_fl := by decide +kernel
theorem zi_s9 : ∀ i : Fin 13, Cond.stringRef "ThirdSon$Teller" (zq_str.getD i.val (0, "")).1 (zq_str.getD i.val (0, "")).2 ∈ lw_tbl := by decide +kernel
theorem zi_s10 : ∀ i : Fin 13, zi_tm i.val = Term.string "ThirdSon$Teller" (zq_str.getD i.val (0, "")).1 := by decide +kernel
theorem zi_t1 : Cond.laysStatic "java/lang/String" "COMPACT_STRINGS" "Z" ∈ lw_tbl := List.mem_of_getElem? (i := 330) (by decide +kernel)
theorem zi_t2 : Cond.laysStatic "jdk/internal/util/Preconditions" "SIOOBE_FORMATTER" "Ljava/util/function/BiFunction;" ∈ lw_tbl := List.mem_of_getElem? (i := 346) (by decide +kernel)
theorem zi_t3 : Cond.initialized "java/lang/String" ∈ lw_tbl := List.mem_of_getElem? (i := 67) (by decide +kernel)
theorem zi_t4 : Cond.initialized "jdk/internal/util/Preconditions" ∈ lw_tbl := List.mem_of_getElem? (i := 69) (by decide +kernel)
theorem zi_t5 : Cond.arrayOver (.array .int) ∈ lw_tbl := List.mem_of_getElem? (i := 140) (by decide +kernel)
theorem zi_n1 : Cond.methodLinkNest "ThirdSon" 11 zm_P_init.1 "ThirdSon" ∈ lw_tbl := List.mem_of_getElem? (i := 83) (by decide +kernel)
theorem zi_n2 : Cond.methodLinkNest "ThirdSon" 18 zm_E_init.1 "ThirdSon" ∈ lw_tbl := List.mem_of_getElem? (i := 114) (by decide +kernel)
theorem zi_n3 : Cond.methodLinkNest "ThirdSon" 25 zm_H_init.1 "ThirdSon" ∈ lw_tbl := List.mem_of_getElem? (i := 135) (by decide +kernel)
theorem zi_n4 : Cond.methodLinkNest "ThirdSon$Duchy" 90 zm_S_isFact.1 "ThirdSon" ∈ lw_tbl := List.mem_of_getElem? (i := 542) (by decide +kernel)
theorem zi_n5 : Cond.methodLinkNest "ThirdSon$Teller" 129 zm_S_isFact.1 "ThirdSon" ∈ lw_tbl := List.mem_of_getElem? (i := 417) (by decide +kernel)
theorem zi_str {s : State} {b : Nat} (hts : ∀ w ∈ lw_tbl, w.before #[Value.ref b] s = true) (hgv : (Jvm.Cond.and given_1 narrow_1).before #[Value.ref b] s = true) : ∃ (adK adV : Nat → Nat) (fm : Nat), vk_S 13 zq_len zq_byt adK adV (zi_A s) s s.heap ∧ va_Z "java/lang/String" "COMPACT_STRINGS" "Z" (.int 1) (zi_A s) s s.heap ∧ (va_Z "jdk/internal/util/Preconditions" "SIOOBE_FORMATTER" "Ljava/util/function/BiFunction;" .null (zi_A s) s s.heap ∨ va_Z "jdk/internal/util/Preconditions" "SIOOBE_FORMATTER" "Ljava/util/function/BiFunction;" (.ref fm) (zi_A s) s s.heap) ∧ ∀ (i : Nat) (q : Nat × String), zq_str[i]? = some q → vk_R "ThirdSon$Teller" q.1 q.2 (adK i) s := by
  have hs : ∀ w ∈ zi_fl, w.before #[Value.ref b] s = true := flat_of_before _ hgv
  have hA : ∀ a : Nat, a < s.heap.size → ¬ zi_A s a := fun a h => Nat.not_le.mpr h
  obtain ⟨adK, adV, h1, h2⟩ := vk_Sof (args := #[Value.ref b]) (s := s) (N := 13) (tm := zi_tm) (len := zq_len) (byt := zq_byt) (A := zi_A s) (fun i hi => Nat.lt_of_le_of_lt (zi_len ⟨i, hi⟩) (by decide)) (fun i hi => hs _ (zi_s1 ⟨i, hi⟩)) (fun i hi => hs _ (zi_s2 ⟨i, hi⟩)) (fun i hi => hs _ (zi_s3 ⟨i, hi⟩)) (fun i hi => hs _ (zi_s4 ⟨i, hi⟩)) (fun i hi j hj => hs _ (zi_s5 ⟨i, hi⟩ ⟨j, Nat.lt_of_lt_of_le hj (zi_len ⟨i, hi⟩)⟩ hj)) (fun i j hi hj hne => (zi_s6 ⟨i, hi⟩ ⟨j, hj⟩ (fun e => hne (Fin.mk.inj_iff.mp e))).imp (hs _) (hs _)) hA
  have hF := va_Zqof (A := zi_A s) (hts _ zi_t2) (hts _ zi_t4) (hs _ zi_s8) hA
  have hC := va_Zof (A := zi_A s) (hts _ zi_t1) (hts _ zi_t3) (va_eqt (hs _ zi_s7)) hA
  have hR : ∀ (i : Nat) (q : Nat × String), zq_str[i]? = some q → vk_R "ThirdSon$Teller" q.1 q.2 (adK i) s := by
    intro i q hq
    have hi : i < 13 := (List.getElem?_eq_some_iff.mp hq).1
    have e : zq_str.getD i (0, "") = q := by rw [List.getD_eq_getElem?_getD, hq]; rfl
    have g1 := hts _ (zi_s9 ⟨i, hi⟩)
    have g2 := h2 i hi
    rw [zi_s10 ⟨i, hi⟩] at g2
    simp only [e] at g1 g2
    exact vk_R.of g1 g2
  rcases hF with h | ⟨t, h⟩
  · exact ⟨adK, adV, 0, h1, hC, Or.inl h, hR⟩
  · exact ⟨adK, adV, t, h1, hC, Or.inr h, hR⟩
theorem zi_aK {s : State} {args : Array Value} {ty : FieldType} (hp : ∀ c, (s.vm.findClass ("[" ++ ty.toString) = some c) → va_RA s c ty) (h : (Cond.arrayClass ty).before args s = true) : ∃ c, ArrOfT s c ty ∧ va_RA s c ty := by
  obtain ⟨comp, kC, cc, h1, h2, h3⟩ := Cond.arrayClass_spec h
  exact ⟨comp, fun n z => ⟨fun k h => (by cases h), kC, h2, cc, h3⟩, hp comp h1⟩
theorem zi_cls {s : State} {b : Nat} (hts : ∀ w ∈ lw_tbl, w.before #[Value.ref b] s = true) : ∃ (D : va_G) (κ : Nat → ClassId), va_K D zq_cl (zi_ty κ) s := by
  have ht : ∀ w ∈ zq_tbl, w.before #[Value.ref b] s = true := fun w hw => hts w (List.mem_filter.mp hw).1
  obtain ⟨c0, i0, k0⟩ := u_known (C := RX0) (T := TX0) (N := 13) (n := 13) ht zq_in0 (ht _ zo_D)
  obtain ⟨c1, i1, k1⟩ := u_known (C := RX1) (T := TX1) (N := 3) (n := 3) ht zq_in1 (ht _ zo_H)
  obtain ⟨c2, i2, k2⟩ := u_known (C := RX2) (T := TX2) (N := 6) (n := 6) ht zq_in2 (ht _ zo_P)
  obtain ⟨c3, i3, k3⟩ := u_known (C := RX3) (T := TX3) (N := 4) (n := 4) ht zq_in3 (ht _ zo_E)
  obtain ⟨c4, i4, k4⟩ := u_known (C := RX4) (T := TX4) (N := 15) (n := 15) ht zq_in4 (ht _ zo_S)
  obtain ⟨c5, i5, k5⟩ := u_known (C := RX5) (T := TX5) (N := 34) (n := 34) ht zq_in5 (ht _ zo_M)
  obtain ⟨a1, p1, r1⟩ := zi_aK (ty := .int) (fun _ h => h) (ht _ zi_arrI)
  obtain ⟨a2, p2, r2⟩ := zi_aK (ty := .byte) (fun _ h => h) (ht _ zi_arrB)
  obtain ⟨a3, p3, r3⟩ := zi_aK (ty := .long) (fun _ h => h) (ht _ zi_arrL)
  obtain ⟨a4, p4, r4⟩ := zi_aK (ty := .boolean) (fun _ h => h) (ht _ zi_arrZ)
  obtain ⟨comp, a5, kA, g1, -, g2, g3, g4⟩ := zj_over (hts _ zi_t5)
  have p5 : ArrOfT s a5 (.array .int) := fun n z => ⟨fun k h => (by cases h), kA, g2, comp, g3⟩
  have r5 : va_RA s a5 (.array .int) := (congrArg s.vm.findClass (show "[" ++ (FieldType.array FieldType.int).toString = "[[I" by decide +kernel)).trans g4
  refine ⟨(fun k => ([c0, c1, c2, c3, c4, c5] : List ClassId).getD k c0, fun k => ([i0, i1, i2, i3, i4, i5] : List (Nat → Nat)).getD k i0), fun k => ([a1, a1, a2, a3, a4, a5] : List ClassId).getD k a1, fun k q hq => ?_, fun k q hq => ?_⟩
  · match k, hq with
    | 0, hq => cases hq; exact k0
    | 1, hq => cases hq; exact k1
    | 2, hq => cases hq; exact k2
    | 3, hq => cases hq; exact k3
    | 4, hq => cases hq; exact k4
    | 5, hq => cases hq; exact k5
    | k + 6, hq => simp at hq
  · match k, hq with
    | 0, hq => cases hq; exact ⟨p1, r1⟩
    | 1, hq => cases hq; exact ⟨p2, r2⟩
    | 2, hq => cases hq; exact ⟨p3, r3⟩
    | 3, hq => cases hq; exact ⟨p4, r4⟩
    | 4, hq => cases hq; exact ⟨p5, r5⟩
    | k + 5, hq => simp [zi_ty] at hq
