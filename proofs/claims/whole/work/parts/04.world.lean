/-! THE PURE MACHINE. A place of the world is (t, j): t its kind, j which one (only Duchies and sheets' rows have more than one).
A pure state: ints of fields and arrays, the longs of the model's row, which duchy is 'duchy' and which is 'draft'. -/
abbrev zq_R : Type := Nat × Fin 5
abbrev zq_V : Type := Int32 ⊕ (Int64 ⊕ Option zq_R)
abbrev zq_I (x : Int32) : zq_V := Sum.inl x
abbrev zq_L (x : Int64) : zq_V := Sum.inr (Sum.inl x)
abbrev zq_O (t : Nat) (j : Fin 5) : zq_V := Sum.inr (Sum.inr (some (t, j)))
abbrev zq_T : Type := (Nat → Fin 5 → Nat → Int32) × (Nat → Int64) × Fin 5 × Fin 5
/-- addresses of places (texts: 100 + i, their bytes: 200 + i, the script: 60), classes and slots, array classes by tag, where the world begins, the script and its length -/
abbrev zq_E : Type := (Nat → Fin 5 → Nat) × va_G × (Nat → ClassId) × Nat × (Nat → Int32) × Nat
def zq_A (ν : zq_E) : Nat → Prop := fun q => ν.2.2.2.1 ≤ q
def zq_up (f : Nat → Fin 5 → Nat → Int32) (t : Nat) (j : Fin 5) (k : Nat) (x : Int32) : Nat → Fin 5 → Nat → Int32 := fun t' j' k' => if t' = t ∧ j' = j ∧ k' = k then x else f t' j' k'
abbrev zq_cl : List vw_C := [(RX0, TX0, 13), (RX1, TX1, 3), (RX2, TX2, 6), (RX3, TX3, 4), (RX4, TX4, 15), (RX5, TX5, 34)]
/-- kinds: (0, class, fields); (tag, size, 0): 1 ints, 2 bytes, 3 longs, 4 booleans, 5 rows of ints; 9: none -/
def zq_kd (t : Nat) : Nat × Nat × Nat := ([(0, 4, 15), (0, 2, 6), (2, 160, 0), (0, 3, 4), (0, 1, 3), (5, 4, 0), (1, 40, 0), (1, 4, 0), (1, 4, 0), (9, 0, 0), (0, 0, 13), (1, 6, 0), (1, 6, 0), (1, 6, 0), (1, 6, 0), (1, 5, 0), (1, 5, 0), (1, 5, 0), (1, 5, 0), (1, 5, 0), (1, 5, 0), (1, 3, 0), (1, 6, 0), (1, 6, 0), (9, 0, 0), (9, 0, 0), (9, 0, 0), (9, 0, 0), (9, 0, 0), (9, 0, 0), (0, 5, 34), (1, 112, 0), (1, 6, 0), (1, 15, 0), (1, 28, 0), (1, 6, 0), (1, 15, 0), (1, 160, 0), (1, 14, 0), (1, 52, 0), (1, 6, 0), (1, 3, 0), (3, 128, 0), (1, 12, 0), (4, 2, 0), (1, 4, 0), (1, 4, 0), (1, 160, 0)] : List (Nat × Nat × Nat)).getD t (9, 0, 0)
/-- fields: (0, _) an int; (1, t) the place of kind t beside it; (2, j) the duchy j; (3, _) 'duchy'; (4, _) 'draft' -/
def zq_ff (t k : Nat) : Nat × Nat := match t with
  | 0 => ([(1, 1), (1, 3), (1, 4), (2, 0), (2, 1), (2, 2), (1, 21), (1, 22), (1, 23), (3, 0), (4, 0)] : List (Nat × Nat)).getD k (0, 0)
  | 1 => ([(1, 2)] : List (Nat × Nat)).getD k (0, 0)
  | 4 => ([(1, 5), (1, 7), (1, 8)] : List (Nat × Nat)).getD k (0, 0)
  | 10 => ([(0, 0), (0, 0), (0, 0), (1, 11), (1, 12), (1, 13), (1, 14), (1, 15), (1, 16), (1, 17), (1, 18), (1, 19), (1, 20)] : List (Nat × Nat)).getD k (0, 0)
  | 30 => ([(1, 31), (1, 32), (1, 33), (0, 0), (0, 0), (1, 34), (1, 35), (1, 36), (0, 0), (0, 0), (0, 0), (0, 0), (1, 37), (0, 0), (0, 0), (0, 0), (0, 0), (0, 0), (0, 0), (0, 0), (0, 0), (1, 38), (1, 39), (1, 40), (1, 41), (0, 0), (1, 42), (1, 43), (0, 0), (1, 44), (1, 45), (1, 46), (1, 47)] : List (Nat × Nat)).getD k (0, 0)
  | _ => (0, 0)
def zq_fin (a : Nat) : Fin 5 := ⟨a % 5, Nat.mod_lt _ (by decide)⟩
def zq_fv (σ : zq_T) (t : Nat) (j : Fin 5) (k : Nat) : zq_V := match zq_ff t k with
  | (0, _) => zq_I (σ.1 t j k)
  | (1, t') => zq_O t' j
  | (2, a) => zq_O 10 (zq_fin a)
  | (3, _) => zq_O 10 σ.2.2.1
  | _ => zq_O 10 σ.2.2.2
def zq_ev (ν : zq_E) : zq_V → Value
  | .inl x => .int x
  | .inr (.inl x) => .long x
  | .inr (.inr none) => .null
  | .inr (.inr (some r)) => .ref (ν.1 r.1 r.2)
def zq_rows (ν : zq_E) : Nat → Option Nat := fun i => if h : i < 4 then some (ν.1 6 ⟨i, by omega⟩) else none
def zq_el (ν : zq_E) (σ : zq_T) (t : Nat) (j : Fin 5) : va_E := match zq_kd t with
  | (0, ci, N) => .inr (ci, (List.range N).map (fun k => zq_ev ν (zq_fv σ t j k)))
  | (3, n, _) => .inl (ν.2.2.1 3, n, .inr (.inl σ.2.1))
  | (5, n, _) => .inl (ν.2.2.1 5, n, .inr (.inr (.inr (.inr (zq_rows ν)))))
  | (g, n, _) => .inl (ν.2.2.1 g, n, .inl (σ.1 t j))
def zq_vd (t : Nat) (j : Fin 5) : Bool := (Nat.ble 10 t && Nat.ble t 20) || ((t == 6 && Nat.blt j.val 4) || ([0, 1, 2, 3, 4, 5, 7, 8, 21, 22, 23, 30, 31, 32, 33, 34, 35, 36, 37, 38, 39, 40, 41, 42, 43, 44, 45, 46, 47].contains t && j == 0))
def zq_cs : List zq_R := [0, 1, 2, 3, 4, 5, 7, 8, 21, 22, 23, 30, 31, 32, 33, 34, 35, 36, 37, 38, 39, 40, 41, 42, 43, 44, 45, 46, 47].map (fun t => (t, 0)) ++ ([(6, 0), (6, 1), (6, 2), (6, 3)] ++ [10, 11, 12, 13, 14, 15, 16, 17, 18, 19, 20].flatMap (fun t => [(t, 0), (t, 1), (t, 2), (t, 3), (t, 4)]))
theorem zq_cs_len : zq_cs.length = 88 := by decide +kernel
theorem zq_cs_nd : ∀ i j : Fin 88, zq_cs[i.val]? = zq_cs[j.val]? → i = j := by decide +kernel
theorem zq_inj {i j : Nat} {r : zq_R} (hi : zq_cs[i]? = some r) (hj : zq_cs[j]? = some r) : i = j := by
  have h1 := (List.getElem?_eq_some_iff.mp hi).1
  have h2 := (List.getElem?_eq_some_iff.mp hj).1
  rw [zq_cs_len] at h1 h2
  exact Fin.mk.inj_iff.mp (zq_cs_nd ⟨i, h1⟩ ⟨j, h2⟩ (hi.trans hj.symm))
theorem zq_cs_multi : ∀ t : Fin 21, ∀ j : Fin 5, 10 ≤ t.val → (t.val, j) ∈ zq_cs := by decide +kernel
theorem zq_cs_rows : ∀ j : Fin 5, j.val < 4 → (6, j) ∈ zq_cs := by decide +kernel
theorem zq_cs_one : ∀ t ∈ [0, 1, 2, 3, 4, 5, 7, 8, 21, 22, 23, 30, 31, 32, 33, 34, 35, 36, 37, 38, 39, 40, 41, 42, 43, 44, 45, 46, 47], (t, 0) ∈ zq_cs := by decide +kernel
theorem zq_mem {t : Nat} {j : Fin 5} (h : zq_vd t j = true) : (t, j) ∈ zq_cs := by
  unfold zq_vd at h
  rw [Bool.or_eq_true, Bool.or_eq_true, Bool.and_eq_true, Bool.and_eq_true, Bool.and_eq_true] at h
  rcases h with ⟨h1, h2⟩ | ⟨h1, h2⟩ | ⟨h1, h2⟩
  · have h3 := Nat.le_of_ble_eq_true h1
    have h4 := Nat.le_of_ble_eq_true h2
    exact zq_cs_multi ⟨t, by omega⟩ j h3
  · have h3 : t = 6 := by simpa using h1
    subst h3
    exact zq_cs_rows j (by simpa [Nat.blt_eq] using h2)
  · have h3 : j = 0 := by simpa using h2
    subst h3
    exact zq_cs_one t (List.contains_iff_mem.mp h1)
/-- the world's cells -/
def zq_ws (ν : zq_E) (σ : zq_T) : va_W := zq_cs.map (fun r => (ν.1 r.1 r.2, zq_el ν σ r.1 r.2))
def zq_ok (ν : zq_E) : Prop := (∀ r ∈ zq_cs, ∀ r' ∈ zq_cs, ν.1 r.1 r.2 = ν.1 r'.1 r'.2 → r = r') ∧ ∀ r ∈ zq_cs, ν.2.2.2.1 ≤ ν.1 r.1 r.2
theorem zq_D {ν : zq_E} (h : zq_ok ν) (σ : zq_T) : va_D (zq_A ν) (zq_ws ν σ) := by
  refine ⟨fun i j p q hp hq e => ?_, fun k q hk => ?_⟩
  · simp only [zq_ws, List.getElem?_map, Option.map_eq_some_iff] at hp hq
    obtain ⟨r, hr, rfl⟩ := hp
    obtain ⟨r', hr', rfl⟩ := hq
    have e2 := h.1 r (List.mem_of_getElem? hr) r' (List.mem_of_getElem? hr') e
    subst e2
    exact zq_inj hr hr'
  · simp only [zq_ws, List.getElem?_map, Option.map_eq_some_iff] at hk
    obtain ⟨r, hr, rfl⟩ := hk
    exact h.2 r (List.mem_of_getElem? hr)
theorem zq_at {t : Nat} {j : Fin 5} (h : zq_vd t j = true) : ∃ k : Nat, zq_cs[k]? = some (t, j) ∧ ∀ (ν : zq_E) (σ : zq_T), (zq_ws ν σ)[k]? = some (ν.1 t j, zq_el ν σ t j) := by
  obtain ⟨k, hk⟩ := List.getElem?_of_mem (zq_mem h)
  exact ⟨k, hk, fun ν σ => by simp [zq_ws, hk]⟩
theorem zq_set {ν : zq_E} {σ σ' : zq_T} {t : Nat} {j : Fin 5} {k : Nat} {x : va_E} (hk : zq_cs[k]? = some (t, j)) (hx : x = zq_el ν σ' t j) (ho : ∀ t' j', (t', j') ∈ zq_cs → (t', j') ≠ (t, j) → zq_el ν σ t' j' = zq_el ν σ' t' j') : (zq_ws ν σ).set k (ν.1 t j, x) = zq_ws ν σ' := by
  subst hx
  refine List.ext_getElem? fun i => ?_
  rw [List.getElem?_set]
  by_cases e : k = i
  · subst e
    have hl : k < (zq_ws ν σ).length := by
      have := (List.getElem?_eq_some_iff.mp hk).1
      simpa [zq_ws] using this
    rw [if_pos rfl, if_pos hl]
    simp [zq_ws, hk]
  · rw [if_neg e]
    simp only [zq_ws, List.getElem?_map]
    cases hi : zq_cs[i]? with
    | none => rfl
    | some r =>
      have hne : r ≠ (t, j) := by
        intro e2
        subst e2
        exact e (zq_inj hk hi)
      simp only [Option.map_some]
      rw [ho r.1 r.2 (List.mem_of_getElem? hi) hne]
/-- what stays of the state of the machine: texts, statics, the script -/
def zq_tys (ν : zq_E) : List (ClassId × FieldType) := [(ν.2.2.1 1, .int), (ν.2.2.1 2, .byte), (ν.2.2.1 3, .long), (ν.2.2.1 4, .boolean), (ν.2.2.1 5, .array .int)]
def zq_len : List Nat := [3, 4, 4, 4, 4, 3, 4, 5, 3, 4, 5, 5, 4]
def zq_byt : List (List Int32) := [[111, 110, 101], [102, 97, 99, 116], [103, 111, 110, 101], [111, 100, 100, 115], [114, 117, 108, 101], [97, 110, 121], [98, 111, 114, 110], [116, 114, 105, 101, 100], [107, 105, 110], [98, 97, 114, 101], [102, 105, 114, 115, 116], [116, 104, 105, 114, 100], [108, 97, 115, 116]]
def zq_str : List (Nat × String) := [(63, "one"), (72, "fact"), (77, "gone"), (82, "odds"), (87, "rule"), (152, "any"), (154, "born"), (156, "tried"), (158, "kin"), (160, "bare"), (162, "first"), (164, "third"), (166, "last")]
/-- the formatter of the JDK's index faults: null, or an object of which nothing is said (the place 300) -/
def zq_fm (ν : zq_E) (U : State) (H : Heap) : Prop := va_Z "jdk/internal/util/Preconditions" "SIOOBE_FORMATTER" "Ljava/util/function/BiFunction;" .null (zq_A ν) U H ∨ va_Z "jdk/internal/util/Preconditions" "SIOOBE_FORMATTER" "Ljava/util/function/BiFunction;" (.ref (ν.1 300 0)) (zq_A ν) U H
theorem zq_fm.moved {ν : zq_E} {u U : State} {H : Heap} (hvm : u.vm.Alike U.vm) (h : zq_fm ν u H) : zq_fm ν U H := h.elim (fun q => Or.inl (va_Z.moved hvm q)) (fun q => Or.inr (va_Z.moved hvm q))
theorem zq_fm.kept {ν : zq_E} {U : State} {H H1 : Heap} (h : zq_fm ν U H) (hq : ∀ a : Nat, a < H.size → ¬ zq_A ν a → H1[a]? = H[a]?) : zq_fm ν U H1 := h.elim (fun q => Or.inl (q.kept hq)) (fun q => Or.inr (q.kept hq))
/-- what stays: texts, statics, the script -/
def zq_J (ν : zq_E) (U : State) (H : Heap) : Prop := vk_S 13 zq_len zq_byt (fun i => ν.1 (100 + i) 0) (fun i => ν.1 (200 + i) 0) (zq_A ν) U H ∧ va_Z "java/lang/String" "COMPACT_STRINGS" "Z" (.int 1) (zq_A ν) U H ∧ zq_fm ν U H ∧ (∀ (i : Nat) (q : Nat × String), zq_str[i]? = some q → vk_R "ThirdSon$Teller" q.1 q.2 (ν.1 (100 + i) 0) U) ∧ va_X (ν.1 60 0) ν.2.2.2.2.2 ν.2.2.2.2.1 U H ∧ ¬ zq_A ν (ν.1 60 0) ∧ va_Nw (.methodLinkNest "ThirdSon$Duchy" 90 zm_S_isFact.1 "ThirdSon") U ∧ va_Nw (.methodLinkNest "ThirdSon$Teller" 129 zm_S_isFact.1 "ThirdSon") U
theorem zq_J.go {ν : zq_E} {s U : State} {H : Heap} {locs : List Loc} (h : zq_J ν s s.heap) (hS : va_S (zq_A ν) s.heap H locs) (hW : s.WarmedH U.vm) : zq_J ν U H := by
  obtain ⟨h1, h2, h3, h4, h5, h6, h7, h8⟩ := h
  refine ⟨vk_S.moved hW.alike (h1.kept hS.2.1), va_Z.moved hW.alike (h2.kept hS.2.1), zq_fm.moved hW.alike (h3.kept hS.2.1), fun i q hq => vk_R.warm hW (h4 i q hq), va_X.moved hW.alike (h5.kept (hS.2.1 _ ?_ h6)), h6, va_Nw.warmM hW h7, va_Nw.warmM hW h8⟩
  obtain ⟨scr, hs, -⟩ := h5
  exact (Array.getElem?_eq_some_iff.mp hs).1
theorem zq_J.call {ν : zq_E} {U : State} (h : zq_J ν U U.heap) (g : JFrame) (mk : MethodId) (a : Array Value) : zq_J ν (U.calling g mk a) (U.calling g mk a).heap := by
  obtain ⟨h1, h2, h3, h4, h5, h6, h7, h8⟩ := h
  exact ⟨vk_S.moved (u := U) (U := U.calling g mk a) (Vm.Alike.refl U.vm) h1, va_Z.moved (u := U) (U := U.calling g mk a) (Vm.Alike.refl U.vm) h2, zq_fm.moved (u := U) (U := U.calling g mk a) (Vm.Alike.refl U.vm) h3, fun i q hq => vk_R.same rfl (h4 i q hq), va_X.moved (u := U) (U := U.calling g mk a) (Vm.Alike.refl U.vm) h5, h6, va_Nw.same rfl rfl h7, va_Nw.same rfl rfl h8⟩
/-! locals -/
def zq_ct : zq_V → Nat
  | .inr (.inl _) => 2
  | _ => 1
theorem zq_ct_ev (ν : zq_E) (v : zq_V) : (zq_ev ν v).category = zq_ct v := by
  rcases v with x | x | (_ | r) <;> rfl
def zq_LH (ν : zq_E) (nL : Nat) (arr : Array Slot) (ls : List (Option zq_V)) : Prop := arr.size = nL ∧ lv_wf arr ∧ ∀ (i : Nat) (v : zq_V), ls[i]? = some (some v) → arr[i]? = some (.val (zq_ev ν v))
def zq_pk (ν : zq_E) (ls : List (Option zq_V)) (i : Nat) : Option (Nat × Value) := match ls[i]? with
  | some (some v) => some (i, zq_ev ν v)
  | _ => none
def zq_al (ν : zq_E) (ls : List (Option zq_V)) : List (Nat × Value) := (List.range ls.length).filterMap (zq_pk ν ls)
theorem zq_al_mem {ν : zq_E} {ls : List (Option zq_V)} {i : Nat} {v : zq_V} (h : ls[i]? = some (some v)) : (i, zq_ev ν v) ∈ zq_al ν ls :=
  List.mem_filterMap.mpr ⟨i, List.mem_range.mpr (List.getElem?_eq_some_iff.mp h).1, by simp only [zq_pk, h]⟩
theorem zq_al_of {ν : zq_E} {ls : List (Option zq_V)} {q : Nat × Value} (h : q ∈ zq_al ν ls) : ∃ v, ls[q.1]? = some (some v) ∧ q.2 = zq_ev ν v := by
  obtain ⟨i, -, hi⟩ := List.mem_filterMap.mp h
  unfold zq_pk at hi
  split at hi
  · next v hv =>
    cases hi
    exact ⟨v, hv, rfl⟩
  · cases hi
theorem zq_LH_has {ν : zq_E} {nL : Nat} {arr : Array Slot} {ls : List (Option zq_V)} (h : zq_LH ν nL arr ls) : lv_has arr nL (zq_al ν ls) := by
  refine ⟨h.1, h.2.1, fun q hq => ?_⟩
  obtain ⟨v, hv, he⟩ := zq_al_of hq
  rw [he]
  exact h.2.2 _ _ hv
def zq_nl (ls : List (Option zq_V)) (i : Nat) : Bool := match i with
  | 0 => true
  | i + 1 => match ls[i]? with
    | some (some (.inr (.inl _))) => false
    | _ => true
theorem zq_nl_spec {ls : List (Option zq_V)} {i i' : Nat} {w : zq_V} (h : zq_nl ls i = true) (hi : i' + 1 = i) (hw : ls[i']? = some (some w)) : zq_ct w = 1 := by
  subst hi
  rcases w with x | x | x
  · rfl
  · simp [zq_nl, hw] at h
  · rcases x with _ | x <;> rfl
theorem zq_LH_of1 {ν : zq_E} {nL : Nat} {arr : Array Slot} {ls : List (Option zq_V)} {i : Nat} {v : zq_V} (hnl : zq_nl ls i = true) (h : lv_has arr nL ((i, zq_ev ν v) :: (zq_al ν ls).filter (fun q => !(q.1 == i) && !(q.1 + 1 == i && q.2.category == 2)))) : zq_LH ν nL arr (ls.set i (some v)) := by
  refine ⟨h.1, h.2.1, fun i' w hw => ?_⟩
  rw [List.getElem?_set] at hw
  by_cases e : i = i'
  · subst e
    rw [if_pos rfl] at hw
    split at hw
    · cases hw
      exact h.2.2 _ List.mem_cons_self
    · cases hw
  · rw [if_neg e] at hw
    refine h.2.2 (i', zq_ev ν w) (List.mem_cons_of_mem _ (List.mem_filter.mpr ⟨zq_al_mem hw, ?_⟩))
    have h1 : (i' == i) = false := by simpa using fun q => e q.symm
    by_cases h2 : i' + 1 = i
    · have h3 := zq_nl_spec hnl h2 hw
      simp [h1, zq_ct_ev, h3]
    · simp [h1, h2]
theorem zq_LH_of2 {ν : zq_E} {nL : Nat} {arr : Array Slot} {ls : List (Option zq_V)} {i : Nat} {x : Int64} (hnl : zq_nl ls i = true) (h : lv_has arr nL ((i, .long x) :: (zq_al ν ls).filter (fun q => !(q.1 == i) && (!(q.1 == i + 1) && !(q.1 + 1 == i && q.2.category == 2))))) : zq_LH ν nL arr ((ls.set i (some (zq_L x))).set (i + 1) none) := by
  refine ⟨h.1, h.2.1, fun i' w hw => ?_⟩
  rw [List.getElem?_set] at hw
  by_cases e1 : i + 1 = i'
  · subst e1
    rw [if_pos rfl] at hw
    split at hw <;> cases hw
  · rw [if_neg e1, List.getElem?_set] at hw
    by_cases e : i = i'
    · subst e
      rw [if_pos rfl] at hw
      split at hw
      · cases hw
        exact h.2.2 _ List.mem_cons_self
      · cases hw
    · rw [if_neg e] at hw
      refine h.2.2 (i', zq_ev ν w) (List.mem_cons_of_mem _ (List.mem_filter.mpr ⟨zq_al_mem hw, ?_⟩))
      have h1 : (i' == i) = false := by simpa using fun q => e q.symm
      have h0 : (i' == i + 1) = false := by simpa using fun q => e1 q.symm
      by_cases h2 : i' + 1 = i
      · have h3 := zq_nl_spec hnl h2 hw
        simp [h1, h0, zq_ct_ev, h3]
      · simp [h1, h0, h2]
def zq_en : List zq_V → List (Option zq_V)
  | [] => []
  | .inr (.inl x) :: r => some (zq_L x) :: none :: zq_en r
  | v :: r => some v :: zq_en r
theorem zq_en_args (ν : zq_E) : ∀ (l : List zq_V) (k i : Nat) (v : zq_V), (zq_en l)[i]? = some (some v) → (k + i, zq_ev ν v) ∈ lv_args k (l.map (zq_ev ν))
  | [], k, i, v, h => by simp [zq_en] at h
  | .inl x :: r, k, 0, v, h => by
    simp only [zq_en, List.getElem?_cons_zero, Option.some.injEq] at h
    subst h
    exact List.mem_cons_self
  | .inl x :: r, k, i + 1, v, h => by
    simp only [zq_en, List.getElem?_cons_succ] at h
    have := zq_en_args ν r (k + 1) i v h
    rw [show k + 1 + i = k + (i + 1) by omega] at this
    exact List.mem_cons_of_mem _ this
  | .inr (.inl x) :: r, k, 0, v, h => by
    simp only [zq_en, List.getElem?_cons_zero, Option.some.injEq] at h
    subst h
    exact List.mem_cons_self
  | .inr (.inl x) :: r, k, 1, v, h => by
    simp [zq_en] at h
  | .inr (.inl x) :: r, k, i + 2, v, h => by
    simp only [zq_en, List.getElem?_cons_succ] at h
    have := zq_en_args ν r (k + 2) i v h
    rw [show k + 2 + i = k + (i + 2) by omega] at this
    exact List.mem_cons_of_mem _ this
  | .inr (.inr x) :: r, k, 0, v, h => by
    simp only [zq_en, List.getElem?_cons_zero, Option.some.injEq] at h
    subst h
    exact List.mem_cons_self
  | .inr (.inr x) :: r, k, i + 1, v, h => by
    simp only [zq_en, List.getElem?_cons_succ] at h
    have := zq_en_args ν r (k + 1) i v h
    rw [show k + 1 + i = k + (i + 1) by omega] at this
    rcases x with _ | x
    · exact List.mem_cons_of_mem _ this
    · exact List.mem_cons_of_mem _ this
theorem zq_en_len (ν : zq_E) : ∀ l : List zq_V, (lg_sl (l.map (zq_ev ν))).length = (zq_en l).length
  | [] => rfl
  | .inl x :: r => by
    have := zq_en_len ν r
    simp [lg_sl, zq_en, zq_ev, Value.category] at this ⊢
    omega
  | .inr (.inl x) :: r => by
    have := zq_en_len ν r
    simp [lg_sl, zq_en, zq_ev, Value.category] at this ⊢
    omega
  | .inr (.inr (some x)) :: r => by
    have := zq_en_len ν r
    simp [lg_sl, zq_en, zq_ev, Value.category] at this ⊢
    omega
  | .inr (.inr none) :: r => by
    have := zq_en_len ν r
    simp [lg_sl, zq_en, zq_ev, Value.category] at this ⊢
    omega
/-! the judgements -/
def zq_C (ν : zq_E) (M : zq_M) (h : Nat) (p : Program) (R : Room) (s : State) (m : MethodId) (args : Array Value) (c : Code) (cells slots : Nat) : Prop :=
  p.tables.exec = Jvm.exec ∧ c.code = M.2.1 ∧ c.maxLocals = M.2.2.1 ∧ s.vm.findClass M.1.cls = some m.cls ∧ (∀ w ∈ zq_tbl, w.before args s = true) ∧ va_K ν.2.1 zq_cl (zq_tys ν) s ∧ zq_J ν s s.heap ∧ h ≤ R.frames ∧ 60 * h ≤ R.locals ∧ cells ≤ R.cells ∧ slots ≤ R.slots
/-- an answer and the instruction that gives it -/
def zq_rk (ret : Option FieldType) (r : Option zq_V) (ins : Instr) : Prop :=
  (ret = none ∧ r = none ∧ ins = .return_) ∨ (∃ (ty : FieldType) (x : Int32), ret = some ty ∧ r = some (zq_I x) ∧ ins = .ireturn ∧ narrow ty (.int x) = .int x) ∨ (∃ x : Int64, ret = some .long ∧ r = some (zq_L x) ∧ ins = .lreturn) ∨ (∃ (C : String) (q : zq_R), ret = some (.object C) ∧ r = some (Sum.inr (Sum.inr (some q))) ∧ ins = .areturn)
def zq_X (ν : zq_E) (M : zq_M) (Q : Option zq_V → zq_T → Prop) (p : Program) (l : Launch) (e : Env) (R : Room) (s : State) (m : MethodId) (args : Array Value) (below : List Frame) (meth : Method) (c : Code) (cells slots : Nat) (Qm : State → Prop) : Prop :=
  ∀ (r : Option zq_V) (σ' : zq_T) (ins : Instr) (H : Heap) (locs : List Loc) (pc : Nat) (arr : Array Slot), zq_rk M.2.2.2 r ins → decode M.2.1 pc = .ok (ins, 1) → Q r σ' → va_P ν.2.1 zq_cl (zq_ws ν σ') H → va_S (zq_A ν) s.heap H locs → W p l e R s m args below meth c H locs cells slots Qm (F0 m pc arr ((r.map (zq_ev ν)).toList))
def zq_G (ν : zq_E) (M : zq_M) (h : Nat) (Q : Option zq_V → zq_T → Prop) (pc : Nat) (ls : List (Option zq_V)) (st : List zq_V) (σ : zq_T) : Prop :=
  ∀ (p : Program) (l : Launch) (e : Env) (R : Room) (s : State) (m : MethodId) (args : Array Value) (below : List Frame) (meth : Method) (c : Code) (cells slots : Nat) (Qm : State → Prop) (H : Heap) (locs : List Loc) (arr : Array Slot),
    zq_ok ν → zq_C ν M h p R s m args c cells slots → zq_X ν M Q p l e R s m args below meth c cells slots Qm → va_P ν.2.1 zq_cl (zq_ws ν σ) H → va_S (zq_A ν) s.heap H locs → zq_LH ν M.2.2.1 arr ls →
    W p l e R s m args below meth c H locs cells slots Qm (F0 m pc arr (st.map (zq_ev ν)))
def zq_Pc (ν : zq_E) (args : List zq_V) (σ : zq_T) : Array Value → State → Prop := va_Pc (args.map (zq_ev ν)) (fun U => va_P ν.2.1 zq_cl (zq_ws ν σ) U.heap ∧ va_K ν.2.1 zq_cl (zq_tys ν) U ∧ zq_J ν U U.heap)
def zq_Qc (ν : zq_E) (Q : Option zq_V → zq_T → Prop) : Array Value → State → Outcome → State → Prop := fun _ st oc t => (∃ (r : Option zq_V) (σ' : zq_T), oc = .returned (r.map (zq_ev ν)) ∧ Q r σ' ∧ va_P ν.2.1 zq_cl (zq_ws ν σ') t.heap) ∧ va_F (zq_A ν) st t
def zq_rm (h : Nat) : Room := { frames := h, cells := 0, slots := 0, locals := 60 * h }
def zq_wm (M : zq_M) : List Cond := Cond.code M.1 M.2.1 M.2.2.1 M.2.2.2 :: zq_tbl
/-- a method's contract in the pure world: from these arguments and this state it returns, with Q of answer and state -/
def zq_Sp (M : zq_M) (h : Nat) (args : List zq_V) (σ : zq_T) (Q : Option zq_V → zq_T → Prop) : Prop := ∀ ν : zq_E, zq_ok ν → ∀ l : Launch, Met l M.1 (zq_wm M) (zq_rm h) (zq_Pc ν args σ) (zq_Qc ν Q) 0 0 (zq_A ν)
def zq_rv (v : zq_V) (τ : zq_T) : Option zq_V → zq_T → Prop := fun r σ' => r = some v ∧ σ' = τ
def zq_r0 (τ : zq_T) : Option zq_V → zq_T → Prop := fun r σ' => r = none ∧ σ' = τ
theorem zq_sp {M : zq_M} {h : Nat} {args : List zq_V} {σ : zq_T} {Q : Option zq_V → zq_T → Prop} (ls : List (Option zq_V)) (hpl : plainName M.1.cls = true) (hls : zq_en args ++ List.replicate (M.2.2.1 - (zq_en args).length) none = ls) (hn : (zq_en args).length ≤ M.2.2.1) (hG : ∀ ν, zq_G ν M h Q 0 ls [] σ) : zq_Sp M h args σ Q := by
  intro ν hok l
  refine Met.ofW (cc := M.2.1) (maxL := M.2.2.1) (ret := M.2.2.2) hpl rfl ?_
  intro p e s m a below meth c s₁ B hml hv
  obtain ⟨rfl, hP, hK, hJ⟩ := hv
  have hts := atoms_spec (ws := zq_wm M) B.pre
  have hlocks := B.notSynchronized
  have hlen : (lg_sl (args.map (zq_ev ν))).length ≤ M.2.2.1 := by rw [zq_en_len]; exact hn
  have hl := lv_entry (args.map (zq_ev ν)) (n := M.2.2.1) hlen
  rw [lg_entry_eq]
  generalize ((lg_sl (args.map (zq_ev ν))) ++ List.replicate (M.2.2.1 - (lg_sl (args.map (zq_ev ν))).length) Slot.unset).toArray = arr at hl ⊢
  refine hG ν p l e (headSpec (zq_wm M) (zq_rm h)).room s m _ below meth c 0 0 _ s.heap [] arr hok ⟨B.exec, B.bytes, hml, findClass_of_methodNamed B.named, fun w hw => hts w (List.mem_cons_of_mem _ hw), hK, hJ, Nat.le_refl _, Nat.le_refl _, Nat.le_refl _, Nat.le_refl _⟩ ?_ hP va_S.rf ⟨hl.1, hl.2.1, fun i v hv => ?_⟩
  · intro r σ' ins H locs pc arr hr hd hQ hP hS
    rcases hr with ⟨h1, rfl, rfl⟩ | ⟨ty, x, h1, rfl, rfl, h2⟩ | ⟨x, h1, rfl, rfl⟩ | ⟨C, q, h1, rfl, rfl⟩
    · exact W.vret B.exec B.bytes (B.returns.trans h1) (fun t ht hW => ⟨⟨none, σ', rfl, hQ, by rw [ht]; exact hP⟩, hS.F ht⟩) hS.2.2 hd
    · exact W.zret B.exec B.bytes (B.returns.trans h1) h2 (fun t ht hW => ⟨⟨some (zq_I x), σ', rfl, hQ, by rw [ht]; exact hP⟩, hS.F ht⟩) hS.2.2 hd
    · exact W.lret B.exec B.bytes (B.returns.trans h1) (fun t ht hW => ⟨⟨some (zq_L x), σ', rfl, hQ, by rw [ht]; exact hP⟩, hS.F ht⟩) hS.2.2 hd
    · exact W.aret B.exec B.bytes (B.returns.trans h1) (Or.inl ⟨C, rfl⟩) (Or.inr ⟨_, rfl⟩) (fun t ht hW => ⟨⟨some (Sum.inr (Sum.inr (some q))), σ', rfl, hQ, by rw [ht]; exact hP⟩, hS.F ht⟩) hS.2.2 hd
  · rw [← hls, List.getElem?_append] at hv
    split at hv
    · have := zq_en_args ν args 0 i v hv
      rw [Nat.zero_add] at this
      exact hl.2.2 _ this
    · rw [List.getElem?_replicate] at hv
      split at hv <;> cases hv
theorem zq_good {M : zq_M} (hc : Cond.code M.1 M.2.1 M.2.2.1 M.2.2.2 ∈ zq_tbl) : GoodIn zq_tbl (zq_wm M) := by
  intro w hw
  rcases List.mem_cons.mp hw with rfl | h
  · exact ⟨hc, good_of_word (List.mem_filter.mp hc).2⟩
  · exact ⟨h, good_of_word (List.mem_filter.mp h).2⟩
/-- fewer locals known -/
theorem zq_fewer {ν : zq_E} {M : zq_M} {h : Nat} {Q : Option zq_V → zq_T → Prop} {pc : Nat} {ls : List (Option zq_V)} {st : List zq_V} {σ : zq_T} (ls' : List (Option zq_V)) (hl : ∀ (i : Nat) (v : zq_V), ls'[i]? = some (some v) → ls[i]? = some (some v)) (k : zq_G ν M h Q pc ls' st σ) : zq_G ν M h Q pc ls st σ := by
  intro p l e R s m args below meth c cells slots Qm H locs arr hok hC hX hP hS hL
  exact k p l e R s m args below meth c cells slots Qm H locs arr hok hC hX hP hS ⟨hL.1, hL.2.1, fun i v hv => hL.2.2 i v (hl i v hv)⟩
def zq_sub : List (Option zq_V) → List (Option zq_V) → Prop
  | [], _ => True
  | none :: a, _ :: b => zq_sub a b
  | some v :: a, w :: b => w = some v ∧ zq_sub a b
  | none :: a, [] => zq_sub a []
  | some _ :: _, [] => False
theorem zq_sub_spec : ∀ {a b : List (Option zq_V)}, zq_sub a b → ∀ (i : Nat) (v : zq_V), a[i]? = some (some v) → b[i]? = some (some v)
  | [], _, _, i, v, h => by simp at h
  | none :: a, _ :: b, hs, 0, v, h => by simp at h
  | none :: a, _ :: b, hs, i + 1, v, h => by
    simp only [List.getElem?_cons_succ] at h ⊢
    exact zq_sub_spec (a := a) (b := b) hs i v h
  | some w :: a, x :: b, hs, 0, v, h => by
    simp only [List.getElem?_cons_zero, Option.some.injEq] at h ⊢
    rw [← h]
    exact hs.1
  | some w :: a, x :: b, hs, i + 1, v, h => by
    simp only [List.getElem?_cons_succ] at h ⊢
    exact zq_sub_spec (a := a) (b := b) hs.2 i v h
  | none :: a, [], hs, 0, v, h => by simp at h
  | none :: a, [], hs, i + 1, v, h => by
    simp only [List.getElem?_cons_succ] at h
    exact absurd (zq_sub_spec (a := a) (b := []) hs i v h) (by simp)
  | some _ :: _, [], hs, i, v, h => hs.elim
