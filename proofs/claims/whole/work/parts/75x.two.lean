/-! ROWS OF ROWS: what the machine does for 'new int[4][40]', shown here from the machine's own words -/
section TWO
theorem zj_over {a : Array Value} {f s : State} {o : Option Outcome} {ix : List Nat} (h : (Cond.arrayOver (.array .int)).holds a f o s ix = true) :
    ∃ d c k, s.vm.findClass "[I" = some d ∧ (s.vm.classes.findIdx? fun x => match x.kind with | .array component _ => component == d | _ => false) = some c ∧ s.vm.classes[c]? = some k ∧ k.kind = .array d (.array .int) ∧ s.vm.findClass "[[I" = some c := by
  have e1 : (FieldType.array FieldType.int).toString = "[I" := by decide +kernel
  have e2 : "[" ++ "[I" = "[[I" := by decide +kernel
  simp only [Cond.holds, Cond.value, e1, e2, beq_iff_eq] at h
  obtain ⟨d, h1, h⟩ := Option.bind_eq_some_iff.mp h
  obtain ⟨c, h2, h⟩ := Option.bind_eq_some_iff.mp h
  obtain ⟨k, h3, h⟩ := Option.map_eq_some_iff.mp h
  obtain ⟨hlt, hp, -⟩ := Array.findIdx?_eq_some_iff_getElem.mp h2
  have hk : s.vm.classes[c] = k := (Array.getElem?_eq_some_iff.mp h3).2
  rw [hk] at hp
  refine ⟨d, c, k, h1, h2, h3, ?_, ?_⟩
  · generalize k.kind = z at h hp
    cases z with
    | array d' t =>
      simp only [Bool.and_eq_true, decide_eq_true_eq, beq_iff_eq] at h hp
      rw [hp, h.1]
    | _ => cases h
  · generalize k.kind = z at h hp
    cases z with
    | array d' t =>
      simp only [Bool.and_eq_true, decide_eq_true_eq] at h
      exact h.2
    | _ => cases h
theorem zj_alike {a a' : Array Value} {f f' s U : State} {o o' : Option Outcome} {ix ix' : List Nat} (hal : s.vm.Alike U.vm) (h : (Cond.arrayOver (.array .int)).holds a f o s ix = true) : (Cond.arrayOver (.array .int)).holds a' f' o' U ix' = true := by
  have e1 : (FieldType.array FieldType.int).toString = "[I" := by decide +kernel
  have e2 : "[" ++ "[I" = "[[I" := by decide +kernel
  obtain ⟨d, c, k, h1, h2, h3, h4, h5⟩ := zj_over h
  obtain ⟨k', g3, gk⟩ := hal.2.2 _ _ h3
  have g1 : U.vm.findClass "[I" = some d := by rw [hal.findClass]; exact h1
  have g2 := (hal.findIdx?_eqK (fun x => match x.kind with | .array component _ => component == d | _ => false) (fun _ => rfl)).trans h2
  have g4 : k'.kind = .array d (.array .int) := by rw [gk]; exact h4
  have g5 : U.vm.findClass "[[I" = some c := by rw [hal.findClass]; exact h5
  simp only [Cond.holds, Cond.value, e1, e2, g1, Option.bind_some, beq_iff_eq]
  refine Option.bind_eq_some_iff.mpr ⟨c, g2, ?_⟩
  rw [g3, Option.map_some, g4, g5]
  simp
def zj_ic (d : ClassId) : Cell := { cls := d, slots := Array.replicate 40 (.int 0), vm := .none }
def zj_v (q i j : Nat) : Value := if j < i then .ref (q + 1 + j) else .null
def zj_oc (c : ClassId) (q i : Nat) : Cell := { cls := c, slots := #[zj_v q i 0, zj_v q i 1, zj_v q i 2, zj_v q i 3], vm := .none }
theorem zj_set (c : ClassId) (q i : Nat) (hi : i < 4) : (zj_oc c q i).setSlot i (.ref (q + 1 + i)) = zj_oc c q (i + 1) := by
  match i, hi with
  | 0, _ => rfl
  | 1, _ => rfl
  | 2, _ => rfl
  | 3, _ => rfl
def zj_T (s : State) (c d : ClassId) : Nat → State
  | 0 => s.pushCell (zj_oc c s.heap.size 0)
  | i + 1 => ((zj_T s c d i).pushCell (zj_ic d)).setCell s.heap.size (zj_oc c s.heap.size (i + 1))
theorem zj_T0 (s : State) (c d : ClassId) : ∀ i, (zj_T s c d i).heap.size = s.heap.size + (1 + i) ∧ (zj_T s c d i).heap[s.heap.size]? = some (zj_oc c s.heap.size i) ∧ (zj_T s c d i).vm = s.vm ∧ (zj_T s c d i).slotsUsed = s.slotsUsed + 4 + i * 40
  | 0 => ⟨by simp [zj_T], State.heap_pushCell_size _ _, rfl, by simp [zj_T, zj_oc]⟩
  | i + 1 => by
    obtain ⟨a1, a2, a3, a4⟩ := zj_T0 s c d i
    have hlt : s.heap.size < (zj_T s c d i).heap.size := by omega
    have ho : ((zj_T s c d i).pushCell (zj_ic d)).heap[s.heap.size]? = some (zj_oc c s.heap.size i) := (State.heap_pushCell_of_lt _ _ hlt).trans a2
    refine ⟨?_, State.heap_setCell_self ho, by simp [zj_T, a3], ?_⟩
    · simp [zj_T, State.setCell, a1]; omega
    · simp [zj_T, zj_ic, a4]; omega
theorem zj_Told (s : State) (c d : ClassId) {x : Addr} (hx : x < s.heap.size) : ∀ i, (zj_T s c d i).heap[x]? = s.heap[x]?
  | 0 => State.heap_pushCell_of_lt _ _ hx
  | i + 1 => by
    have a1 := (zj_T0 s c d i).1
    have hl : x < (zj_T s c d i).heap.size := Nat.lt_of_lt_of_le hx (by omega)
    exact (State.heap_setCell_other (Nat.ne_of_gt hx)).trans ((State.heap_pushCell_of_lt _ _ hl).trans (zj_Told s c d hx i))
theorem zj_Tin (s : State) (c d : ClassId) : ∀ i j, j < i → (zj_T s c d i).heap[s.heap.size + 1 + j]? = some (zj_ic d)
  | 0, j, hj => absurd hj (Nat.not_lt_zero j)
  | i + 1, j, hj => by
    have a1 := (zj_T0 s c d i).1
    refine (State.heap_setCell_other (show s.heap.size ≠ s.heap.size + 1 + j by omega)).trans ?_
    by_cases e : j = i
    · subst e
      have e2 : s.heap.size + 1 + j = (zj_T s c d j).heap.size := by omega
      rw [e2]
      exact State.heap_pushCell_size _ _
    · have hl : s.heap.size + 1 + j < (zj_T s c d i).heap.size := by omega
      exact (State.heap_pushCell_of_lt _ _ hl).trans (zj_Tin s c d i j (by omega))
theorem zj_Ttop (s : State) (g : JFrame) (c d : ClassId) : ∀ i, zj_T (s.setTop g) c d i = (zj_T s c d i).setTop g
  | 0 => rfl
  | i + 1 => by simp only [zj_T, zj_Ttop s g c d i, State.heap_setTop, State.pushCell_setTop, State.setCell_setTop]
section MAKE
variable {E : CtlPost} {e : Env} {b : Bool} {acts : List Action} {s : State}
/-- one array of the machine's making -/
theorem zj_new {c d : ClassId} {k : Class} {t : FieldType} {n : Nat} {v : Value} (hk : s.vm.classes[c]? = some k) (hd : k.kind = .array d t) (hl : n ≤ e.platform.arrayLengthLimit) (hb : n * componentBytes t ≤ e.platform.maxHeapBytes) (hf : fits t v = true) (hv : v.isDefault = true) {Q : Addr → Pre} (h1 : s.heap.size < e.platform.maxCells) (h2 : s.slotsUsed + n ≤ e.platform.maxSlots)
    (kk : Q s.heap.size b acts (s.pushCell { cls := c, slots := Array.replicate n v, vm := .none })) : wp (Jvm.newArray c n v) Q E e b acts s := by
  have hfit : ∀ i w, (Array.replicate n v)[i]? = some w → s.fitsSlot c .none i w = true := fun i w hw => by
    obtain ⟨-, rfl⟩ := Array.getElem?_eq_some_iff.mp hw
    simp [State.fitsSlot, State.slotType?, hk, hd, hf]
  have hacts : allocActs (Array.replicate n v) s.heap.size acts = acts := if_pos (by rw [Array.all_eq_true]; intro i hi; simpa using hv)
  have l1 : ¬ n > e.platform.arrayLengthLimit := by omega
  have l2 : ¬ n * componentBytes t > e.platform.maxHeapBytes := by omega
  have l3 : ¬ n > e.platform.maxSlots := by omega
  simp only [Jvm.newArray, Jvm.arrayFits, wp_bind', W.ask, W.ite, l1, l2, l3, if_false, wp_pure', W.theClass, hk, hd, W.alloc, Option.some.injEq, exists_eq_left', Array.size_replicate, hacts]
  exact ⟨h1, h2, hfit, kk⟩
theorem zj_n4 : (4 : Int32).toNatClampNeg = 4 := by decide
theorem zj_n40 : (40 : Int32).toNatClampNeg = 40 := by decide
/-- one inner row -/
theorem zj_make1 {d dd : ClassId} {k : Class} (hk : s.vm.classes[d]? = some k) (hd : k.kind = .array dd .int) (hl : 40 ≤ e.platform.arrayLengthLimit) (hb : 160 ≤ e.platform.maxHeapBytes) {Q : Addr → Pre} (h1 : s.heap.size < e.platform.maxCells) (h2 : s.slotsUsed + 40 ≤ e.platform.maxSlots)
    (kk : Q s.heap.size b acts (s.pushCell (zj_ic d))) : wp (multianewarray.make d [40]) Q E e b acts s := by
  have l0 : ¬ (40 : Int32) < 0 := by decide
  rw [multianewarray.make]
  simp only [wp_bind', W.ite, l0, if_false, wp_pure', W.theClass, hk, hd, Option.some.injEq, exists_eq_left', zj_n40]
  exact zj_new hk hd hl hb rfl rfl h1 h2 kk
/-- a row is made, and laid into its place -/
theorem zj_step {c d dd : ClassId} {k kd : Class} (hk : s.vm.classes[c]? = some k) (hc : k.kind = .array d (.array .int)) (hkd : s.vm.classes[d]? = some kd) (hd : kd.kind = .array dd .int) (hl : 40 ≤ e.platform.arrayLengthLimit) (hb : 160 ≤ e.platform.maxHeapBytes) (h1 : s.heap.size + 5 ≤ e.platform.maxCells) (h2 : s.slotsUsed + 164 ≤ e.platform.maxSlots) {i : Nat} (hi : i < 4) {β : Type} {G : ForInStep PUnit → Sem β} {Q : β → Pre}
    (kk : ∀ b' acts', wp (G (.yield PUnit.unit)) Q E e b' acts' (zj_T s c d (i + 1))) : wp ((do Jvm.writeLoc s.heap.size i (.ref (← multianewarray.make d [40])) .plain; Pure.pure (ForInStep.yield PUnit.unit)) >>= G) Q E e b acts (zj_T s c d i) := by
  obtain ⟨a1, a2, a3, a4⟩ := zj_T0 s c d i
  simp only [wp_bind']
  refine zj_make1 (by rw [a3]; exact hkd) hd hl hb (by omega) (by omega) ?_
  have hlt : s.heap.size < (zj_T s c d i).heap.size := by omega
  have e1 : (zj_T s c d i).heap.size = s.heap.size + 1 + i := by omega
  rw [wp_bind']
  refine (W.writeLoc _ _ _ _).mpr ⟨zj_oc c s.heap.size i, (State.heap_pushCell_of_lt _ _ hlt).trans a2, by simp [zj_oc], by simpa [zj_oc] using hi, ?_, ?_⟩
  · simp [State.fitsSlot, State.slotType?, zj_oc, a3, hk, hc]
    rfl
  · rw [e1, zj_set c s.heap.size i hi]
    exact kk _ _
/-- all of it: four rows of forty -/
theorem zj_make {c d dd : ClassId} {k kd : Class} (hk : s.vm.classes[c]? = some k) (hc : k.kind = .array d (.array .int)) (hkd : s.vm.classes[d]? = some kd) (hd : kd.kind = .array dd .int) (hl : 40 ≤ e.platform.arrayLengthLimit) (hb : 160 ≤ e.platform.maxHeapBytes) (h1 : s.heap.size + 5 ≤ e.platform.maxCells) (h2 : s.slotsUsed + 164 ≤ e.platform.maxSlots) {Q : Addr → Pre}
    (kk : ∀ b' acts', Q s.heap.size b' acts' (zj_T s c d 4)) : wp (multianewarray.make c [4, 40]) Q E e b acts s := by
  have l0 : ¬ (4 : Int32) < 0 := by decide
  have l1 : ((4 : Int32) == 0) = false := by decide
  rw [multianewarray.make]
  simp only [wp_bind', W.ite, l0, if_false, wp_pure', W.theClass, hk, hc, Option.some.injEq, exists_eq_left', zj_n4]
  refine zj_new hk hc (by omega) (by show 4 * 4 ≤ _; omega) rfl rfl (by omega) (by omega) ?_
  simp only [l1, Bool.false_eq_true, if_false, wp_bind', wp_pure']
  rw [Std.Legacy.Range.forIn_eq_forIn_range']
  show wp (forIn [0, 1, 2, 3] PUnit.unit _) _ E e b acts (zj_T s c d 0)
  simp only [List.forIn_cons, List.forIn_nil]
  refine zj_step hk hc hkd hd hl hb h1 h2 (i := 0) (by decide) fun b1 w1 => ?_
  refine zj_step hk hc hkd hd hl hb h1 h2 (i := 1) (by decide) fun b2 w2 => ?_
  refine zj_step hk hc hkd hd hl hb h1 h2 (i := 2) (by decide) fun b3 w3 => ?_
  refine zj_step hk hc hkd hd hl hb h1 h2 (i := 3) (by decide) fun b4 w4 => ?_
  exact kk b4 w4
end MAKE
section ROW
variable {p : Program} {l : Launch} {e : Env} {R : Room} {s : State} {m : MethodId} {args : Array Value} {below : List Frame} {meth : Method} {c : Code} {T : State} {locs : List Loc} {cells slots : Nat}
theorem zj_filled (X : Stand p l e R s m args below meth c T locs cells slots) (cA d : ClassId) : ∀ i, i ≤ 4 → Stand p l e R s m args below meth c (zj_T T cA d i) locs (cells + (1 + i)) (slots + (4 + i * 40))
  | 0, _ => X.pushed (zj_oc cA T.heap.size 0)
  | i + 1, hi => by
    obtain ⟨a1, a2, a3, a4⟩ := zj_T0 T cA d i
    have hlt : T.heap.size < (zj_T T cA d i).heap.size := by omega
    have h := ((zj_filled X cA d i (by omega)).pushed (zj_ic d)).stored ((State.heap_pushCell_of_lt _ _ hlt).trans a2) i (.ref (T.heap.size + 1 + i))
    rw [zj_set cA T.heap.size i (by omega)] at h
    have h2 := h.dropFresh (fun x hx => by cases List.mem_singleton.mp hx; exact X.heapGrown)
    have e1 : (zj_ic d).slots.size = 40 := by simp [zj_ic]
    rw [e1] at h2
    have e2 : cells + (1 + (i + 1)) = cells + (1 + i) + 1 := by omega
    have e3 : slots + (4 + (i + 1) * 40) = slots + (4 + i * 40) + 40 := by omega
    rw [e2, e3]
    exact h2
/-- the instruction -/
theorem zj_row (X : Stand p l e R s m args below meth c T locs cells slots) (hx : p.tables.exec = Jvm.exec) {own : String} {index : Nat} (hown : s.vm.findClass own = some m.cls) (hlk : (Cond.classLink own index "[[I").before args s = true) (hov : (Cond.arrayOver (.array .int)).before args s = true) (har : (Cond.arrayClass .int).before args s = true)
    {g : JFrame} (hg : g.method = m) (hd : decode c.code g.pc = .ok (.multianewarray index 2, 4)) {rest : List Value} (hst : g.stack = .int 40 :: .int 4 :: rest) (hc : cells + 5 ≤ R.cells) (hs : slots + 164 ≤ R.slots) :
    ∃ (vm : Vm) (cA d : ClassId), s.WarmedH vm ∧ s.vm.findClass "[[I" = some cA ∧ s.vm.findClass "[I" = some d ∧ Stand p l e R s m args below meth c (zj_T (T.setVm vm) cA d 4) locs (cells + 5) (slots + 164) ∧
      ∀ t, Steps p.tables e below ((zj_T (T.setVm vm) cA d 4).setTop { g with pc := g.pc + 4, stack := .ref T.heap.size :: rest }) t → Steps p.tables e below (T.setTop g) t := by
  subst hg
  have hpl : e.platform.magicAccessors = ({} : Platform).magicAccessors := by rw [X.admits.platform]
  obtain ⟨d, cA, k, g1, -, g3, g4, g5⟩ := zj_over hov
  obtain ⟨d', kd, dd, q1, q2, q3⟩ := Cond.arrayClass_spec har
  cases (show some d' = some d from q1.symm.trans g1)
  obtain ⟨c0, r1, r2⟩ := Cond.classLink_spec hown hlk e.platform hpl
  cases g5.symm.trans r1
  obtain ⟨u1, u2, -⟩ := State.classEntry (e := e) X.warmed r2
  generalize T.vm.noted g.method.cls index (.cls cA) = vm at u1 u2
  obtain ⟨k', v3, v4⟩ := u2.alike.2.2 _ _ g3
  obtain ⟨kd', w3, w4⟩ := u2.alike.2.2 _ _ q2
  have v5 : k'.kind = .array d (.array .int) := by rw [v4]; exact g4
  have w5 : kd'.kind = .array dd .int := by rw [w4]; exact q3
  have X1 := X.noted u2
  have XF := zj_filled X1 cA d 4 (Nat.le_refl 4)
  obtain ⟨o1, o2⟩ := X.roomAbove hc hs
  refine ⟨vm, cA, d, u2, g5, g1, XF, fun t ht => ?_⟩
  have n1 : 40 ≤ e.platform.arrayLengthLimit := by rw [Launch.admits_arrayLengthLimit X.admits]; decide
  have n2 : 160 ≤ e.platform.maxHeapBytes := by rw [Launch.admits_maxHeapBytes X.admits]; decide
  jvm_step X.here [hx, hd]
  simp only [multianewarray.sem, wp_bind', W.resolveClassAt_links (State.method?_setTop g X.here.top) u1]
  rw [W.popN, if_neg (by decide)]
  refine ⟨g, State.topJava?_setTop' (s := T.setVm vm) g X.here.top, [.int 4, .int 40], rest, rfl, hst, ?_⟩
  simp only [List.mapM_cons, List.mapM_nil, wp_bind', wp_pure']
  refine zj_make (k := k') (kd := kd') (d := d) (dd := dd) (by exact v3) v5 (by exact w3) w5 n1 n2 (by exact o1) (by exact o2) fun b' acts' => ?_
  have eS : ((T.setTop g).setVm vm).setTop { g with stack := rest } = (T.setVm vm).setTop { g with stack := rest } := by
    show ((T.setVm vm).setTop g).setTop _ = _
    rw [State.setTop_setTop]
  rw [eS, zj_Ttop]
  simp only [wp_bind', W.mark, W.pushRef, State.topJava?_setTop' _ XF.here.top, Option.some.injEq, exists_eq_left', State.setTop_setTop, State.heap_setTop]
  intro acts
  simp [jvm, XF.here.top]
  exact ht
end ROW
end TWO
