/-! THE CONSTRUCTORS: a world that grows -/
def zi_ty (κ : Nat → ClassId) : List (ClassId × FieldType) := [(κ 1, .int), (κ 2, .byte), (κ 3, .long), (κ 4, .boolean), (κ 5, .array .int)]
/-- the words that move with the machine, but aren't in the tables of every method -/
def zi_N (U : State) : Prop := va_Nw (.methodLinkNest "ThirdSon" 11 zm_P_init.1 "ThirdSon") U ∧ va_Nw (.methodLinkNest "ThirdSon" 18 zm_E_init.1 "ThirdSon") U ∧ va_Nw (.methodLinkNest "ThirdSon" 25 zm_H_init.1 "ThirdSon") U ∧ va_Nw (.arrayOver (.array .int)) U
theorem zi_N.warm {s U : State} (hW : s.WarmedH U.vm) (h : zi_N s) : zi_N U := ⟨va_Nw.warmM hW h.1, va_Nw.warmM hW h.2.1, va_Nw.warmM hW h.2.2.1, zj_alike hW.alike h.2.2.2⟩
theorem zi_N.call {U : State} (h : zi_N U) (g : JFrame) (mk : MethodId) (a : Array Value) : zi_N (U.calling g mk a) := ⟨va_Nw.same rfl rfl h.1, va_Nw.same rfl rfl h.2.1, va_Nw.same rfl rfl h.2.2.1, zj_alike (s := U) (U := U.calling g mk a) (Vm.Alike.refl U.vm) h.2.2.2⟩
theorem zi_RA {s : State} {c1 c2 : ClassId} {ty : FieldType} (h1 : va_RA s c1 ty) (h2 : va_RA s c2 ty) : c1 = c2 := by
  cases ty with
  | object C =>
    obtain ⟨_, _, _, _, _, h3⟩ := h1
    obtain ⟨_, _, _, _, _, h4⟩ := h2
    exact Option.some.inj (h3.symm.trans h4)
  | _ => exact Option.some.inj (Eq.trans (Eq.symm h1) h2)
def zi_C (D : va_G) (κ : Nat → ClassId) (A : Nat → Prop) (M : zq_M) (h K S : Nat) (p : Program) (R : Room) (s : State) (m : MethodId) (args : Array Value) (meth : Method) (c : Code) : Prop :=
  p.tables.exec = Jvm.exec ∧ c.code = M.2.1 ∧ c.maxLocals = M.2.2.1 ∧ s.vm.findClass M.1.cls = some m.cls ∧ (∀ w ∈ zq_tbl, w.before args s = true) ∧ va_K D zq_cl (zi_ty κ) s ∧ zi_N s ∧ h ≤ R.frames ∧ 60 * h ≤ R.locals ∧ K ≤ R.cells ∧ S ≤ R.slots ∧ (M.1.name = "<init>" → meth.name = "<init>") ∧ ∀ q, s.heap.size ≤ q → A q
def zi_X (D : va_G) (A : Nat → Prop) (Q : Array Slot → va_W → Prop) (K S pcE : Nat) (p : Program) (l : Launch) (e : Env) (R : Room) (s : State) (m : MethodId) (args : Array Value) (below : List Frame) (meth : Method) (c : Code) (Qm : State → Prop) : Prop :=
  ∀ (H : Heap) (locs : List Loc) (arr : Array Slot) (ws : va_W), Q arr ws → va_P D zq_cl ws H → va_D A ws → va_S A s.heap H locs → W p l e R s m args below meth c H locs K S Qm (F0 m pcE arr [])
def zi_G (D : va_G) (κ : Nat → ClassId) (A : Nat → Prop) (M : zq_M) (h K S pcE : Nat) (Q : Array Slot → va_W → Prop) (k n pc : Nat) (ls : List (Nat × Value)) (st : List Value) (ws : va_W) : Prop :=
  ∀ (p : Program) (l : Launch) (e : Env) (R : Room) (s : State) (m : MethodId) (args : Array Value) (below : List Frame) (meth : Method) (c : Code) (Qm : State → Prop) (H : Heap) (locs : List Loc) (arr : Array Slot),
    zi_C D κ A M h K S p R s m args meth c → zi_X D A Q K S pcE p l e R s m args below meth c Qm → va_P D zq_cl ws H → va_D A ws → va_S A s.heap H locs → lv_has arr M.2.2.1 ls → W p l e R s m args below meth c H locs k n Qm (F0 m pc arr st)
def zi_rm (h K S : Nat) : Room := { frames := h, cells := K, slots := S, locals := 60 * h }
def zi_Pc (D : va_G) (κ : Nat → ClassId) (a sz : Nat) (ws : va_W) : Array Value → State → Prop := va_Pc [.ref a] (fun U => U.heap.size = sz ∧ va_P D zq_cl ws U.heap ∧ va_K D zq_cl (zi_ty κ) U ∧ zi_N U ∧ va_D (fun _ => True) ws)
def zi_Sp (M : zq_M) (h K S : Nat) (D : va_G) (κ : Nat → ClassId) (a : Nat) (ws : va_W) (Q : va_W → Prop) : Prop := ∀ (sz : Nat) (l : Launch), Met l M.1 (zq_wm M) (zi_rm h K S) (zi_Pc D κ a sz ws) (va_Qv (S := va_W) Q (fun w t => va_P D zq_cl w t.heap ∧ va_D (va_A ws sz) w) (va_A ws sz)) K S (va_A ws sz)
theorem zi_sp {M : zq_M} {h K S : Nat} {D : va_G} {κ : Nat → ClassId} {a : Nat} {ws : va_W} {Q : va_W → Prop} (pcE : Nat) (hpl : plainName M.1.cls = true) (hret : M.2.2.2 = none) (hL : 1 ≤ M.2.2.1) (hd : decode M.2.1 pcE = .ok (.return_, 1)) (hG : ∀ A, zi_G D κ A M h K S pcE (fun _ w => Q w) 0 0 0 [(0, .ref a)] [] ws) : zi_Sp M h K S D κ a ws Q := by
  intro sz l
  refine Met.ofW (cc := M.2.1) (maxL := M.2.2.1) (ret := M.2.2.2) hpl rfl ?_
  intro p e s m args below meth c s₁ B hml hv
  obtain ⟨rfl, hsz, hP, hK, hN, hD0⟩ := hv
  have hts := atoms_spec (ws := zq_wm M) B.pre
  have hlocks := B.notSynchronized
  subst hsz
  have hD := hD0.self (sz := s.heap.size)
  have hl := lv_entry ([.ref a] : List Value) (n := M.2.2.1) hL
  rw [lg_entry_eq]
  generalize (lg_sl ([.ref a] : List Value) ++ List.replicate (M.2.2.1 - (lg_sl ([.ref a] : List Value)).length) Slot.unset).toArray = arr at hl ⊢
  refine hG (va_A ws s.heap.size) p l e (headSpec (zq_wm M) (zi_rm h K S)).room s m _ below meth c _ s.heap [] arr ⟨B.exec, B.bytes, hml, findClass_of_methodNamed B.named, fun w hw => hts w (List.mem_cons_of_mem _ hw), hK, hN, Nat.le_refl _, Nat.le_refl _, Nat.le_refl _, Nat.le_refl _, fun hi => (name_of_methodNamed B.named B.method).1.trans hi, fun q hq => Or.inr hq⟩ ?_ hP hD va_S.rf hl
  intro H locs arr w hQ hP hD hS
  exact W.vret B.exec B.bytes (B.returns.trans hret) (fun t ht hW => ⟨⟨w, rfl, hQ, by rw [ht]; exact hP, hD⟩, hS.F ht⟩) hS.2.2 hd
def zi_MI (M : zq_M) : Prop := Cond.code M.1 M.2.1 M.2.2.1 M.2.2.2 ∈ zq_tbl ∧ Cond.instanceMethod M.1 ∈ zq_tbl ∧ Cond.initialized M.1.cls ∈ zq_tbl ∧ (M.1.cls ≠ "java/lang/invoke/MethodHandle" ∧ M.1.cls ≠ "java/lang/invoke/VarHandle" ∧ (parseMethodDescriptor M.1.desc).map (fun d => d.parameters.length) = some 0) ∧ M.1.name = "<init>" ∧ M.2.2.2 = none ∧ M.2.2.1 ≤ 40
theorem zi_lastP {D : va_G} {cl : List vw_C} {ws : va_W} {x : Nat × va_E} {H : Heap} (h : va_P D cl (ws ++ [x]) H) : va_P D cl [x] H := fun k q hk => h (ws.length + k) q (by rw [List.getElem?_append_right (Nat.le_add_right _ _), Nat.add_sub_cancel_left]; exact hk)
theorem zi_lastM {ws : va_W} {x : Nat × va_E} : [ws.length].map (fun i => (ws ++ [x])[i]?) = [x].map some := by simp
theorem zi_initM {ws : va_W} {x : Nat × va_E} : (List.range ws.length).map (fun i => (ws ++ [x])[i]?) = ws.map some := by
  refine List.ext_getElem? fun i => ?_
  simp only [List.getElem?_map]
  rcases Nat.lt_or_ge i ws.length with h | h
  · simp [List.getElem?_append_left h, h]
  · simp [List.getElem?_range, Nat.not_lt.mpr h, h]
theorem zi_ndr : ∀ n, va_nd (List.range n) = true := by
  intro n
  have key : ∀ l : List Nat, l.Nodup → va_nd l = true := by
    intro l
    induction l with
    | nil => intro _; rfl
    | cons a l ih =>
      intro h
      obtain ⟨h1, h2⟩ := List.nodup_cons.mp h
      show (decide (a ∉ l) && va_nd l) = true
      rw [ih h2, decide_eq_true h1]
      rfl
  exact key _ List.nodup_range
