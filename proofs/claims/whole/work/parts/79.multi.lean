theorem zi_arrI : Cond.arrayClass .int ∈ zq_tbl := zq_in 151 (by decide +kernel) rfl
theorem zi_arrB : Cond.arrayClass .byte ∈ zq_tbl := zq_in 111 (by decide +kernel) rfl
theorem zi_arrL : Cond.arrayClass .long ∈ zq_tbl := zq_in 914 (by decide +kernel) rfl
theorem zi_arrZ : Cond.arrayClass .boolean ∈ zq_tbl := zq_in 915 (by decide +kernel) rfl
def zi_z : Nat → Int32 := fun _ => 0
def zi_rw (q : Nat) : Nat → Option Nat := fun i => if i < 4 then some (q + 1 + i) else none
def zi_r5 (κ : Nat → ClassId) (q : Nat) : va_W := [(q, .inl (κ 5, 4, .inr (.inr (.inr (.inr (zi_rw q)))))), (q + 1, .inl (κ 1, 40, .inl zi_z)), (q + 2, .inl (κ 1, 40, .inl zi_z)), (q + 3, .inl (κ 1, 40, .inl zi_z)), (q + 4, .inl (κ 1, 40, .inl zi_z))]
theorem zi_r5a {κ : Nat → ClassId} {q i : Nat} {x : Nat × va_E} (h : (zi_r5 κ q)[i]? = some x) : i < 5 ∧ x.1 = q + i := by
  match i, h with
  | 0, h => cases h; exact ⟨by omega, rfl⟩
  | 1, h => cases h; exact ⟨by omega, rfl⟩
  | 2, h => cases h; exact ⟨by omega, rfl⟩
  | 3, h => cases h; exact ⟨by omega, rfl⟩
  | 4, h => cases h; exact ⟨by omega, rfl⟩
section MUL
variable {D : va_G} {κ : Nat → ClassId} {A : Nat → Prop} {M : zq_M} {h K S pcE : Nat} {Q : Array Slot → va_W → Prop} {k n pc : Nat} {ls : List (Nat × Value)} {st : List Value} {ws : va_W}
theorem zi_multi {idx : Nat} (hlk : Cond.classLink M.1.cls idx "[[I" ∈ zq_tbl) (hd : decode M.2.1 pc = .ok (.multianewarray idx 2, 4)) (hk : k + 5 ≤ K) (hn : n + 164 ≤ S) (kk : ∀ q, zi_G D κ A M h K S pcE Q (k + 5) (n + 164) (pc + 4) ls (.ref q :: st) (ws ++ zi_r5 κ q)) : zi_G D κ A M h K S pcE Q k n pc ls (.int 40 :: .int 4 :: st) ws := by
  intro p l e R s m args below meth c Qm H locs arr hC hX hP hD hS hL T hT X
  obtain ⟨c1, c2, c3, c4, c5, c6, c7, c8, c9, c10, c11, c12, c13⟩ := id hC
  have es : "[" ++ (FieldType.array FieldType.int).toString = "[[I" := by decide +kernel
  have es1 : "[" ++ FieldType.int.toString = "[I" := by decide +kernel
  obtain ⟨vm₁, cA, comp, hW, hfA, hfC, X1, st1⟩ := zj_row X c1 (own := M.1.cls) (index := idx) c4 (c5 _ hlk) (zj_alike (s := s) (U := s) (Vm.Alike.refl s.vm) c7.2.2.2) (c5 _ zi_arrI)
    (g := F0 m pc arr (.int 40 :: .int 4 :: st)) rfl (by rw [c2]; exact hd) (rest := st) rfl (by omega) (by omega)
  have r5 : va_RA s (κ 5) (.array .int) := (c6.2 4 _ rfl).2
  have r1 : va_RA s (κ 1) .int := (c6.2 0 _ rfl).2
  have eA : cA = κ 5 := Option.some.inj (hfA.symm.trans ((congrArg s.vm.findClass es).symm.trans r5))
  have eC : comp = κ 1 := Option.some.inj (hfC.symm.trans ((congrArg s.vm.findClass es1).symm.trans r1))
  subst eA
  subst eC
  subst hT
  obtain ⟨f1, f2, f3, f4⟩ := zj_T0 (T.setVm vm₁) (κ 5) (κ 1) 4
  have f5 := fun j hj => zj_Tin (T.setVm vm₁) (κ 5) (κ 1) 4 j hj
  have f6 := fun (a : Nat) (ha : a < T.heap.size) => zj_Told (T.setVm vm₁) (κ 5) (κ 1) (x := a) ha 4
  generalize zj_T (T.setVm vm₁) (κ 5) (κ 1) 4 = T2 at X1 st1 f1 f2 f3 f4 f5 f6
  have f1 : T2.heap.size = T.heap.size + (1 + 4) := f1
  have f2 : T2.heap[T.heap.size]? = some (zj_oc (κ 5) T.heap.size 4) := f2
  have f5 : ∀ j, j < 4 → T2.heap[T.heap.size + 1 + j]? = some (zj_ic (κ 1)) := f5
  have f6 : ∀ a : Nat, a < T.heap.size → T2.heap[a]? = T.heap[a]? := f6
  have hlt : ∀ (k2 : Nat) (x : Nat × va_E), ws[k2]? = some x → x.1 < T.heap.size := fun k2 x hx => (hP k2 x hx).lt
  have hP2 : va_P D zq_cl (ws ++ zi_r5 κ T.heap.size) T2.heap := by
    refine (hP.kept fun k2 x hx => f6 x.1 (hlt k2 x hx)).app fun k2 x hx => ?_
    match k2, hx with
    | 0, hx => cases hx; exact f2.trans (congrArg some (zi_outer (κ 5) T.heap.size))
    | 1, hx => cases hx; exact (f5 0 (by omega)).trans (congrArg some (zi_inner (κ 1)))
    | 2, hx => cases hx; exact (f5 1 (by omega)).trans (congrArg some (zi_inner (κ 1)))
    | 3, hx => cases hx; exact (f5 2 (by omega)).trans (congrArg some (zi_inner (κ 1)))
    | 4, hx => cases hx; exact (f5 3 (by omega)).trans (congrArg some (zi_inner (κ 1)))
  have hD2 : va_D A (ws ++ zi_r5 κ T.heap.size) := by
    refine va_D.app hD ⟨fun i j x y hx hy hxy => ?_, fun k2 x hx => ?_⟩ (fun i j x y hx hy hxy => ?_)
    · have h1 := (zi_r5a hx).2
      have h2 := (zi_r5a hy).2
      omega
    · have h1 := (zi_r5a hx).2
      exact c13 x.1 (by have := hS.1; omega)
    · have h1 := hlt i x hx
      have h2 := (zi_r5a hy).2
      omega
  have hS2 : va_S A s.heap T2.heap locs := ⟨by have := hS.1; omega, fun q h1 h2 => (f6 q (Nat.lt_of_lt_of_le h1 hS.1)).trans (hS.2.1 q h1 h2), hS.2.2⟩
  obtain ⟨t, a1, b1⟩ := kk T.heap.size p l e R s m args below meth c Qm T2.heap locs arr hC hX hP2 hD2 hS2 hL T2 rfl X1
  exact ⟨t, st1 t a1, b1⟩
end MUL
