/-! the rules of the growing world -/
section GROW
variable {D : va_G} {κ : Nat → ClassId} {A : Nat → Prop} {M : zq_M} {h K S pcE : Nat} {Q : Array Slot → va_W → Prop} {k n pc : Nat} {ls : List (Nat × Value)} {st : List Value} {ws : va_W}
theorem zi_end (hk : k ≤ K) (hn : n ≤ S) (hq : ∀ arr, lv_has arr M.2.2.1 ls → Q arr ws) : zi_G D κ A M h K S pcE Q k n pcE ls [] ws := by
  intro p l e R s m args below meth c Qm H locs arr hC hX hP hD hS hL
  exact W.widen hk hn (hX H locs arr ws (hq arr hL) hP hD hS)
theorem zi_iconst {i : Int} {v : Int32} (hd : decode M.2.1 pc = .ok (.iconst i, 1)) (hv : Int32.ofInt i = v) (kk : zi_G D κ A M h K S pcE Q k n (pc + 1) ls (.int v :: st) ws) : zi_G D κ A M h K S pcE Q k n pc ls st ws := by
  intro p l e R s m args below meth c Qm H locs arr hC hX hP hD hS hL
  exact lv_iconst hC.1 hC.2.1 hd hv (kk p l e R s m args below meth c Qm H locs arr hC hX hP hD hS hL)
theorem zi_bipush {i : Int} {v : Int32} (hd : decode M.2.1 pc = .ok (.bipush i, 2)) (hv : (Int8.ofInt i).toInt32 = v) (kk : zi_G D κ A M h K S pcE Q k n (pc + 2) ls (.int v :: st) ws) : zi_G D κ A M h K S pcE Q k n pc ls st ws := by
  intro p l e R s m args below meth c Qm H locs arr hC hX hP hD hS hL
  exact lv_bipush hC.1 hC.2.1 hd hv (kk p l e R s m args below meth c Qm H locs arr hC hX hP hD hS hL)
theorem zi_sipush {i : Int} {v : Int32} (hd : decode M.2.1 pc = .ok (.sipush i, 3)) (hv : (Int16.ofInt i).toInt32 = v) (kk : zi_G D κ A M h K S pcE Q k n (pc + 3) ls (.int v :: st) ws) : zi_G D κ A M h K S pcE Q k n pc ls st ws := by
  intro p l e R s m args below meth c Qm H locs arr hC hX hP hD hS hL
  exact lv_sipush hC.1 hC.2.1 hd hv (kk p l e R s m args below meth c Qm H locs arr hC hX hP hD hS hL)
theorem zi_aload {i : Fin 4} {a : Nat} (q : Nat) (hd : decode M.2.1 pc = .ok (.aload_n i, 1)) (hl : ls[q]? = some (i.val, .ref a)) (kk : zi_G D κ A M h K S pcE Q k n (pc + 1) ls (.ref a :: st) ws) : zi_G D κ A M h K S pcE Q k n pc ls st ws := by
  intro p l e R s m args below meth c Qm H locs arr hC hX hP hD hS hL
  exact lv_aload_n hC.1 hC.2.1 hd rfl (lv_at hL q hl) (kk p l e R s m args below meth c Qm H locs arr hC hX hP hD hS hL)
theorem zi_astore {i : Fin 4} {a : Nat} {ls' : List (Nat × Value)} (hd : decode M.2.1 pc = .ok (.astore_n i, 1)) (hi : i.val < M.2.2.1) (hl : (i.val, Value.ref a) :: ls.filter (fun q => !(q.1 == i.val) && !(q.1 + 1 == i.val && q.2.category == 2)) = ls') (kk : zi_G D κ A M h K S pcE Q k n (pc + 1) ls' st ws) : zi_G D κ A M h K S pcE Q k n pc ls (.ref a :: st) ws := by
  intro p l e R s m args below meth c Qm H locs arr hC hX hP hD hS hL
  exact lv_astore_n hC.1 hC.2.1 hd rfl hL hi hl (fun arr hA => kk p l e R s m args below meth c Qm H locs arr hC hX hP hD hS hA)
theorem zi_dup {v : Value} (hd : decode M.2.1 pc = .ok (.dup, 1)) (hv : v.category = 1) (kk : zi_G D κ A M h K S pcE Q k n (pc + 1) ls (v :: v :: st) ws) : zi_G D κ A M h K S pcE Q k n pc ls (v :: st) ws := by
  intro p l e R s m args below meth c Qm H locs arr hC hX hP hD hS hL
  exact lv_dup hC.1 hC.2.1 hd hv (kk p l e R s m args below meth c Qm H locs arr hC hX hP hD hS hL)
theorem zi_obj1 : Cond.instanceMethod Lib.objectInit ∈ zq_tbl := zq_in 79 (by decide +kernel) rfl
theorem zi_obj2 : Cond.code Lib.objectInit ⟨#[0xb1]⟩ 1 none ∈ zq_tbl := zq_in 80 (by decide +kernel) rfl
theorem zi_objI {idx a : Nat} (hh : 1 ≤ h) (hlk : Cond.methodLink M.1.cls idx Lib.objectInit ∈ zq_tbl) (hd : decode M.2.1 pc = .ok (.invokespecial idx, 3)) (kk : zi_G D κ A M h K S pcE Q k n (pc + 3) ls [] ws) : zi_G D κ A M h K S pcE Q k n pc ls [.ref a] ws := by
  intro p l e R s m args below meth c Qm H locs arr hC hX hP hD hS hL
  obtain ⟨c1, c2, c3, c4, c5, c6, c7, c8, c9, c10, c11, c12, c13⟩ := id hC
  refine W.objInit c1 c2 c4 (c5 _ hlk) (c5 _ zi_obj1) (c5 _ zi_obj2) rfl (hL.1.trans c3.symm) rfl hd (Nat.le_trans hh c8) (by show 0 + 0 + 12 ≤ R.locals; omega) ?_
  exact W.eq (g2 := F0 m (pc + 3) arr []) rfl (kk p l e R s m args below meth c Qm H locs arr hC hX hP hD hS hL)
theorem zi_new {idx ci N : Nat} {C : String} {T : u_T} {ty0 : Nat → FieldType} {fs : List Value} (hcl : zq_cl[ci]? = some (C, T, N)) (hin : ∀ w ∈ u_ws C T N, w ∈ zq_tbl) (hty : ∀ k, k < N → parseFieldDescriptor (T k).2.2.1 = some (ty0 k)) (hlk : Cond.classLink M.1.cls idx C ∈ zq_tbl) (hinst : Cond.instantiable C N ∈ zq_tbl) (hini : Cond.initialized C ∈ zq_tbl) (hfs : ∀ j, j < N → defaultValue (ty0 j) = vp_V fs j) (hk : k + 1 ≤ K) (hn : n + N ≤ S) (hd : decode M.2.1 pc = .ok (.new idx, 3)) (kk : ∀ q, zi_G D κ A M h K S pcE Q (k + 1) (n + N) (pc + 3) ls (.ref q :: st) (ws ++ [(q, .inr (ci, fs))])) : zi_G D κ A M h K S pcE Q k n pc ls st ws := by
  intro p l e R s m args below meth c Qm H locs arr hC hX hP hD hS hL
  obtain ⟨c1, c2, c3, c4, c5, c6, c7, c8, c9, c10, c11, c12, c13⟩ := id hC
  exact va_new (ci := ci) (fs := fs) c1 c2 c5 hin ty0 hty c4 (c5 _ hlk) (c5 _ hinst) (c5 _ hini) c6 hP hD hS c13 hcl hfs (Nat.le_trans hk c10) (Nat.le_trans hn c11) hd (fun q H1 hP1 hD1 hS1 => kk q p l e R s m args below meth c Qm H1 locs arr hC hX hP1 hD1 hS1 hL)
theorem zi_newa {atype : ArrayType} {ty : FieldType} {N' t0 g : Nat} {i : Int32} {a0 : vp_A} (harr : Cond.arrayClass ty ∈ zq_tbl) (hty : newarray.typeOf atype = ty) (ht0 : (zi_ty κ)[t0]? = some (κ g, ty)) (ha : ∀ cA : ClassId, vp_cell cA a0 = arrV cA N' (fun _ => defaultValue ty)) (hi : i = nI N') (hN : N' ≤ 1000) (hcb : componentBytes ty ≤ 8) (hk : k + 1 ≤ K) (hn : n + N' ≤ S) (hd : decode M.2.1 pc = .ok (.newarray atype, 2)) (kk : ∀ q, zi_G D κ A M h K S pcE Q (k + 1) (n + N') (pc + 2) ls (.ref q :: st) (ws ++ [(q, .inl (κ g, a0))])) : zi_G D κ A M h K S pcE Q k n pc ls (.int i :: st) ws := by
  subst hi
  intro p l e R s m args below meth c Qm H locs arr hC hX hP hD hS hL
  obtain ⟨c1, c2, c3, c4, c5, c6, c7, c8, c9, c10, c11, c12, c13⟩ := id hC
  have hb : N' * componentBytes ty ≤ 536870912 := Nat.le_trans (Nat.mul_le_mul hN hcb) (by decide)
  refine va_newa (ty := ty) (N' := N') (a0 := a0) c1 c2 (by rw [hty]; exact c5 _ harr) hty c6 hP hD hS c13 ha (nI_pos (by omega)) (nI_clamp (by omega)) hb (Nat.le_trans hk c10) (Nat.le_trans hn c11) hd (fun q cA H1 hK1 hP1 hD1 hS1 => ?_)
  have e : cA = κ g := zi_RA (hK1.2 (zi_ty κ).length (cA, ty) (by simp)).2 (c6.2 t0 _ ht0).2
  subst e
  exact kk q p l e R s m args below meth c Qm H1 locs arr hC hX hP1 hD1 hS1 hL
def zi_F (own : String) (idx t k : Nat) (ty : FieldType) : Prop := ∃ (ci N : Nat) (C : String) (T : u_T) (ty0 : Nat → FieldType), zq_kd t = (0, ci, N) ∧ zq_cl[ci]? = some (C, T, N) ∧ (∀ w ∈ u_ws C T N, w ∈ zq_tbl) ∧ k < N ∧ Cond.fieldLink own idx (T k).1 (T k).2.1 (T k).2.2.1 ∈ zq_tbl ∧ (∀ k, k < N → parseFieldDescriptor (T k).2.2.1 = some (ty0 k)) ∧ (∀ a, a < N → ∀ b, b < N → a ≠ b → (T a).2.1 ≠ (T b).2.1) ∧ (T k).2.2.2 = true ∧ parseFieldDescriptor (T k).2.2.1 = some ty ∧ (T k).1 = own
theorem zi_putF {idx t kf ci N a : Nat} {fs : List Value} {W0 : va_W} {v : Value} {ty : FieldType} (hF : zi_F M.1.cls idx t kf ty) (hkd : zq_kd t = (0, ci, N)) (hn : narrow ty v = v) (hfit : fits ty v = true) (hl : fs.length = N) (hin : M.1.name = "<init>") (hd : decode M.2.1 pc = .ok (.putfield idx, 3)) (kk : zi_G D κ A M h K S pcE Q k n (pc + 3) ls st ((a, .inr (ci, fs.set kf v)) :: W0)) : zi_G D κ A M h K S pcE Q k n pc ls (v :: .ref a :: st) ((a, .inr (ci, fs)) :: W0) := by
  intro p l e R s m args below meth c Qm H locs arr hC hX hP hD hS hL
  obtain ⟨c1, c2, c3, c4, c5, c6, c7, c8, c9, c10, c11, c12, c13⟩ := id hC
  obtain ⟨ci', N', C, T, ty0, h1, h2, h3, h4, h5, h6, h7, h8, h9, h10⟩ := hF
  rw [hkd] at h1
  cases h1
  exact va_putF (D := D) (v := v) (ty := ty) c1 c2 c5 h3 ty0 h6 h7 c4 c6 hP hD hS 0 rfl h2 kf h4 (c5 _ h5) (fun _ h9 => h9) h8 (c12 hin) h10 h9 hn hfit (by rw [hl]; exact h4) hd (fun H1 locs1 hP1 hD1 hS1 => kk p l e R s m args below meth c Qm H1 locs1 arr hC hX hP1 hD1 hS1 hL)
theorem zi_putW {idx t kf ci N a : Nat} {fs : List Value} {W0 : va_W} {v : Value} {ty : FieldType} (hF : zq_W M.1.cls idx t kf ty) (hkd : zq_kd t = (0, ci, N)) (hn : narrow ty v = v) (hfit : fits ty v = true) (hl : fs.length = N) (hd : decode M.2.1 pc = .ok (.putfield idx, 3)) (kk : zi_G D κ A M h K S pcE Q k n (pc + 3) ls st ((a, .inr (ci, fs.set kf v)) :: W0)) : zi_G D κ A M h K S pcE Q k n pc ls (v :: .ref a :: st) ((a, .inr (ci, fs)) :: W0) := by
  intro p l e R s m args below meth c Qm H locs arr hC hX hP hD hS hL
  obtain ⟨c1, c2, c3, c4, c5, c6, c7, c8, c9, c10, c11, c12, c13⟩ := id hC
  obtain ⟨ci', N', C, T, ty0, h1, h2, h3, h4, h5, h6, h7, h8, h9⟩ := hF
  rw [hkd] at h1
  cases h1
  exact va_put (D := D) (v := v) (ty := ty) c1 c2 c5 h3 ty0 h6 h7 c4 c6 hP hD hS 0 rfl h2 kf h4 (c5 _ h5) (fun _ h9 => h9) h8 h9 hn hfit (by rw [hl]; exact h4) hd (fun H1 locs1 hP1 hD1 hS1 => kk p l e R s m args below meth c Qm H1 locs1 arr hC hX hP1 hD1 hS1 hL)
theorem zi_get {idx t kf ci N a : Nat} {fs : List Value} {W0 : va_W} {v : Value} (hF : zq_F M.1.cls idx t kf) (hkd : zq_kd t = (0, ci, N)) (hv : fs[kf]? = some v) (hd : decode M.2.1 pc = .ok (.getfield idx, 3)) (kk : zi_G D κ A M h K S pcE Q k n (pc + 3) ls (v :: st) ((a, .inr (ci, fs)) :: W0)) : zi_G D κ A M h K S pcE Q k n pc ls (.ref a :: st) ((a, .inr (ci, fs)) :: W0) := by
  intro p l e R s m args below meth c Qm H locs arr hC hX hP hD hS hL
  obtain ⟨c1, c2, c3, c4, c5, c6, c7, c8, c9, c10, c11, c12, c13⟩ := id hC
  obtain ⟨ci', N', C, T, h1, h2, h3, h4, h5⟩ := hF
  rw [hkd] at h1
  cases h1
  exact va_get (D := D) (v := v) c1 c2 c5 h3 c4 c6 hP 0 rfl h2 kf h4 (c5 _ h5) (fun _ h9 => h9) hv hd (kk p l e R s m args below meth c Qm H locs arr hC hX hP hD hS hL)
theorem zi_iastq (q0 : Nat) {a N i : Nat} {f : Nat → Int32} {x y : Int32} (ha : ws[q0]? = some (a, .inl (κ 1, N, .inl f))) (hy : y = nI i) (hi : i < N) (hN : N ≤ 1000) (hd : decode M.2.1 pc = .ok (.iastore, 1)) (kk : zi_G D κ A M h K S pcE Q k n (pc + 1) ls st (ws.set q0 (a, .inl (κ 1, N, .inl (upd f i x))))) : zi_G D κ A M h K S pcE Q k n pc ls (.int x :: .int y :: .ref a :: st) ws := by
  subst hy
  intro p l e R s m args below meth c Qm H locs arr hC hX hP hD hS hL
  obtain ⟨c1, c2, c3, c4, c5, c6, c7, c8, c9, c10, c11, c12, c13⟩ := id hC
  refine va_iast c1 c2 c6 hP hD hS q0 0 ha rfl (vp_in_nI hi (by omega)) hd (fun H1 locs1 hP1 hD1 hS1 => ?_)
  rw [zq_cl31 hi hN] at hP1 hD1
  exact kk p l e R s m args below meth c Qm H1 locs1 arr hC hX hP1 hD1 hS1 hL
theorem zi_iast {a N i : Nat} {f : Nat → Int32} {x y : Int32} {h0 : Nat × va_E} {W0 : va_W} (hy : y = nI i) (hi : i < N) (hN : N ≤ 1000) (hd : decode M.2.1 pc = .ok (.iastore, 1)) (kk : zi_G D κ A M h K S pcE Q k n (pc + 1) ls st (h0 :: (W0 ++ [(a, .inl (κ 1, N, .inl (upd f i x)))]))) : zi_G D κ A M h K S pcE Q k n pc ls (.int x :: .int y :: .ref a :: st) (h0 :: (W0 ++ [(a, .inl (κ 1, N, .inl f))])) := by
  refine zi_iastq (W0.length + 1) (a := a) (N := N) (f := f) (by simp) hy hi hN hd ?_
  rw [show (h0 :: (W0 ++ [(a, Sum.inl (κ 1, N, Sum.inl f))])).set (W0.length + 1) (a, Sum.inl (κ 1, N, Sum.inl (upd f i x))) = h0 :: (W0 ++ [(a, Sum.inl (κ 1, N, Sum.inl (upd f i x)))]) from by simp]
  exact kk
theorem zi_blind (κ : Nat → ClassId) (a sz : Nat) (w : va_W) : FrameBlind (zi_Pc D κ a sz w) := fun v U g mk q => ⟨q.1, q.2.1, q.2.2.1, va_K.moved (u := U) (U := U.calling g mk v) (Vm.Alike.refl U.vm) q.2.2.2.1, q.2.2.2.2.1.call g mk v, q.2.2.2.2.2⟩
end GROW
