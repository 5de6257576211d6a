theorem gq_iconst {ν : zq_E} {M : zq_M} {h : Nat} {Q : Option zq_V → zq_T → Prop} {pc : Nat} {ls : List (Option zq_V)} {st : List zq_V} {σ : zq_T} {n : Int} {v : Int32} (hd : decode M.2.1 pc = .ok (.iconst n, 1)) (hv : Int32.ofInt n = v) (k : zq_G ν M h Q (pc + 1) ls (zq_I v :: st) σ) : zq_G ν M h Q pc ls (st) σ := by
  intro p l e R s m args below meth c cells slots Qm H locs arr hok hC hX hP hS hL
  exact lv_iconst hC.1 hC.2.1 hd hv (k p l e R s m args below meth c cells slots Qm H locs arr hok hC hX hP hS hL)
theorem gq_bipush {ν : zq_E} {M : zq_M} {h : Nat} {Q : Option zq_V → zq_T → Prop} {pc : Nat} {ls : List (Option zq_V)} {st : List zq_V} {σ : zq_T} {n : Int} {v : Int32} (hd : decode M.2.1 pc = .ok (.bipush n, 2)) (hv : (Int8.ofInt n).toInt32 = v) (k : zq_G ν M h Q (pc + 2) ls (zq_I v :: st) σ) : zq_G ν M h Q pc ls (st) σ := by
  intro p l e R s m args below meth c cells slots Qm H locs arr hok hC hX hP hS hL
  exact lv_bipush hC.1 hC.2.1 hd hv (k p l e R s m args below meth c cells slots Qm H locs arr hok hC hX hP hS hL)
theorem gq_sipush {ν : zq_E} {M : zq_M} {h : Nat} {Q : Option zq_V → zq_T → Prop} {pc : Nat} {ls : List (Option zq_V)} {st : List zq_V} {σ : zq_T} {n : Int} {v : Int32} (hd : decode M.2.1 pc = .ok (.sipush n, 3)) (hv : (Int16.ofInt n).toInt32 = v) (k : zq_G ν M h Q (pc + 3) ls (zq_I v :: st) σ) : zq_G ν M h Q pc ls (st) σ := by
  intro p l e R s m args below meth c cells slots Qm H locs arr hok hC hX hP hS hL
  exact lv_sipush hC.1 hC.2.1 hd hv (k p l e R s m args below meth c cells slots Qm H locs arr hok hC hX hP hS hL)
theorem gq_lconst {ν : zq_E} {M : zq_M} {h : Nat} {Q : Option zq_V → zq_T → Prop} {pc : Nat} {ls : List (Option zq_V)} {st : List zq_V} {σ : zq_T} {n : Fin 2} {v : Int64} (hd : decode M.2.1 pc = .ok (.lconst n, 1)) (hv : Int64.ofNat (n : Nat) = v) (k : zq_G ν M h Q (pc + 1) ls (zq_L v :: st) σ) : zq_G ν M h Q pc ls (st) σ := by
  intro p l e R s m args below meth c cells slots Qm H locs arr hok hC hX hP hS hL
  exact lv_lconst hC.1 hC.2.1 hd hv (k p l e R s m args below meth c cells slots Qm H locs arr hok hC hX hP hS hL)
theorem gq_iadd {ν : zq_E} {M : zq_M} {h : Nat} {Q : Option zq_V → zq_T → Prop} {pc : Nat} {ls : List (Option zq_V)} {st : List zq_V} {σ : zq_T} {x y : Int32} (hd : decode M.2.1 pc = .ok (.iadd, 1)) (k : zq_G ν M h Q (pc + 1) ls (zq_I (x + y) :: st) σ) : zq_G ν M h Q pc ls (zq_I y :: zq_I x :: st) σ := by
  intro p l e R s m args below meth c cells slots Qm H locs arr hok hC hX hP hS hL
  exact lv_iadd hC.1 hC.2.1 hd (k p l e R s m args below meth c cells slots Qm H locs arr hok hC hX hP hS hL)
theorem gq_isub {ν : zq_E} {M : zq_M} {h : Nat} {Q : Option zq_V → zq_T → Prop} {pc : Nat} {ls : List (Option zq_V)} {st : List zq_V} {σ : zq_T} {x y : Int32} (hd : decode M.2.1 pc = .ok (.isub, 1)) (k : zq_G ν M h Q (pc + 1) ls (zq_I (x - y) :: st) σ) : zq_G ν M h Q pc ls (zq_I y :: zq_I x :: st) σ := by
  intro p l e R s m args below meth c cells slots Qm H locs arr hok hC hX hP hS hL
  exact lv_isub hC.1 hC.2.1 hd (k p l e R s m args below meth c cells slots Qm H locs arr hok hC hX hP hS hL)
theorem gq_imul {ν : zq_E} {M : zq_M} {h : Nat} {Q : Option zq_V → zq_T → Prop} {pc : Nat} {ls : List (Option zq_V)} {st : List zq_V} {σ : zq_T} {x y : Int32} (hd : decode M.2.1 pc = .ok (.imul, 1)) (k : zq_G ν M h Q (pc + 1) ls (zq_I (x * y) :: st) σ) : zq_G ν M h Q pc ls (zq_I y :: zq_I x :: st) σ := by
  intro p l e R s m args below meth c cells slots Qm H locs arr hok hC hX hP hS hL
  exact lv_imul hC.1 hC.2.1 hd (k p l e R s m args below meth c cells slots Qm H locs arr hok hC hX hP hS hL)
theorem gq_iand {ν : zq_E} {M : zq_M} {h : Nat} {Q : Option zq_V → zq_T → Prop} {pc : Nat} {ls : List (Option zq_V)} {st : List zq_V} {σ : zq_T} {x y : Int32} (hd : decode M.2.1 pc = .ok (.iand, 1)) (k : zq_G ν M h Q (pc + 1) ls (zq_I (x &&& y) :: st) σ) : zq_G ν M h Q pc ls (zq_I y :: zq_I x :: st) σ := by
  intro p l e R s m args below meth c cells slots Qm H locs arr hok hC hX hP hS hL
  exact lv_iand hC.1 hC.2.1 hd (k p l e R s m args below meth c cells slots Qm H locs arr hok hC hX hP hS hL)
theorem gq_ior {ν : zq_E} {M : zq_M} {h : Nat} {Q : Option zq_V → zq_T → Prop} {pc : Nat} {ls : List (Option zq_V)} {st : List zq_V} {σ : zq_T} {x y : Int32} (hd : decode M.2.1 pc = .ok (.ior, 1)) (k : zq_G ν M h Q (pc + 1) ls (zq_I (x ||| y) :: st) σ) : zq_G ν M h Q pc ls (zq_I y :: zq_I x :: st) σ := by
  intro p l e R s m args below meth c cells slots Qm H locs arr hok hC hX hP hS hL
  exact lv_ior hC.1 hC.2.1 hd (k p l e R s m args below meth c cells slots Qm H locs arr hok hC hX hP hS hL)
theorem gq_ixor {ν : zq_E} {M : zq_M} {h : Nat} {Q : Option zq_V → zq_T → Prop} {pc : Nat} {ls : List (Option zq_V)} {st : List zq_V} {σ : zq_T} {x y : Int32} (hd : decode M.2.1 pc = .ok (.ixor, 1)) (k : zq_G ν M h Q (pc + 1) ls (zq_I (x ^^^ y) :: st) σ) : zq_G ν M h Q pc ls (zq_I y :: zq_I x :: st) σ := by
  intro p l e R s m args below meth c cells slots Qm H locs arr hok hC hX hP hS hL
  exact lv_ixor hC.1 hC.2.1 hd (k p l e R s m args below meth c cells slots Qm H locs arr hok hC hX hP hS hL)
theorem gq_ishl {ν : zq_E} {M : zq_M} {h : Nat} {Q : Option zq_V → zq_T → Prop} {pc : Nat} {ls : List (Option zq_V)} {st : List zq_V} {σ : zq_T} {x y : Int32} (hd : decode M.2.1 pc = .ok (.ishl, 1)) (k : zq_G ν M h Q (pc + 1) ls (zq_I (x <<< (y &&& 31)) :: st) σ) : zq_G ν M h Q pc ls (zq_I y :: zq_I x :: st) σ := by
  intro p l e R s m args below meth c cells slots Qm H locs arr hok hC hX hP hS hL
  exact lv_ishl hC.1 hC.2.1 hd (k p l e R s m args below meth c cells slots Qm H locs arr hok hC hX hP hS hL)
theorem gq_ishr {ν : zq_E} {M : zq_M} {h : Nat} {Q : Option zq_V → zq_T → Prop} {pc : Nat} {ls : List (Option zq_V)} {st : List zq_V} {σ : zq_T} {x y : Int32} (hd : decode M.2.1 pc = .ok (.ishr, 1)) (k : zq_G ν M h Q (pc + 1) ls (zq_I (x >>> (y &&& 31)) :: st) σ) : zq_G ν M h Q pc ls (zq_I y :: zq_I x :: st) σ := by
  intro p l e R s m args below meth c cells slots Qm H locs arr hok hC hX hP hS hL
  exact lv_ishr hC.1 hC.2.1 hd (k p l e R s m args below meth c cells slots Qm H locs arr hok hC hX hP hS hL)
theorem gq_idiv {ν : zq_E} {M : zq_M} {h : Nat} {Q : Option zq_V → zq_T → Prop} {pc : Nat} {ls : List (Option zq_V)} {st : List zq_V} {σ : zq_T} {x y : Int32} (hd : decode M.2.1 pc = .ok (.idiv, 1)) (hne : ¬ y = 0) (k : zq_G ν M h Q (pc + 1) ls (zq_I (x / y) :: st) σ) : zq_G ν M h Q pc ls (zq_I y :: zq_I x :: st) σ := by
  intro p l e R s m args below meth c cells slots Qm H locs arr hok hC hX hP hS hL
  exact lv_idiv hC.1 hC.2.1 hd hne (k p l e R s m args below meth c cells slots Qm H locs arr hok hC hX hP hS hL)
theorem gq_irem {ν : zq_E} {M : zq_M} {h : Nat} {Q : Option zq_V → zq_T → Prop} {pc : Nat} {ls : List (Option zq_V)} {st : List zq_V} {σ : zq_T} {x y : Int32} (hd : decode M.2.1 pc = .ok (.irem, 1)) (hne : ¬ y = 0) (k : zq_G ν M h Q (pc + 1) ls (zq_I (x - x / y * y) :: st) σ) : zq_G ν M h Q pc ls (zq_I y :: zq_I x :: st) σ := by
  intro p l e R s m args below meth c cells slots Qm H locs arr hok hC hX hP hS hL
  exact lv_irem hC.1 hC.2.1 hd hne (k p l e R s m args below meth c cells slots Qm H locs arr hok hC hX hP hS hL)
theorem gq_ladd {ν : zq_E} {M : zq_M} {h : Nat} {Q : Option zq_V → zq_T → Prop} {pc : Nat} {ls : List (Option zq_V)} {st : List zq_V} {σ : zq_T} {x y : Int64} (hd : decode M.2.1 pc = .ok (.ladd, 1)) (k : zq_G ν M h Q (pc + 1) ls (zq_L (x + y) :: st) σ) : zq_G ν M h Q pc ls (zq_L y :: zq_L x :: st) σ := by
  intro p l e R s m args below meth c cells slots Qm H locs arr hok hC hX hP hS hL
  exact lv_ladd hC.1 hC.2.1 hd (k p l e R s m args below meth c cells slots Qm H locs arr hok hC hX hP hS hL)
theorem gq_lsub {ν : zq_E} {M : zq_M} {h : Nat} {Q : Option zq_V → zq_T → Prop} {pc : Nat} {ls : List (Option zq_V)} {st : List zq_V} {σ : zq_T} {x y : Int64} (hd : decode M.2.1 pc = .ok (.lsub, 1)) (k : zq_G ν M h Q (pc + 1) ls (zq_L (x - y) :: st) σ) : zq_G ν M h Q pc ls (zq_L y :: zq_L x :: st) σ := by
  intro p l e R s m args below meth c cells slots Qm H locs arr hok hC hX hP hS hL
  exact lv_lsub hC.1 hC.2.1 hd (k p l e R s m args below meth c cells slots Qm H locs arr hok hC hX hP hS hL)
theorem gq_lmul {ν : zq_E} {M : zq_M} {h : Nat} {Q : Option zq_V → zq_T → Prop} {pc : Nat} {ls : List (Option zq_V)} {st : List zq_V} {σ : zq_T} {x y : Int64} (hd : decode M.2.1 pc = .ok (.lmul, 1)) (k : zq_G ν M h Q (pc + 1) ls (zq_L (x * y) :: st) σ) : zq_G ν M h Q pc ls (zq_L y :: zq_L x :: st) σ := by
  intro p l e R s m args below meth c cells slots Qm H locs arr hok hC hX hP hS hL
  exact lv_lmul hC.1 hC.2.1 hd (k p l e R s m args below meth c cells slots Qm H locs arr hok hC hX hP hS hL)
theorem gq_ldiv {ν : zq_E} {M : zq_M} {h : Nat} {Q : Option zq_V → zq_T → Prop} {pc : Nat} {ls : List (Option zq_V)} {st : List zq_V} {σ : zq_T} {x y : Int64} (hd : decode M.2.1 pc = .ok (.ldiv, 1)) (hne : ¬ y = 0) (k : zq_G ν M h Q (pc + 1) ls (zq_L (x / y) :: st) σ) : zq_G ν M h Q pc ls (zq_L y :: zq_L x :: st) σ := by
  intro p l e R s m args below meth c cells slots Qm H locs arr hok hC hX hP hS hL
  exact lv_ldiv hC.1 hC.2.1 hd hne (k p l e R s m args below meth c cells slots Qm H locs arr hok hC hX hP hS hL)
theorem gq_lrem {ν : zq_E} {M : zq_M} {h : Nat} {Q : Option zq_V → zq_T → Prop} {pc : Nat} {ls : List (Option zq_V)} {st : List zq_V} {σ : zq_T} {x y : Int64} (hd : decode M.2.1 pc = .ok (.lrem, 1)) (hne : ¬ y = 0) (k : zq_G ν M h Q (pc + 1) ls (zq_L (x - x / y * y) :: st) σ) : zq_G ν M h Q pc ls (zq_L y :: zq_L x :: st) σ := by
  intro p l e R s m args below meth c cells slots Qm H locs arr hok hC hX hP hS hL
  exact lv_lrem hC.1 hC.2.1 hd hne (k p l e R s m args below meth c cells slots Qm H locs arr hok hC hX hP hS hL)
theorem gq_iushr {ν : zq_E} {M : zq_M} {h : Nat} {Q : Option zq_V → zq_T → Prop} {pc : Nat} {ls : List (Option zq_V)} {st : List zq_V} {σ : zq_T} {x y : Int32} (hd : decode M.2.1 pc = .ok (.iushr, 1)) (k : zq_G ν M h Q (pc + 1) ls (zq_I (x.toUInt32 >>> (y.toUInt32 &&& Int32.toUInt32 31)).toInt32 :: st) σ) : zq_G ν M h Q pc ls (zq_I y :: zq_I x :: st) σ := by
  intro p l e R s m args below meth c cells slots Qm H locs arr hok hC hX hP hS hL
  exact lv_iushr hC.1 hC.2.1 hd rfl (k p l e R s m args below meth c cells slots Qm H locs arr hok hC hX hP hS hL)
theorem gq_ineg {ν : zq_E} {M : zq_M} {h : Nat} {Q : Option zq_V → zq_T → Prop} {pc : Nat} {ls : List (Option zq_V)} {st : List zq_V} {σ : zq_T} {x : Int32} (hd : decode M.2.1 pc = .ok (.ineg, 1)) (k : zq_G ν M h Q (pc + 1) ls (zq_I (-x) :: st) σ) : zq_G ν M h Q pc ls (zq_I x :: st) σ := by
  intro p l e R s m args below meth c cells slots Qm H locs arr hok hC hX hP hS hL
  exact lv_ineg hC.1 hC.2.1 hd (k p l e R s m args below meth c cells slots Qm H locs arr hok hC hX hP hS hL)
theorem gq_i2l {ν : zq_E} {M : zq_M} {h : Nat} {Q : Option zq_V → zq_T → Prop} {pc : Nat} {ls : List (Option zq_V)} {st : List zq_V} {σ : zq_T} {x : Int32} (hd : decode M.2.1 pc = .ok (.i2l, 1)) (k : zq_G ν M h Q (pc + 1) ls (zq_L x.toInt64 :: st) σ) : zq_G ν M h Q pc ls (zq_I x :: st) σ := by
  intro p l e R s m args below meth c cells slots Qm H locs arr hok hC hX hP hS hL
  exact lv_i2l hC.1 hC.2.1 hd rfl (k p l e R s m args below meth c cells slots Qm H locs arr hok hC hX hP hS hL)
theorem gq_l2i {ν : zq_E} {M : zq_M} {h : Nat} {Q : Option zq_V → zq_T → Prop} {pc : Nat} {ls : List (Option zq_V)} {st : List zq_V} {σ : zq_T} {x : Int64} (hd : decode M.2.1 pc = .ok (.l2i, 1)) (k : zq_G ν M h Q (pc + 1) ls (zq_I x.toInt32 :: st) σ) : zq_G ν M h Q pc ls (zq_L x :: st) σ := by
  intro p l e R s m args below meth c cells slots Qm H locs arr hok hC hX hP hS hL
  exact lv_l2i hC.1 hC.2.1 hd rfl (k p l e R s m args below meth c cells slots Qm H locs arr hok hC hX hP hS hL)
theorem gq_i2b {ν : zq_E} {M : zq_M} {h : Nat} {Q : Option zq_V → zq_T → Prop} {pc : Nat} {ls : List (Option zq_V)} {st : List zq_V} {σ : zq_T} {x : Int32} (hd : decode M.2.1 pc = .ok (.i2b, 1)) (k : zq_G ν M h Q (pc + 1) ls (zq_I x.toInt8.toInt32 :: st) σ) : zq_G ν M h Q pc ls (zq_I x :: st) σ := by
  intro p l e R s m args below meth c cells slots Qm H locs arr hok hC hX hP hS hL
  exact lv_i2b hC.1 hC.2.1 hd rfl (k p l e R s m args below meth c cells slots Qm H locs arr hok hC hX hP hS hL)
theorem gq_i2s {ν : zq_E} {M : zq_M} {h : Nat} {Q : Option zq_V → zq_T → Prop} {pc : Nat} {ls : List (Option zq_V)} {st : List zq_V} {σ : zq_T} {x : Int32} (hd : decode M.2.1 pc = .ok (.i2s, 1)) (k : zq_G ν M h Q (pc + 1) ls (zq_I x.toInt16.toInt32 :: st) σ) : zq_G ν M h Q pc ls (zq_I x :: st) σ := by
  intro p l e R s m args below meth c cells slots Qm H locs arr hok hC hX hP hS hL
  exact lv_i2s hC.1 hC.2.1 hd rfl (k p l e R s m args below meth c cells slots Qm H locs arr hok hC hX hP hS hL)
theorem gq_lcmp {ν : zq_E} {M : zq_M} {h : Nat} {Q : Option zq_V → zq_T → Prop} {pc : Nat} {ls : List (Option zq_V)} {st : List zq_V} {σ : zq_T} {x y : Int64} (hd : decode M.2.1 pc = .ok (.lcmp, 1)) (k : zq_G ν M h Q (pc + 1) ls (zq_I (lg_cmp x y) :: st) σ) : zq_G ν M h Q pc ls (zq_L y :: zq_L x :: st) σ := by
  intro p l e R s m args below meth c cells slots Qm H locs arr hok hC hX hP hS hL
  exact W.lcmp hC.1 hC.2.1 hd (k p l e R s m args below meth c cells slots Qm H locs arr hok hC hX hP hS hL)
theorem gq_pop {ν : zq_E} {M : zq_M} {h : Nat} {Q : Option zq_V → zq_T → Prop} {pc : Nat} {ls : List (Option zq_V)} {st : List zq_V} {σ : zq_T} {v : zq_V} (hd : decode M.2.1 pc = .ok (.pop, 1)) (hv : zq_ct v = 1) (k : zq_G ν M h Q (pc + 1) ls (st) σ) : zq_G ν M h Q pc ls (v :: st) σ := by
  intro p l e R s m args below meth c cells slots Qm H locs arr hok hC hX hP hS hL
  exact lv_pop hC.1 hC.2.1 hd ((zq_ct_ev _ _).trans hv) (k p l e R s m args below meth c cells slots Qm H locs arr hok hC hX hP hS hL)
theorem gq_dup {ν : zq_E} {M : zq_M} {h : Nat} {Q : Option zq_V → zq_T → Prop} {pc : Nat} {ls : List (Option zq_V)} {st : List zq_V} {σ : zq_T} {v : zq_V} (hd : decode M.2.1 pc = .ok (.dup, 1)) (hv : zq_ct v = 1) (k : zq_G ν M h Q (pc + 1) ls (v :: v :: st) σ) : zq_G ν M h Q pc ls (v :: st) σ := by
  intro p l e R s m args below meth c cells slots Qm H locs arr hok hC hX hP hS hL
  exact lv_dup hC.1 hC.2.1 hd ((zq_ct_ev _ _).trans hv) (k p l e R s m args below meth c cells slots Qm H locs arr hok hC hX hP hS hL)
theorem gq_dup2 {ν : zq_E} {M : zq_M} {h : Nat} {Q : Option zq_V → zq_T → Prop} {pc : Nat} {ls : List (Option zq_V)} {st : List zq_V} {σ : zq_T} {v w : zq_V} (hd : decode M.2.1 pc = .ok (.dup2, 1)) (hv : zq_ct v = 1) (hw : zq_ct w = 1) (k : zq_G ν M h Q (pc + 1) ls (v :: w :: v :: w :: st) σ) : zq_G ν M h Q pc ls (v :: w :: st) σ := by
  intro p l e R s m args below meth c cells slots Qm H locs arr hok hC hX hP hS hL
  exact lv_dup2_11 hC.1 hC.2.1 hd ((zq_ct_ev _ _).trans hv) ((zq_ct_ev _ _).trans hw) (k p l e R s m args below meth c cells slots Qm H locs arr hok hC hX hP hS hL)
theorem gq_iload {ν : zq_E} {M : zq_M} {h : Nat} {Q : Option zq_V → zq_T → Prop} {pc : Nat} {ls : List (Option zq_V)} {st : List zq_V} {σ : zq_T} {i : Nat} {x : Int32} (hd : decode M.2.1 pc = .ok (.iload i, 2)) (hl : ls[i]? = some (some (zq_I x))) (k : zq_G ν M h Q (pc + 2) ls (zq_I x :: st) σ) : zq_G ν M h Q pc ls st σ := by
  intro p l e R s m args below meth c cells slots Qm H locs arr hok hC hX hP hS hL
  exact lv_iload hC.1 hC.2.1 hd (hL.2.2 _ _ hl) (k p l e R s m args below meth c cells slots Qm H locs arr hok hC hX hP hS hL)
theorem gq_iload_n {ν : zq_E} {M : zq_M} {h : Nat} {Q : Option zq_V → zq_T → Prop} {pc : Nat} {ls : List (Option zq_V)} {st : List zq_V} {σ : zq_T} {n : Fin 4} {x : Int32} (hd : decode M.2.1 pc = .ok (.iload_n n, 1)) (hl : ls[(n : Nat)]? = some (some (zq_I x))) (k : zq_G ν M h Q (pc + 1) ls (zq_I x :: st) σ) : zq_G ν M h Q pc ls st σ := by
  intro p l e R s m args below meth c cells slots Qm H locs arr hok hC hX hP hS hL
  exact lv_iload_n hC.1 hC.2.1 hd rfl (hL.2.2 _ _ hl) (k p l e R s m args below meth c cells slots Qm H locs arr hok hC hX hP hS hL)
theorem gq_lload {ν : zq_E} {M : zq_M} {h : Nat} {Q : Option zq_V → zq_T → Prop} {pc : Nat} {ls : List (Option zq_V)} {st : List zq_V} {σ : zq_T} {i : Nat} {x : Int64} (hd : decode M.2.1 pc = .ok (.lload i, 2)) (hl : ls[i]? = some (some (zq_L x))) (k : zq_G ν M h Q (pc + 2) ls (zq_L x :: st) σ) : zq_G ν M h Q pc ls st σ := by
  intro p l e R s m args below meth c cells slots Qm H locs arr hok hC hX hP hS hL
  exact lv_lload hC.1 hC.2.1 hd (hL.2.2 _ _ hl) (k p l e R s m args below meth c cells slots Qm H locs arr hok hC hX hP hS hL)
theorem gq_lload_n {ν : zq_E} {M : zq_M} {h : Nat} {Q : Option zq_V → zq_T → Prop} {pc : Nat} {ls : List (Option zq_V)} {st : List zq_V} {σ : zq_T} {n : Fin 4} {x : Int64} (hd : decode M.2.1 pc = .ok (.lload_n n, 1)) (hl : ls[(n : Nat)]? = some (some (zq_L x))) (k : zq_G ν M h Q (pc + 1) ls (zq_L x :: st) σ) : zq_G ν M h Q pc ls st σ := by
  intro p l e R s m args below meth c cells slots Qm H locs arr hok hC hX hP hS hL
  exact lv_lload_n hC.1 hC.2.1 hd rfl (hL.2.2 _ _ hl) (k p l e R s m args below meth c cells slots Qm H locs arr hok hC hX hP hS hL)
theorem gq_aload {ν : zq_E} {M : zq_M} {h : Nat} {Q : Option zq_V → zq_T → Prop} {pc : Nat} {ls : List (Option zq_V)} {st : List zq_V} {σ : zq_T} {i t : Nat} {j : Fin 5} (hd : decode M.2.1 pc = .ok (.aload i, 2)) (hl : ls[i]? = some (some (zq_O t j))) (k : zq_G ν M h Q (pc + 2) ls (zq_O t j :: st) σ) : zq_G ν M h Q pc ls st σ := by
  intro p l e R s m args below meth c cells slots Qm H locs arr hok hC hX hP hS hL
  exact lv_aload hC.1 hC.2.1 hd (hL.2.2 _ _ hl) (k p l e R s m args below meth c cells slots Qm H locs arr hok hC hX hP hS hL)
theorem gq_aload_n {ν : zq_E} {M : zq_M} {h : Nat} {Q : Option zq_V → zq_T → Prop} {pc : Nat} {ls : List (Option zq_V)} {st : List zq_V} {σ : zq_T} {n : Fin 4} {t : Nat} {j : Fin 5} (hd : decode M.2.1 pc = .ok (.aload_n n, 1)) (hl : ls[(n : Nat)]? = some (some (zq_O t j))) (k : zq_G ν M h Q (pc + 1) ls (zq_O t j :: st) σ) : zq_G ν M h Q pc ls st σ := by
  intro p l e R s m args below meth c cells slots Qm H locs arr hok hC hX hP hS hL
  exact lv_aload_n hC.1 hC.2.1 hd rfl (hL.2.2 _ _ hl) (k p l e R s m args below meth c cells slots Qm H locs arr hok hC hX hP hS hL)
theorem gq_istore {ν : zq_E} {M : zq_M} {h : Nat} {Q : Option zq_V → zq_T → Prop} {pc : Nat} {ls : List (Option zq_V)} {st : List zq_V} {σ : zq_T} {i : Nat} {x : Int32} (hd : decode M.2.1 pc = .ok (.istore i, 2)) (hi : i < M.2.2.1) (hnl : zq_nl ls i = true) (k : zq_G ν M h Q (pc + 2) (ls.set i (some (zq_I x))) st σ) : zq_G ν M h Q pc ls (zq_I x :: st) σ := by
  intro p l e R s m args below meth c cells slots Qm H locs arr hok hC hX hP hS hL
  exact lv_istore hC.1 hC.2.1 hd (zq_LH_has hL) hi rfl (fun arr hA => k p l e R s m args below meth c cells slots Qm H locs arr hok hC hX hP hS (zq_LH_of1 hnl hA))
theorem gq_istore_n {ν : zq_E} {M : zq_M} {h : Nat} {Q : Option zq_V → zq_T → Prop} {pc : Nat} {ls : List (Option zq_V)} {st : List zq_V} {σ : zq_T} {n : Fin 4} {x : Int32} (hd : decode M.2.1 pc = .ok (.istore_n n, 1)) (hi : (n : Nat) < M.2.2.1) (hnl : zq_nl ls (n : Nat) = true) (k : zq_G ν M h Q (pc + 1) (ls.set (n : Nat) (some (zq_I x))) st σ) : zq_G ν M h Q pc ls (zq_I x :: st) σ := by
  intro p l e R s m args below meth c cells slots Qm H locs arr hok hC hX hP hS hL
  exact lv_istore_n hC.1 hC.2.1 hd rfl (zq_LH_has hL) hi rfl (fun arr hA => k p l e R s m args below meth c cells slots Qm H locs arr hok hC hX hP hS (zq_LH_of1 hnl hA))
theorem gq_astore {ν : zq_E} {M : zq_M} {h : Nat} {Q : Option zq_V → zq_T → Prop} {pc : Nat} {ls : List (Option zq_V)} {st : List zq_V} {σ : zq_T} {i t : Nat} {j : Fin 5} (hd : decode M.2.1 pc = .ok (.astore i, 2)) (hi : i < M.2.2.1) (hnl : zq_nl ls i = true) (k : zq_G ν M h Q (pc + 2) (ls.set i (some (zq_O t j))) st σ) : zq_G ν M h Q pc ls (zq_O t j :: st) σ := by
  intro p l e R s m args below meth c cells slots Qm H locs arr hok hC hX hP hS hL
  exact lv_astore hC.1 hC.2.1 hd (zq_LH_has hL) hi rfl (fun arr hA => k p l e R s m args below meth c cells slots Qm H locs arr hok hC hX hP hS (zq_LH_of1 hnl hA))
theorem gq_astore_n {ν : zq_E} {M : zq_M} {h : Nat} {Q : Option zq_V → zq_T → Prop} {pc : Nat} {ls : List (Option zq_V)} {st : List zq_V} {σ : zq_T} {n : Fin 4} {t : Nat} {j : Fin 5} (hd : decode M.2.1 pc = .ok (.astore_n n, 1)) (hi : (n : Nat) < M.2.2.1) (hnl : zq_nl ls (n : Nat) = true) (k : zq_G ν M h Q (pc + 1) (ls.set (n : Nat) (some (zq_O t j))) st σ) : zq_G ν M h Q pc ls (zq_O t j :: st) σ := by
  intro p l e R s m args below meth c cells slots Qm H locs arr hok hC hX hP hS hL
  exact lv_astore_n hC.1 hC.2.1 hd rfl (zq_LH_has hL) hi rfl (fun arr hA => k p l e R s m args below meth c cells slots Qm H locs arr hok hC hX hP hS (zq_LH_of1 hnl hA))
theorem gq_lstore {ν : zq_E} {M : zq_M} {h : Nat} {Q : Option zq_V → zq_T → Prop} {pc : Nat} {ls : List (Option zq_V)} {st : List zq_V} {σ : zq_T} {i : Nat} {x : Int64} (hd : decode M.2.1 pc = .ok (.lstore i, 2)) (hi : i + 1 < M.2.2.1) (hnl : zq_nl ls i = true) (k : zq_G ν M h Q (pc + 2) ((ls.set i (some (zq_L x))).set (i + 1) none) st σ) : zq_G ν M h Q pc ls (zq_L x :: st) σ := by
  intro p l e R s m args below meth c cells slots Qm H locs arr hok hC hX hP hS hL
  exact lv_lstore hC.1 hC.2.1 hd (zq_LH_has hL) hi rfl (fun arr hA => k p l e R s m args below meth c cells slots Qm H locs arr hok hC hX hP hS (zq_LH_of2 hnl hA))
theorem gq_lstore_n {ν : zq_E} {M : zq_M} {h : Nat} {Q : Option zq_V → zq_T → Prop} {pc : Nat} {ls : List (Option zq_V)} {st : List zq_V} {σ : zq_T} {n : Fin 4} {x : Int64} (hd : decode M.2.1 pc = .ok (.lstore_n n, 1)) (hi : (n : Nat) + 1 < M.2.2.1) (hnl : zq_nl ls (n : Nat) = true) (k : zq_G ν M h Q (pc + 1) ((ls.set (n : Nat) (some (zq_L x))).set ((n : Nat) + 1) none) st σ) : zq_G ν M h Q pc ls (zq_L x :: st) σ := by
  intro p l e R s m args below meth c cells slots Qm H locs arr hok hC hX hP hS hL
  exact lv_lstore_n hC.1 hC.2.1 hd rfl (zq_LH_has hL) hi rfl (fun arr hA => k p l e R s m args below meth c cells slots Qm H locs arr hok hC hX hP hS (zq_LH_of2 hnl hA))
theorem gq_iinc {ν : zq_E} {M : zq_M} {h : Nat} {Q : Option zq_V → zq_T → Prop} {pc : Nat} {ls : List (Option zq_V)} {st : List zq_V} {σ : zq_T} {i : Nat} {n : Int} {x v : Int32} (hd : decode M.2.1 pc = .ok (.iinc i n, 3)) (hl : ls[i]? = some (some (zq_I x))) (hv : x + Int32.ofInt n = v) (hi : i < M.2.2.1) (hnl : zq_nl ls i = true) (k : zq_G ν M h Q (pc + 3) (ls.set i (some (zq_I v))) st σ) : zq_G ν M h Q pc ls st σ := by
  intro p l e R s m args below meth c cells slots Qm H locs arr hok hC hX hP hS hL
  obtain ⟨k0, hk0⟩ := List.getElem?_of_mem (zq_al_mem (ν := ν) hl)
  exact lv_iinc hC.1 hC.2.1 hd (zq_LH_has hL) hk0 hv hi rfl (fun arr hA => k p l e R s m args below meth c cells slots Qm H locs arr hok hC hX hP hS (zq_LH_of1 (v := zq_I v) hnl hA))
theorem gq_if_eq {ν : zq_E} {M : zq_M} {h : Nat} {Q : Option zq_V → zq_T → Prop} {pc : Nat} {ls : List (Option zq_V)} {st : List zq_V} {σ : zq_T} {x : Int32} {off : Int} {tgt : Nat} (hd : decode M.2.1 pc = .ok (.ifCond .eq off, 3)) (ht : (pc : Int) + off = (tgt : Int)) (kt : x = 0 → zq_G ν M h Q tgt ls st σ) (kf : ¬ x = 0 → zq_G ν M h Q (pc + 3) ls st σ) : zq_G ν M h Q pc ls (zq_I x :: st) σ := by
  intro p l e R s m args below meth c cells slots Qm H locs arr hok hC hX hP hS hL
  exact lv_if_eq hC.1 hC.2.1 hd ht (fun q => kt q p l e R s m args below meth c cells slots Qm H locs arr hok hC hX hP hS hL) (fun q => kf q p l e R s m args below meth c cells slots Qm H locs arr hok hC hX hP hS hL)
theorem gq_if_ne {ν : zq_E} {M : zq_M} {h : Nat} {Q : Option zq_V → zq_T → Prop} {pc : Nat} {ls : List (Option zq_V)} {st : List zq_V} {σ : zq_T} {x : Int32} {off : Int} {tgt : Nat} (hd : decode M.2.1 pc = .ok (.ifCond .ne off, 3)) (ht : (pc : Int) + off = (tgt : Int)) (kt : ¬ x = 0 → zq_G ν M h Q tgt ls st σ) (kf : x = 0 → zq_G ν M h Q (pc + 3) ls st σ) : zq_G ν M h Q pc ls (zq_I x :: st) σ := by
  intro p l e R s m args below meth c cells slots Qm H locs arr hok hC hX hP hS hL
  exact lv_if_ne hC.1 hC.2.1 hd ht (fun q => kt q p l e R s m args below meth c cells slots Qm H locs arr hok hC hX hP hS hL) (fun q => kf q p l e R s m args below meth c cells slots Qm H locs arr hok hC hX hP hS hL)
theorem gq_if_lt {ν : zq_E} {M : zq_M} {h : Nat} {Q : Option zq_V → zq_T → Prop} {pc : Nat} {ls : List (Option zq_V)} {st : List zq_V} {σ : zq_T} {x : Int32} {off : Int} {tgt : Nat} (hd : decode M.2.1 pc = .ok (.ifCond .lt off, 3)) (ht : (pc : Int) + off = (tgt : Int)) (kt : x < 0 → zq_G ν M h Q tgt ls st σ) (kf : ¬ x < 0 → zq_G ν M h Q (pc + 3) ls st σ) : zq_G ν M h Q pc ls (zq_I x :: st) σ := by
  intro p l e R s m args below meth c cells slots Qm H locs arr hok hC hX hP hS hL
  exact lv_if_lt hC.1 hC.2.1 hd ht (fun q => kt q p l e R s m args below meth c cells slots Qm H locs arr hok hC hX hP hS hL) (fun q => kf q p l e R s m args below meth c cells slots Qm H locs arr hok hC hX hP hS hL)
theorem gq_if_ge {ν : zq_E} {M : zq_M} {h : Nat} {Q : Option zq_V → zq_T → Prop} {pc : Nat} {ls : List (Option zq_V)} {st : List zq_V} {σ : zq_T} {x : Int32} {off : Int} {tgt : Nat} (hd : decode M.2.1 pc = .ok (.ifCond .ge off, 3)) (ht : (pc : Int) + off = (tgt : Int)) (kt : 0 ≤ x → zq_G ν M h Q tgt ls st σ) (kf : ¬ 0 ≤ x → zq_G ν M h Q (pc + 3) ls st σ) : zq_G ν M h Q pc ls (zq_I x :: st) σ := by
  intro p l e R s m args below meth c cells slots Qm H locs arr hok hC hX hP hS hL
  exact lv_if_ge hC.1 hC.2.1 hd ht (fun q => kt q p l e R s m args below meth c cells slots Qm H locs arr hok hC hX hP hS hL) (fun q => kf q p l e R s m args below meth c cells slots Qm H locs arr hok hC hX hP hS hL)
theorem gq_if_gt {ν : zq_E} {M : zq_M} {h : Nat} {Q : Option zq_V → zq_T → Prop} {pc : Nat} {ls : List (Option zq_V)} {st : List zq_V} {σ : zq_T} {x : Int32} {off : Int} {tgt : Nat} (hd : decode M.2.1 pc = .ok (.ifCond .gt off, 3)) (ht : (pc : Int) + off = (tgt : Int)) (kt : 0 < x → zq_G ν M h Q tgt ls st σ) (kf : ¬ 0 < x → zq_G ν M h Q (pc + 3) ls st σ) : zq_G ν M h Q pc ls (zq_I x :: st) σ := by
  intro p l e R s m args below meth c cells slots Qm H locs arr hok hC hX hP hS hL
  exact lv_if_gt hC.1 hC.2.1 hd ht (fun q => kt q p l e R s m args below meth c cells slots Qm H locs arr hok hC hX hP hS hL) (fun q => kf q p l e R s m args below meth c cells slots Qm H locs arr hok hC hX hP hS hL)
theorem gq_if_le {ν : zq_E} {M : zq_M} {h : Nat} {Q : Option zq_V → zq_T → Prop} {pc : Nat} {ls : List (Option zq_V)} {st : List zq_V} {σ : zq_T} {x : Int32} {off : Int} {tgt : Nat} (hd : decode M.2.1 pc = .ok (.ifCond .le off, 3)) (ht : (pc : Int) + off = (tgt : Int)) (kt : x ≤ 0 → zq_G ν M h Q tgt ls st σ) (kf : ¬ x ≤ 0 → zq_G ν M h Q (pc + 3) ls st σ) : zq_G ν M h Q pc ls (zq_I x :: st) σ := by
  intro p l e R s m args below meth c cells slots Qm H locs arr hok hC hX hP hS hL
  exact lv_if_le hC.1 hC.2.1 hd ht (fun q => kt q p l e R s m args below meth c cells slots Qm H locs arr hok hC hX hP hS hL) (fun q => kf q p l e R s m args below meth c cells slots Qm H locs arr hok hC hX hP hS hL)
theorem gq_icmp_eq {ν : zq_E} {M : zq_M} {h : Nat} {Q : Option zq_V → zq_T → Prop} {pc : Nat} {ls : List (Option zq_V)} {st : List zq_V} {σ : zq_T} {x y : Int32} {off : Int} {tgt : Nat} (hd : decode M.2.1 pc = .ok (.if_icmp .eq off, 3)) (ht : (pc : Int) + off = (tgt : Int)) (kt : x = y → zq_G ν M h Q tgt ls st σ) (kf : ¬ x = y → zq_G ν M h Q (pc + 3) ls st σ) : zq_G ν M h Q pc ls (zq_I y :: zq_I x :: st) σ := by
  intro p l e R s m args below meth c cells slots Qm H locs arr hok hC hX hP hS hL
  exact lv_icmp_eq hC.1 hC.2.1 hd ht (fun q => kt q p l e R s m args below meth c cells slots Qm H locs arr hok hC hX hP hS hL) (fun q => kf q p l e R s m args below meth c cells slots Qm H locs arr hok hC hX hP hS hL)
theorem gq_icmp_ne {ν : zq_E} {M : zq_M} {h : Nat} {Q : Option zq_V → zq_T → Prop} {pc : Nat} {ls : List (Option zq_V)} {st : List zq_V} {σ : zq_T} {x y : Int32} {off : Int} {tgt : Nat} (hd : decode M.2.1 pc = .ok (.if_icmp .ne off, 3)) (ht : (pc : Int) + off = (tgt : Int)) (kt : ¬ x = y → zq_G ν M h Q tgt ls st σ) (kf : x = y → zq_G ν M h Q (pc + 3) ls st σ) : zq_G ν M h Q pc ls (zq_I y :: zq_I x :: st) σ := by
  intro p l e R s m args below meth c cells slots Qm H locs arr hok hC hX hP hS hL
  exact lv_icmp_ne hC.1 hC.2.1 hd ht (fun q => kt q p l e R s m args below meth c cells slots Qm H locs arr hok hC hX hP hS hL) (fun q => kf q p l e R s m args below meth c cells slots Qm H locs arr hok hC hX hP hS hL)
theorem gq_icmp_lt {ν : zq_E} {M : zq_M} {h : Nat} {Q : Option zq_V → zq_T → Prop} {pc : Nat} {ls : List (Option zq_V)} {st : List zq_V} {σ : zq_T} {x y : Int32} {off : Int} {tgt : Nat} (hd : decode M.2.1 pc = .ok (.if_icmp .lt off, 3)) (ht : (pc : Int) + off = (tgt : Int)) (kt : x < y → zq_G ν M h Q tgt ls st σ) (kf : ¬ x < y → zq_G ν M h Q (pc + 3) ls st σ) : zq_G ν M h Q pc ls (zq_I y :: zq_I x :: st) σ := by
  intro p l e R s m args below meth c cells slots Qm H locs arr hok hC hX hP hS hL
  exact lv_icmp_lt hC.1 hC.2.1 hd ht (fun q => kt q p l e R s m args below meth c cells slots Qm H locs arr hok hC hX hP hS hL) (fun q => kf q p l e R s m args below meth c cells slots Qm H locs arr hok hC hX hP hS hL)
theorem gq_icmp_ge {ν : zq_E} {M : zq_M} {h : Nat} {Q : Option zq_V → zq_T → Prop} {pc : Nat} {ls : List (Option zq_V)} {st : List zq_V} {σ : zq_T} {x y : Int32} {off : Int} {tgt : Nat} (hd : decode M.2.1 pc = .ok (.if_icmp .ge off, 3)) (ht : (pc : Int) + off = (tgt : Int)) (kt : y ≤ x → zq_G ν M h Q tgt ls st σ) (kf : ¬ y ≤ x → zq_G ν M h Q (pc + 3) ls st σ) : zq_G ν M h Q pc ls (zq_I y :: zq_I x :: st) σ := by
  intro p l e R s m args below meth c cells slots Qm H locs arr hok hC hX hP hS hL
  exact lv_icmp_ge hC.1 hC.2.1 hd ht (fun q => kt q p l e R s m args below meth c cells slots Qm H locs arr hok hC hX hP hS hL) (fun q => kf q p l e R s m args below meth c cells slots Qm H locs arr hok hC hX hP hS hL)
theorem gq_icmp_gt {ν : zq_E} {M : zq_M} {h : Nat} {Q : Option zq_V → zq_T → Prop} {pc : Nat} {ls : List (Option zq_V)} {st : List zq_V} {σ : zq_T} {x y : Int32} {off : Int} {tgt : Nat} (hd : decode M.2.1 pc = .ok (.if_icmp .gt off, 3)) (ht : (pc : Int) + off = (tgt : Int)) (kt : y < x → zq_G ν M h Q tgt ls st σ) (kf : ¬ y < x → zq_G ν M h Q (pc + 3) ls st σ) : zq_G ν M h Q pc ls (zq_I y :: zq_I x :: st) σ := by
  intro p l e R s m args below meth c cells slots Qm H locs arr hok hC hX hP hS hL
  exact lv_icmp_gt hC.1 hC.2.1 hd ht (fun q => kt q p l e R s m args below meth c cells slots Qm H locs arr hok hC hX hP hS hL) (fun q => kf q p l e R s m args below meth c cells slots Qm H locs arr hok hC hX hP hS hL)
theorem gq_icmp_le {ν : zq_E} {M : zq_M} {h : Nat} {Q : Option zq_V → zq_T → Prop} {pc : Nat} {ls : List (Option zq_V)} {st : List zq_V} {σ : zq_T} {x y : Int32} {off : Int} {tgt : Nat} (hd : decode M.2.1 pc = .ok (.if_icmp .le off, 3)) (ht : (pc : Int) + off = (tgt : Int)) (kt : x ≤ y → zq_G ν M h Q tgt ls st σ) (kf : ¬ x ≤ y → zq_G ν M h Q (pc + 3) ls st σ) : zq_G ν M h Q pc ls (zq_I y :: zq_I x :: st) σ := by
  intro p l e R s m args below meth c cells slots Qm H locs arr hok hC hX hP hS hL
  exact lv_icmp_le hC.1 hC.2.1 hd ht (fun q => kt q p l e R s m args below meth c cells slots Qm H locs arr hok hC hX hP hS hL) (fun q => kf q p l e R s m args below meth c cells slots Qm H locs arr hok hC hX hP hS hL)
theorem gq_goto {ν : zq_E} {M : zq_M} {h : Nat} {Q : Option zq_V → zq_T → Prop} {pc : Nat} {ls : List (Option zq_V)} {st : List zq_V} {σ : zq_T} {off : Int} {tgt : Nat} (hd : decode M.2.1 pc = .ok (.goto off, 3)) (ht : (pc : Int) + off = (tgt : Int)) (k : zq_G ν M h Q tgt ls st σ) : zq_G ν M h Q pc ls st σ := by
  intro p l e R s m args below meth c cells slots Qm H locs arr hok hC hX hP hS hL
  exact lv_goto hC.1 hC.2.1 hd ht (k p l e R s m args below meth c cells slots Qm H locs arr hok hC hX hP hS hL)
theorem gq_ifnonnull {ν : zq_E} {M : zq_M} {h : Nat} {Q : Option zq_V → zq_T → Prop} {pc : Nat} {ls : List (Option zq_V)} {st : List zq_V} {σ : zq_T} {t : Nat} {j : Fin 5} {off : Int} {tgt : Nat} (hd : decode M.2.1 pc = .ok (.ifnonnull off, 3)) (ht : (pc : Int) + off = (tgt : Int)) (k : zq_G ν M h Q tgt ls st σ) : zq_G ν M h Q pc ls (zq_O t j :: st) σ := by
  intro p l e R s m args below meth c cells slots Qm H locs arr hok hC hX hP hS hL
  exact lv_ifnonnull hC.1 hC.2.1 hd ht (k p l e R s m args below meth c cells slots Qm H locs arr hok hC hX hP hS hL)
theorem gq_ifnull {ν : zq_E} {M : zq_M} {h : Nat} {Q : Option zq_V → zq_T → Prop} {pc : Nat} {ls : List (Option zq_V)} {st : List zq_V} {σ : zq_T} {t : Nat} {j : Fin 5} {off : Int} (hd : decode M.2.1 pc = .ok (.ifnull off, 3)) (k : zq_G ν M h Q (pc + 3) ls st σ) : zq_G ν M h Q pc ls (zq_O t j :: st) σ := by
  intro p l e R s m args below meth c cells slots Qm H locs arr hok hC hX hP hS hL
  exact lv_ifnull hC.1 hC.2.1 hd (k p l e R s m args below meth c cells slots Qm H locs arr hok hC hX hP hS hL)
theorem gq_tin {ν : zq_E} {M : zq_M} {h : Nat} {Q : Option zq_V → zq_T → Prop} {pc : Nat} {ls : List (Option zq_V)} {st : List zq_V} {σ : zq_T} {dflt lo hi : Int} {offs : Array Int} {len : Nat} {x : Int32} {off : Int} {tgt : Nat} (hd : decode M.2.1 pc = .ok (.tableswitch dflt lo hi offs, len)) (h1 : ¬ x.toInt < lo) (h2 : ¬ hi < x.toInt) (ho : offs[(x.toInt - lo).toNat]? = some off) (ht : (pc : Int) + off = (tgt : Int)) (k : zq_G ν M h Q tgt ls st σ) : zq_G ν M h Q pc ls (zq_I x :: st) σ := by
  intro p l e R s m args below meth c cells slots Qm H locs arr hok hC hX hP hS hL
  exact lv_tableIn hC.1 hC.2.1 hd h1 h2 ho ht (k p l e R s m args below meth c cells slots Qm H locs arr hok hC hX hP hS hL)
theorem gq_tout {ν : zq_E} {M : zq_M} {h : Nat} {Q : Option zq_V → zq_T → Prop} {pc : Nat} {ls : List (Option zq_V)} {st : List zq_V} {σ : zq_T} {dflt lo hi : Int} {offs : Array Int} {len : Nat} {x : Int32} {tgt : Nat} (hd : decode M.2.1 pc = .ok (.tableswitch dflt lo hi offs, len)) (h1 : x.toInt < lo ∨ hi < x.toInt) (ht : (pc : Int) + dflt = (tgt : Int)) (k : zq_G ν M h Q tgt ls st σ) : zq_G ν M h Q pc ls (zq_I x :: st) σ := by
  intro p l e R s m args below meth c cells slots Qm H locs arr hok hC hX hP hS hL
  exact lv_tableOut hC.1 hC.2.1 hd h1 ht (k p l e R s m args below meth c cells slots Qm H locs arr hok hC hX hP hS hL)
theorem gq_lsw {ν : zq_E} {M : zq_M} {h : Nat} {Q : Option zq_V → zq_T → Prop} {pc : Nat} {ls : List (Option zq_V)} {st : List zq_V} {σ : zq_T} {dflt : Int} {ps : Array (Int × Int)} {len : Nat} {x : Int32} {off : Int} {tgt : Nat} (hd : decode M.2.1 pc = .ok (.lookupswitch dflt ps, len)) (hp : (ps.toList.zip (ps.toList.drop 1)).all (fun (a, next) => a.1 < next.1) = true) (ho : Op.lookupswitch.offset ps.toList dflt x.toInt = off) (ht : (pc : Int) + off = (tgt : Int)) (k : zq_G ν M h Q tgt ls st σ) : zq_G ν M h Q pc ls (zq_I x :: st) σ := by
  intro p l e R s m args below meth c cells slots Qm H locs arr hok hC hX hP hS hL
  exact lv_lookup hC.1 hC.2.1 hd hp ho ht (k p l e R s m args below meth c cells slots Qm H locs arr hok hC hX hP hS hL)
theorem gq_ldc {ν : zq_E} {M : zq_M} {h : Nat} {Q : Option zq_V → zq_T → Prop} {pc : Nat} {ls : List (Option zq_V)} {st : List zq_V} {σ : zq_T} {idx : Nat} {v : Int32} (hw : Cond.constant M.1.cls idx v ∈ zq_tbl) (hd : decode M.2.1 pc = .ok (.ldc idx, 2)) (k : zq_G ν M h Q (pc + 2) ls (zq_I v :: st) σ) : zq_G ν M h Q pc ls st σ := by
  intro p l e R s m args below meth c cells slots Qm H locs arr hok hC hX hP hS hL
  exact lv_ldc hC.1 hC.2.1 hC.2.2.2.1 (hC.2.2.2.2.1 _ hw) hd (k p l e R s m args below meth c cells slots Qm H locs arr hok hC hX hP hS hL)
theorem gq_ldcw {ν : zq_E} {M : zq_M} {h : Nat} {Q : Option zq_V → zq_T → Prop} {pc : Nat} {ls : List (Option zq_V)} {st : List zq_V} {σ : zq_T} {idx : Nat} {v : Int32} (hw : Cond.constant M.1.cls idx v ∈ zq_tbl) (hd : decode M.2.1 pc = .ok (.ldc_w idx, 3)) (k : zq_G ν M h Q (pc + 3) ls (zq_I v :: st) σ) : zq_G ν M h Q pc ls st σ := by
  intro p l e R s m args below meth c cells slots Qm H locs arr hok hC hX hP hS hL
  exact lv_ldcw hC.1 hC.2.1 hC.2.2.2.1 (hC.2.2.2.2.1 _ hw) hd (k p l e R s m args below meth c cells slots Qm H locs arr hok hC hX hP hS hL)
theorem gq_ldc2 {ν : zq_E} {M : zq_M} {h : Nat} {Q : Option zq_V → zq_T → Prop} {pc : Nat} {ls : List (Option zq_V)} {st : List zq_V} {σ : zq_T} {idx : Nat} {v : Int64} (hw : Cond.constantLong M.1.cls idx v ∈ zq_tbl) (hd : decode M.2.1 pc = .ok (.ldc2_w idx, 3)) (k : zq_G ν M h Q (pc + 3) ls (zq_L v :: st) σ) : zq_G ν M h Q pc ls st σ := by
  intro p l e R s m args below meth c cells slots Qm H locs arr hok hC hX hP hS hL
  exact lv_ldc2 hC.1 hC.2.1 hC.2.2.2.1 (hC.2.2.2.2.1 _ hw) hd (k p l e R s m args below meth c cells slots Qm H locs arr hok hC hX hP hS hL)
theorem gq_ldcS {ν : zq_E} {M : zq_M} {h : Nat} {Q : Option zq_V → zq_T → Prop} {pc : Nat} {ls : List (Option zq_V)} {st : List zq_V} {σ : zq_T} {idx i : Nat} {tx : String} (hw : zq_str[i]? = some (idx, tx)) (hown : M.1.cls = "ThirdSon$Teller") (hd : decode M.2.1 pc = .ok (.ldc idx, 2)) (k : zq_G ν M h Q (pc + 2) ls (zq_O (100 + i) 0 :: st) σ) : zq_G ν M h Q pc ls st σ := by
  intro p l e R s m args below meth c cells slots Qm H locs arr hok hC hX hP hS hL
  exact va_ldcS hC.1 hC.2.1 (own := "ThirdSon$Teller") (by rw [← hown]; exact hC.2.2.2.1) (hC.2.2.2.2.2.2.1.2.2.2.1 i _ hw) hd (k p l e R s m args below meth c cells slots Qm H locs arr hok hC hX hP hS hL)
theorem gq_ireturn {ν : zq_E} {M : zq_M} {h : Nat} {Q : Option zq_V → zq_T → Prop} {pc : Nat} {ls : List (Option zq_V)} {st : List zq_V} {σ : zq_T} {x : Int32} (ty : FieldType) (hd : decode M.2.1 pc = .ok (.ireturn, 1)) (hr : M.2.2.2 = some ty) (hn : narrow ty (.int x) = .int x) (hq : Q (some (zq_I x)) σ) : zq_G ν M h Q pc ls [zq_I x] σ := by
  intro p l e R s m args below meth c cells slots Qm H locs arr hok hC hX hP hS hL
  exact hX (some (zq_I x)) σ .ireturn H locs pc arr (Or.inr (Or.inl ⟨ty, x, hr, rfl, rfl, hn⟩)) hd hq hP hS
theorem gq_lreturn {ν : zq_E} {M : zq_M} {h : Nat} {Q : Option zq_V → zq_T → Prop} {pc : Nat} {ls : List (Option zq_V)} {st : List zq_V} {σ : zq_T} {x : Int64} (hd : decode M.2.1 pc = .ok (.lreturn, 1)) (hr : M.2.2.2 = some .long) (hq : Q (some (zq_L x)) σ) : zq_G ν M h Q pc ls [zq_L x] σ := by
  intro p l e R s m args below meth c cells slots Qm H locs arr hok hC hX hP hS hL
  exact hX (some (zq_L x)) σ .lreturn H locs pc arr (Or.inr (Or.inr (Or.inl ⟨x, hr, rfl, rfl⟩))) hd hq hP hS
theorem gq_areturn {ν : zq_E} {M : zq_M} {h : Nat} {Q : Option zq_V → zq_T → Prop} {pc : Nat} {ls : List (Option zq_V)} {st : List zq_V} {σ : zq_T} {t : Nat} {j : Fin 5} {C : String} (hd : decode M.2.1 pc = .ok (.areturn, 1)) (hr : M.2.2.2 = some (.object C)) (hq : Q (some (zq_O t j)) σ) : zq_G ν M h Q pc ls [zq_O t j] σ := by
  intro p l e R s m args below meth c cells slots Qm H locs arr hok hC hX hP hS hL
  exact hX (some (zq_O t j)) σ .areturn H locs pc arr (Or.inr (Or.inr (Or.inr ⟨C, (t, j), hr, rfl, rfl⟩))) hd hq hP hS
theorem gq_return {ν : zq_E} {M : zq_M} {h : Nat} {Q : Option zq_V → zq_T → Prop} {pc : Nat} {ls : List (Option zq_V)} {st : List zq_V} {σ : zq_T} (hd : decode M.2.1 pc = .ok (.return_, 1)) (hr : M.2.2.2 = none) (hq : Q none σ) : zq_G ν M h Q pc ls [] σ := by
  intro p l e R s m args below meth c cells slots Qm H locs arr hok hC hX hP hS hL
  exact hX none σ .return_ H locs pc arr (Or.inl ⟨hr, rfl, rfl⟩) hd hq hP hS
/-! fields -/
def zq_F (own : String) (idx t k : Nat) : Prop := ∃ (ci N : Nat) (C : String) (T : u_T), zq_kd t = (0, ci, N) ∧ zq_cl[ci]? = some (C, T, N) ∧ (∀ w ∈ u_ws C T N, w ∈ zq_tbl) ∧ k < N ∧ Cond.fieldLink own idx (T k).1 (T k).2.1 (T k).2.2.1 ∈ zq_tbl
def zq_W (own : String) (idx t k : Nat) (ty : FieldType) : Prop := ∃ (ci N : Nat) (C : String) (T : u_T) (ty0 : Nat → FieldType), zq_kd t = (0, ci, N) ∧ zq_cl[ci]? = some (C, T, N) ∧ (∀ w ∈ u_ws C T N, w ∈ zq_tbl) ∧ k < N ∧ Cond.fieldLink own idx (T k).1 (T k).2.1 (T k).2.2.1 ∈ zq_tbl ∧ (∀ k, k < N → parseFieldDescriptor (T k).2.2.1 = some (ty0 k)) ∧ (∀ a, a < N → ∀ b, b < N → a ≠ b → (T a).2.1 ≠ (T b).2.1) ∧ (T k).2.2.2 = false ∧ parseFieldDescriptor (T k).2.2.1 = some ty
theorem zq_el_obj {ν : zq_E} {σ : zq_T} {t ci N : Nat} {j : Fin 5} (h : zq_kd t = (0, ci, N)) : zq_el ν σ t j = .inr (ci, (List.range N).map (fun k => zq_ev ν (zq_fv σ t j k))) := by
  unfold zq_el
  rw [h]
  rfl
theorem zq_el_ints {ν : zq_E} {σ : zq_T} {t n : Nat} {j : Fin 5} (h : zq_kd t = (1, n, 0)) : zq_el ν σ t j = .inl (ν.2.2.1 1, n, .inl (σ.1 t j)) := by
  unfold zq_el
  rw [h]
  rfl
theorem zq_el_bytes {ν : zq_E} {σ : zq_T} {t n : Nat} {j : Fin 5} (h : zq_kd t = (2, n, 0)) : zq_el ν σ t j = .inl (ν.2.2.1 2, n, .inl (σ.1 t j)) := by
  unfold zq_el
  rw [h]
  rfl
theorem zq_el_bools {ν : zq_E} {σ : zq_T} {t n : Nat} {j : Fin 5} (h : zq_kd t = (4, n, 0)) : zq_el ν σ t j = .inl (ν.2.2.1 4, n, .inl (σ.1 t j)) := by
  unfold zq_el
  rw [h]
  rfl
theorem zq_el_longs {ν : zq_E} {σ : zq_T} {t n : Nat} {j : Fin 5} (h : zq_kd t = (3, n, 0)) : zq_el ν σ t j = .inl (ν.2.2.1 3, n, .inr (.inl σ.2.1)) := by
  unfold zq_el
  rw [h]
  rfl
theorem zq_el_refs {ν : zq_E} {σ : zq_T} {t n : Nat} {j : Fin 5} (h : zq_kd t = (5, n, 0)) : zq_el ν σ t j = .inl (ν.2.2.1 5, n, .inr (.inr (.inr (.inr (zq_rows ν))))) := by
  unfold zq_el
  rw [h]
  rfl
theorem zq_el_up {ν : zq_E} {σ : zq_T} {t t' : Nat} {j j' : Fin 5} {k : Nat} {x : Int32} (h : (t', j') ≠ (t, j)) : zq_el ν σ t' j' = zq_el ν (zq_up σ.1 t j k x, σ.2) t' j' := by
  have e : ∀ i, zq_up σ.1 t j k x t' j' i = σ.1 t' j' i := fun i => if_neg fun q => h (by rw [q.1, q.2.1])
  have e2 : zq_up σ.1 t j k x t' j' = σ.1 t' j' := funext e
  have e3 : ∀ i, zq_fv (zq_up σ.1 t j k x, σ.2) t' j' i = zq_fv σ t' j' i := fun i => by
    simp only [zq_fv, e]
  simp only [zq_el, e2, e3]
section FLD
variable {ν : zq_E} {M : zq_M} {h : Nat} {Q : Option zq_V → zq_T → Prop} {pc : Nat} {ls : List (Option zq_V)} {st : List zq_V} {σ : zq_T}
theorem gq_getG {idx t k : Nat} {j : Fin 5} {v : zq_V} (hF : zq_F M.1.cls idx t k) (hf : zq_fv σ t j k = v) (hv : zq_vd t j = true) (hd : decode M.2.1 pc = .ok (.getfield idx, 3)) (kk : zq_G ν M h Q (pc + 3) ls (v :: st) σ) : zq_G ν M h Q pc ls (zq_O t j :: st) σ := by
  intro p l e R s m args below meth c cells slots Qm H locs arr hok hC hX hP hS hL
  obtain ⟨ci, N, C, T, h1, h2, h3, h4, h5⟩ := hF
  obtain ⟨q0, hq, hw⟩ := zq_at hv
  have he : (zq_ws ν σ)[q0]? = some (ν.1 t j, .inr (ci, (List.range N).map (fun k => zq_ev ν (zq_fv σ t j k)))) := by rw [hw, zq_el_obj h1]
  exact va_get (D := ν.2.1) (v := zq_ev ν v) hC.1 hC.2.1 hC.2.2.2.2.1 h3 hC.2.2.2.1 hC.2.2.2.2.2.1 hP q0 he h2 k h4 (hC.2.2.2.2.1 _ h5) (fun _ h9 => h9) (by simp [h4, hf]) hd (kk p l e R s m args below meth c cells slots Qm H locs arr hok hC hX hP hS hL)
/-- an int field -/
theorem gq_getI {idx t k : Nat} {j : Fin 5} (hF : zq_F M.1.cls idx t k) (hf : zq_ff t k = (0, 0)) (hv : zq_vd t j = true) (hd : decode M.2.1 pc = .ok (.getfield idx, 3)) (kk : zq_G ν M h Q (pc + 3) ls (zq_I (σ.1 t j k) :: st) σ) : zq_G ν M h Q pc ls (zq_O t j :: st) σ := gq_getG hF (by simp only [zq_fv, hf]) hv hd kk
/-- a place beside it -/
theorem gq_getR {idx t k : Nat} {j : Fin 5} (t' : Nat) (hF : zq_F M.1.cls idx t k) (hf : zq_ff t k = (1, t')) (hv : zq_vd t j = true) (hd : decode M.2.1 pc = .ok (.getfield idx, 3)) (kk : zq_G ν M h Q (pc + 3) ls (zq_O t' j :: st) σ) : zq_G ν M h Q pc ls (zq_O t j :: st) σ := gq_getG hF (by simp only [zq_fv, hf]) hv hd kk
/-- a duchy that is always the same -/
theorem gq_getX {idx t k : Nat} {j : Fin 5} (a : Nat) (j' : Fin 5) (hF : zq_F M.1.cls idx t k) (hf : zq_ff t k = (2, a)) (hj : zq_fin a = j') (hv : zq_vd t j = true) (hd : decode M.2.1 pc = .ok (.getfield idx, 3)) (kk : zq_G ν M h Q (pc + 3) ls (zq_O 10 j' :: st) σ) : zq_G ν M h Q pc ls (zq_O t j :: st) σ := gq_getG hF (by simp only [zq_fv, hf, hj]) hv hd kk
/-- 'duchy' -/
theorem gq_getU {idx t k : Nat} {j : Fin 5} (hF : zq_F M.1.cls idx t k) (hf : zq_ff t k = (3, 0)) (hv : zq_vd t j = true) (hd : decode M.2.1 pc = .ok (.getfield idx, 3)) (kk : zq_G ν M h Q (pc + 3) ls (zq_O 10 σ.2.2.1 :: st) σ) : zq_G ν M h Q pc ls (zq_O t j :: st) σ := gq_getG hF (by simp only [zq_fv, hf]) hv hd kk
/-- 'draft' -/
theorem gq_getY {idx t k : Nat} {j : Fin 5} (hF : zq_F M.1.cls idx t k) (hf : zq_ff t k = (4, 0)) (hv : zq_vd t j = true) (hd : decode M.2.1 pc = .ok (.getfield idx, 3)) (kk : zq_G ν M h Q (pc + 3) ls (zq_O 10 σ.2.2.2 :: st) σ) : zq_G ν M h Q pc ls (zq_O t j :: st) σ := gq_getG hF (by simp only [zq_fv, hf]) hv hd kk
theorem gq_putG {idx t k : Nat} {j : Fin 5} {v : zq_V} {ty : FieldType} {σ' : zq_T} (hF : zq_W M.1.cls idx t k ty) (hn : ∀ ν, narrow ty (zq_ev ν v) = zq_ev ν v) (hfit : ∀ ν, fits ty (zq_ev ν v) = true) (hsame : ∀ i, i ≠ k → zq_fv σ t j i = zq_fv σ' t j i) (hnew : zq_fv σ' t j k = v) (ho : ∀ t' j', (t', j') ∈ zq_cs → (t', j') ≠ (t, j) → zq_el ν σ t' j' = zq_el ν σ' t' j') (hv : zq_vd t j = true) (hd : decode M.2.1 pc = .ok (.putfield idx, 3)) (kk : zq_G ν M h Q (pc + 3) ls st σ') : zq_G ν M h Q pc ls (v :: zq_O t j :: st) σ := by
  intro p l e R s m args below meth c cells slots Qm H locs arr hok hC hX hP hS hL
  obtain ⟨ci, N, C, T, ty0, h1, h2, h3, h4, h5, h6, h7, h8, h9⟩ := hF
  obtain ⟨q0, hq, hw⟩ := zq_at hv
  have he : (zq_ws ν σ)[q0]? = some (ν.1 t j, .inr (ci, (List.range N).map (fun k => zq_ev ν (zq_fv σ t j k)))) := by rw [hw, zq_el_obj h1]
  have hset : (zq_ws ν σ).set q0 (ν.1 t j, .inr (ci, ((List.range N).map (fun k => zq_ev ν (zq_fv σ t j k))).set k (zq_ev ν v))) = zq_ws ν σ' := by
    refine zq_set hq ?_ ho
    rw [zq_el_obj h1]
    congr 2
    refine List.ext_getElem? fun i => ?_
    rw [List.getElem?_set]
    by_cases e1 : k = i
    · subst e1
      simp [h4, hnew]
    · rw [if_neg e1]
      simp only [List.getElem?_map]
      rw [show (fun a => zq_ev ν (zq_fv σ t j a)) = fun a => zq_ev ν (zq_fv σ t j a) from rfl]
      rcases Nat.lt_or_ge i N with q | q
      · simp [q, hsame i (fun e => e1 e.symm)]
      · simp [Nat.not_lt.mpr q]
  refine va_put (D := ν.2.1) (v := zq_ev ν v) (ty := ty) hC.1 hC.2.1 hC.2.2.2.2.1 h3 ty0 h6 h7 hC.2.2.2.1 hC.2.2.2.2.2.1 hP (zq_D hok σ) hS q0 he h2 k h4 (hC.2.2.2.2.1 _ h5) (fun _ h9 => h9) h8 h9 (hn ν) (hfit ν) (by simp [h4]) hd (fun H1 locs1 hP1 hD1 hS1 => ?_)
  rw [hset] at hP1
  exact kk p l e R s m args below meth c cells slots Qm H1 locs1 arr hok hC hX hP1 hS1 hL
theorem zq_fv_up {t t' : Nat} {j j' : Fin 5} {k i : Nat} {x : Int32} (h : i ≠ k) : zq_fv σ t' j' i = zq_fv (zq_up σ.1 t j k x, σ.2) t' j' i := by
  have e : zq_up σ.1 t j k x t' j' i = σ.1 t' j' i := if_neg fun q => h q.2.2
  simp only [zq_fv, e]
theorem zq_up_at (f : Nat → Fin 5 → Nat → Int32) (t : Nat) (j : Fin 5) (k : Nat) (x : Int32) : zq_up f t j k x t j k = x := if_pos ⟨rfl, rfl, rfl⟩
/-- an int field is written -/
theorem gq_putI {idx t k : Nat} {j : Fin 5} {x : Int32} (hF : zq_W M.1.cls idx t k .int) (hf : zq_ff t k = (0, 0)) (hv : zq_vd t j = true) (hd : decode M.2.1 pc = .ok (.putfield idx, 3)) (kk : zq_G ν M h Q (pc + 3) ls st (zq_up σ.1 t j k x, σ.2)) : zq_G ν M h Q pc ls (zq_I x :: zq_O t j :: st) σ :=
  gq_putG hF (fun _ => rfl) (fun _ => rfl) (fun i hi => zq_fv_up hi) (by simp only [zq_fv, hf, zq_up_at]) (fun t' j' _ hne => zq_el_up hne) hv hd kk
theorem zq_ff_dyn : ∀ t k : Nat, t ≠ 0 → (zq_ff t k).1 < 3 := by
  intro t k ht
  have gl : ∀ (l : List (Nat × Nat)), (∀ q ∈ l, q.1 < 3) → (l.getD k (0, 0)).1 < 3 := by
    intro l hl
    rw [List.getD_eq_getElem?_getD]
    cases hk : l[k]? with
    | none => decide
    | some q => exact hl q (List.mem_of_getElem? hk)
  unfold zq_ff
  split
  · exact absurd rfl ht
  · exact gl _ (by decide)
  · exact gl _ (by decide)
  · exact gl _ (by decide)
  · exact gl _ (by decide)
  · decide
theorem zq_cs_0 : ∀ j : Fin 5, (0, j) ∈ zq_cs → j = 0 := by decide +kernel
theorem zq_fv_dyn {σ σ' : zq_T} (h1 : σ.1 = σ'.1) {t : Nat} (ht : t ≠ 0) (j : Fin 5) (i : Nat) : zq_fv σ t j i = zq_fv σ' t j i := by
  have h4 := zq_ff_dyn t i ht
  have hx : (zq_ff t i).1 = 0 ∨ (zq_ff t i).1 = 1 ∨ (zq_ff t i).1 = 2 := by omega
  unfold zq_fv
  generalize zq_ff t i = z at hx ⊢
  obtain ⟨a, b⟩ := z
  rcases hx with e | e | e <;> (simp only at e; subst e)
  · show zq_I (σ.1 t j i) = zq_I (σ'.1 t j i)
    rw [h1]
  · rfl
  · rfl
theorem zq_el_dyn {σ σ' : zq_T} (h1 : σ.1 = σ'.1) (h2 : σ.2.1 = σ'.2.1) {t : Nat} (ht : t ≠ 0) (j : Fin 5) : zq_el ν σ t j = zq_el ν σ' t j := by
  have e : ∀ i, zq_fv σ t j i = zq_fv σ' t j i := zq_fv_dyn h1 ht j
  simp only [zq_el, h1, h2, e]
/-- 'duchy' is written -/
theorem gq_putU {idx : Nat} {d : Fin 5} (hF : zq_W M.1.cls idx 0 9 (.object "ThirdSon$Duchy")) (hd : decode M.2.1 pc = .ok (.putfield idx, 3)) (kk : zq_G ν M h Q (pc + 3) ls st (σ.1, σ.2.1, d, σ.2.2.2)) : zq_G ν M h Q pc ls (zq_O 10 d :: zq_O 0 0 :: st) σ := by
  refine gq_putG hF (fun _ => rfl) (fun _ => rfl) (fun i hi => ?_) rfl (fun t' j' hm hne => ?_) rfl hd kk
  · by_cases h3 : i = 10
    · subst h3; rfl
    · have h4 : (zq_ff 0 i).1 < 3 := by
        rcases Nat.lt_or_ge i 11 with q | q
        · have : ∀ i : Fin 11, i.val ≠ 9 → i.val ≠ 10 → (zq_ff 0 i.val).1 < 3 := by decide
          exact this ⟨i, q⟩ hi h3
        · have : zq_ff 0 i = (0, 0) := by
            show List.getD _ i (0, 0) = _
            rw [List.getD_eq_getElem?_getD, List.getElem?_eq_none (by simpa using q)]
            rfl
          rw [this]
          decide
      have hx : (zq_ff 0 i).1 = 0 ∨ (zq_ff 0 i).1 = 1 ∨ (zq_ff 0 i).1 = 2 := by omega
      unfold zq_fv
      generalize zq_ff 0 i = z at hx ⊢
      obtain ⟨a, b⟩ := z
      rcases hx with e | e | e <;> (simp only at e; subst e; rfl)
  · by_cases ht : t' = 0
    · subst ht
      have := zq_cs_0 j' hm
      subst this
      exact absurd rfl hne
    · exact zq_el_dyn (σ := σ) (σ' := (σ.1, σ.2.1, d, σ.2.2.2)) rfl rfl ht j'
/-- 'draft' is written -/
theorem gq_putY {idx : Nat} {d : Fin 5} (hF : zq_W M.1.cls idx 0 10 (.object "ThirdSon$Duchy")) (hd : decode M.2.1 pc = .ok (.putfield idx, 3)) (kk : zq_G ν M h Q (pc + 3) ls st (σ.1, σ.2.1, σ.2.2.1, d)) : zq_G ν M h Q pc ls (zq_O 10 d :: zq_O 0 0 :: st) σ := by
  refine gq_putG hF (fun _ => rfl) (fun _ => rfl) (fun i hi => ?_) rfl (fun t' j' hm hne => ?_) rfl hd kk
  · by_cases h3 : i = 9
    · subst h3; rfl
    · have h4 : (zq_ff 0 i).1 < 3 := by
        rcases Nat.lt_or_ge i 11 with q | q
        · have : ∀ i : Fin 11, i.val ≠ 9 → i.val ≠ 10 → (zq_ff 0 i.val).1 < 3 := by decide
          exact this ⟨i, q⟩ h3 hi
        · have : zq_ff 0 i = (0, 0) := by
            show List.getD _ i (0, 0) = _
            rw [List.getD_eq_getElem?_getD, List.getElem?_eq_none (by simpa using q)]
            rfl
          rw [this]
          decide
      have hx : (zq_ff 0 i).1 = 0 ∨ (zq_ff 0 i).1 = 1 ∨ (zq_ff 0 i).1 = 2 := by omega
      unfold zq_fv
      generalize zq_ff 0 i = z at hx ⊢
      obtain ⟨a, b⟩ := z
      rcases hx with e | e | e <;> (simp only at e; subst e; rfl)
  · by_cases ht : t' = 0
    · subst ht
      have := zq_cs_0 j' hm
      subst this
      exact absurd rfl hne
    · exact zq_el_dyn (σ := σ) (σ' := (σ.1, σ.2.1, σ.2.2.1, d)) rfl rfl ht j'
/-! arrays -/
theorem gq_iald {t n : Nat} {j : Fin 5} {i : Int32} (hkd : zq_kd t = (1, n, 0)) (hv : zq_vd t j = true) (hin : vp_in i n) (hd : decode M.2.1 pc = .ok (.iaload, 1)) (kk : zq_G ν M h Q (pc + 1) ls (zq_I (σ.1 t j i.toNatClampNeg) :: st) σ) : zq_G ν M h Q pc ls (zq_I i :: zq_O t j :: st) σ := by
  intro p l e R s m args below meth c cells slots Qm H locs arr hok hC hX hP hS hL
  obtain ⟨q0, hq, hw⟩ := zq_at hv
  exact va_iald hC.1 hC.2.1 hC.2.2.2.2.2.1 hP q0 0 (by rw [hw, zq_el_ints hkd]) rfl hin hd (kk p l e R s m args below meth c cells slots Qm H locs arr hok hC hX hP hS hL)
theorem gq_bald {t n : Nat} {j : Fin 5} {i : Int32} (hkd : zq_kd t = (2, n, 0)) (hv : zq_vd t j = true) (hin : vp_in i n) (hd : decode M.2.1 pc = .ok (.baload, 1)) (kk : zq_G ν M h Q (pc + 1) ls (zq_I (σ.1 t j i.toNatClampNeg) :: st) σ) : zq_G ν M h Q pc ls (zq_I i :: zq_O t j :: st) σ := by
  intro p l e R s m args below meth c cells slots Qm H locs arr hok hC hX hP hS hL
  obtain ⟨q0, hq, hw⟩ := zq_at hv
  exact va_bald hC.1 hC.2.1 hC.2.2.2.2.2.1 hP q0 1 (by rw [hw, zq_el_bytes hkd]) rfl hin hd (kk p l e R s m args below meth c cells slots Qm H locs arr hok hC hX hP hS hL)
theorem gq_zald {t n : Nat} {j : Fin 5} {i : Int32} (hkd : zq_kd t = (4, n, 0)) (hv : zq_vd t j = true) (hin : vp_in i n) (hd : decode M.2.1 pc = .ok (.baload, 1)) (kk : zq_G ν M h Q (pc + 1) ls (zq_I (σ.1 t j i.toNatClampNeg) :: st) σ) : zq_G ν M h Q pc ls (zq_I i :: zq_O t j :: st) σ := by
  intro p l e R s m args below meth c cells slots Qm H locs arr hok hC hX hP hS hL
  obtain ⟨q0, hq, hw⟩ := zq_at hv
  exact va_zald hC.1 hC.2.1 hC.2.2.2.2.2.1 hP q0 3 (by rw [hw, zq_el_bools hkd]) rfl hin hd (kk p l e R s m args below meth c cells slots Qm H locs arr hok hC hX hP hS hL)
theorem gq_lald {t n : Nat} {j : Fin 5} {i : Int32} (hkd : zq_kd t = (3, n, 0)) (hv : zq_vd t j = true) (hin : vp_in i n) (hd : decode M.2.1 pc = .ok (.laload, 1)) (kk : zq_G ν M h Q (pc + 1) ls (zq_L (σ.2.1 i.toNatClampNeg) :: st) σ) : zq_G ν M h Q pc ls (zq_I i :: zq_O t j :: st) σ := by
  intro p l e R s m args below meth c cells slots Qm H locs arr hok hC hX hP hS hL
  obtain ⟨q0, hq, hw⟩ := zq_at hv
  exact va_lald hC.1 hC.2.1 hC.2.2.2.2.2.1 hP q0 2 (by rw [hw, zq_el_longs hkd]) rfl hin hd (kk p l e R s m args below meth c cells slots Qm H locs arr hok hC hX hP hS hL)
theorem gq_aald {i : Int32} (hin : vp_in i 4) (hd : decode M.2.1 pc = .ok (.aaload, 1)) (kk : ∀ j : Fin 5, j.val = i.toNatClampNeg → zq_G ν M h Q (pc + 1) ls (zq_O 6 j :: st) σ) : zq_G ν M h Q pc ls (zq_I i :: zq_O 5 0 :: st) σ := by
  intro p l e R s m args below meth c cells slots Qm H locs arr hok hC hX hP hS hL
  obtain ⟨q0, hq, hw⟩ := zq_at (t := 5) (j := 0) rfl
  have hlt : i.toNatClampNeg < 4 := Nat.not_le.mp fun q => hin (Or.inr q)
  have he : (zq_ws ν σ)[q0]? = some (ν.1 5 0, .inl (ν.2.2.1 5, 4, .inr (.inr (.inr (.inr (zq_rows ν)))))) := by rw [hw, zq_el_refs rfl]
  have hv : zq_rows ν i.toNatClampNeg = some (ν.1 6 ⟨i.toNatClampNeg, by omega⟩) := by
    unfold zq_rows
    rw [dif_pos hlt]
  exact W.aald (v := .ref (ν.1 6 ⟨i.toNatClampNeg, by omega⟩)) (ty := .array .int) hC.1 hC.2.1 (hP q0 _ he) ((hC.2.2.2.2.2.1.2 4 (ν.2.2.1 5, .array .int) rfl).1 4 (fun j => va_rf (zq_rows ν j))) rfl (fun q => by cases q) (by show ¬ (i < 0 ∨ (arrV _ _ _).slots.size ≤ _); rw [arrV_size]; exact hin) (by show (arrV _ _ _).slots[_]? = _; rw [arrV_read _ _ hlt, hv]; rfl) rfl rfl hd (kk ⟨i.toNatClampNeg, by omega⟩ rfl p l e R s m args below meth c cells slots Qm H locs arr hok hC hX hP hS hL)
theorem zq_upd_at (f : Nat → Fin 5 → Nat → Int32) (t : Nat) (j : Fin 5) (k : Nat) (x : Int32) : upd (f t j) k x = zq_up f t j k x t j := funext fun i => by
  simp only [upd, zq_up, true_and]
theorem gq_iast {t n : Nat} {j : Fin 5} {i x : Int32} (hkd : zq_kd t = (1, n, 0)) (hv : zq_vd t j = true) (hin : vp_in i n) (hd : decode M.2.1 pc = .ok (.iastore, 1)) (kk : zq_G ν M h Q (pc + 1) ls st (zq_up σ.1 t j i.toNatClampNeg x, σ.2)) : zq_G ν M h Q pc ls (zq_I x :: zq_I i :: zq_O t j :: st) σ := by
  intro p l e R s m args below meth c cells slots Qm H locs arr hok hC hX hP hS hL
  obtain ⟨q0, hq, hw⟩ := zq_at hv
  refine va_iast hC.1 hC.2.1 hC.2.2.2.2.2.1 hP (zq_D hok σ) hS q0 0 (by rw [hw, zq_el_ints hkd]) rfl hin hd (fun H1 locs1 hP1 hD1 hS1 => ?_)
  rw [zq_set (σ' := (zq_up σ.1 t j i.toNatClampNeg x, σ.2)) hq (by rw [zq_el_ints hkd, zq_upd_at]) (fun t' j' _ hne => zq_el_up hne)] at hP1
  exact kk p l e R s m args below meth c cells slots Qm H1 locs1 arr hok hC hX hP1 hS1 hL
theorem gq_bast {t n : Nat} {j : Fin 5} {i x : Int32} (hkd : zq_kd t = (2, n, 0)) (hv : zq_vd t j = true) (hin : vp_in i n) (hd : decode M.2.1 pc = .ok (.bastore, 1)) (kk : zq_G ν M h Q (pc + 1) ls st (zq_up σ.1 t j i.toNatClampNeg x.toInt8.toInt32, σ.2)) : zq_G ν M h Q pc ls (zq_I x :: zq_I i :: zq_O t j :: st) σ := by
  intro p l e R s m args below meth c cells slots Qm H locs arr hok hC hX hP hS hL
  obtain ⟨q0, hq, hw⟩ := zq_at hv
  refine va_bast hC.1 hC.2.1 hC.2.2.2.2.2.1 hP (zq_D hok σ) hS q0 1 (by rw [hw, zq_el_bytes hkd]) rfl hin hd (fun H1 locs1 hP1 hD1 hS1 => ?_)
  rw [zq_set (σ' := (zq_up σ.1 t j i.toNatClampNeg x.toInt8.toInt32, σ.2)) hq (by rw [zq_el_bytes hkd, zq_upd_at, vp_nar_byte]) (fun t' j' _ hne => zq_el_up hne)] at hP1
  exact kk p l e R s m args below meth c cells slots Qm H1 locs1 arr hok hC hX hP1 hS1 hL
theorem gq_zast {t n : Nat} {j : Fin 5} {i x : Int32} (hkd : zq_kd t = (4, n, 0)) (hv : zq_vd t j = true) (hin : vp_in i n) (hd : decode M.2.1 pc = .ok (.bastore, 1)) (kk : zq_G ν M h Q (pc + 1) ls st (zq_up σ.1 t j i.toNatClampNeg (vp_nar .boolean x), σ.2)) : zq_G ν M h Q pc ls (zq_I x :: zq_I i :: zq_O t j :: st) σ := by
  intro p l e R s m args below meth c cells slots Qm H locs arr hok hC hX hP hS hL
  obtain ⟨q0, hq, hw⟩ := zq_at hv
  refine va_zast hC.1 hC.2.1 hC.2.2.2.2.2.1 hP (zq_D hok σ) hS q0 3 (by rw [hw, zq_el_bools hkd]) rfl hin hd (fun H1 locs1 hP1 hD1 hS1 => ?_)
  rw [zq_set (σ' := (zq_up σ.1 t j i.toNatClampNeg (vp_nar .boolean x), σ.2)) hq (by rw [zq_el_bools hkd, zq_upd_at]) (fun t' j' _ hne => zq_el_up hne)] at hP1
  exact kk p l e R s m args below meth c cells slots Qm H1 locs1 arr hok hC hX hP1 hS1 hL
theorem zq_kd_3 : ∀ t : Nat, (zq_kd t).1 = 3 → t = 42 := by
  intro t h
  rcases Nat.lt_or_ge t 48 with q | q
  · have : ∀ t : Fin 48, (zq_kd t.val).1 = 3 → t.val = 42 := by decide
    exact this ⟨t, q⟩ h
  · exfalso
    have e : zq_kd t = (9, 0, 0) := by
      show List.getD _ t (9, 0, 0) = _
      rw [List.getD_eq_getElem?_getD, List.getElem?_eq_none (by simpa using q)]
      rfl
    rw [e] at h
    exact absurd h (by decide)
theorem zq_cs_42 : ∀ j : Fin 5, (42, j) ∈ zq_cs → j = 0 := by decide +kernel
theorem gq_last {n : Nat} {i : Int32} {x : Int64} (hin : vp_in i 128) (hd : decode M.2.1 pc = .ok (.lastore, 1)) (kk : zq_G ν M h Q (pc + 1) ls st (σ.1, vp_updL σ.2.1 i.toNatClampNeg x, σ.2.2)) : zq_G ν M h Q pc ls (zq_L x :: zq_I i :: zq_O 42 0 :: st) σ := by
  intro p l e R s m args below meth c cells slots Qm H locs arr hok hC hX hP hS hL
  obtain ⟨q0, hq, hw⟩ := zq_at (t := 42) (j := 0) rfl
  refine va_last hC.1 hC.2.1 hC.2.2.2.2.2.1 hP (zq_D hok σ) hS q0 2 (by rw [hw, zq_el_longs (n := 128) rfl]) rfl hin hd (fun H1 locs1 hP1 hD1 hS1 => ?_)
  rw [zq_set (σ' := (σ.1, vp_updL σ.2.1 i.toNatClampNeg x, σ.2.2)) hq (by rw [zq_el_longs (n := 128) rfl]) (fun t' j' hm hne => ?_)] at hP1
  · exact kk p l e R s m args below meth c cells slots Qm H1 locs1 arr hok hC hX hP1 hS1 hL
  · have h3 : (zq_kd t').1 ≠ 3 := by
      intro h3
      have e1 := zq_kd_3 t' h3
      subst e1
      have e2 := zq_cs_42 j' hm
      subst e2
      exact hne rfl
    have e : ∀ i2, zq_fv σ t' j' i2 = zq_fv (σ.1, vp_updL σ.2.1 i.toNatClampNeg x, σ.2.2) t' j' i2 := fun i2 => rfl
    unfold zq_el
    generalize zq_kd t' = z at h3 ⊢
    obtain ⟨a, b, c'⟩ := z
    match a, h3 with
    | 0, _ => rfl
    | 1, _ => rfl
    | 2, _ => rfl
    | 3, h3 => exact absurd rfl h3
    | 4, _ => rfl
    | 5, _ => rfl
    | a + 6, _ => rfl
theorem gq_alen {t n : Nat} {j : Fin 5} {v : Int32} (hkd : zq_kd t = (1, n, 0)) (hv : zq_vd t j = true) (hn : Int32.ofNat n = v) (hd : decode M.2.1 pc = .ok (.arraylength, 1)) (kk : zq_G ν M h Q (pc + 1) ls (zq_I v :: st) σ) : zq_G ν M h Q pc ls (zq_O t j :: st) σ := by
  intro p l e R s m args below meth c cells slots Qm H locs arr hok hC hX hP hS hL
  obtain ⟨q0, hq, hw⟩ := zq_at hv
  exact va_alen hC.1 hC.2.1 hC.2.2.2.2.2.1 hP q0 0 (by rw [hw, zq_el_ints hkd]) (ty := .int) rfl hn hd (kk p l e R s m args below meth c cells slots Qm H locs arr hok hC hX hP hS hL)
/-! calls -/
theorem zq_callR {p : Program} {l : Launch} {e : Env} {R : Room} {s : State} {m : MethodId} {args : Array Value} {below : List Frame} {meth : Method} {c : Code} {H : Heap} {locs : List Loc} {cells slots : Nat} {Qm : State → Prop} {arr : Array Slot} {rest st0 : List Value} {a : Array Value} {Q' : Option zq_V → zq_T → Prop} (hr : va_Run p l e R s m args below meth c H locs cells slots 0 0 (F0 m pc arr st0) rest (zq_Qc ν Q' a) (zq_A ν)) (hS : va_S (zq_A ν) s.heap H locs) (kk : ∀ (r : Option zq_V) (σ' : zq_T) (H1 : Heap) (locs1 : List Loc), Q' r σ' → va_P ν.2.1 zq_cl (zq_ws ν σ') H1 → va_S (zq_A ν) s.heap H1 locs1 → W p l e R s m args below meth c H1 locs1 cells slots Qm (F0 m (pc + 3) arr ((r.map (zq_ev ν)).toList ++ rest))) : W p l e R s m args below meth c H locs cells slots Qm (F0 m pc arr st0) := by
  intro T hT X
  obtain ⟨v, st₀, t, T', L, h0, X', hL, e1, e2, ⟨⟨r, σ', hv, hQ, hP⟩, hz, hk⟩, st⟩ := hr T hT X
  cases hv
  rw [h0] at hz hk
  obtain ⟨t2, a1, b1⟩ := kk r σ' T'.heap (locs ++ L) hQ (by rw [e1]; exact hP) ⟨Nat.le_trans hS.1 (by rw [e1]; exact hz), fun q h1 h2 => by rw [e1, hk q (Nat.lt_of_lt_of_le h1 hS.1) h2]; exact hS.2.1 q h1 h2, fun q hq => by
      rcases List.mem_append.mp hq with h | h
      · exact hS.2.2 q h
      · exact hL q h⟩ T' rfl X'
  exact ⟨t2, st t2 a1, b1⟩
theorem zq_blind (ν : zq_E) (a : List zq_V) (σ : zq_T) : FrameBlind (zq_Pc ν a σ) := fun v U g mk q => ⟨q.1, q.2.1, va_K.moved (u := U) (U := U.calling g mk v) (Vm.Alike.refl U.vm) q.2.2.1, q.2.2.2.call g mk v⟩
theorem zq_rest (ν : zq_E) : ∀ st : List zq_V, ((st.map (zq_ev ν)).map fun v => v.category).sum = (st.map zq_ct).sum
  | [] => rfl
  | v :: st => by simp only [List.map_cons, List.sum_cons, zq_ct_ev, zq_rest ν st]
theorem gq_callRecv {Mj : zq_M} {h' n idx : Nat} {As : List zq_V} {t : Nat} {j : Fin 5} {Q' : Option zq_V → zq_T → Prop} {st0 : List zq_V} (hrecv : ∀ (s : State) (H : Heap) (locs : List Loc), va_K ν.2.1 zq_cl (zq_tys ν) s → zq_J ν s s.heap → va_P ν.2.1 zq_cl (zq_ws ν σ) H → va_S (zq_A ν) s.heap H locs → ∃ cellB : Cell, H[ν.1 t j]? = some cellB ∧ cellB.vm.isStatics = false ∧ s.vm.findClass Mj.1.cls = some cellB.cls) (hSp : zq_Sp Mj h' (zq_O t j :: As) σ Q') (hm : zq_MV Mj n) (hlk : Cond.methodLink M.1.cls idx Mj.1 ∈ zq_tbl) (hd : decode M.2.1 pc = .ok (.invokevirtual idx, 3)) (hh : h' + 1 ≤ h) (hn : As.length = n) (hst : As.reverse ++ zq_O t j :: st = st0) (hct : (st.map zq_ct).sum ≤ 8) (kk : ∀ r σ', Q' r σ' → zq_G ν M h Q (pc + 3) ls (r.toList ++ st) σ') : zq_G ν M h Q pc ls st0 σ := by
  intro p l e R s m args below meth c cells slots Qm H locs arr hok hC hX hP hS hL
  obtain ⟨m1, m2, m3, m4, m5, m6, m7, m8⟩ := hm
  obtain ⟨c1, c2, c3, c4, c5, c6, c7, c8, c9, c10, c11⟩ := id hC
  have hMet := hSp ν hok l
  subst hst
  have cw : CallW R s args M.1.cls Mj.1.cls idx Mj.1 Mj.2.1 Mj.2.2.1 Mj.2.2.2 (zq_wm Mj) (zq_rm h') 0 0 n := ⟨callB_of n c5 (zq_good m1) rfl rfl rfl (c5 _ m4) (c5 _ hlk) ⟨m5.1, m5.2, m6⟩ ⟨Nat.le_trans hh c8, by show 8 + (Mj.2.2.1 + 11) + 60 * h' ≤ R.locals; omega⟩, c5 _ m2, c5 _ m3⟩
  refine zq_callR (va_runV (As := As.map (zq_ev ν)) (rest := st.map (zq_ev ν)) (b := ν.1 t j) ⟨c1, c2, c3, c4, c5⟩ hMet cw ⟨zq_blind ν _ σ, hrecv s H locs c6 c7 hP hS, fun U hU hW => ⟨by rw [List.map_cons]; rfl, by rw [hU]; exact hP, va_K.moved hW.alike c6, by rw [hU]; exact c7.go hS hW⟩⟩ rfl (by rw [List.length_map]; exact hn) hL.1 (by simp [zq_ev]) (lv_room (by rw [zq_rest]; exact hct)) hd ⟨c10, c11⟩) hS (fun r σ' H1 locs1 hQ' hP1 hS1 => ?_)
  have := kk r σ' hQ' p l e R s m args below meth c cells slots Qm H1 locs1 arr hok hC hX hP1 hS1 hL
  rw [List.map_append] at this
  rcases r with _ | r
  · exact this
  · exact this
theorem gq_callV {Mj : zq_M} {h' n idx : Nat} {As : List zq_V} {t ci N : Nat} {j : Fin 5} {Q' : Option zq_V → zq_T → Prop} {st0 : List zq_V} (hSp : zq_Sp Mj h' (zq_O t j :: As) σ Q') (hm : zq_MV Mj n) (hlk : Cond.methodLink M.1.cls idx Mj.1 ∈ zq_tbl) (hd : decode M.2.1 pc = .ok (.invokevirtual idx, 3)) (hkd : zq_kd t = (0, ci, N)) (hcl : (zq_cl[ci]?).map (fun q => q.1) = some Mj.1.cls) (hv : zq_vd t j = true) (hh : h' + 1 ≤ h) (hn : As.length = n) (hst : As.reverse ++ zq_O t j :: st = st0) (hct : (st.map zq_ct).sum ≤ 8) (kk : ∀ r σ', Q' r σ' → zq_G ν M h Q (pc + 3) ls (r.toList ++ st) σ') : zq_G ν M h Q pc ls st0 σ := by
  refine gq_callRecv (fun s H locs hK hJ hP hS => ?_) hSp hm hlk hd hh hn hst hct kk
  obtain ⟨q0, hq, hw⟩ := zq_at hv
  cases hci : zq_cl[ci]? with
  | none => rw [hci] at hcl; cases hcl
  | some r =>
    rw [hci] at hcl
    rw [← show r.1 = Mj.1.cls from Option.some.inj hcl]
    exact va_recv hK hP hci (by rw [hw, zq_el_obj hkd])
theorem gq_callS {Mj : zq_M} {h' n idx : Nat} {As : List zq_V} {Q' : Option zq_V → zq_T → Prop} {st0 : List zq_V} (hSp : zq_Sp Mj h' As σ Q') (hm : zq_MS Mj n) (hlk : Cond.methodLink M.1.cls idx Mj.1 ∈ zq_tbl) (hd : decode M.2.1 pc = .ok (.invokestatic idx, 3)) (hh : h' + 1 ≤ h) (hn : As.length = n) (hst : As.reverse ++ st = st0) (hct : (st.map zq_ct).sum ≤ 8) (kk : ∀ r σ', Q' r σ' → zq_G ν M h Q (pc + 3) ls (r.toList ++ st) σ') : zq_G ν M h Q pc ls st0 σ := by
  intro p l e R s m args below meth c cells slots Qm H locs arr hok hC hX hP hS hL
  obtain ⟨m1, m2, m4, m5, m6, m7, m8⟩ := hm
  obtain ⟨c1, c2, c3, c4, c5, c6, c7, c8, c9, c10, c11⟩ := id hC
  have hMet := hSp ν hok l
  subst hst
  have cw : CallB R s args M.1.cls idx Mj.1 Mj.2.1 Mj.2.2.1 Mj.2.2.2 (zq_wm Mj) (zq_rm h') 0 0 n ∧ (Cond.static Mj.1).before args s = true := ⟨callB_of n c5 (zq_good m1) rfl rfl rfl (c5 _ m4) (c5 _ hlk) ⟨m5.1, m5.2, m6⟩ ⟨Nat.le_trans hh c8, by show 8 + (Mj.2.2.1 + 11) + 60 * h' ≤ R.locals; omega⟩, c5 _ m2⟩
  refine zq_callR (va_runS (As := As.map (zq_ev ν)) (rest := st.map (zq_ev ν)) ⟨c1, c2, c3, c4, c5⟩ hMet cw ⟨zq_blind ν _ σ, fun U hU hW => ⟨rfl, by rw [hU]; exact hP, va_K.moved hW.alike c6, by rw [hU]; exact c7.go hS hW⟩⟩ rfl (by rw [List.length_map]; exact hn) hL.1 (by simp) (lv_room (by rw [zq_rest]; exact hct)) hd ⟨c10, c11⟩) hS (fun r σ' H1 locs1 hQ' hP1 hS1 => ?_)
  have := kk r σ' hQ' p l e R s m args below meth c cells slots Qm H1 locs1 arr hok hC hX hP1 hS1 hL
  rw [List.map_append] at this
  rcases r with _ | r
  · exact this
  · exact this
/-- calls that answer one value; that answer nothing -/
theorem gq_cV {Mj : zq_M} {h' n idx : Nat} {As : List zq_V} {t ci N : Nat} {j : Fin 5} {v : zq_V} {τ : zq_T} {st0 : List zq_V} (hSp : zq_Sp Mj h' (zq_O t j :: As) σ (zq_rv v τ)) (hm : zq_MV Mj n) (hlk : Cond.methodLink M.1.cls idx Mj.1 ∈ zq_tbl) (hd : decode M.2.1 pc = .ok (.invokevirtual idx, 3)) (hkd : zq_kd t = (0, ci, N)) (hcl : (zq_cl[ci]?).map (fun q => q.1) = some Mj.1.cls) (hv : zq_vd t j = true) (hh : h' + 1 ≤ h) (hn : As.length = n) (hst : As.reverse ++ zq_O t j :: st = st0) (hct : (st.map zq_ct).sum ≤ 8) (kk : zq_G ν M h Q (pc + 3) ls (v :: st) τ) : zq_G ν M h Q pc ls st0 σ :=
  gq_callV hSp hm hlk hd hkd hcl hv hh hn hst hct (fun r σ' q => by obtain ⟨rfl, rfl⟩ := q; exact kk)
theorem gq_cV0 {Mj : zq_M} {h' n idx : Nat} {As : List zq_V} {t ci N : Nat} {j : Fin 5} {τ : zq_T} {st0 : List zq_V} (hSp : zq_Sp Mj h' (zq_O t j :: As) σ (zq_r0 τ)) (hm : zq_MV Mj n) (hlk : Cond.methodLink M.1.cls idx Mj.1 ∈ zq_tbl) (hd : decode M.2.1 pc = .ok (.invokevirtual idx, 3)) (hkd : zq_kd t = (0, ci, N)) (hcl : (zq_cl[ci]?).map (fun q => q.1) = some Mj.1.cls) (hv : zq_vd t j = true) (hh : h' + 1 ≤ h) (hn : As.length = n) (hst : As.reverse ++ zq_O t j :: st = st0) (hct : (st.map zq_ct).sum ≤ 8) (kk : zq_G ν M h Q (pc + 3) ls st τ) : zq_G ν M h Q pc ls st0 σ :=
  gq_callV hSp hm hlk hd hkd hcl hv hh hn hst hct (fun r σ' q => by obtain ⟨rfl, rfl⟩ := q; exact kk)
theorem gq_cS {Mj : zq_M} {h' n idx : Nat} {As : List zq_V} {v : zq_V} {τ : zq_T} {st0 : List zq_V} (hSp : zq_Sp Mj h' As σ (zq_rv v τ)) (hm : zq_MS Mj n) (hlk : Cond.methodLink M.1.cls idx Mj.1 ∈ zq_tbl) (hd : decode M.2.1 pc = .ok (.invokestatic idx, 3)) (hh : h' + 1 ≤ h) (hn : As.length = n) (hst : As.reverse ++ st = st0) (hct : (st.map zq_ct).sum ≤ 8) (kk : zq_G ν M h Q (pc + 3) ls (v :: st) τ) : zq_G ν M h Q pc ls st0 σ :=
  gq_callS hSp hm hlk hd hh hn hst hct (fun r σ' q => by obtain ⟨rfl, rfl⟩ := q; exact kk)
theorem gq_cS0 {Mj : zq_M} {h' n idx : Nat} {As : List zq_V} {τ : zq_T} {st0 : List zq_V} (hSp : zq_Sp Mj h' As σ (zq_r0 τ)) (hm : zq_MS Mj n) (hlk : Cond.methodLink M.1.cls idx Mj.1 ∈ zq_tbl) (hd : decode M.2.1 pc = .ok (.invokestatic idx, 3)) (hh : h' + 1 ≤ h) (hn : As.length = n) (hst : As.reverse ++ st = st0) (hct : (st.map zq_ct).sum ≤ 8) (kk : zq_G ν M h Q (pc + 3) ls st τ) : zq_G ν M h Q pc ls st0 σ :=
  gq_callS hSp hm hlk hd hh hn hst hct (fun r σ' q => by obtain ⟨rfl, rfl⟩ := q; exact kk)
end FLD
theorem zx_max1 : Cond.methodLink "ThirdSon" 286 Lib.MathLoose.max_long.x ∈ zq_tbl := zl_S_286
theorem zx_max2 : Cond.static Lib.MathLoose.max_long.x ∈ zq_tbl := zq_in 692 (by decide +kernel) rfl
theorem zx_max3 : Cond.code Lib.MathLoose.max_long.x Lib.MathLoose.max_long.code 4 (some .long) ∈ zq_tbl := zq_in 693 (by decide +kernel) rfl
theorem gq_lmax {ν : zq_E} {M : zq_M} {h : Nat} {Q : Option zq_V → zq_T → Prop} {pc : Nat} {ls : List (Option zq_V)} {st : List zq_V} {σ : zq_T} {x y : Int64} (hown : M.1.cls = "ThirdSon") (hd : decode M.2.1 pc = .ok (.invokestatic 286, 3)) (hh : 1 ≤ h) (hct : (st.map zq_ct).sum ≤ 8) (kk : zq_G ν M h Q (pc + 3) ls (zq_L (if y < x then x else y) :: st) σ) : zq_G ν M h Q pc ls (zq_L y :: zq_L x :: st) σ := by
  intro p l e R s m args below meth c cells slots Qm H locs arr hok hC hX hP hS hL
  obtain ⟨c1, c2, c3, c4, c5, c6, c7, c8, c9, c10, c11⟩ := id hC
  exact va_mmax_long c1 c2 (c3.trans hL.1.symm) (own := "ThirdSon") (by rw [← hown]; exact c4) (c5 _ zx_max1) (c5 _ zx_max2) (c5 _ zi_JM) (c5 _ zx_max3) (by omega) (by rw [zq_rest]; omega) c10 c11 hd (kk p l e R s m args below meth c cells slots Qm H locs arr hok hC hX hP hS hL)
