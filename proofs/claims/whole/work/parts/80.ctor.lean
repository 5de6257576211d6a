/-! constructors: rules in the writer's form, words, decode rows -/
section GR4
variable {D : va_G} {κ : Nat → ClassId} {A : Nat → Prop} {M : zq_M} {h K S pcE : Nat} {Q : Array Slot → va_W → Prop} {k n pc : Nat} {ls : List (Nat × Value)} {st : List Value} {h0 : Nat × va_E} {W0 : va_W}
theorem zi_new1 {idx ci N : Nat} {C : String} {T : u_T} {ty0 : Nat → FieldType} {fs : List Value} (hcl : zq_cl[ci]? = some (C, T, N)) (hin : ∀ w ∈ u_ws C T N, w ∈ zq_tbl) (hty : ∀ k, k < N → parseFieldDescriptor (T k).2.2.1 = some (ty0 k)) (hlk : Cond.classLink M.1.cls idx C ∈ zq_tbl) (hinst : Cond.instantiable C N ∈ zq_tbl) (hini : Cond.initialized C ∈ zq_tbl) (hfs : ∀ j, j < N → defaultValue (ty0 j) = vp_V fs j) (hk : k + 1 ≤ K) (hn : n + N ≤ S) (hd : decode M.2.1 pc = .ok (.new idx, 3)) (kk : ∀ q, zi_G D κ A M h K S pcE Q (k + 1) (n + N) (pc + 3) ls (.ref q :: st) (h0 :: (W0 ++ [(q, .inr (ci, fs))]))) : zi_G D κ A M h K S pcE Q k n pc ls st (h0 :: W0) := zi_new (ws := h0 :: W0) hcl hin hty hlk hinst hini hfs hk hn hd kk
theorem zi_newa1 {atype : ArrayType} {ty : FieldType} {N' t0 g : Nat} {i : Int32} {a0 : vp_A} (harr : Cond.arrayClass ty ∈ zq_tbl) (hty : newarray.typeOf atype = ty) (ht0 : (zi_ty κ)[t0]? = some (κ g, ty)) (ha : ∀ cA : ClassId, vp_cell cA a0 = arrV cA N' (fun _ => defaultValue ty)) (hi : i = nI N') (hN : N' ≤ 1000) (hcb : componentBytes ty ≤ 8) (hk : k + 1 ≤ K) (hn : n + N' ≤ S) (hd : decode M.2.1 pc = .ok (.newarray atype, 2)) (kk : ∀ q, zi_G D κ A M h K S pcE Q (k + 1) (n + N') (pc + 2) ls (.ref q :: st) (h0 :: (W0 ++ [(q, .inl (κ g, a0))]))) : zi_G D κ A M h K S pcE Q k n pc ls (.int i :: st) (h0 :: W0) := zi_newa (ws := h0 :: W0) harr hty ht0 ha hi hN hcb hk hn hd kk
theorem zi_multi1 {idx : Nat} (hlk : Cond.classLink M.1.cls idx "[[I" ∈ zq_tbl) (hd : decode M.2.1 pc = .ok (.multianewarray idx 2, 4)) (hk : k + 5 ≤ K) (hn : n + 164 ≤ S) (kk : ∀ q, zi_G D κ A M h K S pcE Q (k + 5) (n + 164) (pc + 4) ls (.ref q :: st) (h0 :: (W0 ++ zi_r5 κ q))) : zi_G D κ A M h K S pcE Q k n pc ls (.int 40 :: .int 4 :: st) (h0 :: W0) := zi_multi (ws := h0 :: W0) hlk hd hk hn kk
theorem zi_callI1 {Mj : zq_M} {h' K' S' idx q : Nat} {fr : va_E} {Q' : va_W → Prop} (hSp : zi_Sp Mj h' K' S' D κ q [(q, fr)] Q') (hm : zi_MI Mj) (hlk : Cond.methodLink M.1.cls idx Mj.1 ∈ zq_tbl) (hd : decode M.2.1 pc = .ok (.invokespecial idx, 3)) (hh : h' + 1 ≤ h) (hk : k + K' ≤ K) (hn : n + S' ≤ S) (hct : (st.map fun v => v.category).sum ≤ 8) (kk : ∀ w1, Q' w1 → zi_G D κ A M h K S pcE Q (k + K') (n + S') (pc + 3) ls st (h0 :: (W0 ++ w1))) : zi_G D κ A M h K S pcE Q k n pc ls (.ref q :: st) (h0 :: (W0 ++ [(q, fr)])) := zi_callI (ws := h0 :: W0) hSp hm hlk hd hh hk hn hct kk
theorem zi_callN1 {Mj : zq_M} {h' K' S' idx q : Nat} {fr : va_E} {Q' : va_W → Prop} (hSp : zi_Sp Mj h' K' S' D κ q [(q, fr)] Q') (hm : zi_MI Mj) (hlk : ∀ U, zi_N U → va_Nw (.methodLinkNest M.1.cls idx Mj.1 "ThirdSon") U) (hd : decode M.2.1 pc = .ok (.invokespecial idx, 3)) (hh : h' + 1 ≤ h) (hk : k + K' ≤ K) (hn : n + S' ≤ S) (hct : (st.map fun v => v.category).sum ≤ 8) (kk : ∀ w1, Q' w1 → zi_G D κ A M h K S pcE Q (k + K') (n + S') (pc + 3) ls st (h0 :: (W0 ++ w1))) : zi_G D κ A M h K S pcE Q k n pc ls (.ref q :: st) (h0 :: (W0 ++ [(q, fr)])) := zi_callN (ws := h0 :: W0) hSp hm hlk hd hh hk hn hct kk
variable {ws : va_W}
theorem zi_iload {i : Fin 4} {x : Int32} (q : Nat) (hd : decode M.2.1 pc = .ok (.iload_n i, 1)) (hl : ls[q]? = some (i.val, .int x)) (kk : zi_G D κ A M h K S pcE Q k n (pc + 1) ls (.int x :: st) ws) : zi_G D κ A M h K S pcE Q k n pc ls st ws := by
  intro p l e R s m args below meth c Qm H locs arr hC hX hP hD hS hL
  exact lv_iload_n hC.1 hC.2.1 hd rfl (lv_at hL q hl) (kk p l e R s m args below meth c Qm H locs arr hC hX hP hD hS hL)
theorem zi_istore {i : Fin 4} {x : Int32} {ls' : List (Nat × Value)} (hd : decode M.2.1 pc = .ok (.istore_n i, 1)) (hi : i.val < M.2.2.1) (hl : (i.val, Value.int x) :: ls.filter (fun q => !(q.1 == i.val) && !(q.1 + 1 == i.val && q.2.category == 2)) = ls') (kk : zi_G D κ A M h K S pcE Q k n (pc + 1) ls' st ws) : zi_G D κ A M h K S pcE Q k n pc ls (.int x :: st) ws := by
  intro p l e R s m args below meth c Qm H locs arr hC hX hP hD hS hL
  exact lv_istore_n hC.1 hC.2.1 hd rfl hL hi hl (fun arr hA => kk p l e R s m args below meth c Qm H locs arr hC hX hP hD hS hA)
theorem zi_iinc {i q : Nat} {c0 : Int} {x v : Int32} {ls' : List (Nat × Value)} (hd : decode M.2.1 pc = .ok (.iinc i c0, 3)) (hq : ls[q]? = some (i, .int x)) (hv : x + Int32.ofInt c0 = v) (hi : i < M.2.2.1) (hl : (i, Value.int v) :: ls.filter (fun q => !(q.1 == i) && !(q.1 + 1 == i && q.2.category == 2)) = ls') (kk : zi_G D κ A M h K S pcE Q k n (pc + 3) ls' st ws) : zi_G D κ A M h K S pcE Q k n pc ls st ws := by
  intro p l e R s m args below meth c Qm H locs arr hC hX hP hD hS hL
  exact lv_iinc hC.1 hC.2.1 hd hL hq hv hi hl (fun arr hA => kk p l e R s m args below meth c Qm H locs arr hC hX hP hD hS hA)
theorem zi_ge {x y : Int32} {off : Int} {tgt : Nat} (hd : decode M.2.1 pc = .ok (.if_icmp .ge off, 3)) (ht : (pc : Int) + off = (tgt : Int)) (kt : y ≤ x → zi_G D κ A M h K S pcE Q k n tgt ls st ws) (kf : ¬ y ≤ x → zi_G D κ A M h K S pcE Q k n (pc + 3) ls st ws) : zi_G D κ A M h K S pcE Q k n pc ls (.int y :: .int x :: st) ws := by
  intro p l e R s m args below meth c Qm H locs arr hC hX hP hD hS hL
  exact lv_icmp_ge hC.1 hC.2.1 hd ht (fun q => kt q p l e R s m args below meth c Qm H locs arr hC hX hP hD hS hL) (fun q => kf q p l e R s m args below meth c Qm H locs arr hC hX hP hD hS hL)
theorem zi_goto {off : Int} {tgt : Nat} (hd : decode M.2.1 pc = .ok (.goto off, 3)) (ht : (pc : Int) + off = (tgt : Int)) (kk : zi_G D κ A M h K S pcE Q k n tgt ls st ws) : zi_G D κ A M h K S pcE Q k n pc ls st ws := by
  intro p l e R s m args below meth c Qm H locs arr hC hX hP hD hS hL
  exact lv_goto hC.1 hC.2.1 hd ht (kk p l e R s m args below meth c Qm H locs arr hC hX hP hD hS hL)
end GR4
theorem zj_S : Cond.methodLink "ThirdSon" 3 Lib.objectInit ∈ zq_tbl := zq_in 78 (by decide +kernel) rfl
theorem zj_P : Cond.methodLink "ThirdSon$Tape" 1 Lib.objectInit ∈ zq_tbl := zq_in 86 (by decide +kernel) rfl
theorem zj_E : Cond.methodLink "ThirdSon$Teller" 3 Lib.objectInit ∈ zq_tbl := zq_in 117 (by decide +kernel) rfl
theorem zj_H : Cond.methodLink "ThirdSon$Sheets" 3 Lib.objectInit ∈ zq_tbl := zq_in 138 (by decide +kernel) rfl
theorem zj_D : Cond.methodLink "ThirdSon$Duchy" 3 Lib.objectInit ∈ zq_tbl := zq_in 157 (by decide +kernel) rfl
theorem zj_M : Cond.methodLink "ThirdSonModel" 1 Lib.objectInit ∈ zq_tbl := zq_in 810 (by decide +kernel) rfl
theorem zk_L_7 : Cond.classLink "ThirdSonLaw" 7 "ThirdSon" ∈ zq_tbl := zq_in 73 (by decide +kernel) rfl
theorem zk_S_9 : Cond.classLink "ThirdSon" 9 "ThirdSon$Tape" ∈ zq_tbl := zq_in 81 (by decide +kernel) rfl
theorem zk_S_16 : Cond.classLink "ThirdSon" 16 "ThirdSon$Teller" ∈ zq_tbl := zq_in 112 (by decide +kernel) rfl
theorem zk_S_23 : Cond.classLink "ThirdSon" 23 "ThirdSon$Sheets" ∈ zq_tbl := zq_in 133 (by decide +kernel) rfl
theorem zk_S_30 : Cond.classLink "ThirdSon" 30 "ThirdSon$Duchy" ∈ zq_tbl := zq_in 152 (by decide +kernel) rfl
theorem zk_L_10 : Cond.classLink "ThirdSonLaw" 10 "ThirdSonModel" ∈ zq_tbl := zq_in 805 (by decide +kernel) rfl
theorem zk_H_11 : Cond.classLink "ThirdSon$Sheets" 11 "[[I" ∈ zq_tbl := zq_in 139 (by decide +kernel) rfl
theorem zo_S : Cond.instantiable "ThirdSon" 15 ∈ zq_tbl := zq_in 74 (by decide +kernel) rfl
theorem zo_P : Cond.instantiable "ThirdSon$Tape" 6 ∈ zq_tbl := zq_in 82 (by decide +kernel) rfl
theorem zo_E : Cond.instantiable "ThirdSon$Teller" 4 ∈ zq_tbl := zq_in 113 (by decide +kernel) rfl
theorem zo_H : Cond.instantiable "ThirdSon$Sheets" 3 ∈ zq_tbl := zq_in 134 (by decide +kernel) rfl
theorem zo_D : Cond.instantiable "ThirdSon$Duchy" 13 ∈ zq_tbl := zq_in 153 (by decide +kernel) rfl
theorem zo_M : Cond.instantiable "ThirdSonModel" 34 ∈ zq_tbl := zq_in 806 (by decide +kernel) rfl
theorem zi_mS : zi_MI zm_S_init := ⟨zq_in 77 (by decide +kernel) rfl, zq_in 76 (by decide +kernel) rfl, zi_S, by decide +kernel, rfl, rfl, by decide⟩
theorem zi_mP : zi_MI zm_P_init := ⟨zq_in 85 (by decide +kernel) rfl, zq_in 84 (by decide +kernel) rfl, zi_P, by decide +kernel, rfl, rfl, by decide⟩
theorem zi_mE : zi_MI zm_E_init := ⟨zq_in 116 (by decide +kernel) rfl, zq_in 115 (by decide +kernel) rfl, zi_E, by decide +kernel, rfl, rfl, by decide⟩
theorem zi_mH : zi_MI zm_H_init := ⟨zq_in 137 (by decide +kernel) rfl, zq_in 136 (by decide +kernel) rfl, zi_H, by decide +kernel, rfl, rfl, by decide⟩
theorem zi_mD : zi_MI zm_D_init := ⟨zq_in 156 (by decide +kernel) rfl, zq_in 155 (by decide +kernel) rfl, zi_D, by decide +kernel, rfl, rfl, by decide⟩
theorem zi_mM : zi_MI zm_M_init := ⟨zq_in 809 (by decide +kernel) rfl, zq_in 808 (by decide +kernel) rfl, zi_M, by decide +kernel, rfl, rfl, by decide⟩
theorem zi_fD : ∀ j, j < 13 → defaultValue (tyX0 j) = vp_V [.int 0, .int 0, .int 0, .null, .null, .null, .null, .null, .null, .null, .null, .null, .null] j := fun j hj => by
  match j, hj with
  | 0, _ => rfl
  | 1, _ => rfl
  | 2, _ => rfl
  | 3, _ => rfl
  | 4, _ => rfl
  | 5, _ => rfl
  | 6, _ => rfl
  | 7, _ => rfl
  | 8, _ => rfl
  | 9, _ => rfl
  | 10, _ => rfl
  | 11, _ => rfl
  | 12, _ => rfl
  | q + 13, hq => exact absurd hq (by omega)
theorem zi_fH : ∀ j, j < 3 → defaultValue (tyX1 j) = vp_V [.null, .null, .null] j := fun j hj => by
  match j, hj with
  | 0, _ => rfl
  | 1, _ => rfl
  | 2, _ => rfl
  | q + 3, hq => exact absurd hq (by omega)
theorem zi_fP : ∀ j, j < 6 → defaultValue (tyX2 j) = vp_V [.null, .int 0, .int 0, .int 0, .int 0, .int 0] j := fun j hj => by
  match j, hj with
  | 0, _ => rfl
  | 1, _ => rfl
  | 2, _ => rfl
  | 3, _ => rfl
  | 4, _ => rfl
  | 5, _ => rfl
  | q + 6, hq => exact absurd hq (by omega)
theorem zi_fE : ∀ j, j < 4 → defaultValue (tyX3 j) = vp_V [.int 0, .int 0, .int 0, .int 0] j := fun j hj => by
  match j, hj with
  | 0, _ => rfl
  | 1, _ => rfl
  | 2, _ => rfl
  | 3, _ => rfl
  | q + 4, hq => exact absurd hq (by omega)
theorem zi_fS : ∀ j, j < 15 → defaultValue (tyX4 j) = vp_V [.null, .null, .null, .null, .null, .null, .null, .null, .null, .null, .null, .int 0, .int 0, .int 0, .int 0] j := fun j hj => by
  match j, hj with
  | 0, _ => rfl
  | 1, _ => rfl
  | 2, _ => rfl
  | 3, _ => rfl
  | 4, _ => rfl
  | 5, _ => rfl
  | 6, _ => rfl
  | 7, _ => rfl
  | 8, _ => rfl
  | 9, _ => rfl
  | 10, _ => rfl
  | 11, _ => rfl
  | 12, _ => rfl
  | 13, _ => rfl
  | 14, _ => rfl
  | q + 15, hq => exact absurd hq (by omega)
theorem zi_fM : ∀ j, j < 34 → defaultValue (tyX5 j) = vp_V [.null, .null, .null, .int 0, .int 0, .null, .null, .null, .int 0, .int 0, .int 0, .int 0, .null, .int 0, .int 0, .int 0, .int 0, .int 0, .int 0, .int 0, .int 0, .null, .null, .null, .null, .int 0, .null, .null, .int 0, .null, .null, .null, .null, .int 0] j := fun j hj => by
  match j, hj with
  | 0, _ => rfl
  | 1, _ => rfl
  | 2, _ => rfl
  | 3, _ => rfl
  | 4, _ => rfl
  | 5, _ => rfl
  | 6, _ => rfl
  | 7, _ => rfl
  | 8, _ => rfl
  | 9, _ => rfl
  | 10, _ => rfl
  | 11, _ => rfl
  | 12, _ => rfl
  | 13, _ => rfl
  | 14, _ => rfl
  | 15, _ => rfl
  | 16, _ => rfl
  | 17, _ => rfl
  | 18, _ => rfl
  | 19, _ => rfl
  | 20, _ => rfl
  | 21, _ => rfl
  | 22, _ => rfl
  | 23, _ => rfl
  | 24, _ => rfl
  | 25, _ => rfl
  | 26, _ => rfl
  | 27, _ => rfl
  | 28, _ => rfl
  | 29, _ => rfl
  | 30, _ => rfl
  | 31, _ => rfl
  | 32, _ => rfl
  | 33, _ => rfl
  | q + 34, hq => exact absurd hq (by omega)
theorem zh_P_9 : zi_F "ThirdSon$Tape" 9 1 0 (.array .byte) := ⟨2, 6, RX2, TX2, tyX2, rfl, rfl, zq_in2, by decide, zl_P_9, tyX2_ok, nmX2, rfl, by decide +kernel, rfl⟩
theorem zh_H_13 : zi_F "ThirdSon$Sheets" 13 4 0 (.array (.array .int)) := ⟨1, 3, RX1, TX1, tyX1, rfl, rfl, zq_in1, by decide, zl_H_13, tyX1_ok, nmX1, rfl, by decide +kernel, rfl⟩
theorem zh_H_16 : zi_F "ThirdSon$Sheets" 16 4 1 (.array .int) := ⟨1, 3, RX1, TX1, tyX1, rfl, rfl, zq_in1, by decide, zl_H_16, tyX1_ok, nmX1, rfl, by decide +kernel, rfl⟩
theorem zh_H_20 : zi_F "ThirdSon$Sheets" 20 4 2 (.array .int) := ⟨1, 3, RX1, TX1, tyX1, rfl, rfl, zq_in1, by decide, zl_H_20, tyX1_ok, nmX1, rfl, by decide +kernel, rfl⟩
theorem zh_D_9 : zi_F "ThirdSon$Duchy" 9 10 3 (.array .int) := ⟨0, 13, RX0, TX0, tyX0, rfl, rfl, zq_in0, by decide, zl_D_9, tyX0_ok, nmX0, rfl, by decide +kernel, rfl⟩
theorem zh_D_15 : zi_F "ThirdSon$Duchy" 15 10 4 (.array .int) := ⟨0, 13, RX0, TX0, tyX0, rfl, rfl, zq_in0, by decide, zl_D_15, tyX0_ok, nmX0, rfl, by decide +kernel, rfl⟩
theorem zh_D_18 : zi_F "ThirdSon$Duchy" 18 10 5 (.array .int) := ⟨0, 13, RX0, TX0, tyX0, rfl, rfl, zq_in0, by decide, zl_D_18, tyX0_ok, nmX0, rfl, by decide +kernel, rfl⟩
theorem zh_D_21 : zi_F "ThirdSon$Duchy" 21 10 6 (.array .int) := ⟨0, 13, RX0, TX0, tyX0, rfl, rfl, zq_in0, by decide, zl_D_21, tyX0_ok, nmX0, rfl, by decide +kernel, rfl⟩
theorem zh_D_24 : zi_F "ThirdSon$Duchy" 24 10 7 (.array .int) := ⟨0, 13, RX0, TX0, tyX0, rfl, rfl, zq_in0, by decide, zl_D_24, tyX0_ok, nmX0, rfl, by decide +kernel, rfl⟩
theorem zh_D_27 : zi_F "ThirdSon$Duchy" 27 10 8 (.array .int) := ⟨0, 13, RX0, TX0, tyX0, rfl, rfl, zq_in0, by decide, zl_D_27, tyX0_ok, nmX0, rfl, by decide +kernel, rfl⟩
theorem zh_D_30 : zi_F "ThirdSon$Duchy" 30 10 9 (.array .int) := ⟨0, 13, RX0, TX0, tyX0, rfl, rfl, zq_in0, by decide, zl_D_30, tyX0_ok, nmX0, rfl, by decide +kernel, rfl⟩
theorem zh_D_33 : zi_F "ThirdSon$Duchy" 33 10 10 (.array .int) := ⟨0, 13, RX0, TX0, tyX0, rfl, rfl, zq_in0, by decide, zl_D_33, tyX0_ok, nmX0, rfl, by decide +kernel, rfl⟩
theorem zh_D_36 : zi_F "ThirdSon$Duchy" 36 10 11 (.array .int) := ⟨0, 13, RX0, TX0, tyX0, rfl, rfl, zq_in0, by decide, zl_D_36, tyX0_ok, nmX0, rfl, by decide +kernel, rfl⟩
theorem zh_D_39 : zi_F "ThirdSon$Duchy" 39 10 12 (.array .int) := ⟨0, 13, RX0, TX0, tyX0, rfl, rfl, zq_in0, by decide, zl_D_39, tyX0_ok, nmX0, rfl, by decide +kernel, rfl⟩
theorem zh_S_12 : zi_F "ThirdSon" 12 0 0 (.object "ThirdSon$Tape") := ⟨4, 15, RX4, TX4, tyX4, rfl, rfl, zq_in4, by decide, zl_S_12, tyX4_ok, nmX4, rfl, by decide +kernel, rfl⟩
theorem zh_S_19 : zi_F "ThirdSon" 19 0 1 (.object "ThirdSon$Teller") := ⟨4, 15, RX4, TX4, tyX4, rfl, rfl, zq_in4, by decide, zl_S_19, tyX4_ok, nmX4, rfl, by decide +kernel, rfl⟩
theorem zh_S_26 : zi_F "ThirdSon" 26 0 2 (.object "ThirdSon$Sheets") := ⟨4, 15, RX4, TX4, tyX4, rfl, rfl, zq_in4, by decide, zl_S_26, tyX4_ok, nmX4, rfl, by decide +kernel, rfl⟩
theorem zh_S_33 : zi_F "ThirdSon" 33 0 3 (.object "ThirdSon$Duchy") := ⟨4, 15, RX4, TX4, tyX4, rfl, rfl, zq_in4, by decide, zl_S_33, tyX4_ok, nmX4, rfl, by decide +kernel, rfl⟩
theorem zh_S_37 : zi_F "ThirdSon" 37 0 4 (.object "ThirdSon$Duchy") := ⟨4, 15, RX4, TX4, tyX4, rfl, rfl, zq_in4, by decide, zl_S_37, tyX4_ok, nmX4, rfl, by decide +kernel, rfl⟩
theorem zh_S_40 : zi_F "ThirdSon" 40 0 5 (.object "ThirdSon$Duchy") := ⟨4, 15, RX4, TX4, tyX4, rfl, rfl, zq_in4, by decide, zl_S_40, tyX4_ok, nmX4, rfl, by decide +kernel, rfl⟩
theorem zh_S_43 : zi_F "ThirdSon" 43 0 6 (.array .int) := ⟨4, 15, RX4, TX4, tyX4, rfl, rfl, zq_in4, by decide, zl_S_43, tyX4_ok, nmX4, rfl, by decide +kernel, rfl⟩
theorem zh_S_47 : zi_F "ThirdSon" 47 0 7 (.array .int) := ⟨4, 15, RX4, TX4, tyX4, rfl, rfl, zq_in4, by decide, zl_S_47, tyX4_ok, nmX4, rfl, by decide +kernel, rfl⟩
theorem zh_S_50 : zi_F "ThirdSon" 50 0 8 (.array .int) := ⟨4, 15, RX4, TX4, tyX4, rfl, rfl, zq_in4, by decide, zl_S_50, tyX4_ok, nmX4, rfl, by decide +kernel, rfl⟩
theorem zh_M_7 : zi_F "ThirdSonModel" 7 30 0 (.array .int) := ⟨5, 34, RX5, TX5, tyX5, rfl, rfl, zq_in5, by decide, zl_M_7, tyX5_ok, nmX5, rfl, by decide +kernel, rfl⟩
theorem zh_M_13 : zi_F "ThirdSonModel" 13 30 1 (.array .int) := ⟨5, 34, RX5, TX5, tyX5, rfl, rfl, zq_in5, by decide, zl_M_13, tyX5_ok, nmX5, rfl, by decide +kernel, rfl⟩
theorem zh_M_16 : zi_F "ThirdSonModel" 16 30 2 (.array .int) := ⟨5, 34, RX5, TX5, tyX5, rfl, rfl, zq_in5, by decide, zl_M_16, tyX5_ok, nmX5, rfl, by decide +kernel, rfl⟩
theorem zh_M_19 : zi_F "ThirdSonModel" 19 30 5 (.array .int) := ⟨5, 34, RX5, TX5, tyX5, rfl, rfl, zq_in5, by decide, zl_M_19, tyX5_ok, nmX5, rfl, by decide +kernel, rfl⟩
theorem zh_M_22 : zi_F "ThirdSonModel" 22 30 6 (.array .int) := ⟨5, 34, RX5, TX5, tyX5, rfl, rfl, zq_in5, by decide, zl_M_22, tyX5_ok, nmX5, rfl, by decide +kernel, rfl⟩
theorem zh_M_25 : zi_F "ThirdSonModel" 25 30 7 (.array .int) := ⟨5, 34, RX5, TX5, tyX5, rfl, rfl, zq_in5, by decide, zl_M_25, tyX5_ok, nmX5, rfl, by decide +kernel, rfl⟩
theorem zh_M_28 : zi_F "ThirdSonModel" 28 30 12 (.array .int) := ⟨5, 34, RX5, TX5, tyX5, rfl, rfl, zq_in5, by decide, zl_M_28, tyX5_ok, nmX5, rfl, by decide +kernel, rfl⟩
theorem zh_M_31 : zi_F "ThirdSonModel" 31 30 21 (.array .int) := ⟨5, 34, RX5, TX5, tyX5, rfl, rfl, zq_in5, by decide, zl_M_31, tyX5_ok, nmX5, rfl, by decide +kernel, rfl⟩
theorem zh_M_34 : zi_F "ThirdSonModel" 34 30 22 (.array .int) := ⟨5, 34, RX5, TX5, tyX5, rfl, rfl, zq_in5, by decide, zl_M_34, tyX5_ok, nmX5, rfl, by decide +kernel, rfl⟩
theorem zh_M_37 : zi_F "ThirdSonModel" 37 30 23 (.array .int) := ⟨5, 34, RX5, TX5, tyX5, rfl, rfl, zq_in5, by decide, zl_M_37, tyX5_ok, nmX5, rfl, by decide +kernel, rfl⟩
theorem zh_M_40 : zi_F "ThirdSonModel" 40 30 24 (.array .int) := ⟨5, 34, RX5, TX5, tyX5, rfl, rfl, zq_in5, by decide, zl_M_40, tyX5_ok, nmX5, rfl, by decide +kernel, rfl⟩
theorem zh_M_43 : zi_F "ThirdSonModel" 43 30 26 (.array .long) := ⟨5, 34, RX5, TX5, tyX5, rfl, rfl, zq_in5, by decide, zl_M_43, tyX5_ok, nmX5, rfl, by decide +kernel, rfl⟩
theorem zh_M_47 : zi_F "ThirdSonModel" 47 30 27 (.array .int) := ⟨5, 34, RX5, TX5, tyX5, rfl, rfl, zq_in5, by decide, zl_M_47, tyX5_ok, nmX5, rfl, by decide +kernel, rfl⟩
theorem zh_M_50 : zi_F "ThirdSonModel" 50 30 29 (.array .boolean) := ⟨5, 34, RX5, TX5, tyX5, rfl, rfl, zq_in5, by decide, zl_M_50, tyX5_ok, nmX5, rfl, by decide +kernel, rfl⟩
theorem zh_M_54 : zi_F "ThirdSonModel" 54 30 30 (.array .int) := ⟨5, 34, RX5, TX5, tyX5, rfl, rfl, zq_in5, by decide, zl_M_54, tyX5_ok, nmX5, rfl, by decide +kernel, rfl⟩
theorem zh_M_57 : zi_F "ThirdSonModel" 57 30 31 (.array .int) := ⟨5, 34, RX5, TX5, tyX5, rfl, rfl, zq_in5, by decide, zl_M_57, tyX5_ok, nmX5, rfl, by decide +kernel, rfl⟩
theorem zh_M_60 : zi_F "ThirdSonModel" 60 30 32 (.array .int) := ⟨5, 34, RX5, TX5, tyX5, rfl, rfl, zq_in5, by decide, zl_M_60, tyX5_ok, nmX5, rfl, by decide +kernel, rfl⟩
theorem dz_D_init_0 : decode zm_D_init.2.1 0 = .ok (.aload_n 0, 1) := by decide +kernel
theorem dz_D_init_1 : decode zm_D_init.2.1 1 = .ok (.invokespecial 3, 3) := by decide +kernel
theorem dz_D_init_4 : decode zm_D_init.2.1 4 = .ok (.aload_n 0, 1) := by decide +kernel
theorem dz_D_init_5 : decode zm_D_init.2.1 5 = .ok (.bipush 6, 2) := by decide +kernel
theorem dz_D_init_7 : decode zm_D_init.2.1 7 = .ok (.newarray .int, 2) := by decide +kernel
theorem dz_D_init_9 : decode zm_D_init.2.1 9 = .ok (.putfield 9, 3) := by decide +kernel
theorem dz_D_init_12 : decode zm_D_init.2.1 12 = .ok (.aload_n 0, 1) := by decide +kernel
theorem dz_D_init_13 : decode zm_D_init.2.1 13 = .ok (.bipush 6, 2) := by decide +kernel
theorem dz_D_init_15 : decode zm_D_init.2.1 15 = .ok (.newarray .int, 2) := by decide +kernel
theorem dz_D_init_17 : decode zm_D_init.2.1 17 = .ok (.putfield 15, 3) := by decide +kernel
theorem dz_D_init_20 : decode zm_D_init.2.1 20 = .ok (.aload_n 0, 1) := by decide +kernel
theorem dz_D_init_21 : decode zm_D_init.2.1 21 = .ok (.bipush 6, 2) := by decide +kernel
theorem dz_D_init_23 : decode zm_D_init.2.1 23 = .ok (.newarray .int, 2) := by decide +kernel
theorem dz_D_init_25 : decode zm_D_init.2.1 25 = .ok (.putfield 18, 3) := by decide +kernel
theorem dz_D_init_28 : decode zm_D_init.2.1 28 = .ok (.aload_n 0, 1) := by decide +kernel
theorem dz_D_init_29 : decode zm_D_init.2.1 29 = .ok (.bipush 6, 2) := by decide +kernel
theorem dz_D_init_31 : decode zm_D_init.2.1 31 = .ok (.newarray .int, 2) := by decide +kernel
theorem dz_D_init_33 : decode zm_D_init.2.1 33 = .ok (.putfield 21, 3) := by decide +kernel
theorem dz_D_init_36 : decode zm_D_init.2.1 36 = .ok (.aload_n 0, 1) := by decide +kernel
theorem dz_D_init_37 : decode zm_D_init.2.1 37 = .ok (.iconst 5, 1) := by decide +kernel
theorem dz_D_init_38 : decode zm_D_init.2.1 38 = .ok (.newarray .int, 2) := by decide +kernel
theorem dz_D_init_40 : decode zm_D_init.2.1 40 = .ok (.putfield 24, 3) := by decide +kernel
theorem dz_D_init_43 : decode zm_D_init.2.1 43 = .ok (.aload_n 0, 1) := by decide +kernel
theorem dz_D_init_44 : decode zm_D_init.2.1 44 = .ok (.iconst 5, 1) := by decide +kernel
theorem dz_D_init_45 : decode zm_D_init.2.1 45 = .ok (.newarray .int, 2) := by decide +kernel
theorem dz_D_init_47 : decode zm_D_init.2.1 47 = .ok (.putfield 27, 3) := by decide +kernel
theorem dz_D_init_50 : decode zm_D_init.2.1 50 = .ok (.aload_n 0, 1) := by decide +kernel
theorem dz_D_init_51 : decode zm_D_init.2.1 51 = .ok (.iconst 5, 1) := by decide +kernel
theorem dz_D_init_52 : decode zm_D_init.2.1 52 = .ok (.newarray .int, 2) := by decide +kernel
theorem dz_D_init_54 : decode zm_D_init.2.1 54 = .ok (.putfield 30, 3) := by decide +kernel
theorem dz_D_init_57 : decode zm_D_init.2.1 57 = .ok (.aload_n 0, 1) := by decide +kernel
theorem dz_D_init_58 : decode zm_D_init.2.1 58 = .ok (.iconst 5, 1) := by decide +kernel
theorem dz_D_init_59 : decode zm_D_init.2.1 59 = .ok (.newarray .int, 2) := by decide +kernel
theorem dz_D_init_61 : decode zm_D_init.2.1 61 = .ok (.putfield 33, 3) := by decide +kernel
theorem dz_D_init_64 : decode zm_D_init.2.1 64 = .ok (.aload_n 0, 1) := by decide +kernel
theorem dz_D_init_65 : decode zm_D_init.2.1 65 = .ok (.iconst 5, 1) := by decide +kernel
theorem dz_D_init_66 : decode zm_D_init.2.1 66 = .ok (.newarray .int, 2) := by decide +kernel
theorem dz_D_init_68 : decode zm_D_init.2.1 68 = .ok (.putfield 36, 3) := by decide +kernel
theorem dz_D_init_71 : decode zm_D_init.2.1 71 = .ok (.aload_n 0, 1) := by decide +kernel
theorem dz_D_init_72 : decode zm_D_init.2.1 72 = .ok (.iconst 5, 1) := by decide +kernel
theorem dz_D_init_73 : decode zm_D_init.2.1 73 = .ok (.newarray .int, 2) := by decide +kernel
theorem dz_D_init_75 : decode zm_D_init.2.1 75 = .ok (.putfield 39, 3) := by decide +kernel
theorem dz_D_init_78 : decode zm_D_init.2.1 78 = .ok (.aload_n 0, 1) := by decide +kernel
theorem dz_D_init_79 : decode zm_D_init.2.1 79 = .ok (.invokevirtual 42, 3) := by decide +kernel
theorem dz_D_init_82 : decode zm_D_init.2.1 82 = .ok (.return_, 1) := by decide +kernel
theorem dz_H_init_0 : decode zm_H_init.2.1 0 = .ok (.aload_n 0, 1) := by decide +kernel
theorem dz_H_init_1 : decode zm_H_init.2.1 1 = .ok (.invokespecial 3, 3) := by decide +kernel
theorem dz_H_init_4 : decode zm_H_init.2.1 4 = .ok (.aload_n 0, 1) := by decide +kernel
theorem dz_H_init_5 : decode zm_H_init.2.1 5 = .ok (.iconst 4, 1) := by decide +kernel
theorem dz_H_init_6 : decode zm_H_init.2.1 6 = .ok (.bipush 40, 2) := by decide +kernel
theorem dz_H_init_8 : decode zm_H_init.2.1 8 = .ok (.multianewarray 11 2, 4) := by decide +kernel
theorem dz_H_init_12 : decode zm_H_init.2.1 12 = .ok (.putfield 13, 3) := by decide +kernel
theorem dz_H_init_15 : decode zm_H_init.2.1 15 = .ok (.aload_n 0, 1) := by decide +kernel
theorem dz_H_init_16 : decode zm_H_init.2.1 16 = .ok (.iconst 4, 1) := by decide +kernel
theorem dz_H_init_17 : decode zm_H_init.2.1 17 = .ok (.newarray .int, 2) := by decide +kernel
theorem dz_H_init_19 : decode zm_H_init.2.1 19 = .ok (.dup, 1) := by decide +kernel
theorem dz_H_init_20 : decode zm_H_init.2.1 20 = .ok (.iconst 0, 1) := by decide +kernel
theorem dz_H_init_21 : decode zm_H_init.2.1 21 = .ok (.bipush (-4), 2) := by decide +kernel
theorem dz_H_init_23 : decode zm_H_init.2.1 23 = .ok (.iastore, 1) := by decide +kernel
theorem dz_H_init_24 : decode zm_H_init.2.1 24 = .ok (.dup, 1) := by decide +kernel
theorem dz_H_init_25 : decode zm_H_init.2.1 25 = .ok (.iconst 1, 1) := by decide +kernel
theorem dz_H_init_26 : decode zm_H_init.2.1 26 = .ok (.bipush (-4), 2) := by decide +kernel
theorem dz_H_init_28 : decode zm_H_init.2.1 28 = .ok (.iastore, 1) := by decide +kernel
theorem dz_H_init_29 : decode zm_H_init.2.1 29 = .ok (.dup, 1) := by decide +kernel
theorem dz_H_init_30 : decode zm_H_init.2.1 30 = .ok (.iconst 2, 1) := by decide +kernel
theorem dz_H_init_31 : decode zm_H_init.2.1 31 = .ok (.bipush (-4), 2) := by decide +kernel
theorem dz_H_init_33 : decode zm_H_init.2.1 33 = .ok (.iastore, 1) := by decide +kernel
theorem dz_H_init_34 : decode zm_H_init.2.1 34 = .ok (.dup, 1) := by decide +kernel
theorem dz_H_init_35 : decode zm_H_init.2.1 35 = .ok (.iconst 3, 1) := by decide +kernel
theorem dz_H_init_36 : decode zm_H_init.2.1 36 = .ok (.bipush (-4), 2) := by decide +kernel
theorem dz_H_init_38 : decode zm_H_init.2.1 38 = .ok (.iastore, 1) := by decide +kernel
theorem dz_H_init_39 : decode zm_H_init.2.1 39 = .ok (.putfield 16, 3) := by decide +kernel
theorem dz_H_init_42 : decode zm_H_init.2.1 42 = .ok (.aload_n 0, 1) := by decide +kernel
theorem dz_H_init_43 : decode zm_H_init.2.1 43 = .ok (.iconst 4, 1) := by decide +kernel
theorem dz_H_init_44 : decode zm_H_init.2.1 44 = .ok (.newarray .int, 2) := by decide +kernel
theorem dz_H_init_46 : decode zm_H_init.2.1 46 = .ok (.putfield 20, 3) := by decide +kernel
theorem dz_H_init_49 : decode zm_H_init.2.1 49 = .ok (.return_, 1) := by decide +kernel
theorem dz_P_init_0 : decode zm_P_init.2.1 0 = .ok (.aload_n 0, 1) := by decide +kernel
theorem dz_P_init_1 : decode zm_P_init.2.1 1 = .ok (.invokespecial 1, 3) := by decide +kernel
theorem dz_P_init_4 : decode zm_P_init.2.1 4 = .ok (.aload_n 0, 1) := by decide +kernel
theorem dz_P_init_5 : decode zm_P_init.2.1 5 = .ok (.sipush 160, 3) := by decide +kernel
theorem dz_P_init_8 : decode zm_P_init.2.1 8 = .ok (.newarray .byte, 2) := by decide +kernel
theorem dz_P_init_10 : decode zm_P_init.2.1 10 = .ok (.putfield 9, 3) := by decide +kernel
theorem dz_P_init_13 : decode zm_P_init.2.1 13 = .ok (.return_, 1) := by decide +kernel
theorem dz_E_init_0 : decode zm_E_init.2.1 0 = .ok (.aload_n 0, 1) := by decide +kernel
theorem dz_E_init_1 : decode zm_E_init.2.1 1 = .ok (.invokespecial 3, 3) := by decide +kernel
theorem dz_E_init_4 : decode zm_E_init.2.1 4 = .ok (.return_, 1) := by decide +kernel
theorem dz_S_init_0 : decode zm_S_init.2.1 0 = .ok (.aload_n 0, 1) := by decide +kernel
theorem dz_S_init_1 : decode zm_S_init.2.1 1 = .ok (.invokespecial 3, 3) := by decide +kernel
theorem dz_S_init_4 : decode zm_S_init.2.1 4 = .ok (.aload_n 0, 1) := by decide +kernel
theorem dz_S_init_5 : decode zm_S_init.2.1 5 = .ok (.new 9, 3) := by decide +kernel
theorem dz_S_init_8 : decode zm_S_init.2.1 8 = .ok (.dup, 1) := by decide +kernel
theorem dz_S_init_9 : decode zm_S_init.2.1 9 = .ok (.invokespecial 11, 3) := by decide +kernel
theorem dz_S_init_12 : decode zm_S_init.2.1 12 = .ok (.putfield 12, 3) := by decide +kernel
theorem dz_S_init_15 : decode zm_S_init.2.1 15 = .ok (.aload_n 0, 1) := by decide +kernel
theorem dz_S_init_16 : decode zm_S_init.2.1 16 = .ok (.new 16, 3) := by decide +kernel
theorem dz_S_init_19 : decode zm_S_init.2.1 19 = .ok (.dup, 1) := by decide +kernel
theorem dz_S_init_20 : decode zm_S_init.2.1 20 = .ok (.invokespecial 18, 3) := by decide +kernel
theorem dz_S_init_23 : decode zm_S_init.2.1 23 = .ok (.putfield 19, 3) := by decide +kernel
theorem dz_S_init_26 : decode zm_S_init.2.1 26 = .ok (.aload_n 0, 1) := by decide +kernel
theorem dz_S_init_27 : decode zm_S_init.2.1 27 = .ok (.new 23, 3) := by decide +kernel
theorem dz_S_init_30 : decode zm_S_init.2.1 30 = .ok (.dup, 1) := by decide +kernel
theorem dz_S_init_31 : decode zm_S_init.2.1 31 = .ok (.invokespecial 25, 3) := by decide +kernel
theorem dz_S_init_34 : decode zm_S_init.2.1 34 = .ok (.putfield 26, 3) := by decide +kernel
theorem dz_S_init_37 : decode zm_S_init.2.1 37 = .ok (.aload_n 0, 1) := by decide +kernel
theorem dz_S_init_38 : decode zm_S_init.2.1 38 = .ok (.new 30, 3) := by decide +kernel
theorem dz_S_init_41 : decode zm_S_init.2.1 41 = .ok (.dup, 1) := by decide +kernel
theorem dz_S_init_42 : decode zm_S_init.2.1 42 = .ok (.invokespecial 32, 3) := by decide +kernel
theorem dz_S_init_45 : decode zm_S_init.2.1 45 = .ok (.putfield 33, 3) := by decide +kernel
theorem dz_S_init_48 : decode zm_S_init.2.1 48 = .ok (.aload_n 0, 1) := by decide +kernel
theorem dz_S_init_49 : decode zm_S_init.2.1 49 = .ok (.new 30, 3) := by decide +kernel
theorem dz_S_init_52 : decode zm_S_init.2.1 52 = .ok (.dup, 1) := by decide +kernel
theorem dz_S_init_53 : decode zm_S_init.2.1 53 = .ok (.invokespecial 32, 3) := by decide +kernel
theorem dz_S_init_56 : decode zm_S_init.2.1 56 = .ok (.putfield 37, 3) := by decide +kernel
theorem dz_S_init_59 : decode zm_S_init.2.1 59 = .ok (.aload_n 0, 1) := by decide +kernel
theorem dz_S_init_60 : decode zm_S_init.2.1 60 = .ok (.new 30, 3) := by decide +kernel
theorem dz_S_init_63 : decode zm_S_init.2.1 63 = .ok (.dup, 1) := by decide +kernel
theorem dz_S_init_64 : decode zm_S_init.2.1 64 = .ok (.invokespecial 32, 3) := by decide +kernel
theorem dz_S_init_67 : decode zm_S_init.2.1 67 = .ok (.putfield 40, 3) := by decide +kernel
theorem dz_S_init_70 : decode zm_S_init.2.1 70 = .ok (.aload_n 0, 1) := by decide +kernel
theorem dz_S_init_71 : decode zm_S_init.2.1 71 = .ok (.iconst 3, 1) := by decide +kernel
theorem dz_S_init_72 : decode zm_S_init.2.1 72 = .ok (.newarray .int, 2) := by decide +kernel
theorem dz_S_init_74 : decode zm_S_init.2.1 74 = .ok (.putfield 43, 3) := by decide +kernel
theorem dz_S_init_77 : decode zm_S_init.2.1 77 = .ok (.aload_n 0, 1) := by decide +kernel
theorem dz_S_init_78 : decode zm_S_init.2.1 78 = .ok (.bipush 6, 2) := by decide +kernel
theorem dz_S_init_80 : decode zm_S_init.2.1 80 = .ok (.newarray .int, 2) := by decide +kernel
theorem dz_S_init_82 : decode zm_S_init.2.1 82 = .ok (.putfield 47, 3) := by decide +kernel
theorem dz_S_init_85 : decode zm_S_init.2.1 85 = .ok (.aload_n 0, 1) := by decide +kernel
theorem dz_S_init_86 : decode zm_S_init.2.1 86 = .ok (.bipush 6, 2) := by decide +kernel
theorem dz_S_init_88 : decode zm_S_init.2.1 88 = .ok (.newarray .int, 2) := by decide +kernel
theorem dz_S_init_90 : decode zm_S_init.2.1 90 = .ok (.putfield 50, 3) := by decide +kernel
theorem dz_S_init_93 : decode zm_S_init.2.1 93 = .ok (.aload_n 0, 1) := by decide +kernel
theorem dz_S_init_94 : decode zm_S_init.2.1 94 = .ok (.new 30, 3) := by decide +kernel
theorem dz_S_init_97 : decode zm_S_init.2.1 97 = .ok (.dup, 1) := by decide +kernel
theorem dz_S_init_98 : decode zm_S_init.2.1 98 = .ok (.invokespecial 32, 3) := by decide +kernel
theorem dz_S_init_101 : decode zm_S_init.2.1 101 = .ok (.putfield 53, 3) := by decide +kernel
theorem dz_S_init_104 : decode zm_S_init.2.1 104 = .ok (.aload_n 0, 1) := by decide +kernel
theorem dz_S_init_105 : decode zm_S_init.2.1 105 = .ok (.new 30, 3) := by decide +kernel
theorem dz_S_init_108 : decode zm_S_init.2.1 108 = .ok (.dup, 1) := by decide +kernel
theorem dz_S_init_109 : decode zm_S_init.2.1 109 = .ok (.invokespecial 32, 3) := by decide +kernel
theorem dz_S_init_112 : decode zm_S_init.2.1 112 = .ok (.putfield 56, 3) := by decide +kernel
theorem dz_S_init_115 : decode zm_S_init.2.1 115 = .ok (.return_, 1) := by decide +kernel
theorem dz_M_init_0 : decode zm_M_init.2.1 0 = .ok (.aload_n 0, 1) := by decide +kernel
theorem dz_M_init_1 : decode zm_M_init.2.1 1 = .ok (.invokespecial 1, 3) := by decide +kernel
theorem dz_M_init_4 : decode zm_M_init.2.1 4 = .ok (.aload_n 0, 1) := by decide +kernel
theorem dz_M_init_5 : decode zm_M_init.2.1 5 = .ok (.bipush 112, 2) := by decide +kernel
theorem dz_M_init_7 : decode zm_M_init.2.1 7 = .ok (.newarray .int, 2) := by decide +kernel
theorem dz_M_init_9 : decode zm_M_init.2.1 9 = .ok (.putfield 7, 3) := by decide +kernel
theorem dz_M_init_12 : decode zm_M_init.2.1 12 = .ok (.aload_n 0, 1) := by decide +kernel
theorem dz_M_init_13 : decode zm_M_init.2.1 13 = .ok (.bipush 6, 2) := by decide +kernel
theorem dz_M_init_15 : decode zm_M_init.2.1 15 = .ok (.newarray .int, 2) := by decide +kernel
theorem dz_M_init_17 : decode zm_M_init.2.1 17 = .ok (.putfield 13, 3) := by decide +kernel
theorem dz_M_init_20 : decode zm_M_init.2.1 20 = .ok (.aload_n 0, 1) := by decide +kernel
theorem dz_M_init_21 : decode zm_M_init.2.1 21 = .ok (.bipush 15, 2) := by decide +kernel
theorem dz_M_init_23 : decode zm_M_init.2.1 23 = .ok (.newarray .int, 2) := by decide +kernel
theorem dz_M_init_25 : decode zm_M_init.2.1 25 = .ok (.putfield 16, 3) := by decide +kernel
theorem dz_M_init_28 : decode zm_M_init.2.1 28 = .ok (.aload_n 0, 1) := by decide +kernel
theorem dz_M_init_29 : decode zm_M_init.2.1 29 = .ok (.bipush 28, 2) := by decide +kernel
theorem dz_M_init_31 : decode zm_M_init.2.1 31 = .ok (.newarray .int, 2) := by decide +kernel
theorem dz_M_init_33 : decode zm_M_init.2.1 33 = .ok (.putfield 19, 3) := by decide +kernel
theorem dz_M_init_36 : decode zm_M_init.2.1 36 = .ok (.aload_n 0, 1) := by decide +kernel
theorem dz_M_init_37 : decode zm_M_init.2.1 37 = .ok (.bipush 6, 2) := by decide +kernel
theorem dz_M_init_39 : decode zm_M_init.2.1 39 = .ok (.newarray .int, 2) := by decide +kernel
theorem dz_M_init_41 : decode zm_M_init.2.1 41 = .ok (.putfield 22, 3) := by decide +kernel
theorem dz_M_init_44 : decode zm_M_init.2.1 44 = .ok (.aload_n 0, 1) := by decide +kernel
theorem dz_M_init_45 : decode zm_M_init.2.1 45 = .ok (.bipush 15, 2) := by decide +kernel
theorem dz_M_init_47 : decode zm_M_init.2.1 47 = .ok (.newarray .int, 2) := by decide +kernel
theorem dz_M_init_49 : decode zm_M_init.2.1 49 = .ok (.putfield 25, 3) := by decide +kernel
theorem dz_M_init_52 : decode zm_M_init.2.1 52 = .ok (.aload_n 0, 1) := by decide +kernel
theorem dz_M_init_53 : decode zm_M_init.2.1 53 = .ok (.sipush 160, 3) := by decide +kernel
theorem dz_M_init_56 : decode zm_M_init.2.1 56 = .ok (.newarray .int, 2) := by decide +kernel
theorem dz_M_init_58 : decode zm_M_init.2.1 58 = .ok (.putfield 28, 3) := by decide +kernel
theorem dz_M_init_61 : decode zm_M_init.2.1 61 = .ok (.aload_n 0, 1) := by decide +kernel
theorem dz_M_init_62 : decode zm_M_init.2.1 62 = .ok (.bipush 14, 2) := by decide +kernel
theorem dz_M_init_64 : decode zm_M_init.2.1 64 = .ok (.newarray .int, 2) := by decide +kernel
theorem dz_M_init_66 : decode zm_M_init.2.1 66 = .ok (.dup, 1) := by decide +kernel
theorem dz_M_init_67 : decode zm_M_init.2.1 67 = .ok (.iconst 0, 1) := by decide +kernel
theorem dz_M_init_68 : decode zm_M_init.2.1 68 = .ok (.iconst 0, 1) := by decide +kernel
theorem dz_M_init_69 : decode zm_M_init.2.1 69 = .ok (.iastore, 1) := by decide +kernel
theorem dz_M_init_70 : decode zm_M_init.2.1 70 = .ok (.dup, 1) := by decide +kernel
theorem dz_M_init_71 : decode zm_M_init.2.1 71 = .ok (.iconst 1, 1) := by decide +kernel
theorem dz_M_init_72 : decode zm_M_init.2.1 72 = .ok (.iconst 3, 1) := by decide +kernel
theorem dz_M_init_73 : decode zm_M_init.2.1 73 = .ok (.iastore, 1) := by decide +kernel
theorem dz_M_init_74 : decode zm_M_init.2.1 74 = .ok (.dup, 1) := by decide +kernel
theorem dz_M_init_75 : decode zm_M_init.2.1 75 = .ok (.iconst 2, 1) := by decide +kernel
theorem dz_M_init_76 : decode zm_M_init.2.1 76 = .ok (.bipush 7, 2) := by decide +kernel
theorem dz_M_init_78 : decode zm_M_init.2.1 78 = .ok (.iastore, 1) := by decide +kernel
theorem dz_M_init_79 : decode zm_M_init.2.1 79 = .ok (.dup, 1) := by decide +kernel
theorem dz_M_init_80 : decode zm_M_init.2.1 80 = .ok (.iconst 3, 1) := by decide +kernel
theorem dz_M_init_81 : decode zm_M_init.2.1 81 = .ok (.bipush 11, 2) := by decide +kernel
theorem dz_M_init_83 : decode zm_M_init.2.1 83 = .ok (.iastore, 1) := by decide +kernel
theorem dz_M_init_84 : decode zm_M_init.2.1 84 = .ok (.dup, 1) := by decide +kernel
theorem dz_M_init_85 : decode zm_M_init.2.1 85 = .ok (.iconst 4, 1) := by decide +kernel
theorem dz_M_init_86 : decode zm_M_init.2.1 86 = .ok (.bipush 15, 2) := by decide +kernel
theorem dz_M_init_88 : decode zm_M_init.2.1 88 = .ok (.iastore, 1) := by decide +kernel
theorem dz_M_init_89 : decode zm_M_init.2.1 89 = .ok (.dup, 1) := by decide +kernel
theorem dz_M_init_90 : decode zm_M_init.2.1 90 = .ok (.iconst 5, 1) := by decide +kernel
theorem dz_M_init_91 : decode zm_M_init.2.1 91 = .ok (.bipush 19, 2) := by decide +kernel
theorem dz_M_init_93 : decode zm_M_init.2.1 93 = .ok (.iastore, 1) := by decide +kernel
theorem dz_M_init_94 : decode zm_M_init.2.1 94 = .ok (.dup, 1) := by decide +kernel
theorem dz_M_init_95 : decode zm_M_init.2.1 95 = .ok (.bipush 6, 2) := by decide +kernel
theorem dz_M_init_97 : decode zm_M_init.2.1 97 = .ok (.bipush 22, 2) := by decide +kernel
theorem dz_M_init_99 : decode zm_M_init.2.1 99 = .ok (.iastore, 1) := by decide +kernel
theorem dz_M_init_100 : decode zm_M_init.2.1 100 = .ok (.dup, 1) := by decide +kernel
theorem dz_M_init_101 : decode zm_M_init.2.1 101 = .ok (.bipush 7, 2) := by decide +kernel
theorem dz_M_init_103 : decode zm_M_init.2.1 103 = .ok (.bipush 26, 2) := by decide +kernel
theorem dz_M_init_105 : decode zm_M_init.2.1 105 = .ok (.iastore, 1) := by decide +kernel
theorem dz_M_init_106 : decode zm_M_init.2.1 106 = .ok (.dup, 1) := by decide +kernel
theorem dz_M_init_107 : decode zm_M_init.2.1 107 = .ok (.bipush 8, 2) := by decide +kernel
theorem dz_M_init_109 : decode zm_M_init.2.1 109 = .ok (.bipush 31, 2) := by decide +kernel
theorem dz_M_init_111 : decode zm_M_init.2.1 111 = .ok (.iastore, 1) := by decide +kernel
theorem dz_M_init_112 : decode zm_M_init.2.1 112 = .ok (.dup, 1) := by decide +kernel
theorem dz_M_init_113 : decode zm_M_init.2.1 113 = .ok (.bipush 9, 2) := by decide +kernel
theorem dz_M_init_115 : decode zm_M_init.2.1 115 = .ok (.bipush 34, 2) := by decide +kernel
theorem dz_M_init_117 : decode zm_M_init.2.1 117 = .ok (.iastore, 1) := by decide +kernel
theorem dz_M_init_118 : decode zm_M_init.2.1 118 = .ok (.dup, 1) := by decide +kernel
theorem dz_M_init_119 : decode zm_M_init.2.1 119 = .ok (.bipush 10, 2) := by decide +kernel
theorem dz_M_init_121 : decode zm_M_init.2.1 121 = .ok (.bipush 38, 2) := by decide +kernel
theorem dz_M_init_123 : decode zm_M_init.2.1 123 = .ok (.iastore, 1) := by decide +kernel
theorem dz_M_init_124 : decode zm_M_init.2.1 124 = .ok (.dup, 1) := by decide +kernel
theorem dz_M_init_125 : decode zm_M_init.2.1 125 = .ok (.bipush 11, 2) := by decide +kernel
theorem dz_M_init_127 : decode zm_M_init.2.1 127 = .ok (.bipush 43, 2) := by decide +kernel
theorem dz_M_init_129 : decode zm_M_init.2.1 129 = .ok (.iastore, 1) := by decide +kernel
theorem dz_M_init_130 : decode zm_M_init.2.1 130 = .ok (.dup, 1) := by decide +kernel
theorem dz_M_init_131 : decode zm_M_init.2.1 131 = .ok (.bipush 12, 2) := by decide +kernel
theorem dz_M_init_133 : decode zm_M_init.2.1 133 = .ok (.bipush 48, 2) := by decide +kernel
theorem dz_M_init_135 : decode zm_M_init.2.1 135 = .ok (.iastore, 1) := by decide +kernel
theorem dz_M_init_136 : decode zm_M_init.2.1 136 = .ok (.dup, 1) := by decide +kernel
theorem dz_M_init_137 : decode zm_M_init.2.1 137 = .ok (.bipush 13, 2) := by decide +kernel
theorem dz_M_init_139 : decode zm_M_init.2.1 139 = .ok (.bipush 52, 2) := by decide +kernel
theorem dz_M_init_141 : decode zm_M_init.2.1 141 = .ok (.iastore, 1) := by decide +kernel
theorem dz_M_init_142 : decode zm_M_init.2.1 142 = .ok (.putfield 31, 3) := by decide +kernel
theorem dz_M_init_145 : decode zm_M_init.2.1 145 = .ok (.aload_n 0, 1) := by decide +kernel
theorem dz_M_init_146 : decode zm_M_init.2.1 146 = .ok (.bipush 52, 2) := by decide +kernel
theorem dz_M_init_148 : decode zm_M_init.2.1 148 = .ok (.newarray .int, 2) := by decide +kernel
theorem dz_M_init_150 : decode zm_M_init.2.1 150 = .ok (.dup, 1) := by decide +kernel
theorem dz_M_init_151 : decode zm_M_init.2.1 151 = .ok (.iconst 0, 1) := by decide +kernel
theorem dz_M_init_152 : decode zm_M_init.2.1 152 = .ok (.bipush 111, 2) := by decide +kernel
theorem dz_M_init_154 : decode zm_M_init.2.1 154 = .ok (.iastore, 1) := by decide +kernel
theorem dz_M_init_155 : decode zm_M_init.2.1 155 = .ok (.dup, 1) := by decide +kernel
theorem dz_M_init_156 : decode zm_M_init.2.1 156 = .ok (.iconst 1, 1) := by decide +kernel
theorem dz_M_init_157 : decode zm_M_init.2.1 157 = .ok (.bipush 110, 2) := by decide +kernel
theorem dz_M_init_159 : decode zm_M_init.2.1 159 = .ok (.iastore, 1) := by decide +kernel
theorem dz_M_init_160 : decode zm_M_init.2.1 160 = .ok (.dup, 1) := by decide +kernel
theorem dz_M_init_161 : decode zm_M_init.2.1 161 = .ok (.iconst 2, 1) := by decide +kernel
theorem dz_M_init_162 : decode zm_M_init.2.1 162 = .ok (.bipush 101, 2) := by decide +kernel
theorem dz_M_init_164 : decode zm_M_init.2.1 164 = .ok (.iastore, 1) := by decide +kernel
theorem dz_M_init_165 : decode zm_M_init.2.1 165 = .ok (.dup, 1) := by decide +kernel
theorem dz_M_init_166 : decode zm_M_init.2.1 166 = .ok (.iconst 3, 1) := by decide +kernel
theorem dz_M_init_167 : decode zm_M_init.2.1 167 = .ok (.bipush 102, 2) := by decide +kernel
theorem dz_M_init_169 : decode zm_M_init.2.1 169 = .ok (.iastore, 1) := by decide +kernel
theorem dz_M_init_170 : decode zm_M_init.2.1 170 = .ok (.dup, 1) := by decide +kernel
theorem dz_M_init_171 : decode zm_M_init.2.1 171 = .ok (.iconst 4, 1) := by decide +kernel
theorem dz_M_init_172 : decode zm_M_init.2.1 172 = .ok (.bipush 97, 2) := by decide +kernel
theorem dz_M_init_174 : decode zm_M_init.2.1 174 = .ok (.iastore, 1) := by decide +kernel
theorem dz_M_init_175 : decode zm_M_init.2.1 175 = .ok (.dup, 1) := by decide +kernel
theorem dz_M_init_176 : decode zm_M_init.2.1 176 = .ok (.iconst 5, 1) := by decide +kernel
theorem dz_M_init_177 : decode zm_M_init.2.1 177 = .ok (.bipush 99, 2) := by decide +kernel
theorem dz_M_init_179 : decode zm_M_init.2.1 179 = .ok (.iastore, 1) := by decide +kernel
theorem dz_M_init_180 : decode zm_M_init.2.1 180 = .ok (.dup, 1) := by decide +kernel
theorem dz_M_init_181 : decode zm_M_init.2.1 181 = .ok (.bipush 6, 2) := by decide +kernel
theorem dz_M_init_183 : decode zm_M_init.2.1 183 = .ok (.bipush 116, 2) := by decide +kernel
theorem dz_M_init_185 : decode zm_M_init.2.1 185 = .ok (.iastore, 1) := by decide +kernel
theorem dz_M_init_186 : decode zm_M_init.2.1 186 = .ok (.dup, 1) := by decide +kernel
theorem dz_M_init_187 : decode zm_M_init.2.1 187 = .ok (.bipush 7, 2) := by decide +kernel
theorem dz_M_init_189 : decode zm_M_init.2.1 189 = .ok (.bipush 103, 2) := by decide +kernel
theorem dz_M_init_191 : decode zm_M_init.2.1 191 = .ok (.iastore, 1) := by decide +kernel
theorem dz_M_init_192 : decode zm_M_init.2.1 192 = .ok (.dup, 1) := by decide +kernel
theorem dz_M_init_193 : decode zm_M_init.2.1 193 = .ok (.bipush 8, 2) := by decide +kernel
theorem dz_M_init_195 : decode zm_M_init.2.1 195 = .ok (.bipush 111, 2) := by decide +kernel
theorem dz_M_init_197 : decode zm_M_init.2.1 197 = .ok (.iastore, 1) := by decide +kernel
theorem dz_M_init_198 : decode zm_M_init.2.1 198 = .ok (.dup, 1) := by decide +kernel
theorem dz_M_init_199 : decode zm_M_init.2.1 199 = .ok (.bipush 9, 2) := by decide +kernel
theorem dz_M_init_201 : decode zm_M_init.2.1 201 = .ok (.bipush 110, 2) := by decide +kernel
theorem dz_M_init_203 : decode zm_M_init.2.1 203 = .ok (.iastore, 1) := by decide +kernel
theorem dz_M_init_204 : decode zm_M_init.2.1 204 = .ok (.dup, 1) := by decide +kernel
theorem dz_M_init_205 : decode zm_M_init.2.1 205 = .ok (.bipush 10, 2) := by decide +kernel
theorem dz_M_init_207 : decode zm_M_init.2.1 207 = .ok (.bipush 101, 2) := by decide +kernel
theorem dz_M_init_209 : decode zm_M_init.2.1 209 = .ok (.iastore, 1) := by decide +kernel
theorem dz_M_init_210 : decode zm_M_init.2.1 210 = .ok (.dup, 1) := by decide +kernel
theorem dz_M_init_211 : decode zm_M_init.2.1 211 = .ok (.bipush 11, 2) := by decide +kernel
theorem dz_M_init_213 : decode zm_M_init.2.1 213 = .ok (.bipush 111, 2) := by decide +kernel
theorem dz_M_init_215 : decode zm_M_init.2.1 215 = .ok (.iastore, 1) := by decide +kernel
theorem dz_M_init_216 : decode zm_M_init.2.1 216 = .ok (.dup, 1) := by decide +kernel
theorem dz_M_init_217 : decode zm_M_init.2.1 217 = .ok (.bipush 12, 2) := by decide +kernel
theorem dz_M_init_219 : decode zm_M_init.2.1 219 = .ok (.bipush 100, 2) := by decide +kernel
theorem dz_M_init_221 : decode zm_M_init.2.1 221 = .ok (.iastore, 1) := by decide +kernel
theorem dz_M_init_222 : decode zm_M_init.2.1 222 = .ok (.dup, 1) := by decide +kernel
theorem dz_M_init_223 : decode zm_M_init.2.1 223 = .ok (.bipush 13, 2) := by decide +kernel
theorem dz_M_init_225 : decode zm_M_init.2.1 225 = .ok (.bipush 100, 2) := by decide +kernel
theorem dz_M_init_227 : decode zm_M_init.2.1 227 = .ok (.iastore, 1) := by decide +kernel
theorem dz_M_init_228 : decode zm_M_init.2.1 228 = .ok (.dup, 1) := by decide +kernel
theorem dz_M_init_229 : decode zm_M_init.2.1 229 = .ok (.bipush 14, 2) := by decide +kernel
theorem dz_M_init_231 : decode zm_M_init.2.1 231 = .ok (.bipush 115, 2) := by decide +kernel
theorem dz_M_init_233 : decode zm_M_init.2.1 233 = .ok (.iastore, 1) := by decide +kernel
theorem dz_M_init_234 : decode zm_M_init.2.1 234 = .ok (.dup, 1) := by decide +kernel
theorem dz_M_init_235 : decode zm_M_init.2.1 235 = .ok (.bipush 15, 2) := by decide +kernel
theorem dz_M_init_237 : decode zm_M_init.2.1 237 = .ok (.bipush 114, 2) := by decide +kernel
theorem dz_M_init_239 : decode zm_M_init.2.1 239 = .ok (.iastore, 1) := by decide +kernel
theorem dz_M_init_240 : decode zm_M_init.2.1 240 = .ok (.dup, 1) := by decide +kernel
theorem dz_M_init_241 : decode zm_M_init.2.1 241 = .ok (.bipush 16, 2) := by decide +kernel
theorem dz_M_init_243 : decode zm_M_init.2.1 243 = .ok (.bipush 117, 2) := by decide +kernel
theorem dz_M_init_245 : decode zm_M_init.2.1 245 = .ok (.iastore, 1) := by decide +kernel
theorem dz_M_init_246 : decode zm_M_init.2.1 246 = .ok (.dup, 1) := by decide +kernel
theorem dz_M_init_247 : decode zm_M_init.2.1 247 = .ok (.bipush 17, 2) := by decide +kernel
theorem dz_M_init_249 : decode zm_M_init.2.1 249 = .ok (.bipush 108, 2) := by decide +kernel
theorem dz_M_init_251 : decode zm_M_init.2.1 251 = .ok (.iastore, 1) := by decide +kernel
theorem dz_M_init_252 : decode zm_M_init.2.1 252 = .ok (.dup, 1) := by decide +kernel
theorem dz_M_init_253 : decode zm_M_init.2.1 253 = .ok (.bipush 18, 2) := by decide +kernel
theorem dz_M_init_255 : decode zm_M_init.2.1 255 = .ok (.bipush 101, 2) := by decide +kernel
theorem dz_M_init_257 : decode zm_M_init.2.1 257 = .ok (.iastore, 1) := by decide +kernel
theorem dz_M_init_258 : decode zm_M_init.2.1 258 = .ok (.dup, 1) := by decide +kernel
theorem dz_M_init_259 : decode zm_M_init.2.1 259 = .ok (.bipush 19, 2) := by decide +kernel
theorem dz_M_init_261 : decode zm_M_init.2.1 261 = .ok (.bipush 97, 2) := by decide +kernel
theorem dz_M_init_263 : decode zm_M_init.2.1 263 = .ok (.iastore, 1) := by decide +kernel
theorem dz_M_init_264 : decode zm_M_init.2.1 264 = .ok (.dup, 1) := by decide +kernel
theorem dz_M_init_265 : decode zm_M_init.2.1 265 = .ok (.bipush 20, 2) := by decide +kernel
theorem dz_M_init_267 : decode zm_M_init.2.1 267 = .ok (.bipush 110, 2) := by decide +kernel
theorem dz_M_init_269 : decode zm_M_init.2.1 269 = .ok (.iastore, 1) := by decide +kernel
theorem dz_M_init_270 : decode zm_M_init.2.1 270 = .ok (.dup, 1) := by decide +kernel
theorem dz_M_init_271 : decode zm_M_init.2.1 271 = .ok (.bipush 21, 2) := by decide +kernel
theorem dz_M_init_273 : decode zm_M_init.2.1 273 = .ok (.bipush 121, 2) := by decide +kernel
theorem dz_M_init_275 : decode zm_M_init.2.1 275 = .ok (.iastore, 1) := by decide +kernel
theorem dz_M_init_276 : decode zm_M_init.2.1 276 = .ok (.dup, 1) := by decide +kernel
theorem dz_M_init_277 : decode zm_M_init.2.1 277 = .ok (.bipush 22, 2) := by decide +kernel
theorem dz_M_init_279 : decode zm_M_init.2.1 279 = .ok (.bipush 98, 2) := by decide +kernel
theorem dz_M_init_281 : decode zm_M_init.2.1 281 = .ok (.iastore, 1) := by decide +kernel
theorem dz_M_init_282 : decode zm_M_init.2.1 282 = .ok (.dup, 1) := by decide +kernel
theorem dz_M_init_283 : decode zm_M_init.2.1 283 = .ok (.bipush 23, 2) := by decide +kernel
theorem dz_M_init_285 : decode zm_M_init.2.1 285 = .ok (.bipush 111, 2) := by decide +kernel
theorem dz_M_init_287 : decode zm_M_init.2.1 287 = .ok (.iastore, 1) := by decide +kernel
theorem dz_M_init_288 : decode zm_M_init.2.1 288 = .ok (.dup, 1) := by decide +kernel
theorem dz_M_init_289 : decode zm_M_init.2.1 289 = .ok (.bipush 24, 2) := by decide +kernel
theorem dz_M_init_291 : decode zm_M_init.2.1 291 = .ok (.bipush 114, 2) := by decide +kernel
theorem dz_M_init_293 : decode zm_M_init.2.1 293 = .ok (.iastore, 1) := by decide +kernel
theorem dz_M_init_294 : decode zm_M_init.2.1 294 = .ok (.dup, 1) := by decide +kernel
theorem dz_M_init_295 : decode zm_M_init.2.1 295 = .ok (.bipush 25, 2) := by decide +kernel
theorem dz_M_init_297 : decode zm_M_init.2.1 297 = .ok (.bipush 110, 2) := by decide +kernel
theorem dz_M_init_299 : decode zm_M_init.2.1 299 = .ok (.iastore, 1) := by decide +kernel
theorem dz_M_init_300 : decode zm_M_init.2.1 300 = .ok (.dup, 1) := by decide +kernel
theorem dz_M_init_301 : decode zm_M_init.2.1 301 = .ok (.bipush 26, 2) := by decide +kernel
theorem dz_M_init_303 : decode zm_M_init.2.1 303 = .ok (.bipush 116, 2) := by decide +kernel
theorem dz_M_init_305 : decode zm_M_init.2.1 305 = .ok (.iastore, 1) := by decide +kernel
theorem dz_M_init_306 : decode zm_M_init.2.1 306 = .ok (.dup, 1) := by decide +kernel
theorem dz_M_init_307 : decode zm_M_init.2.1 307 = .ok (.bipush 27, 2) := by decide +kernel
theorem dz_M_init_309 : decode zm_M_init.2.1 309 = .ok (.bipush 114, 2) := by decide +kernel
theorem dz_M_init_311 : decode zm_M_init.2.1 311 = .ok (.iastore, 1) := by decide +kernel
theorem dz_M_init_312 : decode zm_M_init.2.1 312 = .ok (.dup, 1) := by decide +kernel
theorem dz_M_init_313 : decode zm_M_init.2.1 313 = .ok (.bipush 28, 2) := by decide +kernel
theorem dz_M_init_315 : decode zm_M_init.2.1 315 = .ok (.bipush 105, 2) := by decide +kernel
theorem dz_M_init_317 : decode zm_M_init.2.1 317 = .ok (.iastore, 1) := by decide +kernel
theorem dz_M_init_318 : decode zm_M_init.2.1 318 = .ok (.dup, 1) := by decide +kernel
theorem dz_M_init_319 : decode zm_M_init.2.1 319 = .ok (.bipush 29, 2) := by decide +kernel
theorem dz_M_init_321 : decode zm_M_init.2.1 321 = .ok (.bipush 101, 2) := by decide +kernel
theorem dz_M_init_323 : decode zm_M_init.2.1 323 = .ok (.iastore, 1) := by decide +kernel
theorem dz_M_init_324 : decode zm_M_init.2.1 324 = .ok (.dup, 1) := by decide +kernel
theorem dz_M_init_325 : decode zm_M_init.2.1 325 = .ok (.bipush 30, 2) := by decide +kernel
theorem dz_M_init_327 : decode zm_M_init.2.1 327 = .ok (.bipush 100, 2) := by decide +kernel
theorem dz_M_init_329 : decode zm_M_init.2.1 329 = .ok (.iastore, 1) := by decide +kernel
theorem dz_M_init_330 : decode zm_M_init.2.1 330 = .ok (.dup, 1) := by decide +kernel
theorem dz_M_init_331 : decode zm_M_init.2.1 331 = .ok (.bipush 31, 2) := by decide +kernel
theorem dz_M_init_333 : decode zm_M_init.2.1 333 = .ok (.bipush 107, 2) := by decide +kernel
theorem dz_M_init_335 : decode zm_M_init.2.1 335 = .ok (.iastore, 1) := by decide +kernel
theorem dz_M_init_336 : decode zm_M_init.2.1 336 = .ok (.dup, 1) := by decide +kernel
theorem dz_M_init_337 : decode zm_M_init.2.1 337 = .ok (.bipush 32, 2) := by decide +kernel
theorem dz_M_init_339 : decode zm_M_init.2.1 339 = .ok (.bipush 105, 2) := by decide +kernel
theorem dz_M_init_341 : decode zm_M_init.2.1 341 = .ok (.iastore, 1) := by decide +kernel
theorem dz_M_init_342 : decode zm_M_init.2.1 342 = .ok (.dup, 1) := by decide +kernel
theorem dz_M_init_343 : decode zm_M_init.2.1 343 = .ok (.bipush 33, 2) := by decide +kernel
theorem dz_M_init_345 : decode zm_M_init.2.1 345 = .ok (.bipush 110, 2) := by decide +kernel
theorem dz_M_init_347 : decode zm_M_init.2.1 347 = .ok (.iastore, 1) := by decide +kernel
theorem dz_M_init_348 : decode zm_M_init.2.1 348 = .ok (.dup, 1) := by decide +kernel
theorem dz_M_init_349 : decode zm_M_init.2.1 349 = .ok (.bipush 34, 2) := by decide +kernel
theorem dz_M_init_351 : decode zm_M_init.2.1 351 = .ok (.bipush 98, 2) := by decide +kernel
theorem dz_M_init_353 : decode zm_M_init.2.1 353 = .ok (.iastore, 1) := by decide +kernel
theorem dz_M_init_354 : decode zm_M_init.2.1 354 = .ok (.dup, 1) := by decide +kernel
theorem dz_M_init_355 : decode zm_M_init.2.1 355 = .ok (.bipush 35, 2) := by decide +kernel
theorem dz_M_init_357 : decode zm_M_init.2.1 357 = .ok (.bipush 97, 2) := by decide +kernel
theorem dz_M_init_359 : decode zm_M_init.2.1 359 = .ok (.iastore, 1) := by decide +kernel
theorem dz_M_init_360 : decode zm_M_init.2.1 360 = .ok (.dup, 1) := by decide +kernel
theorem dz_M_init_361 : decode zm_M_init.2.1 361 = .ok (.bipush 36, 2) := by decide +kernel
theorem dz_M_init_363 : decode zm_M_init.2.1 363 = .ok (.bipush 114, 2) := by decide +kernel
theorem dz_M_init_365 : decode zm_M_init.2.1 365 = .ok (.iastore, 1) := by decide +kernel
theorem dz_M_init_366 : decode zm_M_init.2.1 366 = .ok (.dup, 1) := by decide +kernel
theorem dz_M_init_367 : decode zm_M_init.2.1 367 = .ok (.bipush 37, 2) := by decide +kernel
theorem dz_M_init_369 : decode zm_M_init.2.1 369 = .ok (.bipush 101, 2) := by decide +kernel
theorem dz_M_init_371 : decode zm_M_init.2.1 371 = .ok (.iastore, 1) := by decide +kernel
theorem dz_M_init_372 : decode zm_M_init.2.1 372 = .ok (.dup, 1) := by decide +kernel
theorem dz_M_init_373 : decode zm_M_init.2.1 373 = .ok (.bipush 38, 2) := by decide +kernel
theorem dz_M_init_375 : decode zm_M_init.2.1 375 = .ok (.bipush 102, 2) := by decide +kernel
theorem dz_M_init_377 : decode zm_M_init.2.1 377 = .ok (.iastore, 1) := by decide +kernel
theorem dz_M_init_378 : decode zm_M_init.2.1 378 = .ok (.dup, 1) := by decide +kernel
theorem dz_M_init_379 : decode zm_M_init.2.1 379 = .ok (.bipush 39, 2) := by decide +kernel
theorem dz_M_init_381 : decode zm_M_init.2.1 381 = .ok (.bipush 105, 2) := by decide +kernel
theorem dz_M_init_383 : decode zm_M_init.2.1 383 = .ok (.iastore, 1) := by decide +kernel
theorem dz_M_init_384 : decode zm_M_init.2.1 384 = .ok (.dup, 1) := by decide +kernel
theorem dz_M_init_385 : decode zm_M_init.2.1 385 = .ok (.bipush 40, 2) := by decide +kernel
theorem dz_M_init_387 : decode zm_M_init.2.1 387 = .ok (.bipush 114, 2) := by decide +kernel
theorem dz_M_init_389 : decode zm_M_init.2.1 389 = .ok (.iastore, 1) := by decide +kernel
theorem dz_M_init_390 : decode zm_M_init.2.1 390 = .ok (.dup, 1) := by decide +kernel
theorem dz_M_init_391 : decode zm_M_init.2.1 391 = .ok (.bipush 41, 2) := by decide +kernel
theorem dz_M_init_393 : decode zm_M_init.2.1 393 = .ok (.bipush 115, 2) := by decide +kernel
theorem dz_M_init_395 : decode zm_M_init.2.1 395 = .ok (.iastore, 1) := by decide +kernel
theorem dz_M_init_396 : decode zm_M_init.2.1 396 = .ok (.dup, 1) := by decide +kernel
theorem dz_M_init_397 : decode zm_M_init.2.1 397 = .ok (.bipush 42, 2) := by decide +kernel
theorem dz_M_init_399 : decode zm_M_init.2.1 399 = .ok (.bipush 116, 2) := by decide +kernel
theorem dz_M_init_401 : decode zm_M_init.2.1 401 = .ok (.iastore, 1) := by decide +kernel
theorem dz_M_init_402 : decode zm_M_init.2.1 402 = .ok (.dup, 1) := by decide +kernel
theorem dz_M_init_403 : decode zm_M_init.2.1 403 = .ok (.bipush 43, 2) := by decide +kernel
theorem dz_M_init_405 : decode zm_M_init.2.1 405 = .ok (.bipush 116, 2) := by decide +kernel
theorem dz_M_init_407 : decode zm_M_init.2.1 407 = .ok (.iastore, 1) := by decide +kernel
theorem dz_M_init_408 : decode zm_M_init.2.1 408 = .ok (.dup, 1) := by decide +kernel
theorem dz_M_init_409 : decode zm_M_init.2.1 409 = .ok (.bipush 44, 2) := by decide +kernel
theorem dz_M_init_411 : decode zm_M_init.2.1 411 = .ok (.bipush 104, 2) := by decide +kernel
theorem dz_M_init_413 : decode zm_M_init.2.1 413 = .ok (.iastore, 1) := by decide +kernel
theorem dz_M_init_414 : decode zm_M_init.2.1 414 = .ok (.dup, 1) := by decide +kernel
theorem dz_M_init_415 : decode zm_M_init.2.1 415 = .ok (.bipush 45, 2) := by decide +kernel
theorem dz_M_init_417 : decode zm_M_init.2.1 417 = .ok (.bipush 105, 2) := by decide +kernel
theorem dz_M_init_419 : decode zm_M_init.2.1 419 = .ok (.iastore, 1) := by decide +kernel
theorem dz_M_init_420 : decode zm_M_init.2.1 420 = .ok (.dup, 1) := by decide +kernel
theorem dz_M_init_421 : decode zm_M_init.2.1 421 = .ok (.bipush 46, 2) := by decide +kernel
theorem dz_M_init_423 : decode zm_M_init.2.1 423 = .ok (.bipush 114, 2) := by decide +kernel
theorem dz_M_init_425 : decode zm_M_init.2.1 425 = .ok (.iastore, 1) := by decide +kernel
theorem dz_M_init_426 : decode zm_M_init.2.1 426 = .ok (.dup, 1) := by decide +kernel
theorem dz_M_init_427 : decode zm_M_init.2.1 427 = .ok (.bipush 47, 2) := by decide +kernel
theorem dz_M_init_429 : decode zm_M_init.2.1 429 = .ok (.bipush 100, 2) := by decide +kernel
theorem dz_M_init_431 : decode zm_M_init.2.1 431 = .ok (.iastore, 1) := by decide +kernel
theorem dz_M_init_432 : decode zm_M_init.2.1 432 = .ok (.dup, 1) := by decide +kernel
theorem dz_M_init_433 : decode zm_M_init.2.1 433 = .ok (.bipush 48, 2) := by decide +kernel
theorem dz_M_init_435 : decode zm_M_init.2.1 435 = .ok (.bipush 108, 2) := by decide +kernel
theorem dz_M_init_437 : decode zm_M_init.2.1 437 = .ok (.iastore, 1) := by decide +kernel
theorem dz_M_init_438 : decode zm_M_init.2.1 438 = .ok (.dup, 1) := by decide +kernel
theorem dz_M_init_439 : decode zm_M_init.2.1 439 = .ok (.bipush 49, 2) := by decide +kernel
theorem dz_M_init_441 : decode zm_M_init.2.1 441 = .ok (.bipush 97, 2) := by decide +kernel
theorem dz_M_init_443 : decode zm_M_init.2.1 443 = .ok (.iastore, 1) := by decide +kernel
theorem dz_M_init_444 : decode zm_M_init.2.1 444 = .ok (.dup, 1) := by decide +kernel
theorem dz_M_init_445 : decode zm_M_init.2.1 445 = .ok (.bipush 50, 2) := by decide +kernel
theorem dz_M_init_447 : decode zm_M_init.2.1 447 = .ok (.bipush 115, 2) := by decide +kernel
theorem dz_M_init_449 : decode zm_M_init.2.1 449 = .ok (.iastore, 1) := by decide +kernel
theorem dz_M_init_450 : decode zm_M_init.2.1 450 = .ok (.dup, 1) := by decide +kernel
theorem dz_M_init_451 : decode zm_M_init.2.1 451 = .ok (.bipush 51, 2) := by decide +kernel
theorem dz_M_init_453 : decode zm_M_init.2.1 453 = .ok (.bipush 116, 2) := by decide +kernel
theorem dz_M_init_455 : decode zm_M_init.2.1 455 = .ok (.iastore, 1) := by decide +kernel
theorem dz_M_init_456 : decode zm_M_init.2.1 456 = .ok (.putfield 34, 3) := by decide +kernel
theorem dz_M_init_459 : decode zm_M_init.2.1 459 = .ok (.aload_n 0, 1) := by decide +kernel
theorem dz_M_init_460 : decode zm_M_init.2.1 460 = .ok (.bipush 6, 2) := by decide +kernel
theorem dz_M_init_462 : decode zm_M_init.2.1 462 = .ok (.newarray .int, 2) := by decide +kernel
theorem dz_M_init_464 : decode zm_M_init.2.1 464 = .ok (.dup, 1) := by decide +kernel
theorem dz_M_init_465 : decode zm_M_init.2.1 465 = .ok (.iconst 0, 1) := by decide +kernel
theorem dz_M_init_466 : decode zm_M_init.2.1 466 = .ok (.bipush 9, 2) := by decide +kernel
theorem dz_M_init_468 : decode zm_M_init.2.1 468 = .ok (.iastore, 1) := by decide +kernel
theorem dz_M_init_469 : decode zm_M_init.2.1 469 = .ok (.dup, 1) := by decide +kernel
theorem dz_M_init_470 : decode zm_M_init.2.1 470 = .ok (.iconst 1, 1) := by decide +kernel
theorem dz_M_init_471 : decode zm_M_init.2.1 471 = .ok (.bipush 6, 2) := by decide +kernel
theorem dz_M_init_473 : decode zm_M_init.2.1 473 = .ok (.iastore, 1) := by decide +kernel
theorem dz_M_init_474 : decode zm_M_init.2.1 474 = .ok (.dup, 1) := by decide +kernel
theorem dz_M_init_475 : decode zm_M_init.2.1 475 = .ok (.iconst 2, 1) := by decide +kernel
theorem dz_M_init_476 : decode zm_M_init.2.1 476 = .ok (.iconst 4, 1) := by decide +kernel
theorem dz_M_init_477 : decode zm_M_init.2.1 477 = .ok (.iastore, 1) := by decide +kernel
theorem dz_M_init_478 : decode zm_M_init.2.1 478 = .ok (.dup, 1) := by decide +kernel
theorem dz_M_init_479 : decode zm_M_init.2.1 479 = .ok (.iconst 3, 1) := by decide +kernel
theorem dz_M_init_480 : decode zm_M_init.2.1 480 = .ok (.iconst 3, 1) := by decide +kernel
theorem dz_M_init_481 : decode zm_M_init.2.1 481 = .ok (.iastore, 1) := by decide +kernel
theorem dz_M_init_482 : decode zm_M_init.2.1 482 = .ok (.dup, 1) := by decide +kernel
theorem dz_M_init_483 : decode zm_M_init.2.1 483 = .ok (.iconst 4, 1) := by decide +kernel
theorem dz_M_init_484 : decode zm_M_init.2.1 484 = .ok (.iconst 5, 1) := by decide +kernel
theorem dz_M_init_485 : decode zm_M_init.2.1 485 = .ok (.iastore, 1) := by decide +kernel
theorem dz_M_init_486 : decode zm_M_init.2.1 486 = .ok (.dup, 1) := by decide +kernel
theorem dz_M_init_487 : decode zm_M_init.2.1 487 = .ok (.iconst 5, 1) := by decide +kernel
theorem dz_M_init_488 : decode zm_M_init.2.1 488 = .ok (.iconst 5, 1) := by decide +kernel
theorem dz_M_init_489 : decode zm_M_init.2.1 489 = .ok (.iastore, 1) := by decide +kernel
theorem dz_M_init_490 : decode zm_M_init.2.1 490 = .ok (.putfield 37, 3) := by decide +kernel
theorem dz_M_init_493 : decode zm_M_init.2.1 493 = .ok (.aload_n 0, 1) := by decide +kernel
theorem dz_M_init_494 : decode zm_M_init.2.1 494 = .ok (.iconst 3, 1) := by decide +kernel
theorem dz_M_init_495 : decode zm_M_init.2.1 495 = .ok (.newarray .int, 2) := by decide +kernel
theorem dz_M_init_497 : decode zm_M_init.2.1 497 = .ok (.putfield 40, 3) := by decide +kernel
theorem dz_M_init_500 : decode zm_M_init.2.1 500 = .ok (.aload_n 0, 1) := by decide +kernel
theorem dz_M_init_501 : decode zm_M_init.2.1 501 = .ok (.sipush 128, 3) := by decide +kernel
theorem dz_M_init_504 : decode zm_M_init.2.1 504 = .ok (.newarray .long, 2) := by decide +kernel
theorem dz_M_init_506 : decode zm_M_init.2.1 506 = .ok (.putfield 43, 3) := by decide +kernel
theorem dz_M_init_509 : decode zm_M_init.2.1 509 = .ok (.aload_n 0, 1) := by decide +kernel
theorem dz_M_init_510 : decode zm_M_init.2.1 510 = .ok (.bipush 12, 2) := by decide +kernel
theorem dz_M_init_512 : decode zm_M_init.2.1 512 = .ok (.newarray .int, 2) := by decide +kernel
theorem dz_M_init_514 : decode zm_M_init.2.1 514 = .ok (.putfield 47, 3) := by decide +kernel
theorem dz_M_init_517 : decode zm_M_init.2.1 517 = .ok (.aload_n 0, 1) := by decide +kernel
theorem dz_M_init_518 : decode zm_M_init.2.1 518 = .ok (.iconst 2, 1) := by decide +kernel
theorem dz_M_init_519 : decode zm_M_init.2.1 519 = .ok (.newarray .boolean, 2) := by decide +kernel
theorem dz_M_init_521 : decode zm_M_init.2.1 521 = .ok (.putfield 50, 3) := by decide +kernel
theorem dz_M_init_524 : decode zm_M_init.2.1 524 = .ok (.aload_n 0, 1) := by decide +kernel
theorem dz_M_init_525 : decode zm_M_init.2.1 525 = .ok (.iconst 4, 1) := by decide +kernel
theorem dz_M_init_526 : decode zm_M_init.2.1 526 = .ok (.newarray .int, 2) := by decide +kernel
theorem dz_M_init_528 : decode zm_M_init.2.1 528 = .ok (.dup, 1) := by decide +kernel
theorem dz_M_init_529 : decode zm_M_init.2.1 529 = .ok (.iconst 0, 1) := by decide +kernel
theorem dz_M_init_530 : decode zm_M_init.2.1 530 = .ok (.bipush (-4), 2) := by decide +kernel
theorem dz_M_init_532 : decode zm_M_init.2.1 532 = .ok (.iastore, 1) := by decide +kernel
theorem dz_M_init_533 : decode zm_M_init.2.1 533 = .ok (.dup, 1) := by decide +kernel
theorem dz_M_init_534 : decode zm_M_init.2.1 534 = .ok (.iconst 1, 1) := by decide +kernel
theorem dz_M_init_535 : decode zm_M_init.2.1 535 = .ok (.bipush (-4), 2) := by decide +kernel
theorem dz_M_init_537 : decode zm_M_init.2.1 537 = .ok (.iastore, 1) := by decide +kernel
theorem dz_M_init_538 : decode zm_M_init.2.1 538 = .ok (.dup, 1) := by decide +kernel
theorem dz_M_init_539 : decode zm_M_init.2.1 539 = .ok (.iconst 2, 1) := by decide +kernel
theorem dz_M_init_540 : decode zm_M_init.2.1 540 = .ok (.bipush (-4), 2) := by decide +kernel
theorem dz_M_init_542 : decode zm_M_init.2.1 542 = .ok (.iastore, 1) := by decide +kernel
theorem dz_M_init_543 : decode zm_M_init.2.1 543 = .ok (.dup, 1) := by decide +kernel
theorem dz_M_init_544 : decode zm_M_init.2.1 544 = .ok (.iconst 3, 1) := by decide +kernel
theorem dz_M_init_545 : decode zm_M_init.2.1 545 = .ok (.bipush (-4), 2) := by decide +kernel
theorem dz_M_init_547 : decode zm_M_init.2.1 547 = .ok (.iastore, 1) := by decide +kernel
theorem dz_M_init_548 : decode zm_M_init.2.1 548 = .ok (.putfield 54, 3) := by decide +kernel
theorem dz_M_init_551 : decode zm_M_init.2.1 551 = .ok (.aload_n 0, 1) := by decide +kernel
theorem dz_M_init_552 : decode zm_M_init.2.1 552 = .ok (.iconst 4, 1) := by decide +kernel
theorem dz_M_init_553 : decode zm_M_init.2.1 553 = .ok (.newarray .int, 2) := by decide +kernel
theorem dz_M_init_555 : decode zm_M_init.2.1 555 = .ok (.putfield 57, 3) := by decide +kernel
theorem dz_M_init_558 : decode zm_M_init.2.1 558 = .ok (.aload_n 0, 1) := by decide +kernel
theorem dz_M_init_559 : decode zm_M_init.2.1 559 = .ok (.sipush 160, 3) := by decide +kernel
theorem dz_M_init_562 : decode zm_M_init.2.1 562 = .ok (.newarray .int, 2) := by decide +kernel
theorem dz_M_init_564 : decode zm_M_init.2.1 564 = .ok (.putfield 60, 3) := by decide +kernel
theorem dz_M_init_567 : decode zm_M_init.2.1 567 = .ok (.return_, 1) := by decide +kernel
theorem dz_L_law_0 : decode zm_L_law.2.1 0 = .ok (.new 7, 3) := by decide +kernel
theorem dz_L_law_3 : decode zm_L_law.2.1 3 = .ok (.dup, 1) := by decide +kernel
theorem dz_L_law_4 : decode zm_L_law.2.1 4 = .ok (.invokespecial 9, 3) := by decide +kernel
theorem dz_L_law_7 : decode zm_L_law.2.1 7 = .ok (.astore_n 1, 1) := by decide +kernel
theorem dz_L_law_8 : decode zm_L_law.2.1 8 = .ok (.new 10, 3) := by decide +kernel
theorem dz_L_law_11 : decode zm_L_law.2.1 11 = .ok (.dup, 1) := by decide +kernel
theorem dz_L_law_12 : decode zm_L_law.2.1 12 = .ok (.invokespecial 12, 3) := by decide +kernel
theorem dz_L_law_15 : decode zm_L_law.2.1 15 = .ok (.astore_n 2, 1) := by decide +kernel
