/-! calls of constructors, rows of rows -/
section GROWC
variable {D : va_G} {κ : Nat → ClassId} {A : Nat → Prop} {M : zq_M} {h K S pcE : Nat} {Q : Array Slot → va_W → Prop} {k n pc : Nat} {ls : List (Nat × Value)} {st : List Value} {ws : va_W}
theorem zi_back {p : Program} {l : Launch} {e : Env} {R : Room} {s : State} {m : MethodId} {args : Array Value} {below : List Frame} {meth : Method} {c : Code} {Qm : State → Prop} {H : Heap} {locs : List Loc} {arr : Array Slot} {K' S' q : Nat} {fr : va_E} {Q' : va_W → Prop} {st0 : List Value}
    (hr : va_Run p l e R s m args below meth c H locs k n K' S' (F0 m pc arr st0) st (va_Qv (S := va_W) Q' (fun w t => va_P D zq_cl w t.heap ∧ va_D (va_A [(q, fr)] H.size) w) (va_A [(q, fr)] H.size) (Value.ref q :: []).toArray) (va_A [(q, fr)] H.size))
    (hC : zi_C D κ A M h K S p R s m args meth c) (hX : zi_X D A Q K S pcE p l e R s m args below meth c Qm) (hP : va_P D zq_cl (ws ++ [(q, fr)]) H) (hD : va_D A (ws ++ [(q, fr)])) (hS : va_S A s.heap H locs) (hL : lv_has arr M.2.2.1 ls)
    (kk : ∀ w1, Q' w1 → zi_G D κ A M h K S pcE Q (k + K') (n + S') (pc + 3) ls st (ws ++ w1)) : W p l e R s m args below meth c H locs k n Qm (F0 m pc arr st0) := by
  have c13 := hC.2.2.2.2.2.2.2.2.2.2.2.2
  have hFc := va_free (wc := [(q, fr)]) hD hS c13 [ws.length] zi_lastM
  refine va_callv (A0 := A) (post := Q') hr hS (fun q _ h => hFc q h) hFc (fun u t H1 locs1 ht hvm hw hB hz1 hk1 hS1 => ?_)
  obtain ⟨hP1, hD1⟩ := hB
  rw [ht] at hP1
  obtain ⟨hP2, hD2⟩ := va_join (wr := ws) (w1 := u) hP hD [ws.length] (List.range ws.length) zi_lastM zi_initM (zi_ndr _) (fun i hi hj => by
    have h1 := List.mem_range.mp hi
    have h2 := List.mem_singleton.mp hj
    omega) hk1 hFc hP1 hD1
  exact kk u hw p l e R s m args below meth c Qm H1 locs1 arr hC hX hP2 hD2 hS1 hL
theorem zi_callI {Mj : zq_M} {h' K' S' idx q : Nat} {fr : va_E} {Q' : va_W → Prop} (hSp : zi_Sp Mj h' K' S' D κ q [(q, fr)] Q') (hm : zi_MI Mj) (hlk : Cond.methodLink M.1.cls idx Mj.1 ∈ zq_tbl) (hd : decode M.2.1 pc = .ok (.invokespecial idx, 3)) (hh : h' + 1 ≤ h) (hk : k + K' ≤ K) (hn : n + S' ≤ S) (hct : (st.map fun v => v.category).sum ≤ 8) (kk : ∀ w1, Q' w1 → zi_G D κ A M h K S pcE Q (k + K') (n + S') (pc + 3) ls st (ws ++ w1)) : zi_G D κ A M h K S pcE Q k n pc ls (.ref q :: st) (ws ++ [(q, fr)]) := by
  intro p l e R s m args below meth c Qm H locs arr hC hX hP hD hS hL
  obtain ⟨c1, c2, c3, c4, c5, c6, c7, c8, c9, c10, c11, c12, c13⟩ := id hC
  obtain ⟨m1, m2, m3, m4, m5, m6, m7⟩ := hm
  have hMet := hSp H.size l
  have cw : CallB R s args M.1.cls idx Mj.1 Mj.2.1 Mj.2.2.1 Mj.2.2.2 (zq_wm Mj) (zi_rm h' K' S') K' S' 0 := callB_of 0 c5 (zq_good m1) rfl rfl rfl (c5 _ m3) (c5 _ hlk) m4 ⟨Nat.le_trans hh c8, by show 8 + (Mj.2.2.1 + 11) + 60 * h' ≤ R.locals; omega⟩
  rw [m6] at cw
  have hDc := hD.sub (ws' := [(q, fr)]) [ws.length] (zi_ndr 1 ▸ rfl) zi_lastM
  exact zi_back (va_runI (As := []) (rest := st) ⟨c1, c2, c3, c4, c5⟩ hMet ⟨cw, m5, c5 _ m2⟩ ⟨zi_blind κ q _ _, fun U hU hW => ⟨rfl, by rw [hU], by rw [hU]; exact zi_lastP hP, va_K.moved hW.alike c6, c7.warm hW, hDc.weaken (fun _ _ _ _ => trivial)⟩⟩ rfl rfl hL.1 rfl (lv_room hct) hd ⟨Nat.le_trans hk c10, Nat.le_trans hn c11⟩) hC hX hP hD hS hL kk
theorem zi_callN {Mj : zq_M} {h' K' S' idx q : Nat} {fr : va_E} {Q' : va_W → Prop} (hSp : zi_Sp Mj h' K' S' D κ q [(q, fr)] Q') (hm : zi_MI Mj) (hlk : ∀ U, zi_N U → va_Nw (.methodLinkNest M.1.cls idx Mj.1 "ThirdSon") U) (hd : decode M.2.1 pc = .ok (.invokespecial idx, 3)) (hh : h' + 1 ≤ h) (hk : k + K' ≤ K) (hn : n + S' ≤ S) (hct : (st.map fun v => v.category).sum ≤ 8) (kk : ∀ w1, Q' w1 → zi_G D κ A M h K S pcE Q (k + K') (n + S') (pc + 3) ls st (ws ++ w1)) : zi_G D κ A M h K S pcE Q k n pc ls (.ref q :: st) (ws ++ [(q, fr)]) := by
  intro p l e R s m args below meth c Qm H locs arr hC hX hP hD hS hL
  obtain ⟨c1, c2, c3, c4, c5, c6, c7, c8, c9, c10, c11, c12, c13⟩ := id hC
  obtain ⟨m1, m2, m3, m4, m5, m6, m7⟩ := hm
  have hMet := hSp H.size l
  have cw : va_CN R s args M.1.cls idx Mj.1 "ThirdSon" Mj.2.1 Mj.2.2.1 Mj.2.2.2 (zq_wm Mj) (zi_rm h' K' S') K' S' 0 := va_cnB 0 c5 (zq_good m1) rfl rfl rfl (hlk s c7) (c5 _ m3) m4 ⟨Nat.le_trans hh c8, by show 8 + (Mj.2.2.1 + 11) + 60 * h' ≤ R.locals; omega⟩
  rw [m6] at cw
  have hDc := hD.sub (ws' := [(q, fr)]) [ws.length] (zi_ndr 1 ▸ rfl) zi_lastM
  exact zi_back (va_runIN (As := []) (rest := st) ⟨c1, c2, c3, c4, c5⟩ hMet ⟨cw, m5, c5 _ m2⟩ ⟨zi_blind κ q _ _, fun U hU hW => ⟨rfl, by rw [hU], by rw [hU]; exact zi_lastP hP, va_K.moved hW.alike c6, c7.warm hW, hDc.weaken (fun _ _ _ _ => trivial)⟩⟩ rfl rfl hL.1 rfl (lv_room hct) hd ⟨Nat.le_trans hk c10, Nat.le_trans hn c11⟩) hC hX hP hD hS hL kk
/-- a call on the object at the head, with the whole world -/
theorem zi_callV {Mj : zq_M} {h' idx a ci : Nat} {fs : List Value} {W0 : va_W} {q : vw_C} {Q' : va_W → Prop} (hSp : zi_Sp Mj h' 0 0 D κ a ((a, .inr (ci, fs)) :: W0) Q') (hm : zq_MV Mj 0) (hret : Mj.2.2.2 = none) (hcl : zq_cl[ci]? = some q) (hq : q.1 = Mj.1.cls) (hlk : Cond.methodLink M.1.cls idx Mj.1 ∈ zq_tbl) (hd : decode M.2.1 pc = .ok (.invokevirtual idx, 3)) (hh : h' + 1 ≤ h) (hk : k ≤ K) (hn : n ≤ S) (kk : ∀ w1, Q' w1 → zi_G D κ A M h K S pcE Q k n (pc + 3) ls [] w1) : zi_G D κ A M h K S pcE Q k n pc ls [.ref a] ((a, .inr (ci, fs)) :: W0) := by
  intro p l e R s m args below meth c Qm H locs arr hC hX hP hD hS hL
  obtain ⟨c1, c2, c3, c4, c5, c6, c7, c8, c9, c10, c11, c12, c13⟩ := id hC
  obtain ⟨m1, m2, m3, m4, m5, m6, m7, m8⟩ := hm
  have hMet := hSp H.size l
  have cw : CallW R s args M.1.cls Mj.1.cls idx Mj.1 Mj.2.1 Mj.2.2.1 Mj.2.2.2 (zq_wm Mj) (zi_rm h' 0 0) 0 0 0 := ⟨callB_of 0 c5 (zq_good m1) rfl rfl rfl (c5 _ m4) (c5 _ hlk) ⟨m5.1, m5.2, m6⟩ ⟨Nat.le_trans hh c8, by show 8 + (Mj.2.2.1 + 11) + 60 * h' ≤ R.locals; omega⟩, c5 _ m2, c5 _ m3⟩
  have hrecv := va_recv c6 hP hcl (q0 := 0) (a := a) (fs := fs) rfl
  rw [hq] at hrecv
  have hFc : ∀ q, va_A ((a, Sum.inr (ci, fs)) :: W0) H.size q → A q := fun q hq => by
    rcases hq with ⟨k2, e2, h2⟩ | h2
    · exact hD.2 k2 _ h2
    · exact c13 q (Nat.le_trans hS.1 h2)
  refine va_callv (A0 := A) (post := Q') (va_runV (As := []) (rest := []) (b := a) ⟨c1, c2, c3, c4, c5⟩ hMet cw ⟨zi_blind κ a _ _, hrecv, fun U hU hW => ⟨rfl, by rw [hU], by rw [hU]; exact hP, va_K.moved hW.alike c6, c7.warm hW, hD.weaken (fun _ _ _ _ => trivial)⟩⟩ rfl rfl hL.1 rfl (lv_room (by decide)) hd ⟨Nat.le_trans hk c10, Nat.le_trans hn c11⟩) hS (fun q _ h => hFc q h) hFc (fun u t H1 locs1 ht hvm hw hB hz1 hk1 hS1 => ?_)
  obtain ⟨hP1, hD1⟩ := hB
  rw [ht] at hP1
  exact kk u hw p l e R s m args below meth c Qm H1 locs1 arr hC hX hP1 (hD1.weaken fun _ q _ hq => hFc q.1 hq) hS1 hL
theorem zi_outer (c h0 : Nat) : zj_oc c h0 4 = vp_cell c (4, .inr (.inr (.inr (.inr (fun i => if i < 4 then some (h0 + 1 + i) else none))))) := by
  rfl
theorem zi_inner (c : Nat) : zj_ic c = vp_cell c (40, .inl (fun _ => 0)) := arrV_new c 40 (.int 0)
end GROWC
