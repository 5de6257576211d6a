/-! THE CLAIM OUT OF ONE WALK OF THE LAW'S BODY. Your part is whole_start (and what it stands on); all else here is the same for every law, but numbers. -/
def R_law : String := "ThirdSonLaw"
def lw_P (b : Addr) (xs : List Int32) (args : Array Value) (s : State) : Prop := args = #[.ref b] ∧ s.IntsAt b xs ∧ xs.length ≤ 320 ∧ (Jvm.Cond.and given_1 narrow_1).before args s = true
def lw_Q (_ : Array Value) (s : State) (o : Outcome) (t : State) : Prop := o = .returned (some (.int 1)) ∧ Framed s o t [] 600000 7302250
def lw_Z (below : List Frame) (a : Array Value) (s : State) : State → Prop := fun t => ∃ o, t.status = .running ∧ Ended t below o ∧ lw_Q a s o t
/-- the law's own end, with 1 on the stack, nothing written that was there before, its room as the claim has it -/
theorem lw_ret {p : Program} {l : Launch} {e : Env} {s : State} {m : MethodId} {below : List Frame} {meth : Method} {c : Code} {b : Nat} (hx : p.tables.exec = Jvm.exec) (hb : c.code = code) (hr : meth.sig.returnType = ret) (hlocks : meth.locks = false) {pc : Nat} {H : Heap} {ls : Array Slot} (hdg : decode code pc = .ok (.ireturn, 1)) : W p l e room_1 s m #[Value.ref b] below meth c H [] 600000 7302250 (lw_Z below #[Value.ref b] s) (F0 m pc ls [.int 1]) := by
  intro T hT X
  obtain ⟨fs, hret, hrun, hended, hW, hframe⟩ := X.leave (v := some (.int 1)) (hlocks := hlocks) (fun h => by rw [hr] at h; cases h)
  have hmeth' : T.vm.method? m = some meth := X.method'
  refine ⟨T.setFrames fs, ?_, .returned (some (.int 1)), hrun, hended, rfl, ⟨_, rfl⟩, hW, hframe⟩
  jvm_step X.here [X.here.top, hx, hb, hdg, hmeth', hr, ret, narrow_b1]
  (try refine ⟨rfl, ?_⟩); (try refine ⟨rfl, ?_⟩)
  first | (intro acts; rw [hret _ acts rfl rfl rfl]) | rw [hret _ _ rfl rfl rfl]
  exact Steps.refl _
/-- what holds at the law's entry: the machine, the code, the tables' words (any of lw_tbl by 'hts w (by decide +kernel)'), the script of L ints xs at the cell b, what the Statement gives of the start (any of its parts by flat_of_before) -/
def lw_At (p : Program) (s : State) (m : MethodId) (meth : Method) (c : Code) (b L : Nat) (xs : Nat → Int32) : Prop :=
  p.tables.exec = Jvm.exec ∧ c.code = code ∧ meth.sig.returnType = ret ∧ c.maxLocals = 4 ∧ s.vm.findClass R_law = some m.cls ∧ (∀ w ∈ lw_tbl, w.before #[Value.ref b] s = true) ∧ va_X b L xs s s.heap ∧ b < s.heap.size ∧ meth.locks = false ∧ (Jvm.Cond.and given_1 narrow_1).before #[Value.ref b] s = true
theorem zi_Psub {D : va_G} {cl : List vw_C} {ws ws' : va_W} {H : Heap} (h : va_P D cl ws H) (is : List Nat) (hs : is.map (fun i => ws[i]?) = ws'.map some) : va_P D cl ws' H := by
  intro k q hk
  have h1 : (is.map (fun i => ws[i]?))[k]? = some (some q) := by rw [hs, List.getElem?_map, hk]; rfl
  rw [List.getElem?_map] at h1
  cases hi : is[k]? with
  | none => rw [hi] at h1; cases h1
  | some i => rw [hi] at h1; exact h i q (Option.some.inj h1)
theorem zi_Scong {f f' g g' : Nat → Nat} {A : Nat → Prop} {U : State} {H : Heap} (h : vk_S 13 zq_len zq_byt f g A U H) (hf : ∀ i, i < 13 → f' i = f i) (hg : ∀ i, i < 13 → g' i = g i) : vk_S 13 zq_len zq_byt f' g' A U H :=
  ⟨fun i hi => by rw [hf i hi, hg i hi]; exact h.1 i hi, fun i j hi hj e => h.2 i j hi hj (by rw [hf i hi, hf j hj] at e; exact e)⟩
theorem zi_okD {ν : zq_E} {A : Nat → Prop} {σ : zq_T} (hD : va_D A (zq_ws ν σ)) (hA : ∀ q, A q → ν.2.2.2.1 ≤ q) : zq_ok ν := by
  have at' : ∀ (r : zq_R) (i : Nat), zq_cs[i]? = some r → (zq_ws ν σ)[i]? = some (ν.1 r.1 r.2, zq_el ν σ r.1 r.2) := fun r i hi => by simp [zq_ws, hi]
  refine ⟨fun r hr r' hr' e => ?_, fun r hr => ?_⟩
  · obtain ⟨i, hi⟩ := List.getElem?_of_mem hr
    obtain ⟨j, hj⟩ := List.getElem?_of_mem hr'
    have hij := hD.1 i j _ _ (at' r i hi) (at' r' j hj) e
    subst hij
    exact Option.some.inj (hi.symm.trans hj)
  · obtain ⟨i, hi⟩ := List.getElem?_of_mem hr
    exact hA _ (hD.2 i _ (at' r i hi))
theorem zi_adK {a aP qP aE aH qH u v : Nat} {g0 g1 g2 : Nat → Nat} {r1 r2 r3 : Nat} {g3 g4 gm : Nat → Nat} {adK adV : Nat → Nat} {b fm : Nat} {D : va_G} {κ : Nat → ClassId} {base L : Nat} {xs : Nat → Int32} : ∀ i, i < 13 → (zi_ν D κ base L xs a aP qP aE aH qH u v g0 g1 g2 r1 r2 r3 g3 g4 gm adK adV b fm).1 (100 + i) 0 = adK i ∧ (zi_ν D κ base L xs a aP qP aE aH qH u v g0 g1 g2 r1 r2 r3 g3 g4 gm adK adV b fm).1 (200 + i) 0 = adV i := by
  intro i hi
  match i, hi with
  | 0, _ => exact ⟨rfl, rfl⟩
  | 1, _ => exact ⟨rfl, rfl⟩
  | 2, _ => exact ⟨rfl, rfl⟩
  | 3, _ => exact ⟨rfl, rfl⟩
  | 4, _ => exact ⟨rfl, rfl⟩
  | 5, _ => exact ⟨rfl, rfl⟩
  | 6, _ => exact ⟨rfl, rfl⟩
  | 7, _ => exact ⟨rfl, rfl⟩
  | 8, _ => exact ⟨rfl, rfl⟩
  | 9, _ => exact ⟨rfl, rfl⟩
  | 10, _ => exact ⟨rfl, rfl⟩
  | 11, _ => exact ⟨rfl, rfl⟩
  | 12, _ => exact ⟨rfl, rfl⟩
  | i + 13, hi => exact absurd hi (by omega)
theorem zi_first {ν : zq_E} (hL : ν.2.2.2.2.2 ≤ 320) : zq_G ν zm_L_law 15 zl_Q 16 [some (zq_O 60 0), some (zq_O 0 0), some (zq_O 30 0), none] [] zi_σ := by
  refine gq_iconst (v := 0) dz_L_law_16 rfl ?_
  refine gw_istore_n 3 dz_L_law_17 rfl (Nat.le_of_ble_eq_true rfl) rfl ?_
  exact sl_loop hL 401 0 zi_σ zi_X0 (by omega) (by omega) ⟨zi_S0, zi_M0, zi_W0⟩
set_option maxHeartbeats 4000000 in
/-- from the entry the law comes to its end with true -/
theorem whole_start {p : Program} {e : Env} {s : State} {m : MethodId} {below : List Frame} {meth : Method} {c : Code} (l : Launch) (hflags : l.flags = flags0) {b L : Nat} {xs : Nat → Int32} (hL : L ≤ 320) (C0 : lw_At p s m meth c b L xs) : W p l e room_1 s m #[Value.ref b] below meth c s.heap [] 0 0 (lw_Z below #[Value.ref b] s) (entryFrame m ([Value.ref b] : List Value).toArray 4) := by
  obtain ⟨hx, hb, hr, hml, hown, hts, hX, hbl, hlocks, hgv⟩ := id C0
  have ht : ∀ w ∈ zq_tbl, w.before #[Value.ref b] s = true := fun w hw => hts w (List.mem_filter.mp hw).1
  obtain ⟨D, κ, hK⟩ := zi_cls hts
  obtain ⟨adK, adV, fm, hVS, hVC, hVF, hVR⟩ := zi_str hts hgv
  have hN : zi_N s := ⟨va_Nw.of rfl (hts _ zi_n1), va_Nw.of rfl (hts _ zi_n2), va_Nw.of rfl (hts _ zi_n3), zj_alike (s := s) (U := s) (Vm.Alike.refl s.vm) (hts _ zi_t5)⟩
  have hl := lv_entry ([.ref b] : List Value) (n := 4) (Nat.le_of_ble_eq_true rfl)
  rw [lg_entry_eq]
  generalize (lg_sl ([.ref b] : List Value) ++ List.replicate (4 - (lg_sl ([.ref b] : List Value)).length) Slot.unset).toArray = arr0 at hl ⊢
  refine zi_law (D := D) (κ := κ) (A := zi_A s) b p l e room_1 s m #[Value.ref b] below meth c (lw_Z below #[Value.ref b] s) s.heap [] arr0 ⟨hx, hb, hml, hown, ht, hK, hN, by decide, by decide, Nat.le_refl _, Nat.le_refl _, fun z => absurd z (by decide), fun _ h => h⟩ ?_ (fun k q h => by simp at h) ⟨fun i j p q h => by simp at h, fun k q h => by simp at h⟩ va_S.rf hl
  intro H locs arr ws hQ hP hD hS
  obtain ⟨a, aP, qP, aE, aH, qH, u, v, g0, g1, g2, r1, r2, r3, g3, g4, gm, rfl, hl⟩ := hQ
  have hws := zi_ws (D := D) (κ := κ) (base := s.heap.size) (L := L) (xs := xs) a aP qP aE aH qH u v g0 g1 g2 r1 r2 r3 g3 g4 gm adK adV b fm
  have hAd := zi_adK (a := a) (aP := aP) (qP := qP) (aE := aE) (aH := aH) (qH := qH) (u := u) (v := v) (g0 := g0) (g1 := g1) (g2 := g2) (r1 := r1) (r2 := r2) (r3 := r3) (g3 := g3) (g4 := g4) (gm := gm) (adK := adK) (adV := adV) (b := b) (fm := fm) (D := D) (κ := κ) (base := s.heap.size) (L := L) (xs := xs)
  have hE60 : (zi_ν D κ s.heap.size L xs a aP qP aE aH qH u v g0 g1 g2 r1 r2 r3 g3 g4 gm adK adV b fm).1 60 0 = b := rfl
  have hE300 : (zi_ν D κ s.heap.size L xs a aP qP aE aH qH u v g0 g1 g2 r1 r2 r3 g3 g4 gm adK adV b fm).1 300 0 = fm := rfl
  have hE00 : (zi_ν D κ s.heap.size L xs a aP qP aE aH qH u v g0 g1 g2 r1 r2 r3 g3 g4 gm adK adV b fm).1 0 0 = a := rfl
  have hE30 : (zi_ν D κ s.heap.size L xs a aP qP aE aH qH u v g0 g1 g2 r1 r2 r3 g3 g4 gm adK adV b fm).1 30 0 = gm 30 := rfl
  have hE2 : (zi_ν D κ s.heap.size L xs a aP qP aE aH qH u v g0 g1 g2 r1 r2 r3 g3 g4 gm adK adV b fm).2 = (D, κ, s.heap.size, xs, L) := rfl
  generalize (zi_ν D κ s.heap.size L xs a aP qP aE aH qH u v g0 g1 g2 r1 r2 r3 g3 g4 gm adK adV b fm) = ν at hws hAd hE60 hE300 hE00 hE30 hE2
  obtain ⟨ad, D', κ', base', xs', L'⟩ := ν
  cases hE2
  have hP2 := zi_Psub hP zi_ix hws
  have hD2 := hD.sub zi_ix zi_ixn hws
  have hok := zi_okD hD2 (fun _ h => h)
  have hJ : zq_J (ad, D, κ, s.heap.size, xs, L) s s.heap := ⟨zi_Scong hVS (fun i hi => (hAd i hi).1) (fun i hi => (hAd i hi).2), hVC, hVF.imp id (fun h => by rw [hE300]; exact h), fun i q hq => by
    have hi : i < 13 := (List.getElem?_eq_some_iff.mp hq).1
    rw [(hAd i hi).1]
    exact hVR i q hq, by rw [hE60]; exact hX, by rw [hE60]; exact Nat.not_le.mpr hbl, va_Nw.of rfl (hts _ zi_n4), va_Nw.of rfl (hts _ zi_n5)⟩
  refine zi_first (ν := (ad, D, κ, s.heap.size, xs, L)) hL p l e room_1 s m #[Value.ref b] below meth c 600000 7302250 (lw_Z below #[Value.ref b] s) H locs arr hok ⟨hx, hb, hml, hown, ht, hK, hJ, by decide, by decide, Nat.le_refl _, Nat.le_refl _⟩ ?_ hP2 hS ⟨hl.1, hl.2.1, fun i w hw => ?_⟩
  · intro r σ' ins H2 locs2 pc arr2 hr0 hd hQ hP3 hS3
    obtain ⟨hrv, -⟩ := hQ
    subst hrv
    rcases hr0 with ⟨-, h2, -⟩ | ⟨ty, x, h1, h2, h3, h4⟩ | ⟨x, h1, h2, h3⟩ | ⟨C, q, h1, h2, h3⟩
    · cases h2
    · cases h2
      subst h3
      exact va_forget (fun q hq => hS3.2.2 q hq) (lw_ret hx hb hr hlocks hd)
    · cases h2
    · cases h2
  · match i, hw with
    | 0, hw =>
      cases hw
      show arr[0]? = some (.val (.ref (ad 60 0)))
      rw [show ad 60 0 = b from hE60]
      exact hl.2.2 (0, .ref b) (by simp)
    | 1, hw =>
      cases hw
      show arr[1]? = some (.val (.ref (ad 0 0)))
      rw [show ad 0 0 = a from hE00]
      exact hl.2.2 (1, .ref a) (by simp)
    | 2, hw =>
      cases hw
      show arr[2]? = some (.val (.ref (ad 30 0)))
      rw [show ad 30 0 = gm 30 from hE30]
      exact hl.2.2 (2, .ref (gm 30)) (by simp)
    | 3, hw => cases hw
    | i + 4, hw => cases hw
set_option maxHeartbeats 4000000 in
theorem lw_walk (l : Launch) (hflags : l.flags = flags0) (b : Addr) (xs : List Int32) : MetFree l x (headSpec (Jvm.Cond.code x code maxLocals ret :: tables_1) room_1) (lw_P b xs) (fun _ _ _ _ _ => True) lw_Q := by
  refine MetFree.of_bodyS (code := code) (maxLocals := maxLocals) (ret := ret) (by decide) ?_ ?_
  · intro args s m h hn
    obtain ⟨meth, c, h1, h2, h3, h4, h5, h6, -, -⟩ := Cond.code_spec hn (atoms_spec (ws := Jvm.Cond.code x code maxLocals ret :: tables_1) h _ List.mem_cons_self)
    exact ⟨meth, c, h1, h2, h3, h4, h5, h6⟩
  · intro p e s m args below meth c s₁ B hml0 hP _
    obtain ⟨rfl, hx, hbd, hgv⟩ := hP
    obtain ⟨scr, harrAt, hlist, hof, hsmall⟩ := hx
    obtain ⟨hcb, hkn, -, -⟩ := State.arrayAt?_spec harrAt
    have hown : s.vm.findClass R_law = some m.cls := findClass_of_methodNamed B.named
    have hts0 : ∀ c ∈ (Jvm.Cond.code x code maxLocals ret :: tables_1), c.before #[Value.ref b] s = true := atoms_spec (ws := Jvm.Cond.code x code maxLocals ret :: tables_1) B.pre
    have hts : ∀ w ∈ lw_tbl, w.before #[Value.ref b] s = true := k2_hts_sels lw_privs (fun w hw => hts0 w (List.mem_cons_of_mem _ hw)) lw_privs_ok
    have hml : c.maxLocals = 4 := B.maxLocals_eq (hts0 _ List.mem_cons_self)
    have X₀ : Stand p l e room_1 s m #[Value.ref b] below meth c s₁ [] 0 0 := Stand.of_body B
    have hh0 : s₁.heap = s.heap := by rw [B.state]; rfl
    have hsz : scr.slots.size = xs.length := by rw [← Array.length_toList, hlist, List.length_map]
    have hval : ∀ j : Nat, j < xs.length → scr.slots[j]? = some (.int (xs.getD j 0)) := fun j hj => by
      rw [← Array.getElem?_toList, hlist]
      simp [hj]
    have hbl : b < s.heap.size := (Array.getElem?_eq_some_iff.mp hcb).1
    have hX : va_X b xs.length (fun j => xs.getD j 0) s s.heap := ⟨scr, hcb, hof, hkn, hsz, hval⟩
    have K : W p l e room_1 s m #[Value.ref b] below meth c s₁.heap [] 0 0 (lw_Z below #[Value.ref b] s) (entryFrame m ([Value.ref b] : List Value).toArray 4) := by
      rw [hh0]
      exact whole_start l hflags hbd ⟨B.exec, B.bytes, B.returns, hml, hown, hts, hX, hbl, B.notSynchronized, hgv⟩
    obtain ⟨t, a1, o, b1, b2, b3⟩ := K s₁ rfl X₀
    exact ⟨t, o, a1, b1, b2, b3⟩
theorem lw_pre_spec {args : Array Value} {s : State} (h : (Jvm.Cond.and given_1 narrow_1).before args s = true) (hr : rest_1_c.before args s = true) : ∃ (b : Addr) (xs : List Int32), lw_P b xs args s := by
  have hs := flat_of_before _ h
  have hq := flat_of_before _ hr
  have hc : (Cond.count 1).before args s = true := hs _ (by decide +kernel)
  have harr : (Cond.arrayOf (.arg 0) .int).before args s = true := hs _ (by decide +kernel)
  have hle : (Cond.le (.length (.arg 0)) (.int 320)).before args s = true := hs _ (by decide +kernel)
  have hlen : (Cond.isInt (.length (.arg 0))).before args s = true := hq _ (by decide +kernel)
  have hall : (Cond.all (.arg 0) (.isInt (.elem (.arg 0) (.index 0)))).before args s = true := hq _ (by decide +kernel)
  obtain ⟨b, xs, hb, hx⟩ := State.ints_of_pre rfl harr hlen hall
  have hsm : xs.length < 2 ^ 31 := hx.choose_spec.2.2.2
  have hev : (Term.length (.arg 0)).eval args s none [] s = some (.int xs.length.toInt32) := hx.length_eval hb
  have hv := Cond.le_ints hev (show (Term.int 320).eval args s none [] s = some (.int 320) from rfl)
  have hd : xs.length.toInt32 ≤ 320 := by
    simpa [Cond.before, Cond.holds, hv] using hle
  have hN : xs.length ≤ 320 := (Int32.ofNat_le_ofNat hsm (by decide)).mp (show Int32.ofNat xs.length ≤ Int32.ofNat 320 from hd)
  exact ⟨b, xs, Cond.one_arg hc (show args[0]? = some (.ref b) from hb), hx, hN, h⟩
theorem lw_comes (l : Launch) (hflags : l.flags = flags0) : Comes l x (Jvm.Cond.code x code maxLocals ret :: tables_1) room_1 (fun tb e args s => Calls_1 tb e args s ∧ rest_1 tb e args s ∧ Pre_1 tb e args s)
    (fun _ _ args s o t => lw_Q args s o t) := by
  intro p e ha hc hk s m args below hf hfit hheap happ hpre
  obtain ⟨b, xs, hP⟩ := lw_pre_spec hpre.2.2 hpre.2.1
  obtain ⟨k, o, h1, h2, h3, hQ⟩ := lw_walk l hflags b xs p e ha hc hk s m args below hf ((Spec.applies_iff_loose hf).mp happ).1 hP trivial
  exact ⟨k, o, h1, h2, h3, hQ⟩
theorem lw_frame {s t : State} {o : Outcome} {args : Array Value} (h : Framed s o t [] 600000 7302250) :
    Framed s o t (fieldLocs frame_1_writes args s ++ arrayLocs frame_1_arrays args s ++ staticLocs frame_1_statics s) 600000 7302250 := h
theorem lw_limb (L : Cond) (hL : ∀ (args : Array Value) (s t : State), L.after args s (.returned (some (.int 1))) t = true) :
    ArmFor flags0 classFile x code maxLocals ret World_1 tables_1 room_1 Calls_1 rest_1 Pre_1
      (fun tb e a s o t => postC L tb e a s o t ∧ Framed s o t (fieldLocs frame_1_writes a s ++ arrayLocs frame_1_arrays a s ++ staticLocs frame_1_statics s) 600000 7302250) := by
  intro l hflags _ _ p e ha hc hk s m args below hf hfit hheap happ hpre
  obtain ⟨k, o, h1, h2, h3, rfl, hF⟩ := lw_comes l hflags p e ha hc hk s m args below hf hfit hheap happ hpre
  exact ⟨k, _, h1, h2, h3, hL args s _, lw_frame hF⟩
theorem i_vc : Claimed_1_1 ∧ Claimed_1_2 := ⟨lw_limb limb_1_1 (fun args s t => by simp [limb_1_1, Cond.after, Cond.holds, Cond.value]), lw_limb limb_1_2 (fun args s t => Cond.after_iff.mpr (by
  first | (rw [show limb_1_2 = Cond.eq .result (.int 1) from rfl, Cond.eq_ints (x := 1) (y := 1) rfl rfl]; simp; done) | (simp [limb_1_2, Cond.value, Term.eval]; done)))⟩
