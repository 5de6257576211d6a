/-! THE MODEL'S STATE WHOLE, AND ITS CHANGES -/
def zn_cut : List Nat := [0, 3, 7, 11, 15, 19, 22, 26, 31, 34, 38, 43, 48, 52]
def zn_let : List Int32 := [111, 110, 101, 102, 97, 99, 116, 103, 111, 110, 101, 111, 100, 100, 115, 114, 117, 108, 101, 97, 110, 121, 98, 111, 114, 110, 116, 114, 105, 101, 100, 107, 105, 110, 98, 97, 114, 101, 102, 105, 114, 115, 116, 116, 104, 105, 114, 100, 108, 97, 115, 116]
def zn_mst : List Int32 := [9, 6, 4, 3, 5, 5]
def zM_k (σ : zq_T) : Prop := (∀ i, i < 14 → σ.1 38 0 i = nI (zn_cut.getD i 0)) ∧ (∀ i, i < 52 → σ.1 39 0 i = zn_let.getD i 0) ∧ ∀ i, i < 6 → σ.1 40 0 i = zn_mst.getD i 0
def zM_h (σ : zq_T) (B : za_H) : Prop := (∀ k, k < 4 → σ.1 45 0 k = B.1 k ∧ σ.1 46 0 k = B.2.1 k) ∧ ∀ k, k < 4 → ∀ i, i < 40 → σ.1 47 0 (40 * k + i) = B.2.2 k i
def zM_o (σ : zq_T) (X : za_X) : Prop := (σ.1 30 0 13 = nI (zx_T X).1 ∧ ∀ i, i < (zx_T X).1 → σ.1 37 0 i = (zx_T X).2 i) ∧ (σ.1 30 0 14 = (zx_f X).1 ∧ σ.1 30 0 33 = (zx_f X).2) ∧ (σ.1 30 0 28 = nI (zx_s X).1 ∧ ∀ i, i < (zx_s X).1 → σ.1 43 0 (2 * i) = (zx_s X).2.1 i ∧ σ.1 43 0 (2 * i + 1) = (zx_s X).2.2 i) ∧ (σ.1 44 0 0 = zb_v (zx_I X).1 ∧ σ.1 44 0 1 = zb_v (zx_J X).1)
def zM_i (σ : zq_T) (X : za_X) : Prop := ((zx_I X).1 = true → zn_pg σ 28 (zx_I X).2) ∧ ((zx_J X).1 = true → zn_pg σ 56 (zx_J X).2)
def zM_rep (σ : zq_T) (X : za_X) : Prop := zn_rep σ (zx_A X) ∧ zM_i σ X ∧ zM_o σ X ∧ zM_h σ (zx_B X) ∧ zM_k σ
/-- but for a page of the state all is the same -/
def zp_same (o : Nat) (σ τ : zq_T) : Prop := τ.2 = σ.2 ∧ ∀ (t : Nat) (j : Fin 5) (k : Nat), ¬ (t = 31 ∧ o ≤ k ∧ k < o + 28) → τ.1 t j k = σ.1 t j k
theorem zp_same.rf {o : Nat} {σ : zq_T} : zp_same o σ σ := ⟨rfl, fun _ _ _ _ => rfl⟩
theorem zp_same.tr {o : Nat} {σ τ υ : zq_T} (h : zp_same o σ τ) (h2 : zp_same o τ υ) : zp_same o σ υ := ⟨h2.1.trans h.1, fun t j k q => (h2.2 t j k q).trans (h.2 t j k q)⟩
theorem zp_same.up {o : Nat} {σ τ : zq_T} (h : zp_same o σ τ) {k : Nat} {j : Fin 5} {v : Int32} (h1 : o ≤ k) (h2 : k < o + 28) : zp_same o σ (zq_up τ.1 31 j k v, τ.2) :=
  ⟨h.1, fun t' j' k' q => by
    show zq_up τ.1 31 j k v t' j' k' = σ.1 t' j' k'
    rw [← h.2 t' j' k' q]
    exact if_neg fun z => q ⟨z.1, by omega, by omega⟩⟩
theorem zp_same.M {o : Nat} {σ τ : zq_T} (h : zp_same o σ τ) : zg_M σ τ := ⟨by rw [h.1], fun t j k q => h.2 t j k (by omega)⟩
theorem zg_M.rf {σ : zq_T} : zg_M σ σ := ⟨rfl, fun _ _ _ _ => rfl⟩
theorem zg_M.tr {σ τ υ : zq_T} (h : zg_M σ τ) (h2 : zg_M τ υ) : zg_M σ υ := ⟨h2.1.trans h.1, fun t j k q => (h2.2 t j k q).trans (h.2 t j k q)⟩
theorem zn_st.keep {σ τ : zq_T} {A : za_D} (h : zn_st σ A) (he : ∀ t k, (t = 30 ∧ (k = 3 ∨ k = 4)) ∨ t = 32 ∨ t = 33 → τ.1 t 0 k = σ.1 t 0 k) : zn_st τ A :=
  ⟨h.1, h.2.1, (he _ _ (by omega)).trans h.2.2.1, (he _ _ (by omega)).trans h.2.2.2.1, fun i hi => (he _ _ (by omega)).trans (h.2.2.2.2.1 i hi), fun k hk => ⟨(he _ _ (by omega)).trans (h.2.2.2.2.2 k hk).1, (he _ _ (by omega)).trans (h.2.2.2.2.2 k hk).2.1, (he _ _ (by omega)).trans (h.2.2.2.2.2 k hk).2.2⟩⟩
theorem zn_pg.keep {σ τ : zq_T} {o : Nat} {A : za_D} (h : zn_pg σ o A) (hm : za_m A ≤ 5) (he : ∀ k, o ≤ k → k < o + 28 → τ.1 31 0 k = σ.1 31 0 k) : zn_pg τ o A :=
  ⟨fun i hi => ⟨(he _ (by omega) (by omega)).trans (h.1 i hi).1, (he _ (by omega) (by omega)).trans (h.1 i hi).2⟩, (he _ (by omega) (by omega)).trans h.2.1, fun f hf => (he _ (by omega) (by omega)).trans (h.2.2.1 f hf), fun k hk => ⟨(he _ (by omega) (by omega)).trans (h.2.2.2 k hk).1, (he _ (by omega) (by omega)).trans (h.2.2.2 k hk).2⟩⟩
theorem zM_o.keep {σ τ : zq_T} {X : za_X} (h : zM_o σ X) (he : ∀ t k, (t = 30 ∧ (k = 13 ∨ k = 14 ∨ k = 33 ∨ k = 28)) ∨ t = 37 ∨ t = 43 ∨ t = 44 → τ.1 t 0 k = σ.1 t 0 k) : zM_o τ X :=
  ⟨⟨(he _ _ (by omega)).trans h.1.1, fun i hi => (he _ _ (by omega)).trans (h.1.2 i hi)⟩, ⟨(he _ _ (by omega)).trans h.2.1.1, (he _ _ (by omega)).trans h.2.1.2⟩, ⟨(he _ _ (by omega)).trans h.2.2.1.1, fun i hi => ⟨(he _ _ (by omega)).trans (h.2.2.1.2 i hi).1, (he _ _ (by omega)).trans (h.2.2.1.2 i hi).2⟩⟩, (he _ _ (by omega)).trans h.2.2.2.1, (he _ _ (by omega)).trans h.2.2.2.2⟩
theorem zM_h.keep {σ τ : zq_T} {B : za_H} (h : zM_h σ B) (he : ∀ t k, 45 ≤ t → t ≤ 47 → τ.1 t 0 k = σ.1 t 0 k) : zM_h τ B :=
  ⟨fun k hk => ⟨(he _ _ (by omega) (by omega)).trans (h.1 k hk).1, (he _ _ (by omega) (by omega)).trans (h.1 k hk).2⟩, fun k hk i hi => (he _ _ (by omega) (by omega)).trans (h.2 k hk i hi)⟩
theorem zM_k.keep {σ τ : zq_T} (h : zM_k σ) (he : ∀ t k, 38 ≤ t → t ≤ 40 → τ.1 t 0 k = σ.1 t 0 k) : zM_k τ :=
  ⟨fun i hi => (he _ _ (by omega) (by omega)).trans (h.1 i hi), fun i hi => (he _ _ (by omega) (by omega)).trans (h.2.1 i hi), fun i hi => (he _ _ (by omega) (by omega)).trans (h.2.2 i hi)⟩
theorem zx_m5 {σ : zq_T} {X : za_X} (h : zn_rep σ (zx_A X)) (hW : zx_wf X) : ((zx_I X).1 = true → za_m (zx_I X).2 ≤ 5) ∧ ((zx_J X).1 = true → za_m (zx_J X).2 ≤ 5) :=
  ⟨fun q => by rw [← (hW.2.2.2.2.1 q).2.2.1]; exact h.1.2.1, fun q => by rw [← (hW.2.2.2.2.2 q).2.2.1]; exact h.1.2.1⟩
theorem zM_rep.duchy {σ τ : zq_T} {X : za_X} {A' : za_D} (h : zM_rep σ X) (hW : zx_wf X) (hs : zp_same 0 σ τ) (hA : zn_rep τ A') : zM_rep τ (A', X.2) :=
  ⟨hA, ⟨fun q => (h.2.1.1 q).keep ((zx_m5 h.1 hW).1 q) fun k _ _ => hs.2 _ _ _ (by omega), fun q => (h.2.1.2 q).keep ((zx_m5 h.1 hW).2 q) fun k _ _ => hs.2 _ _ _ (by omega)⟩, zM_o.keep (X := (A', X.2)) h.2.2.1 fun t k _ => hs.2 _ _ _ (by omega), h.2.2.2.1.keep fun t k _ _ => hs.2 _ _ _ (by omega), h.2.2.2.2.keep fun t k _ _ => hs.2 _ _ _ (by omega)⟩
section NUP
variable {σ : zq_T} {A : za_D}
theorem zn_rep.to {A' : za_D} (h : zn_rep σ A') (e : A' = A) : zn_rep σ A := e ▸ h
theorem zn_rep.up (h : zn_rep σ A) {A' : za_D} {i : Nat} {v : Int32} (hs : zn_st σ A') (hp : (∀ q, q < 6 → (if q = i then v else σ.1 31 0 q) = za_fa A' q ∧ (if 6 + q = i then v else σ.1 31 0 (6 + q)) = za_tr A' q) ∧ (if 12 = i then v else σ.1 31 0 12) = za_g A' ∧ (∀ f, f < 5 → (if 13 + f = i then v else σ.1 31 0 (13 + f)) = za_od A' f - 5) ∧ ∀ k, k < za_m A' → (if 18 + k = i then v else σ.1 31 0 (18 + k)) = za_rk A' k ∧ (if 23 + k = i then v else σ.1 31 0 (23 + k)) = za_pi A' k) : zn_rep (zq_up σ.1 31 0 i v, σ.2) A' := by
  have e : ∀ k, ((zq_up σ.1 31 0 i v, σ.2) : zq_T).1 31 0 k = if k = i then v else σ.1 31 0 k := fun k => by
    show zq_up σ.1 31 0 i v 31 0 k = _
    unfold zq_up
    by_cases z : k = i
    · rw [if_pos ⟨rfl, rfl, z⟩, if_pos z]
    · rw [if_neg (fun y => z y.2.2), if_neg z]
  refine ⟨hs.keep fun t k q => zq_upN (by omega), ?_, ?_, ?_, ?_⟩
  · intro q hq
    rw [Nat.zero_add, Nat.zero_add, e, e]; exact hp.1 q hq
  · rw [Nat.zero_add, e]; exact hp.2.1
  · intro q hq
    rw [Nat.zero_add, e]; exact hp.2.2.1 q hq
  · intro q hq
    rw [Nat.zero_add, Nat.zero_add, e, e]; exact hp.2.2.2 q hq
theorem zn_rep.sg (h : zn_rep σ A) (v : Int32) : zn_rep (zq_up σ.1 31 0 12 v, σ.2) (za_sg A v) := by
  refine h.up h.1 ⟨fun q hq => ?_, rfl, fun f hf => ?_, fun k hk => ?_⟩
  · rw [if_neg (by omega), if_neg (by omega)]; exact ⟨zn_fa (A := A) h hq, zn_tr (A := A) h hq⟩
  · rw [if_neg (by omega)]; exact zn_od (A := A) h hf
  · rw [if_neg (by omega), if_neg (by omega)]; exact ⟨zn_rk (A := A) h hk, zn_pi (A := A) h hk⟩
theorem zn_rep.sf (h : zn_rep σ A) {p : Nat} (hp : p < 6) (v : Int32) : zn_rep (zq_up σ.1 31 0 p v, σ.2) (za_sf A (upd (za_fa A) p v)) := by
  have hm := zn_m5 h
  refine h.up h.1 ⟨fun q hq => ?_, ?_, fun f hf => ?_, fun k hk => ?_⟩
  · rw [if_neg (c := 6 + q = p) (by omega)]
    refine ⟨?_, zn_tr (A := A) h hq⟩
    show _ = upd (za_fa A) p v q
    unfold upd
    split
    · rfl
    · exact zn_fa (A := A) h hq
  · rw [if_neg (by omega)]; exact zn_g (A := A) h
  · rw [if_neg (by omega)]; exact zn_od (A := A) h hf
  · rw [if_neg (by omega), if_neg (by omega)]; exact ⟨zn_rk (A := A) h hk, zn_pi (A := A) h hk⟩
theorem zn_rep.st (h : zn_rep σ A) {p : Nat} (hp : p < 6) (v : Int32) : zn_rep (zq_up σ.1 31 0 (6 + p) v, σ.2) (za_st A (upd (za_tr A) p v)) := by
  have hm := zn_m5 h
  refine h.up h.1 ⟨fun q hq => ?_, ?_, fun f hf => ?_, fun k hk => ?_⟩
  · rw [if_neg (c := q = 6 + p) (by omega)]
    refine ⟨zn_fa (A := A) h hq, ?_⟩
    show _ = upd (za_tr A) p v q
    unfold upd
    by_cases z : q = p
    · rw [if_pos (by omega), if_pos z]
    · rw [if_neg (by omega), if_neg z]; exact zn_tr (A := A) h hq
  · rw [if_neg (by omega)]; exact zn_g (A := A) h
  · rw [if_neg (by omega)]; exact zn_od (A := A) h hf
  · rw [if_neg (by omega), if_neg (by omega)]; exact ⟨zn_rk (A := A) h hk, zn_pi (A := A) h hk⟩
theorem zn_rep.so (h : zn_rep σ A) {p : Nat} (hp : p < 5) (v : Int32) : zn_rep (zq_up σ.1 31 0 (13 + p) (v - 5), σ.2) (za_so A (upd (za_od A) p v)) := by
  have hm := zn_m5 h
  refine h.up h.1 ⟨fun q hq => ?_, ?_, fun f hf => ?_, fun k hk => ?_⟩
  · rw [if_neg (by omega), if_neg (by omega)]; exact ⟨zn_fa (A := A) h hq, zn_tr (A := A) h hq⟩
  · rw [if_neg (by omega)]; exact zn_g (A := A) h
  · show _ = upd (za_od A) p v f - 5
    unfold upd
    by_cases z : f = p
    · rw [if_pos (by omega), if_pos z]
    · rw [if_neg (by omega), if_neg z]; exact zn_od (A := A) h hf
  · rw [if_neg (by omega), if_neg (by omega)]; exact ⟨zn_rk (A := A) h hk, zn_pi (A := A) h hk⟩
theorem zn_rep.sr (h : zn_rep σ A) {p : Nat} (hp : p < 5) (v : Int32) : zn_rep (zq_up σ.1 31 0 (18 + p) v, σ.2) (za_sr A (upd (za_rk A) p v)) := by
  have hm := zn_m5 h
  refine h.up h.1 ⟨fun q hq => ?_, ?_, fun f hf => ?_, fun k hk => ?_⟩
  · rw [if_neg (by omega), if_neg (by omega)]; exact ⟨zn_fa (A := A) h hq, zn_tr (A := A) h hq⟩
  · rw [if_neg (by omega)]; exact zn_g (A := A) h
  · rw [if_neg (by omega)]; exact zn_od (A := A) h hf
  · have hk2 : k < za_m A := hk
    rw [if_neg (c := 23 + k = 18 + p) (by omega)]
    refine ⟨?_, zn_pi (A := A) h hk⟩
    show _ = upd (za_rk A) p v k
    unfold upd
    by_cases z : k = p
    · rw [if_pos (by omega), if_pos z]
    · rw [if_neg (by omega), if_neg z]; exact zn_rk (A := A) h hk
theorem zn_rep.sp (h : zn_rep σ A) {p : Nat} (hp : p < 5) (v : Int32) : zn_rep (zq_up σ.1 31 0 (23 + p) v, σ.2) (za_sp A (upd (za_pi A) p v)) := by
  have hm := zn_m5 h
  refine h.up h.1 ⟨fun q hq => ?_, ?_, fun f hf => ?_, fun k hk => ?_⟩
  · rw [if_neg (by omega), if_neg (by omega)]; exact ⟨zn_fa (A := A) h hq, zn_tr (A := A) h hq⟩
  · rw [if_neg (by omega)]; exact zn_g (A := A) h
  · rw [if_neg (by omega)]; exact zn_od (A := A) h hf
  · have hk2 : k < za_m A := hk
    rw [if_neg (c := 18 + k = 23 + p) (by omega)]
    refine ⟨zn_rk (A := A) h hk, ?_⟩
    show _ = upd (za_pi A) p v k
    unfold upd
    by_cases z : k = p
    · rw [if_pos (by omega), if_pos z]
    · rw [if_neg (by omega), if_neg z]; exact zn_pi (A := A) h hk
end NUP

