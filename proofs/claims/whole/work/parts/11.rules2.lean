/-! rules in the form that the written walks use -/
def zb_v (b : Bool) : Int32 := if b then 1 else 0
theorem zb_nar (b : Bool) : narrow .boolean (.int (zb_v b)) = .int (zb_v b) := by cases b <;> rfl
theorem zb_t : zb_v true = 1 := rfl
theorem zb_f : zb_v false = 0 := rfl
section RW
variable {ν : zq_E} {M : zq_M} {h : Nat} {Q : Option zq_V → zq_T → Prop} {pc : Nat} {ls : List (Option zq_V)} {st : List zq_V} {σ : zq_T}
theorem gw_istore (i : Nat) {x : Int32} (hd : decode M.2.1 pc = .ok (.istore i, 2)) (hi : i + 1 ≤ M.2.2.1) (hnl : zq_nl ls i = true) (k : zq_G ν M h Q (pc + 2) (ls.set i (some (zq_I x))) st σ) : zq_G ν M h Q pc ls (zq_I x :: st) σ := gq_istore hd hi hnl k
theorem gw_istore_n (i : Nat) {n : Fin 4} {x : Int32} (hd : decode M.2.1 pc = .ok (.istore_n n, 1)) (hn : (n : Nat) = i) (hi : i + 1 ≤ M.2.2.1) (hnl : zq_nl ls i = true) (k : zq_G ν M h Q (pc + 1) (ls.set i (some (zq_I x))) st σ) : zq_G ν M h Q pc ls (zq_I x :: st) σ := by
  subst hn
  exact gq_istore_n hd hi hnl k
theorem gw_astore (i : Nat) {t : Nat} {j : Fin 5} (hd : decode M.2.1 pc = .ok (.astore i, 2)) (hi : i + 1 ≤ M.2.2.1) (hnl : zq_nl ls i = true) (k : zq_G ν M h Q (pc + 2) (ls.set i (some (zq_O t j))) st σ) : zq_G ν M h Q pc ls (zq_O t j :: st) σ := gq_astore hd hi hnl k
theorem gw_astore_n (i : Nat) {n : Fin 4} {t : Nat} {j : Fin 5} (hd : decode M.2.1 pc = .ok (.astore_n n, 1)) (hn : (n : Nat) = i) (hi : i + 1 ≤ M.2.2.1) (hnl : zq_nl ls i = true) (k : zq_G ν M h Q (pc + 1) (ls.set i (some (zq_O t j))) st σ) : zq_G ν M h Q pc ls (zq_O t j :: st) σ := by
  subst hn
  exact gq_astore_n hd hi hnl k
theorem gw_lstore (i : Nat) {x : Int64} (hd : decode M.2.1 pc = .ok (.lstore i, 2)) (hi : i + 1 + 1 ≤ M.2.2.1) (hnl : zq_nl ls i = true) (k : zq_G ν M h Q (pc + 2) ((ls.set i (some (zq_L x))).set (i + 1) none) st σ) : zq_G ν M h Q pc ls (zq_L x :: st) σ := gq_lstore hd hi hnl k
theorem gw_lstore_n (i : Nat) {n : Fin 4} {x : Int64} (hd : decode M.2.1 pc = .ok (.lstore_n n, 1)) (hn : (n : Nat) = i) (hi : i + 1 + 1 ≤ M.2.2.1) (hnl : zq_nl ls i = true) (k : zq_G ν M h Q (pc + 1) ((ls.set i (some (zq_L x))).set (i + 1) none) st σ) : zq_G ν M h Q pc ls (zq_L x :: st) σ := by
  subst hn
  exact gq_lstore_n hd hi hnl k
theorem gw_iinc (i : Nat) {n : Int} {x c : Int32} (hd : decode M.2.1 pc = .ok (.iinc i n, 3)) (hl : ls[i]? = some (some (zq_I x))) (hc : Int32.ofInt n = c) (hi : i + 1 ≤ M.2.2.1) (hnl : zq_nl ls i = true) (k : zq_G ν M h Q (pc + 3) (ls.set i (some (zq_I (x + c)))) st σ) : zq_G ν M h Q pc ls st σ := gq_iinc hd hl (by rw [hc]) hi hnl k
theorem gw_ifb_eq {b : Bool} {off : Int} {tgt : Nat} (hd : decode M.2.1 pc = .ok (.ifCond .eq off, 3)) (ht : (pc : Int) + off = (tgt : Int)) (kt : b = false → zq_G ν M h Q tgt ls st σ) (kf : b = true → zq_G ν M h Q (pc + 3) ls st σ) : zq_G ν M h Q pc ls (zq_I (zb_v b) :: st) σ :=
  gq_if_eq hd ht (fun q => kt (by cases b; rfl; exact absurd q (by decide))) (fun q => kf (by cases b; exact absurd rfl q; rfl))
theorem gw_ifb_ne {b : Bool} {off : Int} {tgt : Nat} (hd : decode M.2.1 pc = .ok (.ifCond .ne off, 3)) (ht : (pc : Int) + off = (tgt : Int)) (kt : b = true → zq_G ν M h Q tgt ls st σ) (kf : b = false → zq_G ν M h Q (pc + 3) ls st σ) : zq_G ν M h Q pc ls (zq_I (zb_v b) :: st) σ :=
  gq_if_ne hd ht (fun q => kt (by cases b; exact absurd rfl q; rfl)) (fun q => kf (by cases b; rfl; exact absurd q (by decide)))
theorem gw_iret (ty : FieldType) {x v : Int32} {τ : zq_T} (hd : decode M.2.1 pc = .ok (.ireturn, 1)) (hr : M.2.2.2 = some ty) (hn : narrow ty (.int x) = .int x) (hx : x = v) (hs : σ = τ) : zq_G ν M h (zq_rv (zq_I v) τ) pc ls [zq_I x] σ := gq_ireturn (st := []) ty hd hr hn ⟨by rw [hx], hs⟩
theorem gw_lret {x v : Int64} {τ : zq_T} (hd : decode M.2.1 pc = .ok (.lreturn, 1)) (hr : M.2.2.2 = some .long) (hx : x = v) (hs : σ = τ) : zq_G ν M h (zq_rv (zq_L v) τ) pc ls [zq_L x] σ := gq_lreturn (st := []) hd hr ⟨by rw [hx], hs⟩
theorem gw_aret {C : String} {t : Nat} {j : Fin 5} {v : zq_V} {τ : zq_T} (hd : decode M.2.1 pc = .ok (.areturn, 1)) (hr : M.2.2.2 = some (.object C)) (hx : zq_O t j = v) (hs : σ = τ) : zq_G ν M h (zq_rv v τ) pc ls [zq_O t j] σ := gq_areturn (st := []) hd hr ⟨by rw [hx], hs⟩
theorem gw_vret {τ : zq_T} (hd : decode M.2.1 pc = .ok (.return_, 1)) (hr : M.2.2.2 = none) (hs : σ = τ) : zq_G ν M h (zq_r0 τ) pc ls [] σ := gq_return (st := []) hd hr ⟨rfl, hs⟩
end RW
/-- a switched number that is none of the cases -/
theorem zq_ne {x k : Int32} (h : ¬ x = k) : x.toInt ≠ k.toInt := fun q => h (Int32.toInt_inj.mp q)
/-! THE ABSTRACT DUCHY: how many people, rules, who are gone, and by number: parent (-4: none), facts, tries; odds of facts; rank, thing, claim, number, pick of rules -/
abbrev za_D : Type := Nat × Nat × Int32 × (Nat → Int32) × (Nat → Int32) × (Nat → Int32) × (Nat → Int32) × (Nat → Int32) × (Nat → Int32) × (Nat → Int32) × (Nat → Int32) × (Nat → Int32)
abbrev za_n (A : za_D) : Nat := A.1
abbrev za_m (A : za_D) : Nat := A.2.1
abbrev za_g (A : za_D) : Int32 := A.2.2.1
abbrev za_pa (A : za_D) : Nat → Int32 := A.2.2.2.1
abbrev za_fa (A : za_D) : Nat → Int32 := A.2.2.2.2.1
abbrev za_tr (A : za_D) : Nat → Int32 := A.2.2.2.2.2.1
abbrev za_od (A : za_D) : Nat → Int32 := A.2.2.2.2.2.2.1
abbrev za_rk (A : za_D) : Nat → Int32 := A.2.2.2.2.2.2.2.1
abbrev za_th (A : za_D) : Nat → Int32 := A.2.2.2.2.2.2.2.2.1
abbrev za_cl (A : za_D) : Nat → Int32 := A.2.2.2.2.2.2.2.2.2.1
abbrev za_nu (A : za_D) : Nat → Int32 := A.2.2.2.2.2.2.2.2.2.2.1
abbrev za_pi (A : za_D) : Nat → Int32 := A.2.2.2.2.2.2.2.2.2.2.2
def zb_bit (a p : Int32) : Bool := decide (¬ (a >>> (p &&& 31)) &&& 1 = 0)
theorem zb_bit_t {a p : Int32} (h : ¬ (a >>> (p &&& 31)) &&& 1 = 0) : zb_bit a p = true := decide_eq_true h
theorem zb_bit_f {a p : Int32} (h : (a >>> (p &&& 31)) &&& 1 = 0) : zb_bit a p = false := decide_eq_false (fun q => q h)
/-- whether v is a parent of p, or of his parent, and so on: p's line, p + 1 steps at most -/
def za_up (pa : Nat → Int32) : Nat → Nat → Nat → Bool
  | 0, _, _ => false
  | s + 1, p, v => if pa p < 0 then false else (pa p == nI v) || za_up pa s (pa p).toNatClampNeg v
def za_kin (A : za_D) (p v : Nat) : Bool := za_up (za_pa A) 6 p v
def zc_rep (σ : zq_T) (d : Fin 5) (A : za_D) : Prop := za_n A ≤ 6 ∧ za_m A ≤ 5 ∧ σ.1 10 d 0 = nI (za_n A) ∧ σ.1 10 d 1 = za_g A ∧ σ.1 10 d 2 = nI (za_m A) ∧ (∀ i, i < za_n A → σ.1 11 d i = za_pa A i ∧ (∀ v, v < 6 → zb_bit (σ.1 12 d i) (nI v) = za_kin A i v)) ∧ (∀ i, i < 6 → σ.1 13 d i = za_fa A i ∧ σ.1 14 d i = za_tr A i) ∧ (∀ f, f < 5 → σ.1 15 d f = za_od A f) ∧ (∀ k, k < za_m A → σ.1 16 d k = za_rk A k ∧ σ.1 17 d k = za_th A k ∧ σ.1 18 d k = za_cl A k ∧ σ.1 19 d k = za_nu A k ∧ σ.1 20 d k = za_pi A k)
section REP
variable {σ : zq_T} {d : Fin 5} {A : za_D}
theorem zc_n6 (h : zc_rep σ d A) : za_n A ≤ 6 := h.1
theorem zc_m5 (h : zc_rep σ d A) : za_m A ≤ 5 := h.2.1
theorem zc_n (h : zc_rep σ d A) : σ.1 10 d 0 = nI (za_n A) := h.2.2.1
theorem zc_g (h : zc_rep σ d A) : σ.1 10 d 1 = za_g A := h.2.2.2.1
theorem zc_m (h : zc_rep σ d A) : σ.1 10 d 2 = nI (za_m A) := h.2.2.2.2.1
theorem zc_pa (h : zc_rep σ d A) {i : Nat} (hi : i < za_n A) : σ.1 11 d i = za_pa A i := (h.2.2.2.2.2.1 i hi).1
theorem zc_an (h : zc_rep σ d A) {i v : Nat} (hi : i < za_n A) (hv : v < 6) : zb_bit (σ.1 12 d i) (nI v) = za_kin A i v := (h.2.2.2.2.2.1 i hi).2 v hv
theorem zc_fa (h : zc_rep σ d A) {i : Nat} (hi : i < 6) : σ.1 13 d i = za_fa A i := (h.2.2.2.2.2.2.1 i hi).1
theorem zc_tr (h : zc_rep σ d A) {i : Nat} (hi : i < 6) : σ.1 14 d i = za_tr A i := (h.2.2.2.2.2.2.1 i hi).2
theorem zc_od (h : zc_rep σ d A) {f : Nat} (hf : f < 5) : σ.1 15 d f = za_od A f := h.2.2.2.2.2.2.2.1 f hf
theorem zc_rk (h : zc_rep σ d A) {k : Nat} (hk : k < za_m A) : σ.1 16 d k = za_rk A k := (h.2.2.2.2.2.2.2.2 k hk).1
theorem zc_th (h : zc_rep σ d A) {k : Nat} (hk : k < za_m A) : σ.1 17 d k = za_th A k := (h.2.2.2.2.2.2.2.2 k hk).2.1
theorem zc_cl (h : zc_rep σ d A) {k : Nat} (hk : k < za_m A) : σ.1 18 d k = za_cl A k := (h.2.2.2.2.2.2.2.2 k hk).2.2.1
theorem zc_nu (h : zc_rep σ d A) {k : Nat} (hk : k < za_m A) : σ.1 19 d k = za_nu A k := (h.2.2.2.2.2.2.2.2 k hk).2.2.2.1
theorem zc_pi (h : zc_rep σ d A) {k : Nat} (hk : k < za_m A) : σ.1 20 d k = za_pi A k := (h.2.2.2.2.2.2.2.2 k hk).2.2.2.2
end REP
/-- a number that is a place below n -/
def zb_in (x : Int32) (n : Nat) : Bool := decide (0 ≤ x ∧ x < nI n)
theorem zb_in_iff {x : Int32} {n : Nat} (hn : n < 2 ^ 31) : zb_in x n = true ↔ ∃ i : Nat, i < n ∧ x = nI i := by
  constructor
  · intro h
    have h1 := of_decide_eq_true h
    obtain ⟨j, hj, rfl⟩ := nI_of (x := x) (by have := h1.1; rw [Int32.le_iff_toInt_le] at this; rw [Int32.lt_iff_toInt_lt]; omega)
    exact ⟨j, (nI_ltI hj hn).mp h1.2, rfl⟩
  · rintro ⟨i, hi, rfl⟩
    exact decide_eq_true ⟨nI_pos' (by omega), nI_lt hi hn⟩
theorem zb_in_nI {i n : Nat} (h : i < n) (hn : n < 2 ^ 31) : zb_in (nI i) n = true := (zb_in_iff hn).mpr ⟨i, h, rfl⟩
theorem zb_in_lt {x : Int32} {n : Nat} (h : x < 0) : zb_in x n = false := decide_eq_false (fun q => by have := q.1; rw [Int32.le_iff_toInt_le] at this; rw [Int32.lt_iff_toInt_lt] at h; omega)
theorem zb_in_ge {x : Int32} {n : Nat} (h : nI n ≤ x) : zb_in x n = false := decide_eq_false (fun q => by have := q.2; rw [Int32.lt_iff_toInt_lt] at this; rw [Int32.le_iff_toInt_le] at h; omega)
theorem zb_in_of {x : Int32} {n : Nat} (h : ¬ x < 0) (h2 : ¬ nI n ≤ x) : zb_in x n = true := decide_eq_true (by rw [Int32.lt_iff_toInt_lt] at h; rw [Int32.le_iff_toInt_le] at h2; rw [Int32.le_iff_toInt_le, Int32.lt_iff_toInt_lt]; have : (0 : Int32).toInt = 0 := rfl; omega)
/-- how many below n -/
def zf_ct (P : Nat → Bool) : Nat → Nat
  | 0 => 0
  | n + 1 => zf_ct P n + (if P n then 1 else 0)
/-- bits of those below n -/
def zf_or (P : Nat → Bool) : Nat → Int32
  | 0 => 0
  | n + 1 => if P n then zf_or P n ||| (1 <<< (nI n &&& 31)) else zf_or P n
theorem zf_ct_t {P : Nat → Bool} {n : Nat} (h : P n = true) : zf_ct P (n + 1) = zf_ct P n + 1 := by simp [zf_ct, h]
theorem zf_ct_f {P : Nat → Bool} {n : Nat} (h : P n = false) : zf_ct P (n + 1) = zf_ct P n := by simp [zf_ct, h]
theorem zf_or_t {P : Nat → Bool} {n : Nat} (h : P n = true) : zf_or P (n + 1) = zf_or P n ||| (1 <<< (nI n &&& 31)) := by simp [zf_or, h]
theorem zf_or_f {P : Nat → Bool} {n : Nat} (h : P n = false) : zf_or P (n + 1) = zf_or P n := by simp [zf_or, h]
/-- what the abstract duchy answers -/
def zs_born (A : za_D) (p : Nat) (ab : Int32) : Nat → Bool := fun q => (za_pa A q == za_pa A p) && !zb_bit ab (nI q)
def zs_place (A : za_D) (p : Nat) (ab : Int32) : Nat := if zb_bit ab (nI p) then 0 else zf_ct (zs_born A p ab) (p + 1)
def zs_chd (A : za_D) (p : Nat) (ab : Int32) : Nat → Bool := fun q => (za_pa A q == nI p) && !zb_bit ab (nI q)
def zs_child (A : za_D) (p : Nat) (ab : Int32) : Nat := zf_ct (zs_chd A p ab) (za_n A)
section RX
variable {ν : zq_E} {M : zq_M} {h : Nat} {Q : Option zq_V → zq_T → Prop} {pc : Nat} {ls : List (Option zq_V)} {st : List zq_V} {σ : zq_T}
theorem zq_cl31 {i n : Nat} (hi : i < n) (hn : n ≤ 1000) : (nI i).toNatClampNeg = i := nI_clamp (by omega)
theorem gw_iald (i : Nat) {x : Int32} (hx : x = nI i) {t n : Nat} {j : Fin 5} (hkd : zq_kd t = (1, n, 0)) (hv : zq_vd t j = true) (hn : n ≤ 1000) (hi : i < n) (hd : decode M.2.1 pc = .ok (.iaload, 1)) (kk : zq_G ν M h Q (pc + 1) ls (zq_I (σ.1 t j i) :: st) σ) : zq_G ν M h Q pc ls (zq_I x :: zq_O t j :: st) σ := by
  subst hx
  exact gq_iald hkd hv (vp_in_nI hi (by omega)) hd (by rw [zq_cl31 hi hn]; exact kk)
theorem gw_bald (i : Nat) {x : Int32} (hx : x = nI i) {t n : Nat} {j : Fin 5} (hkd : zq_kd t = (2, n, 0)) (hv : zq_vd t j = true) (hn : n ≤ 1000) (hi : i < n) (hd : decode M.2.1 pc = .ok (.baload, 1)) (kk : zq_G ν M h Q (pc + 1) ls (zq_I (σ.1 t j i) :: st) σ) : zq_G ν M h Q pc ls (zq_I x :: zq_O t j :: st) σ := by
  subst hx
  exact gq_bald hkd hv (vp_in_nI hi (by omega)) hd (by rw [zq_cl31 hi hn]; exact kk)
theorem gw_zald (i : Nat) {x : Int32} (hx : x = nI i) {t n : Nat} {j : Fin 5} (hkd : zq_kd t = (4, n, 0)) (hv : zq_vd t j = true) (hn : n ≤ 1000) (hi : i < n) (hd : decode M.2.1 pc = .ok (.baload, 1)) (kk : zq_G ν M h Q (pc + 1) ls (zq_I (σ.1 t j i) :: st) σ) : zq_G ν M h Q pc ls (zq_I x :: zq_O t j :: st) σ := by
  subst hx
  exact gq_zald hkd hv (vp_in_nI hi (by omega)) hd (by rw [zq_cl31 hi hn]; exact kk)
theorem gw_lald (i : Nat) {x : Int32} (hx : x = nI i) {t n : Nat} {j : Fin 5} (hkd : zq_kd t = (3, n, 0)) (hv : zq_vd t j = true) (hn : n ≤ 1000) (hi : i < n) (hd : decode M.2.1 pc = .ok (.laload, 1)) (kk : zq_G ν M h Q (pc + 1) ls (zq_L (σ.2.1 i) :: st) σ) : zq_G ν M h Q pc ls (zq_I x :: zq_O t j :: st) σ := by
  subst hx
  exact gq_lald hkd hv (vp_in_nI hi (by omega)) hd (by rw [zq_cl31 hi hn]; exact kk)
theorem gw_iast (i : Nat) {x y : Int32} (hx : x = nI i) {t n : Nat} {j : Fin 5} (hkd : zq_kd t = (1, n, 0)) (hv : zq_vd t j = true) (hn : n ≤ 1000) (hi : i < n) (hd : decode M.2.1 pc = .ok (.iastore, 1)) (kk : zq_G ν M h Q (pc + 1) ls st (zq_up σ.1 t j i y, σ.2)) : zq_G ν M h Q pc ls (zq_I y :: zq_I x :: zq_O t j :: st) σ := by
  subst hx
  exact gq_iast hkd hv (vp_in_nI hi (by omega)) hd (by rw [zq_cl31 hi hn]; exact kk)
theorem gw_bast (i : Nat) {x y : Int32} (hx : x = nI i) {t n : Nat} {j : Fin 5} (hkd : zq_kd t = (2, n, 0)) (hv : zq_vd t j = true) (hn : n ≤ 1000) (hi : i < n) (hd : decode M.2.1 pc = .ok (.bastore, 1)) (kk : zq_G ν M h Q (pc + 1) ls st (zq_up σ.1 t j i y.toInt8.toInt32, σ.2)) : zq_G ν M h Q pc ls (zq_I y :: zq_I x :: zq_O t j :: st) σ := by
  subst hx
  exact gq_bast hkd hv (vp_in_nI hi (by omega)) hd (by rw [zq_cl31 hi hn]; exact kk)
theorem gw_zast (i : Nat) {x y : Int32} (hx : x = nI i) {t n : Nat} {j : Fin 5} (hkd : zq_kd t = (4, n, 0)) (hv : zq_vd t j = true) (hn : n ≤ 1000) (hi : i < n) (hd : decode M.2.1 pc = .ok (.bastore, 1)) (kk : zq_G ν M h Q (pc + 1) ls st (zq_up σ.1 t j i (vp_nar .boolean y), σ.2)) : zq_G ν M h Q pc ls (zq_I y :: zq_I x :: zq_O t j :: st) σ := by
  subst hx
  exact gq_zast hkd hv (vp_in_nI hi (by omega)) hd (by rw [zq_cl31 hi hn]; exact kk)
theorem gw_last (i : Nat) {x : Int32} {y : Int64} (hx : x = nI i) (hi : i < 128) (hd : decode M.2.1 pc = .ok (.lastore, 1)) (kk : zq_G ν M h Q (pc + 1) ls st (σ.1, vp_updL σ.2.1 i y, σ.2.2)) : zq_G ν M h Q pc ls (zq_L y :: zq_I x :: zq_O 42 0 :: st) σ := by
  subst hx
  exact gq_last (n := 128) (vp_in_nI hi (by omega)) hd (by rw [zq_cl31 hi (by omega)]; exact kk)
theorem gq_cSN {Mj : zq_M} {h' n idx : Nat} {As : List zq_V} {v : zq_V} {τ : zq_T} {st0 : List zq_V} (hSp : zq_Sp Mj h' As σ (zq_rv v τ)) (hm : zq_MS Mj n) (hlk : ∀ s : State, zq_J ν s s.heap → va_Nw (.methodLinkNest M.1.cls idx Mj.1 "ThirdSon") s) (hd : decode M.2.1 pc = .ok (.invokestatic idx, 3)) (hh : h' + 1 ≤ h) (hn : As.length = n) (hst : As.reverse ++ st = st0) (hct : (st.map zq_ct).sum ≤ 8) (kk : zq_G ν M h Q (pc + 3) ls (v :: st) τ) : zq_G ν M h Q pc ls st0 σ := by
  intro p l e R s m args below meth c cells slots Qm H locs arr hok hC hX hP hS hL
  obtain ⟨m1, m2, m4, m5, m6, m7, m8⟩ := hm
  obtain ⟨c1, c2, c3, c4, c5, c6, c7, c8, c9, c10, c11⟩ := id hC
  have hMet := hSp ν hok l
  subst hst
  have cw : va_CN R s args M.1.cls idx Mj.1 "ThirdSon" Mj.2.1 Mj.2.2.1 Mj.2.2.2 (zq_wm Mj) (zq_rm h') 0 0 n ∧ (Cond.static Mj.1).before args s = true ∧ True := ⟨va_cnB n c5 (zq_good m1) rfl rfl rfl (hlk s c7) (c5 _ m4) ⟨m5.1, m5.2, m6⟩ ⟨Nat.le_trans hh c8, by show 8 + (Mj.2.2.1 + 11) + 60 * h' ≤ R.locals; omega⟩, c5 _ m2, trivial⟩
  refine zq_callR (va_runSN (As := As.map (zq_ev ν)) (rest := st.map (zq_ev ν)) ⟨c1, c2, c3, c4, c5⟩ hMet cw ⟨zq_blind ν _ σ, fun U hU hW => ⟨rfl, by rw [hU]; exact hP, va_K.moved hW.alike c6, by rw [hU]; exact c7.go hS hW⟩⟩ rfl (by rw [List.length_map]; exact hn) hL.1 (by simp) (lv_room (by rw [zq_rest]; exact hct)) hd ⟨c10, c11⟩) hS (fun r σ' H1 locs1 hQ' hP1 hS1 => ?_)
  obtain ⟨rfl, rfl⟩ := hQ'
  exact kk p l e R s m args below meth c cells slots Qm H1 locs1 arr hok hC hX hP1 hS1 hL
theorem zl_D_90 {ν : zq_E} (s : State) (h : zq_J ν s s.heap) : va_Nw (.methodLinkNest "ThirdSon$Duchy" 90 zm_S_isFact.1 "ThirdSon") s := h.2.2.2.2.2.2.1
theorem zl_E_129 {ν : zq_E} (s : State) (h : zq_J ν s s.heap) : va_Nw (.methodLinkNest "ThirdSon$Teller" 129 zm_S_isFact.1 "ThirdSon") s := h.2.2.2.2.2.2.2
end RX
/-- what every text that is taken gives -/
def za_wf (A : za_D) : Prop := (∀ i, i < za_n A → (za_pa A i = -4 ∨ ∃ q, q < i ∧ za_pa A i = nI q) ∧ (∃ f, f < 32 ∧ za_fa A i = nI f) ∧ (∃ t, t < 4 ∧ za_tr A i = nI t)) ∧ (∀ f, f < 5 → ∃ o, o < 11 ∧ za_od A f = nI o) ∧ (∀ k, k < za_m A → (∃ r, r < 10 ∧ za_rk A k = nI r) ∧ (∃ t, t < 4 ∧ za_th A k = nI t) ∧ (∃ c v, c < 6 ∧ v < 10 ∧ za_cl A k = nI c ∧ za_nu A k = nI v ∧ (c = 4 → v < 6) ∧ (c = 2 → v < 5)) ∧ (∃ q, q < 3 ∧ za_pi A k = nI q)) ∧ ∃ g, g < 2 ^ za_n A ∧ za_g A = nI g
theorem za_wf.kin {A : za_D} (h : za_wf A) (k : Nat) (hk : k < za_m A) (hc : za_cl A k = 4) : ∃ v, v < 6 ∧ za_nu A k = nI v := by
  obtain ⟨c, v, h1, h2, h3, h4, h5, -⟩ := (h.2.2.1 k hk).2.2.1
  have h6 : c = 4 := (nI_eq (by omega) (by omega)).mp (h3.symm.trans hc)
  exact ⟨v, h5 h6, h4⟩
def zs_meets (A : za_D) (k p : Nat) (ab : Int32) : Bool :=
  if zb_bit ab (nI p) then false
  else if za_cl A k = 0 then true
  else if za_cl A k = 1 then decide (nI (zs_place A p ab) = za_nu A k)
  else if za_cl A k = 2 then zb_bit (za_fa A p) (za_nu A k)
  else if za_cl A k = 3 then decide (za_nu A k ≤ za_tr A p)
  else if za_cl A k = 4 then za_kin A p (za_nu A k).toNatClampNeg
  else decide (nI (zs_child A p ab) = za_nu A k)
/-- the w-th from the front, or from the end, of those among the last r of n -/
def zs_rcv (P : Nat → Bool) (last : Bool) (n : Nat) : Nat → Nat → Int32
  | 0, _ => -4
  | r + 1, w => if P (if last then r else n - (r + 1)) then (if w = 1 then nI (if last then r else n - (r + 1)) else zs_rcv P last n r (w - 1)) else zs_rcv P last n r w
def zs_recv (A : za_D) (k : Nat) (ab : Int32) : Int32 := zs_rcv (fun p => zs_meets A k p ab) (za_pi A k = 2) (za_n A) (za_n A) (if za_pi A k = 1 then 3 else 1)
def zs_recvI (A : za_D) (k ab : Int32) : Int32 := if zb_in k (za_m A) then zs_recv A k.toNatClampNeg ab else -4
def zs_rt (A : za_D) (t ab set : Int32) : Nat → Int32
  | 0 => -4
  | k + 1 => if zb_bit set (nI k) = true ∧ za_th A k = t ∧ (zs_rt A t ab set k = -4 ∨ za_rk A k < za_rk A (zs_rt A t ab set k).toNatClampNeg) ∧ ¬ zs_recv A k ab = -4 then nI k else zs_rt A t ab set k
def zs_right (A : za_D) (t ab set : Int32) : Int32 := zs_rt A t ab set (za_m A)
def zs_own (A : za_D) (t ab set : Int32) : Int32 := zs_recvI A (zs_right A t ab set) ab
/-! relational ends: an answer, and what is so of the state -/
abbrev zq_rw (v : zq_V) (P : zq_T → Prop) : Option zq_V → zq_T → Prop := fun r σ' => r = some v ∧ P σ'
abbrev zq_rx (P : zq_T → Prop) : Option zq_V → zq_T → Prop := fun r σ' => r = none ∧ P σ'
section RY
variable {ν : zq_E} {M : zq_M} {h : Nat} {Q : Option zq_V → zq_T → Prop} {pc : Nat} {ls : List (Option zq_V)} {st : List zq_V} {σ : zq_T}
theorem gw_iretP (ty : FieldType) {x v : Int32} {P : zq_T → Prop} (hd : decode M.2.1 pc = .ok (.ireturn, 1)) (hr : M.2.2.2 = some ty) (hn : narrow ty (.int x) = .int x) (hx : x = v) (hs : P σ) : zq_G ν M h (zq_rw (zq_I v) P) pc ls [zq_I x] σ := gq_ireturn (st := []) ty hd hr hn ⟨by rw [hx], hs⟩
theorem gw_lretP {x v : Int64} {P : zq_T → Prop} (hd : decode M.2.1 pc = .ok (.lreturn, 1)) (hr : M.2.2.2 = some .long) (hx : x = v) (hs : P σ) : zq_G ν M h (zq_rw (zq_L v) P) pc ls [zq_L x] σ := gq_lreturn (st := []) hd hr ⟨by rw [hx], hs⟩
theorem gw_vretP {P : zq_T → Prop} (hd : decode M.2.1 pc = .ok (.return_, 1)) (hr : M.2.2.2 = none) (hs : P σ) : zq_G ν M h (zq_rx P) pc ls [] σ := gq_return (st := []) hd hr ⟨rfl, hs⟩
theorem gq_cVP {Mj : zq_M} {h' n idx : Nat} {As : List zq_V} {t ci N : Nat} {j : Fin 5} {v : zq_V} {P : zq_T → Prop} {st0 : List zq_V} (hSp : zq_Sp Mj h' (zq_O t j :: As) σ (zq_rw v P)) (hm : zq_MV Mj n) (hlk : Cond.methodLink M.1.cls idx Mj.1 ∈ zq_tbl) (hd : decode M.2.1 pc = .ok (.invokevirtual idx, 3)) (hkd : zq_kd t = (0, ci, N)) (hcl : (zq_cl[ci]?).map (fun q => q.1) = some Mj.1.cls) (hv : zq_vd t j = true) (hh : h' + 1 ≤ h) (hn : As.length = n) (hst : As.reverse ++ zq_O t j :: st = st0) (hct : (st.map zq_ct).sum ≤ 8) (kk : ∀ τ, P τ → zq_G ν M h Q (pc + 3) ls (v :: st) τ) : zq_G ν M h Q pc ls st0 σ :=
  gq_callV hSp hm hlk hd hkd hcl hv hh hn hst hct (fun r σ' q => by obtain ⟨rfl, q⟩ := q; exact kk σ' q)
theorem gq_cVX {Mj : zq_M} {h' n idx : Nat} {As : List zq_V} {t ci N : Nat} {j : Fin 5} {P : zq_T → Prop} {st0 : List zq_V} (hSp : zq_Sp Mj h' (zq_O t j :: As) σ (zq_rx P)) (hm : zq_MV Mj n) (hlk : Cond.methodLink M.1.cls idx Mj.1 ∈ zq_tbl) (hd : decode M.2.1 pc = .ok (.invokevirtual idx, 3)) (hkd : zq_kd t = (0, ci, N)) (hcl : (zq_cl[ci]?).map (fun q => q.1) = some Mj.1.cls) (hv : zq_vd t j = true) (hh : h' + 1 ≤ h) (hn : As.length = n) (hst : As.reverse ++ zq_O t j :: st = st0) (hct : (st.map zq_ct).sum ≤ 8) (kk : ∀ τ, P τ → zq_G ν M h Q (pc + 3) ls st τ) : zq_G ν M h Q pc ls st0 σ :=
  gq_callV hSp hm hlk hd hkd hcl hv hh hn hst hct (fun r σ' q => by obtain ⟨rfl, q⟩ := q; exact kk σ' q)
theorem gq_cSP {Mj : zq_M} {h' n idx : Nat} {As : List zq_V} {v : zq_V} {P : zq_T → Prop} {st0 : List zq_V} (hSp : zq_Sp Mj h' As σ (zq_rw v P)) (hm : zq_MS Mj n) (hlk : Cond.methodLink M.1.cls idx Mj.1 ∈ zq_tbl) (hd : decode M.2.1 pc = .ok (.invokestatic idx, 3)) (hh : h' + 1 ≤ h) (hn : As.length = n) (hst : As.reverse ++ st = st0) (hct : (st.map zq_ct).sum ≤ 8) (kk : ∀ τ, P τ → zq_G ν M h Q (pc + 3) ls (v :: st) τ) : zq_G ν M h Q pc ls st0 σ :=
  gq_callS hSp hm hlk hd hh hn hst hct (fun r σ' q => by obtain ⟨rfl, q⟩ := q; exact kk σ' q)
end RY
/-! parts of the abstract duchy set anew -/
abbrev za_sg (A : za_D) (g : Int32) : za_D := (A.1, A.2.1, g, A.2.2.2)
abbrev za_sf (A : za_D) (f : Nat → Int32) : za_D := (A.1, A.2.1, A.2.2.1, A.2.2.2.1, f, A.2.2.2.2.2)
abbrev za_st (A : za_D) (f : Nat → Int32) : za_D := (A.1, A.2.1, A.2.2.1, A.2.2.2.1, A.2.2.2.2.1, f, A.2.2.2.2.2.2)
abbrev za_so (A : za_D) (f : Nat → Int32) : za_D := (A.1, A.2.1, A.2.2.1, A.2.2.2.1, A.2.2.2.2.1, A.2.2.2.2.2.1, f, A.2.2.2.2.2.2.2)
abbrev za_sr (A : za_D) (f : Nat → Int32) : za_D := (A.1, A.2.1, A.2.2.1, A.2.2.2.1, A.2.2.2.2.1, A.2.2.2.2.2.1, A.2.2.2.2.2.2.1, f, A.2.2.2.2.2.2.2.2)
abbrev za_sp (A : za_D) (f : Nat → Int32) : za_D := (A.1, A.2.1, A.2.2.1, A.2.2.2.1, A.2.2.2.2.1, A.2.2.2.2.2.1, A.2.2.2.2.2.2.1, A.2.2.2.2.2.2.2.1, A.2.2.2.2.2.2.2.2.1, A.2.2.2.2.2.2.2.2.2.1, A.2.2.2.2.2.2.2.2.2.2.1, f)
/-- but for duchy d all is the same -/
def zd_same (d : Fin 5) (σ τ : zq_T) : Prop := τ.2 = σ.2 ∧ ∀ (t : Nat) (j : Fin 5) (k : Nat), ¬ (10 ≤ t ∧ t ≤ 20 ∧ j = d) → τ.1 t j k = σ.1 t j k
theorem zd_same.rf {d : Fin 5} {σ : zq_T} : zd_same d σ σ := ⟨rfl, fun _ _ _ _ => rfl⟩
theorem zd_same.tr {d : Fin 5} {σ τ υ : zq_T} (h : zd_same d σ τ) (h2 : zd_same d τ υ) : zd_same d σ υ := ⟨h2.1.trans h.1, fun t j k q => (h2.2 t j k q).trans (h.2 t j k q)⟩
theorem zd_same.up {d : Fin 5} {σ τ : zq_T} (h : zd_same d σ τ) {t k : Nat} {v : Int32} (h1 : 10 ≤ t) (h2 : t ≤ 20) : zd_same d σ (zq_up τ.1 t d k v, τ.2) :=
  ⟨h.1, fun t' j k' q => by
    show zq_up τ.1 t d k v t' j k' = σ.1 t' j k'
    rw [← h.2 t' j k' q]
    exact if_neg fun z => q ⟨by omega, by omega, z.2.1⟩⟩
theorem zc_rep.keep {σ τ : zq_T} {d : Fin 5} {A : za_D} (h : zc_rep σ d A) (he : ∀ t k, 10 ≤ t → t ≤ 20 → τ.1 t d k = σ.1 t d k) : zc_rep τ d A := by
  obtain ⟨h1, h2, h3, h4, h5, h6, h7, h8, h9⟩ := h
  refine ⟨h1, h2, ?_, ?_, ?_, fun i hi => ?_, fun i hi => ?_, fun f hf => ?_, fun k hk => ?_⟩
  · rw [he 10 0 (by omega) (by omega)]; exact h3
  · rw [he 10 1 (by omega) (by omega)]; exact h4
  · rw [he 10 2 (by omega) (by omega)]; exact h5
  · rw [he 11 i (by omega) (by omega), he 12 i (by omega) (by omega)]; exact h6 i hi
  · rw [he 13 i (by omega) (by omega), he 14 i (by omega) (by omega)]; exact h7 i hi
  · rw [he 15 f (by omega) (by omega)]; exact h8 f hf
  · rw [he 16 k (by omega) (by omega), he 17 k (by omega) (by omega), he 18 k (by omega) (by omega), he 19 k (by omega) (by omega), he 20 k (by omega) (by omega)]; exact h9 k hk
theorem zd_same.rep {d e : Fin 5} {σ τ : zq_T} {A : za_D} (h : zd_same d σ τ) (hne : e ≠ d) (hA : zc_rep σ e A) : zc_rep τ e A := hA.keep fun t k _ _ => h.2 t e k fun q => hne q.2.2
section REPUP
variable {σ : zq_T} {d : Fin 5} {A : za_D}
theorem zc_rep.sg (h : zc_rep σ d A) (v : Int32) : zc_rep (zq_up σ.1 10 d 1 v, σ.2) d (za_sg A v) := by
  obtain ⟨h1, h2, h3, h4, h5, h6, h7, h8, h9⟩ := h
  refine ⟨h1, h2, ?_, ?_, ?_, h6, h7, h8, h9⟩
  · exact (if_neg (fun q => absurd q.2.2 (by decide))).trans h3
  · exact if_pos ⟨rfl, rfl, rfl⟩
  · exact (if_neg (fun q => absurd q.2.2 (by decide))).trans h5
theorem zc_rep.sf (h : zc_rep σ d A) (p : Nat) (v : Int32) : zc_rep (zq_up σ.1 13 d p v, σ.2) d (za_sf A (upd (za_fa A) p v)) := by
  obtain ⟨h1, h2, h3, h4, h5, h6, h7, h8, h9⟩ := h
  refine ⟨h1, h2, h3, h4, h5, h6, fun i hi => ⟨?_, (h7 i hi).2⟩, h8, h9⟩
  show zq_up σ.1 13 d p v 13 d i = upd (za_fa A) p v i
  unfold zq_up upd
  by_cases e : i = p
  · rw [if_pos ⟨rfl, rfl, e⟩, if_pos e]
  · rw [if_neg (fun q => e q.2.2), if_neg e]; exact (h7 i hi).1
theorem zc_rep.st (h : zc_rep σ d A) (p : Nat) (v : Int32) : zc_rep (zq_up σ.1 14 d p v, σ.2) d (za_st A (upd (za_tr A) p v)) := by
  obtain ⟨h1, h2, h3, h4, h5, h6, h7, h8, h9⟩ := h
  refine ⟨h1, h2, h3, h4, h5, h6, fun i hi => ⟨(h7 i hi).1, ?_⟩, h8, h9⟩
  show zq_up σ.1 14 d p v 14 d i = upd (za_tr A) p v i
  unfold zq_up upd
  by_cases e : i = p
  · rw [if_pos ⟨rfl, rfl, e⟩, if_pos e]
  · rw [if_neg (fun q => e q.2.2), if_neg e]; exact (h7 i hi).2
theorem zc_rep.so (h : zc_rep σ d A) (p : Nat) (v : Int32) : zc_rep (zq_up σ.1 15 d p v, σ.2) d (za_so A (upd (za_od A) p v)) := by
  obtain ⟨h1, h2, h3, h4, h5, h6, h7, h8, h9⟩ := h
  refine ⟨h1, h2, h3, h4, h5, h6, h7, fun i hi => ?_, h9⟩
  show zq_up σ.1 15 d p v 15 d i = upd (za_od A) p v i
  unfold zq_up upd
  by_cases e : i = p
  · rw [if_pos ⟨rfl, rfl, e⟩, if_pos e]
  · rw [if_neg (fun q => e q.2.2), if_neg e]; exact h8 i hi
theorem zc_rep.sr (h : zc_rep σ d A) (p : Nat) (v : Int32) : zc_rep (zq_up σ.1 16 d p v, σ.2) d (za_sr A (upd (za_rk A) p v)) := by
  obtain ⟨h1, h2, h3, h4, h5, h6, h7, h8, h9⟩ := h
  refine ⟨h1, h2, h3, h4, h5, h6, h7, h8, fun i hi => ⟨?_, (h9 i hi).2⟩⟩
  show zq_up σ.1 16 d p v 16 d i = upd (za_rk A) p v i
  unfold zq_up upd
  by_cases e : i = p
  · rw [if_pos ⟨rfl, rfl, e⟩, if_pos e]
  · rw [if_neg (fun q => e q.2.2), if_neg e]; exact (h9 i hi).1
theorem zc_rep.sp (h : zc_rep σ d A) (p : Nat) (v : Int32) : zc_rep (zq_up σ.1 20 d p v, σ.2) d (za_sp A (upd (za_pi A) p v)) := by
  obtain ⟨h1, h2, h3, h4, h5, h6, h7, h8, h9⟩ := h
  refine ⟨h1, h2, h3, h4, h5, h6, h7, h8, fun i hi => ⟨(h9 i hi).1, (h9 i hi).2.1, (h9 i hi).2.2.1, (h9 i hi).2.2.2.1, ?_⟩⟩
  show zq_up σ.1 20 d p v 20 d i = upd (za_pi A) p v i
  unfold zq_up upd
  by_cases e : i = p
  · rw [if_pos ⟨rfl, rfl, e⟩, if_pos e]
  · rw [if_neg (fun q => e q.2.2), if_neg e]; exact (h9 i hi).2.2.2.2
end REPUP
/-- deeds -/
def zs_can (A : za_D) (D : Nat) : Bool := decide (D / 10 < za_n A) && (decide (D % 10 < 7) && (!zb_bit (za_g A) (nI (D / 10)) && (decide (D % 10 = 6) || (decide (za_tr A (D / 10) < 3) && (decide (D % 10 = 5) || !zb_bit (za_fa A (D / 10)) (nI (D % 10)))))))
def zs_actr (A : za_D) (D : Nat) : Int32 :=
  if ¬ D / 10 < za_n A ∨ ¬ D % 10 < 7 then -1
  else if zs_can A D = false then -2
  else if D % 10 = 6 then za_tr A (D / 10)
  else za_tr A (D / 10) + 1
def zs_acts (A : za_D) (D : Nat) : za_D :=
  if D % 10 = 6 then za_sg A (za_g A ||| (1 <<< (nI (D / 10) &&& 31)))
  else if D % 10 < 5 then za_st (za_sf A (upd (za_fa A) (D / 10) (za_fa A (D / 10) ||| (1 <<< (nI (D % 10) &&& 31))))) (upd (za_tr A) (D / 10) (za_tr A (D / 10) + 1))
  else za_st A (upd (za_tr A) (D / 10) (za_tr A (D / 10) + 1))
def zs_actS (A : za_D) (D : Nat) : za_D := if zs_can A D then zs_acts A D else A
def zs_back (A : za_D) (D : Nat) : za_D :=
  if D % 10 = 6 then za_sg A (za_g A &&& ((1 <<< (nI (D / 10) &&& 31)) ^^^ -1))
  else if D % 10 < 5 then za_st (za_sf A (upd (za_fa A) (D / 10) (za_fa A (D / 10) &&& ((1 <<< (nI (D % 10) &&& 31)) ^^^ -1)))) (upd (za_tr A) (D / 10) (za_tr A (D / 10) - 1))
  else za_st A (upd (za_tr A) (D / 10) (za_tr A (D / 10) - 1))
def zf_any (P : Nat → Bool) : Nat → Bool
  | 0 => false
  | n + 1 => zf_any P n || P n
theorem zf_any_of {P : Nat → Bool} {i : Nat} : ∀ {n : Nat}, i < n → P i = true → zf_any P n = true
  | 0, h, _ => absurd h (Nat.not_lt_zero _)
  | n + 1, h, hp => by
    rw [zf_any]
    rcases Nat.lt_or_ge i n with q | q
    · rw [zf_any_of q hp]; rfl
    · rw [show n = i by omega, hp, Bool.or_true]
def zf_sum (f : Nat → Int32) : Nat → Int32
  | 0 => 0
  | n + 1 => zf_sum f n + f n
/-- two rules of one thing with the same rank -/
def zs_eq1 (A : za_D) (k : Nat) : Nat → Bool := fun o => (za_th A o == za_th A k) && (za_rk A o == za_rk A k)
def zs_eqr (A : za_D) : Bool := zf_any (fun k => zf_any (zs_eq1 A k) k) (za_m A)
/-- bits of a number, as the library counts them -/
def zs_bc1 (x : Int32) : Int32 := x - ((x.toUInt32 >>> ((1 : Int32).toUInt32 &&& Int32.toUInt32 31)).toInt32 &&& 1431655765)
def zs_bc2 (x : Int32) : Int32 := (x &&& 858993459) + ((x.toUInt32 >>> ((2 : Int32).toUInt32 &&& Int32.toUInt32 31)).toInt32 &&& 858993459)
def zs_bc3 (x : Int32) : Int32 := (x + (x.toUInt32 >>> ((4 : Int32).toUInt32 &&& Int32.toUInt32 31)).toInt32) &&& 252645135
def zs_bc4 (x : Int32) : Int32 := x + (x.toUInt32 >>> ((8 : Int32).toUInt32 &&& Int32.toUInt32 31)).toInt32
def zs_bc5 (x : Int32) : Int32 := x + (x.toUInt32 >>> ((16 : Int32).toUInt32 &&& Int32.toUInt32 31)).toInt32
def zs_bc (x : Int32) : Int32 := zs_bc5 (zs_bc4 (zs_bc3 (zs_bc2 (zs_bc1 x)))) &&& 63
