/-! rules in the form that the written walks use -/
def zb_v (b : Bool) : Int32 := if b then 1 else 0
theorem zb_nar (b : Bool) : narrow .boolean (.int (zb_v b)) = .int (zb_v b) := by cases b <;> rfl
theorem zb_t : zb_v true = 1 := rfl
theorem zb_f : zb_v false = 0 := rfl
section RW
variable {ν : zq_E} {M : zq_M} {h : Nat} {Q : Option zq_V → zq_T → Prop} {pc : Nat} {ls : List (Option zq_V)} {st : List zq_V} {σ : zq_T}
theorem gw_istore (i : Nat) {x : Int32} (hd : decode M.2.1 pc = .ok (.istore i, 2)) (hi : i + 1 ≤ M.2.2.1) (hnl : zq_nl ls i = true) (k : zq_G ν M h Q (pc + 2) (ls.set i (some (zq_I x))) st σ) : zq_G ν M h Q pc ls (zq_I x :: st) σ := gq_istore hd hi hnl k
theorem gw_istore_n (i : Nat) {n : Fin 4} {x : Int32} (hd : decode M.2.1 pc = .ok (.istore_n n, 1)) (hn : (n : Nat) = i) (hi : i + 1 ≤ M.2.2.1) (hnl : zq_nl ls i = true) (k : zq_G ν M h Q (pc + 1) (ls.set i (some (zq_I x))) st σ) : zq_G ν M h Q pc ls (zq_I x :: st) σ := by
  subst hn
  exact gq_istore_n hd hi hnl k
theorem gw_astore (i : Nat) {t : Nat} {j : Fin 5} (hd : decode M.2.1 pc = .ok (.astore i, 2)) (hi : i + 1 ≤ M.2.2.1) (hnl : zq_nl ls i = true) (k : zq_G ν M h Q (pc + 2) (ls.set i (some (zq_O t j))) st σ) : zq_G ν M h Q pc ls (zq_O t j :: st) σ := gq_astore hd hi hnl k
theorem gw_astore_n (i : Nat) {n : Fin 4} {t : Nat} {j : Fin 5} (hd : decode M.2.1 pc = .ok (.astore_n n, 1)) (hn : (n : Nat) = i) (hi : i + 1 ≤ M.2.2.1) (hnl : zq_nl ls i = true) (k : zq_G ν M h Q (pc + 1) (ls.set i (some (zq_O t j))) st σ) : zq_G ν M h Q pc ls (zq_O t j :: st) σ := by
  subst hn
  exact gq_astore_n hd hi hnl k
theorem gw_lstore (i : Nat) {x : Int64} (hd : decode M.2.1 pc = .ok (.lstore i, 2)) (hi : i + 1 + 1 ≤ M.2.2.1) (hnl : zq_nl ls i = true) (k : zq_G ν M h Q (pc + 2) ((ls.set i (some (zq_L x))).set (i + 1) none) st σ) : zq_G ν M h Q pc ls (zq_L x :: st) σ := gq_lstore hd hi hnl k
theorem gw_lstore_n (i : Nat) {n : Fin 4} {x : Int64} (hd : decode M.2.1 pc = .ok (.lstore_n n, 1)) (hn : (n : Nat) = i) (hi : i + 1 + 1 ≤ M.2.2.1) (hnl : zq_nl ls i = true) (k : zq_G ν M h Q (pc + 1) ((ls.set i (some (zq_L x))).set (i + 1) none) st σ) : zq_G ν M h Q pc ls (zq_L x :: st) σ := by
  subst hn
  exact gq_lstore_n hd hi hnl k
theorem gw_iinc (i : Nat) {n : Int} {x c : Int32} (hd : decode M.2.1 pc = .ok (.iinc i n, 3)) (hl : ls[i]? = some (some (zq_I x))) (hc : Int32.ofInt n = c) (hi : i + 1 ≤ M.2.2.1) (hnl : zq_nl ls i = true) (k : zq_G ν M h Q (pc + 3) (ls.set i (some (zq_I (x + c)))) st σ) : zq_G ν M h Q pc ls st σ := gq_iinc hd hl (by rw [hc]) hi hnl k
theorem gw_ifb_eq {b : Bool} {off : Int} {tgt : Nat} (hd : decode M.2.1 pc = .ok (.ifCond .eq off, 3)) (ht : (pc : Int) + off = (tgt : Int)) (kt : b = false → zq_G ν M h Q tgt ls st σ) (kf : b = true → zq_G ν M h Q (pc + 3) ls st σ) : zq_G ν M h Q pc ls (zq_I (zb_v b) :: st) σ :=
  gq_if_eq hd ht (fun q => kt (by cases b; rfl; exact absurd q (by decide))) (fun q => kf (by cases b; exact absurd rfl q; rfl))
theorem gw_ifb_ne {b : Bool} {off : Int} {tgt : Nat} (hd : decode M.2.1 pc = .ok (.ifCond .ne off, 3)) (ht : (pc : Int) + off = (tgt : Int)) (kt : b = true → zq_G ν M h Q tgt ls st σ) (kf : b = false → zq_G ν M h Q (pc + 3) ls st σ) : zq_G ν M h Q pc ls (zq_I (zb_v b) :: st) σ :=
  gq_if_ne hd ht (fun q => kt (by cases b; exact absurd rfl q; rfl)) (fun q => kf (by cases b; rfl; exact absurd q (by decide)))
theorem gw_iret (ty : FieldType) {x v : Int32} {τ : zq_T} (hd : decode M.2.1 pc = .ok (.ireturn, 1)) (hr : M.2.2.2 = some ty) (hn : narrow ty (.int x) = .int x) (hx : x = v) (hs : σ = τ) : zq_G ν M h (zq_rv (zq_I v) τ) pc ls [zq_I x] σ := gq_ireturn (st := []) ty hd hr hn ⟨by rw [hx], hs⟩
theorem gw_lret {x v : Int64} {τ : zq_T} (hd : decode M.2.1 pc = .ok (.lreturn, 1)) (hr : M.2.2.2 = some .long) (hx : x = v) (hs : σ = τ) : zq_G ν M h (zq_rv (zq_L v) τ) pc ls [zq_L x] σ := gq_lreturn (st := []) hd hr ⟨by rw [hx], hs⟩
theorem gw_aret {C : String} {t : Nat} {j : Fin 5} {v : zq_V} {τ : zq_T} (hd : decode M.2.1 pc = .ok (.areturn, 1)) (hr : M.2.2.2 = some (.object C)) (hx : zq_O t j = v) (hs : σ = τ) : zq_G ν M h (zq_rv v τ) pc ls [zq_O t j] σ := gq_areturn (st := []) hd hr ⟨by rw [hx], hs⟩
theorem gw_vret {τ : zq_T} (hd : decode M.2.1 pc = .ok (.return_, 1)) (hr : M.2.2.2 = none) (hs : σ = τ) : zq_G ν M h (zq_r0 τ) pc ls [] σ := gq_return (st := []) hd hr ⟨rfl, hs⟩
end RW
/-- a switched number that is none of the cases -/
theorem zq_ne {x k : Int32} (h : ¬ x = k) : x.toInt ≠ k.toInt := fun q => h (Int32.toInt_inj.mp q)
/-! THE ABSTRACT DUCHY: how many people, rules, who are gone, and by number: parent (-4: none), facts, tries; odds of facts; rank, thing, claim, number, pick of rules -/
abbrev za_D : Type := Nat × Nat × Int32 × (Nat → Int32) × (Nat → Int32) × (Nat → Int32) × (Nat → Int32) × (Nat → Int32) × (Nat → Int32) × (Nat → Int32) × (Nat → Int32) × (Nat → Int32)
abbrev za_n (A : za_D) : Nat := A.1
abbrev za_m (A : za_D) : Nat := A.2.1
abbrev za_g (A : za_D) : Int32 := A.2.2.1
abbrev za_pa (A : za_D) : Nat → Int32 := A.2.2.2.1
abbrev za_fa (A : za_D) : Nat → Int32 := A.2.2.2.2.1
abbrev za_tr (A : za_D) : Nat → Int32 := A.2.2.2.2.2.1
abbrev za_od (A : za_D) : Nat → Int32 := A.2.2.2.2.2.2.1
abbrev za_rk (A : za_D) : Nat → Int32 := A.2.2.2.2.2.2.2.1
abbrev za_th (A : za_D) : Nat → Int32 := A.2.2.2.2.2.2.2.2.1
abbrev za_cl (A : za_D) : Nat → Int32 := A.2.2.2.2.2.2.2.2.2.1
abbrev za_nu (A : za_D) : Nat → Int32 := A.2.2.2.2.2.2.2.2.2.2.1
abbrev za_pi (A : za_D) : Nat → Int32 := A.2.2.2.2.2.2.2.2.2.2.2
def zb_bit (a p : Int32) : Bool := decide (¬ (a >>> (p &&& 31)) &&& 1 = 0)
theorem zb_bit_t {a p : Int32} (h : ¬ (a >>> (p &&& 31)) &&& 1 = 0) : zb_bit a p = true := decide_eq_true h
theorem zb_bit_f {a p : Int32} (h : (a >>> (p &&& 31)) &&& 1 = 0) : zb_bit a p = false := decide_eq_false (fun q => q h)
/-- whether v is a parent of p, or of his parent, and so on: p's line, p + 1 steps at most -/
def za_up (pa : Nat → Int32) : Nat → Nat → Nat → Bool
  | 0, _, _ => false
  | s + 1, p, v => if pa p < 0 then false else (pa p == nI v) || za_up pa s (pa p).toNatClampNeg v
def za_kin (A : za_D) (p v : Nat) : Bool := za_up (za_pa A) 6 p v
def zc_rep (σ : zq_T) (d : Fin 5) (A : za_D) : Prop := za_n A ≤ 6 ∧ za_m A ≤ 5 ∧ σ.1 10 d 0 = nI (za_n A) ∧ σ.1 10 d 1 = za_g A ∧ σ.1 10 d 2 = nI (za_m A) ∧ (∀ i, i < za_n A → σ.1 11 d i = za_pa A i ∧ (∀ v, v < 6 → zb_bit (σ.1 12 d i) (nI v) = za_kin A i v) ∧ σ.1 13 d i = za_fa A i ∧ σ.1 14 d i = za_tr A i) ∧ (∀ f, f < 5 → σ.1 15 d f = za_od A f) ∧ (∀ k, k < za_m A → σ.1 16 d k = za_rk A k ∧ σ.1 17 d k = za_th A k ∧ σ.1 18 d k = za_cl A k ∧ σ.1 19 d k = za_nu A k ∧ σ.1 20 d k = za_pi A k)
section REP
variable {σ : zq_T} {d : Fin 5} {A : za_D}
theorem zc_n6 (h : zc_rep σ d A) : za_n A ≤ 6 := h.1
theorem zc_m5 (h : zc_rep σ d A) : za_m A ≤ 5 := h.2.1
theorem zc_n (h : zc_rep σ d A) : σ.1 10 d 0 = nI (za_n A) := h.2.2.1
theorem zc_g (h : zc_rep σ d A) : σ.1 10 d 1 = za_g A := h.2.2.2.1
theorem zc_m (h : zc_rep σ d A) : σ.1 10 d 2 = nI (za_m A) := h.2.2.2.2.1
theorem zc_pa (h : zc_rep σ d A) {i : Nat} (hi : i < za_n A) : σ.1 11 d i = za_pa A i := (h.2.2.2.2.2.1 i hi).1
theorem zc_an (h : zc_rep σ d A) {i v : Nat} (hi : i < za_n A) (hv : v < 6) : zb_bit (σ.1 12 d i) (nI v) = za_kin A i v := (h.2.2.2.2.2.1 i hi).2.1 v hv
theorem zc_fa (h : zc_rep σ d A) {i : Nat} (hi : i < za_n A) : σ.1 13 d i = za_fa A i := (h.2.2.2.2.2.1 i hi).2.2.1
theorem zc_tr (h : zc_rep σ d A) {i : Nat} (hi : i < za_n A) : σ.1 14 d i = za_tr A i := (h.2.2.2.2.2.1 i hi).2.2.2
theorem zc_od (h : zc_rep σ d A) {f : Nat} (hf : f < 5) : σ.1 15 d f = za_od A f := h.2.2.2.2.2.2.1 f hf
theorem zc_rk (h : zc_rep σ d A) {k : Nat} (hk : k < za_m A) : σ.1 16 d k = za_rk A k := (h.2.2.2.2.2.2.2 k hk).1
theorem zc_th (h : zc_rep σ d A) {k : Nat} (hk : k < za_m A) : σ.1 17 d k = za_th A k := (h.2.2.2.2.2.2.2 k hk).2.1
theorem zc_cl (h : zc_rep σ d A) {k : Nat} (hk : k < za_m A) : σ.1 18 d k = za_cl A k := (h.2.2.2.2.2.2.2 k hk).2.2.1
theorem zc_nu (h : zc_rep σ d A) {k : Nat} (hk : k < za_m A) : σ.1 19 d k = za_nu A k := (h.2.2.2.2.2.2.2 k hk).2.2.2.1
theorem zc_pi (h : zc_rep σ d A) {k : Nat} (hk : k < za_m A) : σ.1 20 d k = za_pi A k := (h.2.2.2.2.2.2.2 k hk).2.2.2.2
end REP
/-- a number that is a place below n -/
def zb_in (x : Int32) (n : Nat) : Bool := decide (0 ≤ x ∧ x < nI n)
theorem zb_in_iff {x : Int32} {n : Nat} (hn : n < 2 ^ 31) : zb_in x n = true ↔ ∃ i : Nat, i < n ∧ x = nI i := by
  constructor
  · intro h
    have h1 := of_decide_eq_true h
    obtain ⟨j, hj, rfl⟩ := nI_of (x := x) (by have := h1.1; rw [Int32.le_iff_toInt_le] at this; rw [Int32.lt_iff_toInt_lt]; omega)
    exact ⟨j, (nI_ltI hj hn).mp h1.2, rfl⟩
  · rintro ⟨i, hi, rfl⟩
    exact decide_eq_true ⟨nI_pos' (by omega), nI_lt hi hn⟩
theorem zb_in_nI {i n : Nat} (h : i < n) (hn : n < 2 ^ 31) : zb_in (nI i) n = true := (zb_in_iff hn).mpr ⟨i, h, rfl⟩
theorem zb_in_lt {x : Int32} {n : Nat} (h : x < 0) : zb_in x n = false := decide_eq_false (fun q => by have := q.1; rw [Int32.le_iff_toInt_le] at this; rw [Int32.lt_iff_toInt_lt] at h; omega)
theorem zb_in_ge {x : Int32} {n : Nat} (h : nI n ≤ x) : zb_in x n = false := decide_eq_false (fun q => by have := q.2; rw [Int32.lt_iff_toInt_lt] at this; rw [Int32.le_iff_toInt_le] at h; omega)
theorem zb_in_of {x : Int32} {n : Nat} (h : ¬ x < 0) (h2 : ¬ nI n ≤ x) : zb_in x n = true := decide_eq_true (by rw [Int32.lt_iff_toInt_lt] at h; rw [Int32.le_iff_toInt_le] at h2; rw [Int32.le_iff_toInt_le, Int32.lt_iff_toInt_lt]; have : (0 : Int32).toInt = 0 := rfl; omega)
/-- how many below n -/
def zf_ct (P : Nat → Bool) : Nat → Nat
  | 0 => 0
  | n + 1 => zf_ct P n + (if P n then 1 else 0)
/-- bits of those below n -/
def zf_or (P : Nat → Bool) : Nat → Int32
  | 0 => 0
  | n + 1 => if P n then zf_or P n ||| (1 <<< (nI n &&& 31)) else zf_or P n
theorem zf_ct_t {P : Nat → Bool} {n : Nat} (h : P n = true) : zf_ct P (n + 1) = zf_ct P n + 1 := by simp [zf_ct, h]
theorem zf_ct_f {P : Nat → Bool} {n : Nat} (h : P n = false) : zf_ct P (n + 1) = zf_ct P n := by simp [zf_ct, h]
theorem zf_or_t {P : Nat → Bool} {n : Nat} (h : P n = true) : zf_or P (n + 1) = zf_or P n ||| (1 <<< (nI n &&& 31)) := by simp [zf_or, h]
theorem zf_or_f {P : Nat → Bool} {n : Nat} (h : P n = false) : zf_or P (n + 1) = zf_or P n := by simp [zf_or, h]
/-- what the abstract duchy answers -/
def zs_born (A : za_D) (p : Nat) (ab : Int32) : Nat → Bool := fun q => (za_pa A q == za_pa A p) && !zb_bit ab (nI q)
def zs_place (A : za_D) (p : Nat) (ab : Int32) : Nat := if zb_bit ab (nI p) then 0 else zf_ct (zs_born A p ab) (p + 1)
def zs_chd (A : za_D) (p : Nat) (ab : Int32) : Nat → Bool := fun q => (za_pa A q == nI p) && !zb_bit ab (nI q)
def zs_child (A : za_D) (p : Nat) (ab : Int32) : Nat := zf_ct (zs_chd A p ab) (za_n A)
section RX
variable {ν : zq_E} {M : zq_M} {h : Nat} {Q : Option zq_V → zq_T → Prop} {pc : Nat} {ls : List (Option zq_V)} {st : List zq_V} {σ : zq_T}
theorem zq_cl31 {i n : Nat} (hi : i < n) (hn : n ≤ 1000) : (nI i).toNatClampNeg = i := nI_clamp (by omega)
theorem gw_iald (i : Nat) {x : Int32} (hx : x = nI i) {t n : Nat} {j : Fin 5} (hkd : zq_kd t = (1, n, 0)) (hv : zq_vd t j = true) (hn : n ≤ 1000) (hi : i < n) (hd : decode M.2.1 pc = .ok (.iaload, 1)) (kk : zq_G ν M h Q (pc + 1) ls (zq_I (σ.1 t j i) :: st) σ) : zq_G ν M h Q pc ls (zq_I x :: zq_O t j :: st) σ := by
  subst hx
  exact gq_iald hkd hv (vp_in_nI hi (by omega)) hd (by rw [zq_cl31 hi hn]; exact kk)
theorem gw_bald (i : Nat) {x : Int32} (hx : x = nI i) {t n : Nat} {j : Fin 5} (hkd : zq_kd t = (2, n, 0)) (hv : zq_vd t j = true) (hn : n ≤ 1000) (hi : i < n) (hd : decode M.2.1 pc = .ok (.baload, 1)) (kk : zq_G ν M h Q (pc + 1) ls (zq_I (σ.1 t j i) :: st) σ) : zq_G ν M h Q pc ls (zq_I x :: zq_O t j :: st) σ := by
  subst hx
  exact gq_bald hkd hv (vp_in_nI hi (by omega)) hd (by rw [zq_cl31 hi hn]; exact kk)
theorem gw_zald (i : Nat) {x : Int32} (hx : x = nI i) {t n : Nat} {j : Fin 5} (hkd : zq_kd t = (4, n, 0)) (hv : zq_vd t j = true) (hn : n ≤ 1000) (hi : i < n) (hd : decode M.2.1 pc = .ok (.baload, 1)) (kk : zq_G ν M h Q (pc + 1) ls (zq_I (σ.1 t j i) :: st) σ) : zq_G ν M h Q pc ls (zq_I x :: zq_O t j :: st) σ := by
  subst hx
  exact gq_zald hkd hv (vp_in_nI hi (by omega)) hd (by rw [zq_cl31 hi hn]; exact kk)
theorem gw_lald (i : Nat) {x : Int32} (hx : x = nI i) {t n : Nat} {j : Fin 5} (hkd : zq_kd t = (3, n, 0)) (hv : zq_vd t j = true) (hn : n ≤ 1000) (hi : i < n) (hd : decode M.2.1 pc = .ok (.laload, 1)) (kk : zq_G ν M h Q (pc + 1) ls (zq_L (σ.2.1 i) :: st) σ) : zq_G ν M h Q pc ls (zq_I x :: zq_O t j :: st) σ := by
  subst hx
  exact gq_lald hkd hv (vp_in_nI hi (by omega)) hd (by rw [zq_cl31 hi hn]; exact kk)
theorem gw_iast (i : Nat) {x y : Int32} (hx : x = nI i) {t n : Nat} {j : Fin 5} (hkd : zq_kd t = (1, n, 0)) (hv : zq_vd t j = true) (hn : n ≤ 1000) (hi : i < n) (hd : decode M.2.1 pc = .ok (.iastore, 1)) (kk : zq_G ν M h Q (pc + 1) ls st (zq_up σ.1 t j i y, σ.2)) : zq_G ν M h Q pc ls (zq_I y :: zq_I x :: zq_O t j :: st) σ := by
  subst hx
  exact gq_iast hkd hv (vp_in_nI hi (by omega)) hd (by rw [zq_cl31 hi hn]; exact kk)
theorem gw_bast (i : Nat) {x y : Int32} (hx : x = nI i) {t n : Nat} {j : Fin 5} (hkd : zq_kd t = (2, n, 0)) (hv : zq_vd t j = true) (hn : n ≤ 1000) (hi : i < n) (hd : decode M.2.1 pc = .ok (.bastore, 1)) (kk : zq_G ν M h Q (pc + 1) ls st (zq_up σ.1 t j i y.toInt8.toInt32, σ.2)) : zq_G ν M h Q pc ls (zq_I y :: zq_I x :: zq_O t j :: st) σ := by
  subst hx
  exact gq_bast hkd hv (vp_in_nI hi (by omega)) hd (by rw [zq_cl31 hi hn]; exact kk)
theorem gw_zast (i : Nat) {x y : Int32} (hx : x = nI i) {t n : Nat} {j : Fin 5} (hkd : zq_kd t = (4, n, 0)) (hv : zq_vd t j = true) (hn : n ≤ 1000) (hi : i < n) (hd : decode M.2.1 pc = .ok (.bastore, 1)) (kk : zq_G ν M h Q (pc + 1) ls st (zq_up σ.1 t j i (vp_nar .boolean y), σ.2)) : zq_G ν M h Q pc ls (zq_I y :: zq_I x :: zq_O t j :: st) σ := by
  subst hx
  exact gq_zast hkd hv (vp_in_nI hi (by omega)) hd (by rw [zq_cl31 hi hn]; exact kk)
theorem gw_last (i : Nat) {x : Int32} {y : Int64} (hx : x = nI i) (hi : i < 128) (hd : decode M.2.1 pc = .ok (.lastore, 1)) (kk : zq_G ν M h Q (pc + 1) ls st (σ.1, vp_updL σ.2.1 i y, σ.2.2)) : zq_G ν M h Q pc ls (zq_L y :: zq_I x :: zq_O 42 0 :: st) σ := by
  subst hx
  exact gq_last (n := 128) (vp_in_nI hi (by omega)) hd (by rw [zq_cl31 hi (by omega)]; exact kk)
end RX
/-- what every text that is taken gives -/
def za_wf (A : za_D) : Prop := (∀ i, i < za_n A → (za_pa A i = -4 ∨ ∃ q, q < i ∧ za_pa A i = nI q) ∧ (∃ f, f < 32 ∧ za_fa A i = nI f) ∧ (∃ t, t < 4 ∧ za_tr A i = nI t)) ∧ (∀ f, f < 5 → ∃ o, o < 11 ∧ za_od A f = nI o) ∧ (∀ k, k < za_m A → (∃ r, r < 10 ∧ za_rk A k = nI r) ∧ (∃ t, t < 4 ∧ za_th A k = nI t) ∧ (∃ c v, c < 6 ∧ v < 10 ∧ za_cl A k = nI c ∧ za_nu A k = nI v ∧ (c = 4 → v < 6) ∧ (c = 2 → v < 5)) ∧ (∃ q, q < 3 ∧ za_pi A k = nI q)) ∧ ∃ g, g < 2 ^ za_n A ∧ za_g A = nI g
theorem za_wf.kin {A : za_D} (h : za_wf A) (k : Nat) (hk : k < za_m A) (hc : za_cl A k = 4) : ∃ v, v < 6 ∧ za_nu A k = nI v := by
  obtain ⟨c, v, h1, h2, h3, h4, h5, -⟩ := (h.2.2.1 k hk).2.2.1
  have h6 : c = 4 := (nI_eq (by omega) (by omega)).mp (h3.symm.trans hc)
  exact ⟨v, h5 h6, h4⟩
def zs_meets (A : za_D) (k p : Nat) (ab : Int32) : Bool :=
  if zb_bit ab (nI p) then false
  else if za_cl A k = 0 then true
  else if za_cl A k = 1 then decide (nI (zs_place A p ab) = za_nu A k)
  else if za_cl A k = 2 then zb_bit (za_fa A p) (za_nu A k)
  else if za_cl A k = 3 then decide (za_nu A k ≤ za_tr A p)
  else if za_cl A k = 4 then za_kin A p (za_nu A k).toNatClampNeg
  else decide (nI (zs_child A p ab) = za_nu A k)
/-- the w-th from the front, or from the end, of those among the last r of n -/
def zs_rcv (P : Nat → Bool) (last : Bool) (n : Nat) : Nat → Nat → Int32
  | 0, _ => -4
  | r + 1, w => if P (if last then r else n - (r + 1)) then (if w = 1 then nI (if last then r else n - (r + 1)) else zs_rcv P last n r (w - 1)) else zs_rcv P last n r w
def zs_recv (A : za_D) (k : Nat) (ab : Int32) : Int32 := zs_rcv (fun p => zs_meets A k p ab) (za_pi A k = 2) (za_n A) (za_n A) (if za_pi A k = 1 then 3 else 1)
def zs_recvI (A : za_D) (k ab : Int32) : Int32 := if zb_in k (za_m A) then zs_recv A k.toNatClampNeg ab else -4
def zs_rt (A : za_D) (t ab set : Int32) : Nat → Int32
  | 0 => -4
  | k + 1 => if zb_bit set (nI k) = true ∧ za_th A k = t ∧ (zs_rt A t ab set k = -4 ∨ za_rk A k < za_rk A (zs_rt A t ab set k).toNatClampNeg) ∧ ¬ zs_recv A k ab = -4 then nI k else zs_rt A t ab set k
def zs_right (A : za_D) (t ab set : Int32) : Int32 := zs_rt A t ab set (za_m A)
def zs_own (A : za_D) (t ab set : Int32) : Int32 := zs_recvI A (zs_right A t ab set) ab
