theorem sp_frs : ∀ r : Nat, r ≤ 3 → zP_fr r
  | 0, _ => by
    intro hA hw p pl fr t hl hf
    exact sp_fr0 hA hw t hl
  | r + 1, h => by
    intro hA hw p pl fr t hl hf
    exact sp_fr1 (sp_frs r (by omega)) hA hw t hl hf
def zs_sh (A : za_D) (p : Nat) (t : Int32) : Nat → Nat → Option (List Nat) := zs_first (fun len => zs_find p t len A 0)
def zs_shv (o : Option (List Nat)) : Int32 := match o with
  | some l => nI l.length
  | none => -4
theorem zs_first_len {f : Nat → Option (List Nat)} {P : List Nat → Prop} (h : ∀ D l, f D = some l → P l) : ∀ k D l, zs_first f k D = some l → P l
  | 0, _, _, q => by cases q
  | k + 1, D, l, q => by
    rw [zs_first] at q
    split at q
    · next l' hl => cases q; exact h D l hl
    · exact zs_first_len h k (D + 1) l q
theorem zs_find_len {p : Nat} {t : Int32} : ∀ {r : Nat} {A : za_D} {fr : Nat} {l : List Nat}, zs_find p t r A fr = some l → l.length = r
  | 0, A, fr, l, h => by
    unfold zs_find at h
    split at h
    · cases h; rfl
    · cases h
  | r + 1, A, fr, l, h => by
    rw [zs_find] at h
    refine zs_first_len (P := fun l => l.length = r + 1) (fun D l q => ?_) _ _ _ h
    unfold zs_ff at q
    split at q
    · obtain ⟨l2, h2, rfl⟩ := Option.map_eq_some_iff.mp q
      rw [List.length_cons, zs_find_len h2]
    · cases q
theorem zs_sh_len {A : za_D} {p : Nat} {t : Int32} : ∀ {k len : Nat} {l : List Nat}, zs_sh A p t k len = some l → len ≤ l.length ∧ l.length < len + k
  | 0, _, _, q => by cases q
  | k + 1, len, l, q => by
    unfold zs_sh at q
    rw [zs_first] at q
    split at q
    · next l' hl => cases q; have := zs_find_len hl; omega
    · have := zs_sh_len (A := A) (p := p) (t := t) (k := k) (len := len + 1) q; omega
def zx_cl1 (A : za_D) (p : Nat) (t : Int32) (n : Nat) (w : Int32) : Int32 := match zs_sh A p t (n + 1) 0 with
  | none => -4
  | some l => if w = 0 then nI l.length else if w - 10 < nI l.length then nI (l.getD (w - 10).toNatClampNeg 0) else -4
def zx_clok (A : za_D) (p t n w : Int32) : Bool := (zb_in p (za_n A) && (zb_in t 4 && zx_3 n 3)) && (decide (w = 0) || decide (10 ≤ w ∧ w - 10 < n))
def zx_claim (A : za_D) (p t n w : Int32) : Int32 := if zx_clok A p t n w then zx_cl1 A p.toNatClampNeg t n.toNatClampNeg w else -1
/-! reading -/
def zs_rd (B : za_H) (k : Nat) (lane f : Int32) : Nat → Nat → za_D → Int32 × za_D × Int32 × Bool
  | 0, i, A => (nI i, A, 0, true)
  | r + 1, i, A => if ¬ zh_fault B k lane (f + nI i) = 0 then (nI i, A, zh_fault B k lane (f + nI i), true) else if zx_doesR A (B.2.2 k (f + nI i).toNatClampNeg) < 0 then (-20 - nI i, A, 0, false) else zs_rd B k lane f r (i + 1) (zx_doesA A (B.2.2 k (f + nI i).toNatClampNeg))
def zx_rdok (k l n : Int32) : Bool := zb_in k 4 && (zb_in l 3 && zx_3 n 20)
def zx_read1 (X : za_X) (k : Nat) (l f : Int32) (n : Nat) : Int32 × za_D × Int32 × Bool := zs_rd (zx_B X) k l f n 0 X.1
def zx_readR (X : za_X) (k l f n : Int32) : Int32 := if zx_rdok k l n then (zx_read1 X k.toNatClampNeg l f n.toNatClampNeg).1 else -1
def zx_read2 (X : za_X) (V : Int32 × za_D × Int32 × Bool) : za_X := if V.2.2.2 then (V.2.1, X.2.1, X.2.2.1, ((zx_f X).1, V.2.2.1), X.2.2.2.2) else X
def zx_readX (X : za_X) (k l f n : Int32) : za_X := if zx_rdok k l n then zx_read2 X (zx_read1 X k.toNatClampNeg l f n.toNatClampNeg) else X
theorem zs_read1 {σ τ υ : zq_T} {X : za_X} {A' : za_D} (h : zs_rep σ X) (hs : zd_same 2 σ τ) (hs2 : zd_same τ.2.2.1 τ υ) (hA : zc_rep υ τ.2.2.1 A') (v : Int32) : zs_rep (zq_up υ.1 0 0 12 v, υ.2) (A', X.2.1, X.2.2.1, ((zx_f X).1, v), X.2.2.2.2) ∧ zg_S σ (zq_up υ.1 0 0 12 v, υ.2) := by
  have h1 := (h.trial hs).duchy hs2 hA
  refine ⟨h1.other (zo_same.rf.up (by omega)) (zx_T X) ((zx_f X).1, v) (zx_s X) h1.2.2.2.1 ⟨h1.2.2.2.2.1.1, zq_upE⟩ h1.2.2.2.2.2.1 rfl, (hs.S.tr hs2.S).up (by omega)⟩

set_option maxHeartbeats 4000000 in
theorem sp_S_shortestRow {σ : zq_T} {X : za_X} (hS : zs_rep σ X) (hW : zx_wf X) {p n : Nat} (t : Int32) (hn3 : n ≤ 3) : zq_Sp zm_S_shortestRow 9 [zq_O 0 0, zq_I (nI p), zq_I t, zq_I (nI n)] σ (zq_rw (zq_I (zs_shv (zs_sh X.1 p t (n + 1) 0))) (fun τ => zr_same σ τ ∧ ∀ l, zs_sh X.1 p t (n + 1) 0 = some l → ∀ i, i < l.length → τ.1 21 0 i = nI (l.getD i 0))) := by
  have hA : zc_rep σ σ.2.2.1 X.1 := hS.2.1
  have hw : za_wf X.1 := hW.1
  have hn6 : za_n X.1 ≤ 6 := zc_n6 hA
  have hm5 : za_m X.1 ≤ 5 := zc_m5 hA
  have hs6 : (zx_s X).1 ≤ 6 := hW.2.2.2.1.1
  have hT6 : (zx_T X).1 ≤ 160 := hW.2.2.1.1
  refine zq_sp [some (zq_O 0 0), some (zq_I (nI p)), some (zq_I t), some (zq_I (nI n)), none] (by decide +kernel) rfl (Nat.le_of_ble_eq_true rfl) (fun ν => ?_)
  refine gq_aload_n dz_S_shortestRow_0 rfl ?_
  refine gq_getX 2 2 zf_S_40 rfl rfl rfl dz_S_shortestRow_1 ?_
  refine gq_aload_n dz_S_shortestRow_4 rfl ?_
  refine gq_getU zf_S_53 rfl rfl dz_S_shortestRow_5 ?_
  refine gq_cVX (sp_D_copyFrom (d := 2) hA (zs_d0 hS (by decide))) zw_D_copyFrom zl_S_174 dz_S_shortestRow_8 rfl rfl rfl (by omega) rfl rfl (Nat.le_of_ble_eq_true rfl) (fun τ8 hq8 => ?_)
  refine gq_iconst (v := 0) dz_S_shortestRow_11 rfl ?_
  refine gw_istore 4 dz_S_shortestRow_12 (Nat.le_of_ble_eq_true rfl) rfl ?_
  dsimp only [List.set]
  have L14 : ∀ (kf : Nat) (k len : Nat) (τ : zq_T) (hkf : k < kf) (hk : k + len = n + 1) (hv : zs_sh X.1 p t (n + 1) 0 = zs_sh X.1 p t k len) (hT : zc_rep τ 2 X.1) (hs : zr_same σ τ), zq_G ν zm_S_shortestRow 9 (zq_rw (zq_I (zs_shv (zs_sh X.1 p t (n + 1) 0))) (fun τ => zr_same σ τ ∧ ∀ l, zs_sh X.1 p t (n + 1) 0 = some l → ∀ i, i < l.length → τ.1 21 0 i = nI (l.getD i 0))) 14 [some (zq_O 0 0), some (zq_I (nI p)), some (zq_I t), some (zq_I (nI n)), some (zq_I (nI len))] [] τ := by
    intro kf
    induction kf with
    | zero => intro k len τ hkf hk hv hT hs; exact absurd hkf (Nat.not_lt_zero _)
    | succ kf ih14 =>
      intro k len τ hkf hk hv hT hs
      refine gq_iload dz_S_shortestRow_14 rfl ?_
      refine gq_iload_n dz_S_shortestRow_16 rfl ?_
      refine gq_icmp_gt (tgt := 49) dz_S_shortestRow_17 rfl (fun h17 => ?_) (fun h17 => ?_)
      · skip
        have hk0 : k = 0 := by rcases Nat.eq_zero_or_pos k with z | z; exact z; exact absurd (nI_le (show len ≤ n by omega) (by omega)) (fun y => by rw [Int32.lt_iff_toInt_lt] at h17; rw [Int32.le_iff_toInt_le] at y; omega)
        subst hk0
        refine gq_bipush (v := -4) dz_S_shortestRow_49 rfl ?_
        refine gw_iretP .int dz_S_shortestRow_51 rfl (by first | rfl | exact zb_nar _) ?_ ?_
        · rw [hv]; rfl
        · exact ⟨hs, fun l q => by rw [hv] at q; cases q⟩
      · skip
        obtain ⟨k, rfl⟩ : ∃ k2, k = k2 + 1 := ⟨k - 1, by rcases k with _ | k; exact absurd (nI_lt (show n < len by omega) (by omega)) h17; omega⟩
        refine gq_aload_n dz_S_shortestRow_20 rfl ?_
        refine gq_getX 2 2 zf_S_40 rfl rfl rfl dz_S_shortestRow_21 ?_
        refine gq_aload_n dz_S_shortestRow_24 rfl ?_
        refine gq_getR 21 zf_S_43 rfl rfl dz_S_shortestRow_25 ?_
        refine gq_iload_n dz_S_shortestRow_28 rfl ?_
        refine gq_iload_n dz_S_shortestRow_29 rfl ?_
        refine gq_iload dz_S_shortestRow_30 rfl ?_
        refine gq_iconst (v := 0) dz_S_shortestRow_32 rfl ?_
        refine gq_iconst (v := 0) dz_S_shortestRow_33 rfl ?_
        rw [show (nI len : Int32) = nI (0 + len) by rw [Nat.zero_add]]
        refine gq_cSP (sp_frs len (by omega) hT hw (p := p) (pl := 0) (fr := 0) t (by omega) (by omega)) zw_S_findRow zl_S_279 dz_S_shortestRow_34 (by omega) rfl rfl (Nat.le_of_ble_eq_true rfl) (fun τ34 hq34 => ?_)
        refine gw_ifb_eq (tgt := 43) dz_S_shortestRow_37 rfl (fun h37 => ?_) (fun h37 => ?_)
        · skip
          have h37 : zs_find p t len X.1 0 = none := by cases hz : zs_find p t len X.1 0; rfl; rw [hz] at h37; cases h37
          refine gw_iinc 4 (c := 1) dz_S_shortestRow_43 rfl rfl (Nat.le_of_ble_eq_true rfl) rfl ?_
          dsimp only [List.set]
          refine gq_goto (tgt := 14) dz_S_shortestRow_46 rfl ?_
          simp only [nI_1, Nat.zero_add]
          exact zq_fewer _ (zq_sub_spec (by repeat (first | exact trivial | exact rfl | refine And.intro ?_ ?_))) (ih14 k (len + 1) _ (by omega) (by omega) (hv.trans (zs_first_no h37)) hq34.1 (hs.tr hq34.2.1))
        · skip
          obtain ⟨l, hl⟩ := Option.isSome_iff_exists.mp h37
          refine gq_iload dz_S_shortestRow_40 rfl ?_
          refine gw_iretP .int dz_S_shortestRow_42 rfl (by first | rfl | exact zb_nar _) ?_ ?_
          · rw [hv, zs_sh, zs_first_ye (f := fun len => zs_find p t len X.1 0) hl, zs_shv, zs_find_len hl, Nat.zero_add]
          · exact ⟨hs.tr hq34.2.1, fun l2 q i hi => by rw [hv, zs_sh, zs_first_ye (f := fun len => zs_find p t len X.1 0) hl] at q; cases q; have := hq34.2.2.2 l hl i hi; rwa [Nat.zero_add] at this⟩
  exact zq_fewer _ (zq_sub_spec (by repeat (first | exact trivial | exact rfl | refine And.intro ?_ ?_))) (L14 (n + 2) (n + 1) 0 _ (by omega) (by omega) rfl hq8.1 hq8.2.r)
theorem zq_w10 {w : Int32} {m : Nat} (h : ¬ w < 10) (h2 : w - 10 < nI m) (hm : m ≤ 3) : ¬ w - 10 < 0 := by
  obtain ⟨j, hj, rfl⟩ := nI_of (x := w) (fun z => h (by rw [Int32.lt_iff_toInt_lt] at z ⊢; have : (10 : Int32).toInt = 10 := rfl; have : (0 : Int32).toInt = 0 := rfl; omega))
  have h10 : 10 ≤ j := by rcases Nat.lt_or_ge j 10 with z | z; exact absurd (nI_lt (b := 10) z (by omega)) h; exact z
  rw [show (10 : Int32) = nI 10 from rfl, pk_sub h10]
  exact nI_pos (by omega)
set_option maxHeartbeats 4000000 in
theorem sp_S_claim {σ : zq_T} {X : za_X} (hS : zs_rep σ X) (hW : zx_wf X) (p t n w : Int32) : zq_Sp zm_S_claim 10 [zq_O 0 0, zq_I p, zq_I t, zq_I n, zq_I w] σ (zq_rw (zq_I (zx_claim X.1 p t n w)) (fun τ => zs_rep τ (X) ∧ zg_S σ τ)) := by
  have hA : zc_rep σ σ.2.2.1 X.1 := hS.2.1
  have hw : za_wf X.1 := hW.1
  have hn6 : za_n X.1 ≤ 6 := zc_n6 hA
  have hm5 : za_m X.1 ≤ 5 := zc_m5 hA
  have hs6 : (zx_s X).1 ≤ 6 := hW.2.2.2.1.1
  have hT6 : (zx_T X).1 ≤ 160 := hW.2.2.1.1
  refine zq_sp [some (zq_O 0 0), some (zq_I p), some (zq_I t), some (zq_I n), some (zq_I w), none, none] (by decide +kernel) rfl (Nat.le_of_ble_eq_true rfl) (fun ν => ?_)
  refine gq_aload_n dz_S_claim_0 rfl ?_
  refine gq_getU zf_S_53 rfl rfl dz_S_claim_1 ?_
  refine gq_iload_n dz_S_claim_4 rfl ?_
  refine gq_cV (sp_D_isOne hA _) zw_D_isOne zl_S_95 dz_S_claim_5 rfl rfl rfl (by decide) rfl rfl (Nat.le_of_ble_eq_true rfl) ?_
  refine gw_ifb_eq (tgt := 27) dz_S_claim_8 rfl (fun h8 => ?_) (fun h8 => ?_)
  · skip
    refine gq_iconst (v := -1) dz_S_claim_27 rfl ?_
    refine gw_iretP .int dz_S_claim_28 rfl (by first | rfl | exact zb_nar _) ?_ ?_
    · rw [zx_claim, show zx_clok X.1 p t n w = false from by rw [zx_clok, h8]; simp]; rfl
    · exact ⟨hS, zg_S.rf⟩
  · skip
    refine gq_iload_n dz_S_claim_11 rfl ?_
    refine gq_cS (sp_S_isThing _) zw_S_isThing zl_S_147 dz_S_claim_12 (by decide) rfl rfl (Nat.le_of_ble_eq_true rfl) ?_
    refine gw_ifb_eq (tgt := 27) dz_S_claim_15 rfl (fun h15 => ?_) (fun h15 => ?_)
    · skip
      refine gq_iconst (v := -1) dz_S_claim_27 rfl ?_
      refine gw_iretP .int dz_S_claim_28 rfl (by first | rfl | exact zb_nar _) ?_ ?_
      · rw [zx_claim, show zx_clok X.1 p t n w = false from by rw [zx_clok, h15]; simp]; rfl
      · exact ⟨hS, zg_S.rf⟩
    · skip
      refine gq_iload_n dz_S_claim_18 rfl ?_
      refine gq_if_lt (tgt := 27) dz_S_claim_19 rfl (fun h19 => ?_) (fun h19 => ?_)
      · skip
        refine gq_iconst (v := -1) dz_S_claim_27 rfl ?_
        refine gw_iretP .int dz_S_claim_28 rfl (by first | rfl | exact zb_nar _) ?_ ?_
        · rw [zx_claim, show zx_clok X.1 p t n w = false from by rw [zx_clok, zx_3lt h19]; simp]; rfl
        · exact ⟨hS, zg_S.rf⟩
      · skip
        refine gq_iload_n dz_S_claim_22 rfl ?_
        refine gq_iconst (v := 3) dz_S_claim_23 rfl ?_
        refine gq_icmp_le (tgt := 29) dz_S_claim_24 rfl (fun h24 => ?_) (fun h24 => ?_)
        · skip
          refine gq_iload dz_S_claim_29 rfl ?_
          refine gq_bipush (v := 10) dz_S_claim_31 rfl ?_
          refine gq_isub dz_S_claim_33 ?_
          refine gw_istore 5 dz_S_claim_34 (Nat.le_of_ble_eq_true rfl) rfl ?_
          dsimp only [List.set]
          refine gq_iload dz_S_claim_36 rfl ?_
          refine gq_if_eq (tgt := 56) dz_S_claim_38 rfl (fun h38 => ?_) (fun h38 => ?_)
          · skip
            have hok : zx_clok X.1 p t n w = true := by rw [zx_clok, h8, h15, zx_3ye h19 h24, decide_eq_true h38, Bool.true_or]; rfl
            obtain ⟨q, hq, rfl⟩ := (zb_in_iff (by omega)).mp h8
            obtain ⟨m, hm, rfl⟩ := zx_3ex (n := 3) h19 h24 (by omega)
            have hV : zx_claim X.1 (nI q) t (nI m) w = zx_cl1 X.1 q t m w := by rw [zx_claim, hok, if_pos rfl, nI_clamp (show q < 2 ^ 31 by omega), nI_clamp (show m < 2 ^ 31 by omega)]
            rw [hV]
            refine gq_aload_n dz_S_claim_56 rfl ?_
            refine gq_iload_n dz_S_claim_57 rfl ?_
            refine gq_iload_n dz_S_claim_58 rfl ?_
            refine gq_iload_n dz_S_claim_59 rfl ?_
            refine gq_cVP (sp_S_shortestRow hS hW (p := q) (n := m) t hm) zw_S_shortestRow zl_S_168 dz_S_claim_60 rfl rfl rfl (by decide) rfl rfl (Nat.le_of_ble_eq_true rfl) (fun τ60 hq60 => ?_)
            refine gw_istore 6 dz_S_claim_63 (Nat.le_of_ble_eq_true rfl) rfl ?_
            dsimp only [List.set]
            refine gq_iload dz_S_claim_65 rfl ?_
            refine gq_bipush (v := -4) dz_S_claim_67 rfl ?_
            refine gq_icmp_eq (tgt := 77) dz_S_claim_69 rfl (fun h69 => ?_) (fun h69 => ?_)
            · skip
              have hz : zs_sh X.1 q t (m + 1) 0 = none := by cases hz : zs_sh X.1 q t (m + 1) 0; rfl; rename_i l; rw [hz] at h69; have := zs_sh_len hz; exact absurd h69 (fun y => by have h1 := congrArg Int32.toInt y; rw [zs_shv, nI_toInt (by omega)] at h1; have : (-4 : Int32).toInt = -4 := rfl; omega)
              refine gq_iload dz_S_claim_77 rfl ?_
              refine gw_iretP .int dz_S_claim_79 rfl (by first | rfl | exact zb_nar _) ?_ ?_
              · rw [zx_cl1, hz, zs_shv]
              · exact ⟨hS.tried hq60.1, hq60.1.S⟩
            · skip
              have hz : ∃ l, zs_sh X.1 q t (m + 1) 0 = some l := by cases hz : zs_sh X.1 q t (m + 1) 0; rw [hz] at h69; exact absurd rfl h69; exact ⟨_, rfl⟩
              obtain ⟨l, hl⟩ := hz
              have hln := zs_sh_len hl
              refine gq_iload dz_S_claim_72 rfl ?_
              refine gq_if_ne (tgt := 80) dz_S_claim_74 rfl (fun h74 => ?_) (fun h74 => ?_)
              · skip
                exact absurd h38 h74
              · skip
                refine gq_iload dz_S_claim_77 rfl ?_
                refine gw_iretP .int dz_S_claim_79 rfl (by first | rfl | exact zb_nar _) ?_ ?_
                · rw [zx_cl1, hl]; show _ = if w = 0 then _ else _; rw [if_pos h38]; rfl
                · exact ⟨hS.tried hq60.1, hq60.1.S⟩
          · skip
            have hw0 : ¬ w = 0 := h38
            refine gq_iload dz_S_claim_41 rfl ?_
            refine gq_bipush (v := 10) dz_S_claim_43 rfl ?_
            refine gq_icmp_lt (tgt := 54) dz_S_claim_45 rfl (fun h45 => ?_) (fun h45 => ?_)
            · skip
              have hlt : ¬ (10 ≤ w ∧ w - 10 < n) := fun z => by have := z.1; rw [Int32.lt_iff_toInt_lt] at h45; rw [Int32.le_iff_toInt_le] at this; omega
              refine gq_iconst (v := -1) dz_S_claim_54 rfl ?_
              refine gw_iretP .int dz_S_claim_55 rfl (by first | rfl | exact zb_nar _) ?_ ?_
              · rw [zx_claim, show zx_clok X.1 p t n w = false from by rw [zx_clok, decide_eq_false hw0, decide_eq_false hlt, Bool.or_false, Bool.and_false]]; rfl
              · exact ⟨hS, zg_S.rf⟩
            · skip
              refine gq_iload dz_S_claim_48 rfl ?_
              refine gq_iload_n dz_S_claim_50 rfl ?_
              refine gq_icmp_lt (tgt := 56) dz_S_claim_51 rfl (fun h51 => ?_) (fun h51 => ?_)
              · skip
                have hok : zx_clok X.1 p t n w = true := by rw [zx_clok, h8, h15, zx_3ye h19 h24, show decide (10 ≤ w ∧ w - 10 < n) = true from decide_eq_true ⟨by rw [Int32.le_iff_toInt_le]; rw [Int32.lt_iff_toInt_lt] at h45; omega, h51⟩, Bool.or_true]; rfl
                obtain ⟨q, hq, rfl⟩ := (zb_in_iff (by omega)).mp h8
                obtain ⟨m, hm, rfl⟩ := zx_3ex (n := 3) h19 h24 (by omega)
                have hV : zx_claim X.1 (nI q) t (nI m) w = zx_cl1 X.1 q t m w := by rw [zx_claim, hok, if_pos rfl, nI_clamp (show q < 2 ^ 31 by omega), nI_clamp (show m < 2 ^ 31 by omega)]
                rw [hV]
                refine gq_aload_n dz_S_claim_56 rfl ?_
                refine gq_iload_n dz_S_claim_57 rfl ?_
                refine gq_iload_n dz_S_claim_58 rfl ?_
                refine gq_iload_n dz_S_claim_59 rfl ?_
                refine gq_cVP (sp_S_shortestRow hS hW (p := q) (n := m) t hm) zw_S_shortestRow zl_S_168 dz_S_claim_60 rfl rfl rfl (by decide) rfl rfl (Nat.le_of_ble_eq_true rfl) (fun τ60 hq60 => ?_)
                refine gw_istore 6 dz_S_claim_63 (Nat.le_of_ble_eq_true rfl) rfl ?_
                dsimp only [List.set]
                refine gq_iload dz_S_claim_65 rfl ?_
                refine gq_bipush (v := -4) dz_S_claim_67 rfl ?_
                refine gq_icmp_eq (tgt := 77) dz_S_claim_69 rfl (fun h69 => ?_) (fun h69 => ?_)
                · skip
                  have hz : zs_sh X.1 q t (m + 1) 0 = none := by cases hz : zs_sh X.1 q t (m + 1) 0; rfl; rename_i l; rw [hz] at h69; have := zs_sh_len hz; exact absurd h69 (fun y => by have h1 := congrArg Int32.toInt y; rw [zs_shv, nI_toInt (by omega)] at h1; have : (-4 : Int32).toInt = -4 := rfl; omega)
                  refine gq_iload dz_S_claim_77 rfl ?_
                  refine gw_iretP .int dz_S_claim_79 rfl (by first | rfl | exact zb_nar _) ?_ ?_
                  · rw [zx_cl1, hz, zs_shv]
                  · exact ⟨hS.tried hq60.1, hq60.1.S⟩
                · skip
                  have hz : ∃ l, zs_sh X.1 q t (m + 1) 0 = some l := by cases hz : zs_sh X.1 q t (m + 1) 0; rw [hz] at h69; exact absurd rfl h69; exact ⟨_, rfl⟩
                  obtain ⟨l, hl⟩ := hz
                  have hln := zs_sh_len hl
                  refine gq_iload dz_S_claim_72 rfl ?_
                  refine gq_if_ne (tgt := 80) dz_S_claim_74 rfl (fun h74 => ?_) (fun h74 => ?_)
                  · skip
                    rw [hl, zs_shv]
                    refine gq_iload dz_S_claim_80 rfl ?_
                    refine gq_iload dz_S_claim_82 rfl ?_
                    refine gq_icmp_ge (tgt := 107) dz_S_claim_84 rfl (fun h84 => ?_) (fun h84 => ?_)
                    · skip
                      have h84 : ¬ w - 10 < nI l.length := fun z => by rw [Int32.lt_iff_toInt_lt] at z; rw [Int32.le_iff_toInt_le] at h84; omega
                      refine gq_bipush (v := -4) dz_S_claim_107 rfl ?_
                      refine gw_iretP .int dz_S_claim_109 rfl (by first | rfl | exact zb_nar _) ?_ ?_
                      · rw [zx_cl1, hl]; show _ = if w = 0 then _ else _; rw [if_neg h38, if_neg h84]
                      · exact ⟨hS.tried hq60.1, hq60.1.S⟩
                    · skip
                      have h84 : w - 10 < nI l.length := by rw [Int32.lt_iff_toInt_lt]; rw [Int32.le_iff_toInt_le] at h84; omega
                      obtain ⟨j, hj, ej⟩ := nI_of (x := w - 10) (zq_w10 h45 h51 hm)
                      have hjl : j < l.length := by rw [ej] at h84; exact (nI_ltI hj (by omega)).mp h84
                      refine gq_iload dz_S_claim_87 rfl ?_
                      refine gq_aload_n dz_S_claim_89 rfl ?_
                      refine gq_getR 21 zf_S_43 rfl rfl dz_S_claim_90 ?_
                      refine gq_alen (v := 3) rfl rfl rfl dz_S_claim_93 ?_
                      refine gq_icmp_ge (tgt := 107) dz_S_claim_94 rfl (fun h94 => ?_) (fun h94 => ?_)
                      · skip
                        exact absurd h94 (by rw [ej]; exact nI_ge (b := 3) (by omega) (by omega))
                      · skip
                        refine gq_aload_n dz_S_claim_97 rfl ?_
                        refine gq_getR 21 zf_S_43 rfl rfl dz_S_claim_98 ?_
                        refine gq_iload dz_S_claim_101 rfl ?_
                        refine gw_iald (j) (ej) rfl (rfl) (Nat.le_of_ble_eq_true rfl) (by omega) dz_S_claim_103 ?_
                        rw [hq60.2 l hl j hjl]
                        refine gq_goto (tgt := 109) dz_S_claim_104 rfl ?_
                        refine gw_iretP .int dz_S_claim_109 rfl (by first | rfl | exact zb_nar _) ?_ ?_
                        · rw [zx_cl1, hl]; show _ = if w = 0 then _ else _; rw [if_neg h38, if_pos h84, ej, nI_clamp hj]
                        · exact ⟨hS.tried hq60.1, hq60.1.S⟩
                  · skip
                    exact absurd h74 h38
              · skip
                have hlt : ¬ (10 ≤ w ∧ w - 10 < n) := fun z => h51 z.2
                refine gq_iconst (v := -1) dz_S_claim_54 rfl ?_
                refine gw_iretP .int dz_S_claim_55 rfl (by first | rfl | exact zb_nar _) ?_ ?_
                · rw [zx_claim, show zx_clok X.1 p t n w = false from by rw [zx_clok, decide_eq_false hw0, decide_eq_false hlt, Bool.or_false, Bool.and_false]]; rfl
                · exact ⟨hS, zg_S.rf⟩
        · skip
          refine gq_iconst (v := -1) dz_S_claim_27 rfl ?_
          refine gw_iretP .int dz_S_claim_28 rfl (by first | rfl | exact zb_nar _) ?_ ?_
          · rw [zx_claim, show zx_clok X.1 p t n w = false from by rw [zx_clok, zx_3gt h24]; simp]; rfl
          · exact ⟨hS, zg_S.rf⟩
set_option maxHeartbeats 4000000 in
theorem sp_S_read {σ : zq_T} {X : za_X} (hS : zs_rep σ X) (hW : zx_wf X) (k l f n : Int32) : zq_Sp zm_S_read 6 [zq_O 0 0, zq_I k, zq_I l, zq_I f, zq_I n] σ (zq_rw (zq_I (zx_readR X k l f n)) (fun τ => zs_rep τ (zx_readX X k l f n) ∧ zg_S σ τ)) := by
  have hA : zc_rep σ σ.2.2.1 X.1 := hS.2.1
  have hw : za_wf X.1 := hW.1
  have hn6 : za_n X.1 ≤ 6 := zc_n6 hA
  have hm5 : za_m X.1 ≤ 5 := zc_m5 hA
  have hs6 : (zx_s X).1 ≤ 6 := hW.2.2.2.1.1
  have hT6 : (zx_T X).1 ≤ 160 := hW.2.2.1.1
  have hV := hW.2.1
  refine zq_sp [some (zq_O 0 0), some (zq_I k), some (zq_I l), some (zq_I f), some (zq_I n), none, none] (by decide +kernel) rfl (Nat.le_of_ble_eq_true rfl) (fun ν => ?_)
  refine gq_aload_n dz_S_read_0 rfl ?_
  refine gq_getR 4 zf_S_26 rfl rfl dz_S_read_1 ?_
  refine gq_iload_n dz_S_read_4 rfl ?_
  refine gq_cV (sp_H_isSheet _) zw_H_isSheet zl_S_242 dz_S_read_5 rfl rfl rfl (by decide) rfl rfl (Nat.le_of_ble_eq_true rfl) ?_
  refine gw_ifb_eq (tgt := 34) dz_S_read_8 rfl (fun h8 => ?_) (fun h8 => ?_)
  · skip
    refine gq_iconst (v := -1) dz_S_read_34 rfl ?_
    refine gw_iretP .int dz_S_read_35 rfl (by first | rfl | exact zb_nar _) ?_ ?_
    · rw [zx_readR, show zx_rdok k l n = false from by rw [zx_rdok, h8]; simp]; rfl
    · rw [zx_readX, show zx_rdok k l n = false from by rw [zx_rdok, h8]; simp]; exact ⟨hS, zg_S.rf⟩
  · skip
    refine gq_aload_n dz_S_read_11 rfl ?_
    refine gq_getR 4 zf_S_26 rfl rfl dz_S_read_12 ?_
    refine gq_iload_n dz_S_read_15 rfl ?_
    refine gq_cV (sp_H_isLane _) zw_H_isLane zl_S_245 dz_S_read_16 rfl rfl rfl (by decide) rfl rfl (Nat.le_of_ble_eq_true rfl) ?_
    refine gw_ifb_eq (tgt := 34) dz_S_read_19 rfl (fun h19 => ?_) (fun h19 => ?_)
    · skip
      refine gq_iconst (v := -1) dz_S_read_34 rfl ?_
      refine gw_iretP .int dz_S_read_35 rfl (by first | rfl | exact zb_nar _) ?_ ?_
      · rw [zx_readR, show zx_rdok k l n = false from by rw [zx_rdok, h19]; simp]; rfl
      · rw [zx_readX, show zx_rdok k l n = false from by rw [zx_rdok, h19]; simp]; exact ⟨hS, zg_S.rf⟩
    · skip
      refine gq_iload dz_S_read_22 rfl ?_
      refine gq_if_lt (tgt := 34) dz_S_read_24 rfl (fun h24 => ?_) (fun h24 => ?_)
      · skip
        refine gq_iconst (v := -1) dz_S_read_34 rfl ?_
        refine gw_iretP .int dz_S_read_35 rfl (by first | rfl | exact zb_nar _) ?_ ?_
        · rw [zx_readR, show zx_rdok k l n = false from by rw [zx_rdok, zx_3lt h24]; simp]; rfl
        · rw [zx_readX, show zx_rdok k l n = false from by rw [zx_rdok, zx_3lt h24]; simp]; exact ⟨hS, zg_S.rf⟩
      · skip
        refine gq_iload dz_S_read_27 rfl ?_
        refine gq_bipush (v := 20) dz_S_read_29 rfl ?_
        refine gq_icmp_le (tgt := 36) dz_S_read_31 rfl (fun h31 => ?_) (fun h31 => ?_)
        · skip
          have hok : zx_rdok k l n = true := by rw [zx_rdok, h8, h19, zx_3ye h24 h31]; rfl
          obtain ⟨q, hq, rfl⟩ := (zb_in_iff (by omega)).mp h8
          obtain ⟨m, hm, rfl⟩ := zx_3ex (n := 20) h24 h31 (by omega)
          have hR : zx_readR X (nI q) l f (nI m) = (zs_rd (zx_B X) q l f m 0 X.1).1 := by rw [zx_readR, hok, if_pos rfl, nI_clamp (show q < 2 ^ 31 by omega), nI_clamp (show m < 2 ^ 31 by omega)]; rfl
          have hX2 : zx_readX X (nI q) l f (nI m) = zx_read2 X (zs_rd (zx_B X) q l f m 0 X.1) := by rw [zx_readX, hok, if_pos rfl, nI_clamp (show q < 2 ^ 31 by omega), nI_clamp (show m < 2 ^ 31 by omega)]; rfl
          rw [hR, hX2]
          refine gq_aload_n dz_S_read_36 rfl ?_
          refine gq_getX 2 2 zf_S_40 rfl rfl rfl dz_S_read_37 ?_
          refine gq_aload_n dz_S_read_40 rfl ?_
          refine gq_getU zf_S_53 rfl rfl dz_S_read_41 ?_
          refine gq_cVX (sp_D_copyFrom (d := 2) hA (zs_d0 hS (by decide))) zw_D_copyFrom zl_S_174 dz_S_read_44 rfl rfl rfl (by decide) rfl rfl (Nat.le_of_ble_eq_true rfl) (fun τ44 hq44 => ?_)
          refine gq_iconst (v := 0) dz_S_read_47 rfl ?_
          refine gw_istore 5 dz_S_read_48 (Nat.le_of_ble_eq_true rfl) rfl ?_
          dsimp only [List.set]
          refine gq_iconst (v := 0) dz_S_read_50 rfl ?_
          refine gw_istore 6 dz_S_read_51 (Nat.le_of_ble_eq_true rfl) rfl ?_
          dsimp only [List.set]
          have L53 : ∀ (kf : Nat) (r i : Nat) (A : za_D) (τ : zq_T) (hkf : r < kf) (hi : i + r = m) (hv : zs_rd (zx_B X) q l f m 0 X.1 = zs_rd (zx_B X) q l f r i A) (hT : zc_rep τ 2 A) (hs : zd_same 2 σ τ), zq_G ν zm_S_read 6 (zq_rw (zq_I (zs_rd (zx_B X) q l f m 0 X.1).1) (fun τ => zs_rep τ (zx_read2 X (zs_rd (zx_B X) q l f m 0 X.1)) ∧ zg_S σ τ)) 53 [some (zq_O 0 0), some (zq_I (nI q)), some (zq_I l), some (zq_I f), some (zq_I (nI m)), some (zq_I 0), some (zq_I (nI i))] [] τ := by
            intro kf
            induction kf with
            | zero => intro r i A τ hkf hi hv hT hs; exact absurd hkf (Nat.not_lt_zero _)
            | succ kf ih53 =>
              intro r i A τ hkf hi hv hT hs
              refine gq_iload dz_S_read_53 rfl ?_
              refine gq_iload dz_S_read_55 rfl ?_
              refine gq_icmp_ge (tgt := 117) dz_S_read_57 rfl (fun h57 => ?_) (fun h57 => ?_)
              · skip
                have hr0 : r = 0 := by have := (nI_leI (by omega) (by omega)).mp h57; omega
                subst hr0
                refine gq_aload_n dz_S_read_117 rfl ?_
                refine gq_getU zf_S_53 rfl rfl dz_S_read_118 ?_
                refine gq_aload_n dz_S_read_121 rfl ?_
                refine gq_getX 2 2 zf_S_40 rfl rfl rfl dz_S_read_122 ?_
                refine gq_cVX (sp_D_copyFrom hT (by rw [show τ.2.2.1 = σ.2.2.1 from by rw [hs.1]]; exact (zs_d0 hS (by decide)).symm)) zw_D_copyFrom zl_S_174 dz_S_read_125 rfl rfl rfl (by decide) rfl rfl (Nat.le_of_ble_eq_true rfl) (fun τ125 hq125 => ?_)
                refine gq_aload_n dz_S_read_128 rfl ?_
                refine gq_iload dz_S_read_129 rfl ?_
                refine gq_putI zv_S_264 rfl rfl dz_S_read_131 ?_
                refine gq_iload dz_S_read_134 rfl ?_
                refine gw_iretP .int dz_S_read_136 rfl (by first | rfl | exact zb_nar _) ?_ ?_
                · rw [hv]; rfl
                · rw [hv, zs_rd, zx_read2, if_pos rfl]; exact zs_read1 hS hs hq125.2 hq125.1 _
              · skip
                obtain ⟨r, rfl⟩ : ∃ r2, r = r2 + 1 := ⟨r - 1, by rcases r with _ | r; exact absurd (nI_le (by omega) (by omega)) h57; omega⟩
                have hB : zh_rep τ (zx_B X) := hS.2.2.1.keep (fun t j k _ _ => hs.2 t j k (fun z => by omega))
                refine gq_aload_n dz_S_read_60 rfl ?_
                refine gq_getR 4 zf_S_26 rfl rfl dz_S_read_61 ?_
                refine gq_iload_n dz_S_read_64 rfl ?_
                refine gq_iload_n dz_S_read_65 rfl ?_
                refine gq_iload_n dz_S_read_66 rfl ?_
                refine gq_iload dz_S_read_67 rfl ?_
                refine gq_iadd dz_S_read_69 ?_
                refine gq_cV (sp_H_faultAt hB hV hq _ _) zw_H_faultAt zl_S_255 dz_S_read_70 rfl rfl rfl (by decide) rfl rfl (Nat.le_of_ble_eq_true rfl) ?_
                refine gw_istore 5 dz_S_read_73 (Nat.le_of_ble_eq_true rfl) rfl ?_
                dsimp only [List.set]
                refine gq_iload dz_S_read_75 rfl ?_
                refine gq_if_eq (tgt := 83) dz_S_read_77 rfl (fun h77 => ?_) (fun h77 => ?_)
                · skip
                  obtain ⟨c, hc4, ec⟩ := zh_in_ex hV hq (zh_f0 h77)
                  refine gq_aload_n dz_S_read_83 rfl ?_
                  refine gq_getX 2 2 zf_S_40 rfl rfl rfl dz_S_read_84 ?_
                  refine gq_aload_n dz_S_read_87 rfl ?_
                  refine gq_getR 4 zf_S_26 rfl rfl dz_S_read_88 ?_
                  refine gq_iload_n dz_S_read_91 rfl ?_
                  refine gq_iload_n dz_S_read_92 rfl ?_
                  refine gq_iload dz_S_read_93 rfl ?_
                  refine gq_iadd dz_S_read_95 ?_
                  rw [ec]
                  refine gq_cV (sp_H_cell hB hV hq (i := c) (by rw [← ec]; exact zh_f0 h77) hc4) zw_H_cell zl_S_261 dz_S_read_96 rfl rfl rfl (by decide) rfl rfl (Nat.le_of_ble_eq_true rfl) ?_
                  refine gq_cVP (sp_D_actX hT _) zw_D_act zl_S_158 dz_S_read_99 rfl rfl rfl (by decide) rfl rfl (Nat.le_of_ble_eq_true rfl) (fun τ99 hq99 => ?_)
                  refine gq_if_ge (tgt := 111) dz_S_read_102 rfl (fun h102 => ?_) (fun h102 => ?_)
                  · skip
                    have h102 : ¬ zx_doesR A ((zx_B X).2.2 q c) < 0 := fun z => by rw [Int32.lt_iff_toInt_lt] at z; rw [Int32.le_iff_toInt_le] at h102; omega
                    refine gw_iinc 6 (c := 1) dz_S_read_111 rfl rfl (Nat.le_of_ble_eq_true rfl) rfl ?_
                    dsimp only [List.set]
                    refine gq_goto (tgt := 53) dz_S_read_114 rfl ?_
                    simp only [nI_1]
                    rw [← ec, h77]
                    exact zq_fewer _ (zq_sub_spec (by repeat (first | exact trivial | exact rfl | refine And.intro ?_ ?_))) (ih53 r (i + 1) _ _ (by omega) (by omega) (hv.trans (by rw [zs_rd, if_neg (fun z => z h77), ec, nI_clamp (by omega), if_neg h102])) hq99.1 (hs.tr hq99.2))
                  · skip
                    have h102 : zx_doesR A ((zx_B X).2.2 q c) < 0 := by rw [Int32.lt_iff_toInt_lt]; rw [Int32.le_iff_toInt_le] at h102; omega
                    refine gq_bipush (v := -20) dz_S_read_105 rfl ?_
                    refine gq_iload dz_S_read_107 rfl ?_
                    refine gq_isub dz_S_read_109 ?_
                    refine gw_iretP .int dz_S_read_110 rfl (by first | rfl | exact zb_nar _) ?_ ?_
                    · rw [hv, zs_rd, if_neg (fun z => z h77), ec, nI_clamp (by omega), if_pos h102]
                    · rw [hv, zs_rd, if_neg (fun z => z h77), ec, nI_clamp (by omega), if_pos h102, zx_read2, if_neg Bool.false_ne_true]; exact ⟨(hS.trial hs).trial hq99.2, (hs.tr hq99.2).S⟩
                · skip
                  refine gq_goto (tgt := 117) dz_S_read_80 rfl ?_
                  refine gq_aload_n dz_S_read_117 rfl ?_
                  refine gq_getU zf_S_53 rfl rfl dz_S_read_118 ?_
                  refine gq_aload_n dz_S_read_121 rfl ?_
                  refine gq_getX 2 2 zf_S_40 rfl rfl rfl dz_S_read_122 ?_
                  refine gq_cVX (sp_D_copyFrom hT (by rw [show τ.2.2.1 = σ.2.2.1 from by rw [hs.1]]; exact (zs_d0 hS (by decide)).symm)) zw_D_copyFrom zl_S_174 dz_S_read_125 rfl rfl rfl (by decide) rfl rfl (Nat.le_of_ble_eq_true rfl) (fun τ125 hq125 => ?_)
                  refine gq_aload_n dz_S_read_128 rfl ?_
                  refine gq_iload dz_S_read_129 rfl ?_
                  refine gq_putI zv_S_264 rfl rfl dz_S_read_131 ?_
                  refine gq_iload dz_S_read_134 rfl ?_
                  refine gw_iretP .int dz_S_read_136 rfl (by first | rfl | exact zb_nar _) ?_ ?_
                  · rw [hv, zs_rd, if_pos h77]
                  · rw [hv, zs_rd, if_pos h77, zx_read2, if_pos rfl]; exact zs_read1 hS hs hq125.2 hq125.1 _
          exact zq_fewer _ (zq_sub_spec (by repeat (first | exact trivial | exact rfl | refine And.intro ?_ ?_))) (L53 (m + 1) m 0 X.1 _ (by omega) (by omega) rfl hq44.1 hq44.2)
        · skip
          refine gq_iconst (v := -1) dz_S_read_34 rfl ?_
          refine gw_iretP .int dz_S_read_35 rfl (by first | rfl | exact zb_nar _) ?_ ?_
          · rw [zx_readR, show zx_rdok k l n = false from by rw [zx_rdok, zx_3gt h31]; simp]; rfl
          · rw [zx_readX, show zx_rdok k l n = false from by rw [zx_rdok, zx_3gt h31]; simp]; exact ⟨hS, zg_S.rf⟩
