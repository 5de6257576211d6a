/-! THE MODEL'S READERS -/
theorem zn_k0 (k : Nat) : (3 : Int32) * nI k = nI (3 * k) := by rw [show (3 : Int32) = nI 3 from rfl, pk_mul]
theorem zn_k1 (k : Nat) : (3 : Int32) * nI k + 1 = nI (3 * k + 1) := by rw [zn_k0, nI_1]
theorem zn_k2 (k : Nat) : (3 : Int32) * nI k + 2 = nI (3 * k + 2) := by rw [zn_k0, show (2 : Int32) = nI 2 from rfl, nI_add]
def zn_bn (A : za_D) (p : Nat) (ab : Int32) (q : Nat) : Nat := if zb_bit ab (nI p) then 0 else 1 + zf_ct (zs_born A p ab) q
theorem zn_bn_0 {A : za_D} {p q v : Nat} {ab : Int32} (hv : v = zn_bn A p ab q) (h : v = 0) : v = zn_bn A p ab (q + 1) := by
  unfold zn_bn at *
  split at hv
  · rw [hv]; simp [*]
  · omega
theorem zn_bn_f {A : za_D} {p q v : Nat} {ab : Int32} (hv : v = zn_bn A p ab q) (h : zs_born A p ab q = false) : v = zn_bn A p ab (q + 1) := by
  unfold zn_bn at *
  rw [zf_ct_f h]; exact hv
theorem zn_bn_t {A : za_D} {p q v : Nat} {ab : Int32} (hv : v = zn_bn A p ab q) (h0 : ¬ v = 0) (h : zs_born A p ab q = true) : v + 1 = zn_bn A p ab (q + 1) := by
  unfold zn_bn at *
  rw [zf_ct_t h]
  split at hv
  · exact absurd hv h0
  · rename_i hz; rw [if_neg hz]; omega
theorem zn_bn_p {A : za_D} {p : Nat} {ab : Int32} : zn_bn A p ab p = zs_place A p ab := by
  unfold zn_bn zs_place
  split
  · rfl
  · rename_i hz
    rw [zf_ct_t (by simp [zs_born, hz])]; omega
theorem zn_ab_in {A : za_D} (hw : za_wf A) (hn : za_n A ≤ 6) {p : Nat} (hp : p < za_n A) (v : Nat) : za_kin A p v = zn_ab (za_pa A) (za_pa A p) p v := by
  show za_up (za_pa A) 6 p v = _
  unfold zn_ab
  rw [za_up]
  rcases (hw.1 p hp).1 with h | ⟨q, hq, h⟩
  · rw [h, if_pos (by decide), if_pos (by decide)]
  · rw [h, nI_clamp (by omega), zt_up_far (pb := za_pa A) (fun i hi => (hw.1 i hi).1) hn (fun _ _ => rfl) q 5 p v (by omega) (by omega) hq]
theorem zn_ab_go {pa : Nat → Int32} {q s v : Nat} (hq : q < 1000) (h : ¬ q = v) (hv : v < 1000) : zn_ab pa (nI q) (s + 1) v = zn_ab pa (pa q) s v := by
  unfold zn_ab
  rw [if_neg (nI_pos (by omega)), nI_clamp (by omega), show (nI q == nI v) = false from beq_eq_false_iff_ne.mpr (fun z => h ((nI_eq (by omega) (by omega)).mp z)), Bool.false_or, za_up]
theorem zb_bv1 {a p : Int32} : (a >>> (p &&& 31)) &&& 1 = 1 ↔ zb_bit a p = true := by
  rw [← zb_bv]
  cases zb_bit a p <;> simp [zb_v]

set_option maxHeartbeats 4000000 in
theorem sp_M_bornAs {σ : zq_T} {A : za_D} (hA : zn_rep σ A) (hw : za_wf A) {p : Nat} (hp : p < za_n A) (ab : Int32) : zq_Sp zm_M_bornAs 1 [zq_O 30 0, zq_I (nI p), zq_I ab] σ (zq_rv (zq_I (nI (zs_place A p ab))) σ) := by
  have hn6 := zn_n6 hA
  have hm5 := zn_m5 hA
  refine zq_sp [some (zq_O 30 0), some (zq_I (nI p)), some (zq_I ab), none, none] (by decide +kernel) rfl (Nat.le_of_ble_eq_true rfl) (fun ν => ?_)
  refine gq_iload_n dz_M_bornAs_0 rfl ?_
  refine gq_iload_n dz_M_bornAs_1 rfl ?_
  refine gq_cS (sp_M_isThere _ _) zw_M_isThere zl_M_169 dz_M_bornAs_2 (by decide) rfl rfl (Nat.le_of_ble_eq_true rfl) ?_
  refine gw_ifb_eq (tgt := 12) dz_M_bornAs_5 rfl (fun h5 => ?_) (fun h5 => ?_)
  · skip
    have hb : zb_bit ab (nI p) = true := by simpa using h5
    refine gq_iconst (v := 0) dz_M_bornAs_12 rfl ?_
    refine gw_istore_n 3 dz_M_bornAs_13 rfl (Nat.le_of_ble_eq_true rfl) rfl ?_
    dsimp only [List.set]
    refine gq_iconst (v := 0) dz_M_bornAs_14 rfl ?_
    refine gw_istore 4 dz_M_bornAs_15 (Nat.le_of_ble_eq_true rfl) rfl ?_
    dsimp only [List.set]
    have L17 : ∀ (kf : Nat) (q v : Nat) (hkf : p - q < kf) (hq : q ≤ p) (hv : v = zn_bn A p ab q) (hv2 : v ≤ q + 1), zq_G ν zm_M_bornAs 1 (zq_rv (zq_I (nI (zs_place A p ab))) σ) 17 [some (zq_O 30 0), some (zq_I (nI p)), some (zq_I ab), some (zq_I (nI v)), some (zq_I (nI q))] [] σ := by
      intro kf
      induction kf with
      | zero => intro q v hkf hq hv hv2; exact absurd hkf (Nat.not_lt_zero _)
      | succ kf ih17 =>
        intro q v hkf hq hv hv2
        refine gq_iload dz_M_bornAs_17 rfl ?_
        refine gq_iload_n dz_M_bornAs_19 rfl ?_
        refine gq_icmp_ge (tgt := 66) dz_M_bornAs_20 rfl (fun h20 => ?_) (fun h20 => ?_)
        · skip
          have hqp : q = p := by have := (nI_leI (by omega) (by omega)).mp h20; omega
          refine gq_iload_n dz_M_bornAs_66 rfl ?_
          refine gw_iret .int dz_M_bornAs_67 rfl (by first | rfl | exact zb_nar _ | exact pk_nc _) ?_ ?_
          · rw [hv, hqp, zn_bn_p]
          · rfl
        · skip
          have hqp : q < p := by rcases Nat.lt_or_ge q (p) with z | z; exact z; exact absurd (nI_le z (by omega)) h20
          refine gq_iload_n dz_M_bornAs_23 rfl ?_
          refine gq_iload_n dz_M_bornAs_24 rfl ?_
          refine gq_if_le (tgt := 57) dz_M_bornAs_25 rfl (fun h25 => ?_) (fun h25 => ?_)
          · skip
            have hv1 : v = 0 := by rcases Nat.eq_zero_or_pos v with z | z; exact z; exact absurd h25 (by rw [Int32.le_iff_toInt_le, nI_toInt (by omega)]; have : (0 : Int32).toInt = 0 := rfl; omega)
            refine gq_iconst (v := 0) dz_M_bornAs_57 rfl ?_
            refine gq_iadd dz_M_bornAs_58 ?_
            refine gw_istore_n 3 dz_M_bornAs_59 rfl (Nat.le_of_ble_eq_true rfl) rfl ?_
            dsimp only [List.set]
            refine gw_iinc 4 (c := 1) dz_M_bornAs_60 rfl rfl (Nat.le_of_ble_eq_true rfl) rfl ?_
            dsimp only [List.set]
            refine gq_goto (tgt := 17) dz_M_bornAs_63 rfl ?_
            simp only [nI_1, Int32.add_zero]
            exact zq_fewer _ (zq_sub_spec (by repeat (first | exact trivial | exact rfl | refine And.intro ?_ ?_))) (ih17 (q + 1) v (by omega) (by omega) (zn_bn_0 hv hv1) (by omega))
          · skip
            have hv1 : ¬ v = 0 := fun z => h25 (by rw [z]; decide)
            refine gq_aload_n dz_M_bornAs_28 rfl ?_
            refine gq_getR 32 zf_M_13 rfl rfl dz_M_bornAs_29 ?_
            refine gq_iload dz_M_bornAs_32 rfl ?_
            refine gw_iald (q) (rfl) rfl (rfl) (Nat.le_of_ble_eq_true rfl) (by omega) dz_M_bornAs_34 ?_
            rw [zn_pa hA (by omega)]
            refine gq_aload_n dz_M_bornAs_35 rfl ?_
            refine gq_getR 32 zf_M_13 rfl rfl dz_M_bornAs_36 ?_
            refine gq_iload_n dz_M_bornAs_39 rfl ?_
            refine gw_iald (p) (rfl) rfl (rfl) (Nat.le_of_ble_eq_true rfl) (by omega) dz_M_bornAs_40 ?_
            rw [zn_pa hA (by omega)]
            refine gq_icmp_ne (tgt := 57) dz_M_bornAs_41 rfl (fun h41 => ?_) (fun h41 => ?_)
            · skip
              have hz : zs_born A p ab q = false := by rw [zs_born, show (za_pa A q == za_pa A p) = false from beq_eq_false_iff_ne.mpr (fun z => h41 ((zn_par_in hw hp (by omega) hn6).mpr z))]; rfl
              refine gq_iconst (v := 0) dz_M_bornAs_57 rfl ?_
              refine gq_iadd dz_M_bornAs_58 ?_
              refine gw_istore_n 3 dz_M_bornAs_59 rfl (Nat.le_of_ble_eq_true rfl) rfl ?_
              dsimp only [List.set]
              refine gw_iinc 4 (c := 1) dz_M_bornAs_60 rfl rfl (Nat.le_of_ble_eq_true rfl) rfl ?_
              dsimp only [List.set]
              refine gq_goto (tgt := 17) dz_M_bornAs_63 rfl ?_
              simp only [nI_1, Int32.add_zero]
              exact zq_fewer _ (zq_sub_spec (by repeat (first | exact trivial | exact rfl | refine And.intro ?_ ?_))) (ih17 (q + 1) v (by omega) (by omega) (zn_bn_f hv hz) (by omega))
            · skip
              have hz1 : (za_pa A q == za_pa A p) = true := beq_iff_eq.mpr ((zn_par_in hw hp (by omega) hn6).mp h41)
              refine gq_iload dz_M_bornAs_44 rfl ?_
              refine gq_iload_n dz_M_bornAs_46 rfl ?_
              refine gq_cS (sp_M_isThere _ _) zw_M_isThere zl_M_169 dz_M_bornAs_47 (by decide) rfl rfl (Nat.le_of_ble_eq_true rfl) ?_
              refine gw_ifb_eq (tgt := 57) dz_M_bornAs_50 rfl (fun h50 => ?_) (fun h50 => ?_)
              · skip
                have hz : zs_born A p ab q = false := by rw [zs_born, hz1, h50]; rfl
                refine gq_iconst (v := 0) dz_M_bornAs_57 rfl ?_
                refine gq_iadd dz_M_bornAs_58 ?_
                refine gw_istore_n 3 dz_M_bornAs_59 rfl (Nat.le_of_ble_eq_true rfl) rfl ?_
                dsimp only [List.set]
                refine gw_iinc 4 (c := 1) dz_M_bornAs_60 rfl rfl (Nat.le_of_ble_eq_true rfl) rfl ?_
                dsimp only [List.set]
                refine gq_goto (tgt := 17) dz_M_bornAs_63 rfl ?_
                simp only [nI_1, Int32.add_zero]
                exact zq_fewer _ (zq_sub_spec (by repeat (first | exact trivial | exact rfl | refine And.intro ?_ ?_))) (ih17 (q + 1) v (by omega) (by omega) (zn_bn_f hv hz) (by omega))
              · skip
                have hz : zs_born A p ab q = true := by rw [zs_born, hz1, h50]; rfl
                refine gq_iconst (v := 1) dz_M_bornAs_53 rfl ?_
                refine gq_goto (tgt := 58) dz_M_bornAs_54 rfl ?_
                refine gq_iadd dz_M_bornAs_58 ?_
                refine gw_istore_n 3 dz_M_bornAs_59 rfl (Nat.le_of_ble_eq_true rfl) rfl ?_
                dsimp only [List.set]
                refine gw_iinc 4 (c := 1) dz_M_bornAs_60 rfl rfl (Nat.le_of_ble_eq_true rfl) rfl ?_
                dsimp only [List.set]
                refine gq_goto (tgt := 17) dz_M_bornAs_63 rfl ?_
                simp only [nI_1, Int32.add_zero]
                exact zq_fewer _ (zq_sub_spec (by repeat (first | exact trivial | exact rfl | refine And.intro ?_ ?_))) (ih17 (q + 1) (v + 1) (by omega) (by omega) (zn_bn_t hv hv1 hz) (by omega))
    exact zq_fewer _ (zq_sub_spec (by repeat (first | exact trivial | exact rfl | refine And.intro ?_ ?_))) (L17 (p + 1) 0 0 (by omega) (by omega) (by rw [zn_bn, hb]; rfl) (by omega))
  · skip
    have hb : zb_bit ab (nI p) = false := by simpa using h5
    refine gq_iconst (v := 1) dz_M_bornAs_8 rfl ?_
    refine gq_goto (tgt := 13) dz_M_bornAs_9 rfl ?_
    refine gw_istore_n 3 dz_M_bornAs_13 rfl (Nat.le_of_ble_eq_true rfl) rfl ?_
    dsimp only [List.set]
    refine gq_iconst (v := 0) dz_M_bornAs_14 rfl ?_
    refine gw_istore 4 dz_M_bornAs_15 (Nat.le_of_ble_eq_true rfl) rfl ?_
    dsimp only [List.set]
    have L17 : ∀ (kf : Nat) (q v : Nat) (hkf : p - q < kf) (hq : q ≤ p) (hv : v = zn_bn A p ab q) (hv2 : v ≤ q + 1), zq_G ν zm_M_bornAs 1 (zq_rv (zq_I (nI (zs_place A p ab))) σ) 17 [some (zq_O 30 0), some (zq_I (nI p)), some (zq_I ab), some (zq_I (nI v)), some (zq_I (nI q))] [] σ := by
      intro kf
      induction kf with
      | zero => intro q v hkf hq hv hv2; exact absurd hkf (Nat.not_lt_zero _)
      | succ kf ih17 =>
        intro q v hkf hq hv hv2
        refine gq_iload dz_M_bornAs_17 rfl ?_
        refine gq_iload_n dz_M_bornAs_19 rfl ?_
        refine gq_icmp_ge (tgt := 66) dz_M_bornAs_20 rfl (fun h20 => ?_) (fun h20 => ?_)
        · skip
          have hqp : q = p := by have := (nI_leI (by omega) (by omega)).mp h20; omega
          refine gq_iload_n dz_M_bornAs_66 rfl ?_
          refine gw_iret .int dz_M_bornAs_67 rfl (by first | rfl | exact zb_nar _ | exact pk_nc _) ?_ ?_
          · rw [hv, hqp, zn_bn_p]
          · rfl
        · skip
          have hqp : q < p := by rcases Nat.lt_or_ge q (p) with z | z; exact z; exact absurd (nI_le z (by omega)) h20
          refine gq_iload_n dz_M_bornAs_23 rfl ?_
          refine gq_iload_n dz_M_bornAs_24 rfl ?_
          refine gq_if_le (tgt := 57) dz_M_bornAs_25 rfl (fun h25 => ?_) (fun h25 => ?_)
          · skip
            have hv1 : v = 0 := by rcases Nat.eq_zero_or_pos v with z | z; exact z; exact absurd h25 (by rw [Int32.le_iff_toInt_le, nI_toInt (by omega)]; have : (0 : Int32).toInt = 0 := rfl; omega)
            refine gq_iconst (v := 0) dz_M_bornAs_57 rfl ?_
            refine gq_iadd dz_M_bornAs_58 ?_
            refine gw_istore_n 3 dz_M_bornAs_59 rfl (Nat.le_of_ble_eq_true rfl) rfl ?_
            dsimp only [List.set]
            refine gw_iinc 4 (c := 1) dz_M_bornAs_60 rfl rfl (Nat.le_of_ble_eq_true rfl) rfl ?_
            dsimp only [List.set]
            refine gq_goto (tgt := 17) dz_M_bornAs_63 rfl ?_
            simp only [nI_1, Int32.add_zero]
            exact zq_fewer _ (zq_sub_spec (by repeat (first | exact trivial | exact rfl | refine And.intro ?_ ?_))) (ih17 (q + 1) v (by omega) (by omega) (zn_bn_0 hv hv1) (by omega))
          · skip
            have hv1 : ¬ v = 0 := fun z => h25 (by rw [z]; decide)
            refine gq_aload_n dz_M_bornAs_28 rfl ?_
            refine gq_getR 32 zf_M_13 rfl rfl dz_M_bornAs_29 ?_
            refine gq_iload dz_M_bornAs_32 rfl ?_
            refine gw_iald (q) (rfl) rfl (rfl) (Nat.le_of_ble_eq_true rfl) (by omega) dz_M_bornAs_34 ?_
            rw [zn_pa hA (by omega)]
            refine gq_aload_n dz_M_bornAs_35 rfl ?_
            refine gq_getR 32 zf_M_13 rfl rfl dz_M_bornAs_36 ?_
            refine gq_iload_n dz_M_bornAs_39 rfl ?_
            refine gw_iald (p) (rfl) rfl (rfl) (Nat.le_of_ble_eq_true rfl) (by omega) dz_M_bornAs_40 ?_
            rw [zn_pa hA (by omega)]
            refine gq_icmp_ne (tgt := 57) dz_M_bornAs_41 rfl (fun h41 => ?_) (fun h41 => ?_)
            · skip
              have hz : zs_born A p ab q = false := by rw [zs_born, show (za_pa A q == za_pa A p) = false from beq_eq_false_iff_ne.mpr (fun z => h41 ((zn_par_in hw hp (by omega) hn6).mpr z))]; rfl
              refine gq_iconst (v := 0) dz_M_bornAs_57 rfl ?_
              refine gq_iadd dz_M_bornAs_58 ?_
              refine gw_istore_n 3 dz_M_bornAs_59 rfl (Nat.le_of_ble_eq_true rfl) rfl ?_
              dsimp only [List.set]
              refine gw_iinc 4 (c := 1) dz_M_bornAs_60 rfl rfl (Nat.le_of_ble_eq_true rfl) rfl ?_
              dsimp only [List.set]
              refine gq_goto (tgt := 17) dz_M_bornAs_63 rfl ?_
              simp only [nI_1, Int32.add_zero]
              exact zq_fewer _ (zq_sub_spec (by repeat (first | exact trivial | exact rfl | refine And.intro ?_ ?_))) (ih17 (q + 1) v (by omega) (by omega) (zn_bn_f hv hz) (by omega))
            · skip
              have hz1 : (za_pa A q == za_pa A p) = true := beq_iff_eq.mpr ((zn_par_in hw hp (by omega) hn6).mp h41)
              refine gq_iload dz_M_bornAs_44 rfl ?_
              refine gq_iload_n dz_M_bornAs_46 rfl ?_
              refine gq_cS (sp_M_isThere _ _) zw_M_isThere zl_M_169 dz_M_bornAs_47 (by decide) rfl rfl (Nat.le_of_ble_eq_true rfl) ?_
              refine gw_ifb_eq (tgt := 57) dz_M_bornAs_50 rfl (fun h50 => ?_) (fun h50 => ?_)
              · skip
                have hz : zs_born A p ab q = false := by rw [zs_born, hz1, h50]; rfl
                refine gq_iconst (v := 0) dz_M_bornAs_57 rfl ?_
                refine gq_iadd dz_M_bornAs_58 ?_
                refine gw_istore_n 3 dz_M_bornAs_59 rfl (Nat.le_of_ble_eq_true rfl) rfl ?_
                dsimp only [List.set]
                refine gw_iinc 4 (c := 1) dz_M_bornAs_60 rfl rfl (Nat.le_of_ble_eq_true rfl) rfl ?_
                dsimp only [List.set]
                refine gq_goto (tgt := 17) dz_M_bornAs_63 rfl ?_
                simp only [nI_1, Int32.add_zero]
                exact zq_fewer _ (zq_sub_spec (by repeat (first | exact trivial | exact rfl | refine And.intro ?_ ?_))) (ih17 (q + 1) v (by omega) (by omega) (zn_bn_f hv hz) (by omega))
              · skip
                have hz : zs_born A p ab q = true := by rw [zs_born, hz1, h50]; rfl
                refine gq_iconst (v := 1) dz_M_bornAs_53 rfl ?_
                refine gq_goto (tgt := 58) dz_M_bornAs_54 rfl ?_
                refine gq_iadd dz_M_bornAs_58 ?_
                refine gw_istore_n 3 dz_M_bornAs_59 rfl (Nat.le_of_ble_eq_true rfl) rfl ?_
                dsimp only [List.set]
                refine gw_iinc 4 (c := 1) dz_M_bornAs_60 rfl rfl (Nat.le_of_ble_eq_true rfl) rfl ?_
                dsimp only [List.set]
                refine gq_goto (tgt := 17) dz_M_bornAs_63 rfl ?_
                simp only [nI_1, Int32.add_zero]
                exact zq_fewer _ (zq_sub_spec (by repeat (first | exact trivial | exact rfl | refine And.intro ?_ ?_))) (ih17 (q + 1) (v + 1) (by omega) (by omega) (zn_bn_t hv hv1 hz) (by omega))
    exact zq_fewer _ (zq_sub_spec (by repeat (first | exact trivial | exact rfl | refine And.intro ?_ ?_))) (L17 (p + 1) 0 1 (by omega) (by omega) (by rw [zn_bn, hb]; rfl) (by omega))
set_option maxHeartbeats 4000000 in
theorem sp_M_childrenOf {σ : zq_T} {A : za_D} (hA : zn_rep σ A) (hw : za_wf A) {p : Nat} (hp : p < za_n A) (ab : Int32) : zq_Sp zm_M_childrenOf 1 [zq_O 30 0, zq_I (nI p), zq_I ab] σ (zq_rv (zq_I (nI (zs_child A p ab))) σ) := by
  have hn6 := zn_n6 hA
  have hm5 := zn_m5 hA
  refine zq_sp [some (zq_O 30 0), some (zq_I (nI p)), some (zq_I ab), none, none] (by decide +kernel) rfl (Nat.le_of_ble_eq_true rfl) (fun ν => ?_)
  refine gq_iconst (v := 0) dz_M_childrenOf_0 rfl ?_
  refine gw_istore_n 3 dz_M_childrenOf_1 rfl (Nat.le_of_ble_eq_true rfl) rfl ?_
  dsimp only [List.set]
  refine gq_iconst (v := 0) dz_M_childrenOf_2 rfl ?_
  refine gw_istore 4 dz_M_childrenOf_3 (Nat.le_of_ble_eq_true rfl) rfl ?_
  dsimp only [List.set]
  have L5 : ∀ (kf : Nat) (q : Nat) (hkf : za_n A - q < kf) (hq : q ≤ za_n A), zq_G ν zm_M_childrenOf 1 (zq_rv (zq_I (nI (zs_child A p ab))) σ) 5 [some (zq_O 30 0), some (zq_I (nI p)), some (zq_I ab), some (zq_I (nI (zf_ct (zs_chd A p ab) q))), some (zq_I (nI q))] [] σ := by
    intro kf
    induction kf with
    | zero => intro q hkf hq; exact absurd hkf (Nat.not_lt_zero _)
    | succ kf ih5 =>
      intro q hkf hq
      refine gq_iload dz_M_childrenOf_5 rfl ?_
      refine gq_aload_n dz_M_childrenOf_7 rfl ?_
      refine gq_getI zf_M_158 rfl rfl dz_M_childrenOf_8 ?_
      rw [zn_n hA]
      refine gq_icmp_ge (tgt := 50) dz_M_childrenOf_11 rfl (fun h11 => ?_) (fun h11 => ?_)
      · skip
        have hqp : q = za_n A := by have := (nI_leI (by omega) (by omega)).mp h11; omega
        refine gq_iload_n dz_M_childrenOf_50 rfl ?_
        refine gw_iret .int dz_M_childrenOf_51 rfl (by first | rfl | exact zb_nar _ | exact pk_nc _) ?_ ?_
        · rw [hqp]; rfl
        · rfl
      · skip
        have hqp : q < za_n A := by rcases Nat.lt_or_ge q (za_n A) with z | z; exact z; exact absurd (nI_le z (by omega)) h11
        refine gq_iload_n dz_M_childrenOf_14 rfl ?_
        refine gq_aload_n dz_M_childrenOf_15 rfl ?_
        refine gq_getR 32 zf_M_13 rfl rfl dz_M_childrenOf_16 ?_
        refine gq_iload dz_M_childrenOf_19 rfl ?_
        refine gw_iald (q) (rfl) rfl (rfl) (Nat.le_of_ble_eq_true rfl) (by omega) dz_M_childrenOf_21 ?_
        rw [zn_pa hA (by omega)]
        refine gq_iload_n dz_M_childrenOf_22 rfl ?_
        refine gq_iconst (v := 1) dz_M_childrenOf_23 rfl ?_
        refine gq_iadd dz_M_childrenOf_24 ?_
        rw [nI_1]
        refine gq_icmp_ne (tgt := 41) dz_M_childrenOf_25 rfl (fun h25 => ?_) (fun h25 => ?_)
        · skip
          have hz : zs_chd A p ab q = false := by rw [zs_chd, show (za_pa A q == nI p) = false from beq_eq_false_iff_ne.mpr (fun z => h25 ((zn_par_ch hw (by omega) hqp hn6).mpr z))]; rfl
          refine gq_iconst (v := 0) dz_M_childrenOf_41 rfl ?_
          refine gq_iadd dz_M_childrenOf_42 ?_
          refine gw_istore_n 3 dz_M_childrenOf_43 rfl (Nat.le_of_ble_eq_true rfl) rfl ?_
          dsimp only [List.set]
          refine gw_iinc 4 (c := 1) dz_M_childrenOf_44 rfl rfl (Nat.le_of_ble_eq_true rfl) rfl ?_
          dsimp only [List.set]
          refine gq_goto (tgt := 5) dz_M_childrenOf_47 rfl ?_
          simp only [nI_1, Int32.add_zero]
          rw [← zf_ct_f hz]
          exact zq_fewer _ (zq_sub_spec (by repeat (first | exact trivial | exact rfl | refine And.intro ?_ ?_))) (ih5 (q + 1) (by omega) (by omega))
        · skip
          have hz1 : (za_pa A q == nI p) = true := beq_iff_eq.mpr ((zn_par_ch hw (by omega) hqp hn6).mp h25)
          refine gq_iload dz_M_childrenOf_28 rfl ?_
          refine gq_iload_n dz_M_childrenOf_30 rfl ?_
          refine gq_cS (sp_M_isThere _ _) zw_M_isThere zl_M_169 dz_M_childrenOf_31 (by decide) rfl rfl (Nat.le_of_ble_eq_true rfl) ?_
          refine gw_ifb_eq (tgt := 41) dz_M_childrenOf_34 rfl (fun h34 => ?_) (fun h34 => ?_)
          · skip
            have hz : zs_chd A p ab q = false := by rw [zs_chd, hz1, h34]; rfl
            refine gq_iconst (v := 0) dz_M_childrenOf_41 rfl ?_
            refine gq_iadd dz_M_childrenOf_42 ?_
            refine gw_istore_n 3 dz_M_childrenOf_43 rfl (Nat.le_of_ble_eq_true rfl) rfl ?_
            dsimp only [List.set]
            refine gw_iinc 4 (c := 1) dz_M_childrenOf_44 rfl rfl (Nat.le_of_ble_eq_true rfl) rfl ?_
            dsimp only [List.set]
            refine gq_goto (tgt := 5) dz_M_childrenOf_47 rfl ?_
            simp only [nI_1, Int32.add_zero]
            rw [← zf_ct_f hz]
            exact zq_fewer _ (zq_sub_spec (by repeat (first | exact trivial | exact rfl | refine And.intro ?_ ?_))) (ih5 (q + 1) (by omega) (by omega))
          · skip
            have hz : zs_chd A p ab q = true := by rw [zs_chd, hz1, h34]; rfl
            refine gq_iconst (v := 1) dz_M_childrenOf_37 rfl ?_
            refine gq_goto (tgt := 42) dz_M_childrenOf_38 rfl ?_
            refine gq_iadd dz_M_childrenOf_42 ?_
            refine gw_istore_n 3 dz_M_childrenOf_43 rfl (Nat.le_of_ble_eq_true rfl) rfl ?_
            dsimp only [List.set]
            refine gw_iinc 4 (c := 1) dz_M_childrenOf_44 rfl rfl (Nat.le_of_ble_eq_true rfl) rfl ?_
            dsimp only [List.set]
            refine gq_goto (tgt := 5) dz_M_childrenOf_47 rfl ?_
            simp only [nI_1, Int32.add_zero]
            rw [← zf_ct_t hz]
            exact zq_fewer _ (zq_sub_spec (by repeat (first | exact trivial | exact rfl | refine And.intro ?_ ?_))) (ih5 (q + 1) (by omega) (by omega))
  exact zq_fewer _ (zq_sub_spec (by repeat (first | exact trivial | exact rfl | refine And.intro ?_ ?_))) (L5 (za_n A + 1) 0 (by omega) (by omega))
set_option maxHeartbeats 4000000 in
theorem sp_M_isAbove {σ : zq_T} {A : za_D} (hA : zn_rep σ A) (hw : za_wf A) {p v : Nat} (hp : p < za_n A) (hv6 : v < 6) : zq_Sp zm_M_isAbove 0 [zq_O 30 0, zq_I (nI v), zq_I (nI p)] σ (zq_rv (zq_I (zb_v (za_kin A p v))) σ) := by
  have hn6 := zn_n6 hA
  have hm5 := zn_m5 hA
  refine zq_sp [some (zq_O 30 0), some (zq_I (nI v)), some (zq_I (nI p)), none] (by decide +kernel) rfl (Nat.le_of_ble_eq_true rfl) (fun ν => ?_)
  refine gq_aload_n dz_M_isAbove_0 rfl ?_
  refine gq_getR 32 zf_M_13 rfl rfl dz_M_isAbove_1 ?_
  refine gq_iload_n dz_M_isAbove_4 rfl ?_
  refine gw_iald (p) (rfl) rfl (rfl) (Nat.le_of_ble_eq_true rfl) (by omega) dz_M_isAbove_5 ?_
  rw [zn_pa hA hp]
  refine gw_istore_n 3 dz_M_isAbove_6 rfl (Nat.le_of_ble_eq_true rfl) rfl ?_
  dsimp only [List.set]
  have L7 : ∀ (kf : Nat) (s : Nat) (x : Int32) (hkf : s < kf) (hsn : s ≤ za_n A) (hx : x = -4 ∨ ∃ q, q < s ∧ x = nI q) (hv : za_kin A p v = zn_ab (za_pa A) x s v), zq_G ν zm_M_isAbove 0 (zq_rv (zq_I (zb_v (za_kin A p v))) σ) 7 [some (zq_O 30 0), some (zq_I (nI v)), some (zq_I (nI p)), some (zq_I (zn_par x))] [] σ := by
    intro kf
    induction kf with
    | zero => intro s x hkf hsn hx hv; exact absurd hkf (Nat.not_lt_zero _)
    | succ kf ih7 =>
      intro s x hkf hsn hx hv
      refine gq_iload_n dz_M_isAbove_7 rfl ?_
      refine gq_if_le (tgt := 30) dz_M_isAbove_8 rfl (fun h8 => ?_) (fun h8 => ?_)
      · skip
        have hx4 : za_kin A p v = false := by rcases hx with rfl | ⟨q, hq, rfl⟩; exact hv; exact absurd h8 (by rw [zn_par, if_neg (nI_pos (by omega)), nI_1, Int32.le_iff_toInt_le, nI_toInt (by omega)]; have : (0 : Int32).toInt = 0 := rfl; omega)
        refine gq_iload_n dz_M_isAbove_30 rfl ?_
        refine gq_if_le (tgt := 38) dz_M_isAbove_31 rfl (fun h31 => ?_) (fun h31 => ?_)
        · skip
          refine gq_iconst (v := 0) dz_M_isAbove_38 rfl ?_
          refine gw_iret .boolean dz_M_isAbove_39 rfl (by first | rfl | exact zb_nar _ | exact pk_nc _) ?_ ?_
          · rw [hx4]; rfl
          · rfl
        · skip
          exact absurd h8 h31
      · skip
        obtain ⟨q, hq, rfl⟩ : ∃ q, q < s ∧ x = nI q := by rcases hx with rfl | hx; exact absurd (by decide) h8; exact hx
        have hp1 : zn_par (nI q) = nI (q + 1) := by rw [zn_par, if_neg (nI_pos (by omega)), nI_1]
        rw [hp1]
        obtain ⟨s, rfl⟩ : ∃ s2, s = s2 + 1 := ⟨s - 1, by omega⟩
        refine gq_iload_n dz_M_isAbove_11 rfl ?_
        refine gq_iload_n dz_M_isAbove_12 rfl ?_
        refine gq_iconst (v := 1) dz_M_isAbove_13 rfl ?_
        refine gq_iadd dz_M_isAbove_14 ?_
        rw [nI_1]
        refine gq_icmp_eq (tgt := 30) dz_M_isAbove_15 rfl (fun h15 => ?_) (fun h15 => ?_)
        · skip
          have hqv : q = v := by have := (nI_eq (by omega) (by omega)).mp h15; omega
          refine gq_iload_n dz_M_isAbove_30 rfl ?_
          refine gq_if_le (tgt := 38) dz_M_isAbove_31 rfl (fun h31 => ?_) (fun h31 => ?_)
          · skip
            exact absurd h31 (by rw [Int32.le_iff_toInt_le, nI_toInt (by omega)]; have : (0 : Int32).toInt = 0 := rfl; omega)
          · skip
            refine gq_iconst (v := 1) dz_M_isAbove_34 rfl ?_
            refine gq_goto (tgt := 39) dz_M_isAbove_35 rfl ?_
            refine gw_iret .boolean dz_M_isAbove_39 rfl (by first | rfl | exact zb_nar _ | exact pk_nc _) ?_ ?_
            · rw [hv, zn_ab, if_neg (nI_pos (by omega)), hqv, beq_self_eq_true]; rfl
            · rfl
        · skip
          have hqv : ¬ q = v := fun z => h15 (by rw [z])
          refine gq_aload_n dz_M_isAbove_18 rfl ?_
          refine gq_getR 32 zf_M_13 rfl rfl dz_M_isAbove_19 ?_
          refine gq_iload_n dz_M_isAbove_22 rfl ?_
          refine gq_iconst (v := 1) dz_M_isAbove_23 rfl ?_
          refine gq_isub dz_M_isAbove_24 ?_
          rw [nI_pred]
          refine gw_iald (q) (rfl) rfl (rfl) (Nat.le_of_ble_eq_true rfl) (by omega) dz_M_isAbove_25 ?_
          rw [zn_pa hA (by omega)]
          refine gw_istore_n 3 dz_M_isAbove_26 rfl (Nat.le_of_ble_eq_true rfl) rfl ?_
          dsimp only [List.set]
          refine gq_goto (tgt := 7) dz_M_isAbove_27 rfl ?_
          exact zq_fewer _ (zq_sub_spec (by repeat (first | exact trivial | exact rfl | refine And.intro ?_ ?_))) (ih7 s (za_pa A q) (by omega) (by omega) (by rcases (hw.1 q (by omega)).1 with z | ⟨y, hy, z⟩; exact Or.inl z; exact Or.inr ⟨y, by omega, z⟩) (hv.trans (zn_ab_go (by omega) hqv (by omega))))
  exact zq_fewer _ (zq_sub_spec (by repeat (first | exact trivial | exact rfl | refine And.intro ?_ ?_))) (L7 (p + 1) p (za_pa A p) (by omega) (by omega) (hw.1 p hp).1 (zn_ab_in hw hn6 hp v))
set_option maxHeartbeats 4000000 in
theorem sp_M_meets {σ : zq_T} {A : za_D} (hA : zn_rep σ A) (hw : za_wf A) {p k : Nat} (hp : p < za_n A) (hk : k < za_m A) (ab : Int32) : zq_Sp zm_M_meets 2 [zq_O 30 0, zq_I (nI k), zq_I (nI p), zq_I ab] σ (zq_rv (zq_I (zb_v (zs_meets A k p ab))) σ) := by
  have hn6 := zn_n6 hA
  have hm5 := zn_m5 hA
  refine zq_sp [some (zq_O 30 0), some (zq_I (nI k)), some (zq_I (nI p)), some (zq_I ab), none] (by decide +kernel) rfl (Nat.le_of_ble_eq_true rfl) (fun ν => ?_)
  refine gq_aload_n dz_M_meets_0 rfl ?_
  refine gq_getR 33 zf_M_16 rfl rfl dz_M_meets_1 ?_
  refine gq_iconst (v := 3) dz_M_meets_4 rfl ?_
  refine gq_iload_n dz_M_meets_5 rfl ?_
  refine gq_imul dz_M_meets_6 ?_
  refine gq_iconst (v := 2) dz_M_meets_7 rfl ?_
  refine gq_iadd dz_M_meets_8 ?_
  refine gw_iald (3 * k + 2) (zn_k2 k) rfl (rfl) (Nat.le_of_ble_eq_true rfl) (by omega) dz_M_meets_9 ?_
  rw [zn_nu hA hk]
  refine gw_istore 4 dz_M_meets_10 (Nat.le_of_ble_eq_true rfl) rfl ?_
  dsimp only [List.set]
  refine gq_iload_n dz_M_meets_12 rfl ?_
  refine gq_iload_n dz_M_meets_13 rfl ?_
  refine gq_cS (sp_M_isThere _ _) zw_M_isThere zl_M_169 dz_M_meets_14 (by decide) rfl rfl (Nat.le_of_ble_eq_true rfl) ?_
  refine gw_ifb_ne (tgt := 22) dz_M_meets_17 rfl (fun h17 => ?_) (fun h17 => ?_)
  · skip
    have hb0 : zb_bit ab (nI p) = false := by simpa using h17
    refine gq_aload_n dz_M_meets_22 rfl ?_
    refine gq_getR 33 zf_M_16 rfl rfl dz_M_meets_23 ?_
    refine gq_iconst (v := 3) dz_M_meets_26 rfl ?_
    refine gq_iload_n dz_M_meets_27 rfl ?_
    refine gq_imul dz_M_meets_28 ?_
    refine gq_iconst (v := 1) dz_M_meets_29 rfl ?_
    refine gq_iadd dz_M_meets_30 ?_
    refine gw_iald (3 * k + 1) (zn_k1 k) rfl (rfl) (Nat.le_of_ble_eq_true rfl) (by omega) dz_M_meets_31 ?_
    rw [zn_cl hA hk]
    by_cases hs32_0 : za_cl A k = 0
    · rw [hs32_0]
      refine gq_tin (off := 36) (tgt := 68) dz_M_meets_32 (by decide) (by decide) rfl rfl ?_
      refine gq_iconst (v := 1) dz_M_meets_68 rfl ?_
      refine gw_iret .boolean dz_M_meets_69 rfl (by first | rfl | exact zb_nar _ | exact pk_nc _) ?_ ?_
      · simp [zs_meets, hb0, hs32_0, zb_v]
      · rfl
    · skip
      by_cases hs32_1 : za_cl A k = 1
      · rw [hs32_1]
        refine gq_tin (off := 38) (tgt := 70) dz_M_meets_32 (by decide) (by decide) rfl rfl ?_
        refine gq_aload_n dz_M_meets_70 rfl ?_
        refine gq_iload_n dz_M_meets_71 rfl ?_
        refine gq_iload_n dz_M_meets_72 rfl ?_
        refine gq_cV (sp_M_bornAs hA hw hp _) zw_M_bornAs zl_M_173 dz_M_meets_73 rfl rfl rfl (by decide) rfl rfl (Nat.le_of_ble_eq_true rfl) ?_
        refine gq_iload dz_M_meets_76 rfl ?_
        refine gq_icmp_ne (tgt := 85) dz_M_meets_78 rfl (fun h78 => ?_) (fun h78 => ?_)
        · skip
          refine gq_iconst (v := 0) dz_M_meets_85 rfl ?_
          refine gw_iret .boolean dz_M_meets_86 rfl (by first | rfl | exact zb_nar _ | exact pk_nc _) ?_ ?_
          · simp [zs_meets, hb0, hs32_1, zb_v, h78]
          · rfl
        · skip
          refine gq_iconst (v := 1) dz_M_meets_81 rfl ?_
          refine gq_goto (tgt := 86) dz_M_meets_82 rfl ?_
          refine gw_iret .boolean dz_M_meets_86 rfl (by first | rfl | exact zb_nar _ | exact pk_nc _) ?_ ?_
          · simp [zs_meets, hb0, hs32_1, zb_v, h78]
          · rfl
      · skip
        by_cases hs32_2 : za_cl A k = 2
        · rw [hs32_2]
          refine gq_tin (off := 55) (tgt := 87) dz_M_meets_32 (by decide) (by decide) rfl rfl ?_
          refine gq_aload_n dz_M_meets_87 rfl ?_
          refine gq_getR 31 zf_M_7 rfl rfl dz_M_meets_88 ?_
          refine gq_iload_n dz_M_meets_91 rfl ?_
          refine gw_iald (p) (rfl) rfl (rfl) (Nat.le_of_ble_eq_true rfl) (by omega) dz_M_meets_92 ?_
          rw [zn_fa hA (by omega)]
          refine gq_iload dz_M_meets_93 rfl ?_
          refine gq_ishr dz_M_meets_95 ?_
          refine gq_iconst (v := 1) dz_M_meets_96 rfl ?_
          refine gq_iand dz_M_meets_97 ?_
          refine gq_iconst (v := 1) dz_M_meets_98 rfl ?_
          refine gq_icmp_ne (tgt := 106) dz_M_meets_99 rfl (fun h99 => ?_) (fun h99 => ?_)
          · skip
            refine gq_iconst (v := 0) dz_M_meets_106 rfl ?_
            refine gw_iret .boolean dz_M_meets_107 rfl (by first | rfl | exact zb_nar _ | exact pk_nc _) ?_ ?_
            · rw [zb_bv1] at h99; simp [zs_meets, hb0, hs32_2, zb_v, h99]
            · rfl
          · skip
            refine gq_iconst (v := 1) dz_M_meets_102 rfl ?_
            refine gq_goto (tgt := 107) dz_M_meets_103 rfl ?_
            refine gw_iret .boolean dz_M_meets_107 rfl (by first | rfl | exact zb_nar _ | exact pk_nc _) ?_ ?_
            · rw [zb_bv1] at h99; simp [zs_meets, hb0, hs32_2, zb_v, h99]
            · rfl
        · skip
          by_cases hs32_3 : za_cl A k = 3
          · rw [hs32_3]
            refine gq_tin (off := 76) (tgt := 108) dz_M_meets_32 (by decide) (by decide) rfl rfl ?_
            refine gq_aload_n dz_M_meets_108 rfl ?_
            refine gq_getR 31 zf_M_7 rfl rfl dz_M_meets_109 ?_
            refine gq_bipush (v := 6) dz_M_meets_112 rfl ?_
            refine gq_iload_n dz_M_meets_114 rfl ?_
            refine gq_iadd dz_M_meets_115 ?_
            refine gw_iald (6 + p) (by rw [show (6 : Int32) = nI 6 from rfl, nI_add]) rfl (rfl) (Nat.le_of_ble_eq_true rfl) (by omega) dz_M_meets_116 ?_
            rw [zn_tr hA (by omega)]
            refine gq_iload dz_M_meets_117 rfl ?_
            refine gq_icmp_lt (tgt := 126) dz_M_meets_119 rfl (fun h119 => ?_) (fun h119 => ?_)
            · skip
              refine gq_iconst (v := 0) dz_M_meets_126 rfl ?_
              refine gw_iret .boolean dz_M_meets_127 rfl (by first | rfl | exact zb_nar _ | exact pk_nc _) ?_ ?_
              · simp [zs_meets, hb0, hs32_3, zb_v, zb_nle h119]
              · rfl
            · skip
              refine gq_iconst (v := 1) dz_M_meets_122 rfl ?_
              refine gq_goto (tgt := 127) dz_M_meets_123 rfl ?_
              refine gw_iret .boolean dz_M_meets_127 rfl (by first | rfl | exact zb_nar _ | exact pk_nc _) ?_ ?_
              · simp [zs_meets, hb0, hs32_3, zb_v, zb_nlt h119]
              · rfl
          · skip
            by_cases hs32_4 : za_cl A k = 4
            · rw [hs32_4]
              refine gq_tin (off := 96) (tgt := 128) dz_M_meets_32 (by decide) (by decide) rfl rfl ?_
              obtain ⟨v, hv, hvn⟩ := hw.kin k hk hs32_4
              rw [hvn]
              refine gq_aload_n dz_M_meets_128 rfl ?_
              refine gq_iload dz_M_meets_129 rfl ?_
              refine gq_iload_n dz_M_meets_131 rfl ?_
              refine gq_cV (sp_M_isAbove hA hw hp hv) zw_M_isAbove zl_M_177 dz_M_meets_132 rfl rfl rfl (by decide) rfl rfl (Nat.le_of_ble_eq_true rfl) ?_
              refine gw_iret .boolean dz_M_meets_135 rfl (by first | rfl | exact zb_nar _ | exact pk_nc _) ?_ ?_
              · simp [zs_meets, hb0, hs32_4, zb_v, hvn, nI_clamp (show v < 2 ^ 31 by omega)]
              · rfl
            · skip
              refine gq_tout (tgt := 136) dz_M_meets_32 (by have := zq_ne hs32_0; have h_0 := zq_ne hs32_0; have h_1 := zq_ne hs32_1; have h_2 := zq_ne hs32_2; have h_3 := zq_ne hs32_3; have h_4 := zq_ne hs32_4; simp at *; omega) rfl ?_
              refine gq_aload_n dz_M_meets_136 rfl ?_
              refine gq_iload_n dz_M_meets_137 rfl ?_
              refine gq_iload_n dz_M_meets_138 rfl ?_
              refine gq_cV (sp_M_childrenOf hA hw hp _) zw_M_childrenOf zl_M_180 dz_M_meets_139 rfl rfl rfl (by decide) rfl rfl (Nat.le_of_ble_eq_true rfl) ?_
              refine gq_iload dz_M_meets_142 rfl ?_
              refine gq_icmp_ne (tgt := 151) dz_M_meets_144 rfl (fun h144 => ?_) (fun h144 => ?_)
              · skip
                refine gq_iconst (v := 0) dz_M_meets_151 rfl ?_
                refine gw_iret .boolean dz_M_meets_152 rfl (by first | rfl | exact zb_nar _ | exact pk_nc _) ?_ ?_
                · simp [zs_meets, hb0, hs32_0, hs32_1, hs32_2, hs32_3, hs32_4, zb_v, h144]
                · rfl
              · skip
                refine gq_iconst (v := 1) dz_M_meets_147 rfl ?_
                refine gq_goto (tgt := 152) dz_M_meets_148 rfl ?_
                refine gw_iret .boolean dz_M_meets_152 rfl (by first | rfl | exact zb_nar _ | exact pk_nc _) ?_ ?_
                · simp [zs_meets, hb0, hs32_0, hs32_1, hs32_2, hs32_3, hs32_4, zb_v, h144]
                · rfl
  · skip
    have hb0 : zb_bit ab (nI p) = true := by simpa using h17
    refine gq_iconst (v := 0) dz_M_meets_20 rfl ?_
    refine gw_iret .boolean dz_M_meets_21 rfl (by first | rfl | exact zb_nar _ | exact pk_nc _) ?_ ?_
    · simp [zs_meets, hb0, zb_v]
    · rfl
