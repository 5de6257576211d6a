/-! TEXTS: the places 100 + i, their bytes 200 + i -/
abbrev zq_N : zq_V := Sum.inr (Sum.inr none)
section TXT
variable {ν : zq_E} {M : zq_M} {h : Nat} {Q : Option zq_V → zq_T → Prop} {pc : Nat} {ls : List (Option zq_V)} {st : List zq_V} {σ : zq_T}
theorem gq_strV {i idx : Nat} (hi : i < 13) (hl : Cond.fieldLink M.1.cls idx "java/lang/String" "value" "[B" ∈ zq_tbl) (hd : decode M.2.1 pc = .ok (.getfield idx, 3)) (kk : zq_G ν M h Q (pc + 3) ls (zq_O (200 + i) 0 :: st) σ) : zq_G ν M h Q pc ls (zq_O (100 + i) 0 :: st) σ := by
  intro p l e R s m args below meth c cells slots Qm H locs arr hok hC hX hP hS hL
  exact vk_getf hC.1 hC.2.1 (hC.2.2.2.2.2.2.1.1.1 i hi).2.2.1 hS hC.2.2.2.1 (hC.2.2.2.2.1 _ hl) (fun _ h9 => h9) hd (kk p l e R s m args below meth c cells slots Qm H locs arr hok hC hX hP hS hL)
theorem gq_strC {i idx : Nat} (hi : i < 13) (hl : Cond.fieldLink M.1.cls idx "java/lang/String" "coder" "B" ∈ zq_tbl) (hd : decode M.2.1 pc = .ok (.getfield idx, 3)) (kk : zq_G ν M h Q (pc + 3) ls (zq_I 0 :: st) σ) : zq_G ν M h Q pc ls (zq_O (100 + i) 0 :: st) σ := by
  intro p l e R s m args below meth c cells slots Qm H locs arr hok hC hX hP hS hL
  exact vk_getf hC.1 hC.2.1 (hC.2.2.2.2.2.2.1.1.1 i hi).2.1 hS hC.2.2.2.1 (hC.2.2.2.2.1 _ hl) (fun _ h9 => h9) hd (kk p l e R s m args below meth c cells slots Qm H locs arr hok hC hX hP hS hL)
theorem gq_strL {i : Nat} (hi : i < 13) (hd : decode M.2.1 pc = .ok (.arraylength, 1)) (kk : zq_G ν M h Q (pc + 1) ls (zq_I (nI (zq_len.getD i 0)) :: st) σ) : zq_G ν M h Q pc ls (zq_O (200 + i) 0 :: st) σ := by
  intro p l e R s m args below meth c cells slots Qm H locs arr hok hC hX hP hS hL
  exact va_tlen hC.1 hC.2.1 (hC.2.2.2.2.2.2.1.1.1 i hi).2.2.2 hS rfl hd (kk p l e R s m args below meth c cells slots Qm H locs arr hok hC hX hP hS hL)
theorem gq_strB {i : Nat} (k : Nat) (hi : i < 13) (hk : k < zq_len.getD i 0) (hd : decode M.2.1 pc = .ok (.baload, 1)) (kk : zq_G ν M h Q (pc + 1) ls (zq_I ((zq_byt.getD i []).getD k 0) :: st) σ) : zq_G ν M h Q pc ls (zq_I (nI k) :: zq_O (200 + i) 0 :: st) σ := by
  intro p l e R s m args below meth c cells slots Qm H locs arr hok hC hX hP hS hL
  have hl : ∀ i : Fin 13, zq_len.getD i.val 0 < 10 := by decide
  have h10 : zq_len.getD i 0 < 10 := hl ⟨i, hi⟩
  exact va_tb hC.1 hC.2.1 (hC.2.2.2.2.2.2.1.1.1 i hi).2.2.2 hS (vp_in_nI hk (by omega)) (by rw [nI_clamp (by omega)]; rfl) hd (kk p l e R s m args below meth c cells slots Qm H locs arr hok hC hX hP hS hL)
theorem gq_gsC {idx : Nat} (hl : Cond.fieldLink M.1.cls idx "java/lang/String" "COMPACT_STRINGS" "Z" ∈ zq_tbl) (hd : decode M.2.1 pc = .ok (.getstatic idx, 3)) (kk : zq_G ν M h Q (pc + 3) ls (zq_I 1 :: st) σ) : zq_G ν M h Q pc ls st σ := by
  intro p l e R s m args below meth c cells slots Qm H locs arr hok hC hX hP hS hL
  exact va_gets hC.1 hC.2.1 hC.2.2.2.2.2.2.1.2.1 hS hC.2.2.2.1 (hC.2.2.2.2.1 _ hl) (fun _ h9 => h9) hd (kk p l e R s m args below meth c cells slots Qm H locs arr hok hC hX hP hS hL)
theorem gq_gsF {idx : Nat} (hl : Cond.fieldLink M.1.cls idx "jdk/internal/util/Preconditions" "SIOOBE_FORMATTER" "Ljava/util/function/BiFunction;" ∈ zq_tbl) (hd : decode M.2.1 pc = .ok (.getstatic idx, 3)) (k1 : zq_G ν M h Q (pc + 3) ls (zq_N :: st) σ) (k2 : zq_G ν M h Q (pc + 3) ls (zq_O 300 0 :: st) σ) : zq_G ν M h Q pc ls st σ := by
  intro p l e R s m args below meth c cells slots Qm H locs arr hok hC hX hP hS hL
  rcases hC.2.2.2.2.2.2.1.2.2.1 with hZ | hZ
  · exact va_gets hC.1 hC.2.1 hZ hS hC.2.2.2.1 (hC.2.2.2.2.1 _ hl) (fun _ h9 => h9) hd (k1 p l e R s m args below meth c cells slots Qm H locs arr hok hC hX hP hS hL)
  · exact va_gets hC.1 hC.2.1 hZ hS hC.2.2.2.1 (hC.2.2.2.2.1 _ hl) (fun _ h9 => h9) hd (k2 p l e R s m args below meth c cells slots Qm H locs arr hok hC hX hP hS hL)
theorem gq_i2c {x : Int32} (hd : decode M.2.1 pc = .ok (.i2c, 1)) (k : zq_G ν M h Q (pc + 1) ls (zq_I (x.toUInt32 % 65536).toInt32 :: st) σ) : zq_G ν M h Q pc ls (zq_I x :: st) σ := by
  intro p l e R s m args below meth c cells slots Qm H locs arr hok hC hX hP hS hL
  exact lv_i2c hC.1 hC.2.1 hd rfl (k p l e R s m args below meth c cells slots Qm H locs arr hok hC hX hP hS hL)
theorem gw_cT {i : Nat} {Mj : zq_M} {h' n idx : Nat} {As : List zq_V} {v : zq_V} {τ : zq_T} {st0 : List zq_V} (hSp : zq_Sp Mj h' (zq_O (100 + i) 0 :: As) σ (zq_rv v τ)) (hm : zq_MV Mj n) (hlk : Cond.methodLink M.1.cls idx Mj.1 ∈ zq_tbl) (hd : decode M.2.1 pc = .ok (.invokevirtual idx, 3)) (hcls : Mj.1.cls = "java/lang/String") (hh : h' + 1 ≤ h) (hn : As.length = n) (hst : As.reverse ++ zq_O (100 + i) 0 :: st = st0) (hct : (st.map zq_ct).sum ≤ 8) (kk : zq_G ν M h Q (pc + 3) ls (v :: st) τ) (hi : i < 13 := by assumption) : zq_G ν M h Q pc ls st0 σ := by
  refine gq_callRecv (fun s H locs hK hJ hP hS => ?_) hSp hm hlk hd hh hn hst hct (fun r σ' q => by obtain ⟨rfl, rfl⟩ := q; exact kk)
  rw [hcls]
  exact vk_recv hJ.1 hi hS
end TXT
theorem zt_sh0 : ∀ i : Fin 13, nI (zq_len.getD i.val 0) >>> ((0 : Int32) &&& 31) = nI (zq_len.getD i.val 0) := by decide +kernel
def zt_wd (i k : Nat) : Int32 := (((zq_byt.getD i []).getD k 0 &&& 255).toUInt32 % 65536).toInt32

set_option maxHeartbeats 4000000 in
theorem sp_JS_coder {σ : zq_T} {i : Nat} (hi : i < 13) : zq_Sp zm_JS_coder 0 [zq_O (100 + i) 0] σ (zq_rv (zq_I 0) σ) := by
  refine zq_sp [some (zq_O (100 + i) 0)] (by decide +kernel) rfl (Nat.le_of_ble_eq_true rfl) (fun ν => ?_)
  refine gq_gsC zl_JS_38 dz_JS_coder_0 ?_
  refine gq_if_eq (tgt := 13) dz_JS_coder_3 rfl (fun h3 => ?_) (fun h3 => ?_)
  · skip
    exact absurd h3 (by decide)
  · skip
    refine gq_aload_n dz_JS_coder_6 rfl ?_
    refine gq_strC (by assumption) zl_JS_15 dz_JS_coder_7 ?_
    refine gq_goto (tgt := 14) dz_JS_coder_10 rfl ?_
    refine gw_iret .byte dz_JS_coder_14 rfl (by first | rfl | exact zb_nar _ | exact pk_nc _) ?_ ?_
    · rfl
    · rfl
set_option maxHeartbeats 4000000 in
theorem sp_JS_length {σ : zq_T} {i : Nat} (hi : i < 13) : zq_Sp zm_JS_length 1 [zq_O (100 + i) 0] σ (zq_rv (zq_I (nI (zq_len.getD i 0))) σ) := by
  refine zq_sp [some (zq_O (100 + i) 0)] (by decide +kernel) rfl (Nat.le_of_ble_eq_true rfl) (fun ν => ?_)
  refine gq_aload_n dz_JS_length_0 rfl ?_
  refine gq_strV (by assumption) zl_JS_9 dz_JS_length_1 ?_
  refine gq_strL (by assumption) dz_JS_length_4 ?_
  refine gq_aload_n dz_JS_length_5 rfl ?_
  refine gw_cT (sp_JS_coder hi) zw_JS_coder zl_JS_335 dz_JS_length_6 rfl (by decide) rfl rfl (Nat.le_of_ble_eq_true rfl) ?_
  refine gq_ishr dz_JS_length_9 ?_
  refine gw_iret .int dz_JS_length_10 rfl (by first | rfl | exact zb_nar _ | exact pk_nc _) ?_ ?_
  · exact zt_sh0 ⟨i, hi⟩
  · rfl
set_option maxHeartbeats 4000000 in
theorem sp_JS_isLatin1 {σ : zq_T} {i : Nat} (hi : i < 13) : zq_Sp zm_JS_isLatin1 0 [zq_O (100 + i) 0] σ (zq_rv (zq_I 1) σ) := by
  refine zq_sp [some (zq_O (100 + i) 0)] (by decide +kernel) rfl (Nat.le_of_ble_eq_true rfl) (fun ν => ?_)
  refine gq_gsC zl_JS_38 dz_JS_isLatin1_0 ?_
  refine gq_if_eq (tgt := 17) dz_JS_isLatin1_3 rfl (fun h3 => ?_) (fun h3 => ?_)
  · skip
    exact absurd h3 (by decide)
  · skip
    refine gq_aload_n dz_JS_isLatin1_6 rfl ?_
    refine gq_strC (by assumption) zl_JS_15 dz_JS_isLatin1_7 ?_
    refine gq_if_ne (tgt := 17) dz_JS_isLatin1_10 rfl (fun h10 => ?_) (fun h10 => ?_)
    · skip
      exact absurd rfl h10
    · skip
      refine gq_iconst (v := 1) dz_JS_isLatin1_13 rfl ?_
      refine gq_goto (tgt := 18) dz_JS_isLatin1_14 rfl ?_
      refine gw_iret .boolean dz_JS_isLatin1_18 rfl (by first | rfl | exact zb_nar _ | exact pk_nc _) ?_ ?_
      · rfl
      · rfl
set_option maxHeartbeats 4000000 in
theorem sp_JP_checkN {σ : zq_T} {k n : Nat} (hk : k < n) (hn : n < 1000) : zq_Sp zm_JP_checkIndex 0 [zq_I (nI k), zq_I (nI n), zq_N] σ (zq_rv (zq_I (nI k)) σ) := by
  refine zq_sp [some (zq_I (nI k)), some (zq_I (nI n)), some (zq_N)] (by decide +kernel) rfl (Nat.le_of_ble_eq_true rfl) (fun ν => ?_)
  refine gq_iload_n dz_JP_checkIndex_0 rfl ?_
  refine gq_if_lt (tgt := 9) dz_JP_checkIndex_1 rfl (fun h1 => ?_) (fun h1 => ?_)
  · skip
    exact absurd h1 (nI_pos (by omega))
  · skip
    refine gq_iload_n dz_JP_checkIndex_4 rfl ?_
    refine gq_iload_n dz_JP_checkIndex_5 rfl ?_
    refine gq_icmp_lt (tgt := 16) dz_JP_checkIndex_6 rfl (fun h6 => ?_) (fun h6 => ?_)
    · skip
      refine gq_iload_n dz_JP_checkIndex_16 rfl ?_
      refine gw_iret .int dz_JP_checkIndex_17 rfl (by first | rfl | exact zb_nar _ | exact pk_nc _) ?_ ?_
      · rfl
      · rfl
    · skip
      exact absurd (nI_lt hk (by omega)) h6
set_option maxHeartbeats 4000000 in
theorem sp_JP_checkO {σ : zq_T} {k n : Nat} (hk : k < n) (hn : n < 1000) : zq_Sp zm_JP_checkIndex 0 [zq_I (nI k), zq_I (nI n), zq_O 300 0] σ (zq_rv (zq_I (nI k)) σ) := by
  refine zq_sp [some (zq_I (nI k)), some (zq_I (nI n)), some (zq_O 300 0)] (by decide +kernel) rfl (Nat.le_of_ble_eq_true rfl) (fun ν => ?_)
  refine gq_iload_n dz_JP_checkIndex_0 rfl ?_
  refine gq_if_lt (tgt := 9) dz_JP_checkIndex_1 rfl (fun h1 => ?_) (fun h1 => ?_)
  · skip
    exact absurd h1 (nI_pos (by omega))
  · skip
    refine gq_iload_n dz_JP_checkIndex_4 rfl ?_
    refine gq_iload_n dz_JP_checkIndex_5 rfl ?_
    refine gq_icmp_lt (tgt := 16) dz_JP_checkIndex_6 rfl (fun h6 => ?_) (fun h6 => ?_)
    · skip
      refine gq_iload_n dz_JP_checkIndex_16 rfl ?_
      refine gw_iret .int dz_JP_checkIndex_17 rfl (by first | rfl | exact zb_nar _ | exact pk_nc _) ?_ ?_
      · rfl
      · rfl
    · skip
      exact absurd (nI_lt hk (by omega)) h6
set_option maxHeartbeats 4000000 in
theorem sp_JS_checkIndex {σ : zq_T} {k n : Nat} (hk : k < n) (hn : n < 1000) : zq_Sp zm_JS_checkIndex 1 [zq_I (nI k), zq_I (nI n)] σ (zq_r0 σ) := by
  refine zq_sp [some (zq_I (nI k)), some (zq_I (nI n))] (by decide +kernel) rfl (Nat.le_of_ble_eq_true rfl) (fun ν => ?_)
  refine gq_iload_n dz_JS_checkIndex_0 rfl ?_
  refine gq_iload_n dz_JS_checkIndex_1 rfl ?_
  refine gq_gsF zl_JS_1053 dz_JS_checkIndex_2 ?_ ?_
  · refine gq_cS (sp_JP_checkN hk hn) zw_JP_checkIndex zl_JS_1059 dz_JS_checkIndex_5 (by decide) rfl rfl (Nat.le_of_ble_eq_true rfl) ?_
    refine gq_pop dz_JS_checkIndex_8 rfl ?_
    exact gw_vret dz_JS_checkIndex_9 rfl rfl
  · refine gq_cS (sp_JP_checkO hk hn) zw_JP_checkIndex zl_JS_1059 dz_JS_checkIndex_5 (by decide) rfl rfl (Nat.le_of_ble_eq_true rfl) ?_
    refine gq_pop dz_JS_checkIndex_8 rfl ?_
    exact gw_vret dz_JS_checkIndex_9 rfl rfl
set_option maxHeartbeats 4000000 in
theorem sp_JA_charAt {σ : zq_T} {i : Nat} (hi : i < 13) {k : Nat} (hk : k < zq_len.getD i 0) : zq_Sp zm_JA_charAt 2 [zq_O (200 + i) 0, zq_I (nI k)] σ (zq_rv (zq_I (zt_wd i k)) σ) := by
  have h10 : zq_len.getD i 0 < 10 := (by decide : ∀ i : Fin 13, zq_len.getD i.val 0 < 10) ⟨i, hi⟩
  refine zq_sp [some (zq_O (200 + i) 0), some (zq_I (nI k))] (by decide +kernel) rfl (Nat.le_of_ble_eq_true rfl) (fun ν => ?_)
  refine gq_iload_n dz_JA_charAt_0 rfl ?_
  refine gq_aload_n dz_JA_charAt_1 rfl ?_
  refine gq_strL (by assumption) dz_JA_charAt_2 ?_
  refine gq_cS0 (sp_JS_checkIndex hk (by omega)) zw_JS_checkIndex zl_JA_9 dz_JA_charAt_3 (by decide) rfl rfl (Nat.le_of_ble_eq_true rfl) ?_
  refine gq_aload_n dz_JA_charAt_6 rfl ?_
  refine gq_iload_n dz_JA_charAt_7 rfl ?_
  refine gq_strB (k) (by assumption) (by assumption) dz_JA_charAt_8 ?_
  refine gq_sipush (v := 255) dz_JA_charAt_9 rfl ?_
  refine gq_iand dz_JA_charAt_12 ?_
  refine gq_i2c dz_JA_charAt_13 ?_
  refine gw_iret .char dz_JA_charAt_14 rfl (by first | rfl | exact zb_nar _ | exact pk_nc _) ?_ ?_
  · rfl
  · rfl
set_option maxHeartbeats 4000000 in
theorem sp_JS_charAt {σ : zq_T} {i : Nat} (hi : i < 13) {k : Nat} (hk : k < zq_len.getD i 0) : zq_Sp zm_JS_charAt 3 [zq_O (100 + i) 0, zq_I (nI k)] σ (zq_rv (zq_I (zt_wd i k)) σ) := by
  refine zq_sp [some (zq_O (100 + i) 0), some (zq_I (nI k))] (by decide +kernel) rfl (Nat.le_of_ble_eq_true rfl) (fun ν => ?_)
  refine gq_aload_n dz_JS_charAt_0 rfl ?_
  refine gw_cT (sp_JS_isLatin1 hi) zw_JS_isLatin1 zl_JS_492 dz_JS_charAt_1 rfl (by decide) rfl rfl (Nat.le_of_ble_eq_true rfl) ?_
  refine gq_if_eq (tgt := 16) dz_JS_charAt_4 rfl (fun h4 => ?_) (fun h4 => ?_)
  · skip
    exact absurd h4 (by decide)
  · skip
    refine gq_aload_n dz_JS_charAt_7 rfl ?_
    refine gq_strV (by assumption) zl_JS_9 dz_JS_charAt_8 ?_
    refine gq_iload_n dz_JS_charAt_11 rfl ?_
    refine gq_cS (sp_JA_charAt hi hk) zw_JA_charAt zl_JS_495 dz_JS_charAt_12 (by decide) rfl rfl (Nat.le_of_ble_eq_true rfl) ?_
    refine gw_iret .char dz_JS_charAt_15 rfl (by first | rfl | exact zb_nar _ | exact pk_nc _) ?_ ?_
    · rfl
    · rfl
