/-! THE LAW FROM ITS ENTRY -/
def zi_LQ (κ : Nat → ClassId) (b : Nat) (arr : Array Slot) (w : va_W) : Prop := ∃ (a aP qP aE aH qH u v : Nat) (g0 g1 g2 : Nat → Nat) (r1 r2 r3 : Nat) (g3 g4 gm : Nat → Nat), w = zi_Sw κ a aP qP aE aH qH u v g0 g1 g2 r1 r2 r3 g3 g4 ++ zi_Mw κ gm ∧ lv_has arr 4 [(2, .ref (gm 30)), (1, .ref a), (0, .ref b)]
set_option maxHeartbeats 4000000 in
theorem zi_law {D : va_G} {κ : Nat → ClassId} {A : Nat → Prop} (b : Nat) : zi_G D κ A zm_L_law 15 600000 7302250 16 (zi_LQ κ b) 0 0 0 [(0, .ref b)] [] [] := by
  refine zi_new (ws := []) (ci := 4) (fs := [.null, .null, .null, .null, .null, .null, .null, .null, .null, .null, .null, .int 0, .int 0, .int 0, .int 0]) rfl zq_in4 tyX4_ok zk_L_7 zo_S zi_S zi_fS (by decide) (by decide) dz_L_law_0 (fun a => ?_)
  refine zi_dup dz_L_law_3 rfl ?_
  refine zi_callI (ws := []) (zi_S_init a) zi_mS zl_L_9 dz_L_law_4 (by decide) (by decide) (by decide) (Nat.le_of_ble_eq_true rfl) (fun w hw => ?_)
  obtain ⟨aP, qP, aE, aH, qH, u, v, g0, g1, g2, r1, r2, r3, g3, g4, rfl⟩ := hw
  refine zi_astore (ls' := [(1, .ref a), (0, .ref b)]) dz_L_law_7 (by decide) rfl ?_
  refine zi_new (ci := 5) (fs := [.null, .null, .null, .int 0, .int 0, .null, .null, .null, .int 0, .int 0, .int 0, .int 0, .null, .int 0, .int 0, .int 0, .int 0, .int 0, .int 0, .int 0, .int 0, .null, .null, .null, .null, .int 0, .null, .null, .int 0, .null, .null, .null, .null, .int 0]) rfl zq_in5 tyX5_ok zk_L_10 zo_M zi_M zi_fM (by decide) (by decide) dz_L_law_8 (fun am => ?_)
  refine zi_dup dz_L_law_11 rfl ?_
  refine zi_callI (zi_M_init am) zi_mM zl_L_12 dz_L_law_12 (by decide) (by decide) (by decide) (Nat.le_of_ble_eq_true rfl) (fun w hw => ?_)
  obtain ⟨gm, hgm, rfl⟩ := hw
  subst hgm
  refine zi_astore (ls' := [(2, .ref (gm 30)), (1, .ref a), (0, .ref b)]) dz_L_law_15 (by decide) rfl ?_
  exact zi_end (by decide) (by decide) (fun arr hl => ⟨a, aP, qP, aE, aH, qH, u, v, g0, g1, g2, r1, r2, r3, g3, g4, gm, rfl, hl⟩)
def zi_ix : List Nat := [0, 1, 2, 3, 4, 5, 10, 11, 45, 46, 47, 70, 71, 72, 73, 74, 75, 76, 77, 78, 79, 80, 81, 82, 83, 84, 85, 86, 87, 6, 7, 8, 9, 12, 23, 34, 48, 59, 13, 24, 35, 49, 60, 14, 25, 36, 50, 61, 15, 26, 37, 51, 62, 16, 27, 38, 52, 63, 17, 28, 39, 53, 64, 18, 29, 40, 54, 65, 19, 30, 41, 55, 66, 20, 31, 42, 56, 67, 21, 32, 43, 57, 68, 22, 33, 44, 58, 69]
theorem zi_ixn : va_nd zi_ix = true := by decide +kernel
set_option maxHeartbeats 4000000 in
set_option maxRecDepth 100000 in
theorem zi_ws {D : va_G} {κ : Nat → ClassId} {base L : Nat} {xs : Nat → Int32} (a aP qP aE aH qH u v : Nat) (g0 g1 g2 : Nat → Nat) (r1 r2 r3 : Nat) (g3 g4 gm : Nat → Nat) (adK adV : Nat → Nat) (b fm : Nat) : zi_ix.map (fun i => (zi_Sw κ a aP qP aE aH qH u v g0 g1 g2 r1 r2 r3 g3 g4 ++ zi_Mw κ gm)[i]?) = (zq_ws (zi_ν D κ base L xs a aP qP aE aH qH u v g0 g1 g2 r1 r2 r3 g3 g4 gm adK adV b fm) zi_σ).map some := by
  rfl
