/-! THE STATE AT THE START -/
def zi_f0 (t : Nat) : Nat → Int32 := match t with
  | 7 => zi_lan
  | 15 => zi_od
  | 38 => zi_F38
  | 39 => zi_F39
  | 40 => zi_F40
  | 45 => zi_lan
  | _ => zi_z
def zi_σ : zq_T := (fun t _ => zi_f0 t, fun _ => 0, 3, 4)
def zi_X0 : za_X := (zt_nil, (fun _ => -4, fun _ => 0, fun _ _ => 0), (0, fun _ => 0), (0, 0), (0, fun _ => 0, fun _ => 0), (false, zt_nil), (false, zt_nil))
theorem zi_lanE : ∀ k, k < 4 → zi_lan k = -4 := by
  intro k hk
  have h : ∀ k : Fin 4, zi_lan k.val = -4 := by decide
  exact h ⟨k, hk⟩
theorem zi_odE : ∀ k, k < 5 → zi_od k = 5 := by
  intro k hk
  have h : ∀ k : Fin 5, zi_od k.val = 5 := by decide
  exact h ⟨k, hk⟩
theorem zi_F38E : ∀ k : Fin 14, zi_F38 k.val = nI (zn_cut.getD k.val 0) := by decide +kernel
theorem zi_F39E : ∀ k : Fin 52, zi_F39 k.val = zn_let.getD k.val 0 := by decide +kernel
theorem zi_F40E : ∀ k : Fin 6, zi_F40 k.val = zn_mst.getD k.val 0 := by decide +kernel
theorem zi_c0 (d : Fin 5) : zc_rep zi_σ d zt_nil :=
  ⟨Nat.zero_le _, Nat.zero_le _, rfl, rfl, rfl, fun i h => absurd h (Nat.not_lt_zero i), fun i _ => ⟨rfl, rfl⟩, fun f hf => zi_odE f hf, fun k h => absurd h (Nat.not_lt_zero k)⟩
theorem zi_S0 : zs_rep zi_σ zi_X0 :=
  ⟨⟨by decide, by decide, by decide⟩, zi_c0 3, ⟨fun k hk => ⟨zi_lanE k hk, rfl⟩, fun _ _ _ _ => rfl⟩, ⟨rfl, fun i h => absurd h (Nat.not_lt_zero i)⟩, ⟨rfl, rfl⟩, ⟨rfl, fun i h => absurd h (Nat.not_lt_zero i)⟩, rfl, fun z => Bool.noConfusion z, fun z => Bool.noConfusion z⟩
theorem zi_M0 : zM_rep zi_σ zi_X0 :=
  ⟨⟨⟨Nat.zero_le _, Nat.zero_le _, rfl, rfl, fun i h => absurd h (Nat.not_lt_zero i), fun k h => absurd h (Nat.not_lt_zero k)⟩, ⟨fun i _ => ⟨rfl, rfl⟩, rfl, fun f _ => (show (0 : Int32) = 5 - 5 from by decide), fun k h => absurd h (Nat.not_lt_zero k)⟩⟩,
   ⟨fun z => Bool.noConfusion z, fun z => Bool.noConfusion z⟩, ⟨⟨rfl, fun i h => absurd h (Nat.not_lt_zero i)⟩, ⟨rfl, rfl⟩, ⟨rfl, fun i h => absurd h (Nat.not_lt_zero i)⟩, rfl, rfl⟩,
   ⟨fun k hk => ⟨zi_lanE k hk, rfl⟩, fun _ _ _ _ => rfl⟩, ⟨fun i hi => zi_F38E ⟨i, hi⟩, fun i hi => zi_F39E ⟨i, hi⟩, fun i hi => zi_F40E ⟨i, hi⟩⟩⟩
theorem zi_W0 : zx_wf zi_X0 :=
  ⟨⟨fun i h => absurd h (Nat.not_lt_zero i), fun f _ => ⟨5, by omega, rfl⟩, fun k h => absurd h (Nat.not_lt_zero k), 0, by decide, rfl⟩, fun k _ => Or.inl rfl, ⟨Nat.zero_le _, fun i h => absurd h (Nat.not_lt_zero i)⟩, ⟨Nat.zero_le _, fun i h => absurd h (Nat.not_lt_zero i)⟩, fun z => Bool.noConfusion z, fun z => Bool.noConfusion z⟩
/-- addresses: the class's object and its parts, the model's, texts, their bytes, the script, the formatter -/
def zi_ad (a aP qP aE aH qH u v : Nat) (g0 g1 g2 : Nat → Nat) (r1 r2 r3 : Nat) (g3 g4 gm adK adV : Nat → Nat) (b fm : Nat) (t : Nat) (j : Fin 5) : Nat :=
  if Nat.ble 100 t then (if Nat.ble 300 t then fm else if Nat.ble 200 t then adV (t - 200) else adK (t - 100)) else if Nat.ble 60 t then b else if Nat.ble 30 t then gm t else match t with
  | 0 => a
  | 1 => aP
  | 2 => qP
  | 3 => aE
  | 4 => aH
  | 5 => qH
  | 6 => qH + 1 + j.val
  | 7 => u
  | 8 => v
  | 21 => r1
  | 22 => r2
  | 23 => r3
  | t => match j with
    | 0 => g0 t
    | 1 => g1 t
    | 2 => g2 t
    | 3 => g3 t
    | 4 => g4 t
def zi_ν (D : va_G) (κ : Nat → ClassId) (base L : Nat) (xs : Nat → Int32) (a aP qP aE aH qH u v : Nat) (g0 g1 g2 : Nat → Nat) (r1 r2 r3 : Nat) (g3 g4 gm adK adV : Nat → Nat) (b fm : Nat) : zq_E := (zi_ad a aP qP aE aH qH u v g0 g1 g2 r1 r2 r3 g3 g4 gm adK adV b fm, D, κ, base, xs, L)
