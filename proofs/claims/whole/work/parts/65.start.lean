/-! the law's start -/
def ld0 (x : Nat) : Option Nat := if x < 96 then none else some 0
def pr0 (x : Nat) : Nat := ([1, 2, 3, 2, 4, 4, 3, 3, 2] : List Nat).getD x 0
def n0 : MN := (0, fun _ => 0, ld0, fun _ => 0)
def z0 : Nat → Nat := fun _ => 0
def w0 : MW := (false, 0, 0, 0, z0)
def r0 : MR := (false, 0, 0, 0, z0)
def k0 : MK := (0, z0, z0, z0, z0, z0, z0, z0)
def t0 : MT := (z0, z0, z0, z0)
theorem ld0_e : fiL (-1) 96 0 (fun _ => 0) = fun x => oI (ld0 x) := by
  funext x
  rw [fi_at]
  unfold ld0
  by_cases c : x < 96
  · have c2 : 0 ≤ x ∧ x < 0 + 96 := by omega
    rw [if_pos c2, if_pos c]
    rfl
  · have c2 : ¬ (0 ≤ x ∧ x < 0 + 96) := by omega
    rw [if_neg c2, if_neg c]
    rfl
theorem pr0_big {x : Nat} (h : 9 ≤ x) : pr0 x = 0 := by
  unfold pr0
  rw [List.getD_eq_getElem?_getD, List.getElem?_eq_none (by show 9 ≤ x; exact h)]
  rfl
theorem pr0_m : upd (upd (upd (upd (upd (upd (upd (upd (upd (fun _ => 0) 0 1) 1 2) 2 3) 3 2) 4 4) 5 4) 6 3) 7 3) 8 2 = fun x => nI (pr0 x) := by
  funext x
  by_cases h : 9 ≤ x
  · rw [pr0_big h, pk_un (by omega), pk_un (by omega), pk_un (by omega), pk_un (by omega), pk_un (by omega), pk_un (by omega), pk_un (by omega), pk_un (by omega), pk_un (by omega)]
    rfl
  · rcases (show x = 0 ∨ x = 1 ∨ x = 2 ∨ x = 3 ∨ x = 4 ∨ x = 5 ∨ x = 6 ∨ x = 7 ∨ x = 8 by omega) with q | q | q | q | q | q | q | q | q <;> rw [q] <;> rfl
theorem pr0_c : va_cpy (sa_f 1) (fun _ => 0) 0 0 9 = fun x => nI (pr0 x) := by
  funext x
  by_cases h : 9 ≤ x
  · have c2 : ¬ (0 ≤ x ∧ x < 0 + 9) := by omega
    show (if 0 ≤ x ∧ x < 0 + 9 then _ else _) = _
    rw [if_neg c2, pr0_big h]
    rfl
  · rcases (show x = 0 ∨ x = 1 ∨ x = 2 ∨ x = 3 ∨ x = 4 ∨ x = 5 ∨ x = 6 ∨ x = 7 ∨ x = 8 by omega) with q | q | q | q | q | q | q | q | q <;> rw [q] <;> rfl
theorem md0 : mdH c0V (fiL (-1) 96 0 (fun _ => 0)) = MX c0V n0 pr0 511 (0, z0, z0) r0 w0 k0 (0, 0, 0, z0) (z0, z0) z0 t0 [] := by
  unfold mdH
  rw [ld0_e, pr0_m]
  rfl
theorem inv0 : INV 0 c0V n0 pr0 511 (0, z0, z0) r0 w0 k0 z0 t0 [] := by
  refine ⟨⟨⟨rfl, rfl, ld0_e, rfl⟩, ⟨by show 0 ≤ 24; decide, fun x y hx hy => ?_, fun _ _ => Nat.zero_le _, fun _ _ => Nat.zero_le _⟩, rfl⟩, ⟨pr0_c, by decide⟩, rfl, ⟨rfl, fun h => by cases h⟩, ⟨⟨rfl, fun i hi => absurd hi (Nat.not_lt_zero i)⟩, ⟨Nat.zero_le _, fun i hi => absurd hi (Nat.not_lt_zero i)⟩⟩, ⟨⟨rfl, rfl, rfl, rfl, fun i hi => absurd hi (Nat.not_lt_zero i)⟩, ⟨⟨by show 0 < 24; decide, by show 0 < 4; decide, Nat.zero_le _, fun i hi => absurd hi (Nat.not_lt_zero i)⟩, fun h => by cases h⟩⟩, ⟨rfl, ⟨Nat.zero_le _, fun j hj => absurd hj (Nat.not_lt_zero j)⟩, fun j hj => absurd hj (Nat.not_lt_zero j), ⟨rfl, fun _ _ _ => rfl, fun j hj => absurd hj (Nat.not_lt_zero j)⟩⟩, fun _ _ => Nat.zero_le _, fun x hx => ⟨Nat.zero_le _, Nat.zero_le _, by show 0 < 9; decide, Nat.zero_le _, fun h => by rcases h with q | q <;> cases q⟩⟩
  have hy : ld0 x = some y := hy
  unfold ld0 at hy
  rw [if_pos hx] at hy
  cases hy

set_option maxHeartbeats 4000000 in
set_option maxRecDepth 100000 in
theorem law_start {xs : Nat → Int32} {SL : Nat} (nm : String) (hSL : SL ≤ 3072) : LW xs SL (mL nm) 10 600000 7302250 0 0 0 [some (.ref 1004), none, none, none] [] [] pL := by
  refine L_new (pc := 0) (ci := 6) [.null, .null, .int 0, .null, .null, .int 0, .null, .null, .null, .null, .int 0] tyX6 rfl cwX6 tyX6_ok klL_7 ins6 ini6 (fun j hj => by rcases (show j = 0 ∨ j = 1 ∨ j = 2 ∨ j = 3 ∨ j = 4 ∨ j = 5 ∨ j = 6 ∨ j = 7 ∨ j = 8 ∨ j = 9 ∨ j = 10 by omega) with rfl | rfl | rfl | rfl | rfl | rfl | rfl | rfl | rfl | rfl | rfl <;> rfl) (fun _ => rfl) dL_law_0 (by decide) (by decide) (by decide) ?_
  refine L_dup (pc := 3) dL_law_3 rfl ?_
  refine L_callI (pc := 4) (b := 0) ciL_9 sp_init dL_law_4 rfl rfl (Nat.le_of_ble_eq_true rfl) (by decide) (by decide) (by decide) (fun r9 h9 hq9 => ?_)
  obtain ⟨rfl, rfl⟩ := hq9
  refine L_astore1 (pc := 7) (x := 0) dL_law_7 (Nat.le_of_ble_eq_true rfl) ?_
  refine L_new (pc := 8) (ci := 7) [.null, .int 0, .null, .null, .null, .int 0, .null, .null, .int 0, .int 0, .int 0, .int 0, .null, .int 0, .int 0, .int 0, .int 0, .int 0, .null, .null, .null, .null, .null, .null, .null, .null, .int 0, .int 0, .int 0, .null, .int 0, .null, .null, .null, .null, .null, .null, .null] tyX7 rfl cwX7 tyX7_ok klL_10 ins7 ini7 (fun j hj => by rcases (show j = 0 ∨ j = 1 ∨ j = 2 ∨ j = 3 ∨ j = 4 ∨ j = 5 ∨ j = 6 ∨ j = 7 ∨ j = 8 ∨ j = 9 ∨ j = 10 ∨ j = 11 ∨ j = 12 ∨ j = 13 ∨ j = 14 ∨ j = 15 ∨ j = 16 ∨ j = 17 ∨ j = 18 ∨ j = 19 ∨ j = 20 ∨ j = 21 ∨ j = 22 ∨ j = 23 ∨ j = 24 ∨ j = 25 ∨ j = 26 ∨ j = 27 ∨ j = 28 ∨ j = 29 ∨ j = 30 ∨ j = 31 ∨ j = 32 ∨ j = 33 ∨ j = 34 ∨ j = 35 ∨ j = 36 ∨ j = 37 by omega) with rfl | rfl | rfl | rfl | rfl | rfl | rfl | rfl | rfl | rfl | rfl | rfl | rfl | rfl | rfl | rfl | rfl | rfl | rfl | rfl | rfl | rfl | rfl | rfl | rfl | rfl | rfl | rfl | rfl | rfl | rfl | rfl | rfl | rfl | rfl | rfl | rfl | rfl <;> rfl) (fun _ => rfl) dL_law_8 (by decide) (by decide) (by decide) ?_
  refine L_dup (pc := 11) dL_law_11 rfl ?_
  refine L_callI (pc := 12) (b := 25) ciL_12 (mp_init c0V) dL_law_12 rfl rfl (Nat.le_of_ble_eq_true rfl) (by decide) (by decide) (by decide) (fun r9 h9 hq9 => ?_)
  obtain ⟨rfl, rfl⟩ := hq9
  refine L_astore2 (pc := 15) (x := 25) dL_law_15 (Nat.le_of_ble_eq_true rfl) ?_
  refine L_iconst (pc := 16) (v := 0) dL_law_16 (by decide) ?_
  refine L_istore3 (pc := 17) dL_law_17 (Nat.le_of_ble_eq_true rfl) ?_
  rw [md0]
  exact law_loop nm hSL 512 0 _ _ 0 _ _ _ _ _ _ _ _ _ _ _ _ _ inv0 (by omega) (by omega) (by decide) (by decide) (by decide)
