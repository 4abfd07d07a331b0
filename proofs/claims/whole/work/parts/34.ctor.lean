/-! constructors: Row -/
theorem maxI_0 {N : Nat} (h : N < 2 ^ 31) : maxI (nI N) 0 = nI N := by
  unfold maxI
  exact if_neg (nI_pos h)

set_option maxHeartbeats 4000000 in
set_option maxRecDepth 100000 in
theorem sp_Row {hp : AH} {r : Nat} (h1 : hp[r]? = some (oC 3 [.null, .int 0])) (cap : Nat) (hcap : cap < 100000) (hlen : hp.length < 1000) : AS mX3_init 1 1 cap [.ref r, .int (nI cap)] (hp) (P0 ((hp ++ [aC cap (fun _ => 0)]).set r (oC 3 [.ref hp.length, .int 0]))) := by
  refine AS.go (lv := [some (.ref r), some (.int (nI cap))]) rfl ?_ (by decide +kernel) rfl (Nat.le_of_ble_eq_true rfl)
  refine A_aload0 (pc := 0) dX3_init_0 ?_
  refine A_objInit (pc := 1) oiX3_3 dX3_init_1 (by decide) (Nat.le_of_ble_eq_true rfl) ?_
  refine A_aload0 (pc := 4) dX3_init_4 ?_
  refine A_iconst (pc := 5) (v := 0) dX3_init_5 (by decide) ?_
  refine A_putf (pc := 6) flX3_9 ft3_1 dX3_init_6 h1 (Nat.le_of_ble_eq_true rfl) (fun _ => ⟨rfl, rfl⟩) ?_
  refine AW.heq (hp' := hp) (set_same h1) ?_
  refine A_aload0 (pc := 9) dX3_init_9 ?_
  refine A_iload1 (pc := 10) dX3_init_10 ?_
  refine A_iconst (pc := 11) (v := 0) dX3_init_11 (by decide) ?_
  refine A_mmax (pc := 12) mkX3_15 dX3_init_12 (by decide) (Nat.le_of_ble_eq_true rfl) (by omega) (by omega) ?_
  rw [maxI_0 (by omega)]
  refine A_newa (pc := 15) (N := cap) rfl hcap dX3_init_15 (by omega) (by omega) hlen ?_
  refine A_putF (pc := 17) flX3_21 ft3_0 (fun q hq => by cases hq; rfl) rfl dX3_init_17 (by rw [List.getElem?_append_left (a_lt h1)]; exact h1) (Nat.le_of_ble_eq_true rfl) (fun _ => ⟨rfl, rfl⟩) (fun q hq => by cases hq; exact fwX3_21) ?_
  exact A_vret (pc := 20) dX3_init_20 rfl (by omega) (by omega) (⟨rfl, rfl⟩)

theorem set_last (hp : AH) (x y z : AC) : ((hp ++ [x]) ++ [y]).set hp.length z = hp ++ [z, y] := by
  rw [List.append_assoc, List.set_append_right _ _ (Nat.le_refl _), Nat.sub_self]
  rfl
theorem set_pre {hp l : AH} {q : Nat} (z : AC) (hq : q < hp.length) : (hp ++ l).set q z = hp.set q z ++ l := List.set_append_left _ _ hq
theorem at_new (hp : AH) (x : AC) : (hp ++ [x])[hp.length]? = some x := by
  rw [List.getElem?_append_right (Nat.le_refl _), Nat.sub_self]
  rfl
theorem sp_RowN (hp : AH) (cap : Nat) (hcap : cap < 100000) (hlen : hp.length < 998) : AS mX3_init 1 1 cap [.ref hp.length, .int (nI cap)] (hp ++ [oC 3 [.null, .int 0]]) (P0 (hp ++ [oC 3 [.ref (hp.length + 1), .int 0], aC cap (fun _ => 0)])) := by
  have h := sp_Row (r := hp.length) (at_new hp (oC 3 [.null, .int 0])) cap hcap (by rw [List.length_append]; simp; omega)
  rw [set_last, show (hp ++ [oC 3 [.null, .int 0]]).length = hp.length + 1 from by simp] at h
  exact h
set_option maxHeartbeats 4000000 in
set_option maxRecDepth 100000 in
theorem sp_Way {hp : AH} {q : Nat} (h1 : hp[q]? = some (oC 5 [.int 0, .int 0, .int 0, .null])) (hlen : hp.length < 990) : AS mX5_init 2 2 32 [.ref q] (hp) (P0 (hp.set q (oC 5 [.int 0, .int 0, .int 0, .ref hp.length]) ++ [oC 3 [.ref (hp.length + 1), .int 0], aC 30 (fun _ => 0)])) := by
  refine AS.go (lv := [some (.ref q)]) rfl ?_ (by decide +kernel) rfl (Nat.le_of_ble_eq_true rfl)
  refine A_aload0 (pc := 0) dX5_init_0 ?_
  refine A_objInit (pc := 1) oiX5_3 dX5_init_1 (by decide) (Nat.le_of_ble_eq_true rfl) ?_
  refine A_aload0 (pc := 4) dX5_init_4 ?_
  refine A_iconst (pc := 5) (v := 0) dX5_init_5 (by decide) ?_
  refine A_putf (pc := 6) flX5_9 ft5_0 dX5_init_6 h1 (Nat.le_of_ble_eq_true rfl) (fun _ => ⟨rfl, rfl⟩) ?_
  refine AW.heq (hp' := hp) (set_same h1) ?_
  refine A_aload0 (pc := 9) dX5_init_9 ?_
  refine A_iconst (pc := 10) (v := 0) dX5_init_10 (by decide) ?_
  refine A_putf (pc := 11) flX5_15 ft5_1 dX5_init_11 h1 (Nat.le_of_ble_eq_true rfl) (fun _ => ⟨rfl, rfl⟩) ?_
  refine AW.heq (hp' := hp) (set_same h1) ?_
  refine A_aload0 (pc := 14) dX5_init_14 ?_
  refine A_iconst (pc := 15) (v := 0) dX5_init_15 (by decide) ?_
  refine A_putf (pc := 16) flX5_19 ft5_2 dX5_init_16 h1 (Nat.le_of_ble_eq_true rfl) (fun _ => ⟨rfl, rfl⟩) ?_
  refine AW.heq (hp' := hp) (set_same h1) ?_
  refine A_aload0 (pc := 19) dX5_init_19 ?_
  refine A_new (pc := 20) (ci := 3) [.null, .int 0] tyX3 rfl cwX3 tyX3_ok klX5_22 ins3 ini3 (fun j hj => by rcases (show j = 0 ∨ j = 1 by omega) with rfl | rfl <;> rfl) (fun _ => rfl) dX5_init_20 (by decide) (by decide) (by omega) ?_
  refine A_dup (pc := 23) dX5_init_23 rfl ?_
  refine A_bipush (pc := 24) (v := 30) dX5_init_24 (by decide) ?_
  refine A_civ (pc := 26) ciX5_24 (sp_RowN hp 30 (by decide) (by omega)) dX5_init_26 rfl rfl (Nat.le_of_ble_eq_true rfl) (by decide) (by decide) (by decide) ?_
  refine A_putF (pc := 29) flX5_27 ft5_3 (fun q hq => by cases hq; rfl) rfl dX5_init_29 (by rw [List.getElem?_append_left (a_lt h1)]; exact h1) (Nat.le_of_ble_eq_true rfl) (fun _ => ⟨rfl, rfl⟩) (fun q hq => by cases hq; exact fwX5_27) ?_
  exact A_vret (pc := 32) dX5_init_32 rfl (by decide) (by decide) (⟨rfl, set_pre _ (a_lt h1)⟩)
