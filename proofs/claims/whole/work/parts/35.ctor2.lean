/-! constructors: Walker, Chart, Net -/
theorem len_sa (hp l : AH) (q : Nat) (c : AC) : (hp.set q c ++ l).length = hp.length + l.length := by simp
theorem at_sa {hp l : AH} {q : Nat} (c : AC) (hq : q < hp.length) : (hp.set q c ++ l)[q]? = some c := by
  rw [List.getElem?_append_left (by rw [List.length_set]; exact hq), List.getElem?_set_self hq]
theorem set_sa {hp l : AH} {q : Nat} (c z : AC) (hq : q < hp.length) : (hp.set q c ++ l).set q z = hp.set q z ++ l := by
  rw [set_pre z (by rw [List.length_set]; exact hq), List.set_set]
theorem app_sa (hp l : AH) (q : Nat) (c x : AC) : (hp.set q c ++ l) ++ [x] = hp.set q c ++ (l ++ [x]) := List.append_assoc _ _ _

set_option maxHeartbeats 4000000 in
set_option maxRecDepth 100000 in
theorem sp_Walker {hp : AH} {q nn : Nat} (h1 : hp[q]? = some (oC 4 [.null, .int 0, .int 0, .int 0, .int 0, .null])) (hlen : hp.length < 990) : AS mX4_init 2 2 202 [.ref q, .ref nn] (hp) (P0 (hp.set q (oC 4 [.ref nn, .int 0, .int 0, .int 0, .int 0, .ref hp.length]) ++ [oC 3 [.ref (hp.length + 1), .int 0], aC 200 (fun _ => 0)])) := by
  refine AS.go (lv := [some (.ref q), some (.ref nn)]) rfl ?_ (by decide +kernel) rfl (Nat.le_of_ble_eq_true rfl)
  refine A_aload0 (pc := 0) dX4_init_0 ?_
  refine A_objInit (pc := 1) oiX4_3 dX4_init_1 (by decide) (Nat.le_of_ble_eq_true rfl) ?_
  refine A_aload0 (pc := 4) dX4_init_4 ?_
  refine A_iconst (pc := 5) (v := 0) dX4_init_5 (by decide) ?_
  refine A_putf (pc := 6) flX4_9 ft4_1 dX4_init_6 h1 (Nat.le_of_ble_eq_true rfl) (fun _ => ⟨rfl, rfl⟩) ?_
  refine AW.heq (hp' := hp) (set_same h1) ?_
  refine A_aload0 (pc := 9) dX4_init_9 ?_
  refine A_iconst (pc := 10) (v := 0) dX4_init_10 (by decide) ?_
  refine A_putf (pc := 11) flX4_15 ft4_2 dX4_init_11 h1 (Nat.le_of_ble_eq_true rfl) (fun _ => ⟨rfl, rfl⟩) ?_
  refine AW.heq (hp' := hp) (set_same h1) ?_
  refine A_aload0 (pc := 14) dX4_init_14 ?_
  refine A_iconst (pc := 15) (v := 0) dX4_init_15 (by decide) ?_
  refine A_putf (pc := 16) flX4_18 ft4_3 dX4_init_16 h1 (Nat.le_of_ble_eq_true rfl) (fun _ => ⟨rfl, rfl⟩) ?_
  refine AW.heq (hp' := hp) (set_same h1) ?_
  refine A_aload0 (pc := 19) dX4_init_19 ?_
  refine A_iconst (pc := 20) (v := 0) dX4_init_20 (by decide) ?_
  refine A_putf (pc := 21) flX4_21 ft4_4 dX4_init_21 h1 (Nat.le_of_ble_eq_true rfl) (fun _ => ⟨rfl, rfl⟩) ?_
  refine AW.heq (hp' := hp) (set_same h1) ?_
  refine A_aload0 (pc := 24) dX4_init_24 ?_
  refine A_new (pc := 25) (ci := 3) [.null, .int 0] tyX3 rfl cwX3 tyX3_ok klX4_24 ins3 ini3 (fun j hj => by rcases (show j = 0 ∨ j = 1 by omega) with rfl | rfl <;> rfl) (fun _ => rfl) dX4_init_25 (by decide) (by decide) (by omega) ?_
  refine A_dup (pc := 28) dX4_init_28 rfl ?_
  refine A_sipush (pc := 29) (v := 200) dX4_init_29 (by decide) ?_
  refine A_civ (pc := 32) ciX4_26 (sp_RowN hp 200 (by decide) (by omega)) dX4_init_32 rfl rfl (Nat.le_of_ble_eq_true rfl) (by decide) (by decide) (by decide) ?_
  refine A_putF (pc := 35) flX4_29 ft4_5 (fun q hq => by cases hq; rfl) rfl dX4_init_35 (by rw [List.getElem?_append_left (a_lt h1)]; exact h1) (Nat.le_of_ble_eq_true rfl) (fun _ => ⟨rfl, rfl⟩) (fun q hq => by cases hq; exact fwX4_29) ?_
  refine AW.heq (hp' := hp.set q (oC 4 [.null, .int 0, .int 0, .int 0, .int 0, .ref hp.length]) ++ [oC 3 [.ref (hp.length + 1), .int 0], aC 200 (fun _ => 0)]) (set_pre _ (a_lt h1)) ?_
  refine A_aload0 (pc := 38) dX4_init_38 ?_
  refine A_aload1 (pc := 39) dX4_init_39 ?_
  refine A_putF (pc := 40) flX4_33 ft4_0 (fun q hq => by cases hq; rfl) rfl dX4_init_40 (at_sa (oC 4 [.null, .int 0, .int 0, .int 0, .int 0, .ref hp.length]) (a_lt h1)) (Nat.le_of_ble_eq_true rfl) (fun _ => ⟨rfl, rfl⟩) (fun q hq => by cases hq; exact fwX4_33) ?_
  exact A_vret (pc := 43) dX4_init_43 rfl (by decide) (by decide) (⟨rfl, set_sa _ _ (a_lt h1)⟩)

set_option maxHeartbeats 4000000 in
set_option maxRecDepth 100000 in
theorem sp_Chart {hp : AH} {q : Nat} (h1 : hp[q]? = some (oC 0 [.int 0, .null, .null, .null])) (hlen : hp.length < 990) : AS mX0_init 1 3 2909 [.ref q] (hp) (P0 (hp.set q (oC 0 [.int 0, .ref hp.length, .ref (hp.length + 1), .ref (hp.length + 2)]) ++ [aC 2784 (fun _ => 0), aC 96 (fun _ => 0), aC 29 (fun _ => 0)])) := by
  refine AS.go (lv := [some (.ref q)]) rfl ?_ (by decide +kernel) rfl (Nat.le_of_ble_eq_true rfl)
  refine A_aload0 (pc := 0) dX0_init_0 ?_
  refine A_objInit (pc := 1) oiX0_3 dX0_init_1 (by decide) (Nat.le_of_ble_eq_true rfl) ?_
  refine A_aload0 (pc := 4) dX0_init_4 ?_
  refine A_iconst (pc := 5) (v := 0) dX0_init_5 (by decide) ?_
  refine A_putf (pc := 6) flX0_9 ft0_0 dX0_init_6 h1 (Nat.le_of_ble_eq_true rfl) (fun _ => ⟨rfl, rfl⟩) ?_
  refine AW.heq (hp' := hp) (set_same h1) ?_
  refine A_aload0 (pc := 9) dX0_init_9 ?_
  refine A_bipush (pc := 10) (v := 96) dX0_init_10 (by decide) ?_
  refine A_gets (pc := 12) (j := 0) (by decide) slX0_15 dX0_init_12 ?_
  refine A_alenS (pc := 15) (j := 0) (v := nI 29) (by decide) dX0_init_15 rfl ?_
  refine A_imul (pc := 16) dX0_init_16 ?_
  refine A_newa (pc := 17) (N := 2784) (by decide) (by decide) dX0_init_17 (by decide) (by decide) (by (try simp) <;> omega) ?_
  refine A_putF (pc := 19) flX0_19 ft0_1 (fun q hq => by cases hq; rfl) rfl dX0_init_19 (by rw [List.getElem?_append_left (a_lt h1)]; exact h1) (Nat.le_of_ble_eq_true rfl) (fun _ => ⟨rfl, rfl⟩) (fun q hq => by cases hq; exact fwX0_19) ?_
  refine AW.heq (hp' := hp.set q (oC 0 [.int 0, .ref hp.length, .null, .null]) ++ [aC 2784 (fun _ => 0)]) (set_pre _ (a_lt h1)) ?_
  refine A_aload0 (pc := 22) dX0_init_22 ?_
  refine A_bipush (pc := 23) (v := 96) dX0_init_23 (by decide) ?_
  refine A_newa (pc := 25) (N := 96) rfl (by decide) dX0_init_25 (by decide) (by decide) (by (try simp) <;> omega) ?_
  refine AW.heq (hp' := hp.set q (oC 0 [.int 0, .ref hp.length, .null, .null]) ++ [aC 2784 (fun _ => 0), aC 96 (fun _ => 0)]) (app_sa _ _ _ _ _) ?_
  refine AW.stk (st' := [.ref (hp.length + 1), .ref q]) (by simp) ?_
  refine A_putF (pc := 27) flX0_22 ft0_2 (fun q hq => by cases hq; rfl) rfl dX0_init_27 (at_sa (oC 0 [.int 0, .ref hp.length, .null, .null]) (a_lt h1)) (Nat.le_of_ble_eq_true rfl) (fun _ => ⟨rfl, rfl⟩) (fun q hq => by cases hq; exact fwX0_22) ?_
  refine AW.heq (hp' := hp.set q (oC 0 [.int 0, .ref hp.length, .ref (hp.length + 1), .null]) ++ [aC 2784 (fun _ => 0), aC 96 (fun _ => 0)]) (set_sa _ _ (a_lt h1)) ?_
  refine A_aload0 (pc := 30) dX0_init_30 ?_
  refine A_gets (pc := 31) (j := 0) (by decide) slX0_15 dX0_init_31 ?_
  refine A_alenS (pc := 34) (j := 0) (v := nI 29) (by decide) dX0_init_34 rfl ?_
  refine A_newa (pc := 35) (N := 29) rfl (by decide) dX0_init_35 (by decide) (by decide) (by (try simp) <;> omega) ?_
  refine AW.heq (hp' := hp.set q (oC 0 [.int 0, .ref hp.length, .ref (hp.length + 1), .null]) ++ [aC 2784 (fun _ => 0), aC 96 (fun _ => 0), aC 29 (fun _ => 0)]) (app_sa _ _ _ _ _) ?_
  refine AW.stk (st' := [.ref (hp.length + 2), .ref q]) (by simp) ?_
  refine A_putF (pc := 37) flX0_25 ft0_3 (fun q hq => by cases hq; rfl) rfl dX0_init_37 (at_sa (oC 0 [.int 0, .ref hp.length, .ref (hp.length + 1), .null]) (a_lt h1)) (Nat.le_of_ble_eq_true rfl) (fun _ => ⟨rfl, rfl⟩) (fun q hq => by cases hq; exact fwX0_25) ?_
  exact A_vret (pc := 40) dX0_init_40 rfl (by decide) (by decide) (⟨rfl, set_sa _ _ (a_lt h1)⟩)

def netH (c0 : AC) (f : Nat → Int32) : AH := [c0, oC 2 [.int 0, .int 0, .ref 2, .ref 3, .ref 4, .ref 5, .ref 6], aC 24 (fun _ => 0), aC 96 f, aC 96 (fun _ => 0), aC 24 (fun _ => 0), oC 3 [.ref 7, .int 0], aC 24 (fun _ => 0)]
set_option maxHeartbeats 4000000 in
set_option maxRecDepth 100000 in
theorem lp_neti (c0 : AC) (m : Nat) : ∀ (i : Nat) (f : Nat → Int32) (_ : i + m = 96), AW mX2_init 2 6 266 6 266 61 [some (.ref 1), some (.int (nI i))] [] (netH c0 f) (P0 (netH c0 (fiL (-1) m i f))) := by
  induction m with
  | zero =>
    intro i f hi
    refine A_iload1 (pc := 61) dX2_init_61 ?_
    refine A_bipush (pc := 62) (v := 96) dX2_init_62 (by decide) ?_
    refine A_icmp_ge (pc := 64) (tgt := 80) dX2_init_64 (by decide) (fun c64 => ?_) (fun c64 => absurd (show nI 96 ≤ nI i from nI_le (by omega) (by omega)) c64)
    exact A_vret (pc := 80) dX2_init_80 rfl (by decide) (by decide) (⟨rfl, rfl⟩)
  | succ m ih =>
    intro i f hi
    refine A_iload1 (pc := 61) dX2_init_61 ?_
    refine A_bipush (pc := 62) (v := 96) dX2_init_62 (by decide) ?_
    refine A_icmp_ge (pc := 64) (tgt := 80) dX2_init_64 (by decide) (fun c64 => absurd c64 (show ¬ nI 96 ≤ nI i from nI_ge (by omega) (by omega))) (fun c64 => ?_)
    refine A_aload0 (pc := 67) dX2_init_67 ?_
    refine A_getf (pc := 68) flX2_22 dX2_init_68 rfl rfl ?_
    refine A_iload1 (pc := 71) dX2_init_71 ?_
    refine A_iconst (pc := 72) (v := -1) dX2_init_72 (by decide) ?_
    refine A_iast (pc := 73) dX2_init_73 rfl (vp_in_nI (by omega) (by decide)) ?_
    refine AW.heq (hp' := netH c0 (upd f i (-1))) (by rw [nI_clamp (by omega)]; rfl) ?_
    refine A_iinc1 (pc := 74) dX2_init_74 (by decide) (nI_1 i) ?_
    refine A_goto (pc := 77) (tgt := 61) dX2_init_77 (by decide) ?_
    simp only [fiL]
    exact ih (i + 1) _ (by omega)

set_option maxHeartbeats 4000000 in
set_option maxRecDepth 100000 in
theorem sp_Net (c0 : AC) : AS mX2_init 2 6 266 [.ref 1] ([c0, oC 2 [.int 0, .int 0, .null, .null, .null, .null, .null]]) (P0 (netH c0 (fiL (-1) 96 0 (fun _ => 0)))) := by
  refine AS.go (lv := [some (.ref 1), none]) rfl ?_ (by decide +kernel) rfl (Nat.le_of_ble_eq_true rfl)
  refine A_aload0 (pc := 0) dX2_init_0 ?_
  refine A_objInit (pc := 1) oiX2_3 dX2_init_1 (by decide) (Nat.le_of_ble_eq_true rfl) ?_
  refine A_aload0 (pc := 4) dX2_init_4 ?_
  refine A_iconst (pc := 5) (v := 0) dX2_init_5 (by decide) ?_
  refine A_putf (pc := 6) flX2_9 ft2_0 dX2_init_6 rfl (Nat.le_of_ble_eq_true rfl) (fun _ => ⟨rfl, rfl⟩) ?_
  refine AW.heq (hp' := [c0, oC 2 [.int 0, .int 0, .null, .null, .null, .null, .null]]) rfl ?_
  refine A_aload0 (pc := 9) dX2_init_9 ?_
  refine A_iconst (pc := 10) (v := 0) dX2_init_10 (by decide) ?_
  refine A_putf (pc := 11) flX2_15 ft2_1 dX2_init_11 rfl (Nat.le_of_ble_eq_true rfl) (fun _ => ⟨rfl, rfl⟩) ?_
  refine AW.heq (hp' := [c0, oC 2 [.int 0, .int 0, .null, .null, .null, .null, .null]]) rfl ?_
  refine A_aload0 (pc := 14) dX2_init_14 ?_
  refine A_bipush (pc := 15) (v := 24) dX2_init_15 (by decide) ?_
  refine A_newa (pc := 17) (N := 24) rfl (by decide) dX2_init_17 (by decide) (by decide) (Nat.le_of_ble_eq_true rfl) ?_
  refine A_putF (pc := 19) flX2_18 ft2_2 (fun q hq => by cases hq; rfl) rfl dX2_init_19 rfl (Nat.le_of_ble_eq_true rfl) (fun _ => ⟨rfl, rfl⟩) (fun q hq => by cases hq; exact fwX2_18) ?_
  refine AW.heq (hp' := [c0, oC 2 [.int 0, .int 0, .ref 2, .null, .null, .null, .null], aC 24 (fun _ => 0)]) rfl ?_
  refine A_aload0 (pc := 22) dX2_init_22 ?_
  refine A_bipush (pc := 23) (v := 96) dX2_init_23 (by decide) ?_
  refine A_newa (pc := 25) (N := 96) rfl (by decide) dX2_init_25 (by decide) (by decide) (Nat.le_of_ble_eq_true rfl) ?_
  refine A_putF (pc := 27) flX2_22 ft2_3 (fun q hq => by cases hq; rfl) rfl dX2_init_27 rfl (Nat.le_of_ble_eq_true rfl) (fun _ => ⟨rfl, rfl⟩) (fun q hq => by cases hq; exact fwX2_22) ?_
  refine AW.heq (hp' := [c0, oC 2 [.int 0, .int 0, .ref 2, .ref 3, .null, .null, .null], aC 24 (fun _ => 0), aC 96 (fun _ => 0)]) rfl ?_
  refine A_aload0 (pc := 30) dX2_init_30 ?_
  refine A_bipush (pc := 31) (v := 96) dX2_init_31 (by decide) ?_
  refine A_newa (pc := 33) (N := 96) rfl (by decide) dX2_init_33 (by decide) (by decide) (Nat.le_of_ble_eq_true rfl) ?_
  refine A_putF (pc := 35) flX2_25 ft2_4 (fun q hq => by cases hq; rfl) rfl dX2_init_35 rfl (Nat.le_of_ble_eq_true rfl) (fun _ => ⟨rfl, rfl⟩) (fun q hq => by cases hq; exact fwX2_25) ?_
  refine AW.heq (hp' := [c0, oC 2 [.int 0, .int 0, .ref 2, .ref 3, .ref 4, .null, .null], aC 24 (fun _ => 0), aC 96 (fun _ => 0), aC 96 (fun _ => 0)]) rfl ?_
  refine A_aload0 (pc := 38) dX2_init_38 ?_
  refine A_bipush (pc := 39) (v := 24) dX2_init_39 (by decide) ?_
  refine A_newa (pc := 41) (N := 24) rfl (by decide) dX2_init_41 (by decide) (by decide) (Nat.le_of_ble_eq_true rfl) ?_
  refine A_putF (pc := 43) flX2_28 ft2_5 (fun q hq => by cases hq; rfl) rfl dX2_init_43 rfl (Nat.le_of_ble_eq_true rfl) (fun _ => ⟨rfl, rfl⟩) (fun q hq => by cases hq; exact fwX2_28) ?_
  refine AW.heq (hp' := [c0, oC 2 [.int 0, .int 0, .ref 2, .ref 3, .ref 4, .ref 5, .null], aC 24 (fun _ => 0), aC 96 (fun _ => 0), aC 96 (fun _ => 0), aC 24 (fun _ => 0)]) rfl ?_
  refine A_aload0 (pc := 46) dX2_init_46 ?_
  refine A_new (pc := 47) (ci := 3) [.null, .int 0] tyX3 rfl cwX3 tyX3_ok klX2_31 ins3 ini3 (fun j hj => by rcases (show j = 0 ∨ j = 1 by omega) with rfl | rfl <;> rfl) (fun _ => rfl) dX2_init_47 (by decide) (by decide) (Nat.le_of_ble_eq_true rfl) ?_
  refine A_dup (pc := 50) dX2_init_50 rfl ?_
  refine A_bipush (pc := 51) (v := 24) dX2_init_51 (by decide) ?_
  refine A_civ (pc := 53) ciX2_33 (sp_RowN [c0, oC 2 [.int 0, .int 0, .ref 2, .ref 3, .ref 4, .ref 5, .null], aC 24 (fun _ => 0), aC 96 (fun _ => 0), aC 96 (fun _ => 0), aC 24 (fun _ => 0)] 24 (by decide) (Nat.le_of_ble_eq_true rfl)) dX2_init_53 rfl rfl (Nat.le_of_ble_eq_true rfl) (by decide) (by decide) (by decide) ?_
  refine A_putF (pc := 56) flX2_36 ft2_6 (fun q hq => by cases hq; rfl) rfl dX2_init_56 rfl (Nat.le_of_ble_eq_true rfl) (fun _ => ⟨rfl, rfl⟩) (fun q hq => by cases hq; exact fwX2_36) ?_
  refine AW.heq (hp' := netH c0 (fun _ => 0)) rfl ?_
  refine A_iconst (pc := 59) (v := 0) dX2_init_59 (by decide) ?_
  refine A_istore1 (pc := 60) dX2_init_60 (by decide) ?_
  exact lp_neti c0 96 0 _ (by omega)
