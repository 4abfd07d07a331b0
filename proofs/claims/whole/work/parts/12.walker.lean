/-! a walker, as functions of its numbers: knot, facing, streets, by this saying, how many exits, exits -/
def psOk (n : NS) (w : WS) (e : Int32) : Bool := if acI n.2.2.2.1 w.1 e = -1 then false else if w.2.2.2.1 < 30 then true else false
def psT (n : NS) (w : WS) (e : Int32) : WS := (acI n.2.2.2.1 w.1 e / 4, remI (acI n.2.2.2.1 w.1 e + 2), w.2.2.1 + 1, w.2.2.2.1 + 1, adZ 200 w.2.2.2.2.1, adF 200 w.2.2.2.2.1 w.2.2.2.2.2 e)
def psW (n : NS) (w : WS) (e : Int32) : WS := if psOk n w e = true then psT n w e else w
def hsI (n : NS) (w : WS) (e : Int32) : Bool := if acI n.2.2.2.1 w.1 e = -1 then false else true
def tnL (n : NS) (side number : Int32) : Nat → Int32 → WS → Bool × WS
  | 0, _, w => (false, w)
  | m + 1, met, w => if (if hsI n w (remI (w.2.1 + side)) = true then met + 1 else met) < number then (if psOk n w w.2.1 = true then tnL n side number m (if hsI n w (remI (w.2.1 + side)) = true then met + 1 else met) (psW n w w.2.1) else (false, psW n w w.2.1)) else (psOk n w (remI (w.2.1 + side)), psW n w (remI (w.2.1 + side)))
def puL (n : NS) (s mt : Int32) : Nat → Int32 → WS → Bool × WS
  | 0, _, w => (false, w)
  | m + 1, met, w => if psOk n w w.2.1 = true then (if (if siI n.1 n.2.2.1 (psW n w w.2.1).1 = s then met + 1 else met) < mt then puL n s mt m (if siI n.1 n.2.2.1 (psW n w w.2.1).1 = s then met + 1 else met) (psW n w w.2.1) else (true, psW n w w.2.1)) else (false, psW n w w.2.1)
def peL (n : NS) : Nat → WS → Bool × WS
  | 0, w => (false, w)
  | m + 1, w => if psOk n w w.2.1 = true then (if hsI n (psW n w w.2.1) (psW n w w.2.1).2.1 = true then peL n m (psW n w w.2.1) else (true, psW n w w.2.1)) else (false, psW n w w.2.1)
def pnL (n : NS) (w : WS) (name : Int32) : Nat → Nat → Int32 → Bool × WS
  | 0, _, f => (psOk n w f, psW n w f)
  | m + 1, i, f => if nI i = 2 then pnL n w name m (i + 1) f else if hsI n w (remI (w.2.1 + nI i)) = true then (if nmI n.1 n.2.2.2.2.1 w.1 (remI (w.2.1 + nI i)) = name then (if f = -1 then pnL n w name m (i + 1) (remI (w.2.1 + nI i)) else (false, w)) else pnL n w name m (i + 1) f) else pnL n w name m (i + 1) f
def zW (w : WS) : WS := (w.1, w.2.1, w.2.2.1, 0, w.2.2.2.2)
def flW (n : NS) (w : WS) (kind number mt : Int32) : Bool × WS := if kind = 4 then tnL n 3 number 31 0 (zW w) else if kind = 5 then tnL n 1 number 31 0 (zW w) else if kind = 6 then puL n number mt 31 0 (zW w) else if kind = 7 then pnL n (zW w) number 4 0 (-1) else if kind = 8 then peL n 31 (zW w) else if exI kind = true then (psOk n (zW w) (remI ((zW w).2.1 + kind)), psW n (zW w) (remI ((zW w).2.1 + kind))) else (false, zW w)
def fsW (n : NS) (w : WS) (kind number : Int32) : Bool × WS := if kind = 1 then flW n w 3 number 1 else if kind = 3 then flW n w 1 number 1 else if kind = 4 then flW n w 4 (number + 1) 1 else if kind = 5 then flW n w 5 (number + 1) 1 else flW n w kind number 2
def stW (w : WS) (k f : Int32) : WS := (k, f, 0, w.2.2.2.1, 0, w.2.2.2.2.2)
def sgL (n : NS) (cap : Nat) (sz : Int32) (g : Nat → Int32) (slip : Int32) (i : Nat) (w : WS) : Bool × WS := if nI i = slip then fsW n w (atI cap sz g (nI i) / 10) (atI cap sz g (nI i) - atI cap sz g (nI i) / 10 * 10) else flW n w (atI cap sz g (nI i) / 10) (atI cap sz g (nI i) - atI cap sz g (nI i) / 10 * 10) 1
def faL (n : NS) (cap : Nat) (sz : Int32) (g : Nat → Int32) (slip : Int32) : Nat → Nat → WS → Int32 × WS
  | 0, _, w => (-1, w)
  | m + 1, i, w => if (sgL n cap sz g slip i w).1 = true then faL n cap sz g slip m (i + 1) (sgL n cap sz g slip i w).2 else (nI i, (sgL n cap sz g slip i w).2)
def waL (w : WS) (cap : Nat) (sz : Int32) (g : Nat → Int32) (fr : Int32) : Nat → Nat → Bool
  | 0, _ => true
  | m + 1, i => if atI 200 w.2.2.2.2.1 w.2.2.2.2.2 (nI i) = atI cap sz g (fr + nI i) then waL w cap sz g fr m (i + 1) else false
def waI (w : WS) (cap : Nat) (sz : Int32) (g : Nat → Int32) (fr : Int32) : Bool := if w.2.2.1 ≤ sz - fr then waL w cap sz g fr w.2.2.1.toNatClampNeg 0 else false
theorem neg_iff_b {b : Bool} : (¬ b = true) ↔ b = false := by cases b <;> simp

set_option maxHeartbeats 4000000 in
set_option maxRecDepth 100000 in
theorem sp_stand_la {n : NS} {p : Nat → Int32} {o : OS} {y : RS} {la sc : WS} {wy : YS} {ch : KS} {ko : Nat → Option Nat} {rest : AH} (k f : Int32) : AS mX4_stand 1 0 0 [.ref 11, .int k, .int f] (CH n p o y la sc wy ch ko ++ rest) (P0 (CH n p o y (stW la k f) sc wy ch ko ++ rest)) := by
  refine AS.go (lv := [some (.ref 11), some (.int k), some (.int f)]) rfl ?_ (by decide +kernel) rfl (Nat.le_of_ble_eq_true rfl)
  refine A_aload0 (pc := 0) dX4_stand_0 ?_
  refine A_iload1 (pc := 1) dX4_stand_1 ?_
  refine A_putf (pc := 2) flX4_9 ft4_1 dX4_stand_2 rfl (Nat.le_of_ble_eq_true rfl) (fun _ => ⟨rfl, rfl⟩) ?_
  refine A_aload0 (pc := 5) dX4_stand_5 ?_
  refine A_iload2 (pc := 6) dX4_stand_6 ?_
  refine A_putf (pc := 7) flX4_15 ft4_2 dX4_stand_7 rfl (Nat.le_of_ble_eq_true rfl) (fun _ => ⟨rfl, rfl⟩) ?_
  refine A_aload0 (pc := 10) dX4_stand_10 ?_
  refine A_iconst (pc := 11) (v := 0) dX4_stand_11 (by decide) ?_
  refine A_putf (pc := 12) flX4_18 ft4_3 dX4_stand_12 rfl (Nat.le_of_ble_eq_true rfl) (fun _ => ⟨rfl, rfl⟩) ?_
  refine A_aload0 (pc := 15) dX4_stand_15 ?_
  refine A_getf (pc := 16) flX4_29 dX4_stand_16 rfl rfl ?_
  refine A_cvv (pc := 19) cvX4_37 (sp_clear (r := 12) (a := 13) (sz := la.2.2.2.2.1) rfl) dX4_stand_19 rfl rfl rfl rfl (Nat.le_of_ble_eq_true rfl) (by decide) (by decide) (by decide) ?_
  exact A_vret (pc := 22) dX4_stand_22 rfl (by decide) (by decide) (⟨rfl, rfl⟩)

set_option maxHeartbeats 4000000 in
set_option maxRecDepth 100000 in
theorem sp_pass_la {n : NS} {p : Nat → Int32} {o : OS} {y : RS} {la sc : WS} {wy : YS} {ch : KS} {ko : Nat → Option Nat} {rest : AH} (e : Int32) : AS mX4_pass 1 0 0 [.ref 11, .int e] (CH n p o y la sc wy ch ko ++ rest) (P1 (bI (psOk n la e)) (CH n p o y (psW n la e) sc wy ch ko ++ rest)) := by
  refine AS.go (lv := [some (.ref 11), some (.int e), none]) rfl ?_ (by decide +kernel) rfl (Nat.le_of_ble_eq_true rfl)
  refine A_aload0 (pc := 0) dX4_pass_0 ?_
  refine A_getf (pc := 1) flX4_33 dX4_pass_1 rfl rfl ?_
  refine A_aload0 (pc := 4) dX4_pass_4 ?_
  refine A_getf (pc := 5) flX4_9 dX4_pass_5 rfl rfl ?_
  refine A_iload1 (pc := 8) dX4_pass_8 ?_
  refine A_cvi (pc := 9) cvX4_82 (sp_across (kn := n.1) (sk := n.2.1) (ac := n.2.2.2.1) rfl rfl _ _) dX4_pass_9 rfl rfl rfl rfl (Nat.le_of_ble_eq_true rfl) (by decide) (by decide) (by decide) ?_
  refine A_istore2 (pc := 12) dX4_pass_12 (by decide) ?_
  refine A_iload2 (pc := 13) dX4_pass_13 ?_
  refine A_iconst (pc := 14) (v := -1) dX4_pass_14 (by decide) ?_
  refine A_icmp_eq (pc := 15) (tgt := 27) dX4_pass_15 (by decide) (fun c15 => ?_) (fun c15 => ?_)
  · refine A_iconst (pc := 27) (v := 0) dX4_pass_27 (by decide) ?_
    exact A_iret (pc := 28) dX4_pass_28 rfl rfl (by decide) (by decide) (⟨by simp [psOk, *, bI], by unfold psW; rw [if_neg (by simp [psOk, *])]⟩)
  · refine A_aload0 (pc := 18) dX4_pass_18 ?_
    refine A_getf (pc := 19) flX4_21 dX4_pass_19 rfl rfl ?_
    refine A_bipush (pc := 22) (v := 30) dX4_pass_22 (by decide) ?_
    refine A_icmp_lt (pc := 24) (tgt := 29) dX4_pass_24 (by decide) (fun c24 => ?_) (fun c24 => ?_)
    · refine A_aload0 (pc := 29) dX4_pass_29 ?_
      refine A_getf (pc := 30) flX4_29 dX4_pass_30 rfl rfl ?_
      refine A_iload1 (pc := 33) dX4_pass_33 ?_
      refine A_cvi (pc := 34) cvX4_87 (sp_add (r := 12) (a := 13) (cap := 200) rfl rfl (by decide) e) dX4_pass_34 rfl rfl rfl rfl (Nat.le_of_ble_eq_true rfl) (by decide) (by decide) (by decide) ?_
      refine AW.heq (hp' := CH n p o y ((la.1, la.2.1, la.2.2.1, la.2.2.2.1, adZ 200 la.2.2.2.2.1, adF 200 la.2.2.2.2.1 la.2.2.2.2.2 e)) sc wy ch ko ++ rest) rfl ?_
      refine A_pop (pc := 37) dX4_pass_37 rfl ?_
      refine A_aload0 (pc := 38) dX4_pass_38 ?_
      refine A_dup (pc := 39) dX4_pass_39 rfl ?_
      refine A_getf (pc := 40) flX4_18 dX4_pass_40 rfl rfl ?_
      refine A_iconst (pc := 43) (v := 1) dX4_pass_43 (by decide) ?_
      refine A_iadd (pc := 44) dX4_pass_44 ?_
      refine A_putf (pc := 45) flX4_18 ft4_3 dX4_pass_45 rfl (Nat.le_of_ble_eq_true rfl) (fun _ => ⟨rfl, rfl⟩) ?_
      refine A_aload0 (pc := 48) dX4_pass_48 ?_
      refine A_dup (pc := 49) dX4_pass_49 rfl ?_
      refine A_getf (pc := 50) flX4_21 dX4_pass_50 rfl rfl ?_
      refine A_iconst (pc := 53) (v := 1) dX4_pass_53 (by decide) ?_
      refine A_iadd (pc := 54) dX4_pass_54 ?_
      refine A_putf (pc := 55) flX4_21 ft4_4 dX4_pass_55 rfl (Nat.le_of_ble_eq_true rfl) (fun _ => ⟨rfl, rfl⟩) ?_
      refine A_aload0 (pc := 58) dX4_pass_58 ?_
      refine A_iload2 (pc := 59) dX4_pass_59 ?_
      refine A_csi (pc := 60) csX4_90 (sp_knotOf _) dX4_pass_60 rfl rfl (Nat.le_of_ble_eq_true rfl) (by decide) (by decide) (by decide) ?_
      refine A_putf (pc := 63) flX4_9 ft4_1 dX4_pass_63 rfl (Nat.le_of_ble_eq_true rfl) (fun _ => ⟨rfl, rfl⟩) ?_
      refine A_aload0 (pc := 66) dX4_pass_66 ?_
      refine A_iload2 (pc := 67) dX4_pass_67 ?_
      refine A_csi (pc := 68) csX4_93 (sp_facingFrom _) dX4_pass_68 rfl rfl (Nat.le_of_ble_eq_true rfl) (by decide) (by decide) (by decide) ?_
      refine A_putf (pc := 71) flX4_15 ft4_2 dX4_pass_71 rfl (Nat.le_of_ble_eq_true rfl) (fun _ => ⟨rfl, rfl⟩) ?_
      refine A_iconst (pc := 74) (v := 1) dX4_pass_74 (by decide) ?_
      exact A_iret (pc := 75) dX4_pass_75 rfl rfl (by decide) (by decide) (⟨by simp [psOk, *, bI], by unfold psW; rw [if_pos (by simp [psOk, *])]; rfl⟩)
    · refine A_iconst (pc := 27) (v := 0) dX4_pass_27 (by decide) ?_
      exact A_iret (pc := 28) dX4_pass_28 rfl rfl (by decide) (by decide) (⟨by simp [psOk, *, bI], by unfold psW; rw [if_neg (by simp [psOk, *])]⟩)

set_option maxHeartbeats 4000000 in
set_option maxRecDepth 100000 in
theorem sp_hasStreet_la {n : NS} {p : Nat → Int32} {o : OS} {y : RS} {la sc : WS} {wy : YS} {ch : KS} {ko : Nat → Option Nat} {rest : AH} (e : Int32) : AS mX4_hasStreet 1 0 0 [.ref 11, .int e] (CH n p o y la sc wy ch ko ++ rest) (P1 (bI (hsI n la e)) (CH n p o y la sc wy ch ko ++ rest)) := by
  refine AS.go (lv := [some (.ref 11), some (.int e)]) rfl ?_ (by decide +kernel) rfl (Nat.le_of_ble_eq_true rfl)
  refine A_aload0 (pc := 0) dX4_hasStreet_0 ?_
  refine A_getf (pc := 1) flX4_33 dX4_hasStreet_1 rfl rfl ?_
  refine A_aload0 (pc := 4) dX4_hasStreet_4 ?_
  refine A_getf (pc := 5) flX4_9 dX4_hasStreet_5 rfl rfl ?_
  refine A_iload1 (pc := 8) dX4_hasStreet_8 ?_
  refine A_cvi (pc := 9) cvX4_82 (sp_across (kn := n.1) (sk := n.2.1) (ac := n.2.2.2.1) rfl rfl _ _) dX4_hasStreet_9 rfl rfl rfl rfl (Nat.le_of_ble_eq_true rfl) (by decide) (by decide) (by decide) ?_
  refine A_iconst (pc := 12) (v := -1) dX4_hasStreet_12 (by decide) ?_
  refine A_icmp_eq (pc := 13) (tgt := 20) dX4_hasStreet_13 (by decide) (fun c13 => ?_) (fun c13 => ?_)
  · refine A_iconst (pc := 20) (v := 0) dX4_hasStreet_20 (by decide) ?_
    exact A_iret (pc := 21) dX4_hasStreet_21 rfl rfl (by decide) (by decide) (⟨by simp [hsI, *, bI], rfl⟩)
  · refine A_iconst (pc := 16) (v := 1) dX4_hasStreet_16 (by decide) ?_
    refine A_goto (pc := 17) (tgt := 21) dX4_hasStreet_17 (by decide) ?_
    exact A_iret (pc := 21) dX4_hasStreet_21 rfl rfl (by decide) (by decide) (⟨by simp [hsI, *, bI], rfl⟩)

set_option maxHeartbeats 4000000 in
set_option maxRecDepth 100000 in
theorem lp_turn_la {n : NS} {p : Nat → Int32} {o : OS} {y : RS} {sc : WS} {wy : YS} {ch : KS} {ko : Nat → Option Nat} {rest : AH} (side number : Int32) (m : Nat) : ∀ (i : Nat) (met : Int32) (la : WS) (_ : i + m = 31) (x5 : Option Value), AW mX4_turnAtNth 2 0 0 0 0 5 [some (.ref 11), some (.int side), some (.int number), some (.int met), some (.int (nI i)), x5] [] (CH n p o y la sc wy ch ko ++ rest) (P1 (bI (tnL n side number m met la).1) (CH n p o y ((tnL n side number m met la).2) sc wy ch ko ++ rest)) := by
  induction m with
  | zero =>
    intro i met la hi x5
    refine A_iload4 (pc := 5) dX4_turnAtNth_5 ?_
    refine A_bipush (pc := 7) (v := 30) dX4_turnAtNth_7 (by decide) ?_
    refine A_icmp_gt (pc := 9) (tgt := 65) dX4_turnAtNth_9 (by decide) (fun c9 => ?_) (fun c9 => absurd (show nI 30 < nI i from nI_lt (by omega) (by omega)) c9)
    refine A_iconst (pc := 65) (v := 0) dX4_turnAtNth_65 (by decide) ?_
    exact A_iret (pc := 66) dX4_turnAtNth_66 rfl rfl (by decide) (by decide) (⟨rfl, rfl⟩)
  | succ m ih =>
    intro i met la hi x5
    refine A_iload4 (pc := 5) dX4_turnAtNth_5 ?_
    refine A_bipush (pc := 7) (v := 30) dX4_turnAtNth_7 (by decide) ?_
    refine A_icmp_gt (pc := 9) (tgt := 65) dX4_turnAtNth_9 (by decide) (fun c9 => absurd c9 (show ¬ nI 30 < nI i from nI_nlt (by omega) (by omega))) (fun c9 => ?_)
    refine A_aload0 (pc := 12) dX4_turnAtNth_12 ?_
    refine A_getf (pc := 13) flX4_15 dX4_turnAtNth_13 rfl rfl ?_
    refine A_iload1 (pc := 16) dX4_turnAtNth_16 ?_
    refine A_csi (pc := 17) csX4_61 (sp_turned _ _) dX4_turnAtNth_17 rfl rfl (Nat.le_of_ble_eq_true rfl) (by decide) (by decide) (by decide) ?_
    refine A_istore5 (pc := 20) dX4_turnAtNth_20 (by decide) ?_
    refine A_aload0 (pc := 22) dX4_turnAtNth_22 ?_
    refine A_iload5 (pc := 23) dX4_turnAtNth_23 ?_
    refine A_cvi (pc := 25) cvX4_96 (sp_hasStreet_la _) dX4_turnAtNth_25 rfl rfl rfl rfl (Nat.le_of_ble_eq_true rfl) (by decide) (by decide) (by decide) ?_
    refine A_if_eq (pc := 28) (tgt := 34) dX4_turnAtNth_28 (by decide) (fun c28 => ?_) (fun c28 => ?_)
    · replace c28 := (bI_eq _).mp c28
      refine A_iload3 (pc := 34) dX4_turnAtNth_34 ?_
      refine A_iload2 (pc := 35) dX4_turnAtNth_35 ?_
      refine A_icmp_lt (pc := 36) (tgt := 46) dX4_turnAtNth_36 (by decide) (fun c36 => ?_) (fun c36 => ?_)
      · refine A_aload0 (pc := 46) dX4_turnAtNth_46 ?_
        refine A_aload0 (pc := 47) dX4_turnAtNth_47 ?_
        refine A_getf (pc := 48) flX4_15 dX4_turnAtNth_48 rfl rfl ?_
        refine A_cvi (pc := 51) cvX4_65 (sp_pass_la _) dX4_turnAtNth_51 rfl rfl rfl rfl (Nat.le_of_ble_eq_true rfl) (by decide) (by decide) (by decide) ?_
        refine A_if_ne (pc := 54) (tgt := 59) dX4_turnAtNth_54 (by decide) (fun c54 => ?_) (fun c54 => ?_)
        · replace c54 := (bI_ne _).mp c54
          refine A_iinc4 (pc := 59) dX4_turnAtNth_59 (by decide) (nI_1 i) ?_
          refine A_goto (pc := 62) (tgt := 5) dX4_turnAtNth_62 (by decide) ?_
          simp only [tnL, *, if_true, if_false, Bool.false_eq_true]
          exact ih (i + 1) _ _ (by omega) _
        · replace c54 := (bI_eq _).mp c54
          refine A_iconst (pc := 57) (v := 0) dX4_turnAtNth_57 (by decide) ?_
          exact A_iret (pc := 58) dX4_turnAtNth_58 rfl rfl (by decide) (by decide) (⟨by simp [tnL, *, bI], by simp [tnL, *]⟩)
      · refine A_aload0 (pc := 39) dX4_turnAtNth_39 ?_
        refine A_iload5 (pc := 40) dX4_turnAtNth_40 ?_
        refine A_cvi (pc := 42) cvX4_65 (sp_pass_la _) dX4_turnAtNth_42 rfl rfl rfl rfl (Nat.le_of_ble_eq_true rfl) (by decide) (by decide) (by decide) ?_
        exact A_iret (pc := 45) dX4_turnAtNth_45 rfl (bI_n _) (by decide) (by decide) (⟨by simp [tnL, *, bI], by simp [tnL, *]⟩)
    · replace c28 := (bI_ne _).mp c28
      refine A_iinc3 (pc := 31) (v := _ + 1) dX4_turnAtNth_31 (by decide) rfl ?_
      refine A_iload3 (pc := 34) dX4_turnAtNth_34 ?_
      refine A_iload2 (pc := 35) dX4_turnAtNth_35 ?_
      refine A_icmp_lt (pc := 36) (tgt := 46) dX4_turnAtNth_36 (by decide) (fun c36 => ?_) (fun c36 => ?_)
      · refine A_aload0 (pc := 46) dX4_turnAtNth_46 ?_
        refine A_aload0 (pc := 47) dX4_turnAtNth_47 ?_
        refine A_getf (pc := 48) flX4_15 dX4_turnAtNth_48 rfl rfl ?_
        refine A_cvi (pc := 51) cvX4_65 (sp_pass_la _) dX4_turnAtNth_51 rfl rfl rfl rfl (Nat.le_of_ble_eq_true rfl) (by decide) (by decide) (by decide) ?_
        refine A_if_ne (pc := 54) (tgt := 59) dX4_turnAtNth_54 (by decide) (fun c54 => ?_) (fun c54 => ?_)
        · replace c54 := (bI_ne _).mp c54
          refine A_iinc4 (pc := 59) dX4_turnAtNth_59 (by decide) (nI_1 i) ?_
          refine A_goto (pc := 62) (tgt := 5) dX4_turnAtNth_62 (by decide) ?_
          simp only [tnL, *, if_true, if_false, Bool.false_eq_true]
          exact ih (i + 1) _ _ (by omega) _
        · replace c54 := (bI_eq _).mp c54
          refine A_iconst (pc := 57) (v := 0) dX4_turnAtNth_57 (by decide) ?_
          exact A_iret (pc := 58) dX4_turnAtNth_58 rfl rfl (by decide) (by decide) (⟨by simp [tnL, *, bI], by simp [tnL, *]⟩)
      · refine A_aload0 (pc := 39) dX4_turnAtNth_39 ?_
        refine A_iload5 (pc := 40) dX4_turnAtNth_40 ?_
        refine A_cvi (pc := 42) cvX4_65 (sp_pass_la _) dX4_turnAtNth_42 rfl rfl rfl rfl (Nat.le_of_ble_eq_true rfl) (by decide) (by decide) (by decide) ?_
        exact A_iret (pc := 45) dX4_turnAtNth_45 rfl (bI_n _) (by decide) (by decide) (⟨by simp [tnL, *, bI], by simp [tnL, *]⟩)

set_option maxHeartbeats 4000000 in
set_option maxRecDepth 100000 in
theorem sp_turnAtNth_la {n : NS} {p : Nat → Int32} {o : OS} {y : RS} {la sc : WS} {wy : YS} {ch : KS} {ko : Nat → Option Nat} {rest : AH} (side number : Int32) : AS mX4_turnAtNth 2 0 0 [.ref 11, .int side, .int number] (CH n p o y la sc wy ch ko ++ rest) (P1 (bI (tnL n side number 31 0 la).1) (CH n p o y ((tnL n side number 31 0 la).2) sc wy ch ko ++ rest)) := by
  refine AS.go (lv := [some (.ref 11), some (.int side), some (.int number), none, none, none]) rfl ?_ (by decide +kernel) rfl (Nat.le_of_ble_eq_true rfl)
  refine A_iconst (pc := 0) (v := 0) dX4_turnAtNth_0 (by decide) ?_
  refine A_istore3 (pc := 1) dX4_turnAtNth_1 (by decide) ?_
  refine A_iconst (pc := 2) (v := 0) dX4_turnAtNth_2 (by decide) ?_
  refine A_istore4 (pc := 3) dX4_turnAtNth_3 (by decide) ?_
  exact lp_turn_la side number 31 0 0 la (by omega) none

set_option maxHeartbeats 4000000 in
set_option maxRecDepth 100000 in
theorem sp_stand_sc {n : NS} {p : Nat → Int32} {o : OS} {y : RS} {la sc : WS} {wy : YS} {ch : KS} {ko : Nat → Option Nat} {rest : AH} (k f : Int32) : AS mX4_stand 1 0 0 [.ref 14, .int k, .int f] (CH n p o y la sc wy ch ko ++ rest) (P0 (CH n p o y la (stW sc k f) wy ch ko ++ rest)) := by
  refine AS.go (lv := [some (.ref 14), some (.int k), some (.int f)]) rfl ?_ (by decide +kernel) rfl (Nat.le_of_ble_eq_true rfl)
  refine A_aload0 (pc := 0) dX4_stand_0 ?_
  refine A_iload1 (pc := 1) dX4_stand_1 ?_
  refine A_putf (pc := 2) flX4_9 ft4_1 dX4_stand_2 rfl (Nat.le_of_ble_eq_true rfl) (fun _ => ⟨rfl, rfl⟩) ?_
  refine A_aload0 (pc := 5) dX4_stand_5 ?_
  refine A_iload2 (pc := 6) dX4_stand_6 ?_
  refine A_putf (pc := 7) flX4_15 ft4_2 dX4_stand_7 rfl (Nat.le_of_ble_eq_true rfl) (fun _ => ⟨rfl, rfl⟩) ?_
  refine A_aload0 (pc := 10) dX4_stand_10 ?_
  refine A_iconst (pc := 11) (v := 0) dX4_stand_11 (by decide) ?_
  refine A_putf (pc := 12) flX4_18 ft4_3 dX4_stand_12 rfl (Nat.le_of_ble_eq_true rfl) (fun _ => ⟨rfl, rfl⟩) ?_
  refine A_aload0 (pc := 15) dX4_stand_15 ?_
  refine A_getf (pc := 16) flX4_29 dX4_stand_16 rfl rfl ?_
  refine A_cvv (pc := 19) cvX4_37 (sp_clear (r := 15) (a := 16) (sz := sc.2.2.2.2.1) rfl) dX4_stand_19 rfl rfl rfl rfl (Nat.le_of_ble_eq_true rfl) (by decide) (by decide) (by decide) ?_
  exact A_vret (pc := 22) dX4_stand_22 rfl (by decide) (by decide) (⟨rfl, rfl⟩)

set_option maxHeartbeats 4000000 in
set_option maxRecDepth 100000 in
theorem sp_pass_sc {n : NS} {p : Nat → Int32} {o : OS} {y : RS} {la sc : WS} {wy : YS} {ch : KS} {ko : Nat → Option Nat} {rest : AH} (e : Int32) : AS mX4_pass 1 0 0 [.ref 14, .int e] (CH n p o y la sc wy ch ko ++ rest) (P1 (bI (psOk n sc e)) (CH n p o y la (psW n sc e) wy ch ko ++ rest)) := by
  refine AS.go (lv := [some (.ref 14), some (.int e), none]) rfl ?_ (by decide +kernel) rfl (Nat.le_of_ble_eq_true rfl)
  refine A_aload0 (pc := 0) dX4_pass_0 ?_
  refine A_getf (pc := 1) flX4_33 dX4_pass_1 rfl rfl ?_
  refine A_aload0 (pc := 4) dX4_pass_4 ?_
  refine A_getf (pc := 5) flX4_9 dX4_pass_5 rfl rfl ?_
  refine A_iload1 (pc := 8) dX4_pass_8 ?_
  refine A_cvi (pc := 9) cvX4_82 (sp_across (kn := n.1) (sk := n.2.1) (ac := n.2.2.2.1) rfl rfl _ _) dX4_pass_9 rfl rfl rfl rfl (Nat.le_of_ble_eq_true rfl) (by decide) (by decide) (by decide) ?_
  refine A_istore2 (pc := 12) dX4_pass_12 (by decide) ?_
  refine A_iload2 (pc := 13) dX4_pass_13 ?_
  refine A_iconst (pc := 14) (v := -1) dX4_pass_14 (by decide) ?_
  refine A_icmp_eq (pc := 15) (tgt := 27) dX4_pass_15 (by decide) (fun c15 => ?_) (fun c15 => ?_)
  · refine A_iconst (pc := 27) (v := 0) dX4_pass_27 (by decide) ?_
    exact A_iret (pc := 28) dX4_pass_28 rfl rfl (by decide) (by decide) (⟨by simp [psOk, *, bI], by unfold psW; rw [if_neg (by simp [psOk, *])]⟩)
  · refine A_aload0 (pc := 18) dX4_pass_18 ?_
    refine A_getf (pc := 19) flX4_21 dX4_pass_19 rfl rfl ?_
    refine A_bipush (pc := 22) (v := 30) dX4_pass_22 (by decide) ?_
    refine A_icmp_lt (pc := 24) (tgt := 29) dX4_pass_24 (by decide) (fun c24 => ?_) (fun c24 => ?_)
    · refine A_aload0 (pc := 29) dX4_pass_29 ?_
      refine A_getf (pc := 30) flX4_29 dX4_pass_30 rfl rfl ?_
      refine A_iload1 (pc := 33) dX4_pass_33 ?_
      refine A_cvi (pc := 34) cvX4_87 (sp_add (r := 15) (a := 16) (cap := 200) rfl rfl (by decide) e) dX4_pass_34 rfl rfl rfl rfl (Nat.le_of_ble_eq_true rfl) (by decide) (by decide) (by decide) ?_
      refine AW.heq (hp' := CH n p o y la ((sc.1, sc.2.1, sc.2.2.1, sc.2.2.2.1, adZ 200 sc.2.2.2.2.1, adF 200 sc.2.2.2.2.1 sc.2.2.2.2.2 e)) wy ch ko ++ rest) rfl ?_
      refine A_pop (pc := 37) dX4_pass_37 rfl ?_
      refine A_aload0 (pc := 38) dX4_pass_38 ?_
      refine A_dup (pc := 39) dX4_pass_39 rfl ?_
      refine A_getf (pc := 40) flX4_18 dX4_pass_40 rfl rfl ?_
      refine A_iconst (pc := 43) (v := 1) dX4_pass_43 (by decide) ?_
      refine A_iadd (pc := 44) dX4_pass_44 ?_
      refine A_putf (pc := 45) flX4_18 ft4_3 dX4_pass_45 rfl (Nat.le_of_ble_eq_true rfl) (fun _ => ⟨rfl, rfl⟩) ?_
      refine A_aload0 (pc := 48) dX4_pass_48 ?_
      refine A_dup (pc := 49) dX4_pass_49 rfl ?_
      refine A_getf (pc := 50) flX4_21 dX4_pass_50 rfl rfl ?_
      refine A_iconst (pc := 53) (v := 1) dX4_pass_53 (by decide) ?_
      refine A_iadd (pc := 54) dX4_pass_54 ?_
      refine A_putf (pc := 55) flX4_21 ft4_4 dX4_pass_55 rfl (Nat.le_of_ble_eq_true rfl) (fun _ => ⟨rfl, rfl⟩) ?_
      refine A_aload0 (pc := 58) dX4_pass_58 ?_
      refine A_iload2 (pc := 59) dX4_pass_59 ?_
      refine A_csi (pc := 60) csX4_90 (sp_knotOf _) dX4_pass_60 rfl rfl (Nat.le_of_ble_eq_true rfl) (by decide) (by decide) (by decide) ?_
      refine A_putf (pc := 63) flX4_9 ft4_1 dX4_pass_63 rfl (Nat.le_of_ble_eq_true rfl) (fun _ => ⟨rfl, rfl⟩) ?_
      refine A_aload0 (pc := 66) dX4_pass_66 ?_
      refine A_iload2 (pc := 67) dX4_pass_67 ?_
      refine A_csi (pc := 68) csX4_93 (sp_facingFrom _) dX4_pass_68 rfl rfl (Nat.le_of_ble_eq_true rfl) (by decide) (by decide) (by decide) ?_
      refine A_putf (pc := 71) flX4_15 ft4_2 dX4_pass_71 rfl (Nat.le_of_ble_eq_true rfl) (fun _ => ⟨rfl, rfl⟩) ?_
      refine A_iconst (pc := 74) (v := 1) dX4_pass_74 (by decide) ?_
      exact A_iret (pc := 75) dX4_pass_75 rfl rfl (by decide) (by decide) (⟨by simp [psOk, *, bI], by unfold psW; rw [if_pos (by simp [psOk, *])]; rfl⟩)
    · refine A_iconst (pc := 27) (v := 0) dX4_pass_27 (by decide) ?_
      exact A_iret (pc := 28) dX4_pass_28 rfl rfl (by decide) (by decide) (⟨by simp [psOk, *, bI], by unfold psW; rw [if_neg (by simp [psOk, *])]⟩)

set_option maxHeartbeats 4000000 in
set_option maxRecDepth 100000 in
theorem sp_hasStreet_sc {n : NS} {p : Nat → Int32} {o : OS} {y : RS} {la sc : WS} {wy : YS} {ch : KS} {ko : Nat → Option Nat} {rest : AH} (e : Int32) : AS mX4_hasStreet 1 0 0 [.ref 14, .int e] (CH n p o y la sc wy ch ko ++ rest) (P1 (bI (hsI n sc e)) (CH n p o y la sc wy ch ko ++ rest)) := by
  refine AS.go (lv := [some (.ref 14), some (.int e)]) rfl ?_ (by decide +kernel) rfl (Nat.le_of_ble_eq_true rfl)
  refine A_aload0 (pc := 0) dX4_hasStreet_0 ?_
  refine A_getf (pc := 1) flX4_33 dX4_hasStreet_1 rfl rfl ?_
  refine A_aload0 (pc := 4) dX4_hasStreet_4 ?_
  refine A_getf (pc := 5) flX4_9 dX4_hasStreet_5 rfl rfl ?_
  refine A_iload1 (pc := 8) dX4_hasStreet_8 ?_
  refine A_cvi (pc := 9) cvX4_82 (sp_across (kn := n.1) (sk := n.2.1) (ac := n.2.2.2.1) rfl rfl _ _) dX4_hasStreet_9 rfl rfl rfl rfl (Nat.le_of_ble_eq_true rfl) (by decide) (by decide) (by decide) ?_
  refine A_iconst (pc := 12) (v := -1) dX4_hasStreet_12 (by decide) ?_
  refine A_icmp_eq (pc := 13) (tgt := 20) dX4_hasStreet_13 (by decide) (fun c13 => ?_) (fun c13 => ?_)
  · refine A_iconst (pc := 20) (v := 0) dX4_hasStreet_20 (by decide) ?_
    exact A_iret (pc := 21) dX4_hasStreet_21 rfl rfl (by decide) (by decide) (⟨by simp [hsI, *, bI], rfl⟩)
  · refine A_iconst (pc := 16) (v := 1) dX4_hasStreet_16 (by decide) ?_
    refine A_goto (pc := 17) (tgt := 21) dX4_hasStreet_17 (by decide) ?_
    exact A_iret (pc := 21) dX4_hasStreet_21 rfl rfl (by decide) (by decide) (⟨by simp [hsI, *, bI], rfl⟩)

set_option maxHeartbeats 4000000 in
set_option maxRecDepth 100000 in
theorem lp_turn_sc {n : NS} {p : Nat → Int32} {o : OS} {y : RS} {la : WS} {wy : YS} {ch : KS} {ko : Nat → Option Nat} {rest : AH} (side number : Int32) (m : Nat) : ∀ (i : Nat) (met : Int32) (sc : WS) (_ : i + m = 31) (x5 : Option Value), AW mX4_turnAtNth 2 0 0 0 0 5 [some (.ref 14), some (.int side), some (.int number), some (.int met), some (.int (nI i)), x5] [] (CH n p o y la sc wy ch ko ++ rest) (P1 (bI (tnL n side number m met sc).1) (CH n p o y la ((tnL n side number m met sc).2) wy ch ko ++ rest)) := by
  induction m with
  | zero =>
    intro i met sc hi x5
    refine A_iload4 (pc := 5) dX4_turnAtNth_5 ?_
    refine A_bipush (pc := 7) (v := 30) dX4_turnAtNth_7 (by decide) ?_
    refine A_icmp_gt (pc := 9) (tgt := 65) dX4_turnAtNth_9 (by decide) (fun c9 => ?_) (fun c9 => absurd (show nI 30 < nI i from nI_lt (by omega) (by omega)) c9)
    refine A_iconst (pc := 65) (v := 0) dX4_turnAtNth_65 (by decide) ?_
    exact A_iret (pc := 66) dX4_turnAtNth_66 rfl rfl (by decide) (by decide) (⟨rfl, rfl⟩)
  | succ m ih =>
    intro i met sc hi x5
    refine A_iload4 (pc := 5) dX4_turnAtNth_5 ?_
    refine A_bipush (pc := 7) (v := 30) dX4_turnAtNth_7 (by decide) ?_
    refine A_icmp_gt (pc := 9) (tgt := 65) dX4_turnAtNth_9 (by decide) (fun c9 => absurd c9 (show ¬ nI 30 < nI i from nI_nlt (by omega) (by omega))) (fun c9 => ?_)
    refine A_aload0 (pc := 12) dX4_turnAtNth_12 ?_
    refine A_getf (pc := 13) flX4_15 dX4_turnAtNth_13 rfl rfl ?_
    refine A_iload1 (pc := 16) dX4_turnAtNth_16 ?_
    refine A_csi (pc := 17) csX4_61 (sp_turned _ _) dX4_turnAtNth_17 rfl rfl (Nat.le_of_ble_eq_true rfl) (by decide) (by decide) (by decide) ?_
    refine A_istore5 (pc := 20) dX4_turnAtNth_20 (by decide) ?_
    refine A_aload0 (pc := 22) dX4_turnAtNth_22 ?_
    refine A_iload5 (pc := 23) dX4_turnAtNth_23 ?_
    refine A_cvi (pc := 25) cvX4_96 (sp_hasStreet_sc _) dX4_turnAtNth_25 rfl rfl rfl rfl (Nat.le_of_ble_eq_true rfl) (by decide) (by decide) (by decide) ?_
    refine A_if_eq (pc := 28) (tgt := 34) dX4_turnAtNth_28 (by decide) (fun c28 => ?_) (fun c28 => ?_)
    · replace c28 := (bI_eq _).mp c28
      refine A_iload3 (pc := 34) dX4_turnAtNth_34 ?_
      refine A_iload2 (pc := 35) dX4_turnAtNth_35 ?_
      refine A_icmp_lt (pc := 36) (tgt := 46) dX4_turnAtNth_36 (by decide) (fun c36 => ?_) (fun c36 => ?_)
      · refine A_aload0 (pc := 46) dX4_turnAtNth_46 ?_
        refine A_aload0 (pc := 47) dX4_turnAtNth_47 ?_
        refine A_getf (pc := 48) flX4_15 dX4_turnAtNth_48 rfl rfl ?_
        refine A_cvi (pc := 51) cvX4_65 (sp_pass_sc _) dX4_turnAtNth_51 rfl rfl rfl rfl (Nat.le_of_ble_eq_true rfl) (by decide) (by decide) (by decide) ?_
        refine A_if_ne (pc := 54) (tgt := 59) dX4_turnAtNth_54 (by decide) (fun c54 => ?_) (fun c54 => ?_)
        · replace c54 := (bI_ne _).mp c54
          refine A_iinc4 (pc := 59) dX4_turnAtNth_59 (by decide) (nI_1 i) ?_
          refine A_goto (pc := 62) (tgt := 5) dX4_turnAtNth_62 (by decide) ?_
          simp only [tnL, *, if_true, if_false, Bool.false_eq_true]
          exact ih (i + 1) _ _ (by omega) _
        · replace c54 := (bI_eq _).mp c54
          refine A_iconst (pc := 57) (v := 0) dX4_turnAtNth_57 (by decide) ?_
          exact A_iret (pc := 58) dX4_turnAtNth_58 rfl rfl (by decide) (by decide) (⟨by simp [tnL, *, bI], by simp [tnL, *]⟩)
      · refine A_aload0 (pc := 39) dX4_turnAtNth_39 ?_
        refine A_iload5 (pc := 40) dX4_turnAtNth_40 ?_
        refine A_cvi (pc := 42) cvX4_65 (sp_pass_sc _) dX4_turnAtNth_42 rfl rfl rfl rfl (Nat.le_of_ble_eq_true rfl) (by decide) (by decide) (by decide) ?_
        exact A_iret (pc := 45) dX4_turnAtNth_45 rfl (bI_n _) (by decide) (by decide) (⟨by simp [tnL, *, bI], by simp [tnL, *]⟩)
    · replace c28 := (bI_ne _).mp c28
      refine A_iinc3 (pc := 31) (v := _ + 1) dX4_turnAtNth_31 (by decide) rfl ?_
      refine A_iload3 (pc := 34) dX4_turnAtNth_34 ?_
      refine A_iload2 (pc := 35) dX4_turnAtNth_35 ?_
      refine A_icmp_lt (pc := 36) (tgt := 46) dX4_turnAtNth_36 (by decide) (fun c36 => ?_) (fun c36 => ?_)
      · refine A_aload0 (pc := 46) dX4_turnAtNth_46 ?_
        refine A_aload0 (pc := 47) dX4_turnAtNth_47 ?_
        refine A_getf (pc := 48) flX4_15 dX4_turnAtNth_48 rfl rfl ?_
        refine A_cvi (pc := 51) cvX4_65 (sp_pass_sc _) dX4_turnAtNth_51 rfl rfl rfl rfl (Nat.le_of_ble_eq_true rfl) (by decide) (by decide) (by decide) ?_
        refine A_if_ne (pc := 54) (tgt := 59) dX4_turnAtNth_54 (by decide) (fun c54 => ?_) (fun c54 => ?_)
        · replace c54 := (bI_ne _).mp c54
          refine A_iinc4 (pc := 59) dX4_turnAtNth_59 (by decide) (nI_1 i) ?_
          refine A_goto (pc := 62) (tgt := 5) dX4_turnAtNth_62 (by decide) ?_
          simp only [tnL, *, if_true, if_false, Bool.false_eq_true]
          exact ih (i + 1) _ _ (by omega) _
        · replace c54 := (bI_eq _).mp c54
          refine A_iconst (pc := 57) (v := 0) dX4_turnAtNth_57 (by decide) ?_
          exact A_iret (pc := 58) dX4_turnAtNth_58 rfl rfl (by decide) (by decide) (⟨by simp [tnL, *, bI], by simp [tnL, *]⟩)
      · refine A_aload0 (pc := 39) dX4_turnAtNth_39 ?_
        refine A_iload5 (pc := 40) dX4_turnAtNth_40 ?_
        refine A_cvi (pc := 42) cvX4_65 (sp_pass_sc _) dX4_turnAtNth_42 rfl rfl rfl rfl (Nat.le_of_ble_eq_true rfl) (by decide) (by decide) (by decide) ?_
        exact A_iret (pc := 45) dX4_turnAtNth_45 rfl (bI_n _) (by decide) (by decide) (⟨by simp [tnL, *, bI], by simp [tnL, *]⟩)

set_option maxHeartbeats 4000000 in
set_option maxRecDepth 100000 in
theorem sp_turnAtNth_sc {n : NS} {p : Nat → Int32} {o : OS} {y : RS} {la sc : WS} {wy : YS} {ch : KS} {ko : Nat → Option Nat} {rest : AH} (side number : Int32) : AS mX4_turnAtNth 2 0 0 [.ref 14, .int side, .int number] (CH n p o y la sc wy ch ko ++ rest) (P1 (bI (tnL n side number 31 0 sc).1) (CH n p o y la ((tnL n side number 31 0 sc).2) wy ch ko ++ rest)) := by
  refine AS.go (lv := [some (.ref 14), some (.int side), some (.int number), none, none, none]) rfl ?_ (by decide +kernel) rfl (Nat.le_of_ble_eq_true rfl)
  refine A_iconst (pc := 0) (v := 0) dX4_turnAtNth_0 (by decide) ?_
  refine A_istore3 (pc := 1) dX4_turnAtNth_1 (by decide) ?_
  refine A_iconst (pc := 2) (v := 0) dX4_turnAtNth_2 (by decide) ?_
  refine A_istore4 (pc := 3) dX4_turnAtNth_3 (by decide) ?_
  exact lp_turn_sc side number 31 0 0 sc (by omega) none
