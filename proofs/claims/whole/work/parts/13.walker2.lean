/-! the walker: until, to the end, named, follow -/
set_option maxHeartbeats 4000000 in
set_option maxRecDepth 100000 in
theorem lp_until_la {n : NS} {p : Nat → Int32} {o : OS} {y : RS} {sc : WS} {wy : YS} {ch : KS} {ko : Nat → Option Nat} {rest : AH} (s mt : Int32) (m : Nat) : ∀ (i : Nat) (met : Int32) (la : WS) (_ : i + m = 31), AW mX4_passUntil 2 0 0 0 0 5 [some (.ref 11), some (.int s), some (.int mt), some (.int met), some (.int (nI i))] [] (CH n p o y la sc wy ch ko ++ rest) (P1 (bI (puL n s mt m met la).1) (CH n p o y ((puL n s mt m met la).2) sc wy ch ko ++ rest)) := by
  induction m with
  | zero =>
    intro i met la hi
    refine A_iload4 (pc := 5) dX4_passUntil_5 ?_
    refine A_bipush (pc := 7) (v := 30) dX4_passUntil_7 (by decide) ?_
    refine A_icmp_gt (pc := 9) (tgt := 56) dX4_passUntil_9 (by decide) (fun c9 => ?_) (fun c9 => absurd (show nI 30 < nI i from nI_lt (by omega) (by omega)) c9)
    refine A_iconst (pc := 56) (v := 0) dX4_passUntil_56 (by decide) ?_
    exact A_iret (pc := 57) dX4_passUntil_57 rfl rfl (by decide) (by decide) (⟨rfl, rfl⟩)
  | succ m ih =>
    intro i met la hi
    refine A_iload4 (pc := 5) dX4_passUntil_5 ?_
    refine A_bipush (pc := 7) (v := 30) dX4_passUntil_7 (by decide) ?_
    refine A_icmp_gt (pc := 9) (tgt := 56) dX4_passUntil_9 (by decide) (fun c9 => absurd c9 (show ¬ nI 30 < nI i from nI_nlt (by omega) (by omega))) (fun c9 => ?_)
    refine A_aload0 (pc := 12) dX4_passUntil_12 ?_
    refine A_aload0 (pc := 13) dX4_passUntil_13 ?_
    refine A_getf (pc := 14) flX4_15 dX4_passUntil_14 rfl rfl ?_
    refine A_cvi (pc := 17) cvX4_65 (sp_pass_la _) dX4_passUntil_17 rfl rfl rfl rfl (Nat.le_of_ble_eq_true rfl) (by decide) (by decide) (by decide) ?_
    refine A_if_ne (pc := 20) (tgt := 25) dX4_passUntil_20 (by decide) (fun c20 => ?_) (fun c20 => ?_)
    · replace c20 := (bI_ne _).mp c20
      refine A_aload0 (pc := 25) dX4_passUntil_25 ?_
      refine A_getf (pc := 26) flX4_33 dX4_passUntil_26 rfl rfl ?_
      refine A_aload0 (pc := 29) dX4_passUntil_29 ?_
      refine A_getf (pc := 30) flX4_9 dX4_passUntil_30 rfl rfl ?_
      refine A_cvi (pc := 33) cvX4_99 (sp_sightOf (kn := n.1) (sk := n.2.1) (sg := n.2.2.1) rfl rfl _) dX4_passUntil_33 rfl rfl rfl rfl (Nat.le_of_ble_eq_true rfl) (by decide) (by decide) (by decide) ?_
      refine A_iload1 (pc := 36) dX4_passUntil_36 ?_
      refine A_icmp_ne (pc := 37) (tgt := 43) dX4_passUntil_37 (by decide) (fun c37 => ?_) (fun c37 => ?_)
      · refine A_iload3 (pc := 43) dX4_passUntil_43 ?_
        refine A_iload2 (pc := 44) dX4_passUntil_44 ?_
        refine A_icmp_lt (pc := 45) (tgt := 50) dX4_passUntil_45 (by decide) (fun c45 => ?_) (fun c45 => ?_)
        · refine A_iinc4 (pc := 50) dX4_passUntil_50 (by decide) (nI_1 i) ?_
          refine A_goto (pc := 53) (tgt := 5) dX4_passUntil_53 (by decide) ?_
          simp only [puL, *, if_true, if_false, Bool.false_eq_true]
          exact ih (i + 1) _ _ (by omega)
        · refine A_iconst (pc := 48) (v := 1) dX4_passUntil_48 (by decide) ?_
          exact A_iret (pc := 49) dX4_passUntil_49 rfl rfl (by decide) (by decide) (⟨by simp [puL, *, bI], by simp [puL, *]⟩)
      · refine A_iinc3 (pc := 40) (v := _ + 1) dX4_passUntil_40 (by decide) rfl ?_
        refine A_iload3 (pc := 43) dX4_passUntil_43 ?_
        refine A_iload2 (pc := 44) dX4_passUntil_44 ?_
        refine A_icmp_lt (pc := 45) (tgt := 50) dX4_passUntil_45 (by decide) (fun c45 => ?_) (fun c45 => ?_)
        · refine A_iinc4 (pc := 50) dX4_passUntil_50 (by decide) (nI_1 i) ?_
          refine A_goto (pc := 53) (tgt := 5) dX4_passUntil_53 (by decide) ?_
          simp only [puL, *, if_true, if_false, Bool.false_eq_true]
          exact ih (i + 1) _ _ (by omega)
        · refine A_iconst (pc := 48) (v := 1) dX4_passUntil_48 (by decide) ?_
          exact A_iret (pc := 49) dX4_passUntil_49 rfl rfl (by decide) (by decide) (⟨by simp [puL, *, bI], by simp [puL, *]⟩)
    · replace c20 := (bI_eq _).mp c20
      refine A_iconst (pc := 23) (v := 0) dX4_passUntil_23 (by decide) ?_
      exact A_iret (pc := 24) dX4_passUntil_24 rfl rfl (by decide) (by decide) (⟨by simp [puL, *, bI], by simp [puL, *]⟩)

set_option maxHeartbeats 4000000 in
set_option maxRecDepth 100000 in
theorem sp_passUntil_la {n : NS} {p : Nat → Int32} {o : OS} {y : RS} {la sc : WS} {wy : YS} {ch : KS} {ko : Nat → Option Nat} {rest : AH} (s mt : Int32) : AS mX4_passUntil 2 0 0 [.ref 11, .int s, .int mt] (CH n p o y la sc wy ch ko ++ rest) (P1 (bI (puL n s mt 31 0 la).1) (CH n p o y ((puL n s mt 31 0 la).2) sc wy ch ko ++ rest)) := by
  refine AS.go (lv := [some (.ref 11), some (.int s), some (.int mt), none, none]) rfl ?_ (by decide +kernel) rfl (Nat.le_of_ble_eq_true rfl)
  refine A_iconst (pc := 0) (v := 0) dX4_passUntil_0 (by decide) ?_
  refine A_istore3 (pc := 1) dX4_passUntil_1 (by decide) ?_
  refine A_iconst (pc := 2) (v := 0) dX4_passUntil_2 (by decide) ?_
  refine A_istore4 (pc := 3) dX4_passUntil_3 (by decide) ?_
  exact lp_until_la s mt 31 0 0 la (by omega)

set_option maxHeartbeats 4000000 in
set_option maxRecDepth 100000 in
theorem lp_end_la {n : NS} {p : Nat → Int32} {o : OS} {y : RS} {sc : WS} {wy : YS} {ch : KS} {ko : Nat → Option Nat} {rest : AH}  (m : Nat) : ∀ (i : Nat) (la : WS) (_ : i + m = 31), AW mX4_passToTheEnd 2 0 0 0 0 2 [some (.ref 11), some (.int (nI i))] [] (CH n p o y la sc wy ch ko ++ rest) (P1 (bI (peL n m la).1) (CH n p o y ((peL n m la).2) sc wy ch ko ++ rest)) := by
  induction m with
  | zero =>
    intro i la hi
    refine A_iload1 (pc := 2) dX4_passToTheEnd_2 ?_
    refine A_bipush (pc := 3) (v := 30) dX4_passToTheEnd_3 (by decide) ?_
    refine A_icmp_gt (pc := 5) (tgt := 40) dX4_passToTheEnd_5 (by decide) (fun c5 => ?_) (fun c5 => absurd (show nI 30 < nI i from nI_lt (by omega) (by omega)) c5)
    refine A_iconst (pc := 40) (v := 0) dX4_passToTheEnd_40 (by decide) ?_
    exact A_iret (pc := 41) dX4_passToTheEnd_41 rfl rfl (by decide) (by decide) (⟨rfl, rfl⟩)
  | succ m ih =>
    intro i la hi
    refine A_iload1 (pc := 2) dX4_passToTheEnd_2 ?_
    refine A_bipush (pc := 3) (v := 30) dX4_passToTheEnd_3 (by decide) ?_
    refine A_icmp_gt (pc := 5) (tgt := 40) dX4_passToTheEnd_5 (by decide) (fun c5 => absurd c5 (show ¬ nI 30 < nI i from nI_nlt (by omega) (by omega))) (fun c5 => ?_)
    refine A_aload0 (pc := 8) dX4_passToTheEnd_8 ?_
    refine A_aload0 (pc := 9) dX4_passToTheEnd_9 ?_
    refine A_getf (pc := 10) flX4_15 dX4_passToTheEnd_10 rfl rfl ?_
    refine A_cvi (pc := 13) cvX4_65 (sp_pass_la _) dX4_passToTheEnd_13 rfl rfl rfl rfl (Nat.le_of_ble_eq_true rfl) (by decide) (by decide) (by decide) ?_
    refine A_if_ne (pc := 16) (tgt := 21) dX4_passToTheEnd_16 (by decide) (fun c16 => ?_) (fun c16 => ?_)
    · replace c16 := (bI_ne _).mp c16
      refine A_aload0 (pc := 21) dX4_passToTheEnd_21 ?_
      refine A_aload0 (pc := 22) dX4_passToTheEnd_22 ?_
      refine A_getf (pc := 23) flX4_15 dX4_passToTheEnd_23 rfl rfl ?_
      refine A_cvi (pc := 26) cvX4_96 (sp_hasStreet_la _) dX4_passToTheEnd_26 rfl rfl rfl rfl (Nat.le_of_ble_eq_true rfl) (by decide) (by decide) (by decide) ?_
      refine A_if_ne (pc := 29) (tgt := 34) dX4_passToTheEnd_29 (by decide) (fun c29 => ?_) (fun c29 => ?_)
      · replace c29 := (bI_ne _).mp c29
        refine A_iinc1 (pc := 34) dX4_passToTheEnd_34 (by decide) (nI_1 i) ?_
        refine A_goto (pc := 37) (tgt := 2) dX4_passToTheEnd_37 (by decide) ?_
        simp only [peL, *, if_true, if_false, Bool.false_eq_true]
        exact ih (i + 1) _ (by omega)
      · replace c29 := (bI_eq _).mp c29
        refine A_iconst (pc := 32) (v := 1) dX4_passToTheEnd_32 (by decide) ?_
        exact A_iret (pc := 33) dX4_passToTheEnd_33 rfl rfl (by decide) (by decide) (⟨by simp [peL, *, bI], by simp [peL, *]⟩)
    · replace c16 := (bI_eq _).mp c16
      refine A_iconst (pc := 19) (v := 0) dX4_passToTheEnd_19 (by decide) ?_
      exact A_iret (pc := 20) dX4_passToTheEnd_20 rfl rfl (by decide) (by decide) (⟨by simp [peL, *, bI], by simp [peL, *]⟩)

set_option maxHeartbeats 4000000 in
set_option maxRecDepth 100000 in
theorem sp_passToTheEnd_la {n : NS} {p : Nat → Int32} {o : OS} {y : RS} {la sc : WS} {wy : YS} {ch : KS} {ko : Nat → Option Nat} {rest : AH}  : AS mX4_passToTheEnd 2 0 0 [.ref 11] (CH n p o y la sc wy ch ko ++ rest) (P1 (bI (peL n 31 la).1) (CH n p o y ((peL n 31 la).2) sc wy ch ko ++ rest)) := by
  refine AS.go (lv := [some (.ref 11), none]) rfl ?_ (by decide +kernel) rfl (Nat.le_of_ble_eq_true rfl)
  refine A_iconst (pc := 0) (v := 0) dX4_passToTheEnd_0 (by decide) ?_
  refine A_istore1 (pc := 1) dX4_passToTheEnd_1 (by decide) ?_
  exact lp_end_la 31 0 la (by omega)

set_option maxHeartbeats 4000000 in
set_option maxRecDepth 100000 in
theorem lp_named_la {n : NS} {p : Nat → Int32} {o : OS} {y : RS} {la sc : WS} {wy : YS} {ch : KS} {ko : Nat → Option Nat} {rest : AH} (name : Int32) (m : Nat) : ∀ (i : Nat) (f : Int32) (_ : i + m = 4) (x4 : Option Value), AW mX4_passNamed 2 0 0 0 0 4 [some (.ref 11), some (.int name), some (.int f), some (.int (nI i)), x4] [] (CH n p o y la sc wy ch ko ++ rest) (P1 (bI (pnL n la name m i f).1) (CH n p o y ((pnL n la name m i f).2) sc wy ch ko ++ rest)) := by
  induction m with
  | zero =>
    intro i f hi x4
    refine A_iload3 (pc := 4) dX4_passNamed_4 ?_
    refine A_iconst (pc := 5) (v := 4) dX4_passNamed_5 (by decide) ?_
    refine A_icmp_ge (pc := 6) (tgt := 66) dX4_passNamed_6 (by decide) (fun c6 => ?_) (fun c6 => absurd (show nI 4 ≤ nI i from nI_le (by omega) (by omega)) c6)
    refine A_aload0 (pc := 66) dX4_passNamed_66 ?_
    refine A_iload2 (pc := 67) dX4_passNamed_67 ?_
    refine A_cvi (pc := 68) cvX4_65 (sp_pass_la _) dX4_passNamed_68 rfl rfl rfl rfl (Nat.le_of_ble_eq_true rfl) (by decide) (by decide) (by decide) ?_
    exact A_iret (pc := 71) dX4_passNamed_71 rfl (bI_n _) (by decide) (by decide) (⟨rfl, rfl⟩)
  | succ m ih =>
    intro i f hi x4
    refine A_iload3 (pc := 4) dX4_passNamed_4 ?_
    refine A_iconst (pc := 5) (v := 4) dX4_passNamed_5 (by decide) ?_
    refine A_icmp_ge (pc := 6) (tgt := 66) dX4_passNamed_6 (by decide) (fun c6 => absurd c6 (show ¬ nI 4 ≤ nI i from nI_ge (by omega) (by omega))) (fun c6 => ?_)
    refine A_aload0 (pc := 9) dX4_passNamed_9 ?_
    refine A_getf (pc := 10) flX4_15 dX4_passNamed_10 rfl rfl ?_
    refine A_iload3 (pc := 13) dX4_passNamed_13 ?_
    refine A_csi (pc := 14) csX4_61 (sp_turned _ _) dX4_passNamed_14 rfl rfl (Nat.le_of_ble_eq_true rfl) (by decide) (by decide) (by decide) ?_
    refine A_istore4 (pc := 17) dX4_passNamed_17 (by decide) ?_
    refine A_iload3 (pc := 19) dX4_passNamed_19 ?_
    refine A_iconst (pc := 20) (v := 2) dX4_passNamed_20 (by decide) ?_
    refine A_icmp_eq (pc := 21) (tgt := 60) dX4_passNamed_21 (by decide) (fun c21 => ?_) (fun c21 => ?_)
    · refine A_iinc3 (pc := 60) dX4_passNamed_60 (by decide) (nI_1 i) ?_
      refine A_goto (pc := 63) (tgt := 4) dX4_passNamed_63 (by decide) ?_
      simp only [pnL, *, if_true, if_false, Bool.false_eq_true]
      exact ih (i + 1) _ (by omega) _
    · refine A_aload0 (pc := 24) dX4_passNamed_24 ?_
      refine A_iload4 (pc := 25) dX4_passNamed_25 ?_
      refine A_cvi (pc := 27) cvX4_96 (sp_hasStreet_la _) dX4_passNamed_27 rfl rfl rfl rfl (Nat.le_of_ble_eq_true rfl) (by decide) (by decide) (by decide) ?_
      refine A_if_eq (pc := 30) (tgt := 60) dX4_passNamed_30 (by decide) (fun c30 => ?_) (fun c30 => ?_)
      · replace c30 := (bI_eq _).mp c30
        refine A_iinc3 (pc := 60) dX4_passNamed_60 (by decide) (nI_1 i) ?_
        refine A_goto (pc := 63) (tgt := 4) dX4_passNamed_63 (by decide) ?_
        simp only [pnL, *, if_true, if_false, Bool.false_eq_true]
        exact ih (i + 1) _ (by omega) _
      · replace c30 := (bI_ne _).mp c30
        refine A_aload0 (pc := 33) dX4_passNamed_33 ?_
        refine A_getf (pc := 34) flX4_33 dX4_passNamed_34 rfl rfl ?_
        refine A_aload0 (pc := 37) dX4_passNamed_37 ?_
        refine A_getf (pc := 38) flX4_9 dX4_passNamed_38 rfl rfl ?_
        refine A_iload4 (pc := 41) dX4_passNamed_41 ?_
        refine A_cvi (pc := 43) cvX4_102 (sp_nameAt (kn := n.1) (sk := n.2.1) (nm := n.2.2.2.2.1) rfl rfl _ _) dX4_passNamed_43 rfl rfl rfl rfl (Nat.le_of_ble_eq_true rfl) (by decide) (by decide) (by decide) ?_
        refine A_iload1 (pc := 46) dX4_passNamed_46 ?_
        refine A_icmp_ne (pc := 47) (tgt := 60) dX4_passNamed_47 (by decide) (fun c47 => ?_) (fun c47 => ?_)
        · refine A_iinc3 (pc := 60) dX4_passNamed_60 (by decide) (nI_1 i) ?_
          refine A_goto (pc := 63) (tgt := 4) dX4_passNamed_63 (by decide) ?_
          simp only [pnL, *, if_true, if_false, Bool.false_eq_true]
          exact ih (i + 1) _ (by omega) _
        · refine A_iload2 (pc := 50) dX4_passNamed_50 ?_
          refine A_iconst (pc := 51) (v := -1) dX4_passNamed_51 (by decide) ?_
          refine A_icmp_eq (pc := 52) (tgt := 57) dX4_passNamed_52 (by decide) (fun c52 => ?_) (fun c52 => ?_)
          · refine A_iload4 (pc := 57) dX4_passNamed_57 ?_
            refine A_istore2 (pc := 59) dX4_passNamed_59 (by decide) ?_
            refine A_iinc3 (pc := 60) dX4_passNamed_60 (by decide) (nI_1 i) ?_
            refine A_goto (pc := 63) (tgt := 4) dX4_passNamed_63 (by decide) ?_
            simp only [pnL, *, if_true, if_false, Bool.false_eq_true]
            exact ih (i + 1) _ (by omega) _
          · refine A_iconst (pc := 55) (v := 0) dX4_passNamed_55 (by decide) ?_
            exact A_iret (pc := 56) dX4_passNamed_56 rfl rfl (by decide) (by decide) (⟨by simp [pnL, *, bI], by simp [pnL, *]⟩)

set_option maxHeartbeats 4000000 in
set_option maxRecDepth 100000 in
theorem sp_passNamed_la {n : NS} {p : Nat → Int32} {o : OS} {y : RS} {la sc : WS} {wy : YS} {ch : KS} {ko : Nat → Option Nat} {rest : AH} (name : Int32) : AS mX4_passNamed 2 0 0 [.ref 11, .int name] (CH n p o y la sc wy ch ko ++ rest) (P1 (bI (pnL n la name 4 0 (-1)).1) (CH n p o y ((pnL n la name 4 0 (-1)).2) sc wy ch ko ++ rest)) := by
  refine AS.go (lv := [some (.ref 11), some (.int name), none, none, none]) rfl ?_ (by decide +kernel) rfl (Nat.le_of_ble_eq_true rfl)
  refine A_iconst (pc := 0) (v := -1) dX4_passNamed_0 (by decide) ?_
  refine A_istore2 (pc := 1) dX4_passNamed_1 (by decide) ?_
  refine A_iconst (pc := 2) (v := 0) dX4_passNamed_2 (by decide) ?_
  refine A_istore3 (pc := 3) dX4_passNamed_3 (by decide) ?_
  exact lp_named_la name 4 0 (-1) (by omega) none

set_option maxHeartbeats 4000000 in
set_option maxRecDepth 100000 in
theorem lp_until_sc {n : NS} {p : Nat → Int32} {o : OS} {y : RS} {la : WS} {wy : YS} {ch : KS} {ko : Nat → Option Nat} {rest : AH} (s mt : Int32) (m : Nat) : ∀ (i : Nat) (met : Int32) (sc : WS) (_ : i + m = 31), AW mX4_passUntil 2 0 0 0 0 5 [some (.ref 14), some (.int s), some (.int mt), some (.int met), some (.int (nI i))] [] (CH n p o y la sc wy ch ko ++ rest) (P1 (bI (puL n s mt m met sc).1) (CH n p o y la ((puL n s mt m met sc).2) wy ch ko ++ rest)) := by
  induction m with
  | zero =>
    intro i met sc hi
    refine A_iload4 (pc := 5) dX4_passUntil_5 ?_
    refine A_bipush (pc := 7) (v := 30) dX4_passUntil_7 (by decide) ?_
    refine A_icmp_gt (pc := 9) (tgt := 56) dX4_passUntil_9 (by decide) (fun c9 => ?_) (fun c9 => absurd (show nI 30 < nI i from nI_lt (by omega) (by omega)) c9)
    refine A_iconst (pc := 56) (v := 0) dX4_passUntil_56 (by decide) ?_
    exact A_iret (pc := 57) dX4_passUntil_57 rfl rfl (by decide) (by decide) (⟨rfl, rfl⟩)
  | succ m ih =>
    intro i met sc hi
    refine A_iload4 (pc := 5) dX4_passUntil_5 ?_
    refine A_bipush (pc := 7) (v := 30) dX4_passUntil_7 (by decide) ?_
    refine A_icmp_gt (pc := 9) (tgt := 56) dX4_passUntil_9 (by decide) (fun c9 => absurd c9 (show ¬ nI 30 < nI i from nI_nlt (by omega) (by omega))) (fun c9 => ?_)
    refine A_aload0 (pc := 12) dX4_passUntil_12 ?_
    refine A_aload0 (pc := 13) dX4_passUntil_13 ?_
    refine A_getf (pc := 14) flX4_15 dX4_passUntil_14 rfl rfl ?_
    refine A_cvi (pc := 17) cvX4_65 (sp_pass_sc _) dX4_passUntil_17 rfl rfl rfl rfl (Nat.le_of_ble_eq_true rfl) (by decide) (by decide) (by decide) ?_
    refine A_if_ne (pc := 20) (tgt := 25) dX4_passUntil_20 (by decide) (fun c20 => ?_) (fun c20 => ?_)
    · replace c20 := (bI_ne _).mp c20
      refine A_aload0 (pc := 25) dX4_passUntil_25 ?_
      refine A_getf (pc := 26) flX4_33 dX4_passUntil_26 rfl rfl ?_
      refine A_aload0 (pc := 29) dX4_passUntil_29 ?_
      refine A_getf (pc := 30) flX4_9 dX4_passUntil_30 rfl rfl ?_
      refine A_cvi (pc := 33) cvX4_99 (sp_sightOf (kn := n.1) (sk := n.2.1) (sg := n.2.2.1) rfl rfl _) dX4_passUntil_33 rfl rfl rfl rfl (Nat.le_of_ble_eq_true rfl) (by decide) (by decide) (by decide) ?_
      refine A_iload1 (pc := 36) dX4_passUntil_36 ?_
      refine A_icmp_ne (pc := 37) (tgt := 43) dX4_passUntil_37 (by decide) (fun c37 => ?_) (fun c37 => ?_)
      · refine A_iload3 (pc := 43) dX4_passUntil_43 ?_
        refine A_iload2 (pc := 44) dX4_passUntil_44 ?_
        refine A_icmp_lt (pc := 45) (tgt := 50) dX4_passUntil_45 (by decide) (fun c45 => ?_) (fun c45 => ?_)
        · refine A_iinc4 (pc := 50) dX4_passUntil_50 (by decide) (nI_1 i) ?_
          refine A_goto (pc := 53) (tgt := 5) dX4_passUntil_53 (by decide) ?_
          simp only [puL, *, if_true, if_false, Bool.false_eq_true]
          exact ih (i + 1) _ _ (by omega)
        · refine A_iconst (pc := 48) (v := 1) dX4_passUntil_48 (by decide) ?_
          exact A_iret (pc := 49) dX4_passUntil_49 rfl rfl (by decide) (by decide) (⟨by simp [puL, *, bI], by simp [puL, *]⟩)
      · refine A_iinc3 (pc := 40) (v := _ + 1) dX4_passUntil_40 (by decide) rfl ?_
        refine A_iload3 (pc := 43) dX4_passUntil_43 ?_
        refine A_iload2 (pc := 44) dX4_passUntil_44 ?_
        refine A_icmp_lt (pc := 45) (tgt := 50) dX4_passUntil_45 (by decide) (fun c45 => ?_) (fun c45 => ?_)
        · refine A_iinc4 (pc := 50) dX4_passUntil_50 (by decide) (nI_1 i) ?_
          refine A_goto (pc := 53) (tgt := 5) dX4_passUntil_53 (by decide) ?_
          simp only [puL, *, if_true, if_false, Bool.false_eq_true]
          exact ih (i + 1) _ _ (by omega)
        · refine A_iconst (pc := 48) (v := 1) dX4_passUntil_48 (by decide) ?_
          exact A_iret (pc := 49) dX4_passUntil_49 rfl rfl (by decide) (by decide) (⟨by simp [puL, *, bI], by simp [puL, *]⟩)
    · replace c20 := (bI_eq _).mp c20
      refine A_iconst (pc := 23) (v := 0) dX4_passUntil_23 (by decide) ?_
      exact A_iret (pc := 24) dX4_passUntil_24 rfl rfl (by decide) (by decide) (⟨by simp [puL, *, bI], by simp [puL, *]⟩)

set_option maxHeartbeats 4000000 in
set_option maxRecDepth 100000 in
theorem sp_passUntil_sc {n : NS} {p : Nat → Int32} {o : OS} {y : RS} {la sc : WS} {wy : YS} {ch : KS} {ko : Nat → Option Nat} {rest : AH} (s mt : Int32) : AS mX4_passUntil 2 0 0 [.ref 14, .int s, .int mt] (CH n p o y la sc wy ch ko ++ rest) (P1 (bI (puL n s mt 31 0 sc).1) (CH n p o y la ((puL n s mt 31 0 sc).2) wy ch ko ++ rest)) := by
  refine AS.go (lv := [some (.ref 14), some (.int s), some (.int mt), none, none]) rfl ?_ (by decide +kernel) rfl (Nat.le_of_ble_eq_true rfl)
  refine A_iconst (pc := 0) (v := 0) dX4_passUntil_0 (by decide) ?_
  refine A_istore3 (pc := 1) dX4_passUntil_1 (by decide) ?_
  refine A_iconst (pc := 2) (v := 0) dX4_passUntil_2 (by decide) ?_
  refine A_istore4 (pc := 3) dX4_passUntil_3 (by decide) ?_
  exact lp_until_sc s mt 31 0 0 sc (by omega)

set_option maxHeartbeats 4000000 in
set_option maxRecDepth 100000 in
theorem lp_end_sc {n : NS} {p : Nat → Int32} {o : OS} {y : RS} {la : WS} {wy : YS} {ch : KS} {ko : Nat → Option Nat} {rest : AH}  (m : Nat) : ∀ (i : Nat) (sc : WS) (_ : i + m = 31), AW mX4_passToTheEnd 2 0 0 0 0 2 [some (.ref 14), some (.int (nI i))] [] (CH n p o y la sc wy ch ko ++ rest) (P1 (bI (peL n m sc).1) (CH n p o y la ((peL n m sc).2) wy ch ko ++ rest)) := by
  induction m with
  | zero =>
    intro i sc hi
    refine A_iload1 (pc := 2) dX4_passToTheEnd_2 ?_
    refine A_bipush (pc := 3) (v := 30) dX4_passToTheEnd_3 (by decide) ?_
    refine A_icmp_gt (pc := 5) (tgt := 40) dX4_passToTheEnd_5 (by decide) (fun c5 => ?_) (fun c5 => absurd (show nI 30 < nI i from nI_lt (by omega) (by omega)) c5)
    refine A_iconst (pc := 40) (v := 0) dX4_passToTheEnd_40 (by decide) ?_
    exact A_iret (pc := 41) dX4_passToTheEnd_41 rfl rfl (by decide) (by decide) (⟨rfl, rfl⟩)
  | succ m ih =>
    intro i sc hi
    refine A_iload1 (pc := 2) dX4_passToTheEnd_2 ?_
    refine A_bipush (pc := 3) (v := 30) dX4_passToTheEnd_3 (by decide) ?_
    refine A_icmp_gt (pc := 5) (tgt := 40) dX4_passToTheEnd_5 (by decide) (fun c5 => absurd c5 (show ¬ nI 30 < nI i from nI_nlt (by omega) (by omega))) (fun c5 => ?_)
    refine A_aload0 (pc := 8) dX4_passToTheEnd_8 ?_
    refine A_aload0 (pc := 9) dX4_passToTheEnd_9 ?_
    refine A_getf (pc := 10) flX4_15 dX4_passToTheEnd_10 rfl rfl ?_
    refine A_cvi (pc := 13) cvX4_65 (sp_pass_sc _) dX4_passToTheEnd_13 rfl rfl rfl rfl (Nat.le_of_ble_eq_true rfl) (by decide) (by decide) (by decide) ?_
    refine A_if_ne (pc := 16) (tgt := 21) dX4_passToTheEnd_16 (by decide) (fun c16 => ?_) (fun c16 => ?_)
    · replace c16 := (bI_ne _).mp c16
      refine A_aload0 (pc := 21) dX4_passToTheEnd_21 ?_
      refine A_aload0 (pc := 22) dX4_passToTheEnd_22 ?_
      refine A_getf (pc := 23) flX4_15 dX4_passToTheEnd_23 rfl rfl ?_
      refine A_cvi (pc := 26) cvX4_96 (sp_hasStreet_sc _) dX4_passToTheEnd_26 rfl rfl rfl rfl (Nat.le_of_ble_eq_true rfl) (by decide) (by decide) (by decide) ?_
      refine A_if_ne (pc := 29) (tgt := 34) dX4_passToTheEnd_29 (by decide) (fun c29 => ?_) (fun c29 => ?_)
      · replace c29 := (bI_ne _).mp c29
        refine A_iinc1 (pc := 34) dX4_passToTheEnd_34 (by decide) (nI_1 i) ?_
        refine A_goto (pc := 37) (tgt := 2) dX4_passToTheEnd_37 (by decide) ?_
        simp only [peL, *, if_true, if_false, Bool.false_eq_true]
        exact ih (i + 1) _ (by omega)
      · replace c29 := (bI_eq _).mp c29
        refine A_iconst (pc := 32) (v := 1) dX4_passToTheEnd_32 (by decide) ?_
        exact A_iret (pc := 33) dX4_passToTheEnd_33 rfl rfl (by decide) (by decide) (⟨by simp [peL, *, bI], by simp [peL, *]⟩)
    · replace c16 := (bI_eq _).mp c16
      refine A_iconst (pc := 19) (v := 0) dX4_passToTheEnd_19 (by decide) ?_
      exact A_iret (pc := 20) dX4_passToTheEnd_20 rfl rfl (by decide) (by decide) (⟨by simp [peL, *, bI], by simp [peL, *]⟩)

set_option maxHeartbeats 4000000 in
set_option maxRecDepth 100000 in
theorem sp_passToTheEnd_sc {n : NS} {p : Nat → Int32} {o : OS} {y : RS} {la sc : WS} {wy : YS} {ch : KS} {ko : Nat → Option Nat} {rest : AH}  : AS mX4_passToTheEnd 2 0 0 [.ref 14] (CH n p o y la sc wy ch ko ++ rest) (P1 (bI (peL n 31 sc).1) (CH n p o y la ((peL n 31 sc).2) wy ch ko ++ rest)) := by
  refine AS.go (lv := [some (.ref 14), none]) rfl ?_ (by decide +kernel) rfl (Nat.le_of_ble_eq_true rfl)
  refine A_iconst (pc := 0) (v := 0) dX4_passToTheEnd_0 (by decide) ?_
  refine A_istore1 (pc := 1) dX4_passToTheEnd_1 (by decide) ?_
  exact lp_end_sc 31 0 sc (by omega)

set_option maxHeartbeats 4000000 in
set_option maxRecDepth 100000 in
theorem lp_named_sc {n : NS} {p : Nat → Int32} {o : OS} {y : RS} {la sc : WS} {wy : YS} {ch : KS} {ko : Nat → Option Nat} {rest : AH} (name : Int32) (m : Nat) : ∀ (i : Nat) (f : Int32) (_ : i + m = 4) (x4 : Option Value), AW mX4_passNamed 2 0 0 0 0 4 [some (.ref 14), some (.int name), some (.int f), some (.int (nI i)), x4] [] (CH n p o y la sc wy ch ko ++ rest) (P1 (bI (pnL n sc name m i f).1) (CH n p o y la ((pnL n sc name m i f).2) wy ch ko ++ rest)) := by
  induction m with
  | zero =>
    intro i f hi x4
    refine A_iload3 (pc := 4) dX4_passNamed_4 ?_
    refine A_iconst (pc := 5) (v := 4) dX4_passNamed_5 (by decide) ?_
    refine A_icmp_ge (pc := 6) (tgt := 66) dX4_passNamed_6 (by decide) (fun c6 => ?_) (fun c6 => absurd (show nI 4 ≤ nI i from nI_le (by omega) (by omega)) c6)
    refine A_aload0 (pc := 66) dX4_passNamed_66 ?_
    refine A_iload2 (pc := 67) dX4_passNamed_67 ?_
    refine A_cvi (pc := 68) cvX4_65 (sp_pass_sc _) dX4_passNamed_68 rfl rfl rfl rfl (Nat.le_of_ble_eq_true rfl) (by decide) (by decide) (by decide) ?_
    exact A_iret (pc := 71) dX4_passNamed_71 rfl (bI_n _) (by decide) (by decide) (⟨rfl, rfl⟩)
  | succ m ih =>
    intro i f hi x4
    refine A_iload3 (pc := 4) dX4_passNamed_4 ?_
    refine A_iconst (pc := 5) (v := 4) dX4_passNamed_5 (by decide) ?_
    refine A_icmp_ge (pc := 6) (tgt := 66) dX4_passNamed_6 (by decide) (fun c6 => absurd c6 (show ¬ nI 4 ≤ nI i from nI_ge (by omega) (by omega))) (fun c6 => ?_)
    refine A_aload0 (pc := 9) dX4_passNamed_9 ?_
    refine A_getf (pc := 10) flX4_15 dX4_passNamed_10 rfl rfl ?_
    refine A_iload3 (pc := 13) dX4_passNamed_13 ?_
    refine A_csi (pc := 14) csX4_61 (sp_turned _ _) dX4_passNamed_14 rfl rfl (Nat.le_of_ble_eq_true rfl) (by decide) (by decide) (by decide) ?_
    refine A_istore4 (pc := 17) dX4_passNamed_17 (by decide) ?_
    refine A_iload3 (pc := 19) dX4_passNamed_19 ?_
    refine A_iconst (pc := 20) (v := 2) dX4_passNamed_20 (by decide) ?_
    refine A_icmp_eq (pc := 21) (tgt := 60) dX4_passNamed_21 (by decide) (fun c21 => ?_) (fun c21 => ?_)
    · refine A_iinc3 (pc := 60) dX4_passNamed_60 (by decide) (nI_1 i) ?_
      refine A_goto (pc := 63) (tgt := 4) dX4_passNamed_63 (by decide) ?_
      simp only [pnL, *, if_true, if_false, Bool.false_eq_true]
      exact ih (i + 1) _ (by omega) _
    · refine A_aload0 (pc := 24) dX4_passNamed_24 ?_
      refine A_iload4 (pc := 25) dX4_passNamed_25 ?_
      refine A_cvi (pc := 27) cvX4_96 (sp_hasStreet_sc _) dX4_passNamed_27 rfl rfl rfl rfl (Nat.le_of_ble_eq_true rfl) (by decide) (by decide) (by decide) ?_
      refine A_if_eq (pc := 30) (tgt := 60) dX4_passNamed_30 (by decide) (fun c30 => ?_) (fun c30 => ?_)
      · replace c30 := (bI_eq _).mp c30
        refine A_iinc3 (pc := 60) dX4_passNamed_60 (by decide) (nI_1 i) ?_
        refine A_goto (pc := 63) (tgt := 4) dX4_passNamed_63 (by decide) ?_
        simp only [pnL, *, if_true, if_false, Bool.false_eq_true]
        exact ih (i + 1) _ (by omega) _
      · replace c30 := (bI_ne _).mp c30
        refine A_aload0 (pc := 33) dX4_passNamed_33 ?_
        refine A_getf (pc := 34) flX4_33 dX4_passNamed_34 rfl rfl ?_
        refine A_aload0 (pc := 37) dX4_passNamed_37 ?_
        refine A_getf (pc := 38) flX4_9 dX4_passNamed_38 rfl rfl ?_
        refine A_iload4 (pc := 41) dX4_passNamed_41 ?_
        refine A_cvi (pc := 43) cvX4_102 (sp_nameAt (kn := n.1) (sk := n.2.1) (nm := n.2.2.2.2.1) rfl rfl _ _) dX4_passNamed_43 rfl rfl rfl rfl (Nat.le_of_ble_eq_true rfl) (by decide) (by decide) (by decide) ?_
        refine A_iload1 (pc := 46) dX4_passNamed_46 ?_
        refine A_icmp_ne (pc := 47) (tgt := 60) dX4_passNamed_47 (by decide) (fun c47 => ?_) (fun c47 => ?_)
        · refine A_iinc3 (pc := 60) dX4_passNamed_60 (by decide) (nI_1 i) ?_
          refine A_goto (pc := 63) (tgt := 4) dX4_passNamed_63 (by decide) ?_
          simp only [pnL, *, if_true, if_false, Bool.false_eq_true]
          exact ih (i + 1) _ (by omega) _
        · refine A_iload2 (pc := 50) dX4_passNamed_50 ?_
          refine A_iconst (pc := 51) (v := -1) dX4_passNamed_51 (by decide) ?_
          refine A_icmp_eq (pc := 52) (tgt := 57) dX4_passNamed_52 (by decide) (fun c52 => ?_) (fun c52 => ?_)
          · refine A_iload4 (pc := 57) dX4_passNamed_57 ?_
            refine A_istore2 (pc := 59) dX4_passNamed_59 (by decide) ?_
            refine A_iinc3 (pc := 60) dX4_passNamed_60 (by decide) (nI_1 i) ?_
            refine A_goto (pc := 63) (tgt := 4) dX4_passNamed_63 (by decide) ?_
            simp only [pnL, *, if_true, if_false, Bool.false_eq_true]
            exact ih (i + 1) _ (by omega) _
          · refine A_iconst (pc := 55) (v := 0) dX4_passNamed_55 (by decide) ?_
            exact A_iret (pc := 56) dX4_passNamed_56 rfl rfl (by decide) (by decide) (⟨by simp [pnL, *, bI], by simp [pnL, *]⟩)

set_option maxHeartbeats 4000000 in
set_option maxRecDepth 100000 in
theorem sp_passNamed_sc {n : NS} {p : Nat → Int32} {o : OS} {y : RS} {la sc : WS} {wy : YS} {ch : KS} {ko : Nat → Option Nat} {rest : AH} (name : Int32) : AS mX4_passNamed 2 0 0 [.ref 14, .int name] (CH n p o y la sc wy ch ko ++ rest) (P1 (bI (pnL n sc name 4 0 (-1)).1) (CH n p o y la ((pnL n sc name 4 0 (-1)).2) wy ch ko ++ rest)) := by
  refine AS.go (lv := [some (.ref 14), some (.int name), none, none, none]) rfl ?_ (by decide +kernel) rfl (Nat.le_of_ble_eq_true rfl)
  refine A_iconst (pc := 0) (v := -1) dX4_passNamed_0 (by decide) ?_
  refine A_istore2 (pc := 1) dX4_passNamed_1 (by decide) ?_
  refine A_iconst (pc := 2) (v := 0) dX4_passNamed_2 (by decide) ?_
  refine A_istore3 (pc := 3) dX4_passNamed_3 (by decide) ?_
  exact lp_named_sc name 4 0 (-1) (by omega) none
