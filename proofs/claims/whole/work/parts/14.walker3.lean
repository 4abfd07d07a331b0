/-! the walker: follow, followSlipped, followAll, wentAlong -/
theorem sw_in (x : Int32) (lo hi : Nat) (hh : hi < 2 ^ 31) : (x.toInt < (lo : Int) ∨ (hi : Int) < x.toInt) ∨ ∃ j : Nat, lo ≤ j ∧ j ≤ hi ∧ x = nI j := by
  by_cases h : x < 0
  · have h1 : x.toInt < 0 := by have := (fa_lt x 0).mp h; simpa using this
    exact Or.inl (Or.inl (by omega))
  · obtain ⟨j, hj, rfl⟩ := nI_of h
    rw [nI_toInt hj]
    by_cases h2 : j < lo
    · exact Or.inl (Or.inl (by omega))
    · by_cases h3 : hi < j
      · exact Or.inl (Or.inr (by omega))
      · exact Or.inr ⟨j, by omega, by omega, rfl⟩
section FL
variable {n : NS} {w : WS} {number mt kind : Int32}
theorem flW_4 : flW n w 4 number mt = tnL n 3 number 31 0 (zW w) := by unfold flW; rw [if_pos rfl]
theorem flW_5 : flW n w 5 number mt = tnL n 1 number 31 0 (zW w) := by unfold flW; rw [if_neg (by decide), if_pos rfl]
theorem flW_6 : flW n w 6 number mt = puL n number mt 31 0 (zW w) := by unfold flW; rw [if_neg (by decide), if_neg (by decide), if_pos rfl]
theorem flW_7 : flW n w 7 number mt = pnL n (zW w) number 4 0 (-1) := by unfold flW; rw [if_neg (by decide), if_neg (by decide), if_neg (by decide), if_pos rfl]
theorem flW_8 : flW n w 8 number mt = peL n 31 (zW w) := by unfold flW; rw [if_neg (by decide), if_neg (by decide), if_neg (by decide), if_neg (by decide), if_pos rfl]
theorem flW_lo (h : kind = 0 ∨ kind = 1 ∨ kind = 2 ∨ kind = 3) : flW n w kind number mt = (psOk n (zW w) (remI ((zW w).2.1 + kind)), psW n (zW w) (remI ((zW w).2.1 + kind))) := by
  rcases h with rfl | rfl | rfl | rfl <;> (unfold flW; rw [if_neg (by decide), if_neg (by decide), if_neg (by decide), if_neg (by decide), if_neg (by decide), if_pos (by decide)])
theorem flW_out (h : kind.toInt < ((0 : Nat) : Int) ∨ ((8 : Nat) : Int) < kind.toInt) : flW n w kind number mt = (false, zW w) := by
  have hk : ∀ v : Int32, (0 ≤ v.toInt ∧ v.toInt ≤ 8) → ¬ kind = v := fun v hv e => by subst e; omega
  unfold flW
  rw [if_neg (hk 4 (by decide)), if_neg (hk 5 (by decide)), if_neg (hk 6 (by decide)), if_neg (hk 7 (by decide)), if_neg (hk 8 (by decide)), if_neg]
  intro e
  obtain ⟨e1, e2⟩ := exI_t e
  obtain ⟨j, hj, rfl⟩ := nI_get (by decide) e1 e2
  rw [nI_toInt (by omega)] at h
  omega
theorem fsW_1 : fsW n w 1 number = flW n w 3 number 1 := by unfold fsW; rw [if_pos rfl]
theorem fsW_3 : fsW n w 3 number = flW n w 1 number 1 := by unfold fsW; rw [if_neg (by decide), if_pos rfl]
theorem fsW_4 : fsW n w 4 number = flW n w 4 (number + 1) 1 := by unfold fsW; rw [if_neg (by decide), if_neg (by decide), if_pos rfl]
theorem fsW_5 : fsW n w 5 number = flW n w 5 (number + 1) 1 := by unfold fsW; rw [if_neg (by decide), if_neg (by decide), if_neg (by decide), if_pos rfl]
theorem fsW_2 : fsW n w 2 number = flW n w 2 number 2 := by unfold fsW; rw [if_neg (by decide), if_neg (by decide), if_neg (by decide), if_neg (by decide)]
theorem fsW_out (h : kind.toInt < ((1 : Nat) : Int) ∨ ((5 : Nat) : Int) < kind.toInt) : fsW n w kind number = flW n w kind number 2 := by
  have hk : ∀ v : Int32, (1 ≤ v.toInt ∧ v.toInt ≤ 5) → ¬ kind = v := fun v hv e => by subst e; omega
  unfold fsW
  rw [if_neg (hk 1 (by decide)), if_neg (hk 3 (by decide)), if_neg (hk 4 (by decide)), if_neg (hk 5 (by decide))]
end FL

set_option maxHeartbeats 4000000 in
set_option maxRecDepth 100000 in
theorem lp_went {n : NS} {p : Nat → Int32} {o : OS} {y : RS} {la sc : WS} {wy : YS} {ch : KS} {ko : Nat → Option Nat} {rest : AH} {r q cap st : Nat} {sz : Int32} {g : Nat → Int32} (hr : (CH n p o y la sc wy ch ko ++ rest)[r]? = some (oC 3 [.ref q, .int sz])) (hq : (CH n p o y la sc wy ch ko ++ rest)[q]? = some (aC cap g)) (hcap : cap < 2 ^ 31) (hst : sc.2.2.1 = nI st) (hs : st < 2 ^ 31) (fr : Int32) (m : Nat) : ∀ (i : Nat) (_ : i + m = st), AW mX4_wentAlong 1 0 0 0 0 17 [some (.ref 14), some (.ref r), some (.int fr), some (.int (nI i))] [] (CH n p o y la sc wy ch ko ++ rest) (P1 (bI (waL sc cap sz g fr m i)) (CH n p o y la sc wy ch ko ++ rest)) := by
  induction m with
  | zero =>
    intro i hi
    refine A_iload3 (pc := 17) dX4_wentAlong_17 ?_
    refine A_aload0 (pc := 18) dX4_wentAlong_18 ?_
    refine A_getf (pc := 19) flX4_18 dX4_wentAlong_19 rfl rfl ?_
    refine A_icmp_ge (pc := 22) (tgt := 51) dX4_wentAlong_22 (by decide) (fun c22 => ?_) (fun c22 => absurd (show sc.2.2.1 ≤ nI i from by rw [hst]; exact nI_le (by omega) (by omega)) c22)
    refine A_iconst (pc := 51) (v := 1) dX4_wentAlong_51 (by decide) ?_
    exact A_iret (pc := 52) dX4_wentAlong_52 rfl rfl (by decide) (by decide) (⟨rfl, rfl⟩)
  | succ m ih =>
    intro i hi
    refine A_iload3 (pc := 17) dX4_wentAlong_17 ?_
    refine A_aload0 (pc := 18) dX4_wentAlong_18 ?_
    refine A_getf (pc := 19) flX4_18 dX4_wentAlong_19 rfl rfl ?_
    refine A_icmp_ge (pc := 22) (tgt := 51) dX4_wentAlong_22 (by decide) (fun c22 => absurd c22 (show ¬ sc.2.2.1 ≤ nI i from by rw [hst]; exact nI_ge (by omega) hs)) (fun c22 => ?_)
    refine A_aload0 (pc := 25) dX4_wentAlong_25 ?_
    refine A_getf (pc := 26) flX4_29 dX4_wentAlong_26 rfl rfl ?_
    refine A_iload3 (pc := 29) dX4_wentAlong_29 ?_
    refine A_cvi (pc := 30) cvX4_43 (sp_at (r := 15) (a := 16) (cap := 200) rfl rfl (by decide) _) dX4_wentAlong_30 rfl rfl rfl rfl (Nat.le_of_ble_eq_true rfl) (by decide) (by decide) (by decide) ?_
    refine A_aload1 (pc := 33) dX4_wentAlong_33 ?_
    refine A_iload2 (pc := 34) dX4_wentAlong_34 ?_
    refine A_iload3 (pc := 35) dX4_wentAlong_35 ?_
    refine A_iadd (pc := 36) dX4_wentAlong_36 ?_
    refine A_cvi (pc := 37) cvX4_43 (sp_at (r := r) (a := q) (cap := cap) (sz := sz) (f := g) hr hq hcap _) dX4_wentAlong_37 rfl rfl hr rfl (Nat.le_of_ble_eq_true rfl) (by decide) (by decide) (by decide) ?_
    refine A_icmp_eq (pc := 40) (tgt := 45) dX4_wentAlong_40 (by decide) (fun c40 => ?_) (fun c40 => ?_)
    · refine A_iinc3 (pc := 45) dX4_wentAlong_45 (by decide) (nI_1 i) ?_
      refine A_goto (pc := 48) (tgt := 17) dX4_wentAlong_48 (by decide) ?_
      simp only [waL, c40, if_true, if_false]
      exact ih (i + 1) (by omega)
    · refine A_iconst (pc := 43) (v := 0) dX4_wentAlong_43 (by decide) ?_
      exact A_iret (pc := 44) dX4_wentAlong_44 rfl rfl (by decide) (by decide) (⟨by simp [waL, c40, bI], rfl⟩)

def wnI (w : WS) (cap : Nat) (sz : Int32) (g : Nat → Int32) (fr : Int32) (st : Nat) : Bool := if w.2.2.1 ≤ sz - fr then waL w cap sz g fr st 0 else false
set_option maxHeartbeats 4000000 in
set_option maxRecDepth 100000 in
theorem sp_wentAlong {n : NS} {p : Nat → Int32} {o : OS} {y : RS} {la sc : WS} {wy : YS} {ch : KS} {ko : Nat → Option Nat} {rest : AH} {r q cap st : Nat} {sz : Int32} {g : Nat → Int32} (hr : (CH n p o y la sc wy ch ko ++ rest)[r]? = some (oC 3 [.ref q, .int sz])) (hq : (CH n p o y la sc wy ch ko ++ rest)[q]? = some (aC cap g)) (hcap : cap < 2 ^ 31) (hst : sc.2.2.1 = nI st) (hs : st < 2 ^ 31) (fr : Int32) : AS mX4_wentAlong 1 0 0 [.ref 14, .ref r, .int fr] (CH n p o y la sc wy ch ko ++ rest) (P1 (bI (wnI sc cap sz g fr st)) (CH n p o y la sc wy ch ko ++ rest)) := by
  refine AS.go (lv := [some (.ref 14), some (.ref r), some (.int fr), none]) rfl ?_ (by decide +kernel) rfl (Nat.le_of_ble_eq_true rfl)
  refine A_aload0 (pc := 0) dX4_wentAlong_0 ?_
  refine A_getf (pc := 1) flX4_18 dX4_wentAlong_1 rfl rfl ?_
  refine A_aload1 (pc := 4) dX4_wentAlong_4 ?_
  refine A_getf (pc := 5) flX4_40 dX4_wentAlong_5 hr rfl ?_
  refine A_iload2 (pc := 8) dX4_wentAlong_8 ?_
  refine A_isub (pc := 9) dX4_wentAlong_9 ?_
  refine A_icmp_le (pc := 10) (tgt := 15) dX4_wentAlong_10 (by decide) (fun c10 => ?_) (fun c10 => ?_)
  · refine A_iconst (pc := 15) (v := 0) dX4_wentAlong_15 (by decide) ?_
    refine A_istore3 (pc := 16) dX4_wentAlong_16 (by decide) ?_
    unfold wnI
    rw [if_pos c10]
    exact lp_went hr hq hcap hst hs fr st 0 (by omega)
  · refine A_iconst (pc := 13) (v := 0) dX4_wentAlong_13 (by decide) ?_
    exact A_iret (pc := 14) dX4_wentAlong_14 rfl rfl (by decide) (by decide) (⟨by unfold wnI; rw [if_neg c10]; rfl, rfl⟩)

set_option maxHeartbeats 4000000 in
set_option maxRecDepth 100000 in
theorem sp_follow_la {n : NS} {p : Nat → Int32} {o : OS} {y : RS} {la sc : WS} {wy : YS} {ch : KS} {ko : Nat → Option Nat} {rest : AH} (kind number mt : Int32) : AS mX4_follow 3 0 0 [.ref 11, .int kind, .int number, .int mt] (CH n p o y la sc wy ch ko ++ rest) (P1 (bI (flW n la kind number mt).1) (CH n p o y ((flW n la kind number mt).2) sc wy ch ko ++ rest)) := by
  refine AS.go (lv := [some (.ref 11), some (.int kind), some (.int number), some (.int mt)]) rfl ?_ (by decide +kernel) rfl (Nat.le_of_ble_eq_true rfl)
  refine A_aload0 (pc := 0) dX4_follow_0 ?_
  refine A_iconst (pc := 1) (v := 0) dX4_follow_1 (by decide) ?_
  refine A_putf (pc := 2) flX4_21 ft4_4 dX4_follow_2 rfl (Nat.le_of_ble_eq_true rfl) (fun _ => ⟨rfl, rfl⟩) ?_
  refine AW.heq (hp' := CH n p o y (zW la) sc wy ch ko ++ rest) rfl ?_
  refine A_iload1 (pc := 5) dX4_follow_5 ?_
  rcases sw_in kind 0 8 (by decide) with hsw | ⟨j, hj1, hj2, hsw⟩
  · refine A_tsOut (pc := 6) (tgt := 101) dX4_follow_6 hsw (by decide) ?_
    refine A_iconst (pc := 101) (v := 0) dX4_follow_101 (by decide) ?_
    exact A_iret (pc := 102) dX4_follow_102 rfl rfl (by decide) (by decide) (⟨by rw [flW_out hsw]; rfl, by rw [flW_out hsw]⟩)
  · rcases (show j = 0 ∨ j = 1 ∨ j = 2 ∨ j = 3 ∨ j = 4 ∨ j = 5 ∨ j = 6 ∨ j = 7 ∨ j = 8 by omega) with rfl | rfl | rfl | rfl | rfl | rfl | rfl | rfl | rfl
    · have e9 : kind = 0 := hsw
      subst e9
      refine A_tsIn (pc := 6) (tgt := 56) dX4_follow_6 (by decide) (by decide) rfl (by decide) ?_
      refine A_aload0 (pc := 56) dX4_follow_56 ?_
      refine A_aload0 (pc := 57) dX4_follow_57 ?_
      refine A_getf (pc := 58) flX4_15 dX4_follow_58 rfl rfl ?_
      refine A_iload1 (pc := 61) dX4_follow_61 ?_
      refine A_csi (pc := 62) csX4_61 (sp_turned _ _) dX4_follow_62 rfl rfl (Nat.le_of_ble_eq_true rfl) (by decide) (by decide) (by decide) ?_
      refine A_cvi (pc := 65) cvX4_65 (sp_pass_la _) dX4_follow_65 rfl rfl rfl rfl (Nat.le_of_ble_eq_true rfl) (by decide) (by decide) (by decide) ?_
      exact A_iret (pc := 68) dX4_follow_68 rfl (bI_n _) (by decide) (by decide) (⟨by rw [flW_lo (by decide)], by rw [flW_lo (by decide)]⟩)
    · have e9 : kind = 1 := hsw
      subst e9
      refine A_tsIn (pc := 6) (tgt := 56) dX4_follow_6 (by decide) (by decide) rfl (by decide) ?_
      refine A_aload0 (pc := 56) dX4_follow_56 ?_
      refine A_aload0 (pc := 57) dX4_follow_57 ?_
      refine A_getf (pc := 58) flX4_15 dX4_follow_58 rfl rfl ?_
      refine A_iload1 (pc := 61) dX4_follow_61 ?_
      refine A_csi (pc := 62) csX4_61 (sp_turned _ _) dX4_follow_62 rfl rfl (Nat.le_of_ble_eq_true rfl) (by decide) (by decide) (by decide) ?_
      refine A_cvi (pc := 65) cvX4_65 (sp_pass_la _) dX4_follow_65 rfl rfl rfl rfl (Nat.le_of_ble_eq_true rfl) (by decide) (by decide) (by decide) ?_
      exact A_iret (pc := 68) dX4_follow_68 rfl (bI_n _) (by decide) (by decide) (⟨by rw [flW_lo (by decide)], by rw [flW_lo (by decide)]⟩)
    · have e9 : kind = 2 := hsw
      subst e9
      refine A_tsIn (pc := 6) (tgt := 56) dX4_follow_6 (by decide) (by decide) rfl (by decide) ?_
      refine A_aload0 (pc := 56) dX4_follow_56 ?_
      refine A_aload0 (pc := 57) dX4_follow_57 ?_
      refine A_getf (pc := 58) flX4_15 dX4_follow_58 rfl rfl ?_
      refine A_iload1 (pc := 61) dX4_follow_61 ?_
      refine A_csi (pc := 62) csX4_61 (sp_turned _ _) dX4_follow_62 rfl rfl (Nat.le_of_ble_eq_true rfl) (by decide) (by decide) (by decide) ?_
      refine A_cvi (pc := 65) cvX4_65 (sp_pass_la _) dX4_follow_65 rfl rfl rfl rfl (Nat.le_of_ble_eq_true rfl) (by decide) (by decide) (by decide) ?_
      exact A_iret (pc := 68) dX4_follow_68 rfl (bI_n _) (by decide) (by decide) (⟨by rw [flW_lo (by decide)], by rw [flW_lo (by decide)]⟩)
    · have e9 : kind = 3 := hsw
      subst e9
      refine A_tsIn (pc := 6) (tgt := 56) dX4_follow_6 (by decide) (by decide) rfl (by decide) ?_
      refine A_aload0 (pc := 56) dX4_follow_56 ?_
      refine A_aload0 (pc := 57) dX4_follow_57 ?_
      refine A_getf (pc := 58) flX4_15 dX4_follow_58 rfl rfl ?_
      refine A_iload1 (pc := 61) dX4_follow_61 ?_
      refine A_csi (pc := 62) csX4_61 (sp_turned _ _) dX4_follow_62 rfl rfl (Nat.le_of_ble_eq_true rfl) (by decide) (by decide) (by decide) ?_
      refine A_cvi (pc := 65) cvX4_65 (sp_pass_la _) dX4_follow_65 rfl rfl rfl rfl (Nat.le_of_ble_eq_true rfl) (by decide) (by decide) (by decide) ?_
      exact A_iret (pc := 68) dX4_follow_68 rfl (bI_n _) (by decide) (by decide) (⟨by rw [flW_lo (by decide)], by rw [flW_lo (by decide)]⟩)
    · have e9 : kind = 4 := hsw
      subst e9
      refine A_tsIn (pc := 6) (tgt := 69) dX4_follow_6 (by decide) (by decide) rfl (by decide) ?_
      refine A_aload0 (pc := 69) dX4_follow_69 ?_
      refine A_iconst (pc := 70) (v := 3) dX4_follow_70 (by decide) ?_
      refine A_iload2 (pc := 71) dX4_follow_71 ?_
      refine A_cvi (pc := 72) cvX4_69 (sp_turnAtNth_la _ _) dX4_follow_72 rfl rfl rfl rfl (Nat.le_of_ble_eq_true rfl) (by decide) (by decide) (by decide) ?_
      exact A_iret (pc := 75) dX4_follow_75 rfl (bI_n _) (by decide) (by decide) (⟨by rw [flW_4], by rw [flW_4]⟩)
    · have e9 : kind = 5 := hsw
      subst e9
      refine A_tsIn (pc := 6) (tgt := 76) dX4_follow_6 (by decide) (by decide) rfl (by decide) ?_
      refine A_aload0 (pc := 76) dX4_follow_76 ?_
      refine A_iconst (pc := 77) (v := 1) dX4_follow_77 (by decide) ?_
      refine A_iload2 (pc := 78) dX4_follow_78 ?_
      refine A_cvi (pc := 79) cvX4_69 (sp_turnAtNth_la _ _) dX4_follow_79 rfl rfl rfl rfl (Nat.le_of_ble_eq_true rfl) (by decide) (by decide) (by decide) ?_
      exact A_iret (pc := 82) dX4_follow_82 rfl (bI_n _) (by decide) (by decide) (⟨by rw [flW_5], by rw [flW_5]⟩)
    · have e9 : kind = 6 := hsw
      subst e9
      refine A_tsIn (pc := 6) (tgt := 83) dX4_follow_6 (by decide) (by decide) rfl (by decide) ?_
      refine A_aload0 (pc := 83) dX4_follow_83 ?_
      refine A_iload2 (pc := 84) dX4_follow_84 ?_
      refine A_iload3 (pc := 85) dX4_follow_85 ?_
      refine A_cvi (pc := 86) cvX4_72 (sp_passUntil_la _ _) dX4_follow_86 rfl rfl rfl rfl (Nat.le_of_ble_eq_true rfl) (by decide) (by decide) (by decide) ?_
      exact A_iret (pc := 89) dX4_follow_89 rfl (bI_n _) (by decide) (by decide) (⟨by rw [flW_6], by rw [flW_6]⟩)
    · have e9 : kind = 7 := hsw
      subst e9
      refine A_tsIn (pc := 6) (tgt := 90) dX4_follow_6 (by decide) (by decide) rfl (by decide) ?_
      refine A_aload0 (pc := 90) dX4_follow_90 ?_
      refine A_iload2 (pc := 91) dX4_follow_91 ?_
      refine A_cvi (pc := 92) cvX4_75 (sp_passNamed_la _) dX4_follow_92 rfl rfl rfl rfl (Nat.le_of_ble_eq_true rfl) (by decide) (by decide) (by decide) ?_
      exact A_iret (pc := 95) dX4_follow_95 rfl (bI_n _) (by decide) (by decide) (⟨by rw [flW_7], by rw [flW_7]⟩)
    · have e9 : kind = 8 := hsw
      subst e9
      refine A_tsIn (pc := 6) (tgt := 96) dX4_follow_6 (by decide) (by decide) rfl (by decide) ?_
      refine A_aload0 (pc := 96) dX4_follow_96 ?_
      refine A_cvi (pc := 97) cvX4_78 (sp_passToTheEnd_la) dX4_follow_97 rfl rfl rfl rfl (Nat.le_of_ble_eq_true rfl) (by decide) (by decide) (by decide) ?_
      exact A_iret (pc := 100) dX4_follow_100 rfl (bI_n _) (by decide) (by decide) (⟨by rw [flW_8], by rw [flW_8]⟩)

set_option maxHeartbeats 4000000 in
set_option maxRecDepth 100000 in
theorem sp_followSlipped_la {n : NS} {p : Nat → Int32} {o : OS} {y : RS} {la sc : WS} {wy : YS} {ch : KS} {ko : Nat → Option Nat} {rest : AH} (kind number : Int32) : AS mX4_followSlipped 4 0 0 [.ref 11, .int kind, .int number] (CH n p o y la sc wy ch ko ++ rest) (P1 (bI (fsW n la kind number).1) (CH n p o y ((fsW n la kind number).2) sc wy ch ko ++ rest)) := by
  refine AS.go (lv := [some (.ref 11), some (.int kind), some (.int number)]) rfl ?_ (by decide +kernel) rfl (Nat.le_of_ble_eq_true rfl)
  refine A_iload1 (pc := 0) dX4_followSlipped_0 ?_
  rcases sw_in kind 1 5 (by decide) with hsw | ⟨j, hj1, hj2, hsw⟩
  · refine A_tsOut (pc := 1) (tgt := 62) dX4_followSlipped_1 hsw (by decide) ?_
    refine A_aload0 (pc := 62) dX4_followSlipped_62 ?_
    refine A_iload1 (pc := 63) dX4_followSlipped_63 ?_
    refine A_iload2 (pc := 64) dX4_followSlipped_64 ?_
    refine A_iconst (pc := 65) (v := 2) dX4_followSlipped_65 (by decide) ?_
    refine A_cvi (pc := 66) cvX4_57 (sp_follow_la _ _ _) dX4_followSlipped_66 rfl rfl rfl rfl (Nat.le_of_ble_eq_true rfl) (by decide) (by decide) (by decide) ?_
    exact A_iret (pc := 69) dX4_followSlipped_69 rfl (bI_n _) (by decide) (by decide) (⟨by rw [fsW_out hsw], by rw [fsW_out hsw]⟩)
  · rcases (show j = 1 ∨ j = 2 ∨ j = 3 ∨ j = 4 ∨ j = 5 by omega) with rfl | rfl | rfl | rfl | rfl
    · have e9 : kind = 1 := hsw
      subst e9
      refine A_tsIn (pc := 1) (tgt := 36) dX4_followSlipped_1 (by decide) (by decide) rfl (by decide) ?_
      refine A_aload0 (pc := 36) dX4_followSlipped_36 ?_
      refine A_iconst (pc := 37) (v := 3) dX4_followSlipped_37 (by decide) ?_
      refine A_iload2 (pc := 38) dX4_followSlipped_38 ?_
      refine A_iconst (pc := 39) (v := 1) dX4_followSlipped_39 (by decide) ?_
      refine A_cvi (pc := 40) cvX4_57 (sp_follow_la _ _ _) dX4_followSlipped_40 rfl rfl rfl rfl (Nat.le_of_ble_eq_true rfl) (by decide) (by decide) (by decide) ?_
      exact A_iret (pc := 43) dX4_followSlipped_43 rfl (bI_n _) (by decide) (by decide) (⟨by rw [fsW_1], by rw [fsW_1]⟩)
    · have e9 : kind = 2 := hsw
      subst e9
      refine A_tsIn (pc := 1) (tgt := 62) dX4_followSlipped_1 (by decide) (by decide) rfl (by decide) ?_
      refine A_aload0 (pc := 62) dX4_followSlipped_62 ?_
      refine A_iload1 (pc := 63) dX4_followSlipped_63 ?_
      refine A_iload2 (pc := 64) dX4_followSlipped_64 ?_
      refine A_iconst (pc := 65) (v := 2) dX4_followSlipped_65 (by decide) ?_
      refine A_cvi (pc := 66) cvX4_57 (sp_follow_la _ _ _) dX4_followSlipped_66 rfl rfl rfl rfl (Nat.le_of_ble_eq_true rfl) (by decide) (by decide) (by decide) ?_
      exact A_iret (pc := 69) dX4_followSlipped_69 rfl (bI_n _) (by decide) (by decide) (⟨by rw [fsW_2], by rw [fsW_2]⟩)
    · have e9 : kind = 3 := hsw
      subst e9
      refine A_tsIn (pc := 1) (tgt := 44) dX4_followSlipped_1 (by decide) (by decide) rfl (by decide) ?_
      refine A_aload0 (pc := 44) dX4_followSlipped_44 ?_
      refine A_iconst (pc := 45) (v := 1) dX4_followSlipped_45 (by decide) ?_
      refine A_iload2 (pc := 46) dX4_followSlipped_46 ?_
      refine A_iconst (pc := 47) (v := 1) dX4_followSlipped_47 (by decide) ?_
      refine A_cvi (pc := 48) cvX4_57 (sp_follow_la _ _ _) dX4_followSlipped_48 rfl rfl rfl rfl (Nat.le_of_ble_eq_true rfl) (by decide) (by decide) (by decide) ?_
      exact A_iret (pc := 51) dX4_followSlipped_51 rfl (bI_n _) (by decide) (by decide) (⟨by rw [fsW_3], by rw [fsW_3]⟩)
    · have e9 : kind = 4 := hsw
      subst e9
      refine A_tsIn (pc := 1) (tgt := 52) dX4_followSlipped_1 (by decide) (by decide) rfl (by decide) ?_
      refine A_aload0 (pc := 52) dX4_followSlipped_52 ?_
      refine A_iload1 (pc := 53) dX4_followSlipped_53 ?_
      refine A_iload2 (pc := 54) dX4_followSlipped_54 ?_
      refine A_iconst (pc := 55) (v := 1) dX4_followSlipped_55 (by decide) ?_
      refine A_iadd (pc := 56) dX4_followSlipped_56 ?_
      refine A_iconst (pc := 57) (v := 1) dX4_followSlipped_57 (by decide) ?_
      refine A_cvi (pc := 58) cvX4_57 (sp_follow_la _ _ _) dX4_followSlipped_58 rfl rfl rfl rfl (Nat.le_of_ble_eq_true rfl) (by decide) (by decide) (by decide) ?_
      exact A_iret (pc := 61) dX4_followSlipped_61 rfl (bI_n _) (by decide) (by decide) (⟨by rw [fsW_4], by rw [fsW_4]⟩)
    · have e9 : kind = 5 := hsw
      subst e9
      refine A_tsIn (pc := 1) (tgt := 52) dX4_followSlipped_1 (by decide) (by decide) rfl (by decide) ?_
      refine A_aload0 (pc := 52) dX4_followSlipped_52 ?_
      refine A_iload1 (pc := 53) dX4_followSlipped_53 ?_
      refine A_iload2 (pc := 54) dX4_followSlipped_54 ?_
      refine A_iconst (pc := 55) (v := 1) dX4_followSlipped_55 (by decide) ?_
      refine A_iadd (pc := 56) dX4_followSlipped_56 ?_
      refine A_iconst (pc := 57) (v := 1) dX4_followSlipped_57 (by decide) ?_
      refine A_cvi (pc := 58) cvX4_57 (sp_follow_la _ _ _) dX4_followSlipped_58 rfl rfl rfl rfl (Nat.le_of_ble_eq_true rfl) (by decide) (by decide) (by decide) ?_
      exact A_iret (pc := 61) dX4_followSlipped_61 rfl (bI_n _) (by decide) (by decide) (⟨by rw [fsW_5], by rw [fsW_5]⟩)

set_option maxHeartbeats 4000000 in
set_option maxRecDepth 100000 in
theorem lp_fa_la {n : NS} {p : Nat → Int32} {o : OS} {y : RS} {sc : WS} {wy : YS} {ch : KS} {ko : Nat → Option Nat} {rest : AH} {r q cap Z : Nat} {sz : Int32} {g : Nat → Int32} (hr : ∀ la : WS, (CH n p o y la sc wy ch ko ++ rest)[r]? = some (oC 3 [.ref q, .int sz])) (hq : ∀ la : WS, (CH n p o y la sc wy ch ko ++ rest)[q]? = some (aC cap g)) (hcap : cap < 2 ^ 31) (hz : sz = nI Z) (hZ : Z < 2 ^ 31) (slip : Int32) (m : Nat) : ∀ (i : Nat) (la : WS) (_ : i + m = Z) (x4 x5 x6 : Option Value), AW mX4_followAll 5 0 0 0 0 2 [some (.ref 11), some (.ref r), some (.int slip), some (.int (nI i)), x4, x5, x6] [] (CH n p o y la sc wy ch ko ++ rest) (P1 ((faL n cap sz g slip m i la).1) (CH n p o y ((faL n cap sz g slip m i la).2) sc wy ch ko ++ rest)) := by
  induction m with
  | zero =>
    intro i la hi x4 x5 x6
    refine A_iload3 (pc := 2) dX4_followAll_2 ?_
    refine A_aload1 (pc := 3) dX4_followAll_3 ?_
    refine A_getf (pc := 4) flX4_40 dX4_followAll_4 (hr _) rfl ?_
    refine A_icmp_ge (pc := 7) (tgt := 70) dX4_followAll_7 (by decide) (fun c7 => ?_) (fun c7 => absurd (show sz ≤ nI i from by rw [hz]; exact nI_le (by omega) (by omega)) c7)
    refine A_iconst (pc := 70) (v := -1) dX4_followAll_70 (by decide) ?_
    exact A_iret (pc := 71) dX4_followAll_71 rfl rfl (by decide) (by decide) (⟨rfl, rfl⟩)
  | succ m ih =>
    intro i la hi x4 x5 x6
    refine A_iload3 (pc := 2) dX4_followAll_2 ?_
    refine A_aload1 (pc := 3) dX4_followAll_3 ?_
    refine A_getf (pc := 4) flX4_40 dX4_followAll_4 (hr _) rfl ?_
    refine A_icmp_ge (pc := 7) (tgt := 70) dX4_followAll_7 (by decide) (fun c7 => absurd c7 (show ¬ sz ≤ nI i from by rw [hz]; exact nI_ge (by omega) hZ)) (fun c7 => ?_)
    refine A_aload1 (pc := 10) dX4_followAll_10 ?_
    refine A_iload3 (pc := 11) dX4_followAll_11 ?_
    refine A_cvi (pc := 12) cvX4_43 (sp_at (r := r) (a := q) (cap := cap) (sz := sz) (f := g) (hr _) (hq _) hcap _) dX4_followAll_12 rfl rfl (hr _) rfl (Nat.le_of_ble_eq_true rfl) (by decide) (by decide) (by decide) ?_
    refine A_csi (pc := 15) csX4_47 (sp_kindOf _) dX4_followAll_15 rfl rfl (Nat.le_of_ble_eq_true rfl) (by decide) (by decide) (by decide) ?_
    refine A_istore4 (pc := 18) dX4_followAll_18 (by decide) ?_
    refine A_aload1 (pc := 20) dX4_followAll_20 ?_
    refine A_iload3 (pc := 21) dX4_followAll_21 ?_
    refine A_cvi (pc := 22) cvX4_43 (sp_at (r := r) (a := q) (cap := cap) (sz := sz) (f := g) (hr _) (hq _) hcap _) dX4_followAll_22 rfl rfl (hr _) rfl (Nat.le_of_ble_eq_true rfl) (by decide) (by decide) (by decide) ?_
    refine A_csi (pc := 25) csX4_50 (sp_numberOf _) dX4_followAll_25 rfl rfl (Nat.le_of_ble_eq_true rfl) (by decide) (by decide) (by decide) ?_
    refine A_istore5 (pc := 28) dX4_followAll_28 (by decide) ?_
    refine A_iload3 (pc := 30) dX4_followAll_30 ?_
    refine A_iload2 (pc := 31) dX4_followAll_31 ?_
    refine A_icmp_ne (pc := 32) (tgt := 46) dX4_followAll_32 (by decide) (fun c32 => ?_) (fun c32 => ?_)
    · have e32 := show sgL n cap sz g slip i la = flW n la _ _ _ from if_neg c32
      refine A_aload0 (pc := 46) dX4_followAll_46 ?_
      refine A_iload4 (pc := 47) dX4_followAll_47 ?_
      refine A_iload5 (pc := 49) dX4_followAll_49 ?_
      refine A_iconst (pc := 51) (v := 1) dX4_followAll_51 (by decide) ?_
      refine A_cvi (pc := 52) cvX4_57 (sp_follow_la _ _ _) dX4_followAll_52 rfl rfl rfl rfl (Nat.le_of_ble_eq_true rfl) (by decide) (by decide) (by decide) ?_
      refine A_istore6 (pc := 55) dX4_followAll_55 (by decide) ?_
      refine A_iload6 (pc := 57) dX4_followAll_57 ?_
      refine A_if_ne (pc := 59) (tgt := 64) dX4_followAll_59 (by decide) (fun c59 => ?_) (fun c59 => ?_)
      · replace c59 := (bI_ne _).mp c59
        refine A_iinc3 (pc := 64) dX4_followAll_64 (by decide) (nI_1 i) ?_
        refine A_goto (pc := 67) (tgt := 2) dX4_followAll_67 (by decide) ?_
        simp only [faL, e32, c59, if_true, if_false]
        exact ih (i + 1) _ (by omega) _ _ _
      · replace c59 := (bI_eq _).mp c59
        refine A_iload3 (pc := 62) dX4_followAll_62 ?_
        exact A_iret (pc := 63) dX4_followAll_63 rfl rfl (by decide) (by decide) (⟨by simp only [faL, e32, c59, if_false, Bool.false_eq_true], by simp only [faL, e32, c59, if_false, Bool.false_eq_true]⟩)
    · have e32 := show sgL n cap sz g slip i la = fsW n la _ _ from if_pos c32
      refine A_aload0 (pc := 35) dX4_followAll_35 ?_
      refine A_iload4 (pc := 36) dX4_followAll_36 ?_
      refine A_iload5 (pc := 38) dX4_followAll_38 ?_
      refine A_cvi (pc := 40) cvX4_53 (sp_followSlipped_la _ _) dX4_followAll_40 rfl rfl rfl rfl (Nat.le_of_ble_eq_true rfl) (by decide) (by decide) (by decide) ?_
      refine A_goto (pc := 43) (tgt := 55) dX4_followAll_43 (by decide) ?_
      refine A_istore6 (pc := 55) dX4_followAll_55 (by decide) ?_
      refine A_iload6 (pc := 57) dX4_followAll_57 ?_
      refine A_if_ne (pc := 59) (tgt := 64) dX4_followAll_59 (by decide) (fun c59 => ?_) (fun c59 => ?_)
      · replace c59 := (bI_ne _).mp c59
        refine A_iinc3 (pc := 64) dX4_followAll_64 (by decide) (nI_1 i) ?_
        refine A_goto (pc := 67) (tgt := 2) dX4_followAll_67 (by decide) ?_
        simp only [faL, e32, c59, if_true, if_false]
        exact ih (i + 1) _ (by omega) _ _ _
      · replace c59 := (bI_eq _).mp c59
        refine A_iload3 (pc := 62) dX4_followAll_62 ?_
        exact A_iret (pc := 63) dX4_followAll_63 rfl rfl (by decide) (by decide) (⟨by simp only [faL, e32, c59, if_false, Bool.false_eq_true], by simp only [faL, e32, c59, if_false, Bool.false_eq_true]⟩)

set_option maxHeartbeats 4000000 in
set_option maxRecDepth 100000 in
theorem sp_followAll_la {n : NS} {p : Nat → Int32} {o : OS} {y : RS} {sc : WS} {wy : YS} {ch : KS} {ko : Nat → Option Nat} {rest : AH} {la : WS} {r q cap Z : Nat} {sz : Int32} {g : Nat → Int32} (hr : ∀ la : WS, (CH n p o y la sc wy ch ko ++ rest)[r]? = some (oC 3 [.ref q, .int sz])) (hq : ∀ la : WS, (CH n p o y la sc wy ch ko ++ rest)[q]? = some (aC cap g)) (hcap : cap < 2 ^ 31) (hz : sz = nI Z) (hZ : Z < 2 ^ 31) (slip : Int32) : AS mX4_followAll 5 0 0 [.ref 11, .ref r, .int slip] (CH n p o y la sc wy ch ko ++ rest) (P1 ((faL n cap sz g slip Z 0 la).1) (CH n p o y ((faL n cap sz g slip Z 0 la).2) sc wy ch ko ++ rest)) := by
  refine AS.go (lv := [some (.ref 11), some (.ref r), some (.int slip), none, none, none, none]) rfl ?_ (by decide +kernel) rfl (Nat.le_of_ble_eq_true rfl)
  refine A_iconst (pc := 0) (v := 0) dX4_followAll_0 (by decide) ?_
  refine A_istore3 (pc := 1) dX4_followAll_1 (by decide) ?_
  exact lp_fa_la hr hq hcap hz hZ slip Z 0 la (by omega) none none none

set_option maxHeartbeats 4000000 in
set_option maxRecDepth 100000 in
theorem sp_follow_sc {n : NS} {p : Nat → Int32} {o : OS} {y : RS} {la sc : WS} {wy : YS} {ch : KS} {ko : Nat → Option Nat} {rest : AH} (kind number mt : Int32) : AS mX4_follow 3 0 0 [.ref 14, .int kind, .int number, .int mt] (CH n p o y la sc wy ch ko ++ rest) (P1 (bI (flW n sc kind number mt).1) (CH n p o y la ((flW n sc kind number mt).2) wy ch ko ++ rest)) := by
  refine AS.go (lv := [some (.ref 14), some (.int kind), some (.int number), some (.int mt)]) rfl ?_ (by decide +kernel) rfl (Nat.le_of_ble_eq_true rfl)
  refine A_aload0 (pc := 0) dX4_follow_0 ?_
  refine A_iconst (pc := 1) (v := 0) dX4_follow_1 (by decide) ?_
  refine A_putf (pc := 2) flX4_21 ft4_4 dX4_follow_2 rfl (Nat.le_of_ble_eq_true rfl) (fun _ => ⟨rfl, rfl⟩) ?_
  refine AW.heq (hp' := CH n p o y la (zW sc) wy ch ko ++ rest) rfl ?_
  refine A_iload1 (pc := 5) dX4_follow_5 ?_
  rcases sw_in kind 0 8 (by decide) with hsw | ⟨j, hj1, hj2, hsw⟩
  · refine A_tsOut (pc := 6) (tgt := 101) dX4_follow_6 hsw (by decide) ?_
    refine A_iconst (pc := 101) (v := 0) dX4_follow_101 (by decide) ?_
    exact A_iret (pc := 102) dX4_follow_102 rfl rfl (by decide) (by decide) (⟨by rw [flW_out hsw]; rfl, by rw [flW_out hsw]⟩)
  · rcases (show j = 0 ∨ j = 1 ∨ j = 2 ∨ j = 3 ∨ j = 4 ∨ j = 5 ∨ j = 6 ∨ j = 7 ∨ j = 8 by omega) with rfl | rfl | rfl | rfl | rfl | rfl | rfl | rfl | rfl
    · have e9 : kind = 0 := hsw
      subst e9
      refine A_tsIn (pc := 6) (tgt := 56) dX4_follow_6 (by decide) (by decide) rfl (by decide) ?_
      refine A_aload0 (pc := 56) dX4_follow_56 ?_
      refine A_aload0 (pc := 57) dX4_follow_57 ?_
      refine A_getf (pc := 58) flX4_15 dX4_follow_58 rfl rfl ?_
      refine A_iload1 (pc := 61) dX4_follow_61 ?_
      refine A_csi (pc := 62) csX4_61 (sp_turned _ _) dX4_follow_62 rfl rfl (Nat.le_of_ble_eq_true rfl) (by decide) (by decide) (by decide) ?_
      refine A_cvi (pc := 65) cvX4_65 (sp_pass_sc _) dX4_follow_65 rfl rfl rfl rfl (Nat.le_of_ble_eq_true rfl) (by decide) (by decide) (by decide) ?_
      exact A_iret (pc := 68) dX4_follow_68 rfl (bI_n _) (by decide) (by decide) (⟨by rw [flW_lo (by decide)], by rw [flW_lo (by decide)]⟩)
    · have e9 : kind = 1 := hsw
      subst e9
      refine A_tsIn (pc := 6) (tgt := 56) dX4_follow_6 (by decide) (by decide) rfl (by decide) ?_
      refine A_aload0 (pc := 56) dX4_follow_56 ?_
      refine A_aload0 (pc := 57) dX4_follow_57 ?_
      refine A_getf (pc := 58) flX4_15 dX4_follow_58 rfl rfl ?_
      refine A_iload1 (pc := 61) dX4_follow_61 ?_
      refine A_csi (pc := 62) csX4_61 (sp_turned _ _) dX4_follow_62 rfl rfl (Nat.le_of_ble_eq_true rfl) (by decide) (by decide) (by decide) ?_
      refine A_cvi (pc := 65) cvX4_65 (sp_pass_sc _) dX4_follow_65 rfl rfl rfl rfl (Nat.le_of_ble_eq_true rfl) (by decide) (by decide) (by decide) ?_
      exact A_iret (pc := 68) dX4_follow_68 rfl (bI_n _) (by decide) (by decide) (⟨by rw [flW_lo (by decide)], by rw [flW_lo (by decide)]⟩)
    · have e9 : kind = 2 := hsw
      subst e9
      refine A_tsIn (pc := 6) (tgt := 56) dX4_follow_6 (by decide) (by decide) rfl (by decide) ?_
      refine A_aload0 (pc := 56) dX4_follow_56 ?_
      refine A_aload0 (pc := 57) dX4_follow_57 ?_
      refine A_getf (pc := 58) flX4_15 dX4_follow_58 rfl rfl ?_
      refine A_iload1 (pc := 61) dX4_follow_61 ?_
      refine A_csi (pc := 62) csX4_61 (sp_turned _ _) dX4_follow_62 rfl rfl (Nat.le_of_ble_eq_true rfl) (by decide) (by decide) (by decide) ?_
      refine A_cvi (pc := 65) cvX4_65 (sp_pass_sc _) dX4_follow_65 rfl rfl rfl rfl (Nat.le_of_ble_eq_true rfl) (by decide) (by decide) (by decide) ?_
      exact A_iret (pc := 68) dX4_follow_68 rfl (bI_n _) (by decide) (by decide) (⟨by rw [flW_lo (by decide)], by rw [flW_lo (by decide)]⟩)
    · have e9 : kind = 3 := hsw
      subst e9
      refine A_tsIn (pc := 6) (tgt := 56) dX4_follow_6 (by decide) (by decide) rfl (by decide) ?_
      refine A_aload0 (pc := 56) dX4_follow_56 ?_
      refine A_aload0 (pc := 57) dX4_follow_57 ?_
      refine A_getf (pc := 58) flX4_15 dX4_follow_58 rfl rfl ?_
      refine A_iload1 (pc := 61) dX4_follow_61 ?_
      refine A_csi (pc := 62) csX4_61 (sp_turned _ _) dX4_follow_62 rfl rfl (Nat.le_of_ble_eq_true rfl) (by decide) (by decide) (by decide) ?_
      refine A_cvi (pc := 65) cvX4_65 (sp_pass_sc _) dX4_follow_65 rfl rfl rfl rfl (Nat.le_of_ble_eq_true rfl) (by decide) (by decide) (by decide) ?_
      exact A_iret (pc := 68) dX4_follow_68 rfl (bI_n _) (by decide) (by decide) (⟨by rw [flW_lo (by decide)], by rw [flW_lo (by decide)]⟩)
    · have e9 : kind = 4 := hsw
      subst e9
      refine A_tsIn (pc := 6) (tgt := 69) dX4_follow_6 (by decide) (by decide) rfl (by decide) ?_
      refine A_aload0 (pc := 69) dX4_follow_69 ?_
      refine A_iconst (pc := 70) (v := 3) dX4_follow_70 (by decide) ?_
      refine A_iload2 (pc := 71) dX4_follow_71 ?_
      refine A_cvi (pc := 72) cvX4_69 (sp_turnAtNth_sc _ _) dX4_follow_72 rfl rfl rfl rfl (Nat.le_of_ble_eq_true rfl) (by decide) (by decide) (by decide) ?_
      exact A_iret (pc := 75) dX4_follow_75 rfl (bI_n _) (by decide) (by decide) (⟨by rw [flW_4], by rw [flW_4]⟩)
    · have e9 : kind = 5 := hsw
      subst e9
      refine A_tsIn (pc := 6) (tgt := 76) dX4_follow_6 (by decide) (by decide) rfl (by decide) ?_
      refine A_aload0 (pc := 76) dX4_follow_76 ?_
      refine A_iconst (pc := 77) (v := 1) dX4_follow_77 (by decide) ?_
      refine A_iload2 (pc := 78) dX4_follow_78 ?_
      refine A_cvi (pc := 79) cvX4_69 (sp_turnAtNth_sc _ _) dX4_follow_79 rfl rfl rfl rfl (Nat.le_of_ble_eq_true rfl) (by decide) (by decide) (by decide) ?_
      exact A_iret (pc := 82) dX4_follow_82 rfl (bI_n _) (by decide) (by decide) (⟨by rw [flW_5], by rw [flW_5]⟩)
    · have e9 : kind = 6 := hsw
      subst e9
      refine A_tsIn (pc := 6) (tgt := 83) dX4_follow_6 (by decide) (by decide) rfl (by decide) ?_
      refine A_aload0 (pc := 83) dX4_follow_83 ?_
      refine A_iload2 (pc := 84) dX4_follow_84 ?_
      refine A_iload3 (pc := 85) dX4_follow_85 ?_
      refine A_cvi (pc := 86) cvX4_72 (sp_passUntil_sc _ _) dX4_follow_86 rfl rfl rfl rfl (Nat.le_of_ble_eq_true rfl) (by decide) (by decide) (by decide) ?_
      exact A_iret (pc := 89) dX4_follow_89 rfl (bI_n _) (by decide) (by decide) (⟨by rw [flW_6], by rw [flW_6]⟩)
    · have e9 : kind = 7 := hsw
      subst e9
      refine A_tsIn (pc := 6) (tgt := 90) dX4_follow_6 (by decide) (by decide) rfl (by decide) ?_
      refine A_aload0 (pc := 90) dX4_follow_90 ?_
      refine A_iload2 (pc := 91) dX4_follow_91 ?_
      refine A_cvi (pc := 92) cvX4_75 (sp_passNamed_sc _) dX4_follow_92 rfl rfl rfl rfl (Nat.le_of_ble_eq_true rfl) (by decide) (by decide) (by decide) ?_
      exact A_iret (pc := 95) dX4_follow_95 rfl (bI_n _) (by decide) (by decide) (⟨by rw [flW_7], by rw [flW_7]⟩)
    · have e9 : kind = 8 := hsw
      subst e9
      refine A_tsIn (pc := 6) (tgt := 96) dX4_follow_6 (by decide) (by decide) rfl (by decide) ?_
      refine A_aload0 (pc := 96) dX4_follow_96 ?_
      refine A_cvi (pc := 97) cvX4_78 (sp_passToTheEnd_sc) dX4_follow_97 rfl rfl rfl rfl (Nat.le_of_ble_eq_true rfl) (by decide) (by decide) (by decide) ?_
      exact A_iret (pc := 100) dX4_follow_100 rfl (bI_n _) (by decide) (by decide) (⟨by rw [flW_8], by rw [flW_8]⟩)

set_option maxHeartbeats 4000000 in
set_option maxRecDepth 100000 in
theorem sp_followSlipped_sc {n : NS} {p : Nat → Int32} {o : OS} {y : RS} {la sc : WS} {wy : YS} {ch : KS} {ko : Nat → Option Nat} {rest : AH} (kind number : Int32) : AS mX4_followSlipped 4 0 0 [.ref 14, .int kind, .int number] (CH n p o y la sc wy ch ko ++ rest) (P1 (bI (fsW n sc kind number).1) (CH n p o y la ((fsW n sc kind number).2) wy ch ko ++ rest)) := by
  refine AS.go (lv := [some (.ref 14), some (.int kind), some (.int number)]) rfl ?_ (by decide +kernel) rfl (Nat.le_of_ble_eq_true rfl)
  refine A_iload1 (pc := 0) dX4_followSlipped_0 ?_
  rcases sw_in kind 1 5 (by decide) with hsw | ⟨j, hj1, hj2, hsw⟩
  · refine A_tsOut (pc := 1) (tgt := 62) dX4_followSlipped_1 hsw (by decide) ?_
    refine A_aload0 (pc := 62) dX4_followSlipped_62 ?_
    refine A_iload1 (pc := 63) dX4_followSlipped_63 ?_
    refine A_iload2 (pc := 64) dX4_followSlipped_64 ?_
    refine A_iconst (pc := 65) (v := 2) dX4_followSlipped_65 (by decide) ?_
    refine A_cvi (pc := 66) cvX4_57 (sp_follow_sc _ _ _) dX4_followSlipped_66 rfl rfl rfl rfl (Nat.le_of_ble_eq_true rfl) (by decide) (by decide) (by decide) ?_
    exact A_iret (pc := 69) dX4_followSlipped_69 rfl (bI_n _) (by decide) (by decide) (⟨by rw [fsW_out hsw], by rw [fsW_out hsw]⟩)
  · rcases (show j = 1 ∨ j = 2 ∨ j = 3 ∨ j = 4 ∨ j = 5 by omega) with rfl | rfl | rfl | rfl | rfl
    · have e9 : kind = 1 := hsw
      subst e9
      refine A_tsIn (pc := 1) (tgt := 36) dX4_followSlipped_1 (by decide) (by decide) rfl (by decide) ?_
      refine A_aload0 (pc := 36) dX4_followSlipped_36 ?_
      refine A_iconst (pc := 37) (v := 3) dX4_followSlipped_37 (by decide) ?_
      refine A_iload2 (pc := 38) dX4_followSlipped_38 ?_
      refine A_iconst (pc := 39) (v := 1) dX4_followSlipped_39 (by decide) ?_
      refine A_cvi (pc := 40) cvX4_57 (sp_follow_sc _ _ _) dX4_followSlipped_40 rfl rfl rfl rfl (Nat.le_of_ble_eq_true rfl) (by decide) (by decide) (by decide) ?_
      exact A_iret (pc := 43) dX4_followSlipped_43 rfl (bI_n _) (by decide) (by decide) (⟨by rw [fsW_1], by rw [fsW_1]⟩)
    · have e9 : kind = 2 := hsw
      subst e9
      refine A_tsIn (pc := 1) (tgt := 62) dX4_followSlipped_1 (by decide) (by decide) rfl (by decide) ?_
      refine A_aload0 (pc := 62) dX4_followSlipped_62 ?_
      refine A_iload1 (pc := 63) dX4_followSlipped_63 ?_
      refine A_iload2 (pc := 64) dX4_followSlipped_64 ?_
      refine A_iconst (pc := 65) (v := 2) dX4_followSlipped_65 (by decide) ?_
      refine A_cvi (pc := 66) cvX4_57 (sp_follow_sc _ _ _) dX4_followSlipped_66 rfl rfl rfl rfl (Nat.le_of_ble_eq_true rfl) (by decide) (by decide) (by decide) ?_
      exact A_iret (pc := 69) dX4_followSlipped_69 rfl (bI_n _) (by decide) (by decide) (⟨by rw [fsW_2], by rw [fsW_2]⟩)
    · have e9 : kind = 3 := hsw
      subst e9
      refine A_tsIn (pc := 1) (tgt := 44) dX4_followSlipped_1 (by decide) (by decide) rfl (by decide) ?_
      refine A_aload0 (pc := 44) dX4_followSlipped_44 ?_
      refine A_iconst (pc := 45) (v := 1) dX4_followSlipped_45 (by decide) ?_
      refine A_iload2 (pc := 46) dX4_followSlipped_46 ?_
      refine A_iconst (pc := 47) (v := 1) dX4_followSlipped_47 (by decide) ?_
      refine A_cvi (pc := 48) cvX4_57 (sp_follow_sc _ _ _) dX4_followSlipped_48 rfl rfl rfl rfl (Nat.le_of_ble_eq_true rfl) (by decide) (by decide) (by decide) ?_
      exact A_iret (pc := 51) dX4_followSlipped_51 rfl (bI_n _) (by decide) (by decide) (⟨by rw [fsW_3], by rw [fsW_3]⟩)
    · have e9 : kind = 4 := hsw
      subst e9
      refine A_tsIn (pc := 1) (tgt := 52) dX4_followSlipped_1 (by decide) (by decide) rfl (by decide) ?_
      refine A_aload0 (pc := 52) dX4_followSlipped_52 ?_
      refine A_iload1 (pc := 53) dX4_followSlipped_53 ?_
      refine A_iload2 (pc := 54) dX4_followSlipped_54 ?_
      refine A_iconst (pc := 55) (v := 1) dX4_followSlipped_55 (by decide) ?_
      refine A_iadd (pc := 56) dX4_followSlipped_56 ?_
      refine A_iconst (pc := 57) (v := 1) dX4_followSlipped_57 (by decide) ?_
      refine A_cvi (pc := 58) cvX4_57 (sp_follow_sc _ _ _) dX4_followSlipped_58 rfl rfl rfl rfl (Nat.le_of_ble_eq_true rfl) (by decide) (by decide) (by decide) ?_
      exact A_iret (pc := 61) dX4_followSlipped_61 rfl (bI_n _) (by decide) (by decide) (⟨by rw [fsW_4], by rw [fsW_4]⟩)
    · have e9 : kind = 5 := hsw
      subst e9
      refine A_tsIn (pc := 1) (tgt := 52) dX4_followSlipped_1 (by decide) (by decide) rfl (by decide) ?_
      refine A_aload0 (pc := 52) dX4_followSlipped_52 ?_
      refine A_iload1 (pc := 53) dX4_followSlipped_53 ?_
      refine A_iload2 (pc := 54) dX4_followSlipped_54 ?_
      refine A_iconst (pc := 55) (v := 1) dX4_followSlipped_55 (by decide) ?_
      refine A_iadd (pc := 56) dX4_followSlipped_56 ?_
      refine A_iconst (pc := 57) (v := 1) dX4_followSlipped_57 (by decide) ?_
      refine A_cvi (pc := 58) cvX4_57 (sp_follow_sc _ _ _) dX4_followSlipped_58 rfl rfl rfl rfl (Nat.le_of_ble_eq_true rfl) (by decide) (by decide) (by decide) ?_
      exact A_iret (pc := 61) dX4_followSlipped_61 rfl (bI_n _) (by decide) (by decide) (⟨by rw [fsW_5], by rw [fsW_5]⟩)

set_option maxHeartbeats 4000000 in
set_option maxRecDepth 100000 in
theorem lp_fa_sc {n : NS} {p : Nat → Int32} {o : OS} {y : RS} {la : WS} {wy : YS} {ch : KS} {ko : Nat → Option Nat} {rest : AH} {r q cap Z : Nat} {sz : Int32} {g : Nat → Int32} (hr : ∀ sc : WS, (CH n p o y la sc wy ch ko ++ rest)[r]? = some (oC 3 [.ref q, .int sz])) (hq : ∀ sc : WS, (CH n p o y la sc wy ch ko ++ rest)[q]? = some (aC cap g)) (hcap : cap < 2 ^ 31) (hz : sz = nI Z) (hZ : Z < 2 ^ 31) (slip : Int32) (m : Nat) : ∀ (i : Nat) (sc : WS) (_ : i + m = Z) (x4 x5 x6 : Option Value), AW mX4_followAll 5 0 0 0 0 2 [some (.ref 14), some (.ref r), some (.int slip), some (.int (nI i)), x4, x5, x6] [] (CH n p o y la sc wy ch ko ++ rest) (P1 ((faL n cap sz g slip m i sc).1) (CH n p o y la ((faL n cap sz g slip m i sc).2) wy ch ko ++ rest)) := by
  induction m with
  | zero =>
    intro i sc hi x4 x5 x6
    refine A_iload3 (pc := 2) dX4_followAll_2 ?_
    refine A_aload1 (pc := 3) dX4_followAll_3 ?_
    refine A_getf (pc := 4) flX4_40 dX4_followAll_4 (hr _) rfl ?_
    refine A_icmp_ge (pc := 7) (tgt := 70) dX4_followAll_7 (by decide) (fun c7 => ?_) (fun c7 => absurd (show sz ≤ nI i from by rw [hz]; exact nI_le (by omega) (by omega)) c7)
    refine A_iconst (pc := 70) (v := -1) dX4_followAll_70 (by decide) ?_
    exact A_iret (pc := 71) dX4_followAll_71 rfl rfl (by decide) (by decide) (⟨rfl, rfl⟩)
  | succ m ih =>
    intro i sc hi x4 x5 x6
    refine A_iload3 (pc := 2) dX4_followAll_2 ?_
    refine A_aload1 (pc := 3) dX4_followAll_3 ?_
    refine A_getf (pc := 4) flX4_40 dX4_followAll_4 (hr _) rfl ?_
    refine A_icmp_ge (pc := 7) (tgt := 70) dX4_followAll_7 (by decide) (fun c7 => absurd c7 (show ¬ sz ≤ nI i from by rw [hz]; exact nI_ge (by omega) hZ)) (fun c7 => ?_)
    refine A_aload1 (pc := 10) dX4_followAll_10 ?_
    refine A_iload3 (pc := 11) dX4_followAll_11 ?_
    refine A_cvi (pc := 12) cvX4_43 (sp_at (r := r) (a := q) (cap := cap) (sz := sz) (f := g) (hr _) (hq _) hcap _) dX4_followAll_12 rfl rfl (hr _) rfl (Nat.le_of_ble_eq_true rfl) (by decide) (by decide) (by decide) ?_
    refine A_csi (pc := 15) csX4_47 (sp_kindOf _) dX4_followAll_15 rfl rfl (Nat.le_of_ble_eq_true rfl) (by decide) (by decide) (by decide) ?_
    refine A_istore4 (pc := 18) dX4_followAll_18 (by decide) ?_
    refine A_aload1 (pc := 20) dX4_followAll_20 ?_
    refine A_iload3 (pc := 21) dX4_followAll_21 ?_
    refine A_cvi (pc := 22) cvX4_43 (sp_at (r := r) (a := q) (cap := cap) (sz := sz) (f := g) (hr _) (hq _) hcap _) dX4_followAll_22 rfl rfl (hr _) rfl (Nat.le_of_ble_eq_true rfl) (by decide) (by decide) (by decide) ?_
    refine A_csi (pc := 25) csX4_50 (sp_numberOf _) dX4_followAll_25 rfl rfl (Nat.le_of_ble_eq_true rfl) (by decide) (by decide) (by decide) ?_
    refine A_istore5 (pc := 28) dX4_followAll_28 (by decide) ?_
    refine A_iload3 (pc := 30) dX4_followAll_30 ?_
    refine A_iload2 (pc := 31) dX4_followAll_31 ?_
    refine A_icmp_ne (pc := 32) (tgt := 46) dX4_followAll_32 (by decide) (fun c32 => ?_) (fun c32 => ?_)
    · have e32 := show sgL n cap sz g slip i sc = flW n sc _ _ _ from if_neg c32
      refine A_aload0 (pc := 46) dX4_followAll_46 ?_
      refine A_iload4 (pc := 47) dX4_followAll_47 ?_
      refine A_iload5 (pc := 49) dX4_followAll_49 ?_
      refine A_iconst (pc := 51) (v := 1) dX4_followAll_51 (by decide) ?_
      refine A_cvi (pc := 52) cvX4_57 (sp_follow_sc _ _ _) dX4_followAll_52 rfl rfl rfl rfl (Nat.le_of_ble_eq_true rfl) (by decide) (by decide) (by decide) ?_
      refine A_istore6 (pc := 55) dX4_followAll_55 (by decide) ?_
      refine A_iload6 (pc := 57) dX4_followAll_57 ?_
      refine A_if_ne (pc := 59) (tgt := 64) dX4_followAll_59 (by decide) (fun c59 => ?_) (fun c59 => ?_)
      · replace c59 := (bI_ne _).mp c59
        refine A_iinc3 (pc := 64) dX4_followAll_64 (by decide) (nI_1 i) ?_
        refine A_goto (pc := 67) (tgt := 2) dX4_followAll_67 (by decide) ?_
        simp only [faL, e32, c59, if_true, if_false]
        exact ih (i + 1) _ (by omega) _ _ _
      · replace c59 := (bI_eq _).mp c59
        refine A_iload3 (pc := 62) dX4_followAll_62 ?_
        exact A_iret (pc := 63) dX4_followAll_63 rfl rfl (by decide) (by decide) (⟨by simp only [faL, e32, c59, if_false, Bool.false_eq_true], by simp only [faL, e32, c59, if_false, Bool.false_eq_true]⟩)
    · have e32 := show sgL n cap sz g slip i sc = fsW n sc _ _ from if_pos c32
      refine A_aload0 (pc := 35) dX4_followAll_35 ?_
      refine A_iload4 (pc := 36) dX4_followAll_36 ?_
      refine A_iload5 (pc := 38) dX4_followAll_38 ?_
      refine A_cvi (pc := 40) cvX4_53 (sp_followSlipped_sc _ _) dX4_followAll_40 rfl rfl rfl rfl (Nat.le_of_ble_eq_true rfl) (by decide) (by decide) (by decide) ?_
      refine A_goto (pc := 43) (tgt := 55) dX4_followAll_43 (by decide) ?_
      refine A_istore6 (pc := 55) dX4_followAll_55 (by decide) ?_
      refine A_iload6 (pc := 57) dX4_followAll_57 ?_
      refine A_if_ne (pc := 59) (tgt := 64) dX4_followAll_59 (by decide) (fun c59 => ?_) (fun c59 => ?_)
      · replace c59 := (bI_ne _).mp c59
        refine A_iinc3 (pc := 64) dX4_followAll_64 (by decide) (nI_1 i) ?_
        refine A_goto (pc := 67) (tgt := 2) dX4_followAll_67 (by decide) ?_
        simp only [faL, e32, c59, if_true, if_false]
        exact ih (i + 1) _ (by omega) _ _ _
      · replace c59 := (bI_eq _).mp c59
        refine A_iload3 (pc := 62) dX4_followAll_62 ?_
        exact A_iret (pc := 63) dX4_followAll_63 rfl rfl (by decide) (by decide) (⟨by simp only [faL, e32, c59, if_false, Bool.false_eq_true], by simp only [faL, e32, c59, if_false, Bool.false_eq_true]⟩)

set_option maxHeartbeats 4000000 in
set_option maxRecDepth 100000 in
theorem sp_followAll_sc {n : NS} {p : Nat → Int32} {o : OS} {y : RS} {la : WS} {wy : YS} {ch : KS} {ko : Nat → Option Nat} {rest : AH} {sc : WS} {r q cap Z : Nat} {sz : Int32} {g : Nat → Int32} (hr : ∀ sc : WS, (CH n p o y la sc wy ch ko ++ rest)[r]? = some (oC 3 [.ref q, .int sz])) (hq : ∀ sc : WS, (CH n p o y la sc wy ch ko ++ rest)[q]? = some (aC cap g)) (hcap : cap < 2 ^ 31) (hz : sz = nI Z) (hZ : Z < 2 ^ 31) (slip : Int32) : AS mX4_followAll 5 0 0 [.ref 14, .ref r, .int slip] (CH n p o y la sc wy ch ko ++ rest) (P1 ((faL n cap sz g slip Z 0 sc).1) (CH n p o y la ((faL n cap sz g slip Z 0 sc).2) wy ch ko ++ rest)) := by
  refine AS.go (lv := [some (.ref 14), some (.ref r), some (.int slip), none, none, none, none]) rfl ?_ (by decide +kernel) rfl (Nat.le_of_ble_eq_true rfl)
  refine A_iconst (pc := 0) (v := 0) dX4_followAll_0 (by decide) ?_
  refine A_istore3 (pc := 1) dX4_followAll_1 (by decide) ?_
  exact lp_fa_sc hr hq hcap hz hZ slip Z 0 sc (by omega) none none none
