/-! the net: distances, the shortest way -/
def rcN (n : NS) (k d : Int32) : NS := if hasI n.1 k = true then (if n.2.2.2.2.2.1 k.toNatClampNeg = -1 then (n.1, n.2.1, n.2.2.1, n.2.2.2.1, n.2.2.2.2.1, upd n.2.2.2.2.2.1 k.toNatClampNeg d, adZ 24 n.2.2.2.2.2.2.1, adF 24 n.2.2.2.2.2.2.1 n.2.2.2.2.2.2.2 k) else n) else n
def raL (k : Int32) : Nat → Nat → NS → NS
  | 0, _, n => n
  | m + 1, i, n => raL k m (i + 1) (rcN n (kaI n.2.2.2.1 k (nI i)) (siI n.1 n.2.2.2.2.2.1 k + 1))
def mdL : Nat → Nat → (Nat → Int32) → (Nat → Int32)
  | 0, _, f => f
  | m + 1, i, f => mdL m (i + 1) (upd f i (-1))
def m2L : Nat → Nat → NS → NS
  | 0, _, n => n
  | m + 1, i, n => if n.2.2.2.2.2.2.1 ≤ nI i then n else m2L m (i + 1) (raL (atI 24 n.2.2.2.2.2.2.1 n.2.2.2.2.2.2.2 (nI i)) 4 0 n)
def d0N (n : NS) (f : Nat → Int32) : NS := (n.1, n.2.1, n.2.2.1, n.2.2.2.1, n.2.2.2.2.1, f, n.2.2.2.2.2.2)
def c0N (n : NS) : NS := (n.1, n.2.1, n.2.2.1, n.2.2.2.1, n.2.2.2.2.1, n.2.2.2.2.2.1, 0, n.2.2.2.2.2.2.2)
def mtN (n : NS) (k : Int32) : NS := m2L 24 0 (rcN (c0N (d0N n (mdL 24 0 n.2.2.2.2.2.1))) k 0)
def enL (n : NS) (k : Int32) : Nat → Nat → Int32
  | 0, _ => -1
  | m + 1, i => if kaI n.2.2.2.1 k (nI i) = -1 then enL n k m (i + 1) else if siI n.1 n.2.2.2.2.2.1 (kaI n.2.2.2.1 k (nI i)) = siI n.1 n.2.2.2.2.2.1 k - 1 then nI i else enL n k m (i + 1)
def yA (wy : YS) (x : Int32) : YS := (wy.1, wy.2.1, wy.2.2.1, adZ 30 wy.2.2.2.1, adF 30 wy.2.2.2.1 wy.2.2.2.2 x)
def asL (n : NS) : Nat → Int32 → YS → YS
  | 0, _, wy => wy
  | m + 1, k, wy => asL n m (kaI n.2.2.2.1 k (enL n k 4 0)) (yA wy (enL n k 4 0))

set_option maxHeartbeats 4000000 in
set_option maxRecDepth 100000 in
theorem sp_reach {n : NS} {p : Nat → Int32} {o : OS} {y : RS} {la sc : WS} {wy : YS} {ch : KS} {ko : Nat → Option Nat} {rest : AH} (k d : Int32) : AS mX2_reach 1 0 0 [.ref 1, .int k, .int d] (CH n p o y la sc wy ch ko ++ rest) (P0 (CH (rcN n k d) p o y la sc wy ch ko ++ rest)) := by
  refine AS.go (lv := [some (.ref 1), some (.int k), some (.int d)]) rfl ?_ (by decide +kernel) rfl (Nat.le_of_ble_eq_true rfl)
  refine A_aload0 (pc := 0) dX2_reach_0 ?_
  refine A_iload1 (pc := 1) dX2_reach_1 ?_
  refine A_cvi (pc := 2) cvX2_40 (sp_hasKnot (kn := n.1) (sk := n.2.1) rfl _) dX2_reach_2 rfl rfl rfl rfl (Nat.le_of_ble_eq_true rfl) (by decide) (by decide) (by decide) ?_
  refine A_if_eq (pc := 5) (tgt := 34) dX2_reach_5 (by decide) (fun c5 => ?_) (fun c5 => ?_)
  · replace c5 := (bI_eq _).mp c5
    exact A_vret (pc := 34) dX2_reach_34 rfl (by decide) (by decide) (⟨rfl, by unfold rcN; rw [if_neg (by simp [c5])]⟩)
  · replace c5 := (bI_ne _).mp c5
    refine A_aload0 (pc := 8) dX2_reach_8 ?_
    refine A_getf (pc := 9) flX2_28 dX2_reach_9 rfl rfl ?_
    refine A_iload1 (pc := 12) dX2_reach_12 ?_
    refine A_iald (pc := 13) dX2_reach_13 rfl (vp_lt (by decide) (hasI_t c5).1 (hasI_t c5).2.2) ?_
    refine A_iconst (pc := 14) (v := -1) dX2_reach_14 (by decide) ?_
    refine A_icmp_ne (pc := 15) (tgt := 34) dX2_reach_15 (by decide) (fun c15 => ?_) (fun c15 => ?_)
    · exact A_vret (pc := 34) dX2_reach_34 rfl (by decide) (by decide) (⟨rfl, by unfold rcN; rw [if_pos c5, if_neg c15]⟩)
    · refine A_aload0 (pc := 18) dX2_reach_18 ?_
      refine A_getf (pc := 19) flX2_28 dX2_reach_19 rfl rfl ?_
      refine A_iload1 (pc := 22) dX2_reach_22 ?_
      refine A_iload2 (pc := 23) dX2_reach_23 ?_
      refine A_iast (pc := 24) dX2_reach_24 rfl (vp_lt (by decide) (hasI_t c5).1 (hasI_t c5).2.2) ?_
      refine A_aload0 (pc := 25) dX2_reach_25 ?_
      refine A_getf (pc := 26) flX2_36 dX2_reach_26 rfl rfl ?_
      refine A_iload1 (pc := 29) dX2_reach_29 ?_
      refine A_cvi (pc := 30) cvX2_80 (sp_add (r := 6) (a := 7) (cap := 24) rfl rfl (by decide) _) dX2_reach_30 rfl rfl rfl rfl (Nat.le_of_ble_eq_true rfl) (by decide) (by decide) (by decide) ?_
      refine A_pop (pc := 33) dX2_reach_33 rfl ?_
      exact A_vret (pc := 34) dX2_reach_34 rfl (by decide) (by decide) (⟨rfl, by unfold rcN; rw [if_pos c5, if_pos c15]; rfl⟩)

set_option maxHeartbeats 4000000 in
set_option maxRecDepth 100000 in
theorem lp_ra {p : Nat → Int32} {o : OS} {y : RS} {la sc : WS} {wy : YS} {ch : KS} {ko : Nat → Option Nat} {rest : AH} (k : Int32) (m : Nat) : ∀ (i : Nat) (n : NS) (_ : i + m = 4), AW mX2_reachAround 2 0 0 0 0 2 [some (.ref 1), some (.int k), some (.int (nI i))] [] (CH n p o y la sc wy ch ko ++ rest) (P0 (CH (raL k m i n) p o y la sc wy ch ko ++ rest)) := by
  induction m with
  | zero =>
    intro i n hi
    refine A_iload2 (pc := 2) dX2_reachAround_2 ?_
    refine A_iconst (pc := 3) (v := 4) dX2_reachAround_3 (by decide) ?_
    refine A_icmp_ge (pc := 4) (tgt := 30) dX2_reachAround_4 (by decide) (fun c4 => ?_) (fun c4 => absurd (show nI 4 ≤ nI i from nI_le (by omega) (by omega)) c4)
    exact A_vret (pc := 30) dX2_reachAround_30 rfl (by decide) (by decide) (⟨rfl, rfl⟩)
  | succ m ih =>
    intro i n hi
    refine A_iload2 (pc := 2) dX2_reachAround_2 ?_
    refine A_iconst (pc := 3) (v := 4) dX2_reachAround_3 (by decide) ?_
    refine A_icmp_ge (pc := 4) (tgt := 30) dX2_reachAround_4 (by decide) (fun c4 => absurd c4 (show ¬ nI 4 ≤ nI i from nI_ge (by omega) (by omega))) (fun c4 => ?_)
    refine A_aload0 (pc := 7) dX2_reachAround_7 ?_
    refine A_aload0 (pc := 8) dX2_reachAround_8 ?_
    refine A_iload1 (pc := 9) dX2_reachAround_9 ?_
    refine A_iload2 (pc := 10) dX2_reachAround_10 ?_
    refine A_cvi (pc := 11) cvX2_83 (sp_knotAfter (kn := n.1) (sk := n.2.1) (ac := n.2.2.2.1) rfl rfl _ _) dX2_reachAround_11 rfl rfl rfl rfl (Nat.le_of_ble_eq_true rfl) (by decide) (by decide) (by decide) ?_
    refine A_aload0 (pc := 14) dX2_reachAround_14 ?_
    refine A_iload1 (pc := 15) dX2_reachAround_15 ?_
    refine A_cvi (pc := 16) cvX2_74 (sp_distanceFrom (kn := n.1) (sk := n.2.1) (sg := n.2.2.2.2.2.1) rfl rfl _) dX2_reachAround_16 rfl rfl rfl rfl (Nat.le_of_ble_eq_true rfl) (by decide) (by decide) (by decide) ?_
    refine A_iconst (pc := 19) (v := 1) dX2_reachAround_19 (by decide) ?_
    refine A_iadd (pc := 20) dX2_reachAround_20 ?_
    refine A_cvv (pc := 21) cvX2_60 (sp_reach _ _) dX2_reachAround_21 rfl rfl rfl rfl (Nat.le_of_ble_eq_true rfl) (by decide) (by decide) (by decide) ?_
    refine A_iinc2 (pc := 24) dX2_reachAround_24 (by decide) (nI_1 i) ?_
    refine A_goto (pc := 27) (tgt := 2) dX2_reachAround_27 (by decide) ?_
    simp only [raL]
    exact ih (i + 1) _ (by omega)

set_option maxHeartbeats 4000000 in
set_option maxRecDepth 100000 in
theorem sp_reachAround {n : NS} {p : Nat → Int32} {o : OS} {y : RS} {la sc : WS} {wy : YS} {ch : KS} {ko : Nat → Option Nat} {rest : AH} (k : Int32) : AS mX2_reachAround 2 0 0 [.ref 1, .int k] (CH n p o y la sc wy ch ko ++ rest) (P0 (CH (raL k 4 0 n) p o y la sc wy ch ko ++ rest)) := by
  refine AS.go (lv := [some (.ref 1), some (.int k), none]) rfl ?_ (by decide +kernel) rfl (Nat.le_of_ble_eq_true rfl)
  refine A_iconst (pc := 0) (v := 0) dX2_reachAround_0 (by decide) ?_
  refine A_istore2 (pc := 1) dX2_reachAround_1 (by decide) ?_
  exact lp_ra k 4 0 n (by omega)

set_option maxHeartbeats 4000000 in
set_option maxRecDepth 100000 in
theorem lp_m2 {p : Nat → Int32} {o : OS} {y : RS} {la sc : WS} {wy : YS} {ch : KS} {ko : Nat → Option Nat} {rest : AH} (k : Int32) (m : Nat) : ∀ (i : Nat) (n : NS) (_ : i + m = 24), AW mX2_measureTo 3 0 0 0 0 36 [some (.ref 1), some (.int k), some (.int (nI i))] [] (CH n p o y la sc wy ch ko ++ rest) (P0 (CH (m2L m i n) p o y la sc wy ch ko ++ rest)) := by
  induction m with
  | zero =>
    intro i n hi
    refine A_iload2 (pc := 36) dX2_measureTo_36 ?_
    refine A_bipush (pc := 37) (v := 24) dX2_measureTo_37 (by decide) ?_
    refine A_icmp_ge (pc := 39) (tgt := 71) dX2_measureTo_39 (by decide) (fun c39 => ?_) (fun c39 => absurd (show nI 24 ≤ nI i from nI_le (by omega) (by omega)) c39)
    exact A_vret (pc := 71) dX2_measureTo_71 rfl (by decide) (by decide) (⟨rfl, rfl⟩)
  | succ m ih =>
    intro i n hi
    refine A_iload2 (pc := 36) dX2_measureTo_36 ?_
    refine A_bipush (pc := 37) (v := 24) dX2_measureTo_37 (by decide) ?_
    refine A_icmp_ge (pc := 39) (tgt := 71) dX2_measureTo_39 (by decide) (fun c39 => absurd c39 (show ¬ nI 24 ≤ nI i from nI_ge (by omega) (by omega))) (fun c39 => ?_)
    refine A_iload2 (pc := 42) dX2_measureTo_42 ?_
    refine A_aload0 (pc := 43) dX2_measureTo_43 ?_
    refine A_getf (pc := 44) flX2_36 dX2_measureTo_44 rfl rfl ?_
    refine A_getf (pc := 47) flX2_64 dX2_measureTo_47 rfl rfl ?_
    refine A_icmp_ge (pc := 50) (tgt := 71) dX2_measureTo_50 (by decide) (fun c50 => ?_) (fun c50 => ?_)
    · exact A_vret (pc := 71) dX2_measureTo_71 rfl (by decide) (by decide) (⟨rfl, by simp only [m2L, c50, if_true]⟩)
    · refine A_aload0 (pc := 53) dX2_measureTo_53 ?_
      refine A_aload0 (pc := 54) dX2_measureTo_54 ?_
      refine A_getf (pc := 55) flX2_36 dX2_measureTo_55 rfl rfl ?_
      refine A_iload2 (pc := 58) dX2_measureTo_58 ?_
      refine A_cvi (pc := 59) cvX2_67 (sp_at (r := 6) (a := 7) (cap := 24) rfl rfl (by decide) _) dX2_measureTo_59 rfl rfl rfl rfl (Nat.le_of_ble_eq_true rfl) (by decide) (by decide) (by decide) ?_
      refine A_cvv (pc := 62) cvX2_71 (sp_reachAround _) dX2_measureTo_62 rfl rfl rfl rfl (Nat.le_of_ble_eq_true rfl) (by decide) (by decide) (by decide) ?_
      refine A_iinc2 (pc := 65) dX2_measureTo_65 (by decide) (nI_1 i) ?_
      refine A_goto (pc := 68) (tgt := 36) dX2_measureTo_68 (by decide) ?_
      simp only [m2L, c50, if_false]
      exact ih (i + 1) _ (by omega)

set_option maxHeartbeats 4000000 in
set_option maxRecDepth 100000 in
theorem lp_m1 {n : NS} {p : Nat → Int32} {o : OS} {y : RS} {la sc : WS} {wy : YS} {ch : KS} {ko : Nat → Option Nat} {rest : AH} (k : Int32) (m : Nat) : ∀ (i : Nat) (f : Nat → Int32) (_ : i + m = 24), AW mX2_measureTo 3 0 0 0 0 2 [some (.ref 1), some (.int k), some (.int (nI i))] [] (CH (d0N n f) p o y la sc wy ch ko ++ rest) (P0 (CH (m2L 24 0 (rcN (c0N (d0N n (mdL m i f))) k 0)) p o y la sc wy ch ko ++ rest)) := by
  induction m with
  | zero =>
    intro i f hi
    refine A_iload2 (pc := 2) dX2_measureTo_2 ?_
    refine A_bipush (pc := 3) (v := 24) dX2_measureTo_3 (by decide) ?_
    refine A_icmp_ge (pc := 5) (tgt := 21) dX2_measureTo_5 (by decide) (fun c5 => ?_) (fun c5 => absurd (show nI 24 ≤ nI i from nI_le (by omega) (by omega)) c5)
    refine A_aload0 (pc := 21) dX2_measureTo_21 ?_
    refine A_getf (pc := 22) flX2_36 dX2_measureTo_22 rfl rfl ?_
    refine A_cvv (pc := 25) cvX2_57 (sp_clear (r := 6) (a := 7) rfl) dX2_measureTo_25 rfl rfl rfl rfl (Nat.le_of_ble_eq_true rfl) (by decide) (by decide) (by decide) ?_
    refine AW.heq (hp' := CH (c0N (d0N n f)) p o y la sc wy ch ko ++ rest) rfl ?_
    refine A_aload0 (pc := 28) dX2_measureTo_28 ?_
    refine A_iload1 (pc := 29) dX2_measureTo_29 ?_
    refine A_iconst (pc := 30) (v := 0) dX2_measureTo_30 (by decide) ?_
    refine A_cvv (pc := 31) cvX2_60 (sp_reach _ _) dX2_measureTo_31 rfl rfl rfl rfl (Nat.le_of_ble_eq_true rfl) (by decide) (by decide) (by decide) ?_
    refine A_iconst (pc := 34) (v := 0) dX2_measureTo_34 (by decide) ?_
    refine A_istore2 (pc := 35) dX2_measureTo_35 (by decide) ?_
    exact lp_m2 k 24 0 _ (by omega)
  | succ m ih =>
    intro i f hi
    refine A_iload2 (pc := 2) dX2_measureTo_2 ?_
    refine A_bipush (pc := 3) (v := 24) dX2_measureTo_3 (by decide) ?_
    refine A_icmp_ge (pc := 5) (tgt := 21) dX2_measureTo_5 (by decide) (fun c5 => absurd c5 (show ¬ nI 24 ≤ nI i from nI_ge (by omega) (by omega))) (fun c5 => ?_)
    refine A_aload0 (pc := 8) dX2_measureTo_8 ?_
    refine A_getf (pc := 9) flX2_28 dX2_measureTo_9 rfl rfl ?_
    refine A_iload2 (pc := 12) dX2_measureTo_12 ?_
    refine A_iconst (pc := 13) (v := -1) dX2_measureTo_13 (by decide) ?_
    refine A_iast (pc := 14) dX2_measureTo_14 rfl (vp_in_nI (by omega) (by decide)) ?_
    refine AW.heq (hp' := CH (d0N n (upd f i (-1))) p o y la sc wy ch ko ++ rest) (by rw [nI_clamp (by omega)]; rfl) ?_
    refine A_iinc2 (pc := 15) dX2_measureTo_15 (by decide) (nI_1 i) ?_
    refine A_goto (pc := 18) (tgt := 2) dX2_measureTo_18 (by decide) ?_
    simp only [mdL]
    exact ih (i + 1) _ (by omega)

set_option maxHeartbeats 4000000 in
set_option maxRecDepth 100000 in
theorem sp_measureTo {n : NS} {p : Nat → Int32} {o : OS} {y : RS} {la sc : WS} {wy : YS} {ch : KS} {ko : Nat → Option Nat} {rest : AH} (k : Int32) : AS mX2_measureTo 3 0 0 [.ref 1, .int k] (CH n p o y la sc wy ch ko ++ rest) (P0 (CH (mtN n k) p o y la sc wy ch ko ++ rest)) := by
  refine AS.go (lv := [some (.ref 1), some (.int k), none]) rfl ?_ (by decide +kernel) rfl (Nat.le_of_ble_eq_true rfl)
  refine A_iconst (pc := 0) (v := 0) dX2_measureTo_0 (by decide) ?_
  refine A_istore2 (pc := 1) dX2_measureTo_1 (by decide) ?_
  exact lp_m1 (n := n) k 24 0 n.2.2.2.2.2.1 (by omega)

set_option maxHeartbeats 4000000 in
set_option maxRecDepth 100000 in
theorem lp_en {n : NS} {p : Nat → Int32} {o : OS} {y : RS} {la sc : WS} {wy : YS} {ch : KS} {ko : Nat → Option Nat} {rest : AH} (k : Int32) (m : Nat) : ∀ (i : Nat) (_ : i + m = 4) (x3 : Option Value), AW mX2_exitNearer 2 0 0 0 0 2 [some (.ref 1), some (.int k), some (.int (nI i)), x3] [] (CH n p o y la sc wy ch ko ++ rest) (P1 (enL n k m i) (CH n p o y la sc wy ch ko ++ rest)) := by
  induction m with
  | zero =>
    intro i hi x3
    refine A_iload2 (pc := 2) dX2_exitNearer_2 ?_
    refine A_iconst (pc := 3) (v := 4) dX2_exitNearer_3 (by decide) ?_
    refine A_icmp_ge (pc := 4) (tgt := 42) dX2_exitNearer_4 (by decide) (fun c4 => ?_) (fun c4 => absurd (show nI 4 ≤ nI i from nI_le (by omega) (by omega)) c4)
    refine A_iconst (pc := 42) (v := -1) dX2_exitNearer_42 (by decide) ?_
    exact A_iret (pc := 43) dX2_exitNearer_43 rfl rfl (by decide) (by decide) (⟨rfl, rfl⟩)
  | succ m ih =>
    intro i hi x3
    refine A_iload2 (pc := 2) dX2_exitNearer_2 ?_
    refine A_iconst (pc := 3) (v := 4) dX2_exitNearer_3 (by decide) ?_
    refine A_icmp_ge (pc := 4) (tgt := 42) dX2_exitNearer_4 (by decide) (fun c4 => absurd c4 (show ¬ nI 4 ≤ nI i from nI_ge (by omega) (by omega))) (fun c4 => ?_)
    refine A_aload0 (pc := 7) dX2_exitNearer_7 ?_
    refine A_iload1 (pc := 8) dX2_exitNearer_8 ?_
    refine A_iload2 (pc := 9) dX2_exitNearer_9 ?_
    refine A_cvi (pc := 10) cvX2_83 (sp_knotAfter (kn := n.1) (sk := n.2.1) (ac := n.2.2.2.1) rfl rfl _ _) dX2_exitNearer_10 rfl rfl rfl rfl (Nat.le_of_ble_eq_true rfl) (by decide) (by decide) (by decide) ?_
    refine A_istore3 (pc := 13) dX2_exitNearer_13 (by decide) ?_
    refine A_iload3 (pc := 14) dX2_exitNearer_14 ?_
    refine A_iconst (pc := 15) (v := -1) dX2_exitNearer_15 (by decide) ?_
    refine A_icmp_eq (pc := 16) (tgt := 36) dX2_exitNearer_16 (by decide) (fun c16 => ?_) (fun c16 => ?_)
    · refine A_iinc2 (pc := 36) dX2_exitNearer_36 (by decide) (nI_1 i) ?_
      refine A_goto (pc := 39) (tgt := 2) dX2_exitNearer_39 (by decide) ?_
      simp only [enL, *, if_true, if_false]
      exact ih (i + 1) (by omega) _
    · refine A_aload0 (pc := 19) dX2_exitNearer_19 ?_
      refine A_iload3 (pc := 20) dX2_exitNearer_20 ?_
      refine A_cvi (pc := 21) cvX2_74 (sp_distanceFrom (kn := n.1) (sk := n.2.1) (sg := n.2.2.2.2.2.1) rfl rfl _) dX2_exitNearer_21 rfl rfl rfl rfl (Nat.le_of_ble_eq_true rfl) (by decide) (by decide) (by decide) ?_
      refine A_aload0 (pc := 24) dX2_exitNearer_24 ?_
      refine A_iload1 (pc := 25) dX2_exitNearer_25 ?_
      refine A_cvi (pc := 26) cvX2_74 (sp_distanceFrom (kn := n.1) (sk := n.2.1) (sg := n.2.2.2.2.2.1) rfl rfl _) dX2_exitNearer_26 rfl rfl rfl rfl (Nat.le_of_ble_eq_true rfl) (by decide) (by decide) (by decide) ?_
      refine A_iconst (pc := 29) (v := 1) dX2_exitNearer_29 (by decide) ?_
      refine A_isub (pc := 30) dX2_exitNearer_30 ?_
      refine A_icmp_ne (pc := 31) (tgt := 36) dX2_exitNearer_31 (by decide) (fun c31 => ?_) (fun c31 => ?_)
      · refine A_iinc2 (pc := 36) dX2_exitNearer_36 (by decide) (nI_1 i) ?_
        refine A_goto (pc := 39) (tgt := 2) dX2_exitNearer_39 (by decide) ?_
        simp only [enL, *, if_true, if_false]
        exact ih (i + 1) (by omega) _
      · refine A_iload2 (pc := 34) dX2_exitNearer_34 ?_
        exact A_iret (pc := 35) dX2_exitNearer_35 rfl rfl (by decide) (by decide) (⟨by simp only [enL, *, if_true, if_false], rfl⟩)

set_option maxHeartbeats 4000000 in
set_option maxRecDepth 100000 in
theorem sp_exitNearer {n : NS} {p : Nat → Int32} {o : OS} {y : RS} {la sc : WS} {wy : YS} {ch : KS} {ko : Nat → Option Nat} {rest : AH} (k : Int32) : AS mX2_exitNearer 2 0 0 [.ref 1, .int k] (CH n p o y la sc wy ch ko ++ rest) (P1 (enL n k 4 0) (CH n p o y la sc wy ch ko ++ rest)) := by
  refine AS.go (lv := [some (.ref 1), some (.int k), none, none]) rfl ?_ (by decide +kernel) rfl (Nat.le_of_ble_eq_true rfl)
  refine A_iconst (pc := 0) (v := 0) dX2_exitNearer_0 (by decide) ?_
  refine A_istore2 (pc := 1) dX2_exitNearer_1 (by decide) ?_
  exact lp_en k 4 0 (by omega) none

set_option maxHeartbeats 4000000 in
set_option maxRecDepth 100000 in
theorem lp_as {n : NS} {p : Nat → Int32} {o : OS} {y : RS} {la sc : WS} {ch : KS} {ko : Nat → Option Nat} {rest : AH} (fr : Int32) (m : Nat) : ∀ (k : Int32) (wy : YS) (_ : m < 2 ^ 31) (x5 : Option Value), AW mX2_addShortest 3 0 0 0 0 9 [some (.ref 1), some (.int fr), some (.ref 18), some (.int k), some (.int (nI m)), x5] [] (CH n p o y la sc wy ch ko ++ rest) (P0 (CH n p o y la sc (asL n m k wy) ch ko ++ rest)) := by
  induction m with
  | zero =>
    intro k wy hm x5
    refine A_iload4 (pc := 9) dX2_addShortest_9 ?_
    refine A_if_le (pc := 11) (tgt := 42) dX2_addShortest_11 (by decide) (fun c11 => ?_) (fun c11 => absurd (show nI 0 ≤ 0 from by decide) c11)
    exact A_vret (pc := 42) dX2_addShortest_42 rfl (by decide) (by decide) (⟨rfl, rfl⟩)
  | succ m ih =>
    intro k wy hm x5
    refine A_iload4 (pc := 9) dX2_addShortest_9 ?_
    refine A_if_le (pc := 11) (tgt := 42) dX2_addShortest_11 (by decide) (fun c11 => absurd c11 (show ¬ nI (m + 1) ≤ 0 from nI_nle (by omega) hm)) (fun c11 => ?_)
    refine A_aload0 (pc := 14) dX2_addShortest_14 ?_
    refine A_iload3 (pc := 15) dX2_addShortest_15 ?_
    refine A_cvi (pc := 16) cvX2_77 (sp_exitNearer _) dX2_addShortest_16 rfl rfl rfl rfl (Nat.le_of_ble_eq_true rfl) (by decide) (by decide) (by decide) ?_
    refine A_istore5 (pc := 19) dX2_addShortest_19 (by decide) ?_
    refine A_aload2 (pc := 21) dX2_addShortest_21 ?_
    refine A_iload5 (pc := 22) dX2_addShortest_22 ?_
    refine A_cvi (pc := 24) cvX2_80 (sp_add (r := 18) (a := 19) (cap := 30) rfl rfl (by decide) _) dX2_addShortest_24 rfl rfl rfl rfl (Nat.le_of_ble_eq_true rfl) (by decide) (by decide) (by decide) ?_
    refine AW.heq (hp' := CH n p o y la sc (yA wy (enL n k 4 0)) ch ko ++ rest) rfl ?_
    refine A_pop (pc := 27) dX2_addShortest_27 rfl ?_
    refine A_aload0 (pc := 28) dX2_addShortest_28 ?_
    refine A_iload3 (pc := 29) dX2_addShortest_29 ?_
    refine A_iload5 (pc := 30) dX2_addShortest_30 ?_
    refine A_cvi (pc := 32) cvX2_83 (sp_knotAfter (kn := n.1) (sk := n.2.1) (ac := n.2.2.2.1) rfl rfl _ _) dX2_addShortest_32 rfl rfl rfl rfl (Nat.le_of_ble_eq_true rfl) (by decide) (by decide) (by decide) ?_
    refine A_istore3 (pc := 35) dX2_addShortest_35 (by decide) ?_
    refine A_iinc4 (pc := 36) dX2_addShortest_36 (by decide) (pk_m1 m) ?_
    refine A_goto (pc := 39) (tgt := 9) dX2_addShortest_39 (by decide) ?_
    simp only [asL]
    exact ih _ _ (by omega) _

set_option maxHeartbeats 4000000 in
set_option maxRecDepth 100000 in
theorem sp_addShortest {n : NS} {p : Nat → Int32} {o : OS} {y : RS} {la sc : WS} {wy : YS} {ch : KS} {ko : Nat → Option Nat} {rest : AH} (fr : Int32) {D : Nat} (hD : siI n.1 n.2.2.2.2.2.1 fr = nI D) (hD2 : D < 2 ^ 31) : AS mX2_addShortest 3 0 0 [.ref 1, .int fr, .ref 18] (CH n p o y la sc wy ch ko ++ rest) (P0 (CH n p o y la sc (asL n D fr wy) ch ko ++ rest)) := by
  refine AS.go (lv := [some (.ref 1), some (.int fr), some (.ref 18), none, none, none]) rfl ?_ (by decide +kernel) rfl (Nat.le_of_ble_eq_true rfl)
  refine A_iload1 (pc := 0) dX2_addShortest_0 ?_
  refine A_istore3 (pc := 1) dX2_addShortest_1 (by decide) ?_
  refine A_aload0 (pc := 2) dX2_addShortest_2 ?_
  refine A_iload1 (pc := 3) dX2_addShortest_3 ?_
  refine A_cvi (pc := 4) cvX2_74 (sp_distanceFrom (kn := n.1) (sk := n.2.1) (sg := n.2.2.2.2.2.1) rfl rfl _) dX2_addShortest_4 rfl rfl rfl rfl (Nat.le_of_ble_eq_true rfl) (by decide) (by decide) (by decide) ?_
  rw [hD]
  refine A_istore4 (pc := 7) dX2_addShortest_7 (by decide) ?_
  exact lp_as fr D fr wy hD2 none
