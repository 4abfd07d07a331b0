/-! the class's own private methods -/
def alI (al k : Int32) : Bool := if (al >>> (k &&& 31)) &&& 1 = 1 then true else false
def prI (p : Nat → Int32) (k : Int32) : Int32 := if kiI k = true then p k.toNatClampNeg else 0
def prL (p : Nat → Int32) (y : RS) : Nat → Nat → Int32 → Int32
  | 0, _, s => s
  | m + 1, i, s => prL p y m (i + 1) (s + prI p (atI 60 y.1 y.2 (nI i) / 10))
def gaL (n : NS) (wy : YS) (e ot : Int32) : Nat → Nat → Int32 → Bool
  | 0, _, _ => false
  | m + 1, i, k => if k * 4 + atI 30 wy.2.2.2.1 wy.2.2.2.2 (nI i) = e then true else if k * 4 + atI 30 wy.2.2.2.1 wy.2.2.2.2 (nI i) = ot then true else gaL n wy e ot m (i + 1) (acI n.2.2.2.1 k (atI 30 wy.2.2.2.1 wy.2.2.2.2 (nI i)) / 4)
def paI (n : NS) (pl e : Int32) : Int32 := acI n.2.2.2.1 (pl / 4) e / 4 * 4 + remI (acI n.2.2.2.1 (pl / 4) e + 2)
def lpL (n : NS) (wy : YS) : Nat → Nat → Int32 → Int32
  | 0, _, pl => pl
  | m + 1, i, pl => lpL n wy m (i + 1) (paI n pl (atI 30 wy.2.2.2.1 wy.2.2.2.2 (nI i)))
def iwQ (n : NS) (sc : WS) (kn fa : Int32) (cap : Nat) (sz : Int32) (g : Nat → Int32) (Z : Nat) : Int32 × WS := faL n cap sz g (-1) Z 0 (stW sc kn fa)
def iwI (q : Int32 × WS) (ecap : Nat) (ez : Int32) (eg : Nat → Int32) (EZ : Nat) : Bool := if q.1 = -1 then (if q.2.2.2.1 = ez then wnI q.2 ecap ez eg 0 EZ else false) else false
def opL (p : Nat → Int32) : Nat → Nat → KS → KS
  | 0, _, ch => ch
  | m + 1, i, ch => opL p m (i + 1) (spK ch (nI i) (prI p (sa_f 0 i / 10)))
def opK (p : Nat → Int32) (ch : KS) (NP : Nat) : KS := opL p 29 0 (clK ch NP)
def sfW (n : NS) (al : Int32) (sc : WS) (pl s : Int32) : Bool × WS := if alI al (s / 10) = true then flW n (stW sc (pl / 4) (remI pl)) (s / 10) (s - s / 10 * 10) 1 else (false, sc)
theorem kiI_t {k : Int32} (h : kiI k = true) : vp_in k 9 := by
  unfold kiI at h
  split at h
  · cases h
  · split at h
    · cases h
    · exact vp_lt (by decide) (by assumption) (by assumption)
theorem spK_1 (ch : KS) (s v : Int32) : (spK ch s v).1 = ch.1 := by unfold spK; split <;> rfl
theorem sgK_1 (ch : KS) (x : Int32) : (sgK ch x).1 = ch.1 := by unfold sgK; split <;> rfl
theorem slK_1 (ch : KS) (x s to : Int32) : (slK ch x s to).1 = ch.1 := by unfold slK; split <;> (try split) <;> rfl
theorem opL_1 (p : Nat → Int32) (m : Nat) : ∀ (i : Nat) (ch : KS), (opL p m i ch).1 = ch.1 := by
  induction m with
  | zero => intro i ch; rfl
  | succ m ih => intro i ch; unfold opL; rw [ih, spK_1]

set_option maxHeartbeats 4000000 in
set_option maxRecDepth 100000 in
theorem sp_isAllowed {n : NS} {p : Nat → Int32} {o : OS} {y : RS} {la sc : WS} {wy : YS} {ch : KS} {ko : Nat → Option Nat} {rest : AH} (k : Int32) : AS mX6_isAllowed 0 0 0 [.ref 0, .int k] (CH n p o y la sc wy ch ko ++ rest) (P1 (bI (alI o.1 k)) (CH n p o y la sc wy ch ko ++ rest)) := by
  refine AS.go (lv := [some (.ref 0), some (.int k)]) rfl ?_ (by decide +kernel) rfl (Nat.le_of_ble_eq_true rfl)
  refine A_aload0 (pc := 0) dX6_isAllowed_0 ?_
  refine A_getf (pc := 1) flX6_20 dX6_isAllowed_1 rfl rfl ?_
  refine A_iload1 (pc := 4) dX6_isAllowed_4 ?_
  refine A_ishr (pc := 5) dX6_isAllowed_5 ?_
  refine A_iconst (pc := 6) (v := 1) dX6_isAllowed_6 (by decide) ?_
  refine A_iand (pc := 7) dX6_isAllowed_7 ?_
  refine A_iconst (pc := 8) (v := 1) dX6_isAllowed_8 (by decide) ?_
  refine A_icmp_ne (pc := 9) (tgt := 16) dX6_isAllowed_9 (by decide) (fun c9 => ?_) (fun c9 => ?_)
  · refine A_iconst (pc := 16) (v := 0) dX6_isAllowed_16 (by decide) ?_
    exact A_iret (pc := 17) dX6_isAllowed_17 rfl rfl (by decide) (by decide) (⟨by simp [alI, *, bI], rfl⟩)
  · refine A_iconst (pc := 12) (v := 1) dX6_isAllowed_12 (by decide) ?_
    refine A_goto (pc := 13) (tgt := 17) dX6_isAllowed_13 (by decide) ?_
    exact A_iret (pc := 17) dX6_isAllowed_17 rfl rfl (by decide) (by decide) (⟨by simp [alI, *, bI], rfl⟩)

set_option maxHeartbeats 4000000 in
set_option maxRecDepth 100000 in
theorem sp_priceOf {n : NS} {p : Nat → Int32} {o : OS} {y : RS} {la sc : WS} {wy : YS} {ch : KS} {ko : Nat → Option Nat} {rest : AH} (k : Int32) : AS mX6_priceOf 1 0 0 [.ref 0, .int k] (CH n p o y la sc wy ch ko ++ rest) (P1 (prI p k) (CH n p o y la sc wy ch ko ++ rest)) := by
  refine AS.go (lv := [some (.ref 0), some (.int k)]) rfl ?_ (by decide +kernel) rfl (Nat.le_of_ble_eq_true rfl)
  refine A_iload1 (pc := 0) dX6_priceOf_0 ?_
  refine A_csi (pc := 1) csX6_129 (sp_isKind k) dX6_priceOf_1 rfl rfl (Nat.le_of_ble_eq_true rfl) (by decide) (by decide) (by decide) ?_
  refine A_if_eq (pc := 4) (tgt := 16) dX6_priceOf_4 (by decide) (fun c4 => ?_) (fun c4 => ?_)
  · replace c4 := (bI_eq _).mp c4
    refine A_iconst (pc := 16) (v := 0) dX6_priceOf_16 (by decide) ?_
    exact A_iret (pc := 17) dX6_priceOf_17 rfl rfl (by decide) (by decide) (⟨by simp [prI, *], rfl⟩)
  · replace c4 := (bI_ne _).mp c4
    refine A_aload0 (pc := 7) dX6_priceOf_7 ?_
    refine A_getf (pc := 8) flX6_16 dX6_priceOf_8 rfl rfl ?_
    refine A_iload1 (pc := 11) dX6_priceOf_11 ?_
    refine A_iald (pc := 12) dX6_priceOf_12 rfl (kiI_t c4) ?_
    refine A_goto (pc := 13) (tgt := 17) dX6_priceOf_13 (by decide) ?_
    exact A_iret (pc := 17) dX6_priceOf_17 rfl rfl (by decide) (by decide) (⟨by simp [prI, *], rfl⟩)

set_option maxHeartbeats 4000000 in
set_option maxRecDepth 100000 in
theorem lp_pos {n : NS} {p : Nat → Int32} {o : OS} {y : RS} {la sc : WS} {wy : YS} {ch : KS} {ko : Nat → Option Nat} {rest : AH} {Z : Nat} (hz : y.1 = nI Z) (hZ : Z < 2 ^ 31)  (m : Nat) : ∀ (i : Nat) (s : Int32) (_ : i + m = Z), AW mX6_priceOfSaid 2 0 0 0 0 4 [some (.ref 0), some (.int s), some (.int (nI i))] [] (CH n p o y la sc wy ch ko ++ rest) (P1 (prL p y m i s) (CH n p o y la sc wy ch ko ++ rest)) := by
  induction m with
  | zero =>
    intro i s hi
    refine A_iload2 (pc := 4) dX6_priceOfSaid_4 ?_
    refine A_aload0 (pc := 5) dX6_priceOfSaid_5 ?_
    refine A_getf (pc := 6) flX6_29 dX6_priceOfSaid_6 rfl rfl ?_
    refine A_getf (pc := 9) flX6_141 dX6_priceOfSaid_9 rfl rfl ?_
    refine A_icmp_ge (pc := 12) (tgt := 39) dX6_priceOfSaid_12 (by decide) (fun c12 => ?_) (fun c12 => absurd (show y.1 ≤ nI i from by rw [hz]; exact nI_le (by omega) (by omega)) c12)
    refine A_iload1 (pc := 39) dX6_priceOfSaid_39 ?_
    exact A_iret (pc := 40) dX6_priceOfSaid_40 rfl rfl (by decide) (by decide) (⟨rfl, rfl⟩)
  | succ m ih =>
    intro i s hi
    refine A_iload2 (pc := 4) dX6_priceOfSaid_4 ?_
    refine A_aload0 (pc := 5) dX6_priceOfSaid_5 ?_
    refine A_getf (pc := 6) flX6_29 dX6_priceOfSaid_6 rfl rfl ?_
    refine A_getf (pc := 9) flX6_141 dX6_priceOfSaid_9 rfl rfl ?_
    refine A_icmp_ge (pc := 12) (tgt := 39) dX6_priceOfSaid_12 (by decide) (fun c12 => absurd c12 (show ¬ y.1 ≤ nI i from by rw [hz]; exact nI_ge (by omega) hZ)) (fun c12 => ?_)
    refine A_iload1 (pc := 15) dX6_priceOfSaid_15 ?_
    refine A_aload0 (pc := 16) dX6_priceOfSaid_16 ?_
    refine A_aload0 (pc := 17) dX6_priceOfSaid_17 ?_
    refine A_getf (pc := 18) flX6_29 dX6_priceOfSaid_18 rfl rfl ?_
    refine A_iload2 (pc := 21) dX6_priceOfSaid_21 ?_
    refine A_cvi (pc := 22) cvX6_147 (sp_at (r := 9) (a := 10) (cap := 60) rfl rfl (by decide) _) dX6_priceOfSaid_22 rfl rfl rfl rfl (Nat.le_of_ble_eq_true rfl) (by decide) (by decide) (by decide) ?_
    refine A_csi (pc := 25) csX6_233 (sp_kindOf _) dX6_priceOfSaid_25 rfl rfl (Nat.le_of_ble_eq_true rfl) (by decide) (by decide) (by decide) ?_
    refine A_cvi (pc := 28) cvX6_236 (sp_priceOf _) dX6_priceOfSaid_28 rfl rfl rfl rfl (Nat.le_of_ble_eq_true rfl) (by decide) (by decide) (by decide) ?_
    refine A_iadd (pc := 31) dX6_priceOfSaid_31 ?_
    refine A_istore1 (pc := 32) dX6_priceOfSaid_32 (by decide) ?_
    refine A_iinc2 (pc := 33) dX6_priceOfSaid_33 (by decide) (nI_1 i) ?_
    refine A_goto (pc := 36) (tgt := 4) dX6_priceOfSaid_36 (by decide) ?_
    simp only [prL]
    exact ih (i + 1) _ (by omega)

set_option maxHeartbeats 4000000 in
set_option maxRecDepth 100000 in
theorem sp_priceOfSaid {n : NS} {p : Nat → Int32} {o : OS} {y : RS} {la sc : WS} {wy : YS} {ch : KS} {ko : Nat → Option Nat} {rest : AH} {Z : Nat} (hz : y.1 = nI Z) (hZ : Z < 2 ^ 31)  : AS mX6_priceOfSaid 2 0 0 [.ref 0] (CH n p o y la sc wy ch ko ++ rest) (P1 (prL p y Z 0 0) (CH n p o y la sc wy ch ko ++ rest)) := by
  refine AS.go (lv := [some (.ref 0), none, none]) rfl ?_ (by decide +kernel) rfl (Nat.le_of_ble_eq_true rfl)
  refine A_iconst (pc := 0) (v := 0) dX6_priceOfSaid_0 (by decide) ?_
  refine A_istore1 (pc := 1) dX6_priceOfSaid_1 (by decide) ?_
  refine A_iconst (pc := 2) (v := 0) dX6_priceOfSaid_2 (by decide) ?_
  refine A_istore2 (pc := 3) dX6_priceOfSaid_3 (by decide) ?_
  exact lp_pos hz hZ Z 0 0 (by omega)

set_option maxHeartbeats 4000000 in
set_option maxRecDepth 100000 in
theorem lp_ga {n : NS} {p : Nat → Int32} {o : OS} {y : RS} {la sc : WS} {wy : YS} {ch : KS} {ko : Nat → Option Nat} {rest : AH} {E : Nat} (he : wy.2.2.2.1 = nI E) (hE : E < 2 ^ 31) (e ot : Int32) (m : Nat) : ∀ (i : Nat) (k : Int32) (_ : i + m = E) (x5 x6 : Option Value), AW mX6_goesAlong 1 0 0 0 0 23 [some (.ref 0), some (.int e), some (.int ot), some (.int k), some (.int (nI i)), x5, x6] [] (CH n p o y la sc wy ch ko ++ rest) (P1 (bI (gaL n wy e ot m i k)) (CH n p o y la sc wy ch ko ++ rest)) := by
  induction m with
  | zero =>
    intro i k hi x5 x6
    refine A_iload4 (pc := 23) dX6_goesAlong_23 ?_
    refine A_aload0 (pc := 25) dX6_goesAlong_25 ?_
    refine A_getf (pc := 26) flX6_52 dX6_goesAlong_26 rfl rfl ?_
    refine A_getf (pc := 29) flX6_188 dX6_goesAlong_29 rfl rfl ?_
    refine A_getf (pc := 32) flX6_141 dX6_goesAlong_32 rfl rfl ?_
    refine A_icmp_ge (pc := 35) (tgt := 94) dX6_goesAlong_35 (by decide) (fun c35 => ?_) (fun c35 => absurd (show wy.2.2.2.1 ≤ nI i from by rw [he]; exact nI_le (by omega) (by omega)) c35)
    refine A_iconst (pc := 94) (v := 0) dX6_goesAlong_94 (by decide) ?_
    exact A_iret (pc := 95) dX6_goesAlong_95 rfl rfl (by decide) (by decide) (⟨rfl, rfl⟩)
  | succ m ih =>
    intro i k hi x5 x6
    refine A_iload4 (pc := 23) dX6_goesAlong_23 ?_
    refine A_aload0 (pc := 25) dX6_goesAlong_25 ?_
    refine A_getf (pc := 26) flX6_52 dX6_goesAlong_26 rfl rfl ?_
    refine A_getf (pc := 29) flX6_188 dX6_goesAlong_29 rfl rfl ?_
    refine A_getf (pc := 32) flX6_141 dX6_goesAlong_32 rfl rfl ?_
    refine A_icmp_ge (pc := 35) (tgt := 94) dX6_goesAlong_35 (by decide) (fun c35 => absurd c35 (show ¬ wy.2.2.2.1 ≤ nI i from by rw [he]; exact nI_ge (by omega) hE)) (fun c35 => ?_)
    refine A_aload0 (pc := 38) dX6_goesAlong_38 ?_
    refine A_getf (pc := 39) flX6_52 dX6_goesAlong_39 rfl rfl ?_
    refine A_getf (pc := 42) flX6_188 dX6_goesAlong_42 rfl rfl ?_
    refine A_iload4 (pc := 45) dX6_goesAlong_45 ?_
    refine A_cvi (pc := 47) cvX6_147 (sp_at (r := 18) (a := 19) (cap := 30) rfl rfl (by decide) _) dX6_goesAlong_47 rfl rfl rfl rfl (Nat.le_of_ble_eq_true rfl) (by decide) (by decide) (by decide) ?_
    refine A_istore5 (pc := 50) dX6_goesAlong_50 (by decide) ?_
    refine A_iload3 (pc := 52) dX6_goesAlong_52 ?_
    refine A_iload5 (pc := 53) dX6_goesAlong_53 ?_
    refine A_csi (pc := 55) csX6_93 (sp_placeOf _ _) dX6_goesAlong_55 rfl rfl (Nat.le_of_ble_eq_true rfl) (by decide) (by decide) (by decide) ?_
    refine A_istore6 (pc := 58) dX6_goesAlong_58 (by decide) ?_
    refine A_iload6 (pc := 60) dX6_goesAlong_60 ?_
    refine A_iload1 (pc := 62) dX6_goesAlong_62 ?_
    refine A_icmp_eq (pc := 63) (tgt := 72) dX6_goesAlong_63 (by decide) (fun c63 => ?_) (fun c63 => ?_)
    · refine A_iconst (pc := 72) (v := 1) dX6_goesAlong_72 (by decide) ?_
      exact A_iret (pc := 73) dX6_goesAlong_73 rfl rfl (by decide) (by decide) (⟨by unfold gaL; rw [if_pos c63]; rfl, rfl⟩)
    · refine A_iload6 (pc := 66) dX6_goesAlong_66 ?_
      refine A_iload2 (pc := 68) dX6_goesAlong_68 ?_
      refine A_icmp_ne (pc := 69) (tgt := 74) dX6_goesAlong_69 (by decide) (fun c69 => ?_) (fun c69 => ?_)
      · refine A_aload0 (pc := 74) dX6_goesAlong_74 ?_
        refine A_getf (pc := 75) flX6_12 dX6_goesAlong_75 rfl rfl ?_
        refine A_iload3 (pc := 78) dX6_goesAlong_78 ?_
        refine A_iload5 (pc := 79) dX6_goesAlong_79 ?_
        refine A_cvi (pc := 81) cvX6_101 (sp_across (kn := n.1) (sk := n.2.1) (ac := n.2.2.2.1) rfl rfl _ _) dX6_goesAlong_81 rfl rfl rfl rfl (Nat.le_of_ble_eq_true rfl) (by decide) (by decide) (by decide) ?_
        refine A_csi (pc := 84) csX6_120 (sp_knotOf _) dX6_goesAlong_84 rfl rfl (Nat.le_of_ble_eq_true rfl) (by decide) (by decide) (by decide) ?_
        refine A_istore3 (pc := 87) dX6_goesAlong_87 (by decide) ?_
        refine A_iinc4 (pc := 88) dX6_goesAlong_88 (by decide) (nI_1 i) ?_
        refine A_goto (pc := 91) (tgt := 23) dX6_goesAlong_91 (by decide) ?_
        simp only [gaL, c63, c69, if_false]
        exact ih (i + 1) _ (by omega) _ _
      · refine A_iconst (pc := 72) (v := 1) dX6_goesAlong_72 (by decide) ?_
        exact A_iret (pc := 73) dX6_goesAlong_73 rfl rfl (by decide) (by decide) (⟨by unfold gaL; rw [if_neg c63, if_pos c69]; rfl, rfl⟩)

set_option maxHeartbeats 4000000 in
set_option maxRecDepth 100000 in
theorem sp_goesAlong {n : NS} {p : Nat → Int32} {o : OS} {y : RS} {la sc : WS} {wy : YS} {ch : KS} {ko : Nat → Option Nat} {rest : AH} {E : Nat} (he : wy.2.2.2.1 = nI E) (hE : E < 2 ^ 31) (e ot : Int32) : AS mX6_goesAlong 1 0 0 [.ref 0, .int e, .int ot] (CH n p o y la sc wy ch ko ++ rest) (P1 (bI (if wy.1 = 0 then false else gaL n wy e ot E 0 wy.2.1)) (CH n p o y la sc wy ch ko ++ rest)) := by
  refine AS.go (lv := [some (.ref 0), some (.int e), some (.int ot), none, none, none, none]) rfl ?_ (by decide +kernel) rfl (Nat.le_of_ble_eq_true rfl)
  refine A_aload0 (pc := 0) dX6_goesAlong_0 ?_
  refine A_getf (pc := 1) flX6_52 dX6_goesAlong_1 rfl rfl ?_
  refine A_getf (pc := 4) flX6_107 dX6_goesAlong_4 rfl rfl ?_
  refine A_if_ne (pc := 7) (tgt := 12) dX6_goesAlong_7 (by decide) (fun c7 => ?_) (fun c7 => ?_)
  · refine A_aload0 (pc := 12) dX6_goesAlong_12 ?_
    refine A_getf (pc := 13) flX6_52 dX6_goesAlong_13 rfl rfl ?_
    refine A_getf (pc := 16) flX6_192 dX6_goesAlong_16 rfl rfl ?_
    refine A_istore3 (pc := 19) dX6_goesAlong_19 (by decide) ?_
    refine A_iconst (pc := 20) (v := 0) dX6_goesAlong_20 (by decide) ?_
    refine A_istore4 (pc := 21) dX6_goesAlong_21 (by decide) ?_
    rw [if_neg c7]
    exact lp_ga he hE e ot E 0 _ (by omega) none none
  · refine A_iconst (pc := 10) (v := 0) dX6_goesAlong_10 (by decide) ?_
    exact A_iret (pc := 11) dX6_goesAlong_11 rfl rfl (by decide) (by decide) (⟨by rw [if_pos c7]; rfl, rfl⟩)

set_option maxHeartbeats 4000000 in
set_option maxRecDepth 100000 in
theorem sp_placeAfter {n : NS} {p : Nat → Int32} {o : OS} {y : RS} {la sc : WS} {wy : YS} {ch : KS} {ko : Nat → Option Nat} {rest : AH} (pl e : Int32) : AS mX6_placeAfter 1 0 0 [.ref 0, .int pl, .int e] (CH n p o y la sc wy ch ko ++ rest) (P1 (paI n pl e) (CH n p o y la sc wy ch ko ++ rest)) := by
  refine AS.go (lv := [some (.ref 0), some (.int pl), some (.int e), none]) rfl ?_ (by decide +kernel) rfl (Nat.le_of_ble_eq_true rfl)
  refine A_aload0 (pc := 0) dX6_placeAfter_0 ?_
  refine A_getf (pc := 1) flX6_12 dX6_placeAfter_1 rfl rfl ?_
  refine A_iload1 (pc := 4) dX6_placeAfter_4 ?_
  refine A_csi (pc := 5) csX6_120 (sp_knotOf _) dX6_placeAfter_5 rfl rfl (Nat.le_of_ble_eq_true rfl) (by decide) (by decide) (by decide) ?_
  refine A_iload2 (pc := 8) dX6_placeAfter_8 ?_
  refine A_cvi (pc := 9) cvX6_101 (sp_across (kn := n.1) (sk := n.2.1) (ac := n.2.2.2.1) rfl rfl _ _) dX6_placeAfter_9 rfl rfl rfl rfl (Nat.le_of_ble_eq_true rfl) (by decide) (by decide) (by decide) ?_
  refine A_istore3 (pc := 12) dX6_placeAfter_12 (by decide) ?_
  refine A_iload3 (pc := 13) dX6_placeAfter_13 ?_
  refine A_csi (pc := 14) csX6_120 (sp_knotOf _) dX6_placeAfter_14 rfl rfl (Nat.le_of_ble_eq_true rfl) (by decide) (by decide) (by decide) ?_
  refine A_iload3 (pc := 17) dX6_placeAfter_17 ?_
  refine A_csi (pc := 18) csX6_123 (sp_facingFrom _) dX6_placeAfter_18 rfl rfl (Nat.le_of_ble_eq_true rfl) (by decide) (by decide) (by decide) ?_
  refine A_csi (pc := 21) csX6_93 (sp_placeOf _ _) dX6_placeAfter_21 rfl rfl (Nat.le_of_ble_eq_true rfl) (by decide) (by decide) (by decide) ?_
  exact A_iret (pc := 24) dX6_placeAfter_24 rfl rfl (by decide) (by decide) (⟨rfl, rfl⟩)

set_option maxHeartbeats 4000000 in
set_option maxRecDepth 100000 in
theorem lp_lp {n : NS} {p : Nat → Int32} {o : OS} {y : RS} {la sc : WS} {wy : YS} {ch : KS} {ko : Nat → Option Nat} {rest : AH} {E : Nat} (he : wy.2.2.2.1 = nI E) (hE : E < 2 ^ 31)  (m : Nat) : ∀ (i : Nat) (pl : Int32) (_ : i + m = E), AW mX6_lastPlace 2 0 0 0 0 20 [some (.ref 0), some (.int pl), some (.int (nI i))] [] (CH n p o y la sc wy ch ko ++ rest) (P1 (lpL n wy m i pl) (CH n p o y la sc wy ch ko ++ rest)) := by
  induction m with
  | zero =>
    intro i pl hi
    refine A_iload2 (pc := 20) dX6_lastPlace_20 ?_
    refine A_aload0 (pc := 21) dX6_lastPlace_21 ?_
    refine A_getf (pc := 22) flX6_52 dX6_lastPlace_22 rfl rfl ?_
    refine A_getf (pc := 25) flX6_188 dX6_lastPlace_25 rfl rfl ?_
    refine A_getf (pc := 28) flX6_141 dX6_lastPlace_28 rfl rfl ?_
    refine A_icmp_ge (pc := 31) (tgt := 57) dX6_lastPlace_31 (by decide) (fun c31 => ?_) (fun c31 => absurd (show wy.2.2.2.1 ≤ nI i from by rw [he]; exact nI_le (by omega) (by omega)) c31)
    refine A_iload1 (pc := 57) dX6_lastPlace_57 ?_
    exact A_iret (pc := 58) dX6_lastPlace_58 rfl rfl (by decide) (by decide) (⟨rfl, rfl⟩)
  | succ m ih =>
    intro i pl hi
    refine A_iload2 (pc := 20) dX6_lastPlace_20 ?_
    refine A_aload0 (pc := 21) dX6_lastPlace_21 ?_
    refine A_getf (pc := 22) flX6_52 dX6_lastPlace_22 rfl rfl ?_
    refine A_getf (pc := 25) flX6_188 dX6_lastPlace_25 rfl rfl ?_
    refine A_getf (pc := 28) flX6_141 dX6_lastPlace_28 rfl rfl ?_
    refine A_icmp_ge (pc := 31) (tgt := 57) dX6_lastPlace_31 (by decide) (fun c31 => absurd c31 (show ¬ wy.2.2.2.1 ≤ nI i from by rw [he]; exact nI_ge (by omega) hE)) (fun c31 => ?_)
    refine A_aload0 (pc := 34) dX6_lastPlace_34 ?_
    refine A_iload1 (pc := 35) dX6_lastPlace_35 ?_
    refine A_aload0 (pc := 36) dX6_lastPlace_36 ?_
    refine A_getf (pc := 37) flX6_52 dX6_lastPlace_37 rfl rfl ?_
    refine A_getf (pc := 40) flX6_188 dX6_lastPlace_40 rfl rfl ?_
    refine A_iload2 (pc := 43) dX6_lastPlace_43 ?_
    refine A_cvi (pc := 44) cvX6_147 (sp_at (r := 18) (a := 19) (cap := 30) rfl rfl (by decide) _) dX6_lastPlace_44 rfl rfl rfl rfl (Nat.le_of_ble_eq_true rfl) (by decide) (by decide) (by decide) ?_
    refine A_cvi (pc := 47) cvX6_239 (sp_placeAfter _ _) dX6_lastPlace_47 rfl rfl rfl rfl (Nat.le_of_ble_eq_true rfl) (by decide) (by decide) (by decide) ?_
    refine A_istore1 (pc := 50) dX6_lastPlace_50 (by decide) ?_
    refine A_iinc2 (pc := 51) dX6_lastPlace_51 (by decide) (nI_1 i) ?_
    refine A_goto (pc := 54) (tgt := 20) dX6_lastPlace_54 (by decide) ?_
    simp only [lpL]
    exact ih (i + 1) _ (by omega)

set_option maxHeartbeats 4000000 in
set_option maxRecDepth 100000 in
theorem sp_lastPlace {n : NS} {p : Nat → Int32} {o : OS} {y : RS} {la sc : WS} {wy : YS} {ch : KS} {ko : Nat → Option Nat} {rest : AH} {E : Nat} (he : wy.2.2.2.1 = nI E) (hE : E < 2 ^ 31)  : AS mX6_lastPlace 2 0 0 [.ref 0] (CH n p o y la sc wy ch ko ++ rest) (P1 (lpL n wy E 0 (wy.2.1 * 4 + wy.2.2.1)) (CH n p o y la sc wy ch ko ++ rest)) := by
  refine AS.go (lv := [some (.ref 0), none, none]) rfl ?_ (by decide +kernel) rfl (Nat.le_of_ble_eq_true rfl)
  refine A_aload0 (pc := 0) dX6_lastPlace_0 ?_
  refine A_getf (pc := 1) flX6_52 dX6_lastPlace_1 rfl rfl ?_
  refine A_getf (pc := 4) flX6_192 dX6_lastPlace_4 rfl rfl ?_
  refine A_aload0 (pc := 7) dX6_lastPlace_7 ?_
  refine A_getf (pc := 8) flX6_52 dX6_lastPlace_8 rfl rfl ?_
  refine A_getf (pc := 11) flX6_217 dX6_lastPlace_11 rfl rfl ?_
  refine A_csi (pc := 14) csX6_93 (sp_placeOf _ _) dX6_lastPlace_14 rfl rfl (Nat.le_of_ble_eq_true rfl) (by decide) (by decide) (by decide) ?_
  refine A_istore1 (pc := 17) dX6_lastPlace_17 (by decide) ?_
  refine A_iconst (pc := 18) (v := 0) dX6_lastPlace_18 (by decide) ?_
  refine A_istore2 (pc := 19) dX6_lastPlace_19 (by decide) ?_
  exact lp_lp he hE E 0 _ (by omega)

set_option maxHeartbeats 4000000 in
set_option maxRecDepth 100000 in
theorem sp_isWalkedBy {n : NS} {p : Nat → Int32} {o : OS} {y : RS} {la : WS} {wy : YS} {ch : KS} {ko : Nat → Option Nat} {rest : AH} (sc : WS) {q er ea ecap EZ r a cap Z : Nat} {bg kn fa ez sz : Int32} {eg g : Nat → Int32} (hq : ∀ sc : WS, (CH n p o y la sc wy ch ko ++ rest)[q]? = some (oC 5 [.int bg, .int kn, .int fa, .ref er])) (her : ∀ sc : WS, (CH n p o y la sc wy ch ko ++ rest)[er]? = some (oC 3 [.ref ea, .int ez])) (hea : ∀ sc : WS, (CH n p o y la sc wy ch ko ++ rest)[ea]? = some (aC ecap eg)) (hec : ecap < 2 ^ 31) (hez : ez = nI EZ) (hEZ : EZ < 2 ^ 31) (hr : ∀ sc : WS, (CH n p o y la sc wy ch ko ++ rest)[r]? = some (oC 3 [.ref a, .int sz])) (ha : ∀ sc : WS, (CH n p o y la sc wy ch ko ++ rest)[a]? = some (aC cap g)) (hcap : cap < 2 ^ 31) (hz : sz = nI Z) (hZ : Z < 2 ^ 31)  : AS mX6_isWalkedBy 6 0 0 [.ref 0, .ref q, .ref r] (CH n p o y la sc wy ch ko ++ rest) (P1 (bI (iwI (iwQ n sc kn fa cap sz g Z) ecap ez eg EZ)) (CH n p o y la ((iwQ n sc kn fa cap sz g Z).2) wy ch ko ++ rest)) := by
  refine AS.go (lv := [some (.ref 0), some (.ref q), some (.ref r)]) rfl ?_ (by decide +kernel) rfl (Nat.le_of_ble_eq_true rfl)
  refine A_aload0 (pc := 0) dX6_isWalkedBy_0 ?_
  refine A_getf (pc := 1) flX6_46 dX6_isWalkedBy_1 rfl rfl ?_
  refine A_aload1 (pc := 4) dX6_isWalkedBy_4 ?_
  refine A_getf (pc := 5) flX6_192 dX6_isWalkedBy_5 (hq _) rfl ?_
  refine A_aload1 (pc := 8) dX6_isWalkedBy_8 ?_
  refine A_getf (pc := 9) flX6_217 dX6_isWalkedBy_9 (hq _) rfl ?_
  refine A_cvv (pc := 12) cvX6_156 (sp_stand_sc _ _) dX6_isWalkedBy_12 rfl rfl rfl rfl (Nat.le_of_ble_eq_true rfl) (by decide) (by decide) (by decide) ?_
  refine A_aload0 (pc := 15) dX6_isWalkedBy_15 ?_
  refine A_getf (pc := 16) flX6_46 dX6_isWalkedBy_16 rfl rfl ?_
  refine A_aload2 (pc := 19) dX6_isWalkedBy_19 ?_
  refine A_iconst (pc := 20) (v := -1) dX6_isWalkedBy_20 (by decide) ?_
  refine A_cvi (pc := 21) cvX6_159 (sp_followAll_sc (r := r) (q := a) (cap := cap) (Z := Z) hr ha hcap hz hZ (-1)) dX6_isWalkedBy_21 rfl rfl rfl rfl (Nat.le_of_ble_eq_true rfl) (by decide) (by decide) (by decide) ?_
  change AW mX6_isWalkedBy 6 0 0 0 0 24 _ [.int (iwQ n sc kn fa cap sz g Z).1] (CH n p o y la ((iwQ n sc kn fa cap sz g Z).2) wy ch ko ++ rest) _
  refine A_iconst (pc := 24) (v := -1) dX6_isWalkedBy_24 (by decide) ?_
  refine A_icmp_ne (pc := 25) (tgt := 64) dX6_isWalkedBy_25 (by decide) (fun c25 => ?_) (fun c25 => ?_)
  · refine A_iconst (pc := 64) (v := 0) dX6_isWalkedBy_64 (by decide) ?_
    exact A_iret (pc := 65) dX6_isWalkedBy_65 rfl rfl (by decide) (by decide) (⟨by simp only [iwI, c25, if_true, if_false, bI, Bool.false_eq_true], rfl⟩)
  · refine A_aload0 (pc := 28) dX6_isWalkedBy_28 ?_
    refine A_getf (pc := 29) flX6_46 dX6_isWalkedBy_29 rfl rfl ?_
    refine A_getf (pc := 32) flX6_172 dX6_isWalkedBy_32 rfl rfl ?_
    refine A_aload1 (pc := 35) dX6_isWalkedBy_35 ?_
    refine A_getf (pc := 36) flX6_188 dX6_isWalkedBy_36 (hq _) rfl ?_
    refine A_getf (pc := 39) flX6_141 dX6_isWalkedBy_39 (her _) rfl ?_
    refine A_icmp_ne (pc := 42) (tgt := 64) dX6_isWalkedBy_42 (by decide) (fun c42 => ?_) (fun c42 => ?_)
    · refine A_iconst (pc := 64) (v := 0) dX6_isWalkedBy_64 (by decide) ?_
      exact A_iret (pc := 65) dX6_isWalkedBy_65 rfl rfl (by decide) (by decide) (⟨by simp only [iwI, c25, c42, if_true, if_false, bI, Bool.false_eq_true], rfl⟩)
    · have c42 := c42
      refine A_aload0 (pc := 45) dX6_isWalkedBy_45 ?_
      refine A_getf (pc := 46) flX6_46 dX6_isWalkedBy_46 rfl rfl ?_
      refine A_aload1 (pc := 49) dX6_isWalkedBy_49 ?_
      refine A_getf (pc := 50) flX6_188 dX6_isWalkedBy_50 (hq _) rfl ?_
      refine A_iconst (pc := 53) (v := 0) dX6_isWalkedBy_53 (by decide) ?_
      refine A_cvi (pc := 54) cvX6_242 (sp_wentAlong (r := er) (q := ea) (cap := ecap) (st := EZ) (her _) (hea _) hec (c42.trans hez) hEZ 0) dX6_isWalkedBy_54 rfl rfl rfl rfl (Nat.le_of_ble_eq_true rfl) (by decide) (by decide) (by decide) ?_
      refine A_if_eq (pc := 57) (tgt := 64) dX6_isWalkedBy_57 (by decide) (fun c57 => ?_) (fun c57 => ?_)
      · replace c57 := (bI_eq _).mp c57
        skip
        refine A_iconst (pc := 64) (v := 0) dX6_isWalkedBy_64 (by decide) ?_
        exact A_iret (pc := 65) dX6_isWalkedBy_65 rfl rfl (by decide) (by decide) (⟨by simp only [iwI, c25, c42, c57, if_true, if_false, bI, Bool.false_eq_true], rfl⟩)
      · replace c57 := (bI_ne _).mp c57
        skip
        refine A_iconst (pc := 60) (v := 1) dX6_isWalkedBy_60 (by decide) ?_
        refine A_goto (pc := 61) (tgt := 65) dX6_isWalkedBy_61 (by decide) ?_
        exact A_iret (pc := 65) dX6_isWalkedBy_65 rfl rfl (by decide) (by decide) (⟨by simp only [iwI, c25, c42, c57, if_true, if_false, bI, Bool.false_eq_true], rfl⟩)

set_option maxHeartbeats 4000000 in
set_option maxRecDepth 100000 in
theorem lp_op {n : NS} {p : Nat → Int32} {o : OS} {y : RS} {la sc : WS} {wy : YS} {ko : Nat → Option Nat} {rest : AH} (np : Int32) (m : Nat) : ∀ (i : Nat) (ch : KS) (_ : i + m = 29), AW mX6_openChart 2 0 0 0 0 10 [some (.ref 0), some (.int np), some (.int (nI i))] [] (CH n p o y la sc wy ch ko ++ rest) (P0 (CH n p o y la sc wy (opL p m i ch) ko ++ rest)) := by
  induction m with
  | zero =>
    intro i ch hi
    refine A_iload2 (pc := 10) dX6_openChart_10 ?_
    refine A_gets (pc := 11) (j := 0) (by decide) slX6_248 dX6_openChart_11 ?_
    refine A_alenS (pc := 14) (j := 0) (v := nI 29) (by decide) dX6_openChart_14 rfl ?_
    refine A_icmp_ge (pc := 15) (tgt := 44) dX6_openChart_15 (by decide) (fun c15 => ?_) (fun c15 => absurd (show nI 29 ≤ nI i from nI_le (by omega) (by omega)) c15)
    exact A_vret (pc := 44) dX6_openChart_44 rfl (by decide) (by decide) (⟨rfl, rfl⟩)
  | succ m ih =>
    intro i ch hi
    refine A_iload2 (pc := 10) dX6_openChart_10 ?_
    refine A_gets (pc := 11) (j := 0) (by decide) slX6_248 dX6_openChart_11 ?_
    refine A_alenS (pc := 14) (j := 0) (v := nI 29) (by decide) dX6_openChart_14 rfl ?_
    refine A_icmp_ge (pc := 15) (tgt := 44) dX6_openChart_15 (by decide) (fun c15 => absurd c15 (show ¬ nI 29 ≤ nI i from nI_ge (by omega) (by omega))) (fun c15 => ?_)
    refine A_aload0 (pc := 18) dX6_openChart_18 ?_
    refine A_getf (pc := 19) flX6_59 dX6_openChart_19 rfl rfl ?_
    refine A_iload2 (pc := 22) dX6_openChart_22 ?_
    refine A_aload0 (pc := 23) dX6_openChart_23 ?_
    refine A_gets (pc := 24) (j := 0) (by decide) slX6_248 dX6_openChart_24 ?_
    refine A_iload2 (pc := 27) dX6_openChart_27 ?_
    refine A_ialdS (pc := 28) (j := 0) (by decide) dX6_openChart_28 (vp_in_nI (by show i < 29; omega) (by decide)) ?_
    rw [nI_clamp (by omega)]
    refine A_csi (pc := 29) csX6_233 (sp_kindOf _) dX6_openChart_29 rfl rfl (Nat.le_of_ble_eq_true rfl) (by decide) (by decide) (by decide) ?_
    refine A_cvi (pc := 32) cvX6_236 (sp_priceOf _) dX6_openChart_32 rfl rfl rfl rfl (Nat.le_of_ble_eq_true rfl) (by decide) (by decide) (by decide) ?_
    refine A_cvv (pc := 35) cvX6_251 (sp_setPrice _ _) dX6_openChart_35 rfl rfl rfl rfl (Nat.le_of_ble_eq_true rfl) (by decide) (by decide) (by decide) ?_
    refine A_iinc2 (pc := 38) dX6_openChart_38 (by decide) (nI_1 i) ?_
    refine A_goto (pc := 41) (tgt := 10) dX6_openChart_41 (by decide) ?_
    simp only [opL]
    exact ih (i + 1) _ (by omega)

set_option maxHeartbeats 4000000 in
set_option maxRecDepth 100000 in
theorem sp_openChart {n : NS} {p : Nat → Int32} {o : OS} {y : RS} {la sc : WS} {wy : YS} {ch : KS} {ko : Nat → Option Nat} {rest : AH} (NP : Nat) (h9 : NP ≤ 96) : AS mX6_openChart 2 0 0 [.ref 0, .int (nI NP)] (CH n p o y la sc wy ch ko ++ rest) (P0 (CH n p o y la sc wy (opK p ch NP) ko ++ rest)) := by
  refine AS.go (lv := [some (.ref 0), some (.int (nI NP)), none]) rfl ?_ (by decide +kernel) rfl (Nat.le_of_ble_eq_true rfl)
  refine A_aload0 (pc := 0) dX6_openChart_0 ?_
  refine A_getf (pc := 1) flX6_59 dX6_openChart_1 rfl rfl ?_
  refine A_iload1 (pc := 4) dX6_openChart_4 ?_
  refine A_cvv (pc := 5) cvX6_246 (sp_chclear NP h9) dX6_openChart_5 rfl rfl rfl rfl (Nat.le_of_ble_eq_true rfl) (by decide) (by decide) (by decide) ?_
  refine A_iconst (pc := 8) (v := 0) dX6_openChart_8 (by decide) ?_
  refine A_istore2 (pc := 9) dX6_openChart_9 (by decide) ?_
  exact lp_op _ 29 0 _ (by omega)

set_option maxHeartbeats 4000000 in
set_option maxRecDepth 100000 in
theorem sp_scoutFollows {n : NS} {p : Nat → Int32} {o : OS} {y : RS} {la sc : WS} {wy : YS} {ch : KS} {ko : Nat → Option Nat} {rest : AH} (pl s : Int32) : AS mX6_scoutFollows 4 0 0 [.ref 0, .int pl, .int s] (CH n p o y la sc wy ch ko ++ rest) (P1 (bI (sfW n o.1 sc pl s).1) (CH n p o y la ((sfW n o.1 sc pl s).2) wy ch ko ++ rest)) := by
  refine AS.go (lv := [some (.ref 0), some (.int pl), some (.int s)]) rfl ?_ (by decide +kernel) rfl (Nat.le_of_ble_eq_true rfl)
  refine A_aload0 (pc := 0) dX6_scoutFollows_0 ?_
  refine A_iload2 (pc := 1) dX6_scoutFollows_1 ?_
  refine A_csi (pc := 2) csX6_233 (sp_kindOf _) dX6_scoutFollows_2 rfl rfl (Nat.le_of_ble_eq_true rfl) (by decide) (by decide) (by decide) ?_
  refine A_cvi (pc := 5) cvX6_270 (sp_isAllowed _) dX6_scoutFollows_5 rfl rfl rfl rfl (Nat.le_of_ble_eq_true rfl) (by decide) (by decide) (by decide) ?_
  refine A_if_ne (pc := 8) (tgt := 13) dX6_scoutFollows_8 (by decide) (fun c8 => ?_) (fun c8 => ?_)
  · replace c8 := (bI_ne _).mp c8
    refine A_aload0 (pc := 13) dX6_scoutFollows_13 ?_
    refine A_getf (pc := 14) flX6_46 dX6_scoutFollows_14 rfl rfl ?_
    refine A_iload1 (pc := 17) dX6_scoutFollows_17 ?_
    refine A_csi (pc := 18) csX6_120 (sp_knotOf _) dX6_scoutFollows_18 rfl rfl (Nat.le_of_ble_eq_true rfl) (by decide) (by decide) (by decide) ?_
    refine A_iload1 (pc := 21) dX6_scoutFollows_21 ?_
    refine A_csi (pc := 22) csX6_200 (sp_exitOf _) dX6_scoutFollows_22 rfl rfl (Nat.le_of_ble_eq_true rfl) (by decide) (by decide) (by decide) ?_
    refine A_cvv (pc := 25) cvX6_156 (sp_stand_sc _ _) dX6_scoutFollows_25 rfl rfl rfl rfl (Nat.le_of_ble_eq_true rfl) (by decide) (by decide) (by decide) ?_
    refine A_aload0 (pc := 28) dX6_scoutFollows_28 ?_
    refine A_getf (pc := 29) flX6_46 dX6_scoutFollows_29 rfl rfl ?_
    refine A_iload2 (pc := 32) dX6_scoutFollows_32 ?_
    refine A_csi (pc := 33) csX6_233 (sp_kindOf _) dX6_scoutFollows_33 rfl rfl (Nat.le_of_ble_eq_true rfl) (by decide) (by decide) (by decide) ?_
    refine A_iload2 (pc := 36) dX6_scoutFollows_36 ?_
    refine A_csi (pc := 37) csX6_273 (sp_numberOf _) dX6_scoutFollows_37 rfl rfl (Nat.le_of_ble_eq_true rfl) (by decide) (by decide) (by decide) ?_
    refine A_iconst (pc := 40) (v := 1) dX6_scoutFollows_40 (by decide) ?_
    refine A_cvi (pc := 41) cvX6_276 (sp_follow_sc _ _ _) dX6_scoutFollows_41 rfl rfl rfl rfl (Nat.le_of_ble_eq_true rfl) (by decide) (by decide) (by decide) ?_
    exact A_iret (pc := 44) dX6_scoutFollows_44 rfl (bI_n _) (by decide) (by decide) (⟨by simp only [sfW, c8, if_true, if_false, Bool.false_eq_true, bI], by simp only [sfW, c8, if_true, if_false, Bool.false_eq_true]⟩)
  · replace c8 := (bI_eq _).mp c8
    refine A_iconst (pc := 11) (v := 0) dX6_scoutFollows_11 (by decide) ?_
    exact A_iret (pc := 12) dX6_scoutFollows_12 rfl rfl (by decide) (by decide) (⟨by simp only [sfW, c8, if_true, if_false, Bool.false_eq_true, bI], by simp only [sfW, c8, if_true, if_false, Bool.false_eq_true]⟩)
