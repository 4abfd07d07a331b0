/-! the class's public methods, but keep and still -/
def xaI (cap : Nat) (sz : Int32) (f : Nat → Int32) (w : Int32) : Int32 := if 10 ≤ w then atI cap sz f (w - 10) else -1
def bgY (wy : YS) (k f : Int32) : YS := (1, k, f, 0, wy.2.2.2.2)
def rStreet (n : NS) (a ea b eb nm : Int32) : Bool := if nm < 0 then false else if nm ≤ 9 then (if frI n.1 n.2.2.2.1 a ea = true then (if frI n.1 n.2.2.2.1 b eb = true then jnOk (a * 4 + ea) (b * 4 + eb) else false) else false) else false
def nStreet (n : NS) (a ea b eb nm : Int32) : NS := if nm < 0 then n else if nm ≤ 9 then (if frI n.1 n.2.2.2.1 a ea = true then (if frI n.1 n.2.2.2.1 b eb = true then (if jnOk (a * 4 + ea) (b * 4 + eb) = true then jnN n (a * 4 + ea) (b * 4 + eb) nm else n) else n) else n) else n
def gaB (n : NS) (wy : YS) (E : Nat) (e ot : Int32) : Bool := if wy.1 = 0 then false else gaL n wy e ot E 0 wy.2.1
def rLook (n : NS) (k e w : Int32) : Int32 := if w = 3 then siI n.1 n.2.2.1 k else if acI n.2.2.2.1 k e = -1 then -1 else if w = 0 then acI n.2.2.2.1 k e / 4 else if w = 1 then remI (acI n.2.2.2.1 k e + 2) else if w = 2 then nmI n.1 n.2.2.2.2.1 k e else -1
def okPrice (k v : Int32) : Bool := if kiI k = true then (if v < 0 then false else if v ≤ 50 then true else false) else false
def okAllow (b : Int32) : Bool := if b < 0 then false else if b ≤ 511 then true else false
def okSay (k v : Int32) : Bool := if kiI k = true then (if v < sa_f 2 k.toNatClampNeg then false else if v ≤ sa_f 3 k.toNatClampNeg then true else false) else false
def rWalked (h : Int32) (la : WS) (w : Int32) : Int32 := if h = 0 then -1 else if w = 0 then la.1 else if w = 1 then la.2.1 else if w = 2 then la.2.2.1 else xaI 200 la.2.2.2.2.1 la.2.2.2.2.2 w
def rRouted (n : NS) (wy : YS) (E : Nat) (w : Int32) : Int32 := if wy.1 = 0 then -1 else if w = 0 then wy.2.2.2.1 else if w = 1 then lpL n wy E 0 (wy.2.1 * 4 + wy.2.2.1) / 4 else if w = 2 then remI (lpL n wy E 0 (wy.2.1 * 4 + wy.2.2.1)) else xaI 30 wy.2.2.2.1 wy.2.2.2.2 w
def csI (s : Int32) : Bool := if s = -1 then false else if s / 10 = 1 then true else if s / 10 = 3 then true else if s / 10 = 4 then true else if s / 10 = 5 then true else if s / 10 = 6 then true else false
def seqI (x : Int32) (a b c d : Int32) : Int32 := if x = 0 then a else if x = 1 then b else if x = 2 then c else d
theorem sw_out {x : Int32} {hi : Nat} (h : x.toInt < ((0 : Nat) : Int) ∨ ((hi : Nat) : Int) < x.toInt) (v : Int32) (hv : 0 ≤ v.toInt ∧ v.toInt ≤ hi) : ¬ x = v := fun e => by subst e; omega
theorem seL_1 (PL m : Nat) : ∀ (c : Bool) (ch : KS), (seL PL m c ch).1 = ch.1 := by
  induction m with
  | zero => intro c ch; rfl
  | succ m ih =>
    intro c ch
    unfold seL
    split
    · rw [ih, inL_1]
    · rfl
theorem cyL_1 {n : NS} {al : Int32} {wy : YS} {at_ pl : Int32} (m : Nat) : ∀ {i : Nat} {q : WS × KS}, (cyL n al wy at_ pl m i q).2.1 = q.2.1 := by
  induction m with
  | zero => intro i q; rfl
  | succ m ih => intro i q; unfold cyL; rw [ih, cyS_1]
theorem cwL_1 {n : NS} {al : Int32} {wy : YS} (m : Nat) : ∀ {a : Nat} {pl : Int32} {q : WS × KS}, (cwL n al wy m a pl q).2.1 = q.2.1 := by
  induction m with
  | zero => intro a pl q; rfl
  | succ m ih => intro a pl q; unfold cwL; rw [ih, cyL_1]
theorem nyL_1 {n : NS} {al : Int32} {pl : Int32} (m : Nat) : ∀ {i : Nat} {q : WS × KS}, (nyL n al pl m i q).2.1 = q.2.1 := by
  induction m with
  | zero => intro i q; rfl
  | succ m ih => intro i q; unfold nyL; rw [ih, nyS_1]
theorem nwL_1 {n : NS} {al : Int32} (m : Nat) : ∀ {a : Nat} {q : WS × KS}, (nwL n al m a q).2.1 = q.2.1 := by
  induction m with
  | zero => intro a q; rfl
  | succ m ih => intro a q; unfold nwL; rw [ih, nyL_1]
def tcK (n : NS) (p : Nat → Int32) (al : Int32) (sc : WS) (wy : YS) (ch : KS) (E : Nat) : KS := seL (E + 1) (E + 1 + 1) true (cwQ n p al sc wy ch E).2
def bcK (n : NS) (p : Nat → Int32) (al : Int32) (sc : WS) (ch : KS) (to : Int32) (K : Nat) : KS := seL (K * 4) (K * 4 + 1) true (nwQ n p al sc ch to K).2
theorem tcK_1 {n : NS} {p : Nat → Int32} {al : Int32} {sc : WS} {wy : YS} {ch : KS} {E : Nat} : (tcK n p al sc wy ch E).1 = nI (E + 1) := by unfold tcK cwQ; rw [seL_1, cwL_1, sgK_1, opK_1]
theorem bcK_1 {n : NS} {p : Nat → Int32} {al : Int32} {sc : WS} {ch : KS} {to : Int32} {K : Nat} : (bcK n p al sc ch to K).1 = nI (K * 4) := by unfold bcK nwQ; rw [seL_1, nwL_1, ngL_1, opK_1]

set_option maxHeartbeats 4000000 in
set_option maxRecDepth 100000 in
theorem sp_exitAsked {hp : AH} {r a cap : Nat} {sz : Int32} {f : Nat → Int32} (h1 : hp[r]? = some (oC 3 [.ref a, .int sz])) (h2 : hp[a]? = some (aC cap f)) (hcap : cap < 2 ^ 31) (w : Int32) : AS mX6_exitAsked 1 0 0 [.ref r, .int w] (hp) (P1 (xaI cap sz f w) hp) := by
  refine AS.go (lv := [some (.ref r), some (.int w)]) rfl ?_ (by decide +kernel) rfl (Nat.le_of_ble_eq_true rfl)
  refine A_iload1 (pc := 0) dX6_exitAsked_0 ?_
  refine A_bipush (pc := 1) (v := 10) dX6_exitAsked_1 (by decide) ?_
  refine A_icmp_ge (pc := 3) (tgt := 10) dX6_exitAsked_3 (by decide) (fun c3 => ?_) (fun c3 => ?_)
  · refine A_aload0 (pc := 10) dX6_exitAsked_10 ?_
    refine A_iload1 (pc := 11) dX6_exitAsked_11 ?_
    refine A_bipush (pc := 12) (v := 10) dX6_exitAsked_12 (by decide) ?_
    refine A_isub (pc := 14) dX6_exitAsked_14 ?_
    refine A_cvi (pc := 15) cvX6_147 (sp_at h1 h2 hcap _) dX6_exitAsked_15 rfl rfl h1 rfl (Nat.le_of_ble_eq_true rfl) (by decide) (by decide) (by decide) ?_
    exact A_iret (pc := 18) dX6_exitAsked_18 rfl rfl (by decide) (by decide) (⟨by simp only [xaI, c3, if_true, if_false, Bool.false_eq_true, bI], rfl⟩)
  · refine A_iconst (pc := 6) (v := -1) dX6_exitAsked_6 (by decide) ?_
    refine A_goto (pc := 7) (tgt := 18) dX6_exitAsked_7 (by decide) ?_
    exact A_iret (pc := 18) dX6_exitAsked_18 rfl rfl (by decide) (by decide) (⟨by simp only [xaI, c3, if_true, if_false, Bool.false_eq_true, bI], rfl⟩)

set_option maxHeartbeats 4000000 in
set_option maxRecDepth 100000 in
theorem sp_canSlip {hp : AH} (s : Int32) : AS mX6_canSlip 1 0 0 [.int s] (hp) (P1 (bI (csI s)) hp) := by
  refine AS.go (lv := [some (.int s), none]) rfl ?_ (by decide +kernel) rfl (Nat.le_of_ble_eq_true rfl)
  refine A_iload0 (pc := 0) dX6_canSlip_0 ?_
  refine A_iconst (pc := 1) (v := -1) dX6_canSlip_1 (by decide) ?_
  refine A_icmp_ne (pc := 2) (tgt := 7) dX6_canSlip_2 (by decide) (fun c2 => ?_) (fun c2 => ?_)
  · refine A_iload0 (pc := 7) dX6_canSlip_7 ?_
    refine A_csi (pc := 8) csX6_233 (sp_kindOf _) dX6_canSlip_8 rfl rfl (Nat.le_of_ble_eq_true rfl) (by decide) (by decide) (by decide) ?_
    refine A_istore1 (pc := 11) dX6_canSlip_11 (by decide) ?_
    refine A_iload1 (pc := 12) dX6_canSlip_12 ?_
    refine A_iconst (pc := 13) (v := 1) dX6_canSlip_13 (by decide) ?_
    refine A_icmp_eq (pc := 14) (tgt := 38) dX6_canSlip_14 (by decide) (fun c14 => ?_) (fun c14 => ?_)
    · refine A_iconst (pc := 38) (v := 1) dX6_canSlip_38 (by decide) ?_
      refine A_goto (pc := 39) (tgt := 43) dX6_canSlip_39 (by decide) ?_
      exact A_iret (pc := 43) dX6_canSlip_43 rfl rfl (by decide) (by decide) (⟨by simp [csI, bI, *], rfl⟩)
    · refine A_iload1 (pc := 17) dX6_canSlip_17 ?_
      refine A_iconst (pc := 18) (v := 3) dX6_canSlip_18 (by decide) ?_
      refine A_icmp_eq (pc := 19) (tgt := 38) dX6_canSlip_19 (by decide) (fun c19 => ?_) (fun c19 => ?_)
      · refine A_iconst (pc := 38) (v := 1) dX6_canSlip_38 (by decide) ?_
        refine A_goto (pc := 39) (tgt := 43) dX6_canSlip_39 (by decide) ?_
        exact A_iret (pc := 43) dX6_canSlip_43 rfl rfl (by decide) (by decide) (⟨by simp [csI, bI, *], rfl⟩)
      · refine A_iload1 (pc := 22) dX6_canSlip_22 ?_
        refine A_iconst (pc := 23) (v := 4) dX6_canSlip_23 (by decide) ?_
        refine A_icmp_eq (pc := 24) (tgt := 38) dX6_canSlip_24 (by decide) (fun c24 => ?_) (fun c24 => ?_)
        · refine A_iconst (pc := 38) (v := 1) dX6_canSlip_38 (by decide) ?_
          refine A_goto (pc := 39) (tgt := 43) dX6_canSlip_39 (by decide) ?_
          exact A_iret (pc := 43) dX6_canSlip_43 rfl rfl (by decide) (by decide) (⟨by simp [csI, bI, *], rfl⟩)
        · refine A_iload1 (pc := 27) dX6_canSlip_27 ?_
          refine A_iconst (pc := 28) (v := 5) dX6_canSlip_28 (by decide) ?_
          refine A_icmp_eq (pc := 29) (tgt := 38) dX6_canSlip_29 (by decide) (fun c29 => ?_) (fun c29 => ?_)
          · refine A_iconst (pc := 38) (v := 1) dX6_canSlip_38 (by decide) ?_
            refine A_goto (pc := 39) (tgt := 43) dX6_canSlip_39 (by decide) ?_
            exact A_iret (pc := 43) dX6_canSlip_43 rfl rfl (by decide) (by decide) (⟨by simp [csI, bI, *], rfl⟩)
          · refine A_iload1 (pc := 32) dX6_canSlip_32 ?_
            refine A_bipush (pc := 33) (v := 6) dX6_canSlip_33 (by decide) ?_
            refine A_icmp_ne (pc := 35) (tgt := 42) dX6_canSlip_35 (by decide) (fun c35 => ?_) (fun c35 => ?_)
            · refine A_iconst (pc := 42) (v := 0) dX6_canSlip_42 (by decide) ?_
              exact A_iret (pc := 43) dX6_canSlip_43 rfl rfl (by decide) (by decide) (⟨by simp [csI, bI, *], rfl⟩)
            · refine A_iconst (pc := 38) (v := 1) dX6_canSlip_38 (by decide) ?_
              refine A_goto (pc := 39) (tgt := 43) dX6_canSlip_39 (by decide) ?_
              exact A_iret (pc := 43) dX6_canSlip_43 rfl rfl (by decide) (by decide) (⟨by simp [csI, bI, *], rfl⟩)
  · refine A_iconst (pc := 5) (v := 0) dX6_canSlip_5 (by decide) ?_
    exact A_iret (pc := 6) dX6_canSlip_6 rfl rfl (by decide) (by decide) (⟨by simp [csI, bI, *], rfl⟩)

set_option maxHeartbeats 4000000 in
set_option maxRecDepth 100000 in
theorem sp_begin {n : NS} {p : Nat → Int32} {o : OS} {y : RS} {la sc : WS} {wy : YS} {ch : KS} {ko : Nat → Option Nat} {rest : AH} (k f : Int32) : AS mX5_begin 1 0 0 [.ref 17, .int k, .int f] (CH n p o y la sc wy ch ko ++ rest) (P0 (CH n p o y la sc (bgY wy k f) ch ko ++ rest)) := by
  refine AS.go (lv := [some (.ref 17), some (.int k), some (.int f)]) rfl ?_ (by decide +kernel) rfl (Nat.le_of_ble_eq_true rfl)
  refine A_aload0 (pc := 0) dX5_begin_0 ?_
  refine A_iconst (pc := 1) (v := 1) dX5_begin_1 (by decide) ?_
  refine A_putf (pc := 2) flX5_9 ft5_0 dX5_begin_2 rfl (Nat.le_of_ble_eq_true rfl) (fun _ => ⟨rfl, rfl⟩) ?_
  refine A_aload0 (pc := 5) dX5_begin_5 ?_
  refine A_iload1 (pc := 6) dX5_begin_6 ?_
  refine A_putf (pc := 7) flX5_15 ft5_1 dX5_begin_7 rfl (Nat.le_of_ble_eq_true rfl) (fun _ => ⟨rfl, rfl⟩) ?_
  refine A_aload0 (pc := 10) dX5_begin_10 ?_
  refine A_iload2 (pc := 11) dX5_begin_11 ?_
  refine A_putf (pc := 12) flX5_19 ft5_2 dX5_begin_12 rfl (Nat.le_of_ble_eq_true rfl) (fun _ => ⟨rfl, rfl⟩) ?_
  refine A_aload0 (pc := 15) dX5_begin_15 ?_
  refine A_getf (pc := 16) flX5_27 dX5_begin_16 rfl rfl ?_
  refine A_cvv (pc := 19) cvX5_31 (sp_clear (r := 18) (a := 19) rfl) dX5_begin_19 rfl rfl rfl rfl (Nat.le_of_ble_eq_true rfl) (by decide) (by decide) (by decide) ?_
  exact A_vret (pc := 22) dX5_begin_22 rfl (by decide) (by decide) (⟨rfl, rfl⟩)

set_option maxHeartbeats 4000000 in
set_option maxRecDepth 100000 in
theorem sp_knot {n : NS} {p : Nat → Int32} {o : OS} {y : RS} {la sc : WS} {wy : YS} {ch : KS} {ko : Nat → Option Nat} {rest : AH} (s : Int32) : AS mX6_knot 1 0 0 [.ref 0, .int s] (CH n p o y la sc wy ch ko ++ rest) (P1 (if inI s 0 7 = true then (if akOk n = true then n.1 + 1 - 1 else -1) else -1) (CH (if inI s 0 7 = true then (if akOk n = true then akN n s else n) else n) p o y la sc wy ch ko ++ rest)) := by
  refine AS.go (lv := [some (.ref 0), some (.int s)]) rfl ?_ (by decide +kernel) rfl (Nat.le_of_ble_eq_true rfl)
  refine A_iload1 (pc := 0) dX6_knot_0 ?_
  refine A_csi (pc := 1) csX6_81 (sp_isSight s) dX6_knot_1 rfl rfl (Nat.le_of_ble_eq_true rfl) (by decide) (by decide) (by decide) ?_
  refine A_if_eq (pc := 4) (tgt := 18) dX6_knot_4 (by decide) (fun c4 => ?_) (fun c4 => ?_)
  · replace c4 := (bI_eq _).mp c4
    refine A_iconst (pc := 18) (v := -1) dX6_knot_18 (by decide) ?_
    exact A_iret (pc := 19) dX6_knot_19 rfl rfl (by decide) (by decide) (⟨by simp only [id, c4, if_true, if_false, Bool.false_eq_true, bI], by simp only [id, c4, if_true, if_false, Bool.false_eq_true]⟩)
  · replace c4 := (bI_ne _).mp c4
    refine A_aload0 (pc := 7) dX6_knot_7 ?_
    refine A_getf (pc := 8) flX6_12 dX6_knot_8 rfl rfl ?_
    refine A_iload1 (pc := 11) dX6_knot_11 ?_
    refine A_cvi (pc := 12) cvX6_85 (sp_addKnot s) dX6_knot_12 rfl rfl rfl rfl (Nat.le_of_ble_eq_true rfl) (by decide) (by decide) (by decide) ?_
    refine A_goto (pc := 15) (tgt := 19) dX6_knot_15 (by decide) ?_
    exact A_iret (pc := 19) dX6_knot_19 rfl rfl (by decide) (by decide) (⟨by simp only [id, c4, if_true, if_false, Bool.false_eq_true, bI], by simp only [id, c4, if_true, if_false, Bool.false_eq_true]⟩)

set_option maxHeartbeats 4000000 in
set_option maxRecDepth 100000 in
theorem sp_street {n : NS} {p : Nat → Int32} {o : OS} {y : RS} {la sc : WS} {wy : YS} {ch : KS} {ko : Nat → Option Nat} {rest : AH} (a ea b eb nm : Int32) : AS mX6_street 2 0 0 [.ref 0, .int a, .int ea, .int b, .int eb, .int nm] (CH n p o y la sc wy ch ko ++ rest) (P1 (bI (rStreet n a ea b eb nm)) (CH (nStreet n a ea b eb nm) p o y la sc wy ch ko ++ rest)) := by
  refine AS.go (lv := [some (.ref 0), some (.int a), some (.int ea), some (.int b), some (.int eb), some (.int nm)]) rfl ?_ (by decide +kernel) rfl (Nat.le_of_ble_eq_true rfl)
  refine A_iload5 (pc := 0) dX6_street_0 ?_
  refine A_if_lt (pc := 2) (tgt := 12) dX6_street_2 (by decide) (fun c2 => ?_) (fun c2 => ?_)
  · refine A_iconst (pc := 12) (v := 0) dX6_street_12 (by decide) ?_
    exact A_iret (pc := 13) dX6_street_13 rfl rfl (by decide) (by decide) (⟨by simp only [rStreet, c2, if_true, if_false, Bool.false_eq_true, bI], by simp only [nStreet, c2, if_true, if_false, Bool.false_eq_true]⟩)
  · refine A_iload5 (pc := 5) dX6_street_5 ?_
    refine A_bipush (pc := 7) (v := 9) dX6_street_7 (by decide) ?_
    refine A_icmp_le (pc := 9) (tgt := 14) dX6_street_9 (by decide) (fun c9 => ?_) (fun c9 => ?_)
    · refine A_aload0 (pc := 14) dX6_street_14 ?_
      refine A_getf (pc := 15) flX6_12 dX6_street_15 rfl rfl ?_
      refine A_iload1 (pc := 18) dX6_street_18 ?_
      refine A_iload2 (pc := 19) dX6_street_19 ?_
      refine A_cvi (pc := 20) cvX6_89 (sp_isFree (kn := n.1) (sk := n.2.1) (ac := n.2.2.2.1) rfl rfl _ _) dX6_street_20 rfl rfl rfl rfl (Nat.le_of_ble_eq_true rfl) (by decide) (by decide) (by decide) ?_
      refine A_if_eq (pc := 23) (tgt := 39) dX6_street_23 (by decide) (fun c23 => ?_) (fun c23 => ?_)
      · replace c23 := (bI_eq _).mp c23
        refine A_iconst (pc := 39) (v := 0) dX6_street_39 (by decide) ?_
        exact A_iret (pc := 40) dX6_street_40 rfl rfl (by decide) (by decide) (⟨by simp only [rStreet, c2, c9, c23, if_true, if_false, Bool.false_eq_true, bI], by simp only [nStreet, c2, c9, c23, if_true, if_false, Bool.false_eq_true]⟩)
      · replace c23 := (bI_ne _).mp c23
        refine A_aload0 (pc := 26) dX6_street_26 ?_
        refine A_getf (pc := 27) flX6_12 dX6_street_27 rfl rfl ?_
        refine A_iload3 (pc := 30) dX6_street_30 ?_
        refine A_iload4 (pc := 31) dX6_street_31 ?_
        refine A_cvi (pc := 33) cvX6_89 (sp_isFree (kn := n.1) (sk := n.2.1) (ac := n.2.2.2.1) rfl rfl _ _) dX6_street_33 rfl rfl rfl rfl (Nat.le_of_ble_eq_true rfl) (by decide) (by decide) (by decide) ?_
        refine A_if_ne (pc := 36) (tgt := 41) dX6_street_36 (by decide) (fun c36 => ?_) (fun c36 => ?_)
        · replace c36 := (bI_ne _).mp c36
          refine A_aload0 (pc := 41) dX6_street_41 ?_
          refine A_getf (pc := 42) flX6_12 dX6_street_42 rfl rfl ?_
          refine A_iload1 (pc := 45) dX6_street_45 ?_
          refine A_iload2 (pc := 46) dX6_street_46 ?_
          refine A_csi (pc := 47) csX6_93 (sp_placeOf _ _) dX6_street_47 rfl rfl (Nat.le_of_ble_eq_true rfl) (by decide) (by decide) (by decide) ?_
          refine A_iload3 (pc := 50) dX6_street_50 ?_
          refine A_iload4 (pc := 51) dX6_street_51 ?_
          refine A_csi (pc := 53) csX6_93 (sp_placeOf _ _) dX6_street_53 rfl rfl (Nat.le_of_ble_eq_true rfl) (by decide) (by decide) (by decide) ?_
          refine A_iload5 (pc := 56) dX6_street_56 ?_
          refine A_cvi (pc := 58) cvX6_97 (sp_join _ _ _) dX6_street_58 rfl rfl rfl rfl (Nat.le_of_ble_eq_true rfl) (by decide) (by decide) (by decide) ?_
          exact A_iret (pc := 61) dX6_street_61 rfl (bI_n _) (by decide) (by decide) (⟨by simp only [rStreet, c2, c9, c23, c36, if_true, if_false, Bool.false_eq_true, bI], by simp only [nStreet, c2, c9, c23, c36, if_true, if_false, Bool.false_eq_true]⟩)
        · replace c36 := (bI_eq _).mp c36
          refine A_iconst (pc := 39) (v := 0) dX6_street_39 (by decide) ?_
          exact A_iret (pc := 40) dX6_street_40 rfl rfl (by decide) (by decide) (⟨by simp only [rStreet, c2, c9, c23, c36, if_true, if_false, Bool.false_eq_true, bI], by simp only [nStreet, c2, c9, c23, c36, if_true, if_false, Bool.false_eq_true]⟩)
    · refine A_iconst (pc := 12) (v := 0) dX6_street_12 (by decide) ?_
      exact A_iret (pc := 13) dX6_street_13 rfl rfl (by decide) (by decide) (⟨by simp only [rStreet, c2, c9, if_true, if_false, Bool.false_eq_true, bI], by simp only [nStreet, c2, c9, if_true, if_false, Bool.false_eq_true]⟩)

set_option maxHeartbeats 4000000 in
set_option maxRecDepth 100000 in
theorem sp_close {n : NS} {p : Nat → Int32} {o : OS} {y : RS} {la sc : WS} {wy : YS} {ch : KS} {ko : Nat → Option Nat} {rest : AH} {E : Nat} (he : wy.2.2.2.1 = nI E) (hE : E ≤ 30) (k e : Int32) : AS mX6_close 2 0 0 [.ref 0, .int k, .int e] (CH n p o y la sc wy ch ko ++ rest) (P1 (bI (if acI n.2.2.2.1 k e = -1 then false else true)) (CH (if acI n.2.2.2.1 k e = -1 then n else if ptOk (k * 4 + e) (acI n.2.2.2.1 k e) = true then ptN n (k * 4 + e) (acI n.2.2.2.1 k e) else n) p o y la sc (if acI n.2.2.2.1 k e = -1 then wy else (if gaB n wy E (k * 4 + e) (acI n.2.2.2.1 k e) = true then ((0, wy.2) : YS) else wy)) ch ko ++ rest)) := by
  refine AS.go (lv := [some (.ref 0), some (.int k), some (.int e), none, none]) rfl ?_ (by decide +kernel) rfl (Nat.le_of_ble_eq_true rfl)
  refine A_aload0 (pc := 0) dX6_close_0 ?_
  refine A_getf (pc := 1) flX6_12 dX6_close_1 rfl rfl ?_
  refine A_iload1 (pc := 4) dX6_close_4 ?_
  refine A_iload2 (pc := 5) dX6_close_5 ?_
  refine A_cvi (pc := 6) cvX6_101 (sp_across (kn := n.1) (sk := n.2.1) (ac := n.2.2.2.1) rfl rfl _ _) dX6_close_6 rfl rfl rfl rfl (Nat.le_of_ble_eq_true rfl) (by decide) (by decide) (by decide) ?_
  refine A_istore3 (pc := 9) dX6_close_9 (by decide) ?_
  refine A_iload3 (pc := 10) dX6_close_10 ?_
  refine A_iconst (pc := 11) (v := -1) dX6_close_11 (by decide) ?_
  refine A_icmp_ne (pc := 12) (tgt := 17) dX6_close_12 (by decide) (fun c12 => ?_) (fun c12 => ?_)
  · refine A_iload1 (pc := 17) dX6_close_17 ?_
    refine A_iload2 (pc := 18) dX6_close_18 ?_
    refine A_csi (pc := 19) csX6_93 (sp_placeOf _ _) dX6_close_19 rfl rfl (Nat.le_of_ble_eq_true rfl) (by decide) (by decide) (by decide) ?_
    refine A_istore4 (pc := 22) dX6_close_22 (by decide) ?_
    refine A_aload0 (pc := 24) dX6_close_24 ?_
    refine A_iload4 (pc := 25) dX6_close_25 ?_
    refine A_iload3 (pc := 27) dX6_close_27 ?_
    refine A_cvi (pc := 28) cvX6_104 (sp_goesAlong he (by omega) _ _) dX6_close_28 rfl rfl rfl rfl (Nat.le_of_ble_eq_true rfl) (by decide) (by decide) (by decide) ?_
    refine A_if_eq (pc := 31) (tgt := 42) dX6_close_31 (by decide) (fun c31 => ?_) (fun c31 => ?_)
    · replace c31 := (bI_eq _).mp c31
      refine A_aload0 (pc := 42) dX6_close_42 ?_
      refine A_getf (pc := 43) flX6_12 dX6_close_43 rfl rfl ?_
      refine A_iload4 (pc := 46) dX6_close_46 ?_
      refine A_iload3 (pc := 48) dX6_close_48 ?_
      refine A_cvv (pc := 49) cvX6_110 (sp_part _ _) dX6_close_49 rfl rfl rfl rfl (Nat.le_of_ble_eq_true rfl) (by decide) (by decide) (by decide) ?_
      refine A_iconst (pc := 52) (v := 1) dX6_close_52 (by decide) ?_
      exact A_iret (pc := 53) dX6_close_53 rfl rfl (by decide) (by decide) (⟨by rw [if_neg c12]; rfl, by rw [if_neg c12, if_neg c12]; simp only [gaB, c31, if_true, if_false, Bool.false_eq_true]⟩)
    · replace c31 := (bI_ne _).mp c31
      refine A_aload0 (pc := 34) dX6_close_34 ?_
      refine A_getf (pc := 35) flX6_52 dX6_close_35 rfl rfl ?_
      refine A_iconst (pc := 38) (v := 0) dX6_close_38 (by decide) ?_
      refine A_putf (pc := 39) flX6_107 ft5_0 dX6_close_39 rfl (Nat.le_of_ble_eq_true rfl) (fun _ => ⟨rfl, rfl⟩) ?_
      refine AW.heq (hp' := CH n p o y la sc ((0, wy.2)) ch ko ++ rest) rfl ?_
      refine A_aload0 (pc := 42) dX6_close_42 ?_
      refine A_getf (pc := 43) flX6_12 dX6_close_43 rfl rfl ?_
      refine A_iload4 (pc := 46) dX6_close_46 ?_
      refine A_iload3 (pc := 48) dX6_close_48 ?_
      refine A_cvv (pc := 49) cvX6_110 (sp_part _ _) dX6_close_49 rfl rfl rfl rfl (Nat.le_of_ble_eq_true rfl) (by decide) (by decide) (by decide) ?_
      refine A_iconst (pc := 52) (v := 1) dX6_close_52 (by decide) ?_
      exact A_iret (pc := 53) dX6_close_53 rfl rfl (by decide) (by decide) (⟨by rw [if_neg c12]; rfl, by rw [if_neg c12, if_neg c12]; simp only [gaB, c31, if_true, if_false, Bool.false_eq_true]⟩)
  · refine A_iconst (pc := 15) (v := 0) dX6_close_15 (by decide) ?_
    exact A_iret (pc := 16) dX6_close_16 rfl rfl (by decide) (by decide) (⟨by rw [if_pos c12]; rfl, by rw [if_pos c12, if_pos c12]⟩)

set_option maxHeartbeats 4000000 in
set_option maxRecDepth 100000 in
theorem sp_sight {n : NS} {p : Nat → Int32} {o : OS} {y : RS} {la sc : WS} {wy : YS} {ch : KS} {ko : Nat → Option Nat} {rest : AH} (k s : Int32) : AS mX6_sight 2 0 0 [.ref 0, .int k, .int s] (CH n p o y la sc wy ch ko ++ rest) (P1 (bI (if inI s 0 7 = true then hasI n.1 k else false)) (CH (if inI s 0 7 = true then (if hasI n.1 k = true then shN n k s else n) else n) p o y la sc wy ch ko ++ rest)) := by
  refine AS.go (lv := [some (.ref 0), some (.int k), some (.int s)]) rfl ?_ (by decide +kernel) rfl (Nat.le_of_ble_eq_true rfl)
  refine A_iload2 (pc := 0) dX6_sight_0 ?_
  refine A_csi (pc := 1) csX6_81 (sp_isSight s) dX6_sight_1 rfl rfl (Nat.le_of_ble_eq_true rfl) (by decide) (by decide) (by decide) ?_
  refine A_if_eq (pc := 4) (tgt := 23) dX6_sight_4 (by decide) (fun c4 => ?_) (fun c4 => ?_)
  · replace c4 := (bI_eq _).mp c4
    refine A_iconst (pc := 23) (v := 0) dX6_sight_23 (by decide) ?_
    exact A_iret (pc := 24) dX6_sight_24 rfl rfl (by decide) (by decide) (⟨by simp only [id, c4, if_true, if_false, Bool.false_eq_true, bI], by simp only [id, c4, if_true, if_false, Bool.false_eq_true]⟩)
  · replace c4 := (bI_ne _).mp c4
    refine A_aload0 (pc := 7) dX6_sight_7 ?_
    refine A_getf (pc := 8) flX6_12 dX6_sight_8 rfl rfl ?_
    refine A_iload1 (pc := 11) dX6_sight_11 ?_
    refine A_iload2 (pc := 12) dX6_sight_12 ?_
    refine A_cvi (pc := 13) cvX6_114 (sp_show _ _) dX6_sight_13 rfl rfl rfl rfl (Nat.le_of_ble_eq_true rfl) (by decide) (by decide) (by decide) ?_
    refine A_if_eq (pc := 16) (tgt := 23) dX6_sight_16 (by decide) (fun c16 => ?_) (fun c16 => ?_)
    · replace c16 := (bI_eq _).mp c16
      refine A_iconst (pc := 23) (v := 0) dX6_sight_23 (by decide) ?_
      exact A_iret (pc := 24) dX6_sight_24 rfl rfl (by decide) (by decide) (⟨by simp only [id, c4, c16, if_true, if_false, Bool.false_eq_true, bI], by simp only [id, c4, c16, if_true, if_false, Bool.false_eq_true]⟩)
    · replace c16 := (bI_ne _).mp c16
      refine A_iconst (pc := 19) (v := 1) dX6_sight_19 (by decide) ?_
      refine A_goto (pc := 20) (tgt := 24) dX6_sight_20 (by decide) ?_
      exact A_iret (pc := 24) dX6_sight_24 rfl rfl (by decide) (by decide) (⟨by simp only [id, c4, c16, if_true, if_false, Bool.false_eq_true, bI], by simp only [id, c4, c16, if_true, if_false, Bool.false_eq_true]⟩)

set_option maxHeartbeats 4000000 in
set_option maxRecDepth 100000 in
theorem sp_look {n : NS} {p : Nat → Int32} {o : OS} {y : RS} {la sc : WS} {wy : YS} {ch : KS} {ko : Nat → Option Nat} {rest : AH} (k e w : Int32) : AS mX6_look 2 0 0 [.ref 0, .int k, .int e, .int w] (CH n p o y la sc wy ch ko ++ rest) (P1 (rLook n k e w) (CH n p o y la sc wy ch ko ++ rest)) := by
  refine AS.go (lv := [some (.ref 0), some (.int k), some (.int e), some (.int w), none]) rfl ?_ (by decide +kernel) rfl (Nat.le_of_ble_eq_true rfl)
  refine A_iload3 (pc := 0) dX6_look_0 ?_
  refine A_iconst (pc := 1) (v := 3) dX6_look_1 (by decide) ?_
  refine A_icmp_ne (pc := 2) (tgt := 14) dX6_look_2 (by decide) (fun c2 => ?_) (fun c2 => ?_)
  · refine A_aload0 (pc := 14) dX6_look_14 ?_
    refine A_getf (pc := 15) flX6_12 dX6_look_15 rfl rfl ?_
    refine A_iload1 (pc := 18) dX6_look_18 ?_
    refine A_iload2 (pc := 19) dX6_look_19 ?_
    refine A_cvi (pc := 20) cvX6_101 (sp_across (kn := n.1) (sk := n.2.1) (ac := n.2.2.2.1) rfl rfl _ _) dX6_look_20 rfl rfl rfl rfl (Nat.le_of_ble_eq_true rfl) (by decide) (by decide) (by decide) ?_
    refine A_istore4 (pc := 23) dX6_look_23 (by decide) ?_
    refine A_iload4 (pc := 25) dX6_look_25 ?_
    refine A_iconst (pc := 27) (v := -1) dX6_look_27 (by decide) ?_
    refine A_icmp_ne (pc := 28) (tgt := 33) dX6_look_28 (by decide) (fun c28 => ?_) (fun c28 => ?_)
    · refine A_iload3 (pc := 33) dX6_look_33 ?_
      rcases sw_in w 0 2 (by decide) with hsw | ⟨j, hj1, hj2, hsw⟩
      · refine A_tsOut (pc := 34) (tgt := 82) dX6_look_34 hsw (by decide) ?_
        refine A_iconst (pc := 82) (v := -1) dX6_look_82 (by decide) ?_
        exact A_iret (pc := 83) dX6_look_83 rfl rfl (by decide) (by decide) (⟨by unfold rLook; rw [if_neg c2, if_neg c28, if_neg (sw_out hsw 0 (by decide)), if_neg (sw_out hsw 1 (by decide)), if_neg (sw_out hsw 2 (by decide))], rfl⟩)
      · rcases (show j = 0 ∨ j = 1 ∨ j = 2 by omega) with rfl | rfl | rfl
        · have e9 : w = 0 := hsw
          subst e9
          refine A_tsIn (pc := 34) (tgt := 60) dX6_look_34 (by decide) (by decide) rfl (by decide) ?_
          refine A_iload4 (pc := 60) dX6_look_60 ?_
          refine A_csi (pc := 62) csX6_120 (sp_knotOf _) dX6_look_62 rfl rfl (Nat.le_of_ble_eq_true rfl) (by decide) (by decide) (by decide) ?_
          exact A_iret (pc := 65) dX6_look_65 rfl rfl (by decide) (by decide) (⟨by unfold rLook; rw [if_neg (by decide), if_neg c28, if_pos rfl], rfl⟩)
        · have e9 : w = 1 := hsw
          subst e9
          refine A_tsIn (pc := 34) (tgt := 66) dX6_look_34 (by decide) (by decide) rfl (by decide) ?_
          refine A_iload4 (pc := 66) dX6_look_66 ?_
          refine A_csi (pc := 68) csX6_123 (sp_facingFrom _) dX6_look_68 rfl rfl (Nat.le_of_ble_eq_true rfl) (by decide) (by decide) (by decide) ?_
          exact A_iret (pc := 71) dX6_look_71 rfl rfl (by decide) (by decide) (⟨by unfold rLook; rw [if_neg (by decide), if_neg c28, if_neg (by decide), if_pos rfl], rfl⟩)
        · have e9 : w = 2 := hsw
          subst e9
          refine A_tsIn (pc := 34) (tgt := 72) dX6_look_34 (by decide) (by decide) rfl (by decide) ?_
          refine A_aload0 (pc := 72) dX6_look_72 ?_
          refine A_getf (pc := 73) flX6_12 dX6_look_73 rfl rfl ?_
          refine A_iload1 (pc := 76) dX6_look_76 ?_
          refine A_iload2 (pc := 77) dX6_look_77 ?_
          refine A_cvi (pc := 78) cvX6_126 (sp_nameAt (kn := n.1) (sk := n.2.1) (nm := n.2.2.2.2.1) rfl rfl _ _) dX6_look_78 rfl rfl rfl rfl (Nat.le_of_ble_eq_true rfl) (by decide) (by decide) (by decide) ?_
          exact A_iret (pc := 81) dX6_look_81 rfl rfl (by decide) (by decide) (⟨by unfold rLook; rw [if_neg (by decide), if_neg c28, if_neg (by decide), if_neg (by decide), if_pos rfl], rfl⟩)
    · refine A_iconst (pc := 31) (v := -1) dX6_look_31 (by decide) ?_
      exact A_iret (pc := 32) dX6_look_32 rfl rfl (by decide) (by decide) (⟨by unfold rLook; rw [if_neg c2, if_pos c28], rfl⟩)
  · refine A_aload0 (pc := 5) dX6_look_5 ?_
    refine A_getf (pc := 6) flX6_12 dX6_look_6 rfl rfl ?_
    refine A_iload1 (pc := 9) dX6_look_9 ?_
    refine A_cvi (pc := 10) cvX6_117 (sp_sightOf (kn := n.1) (sk := n.2.1) (sg := n.2.2.1) rfl rfl _) dX6_look_10 rfl rfl rfl rfl (Nat.le_of_ble_eq_true rfl) (by decide) (by decide) (by decide) ?_
    exact A_iret (pc := 13) dX6_look_13 rfl rfl (by decide) (by decide) (⟨by unfold rLook; rw [if_pos c2], rfl⟩)

set_option maxHeartbeats 4000000 in
set_option maxRecDepth 100000 in
theorem sp_price {n : NS} {p : Nat → Int32} {o : OS} {y : RS} {la sc : WS} {wy : YS} {ch : KS} {ko : Nat → Option Nat} {rest : AH} (k v : Int32) : AS mX6_price 1 0 0 [.ref 0, .int k, .int v] (CH n p o y la sc wy ch ko ++ rest) (P1 (if okPrice k v = true then p k.toNatClampNeg else -1) (CH n (if okPrice k v = true then upd p k.toNatClampNeg v else p) o y la sc wy ch ko ++ rest)) := by
  refine AS.go (lv := [some (.ref 0), some (.int k), some (.int v), none]) rfl ?_ (by decide +kernel) rfl (Nat.le_of_ble_eq_true rfl)
  refine A_iload1 (pc := 0) dX6_price_0 ?_
  refine A_csi (pc := 1) csX6_129 (sp_isKind k) dX6_price_1 rfl rfl (Nat.le_of_ble_eq_true rfl) (by decide) (by decide) (by decide) ?_
  refine A_if_eq (pc := 4) (tgt := 17) dX6_price_4 (by decide) (fun c4 => ?_) (fun c4 => ?_)
  · replace c4 := (bI_eq _).mp c4
    refine A_iconst (pc := 17) (v := -1) dX6_price_17 (by decide) ?_
    exact A_iret (pc := 18) dX6_price_18 rfl rfl (by decide) (by decide) (⟨by simp only [okPrice, c4, if_true, if_false, Bool.false_eq_true, bI], by simp only [okPrice, c4, if_true, if_false, Bool.false_eq_true]⟩)
  · replace c4 := (bI_ne _).mp c4
    refine A_iload2 (pc := 7) dX6_price_7 ?_
    refine A_if_lt (pc := 8) (tgt := 17) dX6_price_8 (by decide) (fun c8 => ?_) (fun c8 => ?_)
    · refine A_iconst (pc := 17) (v := -1) dX6_price_17 (by decide) ?_
      exact A_iret (pc := 18) dX6_price_18 rfl rfl (by decide) (by decide) (⟨by simp only [okPrice, c4, c8, if_true, if_false, Bool.false_eq_true, bI], by simp only [okPrice, c4, c8, if_true, if_false, Bool.false_eq_true]⟩)
    · refine A_iload2 (pc := 11) dX6_price_11 ?_
      refine A_bipush (pc := 12) (v := 50) dX6_price_12 (by decide) ?_
      refine A_icmp_le (pc := 14) (tgt := 19) dX6_price_14 (by decide) (fun c14 => ?_) (fun c14 => ?_)
      · refine A_aload0 (pc := 19) dX6_price_19 ?_
        refine A_getf (pc := 20) flX6_16 dX6_price_20 rfl rfl ?_
        refine A_iload1 (pc := 23) dX6_price_23 ?_
        refine A_iald (pc := 24) dX6_price_24 rfl (kiI_t c4) ?_
        refine A_istore3 (pc := 25) dX6_price_25 (by decide) ?_
        refine A_aload0 (pc := 26) dX6_price_26 ?_
        refine A_getf (pc := 27) flX6_16 dX6_price_27 rfl rfl ?_
        refine A_iload1 (pc := 30) dX6_price_30 ?_
        refine A_iload2 (pc := 31) dX6_price_31 ?_
        refine A_iast (pc := 32) dX6_price_32 rfl (kiI_t c4) ?_
        refine AW.heq (hp' := CH n (upd p k.toNatClampNeg v) o y la sc wy ch ko ++ rest) rfl ?_
        refine A_iload3 (pc := 33) dX6_price_33 ?_
        exact A_iret (pc := 34) dX6_price_34 rfl rfl (by decide) (by decide) (⟨by simp only [okPrice, c4, c8, c14, if_true, if_false, Bool.false_eq_true, bI], by simp only [okPrice, c4, c8, c14, if_true, if_false, Bool.false_eq_true]⟩)
      · refine A_iconst (pc := 17) (v := -1) dX6_price_17 (by decide) ?_
        exact A_iret (pc := 18) dX6_price_18 rfl rfl (by decide) (by decide) (⟨by simp only [okPrice, c4, c8, c14, if_true, if_false, Bool.false_eq_true, bI], by simp only [okPrice, c4, c8, c14, if_true, if_false, Bool.false_eq_true]⟩)

set_option maxHeartbeats 4000000 in
set_option maxRecDepth 100000 in
theorem sp_allow {n : NS} {p : Nat → Int32} {o : OS} {y : RS} {la sc : WS} {wy : YS} {ch : KS} {ko : Nat → Option Nat} {rest : AH} (b : Int32) : AS mX6_allow 0 0 0 [.ref 0, .int b] (CH n p o y la sc wy ch ko ++ rest) (P1 (if okAllow b = true then o.1 else -1) (CH n p (if okAllow b = true then ((b, o.2) : OS) else o) y la sc wy ch ko ++ rest)) := by
  refine AS.go (lv := [some (.ref 0), some (.int b), none]) rfl ?_ (by decide +kernel) rfl (Nat.le_of_ble_eq_true rfl)
  refine A_iload1 (pc := 0) dX6_allow_0 ?_
  refine A_if_lt (pc := 1) (tgt := 11) dX6_allow_1 (by decide) (fun c1 => ?_) (fun c1 => ?_)
  · refine A_iconst (pc := 11) (v := -1) dX6_allow_11 (by decide) ?_
    exact A_iret (pc := 12) dX6_allow_12 rfl rfl (by decide) (by decide) (⟨by simp only [okAllow, c1, if_true, if_false, Bool.false_eq_true, bI], by simp only [okAllow, c1, if_true, if_false, Bool.false_eq_true]⟩)
  · refine A_iload1 (pc := 4) dX6_allow_4 ?_
    refine A_sipush (pc := 5) (v := 511) dX6_allow_5 (by decide) ?_
    refine A_icmp_le (pc := 8) (tgt := 13) dX6_allow_8 (by decide) (fun c8 => ?_) (fun c8 => ?_)
    · refine A_aload0 (pc := 13) dX6_allow_13 ?_
      refine A_getf (pc := 14) flX6_20 dX6_allow_14 rfl rfl ?_
      refine A_istore2 (pc := 17) dX6_allow_17 (by decide) ?_
      refine A_aload0 (pc := 18) dX6_allow_18 ?_
      refine A_iload1 (pc := 19) dX6_allow_19 ?_
      refine A_putf (pc := 20) flX6_20 ft6_2 dX6_allow_20 rfl (Nat.le_of_ble_eq_true rfl) (fun _ => ⟨rfl, rfl⟩) ?_
      refine AW.heq (hp' := CH n p ((b, o.2)) y la sc wy ch ko ++ rest) rfl ?_
      refine A_iload2 (pc := 23) dX6_allow_23 ?_
      exact A_iret (pc := 24) dX6_allow_24 rfl rfl (by decide) (by decide) (⟨by simp only [okAllow, c1, c8, if_true, if_false, Bool.false_eq_true, bI], by simp only [okAllow, c1, c8, if_true, if_false, Bool.false_eq_true]⟩)
    · refine A_iconst (pc := 11) (v := -1) dX6_allow_11 (by decide) ?_
      exact A_iret (pc := 12) dX6_allow_12 rfl rfl (by decide) (by decide) (⟨by simp only [okAllow, c1, c8, if_true, if_false, Bool.false_eq_true, bI], by simp only [okAllow, c1, c8, if_true, if_false, Bool.false_eq_true]⟩)

set_option maxHeartbeats 4000000 in
set_option maxRecDepth 100000 in
theorem sp_say {n : NS} {p : Nat → Int32} {o : OS} {y : RS} {la sc : WS} {wy : YS} {ch : KS} {ko : Nat → Option Nat} {rest : AH} (k v : Int32) : AS mX6_say 1 0 0 [.ref 0, .int k, .int v] (CH n p o y la sc wy ch ko ++ rest) (P1 (if okSay k v = true then (if adOk 60 y.1 = true then (yP y (k * 10 + v)).1 else -1) else -1) (CH n p o (if okSay k v = true then yP y (k * 10 + v) else y) la sc wy ch ko ++ rest)) := by
  refine AS.go (lv := [some (.ref 0), some (.int k), some (.int v)]) rfl ?_ (by decide +kernel) rfl (Nat.le_of_ble_eq_true rfl)
  refine A_iload1 (pc := 0) dX6_say_0 ?_
  refine A_csi (pc := 1) csX6_129 (sp_isKind k) dX6_say_1 rfl rfl (Nat.le_of_ble_eq_true rfl) (by decide) (by decide) (by decide) ?_
  refine A_if_eq (pc := 4) (tgt := 25) dX6_say_4 (by decide) (fun c4 => ?_) (fun c4 => ?_)
  · replace c4 := (bI_eq _).mp c4
    refine A_iconst (pc := 25) (v := -1) dX6_say_25 (by decide) ?_
    exact A_iret (pc := 26) dX6_say_26 rfl rfl (by decide) (by decide) (⟨by simp only [okSay, c4, if_true, if_false, Bool.false_eq_true, bI], by simp only [okSay, c4, if_true, if_false, Bool.false_eq_true]⟩)
  · replace c4 := (bI_ne _).mp c4
    refine A_iload2 (pc := 7) dX6_say_7 ?_
    refine A_gets (pc := 8) (j := 2) (by decide) slX6_132 dX6_say_8 ?_
    refine A_iload1 (pc := 11) dX6_say_11 ?_
    refine A_ialdS (pc := 12) (j := 2) (by decide) dX6_say_12 (kiI_t c4) ?_
    refine A_icmp_lt (pc := 13) (tgt := 25) dX6_say_13 (by decide) (fun c13 => ?_) (fun c13 => ?_)
    · refine A_iconst (pc := 25) (v := -1) dX6_say_25 (by decide) ?_
      exact A_iret (pc := 26) dX6_say_26 rfl rfl (by decide) (by decide) (⟨by simp only [okSay, c4, c13, if_true, if_false, Bool.false_eq_true, bI], by simp only [okSay, c4, c13, if_true, if_false, Bool.false_eq_true]⟩)
    · refine A_iload2 (pc := 16) dX6_say_16 ?_
      refine A_gets (pc := 17) (j := 3) (by decide) slX6_135 dX6_say_17 ?_
      refine A_iload1 (pc := 20) dX6_say_20 ?_
      refine A_ialdS (pc := 21) (j := 3) (by decide) dX6_say_21 (kiI_t c4) ?_
      refine A_icmp_le (pc := 22) (tgt := 27) dX6_say_22 (by decide) (fun c22 => ?_) (fun c22 => ?_)
      · refine A_aload0 (pc := 27) dX6_say_27 ?_
        refine A_getf (pc := 28) flX6_29 dX6_say_28 rfl rfl ?_
        refine A_iload1 (pc := 31) dX6_say_31 ?_
        refine A_bipush (pc := 32) (v := 10) dX6_say_32 (by decide) ?_
        refine A_imul (pc := 34) dX6_say_34 ?_
        refine A_iload2 (pc := 35) dX6_say_35 ?_
        refine A_iadd (pc := 36) dX6_say_36 ?_
        refine A_cvi (pc := 37) cvX6_138 (sp_add (r := 9) (a := 10) (cap := 60) rfl rfl (by decide) _) dX6_say_37 rfl rfl rfl rfl (Nat.le_of_ble_eq_true rfl) (by decide) (by decide) (by decide) ?_
        refine AW.heq (hp' := CH n p o (yP y (k * 10 + v)) la sc wy ch ko ++ rest) rfl ?_
        refine A_if_eq (pc := 40) (tgt := 53) dX6_say_40 (by decide) (fun c40 => ?_) (fun c40 => ?_)
        · replace c40 := (bI_eq _).mp c40
          refine A_iconst (pc := 53) (v := -1) dX6_say_53 (by decide) ?_
          exact A_iret (pc := 54) dX6_say_54 rfl rfl (by decide) (by decide) (⟨by simp only [okSay, c4, c13, c22, c40, if_true, if_false, Bool.false_eq_true, bI], by simp only [okSay, c4, c13, c22, c40, if_true, if_false, Bool.false_eq_true]⟩)
        · replace c40 := (bI_ne _).mp c40
          refine A_aload0 (pc := 43) dX6_say_43 ?_
          refine A_getf (pc := 44) flX6_29 dX6_say_44 rfl rfl ?_
          refine A_getf (pc := 47) flX6_141 dX6_say_47 rfl rfl ?_
          refine A_goto (pc := 50) (tgt := 54) dX6_say_50 (by decide) ?_
          exact A_iret (pc := 54) dX6_say_54 rfl rfl (by decide) (by decide) (⟨by simp only [okSay, c4, c13, c22, c40, if_true, if_false, Bool.false_eq_true, bI], by simp only [okSay, c4, c13, c22, c40, if_true, if_false, Bool.false_eq_true]⟩)
      · refine A_iconst (pc := 25) (v := -1) dX6_say_25 (by decide) ?_
        exact A_iret (pc := 26) dX6_say_26 rfl rfl (by decide) (by decide) (⟨by simp only [okSay, c4, c13, c22, if_true, if_false, Bool.false_eq_true, bI], by simp only [okSay, c4, c13, c22, if_true, if_false, Bool.false_eq_true]⟩)

set_option maxHeartbeats 4000000 in
set_option maxRecDepth 100000 in
theorem sp_hush {n : NS} {p : Nat → Int32} {o : OS} {y : RS} {la sc : WS} {wy : YS} {ch : KS} {ko : Nat → Option Nat} {rest : AH}  : AS mX6_hush 1 0 0 [.ref 0] (CH n p o y la sc wy ch ko ++ rest) (P1 y.1 (CH n p o ((0, y.2)) la sc wy ch ko ++ rest)) := by
  refine AS.go (lv := [some (.ref 0), none]) rfl ?_ (by decide +kernel) rfl (Nat.le_of_ble_eq_true rfl)
  refine A_aload0 (pc := 0) dX6_hush_0 ?_
  refine A_getf (pc := 1) flX6_29 dX6_hush_1 rfl rfl ?_
  refine A_getf (pc := 4) flX6_141 dX6_hush_4 rfl rfl ?_
  refine A_istore1 (pc := 7) dX6_hush_7 (by decide) ?_
  refine A_aload0 (pc := 8) dX6_hush_8 ?_
  refine A_getf (pc := 9) flX6_29 dX6_hush_9 rfl rfl ?_
  refine A_cvv (pc := 12) cvX6_144 (sp_clear (r := 9) (a := 10) rfl) dX6_hush_12 rfl rfl rfl rfl (Nat.le_of_ble_eq_true rfl) (by decide) (by decide) (by decide) ?_
  refine A_iload1 (pc := 15) dX6_hush_15 ?_
  exact A_iret (pc := 16) dX6_hush_16 rfl rfl (by decide) (by decide) (⟨rfl, rfl⟩)

set_option maxHeartbeats 4000000 in
set_option maxRecDepth 100000 in
theorem sp_said {n : NS} {p : Nat → Int32} {o : OS} {y : RS} {la sc : WS} {wy : YS} {ch : KS} {ko : Nat → Option Nat} {rest : AH} (i : Int32) : AS mX6_said 1 0 0 [.ref 0, .int i] (CH n p o y la sc wy ch ko ++ rest) (P1 (atI 60 y.1 y.2 i) (CH n p o y la sc wy ch ko ++ rest)) := by
  refine AS.go (lv := [some (.ref 0), some (.int i)]) rfl ?_ (by decide +kernel) rfl (Nat.le_of_ble_eq_true rfl)
  refine A_aload0 (pc := 0) dX6_said_0 ?_
  refine A_getf (pc := 1) flX6_29 dX6_said_1 rfl rfl ?_
  refine A_iload1 (pc := 4) dX6_said_4 ?_
  refine A_cvi (pc := 5) cvX6_147 (sp_at (r := 9) (a := 10) (cap := 60) rfl rfl (by decide) _) dX6_said_5 rfl rfl rfl rfl (Nat.le_of_ble_eq_true rfl) (by decide) (by decide) (by decide) ?_
  exact A_iret (pc := 8) dX6_said_8 rfl rfl (by decide) (by decide) (⟨rfl, rfl⟩)

set_option maxHeartbeats 4000000 in
set_option maxRecDepth 100000 in
theorem sp_walk {n : NS} {p : Nat → Int32} {o : OS} {y : RS} {la sc : WS} {wy : YS} {ch : KS} {ko : Nat → Option Nat} {rest : AH} {Z : Nat} (hz : y.1 = nI Z) (hZ : Z < 2 ^ 31) (k f : Int32) : AS mX6_walk 6 0 0 [.ref 0, .int k, .int f] (CH n p o y la sc wy ch ko ++ rest) (P1 (if hasI n.1 k = true then (if exI f = true then (if (faL n 60 y.1 y.2 (-1) Z 0 (stW la k f)).1 = -1 then (faL n 60 y.1 y.2 (-1) Z 0 (stW la k f)).2.1 else -2 - (faL n 60 y.1 y.2 (-1) Z 0 (stW la k f)).1) else -1) else -1) (CH n p (if hasI n.1 k = true then (if exI f = true then ((o.1, 1, o.2.2) : OS) else o) else o) y (if hasI n.1 k = true then (if exI f = true then (faL n 60 y.1 y.2 (-1) Z 0 (stW la k f)).2 else la) else la) sc wy ch ko ++ rest)) := by
  refine AS.go (lv := [some (.ref 0), some (.int k), some (.int f), none]) rfl ?_ (by decide +kernel) rfl (Nat.le_of_ble_eq_true rfl)
  refine A_aload0 (pc := 0) dX6_walk_0 ?_
  refine A_getf (pc := 1) flX6_12 dX6_walk_1 rfl rfl ?_
  refine A_iload1 (pc := 4) dX6_walk_4 ?_
  refine A_cvi (pc := 5) cvX6_150 (sp_hasKnot (kn := n.1) (sk := n.2.1) rfl _) dX6_walk_5 rfl rfl rfl rfl (Nat.le_of_ble_eq_true rfl) (by decide) (by decide) (by decide) ?_
  refine A_if_eq (pc := 8) (tgt := 18) dX6_walk_8 (by decide) (fun c8 => ?_) (fun c8 => ?_)
  · replace c8 := (bI_eq _).mp c8
    refine A_iconst (pc := 18) (v := -1) dX6_walk_18 (by decide) ?_
    exact A_iret (pc := 19) dX6_walk_19 rfl rfl (by decide) (by decide) (⟨by simp only [c8, if_true, if_false, Bool.false_eq_true], by simp only [c8, if_true, if_false, Bool.false_eq_true]⟩)
  · replace c8 := (bI_ne _).mp c8
    refine A_iload2 (pc := 11) dX6_walk_11 ?_
    refine A_csi (pc := 12) csX6_153 (sp_isExit _) dX6_walk_12 rfl rfl (Nat.le_of_ble_eq_true rfl) (by decide) (by decide) (by decide) ?_
    refine A_if_ne (pc := 15) (tgt := 20) dX6_walk_15 (by decide) (fun c15 => ?_) (fun c15 => ?_)
    · replace c15 := (bI_ne _).mp c15
      refine A_aload0 (pc := 20) dX6_walk_20 ?_
      refine A_iconst (pc := 21) (v := 1) dX6_walk_21 (by decide) ?_
      refine A_putf (pc := 22) flX6_42 ft6_5 dX6_walk_22 rfl (Nat.le_of_ble_eq_true rfl) (fun _ => ⟨rfl, rfl⟩) ?_
      refine AW.heq (hp' := CH n p ((o.1, 1, o.2.2)) y la sc wy ch ko ++ rest) rfl ?_
      refine A_aload0 (pc := 25) dX6_walk_25 ?_
      refine A_getf (pc := 26) flX6_38 dX6_walk_26 rfl rfl ?_
      refine A_iload1 (pc := 29) dX6_walk_29 ?_
      refine A_iload2 (pc := 30) dX6_walk_30 ?_
      refine A_cvv (pc := 31) cvX6_156 (sp_stand_la _ _) dX6_walk_31 rfl rfl rfl rfl (Nat.le_of_ble_eq_true rfl) (by decide) (by decide) (by decide) ?_
      refine A_aload0 (pc := 34) dX6_walk_34 ?_
      refine A_getf (pc := 35) flX6_38 dX6_walk_35 rfl rfl ?_
      refine A_aload0 (pc := 38) dX6_walk_38 ?_
      refine A_getf (pc := 39) flX6_29 dX6_walk_39 rfl rfl ?_
      refine A_iconst (pc := 42) (v := -1) dX6_walk_42 (by decide) ?_
      refine A_cvi (pc := 43) cvX6_159 (sp_followAll_la (r := 9) (q := 10) (cap := 60) (Z := Z) (fun _ => rfl) (fun _ => rfl) (by decide) hz hZ (-1)) dX6_walk_43 rfl rfl rfl rfl (Nat.le_of_ble_eq_true rfl) (by decide) (by decide) (by decide) ?_
      refine A_istore3 (pc := 46) dX6_walk_46 (by decide) ?_
      refine A_iload3 (pc := 47) dX6_walk_47 ?_
      refine A_iconst (pc := 48) (v := -1) dX6_walk_48 (by decide) ?_
      refine A_icmp_ne (pc := 49) (tgt := 62) dX6_walk_49 (by decide) (fun c49 => ?_) (fun c49 => ?_)
      · refine A_iload3 (pc := 62) dX6_walk_62 ?_
        refine A_csi (pc := 63) csX6_166 (sp_lostAnswer _) dX6_walk_63 rfl rfl (Nat.le_of_ble_eq_true rfl) (by decide) (by decide) (by decide) ?_
        exact A_iret (pc := 66) dX6_walk_66 rfl rfl (by decide) (by decide) (⟨by simp only [c8, c15, c49, if_true, if_false, Bool.false_eq_true], by simp only [c8, c15, c49, if_true, if_false, Bool.false_eq_true]⟩)
      · refine A_aload0 (pc := 52) dX6_walk_52 ?_
        refine A_getf (pc := 53) flX6_38 dX6_walk_53 rfl rfl ?_
        refine A_getf (pc := 56) flX6_163 dX6_walk_56 rfl rfl ?_
        refine A_goto (pc := 59) (tgt := 66) dX6_walk_59 (by decide) ?_
        exact A_iret (pc := 66) dX6_walk_66 rfl rfl (by decide) (by decide) (⟨by simp only [c8, c15, c49, if_true, if_false, Bool.false_eq_true], by simp only [c8, c15, c49, if_true, if_false, Bool.false_eq_true]⟩)
    · replace c15 := (bI_eq _).mp c15
      refine A_iconst (pc := 18) (v := -1) dX6_walk_18 (by decide) ?_
      exact A_iret (pc := 19) dX6_walk_19 rfl rfl (by decide) (by decide) (⟨by simp only [c8, c15, if_true, if_false, Bool.false_eq_true], by simp only [c8, c15, if_true, if_false, Bool.false_eq_true]⟩)

set_option maxHeartbeats 4000000 in
set_option maxRecDepth 100000 in
theorem sp_walked {n : NS} {p : Nat → Int32} {o : OS} {y : RS} {la sc : WS} {wy : YS} {ch : KS} {ko : Nat → Option Nat} {rest : AH} (w : Int32) : AS mX6_walked 2 0 0 [.ref 0, .int w] (CH n p o y la sc wy ch ko ++ rest) (P1 (rWalked o.2.1 la w) (CH n p o y la sc wy ch ko ++ rest)) := by
  refine AS.go (lv := [some (.ref 0), some (.int w)]) rfl ?_ (by decide +kernel) rfl (Nat.le_of_ble_eq_true rfl)
  refine A_aload0 (pc := 0) dX6_walked_0 ?_
  refine A_getf (pc := 1) flX6_42 dX6_walked_1 rfl rfl ?_
  refine A_if_ne (pc := 4) (tgt := 9) dX6_walked_4 (by decide) (fun c4 => ?_) (fun c4 => ?_)
  · refine A_iload1 (pc := 9) dX6_walked_9 ?_
    rcases sw_in w 0 2 (by decide) with hsw | ⟨j, hj1, hj2, hsw⟩
    · refine A_tsOut (pc := 10) (tgt := 60) dX6_walked_10 hsw (by decide) ?_
      refine A_aload0 (pc := 60) dX6_walked_60 ?_
      refine A_getf (pc := 61) flX6_38 dX6_walked_61 rfl rfl ?_
      refine A_getf (pc := 64) flX6_175 dX6_walked_64 rfl rfl ?_
      refine A_iload1 (pc := 67) dX6_walked_67 ?_
      refine A_csi (pc := 68) csX6_178 (sp_exitAsked (r := 12) (a := 13) (cap := 200) rfl rfl (by decide) _) dX6_walked_68 rfl rfl (Nat.le_of_ble_eq_true rfl) (by decide) (by decide) (by decide) ?_
      exact A_iret (pc := 71) dX6_walked_71 rfl rfl (by decide) (by decide) (⟨by unfold rWalked; rw [if_neg c4, if_neg (sw_out hsw 0 (by decide)), if_neg (sw_out hsw 1 (by decide)), if_neg (sw_out hsw 2 (by decide))], rfl⟩)
    · rcases (show j = 0 ∨ j = 1 ∨ j = 2 by omega) with rfl | rfl | rfl
      · have e9 : w = 0 := hsw
        subst e9
        refine A_tsIn (pc := 10) (tgt := 36) dX6_walked_10 (by decide) (by decide) rfl (by decide) ?_
        refine A_aload0 (pc := 36) dX6_walked_36 ?_
        refine A_getf (pc := 37) flX6_38 dX6_walked_37 rfl rfl ?_
        refine A_getf (pc := 40) flX6_163 dX6_walked_40 rfl rfl ?_
        exact A_iret (pc := 43) dX6_walked_43 rfl rfl (by decide) (by decide) (⟨by unfold rWalked; rw [if_neg c4, if_pos rfl], rfl⟩)
      · have e9 : w = 1 := hsw
        subst e9
        refine A_tsIn (pc := 10) (tgt := 44) dX6_walked_10 (by decide) (by decide) rfl (by decide) ?_
        refine A_aload0 (pc := 44) dX6_walked_44 ?_
        refine A_getf (pc := 45) flX6_38 dX6_walked_45 rfl rfl ?_
        refine A_getf (pc := 48) flX6_169 dX6_walked_48 rfl rfl ?_
        exact A_iret (pc := 51) dX6_walked_51 rfl rfl (by decide) (by decide) (⟨by unfold rWalked; rw [if_neg c4, if_neg (by decide), if_pos rfl], rfl⟩)
      · have e9 : w = 2 := hsw
        subst e9
        refine A_tsIn (pc := 10) (tgt := 52) dX6_walked_10 (by decide) (by decide) rfl (by decide) ?_
        refine A_aload0 (pc := 52) dX6_walked_52 ?_
        refine A_getf (pc := 53) flX6_38 dX6_walked_53 rfl rfl ?_
        refine A_getf (pc := 56) flX6_172 dX6_walked_56 rfl rfl ?_
        exact A_iret (pc := 59) dX6_walked_59 rfl rfl (by decide) (by decide) (⟨by unfold rWalked; rw [if_neg c4, if_neg (by decide), if_neg (by decide), if_pos rfl], rfl⟩)
  · refine A_iconst (pc := 7) (v := -1) dX6_walked_7 (by decide) ?_
    exact A_iret (pc := 8) dX6_walked_8 rfl rfl (by decide) (by decide) (⟨by unfold rWalked; rw [if_pos c4], rfl⟩)

set_option maxHeartbeats 4000000 in
set_option maxRecDepth 100000 in
theorem sp_start {n : NS} {p : Nat → Int32} {o : OS} {y : RS} {la sc : WS} {wy : YS} {ch : KS} {ko : Nat → Option Nat} {rest : AH} (k f : Int32) : AS mX6_start 2 0 0 [.ref 0, .int k, .int f] (CH n p o y la sc wy ch ko ++ rest) (P1 (bI (if hasI n.1 k = true then exI f else false)) (CH n p o y la sc (if hasI n.1 k = true then (if exI f = true then bgY wy k f else wy) else wy) ch ko ++ rest)) := by
  refine AS.go (lv := [some (.ref 0), some (.int k), some (.int f)]) rfl ?_ (by decide +kernel) rfl (Nat.le_of_ble_eq_true rfl)
  refine A_aload0 (pc := 0) dX6_start_0 ?_
  refine A_getf (pc := 1) flX6_12 dX6_start_1 rfl rfl ?_
  refine A_iload1 (pc := 4) dX6_start_4 ?_
  refine A_cvi (pc := 5) cvX6_150 (sp_hasKnot (kn := n.1) (sk := n.2.1) rfl _) dX6_start_5 rfl rfl rfl rfl (Nat.le_of_ble_eq_true rfl) (by decide) (by decide) (by decide) ?_
  refine A_if_eq (pc := 8) (tgt := 18) dX6_start_8 (by decide) (fun c8 => ?_) (fun c8 => ?_)
  · replace c8 := (bI_eq _).mp c8
    refine A_iconst (pc := 18) (v := 0) dX6_start_18 (by decide) ?_
    exact A_iret (pc := 19) dX6_start_19 rfl rfl (by decide) (by decide) (⟨by simp only [id, c8, if_true, if_false, Bool.false_eq_true, bI], by simp only [id, c8, if_true, if_false, Bool.false_eq_true]⟩)
  · replace c8 := (bI_ne _).mp c8
    refine A_iload2 (pc := 11) dX6_start_11 ?_
    refine A_csi (pc := 12) csX6_153 (sp_isExit _) dX6_start_12 rfl rfl (Nat.le_of_ble_eq_true rfl) (by decide) (by decide) (by decide) ?_
    refine A_if_ne (pc := 15) (tgt := 20) dX6_start_15 (by decide) (fun c15 => ?_) (fun c15 => ?_)
    · replace c15 := (bI_ne _).mp c15
      refine A_aload0 (pc := 20) dX6_start_20 ?_
      refine A_getf (pc := 21) flX6_52 dX6_start_21 rfl rfl ?_
      refine A_iload1 (pc := 24) dX6_start_24 ?_
      refine A_iload2 (pc := 25) dX6_start_25 ?_
      refine A_cvv (pc := 26) cvX6_181 (sp_begin _ _) dX6_start_26 rfl rfl rfl rfl (Nat.le_of_ble_eq_true rfl) (by decide) (by decide) (by decide) ?_
      refine A_iconst (pc := 29) (v := 1) dX6_start_29 (by decide) ?_
      exact A_iret (pc := 30) dX6_start_30 rfl rfl (by decide) (by decide) (⟨by simp only [id, c8, c15, if_true, if_false, Bool.false_eq_true, bI], by simp only [id, c8, c15, if_true, if_false, Bool.false_eq_true]⟩)
    · replace c15 := (bI_eq _).mp c15
      refine A_iconst (pc := 18) (v := 0) dX6_start_18 (by decide) ?_
      exact A_iret (pc := 19) dX6_start_19 rfl rfl (by decide) (by decide) (⟨by simp only [id, c8, c15, if_true, if_false, Bool.false_eq_true, bI], by simp only [id, c8, c15, if_true, if_false, Bool.false_eq_true]⟩)

set_option maxHeartbeats 4000000 in
set_option maxRecDepth 100000 in
theorem sp_go {n : NS} {p : Nat → Int32} {o : OS} {y : RS} {la sc : WS} {wy : YS} {ch : KS} {ko : Nat → Option Nat} {rest : AH} {E : Nat} (he : wy.2.2.2.1 = nI E) (hE : E ≤ 30) (e : Int32) : AS mX6_go 3 0 0 [.ref 0, .int e] (CH n p o y la sc wy ch ko ++ rest) (P1 (if wy.1 = 0 then -1 else if acI n.2.2.2.1 ((lpL n wy E 0 (wy.2.1 * 4 + wy.2.2.1)) / 4) e = -1 then -1 else if adOk 30 wy.2.2.2.1 = true then (yA wy e).2.2.2.1 else -1) (CH n p o y la sc (if wy.1 = 0 then wy else if acI n.2.2.2.1 ((lpL n wy E 0 (wy.2.1 * 4 + wy.2.2.1)) / 4) e = -1 then wy else yA wy e) ch ko ++ rest)) := by
  refine AS.go (lv := [some (.ref 0), some (.int e), none]) rfl ?_ (by decide +kernel) rfl (Nat.le_of_ble_eq_true rfl)
  refine A_aload0 (pc := 0) dX6_go_0 ?_
  refine A_getf (pc := 1) flX6_52 dX6_go_1 rfl rfl ?_
  refine A_getf (pc := 4) flX6_107 dX6_go_4 rfl rfl ?_
  refine A_if_ne (pc := 7) (tgt := 12) dX6_go_7 (by decide) (fun c7 => ?_) (fun c7 => ?_)
  · refine A_aload0 (pc := 12) dX6_go_12 ?_
    refine A_getf (pc := 13) flX6_12 dX6_go_13 rfl rfl ?_
    refine A_aload0 (pc := 16) dX6_go_16 ?_
    refine A_cvi (pc := 17) cvX6_184 (sp_lastPlace he (by omega)) dX6_go_17 rfl rfl rfl rfl (Nat.le_of_ble_eq_true rfl) (by decide) (by decide) (by decide) ?_
    refine A_csi (pc := 20) csX6_120 (sp_knotOf _) dX6_go_20 rfl rfl (Nat.le_of_ble_eq_true rfl) (by decide) (by decide) (by decide) ?_
    refine A_iload1 (pc := 23) dX6_go_23 ?_
    refine A_cvi (pc := 24) cvX6_101 (sp_across (kn := n.1) (sk := n.2.1) (ac := n.2.2.2.1) rfl rfl _ _) dX6_go_24 rfl rfl rfl rfl (Nat.le_of_ble_eq_true rfl) (by decide) (by decide) (by decide) ?_
    refine A_iconst (pc := 27) (v := -1) dX6_go_27 (by decide) ?_
    refine A_icmp_eq (pc := 28) (tgt := 35) dX6_go_28 (by decide) (fun c28 => ?_) (fun c28 => ?_)
    · refine A_iconst (pc := 35) (v := 0) dX6_go_35 (by decide) ?_
      refine A_istore2 (pc := 36) dX6_go_36 (by decide) ?_
      refine A_iload2 (pc := 37) dX6_go_37 ?_
      refine A_if_eq (pc := 38) (tgt := 68) dX6_go_38 (by decide) (fun c38 => ?_) (fun c38 => ?_)
      · refine A_iconst (pc := 68) (v := -1) dX6_go_68 (by decide) ?_
        exact A_iret (pc := 69) dX6_go_69 rfl rfl (by decide) (by decide) (⟨by simp only [c7, c28, if_true, if_false, Bool.false_eq_true, yA], by simp only [c7, c28, if_true, if_false, Bool.false_eq_true]⟩)
      · exact absurd rfl c38
    · refine A_iconst (pc := 31) (v := 1) dX6_go_31 (by decide) ?_
      refine A_goto (pc := 32) (tgt := 36) dX6_go_32 (by decide) ?_
      refine A_istore2 (pc := 36) dX6_go_36 (by decide) ?_
      refine A_iload2 (pc := 37) dX6_go_37 ?_
      refine A_if_eq (pc := 38) (tgt := 68) dX6_go_38 (by decide) (fun c38 => ?_) (fun c38 => ?_)
      · exact absurd c38 (by decide)
      · refine A_aload0 (pc := 41) dX6_go_41 ?_
        refine A_getf (pc := 42) flX6_52 dX6_go_42 rfl rfl ?_
        refine A_getf (pc := 45) flX6_188 dX6_go_45 rfl rfl ?_
        refine A_iload1 (pc := 48) dX6_go_48 ?_
        refine A_cvi (pc := 49) cvX6_138 (sp_add (r := 18) (a := 19) (cap := 30) rfl rfl (by decide) _) dX6_go_49 rfl rfl rfl rfl (Nat.le_of_ble_eq_true rfl) (by decide) (by decide) (by decide) ?_
        refine AW.heq (hp' := CH n p o y la sc (yA wy e) ch ko ++ rest) rfl ?_
        refine A_if_eq (pc := 52) (tgt := 68) dX6_go_52 (by decide) (fun c52 => ?_) (fun c52 => ?_)
        · replace c52 := (bI_eq _).mp c52
          refine A_iconst (pc := 68) (v := -1) dX6_go_68 (by decide) ?_
          exact A_iret (pc := 69) dX6_go_69 rfl rfl (by decide) (by decide) (⟨by simp only [c7, c28, c52, if_true, if_false, Bool.false_eq_true, yA], by simp only [c7, c28, c52, if_true, if_false, Bool.false_eq_true]⟩)
        · replace c52 := (bI_ne _).mp c52
          refine A_aload0 (pc := 55) dX6_go_55 ?_
          refine A_getf (pc := 56) flX6_52 dX6_go_56 rfl rfl ?_
          refine A_getf (pc := 59) flX6_188 dX6_go_59 rfl rfl ?_
          refine A_getf (pc := 62) flX6_141 dX6_go_62 rfl rfl ?_
          refine A_goto (pc := 65) (tgt := 69) dX6_go_65 (by decide) ?_
          exact A_iret (pc := 69) dX6_go_69 rfl rfl (by decide) (by decide) (⟨by simp only [c7, c28, c52, if_true, if_false, Bool.false_eq_true, yA], by simp only [c7, c28, c52, if_true, if_false, Bool.false_eq_true]⟩)
  · refine A_iconst (pc := 10) (v := -1) dX6_go_10 (by decide) ?_
    exact A_iret (pc := 11) dX6_go_11 rfl rfl (by decide) (by decide) (⟨by simp only [c7, if_true, if_false, Bool.false_eq_true, yA], by simp only [c7, if_true, if_false, Bool.false_eq_true]⟩)
