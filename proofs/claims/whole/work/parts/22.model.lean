/-! the model: its heap behind the class's; all its numbers are counts -/
def updN (f : Nat → Nat) (i v : Nat) : Nat → Nat := fun x => if x = i then v else f x
def updO (f : Nat → Option Nat) (i : Nat) (v : Option Nat) : Nat → Option Nat := fun x => if x = i then v else f x
def oI (v : Option Nat) : Int32 := match v with
  | none => -1
  | some y => nI y
theorem upd_nI (f : Nat → Nat) (i v : Nat) : upd (fun x => nI (f x)) i (nI v) = fun x => nI (updN f i v x) := by
  funext x
  unfold upd updN
  split <;> rfl
theorem upd_oI (f : Nat → Option Nat) (i : Nat) (v : Option Nat) : upd (fun x => oI (f x)) i (oI v) = fun x => oI (updO f i v x) := by
  funext x
  unfold upd updO
  split <;> rfl
theorem nI_nm1 {y : Nat} (h : y < 2 ^ 31) : ¬ nI y = -1 := fun e => by
  have h1 := congrArg Int32.toInt e
  rw [nI_toInt h] at h1
  have h2 : (-1 : Int32).toInt = -1 := by decide
  rw [h2] at h1
  omega
theorem oI_some {y : Nat} (h : y < 2 ^ 31) : ¬ oI (some y) = -1 := nI_nm1 h
abbrev nC (N : Nat) (f : Nat → Nat) : AC := aC N (fun x => nI (f x))
abbrev oCa (N : Nat) (f : Nat → Option Nat) : AC := aC N (fun x => oI (f x))
abbrev XV : Type := NS × (Nat → Int32) × OS × RS × WS × WS × YS × KS × (Nat → Option Nat)
def XH (c : XV) : AH := CH c.1 c.2.1 c.2.2.1 c.2.2.2.1 c.2.2.2.2.1 c.2.2.2.2.2.1 c.2.2.2.2.2.2.1 c.2.2.2.2.2.2.2.1 c.2.2.2.2.2.2.2.2
abbrev MN : Type := Nat × (Nat → Nat) × (Nat → Option Nat) × (Nat → Nat)
abbrev MS : Type := Nat × (Nat → Nat) × (Nat → Nat)
abbrev MR : Type := Bool × Nat × Nat × Nat × (Nat → Nat)
abbrev MW : Type := Bool × Nat × Nat × Nat × (Nat → Nat)
abbrev MK : Type := Nat × (Nat → Nat) × (Nat → Nat) × (Nat → Nat) × (Nat → Nat) × (Nat → Nat) × (Nat → Nat) × (Nat → Nat)
abbrev MA : Type := Nat × Nat × Nat × (Nat → Nat)
abbrev MP : Type := (Nat → Nat) × (Nat → Nat)
abbrev MT : Type := (Nat → Nat) × (Nat → Nat) × (Nat → Nat) × (Nat → Nat)
def MH (n : MN) (p : Nat → Nat) (al : Int32) (s : MS) (r : MR) (w : MW) (k : MK) (a : MA) (pl : MP) (fr : Nat → Nat) (t : MT) : AH := [
  oC 7 [.ref 26, .int (nI n.1), .ref 27, .ref 28, .ref 29, .int al, .ref 30, .ref 31, .int (nI s.1), .int (bI r.1), .int (nI r.2.1), .int (nI r.2.2.1), .ref 32, .int (nI r.2.2.2.1), .int (bI w.1), .int (nI w.2.1), .int (nI w.2.2.1), .int (nI w.2.2.2.1), .ref 33, .ref 34, .ref 35, .ref 36, .ref 37, .ref 38, .ref 39, .ref 40, .int (nI k.1), .int (nI a.1), .int (nI a.2.1), .ref 41, .int (nI a.2.2.1), .ref 42, .ref 43, .ref 44, .ref 45, .ref 46, .ref 47, .ref 48],
  nC 24 n.2.1, oCa 96 n.2.2.1, nC 96 n.2.2.2, nC 9 p, nC 60 s.2.1, nC 60 s.2.2, nC 30 r.2.2.2.2, nC 200 w.2.2.2.2,
  nC 8 k.2.1, nC 8 k.2.2.1, nC 240 k.2.2.2.1, nC 8 k.2.2.2.2.1, nC 480 k.2.2.2.2.2.1, nC 480 k.2.2.2.2.2.2.1, nC 8 k.2.2.2.2.2.2.2,
  nC 30 a.2.2.2, nC 31 pl.1, nC 31 pl.2, nC 24 fr, nC 96 t.1, nC 96 t.2.1, nC 96 t.2.2.1, nC 96 t.2.2.2]
def MX (c : XV) (n : MN) (p : Nat → Nat) (al : Int32) (s : MS) (r : MR) (w : MW) (k : MK) (a : MA) (pl : MP) (fr : Nat → Nat) (t : MT) (rest : AH) : AH := XH c ++ (MH n p al s r w k a pl fr t ++ rest)
section AN
variable {M : MD} {d mc ms k n pc : Nat} {lv : List (Option Value)} {st : List Value} {hp : AH} {post : Post}
theorem A_ialdN {b N i : Nat} {f : Nat → Int32} {x : Int32} (hd : decode M.2.1 pc = .ok (.iaload, 1)) (hc : hp[b]? = some (.inl (N, f))) (hx : x = nI i) (hi : i < N) (hN : N < 2 ^ 31) (h : AW M d mc ms k n (pc + 1) lv (.int (f i) :: st) hp post) : AW M d mc ms k n pc lv (.int x :: .ref b :: st) hp post := by
  subst hx
  refine A_iald hd hc (vp_in_nI hi hN) ?_
  rw [nI_clamp (by omega)]
  exact h
theorem A_iastN {b N i v : Nat} {f : Nat → Nat} {x y : Int32} (hd : decode M.2.1 pc = .ok (.iastore, 1)) (hc : hp[b]? = some (nC N f)) (hx : x = nI i) (hy : y = nI v) (hi : i < N) (hN : N < 2 ^ 31) (h : AW M d mc ms k n (pc + 1) lv st (hp.set b (nC N (updN f i v))) post) : AW M d mc ms k n pc lv (.int y :: .int x :: .ref b :: st) hp post := by
  subst hx
  subst hy
  refine A_iast hd hc (vp_in_nI hi hN) ?_
  rw [nI_clamp (by omega), upd_nI]
  exact h
theorem A_iastO {b N i : Nat} {v : Option Nat} {f : Nat → Option Nat} {x y : Int32} (hd : decode M.2.1 pc = .ok (.iastore, 1)) (hc : hp[b]? = some (oCa N f)) (hx : x = nI i) (hy : y = oI v) (hi : i < N) (hN : N < 2 ^ 31) (h : AW M d mc ms k n (pc + 1) lv st (hp.set b (oCa N (updO f i v))) post) : AW M d mc ms k n pc lv (.int y :: .int x :: .ref b :: st) hp post := by
  subst hx
  subst hy
  refine A_iast hd hc (vp_in_nI hi hN) ?_
  rw [nI_clamp (by omega), upd_oI]
  exact h
theorem AW.stk {st' : List Value} (he : st = st') (h : AW M d mc ms k n pc lv st' hp post) : AW M d mc ms k n pc lv st hp post := by rw [he]; exact h
end AN
theorem ix4 (k e : Nat) : (4 : Int32) * nI k + nI e = nI (4 * k + e) := by rw [show (4 : Int32) = nI 4 from rfl, pk_mul, nI_add]
theorem rm4 {a : Nat} (h : a < 2 ^ 31) : nI a - nI a / 4 * 4 = nI (a % 4) := pk_rem h (by decide) (by decide)
theorem dv4 {a : Nat} (h : a < 2 ^ 31) : nI a / 4 = nI (a / 4) := pk_div h (by decide) (by decide)
theorem rm4a {a b : Nat} (h : a + b < 2 ^ 31) : nI a + nI b - (nI a + nI b) / 4 * 4 = nI ((a + b) % 4) := by rw [nI_add]; exact rm4 h
theorem rm42 {a : Nat} (h : a + 2 < 2 ^ 31) : nI a + 2 - (nI a + 2) / 4 * 4 = nI ((a + 2) % 4) := by rw [show nI a + 2 = nI (a + 2) from nI_add a 2]; exact rm4 h
/-! ### the walker: at a knot, facing, exits of this saying -/
def VL (ld : Nat → Option Nat) : Prop := ∀ x y : Nat, x < 96 → ld x = some y → y < 96
def okA (a : MA) : Prop := a.1 < 24 ∧ a.2.1 < 4 ∧ a.2.2.1 ≤ 30
def gbT (ld : Nat → Option Nat) (a : MA) (e : Nat) : Bool × MA := match ld (4 * a.1 + e) with
  | none => (false, a)
  | some y => if a.2.2.1 = 30 then (false, a) else (true, (y / 4, (y + 2) % 4, a.2.2.1 + 1, updN a.2.2.2 a.2.2.1 e))
def hsT (ld : Nat → Option Nat) (a : MA) (turn : Nat) : Bool := (ld (4 * a.1 + (a.2.1 + turn) % 4)).isSome
theorem gbT_ok {ld : Nat → Option Nat} {a : MA} {e : Nat} (hl : VL ld) (ha : okA a) (he : e < 4) : okA (gbT ld a e).2 ∧ ((gbT ld a e).1 = true → (gbT ld a e).2.2.2.1 = a.2.2.1 + 1) := by
  obtain ⟨h1, h2, h3⟩ := ha
  unfold gbT
  cases hy : ld (4 * a.1 + e) with
  | none => exact ⟨⟨h1, h2, h3⟩, fun q => by cases q⟩
  | some y =>
    have := hl _ _ (by omega) hy
    by_cases hm : a.2.2.1 = 30
    · simp only [hm, if_true]
      exact ⟨⟨h1, h2, h3⟩, fun q => by cases q⟩
    · simp only [hm, if_false]
      exact ⟨⟨by show y / 4 < 24; omega, by show (y + 2) % 4 < 4; omega, by show a.2.2.1 + 1 ≤ 30; omega⟩, fun _ => trivial⟩
def tnT (ld : Nat → Option Nat) (turn : Nat) : Nat → Nat → MA → Bool × MA
  | 0, _, a => (false, a)
  | m + 1, left, a => if (if hsT ld a turn = true then left - 1 else left) = 0 then gbT ld a ((a.2.1 + turn) % 4) else if (gbT ld a a.2.1).1 = true then tnT ld turn m (if hsT ld a turn = true then left - 1 else left) (gbT ld a a.2.1).2 else (false, (gbT ld a a.2.1).2)
def unT (n : MN) (nb : Nat) : Nat → Nat → MA → Bool × MA
  | 0, _, a => (false, a)
  | m + 1, left, a => if (gbT n.2.2.1 a a.2.1).1 = true then (if n.2.1 (gbT n.2.2.1 a a.2.1).2.1 = nb then (if left = 0 then (true, (gbT n.2.2.1 a a.2.1).2) else unT n nb m (left - 1) (gbT n.2.2.1 a a.2.1).2) else unT n nb m left (gbT n.2.2.1 a a.2.1).2) else (false, (gbT n.2.2.1 a a.2.1).2)
def edT (ld : Nat → Option Nat) : Nat → MA → Bool × MA
  | 0, a => (false, a)
  | m + 1, a => if (gbT ld a a.2.1).1 = true then (if hsT ld (gbT ld a a.2.1).2 0 = true then edT ld m (gbT ld a a.2.1).2 else (true, (gbT ld a a.2.1).2)) else (false, (gbT ld a a.2.1).2)
def gnT (n : MN) (a : MA) (name : Nat) : Nat → Nat → Option Nat → Bool × MA
  | 0, _, fo => (match fo with
    | none => (false, a)
    | some e => gbT n.2.2.1 a e)
  | m + 1, i, fo => if i = 2 then gnT n a name m (i + 1) fo else if hsT n.2.2.1 a i = true then (if n.2.2.2 (4 * a.1 + (a.2.1 + i) % 4) = name then (match fo with
    | none => gnT n a name m (i + 1) (some ((a.2.1 + i) % 4))
    | some _ => (false, a)) else gnT n a name m (i + 1) fo) else gnT n a name m (i + 1) fo
def zA (a : MA) : MA := (a.1, a.2.1, 0, a.2.2.2)
def dsT (n : MN) (a : MA) (kd nb ps : Nat) : Bool × MA := if kd < 4 then gbT n.2.2.1 (zA a) (((zA a).2.1 + kd) % 4) else if kd = 7 then gnT n (zA a) nb 4 0 none else if kd < 6 then tnT n.2.2.1 (if kd = 4 then 3 else 1) 31 nb (zA a) else if kd = 8 then edT n.2.2.1 31 (zA a) else unT n nb 31 ps (zA a)
theorem hasI_in {K : Nat} (hK : K ≤ 24) (x : Int32) : inI x 0 (nI K - 1) = hasI (nI K) x := by
  unfold inI hasI
  by_cases h0 : x < 0
  · rw [if_pos h0, if_pos h0]
  · rw [if_neg h0, if_neg h0]
    obtain ⟨j, hj, rfl⟩ := nI_of h0
    cases K with
    | zero =>
      rw [if_pos (show nI 0 - 1 < nI j from by rw [fa_lt, show (nI 0 - 1).toInt = -1 from by decide, nI_toInt hj]; omega), if_pos (show nI 0 ≤ nI j from nI_le (by omega) hj)]
    | succ K =>
      rw [nI_pred]
      by_cases hk : K < j
      · rw [if_pos (nI_lt hk hj), if_pos (nI_le (by omega) hj)]
      · rw [if_neg (nI_nlt (by omega) (by omega)), if_neg (nI_ge (by omega) (by omega)), if_neg (show ¬ (24 : Int32) ≤ nI j from nI_ge (b := 24) (by omega) (by decide))]
theorem exI_in (x : Int32) : inI x 0 3 = exI x := by
  unfold inI exI
  by_cases h0 : x < 0
  · rw [if_pos h0, if_pos h0]
  · rw [if_neg h0, if_neg h0]
    obtain ⟨j, hj, rfl⟩ := nI_of h0
    by_cases hk : 3 < j
    · rw [if_pos (show (3 : Int32) < nI j from nI_lt (a := 3) hk hj), if_pos (show (4 : Int32) ≤ nI j from nI_le (a := 4) (by omega) hj)]
    · rw [if_neg (show ¬ (3 : Int32) < nI j from nI_nlt (a := 3) (b := j) (by omega) (by decide)), if_neg (show ¬ (4 : Int32) ≤ nI j from nI_ge (b := 4) (by omega) (by decide))]

set_option maxHeartbeats 4000000 in
set_option maxRecDepth 100000 in
theorem mp_in {hp : AH} (x lo hi : Int32) : AS mX7_in 0 0 0 [.int x, .int lo, .int hi] (hp) (P1 (bI (inI x lo hi)) hp) := by
  refine AS.go (lv := [some (.int x), some (.int lo), some (.int hi)]) rfl ?_ (by decide +kernel) rfl (Nat.le_of_ble_eq_true rfl)
  refine A_iload0 (pc := 0) dX7_in_0 ?_
  refine A_iload1 (pc := 1) dX7_in_1 ?_
  refine A_icmp_lt (pc := 2) (tgt := 14) dX7_in_2 (by decide) (fun c2 => ?_) (fun c2 => ?_)
  · refine A_iconst (pc := 14) (v := 0) dX7_in_14 (by decide) ?_
    exact A_iret (pc := 15) dX7_in_15 rfl rfl (by decide) (by decide) (⟨by simp [inI, *, bI], rfl⟩)
  · refine A_iload0 (pc := 5) dX7_in_5 ?_
    refine A_iload2 (pc := 6) dX7_in_6 ?_
    refine A_icmp_gt (pc := 7) (tgt := 14) dX7_in_7 (by decide) (fun c7 => ?_) (fun c7 => ?_)
    · refine A_iconst (pc := 14) (v := 0) dX7_in_14 (by decide) ?_
      exact A_iret (pc := 15) dX7_in_15 rfl rfl (by decide) (by decide) (⟨by simp [inI, *, bI], rfl⟩)
    · refine A_iconst (pc := 10) (v := 1) dX7_in_10 (by decide) ?_
      refine A_goto (pc := 11) (tgt := 15) dX7_in_11 (by decide) ?_
      exact A_iret (pc := 15) dX7_in_15 rfl rfl (by decide) (by decide) (⟨by simp [inI, *, bI], rfl⟩)

set_option maxHeartbeats 4000000 in
set_option maxRecDepth 100000 in
theorem mp_isKnot {c : XV} {n : MN} {p : Nat → Nat} {al : Int32} {s : MS} {r : MR} {w : MW} {k : MK} {a : MA} {pl : MP} {fr : Nat → Nat} {t : MT} {rest : AH} (hK : n.1 ≤ 24) (x : Int32) : AS mX7_isKnot 1 0 0 [.ref 25, .int x] (MX c n p al s r w k a pl fr t rest) (P1 (bI (hasI (nI n.1) x)) (MX c n p al s r w k a pl fr t rest)) := by
  refine AS.go (lv := [some (.ref 25), some (.int x)]) rfl ?_ (by decide +kernel) rfl (Nat.le_of_ble_eq_true rfl)
  refine A_iload1 (pc := 0) dX7_isKnot_0 ?_
  refine A_iconst (pc := 1) (v := 0) dX7_isKnot_1 (by decide) ?_
  refine A_aload0 (pc := 2) dX7_isKnot_2 ?_
  refine A_getf (pc := 3) flX7_83 dX7_isKnot_3 rfl rfl ?_
  refine A_iconst (pc := 6) (v := 1) dX7_isKnot_6 (by decide) ?_
  refine A_isub (pc := 7) dX7_isKnot_7 ?_
  refine A_csi (pc := 8) csX7_86 (mp_in _ _ _) dX7_isKnot_8 rfl rfl (Nat.le_of_ble_eq_true rfl) (by decide) (by decide) (by decide) ?_
  exact A_iret (pc := 11) dX7_isKnot_11 rfl (bI_n _) (by decide) (by decide) (⟨by rw [hasI_in hK], rfl⟩)

set_option maxHeartbeats 4000000 in
set_option maxRecDepth 100000 in
theorem mp_isExit {c : XV} {n : MN} {p : Nat → Nat} {al : Int32} {s : MS} {r : MR} {w : MW} {k : MK} {a : MA} {pl : MP} {fr : Nat → Nat} {t : MT} {rest : AH} (hK : n.1 ≤ 24) (x e : Int32) : AS mX7_isExit 2 0 0 [.ref 25, .int x, .int e] (MX c n p al s r w k a pl fr t rest) (P1 (bI (if hasI (nI n.1) x = true then exI e else false)) (MX c n p al s r w k a pl fr t rest)) := by
  refine AS.go (lv := [some (.ref 25), some (.int x), some (.int e)]) rfl ?_ (by decide +kernel) rfl (Nat.le_of_ble_eq_true rfl)
  refine A_aload0 (pc := 0) dX7_isExit_0 ?_
  refine A_iload1 (pc := 1) dX7_isExit_1 ?_
  refine A_cvi (pc := 2) cvX7_90 (mp_isKnot hK _) dX7_isExit_2 rfl rfl rfl rfl (Nat.le_of_ble_eq_true rfl) (by decide) (by decide) (by decide) ?_
  refine A_if_eq (pc := 5) (tgt := 21) dX7_isExit_5 (by decide) (fun c5 => ?_) (fun c5 => ?_)
  · replace c5 := (bI_eq _).mp c5
    refine A_iconst (pc := 21) (v := 0) dX7_isExit_21 (by decide) ?_
    exact A_iret (pc := 22) dX7_isExit_22 rfl rfl (by decide) (by decide) (⟨by simp only [c5, if_true, if_false, Bool.false_eq_true, bI], rfl⟩)
  · replace c5 := (bI_ne _).mp c5
    refine A_iload2 (pc := 8) dX7_isExit_8 ?_
    refine A_iconst (pc := 9) (v := 0) dX7_isExit_9 (by decide) ?_
    refine A_iconst (pc := 10) (v := 3) dX7_isExit_10 (by decide) ?_
    refine A_csi (pc := 11) csX7_86 (mp_in _ _ _) dX7_isExit_11 rfl rfl (Nat.le_of_ble_eq_true rfl) (by decide) (by decide) (by decide) ?_
    refine A_if_eq (pc := 14) (tgt := 21) dX7_isExit_14 (by decide) (fun c14 => ?_) (fun c14 => ?_)
    · replace c14 := (bI_eq _).mp c14
      rw [exI_in] at c14
      refine A_iconst (pc := 21) (v := 0) dX7_isExit_21 (by decide) ?_
      exact A_iret (pc := 22) dX7_isExit_22 rfl rfl (by decide) (by decide) (⟨by simp only [c5, c14, if_true, if_false, Bool.false_eq_true, bI], rfl⟩)
    · replace c14 := (bI_ne _).mp c14
      rw [exI_in] at c14
      refine A_iconst (pc := 17) (v := 1) dX7_isExit_17 (by decide) ?_
      refine A_goto (pc := 18) (tgt := 22) dX7_isExit_18 (by decide) ?_
      exact A_iret (pc := 22) dX7_isExit_22 rfl rfl (by decide) (by decide) (⟨by simp only [c5, c14, if_true, if_false, Bool.false_eq_true, bI], rfl⟩)

def moN (kd : Nat) : Nat := if kd = 4 then 4 else if kd = 5 then 4 else if kd = 6 then 7 else if kd = 7 then 9 else 0
set_option maxHeartbeats 4000000 in
set_option maxRecDepth 100000 in
theorem mp_mostOf {hp : AH} (kd : Nat) (hkd : kd < 2 ^ 31) : AS mX7_mostOf 0 0 0 [.int (nI kd)] (hp) (P1 (nI (moN kd)) hp) := by
  refine AS.go (lv := [some (.int (nI kd))]) rfl ?_ (by decide +kernel) rfl (Nat.le_of_ble_eq_true rfl)
  refine A_iload0 (pc := 0) dX7_mostOf_0 ?_
  refine A_iconst (pc := 1) (v := 4) dX7_mostOf_1 (by decide) ?_
  refine A_icmp_eq (pc := 2) (tgt := 10) dX7_mostOf_2 (by decide) (fun c2 => ?_) (fun c2 => ?_)
  · have d2 := (nI_eq (by omega) (by decide)).mp (show nI kd = nI 4 from c2)
    refine A_iconst (pc := 10) (v := 4) dX7_mostOf_10 (by decide) ?_
    refine A_goto (pc := 11) (tgt := 37) dX7_mostOf_11 (by decide) ?_
    exact A_iret (pc := 37) dX7_mostOf_37 rfl rfl (by decide) (by decide) (⟨by unfold moN; rw [if_pos d2]; rfl, rfl⟩)
  · have d2 : ¬ kd = 4 := fun q => c2 (by rw [q]; rfl)
    refine A_iload0 (pc := 5) dX7_mostOf_5 ?_
    refine A_iconst (pc := 6) (v := 5) dX7_mostOf_6 (by decide) ?_
    refine A_icmp_ne (pc := 7) (tgt := 14) dX7_mostOf_7 (by decide) (fun c7 => ?_) (fun c7 => ?_)
    · have d7 : ¬ kd = 5 := fun q => c7 (by rw [q]; rfl)
      refine A_iload0 (pc := 14) dX7_mostOf_14 ?_
      refine A_bipush (pc := 15) (v := 6) dX7_mostOf_15 (by decide) ?_
      refine A_icmp_ne (pc := 17) (tgt := 25) dX7_mostOf_17 (by decide) (fun c17 => ?_) (fun c17 => ?_)
      · have d17 : ¬ kd = 6 := fun q => c17 (by rw [q]; rfl)
        refine A_iload0 (pc := 25) dX7_mostOf_25 ?_
        refine A_bipush (pc := 26) (v := 7) dX7_mostOf_26 (by decide) ?_
        refine A_icmp_ne (pc := 28) (tgt := 36) dX7_mostOf_28 (by decide) (fun c28 => ?_) (fun c28 => ?_)
        · have d28 : ¬ kd = 7 := fun q => c28 (by rw [q]; rfl)
          refine A_iconst (pc := 36) (v := 0) dX7_mostOf_36 (by decide) ?_
          exact A_iret (pc := 37) dX7_mostOf_37 rfl rfl (by decide) (by decide) (⟨by unfold moN; rw [if_neg d2, if_neg d7, if_neg d17, if_neg d28]; rfl, rfl⟩)
        · have d28 := (nI_eq (by omega) (by decide)).mp (show nI kd = nI 7 from c28)
          refine A_bipush (pc := 31) (v := 9) dX7_mostOf_31 (by decide) ?_
          refine A_goto (pc := 33) (tgt := 37) dX7_mostOf_33 (by decide) ?_
          exact A_iret (pc := 37) dX7_mostOf_37 rfl rfl (by decide) (by decide) (⟨by unfold moN; rw [if_neg d2, if_neg d7, if_neg d17, if_pos d28]; rfl, rfl⟩)
      · have d17 := (nI_eq (by omega) (by decide)).mp (show nI kd = nI 6 from c17)
        refine A_bipush (pc := 20) (v := 7) dX7_mostOf_20 (by decide) ?_
        refine A_goto (pc := 22) (tgt := 37) dX7_mostOf_22 (by decide) ?_
        exact A_iret (pc := 37) dX7_mostOf_37 rfl rfl (by decide) (by decide) (⟨by unfold moN; rw [if_neg d2, if_neg d7, if_pos d17]; rfl, rfl⟩)
    · have d7 := (nI_eq (by omega) (by decide)).mp (show nI kd = nI 5 from c7)
      refine A_iconst (pc := 10) (v := 4) dX7_mostOf_10 (by decide) ?_
      refine A_goto (pc := 11) (tgt := 37) dX7_mostOf_11 (by decide) ?_
      exact A_iret (pc := 37) dX7_mostOf_37 rfl rfl (by decide) (by decide) (⟨by unfold moN; rw [if_neg d2, if_pos d7]; rfl, rfl⟩)

set_option maxHeartbeats 4000000 in
set_option maxRecDepth 100000 in
theorem mp_isAllowed {c : XV} {n : MN} {p : Nat → Nat} {al : Int32} {s : MS} {r : MR} {w : MW} {k : MK} {a : MA} {pl : MP} {fr : Nat → Nat} {t : MT} {rest : AH} (x : Int32) : AS mX7_isAllowed 0 0 0 [.ref 25, .int x] (MX c n p al s r w k a pl fr t rest) (P1 (bI (alI al x)) (MX c n p al s r w k a pl fr t rest)) := by
  refine AS.go (lv := [some (.ref 25), some (.int x)]) rfl ?_ (by decide +kernel) rfl (Nat.le_of_ble_eq_true rfl)
  refine A_aload0 (pc := 0) dX7_isAllowed_0 ?_
  refine A_getf (pc := 1) flX7_22 dX7_isAllowed_1 rfl rfl ?_
  refine A_iload1 (pc := 4) dX7_isAllowed_4 ?_
  refine A_ishr (pc := 5) dX7_isAllowed_5 ?_
  refine A_iconst (pc := 6) (v := 1) dX7_isAllowed_6 (by decide) ?_
  refine A_iand (pc := 7) dX7_isAllowed_7 ?_
  refine A_iconst (pc := 8) (v := 1) dX7_isAllowed_8 (by decide) ?_
  refine A_icmp_ne (pc := 9) (tgt := 16) dX7_isAllowed_9 (by decide) (fun c9 => ?_) (fun c9 => ?_)
  · refine A_iconst (pc := 16) (v := 0) dX7_isAllowed_16 (by decide) ?_
    exact A_iret (pc := 17) dX7_isAllowed_17 rfl rfl (by decide) (by decide) (⟨by simp [alI, *, bI], rfl⟩)
  · refine A_iconst (pc := 12) (v := 1) dX7_isAllowed_12 (by decide) ?_
    refine A_goto (pc := 13) (tgt := 17) dX7_isAllowed_13 (by decide) ?_
    exact A_iret (pc := 17) dX7_isAllowed_17 rfl rfl (by decide) (by decide) (⟨by simp [alI, *, bI], rfl⟩)

set_option maxHeartbeats 4000000 in
set_option maxRecDepth 100000 in
theorem mp_goBy {c : XV} {n : MN} {p : Nat → Nat} {al : Int32} {s : MS} {r : MR} {w : MW} {k : MK} {a : MA} {pl : MP} {fr : Nat → Nat} {t : MT} {rest : AH} (hl : VL n.2.2.1) (ha : okA a) (e : Nat) (he : e < 4) : AS mX7_goBy 0 0 0 [.ref 25, .int (nI e)] (MX c n p al s r w k a pl fr t rest) (P1 (bI (gbT n.2.2.1 a e).1) (MX c n p al s r w k ((gbT n.2.2.1 a e).2) pl fr t rest)) := by
  refine AS.go (lv := [some (.ref 25), some (.int (nI e)), none]) rfl ?_ (by decide +kernel) rfl (Nat.le_of_ble_eq_true rfl)
  cases hy : n.2.2.1 (4 * a.1 + e) with
  | none =>
    refine A_aload0 (pc := 0) dX7_goBy_0 ?_
    refine A_getf (pc := 1) flX7_13 dX7_goBy_1 rfl rfl ?_
    refine A_iconst (pc := 4) (v := 4) dX7_goBy_4 (by decide) ?_
    refine A_aload0 (pc := 5) dX7_goBy_5 ?_
    refine A_getf (pc := 6) flX7_115 dX7_goBy_6 rfl rfl ?_
    refine A_imul (pc := 9) dX7_goBy_9 ?_
    refine A_iload1 (pc := 10) dX7_goBy_10 ?_
    refine A_iadd (pc := 11) dX7_goBy_11 ?_
    refine A_ialdN (pc := 12) (i := (4 * a.1 + e)) dX7_goBy_12 rfl (ix4 _ _) (by have := ha.1; omega) (by decide) ?_
    refine A_istore2 (pc := 13) dX7_goBy_13 (by decide) ?_
    refine A_iload2 (pc := 14) dX7_goBy_14 ?_
    refine A_iconst (pc := 15) (v := -1) dX7_goBy_15 (by decide) ?_
    refine A_icmp_eq (pc := 16) (tgt := 28) dX7_goBy_16 (by decide) (fun c16 => ?_) (fun c16 => absurd (show oI (n.2.2.1 (4 * a.1 + e)) = -1 from by rw [hy]; rfl) c16)
    refine A_iconst (pc := 28) (v := 0) dX7_goBy_28 (by decide) ?_
    exact A_iret (pc := 29) dX7_goBy_29 rfl rfl (by decide) (by decide) (⟨by unfold gbT; simp only [hy]; rfl, by unfold gbT; simp only [hy]⟩)
  | some y =>
    have hy9 := hl _ _ (by have := ha.1; omega) hy
    refine A_aload0 (pc := 0) dX7_goBy_0 ?_
    refine A_getf (pc := 1) flX7_13 dX7_goBy_1 rfl rfl ?_
    refine A_iconst (pc := 4) (v := 4) dX7_goBy_4 (by decide) ?_
    refine A_aload0 (pc := 5) dX7_goBy_5 ?_
    refine A_getf (pc := 6) flX7_115 dX7_goBy_6 rfl rfl ?_
    refine A_imul (pc := 9) dX7_goBy_9 ?_
    refine A_iload1 (pc := 10) dX7_goBy_10 ?_
    refine A_iadd (pc := 11) dX7_goBy_11 ?_
    refine A_ialdN (pc := 12) (i := (4 * a.1 + e)) dX7_goBy_12 rfl (ix4 _ _) (by have := ha.1; omega) (by decide) ?_
    rw [hy]
    refine A_istore2 (pc := 13) dX7_goBy_13 (by decide) ?_
    refine A_iload2 (pc := 14) dX7_goBy_14 ?_
    refine A_iconst (pc := 15) (v := -1) dX7_goBy_15 (by decide) ?_
    refine A_icmp_eq (pc := 16) (tgt := 28) dX7_goBy_16 (by decide) (fun c16 => absurd c16 (oI_some (by omega))) (fun c16 => ?_)
    refine A_aload0 (pc := 19) dX7_goBy_19 ?_
    refine A_getf (pc := 20) flX7_118 dX7_goBy_20 rfl rfl ?_
    refine A_bipush (pc := 23) (v := 30) dX7_goBy_23 (by decide) ?_
    refine A_icmp_ne (pc := 25) (tgt := 30) dX7_goBy_25 (by decide) (fun c25 => ?_) (fun c25 => ?_)
    · have d25 : ¬ a.2.2.1 = 30 := fun q => c25 (by rw [q]; rfl)
      refine A_aload0 (pc := 30) dX7_goBy_30 ?_
      refine A_getf (pc := 31) flX7_59 dX7_goBy_31 rfl rfl ?_
      refine A_aload0 (pc := 34) dX7_goBy_34 ?_
      refine A_getf (pc := 35) flX7_118 dX7_goBy_35 rfl rfl ?_
      refine A_iload1 (pc := 38) dX7_goBy_38 ?_
      refine A_iastN (pc := 39) (i := a.2.2.1) (v := e) dX7_goBy_39 rfl rfl rfl (by have := ha.2.2; omega) (by decide) ?_
      refine A_aload0 (pc := 40) dX7_goBy_40 ?_
      refine A_dup (pc := 41) dX7_goBy_41 rfl ?_
      refine A_getf (pc := 42) flX7_118 dX7_goBy_42 rfl rfl ?_
      refine A_iconst (pc := 45) (v := 1) dX7_goBy_45 (by decide) ?_
      refine A_iadd (pc := 46) dX7_goBy_46 ?_
      rw [nI_1]
      refine A_putf (pc := 47) flX7_118 ft7_30 dX7_goBy_47 rfl (Nat.le_of_ble_eq_true rfl) (fun _ => ⟨rfl, rfl⟩) ?_
      refine A_aload0 (pc := 50) dX7_goBy_50 ?_
      refine A_iload2 (pc := 51) dX7_goBy_51 ?_
      refine A_iconst (pc := 52) (v := 4) dX7_goBy_52 (by decide) ?_
      refine A_idiv (pc := 53) dX7_goBy_53 (by decide) ?_
      rw [show oI (some y) / 4 = nI (y / 4) from dv4 (by omega)]
      refine A_putf (pc := 54) flX7_115 ft7_27 dX7_goBy_54 rfl (Nat.le_of_ble_eq_true rfl) (fun _ => ⟨rfl, rfl⟩) ?_
      refine A_aload0 (pc := 57) dX7_goBy_57 ?_
      refine A_iload2 (pc := 58) dX7_goBy_58 ?_
      refine A_iconst (pc := 59) (v := 2) dX7_goBy_59 (by decide) ?_
      refine A_iadd (pc := 60) dX7_goBy_60 ?_
      refine A_iconst (pc := 61) (v := 4) dX7_goBy_61 (by decide) ?_
      refine A_irem (pc := 62) dX7_goBy_62 (by decide) ?_
      rw [show oI (some y) + 2 - (oI (some y) + 2) / 4 * 4 = nI ((y + 2) % 4) from rm42 (by omega)]
      refine A_putf (pc := 63) flX7_121 ft7_28 dX7_goBy_63 rfl (Nat.le_of_ble_eq_true rfl) (fun _ => ⟨rfl, rfl⟩) ?_
      refine A_iconst (pc := 66) (v := 1) dX7_goBy_66 (by decide) ?_
      exact A_iret (pc := 67) dX7_goBy_67 rfl rfl (by decide) (by decide) (⟨by unfold gbT; simp only [hy, d25, if_false]; rfl, by unfold gbT; simp only [hy, d25, if_false]; rfl⟩)
    · have d25 : a.2.2.1 = 30 := (nI_eq (by have := ha.2.2; omega) (by decide)).mp c25
      refine A_iconst (pc := 28) (v := 0) dX7_goBy_28 (by decide) ?_
      exact A_iret (pc := 29) dX7_goBy_29 rfl rfl (by decide) (by decide) (⟨by unfold gbT; simp only [hy, d25, if_true]; rfl, by unfold gbT; simp only [hy, d25, if_true]⟩)

set_option maxHeartbeats 4000000 in
set_option maxRecDepth 100000 in
theorem mp_has {c : XV} {n : MN} {p : Nat → Nat} {al : Int32} {s : MS} {r : MR} {w : MW} {k : MK} {a : MA} {pl : MP} {fr : Nat → Nat} {t : MT} {rest : AH} (hl : VL n.2.2.1) (ha : okA a) (e : Nat) (he : e < 4) : AS mX7_has 0 0 0 [.ref 25, .int (nI e)] (MX c n p al s r w k a pl fr t rest) (P1 (bI (hsT n.2.2.1 a e)) (MX c n p al s r w k a pl fr t rest)) := by
  refine AS.go (lv := [some (.ref 25), some (.int (nI e))]) rfl ?_ (by decide +kernel) rfl (Nat.le_of_ble_eq_true rfl)
  refine A_aload0 (pc := 0) dX7_has_0 ?_
  refine A_getf (pc := 1) flX7_13 dX7_has_1 rfl rfl ?_
  refine A_iconst (pc := 4) (v := 4) dX7_has_4 (by decide) ?_
  refine A_aload0 (pc := 5) dX7_has_5 ?_
  refine A_getf (pc := 6) flX7_115 dX7_has_6 rfl rfl ?_
  refine A_imul (pc := 9) dX7_has_9 ?_
  refine A_aload0 (pc := 10) dX7_has_10 ?_
  refine A_getf (pc := 11) flX7_121 dX7_has_11 rfl rfl ?_
  refine A_iload1 (pc := 14) dX7_has_14 ?_
  refine A_iadd (pc := 15) dX7_has_15 ?_
  refine A_iconst (pc := 16) (v := 4) dX7_has_16 (by decide) ?_
  refine A_irem (pc := 17) dX7_has_17 (by decide) ?_
  refine A_iadd (pc := 18) dX7_has_18 ?_
  refine A_ialdN (pc := 19) (i := (4 * a.1 + (a.2.1 + e) % 4)) dX7_has_19 rfl (by rw [rm4a (by have := ha.2.1; omega), ix4]) (by have := ha.1; omega) (by decide) ?_
  refine A_iconst (pc := 20) (v := -1) dX7_has_20 (by decide) ?_
  refine A_icmp_eq (pc := 21) (tgt := 28) dX7_has_21 (by decide) (fun c21 => ?_) (fun c21 => ?_)
  · have d21 : hsT n.2.2.1 a e = false := by unfold hsT; cases hy : n.2.2.1 (4 * a.1 + (a.2.1 + e) % 4) with
      | none => rfl
      | some y => exact absurd (show oI (some y) = -1 from hy ▸ c21) (oI_some (by have := hl _ _ (by have := ha.1; omega) hy; omega))
    refine A_iconst (pc := 28) (v := 0) dX7_has_28 (by decide) ?_
    exact A_iret (pc := 29) dX7_has_29 rfl rfl (by decide) (by decide) (⟨by rw [d21]; rfl, rfl⟩)
  · have d21 : hsT n.2.2.1 a e = true := by unfold hsT; cases hy : n.2.2.1 (4 * a.1 + (a.2.1 + e) % 4) with
      | none => exact absurd (show oI (n.2.2.1 (4 * a.1 + (a.2.1 + e) % 4)) = -1 from by rw [hy]; rfl) c21
      | some y => rfl
    refine A_iconst (pc := 24) (v := 1) dX7_has_24 (by decide) ?_
    refine A_goto (pc := 25) (tgt := 29) dX7_has_25 (by decide) ?_
    exact A_iret (pc := 29) dX7_has_29 rfl rfl (by decide) (by decide) (⟨by rw [d21]; rfl, rfl⟩)
