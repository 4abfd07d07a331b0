/-! the class: its heap, small methods -/
abbrev NS : Type := Int32 × Int32 × (Nat → Int32) × (Nat → Int32) × (Nat → Int32) × (Nat → Int32) × Int32 × (Nat → Int32)
abbrev OS : Type := Int32 × Int32 × Int32
abbrev RS : Type := Int32 × (Nat → Int32)
abbrev WS : Type := Int32 × Int32 × Int32 × Int32 × Int32 × (Nat → Int32)
abbrev YS : Type := Int32 × Int32 × Int32 × Int32 × (Nat → Int32)
abbrev KS : Type := Int32 × (Nat → Int32) × (Nat → Int32) × (Nat → Int32)
def CH (n : NS) (p : Nat → Int32) (o : OS) (y : RS) (la sc : WS) (wy : YS) (ch : KS) (ko : Nat → Option Nat) : AH := [
  oC 6 [.ref 1, .ref 8, .int o.1, .ref 9, .ref 11, .int o.2.1, .ref 14, .ref 17, .ref 20, .ref 24, .int o.2.2],
  oC 2 [.int n.1, .int n.2.1, .ref 2, .ref 3, .ref 4, .ref 5, .ref 6],
  aC 24 n.2.2.1, aC 96 n.2.2.2.1, aC 96 n.2.2.2.2.1, aC 24 n.2.2.2.2.2.1, oC 3 [.ref 7, .int n.2.2.2.2.2.2.1], aC 24 n.2.2.2.2.2.2.2,
  aC 9 p, oC 3 [.ref 10, .int y.1], aC 60 y.2,
  oC 4 [.ref 1, .int la.1, .int la.2.1, .int la.2.2.1, .int la.2.2.2.1, .ref 12], oC 3 [.ref 13, .int la.2.2.2.2.1], aC 200 la.2.2.2.2.2,
  oC 4 [.ref 1, .int sc.1, .int sc.2.1, .int sc.2.2.1, .int sc.2.2.2.1, .ref 15], oC 3 [.ref 16, .int sc.2.2.2.2.1], aC 200 sc.2.2.2.2.2,
  oC 5 [.int wy.1, .int wy.2.1, .int wy.2.2.1, .ref 18], oC 3 [.ref 19, .int wy.2.2.2.1], aC 30 wy.2.2.2.2,
  oC 0 [.int ch.1, .ref 21, .ref 22, .ref 23], aC 2784 ch.2.1, aC 96 ch.2.2.1, aC 29 ch.2.2.2,
  .inr (.inr (8, ko))]
/-! ### numbers -/
def remI (x : Int32) : Int32 := x - x / 4 * 4
def hasI (kn k : Int32) : Bool := if k < 0 then false else if kn ≤ k then false else if 24 ≤ k then false else true
def exI (e : Int32) : Bool := if e < 0 then false else if 4 ≤ e then false else true
def inI (x lo hi : Int32) : Bool := if x < lo then false else if hi < x then false else true
def atI (cap : Nat) (sz : Int32) (f : Nat → Int32) (i : Int32) : Int32 := if i < 0 then -1 else if sz ≤ i then -1 else if nI cap ≤ i then -1 else f i.toNatClampNeg
def acI (ac : Nat → Int32) (k e : Int32) : Int32 := if k < 0 then -1 else if 24 ≤ k then -1 else if e < 0 then -1 else if e < 4 then ac (k * 4 + e).toNatClampNeg else -1
theorem vp_lt {x : Int32} {N : Nat} (hN : N < 2 ^ 31) (h0 : ¬ x < 0) (h1 : ¬ nI N ≤ x) : vp_in x N := by
  obtain ⟨j, hj, rfl⟩ := nI_get hN h0 h1
  exact vp_in_nI hj hN
theorem vp_place {k e : Int32} (h0 : ¬ k < 0) (h1 : ¬ nI 24 ≤ k) (h2 : ¬ e < 0) (h3 : ¬ nI 4 ≤ e) : vp_in (k * nI 4 + e) 96 := by
  obtain ⟨j, hj, rfl⟩ := nI_get (by decide) h0 h1
  obtain ⟨i, hi, rfl⟩ := nI_get (by decide) h2 h3
  rw [pk_mul, nI_add]
  exact vp_in_nI (by omega) (by decide)
theorem nI_ngt {x y : Int32} (h : x < y) : ¬ y ≤ x := (fa_of_lt h).2.1
theorem exI_t {e : Int32} (h : exI e = true) : ¬ e < 0 ∧ ¬ nI 4 ≤ e := by
  unfold exI at h
  split at h
  · cases h
  · split at h
    · cases h
    · exact ⟨by assumption, by assumption⟩
theorem hasI_t {kn k : Int32} (h : hasI kn k = true) : ¬ k < 0 ∧ ¬ kn ≤ k ∧ ¬ nI 24 ≤ k := by
  unfold hasI at h
  split at h
  · cases h
  · split at h
    · cases h
    · split at h
      · cases h
      · exact ⟨by assumption, by assumption, by assumption⟩

set_option maxHeartbeats 4000000 in
set_option maxRecDepth 100000 in
theorem sp_isExit {hp : AH} (e : Int32) : AS mX6_isExit 0 0 0 [.int e] (hp) (P1 (bI (exI e)) hp) := by
  refine AS.go (lv := [some (.int e)]) rfl ?_ (by decide +kernel) rfl (Nat.le_of_ble_eq_true rfl)
  refine A_iload0 (pc := 0) dX6_isExit_0 ?_
  refine A_if_lt (pc := 1) (tgt := 13) dX6_isExit_1 (by decide) (fun c1 => ?_) (fun c1 => ?_)
  · refine A_iconst (pc := 13) (v := 0) dX6_isExit_13 (by decide) ?_
    exact A_iret (pc := 14) dX6_isExit_14 rfl rfl (by decide) (by decide) (⟨by simp [exI, bI, *], rfl⟩)
  · refine A_iload0 (pc := 4) dX6_isExit_4 ?_
    refine A_iconst (pc := 5) (v := 4) dX6_isExit_5 (by decide) ?_
    refine A_icmp_ge (pc := 6) (tgt := 13) dX6_isExit_6 (by decide) (fun c6 => ?_) (fun c6 => ?_)
    · refine A_iconst (pc := 13) (v := 0) dX6_isExit_13 (by decide) ?_
      exact A_iret (pc := 14) dX6_isExit_14 rfl rfl (by decide) (by decide) (⟨by simp [exI, bI, *], rfl⟩)
    · refine A_iconst (pc := 9) (v := 1) dX6_isExit_9 (by decide) ?_
      refine A_goto (pc := 10) (tgt := 14) dX6_isExit_10 (by decide) ?_
      exact A_iret (pc := 14) dX6_isExit_14 rfl rfl (by decide) (by decide) (⟨by simp [exI, bI, *], rfl⟩)

set_option maxHeartbeats 4000000 in
set_option maxRecDepth 100000 in
theorem sp_isSight {hp : AH} (e : Int32) : AS mX6_isSight 0 0 0 [.int e] (hp) (P1 (bI (inI e 0 7)) hp) := by
  refine AS.go (lv := [some (.int e)]) rfl ?_ (by decide +kernel) rfl (Nat.le_of_ble_eq_true rfl)
  refine A_iload0 (pc := 0) dX6_isSight_0 ?_
  refine A_if_lt (pc := 1) (tgt := 14) dX6_isSight_1 (by decide) (fun c1 => ?_) (fun c1 => ?_)
  · refine A_iconst (pc := 14) (v := 0) dX6_isSight_14 (by decide) ?_
    exact A_iret (pc := 15) dX6_isSight_15 rfl rfl (by decide) (by decide) (⟨by simp [inI, bI, *], rfl⟩)
  · refine A_iload0 (pc := 4) dX6_isSight_4 ?_
    refine A_bipush (pc := 5) (v := 7) dX6_isSight_5 (by decide) ?_
    refine A_icmp_gt (pc := 7) (tgt := 14) dX6_isSight_7 (by decide) (fun c7 => ?_) (fun c7 => ?_)
    · refine A_iconst (pc := 14) (v := 0) dX6_isSight_14 (by decide) ?_
      exact A_iret (pc := 15) dX6_isSight_15 rfl rfl (by decide) (by decide) (⟨by simp [inI, bI, *], rfl⟩)
    · refine A_iconst (pc := 10) (v := 1) dX6_isSight_10 (by decide) ?_
      refine A_goto (pc := 11) (tgt := 15) dX6_isSight_11 (by decide) ?_
      exact A_iret (pc := 15) dX6_isSight_15 rfl rfl (by decide) (by decide) (⟨by simp [inI, bI, *], rfl⟩)

def kiI (e : Int32) : Bool := if e < 0 then false else if 9 ≤ e then false else true
set_option maxHeartbeats 4000000 in
set_option maxRecDepth 100000 in
theorem sp_isKind {hp : AH} (e : Int32) : AS mX6_isKind 0 0 0 [.int e] (hp) (P1 (bI (kiI e)) hp) := by
  refine AS.go (lv := [some (.int e)]) rfl ?_ (by decide +kernel) rfl (Nat.le_of_ble_eq_true rfl)
  refine A_iload0 (pc := 0) dX6_isKind_0 ?_
  refine A_if_lt (pc := 1) (tgt := 14) dX6_isKind_1 (by decide) (fun c1 => ?_) (fun c1 => ?_)
  · refine A_iconst (pc := 14) (v := 0) dX6_isKind_14 (by decide) ?_
    exact A_iret (pc := 15) dX6_isKind_15 rfl rfl (by decide) (by decide) (⟨by simp [kiI, bI, *], rfl⟩)
  · refine A_iload0 (pc := 4) dX6_isKind_4 ?_
    refine A_bipush (pc := 5) (v := 9) dX6_isKind_5 (by decide) ?_
    refine A_icmp_ge (pc := 7) (tgt := 14) dX6_isKind_7 (by decide) (fun c7 => ?_) (fun c7 => ?_)
    · refine A_iconst (pc := 14) (v := 0) dX6_isKind_14 (by decide) ?_
      exact A_iret (pc := 15) dX6_isKind_15 rfl rfl (by decide) (by decide) (⟨by simp [kiI, bI, *], rfl⟩)
    · refine A_iconst (pc := 10) (v := 1) dX6_isKind_10 (by decide) ?_
      refine A_goto (pc := 11) (tgt := 15) dX6_isKind_11 (by decide) ?_
      exact A_iret (pc := 15) dX6_isKind_15 rfl rfl (by decide) (by decide) (⟨by simp [kiI, bI, *], rfl⟩)

set_option maxHeartbeats 4000000 in
set_option maxRecDepth 100000 in
theorem sp_kindOf {hp : AH} (x : Int32) : AS mX6_kindOf 0 0 0 [.int x] (hp) (P1 (x / 10) hp) := by
  refine AS.go (lv := [some (.int x)]) rfl ?_ (by decide +kernel) rfl (Nat.le_of_ble_eq_true rfl)
  refine A_iload0 (pc := 0) dX6_kindOf_0 ?_
  refine A_bipush (pc := 1) (v := 10) dX6_kindOf_1 (by decide) ?_
  refine A_idiv (pc := 3) dX6_kindOf_3 (by decide) ?_
  exact A_iret (pc := 4) dX6_kindOf_4 rfl rfl (by decide) (by decide) (⟨rfl, rfl⟩)

set_option maxHeartbeats 4000000 in
set_option maxRecDepth 100000 in
theorem sp_numberOf {hp : AH} (x : Int32) : AS mX6_numberOf 0 0 0 [.int x] (hp) (P1 (x - x / 10 * 10) hp) := by
  refine AS.go (lv := [some (.int x)]) rfl ?_ (by decide +kernel) rfl (Nat.le_of_ble_eq_true rfl)
  refine A_iload0 (pc := 0) dX6_numberOf_0 ?_
  refine A_bipush (pc := 1) (v := 10) dX6_numberOf_1 (by decide) ?_
  refine A_irem (pc := 3) dX6_numberOf_3 (by decide) ?_
  exact A_iret (pc := 4) dX6_numberOf_4 rfl rfl (by decide) (by decide) (⟨rfl, rfl⟩)

set_option maxHeartbeats 4000000 in
set_option maxRecDepth 100000 in
theorem sp_turned {hp : AH} (x y : Int32) : AS mX6_turned 0 0 0 [.int x, .int y] (hp) (P1 (remI (x + y)) hp) := by
  refine AS.go (lv := [some (.int x), some (.int y)]) rfl ?_ (by decide +kernel) rfl (Nat.le_of_ble_eq_true rfl)
  refine A_iload0 (pc := 0) dX6_turned_0 ?_
  refine A_iload1 (pc := 1) dX6_turned_1 ?_
  refine A_iadd (pc := 2) dX6_turned_2 ?_
  refine A_iconst (pc := 3) (v := 4) dX6_turned_3 (by decide) ?_
  refine A_irem (pc := 4) dX6_turned_4 (by decide) ?_
  exact A_iret (pc := 5) dX6_turned_5 rfl rfl (by decide) (by decide) (⟨rfl, rfl⟩)

set_option maxHeartbeats 4000000 in
set_option maxRecDepth 100000 in
theorem sp_placeOf {hp : AH} (x y : Int32) : AS mX6_placeOf 0 0 0 [.int x, .int y] (hp) (P1 (x * 4 + y) hp) := by
  refine AS.go (lv := [some (.int x), some (.int y)]) rfl ?_ (by decide +kernel) rfl (Nat.le_of_ble_eq_true rfl)
  refine A_iload0 (pc := 0) dX6_placeOf_0 ?_
  refine A_iconst (pc := 1) (v := 4) dX6_placeOf_1 (by decide) ?_
  refine A_imul (pc := 2) dX6_placeOf_2 ?_
  refine A_iload1 (pc := 3) dX6_placeOf_3 ?_
  refine A_iadd (pc := 4) dX6_placeOf_4 ?_
  exact A_iret (pc := 5) dX6_placeOf_5 rfl rfl (by decide) (by decide) (⟨rfl, rfl⟩)

set_option maxHeartbeats 4000000 in
set_option maxRecDepth 100000 in
theorem sp_knotOf {hp : AH} (x : Int32) : AS mX6_knotOf 0 0 0 [.int x] (hp) (P1 (x / 4) hp) := by
  refine AS.go (lv := [some (.int x)]) rfl ?_ (by decide +kernel) rfl (Nat.le_of_ble_eq_true rfl)
  refine A_iload0 (pc := 0) dX6_knotOf_0 ?_
  refine A_iconst (pc := 1) (v := 4) dX6_knotOf_1 (by decide) ?_
  refine A_idiv (pc := 2) dX6_knotOf_2 (by decide) ?_
  exact A_iret (pc := 3) dX6_knotOf_3 rfl rfl (by decide) (by decide) (⟨rfl, rfl⟩)

set_option maxHeartbeats 4000000 in
set_option maxRecDepth 100000 in
theorem sp_exitOf {hp : AH} (x : Int32) : AS mX6_exitOf 0 0 0 [.int x] (hp) (P1 (remI x) hp) := by
  refine AS.go (lv := [some (.int x)]) rfl ?_ (by decide +kernel) rfl (Nat.le_of_ble_eq_true rfl)
  refine A_iload0 (pc := 0) dX6_exitOf_0 ?_
  refine A_iconst (pc := 1) (v := 4) dX6_exitOf_1 (by decide) ?_
  refine A_irem (pc := 2) dX6_exitOf_2 (by decide) ?_
  exact A_iret (pc := 3) dX6_exitOf_3 rfl rfl (by decide) (by decide) (⟨rfl, rfl⟩)

set_option maxHeartbeats 4000000 in
set_option maxRecDepth 100000 in
theorem sp_facingFrom {hp : AH} (x : Int32) : AS mX6_facingFrom 0 0 0 [.int x] (hp) (P1 (remI (x + 2)) hp) := by
  refine AS.go (lv := [some (.int x)]) rfl ?_ (by decide +kernel) rfl (Nat.le_of_ble_eq_true rfl)
  refine A_iload0 (pc := 0) dX6_facingFrom_0 ?_
  refine A_iconst (pc := 1) (v := 2) dX6_facingFrom_1 (by decide) ?_
  refine A_iadd (pc := 2) dX6_facingFrom_2 ?_
  refine A_iconst (pc := 3) (v := 4) dX6_facingFrom_3 (by decide) ?_
  refine A_irem (pc := 4) dX6_facingFrom_4 (by decide) ?_
  exact A_iret (pc := 5) dX6_facingFrom_5 rfl rfl (by decide) (by decide) (⟨rfl, rfl⟩)

set_option maxHeartbeats 4000000 in
set_option maxRecDepth 100000 in
theorem sp_lostAnswer {hp : AH} (x : Int32) : AS mX6_lostAnswer 0 0 0 [.int x] (hp) (P1 (-2 - x) hp) := by
  refine AS.go (lv := [some (.int x)]) rfl ?_ (by decide +kernel) rfl (Nat.le_of_ble_eq_true rfl)
  refine A_bipush (pc := 0) (v := -2) dX6_lostAnswer_0 (by decide) ?_
  refine A_iload0 (pc := 2) dX6_lostAnswer_2 ?_
  refine A_isub (pc := 3) dX6_lostAnswer_3 ?_
  exact A_iret (pc := 4) dX6_lostAnswer_4 rfl rfl (by decide) (by decide) (⟨rfl, rfl⟩)

set_option maxHeartbeats 4000000 in
set_option maxRecDepth 100000 in
theorem sp_at {hp : AH} {r a cap : Nat} {sz : Int32} {f : Nat → Int32} (h1 : hp[r]? = some (oC 3 [.ref a, .int sz])) (h2 : hp[a]? = some (aC cap f)) (hcap : cap < 2 ^ 31) (i : Int32) : AS mX3_at 0 0 0 [.ref r, .int i] (hp) (P1 (atI cap sz f i) hp) := by
  refine AS.go (lv := [some (.ref r), some (.int i)]) rfl ?_ (by decide +kernel) rfl (Nat.le_of_ble_eq_true rfl)
  refine A_iload1 (pc := 0) dX3_at_0 ?_
  refine A_if_lt (pc := 1) (tgt := 30) dX3_at_1 (by decide) (fun c1 => ?_) (fun c1 => ?_)
  · refine A_iconst (pc := 30) (v := -1) dX3_at_30 (by decide) ?_
    exact A_iret (pc := 31) dX3_at_31 rfl rfl (by decide) (by decide) (⟨by simp [atI, *], rfl⟩)
  · refine A_iload1 (pc := 4) dX3_at_4 ?_
    refine A_aload0 (pc := 5) dX3_at_5 ?_
    refine A_getf (pc := 6) flX3_9 dX3_at_6 h1 rfl ?_
    refine A_icmp_ge (pc := 9) (tgt := 30) dX3_at_9 (by decide) (fun c9 => ?_) (fun c9 => ?_)
    · refine A_iconst (pc := 30) (v := -1) dX3_at_30 (by decide) ?_
      exact A_iret (pc := 31) dX3_at_31 rfl rfl (by decide) (by decide) (⟨by simp [atI, *], rfl⟩)
    · refine A_iload1 (pc := 12) dX3_at_12 ?_
      refine A_aload0 (pc := 13) dX3_at_13 ?_
      refine A_getf (pc := 14) flX3_21 dX3_at_14 h1 rfl ?_
      refine A_alen (pc := 17) (v := nI _) dX3_at_17 h2 rfl ?_
      refine A_icmp_ge (pc := 18) (tgt := 30) dX3_at_18 (by decide) (fun c18 => ?_) (fun c18 => ?_)
      · refine A_iconst (pc := 30) (v := -1) dX3_at_30 (by decide) ?_
        exact A_iret (pc := 31) dX3_at_31 rfl rfl (by decide) (by decide) (⟨by simp [atI, *], rfl⟩)
      · refine A_aload0 (pc := 21) dX3_at_21 ?_
        refine A_getf (pc := 22) flX3_21 dX3_at_22 h1 rfl ?_
        refine A_iload1 (pc := 25) dX3_at_25 ?_
        refine A_iald (pc := 26) dX3_at_26 h2 (vp_lt hcap c1 c18) ?_
        refine A_goto (pc := 27) (tgt := 31) dX3_at_27 (by decide) ?_
        exact A_iret (pc := 31) dX3_at_31 rfl rfl (by decide) (by decide) (⟨by simp [atI, *], rfl⟩)
