/-! the chart: places, leads, least costs, costs -/
def plI (ch : KS) (x : Int32) : Bool := if x < 0 then false else if ch.1 ≤ x then false else if 96 ≤ x then false else true
def syI (s : Int32) : Bool := if s < 0 then false else if nI 29 ≤ s then false else true
def leI (ch : KS) (x s : Int32) : Int32 := if x * nI 29 + s < 0 then -1 else if nI 2784 ≤ x * nI 29 + s then -1 else ch.2.1 (x * nI 29 + s).toNatClampNeg
def coI (ch : KS) (x s : Int32) : Int32 := if leI ch x s < 0 then 1000000000 else if ch.1 ≤ leI ch x s then 1000000000 else if s < 0 then 1000000000 else if s < nI 29 then ch.2.2.1 (leI ch x s).toNatClampNeg + ch.2.2.2 s.toNatClampNeg else 1000000000
def lcI (ch : KS) (x : Int32) : Int32 := if plI ch x = true then ch.2.2.1 x.toNatClampNeg else 1000000000
def imL (ch : KS) (x : Int32) : Nat → Nat → Int32 → Int32
  | 0, _, v => v
  | m + 1, i, v => imL ch x m (i + 1) (if v ≤ coI ch x (nI i) then v else coI ch x (nI i))
def imV (ch : KS) (x : Int32) : Int32 := imL ch x 29 0 (ch.2.2.1 x.toNatClampNeg)
def imK (ch : KS) (x : Int32) : KS := if plI ch x = true then (ch.1, ch.2.1, upd ch.2.2.1 x.toNatClampNeg (imV ch x), ch.2.2.2) else ch
def imB (ch : KS) (x : Int32) : Bool := if plI ch x = true then (if ch.2.2.1 x.toNatClampNeg ≤ imV ch x then false else true) else false
def foL (ch : KS) (x : Int32) : Nat → Nat → Int32
  | 0, _ => -1
  | m + 1, i => if coI ch x (nI i) = lcI ch x then nI i else foL ch x m (i + 1)
def inL : Nat → Bool → KS → Bool × KS
  | 0, c, ch => (c, ch)
  | m + 1, c, ch => inL m (imB ch (nI m) || c) (imK ch (nI m))
def seL (PL : Nat) : Nat → Bool → KS → KS
  | 0, _, ch => ch
  | m + 1, c, ch => if c = true then seL PL m (inL PL false ch).1 (inL PL false ch).2 else ch
def spK (ch : KS) (s v : Int32) : KS := if syI s = true then (ch.1, ch.2.1, ch.2.2.1, upd ch.2.2.2 s.toNatClampNeg (v * 1000 + 1)) else ch
def sgK (ch : KS) (x : Int32) : KS := if plI ch x = true then (ch.1, ch.2.1, upd ch.2.2.1 x.toNatClampNeg 0, ch.2.2.2) else ch
def slK (ch : KS) (x s to : Int32) : KS := if plI ch x = true then (if syI s = true then (ch.1, upd ch.2.1 (x * nI 29 + s).toNatClampNeg to, ch.2.2.1, ch.2.2.2) else ch) else ch
def fiL (v : Int32) : Nat → Nat → (Nat → Int32) → (Nat → Int32)
  | 0, _, f => f
  | m + 1, i, f => fiL v m (i + 1) (upd f i v)
def clK (ch : KS) (NP : Nat) : KS := (nI NP, fiL (-1) (NP * 29) 0 ch.2.1, fiL 1000000000 NP 0 ch.2.2.1, ch.2.2.2)
def yP (y : RS) (x : Int32) : RS := (adZ 60 y.1, adF 60 y.1 y.2 x)
def spL (ch : KS) : Nat → Int32 → RS → Bool × RS
  | 0, _, y => (true, y)
  | m + 1, x, y => if syI (foL ch x 29 0) = true then spL ch m (leI ch x (foL ch x 29 0)) (yP y (sa_f 0 (foL ch x 29 0).toNatClampNeg)) else (false, y)
theorem plI_t {ch : KS} {x : Int32} (h : plI ch x = true) : vp_in x 96 := by
  unfold plI at h
  split at h
  · cases h
  · split at h
    · cases h
    · split at h
      · cases h
      · exact vp_lt (by decide) (by assumption) (by assumption)
theorem syI_t {s : Int32} (h : syI s = true) : vp_in s 29 := by
  unfold syI at h
  split at h
  · cases h
  · split at h
    · cases h
    · exact vp_lt (by decide) (by assumption) (by assumption)
theorem vp_29 {x s : Int32} (h : vp_in x 96) (h2 : vp_in s 29) : vp_in (x * nI 29 + s) 2784 := by
  obtain ⟨j, hj, rfl⟩ := vp_in_of h (by decide)
  obtain ⟨i, hi, rfl⟩ := vp_in_of h2 (by decide)
  rw [pk_mul, nI_add]
  exact vp_in_nI (by omega) (by decide)
theorem imK_1 (ch : KS) (x : Int32) : (imK ch x).1 = ch.1 := by unfold imK; split <;> rfl
theorem inL_1 (m : Nat) : ∀ (c : Bool) (ch : KS), (inL m c ch).2.1 = ch.1 := by
  induction m with
  | zero => intro c ch; rfl
  | succ m ih => intro c ch; unfold inL; rw [ih, imK_1]
theorem vp_pl {x : Int32} {PL : Nat} {pl : Int32} (hp : pl = nI PL) (h9 : PL ≤ 96) (h0 : ¬ x < 0) (h1 : ¬ pl ≤ x) : vp_in x 96 := by
  subst hp
  obtain ⟨j, hj, rfl⟩ := nI_get (by omega) h0 h1
  exact vp_in_nI (by omega) (by decide)

set_option maxHeartbeats 4000000 in
set_option maxRecDepth 100000 in
theorem sp_isPlace {n : NS} {p : Nat → Int32} {o : OS} {y : RS} {la sc : WS} {wy : YS} {ch : KS} {ko : Nat → Option Nat} {rest : AH} (x : Int32) : AS mX0_isPlace 0 0 0 [.ref 20, .int x] (CH n p o y la sc wy ch ko ++ rest) (P1 (bI (plI ch x)) (CH n p o y la sc wy ch ko ++ rest)) := by
  refine AS.go (lv := [some (.ref 20), some (.int x)]) rfl ?_ (by decide +kernel) rfl (Nat.le_of_ble_eq_true rfl)
  refine A_iload1 (pc := 0) dX0_isPlace_0 ?_
  refine A_if_lt (pc := 1) (tgt := 22) dX0_isPlace_1 (by decide) (fun c1 => ?_) (fun c1 => ?_)
  · refine A_iconst (pc := 22) (v := 0) dX0_isPlace_22 (by decide) ?_
    exact A_iret (pc := 23) dX0_isPlace_23 rfl rfl (by decide) (by decide) (⟨by simp [plI, *, bI], rfl⟩)
  · refine A_iload1 (pc := 4) dX0_isPlace_4 ?_
    refine A_aload0 (pc := 5) dX0_isPlace_5 ?_
    refine A_getf (pc := 6) flX0_9 dX0_isPlace_6 rfl rfl ?_
    refine A_icmp_ge (pc := 9) (tgt := 22) dX0_isPlace_9 (by decide) (fun c9 => ?_) (fun c9 => ?_)
    · refine A_iconst (pc := 22) (v := 0) dX0_isPlace_22 (by decide) ?_
      exact A_iret (pc := 23) dX0_isPlace_23 rfl rfl (by decide) (by decide) (⟨by simp [plI, *, bI], rfl⟩)
    · refine A_iload1 (pc := 12) dX0_isPlace_12 ?_
      refine A_bipush (pc := 13) (v := 96) dX0_isPlace_13 (by decide) ?_
      refine A_icmp_ge (pc := 15) (tgt := 22) dX0_isPlace_15 (by decide) (fun c15 => ?_) (fun c15 => ?_)
      · refine A_iconst (pc := 22) (v := 0) dX0_isPlace_22 (by decide) ?_
        exact A_iret (pc := 23) dX0_isPlace_23 rfl rfl (by decide) (by decide) (⟨by simp [plI, *, bI], rfl⟩)
      · refine A_iconst (pc := 18) (v := 1) dX0_isPlace_18 (by decide) ?_
        refine A_goto (pc := 19) (tgt := 23) dX0_isPlace_19 (by decide) ?_
        exact A_iret (pc := 23) dX0_isPlace_23 rfl rfl (by decide) (by decide) (⟨by simp [plI, *, bI], rfl⟩)

set_option maxHeartbeats 4000000 in
set_option maxRecDepth 100000 in
theorem sp_isSaying {hp : AH} (s : Int32) : AS mX0_isSaying 0 0 0 [.int s] (hp) (P1 (bI (syI s)) hp) := by
  refine AS.go (lv := [some (.int s)]) rfl ?_ (by decide +kernel) rfl (Nat.le_of_ble_eq_true rfl)
  refine A_iload0 (pc := 0) dX0_isSaying_0 ?_
  refine A_if_lt (pc := 1) (tgt := 16) dX0_isSaying_1 (by decide) (fun c1 => ?_) (fun c1 => ?_)
  · refine A_iconst (pc := 16) (v := 0) dX0_isSaying_16 (by decide) ?_
    exact A_iret (pc := 17) dX0_isSaying_17 rfl rfl (by decide) (by decide) (⟨by simp [syI, *, bI], rfl⟩)
  · refine A_iload0 (pc := 4) dX0_isSaying_4 ?_
    refine A_gets (pc := 5) (j := 0) (by decide) slX0_15 dX0_isSaying_5 ?_
    refine A_alenS (pc := 8) (j := 0) (v := nI 29) (by decide) dX0_isSaying_8 rfl ?_
    refine A_icmp_ge (pc := 9) (tgt := 16) dX0_isSaying_9 (by decide) (fun c9 => ?_) (fun c9 => ?_)
    · refine A_iconst (pc := 16) (v := 0) dX0_isSaying_16 (by decide) ?_
      exact A_iret (pc := 17) dX0_isSaying_17 rfl rfl (by decide) (by decide) (⟨by simp [syI, *, bI], rfl⟩)
    · refine A_iconst (pc := 12) (v := 1) dX0_isSaying_12 (by decide) ?_
      refine A_goto (pc := 13) (tgt := 17) dX0_isSaying_13 (by decide) ?_
      exact A_iret (pc := 17) dX0_isSaying_17 rfl rfl (by decide) (by decide) (⟨by simp [syI, *, bI], rfl⟩)

set_option maxHeartbeats 4000000 in
set_option maxRecDepth 100000 in
theorem sp_leadOf {n : NS} {p : Nat → Int32} {o : OS} {y : RS} {la sc : WS} {wy : YS} {ch : KS} {ko : Nat → Option Nat} {rest : AH} (x s : Int32) : AS mX0_leadOf 0 0 0 [.ref 20, .int x, .int s] (CH n p o y la sc wy ch ko ++ rest) (P1 (leI ch x s) (CH n p o y la sc wy ch ko ++ rest)) := by
  refine AS.go (lv := [some (.ref 20), some (.int x), some (.int s), none]) rfl ?_ (by decide +kernel) rfl (Nat.le_of_ble_eq_true rfl)
  refine A_iload1 (pc := 0) dX0_leadOf_0 ?_
  refine A_gets (pc := 1) (j := 0) (by decide) slX0_15 dX0_leadOf_1 ?_
  refine A_alenS (pc := 4) (j := 0) (v := nI 29) (by decide) dX0_leadOf_4 rfl ?_
  refine A_imul (pc := 5) dX0_leadOf_5 ?_
  refine A_iload2 (pc := 6) dX0_leadOf_6 ?_
  refine A_iadd (pc := 7) dX0_leadOf_7 ?_
  refine A_istore3 (pc := 8) dX0_leadOf_8 (by decide) ?_
  refine A_iload3 (pc := 9) dX0_leadOf_9 ?_
  refine A_if_lt (pc := 10) (tgt := 31) dX0_leadOf_10 (by decide) (fun c10 => ?_) (fun c10 => ?_)
  · refine A_iconst (pc := 31) (v := -1) dX0_leadOf_31 (by decide) ?_
    exact A_iret (pc := 32) dX0_leadOf_32 rfl rfl (by decide) (by decide) (⟨by simp [leI, *], rfl⟩)
  · refine A_iload3 (pc := 13) dX0_leadOf_13 ?_
    refine A_aload0 (pc := 14) dX0_leadOf_14 ?_
    refine A_getf (pc := 15) flX0_19 dX0_leadOf_15 rfl rfl ?_
    refine A_alen (pc := 18) (v := nI _) dX0_leadOf_18 rfl rfl ?_
    refine A_icmp_ge (pc := 19) (tgt := 31) dX0_leadOf_19 (by decide) (fun c19 => ?_) (fun c19 => ?_)
    · refine A_iconst (pc := 31) (v := -1) dX0_leadOf_31 (by decide) ?_
      exact A_iret (pc := 32) dX0_leadOf_32 rfl rfl (by decide) (by decide) (⟨by simp [leI, *], rfl⟩)
    · refine A_aload0 (pc := 22) dX0_leadOf_22 ?_
      refine A_getf (pc := 23) flX0_19 dX0_leadOf_23 rfl rfl ?_
      refine A_iload3 (pc := 26) dX0_leadOf_26 ?_
      refine A_iald (pc := 27) dX0_leadOf_27 rfl (vp_lt (by decide) c10 c19) ?_
      refine A_goto (pc := 28) (tgt := 32) dX0_leadOf_28 (by decide) ?_
      exact A_iret (pc := 32) dX0_leadOf_32 rfl rfl (by decide) (by decide) (⟨by simp [leI, *], rfl⟩)

set_option maxHeartbeats 4000000 in
set_option maxRecDepth 100000 in
theorem sp_costBy {n : NS} {p : Nat → Int32} {o : OS} {y : RS} {la sc : WS} {wy : YS} {ch : KS} {ko : Nat → Option Nat} {rest : AH} {PL : Nat} (hp : ch.1 = nI PL) (h9 : PL ≤ 96) (x s : Int32) : AS mX0_costBy 1 0 0 [.ref 20, .int x, .int s] (CH n p o y la sc wy ch ko ++ rest) (P1 (coI ch x s) (CH n p o y la sc wy ch ko ++ rest)) := by
  refine AS.go (lv := [some (.ref 20), some (.int x), some (.int s), none]) rfl ?_ (by decide +kernel) rfl (Nat.le_of_ble_eq_true rfl)
  refine A_aload0 (pc := 0) dX0_costBy_0 ?_
  refine A_iload1 (pc := 1) dX0_costBy_1 ?_
  refine A_iload2 (pc := 2) dX0_costBy_2 ?_
  refine A_cvi (pc := 3) cvX0_63 (sp_leadOf x s) dX0_costBy_3 rfl rfl rfl rfl (Nat.le_of_ble_eq_true rfl) (by decide) (by decide) (by decide) ?_
  refine A_istore3 (pc := 6) dX0_costBy_6 (by decide) ?_
  refine A_iload3 (pc := 7) dX0_costBy_7 ?_
  refine A_if_lt (pc := 8) (tgt := 32) dX0_costBy_8 (by decide) (fun c8 => ?_) (fun c8 => ?_)
  · refine A_ldc (pc := 32) dX0_costBy_32 kcX0_37 ?_
    exact A_iret (pc := 34) dX0_costBy_34 rfl rfl (by decide) (by decide) (⟨by simp only [coI, c8, if_true, if_false], rfl⟩)
  · refine A_iload3 (pc := 11) dX0_costBy_11 ?_
    refine A_aload0 (pc := 12) dX0_costBy_12 ?_
    refine A_getf (pc := 13) flX0_9 dX0_costBy_13 rfl rfl ?_
    refine A_icmp_ge (pc := 16) (tgt := 32) dX0_costBy_16 (by decide) (fun c16 => ?_) (fun c16 => ?_)
    · refine A_ldc (pc := 32) dX0_costBy_32 kcX0_37 ?_
      exact A_iret (pc := 34) dX0_costBy_34 rfl rfl (by decide) (by decide) (⟨by simp only [coI, c8, c16, if_true, if_false], rfl⟩)
    · refine A_iload2 (pc := 19) dX0_costBy_19 ?_
      refine A_if_lt (pc := 20) (tgt := 32) dX0_costBy_20 (by decide) (fun c20 => ?_) (fun c20 => ?_)
      · refine A_ldc (pc := 32) dX0_costBy_32 kcX0_37 ?_
        exact A_iret (pc := 34) dX0_costBy_34 rfl rfl (by decide) (by decide) (⟨by simp only [coI, c8, c16, c20, if_true, if_false], rfl⟩)
      · refine A_iload2 (pc := 23) dX0_costBy_23 ?_
        refine A_aload0 (pc := 24) dX0_costBy_24 ?_
        refine A_getf (pc := 25) flX0_25 dX0_costBy_25 rfl rfl ?_
        refine A_alen (pc := 28) (v := nI _) dX0_costBy_28 rfl rfl ?_
        refine A_icmp_lt (pc := 29) (tgt := 35) dX0_costBy_29 (by decide) (fun c29 => ?_) (fun c29 => ?_)
        · refine A_aload0 (pc := 35) dX0_costBy_35 ?_
          refine A_getf (pc := 36) flX0_22 dX0_costBy_36 rfl rfl ?_
          refine A_iload3 (pc := 39) dX0_costBy_39 ?_
          refine A_iald (pc := 40) dX0_costBy_40 rfl (vp_pl hp h9 c8 c16) ?_
          refine A_aload0 (pc := 41) dX0_costBy_41 ?_
          refine A_getf (pc := 42) flX0_25 dX0_costBy_42 rfl rfl ?_
          refine A_iload2 (pc := 45) dX0_costBy_45 ?_
          refine A_iald (pc := 46) dX0_costBy_46 rfl (vp_lt2 (by decide) c20 c29) ?_
          refine A_iadd (pc := 47) dX0_costBy_47 ?_
          exact A_iret (pc := 48) dX0_costBy_48 rfl rfl (by decide) (by decide) (⟨by simp only [coI, c8, c16, c20, c29, if_true, if_false], rfl⟩)
        · refine A_ldc (pc := 32) dX0_costBy_32 kcX0_37 ?_
          exact A_iret (pc := 34) dX0_costBy_34 rfl rfl (by decide) (by decide) (⟨by simp only [coI, c8, c16, c20, c29, if_true, if_false], rfl⟩)

set_option maxHeartbeats 4000000 in
set_option maxRecDepth 100000 in
theorem sp_leastCostFrom {n : NS} {p : Nat → Int32} {o : OS} {y : RS} {la sc : WS} {wy : YS} {ch : KS} {ko : Nat → Option Nat} {rest : AH} (x : Int32) : AS mX0_leastCostFrom 1 0 0 [.ref 20, .int x] (CH n p o y la sc wy ch ko ++ rest) (P1 (lcI ch x) (CH n p o y la sc wy ch ko ++ rest)) := by
  refine AS.go (lv := [some (.ref 20), some (.int x)]) rfl ?_ (by decide +kernel) rfl (Nat.le_of_ble_eq_true rfl)
  refine A_aload0 (pc := 0) dX0_leastCostFrom_0 ?_
  refine A_iload1 (pc := 1) dX0_leastCostFrom_1 ?_
  refine A_cvi (pc := 2) cvX0_42 (sp_isPlace x) dX0_leastCostFrom_2 rfl rfl rfl rfl (Nat.le_of_ble_eq_true rfl) (by decide) (by decide) (by decide) ?_
  refine A_if_eq (pc := 5) (tgt := 17) dX0_leastCostFrom_5 (by decide) (fun c5 => ?_) (fun c5 => ?_)
  · replace c5 := (bI_eq _).mp c5
    refine A_ldc (pc := 17) dX0_leastCostFrom_17 kcX0_37 ?_
    exact A_iret (pc := 19) dX0_leastCostFrom_19 rfl rfl (by decide) (by decide) (⟨by simp [lcI, *], rfl⟩)
  · replace c5 := (bI_ne _).mp c5
    refine A_aload0 (pc := 8) dX0_leastCostFrom_8 ?_
    refine A_getf (pc := 9) flX0_22 dX0_leastCostFrom_9 rfl rfl ?_
    refine A_iload1 (pc := 12) dX0_leastCostFrom_12 ?_
    refine A_iald (pc := 13) dX0_leastCostFrom_13 rfl (plI_t c5) ?_
    refine A_goto (pc := 14) (tgt := 19) dX0_leastCostFrom_14 (by decide) ?_
    exact A_iret (pc := 19) dX0_leastCostFrom_19 rfl rfl (by decide) (by decide) (⟨by simp [lcI, *], rfl⟩)

set_option maxHeartbeats 4000000 in
set_option maxRecDepth 100000 in
theorem sp_setPrice {n : NS} {p : Nat → Int32} {o : OS} {y : RS} {la sc : WS} {wy : YS} {ch : KS} {ko : Nat → Option Nat} {rest : AH} (s v : Int32) : AS mX0_setPrice 1 0 0 [.ref 20, .int s, .int v] (CH n p o y la sc wy ch ko ++ rest) (P0 (CH n p o y la sc wy (spK ch s v) ko ++ rest)) := by
  refine AS.go (lv := [some (.ref 20), some (.int s), some (.int v)]) rfl ?_ (by decide +kernel) rfl (Nat.le_of_ble_eq_true rfl)
  refine A_iload1 (pc := 0) dX0_setPrice_0 ?_
  refine A_csi (pc := 1) csX0_38 (sp_isSaying s) dX0_setPrice_1 rfl rfl (Nat.le_of_ble_eq_true rfl) (by decide) (by decide) (by decide) ?_
  refine A_if_eq (pc := 4) (tgt := 20) dX0_setPrice_4 (by decide) (fun c4 => ?_) (fun c4 => ?_)
  · replace c4 := (bI_eq _).mp c4
    exact A_vret (pc := 20) dX0_setPrice_20 rfl (by decide) (by decide) (⟨rfl, by simp only [spK, c4, if_true, if_false, Bool.false_eq_true]⟩)
  · replace c4 := (bI_ne _).mp c4
    refine A_aload0 (pc := 7) dX0_setPrice_7 ?_
    refine A_getf (pc := 8) flX0_25 dX0_setPrice_8 rfl rfl ?_
    refine A_iload1 (pc := 11) dX0_setPrice_11 ?_
    refine A_iload2 (pc := 12) dX0_setPrice_12 ?_
    refine A_sipush (pc := 13) (v := 1000) dX0_setPrice_13 (by decide) ?_
    refine A_imul (pc := 16) dX0_setPrice_16 ?_
    refine A_iconst (pc := 17) (v := 1) dX0_setPrice_17 (by decide) ?_
    refine A_iadd (pc := 18) dX0_setPrice_18 ?_
    refine A_iast (pc := 19) dX0_setPrice_19 rfl (syI_t c4) ?_
    exact A_vret (pc := 20) dX0_setPrice_20 rfl (by decide) (by decide) (⟨rfl, by simp only [spK, c4, if_true, if_false, Bool.false_eq_true]; rfl⟩)

set_option maxHeartbeats 4000000 in
set_option maxRecDepth 100000 in
theorem sp_setGoal {n : NS} {p : Nat → Int32} {o : OS} {y : RS} {la sc : WS} {wy : YS} {ch : KS} {ko : Nat → Option Nat} {rest : AH} (x : Int32) : AS mX0_setGoal 1 0 0 [.ref 20, .int x] (CH n p o y la sc wy ch ko ++ rest) (P0 (CH n p o y la sc wy (sgK ch x) ko ++ rest)) := by
  refine AS.go (lv := [some (.ref 20), some (.int x)]) rfl ?_ (by decide +kernel) rfl (Nat.le_of_ble_eq_true rfl)
  refine A_aload0 (pc := 0) dX0_setGoal_0 ?_
  refine A_iload1 (pc := 1) dX0_setGoal_1 ?_
  refine A_cvi (pc := 2) cvX0_42 (sp_isPlace x) dX0_setGoal_2 rfl rfl rfl rfl (Nat.le_of_ble_eq_true rfl) (by decide) (by decide) (by decide) ?_
  refine A_if_eq (pc := 5) (tgt := 15) dX0_setGoal_5 (by decide) (fun c5 => ?_) (fun c5 => ?_)
  · replace c5 := (bI_eq _).mp c5
    exact A_vret (pc := 15) dX0_setGoal_15 rfl (by decide) (by decide) (⟨rfl, by simp only [sgK, c5, if_true, if_false, Bool.false_eq_true]⟩)
  · replace c5 := (bI_ne _).mp c5
    refine A_aload0 (pc := 8) dX0_setGoal_8 ?_
    refine A_getf (pc := 9) flX0_22 dX0_setGoal_9 rfl rfl ?_
    refine A_iload1 (pc := 12) dX0_setGoal_12 ?_
    refine A_iconst (pc := 13) (v := 0) dX0_setGoal_13 (by decide) ?_
    refine A_iast (pc := 14) dX0_setGoal_14 rfl (plI_t c5) ?_
    exact A_vret (pc := 15) dX0_setGoal_15 rfl (by decide) (by decide) (⟨rfl, by simp only [sgK, c5, if_true, if_false, Bool.false_eq_true]; rfl⟩)

set_option maxHeartbeats 4000000 in
set_option maxRecDepth 100000 in
theorem sp_setLead {n : NS} {p : Nat → Int32} {o : OS} {y : RS} {la sc : WS} {wy : YS} {ch : KS} {ko : Nat → Option Nat} {rest : AH} (x s to : Int32) : AS mX0_setLead 1 0 0 [.ref 20, .int x, .int s, .int to] (CH n p o y la sc wy ch ko ++ rest) (P0 (CH n p o y la sc wy (slK ch x s to) ko ++ rest)) := by
  refine AS.go (lv := [some (.ref 20), some (.int x), some (.int s), some (.int to)]) rfl ?_ (by decide +kernel) rfl (Nat.le_of_ble_eq_true rfl)
  refine A_aload0 (pc := 0) dX0_setLead_0 ?_
  refine A_iload1 (pc := 1) dX0_setLead_1 ?_
  refine A_cvi (pc := 2) cvX0_42 (sp_isPlace x) dX0_setLead_2 rfl rfl rfl rfl (Nat.le_of_ble_eq_true rfl) (by decide) (by decide) (by decide) ?_
  refine A_if_eq (pc := 5) (tgt := 29) dX0_setLead_5 (by decide) (fun c5 => ?_) (fun c5 => ?_)
  · replace c5 := (bI_eq _).mp c5
    exact A_vret (pc := 29) dX0_setLead_29 rfl (by decide) (by decide) (⟨rfl, by simp only [slK, c5, if_true, if_false, Bool.false_eq_true]⟩)
  · replace c5 := (bI_ne _).mp c5
    refine A_iload2 (pc := 8) dX0_setLead_8 ?_
    refine A_csi (pc := 9) csX0_38 (sp_isSaying s) dX0_setLead_9 rfl rfl (Nat.le_of_ble_eq_true rfl) (by decide) (by decide) (by decide) ?_
    refine A_if_eq (pc := 12) (tgt := 29) dX0_setLead_12 (by decide) (fun c12 => ?_) (fun c12 => ?_)
    · replace c12 := (bI_eq _).mp c12
      exact A_vret (pc := 29) dX0_setLead_29 rfl (by decide) (by decide) (⟨rfl, by simp only [slK, c5, c12, if_true, if_false, Bool.false_eq_true]⟩)
    · replace c12 := (bI_ne _).mp c12
      refine A_aload0 (pc := 15) dX0_setLead_15 ?_
      refine A_getf (pc := 16) flX0_19 dX0_setLead_16 rfl rfl ?_
      refine A_iload1 (pc := 19) dX0_setLead_19 ?_
      refine A_gets (pc := 20) (j := 0) (by decide) slX0_15 dX0_setLead_20 ?_
      refine A_alenS (pc := 23) (j := 0) (v := nI 29) (by decide) dX0_setLead_23 rfl ?_
      refine A_imul (pc := 24) dX0_setLead_24 ?_
      refine A_iload2 (pc := 25) dX0_setLead_25 ?_
      refine A_iadd (pc := 26) dX0_setLead_26 ?_
      refine A_iload3 (pc := 27) dX0_setLead_27 ?_
      refine A_iast (pc := 28) dX0_setLead_28 rfl (vp_29 (plI_t c5) (syI_t c12)) ?_
      exact A_vret (pc := 29) dX0_setLead_29 rfl (by decide) (by decide) (⟨rfl, by simp only [slK, c5, c12, if_true, if_false, Bool.false_eq_true]; rfl⟩)

set_option maxHeartbeats 4000000 in
set_option maxRecDepth 100000 in
theorem lp_im {n : NS} {p : Nat → Int32} {o : OS} {y : RS} {la sc : WS} {wy : YS} {ch : KS} {ko : Nat → Option Nat} {rest : AH} {PL : Nat} (hp : ch.1 = nI PL) (h9 : PL ≤ 96) (x bf : Int32) (hx : plI ch x = true) (m : Nat) : ∀ (i : Nat) (v : Int32) (_ : i + m = 29) (x5 : Option Value), AW mX0_improve 2 0 0 0 0 22 [some (.ref 20), some (.int x), some (.int bf), some (.int v), some (.int (nI i)), x5] [] (CH n p o y la sc wy ch ko ++ rest) (P1 (bI (if bf ≤ imL ch x m i v then false else true)) (CH n p o y la sc wy ((ch.1, ch.2.1, upd ch.2.2.1 x.toNatClampNeg (imL ch x m i v), ch.2.2.2)) ko ++ rest)) := by
  induction m with
  | zero =>
    intro i v hi x5
    refine A_iload4 (pc := 22) dX0_improve_22 ?_
    refine A_gets (pc := 24) (j := 0) (by decide) slX0_15 dX0_improve_24 ?_
    refine A_alenS (pc := 27) (j := 0) (v := nI 29) (by decide) dX0_improve_27 rfl ?_
    refine A_icmp_ge (pc := 28) (tgt := 55) dX0_improve_28 (by decide) (fun c28 => ?_) (fun c28 => absurd (show nI 29 ≤ nI i from nI_le (by omega) (by omega)) c28)
    refine A_aload0 (pc := 55) dX0_improve_55 ?_
    refine A_getf (pc := 56) flX0_22 dX0_improve_56 rfl rfl ?_
    refine A_iload1 (pc := 59) dX0_improve_59 ?_
    refine A_iload3 (pc := 60) dX0_improve_60 ?_
    refine A_iast (pc := 61) dX0_improve_61 rfl (plI_t hx) ?_
    refine A_iload3 (pc := 62) dX0_improve_62 ?_
    refine A_iload2 (pc := 63) dX0_improve_63 ?_
    refine A_icmp_ge (pc := 64) (tgt := 71) dX0_improve_64 (by decide) (fun c64 => ?_) (fun c64 => ?_)
    · refine A_iconst (pc := 71) (v := 0) dX0_improve_71 (by decide) ?_
      exact A_iret (pc := 72) dX0_improve_72 rfl rfl (by decide) (by decide) (⟨by simp only [imL, c64, if_true, if_false, bI, Bool.false_eq_true], rfl⟩)
    · refine A_iconst (pc := 67) (v := 1) dX0_improve_67 (by decide) ?_
      refine A_goto (pc := 68) (tgt := 72) dX0_improve_68 (by decide) ?_
      exact A_iret (pc := 72) dX0_improve_72 rfl rfl (by decide) (by decide) (⟨by simp only [imL, c64, if_true, if_false, bI, Bool.false_eq_true], rfl⟩)
  | succ m ih =>
    intro i v hi x5
    refine A_iload4 (pc := 22) dX0_improve_22 ?_
    refine A_gets (pc := 24) (j := 0) (by decide) slX0_15 dX0_improve_24 ?_
    refine A_alenS (pc := 27) (j := 0) (v := nI 29) (by decide) dX0_improve_27 rfl ?_
    refine A_icmp_ge (pc := 28) (tgt := 55) dX0_improve_28 (by decide) (fun c28 => absurd c28 (show ¬ nI 29 ≤ nI i from nI_ge (by omega) (by omega))) (fun c28 => ?_)
    refine A_aload0 (pc := 31) dX0_improve_31 ?_
    refine A_iload1 (pc := 32) dX0_improve_32 ?_
    refine A_iload4 (pc := 33) dX0_improve_33 ?_
    refine A_cvi (pc := 35) cvX0_66 (sp_costBy hp h9 _ _) dX0_improve_35 rfl rfl rfl rfl (Nat.le_of_ble_eq_true rfl) (by decide) (by decide) (by decide) ?_
    refine A_istore5 (pc := 38) dX0_improve_38 (by decide) ?_
    refine A_iload5 (pc := 40) dX0_improve_40 ?_
    refine A_iload3 (pc := 42) dX0_improve_42 ?_
    refine A_icmp_ge (pc := 43) (tgt := 49) dX0_improve_43 (by decide) (fun c43 => ?_) (fun c43 => ?_)
    · refine A_iinc4 (pc := 49) dX0_improve_49 (by decide) (nI_1 i) ?_
      refine A_goto (pc := 52) (tgt := 22) dX0_improve_52 (by decide) ?_
      simp only [imL, c43, if_true, if_false]
      exact ih (i + 1) _ (by omega) _
    · refine A_iload5 (pc := 46) dX0_improve_46 ?_
      refine A_istore3 (pc := 48) dX0_improve_48 (by decide) ?_
      refine A_iinc4 (pc := 49) dX0_improve_49 (by decide) (nI_1 i) ?_
      refine A_goto (pc := 52) (tgt := 22) dX0_improve_52 (by decide) ?_
      simp only [imL, c43, if_true, if_false]
      exact ih (i + 1) _ (by omega) _

set_option maxHeartbeats 4000000 in
set_option maxRecDepth 100000 in
theorem sp_improve {n : NS} {p : Nat → Int32} {o : OS} {y : RS} {la sc : WS} {wy : YS} {ch : KS} {ko : Nat → Option Nat} {rest : AH} {PL : Nat} (hp : ch.1 = nI PL) (h9 : PL ≤ 96) (x : Int32) : AS mX0_improve 2 0 0 [.ref 20, .int x] (CH n p o y la sc wy ch ko ++ rest) (P1 (bI (imB ch x)) (CH n p o y la sc wy (imK ch x) ko ++ rest)) := by
  refine AS.go (lv := [some (.ref 20), some (.int x), none, none, none, none]) rfl ?_ (by decide +kernel) rfl (Nat.le_of_ble_eq_true rfl)
  refine A_aload0 (pc := 0) dX0_improve_0 ?_
  refine A_iload1 (pc := 1) dX0_improve_1 ?_
  refine A_cvi (pc := 2) cvX0_42 (sp_isPlace x) dX0_improve_2 rfl rfl rfl rfl (Nat.le_of_ble_eq_true rfl) (by decide) (by decide) (by decide) ?_
  refine A_if_ne (pc := 5) (tgt := 10) dX0_improve_5 (by decide) (fun c5 => ?_) (fun c5 => ?_)
  · replace c5 := (bI_ne _).mp c5
    refine A_aload0 (pc := 10) dX0_improve_10 ?_
    refine A_getf (pc := 11) flX0_22 dX0_improve_11 rfl rfl ?_
    refine A_iload1 (pc := 14) dX0_improve_14 ?_
    refine A_iald (pc := 15) dX0_improve_15 rfl (plI_t c5) ?_
    refine A_istore2 (pc := 16) dX0_improve_16 (by decide) ?_
    refine A_iload2 (pc := 17) dX0_improve_17 ?_
    refine A_istore3 (pc := 18) dX0_improve_18 (by decide) ?_
    refine A_iconst (pc := 19) (v := 0) dX0_improve_19 (by decide) ?_
    refine A_istore4 (pc := 20) dX0_improve_20 (by decide) ?_
    unfold imB imK
    simp only [c5, if_true]
    exact lp_im hp h9 x _ c5 29 0 _ (by omega) none
  · replace c5 := (bI_eq _).mp c5
    refine A_iconst (pc := 8) (v := 0) dX0_improve_8 (by decide) ?_
    exact A_iret (pc := 9) dX0_improve_9 rfl rfl (by decide) (by decide) (⟨by simp [imB, c5, bI], by simp [imK, c5]⟩)

set_option maxHeartbeats 4000000 in
set_option maxRecDepth 100000 in
theorem lp_fo {n : NS} {p : Nat → Int32} {o : OS} {y : RS} {la sc : WS} {wy : YS} {ch : KS} {ko : Nat → Option Nat} {rest : AH} {PL : Nat} (hp : ch.1 = nI PL) (h9 : PL ≤ 96) (x : Int32) (m : Nat) : ∀ (i : Nat) (_ : i + m = 29), AW mX0_firstOnLeast 2 0 0 0 0 2 [some (.ref 20), some (.int x), some (.int (nI i))] [] (CH n p o y la sc wy ch ko ++ rest) (P1 (foL ch x m i) (CH n p o y la sc wy ch ko ++ rest)) := by
  induction m with
  | zero =>
    intro i hi
    refine A_iload2 (pc := 2) dX0_firstOnLeast_2 ?_
    refine A_gets (pc := 3) (j := 0) (by decide) slX0_15 dX0_firstOnLeast_3 ?_
    refine A_alenS (pc := 6) (j := 0) (v := nI 29) (by decide) dX0_firstOnLeast_6 rfl ?_
    refine A_icmp_ge (pc := 7) (tgt := 32) dX0_firstOnLeast_7 (by decide) (fun c7 => ?_) (fun c7 => absurd (show nI 29 ≤ nI i from nI_le (by omega) (by omega)) c7)
    refine A_iconst (pc := 32) (v := -1) dX0_firstOnLeast_32 (by decide) ?_
    exact A_iret (pc := 33) dX0_firstOnLeast_33 rfl rfl (by decide) (by decide) (⟨rfl, rfl⟩)
  | succ m ih =>
    intro i hi
    refine A_iload2 (pc := 2) dX0_firstOnLeast_2 ?_
    refine A_gets (pc := 3) (j := 0) (by decide) slX0_15 dX0_firstOnLeast_3 ?_
    refine A_alenS (pc := 6) (j := 0) (v := nI 29) (by decide) dX0_firstOnLeast_6 rfl ?_
    refine A_icmp_ge (pc := 7) (tgt := 32) dX0_firstOnLeast_7 (by decide) (fun c7 => absurd c7 (show ¬ nI 29 ≤ nI i from nI_ge (by omega) (by omega))) (fun c7 => ?_)
    refine A_aload0 (pc := 10) dX0_firstOnLeast_10 ?_
    refine A_iload1 (pc := 11) dX0_firstOnLeast_11 ?_
    refine A_iload2 (pc := 12) dX0_firstOnLeast_12 ?_
    refine A_cvi (pc := 13) cvX0_66 (sp_costBy hp h9 _ _) dX0_firstOnLeast_13 rfl rfl rfl rfl (Nat.le_of_ble_eq_true rfl) (by decide) (by decide) (by decide) ?_
    refine A_aload0 (pc := 16) dX0_firstOnLeast_16 ?_
    refine A_iload1 (pc := 17) dX0_firstOnLeast_17 ?_
    refine A_cvi (pc := 18) cvX0_48 (sp_leastCostFrom _) dX0_firstOnLeast_18 rfl rfl rfl rfl (Nat.le_of_ble_eq_true rfl) (by decide) (by decide) (by decide) ?_
    refine A_icmp_ne (pc := 21) (tgt := 26) dX0_firstOnLeast_21 (by decide) (fun c21 => ?_) (fun c21 => ?_)
    · refine A_iinc2 (pc := 26) dX0_firstOnLeast_26 (by decide) (nI_1 i) ?_
      refine A_goto (pc := 29) (tgt := 2) dX0_firstOnLeast_29 (by decide) ?_
      simp only [foL, c21, if_false]
      exact ih (i + 1) (by omega)
    · refine A_iload2 (pc := 24) dX0_firstOnLeast_24 ?_
      exact A_iret (pc := 25) dX0_firstOnLeast_25 rfl rfl (by decide) (by decide) (⟨by simp only [foL, c21, if_true], rfl⟩)

set_option maxHeartbeats 4000000 in
set_option maxRecDepth 100000 in
theorem sp_firstOnLeast {n : NS} {p : Nat → Int32} {o : OS} {y : RS} {la sc : WS} {wy : YS} {ch : KS} {ko : Nat → Option Nat} {rest : AH} {PL : Nat} (hp : ch.1 = nI PL) (h9 : PL ≤ 96) (x : Int32) : AS mX0_firstOnLeast 2 0 0 [.ref 20, .int x] (CH n p o y la sc wy ch ko ++ rest) (P1 (foL ch x 29 0) (CH n p o y la sc wy ch ko ++ rest)) := by
  refine AS.go (lv := [some (.ref 20), some (.int x), none]) rfl ?_ (by decide +kernel) rfl (Nat.le_of_ble_eq_true rfl)
  refine A_iconst (pc := 0) (v := 0) dX0_firstOnLeast_0 (by decide) ?_
  refine A_istore2 (pc := 1) dX0_firstOnLeast_1 (by decide) ?_
  exact lp_fo hp h9 x 29 0 (by omega)

set_option maxHeartbeats 4000000 in
set_option maxRecDepth 100000 in
theorem lp_in {n : NS} {p : Nat → Int32} {o : OS} {y : RS} {la sc : WS} {wy : YS} {ko : Nat → Option Nat} {rest : AH} {K : Bool → KS → KS} {PL : Nat} (h9 : PL ≤ 96) (rd : Nat) (hR : ∀ (c : Bool) (ch : KS), ch.1 = nI PL → AW mX0_settle 3 0 0 0 0 45 [some (.ref 20), some (.int (bI c)), some (.int (nI rd)), some (.int (-1))] [] (CH n p o y la sc wy ch ko ++ rest) (P0 (CH n p o y la sc wy (K c ch) ko ++ rest))) (m : Nat) : ∀ (c : Bool) (ch : KS) (_ : ch.1 = nI PL) (_ : m ≤ PL), AW mX0_settle 3 0 0 0 0 25 [some (.ref 20), some (.int (bI c)), some (.int (nI rd)), some (.int (nI m - 1))] [] (CH n p o y la sc wy ch ko ++ rest) (P0 (CH n p o y la sc wy (K (inL m c ch).1 (inL m c ch).2) ko ++ rest)) := by
  induction m with
  | zero =>
    intro c ch hc hm
    refine A_iload3 (pc := 25) dX0_settle_25 ?_
    refine A_if_lt (pc := 26) (tgt := 45) dX0_settle_26 (by decide) (fun c26 => ?_) (fun c26 => absurd (show nI 0 - 1 < 0 from by decide) c26)
    exact hR c ch hc
  | succ m ih =>
    intro c ch hc hm
    rw [nI_pred]
    refine A_iload3 (pc := 25) dX0_settle_25 ?_
    refine A_if_lt (pc := 26) (tgt := 45) dX0_settle_26 (by decide) (fun c26 => absurd c26 (show ¬ nI m < 0 from nI_pos (by omega))) (fun c26 => ?_)
    refine A_aload0 (pc := 29) dX0_settle_29 ?_
    refine A_iload3 (pc := 30) dX0_settle_30 ?_
    refine A_cvi (pc := 31) cvX0_45 (sp_improve hc h9 _) dX0_settle_31 rfl rfl rfl rfl (Nat.le_of_ble_eq_true rfl) (by decide) (by decide) (by decide) ?_
    refine A_if_eq (pc := 34) (tgt := 39) dX0_settle_34 (by decide) (fun c34 => ?_) (fun c34 => ?_)
    · replace c34 := (bI_eq _).mp c34
      refine A_iinc3 (pc := 39) dX0_settle_39 (by decide) (show nI m + (-1) = nI m - 1 from by rw [Int32.sub_eq_add_neg]) ?_
      refine A_goto (pc := 42) (tgt := 25) dX0_settle_42 (by decide) ?_
      simp only [inL, c34, Bool.false_or]
      exact ih c _ (by rw [imK_1]; exact hc) (by omega)
    · replace c34 := (bI_ne _).mp c34
      refine A_iconst (pc := 37) (v := 1) dX0_settle_37 (by decide) ?_
      refine A_istore1 (pc := 38) dX0_settle_38 (by decide) ?_
      refine A_iinc3 (pc := 39) dX0_settle_39 (by decide) (show nI m + (-1) = nI m - 1 from by rw [Int32.sub_eq_add_neg]) ?_
      refine A_goto (pc := 42) (tgt := 25) dX0_settle_42 (by decide) ?_
      simp only [inL, c34, Bool.true_or]
      exact ih true _ (by rw [imK_1]; exact hc) (by omega)

set_option maxHeartbeats 4000000 in
set_option maxRecDepth 100000 in
theorem lp_se {n : NS} {p : Nat → Int32} {o : OS} {y : RS} {la sc : WS} {wy : YS} {ko : Nat → Option Nat} {rest : AH} {PL : Nat} (h9 : PL ≤ 96) (m : Nat) : ∀ (i : Nat) (c : Bool) (ch : KS) (_ : ch.1 = nI PL) (_ : i + m = PL + 1) (x3 : Option Value), AW mX0_settle 3 0 0 0 0 4 [some (.ref 20), some (.int (bI c)), some (.int (nI i)), x3] [] (CH n p o y la sc wy ch ko ++ rest) (P0 (CH n p o y la sc wy (seL PL m c ch) ko ++ rest)) := by
  induction m with
  | zero =>
    intro i c ch hc hi x3
    refine A_iload2 (pc := 4) dX0_settle_4 ?_
    refine A_aload0 (pc := 5) dX0_settle_5 ?_
    refine A_getf (pc := 6) flX0_9 dX0_settle_6 rfl rfl ?_
    refine A_icmp_gt (pc := 9) (tgt := 51) dX0_settle_9 (by decide) (fun c9 => ?_) (fun c9 => absurd (show ch.1 < nI i from by rw [hc]; exact nI_lt (by omega) (by omega)) c9)
    exact A_vret (pc := 51) dX0_settle_51 rfl (by decide) (by decide) (⟨rfl, rfl⟩)
  | succ m ih =>
    intro i c ch hc hi x3
    refine A_iload2 (pc := 4) dX0_settle_4 ?_
    refine A_aload0 (pc := 5) dX0_settle_5 ?_
    refine A_getf (pc := 6) flX0_9 dX0_settle_6 rfl rfl ?_
    refine A_icmp_gt (pc := 9) (tgt := 51) dX0_settle_9 (by decide) (fun c9 => absurd c9 (show ¬ ch.1 < nI i from by rw [hc]; exact nI_nlt (by omega) (by omega))) (fun c9 => ?_)
    refine A_iload1 (pc := 12) dX0_settle_12 ?_
    refine A_if_eq (pc := 13) (tgt := 51) dX0_settle_13 (by decide) (fun c13 => ?_) (fun c13 => ?_)
    · replace c13 := (bI_eq _).mp c13
      exact A_vret (pc := 51) dX0_settle_51 rfl (by decide) (by decide) (⟨rfl, by simp only [seL, c13, Bool.false_eq_true, if_false]⟩)
    · replace c13 := (bI_ne _).mp c13
      refine A_iconst (pc := 16) (v := 0) dX0_settle_16 (by decide) ?_
      refine A_istore1 (pc := 17) dX0_settle_17 (by decide) ?_
      refine A_aload0 (pc := 18) dX0_settle_18 ?_
      refine A_getf (pc := 19) flX0_9 dX0_settle_19 rfl rfl ?_
      refine A_iconst (pc := 22) (v := 1) dX0_settle_22 (by decide) ?_
      refine A_isub (pc := 23) dX0_settle_23 ?_
      rw [hc]
      refine A_istore3 (pc := 24) dX0_settle_24 (by decide) ?_
      simp only [seL, c13, if_true]
      refine lp_in (K := seL PL m) h9 i (fun c2 ch2 hc2 => ?_) PL false ch hc (Nat.le_refl PL)
      refine A_iinc2 (pc := 45) dX0_settle_45 (by decide) (nI_1 i) ?_
      refine A_goto (pc := 48) (tgt := 4) dX0_settle_48 (by decide) ?_
      exact ih (i + 1) c2 ch2 hc2 (by omega) _

set_option maxHeartbeats 4000000 in
set_option maxRecDepth 100000 in
theorem sp_settle {n : NS} {p : Nat → Int32} {o : OS} {y : RS} {la sc : WS} {wy : YS} {ch : KS} {ko : Nat → Option Nat} {rest : AH} {PL : Nat} (hp : ch.1 = nI PL) (h9 : PL ≤ 96)  : AS mX0_settle 3 0 0 [.ref 20] (CH n p o y la sc wy ch ko ++ rest) (P0 (CH n p o y la sc wy (seL PL (PL + 1) true ch) ko ++ rest)) := by
  refine AS.go (lv := [some (.ref 20), none, none, none]) rfl ?_ (by decide +kernel) rfl (Nat.le_of_ble_eq_true rfl)
  refine A_iconst (pc := 0) (v := 1) dX0_settle_0 (by decide) ?_
  refine A_istore1 (pc := 1) dX0_settle_1 (by decide) ?_
  refine A_iconst (pc := 2) (v := 0) dX0_settle_2 (by decide) ?_
  refine A_istore2 (pc := 3) dX0_settle_3 (by decide) ?_
  exact lp_se h9 (PL + 1) 0 true ch hp (by omega) none

set_option maxHeartbeats 4000000 in
set_option maxRecDepth 100000 in
theorem lp_sp {n : NS} {p : Nat → Int32} {o : OS} {la sc : WS} {wy : YS} {ch : KS} {ko : Nat → Option Nat} {rest : AH} {PL : Nat} (hp : ch.1 = nI PL) (h9 : PL ≤ 96) (fr co : Int32) (ST : Nat) (hST : ST < 2 ^ 31) (m : Nat) : ∀ (i : Nat) (x : Int32) (y : RS) (_ : i + m = ST) (x7 : Option Value), AW mX0_spell 3 0 0 0 0 38 [some (.ref 20), some (.int fr), some (.ref 9), some (.int co), some (.int (nI ST)), some (.int x), some (.int (nI i)), x7] [] (CH n p o y la sc wy ch ko ++ rest) (P1 (if (spL ch m x y).1 = true then co / 1000 else -1) (CH n p o ((spL ch m x y).2) la sc wy ch ko ++ rest)) := by
  induction m with
  | zero =>
    intro i x y hi x7
    refine A_iload6 (pc := 38) dX0_spell_38 ?_
    refine A_iload4 (pc := 40) dX0_spell_40 ?_
    refine A_icmp_ge (pc := 42) (tgt := 90) dX0_spell_42 (by decide) (fun c42 => ?_) (fun c42 => absurd (show nI ST ≤ nI i from nI_le (by omega) (by omega)) c42)
    refine A_iload3 (pc := 90) dX0_spell_90 ?_
    refine A_sipush (pc := 91) (v := 1000) dX0_spell_91 (by decide) ?_
    refine A_idiv (pc := 94) dX0_spell_94 (by decide) ?_
    exact A_iret (pc := 95) dX0_spell_95 rfl rfl (by decide) (by decide) (⟨rfl, rfl⟩)
  | succ m ih =>
    intro i x y hi x7
    refine A_iload6 (pc := 38) dX0_spell_38 ?_
    refine A_iload4 (pc := 40) dX0_spell_40 ?_
    refine A_icmp_ge (pc := 42) (tgt := 90) dX0_spell_42 (by decide) (fun c42 => absurd c42 (show ¬ nI ST ≤ nI i from nI_ge (by omega) hST)) (fun c42 => ?_)
    refine A_aload0 (pc := 45) dX0_spell_45 ?_
    refine A_iload5 (pc := 46) dX0_spell_46 ?_
    refine A_cvi (pc := 48) cvX0_57 (sp_firstOnLeast hp h9 _) dX0_spell_48 rfl rfl rfl rfl (Nat.le_of_ble_eq_true rfl) (by decide) (by decide) (by decide) ?_
    refine A_istore7 (pc := 51) dX0_spell_51 (by decide) ?_
    refine A_iload7 (pc := 53) dX0_spell_53 ?_
    refine A_csi (pc := 55) csX0_38 (sp_isSaying _) dX0_spell_55 rfl rfl (Nat.le_of_ble_eq_true rfl) (by decide) (by decide) (by decide) ?_
    refine A_if_ne (pc := 58) (tgt := 63) dX0_spell_58 (by decide) (fun c58 => ?_) (fun c58 => ?_)
    · replace c58 := (bI_ne _).mp c58
      refine A_aload2 (pc := 63) dX0_spell_63 ?_
      refine A_gets (pc := 64) (j := 0) (by decide) slX0_15 dX0_spell_64 ?_
      refine A_iload7 (pc := 67) dX0_spell_67 ?_
      refine A_ialdS (pc := 69) (j := 0) (by decide) dX0_spell_69 (syI_t c58) ?_
      refine A_cvi (pc := 70) cvX0_60 (sp_add (r := 9) (a := 10) (cap := 60) rfl rfl (by decide) _) dX0_spell_70 rfl rfl rfl rfl (Nat.le_of_ble_eq_true rfl) (by decide) (by decide) (by decide) ?_
      refine AW.heq (hp' := CH n p o (yP y (sa_f 0 (foL ch x 29 0).toNatClampNeg)) la sc wy ch ko ++ rest) rfl ?_
      refine A_pop (pc := 73) dX0_spell_73 rfl ?_
      refine A_aload0 (pc := 74) dX0_spell_74 ?_
      refine A_iload5 (pc := 75) dX0_spell_75 ?_
      refine A_iload7 (pc := 77) dX0_spell_77 ?_
      refine A_cvi (pc := 79) cvX0_63 (sp_leadOf _ _) dX0_spell_79 rfl rfl rfl rfl (Nat.le_of_ble_eq_true rfl) (by decide) (by decide) (by decide) ?_
      refine A_istore5 (pc := 82) dX0_spell_82 (by decide) ?_
      refine A_iinc6 (pc := 84) dX0_spell_84 (by decide) (nI_1 i) ?_
      refine A_goto (pc := 87) (tgt := 38) dX0_spell_87 (by decide) ?_
      simp only [spL, c58, if_true]
      exact ih (i + 1) _ _ (by omega) _
    · replace c58 := (bI_eq _).mp c58
      refine A_iconst (pc := 61) (v := -1) dX0_spell_61 (by decide) ?_
      exact A_iret (pc := 62) dX0_spell_62 rfl rfl (by decide) (by decide) (⟨by simp only [spL, c58, if_false, Bool.false_eq_true], by simp only [spL, c58, if_false, Bool.false_eq_true]⟩)

def spR (ch : KS) (C : Nat) (fr : Int32) (y : RS) : Int32 × RS := if 1000000000 ≤ C then (-1, y) else if C % 1000 ≤ 60 then (if (spL ch (C % 1000) fr (0, y.2)).1 = true then nI (C / 1000) else -1, (spL ch (C % 1000) fr (0, y.2)).2) else (-1, y)
set_option maxHeartbeats 4000000 in
set_option maxRecDepth 100000 in
theorem sp_spell {n : NS} {p : Nat → Int32} {o : OS} {y : RS} {la sc : WS} {wy : YS} {ch : KS} {ko : Nat → Option Nat} {rest : AH} {PL : Nat} (hp : ch.1 = nI PL) (h9 : PL ≤ 96) (fr : Int32) {C : Nat} (hC : lcI ch fr = nI C) (hC2 : C < 2 ^ 31) : AS mX0_spell 3 0 0 [.ref 20, .int fr, .ref 9] (CH n p o y la sc wy ch ko ++ rest) (P1 (spR ch C fr y).1 (CH n p o ((spR ch C fr y).2) la sc wy ch ko ++ rest)) := by
  refine AS.go (lv := [some (.ref 20), some (.int fr), some (.ref 9), none, none, none, none, none]) rfl ?_ (by decide +kernel) rfl (Nat.le_of_ble_eq_true rfl)
  refine A_aload0 (pc := 0) dX0_spell_0 ?_
  refine A_iload1 (pc := 1) dX0_spell_1 ?_
  refine A_cvi (pc := 2) cvX0_48 (sp_leastCostFrom fr) dX0_spell_2 rfl rfl rfl rfl (Nat.le_of_ble_eq_true rfl) (by decide) (by decide) (by decide) ?_
  rw [hC]
  refine A_istore3 (pc := 5) dX0_spell_5 (by decide) ?_
  refine A_iload3 (pc := 6) dX0_spell_6 ?_
  refine A_sipush (pc := 7) (v := 1000) dX0_spell_7 (by decide) ?_
  refine A_irem (pc := 10) dX0_spell_10 (by decide) ?_
  rw [show nI C - nI C / 1000 * 1000 = nI (C % 1000) from pk_rem hC2 (by decide) (by decide)]
  refine A_istore4 (pc := 11) dX0_spell_11 (by decide) ?_
  refine A_iload3 (pc := 13) dX0_spell_13 ?_
  refine A_ldc (pc := 14) dX0_spell_14 kcX0_37 ?_
  refine A_icmp_ge (pc := 16) (tgt := 26) dX0_spell_16 (by decide) (fun c16 => ?_) (fun c16 => ?_)
  · have d16 : 1000000000 ≤ C := (nI_leI (by decide) hC2).mp c16
    refine A_iconst (pc := 26) (v := -1) dX0_spell_26 (by decide) ?_
    exact A_iret (pc := 27) dX0_spell_27 rfl rfl (by decide) (by decide) (⟨by unfold spR; simp only [d16, if_true, if_false], by unfold spR; simp only [d16, if_true, if_false]⟩)
  · have d16 : ¬ 1000000000 ≤ C := fun q => c16 ((nI_leI (by decide) hC2).mpr q)
    refine A_iload4 (pc := 19) dX0_spell_19 ?_
    refine A_bipush (pc := 21) (v := 60) dX0_spell_21 (by decide) ?_
    refine A_icmp_le (pc := 23) (tgt := 28) dX0_spell_23 (by decide) (fun c23 => ?_) (fun c23 => ?_)
    · have d23 : C % 1000 ≤ 60 := (nI_leI (by omega) (by decide)).mp c23
      refine A_aload2 (pc := 28) dX0_spell_28 ?_
      refine A_cvv (pc := 29) cvX0_52 (sp_clear (r := 9) (a := 10) rfl) dX0_spell_29 rfl rfl rfl rfl (Nat.le_of_ble_eq_true rfl) (by decide) (by decide) (by decide) ?_
      refine AW.heq (hp' := CH n p o ((0, y.2)) la sc wy ch ko ++ rest) rfl ?_
      refine A_iload1 (pc := 32) dX0_spell_32 ?_
      refine A_istore5 (pc := 33) dX0_spell_33 (by decide) ?_
      refine A_iconst (pc := 35) (v := 0) dX0_spell_35 (by decide) ?_
      refine A_istore6 (pc := 36) dX0_spell_36 (by decide) ?_
      unfold spR
      simp only [d16, d23, if_true, if_false]
      rw [← show nI C / 1000 = nI (C / 1000) from pk_div hC2 (by decide) (by decide)]
      exact lp_sp hp h9 fr (nI C) (C % 1000) (by omega) (C % 1000) 0 fr _ (by omega) none
    · have d23 : ¬ C % 1000 ≤ 60 := fun q => c23 ((nI_leI (by omega) (by decide)).mpr q)
      refine A_iconst (pc := 26) (v := -1) dX0_spell_26 (by decide) ?_
      exact A_iret (pc := 27) dX0_spell_27 rfl rfl (by decide) (by decide) (⟨by unfold spR; simp only [d16, d23, if_true, if_false], by unfold spR; simp only [d16, d23, if_true, if_false]⟩)

set_option maxHeartbeats 4000000 in
set_option maxRecDepth 100000 in
theorem lp_c2 {n : NS} {p : Nat → Int32} {o : OS} {y : RS} {la sc : WS} {wy : YS} {ch : KS} {ko : Nat → Option Nat} {rest : AH} (NP : Nat) (h9 : NP ≤ 96) (np : Int32) (m : Nat) : ∀ (i : Nat) (f : Nat → Int32) (_ : i + m = NP), AW mX0_clear 1 0 0 0 0 44 [some (.ref 20), some (.int np), some (.int (nI i))] [] (CH n p o y la sc wy ((nI NP, ch.2.1, f, ch.2.2.2)) ko ++ rest) (P0 (CH n p o y la sc wy ((nI NP, ch.2.1, fiL 1000000000 m i f, ch.2.2.2)) ko ++ rest)) := by
  induction m with
  | zero =>
    intro i f hi
    refine A_iload2 (pc := 44) dX0_clear_44 ?_
    refine A_aload0 (pc := 45) dX0_clear_45 ?_
    refine A_getf (pc := 46) flX0_9 dX0_clear_46 rfl rfl ?_
    refine A_icmp_ge (pc := 49) (tgt := 66) dX0_clear_49 (by decide) (fun c49 => ?_) (fun c49 => absurd (show nI NP ≤ nI i from nI_le (by omega) (by omega)) c49)
    exact A_vret (pc := 66) dX0_clear_66 rfl (by decide) (by decide) (⟨rfl, rfl⟩)
  | succ m ih =>
    intro i f hi
    refine A_iload2 (pc := 44) dX0_clear_44 ?_
    refine A_aload0 (pc := 45) dX0_clear_45 ?_
    refine A_getf (pc := 46) flX0_9 dX0_clear_46 rfl rfl ?_
    refine A_icmp_ge (pc := 49) (tgt := 66) dX0_clear_49 (by decide) (fun c49 => absurd c49 (show ¬ nI NP ≤ nI i from nI_ge (by omega) (by omega))) (fun c49 => ?_)
    refine A_aload0 (pc := 52) dX0_clear_52 ?_
    refine A_getf (pc := 53) flX0_22 dX0_clear_53 rfl rfl ?_
    refine A_iload2 (pc := 56) dX0_clear_56 ?_
    refine A_ldc (pc := 57) dX0_clear_57 kcX0_37 ?_
    refine A_iast (pc := 59) dX0_clear_59 rfl (vp_in_nI (by omega) (by decide)) ?_
    refine AW.heq (hp' := CH n p o y la sc wy ((nI NP, ch.2.1, upd f i 1000000000, ch.2.2.2)) ko ++ rest) (by rw [nI_clamp (by omega)]; rfl) ?_
    refine A_iinc2 (pc := 60) dX0_clear_60 (by decide) (nI_1 i) ?_
    refine A_goto (pc := 63) (tgt := 44) dX0_clear_63 (by decide) ?_
    simp only [fiL]
    exact ih (i + 1) _ (by omega)

set_option maxHeartbeats 4000000 in
set_option maxRecDepth 100000 in
theorem lp_c1 {n : NS} {p : Nat → Int32} {o : OS} {y : RS} {la sc : WS} {wy : YS} {ch : KS} {ko : Nat → Option Nat} {rest : AH} (NP : Nat) (h9 : NP ≤ 96) (np : Int32) (m : Nat) : ∀ (i : Nat) (f : Nat → Int32) (_ : i + m = NP * 29), AW mX0_clear 1 0 0 0 0 16 [some (.ref 20), some (.int np), some (.int (nI i))] [] (CH n p o y la sc wy ((nI NP, f, ch.2.2.1, ch.2.2.2)) ko ++ rest) (P0 (CH n p o y la sc wy ((nI NP, fiL (-1) m i f, fiL 1000000000 NP 0 ch.2.2.1, ch.2.2.2)) ko ++ rest)) := by
  induction m with
  | zero =>
    intro i f hi
    refine A_iload2 (pc := 16) dX0_clear_16 ?_
    refine A_aload0 (pc := 17) dX0_clear_17 ?_
    refine A_getf (pc := 18) flX0_9 dX0_clear_18 rfl rfl ?_
    refine A_gets (pc := 21) (j := 0) (by decide) slX0_15 dX0_clear_21 ?_
    refine A_alenS (pc := 24) (j := 0) (v := nI 29) (by decide) dX0_clear_24 rfl ?_
    refine A_imul (pc := 25) dX0_clear_25 ?_
    refine A_icmp_ge (pc := 26) (tgt := 42) dX0_clear_26 (by decide) (fun c26 => ?_) (fun c26 => absurd (show nI NP * nI 29 ≤ nI i from by rw [pk_mul]; exact nI_le (by omega) (by omega)) c26)
    refine A_iconst (pc := 42) (v := 0) dX0_clear_42 (by decide) ?_
    refine A_istore2 (pc := 43) dX0_clear_43 (by decide) ?_
    exact lp_c2 (ch := (nI NP, f, ch.2.2.1, ch.2.2.2)) NP h9 np NP 0 ch.2.2.1 (by omega)
  | succ m ih =>
    intro i f hi
    refine A_iload2 (pc := 16) dX0_clear_16 ?_
    refine A_aload0 (pc := 17) dX0_clear_17 ?_
    refine A_getf (pc := 18) flX0_9 dX0_clear_18 rfl rfl ?_
    refine A_gets (pc := 21) (j := 0) (by decide) slX0_15 dX0_clear_21 ?_
    refine A_alenS (pc := 24) (j := 0) (v := nI 29) (by decide) dX0_clear_24 rfl ?_
    refine A_imul (pc := 25) dX0_clear_25 ?_
    refine A_icmp_ge (pc := 26) (tgt := 42) dX0_clear_26 (by decide) (fun c26 => absurd c26 (show ¬ nI NP * nI 29 ≤ nI i from by rw [pk_mul]; exact nI_ge (by omega) (by omega))) (fun c26 => ?_)
    refine A_aload0 (pc := 29) dX0_clear_29 ?_
    refine A_getf (pc := 30) flX0_19 dX0_clear_30 rfl rfl ?_
    refine A_iload2 (pc := 33) dX0_clear_33 ?_
    refine A_iconst (pc := 34) (v := -1) dX0_clear_34 (by decide) ?_
    refine A_iast (pc := 35) dX0_clear_35 rfl (vp_in_nI (by omega) (by decide)) ?_
    refine AW.heq (hp' := CH n p o y la sc wy ((nI NP, upd f i (-1), ch.2.2.1, ch.2.2.2)) ko ++ rest) (by rw [nI_clamp (by omega)]; rfl) ?_
    refine A_iinc2 (pc := 36) dX0_clear_36 (by decide) (nI_1 i) ?_
    refine A_goto (pc := 39) (tgt := 16) dX0_clear_39 (by decide) ?_
    simp only [fiL]
    exact ih (i + 1) _ (by omega)

theorem maxmin {NP : Nat} (h9 : NP ≤ 96) : maxI 0 (minI (nI NP) 96) = nI NP := by
  have h1 : minI (nI NP) 96 = nI NP := by
    unfold minI
    exact if_neg (show ¬ nI 96 < nI NP from nI_nlt h9 (by decide))
  rw [h1]
  unfold maxI
  by_cases h : (0 : Int32) < nI NP
  · rw [if_pos h]
  · rw [if_neg h]
    have h2 : ¬ 0 < NP := fun q => h (show nI 0 < nI NP from nI_lt q (by omega))
    rw [show NP = 0 by omega]
    rfl
set_option maxHeartbeats 4000000 in
set_option maxRecDepth 100000 in
theorem sp_chclear {n : NS} {p : Nat → Int32} {o : OS} {y : RS} {la sc : WS} {wy : YS} {ch : KS} {ko : Nat → Option Nat} {rest : AH} (NP : Nat) (h9 : NP ≤ 96) : AS mX0_clear 1 0 0 [.ref 20, .int (nI NP)] (CH n p o y la sc wy ch ko ++ rest) (P0 (CH n p o y la sc wy (clK ch NP) ko ++ rest)) := by
  refine AS.go (lv := [some (.ref 20), some (.int (nI NP)), none]) rfl ?_ (by decide +kernel) rfl (Nat.le_of_ble_eq_true rfl)
  refine A_aload0 (pc := 0) dX0_clear_0 ?_
  refine A_iconst (pc := 1) (v := 0) dX0_clear_1 (by decide) ?_
  refine A_iload1 (pc := 2) dX0_clear_2 ?_
  refine A_bipush (pc := 3) (v := 96) dX0_clear_3 (by decide) ?_
  refine A_mmin (pc := 5) mkX0_28 dX0_clear_5 (by decide) (Nat.le_of_ble_eq_true rfl) (by decide) (by decide) ?_
  refine A_mmax (pc := 8) mkX0_34 dX0_clear_8 (by decide) (Nat.le_of_ble_eq_true rfl) (by decide) (by decide) ?_
  rw [maxmin h9]
  refine A_putf (pc := 11) flX0_9 ft0_0 dX0_clear_11 rfl (Nat.le_of_ble_eq_true rfl) (fun _ => ⟨rfl, rfl⟩) ?_
  refine AW.heq (hp' := CH n p o y la sc wy ((nI NP, ch.2.1, ch.2.2.1, ch.2.2.2)) ko ++ rest) rfl ?_
  refine A_iconst (pc := 14) (v := 0) dX0_clear_14 (by decide) ?_
  refine A_istore2 (pc := 15) dX0_clear_15 (by decide) ?_
  exact lp_c1 NP h9 (nI NP) (NP * 29) 0 ch.2.1 (by omega)
