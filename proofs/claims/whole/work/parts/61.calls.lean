/-! knot, street, close, say, count, go, routed -/
theorem cnt_ext {p : Nat → Bool} {m : Nat} (d : Nat) (h : ∀ x, m ≤ x → x < m + d → p x = false) : fa_cnt p (m + d) = fa_cnt p m := by
  induction d with
  | zero => rfl
  | succ d ih =>
    show fa_cnt p (m + d + 1) = _
    rw [fa_cnt_no (h (m + d) (by omega) (by omega))]
    exact ih (fun x h1 h2 => h x h1 (by omega))
theorem ac_ex {ac : Nat → Int32} {x e : Int32} (h : ¬ exI e = true) : acI ac x e = -1 := by
  unfold acI
  unfold exI at h
  by_cases q1 : x < 0
  · rw [if_pos q1]
  rw [if_neg q1]
  by_cases q2 : (24 : Int32) ≤ x
  · rw [if_pos q2]
  rw [if_neg q2]
  by_cases q3 : e < 0
  · rw [if_pos q3]
  rw [if_neg q3] at h ⊢
  by_cases q4 : (4 : Int32) ≤ e
  · rw [if_neg (fun q => (fa_of_lt q).2.1 q4)]
  · rw [if_neg q4] at h
    exact absurd rfl h
theorem ac_in {n : NS} {N : MN} {x e : Int32} (hn : nR n N) (hv : VN N) (h : isX N.1 x e = true) : acI n.2.2.2.1 x e = oI (N.2.2.1 (4 * tN x + tN e)) := by
  obtain ⟨e1, e2, e3, e4⟩ := isX_n hv.1 h
  have hK := hv.1
  rw [hn.2.2.1]
  conv => lhs; rw [e1, e3]
  exact acI_n (by omega) e4
theorem ac_no {n : NS} {N : MN} {x e : Int32} (hn : nR n N) (hv : VN N) (h : ¬ isX N.1 x e = true) : acI n.2.2.2.1 x e = -1 := by
  by_cases c1 : hasI (nI N.1) x = true
  · exact ac_ex (fun q => h (by unfold isX; rw [if_pos c1]; exact q))
  · exact ac_out hn hv c1
theorem ix_e {n : MN} {x e : Int32} (hK : n.1 ≤ 24) (h : isX n.1 x e = true) : x * 4 + e = nI (4 * tN x + tN e) ∧ 4 * tN x + tN e < 4 * n.1 := by
  obtain ⟨e1, e2, e3, e4⟩ := isX_n hK h
  refine ⟨?_, by omega⟩
  conv => lhs; rw [e1, e3]
  exact pl4 _ _
theorem ak_e {n : NS} {N : MN} (hn : nR n N) (hK : N.1 ≤ 24) : akOk n = decide (¬ N.1 = 24) := by
  unfold akOk
  rw [hn.1, if_neg (nI_pos (by omega))]
  by_cases c : N.1 = 24
  · rw [c, decide_eq_false (fun q => q rfl)]
    rfl
  · rw [if_pos (show nI N.1 < (24 : Int32) from nI_lt (b := 24) (by omega) (by decide)), decide_eq_true c]

set_option maxHeartbeats 4000000 in
set_option maxRecDepth 100000 in
theorem st_knot {c : XV} {n : MN} {p : Nat → Nat} {al : Int32} {s : MS} {r : MR} {w : MW} {k : MK} {a : MA} {pl : MP} {fr : Nat → Nat} {t : MT} {rest : AH} {Bd : Nat} (I : INV Bd c n p al s r w k fr t rest) (x : Int32) : STEP mX6_knot mX7_knot [.int x] Bd c n p al s r w k a pl fr t rest := by
  obtain ⟨⟨I1, I2, I3⟩, ⟨I4, I5⟩, I6, I7, ⟨I8, I9⟩, ⟨I10, I11⟩, ⟨I12, I13, I14, I15⟩, I16, I17⟩ := id I
  have h6 : AS mX6_knot 1 0 0 [.ref 0, .int x] (MX c n p al s r w k a pl fr t rest) (P1 (if inI x 0 7 = true then (if akOk c.1 = true then c.1.1 + 1 - 1 else -1) else -1) (MX ((if inI x 0 7 = true then (if akOk c.1 = true then akN c.1 x else c.1) else c.1), c.2.1, c.2.2.1, c.2.2.2.1, c.2.2.2.2.1, c.2.2.2.2.2.1, c.2.2.2.2.2.2.1, c.2.2.2.2.2.2.2.1, c.2.2.2.2.2.2.2.2) n p al s r w k a pl fr t rest)) := sp_knot x
  have h7 : AS mX7_knot 1 0 0 [.ref 25, .int x] (MX ((if inI x 0 7 = true then (if akOk c.1 = true then akN c.1 x else c.1) else c.1), c.2.1, c.2.2.1, c.2.2.2.1, c.2.2.2.2.1, c.2.2.2.2.2.1, c.2.2.2.2.2.2.1, c.2.2.2.2.2.2.2.1, c.2.2.2.2.2.2.2.2) n p al s r w k a pl fr t rest) (P1 (if inI x 0 7 = true then (if n.1 = 24 then -1 else nI n.1) else -1) (MX ((if inI x 0 7 = true then (if akOk c.1 = true then akN c.1 x else c.1) else c.1), c.2.1, c.2.2.1, c.2.2.2.1, c.2.2.2.2.1, c.2.2.2.2.2.1, c.2.2.2.2.2.2.1, c.2.2.2.2.2.2.2.1, c.2.2.2.2.2.2.2.2) (if inI x 0 7 = true then (if n.1 = 24 then n else knN n x) else n) p al s r w k a pl fr t rest)) := mp_knot I2.1 x
  refine STEP.of h6 h7 (by decide) (by decide) ?_ ?_
  all_goals
    have hK := I2.1
    rw [ak_e I1 I2.1]
    by_cases c1 : inI x 0 7 = true
    · rw [if_pos c1, if_pos c1]
      by_cases c2 : n.1 = 24
      · rw [if_neg (by rw [decide_eq_false (fun q => q c2)]; decide), if_pos c2]
        try exact I
      · rw [if_pos (decide_eq_true c2), if_neg c2]
        first
          | (rw [I1.1, nI_1, nI_pred]; done)
          | (obtain ⟨e1, e2⟩ := inI_nat (H := 7) (by decide) c1
             refine ⟨⟨⟨?_, ?_, I1.2.2⟩, ⟨?_, fun y z hy hz => ?_, fun y hy => ?_, I2.2.2.2⟩, ?_⟩, ⟨I4, I5⟩, I6, I7, ⟨I8, I9⟩, ⟨I10, I11.mono (Nat.le_succ _) (fun _ _ _ h => h) I2⟩, ⟨I12, I13, fun j hj => Nat.lt_succ_of_lt (I14 j hj), I15⟩, I16, I17⟩
             · show c.1.1 + 1 = nI (n.1 + 1)
               rw [I1.1, nI_1]
             · show upd c.1.2.2.1 c.1.1.toNatClampNeg x = fun y => nI (updN n.2.1 n.1 (tN x) y)
               rw [I1.1, nI_clamp (by omega), I1.2.1, ← upd_nI, ← e1]
             · show n.1 + 1 ≤ 24
               omega
             · have := I2.2.1 y z hy hz
               show y < 4 * (n.1 + 1) ∧ z < 4 * (n.1 + 1) ∧ _
               exact ⟨by omega, by omega, this.2.2⟩
             · show updN n.2.1 n.1 (tN x) y ≤ 7
               unfold updN
               split
               · exact e2
               · exact I2.2.2.1 y hy
             · show c.1.2.1 = nI (ctT n.2.2.1 (4 * (n.1 + 1)) 0 0)
               rw [I3, ct_0, ct_0, show 4 * (n.1 + 1) = 4 * n.1 + 4 by omega, cnt_ext 4 (fun y h1 h2 => by
                 unfold ctB
                 cases hz : n.2.2.1 y with
                 | none => rfl
                 | some z =>
                   have := (I2.2.1 y z (by omega) hz).1
                   omega)])
    · rw [if_neg c1, if_neg c1]
      try exact I

theorem fr_in {n : NS} {N : MN} {x e : Int32} (hn : nR n N) (hv : VN N) (h : isX N.1 x e = true) : frI n.1 n.2.2.2.1 x e = !(N.2.2.1 (4 * tN x + tN e)).isSome := by
  obtain ⟨b1, b2⟩ := and_t h
  obtain ⟨e1, e2, e3, e4⟩ := isX_n hv.1 h
  have hK := hv.1
  unfold frI
  rw [hn.1, if_pos b1, if_pos b2, ac_in hn hv h]
  cases hy : N.2.2.1 (4 * tN x + tN e) with
  | none => exact if_pos rfl
  | some y => exact if_neg (oI_some (by have := hv.vl _ y (by omega) hy; omega))
theorem fr_out {n : NS} {N : MN} {x e : Int32} (hn : nR n N) (h : ¬ isX N.1 x e = true) : frI n.1 n.2.2.2.1 x e = false := by
  unfold frI
  rw [hn.1]
  by_cases c1 : hasI (nI N.1) x = true
  · rw [if_pos c1, if_neg (fun q => h (by unfold isX; rw [if_pos c1]; exact q))]
  · rw [if_neg c1]
theorem in9 {α : Type} {v : Int32} {A B : α} : (if v < 0 then B else if v ≤ 9 then A else B) = if inI v 0 9 = true then A else B := by
  unfold inI
  by_cases a1 : v < 0
  · rw [if_pos a1, if_pos a1, if_neg (by decide)]
  rw [if_neg a1, if_neg a1]
  by_cases a4 : v ≤ 9
  · rw [if_pos a4, if_neg (fun q => (fa_of_lt q).2.1 a4), if_pos rfl]
  · rw [if_neg a4, if_pos (fa_of_nle a4), if_neg (by decide)]
theorem en_n {x : Nat} (h : x < 96) : enI (nI x) = true := by
  unfold enI
  rw [if_neg (nI_pos (by omega)), if_neg (show ¬ (96 : Int32) ≤ nI x from nI_ge (b := 96) h (by decide))]
theorem jn_n {x y : Nat} (hx : x < 96) (hy : y < 96) : jnOk (nI x) (nI y) = decide (¬ x = y) := by
  unfold jnOk
  rw [if_pos (en_n hx), if_pos (en_n hy)]
  by_cases c : x = y
  · rw [if_pos (by rw [c]), decide_eq_false (fun q => q c)]
  · rw [if_neg (fun q => c ((nI_eq (by omega) (by omega)).mp q)), decide_eq_true c]
/-- what street answers, on both sides -/
theorem sk_e {n : NS} {N : MN} {a e b f v : Int32} (hn : nR n N) (hv : VN N) : rStreet n a e b f v = skB N a e b f v := by
  have hK := hv.1
  unfold rStreet skB
  rw [in9]
  by_cases c1 : isX N.1 a e = true
  · rw [if_pos c1, fr_in hn hv c1]
    by_cases c2 : isX N.1 b f = true
    · obtain ⟨x1, x2⟩ := ix_e hK c1
      obtain ⟨y1, y2⟩ := ix_e hK c2
      rw [if_pos c2, fr_in hn hv c2, x1, y1, jn_n (by omega) (by omega)]
      unfold sxB
      by_cases c4 : 4 * tN a + tN e = 4 * tN b + tN f
      · rw [if_pos c4, decide_eq_false (fun q => q c4)]
        cases inI v 0 9 <;> cases N.2.2.1 (4 * tN a + tN e) <;> cases N.2.2.1 (4 * tN b + tN f) <;> rfl
      · rw [if_neg c4, decide_eq_true c4]
        cases inI v 0 9 <;> cases N.2.2.1 (4 * tN a + tN e) <;> cases N.2.2.1 (4 * tN b + tN f) <;> rfl
    · rw [if_neg c2, fr_out hn c2]
      cases inI v 0 9 <;> cases N.2.2.1 (4 * tN a + tN e) <;> rfl
  · rw [if_neg c1, fr_out hn c1]
    cases inI v 0 9 <;> rfl
theorem sk_n {n : NS} {a e b f v : Int32} : nStreet n a e b f v = if rStreet n a e b f v = true then jnN n (a * 4 + e) (b * 4 + f) v else n := by
  unfold nStreet rStreet
  rw [in9, in9]
  cases inI v 0 9 <;> cases frI n.1 n.2.2.2.1 a e <;> cases frI n.1 n.2.2.2.1 b f <;> cases jnOk (a * 4 + e) (b * 4 + f) <;> rfl
theorem sk_t {N : MN} {a e b f v : Int32} (h : skB N a e b f v = true) : isX N.1 a e = true ∧ isX N.1 b f = true ∧ inI v 0 9 = true ∧ ¬ 4 * tN a + tN e = 4 * tN b + tN f ∧ N.2.2.1 (4 * tN a + tN e) = none ∧ N.2.2.1 (4 * tN b + tN f) = none := by
  unfold skB at h
  obtain ⟨h1, h⟩ := and_t h
  obtain ⟨h2, h⟩ := and_t h
  obtain ⟨h3, h⟩ := and_t h
  unfold sxB at h
  by_cases c : 4 * tN a + tN e = 4 * tN b + tN f
  · rw [if_pos c] at h
    cases h
  rw [if_neg c] at h
  cases hx : N.2.2.1 (4 * tN a + tN e) with
  | some z => rw [hx] at h; cases h
  | none =>
    rw [hx] at h
    cases hy : N.2.2.1 (4 * tN b + tN f) with
    | some z => rw [hy] at h; cases h
    | none => exact ⟨h1, h2, h3, c, rfl, rfl⟩
theorem ctB_none {ld : Nat → Option Nat} {x : Nat} (h : ld x = none) : ctB ld x = false := by unfold ctB; rw [h]
theorem ctB_some {ld : Nat → Option Nat} {x y : Nat} (h : ld x = some y) : ctB ld x = decide (x < y) := by unfold ctB; rw [h]
theorem ctB_cong {ld ld' : Nat → Option Nat} {x : Nat} (h : ld x = ld' x) : ctB ld x = ctB ld' x := by unfold ctB; rw [h]
/-- a street more -/
theorem ct_add {ld : Nat → Option Nat} {x y M : Nat} (hx : x < M) (hy : y < M) (hne : ¬ x = y) (h1 : ld x = none) (h2 : ld y = none) : fa_cnt (ctB (updO (updO ld x (some y)) y (some x))) M = fa_cnt (ctB ld) M + 1 := by
  have ex : updO (updO ld x (some y)) y (some x) x = some y := by rw [updO_n hne, updO_s]
  have ey : updO (updO ld x (some y)) y (some x) y = some x := updO_s
  have eo : ∀ z, ¬ z = x → ¬ z = y → updO (updO ld x (some y)) y (some x) z = ld z := fun z q1 q2 => by rw [updO_n q2, updO_n q1]
  rcases Nat.lt_or_gt_of_ne hne with q | q
  · exact cnt_one (y := x) M hx (ctB_none h1) (by rw [ctB_some ex]; exact decide_eq_true q) (fun z hz => by
      by_cases w : z = y
      · rw [w, ctB_some ey, ctB_none h2]
        exact decide_eq_false (by omega)
      · exact ctB_cong (eo z hz w))
  · exact cnt_one (y := y) M hy (ctB_none h2) (by rw [ctB_some ey]; exact decide_eq_true q) (fun z hz => by
      by_cases w : z = x
      · rw [w, ctB_some ex, ctB_none h1]
        exact decide_eq_false (by omega)
      · exact ctB_cong (eo z w hz))

set_option maxHeartbeats 4000000 in
set_option maxRecDepth 100000 in
theorem st_street {c : XV} {n : MN} {p : Nat → Nat} {al : Int32} {s : MS} {r : MR} {w : MW} {k : MK} {a : MA} {pl : MP} {fr : Nat → Nat} {t : MT} {rest : AH} {Bd : Nat} (I : INV Bd c n p al s r w k fr t rest) (a9 e b f v : Int32) : STEP mX6_street mX7_street [.int a9, .int e, .int b, .int f, .int v] Bd c n p al s r w k a pl fr t rest := by
  obtain ⟨⟨I1, I2, I3⟩, ⟨I4, I5⟩, I6, I7, ⟨I8, I9⟩, ⟨I10, I11⟩, ⟨I12, I13, I14, I15⟩, I16, I17⟩ := id I
  have h6 : AS mX6_street 2 0 0 [.ref 0, .int a9, .int e, .int b, .int f, .int v] (MX c n p al s r w k a pl fr t rest) (P1 (bI (rStreet c.1 a9 e b f v)) (MX ((nStreet c.1 a9 e b f v), c.2.1, c.2.2.1, c.2.2.2.1, c.2.2.2.2.1, c.2.2.2.2.2.1, c.2.2.2.2.2.2.1, c.2.2.2.2.2.2.2.1, c.2.2.2.2.2.2.2.2) n p al s r w k a pl fr t rest)) := sp_street a9 e b f v
  have h7 : AS mX7_street 3 0 0 [.ref 25, .int a9, .int e, .int b, .int f, .int v] (MX ((nStreet c.1 a9 e b f v), c.2.1, c.2.2.1, c.2.2.2.1, c.2.2.2.2.1, c.2.2.2.2.2.1, c.2.2.2.2.2.2.1, c.2.2.2.2.2.2.2.1, c.2.2.2.2.2.2.2.2) n p al s r w k a pl fr t rest) (P1 (bI (skB n a9 e b f v)) (MX ((nStreet c.1 a9 e b f v), c.2.1, c.2.2.1, c.2.2.2.1, c.2.2.2.2.1, c.2.2.2.2.2.1, c.2.2.2.2.2.2.1, c.2.2.2.2.2.2.2.1, c.2.2.2.2.2.2.2.2) (skN n a9 e b f v) p al s r w k a pl fr t rest)) := mp_street I2.1 I2.vl a9 e b f v
  refine STEP.of h6 h7 (by decide) (by decide) ?_ ?_
  · rw [sk_e I1 I2]
  · have hK := I2.1
    rw [sk_n, sk_e I1 I2]
    unfold skN
    by_cases c1 : skB n a9 e b f v = true
    · rw [if_pos c1, if_pos c1]
      obtain ⟨q1, q2, q3, q4, q5, q6⟩ := sk_t c1
      obtain ⟨x1, x2⟩ := ix_e hK q1
      obtain ⟨y1, y2⟩ := ix_e hK q2
      obtain ⟨v1, v2⟩ := inI_nat (H := 9) (by decide) q3
      rw [x1, y1]
      generalize 4 * tN a9 + tN e = x at *
      generalize 4 * tN b + tN f = y at *
      have hld : ∀ z w, z < 96 → n.2.2.1 z = some w → updO (updO n.2.2.1 x (some y)) y (some x) z = some w := fun z w _ hz => by
        rw [updO_n (fun k => by rw [k, q6] at hz; cases hz), updO_n (fun k => by rw [k, q5] at hz; cases hz)]
        exact hz
      refine ⟨⟨⟨I1.1, I1.2.1, ?_, ?_⟩, ⟨I2.1, fun z w hz hw => ?_, I2.2.2.1, fun z hz => ?_⟩, ?_⟩, ⟨I4, I5⟩, I6, I7, ⟨I8, I9⟩, ⟨I10, I11.mono (Nat.le_refl _) hld I2⟩, ⟨I12, I13, I14, I15⟩, I16, I17⟩
      · show upd (upd c.1.2.2.2.1 (nI x).toNatClampNeg (nI y)) (nI y).toNatClampNeg (nI x) = fun z => oI (updO (updO n.2.2.1 x (some y)) y (some x) z)
        rw [nI_clamp (by omega), nI_clamp (by omega), I1.2.2.1, show nI y = oI (some y) from rfl, upd_oI, show nI x = oI (some x) from rfl, upd_oI]
      · show upd (upd c.1.2.2.2.2.1 (nI x).toNatClampNeg v) (nI y).toNatClampNeg v = fun z => nI (updN (updN n.2.2.2 x (tN v)) y (tN v) z)
        rw [nI_clamp (by omega), nI_clamp (by omega), I1.2.2.2, ← upd_nI, ← upd_nI, ← v1]
      · have hw : updO (updO n.2.2.1 x (some y)) y (some x) z = some w := hw
        show z < 4 * n.1 ∧ w < 4 * n.1 ∧ w ≠ z ∧ updO (updO n.2.2.1 x (some y)) y (some x) w = some z
        by_cases k1 : z = y
        · rw [k1, updO_s] at hw
          cases hw
          rw [k1]
          exact ⟨y2, x2, q4, by rw [updO_n q4, updO_s]⟩
        rw [updO_n k1] at hw
        by_cases k2 : z = x
        · rw [k2, updO_s] at hw
          cases hw
          rw [k2]
          exact ⟨x2, y2, fun k => q4 k.symm, updO_s⟩
        rw [updO_n k2] at hw
        obtain ⟨g1, g2, g3, g4⟩ := I2.2.1 z w hz hw
        exact ⟨g1, g2, g3, hld w z (by omega) g4⟩
      · show updN (updN n.2.2.2 x (tN v)) y (tN v) z ≤ 9
        unfold updN
        split
        · exact v2
        · split
          · exact v2
          · exact I2.2.2.2 z hz
      · show c.1.2.1 + 1 = nI (ctT (updO (updO n.2.2.1 x (some y)) y (some x)) (4 * n.1) 0 0)
        rw [I3, nI_1, ct_0, ct_0, ct_add x2 y2 q4 q5 q6]
    · rw [if_neg c1, if_neg c1]
      exact I

theorem cl_e {n : NS} {N : MN} {x e : Int32} (hn : nR n N) (hv : VN N) : acI n.2.2.2.1 x e = -1 ↔ ¬ clB N x e = true := by
  have hK := hv.1
  unfold clB
  by_cases c : isX N.1 x e = true
  · obtain ⟨e1, e2, e3, e4⟩ := isX_n hv.1 c
    rw [if_pos c, ac_in hn hv c]
    cases hy : N.2.2.1 (4 * tN x + tN e) with
    | none => exact ⟨fun _ q => (by cases q), fun _ => rfl⟩
    | some y => exact ⟨fun q => absurd q (oI_some (by have := hv.vl _ y (by omega) hy; omega)), fun q => absurd rfl q⟩
  · rw [if_neg c, ac_no hn hv c]
    exact ⟨fun _ q => (by cases q), fun _ => rfl⟩
/-- a street less -/
theorem ct_sub {ld : Nat → Option Nat} {x y M : Nat} (hx : x < M) (hy : y < M) (hne : ¬ x = y) (h1 : ld x = some y) (h2 : ld y = some x) : fa_cnt (ctB ld) M = fa_cnt (ctB (updO (updO ld y none) x none)) M + 1 := by
  have ex : updO (updO ld y none) x none x = none := updO_s
  have ey : updO (updO ld y none) x none y = none := by rw [updO_n (fun q => hne q.symm), updO_s]
  have eo : ∀ z, ¬ z = x → ¬ z = y → updO (updO ld y none) x none z = ld z := fun z q1 q2 => by rw [updO_n q1, updO_n q2]
  rcases Nat.lt_or_gt_of_ne hne with q | q
  · exact cnt_one (y := x) M hx (ctB_none ex) (by rw [ctB_some h1]; exact decide_eq_true q) (fun z hz => by
      by_cases w : z = y
      · rw [w, ctB_some h2, ctB_none ey]
        exact decide_eq_false (by omega)
      · exact ctB_cong (eo z hz w).symm)
  · exact cnt_one (y := y) M hy (ctB_none ey) (by rw [ctB_some h2]; exact decide_eq_true q) (fun z hz => by
      by_cases w : z = x
      · rw [w, ctB_some h1, ctB_none ex]
        exact decide_eq_false (by omega)
      · exact ctB_cong (eo z w hz).symm)
theorem ga_R {n : NS} {N : MN} {wy : YS} {r : MR} {z y : Nat} (hn : nR n N) (hv : VN N) (hy : yW wy r) (hr : VR N r) (h1 : r.1 = true) (hz : z < 4 * N.1) (hzy : N.2.2.1 z = some y) (m : Nat) : ∀ (i : Nat) (q : Nat × Nat), i + m = r.2.2.2.1 → rp N.2.2.1 r.2.2.2.2 r.2.1 r.2.2.1 i = some q → gaL n wy (nI z) (nI y) m i (nI q.1) = gyT N.2.2.1 r.2.2.2.2 z m i q.1 ∧ (gyT N.2.2.1 r.2.2.2.2 z m i q.1 = false → ∀ j q2, i ≤ j → j < r.2.2.2.1 → rp N.2.2.1 r.2.2.2.2 r.2.1 r.2.2.1 j = some q2 → ¬ 4 * q2.1 + r.2.2.2.2 j = z ∧ ¬ 4 * q2.1 + r.2.2.2.2 j = y) := by
  have hK := hv.1
  obtain ⟨⟨r1, r2, r3, r4⟩, r5⟩ := hr
  obtain ⟨r6, r7⟩ := r5 h1
  obtain ⟨g1, g2, g3, g4⟩ := hv.2.1 z y (by omega) hzy
  induction m with
  | zero => intro i q hi hq; exact ⟨rfl, fun _ j q2 h1 h2 => by omega⟩
  | succ m ih =>
    intro i q hi hq
    obtain ⟨q3, hq3, b1, b2⟩ := rp_in hv r4 r6 r2 r7 i (by omega)
    rw [hq] at hq3
    cases hq3
    have hei := r4 i (by omega)
    obtain ⟨y2, hy2, hy3, e⟩ := rp_step hv hei b1 hq (rp_all m (i + 1) (by rw [show i + 1 + m = r.2.2.2.1 by omega]; exact r7))
    obtain ⟨i1, i2⟩ := ih (i + 1) (y2 / 4, (y2 + 2) % 4) (by omega) e
    have hyo : 4 * q.1 + r.2.2.2.2 i = y ↔ N.2.2.1 (4 * q.1 + r.2.2.2.2 i) = some z := by
      constructor
      · intro k
        rw [k]
        exact g4
      · intro k
        have := (hv.2.1 _ z (by omega) k).2.2.2
        rw [hzy] at this
        cases this
        rfl
    unfold gaL gyT
    rw [hy.2.2.2.1, atI_n (by decide) r3 (by omega), hy.2.2.2.2 i (by omega), pl4, hn.2.2.1, acI_n (by omega) hei, hy2]
    by_cases c1 : 4 * q.1 + r.2.2.2.2 i = z
    · rw [if_pos c1, if_pos (by rw [c1])]
      exact ⟨rfl, fun k => by cases k⟩
    · rw [if_neg c1, if_neg (fun k => c1 ((nI_eq (by omega) (by omega)).mp k))]
      by_cases c2 : 4 * q.1 + r.2.2.2.2 i = y
      · have c3 := hyo.mp c2
        rw [hy2] at c3
        rw [if_pos (by rw [c2]), if_pos c3]
        exact ⟨rfl, fun k => by cases k⟩
      · have c3 : ¬ some y2 = some z := fun k => c2 (hyo.mpr (by rw [hy2]; exact k))
        rw [if_neg (fun k => c2 ((nI_eq (by omega) (by omega)).mp k)), if_neg c3]
        have e4 : oI (some y2) / 4 = nI (y2 / 4) := dv4 (by omega)
        rw [e4]
        refine ⟨?_, fun k j q4 h1 h2 h3 => ?_⟩
        · exact i1
        · by_cases w : j = i
          · rw [w, hq] at h3
            cases h3
            rw [w]
            exact ⟨c1, c2⟩
          · exact i2 k j q4 (by omega) h2 h3

set_option maxHeartbeats 4000000 in
set_option maxRecDepth 100000 in
theorem st_close {c : XV} {n : MN} {p : Nat → Nat} {al : Int32} {s : MS} {r : MR} {w : MW} {k : MK} {a : MA} {pl : MP} {fr : Nat → Nat} {t : MT} {rest : AH} {Bd : Nat} (I : INV Bd c n p al s r w k fr t rest) (x e : Int32) : STEP mX6_close mX7_close [.int x, .int e] Bd c n p al s r w k a pl fr t rest := by
  obtain ⟨⟨I1, I2, I3⟩, ⟨I4, I5⟩, I6, I7, ⟨I8, I9⟩, ⟨I10, I11⟩, ⟨I12, I13, I14, I15⟩, I16, I17⟩ := id I
  have h6 : AS mX6_close 2 0 0 [.ref 0, .int x, .int e] (MX c n p al s r w k a pl fr t rest) (P1 (bI (if (acI c.1.2.2.2.1 x e) = -1 then false else true)) (MX ((if (acI c.1.2.2.2.1 x e) = -1 then c.1 else if ptOk (x * 4 + e) (acI c.1.2.2.2.1 x e) = true then ptN c.1 (x * 4 + e) (acI c.1.2.2.2.1 x e) else c.1), c.2.1, c.2.2.1, c.2.2.2.1, c.2.2.2.2.1, c.2.2.2.2.2.1, (if (acI c.1.2.2.2.1 x e) = -1 then c.2.2.2.2.2.2.1 else (if gaB c.1 c.2.2.2.2.2.2.1 r.2.2.2.1 (x * 4 + e) (acI c.1.2.2.2.1 x e) = true then ((0, c.2.2.2.2.2.2.1.2) : YS) else c.2.2.2.2.2.2.1)), c.2.2.2.2.2.2.2.1, c.2.2.2.2.2.2.2.2) n p al s r w k a pl fr t rest)) := sp_close I10.2.2.2.1 I11.1.2.2.1 x e
  have h7 : AS mX7_close 3 0 0 [.ref 25, .int x, .int e] (MX ((if (acI c.1.2.2.2.1 x e) = -1 then c.1 else if ptOk (x * 4 + e) (acI c.1.2.2.2.1 x e) = true then ptN c.1 (x * 4 + e) (acI c.1.2.2.2.1 x e) else c.1), c.2.1, c.2.2.1, c.2.2.2.1, c.2.2.2.2.1, c.2.2.2.2.2.1, (if (acI c.1.2.2.2.1 x e) = -1 then c.2.2.2.2.2.2.1 else (if gaB c.1 c.2.2.2.2.2.2.1 r.2.2.2.1 (x * 4 + e) (acI c.1.2.2.2.1 x e) = true then ((0, c.2.2.2.2.2.2.1.2) : YS) else c.2.2.2.2.2.2.1)), c.2.2.2.2.2.2.2.1, c.2.2.2.2.2.2.2.2) n p al s r w k a pl fr t rest) (P1 (bI (clB n x e)) (MX ((if (acI c.1.2.2.2.1 x e) = -1 then c.1 else if ptOk (x * 4 + e) (acI c.1.2.2.2.1 x e) = true then ptN c.1 (x * 4 + e) (acI c.1.2.2.2.1 x e) else c.1), c.2.1, c.2.2.1, c.2.2.2.1, c.2.2.2.2.1, c.2.2.2.2.2.1, (if (acI c.1.2.2.2.1 x e) = -1 then c.2.2.2.2.2.2.1 else (if gaB c.1 c.2.2.2.2.2.2.1 r.2.2.2.1 (x * 4 + e) (acI c.1.2.2.2.1 x e) = true then ((0, c.2.2.2.2.2.2.1.2) : YS) else c.2.2.2.2.2.2.1)), c.2.2.2.2.2.2.2.1, c.2.2.2.2.2.2.2.2) (if clB n x e = true then clN n (4 * tN x + tN e) else n) p al s (if clB n x e = true then clR n r (4 * tN x + tN e) else r) w k a pl fr t rest)) := mp_close I2.1 I2.vl I11.1.1 I11.1.2.1 I11.1.2.2.1 I11.1.2.2.2 x e
  refine STEP.of h6 h7 (by decide) (by decide) ?_ ?_
  · by_cases c1 : clB n x e = true
    · rw [if_neg (fun q => (cl_e I1 I2).mp q c1), c1]
    · rw [if_pos ((cl_e I1 I2).mpr c1), Bool.eq_false_iff.mpr c1]
  · have hK := I2.1
    by_cases c1 : clB n x e = true
    · have c2 : ¬ acI c.1.2.2.2.1 x e = -1 := fun q => (cl_e I1 I2).mp q c1
      rw [if_neg c2, if_neg c2, if_pos c1, if_pos c1]
      obtain ⟨d1, d2⟩ := and_t c1
      obtain ⟨z1, z2⟩ := ix_e hK d1
      rw [ac_in I1 I2 d1, z1]
      generalize 4 * tN x + tN e = z at *
      cases hzy : n.2.2.1 z with
      | none => rw [hzy] at d2; cases d2
      | some y =>
        obtain ⟨g1, g2, g3, g4⟩ := I2.2.1 z y (by omega) hzy
        have hpt : ptOk (nI z) (oI (some y)) = true := by
          unfold ptOk
          rw [if_pos (en_n (by omega))]
          exact en_n (by omega)
        rw [if_pos hpt]
        have hgo : ∀ x' : Nat, ¬ x' = z → ¬ x' = y → updO (updO n.2.2.1 y none) z none x' = n.2.2.1 x' := fun x' h1 h2 => by rw [updO_n h1, updO_n h2]
        have hcl : clN n z = (n.1, n.2.1, updO (updO n.2.2.1 y none) z none, n.2.2.2) := by unfold clN; rw [hzy]; rfl
        have hnet : nR (ptN c.1 (nI z) (oI (some y))) (clN n z) ∧ VN (clN n z) ∧ (ptN c.1 (nI z) (oI (some y))).2.1 = nI (ctT (clN n z).2.2.1 (4 * (clN n z).1) 0 0) := by
          rw [hcl]
          refine ⟨⟨I1.1, I1.2.1, ?_, I1.2.2.2⟩, ⟨I2.1, fun x' y' hx' hy' => ?_, I2.2.2⟩, ?_⟩
          · show upd (upd c.1.2.2.2.1 (nI z).toNatClampNeg (-1)) (nI y).toNatClampNeg (-1) = fun x' => oI (updO (updO n.2.2.1 y none) z none x')
            rw [nI_clamp (by omega), nI_clamp (by omega), fa_upd_swap _ (fun q => g3 q.symm), I1.2.2.1, show (-1 : Int32) = oI none from rfl, upd_oI, upd_oI]
          · have hy' : updO (updO n.2.2.1 y none) z none x' = some y' := hy'
            show x' < 4 * n.1 ∧ y' < 4 * n.1 ∧ y' ≠ x' ∧ updO (updO n.2.2.1 y none) z none y' = some x'
            have k1 : ¬ x' = z := fun q => by rw [q, updO_s] at hy'; cases hy'
            have k2 : ¬ x' = y := fun q => by rw [q, updO_n g3, updO_s] at hy'; cases hy'
            rw [hgo x' k1 k2] at hy'
            obtain ⟨a1, a2, a3, a4⟩ := I2.2.1 x' y' hx' hy'
            refine ⟨a1, a2, a3, ?_⟩
            rw [hgo y' (fun q => k2 (by rw [q, hzy] at a4; cases a4; rfl)) (fun q => k1 (by rw [q, g4] at a4; cases a4; rfl))]
            exact a4
          · show c.1.2.1 - 1 = nI (ctT (updO (updO n.2.2.1 y none) z none) (4 * n.1) 0 0)
            rw [I3, ct_0, ct_0, ct_sub g1 g2 (fun q => g3 q.symm) hzy g4, nI_pred]
        have hroute : yW (if gaB c.1 c.2.2.2.2.2.2.1 r.2.2.2.1 (nI z) (oI (some y)) = true then ((0, c.2.2.2.2.2.2.1.2) : YS) else c.2.2.2.2.2.2.1) (clR n r z) ∧ VR (clN n z) (clR n r z) := by
          unfold gaB clR
          by_cases hr : r.1 = true
          · obtain ⟨v6, v7⟩ := I11.2 hr
            have hga := ga_R I1 I2 I10 I11 hr g1 hzy r.2.2.2.1 0 (r.2.1, r.2.2.1) (by omega) rfl
            rw [if_pos hr, I10.1, if_neg ((bI_ne _).mpr hr), I10.2.1, show oI (some y) = nI y from rfl, hga.1]
            by_cases hg : gyT n.2.2.1 r.2.2.2.2 z r.2.2.2.1 0 r.2.1 = true
            · rw [if_pos hg, if_pos hg]
              exact ⟨⟨rfl, I10.2⟩, ⟨I11.1, fun q => by cases q⟩⟩
            · rw [if_neg hg, if_neg hg]
              refine ⟨I10, ⟨I11.1, fun _ => ⟨by rw [hcl]; exact v6, ?_⟩⟩⟩
              have hno := hga.2 (Bool.eq_false_iff.mpr hg)
              obtain ⟨q, hq, -, -⟩ := rp_in I2 I11.1.2.2.2 v6 I11.1.2.1 v7 _ (Nat.le_refl _)
              rw [hcl]
              show (rp (updO (updO n.2.2.1 y none) z none) r.2.2.2.2 r.2.1 r.2.2.1 r.2.2.2.1).isSome = true
              rw [rp_mono _ q (fun j q2 w hj hq2 hw => by
                obtain ⟨k1, k2⟩ := hno j q2 (Nat.zero_le _) hj hq2
                rw [hgo _ k1 k2]
                exact hw) hq]
              rfl
          · have w0 : c.2.2.2.2.2.2.1.1 = 0 := by rw [I10.1]; exact (bI_eq _).mpr (Bool.eq_false_iff.mpr hr)
            rw [if_neg hr, if_pos w0, if_neg (show ¬ false = true by decide)]
            exact ⟨I10, ⟨I11.1, fun q => absurd q hr⟩⟩
        exact ⟨hnet, ⟨I4, I5⟩, I6, I7, ⟨I8, I9⟩, hroute, ⟨I12, I13, by rw [hcl]; exact I14, I15⟩, I16, I17⟩
    · have c2 := (cl_e I1 I2).mpr c1
      rw [if_pos c2, if_pos c2, if_neg c1, if_neg c1]
      exact I

theorem ki_e {x : Int32} : kiI x = inI x 0 8 := by
  unfold kiI inI
  by_cases a1 : x < 0
  · rw [if_pos a1, if_pos a1]
  rw [if_neg a1, if_neg a1]
  by_cases a2 : (9 : Int32) ≤ x
  · rw [if_pos a2, if_pos (show (8 : Int32) < x by rw [fa_lt]; rw [fa_le] at a2; rw [show (9 : Int32).toInt = 9 by decide] at a2; rw [show (8 : Int32).toInt = 8 by decide]; omega)]
  · rw [if_neg a2, if_neg (show ¬ (8 : Int32) < x by rw [fa_lt]; rw [fa_le] at a2; rw [show (9 : Int32).toInt = 9 by decide] at a2; rw [show (8 : Int32).toInt = 8 by decide]; omega)]
theorem say_tab : ∀ kd, kd < 9 → sa_f 2 kd = (if moN kd = 0 then 0 else 1) ∧ sa_f 3 kd = nI (moN kd) := by decide
theorem say_e {x v : Int32} : okSay x v = isS x v := by
  unfold okSay isS
  rw [ki_e]
  by_cases c : inI x 0 8 = true
  · obtain ⟨e1, e2⟩ := inI_nat (H := 8) (by decide) c
    obtain ⟨t1, t2⟩ := say_tab (tN x) (by omega)
    rw [if_pos c, if_pos c, t1, t2]
    unfold inI
    by_cases a3 : v < (if moN (tN x) = 0 then (0 : Int32) else 1)
    · rw [if_pos a3, if_pos a3]
    rw [if_neg a3, if_neg a3]
    by_cases a4 : v ≤ nI (moN (tN x))
    · rw [if_pos a4, if_neg (fun q => (fa_of_lt q).2.1 a4)]
    · rw [if_neg a4, if_pos (fa_of_nle a4)]
  · rw [if_neg c, if_neg c]
theorem isS_ok {x v : Int32} (h : isS x v = true) : x = nI (tN x) ∧ v = nI (tN v) ∧ okS (tN x) (tN v) := by
  obtain ⟨h1, h2⟩ := and_t h
  obtain ⟨e1, e2⟩ := inI_nat (H := 8) (by decide) h1
  have hm := moN_le (tN x)
  have h3 : inI v 0 (nI (moN (tN x))) = true := by
    unfold inI at h2 ⊢
    by_cases c : moN (tN x) = 0
    · rw [if_pos c] at h2
      exact h2
    · rw [if_neg c] at h2
      by_cases a1 : v < 0
      · rw [if_pos (show v < 1 by rw [fa_lt] at a1 ⊢; rw [show (0 : Int32).toInt = 0 by decide] at a1; rw [show (1 : Int32).toInt = 1 by decide]; omega)] at h2
        cases h2
      · rw [if_neg a1]
        split at h2
        · cases h2
        · exact h2
  obtain ⟨e3, e4⟩ := inI_nat (by omega) h3
  refine ⟨e1, e3, by omega, by omega, fun hk => ?_⟩
  have hmo : ¬ moN (tN x) = 0 := by
    rcases hk with q | q <;> rw [q] <;> decide
  rw [if_neg hmo] at h2
  by_cases c : tN v = 0
  · rw [e3, c] at h2
    have : inI (nI 0) 1 (nI (moN (tN x))) = false := by
      unfold inI
      rw [if_pos (by decide)]
    rw [this] at h2
    cases h2
  · omega

set_option maxHeartbeats 4000000 in
set_option maxRecDepth 100000 in
theorem st_say {c : XV} {n : MN} {p : Nat → Nat} {al : Int32} {s : MS} {r : MR} {w : MW} {k : MK} {a : MA} {pl : MP} {fr : Nat → Nat} {t : MT} {rest : AH} {Bd : Nat} (I : INV Bd c n p al s r w k fr t rest) (x v : Int32) : STEP mX6_say mX7_say [.int x, .int v] Bd c n p al s r w k a pl fr t rest := by
  obtain ⟨⟨I1, I2, I3⟩, ⟨I4, I5⟩, I6, I7, ⟨I8, I9⟩, ⟨I10, I11⟩, ⟨I12, I13, I14, I15⟩, I16, I17⟩ := id I
  have h6 : AS mX6_say 1 0 0 [.ref 0, .int x, .int v] (MX c n p al s r w k a pl fr t rest) (P1 (if okSay x v = true then (if adOk 60 c.2.2.2.1.1 = true then (yP c.2.2.2.1 (x * 10 + v)).1 else -1) else -1) (MX (c.1, c.2.1, c.2.2.1, (if okSay x v = true then yP c.2.2.2.1 (x * 10 + v) else c.2.2.2.1), c.2.2.2.2.1, c.2.2.2.2.2.1, c.2.2.2.2.2.2.1, c.2.2.2.2.2.2.2.1, c.2.2.2.2.2.2.2.2) n p al s r w k a pl fr t rest)) := sp_say x v
  have h7 : AS mX7_say 2 0 0 [.ref 25, .int x, .int v] (MX (c.1, c.2.1, c.2.2.1, (if okSay x v = true then yP c.2.2.2.1 (x * 10 + v) else c.2.2.2.1), c.2.2.2.2.1, c.2.2.2.2.2.1, c.2.2.2.2.2.2.1, c.2.2.2.2.2.2.2.1, c.2.2.2.2.2.2.2.2) n p al s r w k a pl fr t rest) (P1 (if isS x v = true then (if s.1 = 60 then -1 else nI (s.1 + 1)) else -1) (MX (c.1, c.2.1, c.2.2.1, (if okSay x v = true then yP c.2.2.2.1 (x * 10 + v) else c.2.2.2.1), c.2.2.2.2.1, c.2.2.2.2.2.1, c.2.2.2.2.2.2.1, c.2.2.2.2.2.2.2.1, c.2.2.2.2.2.2.2.2) n p al (if isS x v = true then (if s.1 = 60 then s else syN s x v) else s) r w k a pl fr t rest)) := mp_say I9.1 x v
  refine STEP.of h6 h7 (by decide) (by decide) ?_ ?_
  all_goals
    have hs6 := I9.1
    rw [say_e]
    by_cases c1 : isS x v = true
    · obtain ⟨e1, e2, e3⟩ := isS_ok c1
      have hz : adZ 60 c.2.2.2.1.1 = nI (if s.1 < 60 then s.1 + 1 else s.1) := by rw [I8.1, adZ_n (by decide) (by omega)]
      rw [if_pos c1, if_pos c1]
      by_cases c2 : s.1 = 60
      · rw [if_pos c2]
        first
          | (rw [I8.1, adOk_n (by decide) (by omega), if_neg (by rw [decide_eq_false (by omega)]; decide)]; done)
          | (refine ⟨⟨I1, I2, I3⟩, ⟨I4, I5⟩, I6, I7, ⟨⟨?_, fun i hi => ?_⟩, I9⟩, ⟨I10, I11⟩, ⟨I12, I13, I14, I15⟩, I16, I17⟩
             · show adZ 60 c.2.2.2.1.1 = nI s.1
               rw [hz, if_neg (by omega)]
             · show adF 60 c.2.2.2.1.1 c.2.2.2.1.2 (x * 10 + v) i = _
               rw [I8.1, adF_n (by decide) (by omega), if_neg (by omega)]
               exact I8.2 i hi)
      · rw [if_neg c2]
        first
          | (rw [I8.1, adOk_n (by decide) (by omega), if_pos (decide_eq_true (by omega))]
             show adZ 60 c.2.2.2.1.1 = nI (s.1 + 1)
             rw [hz, if_pos (by omega)]
             done)
          | (refine ⟨⟨I1, I2, I3⟩, ⟨I4, I5⟩, I6, I7, ⟨⟨?_, fun i hi => ?_⟩, ⟨by show s.1 + 1 ≤ 60; omega, fun i hi => ?_⟩⟩, ⟨I10, I11⟩, ⟨I12, I13, I14, I15⟩, I16, I17⟩
             · show adZ 60 c.2.2.2.1.1 = nI (s.1 + 1)
               rw [hz, if_pos (by omega)]
             · have hi : i < s.1 + 1 := hi
               show adF 60 c.2.2.2.1.1 c.2.2.2.1.2 (x * 10 + v) i = nI (10 * updN s.2.1 s.1 (tN x) i + updN s.2.2 s.1 (tN v) i)
               rw [I8.1, adF_n (by decide) (by omega), if_pos (by omega)]
               by_cases q : i = s.1
               · rw [q, pk_us, updN_s, updN_s]
                 conv => lhs; rw [e1, e2, show (10 : Int32) = nI 10 from rfl, pk_mul, nI_add, Nat.mul_comm]
               · rw [pk_un q, updN_n q, updN_n q]
                 exact I8.2 i (by omega)
             · have hi : i < s.1 + 1 := hi
               show okS (updN s.2.1 s.1 (tN x) i) (updN s.2.2 s.1 (tN v) i)
               by_cases q : i = s.1
               · rw [q, updN_s, updN_s]
                 exact e3
               · rw [updN_n q, updN_n q]
                 exact I9.2 i (by omega))
    · rw [if_neg c1, if_neg c1]
      try exact I

theorem pr_R {p : Nat → Nat} {y : RS} {s : MS} (hy : yR y s) (hs : VS s) (m : Nat) : ∀ (i acc : Nat), i + m = s.1 → prL (fun x => nI (p x)) y m i (nI acc) = nI (spT p s.2.1 m i acc) := by
  have hs6 := hs.1
  induction m with
  | zero => intro i acc _; rfl
  | succ m ih =>
    intro i acc hi
    obtain ⟨s1, s2, _⟩ := hs.2 i (by omega)
    show prL (fun x => nI (p x)) y m (i + 1) (nI acc + prI (fun x => nI (p x)) (atI 60 y.1 y.2 (nI i) / 10)) = nI (spT p s.2.1 m (i + 1) (acc + p (s.2.1 i)))
    rw [hy.1, atI_n (by decide) hs6 (by omega), hy.2 i (by omega), d10 s1 s2, prI_n s1, nI_add]
    exact ih (i + 1) _ (by omega)

set_option maxHeartbeats 4000000 in
set_option maxRecDepth 100000 in
theorem st_count {c : XV} {n : MN} {p : Nat → Nat} {al : Int32} {s : MS} {r : MR} {w : MW} {k : MK} {a : MA} {pl : MP} {fr : Nat → Nat} {t : MT} {rest : AH} {Bd : Nat} (I : INV Bd c n p al s r w k fr t rest) (x : Int32) : STEP mX6_count mX7_count [.int x] Bd c n p al s r w k a pl fr t rest := by
  obtain ⟨⟨I1, I2, I3⟩, ⟨I4, I5⟩, I6, I7, ⟨I8, I9⟩, ⟨I10, I11⟩, ⟨I12, I13, I14, I15⟩, I16, I17⟩ := id I
  have h6 : AS mX6_count 3 0 0 [.ref 0, .int x] (MX c n p al s r w k a pl fr t rest) (P1 (rCount c.1 c.2.1 c.2.2.1 c.2.2.2.1 s.1 x) (MX c n p al s r w k a pl fr t rest)) := sp_count I8.1 (by have := I9.1; omega) x
  have h7 : AS mX7_count 0 0 0 [.ref 25, .int x] (MX c n p al s r w k a pl fr t rest) (P1 (cnM n p al s k x) (MX c n p al s r w k a pl fr t rest)) := mp_count I2.vl I2.1 I9 I5 x
  refine STEP.of h6 h7 (by decide) (by decide) ?_ ?_
  · unfold rCount cnM
    rw [I1.1, I3, I8.1, I12, I6, I4, show (0 : Int32) = nI 0 from rfl, pr_R I8 I9 s.1 0 0 (by omega)]
  · exact I

set_option maxHeartbeats 4000000 in
set_option maxRecDepth 100000 in
theorem st_go {c : XV} {n : MN} {p : Nat → Nat} {al : Int32} {s : MS} {r : MR} {w : MW} {k : MK} {a : MA} {pl : MP} {fr : Nat → Nat} {t : MT} {rest : AH} {Bd : Nat} (I : INV Bd c n p al s r w k fr t rest) (e : Int32) : STEP mX6_go mX7_go [.int e] Bd c n p al s r w k a pl fr t rest := by
  obtain ⟨⟨I1, I2, I3⟩, ⟨I4, I5⟩, I6, I7, ⟨I8, I9⟩, ⟨I10, I11⟩, ⟨I12, I13, I14, I15⟩, I16, I17⟩ := id I
  have h6 : AS mX6_go 3 0 0 [.ref 0, .int e] (MX c n p al s r w k a pl fr t rest) (P1 (if c.2.2.2.2.2.2.1.1 = 0 then -1 else if acI c.1.2.2.2.1 ((lpL c.1 c.2.2.2.2.2.2.1 r.2.2.2.1 0 (c.2.2.2.2.2.2.1.2.1 * 4 + c.2.2.2.2.2.2.1.2.2.1)) / 4) e = -1 then -1 else if adOk 30 c.2.2.2.2.2.2.1.2.2.2.1 = true then (yA c.2.2.2.2.2.2.1 e).2.2.2.1 else -1) (MX (c.1, c.2.1, c.2.2.1, c.2.2.2.1, c.2.2.2.2.1, c.2.2.2.2.2.1, (if c.2.2.2.2.2.2.1.1 = 0 then c.2.2.2.2.2.2.1 else if acI c.1.2.2.2.1 ((lpL c.1 c.2.2.2.2.2.2.1 r.2.2.2.1 0 (c.2.2.2.2.2.2.1.2.1 * 4 + c.2.2.2.2.2.2.1.2.2.1)) / 4) e = -1 then c.2.2.2.2.2.2.1 else yA c.2.2.2.2.2.2.1 e), c.2.2.2.2.2.2.2.1, c.2.2.2.2.2.2.2.2) n p al s r w k a pl fr t rest)) := sp_go I10.2.2.2.1 I11.1.2.2.1 e
  have h7 : AS mX7_go 1 0 0 [.ref 25, .int e] (MX (c.1, c.2.1, c.2.2.1, c.2.2.2.1, c.2.2.2.2.1, c.2.2.2.2.2.1, (if c.2.2.2.2.2.2.1.1 = 0 then c.2.2.2.2.2.2.1 else if acI c.1.2.2.2.1 ((lpL c.1 c.2.2.2.2.2.2.1 r.2.2.2.1 0 (c.2.2.2.2.2.2.1.2.1 * 4 + c.2.2.2.2.2.2.1.2.2.1)) / 4) e = -1 then c.2.2.2.2.2.2.1 else yA c.2.2.2.2.2.2.1 e), c.2.2.2.2.2.2.2.1, c.2.2.2.2.2.2.2.2) n p al s r w k a pl fr t rest) (P1 (if goC r e = true then (if goB n r pl e = true then nI (r.2.2.2.1 + 1) else -1) else -1) (MX (c.1, c.2.1, c.2.2.1, c.2.2.2.1, c.2.2.2.2.1, c.2.2.2.2.2.1, (if c.2.2.2.2.2.2.1.1 = 0 then c.2.2.2.2.2.2.1 else if acI c.1.2.2.2.1 ((lpL c.1 c.2.2.2.2.2.2.1 r.2.2.2.1 0 (c.2.2.2.2.2.2.1.2.1 * 4 + c.2.2.2.2.2.2.1.2.2.1)) / 4) e = -1 then c.2.2.2.2.2.2.1 else yA c.2.2.2.2.2.2.1 e), c.2.2.2.2.2.2.2.1, c.2.2.2.2.2.2.2.2) n p al s (if goC r e = true then (if goB n r pl e = true then goR r e else r) else r) w k a (if goC r e = true then goP n r pl else pl) fr t rest)) := mp_go I2.vl I11.1.1 I11.1.2.1 I11.1.2.2.1 I11.1.2.2.2 (fun h => by obtain ⟨_, _, _, _, _, _, _, q⟩ := lp_R0 (pl := pl) I1 I2 I10 I11 h; exact q) e
  refine STEP.of h6 h7 (by decide) (by decide) ?_ ?_
  all_goals
    have hK := I2.1
    have r3 := I11.1.2.2.1
    by_cases hr : r.1 = true
    · obtain ⟨z, z1, z2, z3, z4, z5, z6, z7⟩ := lp_R0 (pl := pl) I1 I2 I10 I11 hr
      have w0 : ¬ c.2.2.2.2.2.2.1.1 = 0 := by rw [I10.1]; exact (bI_ne _).mpr hr
      have e9 : nI (4 * z.1 + z.2) / 4 = nI z.1 := by
        rw [dv4 (by omega)]
        congr 1
        omega
      rw [if_neg w0, z3, e9]
      by_cases he : exI e = true
      · obtain ⟨f1, f2⟩ := exI_nat he
        have hac : acI c.1.2.2.2.1 (nI z.1) e = oI (n.2.2.1 (4 * z.1 + tN e)) := by
          rw [I1.2.2.1]
          conv => lhs; rw [f1]
          exact acI_n (by omega) f2
        have hgB : goB n r pl e = (n.2.2.1 (4 * z.1 + tN e)).isSome := by unfold goB; rw [z5]
        have hgC : goC r e = decide (¬ r.2.2.2.1 = 30) := by
          unfold goC
          rw [if_pos hr, if_pos he]
          by_cases q : r.2.2.2.1 = 30
          · rw [if_pos q, decide_eq_false (fun w => w q)]
          · rw [if_neg q, decide_eq_true q]
        have hzA : adZ 30 c.2.2.2.2.2.2.1.2.2.2.1 = nI (if r.2.2.2.1 < 30 then r.2.2.2.1 + 1 else r.2.2.2.1) := by rw [I10.2.2.2.1, adZ_n (by decide) (by omega)]
        rw [hac, hgB, hgC]
        cases hy : n.2.2.1 (4 * z.1 + tN e) with
        | none =>
          have hn1 : ¬ (none : Option Nat).isSome = true := by decide
          rw [if_pos (show oI none = -1 from rfl)]
          by_cases c30 : r.2.2.2.1 = 30
          · rw [if_neg (by rw [decide_eq_false (fun w => w c30)]; decide)]
            try exact I
          · rw [if_pos (decide_eq_true c30), if_neg hn1]
            try exact I
        | some y =>
          have hy9 := I2.vl _ y (by omega) hy
          have hs1 : (some y : Option Nat).isSome = true := rfl
          rw [if_neg (oI_some (by omega))]
          by_cases c30 : r.2.2.2.1 = 30
          · have hnd : ¬ decide (¬ r.2.2.2.1 = 30) = true := by rw [decide_eq_false (fun w => w c30)]; decide
            rw [if_neg hnd]
            first
              | (rw [I10.2.2.2.1, adOk_n (by decide) (by omega), if_neg (by rw [decide_eq_false (by omega)]; decide)]; done)
              | (refine ⟨⟨I1, I2, I3⟩, ⟨I4, I5⟩, I6, I7, ⟨I8, I9⟩, ⟨⟨I10.1, I10.2.1, I10.2.2.1, ?_, fun i hi => ?_⟩, I11⟩, ⟨I12, I13, I14, I15⟩, I16, I17⟩
                 · show adZ 30 c.2.2.2.2.2.2.1.2.2.2.1 = nI r.2.2.2.1
                   rw [hzA, if_neg (by omega)]
                 · show adF 30 c.2.2.2.2.2.2.1.2.2.2.1 c.2.2.2.2.2.2.1.2.2.2.2 e i = _
                   rw [I10.2.2.2.1, adF_n (by decide) (by omega), if_neg (by omega)]
                   exact I10.2.2.2.2 i hi)
          · rw [if_pos (decide_eq_true c30), if_pos hs1]
            first
              | (rw [I10.2.2.2.1, adOk_n (by decide) (by omega), if_pos (decide_eq_true (by omega))]
                 show adZ 30 c.2.2.2.2.2.2.1.2.2.2.1 = nI (r.2.2.2.1 + 1)
                 rw [hzA, if_pos (by omega)]
                 done)
              | (refine ⟨⟨I1, I2, I3⟩, ⟨I4, I5⟩, I6, I7, ⟨I8, I9⟩, ⟨⟨I10.1, I10.2.1, I10.2.2.1, ?_, fun i hi => ?_⟩, ⟨⟨I11.1.1, I11.1.2.1, by show r.2.2.2.1 + 1 ≤ 30; omega, fun i hi => ?_⟩, fun _ => ⟨(I11.2 hr).1, ?_⟩⟩⟩, ⟨I12, I13, I14, I15⟩, I16, I17⟩
                 · show adZ 30 c.2.2.2.2.2.2.1.2.2.2.1 = nI (r.2.2.2.1 + 1)
                   rw [hzA, if_pos (by omega)]
                 · have hi : i < r.2.2.2.1 + 1 := hi
                   show adF 30 c.2.2.2.2.2.2.1.2.2.2.1 c.2.2.2.2.2.2.1.2.2.2.2 e i = nI (updN r.2.2.2.2 r.2.2.2.1 (tN e) i)
                   rw [I10.2.2.2.1, adF_n (by decide) (by omega), if_pos (by omega)]
                   by_cases q : i = r.2.2.2.1
                   · rw [q, pk_us, updN_s]
                     exact f1
                   · rw [pk_un q, updN_n q]
                     exact I10.2.2.2.2 i (by omega)
                 · have hi : i < r.2.2.2.1 + 1 := hi
                   show updN r.2.2.2.2 r.2.2.2.1 (tN e) i < 4
                   by_cases q : i = r.2.2.2.1
                   · rw [q, updN_s]
                     exact f2
                   · rw [updN_n q]
                     exact I11.1.2.2.2 i (by omega)
                 · show (rp n.2.2.1 (updN r.2.2.2.2 r.2.2.2.1 (tN e)) r.2.1 r.2.2.1 (r.2.2.2.1 + 1)).isSome = true
                   have h1 : rp n.2.2.1 (updN r.2.2.2.2 r.2.2.2.1 (tN e)) r.2.1 r.2.2.1 r.2.2.2.1 = some z := by
                     rw [← z4]
                     exact rp_cong _ (fun j hj => updN_n (by omega))
                   rw [rp_s h1, updN_s, hy]
                   rfl)
      · rw [ac_ex he, if_pos rfl]
        have hgC : ¬ goC r e = true := by
          unfold goC
          rw [if_pos hr, if_neg he]
          decide
        rw [if_neg hgC]
        try exact I
    · have w0 : c.2.2.2.2.2.2.1.1 = 0 := by rw [I10.1]; exact (bI_eq _).mpr (Bool.eq_false_iff.mpr hr)
      have hgC : ¬ goC r e = true := by
        unfold goC
        rw [if_neg hr]
        decide
      rw [if_pos w0, if_neg hgC]
      try exact I

theorem xa_R {cap z : Nat} {f : Nat → Int32} {g : Nat → Nat} (hc : cap < 2 ^ 31) (hz : z ≤ cap) (hf : ∀ i, i < z → f i = nI (g i)) {x : Int32} (hx : ¬ x < 10) : xaI cap (nI z) f x = if nI z ≤ x - 10 then -1 else nI (g (tN (x - 10))) := by
  have ht : (10 : Int32) ≤ x := fa_of_nlt hx
  unfold xaI
  rw [if_pos ht]
  obtain ⟨j, hj, hx2⟩ : ∃ j : Nat, j < 2 ^ 31 ∧ x = nI j := nI_of (fun q => by
    rw [fa_lt, show (0 : Int32).toInt = 0 by decide] at q
    have ht2 := (fa_le _ _).mp ht
    rw [show (10 : Int32).toInt = 10 by decide] at ht2
    omega)
  have hj10 : 10 ≤ j := (nI_leI (by decide) hj).mp (show nI 10 ≤ nI j from by rw [← hx2]; exact ht)
  have hxs : x - 10 = nI (j - 10) := by rw [hx2]; exact pk_sub hj10
  rw [hxs]
  have et : tN (nI (j - 10)) = j - 10 := nI_clamp (by omega)
  by_cases e1 : z ≤ j - 10
  · rw [if_pos (nI_le e1 (by omega)), atI_no e1 (by omega)]
  · rw [if_neg (nI_ge (by omega) (by omega)), atI_n hc hz (by omega), et]
    exact hf _ (by omega)

set_option maxHeartbeats 4000000 in
set_option maxRecDepth 100000 in
theorem st_routed {c : XV} {n : MN} {p : Nat → Nat} {al : Int32} {s : MS} {r : MR} {w : MW} {k : MK} {a : MA} {pl : MP} {fr : Nat → Nat} {t : MT} {rest : AH} {Bd : Nat} (I : INV Bd c n p al s r w k fr t rest) (x : Int32) : STEP mX6_routed mX7_routed [.int x] Bd c n p al s r w k a pl fr t rest := by
  obtain ⟨⟨I1, I2, I3⟩, ⟨I4, I5⟩, I6, I7, ⟨I8, I9⟩, ⟨I10, I11⟩, ⟨I12, I13, I14, I15⟩, I16, I17⟩ := id I
  have h6 : AS mX6_routed 3 0 0 [.ref 0, .int x] (MX c n p al s r w k a pl fr t rest) (P1 (rRouted c.1 c.2.2.2.2.2.2.1 r.2.2.2.1 x) (MX c n p al s r w k a pl fr t rest)) := sp_routed I10.2.2.2.1 I11.1.2.2.1 x
  have h7 : AS mX7_routed 1 0 0 [.ref 25, .int x] (MX c n p al s r w k a pl fr t rest) (P1 (rdM n r pl x) (MX c n p al s r w k a (if r.1 = true then (if x < 10 then goP n r pl else pl) else pl) fr t rest)) := mp_routed I2.vl I11.1.1 I11.1.2.1 I11.1.2.2.1 I11.1.2.2.2 x
  refine STEP.of h6 h7 (by decide) (by decide) ?_ ?_
  · have hK := I2.1
    have r3 := I11.1.2.2.1
    unfold rRouted rdM
    by_cases hr : r.1 = true
    · obtain ⟨z, z1, z2, z3, z4, z5, z6, z7⟩ := lp_R0 (pl := pl) I1 I2 I10 I11 hr
      rw [if_pos hr, if_neg (by rw [I10.1]; exact (bI_ne _).mpr hr), z3, z5, z6, I10.2.2.2.1]
      have e9 : nI (4 * z.1 + z.2) / 4 = nI z.1 := by
        rw [dv4 (by omega)]
        congr 1
        omega
      have e8 : remI (nI (4 * z.1 + z.2)) = nI z.2 := by
        rw [remI_n (by omega)]
        congr 1
        omega
      rw [e9, e8]
      by_cases c9 : x < 10
      · rw [if_pos c9]
        have hxa : xaI 30 (nI r.2.2.2.1) c.2.2.2.2.2.2.1.2.2.2.2 x = -1 := by
          unfold xaI
          rw [if_neg (fa_of_lt c9).2.1]
        rw [hxa]
      · have ht : (10 : Int32) ≤ x := fa_of_nlt c9
        have h0 : ¬ x = 0 := fun q => by rw [q] at ht; exact absurd ht (by decide)
        have h1 : ¬ x = 1 := fun q => by rw [q] at ht; exact absurd ht (by decide)
        have h2 : ¬ x = 2 := fun q => by rw [q] at ht; exact absurd ht (by decide)
        rw [if_neg c9, if_neg h0, if_neg h1, if_neg h2]
        exact xa_R (by decide) r3 I10.2.2.2.2 c9
    · rw [if_neg hr, if_pos (by rw [I10.1]; exact (bI_eq _).mpr (Bool.eq_false_iff.mpr hr))]
  · exact I
