/-! what holds between two calls; a call on both sides -/
def kR (ko : Nat → Option Nat) (k : MK) (rest : AH) : Prop := rest.length = 6 * k.1 ∧ (∀ j, k.1 ≤ j → j < 8 → ko j = none) ∧ ∀ j, j < k.1 → ko j = some (49 + 6 * j) ∧ ∃ e s : Int32 × (Nat → Int32), (∀ i, i < 6 → rest[6 * j + i]? = (kpC (49 + 6 * j) true (nI (k.2.1 j)) (nI (k.2.2.1 j)) e s)[i]?) ∧ e.1 = nI (k.2.2.2.2.1 j) ∧ (∀ i, i < k.2.2.2.2.1 j → e.2 i = nI (k.2.2.2.1 (30 * j + i))) ∧ s.1 = nI (k.2.2.2.2.2.2.2 j) ∧ ∀ i, i < k.2.2.2.2.2.2.2 j → s.2 i = nI (10 * k.2.2.2.2.2.1 (60 * j + i) + k.2.2.2.2.2.2.1 (60 * j + i))
def INV (Bd : Nat) (c : XV) (n : MN) (p : Nat → Nat) (al : Int32) (s : MS) (r : MR) (w : MW) (k : MK) (fr : Nat → Nat) (t : MT) (rest : AH) : Prop :=
  (nR c.1 n ∧ VN n ∧ c.1.2.1 = nI (ctT n.2.2.1 (4 * n.1) 0 0)) ∧ (c.2.1 = (fun x => nI (p x)) ∧ ∀ q, q < 9 → p q ≤ 50) ∧ c.2.2.1.1 = al ∧ laR c.2.2.1.2.1 c.2.2.2.2.1 w ∧ (yR c.2.2.2.1 s ∧ VS s) ∧ (yW c.2.2.2.2.2.2.1 r ∧ VR n r) ∧ (c.2.2.1.2.2 = nI k.1 ∧ VK k ∧ (∀ j, j < k.1 → k.2.1 j < n.1) ∧ kR c.2.2.2.2.2.2.2.2 k rest) ∧ FB fr ∧ TB Bd t
def QS (v : Int32) (Bd : Nat) (c : XV) (rest : AH) : Post := fun q h => q = some (.int v) ∧ ∃ (n : MN) (p : Nat → Nat) (al : Int32) (s : MS) (r : MR) (w : MW) (k : MK) (a : MA) (pl : MP) (fr : Nat → Nat) (t : MT), INV (Bd + 1000000) c n p al s r w k fr t rest ∧ h = MX c n p al s r w k a pl fr t rest
def STEP (M6 M7 : MD) (as : List Value) (Bd : Nat) (c : XV) (n : MN) (p : Nat → Nat) (al : Int32) (s : MS) (r : MR) (w : MW) (k : MK) (a : MA) (pl : MP) (fr : Nat → Nat) (t : MT) (rest : AH) : Prop := ∃ (d6 d7 mc ms : Nat) (v : Int32) (c' : XV) (rest' : AH), d6 ≤ 8 ∧ d7 ≤ 8 ∧ mc ≤ 6 ∧ ms ≤ 100 ∧ AS M6 d6 mc ms (.ref 0 :: as) (MX c n p al s r w k a pl fr t rest) (P1 v (MX c' n p al s r w k a pl fr t rest')) ∧ AS M7 d7 0 0 (.ref 25 :: as) (MX c' n p al s r w k a pl fr t rest') (QS v Bd c' rest')
theorem INV.mono {c : XV} {n : MN} {p : Nat → Nat} {al : Int32} {s : MS} {r : MR} {w : MW} {k : MK} {fr : Nat → Nat} {t : MT} {rest : AH} {B B' : Nat} (h : INV B c n p al s r w k fr t rest) (hb : B ≤ B') : INV B' c n p al s r w k fr t rest := ⟨h.1, h.2.1, h.2.2.1, h.2.2.2.1, h.2.2.2.2.1, h.2.2.2.2.2.1, h.2.2.2.2.2.2.1, h.2.2.2.2.2.2.2.1, h.2.2.2.2.2.2.2.2.mono hb⟩
theorem STEP.of {M6 M7 : MD} {as : List Value} {Bd : Nat} {c c' : XV} {n n' : MN} {p p' : Nat → Nat} {al al' : Int32} {s s' : MS} {r r' : MR} {w w' : MW} {k k' : MK} {a a' : MA} {pl pl' : MP} {fr fr' : Nat → Nat} {t t' : MT} {rest : AH} {d6 d7 : Nat} {v v' : Int32} (h6 : AS M6 d6 0 0 (.ref 0 :: as) (MX c n p al s r w k a pl fr t rest) (P1 v (MX c' n p al s r w k a pl fr t rest))) (h7 : AS M7 d7 0 0 (.ref 25 :: as) (MX c' n p al s r w k a pl fr t rest) (P1 v' (MX c' n' p' al' s' r' w' k' a' pl' fr' t' rest))) (hd6 : d6 ≤ 8) (hd7 : d7 ≤ 8) (hv : v = v') (hI : INV Bd c' n' p' al' s' r' w' k' fr' t' rest) : STEP M6 M7 as Bd c n p al s r w k a pl fr t rest :=
  ⟨d6, d7, 0, 0, v, c', rest, hd6, hd7, by decide, by decide, h6, h7.imp (fun q h hq => ⟨by rw [hv]; exact hq.1, n', p', al', s', r', w', k', a', pl', fr', t', hI.mono (Nat.le_add_right _ _), hq.2⟩)⟩
theorem ct_acc {ld : Nat → Option Nat} (m : Nat) : ∀ (x acc : Nat), ctT ld m x acc = acc + ctT ld m x 0 := by
  induction m with
  | zero => intro x acc; rfl
  | succ m ih =>
    intro x acc
    show ctT ld m (x + 1) (if ctB ld x = true then acc + 1 else acc) = acc + ctT ld m (x + 1) (if ctB ld x = true then 0 + 1 else 0)
    rw [ih (x + 1) (if ctB ld x = true then acc + 1 else acc), ih (x + 1) (if ctB ld x = true then 0 + 1 else 0)]
    split <;> omega
theorem ct_fa {ld : Nat → Option Nat} (m : Nat) : ∀ x, ctT ld m x 0 + fa_cnt (ctB ld) x = fa_cnt (ctB ld) (x + m) := by
  induction m with
  | zero => intro x; exact Nat.zero_add _
  | succ m ih =>
    intro x
    have e : ctT ld (m + 1) x 0 = ctT ld m (x + 1) (if ctB ld x = true then 0 + 1 else 0) := rfl
    rw [e, ct_acc, show x + (m + 1) = x + 1 + m by omega, ← ih (x + 1)]
    show _ = ctT ld m (x + 1) 0 + (fa_cnt (ctB ld) x + if ctB ld x = true then 1 else 0)
    split <;> omega
theorem ct_0 {ld : Nat → Option Nat} (m : Nat) : ctT ld m 0 0 = fa_cnt (ctB ld) m := by
  have := ct_fa (ld := ld) m 0
  rw [Nat.zero_add] at this
  exact this
theorem isX_n {K : Nat} {x e : Int32} (hK : K ≤ 24) (h : isX K x e = true) : x = nI (tN x) ∧ tN x < K ∧ e = nI (tN e) ∧ tN e < 4 := by
  obtain ⟨h1, h2⟩ := and_t h
  have a1 := hasI_nat hK h1
  have a2 := exI_nat h2
  exact ⟨a1.1, a1.2, a2.1, a2.2⟩
theorem bI_if {b : Bool} : bI b = if b = true then 1 else 0 := by cases b <;> rfl
theorem rp_mono {ld ld' : Nat → Option Nat} {g : Nat → Nat} {k f : Nat} (i : Nat) : ∀ q, (∀ j q y, j < i → rp ld g k f j = some q → ld (4 * q.1 + g j) = some y → ld' (4 * q.1 + g j) = some y) → rp ld g k f i = some q → rp ld' g k f i = some q := by
  induction i with
  | zero => intro q _ h; exact h
  | succ i ih =>
    intro q hm h
    obtain ⟨q0, hq0⟩ := rp_down (show (rp ld g k f (i + 1)).isSome = true by rw [h]; rfl)
    have h1 := ih q0 (fun j q y hj => hm j q y (by omega)) hq0
    rw [rp_s hq0] at h
    rw [rp_s h1]
    cases hy : ld (4 * q0.1 + g i) with
    | none => rw [hy] at h; cases h
    | some y =>
      rw [hy] at h
      rw [hm i q0 y (by omega) hq0 hy]
      exact h
theorem VR.mono {n n' : MN} {r : MR} (h : VR n r) (h1 : n.1 ≤ n'.1) (h2 : ∀ x y, x < 96 → n.2.2.1 x = some y → n'.2.2.1 x = some y) (hv : VN n) : VR n' r := ⟨h.1, fun hr => by
  obtain ⟨a1, a2⟩ := h.2 hr
  refine ⟨by omega, ?_⟩
  obtain ⟨q, hq, -, -⟩ := rp_in hv h.1.2.2.2 a1 h.1.2.1 a2 _ (Nat.le_refl _)
  rw [rp_mono _ q (fun j q2 y hj hq2 hy => h2 _ _ (by
    obtain ⟨q3, hq3, b1, _⟩ := rp_in hv h.1.2.2.2 a1 h.1.2.1 a2 j (by omega)
    rw [hq2] at hq3
    cases hq3
    have := h.1.2.2.2 j hj
    have := hv.1
    omega) hy) hq]
  rfl⟩

set_option maxHeartbeats 4000000 in
set_option maxRecDepth 100000 in
theorem st_sight {c : XV} {n : MN} {p : Nat → Nat} {al : Int32} {s : MS} {r : MR} {w : MW} {k : MK} {a : MA} {pl : MP} {fr : Nat → Nat} {t : MT} {rest : AH} {Bd : Nat} (I : INV Bd c n p al s r w k fr t rest) (x v : Int32) : STEP mX6_sight mX7_sight [.int x, .int v] Bd c n p al s r w k a pl fr t rest := by
  obtain ⟨⟨I1, I2, I3⟩, ⟨I4, I5⟩, I6, I7, ⟨I8, I9⟩, ⟨I10, I11⟩, ⟨I12, I13, I14, I15⟩, I16, I17⟩ := id I
  have h6 : AS mX6_sight 2 0 0 [.ref 0, .int x, .int v] (MX c n p al s r w k a pl fr t rest) (P1 (bI (if inI v 0 7 = true then hasI c.1.1 x else false)) (MX ((if inI v 0 7 = true then (if hasI c.1.1 x = true then shN c.1 x v else c.1) else c.1), c.2.1, c.2.2.1, c.2.2.2.1, c.2.2.2.2.1, c.2.2.2.2.2.1, c.2.2.2.2.2.2.1, c.2.2.2.2.2.2.2.1, c.2.2.2.2.2.2.2.2) n p al s r w k a pl fr t rest)) := sp_sight x v
  have h7 : AS mX7_sight 2 0 0 [.ref 25, .int x, .int v] (MX ((if inI v 0 7 = true then (if hasI c.1.1 x = true then shN c.1 x v else c.1) else c.1), c.2.1, c.2.2.1, c.2.2.2.1, c.2.2.2.2.1, c.2.2.2.2.2.1, c.2.2.2.2.2.2.1, c.2.2.2.2.2.2.2.1, c.2.2.2.2.2.2.2.2) n p al s r w k a pl fr t rest) (P1 (bI (if hasI (nI n.1) x = true then inI v 0 7 else false)) (MX ((if inI v 0 7 = true then (if hasI c.1.1 x = true then shN c.1 x v else c.1) else c.1), c.2.1, c.2.2.1, c.2.2.2.1, c.2.2.2.2.1, c.2.2.2.2.2.1, c.2.2.2.2.2.2.1, c.2.2.2.2.2.2.2.1, c.2.2.2.2.2.2.2.2) (if hasI (nI n.1) x = true then (if inI v 0 7 = true then shM n x v else n) else n) p al s r w k a pl fr t rest)) := mp_sight I2.1 x v
  refine STEP.of h6 h7 (by decide) (by decide) ?_ ?_
  · rw [I1.1]
    cases hasI (nI n.1) x <;> cases inI v 0 7 <;> rfl
  · by_cases c1 : hasI (nI n.1) x = true
    · by_cases c2 : inI v 0 7 = true
      · rw [if_pos c1, if_pos c2, if_pos c2, I1.1, if_pos c1]
        obtain ⟨e1, e2⟩ := hasI_nat I2.1 c1
        obtain ⟨e3, e4⟩ := inI_nat (H := 7) (by decide) c2
        refine ⟨⟨⟨I1.1, ?_, I1.2.2⟩, ⟨I2.1, I2.2.1, fun y hy => ?_, I2.2.2.2⟩, I3⟩, ⟨I4, I5⟩, I6, I7, ⟨I8, I9⟩, ⟨I10, I11.mono (Nat.le_refl _) (fun _ _ _ h => h) I2⟩, ⟨I12, I13, I14, I15⟩, I16, I17⟩
        · show upd c.1.2.2.1 (tN x) v = fun y => nI (updN n.2.1 (tN x) (tN v) y)
          rw [I1.2.1, ← upd_nI, ← e3]
        · show updN n.2.1 (tN x) (tN v) y ≤ 7
          unfold updN
          split
          · exact e4
          · exact I2.2.2.1 y hy
      · rw [if_neg c2, if_pos c1, if_neg c2]
        exact I
    · rw [if_neg c1, I1.1, if_neg c1]
      cases inI v 0 7
      · exact I
      · exact I

set_option maxHeartbeats 4000000 in
set_option maxRecDepth 100000 in
theorem ac_out {n : NS} {N : MN} {x e : Int32} (hn : nR n N) (hv : VN N) (h : ¬ hasI (nI N.1) x = true) : acI n.2.2.2.1 x e = -1 := by
  unfold acI
  by_cases q1 : x < 0
  · rw [if_pos q1]
  rw [if_neg q1]
  by_cases q2 : (24 : Int32) ≤ x
  · rw [if_pos q2]
  rw [if_neg q2]
  by_cases q3 : e < 0
  · rw [if_pos q3]
  rw [if_neg q3]
  by_cases q4 : e < 4
  · rw [if_pos q4]
    obtain ⟨j, hj, rfl⟩ := nI_get (N := 24) (by decide) q1 q2
    obtain ⟨i, hi, rfl⟩ := nI_get (N := 4) (by decide) q3 (fa_of_lt q4).2.1
    rw [pl4, nI_clamp (by omega), hn.2.2.1]
    show oI (N.2.2.1 (4 * j + i)) = -1
    cases hy : N.2.2.1 (4 * j + i) with
    | none => rfl
    | some y =>
      have := (hv.2.1 _ y (by omega) hy).1
      exact absurd (hasI_n (show j < N.1 by omega) hv.1) h
  · rw [if_neg q4]
set_option maxHeartbeats 4000000 in
set_option maxRecDepth 100000 in
theorem st_look {c : XV} {n : MN} {p : Nat → Nat} {al : Int32} {s : MS} {r : MR} {w : MW} {k : MK} {a : MA} {pl : MP} {fr : Nat → Nat} {t : MT} {rest : AH} {Bd : Nat} (I : INV Bd c n p al s r w k fr t rest) (x e v : Int32) : STEP mX6_look mX7_look [.int x, .int e, .int v] Bd c n p al s r w k a pl fr t rest := by
  obtain ⟨⟨I1, I2, I3⟩, ⟨I4, I5⟩, I6, I7, ⟨I8, I9⟩, ⟨I10, I11⟩, ⟨I12, I13, I14, I15⟩, I16, I17⟩ := id I
  have h6 : AS mX6_look 2 0 0 [.ref 0, .int x, .int e, .int v] (MX c n p al s r w k a pl fr t rest) (P1 (rLook c.1 x e v) (MX c n p al s r w k a pl fr t rest)) := sp_look x e v
  have h7 : AS mX7_look 2 0 0 [.ref 25, .int x, .int e, .int v] (MX c n p al s r w k a pl fr t rest) (P1 (lkM n x e v) (MX c n p al s r w k a pl fr t rest)) := mp_look I2.1 I2.vl x e v
  refine STEP.of h6 h7 (by decide) (by decide) ?_ ?_
  · unfold rLook lkM
    have hK := I2.1
    by_cases c1 : hasI (nI n.1) x = true
    · obtain ⟨e1, e2⟩ := hasI_nat I2.1 c1
      rw [if_pos c1]
      by_cases c3 : v = 3
      · rw [if_pos c3, if_pos c3]
        unfold siI
        rw [I1.1, if_pos c1, I1.2.1]
      · rw [if_neg c3, if_neg c3]
        by_cases c2 : exI e = true
        · obtain ⟨e3, e4⟩ := exI_nat c2
          rw [if_pos c2]
          have hac : acI c.1.2.2.2.1 x e = oI (n.2.2.1 (4 * tN x + tN e)) := by
            rw [I1.2.2.1]
            conv => lhs; rw [e1, e3]
            exact acI_n (by omega) e4
          have hnm : nmI c.1.1 c.1.2.2.2.2.1 x e = nI (n.2.2.2 (4 * tN x + tN e)) := by
            unfold nmI
            rw [I1.1, if_pos c1, if_pos c2, I1.2.2.2]
            conv => lhs; rw [e1, e3]
            show nI (n.2.2.2 (nI (tN x) * 4 + nI (tN e)).toNatClampNeg) = _
            rw [pl4, nI_clamp (by omega)]
          rw [hac, hnm]
          cases hy : n.2.2.1 (4 * tN x + tN e) with
          | none => exact if_pos rfl
          | some y =>
            have hy9 := I2.vl _ y (by omega) hy
            rw [if_neg (oI_some (by omega))]
            show (if v = 0 then nI y / 4 else if v = 1 then remI (nI y + 2) else if v = 2 then nI (n.2.2.2 (4 * tN x + tN e)) else -1) = _
            rw [dv4 (by omega), remI_22 (by omega)]
        · rw [if_neg c2]
          have hac : acI c.1.2.2.2.1 x e = -1 := by
            unfold acI
            unfold exI at c2
            by_cases q1 : x < 0
            · rw [if_pos q1]
            rw [if_neg q1]
            by_cases q2 : (24 : Int32) ≤ x
            · rw [if_pos q2]
            rw [if_neg q2]
            by_cases q3 : e < 0
            · rw [if_pos q3]
            rw [if_neg q3] at c2 ⊢
            by_cases q4 : (4 : Int32) ≤ e
            · rw [if_neg (fun q => (fa_of_lt q).2.1 q4)]
            · rw [if_neg q4] at c2
              exact absurd rfl c2
          rw [hac, if_pos rfl]
    · rw [if_neg c1]
      by_cases c3 : v = 3
      · rw [if_pos c3]
        unfold siI
        rw [I1.1, if_neg c1]
      · rw [if_neg c3, ac_out I1 I2 c1, if_pos rfl]
  · exact I

set_option maxHeartbeats 4000000 in
set_option maxRecDepth 100000 in
theorem okP_e {x v : Int32} : okPrice x v = okP x v := by
  unfold okPrice okP kiI inI
  by_cases a1 : x < 0
  · rw [if_pos a1, if_pos a1]
    rfl
  rw [if_neg a1, if_neg a1]
  by_cases a2 : (9 : Int32) ≤ x
  · rw [if_pos a2, if_pos (show (8 : Int32) < x by rw [fa_lt]; rw [fa_le] at a2; rw [show (9 : Int32).toInt = 9 by decide] at a2; rw [show (8 : Int32).toInt = 8 by decide]; omega)]
    rfl
  rw [if_neg a2, if_neg (show ¬ (8 : Int32) < x by rw [fa_lt]; rw [fa_le] at a2; rw [show (9 : Int32).toInt = 9 by decide] at a2; rw [show (8 : Int32).toInt = 8 by decide]; omega), if_pos rfl, if_pos rfl]
  by_cases a3 : v < 0
  · rw [if_pos a3, if_pos a3]
  rw [if_neg a3, if_neg a3]
  by_cases a4 : v ≤ 50
  · rw [if_pos a4, if_neg (fun q => (fa_of_lt q).2.1 a4)]
  · rw [if_neg a4, if_pos (fa_of_nle a4)]
set_option maxHeartbeats 4000000 in
set_option maxRecDepth 100000 in
theorem st_price {c : XV} {n : MN} {p : Nat → Nat} {al : Int32} {s : MS} {r : MR} {w : MW} {k : MK} {a : MA} {pl : MP} {fr : Nat → Nat} {t : MT} {rest : AH} {Bd : Nat} (I : INV Bd c n p al s r w k fr t rest) (x v : Int32) : STEP mX6_price mX7_price [.int x, .int v] Bd c n p al s r w k a pl fr t rest := by
  obtain ⟨⟨I1, I2, I3⟩, ⟨I4, I5⟩, I6, I7, ⟨I8, I9⟩, ⟨I10, I11⟩, ⟨I12, I13, I14, I15⟩, I16, I17⟩ := id I
  have h6 : AS mX6_price 1 0 0 [.ref 0, .int x, .int v] (MX c n p al s r w k a pl fr t rest) (P1 (if okPrice x v = true then c.2.1 x.toNatClampNeg else -1) (MX (c.1, (if okPrice x v = true then upd c.2.1 x.toNatClampNeg v else c.2.1), c.2.2.1, c.2.2.2.1, c.2.2.2.2.1, c.2.2.2.2.2.1, c.2.2.2.2.2.2.1, c.2.2.2.2.2.2.2.1, c.2.2.2.2.2.2.2.2) n p al s r w k a pl fr t rest)) := sp_price x v
  have h7 : AS mX7_price 1 0 0 [.ref 25, .int x, .int v] (MX (c.1, (if okPrice x v = true then upd c.2.1 x.toNatClampNeg v else c.2.1), c.2.2.1, c.2.2.2.1, c.2.2.2.2.1, c.2.2.2.2.2.1, c.2.2.2.2.2.2.1, c.2.2.2.2.2.2.2.1, c.2.2.2.2.2.2.2.2) n p al s r w k a pl fr t rest) (P1 (if okP x v = true then nI (p (tN x)) else -1) (MX (c.1, (if okPrice x v = true then upd c.2.1 x.toNatClampNeg v else c.2.1), c.2.2.1, c.2.2.2.1, c.2.2.2.2.1, c.2.2.2.2.2.1, c.2.2.2.2.2.2.1, c.2.2.2.2.2.2.2.1, c.2.2.2.2.2.2.2.2) n (if okP x v = true then updN p (tN x) (tN v) else p) al s r w k a pl fr t rest)) := mp_price x v
  refine STEP.of h6 h7 (by decide) (by decide) ?_ ?_
  · rw [← okP_e, I4]
  · rw [← okP_e]
    by_cases c1 : okPrice x v = true
    · rw [if_pos c1, if_pos c1]
      rw [okP_e] at c1
      obtain ⟨b1, b2⟩ := and_t c1
      obtain ⟨e1, e2⟩ := inI_nat (H := 50) (by decide) b2
      refine ⟨⟨I1, I2, I3⟩, ⟨?_, fun q hq => ?_⟩, I6, I7, ⟨I8, I9⟩, ⟨I10, I11⟩, ⟨I12, I13, I14, I15⟩, I16, I17⟩
      · show upd c.2.1 (tN x) v = fun y => nI (updN p (tN x) (tN v) y)
        rw [I4, ← upd_nI, ← e1]
      · unfold updN
        split
        · exact e2
        · exact I5 q hq
    · rw [if_neg c1, if_neg c1]
      exact I

set_option maxHeartbeats 4000000 in
set_option maxRecDepth 100000 in
theorem okAl_e {x : Int32} : okAllow x = inI x 0 511 := by
  unfold okAllow inI
  by_cases a1 : x < 0
  · rw [if_pos a1, if_pos a1]
  rw [if_neg a1, if_neg a1]
  by_cases a4 : x ≤ 511
  · rw [if_pos a4, if_neg (fun q => (fa_of_lt q).2.1 a4)]
  · rw [if_neg a4, if_pos (fa_of_nle a4)]
set_option maxHeartbeats 4000000 in
set_option maxRecDepth 100000 in
theorem st_allow {c : XV} {n : MN} {p : Nat → Nat} {al : Int32} {s : MS} {r : MR} {w : MW} {k : MK} {a : MA} {pl : MP} {fr : Nat → Nat} {t : MT} {rest : AH} {Bd : Nat} (I : INV Bd c n p al s r w k fr t rest) (x : Int32) : STEP mX6_allow mX7_allow [.int x] Bd c n p al s r w k a pl fr t rest := by
  obtain ⟨⟨I1, I2, I3⟩, ⟨I4, I5⟩, I6, I7, ⟨I8, I9⟩, ⟨I10, I11⟩, ⟨I12, I13, I14, I15⟩, I16, I17⟩ := id I
  have h6 : AS mX6_allow 0 0 0 [.ref 0, .int x] (MX c n p al s r w k a pl fr t rest) (P1 (if okAllow x = true then c.2.2.1.1 else -1) (MX (c.1, c.2.1, (if okAllow x = true then ((x, c.2.2.1.2) : OS) else c.2.2.1), c.2.2.2.1, c.2.2.2.2.1, c.2.2.2.2.2.1, c.2.2.2.2.2.2.1, c.2.2.2.2.2.2.2.1, c.2.2.2.2.2.2.2.2) n p al s r w k a pl fr t rest)) := sp_allow x
  have h7 : AS mX7_allow 1 0 0 [.ref 25, .int x] (MX (c.1, c.2.1, (if okAllow x = true then ((x, c.2.2.1.2) : OS) else c.2.2.1), c.2.2.2.1, c.2.2.2.2.1, c.2.2.2.2.2.1, c.2.2.2.2.2.2.1, c.2.2.2.2.2.2.2.1, c.2.2.2.2.2.2.2.2) n p al s r w k a pl fr t rest) (P1 (if inI x 0 511 = true then al else -1) (MX (c.1, c.2.1, (if okAllow x = true then ((x, c.2.2.1.2) : OS) else c.2.2.1), c.2.2.2.1, c.2.2.2.2.1, c.2.2.2.2.2.1, c.2.2.2.2.2.2.1, c.2.2.2.2.2.2.2.1, c.2.2.2.2.2.2.2.2) n p (if inI x 0 511 = true then x else al) s r w k a pl fr t rest)) := mp_allow x
  refine STEP.of h6 h7 (by decide) (by decide) ?_ ?_
  · rw [okAl_e, I6]
  · rw [okAl_e]
    by_cases c1 : inI x 0 511 = true
    · rw [if_pos c1, if_pos c1]
      exact ⟨⟨I1, I2, I3⟩, ⟨I4, I5⟩, rfl, I7, ⟨I8, I9⟩, ⟨I10, I11⟩, ⟨I12, I13, I14, I15⟩, I16, I17⟩
    · rw [if_neg c1, if_neg c1]
      exact I

set_option maxHeartbeats 4000000 in
set_option maxRecDepth 100000 in
theorem st_hush {c : XV} {n : MN} {p : Nat → Nat} {al : Int32} {s : MS} {r : MR} {w : MW} {k : MK} {a : MA} {pl : MP} {fr : Nat → Nat} {t : MT} {rest : AH} {Bd : Nat} (I : INV Bd c n p al s r w k fr t rest)  : STEP mX6_hush mX7_hush [] Bd c n p al s r w k a pl fr t rest := by
  obtain ⟨⟨I1, I2, I3⟩, ⟨I4, I5⟩, I6, I7, ⟨I8, I9⟩, ⟨I10, I11⟩, ⟨I12, I13, I14, I15⟩, I16, I17⟩ := id I
  have h6 : AS mX6_hush 1 0 0 [.ref 0] (MX c n p al s r w k a pl fr t rest) (P1 (c.2.2.2.1.1) (MX (c.1, c.2.1, c.2.2.1, ((0, c.2.2.2.1.2) : RS), c.2.2.2.2.1, c.2.2.2.2.2.1, c.2.2.2.2.2.2.1, c.2.2.2.2.2.2.2.1, c.2.2.2.2.2.2.2.2) n p al s r w k a pl fr t rest)) := sp_hush
  have h7 : AS mX7_hush 0 0 0 [.ref 25] (MX (c.1, c.2.1, c.2.2.1, ((0, c.2.2.2.1.2) : RS), c.2.2.2.2.1, c.2.2.2.2.2.1, c.2.2.2.2.2.2.1, c.2.2.2.2.2.2.2.1, c.2.2.2.2.2.2.2.2) n p al s r w k a pl fr t rest) (P1 (nI s.1) (MX (c.1, c.2.1, c.2.2.1, ((0, c.2.2.2.1.2) : RS), c.2.2.2.2.1, c.2.2.2.2.2.1, c.2.2.2.2.2.2.1, c.2.2.2.2.2.2.2.1, c.2.2.2.2.2.2.2.2) n p al ((0, s.2)) r w k a pl fr t rest)) := mp_hush
  refine STEP.of h6 h7 (by decide) (by decide) ?_ ?_
  · exact I8.1
  · exact ⟨⟨I1, I2, I3⟩, ⟨I4, I5⟩, I6, I7, ⟨⟨rfl, fun i hi => absurd hi (Nat.not_lt_zero i)⟩, ⟨Nat.zero_le _, fun i hi => absurd hi (Nat.not_lt_zero i)⟩⟩, ⟨I10, I11⟩, ⟨I12, I13, I14, I15⟩, I16, I17⟩

set_option maxHeartbeats 4000000 in
set_option maxRecDepth 100000 in
theorem in_pred {K j : Nat} (hK : K < 2 ^ 31) (h : j < K) : inI (nI j) 0 (nI K - 1) = true := by
  cases K with
  | zero => omega
  | succ K =>
    unfold inI
    rw [nI_pred, if_neg (nI_pos (by omega)), if_neg (nI_nlt (by omega) (by omega))]
set_option maxHeartbeats 4000000 in
set_option maxRecDepth 100000 in
theorem st_said {c : XV} {n : MN} {p : Nat → Nat} {al : Int32} {s : MS} {r : MR} {w : MW} {k : MK} {a : MA} {pl : MP} {fr : Nat → Nat} {t : MT} {rest : AH} {Bd : Nat} (I : INV Bd c n p al s r w k fr t rest) (x : Int32) : STEP mX6_said mX7_said [.int x] Bd c n p al s r w k a pl fr t rest := by
  obtain ⟨⟨I1, I2, I3⟩, ⟨I4, I5⟩, I6, I7, ⟨I8, I9⟩, ⟨I10, I11⟩, ⟨I12, I13, I14, I15⟩, I16, I17⟩ := id I
  have h6 : AS mX6_said 1 0 0 [.ref 0, .int x] (MX c n p al s r w k a pl fr t rest) (P1 (atI 60 c.2.2.2.1.1 c.2.2.2.1.2 x) (MX c n p al s r w k a pl fr t rest)) := sp_said x
  have h7 : AS mX7_said 1 0 0 [.ref 25, .int x] (MX c n p al s r w k a pl fr t rest) (P1 (sdI s x) (MX c n p al s r w k a pl fr t rest)) := mp_said I9.1 x
  refine STEP.of h6 h7 (by decide) (by decide) ?_ ?_
  · have hs6 := I9.1
    unfold sdI
    by_cases c1 : inI x 0 (nI s.1 - 1) = true
    · obtain ⟨e1, e2⟩ := inI_pred (by omega) c1
      rw [if_pos c1]
      conv => lhs; rw [e1]
      rw [I8.1, atI_n (by decide) hs6 e2]
      exact I8.2 _ e2
    · rw [if_neg c1, I8.1]
      by_cases q1 : x < 0
      · unfold atI
        rw [if_pos q1]
      · obtain ⟨j, hj, rfl⟩ := nI_of q1
        by_cases q2 : j < s.1
        · exact absurd (in_pred (by omega) q2) c1
        · exact atI_no (by omega) hj
  · exact I

set_option maxHeartbeats 4000000 in
set_option maxRecDepth 100000 in
theorem st_walk {c : XV} {n : MN} {p : Nat → Nat} {al : Int32} {s : MS} {r : MR} {w : MW} {k : MK} {a : MA} {pl : MP} {fr : Nat → Nat} {t : MT} {rest : AH} {Bd : Nat} (I : INV Bd c n p al s r w k fr t rest) (x f : Int32) : STEP mX6_walk mX7_walk [.int x, .int f] Bd c n p al s r w k a pl fr t rest := by
  obtain ⟨⟨I1, I2, I3⟩, ⟨I4, I5⟩, I6, I7, ⟨I8, I9⟩, ⟨I10, I11⟩, ⟨I12, I13, I14, I15⟩, I16, I17⟩ := id I
  have h6 : AS mX6_walk 6 0 0 [.ref 0, .int x, .int f] (MX c n p al s r w k a pl fr t rest) (P1 (if hasI c.1.1 x = true then (if exI f = true then (if (faL c.1 60 c.2.2.2.1.1 c.2.2.2.1.2 (-1) s.1 0 (stW c.2.2.2.2.1 x f)).1 = -1 then (faL c.1 60 c.2.2.2.1.1 c.2.2.2.1.2 (-1) s.1 0 (stW c.2.2.2.2.1 x f)).2.1 else -2 - (faL c.1 60 c.2.2.2.1.1 c.2.2.2.1.2 (-1) s.1 0 (stW c.2.2.2.2.1 x f)).1) else -1) else -1) (MX (c.1, c.2.1, (if hasI c.1.1 x = true then (if exI f = true then ((c.2.2.1.1, 1, c.2.2.1.2.2) : OS) else c.2.2.1) else c.2.2.1), c.2.2.2.1, (if hasI c.1.1 x = true then (if exI f = true then (faL c.1 60 c.2.2.2.1.1 c.2.2.2.1.2 (-1) s.1 0 (stW c.2.2.2.2.1 x f)).2 else c.2.2.2.2.1) else c.2.2.2.2.1), c.2.2.2.2.2.1, c.2.2.2.2.2.2.1, c.2.2.2.2.2.2.2.1, c.2.2.2.2.2.2.2.2) n p al s r w k a pl fr t rest)) := sp_walk I8.1 (by have := I9.1; omega) x f
  have h7 : AS mX7_walk 3 0 0 [.ref 25, .int x, .int f] (MX (c.1, c.2.1, (if hasI c.1.1 x = true then (if exI f = true then ((c.2.2.1.1, 1, c.2.2.1.2.2) : OS) else c.2.2.1) else c.2.2.1), c.2.2.2.1, (if hasI c.1.1 x = true then (if exI f = true then (faL c.1 60 c.2.2.2.1.1 c.2.2.2.1.2 (-1) s.1 0 (stW c.2.2.2.2.1 x f)).2 else c.2.2.2.2.1) else c.2.2.2.2.1), c.2.2.2.2.2.1, c.2.2.2.2.2.2.1, c.2.2.2.2.2.2.2.1, c.2.2.2.2.2.2.2.2) n p al s r w k a pl fr t rest) (P1 (if isX n.1 x f = true then wkA (wkT n s s.1 0 ((tN x, tN f, a.2.2), (true, w.2.1, w.2.2.1, 0, w.2.2.2.2))) else -1) (MX (c.1, c.2.1, (if hasI c.1.1 x = true then (if exI f = true then ((c.2.2.1.1, 1, c.2.2.1.2.2) : OS) else c.2.2.1) else c.2.2.1), c.2.2.2.1, (if hasI c.1.1 x = true then (if exI f = true then (faL c.1 60 c.2.2.2.1.1 c.2.2.2.1.2 (-1) s.1 0 (stW c.2.2.2.2.1 x f)).2 else c.2.2.2.2.1) else c.2.2.2.2.1), c.2.2.2.2.2.1, c.2.2.2.2.2.2.1, c.2.2.2.2.2.2.2.1, c.2.2.2.2.2.2.2.2) n p al s r (if isX n.1 x f = true then wkF (wkT n s s.1 0 ((tN x, tN f, a.2.2), (true, w.2.1, w.2.2.1, 0, w.2.2.2.2))) else w) k (if isX n.1 x f = true then (wkT n s s.1 0 ((tN x, tN f, a.2.2), (true, w.2.1, w.2.2.1, 0, w.2.2.2.2))).2.1 else a) pl fr t rest)) := mp_walk I2.1 I2.vl I2.nm I2.sg I9 x f
  refine STEP.of h6 h7 (by decide) (by decide) ?_ ?_
  all_goals
    by_cases c1 : isX n.1 x f = true
    · obtain ⟨e1, e2, e3, e4⟩ := isX_n I2.1 c1
      obtain ⟨b1, b2⟩ := and_t c1
      have hw := walk_R (la := c.2.2.2.2.1) (w := w) (a := a) I1 I2 I9 I8 e2 e4
      rw [← e1, ← e3] at hw
      rw [if_pos c1, I1.1, if_pos b1, if_pos b2]
      first
        | exact hw.1
        | (rw [if_pos b1, if_pos b2]
           exact ⟨⟨I1, I2, I3⟩, ⟨I4, I5⟩, I6, hw.2, ⟨I8, I9⟩, ⟨I10, I11⟩, ⟨I12, I13, I14, I15⟩, I16, I17⟩)
    · rw [if_neg c1, I1.1]
      by_cases b1 : hasI (nI n.1) x = true
      · have b2 : ¬ exI f = true := fun q => c1 (by unfold isX; rw [if_pos b1]; exact q)
        rw [if_pos b1, if_neg b2]
        try (rw [if_pos b1, if_neg b2]; exact I)
      · rw [if_neg b1]
        try (rw [if_neg b1]; exact I)

set_option maxHeartbeats 4000000 in
set_option maxRecDepth 100000 in
theorem st_walked {c : XV} {n : MN} {p : Nat → Nat} {al : Int32} {s : MS} {r : MR} {w : MW} {k : MK} {a : MA} {pl : MP} {fr : Nat → Nat} {t : MT} {rest : AH} {Bd : Nat} (I : INV Bd c n p al s r w k fr t rest) (x : Int32) : STEP mX6_walked mX7_walked [.int x] Bd c n p al s r w k a pl fr t rest := by
  obtain ⟨⟨I1, I2, I3⟩, ⟨I4, I5⟩, I6, I7, ⟨I8, I9⟩, ⟨I10, I11⟩, ⟨I12, I13, I14, I15⟩, I16, I17⟩ := id I
  have h6 : AS mX6_walked 2 0 0 [.ref 0, .int x] (MX c n p al s r w k a pl fr t rest) (P1 (rWalked c.2.2.1.2.1 c.2.2.2.2.1 x) (MX c n p al s r w k a pl fr t rest)) := sp_walked x
  have h7 : AS mX7_walked 0 0 0 [.ref 25, .int x] (MX c n p al s r w k a pl fr t rest) (P1 (rwM w x) (MX c n p al s r w k a pl fr t rest)) := mp_walked x
  refine STEP.of h6 h7 (by decide) (by decide) ?_ ?_
  · exact walked_R I7 x
  · exact I

set_option maxHeartbeats 4000000 in
set_option maxRecDepth 100000 in
theorem st_start {c : XV} {n : MN} {p : Nat → Nat} {al : Int32} {s : MS} {r : MR} {w : MW} {k : MK} {a : MA} {pl : MP} {fr : Nat → Nat} {t : MT} {rest : AH} {Bd : Nat} (I : INV Bd c n p al s r w k fr t rest) (x f : Int32) : STEP mX6_start mX7_start [.int x, .int f] Bd c n p al s r w k a pl fr t rest := by
  obtain ⟨⟨I1, I2, I3⟩, ⟨I4, I5⟩, I6, I7, ⟨I8, I9⟩, ⟨I10, I11⟩, ⟨I12, I13, I14, I15⟩, I16, I17⟩ := id I
  have h6 : AS mX6_start 2 0 0 [.ref 0, .int x, .int f] (MX c n p al s r w k a pl fr t rest) (P1 (bI (if hasI c.1.1 x = true then exI f else false)) (MX (c.1, c.2.1, c.2.2.1, c.2.2.2.1, c.2.2.2.2.1, c.2.2.2.2.2.1, (if hasI c.1.1 x = true then (if exI f = true then bgY c.2.2.2.2.2.2.1 x f else c.2.2.2.2.2.2.1) else c.2.2.2.2.2.2.1), c.2.2.2.2.2.2.2.1, c.2.2.2.2.2.2.2.2) n p al s r w k a pl fr t rest)) := sp_start x f
  have h7 : AS mX7_start 3 0 0 [.ref 25, .int x, .int f] (MX (c.1, c.2.1, c.2.2.1, c.2.2.2.1, c.2.2.2.2.1, c.2.2.2.2.2.1, (if hasI c.1.1 x = true then (if exI f = true then bgY c.2.2.2.2.2.2.1 x f else c.2.2.2.2.2.2.1) else c.2.2.2.2.2.2.1), c.2.2.2.2.2.2.2.1, c.2.2.2.2.2.2.2.2) n p al s r w k a pl fr t rest) (P1 (bI (isX n.1 x f)) (MX (c.1, c.2.1, c.2.2.1, c.2.2.2.1, c.2.2.2.2.1, c.2.2.2.2.2.1, (if hasI c.1.1 x = true then (if exI f = true then bgY c.2.2.2.2.2.2.1 x f else c.2.2.2.2.2.2.1) else c.2.2.2.2.2.2.1), c.2.2.2.2.2.2.2.1, c.2.2.2.2.2.2.2.2) n p al s (if isX n.1 x f = true then (true, tN x, tN f, 0, r.2.2.2.2) else r) w k a pl fr t rest)) := mp_start I2.1 x f
  refine STEP.of h6 h7 (by decide) (by decide) ?_ ?_
  · rw [I1.1]
    rfl
  · rw [I1.1]
    by_cases c1 : isX n.1 x f = true
    · obtain ⟨e1, e2, e3, e4⟩ := isX_n I2.1 c1
      obtain ⟨b1, b2⟩ := and_t c1
      rw [if_pos c1, if_pos b1, if_pos b2]
      refine ⟨⟨I1, I2, I3⟩, ⟨I4, I5⟩, I6, I7, ⟨I8, I9⟩, ⟨⟨rfl, e1, e3, rfl, fun i hi => absurd hi (Nat.not_lt_zero i)⟩, ⟨⟨by show tN x < 24; have := I2.1; omega, e4, by show 0 ≤ 30; omega, fun i hi => absurd hi (Nat.not_lt_zero i)⟩, fun _ => ⟨e2, rfl⟩⟩⟩, ⟨I12, I13, I14, I15⟩, I16, I17⟩
    · rw [if_neg c1]
      by_cases b1 : hasI (nI n.1) x = true
      · have b2 : ¬ exI f = true := fun q => c1 (by unfold isX; rw [if_pos b1]; exact q)
        rw [if_pos b1, if_neg b2]
        exact I
      · rw [if_neg b1]
        exact I
