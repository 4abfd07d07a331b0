/-! keep, still -/
theorem cy_at {cap Z : Nat} {g : Nat → Int32} (hc : cap < 2 ^ 31) (hZ : Z ≤ cap) (m : Nat) : ∀ (i : Nat) (f : Nat → Int32), i + m = Z → (cyT cap cap Z g m i (nI i, f)).1 = nI Z ∧ ∀ j, j < Z → (cyT cap cap Z g m i (nI i, f)).2 j = if i ≤ j then g j else f j := by
  induction m with
  | zero =>
    intro i f hi
    refine ⟨by show nI i = nI Z; rw [show i = Z by omega], fun j hj => ?_⟩
    rw [if_neg (by omega)]
    rfl
  | succ m ih =>
    intro i f hi
    have e : cyT cap cap Z g (m + 1) i (nI i, f) = cyT cap cap Z g m (i + 1) (adZ cap (nI i), adF cap (nI i) f (atI cap (nI Z) g (nI i))) := rfl
    rw [e, adZ_n hc (by omega), if_pos (by omega), adF_n hc (by omega), if_pos (by omega), atI_n hc hZ (by omega)]
    obtain ⟨h1, h2⟩ := ih (i + 1) (upd f i (g i)) (by omega)
    refine ⟨h1, fun j hj => ?_⟩
    rw [h2 j hj]
    by_cases c : i + 1 ≤ j
    · rw [if_pos c, if_pos (by omega)]
    · rw [if_neg c]
      by_cases z : j = i
      · rw [z, pk_us, if_pos (Nat.le_refl _)]
      · rw [pk_un z, if_neg (by omega)]
theorem kx_at {ex : Nat → Nat} {b : Nat} (m : Nat) : ∀ (i : Nat) (f : Nat → Nat) (x : Nat), kxT ex b m i f x = if b + i ≤ x ∧ x < b + i + m then ex (x - b) else f x := by
  induction m with
  | zero => intro i f x; exact (if_neg (by omega)).symm
  | succ m ih =>
    intro i f x
    show kxT ex b m (i + 1) (updN f (b + i) (ex i)) x = _
    rw [ih]
    by_cases c : b + (i + 1) ≤ x ∧ x < b + (i + 1) + m
    · have c2 : b + i ≤ x ∧ x < b + i + (m + 1) := by omega
      rw [if_pos c, if_pos c2]
    · rw [if_neg c]
      by_cases z : x = b + i
      · have c2 : b + i ≤ b + i ∧ b + i < b + i + (m + 1) := by omega
        rw [z, updN_s, if_pos c2, Nat.add_sub_cancel_left]
      · have c2 : ¬ (b + i ≤ x ∧ x < b + i + (m + 1)) := by omega
        rw [updN_n z, if_neg c2]
theorem kx_new {ex f : Nat → Nat} {b m i : Nat} (hi : i < m) : kxT ex b m 0 f (b + i) = ex i := by
  have c2 : b + 0 ≤ b + i ∧ b + i < b + 0 + m := by omega
  rw [kx_at, if_pos c2, Nat.add_sub_cancel_left]
theorem kx_old {ex f : Nat → Nat} {b m x : Nat} (hx : x < b) : kxT ex b m 0 f x = f x := by
  have c2 : ¬ (b + 0 ≤ x ∧ x < b + 0 + m) := by omega
  rw [kx_at, if_neg c2]
theorem MH_len {n : MN} {p : Nat → Nat} {al : Int32} {s : MS} {r : MR} {w : MW} {k : MK} {a : MA} {pl : MP} {fr : Nat → Nat} {t : MT} : (MH n p al s r w k a pl fr t).length = 24 := rfl
theorem kept_at {cn : NS} {cp : Nat → Int32} {co : OS} {cy : RS} {cla csc : WS} {cwy : YS} {cch : KS} {cko : Nat → Option Nat} {n : MN} {p : Nat → Nat} {al : Int32} {s : MS} {r : MR} {w : MW} {k : MK} {a : MA} {pl : MP} {fr : Nat → Nat} {t : MT} {rest : AH} (m : Nat) : (CH cn cp co cy cla csc cwy cch cko ++ (MH n p al s r w k a pl fr t ++ rest))[49 + m]? = rest[m]? := by
  have h1 : (CH cn cp co cy cla csc cwy cch cko).length = 25 := rfl
  rw [List.getElem?_append_right (by rw [h1]; omega), h1, List.getElem?_append_right (by rw [MH_len]; omega), MH_len]
  congr 1
  omega
theorem VK.add {s : MS} {r : MR} {k : MK} {n : MN} (hk : VK k) (h8 : k.1 < 8) (hs : VS s) (hr : VR n r) : VK (keK s r k) := by
  refine ⟨by show k.1 + 1 ≤ 8; omega, fun j hj => ?_⟩
  have hj : j < k.1 + 1 := hj
  show updN k.2.1 k.1 r.2.1 j < 24 ∧ updN k.2.2.1 k.1 r.2.2.1 j < 4 ∧ updN k.2.2.2.2.1 k.1 r.2.2.2.1 j ≤ 30 ∧ (∀ i, i < updN k.2.2.2.2.1 k.1 r.2.2.2.1 j → kxT r.2.2.2.2 (30 * k.1) r.2.2.2.1 0 k.2.2.2.1 (30 * j + i) < 4) ∧ updN k.2.2.2.2.2.2.2 k.1 s.1 j ≤ 60 ∧ ∀ i, i < updN k.2.2.2.2.2.2.2 k.1 s.1 j → okS (kxT s.2.1 (60 * k.1) s.1 0 k.2.2.2.2.2.1 (60 * j + i)) (kxT s.2.2 (60 * k.1) s.1 0 k.2.2.2.2.2.2.1 (60 * j + i))
  by_cases q : j = k.1
  · rw [q, updN_s, updN_s, updN_s, updN_s]
    exact ⟨hr.1.1, hr.1.2.1, hr.1.2.2.1, fun i hi => by rw [kx_new hi]; exact hr.1.2.2.2 i hi, hs.1, fun i hi => by rw [kx_new hi, kx_new hi]; exact hs.2 i hi⟩
  · rw [updN_n q, updN_n q, updN_n q, updN_n q]
    obtain ⟨v1, v2, v3, v4, v5, v6⟩ := hk.2 j (by omega)
    exact ⟨v1, v2, v3, fun i hi => by rw [kx_old (by omega)]; exact v4 i hi, v5, fun i hi => by rw [kx_old (by omega), kx_old (by omega)]; exact v6 i hi⟩
theorem kR.add {ko : Nat → Option Nat} {k : MK} {rest : AH} {s : MS} {r : MR} {n : MN} {wy : YS} {y : RS} (h : kR ko k rest) (hk : VK k) (h8 : k.1 < 8) (hs : VS s) (hr : VR n r) (hw : yW wy r) (hy : yR y s) : kR (va_up ko k.1 (some (49 + 6 * k.1))) (keK s r k) (rest ++ kpC (49 + 6 * k.1) true (nI r.2.1) (nI r.2.2.1) (cyT 30 30 r.2.2.2.1 wy.2.2.2.2 r.2.2.2.1 0 (0, fun _ => 0)) (cyT 60 60 s.1 y.2 s.1 0 (0, fun _ => 0))) := by
  obtain ⟨h1, h2, h3⟩ := h
  obtain ⟨c1, c2⟩ := cy_at (cap := 30) (Z := r.2.2.2.1) (g := wy.2.2.2.2) (by decide) hr.1.2.2.1 r.2.2.2.1 0 (fun _ => 0) (by omega)
  obtain ⟨d1, d2⟩ := cy_at (cap := 60) (Z := s.1) (g := y.2) (by decide) hs.1 s.1 0 (fun _ => 0) (by omega)
  refine ⟨?_, fun j hj h9 => ?_, fun j hj => ?_⟩
  · rw [List.length_append, h1]
    rfl
  · have hj : k.1 + 1 ≤ j := hj
    show (if j = k.1 then _ else ko j) = none
    rw [if_neg (by omega)]
    exact h2 j (by omega) h9
  · have hj : j < k.1 + 1 := hj
    show (if j = k.1 then some (49 + 6 * k.1) else ko j) = some (49 + 6 * j) ∧ ∃ e s2 : Int32 × (Nat → Int32), (∀ i, i < 6 → (rest ++ kpC (49 + 6 * k.1) true (nI r.2.1) (nI r.2.2.1) (cyT 30 30 r.2.2.2.1 wy.2.2.2.2 r.2.2.2.1 0 (0, fun _ => 0)) (cyT 60 60 s.1 y.2 s.1 0 (0, fun _ => 0)))[6 * j + i]? = (kpC (49 + 6 * j) true (nI (updN k.2.1 k.1 r.2.1 j)) (nI (updN k.2.2.1 k.1 r.2.2.1 j)) e s2)[i]?) ∧ e.1 = nI (updN k.2.2.2.2.1 k.1 r.2.2.2.1 j) ∧ (∀ i, i < updN k.2.2.2.2.1 k.1 r.2.2.2.1 j → e.2 i = nI (kxT r.2.2.2.2 (30 * k.1) r.2.2.2.1 0 k.2.2.2.1 (30 * j + i))) ∧ s2.1 = nI (updN k.2.2.2.2.2.2.2 k.1 s.1 j) ∧ ∀ i, i < updN k.2.2.2.2.2.2.2 k.1 s.1 j → s2.2 i = nI (10 * kxT s.2.1 (60 * k.1) s.1 0 k.2.2.2.2.2.1 (60 * j + i) + kxT s.2.2 (60 * k.1) s.1 0 k.2.2.2.2.2.2.1 (60 * j + i))
    by_cases q : j = k.1
    · rw [q, if_pos rfl, updN_s, updN_s, updN_s, updN_s]
      refine ⟨rfl, _, _, fun i hi => ?_, c1, fun i hi => ?_, d1, fun i hi => ?_⟩
      · rw [List.getElem?_append_right (by omega), h1, Nat.add_sub_cancel_left]
        rfl
      · rw [kx_new hi]
        have := c2 i hi
        rw [if_pos (Nat.zero_le _)] at this
        exact this.trans (hw.2.2.2.2 i hi)
      · rw [kx_new hi, kx_new hi]
        have := d2 i hi
        rw [if_pos (Nat.zero_le _)] at this
        exact this.trans (hy.2 i hi)
    · rw [if_neg q, updN_n q, updN_n q, updN_n q, updN_n q]
      obtain ⟨g1, e, s2, g2, g3, g4, g5, g6⟩ := h3 j (by omega)
      obtain ⟨v1, v2, v3, v4, v5, v6⟩ := hk.2 j (by omega)
      refine ⟨g1, e, s2, fun i hi => ?_, g3, fun i hi => ?_, g5, fun i hi => ?_⟩
      · rw [List.getElem?_append_left (by omega)]
        exact g2 i hi
      · rw [kx_old (by omega)]
        exact g4 i hi
      · rw [kx_old (by omega), kx_old (by omega)]
        exact g6 i hi

set_option maxHeartbeats 4000000 in
set_option maxRecDepth 100000 in
theorem st_keep {c : XV} {n : MN} {p : Nat → Nat} {al : Int32} {s : MS} {r : MR} {w : MW} {k : MK} {a : MA} {pl : MP} {fr : Nat → Nat} {t : MT} {rest : AH} {Bd : Nat} (I : INV Bd c n p al s r w k fr t rest)  : STEP mX6_keep mX7_keep [] Bd c n p al s r w k a pl fr t rest := by
  obtain ⟨⟨I1, I2, I3⟩, ⟨I4, I5⟩, I6, I7, ⟨I8, I9⟩, ⟨I10, I11⟩, ⟨I12, I13, I14, I15⟩, I16, I17⟩ := id I
  by_cases hh : r.1 = true ∧ k.1 < 8
  · obtain ⟨hr, h8⟩ := hh
    have hs6 := I9.1
    have r3 := I11.1.2.2.1
    have hl : (MH n p al s r w k a pl fr t ++ rest).length = 24 + 6 * k.1 := by rw [List.length_append, MH_len, I15.1]
    have hl2 : (MH n p al s r w k a pl fr t ++ rest).length + 25 = 49 + 6 * k.1 := by omega
    have h6 : AS mX6_keep 4 6 100 [.ref 0] (MX c n p al s r w k a pl fr t rest) (P1 (nI k.1) (MX (c.1, c.2.1, ((c.2.2.1.1, c.2.2.1.2.1, nI (k.1 + 1)) : OS), c.2.2.2.1, c.2.2.2.2.1, c.2.2.2.2.2.1, c.2.2.2.2.2.2.1, c.2.2.2.2.2.2.2.1, (va_up c.2.2.2.2.2.2.2.2 k.1 (some (49 + 6 * k.1)))) n p al s r w k a pl fr t (rest ++ kpC (49 + 6 * k.1) true (nI r.2.1) (nI r.2.2.1) (cyT 30 30 r.2.2.2.1 c.2.2.2.2.2.2.1.2.2.2.2 r.2.2.2.1 0 (0, fun _ => 0)) (cyT 60 60 s.1 c.2.2.2.1.2 s.1 0 (0, fun _ => 0))))) := (sp_keep1 (n := c.1) (p := c.2.1) (o := c.2.2.1) (y := c.2.2.2.1) (la := c.2.2.2.2.1) (sc := c.2.2.2.2.2.1) (wy := c.2.2.2.2.2.2.1) (ch := c.2.2.2.2.2.2.2.1) (ko := c.2.2.2.2.2.2.2.2) (rest := MH n p al s r w k a pl fr t ++ rest) I12 h8 (by rw [I10.1, hr]) (by omega) I10.2.2.2.1 (by omega) I8.1 (by omega)).imp (fun q h hq => ⟨hq.1, hq.2.trans (by
      rw [hl2, I10.2.1, I10.2.2.1]
      show CH c.1 c.2.1 ((c.2.2.1.1, c.2.2.1.2.1, nI (k.1 + 1))) c.2.2.2.1 c.2.2.2.2.1 c.2.2.2.2.2.1 c.2.2.2.2.2.2.1 c.2.2.2.2.2.2.2.1 (va_up c.2.2.2.2.2.2.2.2 k.1 (some (49 + 6 * k.1))) ++ ((MH n p al s r w k a pl fr t ++ rest) ++ kpC (49 + 6 * k.1) true (nI r.2.1) (nI r.2.2.1) (cyT 30 30 r.2.2.2.1 c.2.2.2.2.2.2.1.2.2.2.2 r.2.2.2.1 0 (0, fun _ => 0)) (cyT 60 60 s.1 c.2.2.2.1.2 s.1 0 (0, fun _ => 0))) = CH c.1 c.2.1 ((c.2.2.1.1, c.2.2.1.2.1, nI (k.1 + 1))) c.2.2.2.1 c.2.2.2.2.1 c.2.2.2.2.2.1 c.2.2.2.2.2.2.1 c.2.2.2.2.2.2.2.1 (va_up c.2.2.2.2.2.2.2.2 k.1 (some (49 + 6 * k.1))) ++ (MH n p al s r w k a pl fr t ++ (rest ++ kpC (49 + 6 * k.1) true (nI r.2.1) (nI r.2.2.1) (cyT 30 30 r.2.2.2.1 c.2.2.2.2.2.2.1.2.2.2.2 r.2.2.2.1 0 (0, fun _ => 0)) (cyT 60 60 s.1 c.2.2.2.1.2 s.1 0 (0, fun _ => 0))))
      rw [List.append_assoc])⟩)
    have h7 : AS mX7_keep 0 0 0 [.ref 25] (MX (c.1, c.2.1, ((c.2.2.1.1, c.2.2.1.2.1, nI (k.1 + 1)) : OS), c.2.2.2.1, c.2.2.2.2.1, c.2.2.2.2.2.1, c.2.2.2.2.2.2.1, c.2.2.2.2.2.2.2.1, (va_up c.2.2.2.2.2.2.2.2 k.1 (some (49 + 6 * k.1)))) n p al s r w k a pl fr t (rest ++ kpC (49 + 6 * k.1) true (nI r.2.1) (nI r.2.2.1) (cyT 30 30 r.2.2.2.1 c.2.2.2.2.2.2.1.2.2.2.2 r.2.2.2.1 0 (0, fun _ => 0)) (cyT 60 60 s.1 c.2.2.2.1.2 s.1 0 (0, fun _ => 0)))) (P1 (if r.1 = true then (if k.1 = 8 then -1 else nI k.1) else -1) (MX (c.1, c.2.1, ((c.2.2.1.1, c.2.2.1.2.1, nI (k.1 + 1)) : OS), c.2.2.2.1, c.2.2.2.2.1, c.2.2.2.2.2.1, c.2.2.2.2.2.2.1, c.2.2.2.2.2.2.2.1, (va_up c.2.2.2.2.2.2.2.2 k.1 (some (49 + 6 * k.1)))) n p al s r w (if r.1 = true then (if k.1 = 8 then k else keK s r k) else k) a pl fr t (rest ++ kpC (49 + 6 * k.1) true (nI r.2.1) (nI r.2.2.1) (cyT 30 30 r.2.2.2.1 c.2.2.2.2.2.2.1.2.2.2.2 r.2.2.2.1 0 (0, fun _ => 0)) (cyT 60 60 s.1 c.2.2.2.1.2 s.1 0 (0, fun _ => 0))))) := mp_keep I13.1 hs6 r3
    refine ⟨4, 0, 6, 100, nI k.1, (c.1, c.2.1, ((c.2.2.1.1, c.2.2.1.2.1, nI (k.1 + 1)) : OS), c.2.2.2.1, c.2.2.2.2.1, c.2.2.2.2.2.1, c.2.2.2.2.2.2.1, c.2.2.2.2.2.2.2.1, (va_up c.2.2.2.2.2.2.2.2 k.1 (some (49 + 6 * k.1)))), (rest ++ kpC (49 + 6 * k.1) true (nI r.2.1) (nI r.2.2.1) (cyT 30 30 r.2.2.2.1 c.2.2.2.2.2.2.1.2.2.2.2 r.2.2.2.1 0 (0, fun _ => 0)) (cyT 60 60 s.1 c.2.2.2.1.2 s.1 0 (0, fun _ => 0))), by decide, by decide, by decide, by decide, h6, h7.imp (fun q h hq => ⟨?_, n, p, al, s, r, w, _, a, pl, fr, t, ?_, hq.2⟩)⟩
    · rw [hq.1, if_pos hr, if_neg (by omega)]
    · rw [if_pos hr, if_neg (by omega)]
      refine INV.mono (B := Bd) ⟨⟨I1, I2, I3⟩, ⟨I4, I5⟩, I6, I7, ⟨I8, I9⟩, ⟨I10, I11⟩, ⟨rfl, I13.add h8 I9 I11, fun j hj => ?_, I15.add I13 h8 I9 I11 I10 I8⟩, I16, I17⟩ (Nat.le_add_right _ _)
      have hj : j < k.1 + 1 := hj
      show updN k.2.1 k.1 r.2.1 j < n.1
      by_cases q : j = k.1
      · rw [q, updN_s]
        exact (I11.2 hr).1
      · rw [updN_n q]
        exact I14 j (by omega)
  · have hno : r.1 = false ∨ k.1 = 8 := by
      cases hr : r.1 with
      | false => exact Or.inl rfl
      | true => exact Or.inr (by have := I13.1; have : ¬ k.1 < 8 := fun q => hh ⟨hr, q⟩; omega)
    have h6 : AS mX6_keep 0 0 0 [.ref 0] (MX c n p al s r w k a pl fr t rest) (P1 (-1) (MX c n p al s r w k a pl fr t rest)) := sp_keep0 I12 I13.1 I10.1 hno
    have h7 : AS mX7_keep 0 0 0 [.ref 25] (MX c n p al s r w k a pl fr t rest) (P1 (if r.1 = true then (if k.1 = 8 then -1 else nI k.1) else -1) (MX c n p al s r w (if r.1 = true then (if k.1 = 8 then k else keK s r k) else k) a pl fr t rest)) := mp_keep I13.1 I9.1 I11.1.2.2.1
    refine STEP.of h6 h7 (by decide) (by decide) ?_ ?_
    · by_cases q : r.1 = true
      · rw [if_pos q, if_pos (by rcases hno with w | w; (· rw [q] at w; cases w); (· exact w))]
      · rw [if_neg q]
    · by_cases q : r.1 = true
      · rw [if_pos q, if_pos (by rcases hno with w | w; (· rw [q] at w; cases w); (· exact w))]
        exact I
      · rw [if_neg q]
        exact I

set_option maxHeartbeats 4000000 in
set_option maxRecDepth 100000 in
theorem st_still {c : XV} {n : MN} {p : Nat → Nat} {al : Int32} {s : MS} {r : MR} {w : MW} {k : MK} {a : MA} {pl : MP} {fr : Nat → Nat} {t : MT} {rest : AH} {Bd : Nat} (I : INV Bd c n p al s r w k fr t rest) (x : Int32) : STEP mX6_still mX7_still [.int x] Bd c n p al s r w k a pl fr t rest := by
  obtain ⟨⟨I1, I2, I3⟩, ⟨I4, I5⟩, I6, I7, ⟨I8, I9⟩, ⟨I10, I11⟩, ⟨I12, I13, I14, I15⟩, I16, I17⟩ := id I
  have hk8 := I13.1
  by_cases hh : inI x 0 (nI k.1 - 1) = true
  · obtain ⟨e1, e2⟩ := inI_pred (by omega) hh
    generalize hj : tN x = j at e1 e2
    subst e1
    obtain ⟨g1, e, s2, g2, g3, g4, g5, g6⟩ := I15.2.2 j e2
    obtain ⟨v1, v2, v3, v4, v5, v6⟩ := I13.2 j e2
    have hat : ∀ i, i < 6 → ∀ sc : WS, (CH c.1 c.2.1 c.2.2.1 c.2.2.2.1 c.2.2.2.2.1 sc c.2.2.2.2.2.2.1 c.2.2.2.2.2.2.2.1 c.2.2.2.2.2.2.2.2 ++ (MH n p al s r w k a pl fr t ++ rest))[49 + 6 * j + i]? = (kpC (49 + 6 * j) true (nI (k.2.1 j)) (nI (k.2.2.1 j)) e s2)[i]? := fun i hi sc => by
      rw [Nat.add_assoc, kept_at]
      exact g2 i hi
    have h6 : AS mX6_still 7 0 0 [.ref 0, .int (nI j)] (MX c n p al s r w k a pl fr t rest) (P1 (bI (iwI (iwQ c.1 c.2.2.2.2.2.1 (nI (k.2.1 j)) (nI (k.2.2.1 j)) 60 s2.1 s2.2 (k.2.2.2.2.2.2.2 j)) 30 e.1 e.2 (k.2.2.2.2.1 j))) (MX (c.1, c.2.1, c.2.2.1, c.2.2.2.1, c.2.2.2.2.1, ((iwQ c.1 c.2.2.2.2.2.1 (nI (k.2.1 j)) (nI (k.2.2.1 j)) 60 s2.1 s2.2 (k.2.2.2.2.2.2.2 j))).2, c.2.2.2.2.2.2.1, c.2.2.2.2.2.2.2.1, c.2.2.2.2.2.2.2.2) n p al s r w k a pl fr t rest)) := sp_still1 (n := c.1) (p := c.2.1) (o := c.2.2.1) (y := c.2.2.2.1) (la := c.2.2.2.2.1) (wy := c.2.2.2.2.2.2.1) (ch := c.2.2.2.2.2.2.2.1) (ko := c.2.2.2.2.2.2.2.2) (rest := MH n p al s r w k a pl fr t ++ rest) c.2.2.2.2.2.1 (q := 49 + 6 * j + 1) (er := 49 + 6 * j + 2) (ea := 49 + 6 * j + 3) (r := 49 + 6 * j + 4) (a := 49 + 6 * j + 5) (hat 1 (by decide)) (hat 2 (by decide)) (hat 3 (by decide)) (by decide) g3 (by omega) (hat 4 (by decide)) (hat 5 (by decide)) (by decide) g5 (by omega) (by omega) g1 (hat 0 (by decide) _)
    have h7 : AS mX7_still 4 0 0 [.ref 25, .int (nI j)] (MX (c.1, c.2.1, c.2.2.1, c.2.2.2.1, c.2.2.2.2.1, ((iwQ c.1 c.2.2.2.2.2.1 (nI (k.2.1 j)) (nI (k.2.2.1 j)) 60 s2.1 s2.2 (k.2.2.2.2.2.2.2 j))).2, c.2.2.2.2.2.2.1, c.2.2.2.2.2.2.2.1, c.2.2.2.2.2.2.2.2) n p al s r w k a pl fr t rest) (P1 (if inI (nI j) 0 (nI k.1 - 1) = true then bI (slR n k (tN (nI j)) a pl).1 else -1) (MX (c.1, c.2.1, c.2.2.1, c.2.2.2.1, c.2.2.2.2.1, ((iwQ c.1 c.2.2.2.2.2.1 (nI (k.2.1 j)) (nI (k.2.2.1 j)) 60 s2.1 s2.2 (k.2.2.2.2.2.2.2 j))).2, c.2.2.2.2.2.2.1, c.2.2.2.2.2.2.2.1, c.2.2.2.2.2.2.2.2) n p al s r w k (if inI (nI j) 0 (nI k.1 - 1) = true then (slR n k (tN (nI j)) a pl).2.1 else a) (if inI (nI j) 0 (nI k.1 - 1) = true then (slR n k (tN (nI j)) a pl).2.2 else pl) fr t rest)) := mp_still I2.vl I2.nm I2.sg I13 (nI j)
    refine STEP.of h6 h7 (by decide) (by decide) ?_ ?_
    · rw [if_pos hh, show tN (nI j) = j from nI_clamp (by omega)]
      congr 1
      rw [g3, g5]
      exact iw_te I1 I2 (by decide) v5 v5 g6 v6 v3 g4 v4 (I14 j e2) v2
    · exact ⟨⟨I1, I2, I3⟩, ⟨I4, I5⟩, I6, I7, ⟨I8, I9⟩, ⟨I10, I11⟩, ⟨I12, I13, I14, I15⟩, I16, I17⟩
  · have h6 : AS mX6_still 0 0 0 [.ref 0, .int x] (MX c n p al s r w k a pl fr t rest) (P1 (-1) (MX c n p al s r w k a pl fr t rest)) := sp_still0 x (fun h0 h8 => by
      obtain ⟨j, hj, rfl⟩ := nI_get (N := 8) (by decide) h0 h8
      rw [show tN (nI j) = j from nI_clamp (by omega)]
      refine I15.2.1 j ?_ hj
      exact Nat.le_of_not_lt (fun q => hh (in_pred (by omega) q)))
    have h7 : AS mX7_still 4 0 0 [.ref 25, .int x] (MX c n p al s r w k a pl fr t rest) (P1 (if inI x 0 (nI k.1 - 1) = true then bI (slR n k (tN x) a pl).1 else -1) (MX c n p al s r w k (if inI x 0 (nI k.1 - 1) = true then (slR n k (tN x) a pl).2.1 else a) (if inI x 0 (nI k.1 - 1) = true then (slR n k (tN x) a pl).2.2 else pl) fr t rest)) := mp_still I2.vl I2.nm I2.sg I13 x
    refine STEP.of h6 h7 (by decide) (by decide) ?_ I
    rw [if_neg hh]
