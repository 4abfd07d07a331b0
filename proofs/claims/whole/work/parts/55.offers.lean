/-! the offers of the reference: tell -/
def stS (nx : Nat → Nat → Nat → Option Nat) (p : Nat → Nat) (al : Int32) (i s : Nat) (t : MT) : MT := if alI al (nI (ky s)) = true then oaS nx p i (ky s) (ny s) t else t
theorem itT_add {σ : Type} (f : Nat → σ → σ) (a : Nat) : ∀ (b i : Nat) (x : σ), itT f (a + b) i x = itT f b (i + a) (itT f a i x) := by
  induction a with
  | zero => intro b i x; rw [Nat.zero_add]; rfl
  | succ a ih =>
    intro b i x
    rw [show a + 1 + b = a + b + 1 by omega]
    show itT f (a + b) (i + 1) (f i x) = itT f b (i + (a + 1)) (itT f a (i + 1) (f i x))
    rw [ih, show i + 1 + a = i + (a + 1) by omega]
theorem fl_it {nx : Nat → Nat → Nat → Option Nat} {p : Nat → Nat} {al : Int32} {i kd : Nat} (len : Nat) : ∀ (st n0 : Nat), (∀ j, j < len → ky (st + j) = kd ∧ ny (st + j) = n0 + j) → ∀ t, itT (stS nx p al i) len st t = if alI al (nI kd) = true then itT (oaS nx p i kd) len n0 t else t := by
  induction len with
  | zero =>
    intro st n0 _ t
    split <;> rfl
  | succ len ih =>
    intro st n0 h t
    have h0 := h 0 (by omega)
    have h1 : ky st = kd := h0.1
    have h2 : ny st = n0 := h0.2
    show itT (stS nx p al i) len (st + 1) (stS nx p al i st t) = _
    rw [ih (st + 1) (n0 + 1) (fun j hj => by
      have := h (j + 1) (by omega)
      rw [show st + 1 + j = st + (j + 1) by omega, show n0 + 1 + j = n0 + (j + 1) by omega]
      exact this)]
    unfold stS
    rw [h1, h2]
    by_cases c : alI al (nI kd) = true
    · rw [if_pos c, if_pos c, if_pos c]
      rfl
    · rw [if_neg c, if_neg c, if_neg c]
theorem oaK_f {nx : Nat → Nat → Nat → Option Nat} {p : Nat → Nat} {al : Int32} {i : Nat} (kd st n0 len : Nat) (h1 : moN kd + 1 - loN kd = len) (h2 : loN kd = n0) (h : ∀ j, j < len → ky (st + j) = kd ∧ ny (st + j) = n0 + j) (t : MT) : oaK nx p al i kd t = itT (stS nx p al i) len st t := by
  unfold oaK
  rw [h1, h2]
  exact (fl_it len st n0 h t).symm
theorem oa_flat {nx : Nat → Nat → Nat → Option Nat} {p : Nat → Nat} {al : Int32} {i : Nat} (t : MT) : oaA nx p al i t = itT (stS nx p al i) 29 0 t := by
  show oaK nx p al i 8 (oaK nx p al i 7 (oaK nx p al i 6 (oaK nx p al i 5 (oaK nx p al i 4 (oaK nx p al i 3 (oaK nx p al i 2 (oaK nx p al i 1 (oaK nx p al i 0 t)))))))) = _
  rw [oaK_f 0 0 0 1 (by decide) (by decide) (by decide), oaK_f 1 1 0 1 (by decide) (by decide) (by decide), oaK_f 2 2 0 1 (by decide) (by decide) (by decide), oaK_f 3 3 0 1 (by decide) (by decide) (by decide), oaK_f 4 4 1 4 (by decide) (by decide) (by decide), oaK_f 5 8 1 4 (by decide) (by decide) (by decide), oaK_f 6 12 1 7 (by decide) (by decide) (by decide), oaK_f 7 19 1 9 (by decide) (by decide) (by decide), oaK_f 8 28 0 1 (by decide) (by decide) (by decide)]
  rfl
/-- the leads by the number of the saying -/
def fS (nx : Nat → Nat → Nat → Option Nat) (al : Int32) : NX := fun x s => if alI al (nI (ky s)) = true then nx x (ky s) (ny s) else none
theorem st_F {nx : Nat → Nat → Nat → Option Nat} {p : Nat → Nat} {al : Int32} {i s : Nat} (t : MT) : stS nx p al i s t = match fS nx al i s with
    | none => t
    | some y => if t.1 y < BIG then ofT t i (p (ky s) + t.1 y) (1 + t.2.1 y) (ky s) (ny s) else t := by
  unfold stS fS oaS
  by_cases c : alI al (nI (ky s)) = true
  · rw [if_pos c, if_pos c]
    cases nx i (ky s) (ny s) <;> rfl
  · rw [if_neg c, if_neg c]
theorem st_none {nx : Nat → Nat → Nat → Option Nat} {p : Nat → Nat} {al : Int32} {i s : Nat} {t : MT} (h : fS nx al i s = none) : stS nx p al i s t = t := by rw [st_F, h]
theorem st_some {nx : Nat → Nat → Nat → Option Nat} {p : Nat → Nat} {al : Int32} {i s y : Nat} {t : MT} (h : fS nx al i s = some y) : stS nx p al i s t = if t.1 y < BIG then ofT t i (p (ky s) + t.1 y) (1 + t.2.1 y) (ky s) (ny s) else t := by rw [st_F, h]
def sameAt (t u : MT) (y : Nat) : Prop := u.1 y = t.1 y ∧ u.2.1 y = t.2.1 y ∧ u.2.2.1 y = t.2.2.1 y ∧ u.2.2.2 y = t.2.2.2 y
theorem of_ne {t : MT} {i pr mn kd nb y : Nat} (h : ¬ y = i) : sameAt t (ofT t i pr mn kd nb) y := by
  have e : sameAt t (updN t.1 i pr, updN t.2.1 i mn, updN t.2.2.1 i kd, updN t.2.2.2 i nb) y := ⟨updN_n h, updN_n h, updN_n h, updN_n h⟩
  have r : sameAt t t y := ⟨rfl, rfl, rfl, rfl⟩
  unfold ofT
  split
  · exact r
  · split
    · split
      · exact e
      · exact r
    · exact e
theorem st_ne {nx : Nat → Nat → Nat → Option Nat} {p : Nat → Nat} {al : Int32} {i s y : Nat} {t : MT} (h : ¬ y = i) : sameAt t (stS nx p al i s t) y := by
  cases e : fS nx al i s with
  | none => rw [st_none e]; exact ⟨rfl, rfl, rfl, rfl⟩
  | some z =>
    rw [st_some e]
    split
    · exact of_ne h
    · exact ⟨rfl, rfl, rfl, rfl⟩
theorem sameAt.trans {t u v : MT} {y : Nat} (h : sameAt t u y) (k : sameAt u v y) : sameAt t v y := ⟨k.1.trans h.1, k.2.1.trans h.2.1, k.2.2.1.trans h.2.2.1, k.2.2.2.trans h.2.2.2⟩
theorem it_ne {nx : Nat → Nat → Nat → Option Nat} {p : Nat → Nat} {al : Int32} {i y : Nat} (h : ¬ y = i) (m : Nat) : ∀ (s : Nat) (t : MT), sameAt t (itT (stS nx p al i) m s t) y := by
  induction m with
  | zero => intro s t; exact ⟨rfl, rfl, rfl, rfl⟩
  | succ m ih => intro s t; exact (st_ne (s := s) h).trans (ih (s + 1) _)
/-! ### a saying goes at least one street -/
theorem tn_ge {ld : Nat → Option Nat} {sd : Nat} (m : Nat) : ∀ (left : Nat) (a : MA), (tnT ld sd m left a).1 = true → 1 ≤ (tnT ld sd m left a).2.2.2.1 := by
  have g : ∀ (a : MA) (e : Nat), (gbT ld a e).1 = true → 1 ≤ (gbT ld a e).2.2.2.1 := fun a e h => by
    unfold gbT at h ⊢
    cases hy : ld (4 * a.1 + e) with
    | none => rw [hy] at h; cases h
    | some y =>
      rw [hy] at h
      simp only at h ⊢
      split at h
      · cases h
      · rename_i hm
        rw [if_neg hm]
        show 1 ≤ a.2.2.1 + 1
        omega
  induction m with
  | zero => intro left a h; cases h
  | succ m ih =>
    intro left a h
    unfold tnT at h ⊢
    by_cases c : (if hsT ld a sd = true then left - 1 else left) = 0
    · rw [if_pos c] at h ⊢
      exact g _ _ h
    · rw [if_neg c] at h ⊢
      by_cases c3 : (gbT ld a a.2.1).1 = true
      · rw [if_pos c3] at h ⊢
        exact ih _ _ h
      · rw [if_neg c3] at h
        cases h
theorem gb_ge {ld : Nat → Option Nat} {a : MA} {e : Nat} (h : (gbT ld a e).1 = true) : 1 ≤ (gbT ld a e).2.2.2.1 := by
  unfold gbT at h ⊢
  cases hy : ld (4 * a.1 + e) with
  | none => rw [hy] at h; cases h
  | some y =>
    rw [hy] at h
    simp only at h ⊢
    split at h
    · cases h
    · rename_i hm
      rw [if_neg hm]
      show 1 ≤ a.2.2.1 + 1
      omega
theorem un_ge {N : MN} {nb : Nat} (m : Nat) : ∀ (left : Nat) (a : MA), (unT N nb m left a).1 = true → 1 ≤ (unT N nb m left a).2.2.2.1 := by
  induction m with
  | zero => intro left a h; cases h
  | succ m ih =>
    intro left a h
    unfold unT at h ⊢
    by_cases c3 : (gbT N.2.2.1 a a.2.1).1 = true
    · rw [if_pos c3] at h ⊢
      by_cases c : N.2.1 (gbT N.2.2.1 a a.2.1).2.1 = nb
      · rw [if_pos c] at h ⊢
        by_cases z : left = 0
        · rw [if_pos z]
          exact gb_ge c3
        · rw [if_neg z] at h ⊢
          exact ih _ _ h
      · rw [if_neg c] at h ⊢
        exact ih _ _ h
    · rw [if_neg c3] at h
      cases h
theorem ed_ge {ld : Nat → Option Nat} (m : Nat) : ∀ (a : MA), (edT ld m a).1 = true → 1 ≤ (edT ld m a).2.2.2.1 := by
  induction m with
  | zero => intro a h; cases h
  | succ m ih =>
    intro a h
    unfold edT at h ⊢
    by_cases c3 : (gbT ld a a.2.1).1 = true
    · rw [if_pos c3] at h ⊢
      by_cases c : hsT ld (gbT ld a a.2.1).2 0 = true
      · rw [if_pos c] at h ⊢
        exact ih _ h
      · rw [if_neg c]
        exact gb_ge c3
    · rw [if_neg c3] at h
      cases h
theorem gn_ge {N : MN} {a : MA} {nb : Nat} (m : Nat) : ∀ (i : Nat) (fo : Option Nat), (gnT N a nb m i fo).1 = true → 1 ≤ (gnT N a nb m i fo).2.2.2.1 := by
  induction m with
  | zero =>
    intro i fo h
    cases fo with
    | none => cases h
    | some e => exact gb_ge h
  | succ m ih =>
    intro i fo h
    unfold gnT at h ⊢
    by_cases c : i = 2
    · rw [if_pos c] at h ⊢
      exact ih _ _ h
    · rw [if_neg c] at h ⊢
      by_cases c2 : hsT N.2.2.1 a i = true
      · rw [if_pos c2] at h ⊢
        by_cases c3 : N.2.2.2 (4 * a.1 + (a.2.1 + i) % 4) = nb
        · rw [if_pos c3] at h ⊢
          cases fo with
          | none => exact ih _ _ h
          | some e => cases h
        · rw [if_neg c3] at h ⊢
          exact ih _ _ h
      · rw [if_neg c2] at h ⊢
        exact ih _ _ h
theorem ds_ge {N : MN} {a : MA} {kd nb ps : Nat} (h : (dsT N a kd nb ps).1 = true) : 1 ≤ (dsT N a kd nb ps).2.2.2.1 := by
  unfold dsT at h ⊢
  by_cases c1 : kd < 4
  · rw [if_pos c1] at h ⊢
    exact gb_ge h
  rw [if_neg c1] at h ⊢
  by_cases c2 : kd = 7
  · rw [if_pos c2] at h ⊢
    exact gn_ge _ _ _ h
  rw [if_neg c2] at h ⊢
  by_cases c3 : kd < 6
  · rw [if_pos c3] at h ⊢
    exact tn_ge _ _ _ h
  rw [if_neg c3] at h ⊢
  by_cases c4 : kd = 8
  · rw [if_pos c4] at h ⊢
    exact ed_ge _ _ h
  rw [if_neg c4] at h ⊢
  exact un_ge _ _ _ h
theorem axT_gt {n : MN} {r : MR} {pl : MP} {i kd nb y : Nat} (h : axT n r pl i kd nb = some y) : i < y := by
  unfold axT alT at h
  simp only at h
  split at h
  · rename_i h1
    have := ds_ge h1
    split at h
    · split at h
      · cases h
        show i < i + (alD n pl zzA i kd nb).2.2.2.1
        have h2 : 1 ≤ (alD n pl zzA i kd nb).2.2.2.1 := this
        omega
      · cases h
    · cases h
  · cases h
/-! ### tell: the table of the reference is the fixed point -/
theorem cP_e {P : Nat → Nat} : ∀ s, s < 29 → cP P s = 1000 * (fun s => P (ky s)) s + 1 := fun _ _ => rfl
section TELL
variable {N : MN} {r : MR} {pl : MP} {al : Int32} {P D : Nat → Nat}
def gdT (E : Nat) (nx : NX) (c D : Nat → Nat) (t : MT) (y : Nat) : Prop := (D y < UNR → t.1 y = D y / 1000 ∧ t.2.1 y = D y % 1000 ∧ (y < E → t.2.2.1 y = ky (pkF 29 nx c D y) ∧ t.2.2.2 y = ny (pkF 29 nx c D y))) ∧ (¬ D y < UNR → t.1 y = BIG)
theorem gdT.same {E : Nat} {nx : NX} {c : Nat → Nat} {t u : MT} {y : Nat} (h : gdT E nx c D t y) (k : sameAt t u y) : gdT E nx c D u y := by
  obtain ⟨k1, k2, k3, k4⟩ := k
  unfold gdT
  rw [k1, k2, k3, k4]
  exact h
def roI (P D : Nat → Nat) (F : NX) (i s : Nat) (t : MT) : Prop := (t.1 i = BIG ∧ ∀ s' y, s' < s → F i s' = some y → ¬ D y < UNR) ∨ ∃ s0 y0, s0 < s ∧ F i s0 = some y0 ∧ D y0 < UNR ∧ t.1 i = P (ky s0) + D y0 / 1000 ∧ t.2.1 i = 1 + D y0 % 1000 ∧ t.2.2.1 i = ky s0 ∧ t.2.2.2 i = ny s0 ∧ (∀ s' y, s' < s0 → F i s' = some y → D y < UNR → cP P s0 + D y0 < cP P s' + D y) ∧ ∀ s' y, s' < s → F i s' = some y → D y < UNR → cP P s0 + D y0 ≤ cP P s' + D y
theorem of_lt {t : MT} {i pr mn kd nb : Nat} (h : pr < t.1 i ∨ (pr = t.1 i ∧ mn < t.2.1 i)) : ofT t i pr mn kd nb = (updN t.1 i pr, updN t.2.1 i mn, updN t.2.2.1 i kd, updN t.2.2.2 i nb) := by
  unfold ofT
  rw [if_neg (by omega)]
  by_cases c : pr = t.1 i
  · rw [if_pos c, if_pos (by omega)]
  · rw [if_neg c]
theorem of_ge {t : MT} {i pr mn kd nb : Nat} (h : ¬ (pr < t.1 i ∨ (pr = t.1 i ∧ mn < t.2.1 i))) : ofT t i pr mn kd nb = t := by
  unfold ofT
  by_cases c0 : t.1 i < pr
  · rw [if_pos c0]
  · rw [if_neg c0]
    by_cases c : pr = t.1 i
    · rw [if_pos c, if_neg (by omega)]
    · exact absurd (Or.inl (by omega)) h
theorem ro_step {nx : Nat → Nat → Nat → Option Nat} {i s : Nat} {t : MT} (hgt : ∀ y, fS nx al i s = some y → ¬ y = i ∧ (D y < UNR → t.1 y = D y / 1000 ∧ t.2.1 y = D y % 1000 ∧ D y % 1000 + 1 < 1000 ∧ P (ky s) + D y / 1000 < BIG) ∧ (¬ D y < UNR → t.1 y = BIG)) (h : roI P D (fS nx al) i s t) (h9 : ∀ s0 y0, fS nx al i s0 = some y0 → D y0 < UNR → D y0 % 1000 + 1 < 1000) : roI P D (fS nx al) i (s + 1) (stS nx P al i s t) := by
  cases e : fS nx al i s with
  | none =>
    rw [st_none e]
    rcases h with ⟨h1, h2⟩ | ⟨s0, y0, h1, h2, h3, h4, h5, h6, h7, h8, h10⟩
    · refine Or.inl ⟨h1, fun s' y hs hy => ?_⟩
      by_cases q : s' = s
      · rw [q, e] at hy
        cases hy
      · exact h2 s' y (by omega) hy
    · refine Or.inr ⟨s0, y0, by omega, h2, h3, h4, h5, h6, h7, h8, fun s' y hs hy hD => ?_⟩
      by_cases q : s' = s
      · rw [q, e] at hy
        cases hy
      · exact h10 s' y (by omega) hy hD
  | some y =>
    obtain ⟨g1, g2, g3⟩ := hgt y e
    rw [st_some e]
    by_cases hD : D y < UNR
    · obtain ⟨g4, g5, g6, g7⟩ := g2 hD
      rw [g4, g5, if_pos (by omega)]
      rcases h with ⟨h1, h2⟩ | ⟨s0, y0, h1, h2, h3, h4, h5, h6, h7, h8, h10⟩
      · rw [of_lt (Or.inl (by omega))]
        refine Or.inr ⟨s, y, by omega, e, hD, updN_s, updN_s, updN_s, updN_s, fun s' z hs hz hz2 => absurd hz2 (h2 s' z hs hz), fun s' z hs hz hz2 => ?_⟩
        by_cases q : s' = s
        · rw [q, e] at hz
          cases hz
          rw [q]
          exact Nat.le_refl _
        · exact absurd hz2 (h2 s' z (by omega) hz)
      · have b0 := h9 s0 y0 h2 h3
        by_cases q : cP P s + D y < cP P s0 + D y0
        · rw [of_lt (by rw [h4, h5]; unfold cP at q; omega)]
          refine Or.inr ⟨s, y, by omega, e, hD, updN_s, updN_s, updN_s, updN_s, fun s' z hs hz hz2 => ?_, fun s' z hs hz hz2 => ?_⟩
          · have := h10 s' z hs hz hz2
            omega
          · by_cases q2 : s' = s
            · rw [q2, e] at hz
              cases hz
              rw [q2]
              exact Nat.le_refl _
            · have := h10 s' z (by omega) hz hz2
              omega
        · rw [of_ge (by rw [h4, h5]; unfold cP at q; omega)]
          refine Or.inr ⟨s0, y0, by omega, h2, h3, h4, h5, h6, h7, h8, fun s' z hs hz hz2 => ?_⟩
          by_cases q2 : s' = s
          · rw [q2, e] at hz
            cases hz
            rw [q2]
            omega
          · exact h10 s' z (by omega) hz hz2
    · rw [g3 hD, if_neg (Nat.lt_irrefl _)]
      rcases h with ⟨h1, h2⟩ | ⟨s0, y0, h1, h2, h3, h4, h5, h6, h7, h8, h10⟩
      · refine Or.inl ⟨h1, fun s' z hs hz => ?_⟩
        by_cases q : s' = s
        · rw [q, e] at hz
          cases hz
          exact hD
        · exact h2 s' z (by omega) hz
      · refine Or.inr ⟨s0, y0, by omega, h2, h3, h4, h5, h6, h7, h8, fun s' z hs hz hz2 => ?_⟩
        by_cases q : s' = s
        · rw [q, e] at hz
          cases hz
          exact absurd hz2 hD
        · exact h10 s' z (by omega) hz hz2
theorem ro_all {nx : Nat → Nat → Nat → Option Nat} {i E : Nat} {nx2 : NX} {c : Nat → Nat} (hgt : ∀ s y, fS nx al i s = some y → i < y ∧ y ≤ E) (hb : ∀ y, y ≤ E → D y < UNR → D y % 1000 + 1 < 1000 ∧ 50 + D y / 1000 < BIG) (hp : ∀ q, q < 9 → P q ≤ 50) (m : Nat) : ∀ (s : Nat) (t : MT), s + m = 29 → (∀ y, i < y → y ≤ E → gdT E nx2 c D t y) → roI P D (fS nx al) i s t → roI P D (fS nx al) i 29 (itT (stS nx P al i) m s t) := by
  induction m with
  | zero =>
    intro s t hs _ h
    rw [show s = 29 by omega] at h
    exact h
  | succ m ih =>
    intro s t hs hg h
    have hky := (say_ok s (by omega)).1
    refine ih (s + 1) (stS nx P al i s t) (by omega) (fun y h1 h2 => (hg y h1 h2).same (st_ne (by omega))) (ro_step (fun y hy => ?_) h (fun s0 y0 h0 hD0 => ?_))
    · obtain ⟨k1, k2⟩ := hgt s y hy
      have k3 := hg y k1 k2
      refine ⟨by omega, fun hD => ?_, fun hD => k3.2 hD⟩
      obtain ⟨k4, k5, _⟩ := k3.1 hD
      have k6 := hb y k2 hD
      have k7 := hp _ hky
      exact ⟨k4, k5, k6.1, by omega⟩
    · exact (hb y0 (hgt s0 y0 h0).2 hD0).1
theorem tNX_F {x s : Nat} (hx : x < r.2.2.2.1) : tNX N r pl al x s = fS (axT N r pl) al x s := if_pos hx
theorem tl_bd (hr3 : r.2.2.2.1 ≤ 30) (hp : ∀ q, q < 9 → P q ≤ 50) (hF : FX (r.2.2.2.1 + 1) 29 (tNX N r pl al) (cP P) (tG r.2.2.2.1) UNR D) : ∀ y, y ≤ r.2.2.2.1 → D y < UNR → D y % 1000 + 1 < 1000 ∧ 50 + D y / 1000 < BIG ∧ D y % 1000 ≤ 30 ∧ D y ≤ 50001 * 30 := fun y hy hD => by
  have h1 := hF.bound tNX_ok cP_1 (cP_5 hp) _ y (by omega) (Nat.le_refl _) hD
  have h2 := hF.mod tNX_ok (p := fun s => P (ky s)) (cP_e (P := P)) (by omega) _ y (by omega) (Nat.le_refl _) hD
  have h3 := below_lt (D := D) (show y < r.2.2.2.1 + 1 by omega)
  have h4 : 50001 * belowN D (r.2.2.2.1 + 1) y ≤ 50001 * 30 := Nat.mul_le_mul_left _ (by omega)
  have hB : BIG = 268435456 := rfl
  omega
theorem row_R {i : Nat} {t : MT} (hr3 : r.2.2.2.1 ≤ 30) (hp : ∀ q, q < 9 → P q ≤ 50) (hF : FX (r.2.2.2.1 + 1) 29 (tNX N r pl al) (cP P) (tG r.2.2.2.1) UNR D) (hi : i < r.2.2.2.1) (hg : ∀ y, i < y → y ≤ r.2.2.2.1 → gdT r.2.2.2.1 (tNX N r pl al) (cP P) D t y) : ∀ y, i ≤ y → y ≤ r.2.2.2.1 → gdT r.2.2.2.1 (tNX N r pl al) (cP P) D (oaA (axT N r pl) P al i (updN t.1 i BIG, t.2)) y := by
  have hbd := tl_bd hr3 hp hF
  have hgt : ∀ s y, fS (axT N r pl) al i s = some y → i < y ∧ y ≤ r.2.2.2.1 := fun s y h => by
    unfold fS at h
    split at h
    · exact ⟨axT_gt h, axT_le h⟩
    · cases h
  have hg2 : ∀ y, i < y → y ≤ r.2.2.2.1 → gdT r.2.2.2.1 (tNX N r pl al) (cP P) D (updN t.1 i BIG, t.2) y := fun y h1 h2 => (hg y h1 h2).same ⟨updN_n (by omega), rfl, rfl, rfl⟩
  have hro := ro_all (nx := axT N r pl) (al := al) (nx2 := tNX N r pl al) (c := cP P) hgt (fun y h1 h2 => ⟨(hbd y h1 h2).1, (hbd y h1 h2).2.1⟩) hp 29 0 (updN t.1 i BIG, t.2) rfl hg2 (Or.inl ⟨updN_s, fun s' y h _ => absurd h (Nat.not_lt_zero _)⟩)
  have hne := fun y (h : ¬ y = i) => it_ne (nx := axT N r pl) (p := P) (al := al) h 29 0 (updN t.1 i BIG, t.2)
  rw [oa_flat]
  generalize itT (stS (axT N r pl) P al i) 29 0 (updN t.1 i BIG, t.2) = u at hro hne
  intro y h1 h2
  by_cases e : y = i
  · subst e
    have hGy : tG r.2.2.2.1 y = false := decide_eq_false (by omega)
    obtain ⟨f1, f2, f3, f4⟩ := hF y (by omega)
    refine ⟨fun hD => ?_, fun hD => ?_⟩
    · obtain ⟨s, z, hs, hz, hd⟩ := f4 hGy hD
      have hz2 := hz
      rw [tNX_F hi] at hz2
      have hDz : D z < UNR := by omega
      rcases hro with ⟨q1, q2⟩ | ⟨s0, y0, q1, q2, q3, q4, q5, q6, q7, q8, q9⟩
      · exact absurd hDz (q2 s z hs hz2)
      · have k1 := q9 s z hs hz2 hDz
        have k2 := f3 s0 y0 q1 (by rw [tNX_F hi]; exact q2)
        have k3 : D y = cP P s0 + D y0 := by omega
        have k4 := (hbd y0 (hgt s0 y0 q2).2 q3).1
        have k5 : pkF 29 (tNX N r pl al) (cP P) D y = s0 := first_eq q1 (by rw [pkP_some (by rw [tNX_F hi]; exact q2)]; exact decide_eq_true k3) (fun s' hs' => by
          unfold pkP
          rw [tNX_F hi]
          cases hw : fS (axT N r pl) al y s' with
          | none => rfl
          | some w =>
            refine decide_eq_false (fun q => ?_)
            have := q8 s' w hs' hw (by omega)
            omega)
        rw [k5, q4, q5, q6, q7]
        refine ⟨?_, ?_, fun _ => ⟨rfl, rfl⟩⟩
        · unfold cP at k3
          omega
        · unfold cP at k3
          omega
    · rcases hro with ⟨q1, q2⟩ | ⟨s0, y0, q1, q2, q3, q4, q5, q6, q7, q8, q9⟩
      · exact q1
      · have k2 := f3 s0 y0 q1 (by rw [tNX_F hi]; exact q2)
        have k3 := (hbd y0 (hgt s0 y0 q2).2 q3).2.2.2
        have k4 := cP_5 hp s0 q1
        have hU : UNR = 1000000000 := rfl
        omega
  · exact (hg2 y (by omega) h2).same (hne y e)
theorem tl_all (hr3 : r.2.2.2.1 ≤ 30) (hp : ∀ q, q < 9 → P q ≤ 50) (hF : FX (r.2.2.2.1 + 1) 29 (tNX N r pl al) (cP P) (tG r.2.2.2.1) UNR D) (m : Nat) : ∀ (t : MT), m ≤ r.2.2.2.1 → (∀ y, m ≤ y → y ≤ r.2.2.2.1 → gdT r.2.2.2.1 (tNX N r pl al) (cP P) D t y) → ∀ y, y ≤ r.2.2.2.1 → gdT r.2.2.2.1 (tNX N r pl al) (cP P) D (tlT (axT N r pl) P al m t) y := by
  induction m with
  | zero => intro t _ h; exact fun y hy => h y (Nat.zero_le _) hy
  | succ m ih =>
    intro t hm h
    exact ih _ (by omega) (row_R hr3 hp hF (by omega) (fun y h1 h2 => h y (by omega) h2))
theorem tl_chain {t : MT} (hr3 : r.2.2.2.1 ≤ 30) (hF : FX (r.2.2.2.1 + 1) 29 (tNX N r pl al) (cP P) (tG r.2.2.2.1) UNR D) (hg : ∀ y, y ≤ r.2.2.2.1 → gdT r.2.2.2.1 (tNX N r pl al) (cP P) D t y) (m : Nat) : ∀ (x : Nat) (s : MS), x ≤ r.2.2.2.1 → D x < UNR → D x % 1000 = m → tlC (axT N r pl) t.2.2.1 t.2.2.2 r.2.2.2.1 m x ∧ tlS (axT N r pl) t.2.2.1 t.2.2.2 m x s = sqS (tNX N r pl al) (cP P) D m x s := by
  induction m with
  | zero =>
    intro x s hx hD hm
    refine ⟨?_, rfl⟩
    show x = r.2.2.2.1
    cases g : tG r.2.2.2.1 x with
    | true => exact of_decide_eq_true g
    | false =>
      have := hF.next tNX_ok (by omega) (p := fun s => P (ky s)) (cP_e (P := P)) (show x < r.2.2.2.1 + 1 by omega) g hD
      omega
  | succ m ih =>
    intro x s hx hD hm
    have g : tG r.2.2.2.1 x = false := by
      cases g : tG r.2.2.2.1 x with
      | false => rfl
      | true =>
        have := (hF x (by omega)).1 g
        rw [this] at hm
        cases hm
    have hxE : x < r.2.2.2.1 := by
      have : ¬ x = r.2.2.2.1 := of_decide_eq_false g
      omega
    obtain ⟨p1, p2, p3, p4, p5⟩ := hF.pick tNX_ok (show x < r.2.2.2.1 + 1 by omega) g hD
    obtain ⟨n1, n2, n3, n4⟩ := hF.next tNX_ok (by omega) (p := fun s => P (ky s)) (cP_e (P := P)) (show x < r.2.2.2.1 + 1 by omega) g hD
    obtain ⟨-, -, k3⟩ := (hg x hx).1 hD
    obtain ⟨k4, k5⟩ := k3 hxE
    have hax : axT N r pl x (t.2.2.1 x) (t.2.2.2 x) = some (pkN 29 (tNX N r pl al) (cP P) D x) := by
      rw [k4, k5]
      have p2 := p2
      rw [tNX_F hxE] at p2
      unfold fS at p2
      split at p2
      · exact p2
      · cases p2
    obtain ⟨i1, i2⟩ := ih (pkN 29 (tNX N r pl al) (cP P) D x) (s.1 + 1, updN s.2.1 s.1 (t.2.2.1 x), updN s.2.2 s.1 (t.2.2.2 x)) (by omega) n1 (by omega)
    refine ⟨⟨hxE, _, hax, i1⟩, ?_⟩
    show tlS (axT N r pl) t.2.2.1 t.2.2.2 m ((axT N r pl x (t.2.2.1 x) (t.2.2.2 x)).getD 0) _ = _
    rw [hax]
    show tlS (axT N r pl) t.2.2.1 t.2.2.2 m (pkN 29 (tNX N r pl al) (cP P) D x) _ = _
    rw [i2, k4, k5]
    rfl
end TELL
