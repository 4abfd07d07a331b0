/-! the offers of the reference: best -/
def tp (D : Nat → Nat) (x : Nat) : Nat := if D x < UNR then D x / 1000 else BIG
def tm (D : Nat → Nat) (x : Nat) : Nat := if D x < UNR then D x % 1000 else 0
def sB (D : Nat → Nat) (t : MT) (x : Nat) : Prop := t.1 x = tp D x ∧ t.2.1 x = tm D x
def gB (D : Nat → Nat) (t : MT) (x : Nat) : Prop := t.1 x ≤ BIG ∧ (t.1 x = BIG → t.2.1 x = 0) ∧ (t.1 x < BIG → D x < UNR ∧ (D x / 1000 < t.1 x ∨ (D x / 1000 = t.1 x ∧ D x % 1000 ≤ t.2.1 x)))
theorem sB.lt {D : Nat → Nat} {t : MT} {x : Nat} (h : sB D t x) (hD : D x < UNR) : t.1 x = D x / 1000 ∧ t.2.1 x = D x % 1000 := by
  unfold sB tp tm at h
  rw [if_pos hD, if_pos hD] at h
  exact h
theorem sB.ge {D : Nat → Nat} {t : MT} {x : Nat} (h : sB D t x) (hD : ¬ D x < UNR) : t.1 x = BIG ∧ t.2.1 x = 0 := by
  unfold sB tp tm at h
  rw [if_neg hD, if_neg hD] at h
  exact h
theorem sB.of {D : Nat → Nat} {t : MT} {x : Nat} (h1 : D x < UNR → t.1 x = D x / 1000 ∧ t.2.1 x = D x % 1000) (h2 : ¬ D x < UNR → t.1 x = BIG ∧ t.2.1 x = 0) : sB D t x := by
  unfold sB tp tm
  by_cases h : D x < UNR
  · rw [if_pos h, if_pos h]
    exact h1 h
  · rw [if_neg h, if_neg h]
    exact h2 h
theorem sB.same {D : Nat → Nat} {t u : MT} {x : Nat} (h : sB D t x) (k : sameAt t u x) : sB D u x := ⟨k.1.trans h.1, k.2.1.trans h.2⟩
theorem gB.same {D : Nat → Nat} {t u : MT} {x : Nat} (h : gB D t x) (k : sameAt t u x) : gB D u x := by
  unfold gB
  rw [k.1, k.2.1]
  exact h
section BEST
variable {N : MN} {al : Int32} {P D : Nat → Nat} {T : Nat}
theorem bs_bd (hv : VN N) (hp : ∀ q, q < 9 → P q ≤ 50) (hF : FX (4 * N.1) 29 (bsX N al) (cP P) (bG T) UNR D) : ∀ y, y < 4 * N.1 → D y < UNR → D y % 1000 + 1 < 1000 ∧ 50 + D y / 1000 < BIG ∧ D y ≤ 50001 * 95 := fun y hy hD => by
  have hK := hv.1
  have h1 := hF.bound (bsX_ok hv) cP_1 (cP_5 hp) _ y hy (Nat.le_refl _) hD
  have h2 := hF.mod (bsX_ok hv) (p := fun s => P (ky s)) (cP_e (P := P)) (by omega) _ y hy (Nat.le_refl _) hD
  have h3 := below_lt (D := D) hy
  have h4 : 50001 * belowN D (4 * N.1) y ≤ 50001 * 95 := Nat.mul_le_mul_left _ (by omega)
  have hB : BIG = 268435456 := rfl
  omega
theorem stb (hv : VN N) (hp : ∀ q, q < 9 → P q ≤ 50) (hF : FX (4 * N.1) 29 (bsX N al) (cP P) (bG T) UNR D) {t : MT} {x s : Nat} (hx : x < 4 * N.1) (hs : s < 29) (hI : ∀ y, y < 4 * N.1 → gB D t y) : (∀ y, y < 4 * N.1 → gB D (stS (nxT N) P al x s t) y) ∧ (∀ y, y < 4 * N.1 → sB D t y → sB D (stS (nxT N) P al x s t) y) ∧ (∀ y, fS (nxT N) al x s = some y → sB D t y → D y < UNR → D x = cP P s + D y → sB D (stS (nxT N) P al x s t) x) := by
  have hB : BIG = 268435456 := rfl
  have hU : UNR = 1000000000 := rfl
  cases e : fS (nxT N) al x s with
  | none =>
    rw [st_none e]
    exact ⟨hI, fun _ _ h => h, fun y h => by cases h⟩
  | some z =>
    have hz : z < 4 * N.1 := bsX_ok hv x s z hx hs e
    rw [st_some e]
    have hps := hp _ (say_ok s hs).1
    by_cases c : t.1 z < BIG
    · rw [if_pos c]
      obtain ⟨g1, g2⟩ := (hI z hz).2.2 c
      obtain ⟨b1, b2, b3⟩ := bs_bd hv hp hF z hz g1
      have hcl := (hF x hx).2.2.1 s z hs e
      have hcp : cP P s = 1000 * P (ky s) + 1 := rfl
      have hDx : D x < UNR := by omega
      obtain ⟨b4, b5, b6⟩ := bs_bd hv hp hF x hx hDx
      have hlex : D x / 1000 < P (ky s) + t.1 z ∨ (D x / 1000 = P (ky s) + t.1 z ∧ D x % 1000 ≤ 1 + t.2.1 z) := by omega
      obtain ⟨i1, i2, i3⟩ := hI x hx
      by_cases ac : P (ky s) + t.1 z < t.1 x ∨ (P (ky s) + t.1 z = t.1 x ∧ 1 + t.2.1 z < t.2.1 x)
      · rw [of_lt ac]
        have hlt : P (ky s) + t.1 z < BIG := by
          rcases ac with ac | ⟨a1, a2⟩
          · omega
          · by_cases q : t.1 x = BIG
            · have := i2 q
              omega
            · omega
        refine ⟨fun y hy => ?_, fun y hy h => ?_, fun y hy h1 h2 h3 => ?_⟩
        · by_cases q : y = x
          · rw [q]
            unfold gB
            show updN t.1 x _ x ≤ BIG ∧ (updN t.1 x _ x = BIG → updN t.2.1 x _ x = 0) ∧ (updN t.1 x _ x < BIG → D x < UNR ∧ (D x / 1000 < updN t.1 x _ x ∨ (D x / 1000 = updN t.1 x _ x ∧ D x % 1000 ≤ updN t.2.1 x _ x)))
            rw [updN_s, updN_s]
            exact ⟨by omega, fun k => by omega, fun _ => ⟨hDx, hlex⟩⟩
          · exact (hI y hy).same ⟨updN_n q, updN_n q, updN_n q, updN_n q⟩
        · by_cases q : y = x
          · rw [q] at h
            have h9 := h.lt hDx
            omega
          · exact h.same ⟨updN_n q, updN_n q, updN_n q, updN_n q⟩
        · have hyz : y = z := by cases hy; rfl
          subst hyz
          have h9 := h1.lt h2
          refine sB.of (fun _ => ?_) (fun k => absurd hDx k)
          show updN t.1 x _ x = _ ∧ updN t.2.1 x _ x = _
          rw [updN_s, updN_s, h9.1, h9.2]
          omega
      · rw [of_ge ac]
        refine ⟨hI, fun _ _ h => h, fun y hy h1 h2 h3 => ?_⟩
        have hyz : y = z := by cases hy; rfl
        subst hyz
        have h9 := h1.lt h2
        refine sB.of (fun _ => ?_) (fun k => absurd hDx k)
        have hxl : t.1 x < BIG := by omega
        have h10 := (i3 hxl).2
        omega
    · rw [if_neg c]
      refine ⟨hI, fun _ _ h => h, fun y hy h1 h2 _ => ?_⟩
      have hyz : y = z := by cases hy; rfl
      subst hyz
      have h9 := h1.lt h2
      have := bs_bd hv hp hF y hz h2
      omega
theorem itb (hv : VN N) (hp : ∀ q, q < 9 → P q ≤ 50) (hF : FX (4 * N.1) 29 (bsX N al) (cP P) (bG T) UNR D) {x : Nat} (hx : x < 4 * N.1) (m : Nat) : ∀ (s : Nat) (t : MT), s + m = 29 → (∀ y, y < 4 * N.1 → gB D t y) → (∀ y, y < 4 * N.1 → gB D (itT (stS (nxT N) P al x) m s t) y) ∧ (∀ y, y < 4 * N.1 → sB D t y → sB D (itT (stS (nxT N) P al x) m s t) y) ∧ (∀ s' y, s ≤ s' → s' < 29 → fS (nxT N) al x s' = some y → sB D t y → D y < UNR → D x = cP P s' + D y → sB D (itT (stS (nxT N) P al x) m s t) x) := by
  induction m with
  | zero => intro s t hs hI; exact ⟨hI, fun _ _ h => h, fun s' y h1 h2 => absurd h2 (by omega)⟩
  | succ m ih =>
    intro s t hs hI
    obtain ⟨k1, k2, k3⟩ := stb (s := s) hv hp hF hx (by omega) hI
    obtain ⟨j1, j2, j3⟩ := ih (s + 1) (stS (nxT N) P al x s t) (by omega) k1
    refine ⟨j1, fun y hy h => j2 y hy (k2 y hy h), fun s' y h1 h2 h3 h4 h5 h6 => ?_⟩
    by_cases q : s' = s
    · subst q
      exact j2 x hx (k3 y h3 h4 h5 h6)
    · exact j3 s' y (by omega) h2 h3 (k2 y (bsX_ok hv x s' y hx h2 h3) h4) h5 h6
theorem swb (hv : VN N) (hp : ∀ q, q < 9 → P q ≤ 50) (hF : FX (4 * N.1) 29 (bsX N al) (cP P) (bG T) UNR D) (m : Nat) : ∀ (x : Nat) (q : Bool × MT), x + m = 4 * N.1 → (∀ y, y < 4 * N.1 → gB D q.2 y) → (∀ y, y < 4 * N.1 → gB D (itT (bsS (nxT N) P al T) m x q).2 y) ∧ (∀ y, y < 4 * N.1 → sB D q.2 y → sB D (itT (bsS (nxT N) P al T) m x q).2 y) ∧ (∀ z s y, x ≤ z → z < 4 * N.1 → ¬ z / 4 = T → s < 29 → fS (nxT N) al z s = some y → sB D q.2 y → D y < UNR → D z = cP P s + D y → sB D (itT (bsS (nxT N) P al T) m x q).2 z) ∧ ((itT (bsS (nxT N) P al T) m x q).1 = false → q.1 = false ∧ ∀ y, y < 4 * N.1 → (itT (bsS (nxT N) P al T) m x q).2.1 y = q.2.1 y ∧ (itT (bsS (nxT N) P al T) m x q).2.2.1 y = q.2.2.1 y) ∧ (q.1 = false → (∀ y, y < 4 * N.1 → sB D q.2 y) → (itT (bsS (nxT N) P al T) m x q).1 = false) := by
  induction m with
  | zero => intro x q hx hI; exact ⟨hI, fun _ _ h => h, fun z s y h1 h2 => absurd h1 (by omega), fun h => ⟨h, fun _ _ => ⟨rfl, rfl⟩⟩, fun h _ => h⟩
  | succ m ih =>
    intro x q hx hI
    have e : itT (bsS (nxT N) P al T) (m + 1) x q = itT (bsS (nxT N) P al T) m (x + 1) (bsS (nxT N) P al T x q) := rfl
    rw [e]
    by_cases c : x / 4 = T
    · have e2 : bsS (nxT N) P al T x q = q := if_pos c
      rw [e2]
      obtain ⟨j1, j2, j3, j4, j5⟩ := ih (x + 1) q (by omega) hI
      refine ⟨j1, j2, fun z s y h1 h2 h3 => j3 z s y ?_ h2 h3, j4, j5⟩
      by_cases w : z = x
      · rw [w] at h3
        exact absurd c h3
      · omega
    · have e2 : bsS (nxT N) P al T x q = (q.1 || decide (¬ (oaA (nxT N) P al x q.2).1 x = q.2.1 x) || decide (¬ (oaA (nxT N) P al x q.2).2.1 x = q.2.2.1 x), oaA (nxT N) P al x q.2) := if_neg c
      have hxN : x < 4 * N.1 := by omega
      obtain ⟨k1, k2, k3⟩ := itb hv hp hF hxN 29 0 q.2 rfl hI
      have hne := fun y (h : ¬ y = x) => it_ne (nx := nxT N) (p := P) (al := al) h 29 0 q.2
      rw [← oa_flat] at k1 k2 k3 hne
      rw [e2]
      generalize oaA (nxT N) P al x q.2 = u at k1 k2 k3 hne
      obtain ⟨j1, j2, j3, j4, j5⟩ := ih (x + 1) (q.1 || decide (¬ u.1 x = q.2.1 x) || decide (¬ u.2.1 x = q.2.2.1 x), u) (by omega) k1
      refine ⟨j1, fun y hy h => j2 y hy (k2 y hy h), fun z s y h1 h2 h3 h4 h5 h6 h7 h8 => ?_, fun h => ?_, fun h1 h2 => ?_⟩
      · by_cases w : z = x
        · subst w
          exact j2 z h2 (k3 s y (Nat.zero_le _) h4 h5 h6 h7 h8)
        · exact j3 z s y (by omega) h2 h3 h4 h5 (k2 y (bsX_ok hv z s y h2 h4 h5) h6) h7 h8
      · obtain ⟨f1, f2⟩ := j4 h
        have f1 : (q.1 || decide (¬ u.1 x = q.2.1 x) || decide (¬ u.2.1 x = q.2.2.1 x)) = false := f1
        rw [Bool.or_eq_false_iff, Bool.or_eq_false_iff] at f1
        obtain ⟨⟨f3, f4⟩, f5⟩ := f1
        have f6 := Classical.not_not.mp (of_decide_eq_false f4)
        have f7 := Classical.not_not.mp (of_decide_eq_false f5)
        refine ⟨f3, fun y hy => ?_⟩
        obtain ⟨d1, d2⟩ := f2 y hy
        by_cases w : y = x
        · subst w
          exact ⟨d1.trans f6, d2.trans f7⟩
        · have := hne y w
          exact ⟨d1.trans this.1, d2.trans this.2.1⟩
      · refine j5 ?_ (fun y hy => k2 y hy (h2 y hy))
        have a1 := h2 x hxN
        have a2 := k2 x hxN a1
        show (q.1 || decide (¬ u.1 x = q.2.1 x) || decide (¬ u.2.1 x = q.2.2.1 x)) = false
        rw [h1, decide_eq_false (fun w => w (a2.1.trans a1.1.symm)), decide_eq_false (fun w => w (a2.2.trans a1.2.symm))]
        rfl
theorem bsP_s {nx : Nat → Nat → Nat → Option Nat} {p : Nat → Nat} {K : Nat} (j : Nat) : ∀ t, bsP nx p al T K (j + 1) t = (bsW nx p al T K (bsP nx p al T K j t)).2 := by
  induction j with
  | zero => intro t; rfl
  | succ j ih => intro t; exact ih _
def sBb (D : Nat → Nat) (t : MT) (x : Nat) : Bool := decide (t.1 x = tp D x ∧ t.2.1 x = tm D x)
theorem sBb_t {t : MT} {x : Nat} : sBb D t x = true ↔ sB D t x := by
  unfold sBb
  exact decide_eq_true_iff
theorem sBb_f {t : MT} {x : Nat} (h : ¬ sB D t x) : sBb D t x = false := by
  unfold sBb
  exact decide_eq_false h
theorem bs_grow (hv : VN N) (hp : ∀ q, q < 9 → P q ≤ 50) (hF : FX (4 * N.1) 29 (bsX N al) (cP P) (bG T) UNR D) {t : MT} (hI : ∀ y, y < 4 * N.1 → gB D t y) (hG : ∀ y, y < 4 * N.1 → y / 4 = T → sB D t y) (hno : ¬ ∀ y, y < 4 * N.1 → sB D t y) : ∃ x, x < 4 * N.1 ∧ ¬ sB D t x ∧ sB D (bsW (nxT N) P al T N.1 t).2 x := by
  have q2 : ∃ x, x < 4 * N.1 ∧ ¬ sB D t x := Classical.byContradiction (fun k => hno (fun x hx => Classical.byContradiction (fun l => k ⟨x, hx, l⟩)))
  obtain ⟨x0, hx0⟩ := q2
  obtain ⟨x, ⟨hx, hne⟩, hmin⟩ := min_by D (fun x => x < 4 * N.1 ∧ ¬ sB D t x) (D x0) x0 hx0 (Nat.le_refl _)
  have hT : ¬ x / 4 = T := fun q => hne (hG x hx q)
  have hD : D x < UNR := Classical.byContradiction (fun q => hne (sB.of (fun k => absurd k q) (fun _ => by
    obtain ⟨i1, i2, i3⟩ := hI x hx
    by_cases w : t.1 x < BIG
    · exact absurd (i3 w).1 q
    · have : t.1 x = BIG := by omega
      exact ⟨this, i2 this⟩)))
  obtain ⟨s, y, hs, hy, hd⟩ := (hF x hx).2.2.2 (decide_eq_false hT) hD
  have h1 := cP_1 (P := P) s hs
  have hsy : sB D t y := Classical.byContradiction (fun q => by
    have := hmin y ⟨bsX_ok hv x s y hx hs hy, q⟩
    omega)
  exact ⟨x, hx, hne, (swb hv hp hF (4 * N.1) 0 (false, t) (by omega) hI).2.2.1 x s y (Nat.zero_le _) hx hT hs hy hsy (by omega) hd⟩
theorem bs_inv (hv : VN N) (hp : ∀ q, q < 9 → P q ≤ 50) (hF : FX (4 * N.1) 29 (bsX N al) (cP P) (bG T) UNR D) {t : MT} (hI : ∀ y, y < 4 * N.1 → gB D t y) (hG : ∀ y, y < 4 * N.1 → y / 4 = T → sB D t y) (j : Nat) : (∀ y, y < 4 * N.1 → gB D (bsP (nxT N) P al T N.1 j t) y) ∧ (∀ y, y < 4 * N.1 → y / 4 = T → sB D (bsP (nxT N) P al T N.1 j t) y) ∧ ((∀ y, y < 4 * N.1 → sB D (bsP (nxT N) P al T N.1 j t) y) ∨ j ≤ fa_cnt (sBb D (bsP (nxT N) P al T N.1 j t)) (4 * N.1)) := by
  induction j with
  | zero => exact ⟨hI, hG, Or.inr (Nat.zero_le _)⟩
  | succ j ih =>
    obtain ⟨h1, h2, h3⟩ := ih
    rw [bsP_s]
    obtain ⟨k1, k2, k3, k4, k5⟩ := swb hv hp hF (4 * N.1) 0 (false, bsP (nxT N) P al T N.1 j t) (by omega) h1
    refine ⟨k1, fun y hy hT => k2 y hy (h2 y hy hT), ?_⟩
    by_cases c : ∀ y, y < 4 * N.1 → sB D (bsP (nxT N) P al T N.1 j t) y
    · exact Or.inl (fun y hy => k2 y hy (c y hy))
    · have h4 : j ≤ fa_cnt (sBb D (bsP (nxT N) P al T N.1 j t)) (4 * N.1) := by
        rcases h3 with h3 | h3
        · exact absurd h3 c
        · exact h3
      obtain ⟨x, hx, g1, g2⟩ := bs_grow hv hp hF h1 h2 c
      refine Or.inr ?_
      have := cnt_lt (p := sBb D (bsP (nxT N) P al T N.1 j t)) (q := sBb D (bsW (nxT N) P al T N.1 (bsP (nxT N) P al T N.1 j t)).2) (4 * N.1) (fun y hy hp => sBb_t.mpr (k2 y hy (sBb_t.mp hp))) hx (sBb_f g1) (sBb_t.mpr g2)
      omega
/-- after as many sweeps as there are places nothing changes; where nothing changes, it is the fixed point -/
theorem bs_stop (hv : VN N) (hp : ∀ q, q < 9 → P q ≤ 50) (hF : FX (4 * N.1) 29 (bsX N al) (cP P) (bG T) UNR D) {t : MT} (hI : ∀ y, y < 4 * N.1 → gB D t y) (hG : ∀ y, y < 4 * N.1 → y / 4 = T → sB D t y) : (bsW (nxT N) P al T N.1 (bsP (nxT N) P al T N.1 (4 * N.1) t)).1 = false ∧ ∀ i, (bsW (nxT N) P al T N.1 (bsP (nxT N) P al T N.1 i t)).1 = false → ∀ y, y < 4 * N.1 → sB D (bsW (nxT N) P al T N.1 (bsP (nxT N) P al T N.1 i t)).2 y := by
  constructor
  · obtain ⟨h1, h2, h3⟩ := bs_inv hv hp hF hI hG (4 * N.1)
    have hall : ∀ y, y < 4 * N.1 → sB D (bsP (nxT N) P al T N.1 (4 * N.1) t) y := by
      rcases h3 with h3 | h3
      · exact h3
      · exact fun y hy => sBb_t.mp (cnt_all _ h3 hy)
    exact (swb hv hp hF (4 * N.1) 0 (false, bsP (nxT N) P al T N.1 (4 * N.1) t) (by omega) h1).2.2.2.2 rfl hall
  · intro i hf
    obtain ⟨h1, h2, h3⟩ := bs_inv hv hp hF hI hG i
    obtain ⟨k1, k2, k3, k4, k5⟩ := swb hv hp hF (4 * N.1) 0 (false, bsP (nxT N) P al T N.1 i t) (by omega) h1
    by_cases c : ∀ y, y < 4 * N.1 → sB D (bsP (nxT N) P al T N.1 i t) y
    · exact fun y hy => k2 y hy (c y hy)
    · obtain ⟨x, hx, g1, g2⟩ := bs_grow hv hp hF h1 h2 c
      obtain ⟨e1, e2⟩ := (k4 hf).2 x hx
      exact absurd ⟨e1.symm.trans g2.1, e2.symm.trans g2.2⟩ g1
/-! ### the first saying -/
def ffS (Q : Nat → Nat → Bool) (al : Int32) : Nat → Nat → Option (Nat × Nat)
  | 0, _ => none
  | m + 1, i => if (alI al (nI (ky i)) && Q (ky i) (ny i)) = true then some (ky i, ny i) else ffS Q al m (i + 1)
theorem ff_blk {Q : Nat → Nat → Bool} {kd rest : Nat} (len : Nat) : ∀ (st n0 : Nat), (∀ j, j < len → ky (st + j) = kd ∧ ny (st + j) = n0 + j) → ffS Q al (len + rest) st = match (if alI al (nI kd) = true then fnN Q kd len n0 else none) with
    | some z => some z
    | none => ffS Q al rest (st + len) := by
  induction len with
  | zero =>
    intro st n0 _
    rw [Nat.zero_add]
    split
    · rename_i z hz
      split at hz <;> cases hz
    · rfl
  | succ len ih =>
    intro st n0 h
    have h0 := h 0 (by omega)
    have h1 : ky st = kd := h0.1
    have h2 : ny st = n0 := h0.2
    have ih2 := ih (st + 1) (n0 + 1) (fun j hj => by
      have := h (j + 1) (by omega)
      rw [show st + 1 + j = st + (j + 1) by omega, show n0 + 1 + j = n0 + (j + 1) by omega]
      exact this)
    rw [show len + 1 + rest = len + rest + 1 by omega]
    show (if (alI al (nI (ky st)) && Q (ky st) (ny st)) = true then some (ky st, ny st) else ffS Q al (len + rest) (st + 1)) = _
    rw [h1, h2, ih2, show st + 1 + len = st + (len + 1) by omega]
    by_cases c : alI al (nI kd) = true
    · rw [if_pos c, if_pos c, c, Bool.true_and]
      have e : fnN Q kd (len + 1) n0 = if Q kd n0 = true then some (kd, n0) else fnN Q kd len (n0 + 1) := rfl
      rw [e]
      by_cases c2 : Q kd n0 = true
      · rw [if_pos c2, if_pos c2]
      · rw [if_neg c2, if_neg c2]
    · rw [if_neg c, if_neg c, if_neg (by intro q; rw [Bool.and_eq_true] at q; exact c q.1)]
theorem fn_blk {Q : Nat → Nat → Bool} {m rest : Nat} (kd st n0 len : Nat) (h1 : moN kd + 1 - loN kd = len) (h2 : loN kd = n0) (h : ∀ j, j < len → ky (st + j) = kd ∧ ny (st + j) = n0 + j) (hr : fnK Q al m (kd + 1) = ffS Q al rest (st + len)) : fnK Q al (m + 1) kd = ffS Q al (len + rest) st := by
  rw [ff_blk len st n0 h, ← hr]
  show (match fnB Q al kd with
    | some z => some z
    | none => fnK Q al m (kd + 1)) = _
  unfold fnB
  rw [h1, h2]
theorem fn_flat {Q : Nat → Nat → Bool} : fnK Q al 9 0 = ffS Q al 29 0 :=
  fn_blk 0 0 0 1 (by decide) (by decide) (by decide) (fn_blk 1 1 0 1 (by decide) (by decide) (by decide) (fn_blk 2 2 0 1 (by decide) (by decide) (by decide) (fn_blk 3 3 0 1 (by decide) (by decide) (by decide) (fn_blk 4 4 1 4 (by decide) (by decide) (by decide) (fn_blk 5 8 1 4 (by decide) (by decide) (by decide) (fn_blk 6 12 1 7 (by decide) (by decide) (by decide) (fn_blk 7 19 1 9 (by decide) (by decide) (by decide) (fn_blk (rest := 0) 8 28 0 1 (by decide) (by decide) (by decide) rfl))))))))
theorem ff_first {Q : Nat → Nat → Bool} {j : Nat} (hj : (alI al (nI (ky j)) && Q (ky j) (ny j)) = true) (hb : ∀ i, i < j → (alI al (nI (ky i)) && Q (ky i) (ny i)) = false) (m : Nat) : ∀ i, i ≤ j → j < i + m → ffS Q al m i = some (ky j, ny j) := by
  induction m with
  | zero => intro i h1 h2; omega
  | succ m ih =>
    intro i h1 h2
    show (if (alI al (nI (ky i)) && Q (ky i) (ny i)) = true then some (ky i, ny i) else ffS Q al m (i + 1)) = _
    by_cases e : i = j
    · rw [e, if_pos hj]
    · rw [if_neg (by rw [hb i (by omega)]; decide)]
      exact ih (i + 1) (by omega) (by omega)
theorem be_Z (hv : VN N) (hp : ∀ q, q < 9 → P q ≤ 50) (hF : FX (4 * N.1) 29 (bsX N al) (cP P) (bG T) UNR D) {t : MT} (hS : ∀ y, y < 4 * N.1 → sB D t y) {x : Nat} (hx : x < 4 * N.1) (hg : bG T x = false) (hD : D x < UNR) : bsZ (nxT N) P al t.1 t.2.1 x = some (ky (pkF 29 (bsX N al) (cP P) D x), ny (pkF 29 (bsX N al) (cP P) D x)) := by
  have hB : BIG = 268435456 := rfl
  have hU : UNR = 1000000000 := rfl
  obtain ⟨p1, p2, p3, p4, p5⟩ := hF.pick (bsX_ok hv) hx hg hD
  have hxs := (hS x hx).lt hD
  have hxb := bs_bd hv hp hF x hx hD
  have key : ∀ s, s < 29 → (alI al (nI (ky s)) && ojP (nxT N) P t.1 t.2.1 x (t.1 x) (t.2.1 x) (ky s) (ny s)) = pkP (bsX N al) (cP P) D x s := fun s hs => by
    have hps := hp _ (say_ok s hs).1
    have hcp : cP P s = 1000 * P (ky s) + 1 := rfl
    by_cases c : alI al (nI (ky s)) = true
    · rw [c, Bool.true_and]
      unfold ojP pkP
      have e : bsX N al x s = nxT N x (ky s) (ny s) := if_pos c
      rw [e]
      cases hy : nxT N x (ky s) (ny s) with
      | none => rfl
      | some y =>
        show (if y = x then false else if P (ky s) + t.1 y = t.1 x then decide (1 + t.2.1 y = t.2.1 x) else false) = decide (D x = cP P s + D y)
        have hyN := bsX_ok hv x s y hx hs (e.trans hy)
        by_cases c1 : y = x
        · rw [if_pos c1, c1]
          exact (decide_eq_false (by omega)).symm
        · rw [if_neg c1, hxs.1, hxs.2]
          by_cases c2 : D y < UNR
          · have hys := (hS y hyN).lt c2
            have hyb := bs_bd hv hp hF y hyN c2
            rw [hys.1, hys.2]
            by_cases c3 : P (ky s) + D y / 1000 = D x / 1000
            · rw [if_pos c3]
              by_cases c4 : 1 + D y % 1000 = D x % 1000
              · rw [decide_eq_true c4, decide_eq_true (show D x = cP P s + D y by omega)]
              · rw [decide_eq_false c4, decide_eq_false (show ¬ D x = cP P s + D y by omega)]
            · rw [if_neg c3, decide_eq_false (show ¬ D x = cP P s + D y by omega)]
          · have hys := (hS y hyN).ge c2
            rw [hys.1, if_neg (by omega), decide_eq_false (show ¬ D x = cP P s + D y by omega)]
    · have e : bsX N al x s = none := if_neg c
      unfold pkP
      rw [e, Bool.eq_false_iff.mpr c]
      rfl
  unfold bsZ
  rw [fn_flat]
  exact ff_first ((key _ p1).trans (fa_first_yes (pkP (bsX N al) (cP P) D x) 29 p1)) (fun i hi => (key i (by omega)).trans (p5 i hi)) 29 0 (Nat.zero_le _) (by omega)
theorem be_chain (hv : VN N) (hp : ∀ q, q < 9 → P q ≤ 50) (hF : FX (4 * N.1) 29 (bsX N al) (cP P) (bG T) UNR D) {t : MT} (hS : ∀ y, y < 4 * N.1 → sB D t y) (m : Nat) : ∀ (x : Nat) (s : MS), x < 4 * N.1 → D x < UNR → D x % 1000 = m → bsC (nxT N) P al t.1 t.2.1 T m x ∧ blS (nxT N) P al t.1 t.2.1 m x s = sqS (bsX N al) (cP P) D m x s := by
  have hK := hv.1
  induction m with
  | zero =>
    intro x s hx hD hm
    refine ⟨?_, rfl⟩
    show x / 4 = T
    cases g : bG T x with
    | true => exact of_decide_eq_true g
    | false =>
      have := hF.next (bsX_ok hv) (by omega) (p := fun s => P (ky s)) (cP_e (P := P)) hx g hD
      omega
  | succ m ih =>
    intro x s hx hD hm
    have g : bG T x = false := by
      cases g : bG T x with
      | false => rfl
      | true =>
        have := (hF x hx).1 g
        rw [this] at hm
        cases hm
    obtain ⟨p1, p2, p3, p4, p5⟩ := hF.pick (bsX_ok hv) hx g hD
    obtain ⟨n1, n2, n3, n4⟩ := hF.next (bsX_ok hv) (by omega) (p := fun s => P (ky s)) (cP_e (P := P)) hx g hD
    have hz := be_Z hv hp hF hS hx g hD
    have hnx : nxT N x (ky (pkF 29 (bsX N al) (cP P) D x)) (ny (pkF 29 (bsX N al) (cP P) D x)) = some (pkN 29 (bsX N al) (cP P) D x) := by
      have p2 := p2
      unfold bsX at p2
      split at p2
      · exact p2
      · cases p2
    obtain ⟨i1, i2⟩ := ih (pkN 29 (bsX N al) (cP P) D x) (s.1 + 1, updN s.2.1 s.1 (ky (pkF 29 (bsX N al) (cP P) D x)), updN s.2.2 s.1 (ny (pkF 29 (bsX N al) (cP P) D x))) p3 n1 (by omega)
    refine ⟨⟨of_decide_eq_false g, _, _, hz, hnx, i1⟩, ?_⟩
    show blS (nxT N) P al t.1 t.2.1 m ((nxT N x ((bsZ (nxT N) P al t.1 t.2.1 x).getD (0, 0)).1 ((bsZ (nxT N) P al t.1 t.2.1 x).getD (0, 0)).2).getD 0) (s.1 + 1, updN s.2.1 s.1 ((bsZ (nxT N) P al t.1 t.2.1 x).getD (0, 0)).1, updN s.2.2 s.1 ((bsZ (nxT N) P al t.1 t.2.1 x).getD (0, 0)).2) = _
    rw [hz]
    show blS (nxT N) P al t.1 t.2.1 m ((nxT N x (ky (pkF 29 (bsX N al) (cP P) D x)) (ny (pkF 29 (bsX N al) (cP P) D x))).getD 0) _ = _
    rw [hnx]
    exact i2
theorem b0_at (m : Nat) : ∀ (i : Nat) (t : MT) (x : Nat), (itT (b0T T) m i t).1 x = (if i ≤ x ∧ x < i + m then (if x / 4 = T then 0 else BIG) else t.1 x) ∧ (itT (b0T T) m i t).2.1 x = (if i ≤ x ∧ x < i + m then 0 else t.2.1 x) := by
  induction m with
  | zero => intro i t x; exact ⟨(if_neg (by omega)).symm, (if_neg (by omega)).symm⟩
  | succ m ih =>
    intro i t x
    obtain ⟨h1, h2⟩ := ih (i + 1) (b0T T i t) x
    have e : itT (b0T T) (m + 1) i t = itT (b0T T) m (i + 1) (b0T T i t) := rfl
    rw [e, h1, h2]
    by_cases c : i + 1 ≤ x ∧ x < i + 1 + m
    · have c2 : i ≤ x ∧ x < i + (m + 1) := by omega
      rw [if_pos c, if_pos c, if_pos c2, if_pos c2]
      exact ⟨rfl, rfl⟩
    · rw [if_neg c, if_neg c]
      show updN t.1 i (if i / 4 = T then 0 else BIG) x = _ ∧ updN t.2.1 i 0 x = _
      by_cases z : x = i
      · have c2 : i ≤ i ∧ i < i + (m + 1) := by omega
        rw [z, updN_s, updN_s, if_pos c2, if_pos c2]
        exact ⟨rfl, rfl⟩
      · have c2 : ¬ (i ≤ x ∧ x < i + (m + 1)) := by omega
        rw [updN_n z, updN_n z, if_neg c2, if_neg c2]
        exact ⟨rfl, rfl⟩
theorem b0_inv (hF : FX (4 * N.1) 29 (bsX N al) (cP P) (bG T) UNR D) (t : MT) : (∀ y, y < 4 * N.1 → gB D (itT (b0T T) (4 * N.1) 0 t) y) ∧ ∀ y, y < 4 * N.1 → y / 4 = T → sB D (itT (b0T T) (4 * N.1) 0 t) y := by
  have hB : BIG = 268435456 := rfl
  have hU : UNR = 1000000000 := rfl
  have e : ∀ y, y < 4 * N.1 → (itT (b0T T) (4 * N.1) 0 t).1 y = (if y / 4 = T then 0 else BIG) ∧ (itT (b0T T) (4 * N.1) 0 t).2.1 y = 0 := fun y hy => by
    obtain ⟨h1, h2⟩ := b0_at (T := T) (4 * N.1) 0 t y
    have c2 : 0 ≤ y ∧ y < 0 + 4 * N.1 := by omega
    rw [h1, h2, if_pos c2, if_pos c2]
    exact ⟨rfl, rfl⟩
  refine ⟨fun y hy => ?_, fun y hy hT => ?_⟩
  · obtain ⟨e1, e2⟩ := e y hy
    unfold gB
    rw [e1, e2]
    by_cases c : y / 4 = T
    · rw [if_pos c]
      have hd := (hF y hy).1 (decide_eq_true c)
      rw [hd]
      exact ⟨Nat.zero_le _, fun _ => rfl, fun _ => ⟨by decide, by omega⟩⟩
    · rw [if_neg c]
      exact ⟨Nat.le_refl _, fun _ => rfl, fun h => absurd h (Nat.lt_irrefl _)⟩
  · obtain ⟨e1, e2⟩ := e y hy
    have hd := (hF y hy).1 (decide_eq_true hT)
    refine sB.of (fun _ => ?_) (fun h => absurd (show D y < UNR by omega) h)
    rw [e1, e2, if_pos hT, hd]
    exact ⟨rfl, rfl⟩
end BEST
