/-! what stays through a saying; a row of sayings with all the exits gone by -/
section PRS
variable {N : MN} {Q : MA → Prop}
theorem tn_pres (hl : VL N.2.2.1) (hg : ∀ a e, okA a → Q a → e < 4 → Q (gbT N.2.2.1 a e).2) {sd : Nat} (m : Nat) : ∀ (left : Nat) (a : MA), okA a → Q a → Q (tnT N.2.2.1 sd m left a).2 := by
  induction m with
  | zero => intro left a _ h; exact h
  | succ m ih =>
    intro left a ha h
    unfold tnT
    have g2 := hg a a.2.1 ha h ha.2.1
    have gok := (gbT_ok (e := a.2.1) hl ha ha.2.1).1
    by_cases c : (if hsT N.2.2.1 a sd = true then left - 1 else left) = 0
    · rw [if_pos c]
      exact hg a _ ha h (by omega)
    · rw [if_neg c]
      by_cases c3 : (gbT N.2.2.1 a a.2.1).1 = true
      · rw [if_pos c3]
        exact ih _ _ gok g2
      · rw [if_neg c3]
        exact g2
theorem un_pres (hl : VL N.2.2.1) (hg : ∀ a e, okA a → Q a → e < 4 → Q (gbT N.2.2.1 a e).2) {nb : Nat} (m : Nat) : ∀ (left : Nat) (a : MA), okA a → Q a → Q (unT N nb m left a).2 := by
  induction m with
  | zero => intro left a _ h; exact h
  | succ m ih =>
    intro left a ha h
    unfold unT
    have g2 := hg a a.2.1 ha h ha.2.1
    have gok := (gbT_ok (e := a.2.1) hl ha ha.2.1).1
    by_cases c3 : (gbT N.2.2.1 a a.2.1).1 = true
    · rw [if_pos c3]
      by_cases c : N.2.1 (gbT N.2.2.1 a a.2.1).2.1 = nb
      · rw [if_pos c]
        by_cases z : left = 0
        · rw [if_pos z]
          exact g2
        · rw [if_neg z]
          exact ih _ _ gok g2
      · rw [if_neg c]
        exact ih _ _ gok g2
    · rw [if_neg c3]
      exact g2
theorem ed_pres (hl : VL N.2.2.1) (hg : ∀ a e, okA a → Q a → e < 4 → Q (gbT N.2.2.1 a e).2) (m : Nat) : ∀ (a : MA), okA a → Q a → Q (edT N.2.2.1 m a).2 := by
  induction m with
  | zero => intro a _ h; exact h
  | succ m ih =>
    intro a ha h
    unfold edT
    have g2 := hg a a.2.1 ha h ha.2.1
    have gok := (gbT_ok (e := a.2.1) hl ha ha.2.1).1
    by_cases c3 : (gbT N.2.2.1 a a.2.1).1 = true
    · rw [if_pos c3]
      by_cases c : hsT N.2.2.1 (gbT N.2.2.1 a a.2.1).2 0 = true
      · rw [if_pos c]
        exact ih _ gok g2
      · rw [if_neg c]
        exact g2
    · rw [if_neg c3]
      exact g2
theorem gn_pres (hg : ∀ a e, okA a → Q a → e < 4 → Q (gbT N.2.2.1 a e).2) {nb : Nat} {a : MA} (ha : okA a) (h : Q a) (m : Nat) : ∀ (i : Nat) (fo : Option Nat), (∀ e, fo = some e → e < 4) → Q (gnT N a nb m i fo).2 := by
  induction m with
  | zero =>
    intro i fo hf
    cases fo with
    | none => exact h
    | some e => exact hg a e ha h (hf e rfl)
  | succ m ih =>
    intro i fo hf
    unfold gnT
    by_cases c : i = 2
    · rw [if_pos c]
      exact ih _ _ hf
    · rw [if_neg c]
      by_cases c2 : hsT N.2.2.1 a i = true
      · rw [if_pos c2]
        by_cases c3 : N.2.2.2 (4 * a.1 + (a.2.1 + i) % 4) = nb
        · rw [if_pos c3]
          cases fo with
          | none => exact ih (i + 1) (some ((a.2.1 + i) % 4)) (fun e he => by cases he; omega)
          | some e => exact h
        · rw [if_neg c3]
          exact ih _ _ hf
      · rw [if_neg c2]
        exact ih _ _ hf
theorem ds_pres (hl : VL N.2.2.1) (hg : ∀ a e, okA a → Q a → e < 4 → Q (gbT N.2.2.1 a e).2) {a : MA} (h1 : a.1 < 24) (h2 : a.2.1 < 4) (hz : Q (zA a)) (kd nb ps : Nat) : Q (dsT N a kd nb ps).2 := by
  have ha : okA (zA a) := ⟨h1, h2, by show 0 ≤ 30; omega⟩
  unfold dsT
  split
  · exact hg _ _ ha hz (by omega)
  · split
    · exact gn_pres hg ha hz _ _ _ (fun e he => by cases he)
    · split
      · exact tn_pres hl hg _ _ _ ha hz
      · split
        · exact ed_pres hl hg _ _ ha hz
        · exact un_pres hl hg _ _ _ ha hz
end PRS
theorem gb_knot2 {N : MN} {a : MA} {e : Nat} (hv : VN N) (h1 : a.1 < 24) (he : e < 4) (h : a.1 < N.1) : (gbT N.2.2.1 a e).2.1 < N.1 := by
  by_cases c : (gbT N.2.2.1 a e).1 = true
  · exact gb_knot hv h1 he c
  · unfold gbT at c ⊢
    cases hy : N.2.2.1 (4 * a.1 + e) with
    | none => exact h
    | some y =>
      rw [hy] at c
      simp only at c ⊢
      split
      · exact h
      · rename_i hm
        rw [if_neg hm] at c
        exact absurd rfl c
theorem ds_knot {N : MN} {a : MA} (hv : VN N) (h1 : a.1 < N.1) (h2 : a.2.1 < 4) (kd nb ps : Nat) : (dsT N a kd nb ps).2.1 < N.1 := ds_pres (Q := fun a => a.1 < N.1) hv.vl (fun a e ha hq he => gb_knot2 hv ha.1 he hq) (by have := hv.1; omega) h2 h1 kd nb ps
/-! ### the places of a route -/
def rp (ld : Nat → Option Nat) (g : Nat → Nat) (k f : Nat) : Nat → Option (Nat × Nat)
  | 0 => some (k, f)
  | i + 1 => match rp ld g k f i with
    | none => none
    | some q => match ld (4 * q.1 + g i) with
      | none => none
      | some y => some (y / 4, (y + 2) % 4)
theorem rp_s {ld : Nat → Option Nat} {g : Nat → Nat} {k f i : Nat} {q : Nat × Nat} (h : rp ld g k f i = some q) : rp ld g k f (i + 1) = (match ld (4 * q.1 + g i) with
      | none => none
      | some y => some (y / 4, (y + 2) % 4)) := by
  show (match rp ld g k f i with
    | none => none
    | some q => match ld (4 * q.1 + g i) with
      | none => none
      | some y => some (y / 4, (y + 2) % 4)) = _
  rw [h]
theorem rp_cong {ld : Nat → Option Nat} {g g' : Nat → Nat} {k f : Nat} (i : Nat) (h : ∀ j, j < i → g j = g' j) : rp ld g k f i = rp ld g' k f i := by
  induction i with
  | zero => rfl
  | succ i ih =>
    have e := ih (fun j hj => h j (by omega))
    show (match rp ld g k f i with
      | none => none
      | some q => match ld (4 * q.1 + g i) with
        | none => none
        | some y => some (y / 4, (y + 2) % 4)) = (match rp ld g' k f i with
      | none => none
      | some q => match ld (4 * q.1 + g' i) with
        | none => none
        | some y => some (y / 4, (y + 2) % 4))
    rw [e, h i (by omega)]
theorem rp_app {ld : Nat → Option Nat} {ex path : Nat → Nat} {k0 f0 k f S : Nat} (h : rp ld ex k0 f0 S = some (k, f)) (m : Nat) : rp ld (apE S ex path) k0 f0 (S + m) = rp ld path k f m := by
  induction m with
  | zero =>
    show rp ld (apE S ex path) k0 f0 S = some (k, f)
    rw [← h]
    exact rp_cong S (fun j hj => if_pos hj)
  | succ m ih =>
    have e : apE S ex path (S + m) = path m := by
      unfold apE
      rw [if_neg (by omega), Nat.add_sub_cancel_left]
    show (match rp ld (apE S ex path) k0 f0 (S + m) with
      | none => none
      | some q => match ld (4 * q.1 + apE S ex path (S + m)) with
        | none => none
        | some y => some (y / 4, (y + 2) % 4)) = (match rp ld path k f m with
      | none => none
      | some q => match ld (4 * q.1 + path m) with
        | none => none
        | some y => some (y / 4, (y + 2) % 4))
    rw [ih, e]
theorem gb_rp {ld : Nat → Option Nat} {a : MA} {e k f : Nat} (h : rp ld a.2.2.2 k f a.2.2.1 = some (a.1, a.2.1)) : rp ld (gbT ld a e).2.2.2.2 k f (gbT ld a e).2.2.2.1 = some ((gbT ld a e).2.1, (gbT ld a e).2.2.1) := by
  unfold gbT
  cases hy : ld (4 * a.1 + e) with
  | none => exact h
  | some y =>
    show rp ld (if a.2.2.1 = 30 then (false, a) else (true, (y / 4, (y + 2) % 4, a.2.2.1 + 1, updN a.2.2.2 a.2.2.1 e))).2.2.2.2 k f (if a.2.2.1 = 30 then (false, a) else (true, (y / 4, (y + 2) % 4, a.2.2.1 + 1, updN a.2.2.2 a.2.2.1 e))).2.2.2.1 = some ((if a.2.2.1 = 30 then (false, a) else (true, (y / 4, (y + 2) % 4, a.2.2.1 + 1, updN a.2.2.2 a.2.2.1 e))).2.1, (if a.2.2.1 = 30 then (false, a) else (true, (y / 4, (y + 2) % 4, a.2.2.1 + 1, updN a.2.2.2 a.2.2.1 e))).2.2.1)
    by_cases hm : a.2.2.1 = 30
    · rw [if_pos hm]
      exact h
    · rw [if_neg hm]
      show rp ld (updN a.2.2.2 a.2.2.1 e) k f (a.2.2.1 + 1) = some (y / 4, (y + 2) % 4)
      have h1 : rp ld (updN a.2.2.2 a.2.2.1 e) k f a.2.2.1 = some (a.1, a.2.1) := by
        rw [← h]
        exact rp_cong _ (fun j hj => updN_n (by omega))
      rw [rp_s h1, updN_s]
      show (match ld (4 * a.1 + e) with
        | none => none
        | some y => some (y / 4, (y + 2) % 4)) = _
      rw [hy]
theorem ds_rp {N : MN} {a : MA} (hl : VL N.2.2.1) (h1 : a.1 < 24) (h2 : a.2.1 < 4) (kd nb ps : Nat) : rp N.2.2.1 (dsT N a kd nb ps).2.2.2.2 a.1 a.2.1 (dsT N a kd nb ps).2.2.2.1 = some ((dsT N a kd nb ps).2.1, (dsT N a kd nb ps).2.2.1) := ds_pres (Q := fun b => rp N.2.2.1 b.2.2.2 a.1 a.2.1 b.2.2.1 = some (b.1, b.2.1)) hl (fun b e _ hq _ => gb_rp hq) h1 h2 rfl kd nb ps
/-! ### a row of sayings -/
abbrev GW : Type := MA × Nat × (Nat → Nat)
def gwN (F : Nat → MA → Bool × MA) (i : Nat) (q : GW) : GW := ((F i q.1).2, q.2.1 + (F i q.1).2.2.2.1, apE q.2.1 q.2.2 (F i q.1).2.2.2.2)
def gwL (F : Nat → MA → Bool × MA) : Nat → Nat → GW → Option Nat × GW
  | 0, _, q => (none, q)
  | m + 1, i, q => if (F i q.1).1 = true then gwL F m (i + 1) (gwN F i q) else (some i, gwN F i q)
theorem gw_mono {F : Nat → MA → Bool × MA} (m : Nat) : ∀ (i : Nat) (q : GW), q.2.1 ≤ (gwL F m i q).2.2.1 ∧ ∀ j, j < q.2.1 → (gwL F m i q).2.2.2 j = q.2.2 j := by
  induction m with
  | zero => intro i q; exact ⟨Nat.le_refl _, fun _ _ => rfl⟩
  | succ m ih =>
    intro i q
    unfold gwL
    have e : ∀ j, j < q.2.1 → (gwN F i q).2.2 j = q.2.2 j := fun j hj => if_pos hj
    have l : q.2.1 ≤ (gwN F i q).2.1 := Nat.le_add_right _ _
    by_cases c : (F i q.1).1 = true
    · rw [if_pos c]
      obtain ⟨h1, h2⟩ := ih (i + 1) (gwN F i q)
      exact ⟨Nat.le_trans l h1, fun j hj => (h2 j (by omega)).trans (e j hj)⟩
    · rw [if_neg c]
      exact ⟨l, e⟩
/-- what a saying of the row must be -/
def gF (n : NS) (N : MN) (F : Nat → MA → Bool × MA) (G : Nat → WS → Bool × WS) (Z : Nat) : Prop := ∀ (i S : Nat) (ex : Nat → Nat) (w : WS) (a : MA), i < Z → S ≤ 2 ^ 30 → a.1 < N.1 → a.2.1 < 4 → wQ S ex w a.1 a.2.1 → (G i w).1 = (F i a).1 ∧ wR S ex (G i w).2 (F i a).2 ∧ (F i a).2.1 < N.1 ∧ (F i a).2.2.1 < 4 ∧ (F i a).2.2.2.1 ≤ 30
theorem fa_gw {n : NS} {N : MN} {F : Nat → MA → Bool × MA} {cap : Nat} {sz slip : Int32} {g : Nat → Int32} {Z : Nat} (hF : gF n N F (sgL n cap sz g slip) Z) (m : Nat) : ∀ (i : Nat) (q : GW) (w : WS), i + m ≤ Z → q.2.1 + 30 * m ≤ 2 ^ 30 → q.1.1 < N.1 → q.1.2.1 < 4 → wQ q.2.1 q.2.2 w q.1.1 q.1.2.1 → (faL n cap sz g slip m i w).1 = oI (gwL F m i q).1 ∧ wQ (gwL F m i q).2.2.1 (gwL F m i q).2.2.2 (faL n cap sz g slip m i w).2 (gwL F m i q).2.1.1 (gwL F m i q).2.1.2.1 ∧ (gwL F m i q).2.1.1 < N.1 ∧ (gwL F m i q).2.1.2.1 < 4 := by
  induction m with
  | zero => intro i q w _ _ h1 h2 h; exact ⟨rfl, h, h1, h2⟩
  | succ m ih =>
    intro i q w hi hS h1 h2 h
    obtain ⟨g1, g2, g3, g4, g5⟩ := hF i q.2.1 q.2.2 w q.1 (by omega) (by omega) h1 h2 h
    have g6 : wQ (gwN F i q).2.1 (gwN F i q).2.2 (sgL n cap sz g slip i w).2 (gwN F i q).1.1 (gwN F i q).1.2.1 := g2.q
    unfold faL gwL
    rw [g1]
    by_cases c : (F i q.1).1 = true
    · rw [if_pos c, if_pos c]
      exact ih (i + 1) (gwN F i q) _ (by omega) (by show q.2.1 + (F i q.1).2.2.2.1 + 30 * m ≤ 2 ^ 30; omega) g3 g4 g6
    · rw [if_neg c, if_neg c]
      exact ⟨rfl, g6, g3, g4⟩
theorem gw_rp {ld : Nat → Option Nat} {F : Nat → MA → Bool × MA} {Z k0 f0 : Nat} {K : Nat} (hF : ∀ i a, i < Z → a.1 < K → a.2.1 < 4 → rp ld (F i a).2.2.2.2 a.1 a.2.1 (F i a).2.2.2.1 = some ((F i a).2.1, (F i a).2.2.1) ∧ (F i a).2.1 < K ∧ (F i a).2.2.1 < 4) (m : Nat) : ∀ (i : Nat) (q : GW), i + m ≤ Z → q.1.1 < K → q.1.2.1 < 4 → rp ld q.2.2 k0 f0 q.2.1 = some (q.1.1, q.1.2.1) → rp ld (gwL F m i q).2.2.2 k0 f0 (gwL F m i q).2.2.1 = some ((gwL F m i q).2.1.1, (gwL F m i q).2.1.2.1) := by
  induction m with
  | zero => intro i q _ _ _ h; exact h
  | succ m ih =>
    intro i q hi h1 h2 h
    obtain ⟨g1, g2, g3⟩ := hF i q.1 (by omega) h1 h2
    have g4 : rp ld (gwN F i q).2.2 k0 f0 (gwN F i q).2.1 = some ((gwN F i q).1.1, (gwN F i q).1.2.1) := (rp_app h _).trans g1
    unfold gwL
    by_cases c : (F i q.1).1 = true
    · rw [if_pos c]
      exact ih (i + 1) _ (by omega) g2 g3 g4
    · rw [if_neg c]
      exact g4
/-! ### walk -/
theorem cpT_R (path : Nat → Nat) (m : Nat) : ∀ (p : Nat) (w : MW), (cpT path m p w).1 = w.1 ∧ (cpT path m p w).2.2.2.1 = w.2.2.2.1 + m ∧ ∀ j, j < 200 → (j < w.2.2.2.1 → (cpT path m p w).2.2.2.2 j = w.2.2.2.2 j) ∧ (w.2.2.2.1 ≤ j → j < w.2.2.2.1 + m → (cpT path m p w).2.2.2.2 j = path (p + (j - w.2.2.2.1))) := by
  induction m with
  | zero => intro p w; exact ⟨rfl, rfl, fun j _ => ⟨fun _ => rfl, fun h1 h2 => absurd h2 (by omega)⟩⟩
  | succ m ih =>
    intro p w
    obtain ⟨h1, h2, h3⟩ := ih (p + 1) (w.1, w.2.1, w.2.2.1, w.2.2.2.1 + 1, if w.2.2.2.1 < 200 then updN w.2.2.2.2 w.2.2.2.1 (path p) else w.2.2.2.2)
    have e : cpT path (m + 1) p w = cpT path m (p + 1) (w.1, w.2.1, w.2.2.1, w.2.2.2.1 + 1, if w.2.2.2.1 < 200 then updN w.2.2.2.2 w.2.2.2.1 (path p) else w.2.2.2.2) := rfl
    rw [e]
    refine ⟨h1, by rw [h2]; show w.2.2.2.1 + 1 + m = w.2.2.2.1 + (m + 1); omega, fun j hj => ?_⟩
    obtain ⟨k1, k2⟩ := h3 j hj
    have k1 : j < w.2.2.2.1 + 1 → _ := k1
    have k2 : w.2.2.2.1 + 1 ≤ j → j < w.2.2.2.1 + 1 + m → _ = path (p + 1 + (j - (w.2.2.2.1 + 1))) := k2
    refine ⟨fun c => ?_, fun c1 c2 => ?_⟩
    · rw [k1 (by omega)]
      show (if w.2.2.2.1 < 200 then updN w.2.2.2.2 w.2.2.2.1 (path p) else w.2.2.2.2) j = w.2.2.2.2 j
      split
      · exact updN_n (by omega)
      · rfl
    · by_cases c3 : j = w.2.2.2.1
      · rw [k1 (by omega)]
        show (if w.2.2.2.1 < 200 then updN w.2.2.2.2 w.2.2.2.1 (path p) else w.2.2.2.2) j = path (p + (j - w.2.2.2.1))
        rw [if_pos (by omega), c3, updN_s, Nat.sub_self]
        rfl
      · rw [k2 (by omega) (by omega)]
        congr 1
        omega
def dsF (N : MN) (kd nb : Nat → Nat) (i : Nat) (a : MA) : Bool × MA := dsT N a (kd i) (nb i) 0
def wS (w : MW) (S : Nat) (ex : Nat → Nat) : Prop := w.2.2.2.1 = S ∧ ∀ j, j < 200 → j < S → w.2.2.2.2 j = ex j
theorem wk_gw {N : MN} {s : MS} (m : Nat) : ∀ (i : Nat) (a : MA) (w : MW) (S : Nat) (ex : Nat → Nat), wS w S ex → (wkT N s m i (a, w)).1 = (gwL (dsF N s.2.1 s.2.2) m i (a, S, ex)).1 ∧ (wkT N s m i (a, w)).2.1 = (gwL (dsF N s.2.1 s.2.2) m i (a, S, ex)).2.1 ∧ (wkT N s m i (a, w)).2.2.1 = w.1 ∧ wS (wkT N s m i (a, w)).2.2 (gwL (dsF N s.2.1 s.2.2) m i (a, S, ex)).2.2.1 (gwL (dsF N s.2.1 s.2.2) m i (a, S, ex)).2.2.2 := by
  induction m with
  | zero => intro i a w S ex h; exact ⟨rfl, rfl, rfl, h⟩
  | succ m ih =>
    intro i a w S ex h
    have hc := cpT_R (dsT N a (s.2.1 i) (s.2.2 i) 0).2.2.2.2 (dsT N a (s.2.1 i) (s.2.2 i) 0).2.2.2.1 0 w
    have h2 : wS (cpT (dsT N a (s.2.1 i) (s.2.2 i) 0).2.2.2.2 (dsT N a (s.2.1 i) (s.2.2 i) 0).2.2.2.1 0 w) (S + (dsT N a (s.2.1 i) (s.2.2 i) 0).2.2.2.1) (apE S ex (dsT N a (s.2.1 i) (s.2.2 i) 0).2.2.2.2) := by
      refine ⟨by rw [hc.2.1, h.1], fun j hj hS => ?_⟩
      obtain ⟨k1, k2⟩ := hc.2.2 j hj
      rw [h.1] at k1 k2
      unfold apE
      by_cases c : j < S
      · rw [if_pos c, k1 c]
        exact h.2 j hj c
      · rw [if_neg c, k2 (by omega) hS, Nat.zero_add]
    have ew : wkT N s (m + 1) i (a, w) = if (dsT N a (s.2.1 i) (s.2.2 i) 0).1 = true then wkT N s m (i + 1) ((dsT N a (s.2.1 i) (s.2.2 i) 0).2, cpT (dsT N a (s.2.1 i) (s.2.2 i) 0).2.2.2.2 (dsT N a (s.2.1 i) (s.2.2 i) 0).2.2.2.1 0 w) else (some i, ((dsT N a (s.2.1 i) (s.2.2 i) 0).2, cpT (dsT N a (s.2.1 i) (s.2.2 i) 0).2.2.2.2 (dsT N a (s.2.1 i) (s.2.2 i) 0).2.2.2.1 0 w)) := rfl
    have eg : gwL (dsF N s.2.1 s.2.2) (m + 1) i (a, S, ex) = if (dsT N a (s.2.1 i) (s.2.2 i) 0).1 = true then gwL (dsF N s.2.1 s.2.2) m (i + 1) ((dsT N a (s.2.1 i) (s.2.2 i) 0).2, S + (dsT N a (s.2.1 i) (s.2.2 i) 0).2.2.2.1, apE S ex (dsT N a (s.2.1 i) (s.2.2 i) 0).2.2.2.2) else (some i, ((dsT N a (s.2.1 i) (s.2.2 i) 0).2, S + (dsT N a (s.2.1 i) (s.2.2 i) 0).2.2.2.1, apE S ex (dsT N a (s.2.1 i) (s.2.2 i) 0).2.2.2.2)) := rfl
    rw [ew, eg]
    by_cases c : (dsT N a (s.2.1 i) (s.2.2 i) 0).1 = true
    · rw [if_pos c, if_pos c]
      obtain ⟨g1, g2, g3, g4⟩ := ih (i + 1) (dsT N a (s.2.1 i) (s.2.2 i) 0).2 _ _ _ h2
      exact ⟨g1, g2, g3.trans hc.1, g4⟩
    · rw [if_neg c, if_neg c]
      exact ⟨rfl, rfl, hc.1, h2⟩
/-! ### tells -/
def okG (q : Option Nat × GW) (M : Nat) (g : Nat → Nat) : Prop := q.1 = none ∧ q.2.2.1 = M ∧ ∀ j, j < M → q.2.2.2 j = g j
theorem cm_iff {path g : Nat → Nat} {o : Nat} (m : Nat) : ∀ p, (cmT path g o m p = true ↔ ∀ j, p ≤ j → j < p + m → path j = g (o + j)) := by
  induction m with
  | zero => intro p; exact ⟨fun _ j h1 h2 => absurd h2 (by omega), fun _ => rfl⟩
  | succ m ih =>
    intro p
    have e : cmT path g o (m + 1) p = (if path p = g (o + p) then cmT path g o m (p + 1) else false) := rfl
    rw [e]
    by_cases c : path p = g (o + p)
    · rw [if_pos c, ih (p + 1)]
      refine ⟨fun h j h1 h2 => ?_, fun h j h1 h2 => h j (by omega) (by omega)⟩
      by_cases q : j = p
      · rw [q]
        exact c
      · exact h j (by omega) (by omega)
    · rw [if_neg c]
      exact ⟨fun h => (by cases h), fun h => absurd (h p (Nat.le_refl _) (by omega)) c⟩
theorem te_gw {N : MN} {g kd nb : Nat → Nat} {f0 M fi : Nat} (m : Nat) : ∀ (i S : Nat) (a : MA) (ex : Nat → Nat), S ≤ M → (∀ j, j < S → ex j = g (f0 + j)) → ((teT N g f0 M kd nb fi m i S a).1 = true ↔ okG (gwL (dsF N (fun j => kd (fi + j)) (fun j => nb (fi + j))) m i (a, S, ex)) M (fun j => g (f0 + j))) := by
  induction m with
  | zero =>
    intro i S a ex hS hx
    show decide (S = M) = true ↔ _
    rw [decide_eq_true_iff]
    exact ⟨fun h => ⟨rfl, h, fun j hj => hx j (by omega)⟩, fun h => h.2.1⟩
  | succ m ih =>
    intro i S a ex hS hx
    have hd : dsF N (fun j => kd (fi + j)) (fun j => nb (fi + j)) i a = dsT N a (kd (fi + i)) (nb (fi + i)) 0 := rfl
    have eg : gwL (dsF N (fun j => kd (fi + j)) (fun j => nb (fi + j))) (m + 1) i (a, S, ex) = if (dsT N a (kd (fi + i)) (nb (fi + i)) 0).1 = true then gwL (dsF N (fun j => kd (fi + j)) (fun j => nb (fi + j))) m (i + 1) (gwN (dsF N (fun j => kd (fi + j)) (fun j => nb (fi + j))) i (a, S, ex)) else (some i, gwN (dsF N (fun j => kd (fi + j)) (fun j => nb (fi + j))) i (a, S, ex)) := rfl
    rw [eg]
    unfold teT
    by_cases c : (dsT N a (kd (fi + i)) (nb (fi + i)) 0).1 = true
    · rw [if_pos c, if_pos c]
      have hm := gw_mono (F := dsF N (fun j => kd (fi + j)) (fun j => nb (fi + j))) m (i + 1) (gwN (dsF N (fun j => kd (fi + j)) (fun j => nb (fi + j))) i (a, S, ex))
      have hm1 : S + (dsT N a (kd (fi + i)) (nb (fi + i)) 0).2.2.2.1 ≤ _ := hm.1
      have hm2 : ∀ j, j < S + (dsT N a (kd (fi + i)) (nb (fi + i)) 0).2.2.2.1 → _ = apE S ex (dsT N a (kd (fi + i)) (nb (fi + i)) 0).2.2.2.2 j := hm.2
      by_cases c2 : S + (dsT N a (kd (fi + i)) (nb (fi + i)) 0).2.2.2.1 ≤ M
      · rw [if_pos c2]
        by_cases c3 : cmT (dsT N a (kd (fi + i)) (nb (fi + i)) 0).2.2.2.2 g (f0 + S) (dsT N a (kd (fi + i)) (nb (fi + i)) 0).2.2.2.1 0 = true
        · rw [if_pos c3]
          have c4 := (cm_iff _ 0).mp c3
          exact ih (i + 1) _ _ (apE S ex (dsT N a (kd (fi + i)) (nb (fi + i)) 0).2.2.2.2) c2 (fun j hj => by
            unfold apE
            by_cases q : j < S
            · rw [if_pos q]
              exact hx j q
            · rw [if_neg q, c4 (j - S) (Nat.zero_le _) (by omega)]
              congr 1
              omega)
        · rw [if_neg c3]
          refine ⟨fun h => (by cases h), fun h => absurd ((cm_iff _ 0).mpr (fun j _ hj => ?_)) c3⟩
          have h2 := h.2.2 (S + j) (by omega)
          rw [hm2 (S + j) (by omega)] at h2
          unfold apE at h2
          rw [if_neg (by omega), Nat.add_sub_cancel_left] at h2
          rw [h2]
          show g (f0 + (S + j)) = g (f0 + S + j)
          rw [Nat.add_assoc]
      · rw [if_neg c2]
        refine ⟨fun h => (by cases h), fun h => absurd h.2.1 ?_⟩
        omega
    · rw [if_neg c, if_neg c]
      exact ⟨fun h => (by cases h), fun h => by cases h.1⟩
/-! ### the slip -/
theorem sp_gw {N : MN} {s : MS} {ii : Nat} (m : Nat) : ∀ (j : Nat) (a : MA) (S : Nat) (ex : Nat → Nat), (spT2 N s ii m j a).1 = (gwL (spD N s ii) m j (a, S, ex)).1 ∧ (spT2 N s ii m j a).2 = (gwL (spD N s ii) m j (a, S, ex)).2.1 := by
  induction m with
  | zero => intro j a S ex; exact ⟨rfl, rfl⟩
  | succ m ih =>
    intro j a S ex
    unfold spT2 gwL
    have e : (spD N s ii j (a, S, ex).1).1 = (spD N s ii j a).1 := rfl
    rw [e]
    by_cases c : (spD N s ii j a).1 = true
    · rw [if_pos c, if_pos c]
      exact ih (j + 1) _ _ _
    · rw [if_neg c, if_neg c]
      exact ⟨rfl, rfl⟩
