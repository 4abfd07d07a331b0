/-! cheapest ways over places below N with labels below L: sweeps, a fixed point, that it is the only one, the first best label -/
def pSum (v : Nat → Nat) : Nat → Nat
  | 0 => 0
  | n + 1 => pSum v n + v n
theorem pSum_le {v w : Nat → Nat} (n : Nat) (h : ∀ x, x < n → w x ≤ v x) : pSum w n ≤ pSum v n := by
  induction n with
  | zero => exact Nat.le_refl 0
  | succ n ih =>
    have h1 := ih (fun x hx => h x (by omega))
    have h2 := h n (by omega)
    show pSum w n + w n ≤ pSum v n + v n
    omega
theorem pSum_lt {v w : Nat → Nat} (n : Nat) (h : ∀ x, x < n → w x ≤ v x) {y : Nat} (hy : y < n) (hlt : w y < v y) : pSum w n < pSum v n := by
  induction n with
  | zero => omega
  | succ n ih =>
    show pSum w n + w n < pSum v n + v n
    have h2 := h n (by omega)
    by_cases e : y = n
    · subst e
      have h1 := pSum_le y (fun x hx => h x (by omega))
      omega
    · have h1 := ih (fun x hx => h x (by omega)) (by omega)
      omega
theorem cnt_mono {p q : Nat → Bool} (n : Nat) (h : ∀ x, x < n → p x = true → q x = true) : fa_cnt p n ≤ fa_cnt q n := by
  induction n with
  | zero => exact Nat.le_refl 0
  | succ n ih =>
    have h1 := ih (fun x hx => h x (by omega))
    have h2 := h n (by omega)
    show fa_cnt p n + (if p n = true then 1 else 0) ≤ fa_cnt q n + (if q n = true then 1 else 0)
    by_cases hp : p n = true
    · rw [if_pos hp, if_pos (h2 hp)]
      omega
    · rw [if_neg hp]
      exact Nat.le_trans h1 (Nat.le_add_right _ _)
theorem cnt_lt {p q : Nat → Bool} (n : Nat) (h : ∀ x, x < n → p x = true → q x = true) {y : Nat} (hy : y < n) (hp : p y = false) (hq : q y = true) : fa_cnt p n < fa_cnt q n := by
  induction n with
  | zero => omega
  | succ n ih =>
    show fa_cnt p n + (if p n = true then 1 else 0) < fa_cnt q n + (if q n = true then 1 else 0)
    by_cases e : y = n
    · subst e
      have h1 := cnt_mono y (fun x hx => h x (by omega))
      rw [if_pos hq, if_neg (by rw [hp]; decide)]
      omega
    · have h1 := ih (fun x hx => h x (by omega)) (by omega)
      have h2 := h n (by omega)
      by_cases hp2 : p n = true
      · rw [if_pos hp2, if_pos (h2 hp2)]
        omega
      · rw [if_neg hp2]
        exact Nat.lt_of_lt_of_le h1 (Nat.le_add_right _ _)
theorem cnt_lt_n {p : Nat → Bool} (n : Nat) {y : Nat} (hy : y < n) (hp : p y = false) : fa_cnt p n < n := Nat.lt_of_lt_of_le (cnt_lt (q := fun _ => true) n (fun _ _ _ => rfl) hy hp rfl) (fa_cnt_le _ n)
theorem cnt_all {p : Nat → Bool} (n : Nat) (h : n ≤ fa_cnt p n) {x : Nat} (hx : x < n) : p x = true := by
  cases e : p x with
  | true => rfl
  | false =>
    have := cnt_lt_n n hx e
    omega
theorem min_by (D : Nat → Nat) (P : Nat → Prop) (v : Nat) : ∀ x, P x → D x ≤ v → ∃ y, P y ∧ ∀ z, P z → D y ≤ D z := by
  induction v with
  | zero => intro x hx h; exact ⟨x, hx, fun z _ => by omega⟩
  | succ v ih =>
    intro x hx h
    by_cases q : ∃ z, P z ∧ D z < D x
    · obtain ⟨z, hz, hlt⟩ := q
      exact ih z hz (by omega)
    · exact ⟨x, hx, fun z hz => Nat.le_of_not_lt (fun k => q ⟨z, hz, k⟩)⟩
abbrev NX : Type := Nat → Nat → Option Nat
def NXok (N L : Nat) (nx : NX) : Prop := ∀ x s t, x < N → s < L → nx x s = some t → t < N
def v0F (G : Nat → Bool) (I : Nat) (x : Nat) : Nat := if G x = true then 0 else I
def FX (N L : Nat) (nx : NX) (c : Nat → Nat) (G : Nat → Bool) (I : Nat) (D : Nat → Nat) : Prop := ∀ x, x < N → (G x = true → D x = 0) ∧ D x ≤ I ∧ (∀ s t, s < L → nx x s = some t → D x ≤ c s + D t) ∧ (G x = false → D x < I → ∃ s t, s < L ∧ nx x s = some t ∧ D x = c s + D t)
def SP (N L : Nat) (nx : NX) (c : Nat → Nat) (v0 v : Nat → Nat) : Prop := ∀ x, x < N → v x ≤ v0 x ∧ (v x = v0 x ∨ ∃ s t, s < L ∧ nx x s = some t ∧ c s + v t ≤ v x)
def CL (N L : Nat) (nx : NX) (c : Nat → Nat) (D : Nat → Nat) : Prop := ∀ x s t, x < N → s < L → nx x s = some t → D x ≤ c s + D t
def SW (N L : Nat) (nx : NX) (c : Nat → Nat) (v w : Nat → Nat) : Prop := ∀ x, x < N → w x ≤ v x ∧ (∀ s t, s < L → nx x s = some t → w x ≤ c s + v t) ∧ (w x = v x ∨ ∃ s t, s < L ∧ nx x s = some t ∧ c s + w t ≤ w x)
section BF
variable {N L I : Nat} {nx : NX} {c : Nat → Nat} {G : Nat → Bool} {D : Nat → Nat}
theorem bf_low {v v0 : Nat → Nat} (hN : NXok N L nx) (hc : ∀ s, s < L → 1 ≤ c s) (hD : CL N L nx c D) (h0 : ∀ x, x < N → D x ≤ v0 x) (hv : SP N L nx c v0 v) (n : Nat) : ∀ x, x < N → v x ≤ n → D x ≤ v x := by
  induction n with
  | zero =>
    intro x hx h
    rcases (hv x hx).2 with e | ⟨s, t, hs, ht, hle⟩
    · rw [e]
      exact h0 x hx
    · have := hc s hs
      omega
  | succ n ih =>
    intro x hx h
    rcases (hv x hx).2 with e | ⟨s, t, hs, ht, hle⟩
    · rw [e]
      exact h0 x hx
    · have h1 := hc s hs
      have h2 := ih t (hN x s t hx hs ht) (by omega)
      have h3 := hD x s t hx hs ht
      omega
theorem bf_fix {v : Nat → Nat} (hv : SP N L nx c (v0F G I) v) (hC : CL N L nx c v) : FX N L nx c G I v := by
  intro x hx
  obtain ⟨h1, h2⟩ := hv x hx
  unfold v0F at h1 h2
  refine ⟨fun g => ?_, ?_, fun s t hs ht => hC x s t hx hs ht, fun g hlt => ?_⟩
  · rw [if_pos g] at h1
    omega
  · split at h1 <;> omega
  · rw [if_neg (by rw [g]; decide)] at h2
    rcases h2 with e | ⟨s, t, hs, ht, hle⟩
    · omega
    · exact ⟨s, t, hs, ht, Nat.le_antisymm (hC x s t hx hs ht) hle⟩
theorem FX.cl (h : FX N L nx c G I D) : CL N L nx c D := fun x s t hx hs ht => (h x hx).2.2.1 s t hs ht
theorem FX.le0 (h : FX N L nx c G I D) : ∀ x, x < N → D x ≤ v0F G I x := fun x hx => by
  unfold v0F
  split
  · rename_i g
    rw [(h x hx).1 g]
    exact Nat.le_refl 0
  · exact (h x hx).2.1
theorem FX.sp (h : FX N L nx c G I D) : SP N L nx c (v0F G I) D := fun x hx => by
  refine ⟨h.le0 x hx, ?_⟩
  cases g : G x with
  | true => exact Or.inl (by unfold v0F; rw [if_pos g]; exact (h x hx).1 g)
  | false =>
    by_cases k : D x < I
    · obtain ⟨s, t, hs, ht, e⟩ := (h x hx).2.2.2 g k
      exact Or.inr ⟨s, t, hs, ht, by omega⟩
    · exact Or.inl (by unfold v0F; rw [if_neg (by rw [g]; decide)]; have := (h x hx).2.1; omega)
theorem FX.uniq {E : Nat → Nat} (hN : NXok N L nx) (hc : ∀ s, s < L → 1 ≤ c s) (h : FX N L nx c G I D) (k : FX N L nx c G I E) : ∀ x, x < N → D x = E x := fun x hx =>
  Nat.le_antisymm (bf_low hN hc h.cl h.le0 k.sp (E x) x hx (Nat.le_refl _)) (bf_low hN hc k.cl k.le0 h.sp (D x) x hx (Nat.le_refl _))
theorem FX.cong {E : Nat → Nat} (hN : NXok N L nx) (h : FX N L nx c G I D) (e : ∀ x, x < N → E x = D x) : FX N L nx c G I E := fun x hx => by
  obtain ⟨h1, h2, h3, h4⟩ := h x hx
  rw [e x hx]
  refine ⟨h1, h2, fun s t hs ht => ?_, fun g hlt => ?_⟩
  · rw [e t (hN x s t hx hs ht)]
    exact h3 s t hs ht
  · obtain ⟨s, t, hs, ht, q⟩ := h4 g hlt
    exact ⟨s, t, hs, ht, by rw [e t (hN x s t hx hs ht)]; exact q⟩
theorem SP.sw {v0 v w : Nat → Nat} (hN : NXok N L nx) (h : SP N L nx c v0 v) (k : SW N L nx c v w) : SP N L nx c v0 w := fun x hx => by
  obtain ⟨h1, h2⟩ := h x hx
  obtain ⟨k1, _, k3⟩ := k x hx
  refine ⟨Nat.le_trans k1 h1, ?_⟩
  rcases k3 with e | q
  · rcases h2 with e2 | ⟨s, t, hs, ht, hle⟩
    · exact Or.inl (e.trans e2)
    · exact Or.inr ⟨s, t, hs, ht, by have := (k t (hN x s t hx hs ht)).1; omega⟩
  · exact Or.inr q
theorem bf_stop {v0 : Nat → Nat} {u : Nat → Nat → Nat} (hs : ∀ j, SW N L nx c (u j) (u (j + 1))) (B : Nat) : ∀ j, pSum (u j) N ≤ B → ∃ m, ∀ x, x < N → u (m + 1) x = u m x := by
  induction B with
  | zero =>
    intro j h
    by_cases q : ∀ x, x < N → u (j + 1) x = u j x
    · exact ⟨j, q⟩
    · have q2 : ∃ x, x < N ∧ u (j + 1) x < u j x := Classical.byContradiction (fun k => q (fun x hx => Nat.le_antisymm (hs j x hx).1 (Nat.le_of_not_lt (fun l => k ⟨x, hx, l⟩))))
      obtain ⟨x, hx, hl⟩ := q2
      have := pSum_lt N (fun x hx => (hs j x hx).1) hx hl
      omega
  | succ B ih =>
    intro j h
    by_cases q : ∀ x, x < N → u (j + 1) x = u j x
    · exact ⟨j, q⟩
    · have q2 : ∃ x, x < N ∧ u (j + 1) x < u j x := Classical.byContradiction (fun k => q (fun x hx => Nat.le_antisymm (hs j x hx).1 (Nat.le_of_not_lt (fun l => k ⟨x, hx, l⟩))))
      obtain ⟨x, hx, hl⟩ := q2
      have := pSum_lt N (fun x hx => (hs j x hx).1) hx hl
      exact ih (j + 1) (by omega)
theorem bf_stay {u : Nat → Nat → Nat} (hs : ∀ j, SW N L nx c (u j) (u (j + 1))) {m : Nat} (hm : ∀ x, x < N → u (m + 1) x = u m x) : CL N L nx c (u m) := fun x s t hx hs2 ht => by
  have := (hs m x hx).2.1 s t hs2 ht
  rw [hm x hx] at this
  exact this
theorem bf_sp {u : Nat → Nat → Nat} (hN : NXok N L nx) (h0 : ∀ x, x < N → u 0 x = v0F G I x) (hs : ∀ j, SW N L nx c (u j) (u (j + 1))) (j : Nat) : SP N L nx c (v0F G I) (u j) := by
  induction j with
  | zero => exact fun x hx => ⟨Nat.le_of_eq (h0 x hx), Or.inl (h0 x hx)⟩
  | succ j ih => exact ih.sw hN (hs j)
/-- where a sweep changes nothing, it is the fixed point -/
theorem bf_done {u : Nat → Nat → Nat} (hN : NXok N L nx) (h0 : ∀ x, x < N → u 0 x = v0F G I x) (hs : ∀ j, SW N L nx c (u j) (u (j + 1))) {m : Nat} (hm : ∀ x, x < N → u (m + 1) x = u m x) : FX N L nx c G I (u m) := bf_fix (bf_sp hN h0 hs m) (bf_stay hs hm)
theorem bf_count {u : Nat → Nat → Nat} (hN : NXok N L nx) (hc : ∀ s, s < L → 1 ≤ c s) (h0 : ∀ x, x < N → u 0 x = v0F G I x) (hs : ∀ j, SW N L nx c (u j) (u (j + 1))) (hD : FX N L nx c G I D) (j : Nat) : (∀ x, x < N → u j x = D x) ∨ j ≤ fa_cnt (fun x => decide (u j x = D x)) N := by
  induction j with
  | zero => exact Or.inr (Nat.zero_le _)
  | succ j ih =>
    have low : ∀ i x, x < N → D x ≤ u i x := fun i x hx => bf_low hN hc hD.cl hD.le0 (bf_sp hN h0 hs i) (u i x) x hx (Nat.le_refl _)
    by_cases q : ∀ x, x < N → u j x = D x
    · refine Or.inl (fun x hx => Nat.le_antisymm ?_ (low (j + 1) x hx))
      rw [← q x hx]
      exact (hs j x hx).1
    · have ih2 : j ≤ fa_cnt (fun x => decide (u j x = D x)) N := by
        rcases ih with k | k
        · exact absurd k q
        · exact k
      have q2 : ∃ x, x < N ∧ u j x ≠ D x := Classical.byContradiction (fun k => q (fun x hx => Classical.byContradiction (fun l => k ⟨x, hx, l⟩)))
      obtain ⟨x0, hx0⟩ := q2
      obtain ⟨x, ⟨hx, hne⟩, hmin⟩ := min_by D (fun x => x < N ∧ u j x ≠ D x) (D x0) x0 hx0 (Nat.le_refl _)
      have hsp := bf_sp hN h0 hs j x hx
      have hl := low j x hx
      have hg : G x = false := by
        cases g : G x with
        | false => rfl
        | true =>
          have h1 := hsp.1
          unfold v0F at h1
          rw [if_pos g] at h1
          omega
      have hI : D x < I := by
        have h1 := hsp.1
        unfold v0F at h1
        rw [if_neg (by rw [hg]; decide)] at h1
        omega
      obtain ⟨s, t, hs1, ht, e⟩ := (hD x hx).2.2.2 hg hI
      have htN := hN x s t hx hs1 ht
      have hct := hc s hs1
      have het : u j t = D t := Classical.byContradiction (fun k => by
        have := hmin t ⟨htN, k⟩
        omega)
      have hnew : u (j + 1) x = D x := by
        have h1 := (hs j x hx).2.1 s t hs1 ht
        have h2 := low (j + 1) x hx
        omega
      refine Or.inr ?_
      have := cnt_lt (p := fun x => decide (u j x = D x)) (q := fun x => decide (u (j + 1) x = D x)) N (fun y hy hp => by
        have e1 : u j y = D y := of_decide_eq_true hp
        have h1 := (hs j y hy).1
        have h2 := low (j + 1) y hy
        exact decide_eq_true (by omega)) hx (decide_eq_false hne) (decide_eq_true hnew)
      omega
/-- after as many sweeps as there are places it is the fixed point -/
theorem bf_end {u : Nat → Nat → Nat} (hN : NXok N L nx) (hc : ∀ s, s < L → 1 ≤ c s) (h0 : ∀ x, x < N → u 0 x = v0F G I x) (hs : ∀ j, SW N L nx c (u j) (u (j + 1))) {j : Nat} (hj : N ≤ j) : FX N L nx c G I (u j) := by
  obtain ⟨m, hm⟩ := bf_stop (v0 := v0F G I) hs (pSum (u 0) N) 0 (Nat.le_refl _)
  have hD := bf_done hN h0 hs hm
  rcases bf_count hN hc h0 hs hD j with q | q
  · exact hD.cong hN q
  · exact hD.cong hN (fun x hx => of_decide_eq_true (cnt_all (p := fun x => decide (u j x = u m x)) N (by omega) hx))
/-! ### how far -/
def belowN (D : Nat → Nat) (N x : Nat) : Nat := fa_cnt (fun y => decide (D y < D x)) N
theorem below_lt {x : Nat} (hx : x < N) : belowN D N x < N := cnt_lt_n N hx (decide_eq_false (Nat.lt_irrefl _))
theorem below_step {x t : Nat} (ht : t < N) (h : D t < D x) : belowN D N t + 1 ≤ belowN D N x := cnt_lt (p := fun y => decide (D y < D t)) (q := fun y => decide (D y < D x)) N (fun y _ hp => decide_eq_true (Nat.lt_trans (of_decide_eq_true hp) h)) ht (decide_eq_false (Nat.lt_irrefl _)) (decide_eq_true h)
theorem FX.bound {CM : Nat} (hN : NXok N L nx) (hc : ∀ s, s < L → 1 ≤ c s) (hM : ∀ s, s < L → c s ≤ CM) (h : FX N L nx c G I D) (n : Nat) : ∀ x, x < N → D x ≤ n → D x < I → D x ≤ CM * belowN D N x := by
  induction n with
  | zero => intro x hx h0 hI; omega
  | succ n ih =>
    intro x hx hle hI
    cases g : G x with
    | true =>
      rw [(h x hx).1 g]
      exact Nat.zero_le _
    | false =>
      obtain ⟨s, t, hs, ht, e⟩ := (h x hx).2.2.2 g hI
      have h1 := hc s hs
      have h2 := hM s hs
      have htN := hN x s t hx hs ht
      have h3 := ih t htN (by omega) (by omega)
      have h4 := below_step (D := D) (x := x) htN (by omega)
      have h5 : CM * (belowN D N t + 1) ≤ CM * belowN D N x := Nat.mul_le_mul_left CM h4
      rw [Nat.mul_add, Nat.mul_one] at h5
      omega
theorem FX.mod {p : Nat → Nat} (hN : NXok N L nx) (hc : ∀ s, s < L → c s = 1000 * p s + 1) (hN9 : N ≤ 999) (h : FX N L nx c G I D) (n : Nat) : ∀ x, x < N → D x ≤ n → D x < I → D x % 1000 ≤ belowN D N x := by
  induction n with
  | zero =>
    intro x hx h0 hI
    rw [show D x = 0 by omega]
    exact Nat.zero_le _
  | succ n ih =>
    intro x hx hle hI
    cases g : G x with
    | true =>
      rw [(h x hx).1 g]
      exact Nat.zero_le _
    | false =>
      obtain ⟨s, t, hs, ht, e⟩ := (h x hx).2.2.2 g hI
      have h1 := hc s hs
      have htN := hN x s t hx hs ht
      have h3 := ih t htN (by omega) (by omega)
      have h4 := below_step (D := D) (x := x) htN (by omega)
      have h5 := below_lt (D := D) hx
      omega
/-! ### the first best label -/
def pkP (nx : NX) (c D : Nat → Nat) (x s : Nat) : Bool := match nx x s with
  | none => false
  | some t => decide (D x = c s + D t)
def pkF (L : Nat) (nx : NX) (c D : Nat → Nat) (x : Nat) : Nat := fa_first (pkP nx c D x) L
def pkN (L : Nat) (nx : NX) (c D : Nat → Nat) (x : Nat) : Nat := (nx x (pkF L nx c D x)).getD 0
def pkW (L : Nat) (nx : NX) (c D : Nat → Nat) : Nat → Nat → Nat
  | 0, x => x
  | j + 1, x => pkW L nx c D j (pkN L nx c D x)
theorem pkP_some {x s t : Nat} (h : nx x s = some t) : pkP nx c D x s = decide (D x = c s + D t) := by
  unfold pkP
  rw [h]
theorem pkP_t {x s : Nat} (h : pkP nx c D x s = true) : ∃ t, nx x s = some t ∧ D x = c s + D t := by
  unfold pkP at h
  cases e : nx x s with
  | none => rw [e] at h; cases h
  | some t => rw [e] at h; exact ⟨t, rfl, of_decide_eq_true h⟩
theorem first_lt {p : Nat → Bool} {n k : Nat} (hk : k < n) (h : p k = true) : fa_first p n < n := by
  have h1 := fa_first_le p n
  by_cases e : fa_first p n = n
  · have := fa_first_no p n k (by omega)
    rw [this] at h
    cases h
  · omega
theorem first_eq {p : Nat → Bool} {n k : Nat} (hk : k < n) (h : p k = true) (hb : ∀ i, i < k → p i = false) : fa_first p n = k := by
  have h1 := first_lt hk h
  have h2 := fa_first_yes p n h1
  rcases Nat.lt_trichotomy (fa_first p n) k with q | q | q
  · rw [hb _ q] at h2
    cases h2
  · exact q
  · rw [fa_first_no p n k q] at h
    cases h
theorem FX.pick (hN : NXok N L nx) (h : FX N L nx c G I D) {x : Nat} (hx : x < N) (hg : G x = false) (hI : D x < I) : pkF L nx c D x < L ∧ nx x (pkF L nx c D x) = some (pkN L nx c D x) ∧ pkN L nx c D x < N ∧ D x = c (pkF L nx c D x) + D (pkN L nx c D x) ∧ ∀ s, s < pkF L nx c D x → pkP nx c D x s = false := by
  obtain ⟨s, t, hs, ht, e⟩ := (h x hx).2.2.2 hg hI
  have h1 : pkF L nx c D x < L := first_lt hs (by rw [pkP_some ht]; exact decide_eq_true e)
  obtain ⟨t2, ht2, e2⟩ := pkP_t (fa_first_yes (pkP nx c D x) L h1)
  have h3 : pkN L nx c D x = t2 := by
    unfold pkN
    have : nx x (pkF L nx c D x) = some t2 := ht2
    rw [this]
    rfl
  rw [h3]
  exact ⟨h1, ht2, hN x _ t2 hx h1 ht2, e2, fun s hs => fa_first_no _ L s hs⟩
end BF
