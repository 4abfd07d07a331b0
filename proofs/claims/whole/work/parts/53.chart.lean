/-! the chart: settled it is the fixed point; what it spells -/
def UNR : Nat := 1000000000
def rC (N : Nat) (nx : NX) (c v : Nat → Nat) (ch : KS) : Prop := ch.1 = nI N ∧ (∀ x s, x < N → s < 29 → ch.2.1 (x * 29 + s) = oI (nx x s)) ∧ (∀ x, x < N → ch.2.2.1 x = nI (v x)) ∧ ∀ s, s < 29 → ch.2.2.2 s = nI (c s)
def coN (nx : NX) (c v : Nat → Nat) (x s : Nat) : Nat := match nx x s with
  | none => UNR
  | some t => v t + c s
def mnN (nx : NX) (c v : Nat → Nat) (x : Nat) : Nat → Nat → Nat → Nat
  | 0, _, w => w
  | m + 1, i, w => mnN nx c v x m (i + 1) (if w ≤ coN nx c v x i then w else coN nx c v x i)
def sw1 (nx : NX) (c : Nat → Nat) (x : Nat) (v : Nat → Nat) : Nat → Nat := updN v x (mnN nx c v x 29 0 (v x))
def swD (nx : NX) (c : Nat → Nat) : Nat → (Nat → Nat) → (Nat → Nat)
  | 0, v => v
  | m + 1, v => swD nx c m (sw1 nx c m v)
def pwF (f : (Nat → Nat) → (Nat → Nat)) : Nat → (Nat → Nat) → (Nat → Nat)
  | 0, v => v
  | j + 1, v => pwF f j (f v)
theorem pwF_s (f : (Nat → Nat) → (Nat → Nat)) (j : Nat) : ∀ v, pwF f (j + 1) v = f (pwF f j v) := by
  induction j with
  | zero => intro v; rfl
  | succ j ih => intro v; exact ih (f v)
section CH5
variable {N : Nat} {nx : NX} {c v : Nat → Nat} {ch : KS}
theorem le_R (h : rC N nx c v ch) (hN : N ≤ 96) {x s : Nat} (hx : x < N) (hs : s < 29) : leI ch (nI x) (nI s) = oI (nx x s) := by
  unfold leI
  rw [pk_mul, nI_add, if_neg (nI_pos (by omega)), if_neg (nI_ge (by omega) (by decide)), nI_clamp (by omega)]
  exact h.2.1 x s hx hs
theorem co_R (h : rC N nx c v ch) (hN : N ≤ 96) (hok : NXok N 29 nx) {x s : Nat} (hx : x < N) (hs : s < 29) : coI ch (nI x) (nI s) = nI (coN nx c v x s) := by
  unfold coI coN
  rw [le_R h hN hx hs]
  cases e : nx x s with
  | none => exact if_pos (show oI none < 0 by decide)
  | some t =>
    have ht := hok x s t hx hs e
    show (if nI t < 0 then (1000000000 : Int32) else if ch.1 ≤ nI t then 1000000000 else if nI s < 0 then 1000000000 else if nI s < nI 29 then ch.2.2.1 (nI t).toNatClampNeg + ch.2.2.2 (nI s).toNatClampNeg else 1000000000) = nI (v t + c s)
    rw [if_neg (nI_pos (by omega)), h.1, if_neg (nI_ge ht (by omega)), if_neg (nI_pos (by omega)), if_pos (nI_lt hs (by decide)), nI_clamp (by omega), nI_clamp (by omega), h.2.2.1 t ht, h.2.2.2 s hs, nI_add]
theorem co_le (hok : NXok N 29 nx) (hc : ∀ s, s < 29 → c s ≤ 50001) (hv : ∀ x, x < N → v x ≤ UNR) {x s : Nat} (hx : x < N) (hs : s < 29) : coN nx c v x s ≤ UNR + 50001 := by
  unfold coN
  cases e : nx x s with
  | none => show UNR ≤ _; omega
  | some t =>
    have h1 := hv t (hok x s t hx hs e)
    have h2 := hc s hs
    show v t + c s ≤ _
    omega
theorem im_R (h : rC N nx c v ch) (hN : N ≤ 96) (hok : NXok N 29 nx) (hc : ∀ s, s < 29 → c s ≤ 50001) (hv : ∀ x, x < N → v x ≤ UNR) {x : Nat} (hx : x < N) (m : Nat) : ∀ (i w : Nat), i + m ≤ 29 → w ≤ UNR + 50001 → imL ch (nI x) m i (nI w) = nI (mnN nx c v x m i w) := by
  have hU : UNR = 1000000000 := rfl
  induction m with
  | zero => intro i w _ _; rfl
  | succ m ih =>
    intro i w hi hw
    have hb := co_le hok hc hv hx (show i < 29 by omega)
    show imL ch (nI x) m (i + 1) (if nI w ≤ coI ch (nI x) (nI i) then nI w else coI ch (nI x) (nI i)) = nI (mnN nx c v x m (i + 1) (if w ≤ coN nx c v x i then w else coN nx c v x i))
    rw [co_R h hN hok hx (by omega)]
    by_cases q : w ≤ coN nx c v x i
    · rw [if_pos (nI_le q (by omega)), if_pos q]
      exact ih (i + 1) w (by omega) hw
    · rw [if_neg (nI_ge (by omega) (by omega)), if_neg q]
      exact ih (i + 1) _ (by omega) hb
theorem mn_p {x : Nat} (m : Nat) : ∀ (i w : Nat), mnN nx c v x m i w ≤ w ∧ (∀ s, i ≤ s → s < i + m → mnN nx c v x m i w ≤ coN nx c v x s) ∧ (mnN nx c v x m i w = w ∨ ∃ s, i ≤ s ∧ s < i + m ∧ mnN nx c v x m i w = coN nx c v x s) := by
  induction m with
  | zero => intro i w; exact ⟨Nat.le_refl _, fun s h1 h2 => absurd h2 (by omega), Or.inl rfl⟩
  | succ m ih =>
    intro i w
    have e : mnN nx c v x (m + 1) i w = mnN nx c v x m (i + 1) (if w ≤ coN nx c v x i then w else coN nx c v x i) := rfl
    rw [e]
    by_cases q : w ≤ coN nx c v x i
    · rw [if_pos q]
      obtain ⟨h1, h2, h3⟩ := ih (i + 1) w
      refine ⟨h1, fun s k1 k2 => ?_, ?_⟩
      · by_cases z : s = i
        · rw [z]
          omega
        · exact h2 s (by omega) (by omega)
      · rcases h3 with h3 | ⟨s, k1, k2, k3⟩
        · exact Or.inl h3
        · exact Or.inr ⟨s, by omega, by omega, k3⟩
    · rw [if_neg q]
      obtain ⟨h1, h2, h3⟩ := ih (i + 1) (coN nx c v x i)
      refine ⟨by omega, fun s k1 k2 => ?_, ?_⟩
      · by_cases z : s = i
        · rw [z]
          exact h1
        · exact h2 s (by omega) (by omega)
      · rcases h3 with h3 | ⟨s, k1, k2, k3⟩
        · exact Or.inr ⟨i, Nat.le_refl _, by omega, h3⟩
        · exact Or.inr ⟨s, by omega, by omega, k3⟩
theorem sw1_le {x y : Nat} : sw1 nx c x v y ≤ v y := by
  unfold sw1 updN
  split
  · rename_i h
    rw [h]
    exact (mn_p 29 0 _).1
  · exact Nat.le_refl _
theorem pl_R (h : rC N nx c v ch) (hN : N ≤ 96) {x : Nat} (hx : x < N) : plI ch (nI x) = true := by
  unfold plI
  rw [if_neg (nI_pos (by omega)), h.1, if_neg (nI_ge hx (by omega)), if_neg (show ¬ (96 : Int32) ≤ nI x from nI_ge (b := 96) (by omega) (by decide))]
theorem lc_R (h : rC N nx c v ch) (hN : N ≤ 96) {x : Nat} (hx : x < N) : lcI ch (nI x) = nI (v x) := by
  unfold lcI
  rw [if_pos (pl_R h hN hx), nI_clamp (by omega)]
  exact h.2.2.1 x hx
theorem imK_R (h : rC N nx c v ch) (hN : N ≤ 96) (hok : NXok N 29 nx) (hc : ∀ s, s < 29 → c s ≤ 50001) (hv : ∀ x, x < N → v x ≤ UNR) {x : Nat} (hx : x < N) : rC N nx c (sw1 nx c x v) (imK ch (nI x)) ∧ (imB ch (nI x) = false → sw1 nx c x v x = v x) := by
  have hU : UNR = 1000000000 := rfl
  have hp := pl_R h hN hx
  have hvx := hv x hx
  have hmn := (mn_p (nx := nx) (c := c) (v := v) (x := x) 29 0 (v x)).1
  have hV : imV ch (nI x) = nI (mnN nx c v x 29 0 (v x)) := by
    unfold imV
    rw [nI_clamp (by omega), h.2.2.1 x hx]
    exact im_R h hN hok hc hv hx 29 0 (v x) (by decide) (Nat.le_trans hvx (Nat.le_add_right _ _))
  have hs : sw1 nx c x v x = mnN nx c v x 29 0 (v x) := updN_s
  unfold imK imB
  rw [if_pos hp, if_pos hp, hV, nI_clamp (by omega), h.2.2.1 x hx]
  refine ⟨⟨h.1, h.2.1, fun y hy => ?_, h.2.2.2⟩, fun q => ?_⟩
  · show upd ch.2.2.1 x (nI (mnN nx c v x 29 0 (v x))) y = nI (sw1 nx c x v y)
    by_cases e : y = x
    · rw [e, pk_us, hs]
    · rw [pk_un e, h.2.2.1 y hy]
      unfold sw1
      rw [updN_n e]
  · rw [hs]
    by_cases z : nI (v x) ≤ nI (mnN nx c v x 29 0 (v x))
    · have := (nI_leI (by omega) (by omega)).mp z
      omega
    · rw [if_neg z] at q
      cases q
theorem sw1_bd (hv : ∀ x, x < N → v x ≤ UNR) {x : Nat} : ∀ y, y < N → sw1 nx c x v y ≤ UNR := fun y hy => Nat.le_trans sw1_le (hv y hy)
theorem in_R (hN : N ≤ 96) (hok : NXok N 29 nx) (hc : ∀ s, s < 29 → c s ≤ 50001) (m : Nat) : ∀ (b : Bool) (v : Nat → Nat) (ch : KS), m ≤ N → (∀ x, x < N → v x ≤ UNR) → rC N nx c v ch → rC N nx c (swD nx c m v) (inL m b ch).2 ∧ ((inL m b ch).1 = false → b = false ∧ ∀ x, x < N → swD nx c m v x = v x) := by
  induction m with
  | zero => intro b v ch _ _ h; exact ⟨h, fun q => ⟨q, fun _ _ => rfl⟩⟩
  | succ m ih =>
    intro b v ch hm hv h
    obtain ⟨h1, h2⟩ := imK_R h hN hok hc hv (show m < N by omega)
    obtain ⟨k1, k2⟩ := ih (imB ch (nI m) || b) (sw1 nx c m v) (imK ch (nI m)) (by omega) (sw1_bd hv) h1
    refine ⟨k1, fun q => ?_⟩
    obtain ⟨q1, q2⟩ := k2 q
    have q3 : imB ch (nI m) = false := by
      cases hh : imB ch (nI m) with
      | true => rw [hh] at q1; cases q1
      | false => rfl
    rw [q3] at q1
    refine ⟨q1, fun x hx => (q2 x hx).trans ?_⟩
    by_cases e : x = m
    · rw [e]
      exact h2 q3
    · unfold sw1
      exact updN_n e
/-- a part of a sweep: the places from d on -/
theorem swD_p (hok : NXok N 29 nx) (hc : ∀ s, s < 29 → 1 ≤ c s) (v : Nat → Nat) (m : Nat) : ∀ (u : Nat → Nat), m ≤ N → (∀ x, x < N → u x ≤ UNR) → (∀ x, x < N → u x ≤ v x ∧ (m ≤ x → ∀ s t, s < 29 → nx x s = some t → u x ≤ c s + v t) ∧ (u x = v x ∨ ∃ s t, s < 29 ∧ nx x s = some t ∧ c s + u t ≤ u x)) → SW N 29 nx c v (swD nx c m u) := by
  induction m with
  | zero => intro u _ _ h; exact fun x hx => ⟨(h x hx).1, (h x hx).2.1 (Nat.zero_le _), (h x hx).2.2⟩
  | succ m ih =>
    intro u hm hb h
    have hmN : m < N := by omega
    refine ih (sw1 nx c m u) (by omega) (sw1_bd hb) (fun x hx => ⟨Nat.le_trans sw1_le (h x hx).1, fun hmx s t hs ht => ?_, ?_⟩)
    · by_cases e : x = m
      · subst e
        have h1 := (mn_p (nx := nx) (c := c) (v := u) (x := x) 29 0 (u x)).2.1 s (Nat.zero_le _) (by omega)
        have h2 := (h t (hok x s t hx hs ht)).1
        unfold coN at h1
        rw [ht] at h1
        have h1 : mnN nx c u x 29 0 (u x) ≤ u t + c s := h1
        show updN u x (mnN nx c u x 29 0 (u x)) x ≤ _
        rw [updN_s]
        omega
      · show updN u m _ x ≤ _
        rw [updN_n e]
        exact (h x hx).2.1 (by omega) s t hs ht
    · by_cases e : x = m
      · subst e
        have hsx : sw1 nx c x u x = mnN nx c u x 29 0 (u x) := updN_s
        rcases (mn_p (nx := nx) (c := c) (v := u) (x := x) 29 0 (u x)).2.2 with q | ⟨s, _, hs, q⟩
        · rw [hsx, q]
          rcases (h x hx).2.2 with z | ⟨s, t, hs, ht, hle⟩
          · exact Or.inl z
          · exact Or.inr ⟨s, t, hs, ht, by have : sw1 nx c x u t ≤ u t := sw1_le; omega⟩
        · have hs : s < 29 := by omega
          unfold coN at q
          cases ht : nx x s with
          | none =>
            rw [ht] at q
            have q : mnN nx c u x 29 0 (u x) = UNR := q
            have h1 := (mn_p (nx := nx) (c := c) (v := u) (x := x) 29 0 (u x)).1
            have h2 := hb x hx
            have h3 : mnN nx c u x 29 0 (u x) = u x := by omega
            rw [hsx, h3]
            rcases (h x hx).2.2 with z | ⟨s, t, hs, ht, hle⟩
            · exact Or.inl z
            · exact Or.inr ⟨s, t, hs, ht, by have : sw1 nx c x u t ≤ u t := sw1_le; omega⟩
          | some t =>
            rw [ht] at q
            have q : mnN nx c u x 29 0 (u x) = u t + c s := q
            exact Or.inr ⟨s, t, hs, ht, by have : sw1 nx c x u t ≤ u t := sw1_le; rw [hsx]; omega⟩
      · have hx1 : sw1 nx c m u x = u x := by unfold sw1; exact updN_n e
        rw [hx1]
        rcases (h x hx).2.2 with z | ⟨s, t, hs, ht, hle⟩
        · exact Or.inl z
        · exact Or.inr ⟨s, t, hs, ht, by have : sw1 nx c m u t ≤ u t := sw1_le; omega⟩
theorem swD_SW (hok : NXok N 29 nx) (hc : ∀ s, s < 29 → 1 ≤ c s) {v : Nat → Nat} (hb : ∀ x, x < N → v x ≤ UNR) : SW N 29 nx c v (swD nx c N v) := swD_p hok hc v N v (Nat.le_refl _) hb (fun x hx => ⟨Nat.le_refl _, fun h => absurd h (by omega), Or.inl rfl⟩)
theorem pw_bd (hok : NXok N 29 nx) (hc : ∀ s, s < 29 → 1 ≤ c s) (j : Nat) : ∀ (v : Nat → Nat), (∀ x, x < N → v x ≤ UNR) → ∀ x, x < N → pwF (swD nx c N) j v x ≤ UNR := by
  induction j with
  | zero => intro v hb; exact hb
  | succ j ih => intro v hb; exact ih _ (fun x hx => Nat.le_trans (swD_SW hok hc hb x hx).1 (hb x hx))
theorem se_R (hN : N ≤ 96) (hok : NXok N 29 nx) (hc1 : ∀ s, s < 29 → 1 ≤ c s) (hc : ∀ s, s < 29 → c s ≤ 50001) (m : Nat) : ∀ (v : Nat → Nat) (ch : KS), (∀ x, x < N → v x ≤ UNR) → rC N nx c v ch → ∃ j, rC N nx c (pwF (swD nx c N) j v) (seL N m true ch) ∧ (j = m ∨ ∃ i, j = i + 1 ∧ ∀ x, x < N → pwF (swD nx c N) (i + 1) v x = pwF (swD nx c N) i v x) := by
  induction m with
  | zero => intro v ch _ h; exact ⟨0, h, Or.inl rfl⟩
  | succ m ih =>
    intro v ch hb h
    obtain ⟨h1, h2⟩ := in_R hN hok hc N false v ch (Nat.le_refl _) hb h
    have e : seL N (m + 1) true ch = seL N m (inL N false ch).1 (inL N false ch).2 := rfl
    rw [e]
    cases hf : (inL N false ch).1 with
    | true =>
      obtain ⟨j, k1, k2⟩ := ih (swD nx c N v) (inL N false ch).2 (fun x hx => Nat.le_trans (swD_SW hok hc1 hb x hx).1 (hb x hx)) h1
      refine ⟨j + 1, k1, ?_⟩
      rcases k2 with k2 | ⟨i, k2, k3⟩
      · exact Or.inl (by omega)
      · exact Or.inr ⟨i + 1, by omega, k3⟩
    | false =>
      refine ⟨1, ?_, Or.inr ⟨0, rfl, (h2 hf).2⟩⟩
      have e2 : seL N m false (inL N false ch).2 = (inL N false ch).2 := by
        cases m with
        | zero => rfl
        | succ m => rfl
      rw [e2]
      exact h1
theorem settle_R {G : Nat → Bool} (hN : N ≤ 96) (hok : NXok N 29 nx) (hc1 : ∀ s, s < 29 → 1 ≤ c s) (hc : ∀ s, s < 29 → c s ≤ 50001) (h : rC N nx c (v0F G UNR) ch) : ∃ D, FX N 29 nx c G UNR D ∧ rC N nx c D (seL N (N + 1) true ch) := by
  have hb : ∀ x, x < N → v0F G UNR x ≤ UNR := fun x _ => by
    unfold v0F
    split
    · exact Nat.zero_le _
    · exact Nat.le_refl _
  have hs : ∀ j, SW N 29 nx c (pwF (swD nx c N) j (v0F G UNR)) (pwF (swD nx c N) (j + 1) (v0F G UNR)) := fun j => by
    rw [pwF_s]
    exact swD_SW hok hc1 (pw_bd hok hc1 j _ hb)
  obtain ⟨j, k1, k2⟩ := se_R hN hok hc1 hc (N + 1) (v0F G UNR) ch hb h
  refine ⟨_, ?_, k1⟩
  rcases k2 with k2 | ⟨i, k2, k3⟩
  · exact bf_end (u := fun j => pwF (swD nx c N) j (v0F G UNR)) hok hc1 (fun _ _ => rfl) hs (by omega)
  · rw [k2]
    exact (bf_done (u := fun j => pwF (swD nx c N) j (v0F G UNR)) hok (fun _ _ => rfl) hs k3).cong hok k3
/-! ### what is spelled -/
def sayN (s : Nat) : Nat := (sa_L 0).getD s 0
def ky (s : Nat) : Nat := sayN s / 10
def ny (s : Nat) : Nat := sayN s % 10
theorem say_ok : ∀ s, s < 29 → okS (ky s) (ny s) := by
  unfold okS
  decide
theorem sayN_e (s : Nat) : sayN s = 10 * ky s + ny s := by
  unfold ky ny
  omega
def sqS (nx : NX) (c D : Nat → Nat) : Nat → Nat → MS → MS
  | 0, _, s => s
  | m + 1, x, s => sqS nx c D m (pkN 29 nx c D x) (s.1 + 1, updN s.2.1 s.1 (ky (pkF 29 nx c D x)), updN s.2.2 s.1 (ny (pkF 29 nx c D x)))
theorem fo_R {D : Nat → Nat} {G : Nat → Bool} (h : rC N nx c D ch) (hN : N ≤ 96) (hok : NXok N 29 nx) (hc : ∀ s, s < 29 → c s ≤ 50001) (hF : FX N 29 nx c G UNR D) {x : Nat} (hx : x < N) (hg : G x = false) (hI : D x < UNR) (m : Nat) : ∀ i, i + m = 29 → i ≤ pkF 29 nx c D x → foL ch (nI x) m i = nI (pkF 29 nx c D x) := by
  have hU : UNR = 1000000000 := rfl
  obtain ⟨p1, p2, p3, p4, p5⟩ := hF.pick hok hx hg hI
  have hbd : ∀ y, y < N → D y ≤ UNR := fun y hy => (hF y hy).2.1
  induction m with
  | zero => intro i hi hle; omega
  | succ m ih =>
    intro i hi hle
    have hb := co_le hok hc hbd hx (show i < 29 by omega)
    show (if coI ch (nI x) (nI i) = lcI ch (nI x) then nI i else foL ch (nI x) m (i + 1)) = _
    rw [co_R h hN hok hx (by omega), lc_R h hN hx]
    by_cases e : i = pkF 29 nx c D x
    · have : coN nx c D x i = D x := by
        unfold coN
        rw [e, p2]
        show D (pkN 29 nx c D x) + c (pkF 29 nx c D x) = D x
        omega
      rw [if_pos (by rw [this]), e]
    · have hno := p5 i (by omega)
      have : ¬ coN nx c D x i = D x := fun q => by
        unfold coN at q
        cases ht : nx x i with
        | none =>
          rw [ht] at q
          have q : UNR = D x := q
          omega
        | some t =>
          rw [ht] at q
          have q : D t + c i = D x := q
          rw [pkP_some ht] at hno
          exact of_decide_eq_false hno (by omega)
      rw [if_neg (fun q => this ((nI_eq (by omega) (by omega)).mp q))]
      exact ih (i + 1) (by omega) (by omega)
theorem FX.next {D : Nat → Nat} {G : Nat → Bool} {p : Nat → Nat} (hok : NXok N 29 nx) (hN : N ≤ 96) (hc : ∀ s, s < 29 → c s = 1000 * p s + 1) (hF : FX N 29 nx c G UNR D) {x : Nat} (hx : x < N) (hg : G x = false) (hI : D x < UNR) : D (pkN 29 nx c D x) < UNR ∧ D x % 1000 = D (pkN 29 nx c D x) % 1000 + 1 ∧ D x / 1000 = p (pkF 29 nx c D x) + D (pkN 29 nx c D x) / 1000 ∧ D (pkN 29 nx c D x) % 1000 + 1 < N := by
  obtain ⟨p1, p2, p3, p4, p5⟩ := hF.pick hok hx hg hI
  have h1 := hc _ p1
  have h2 := hF.mod hok hc (by omega) _ _ p3 (Nat.le_refl _) (by omega)
  have h4 := below_step (D := D) (x := x) p3 (by omega)
  have h5 := below_lt (D := D) hx
  omega
theorem sp_R {D : Nat → Nat} {G : Nat → Bool} {p : Nat → Nat} (h : rC N nx c D ch) (hN : N ≤ 96) (hok : NXok N 29 nx) (hc : ∀ s, s < 29 → c s = 1000 * p s + 1) (hp : ∀ s, s < 29 → p s ≤ 50) (hF : FX N 29 nx c G UNR D) (m : Nat) : ∀ (x : Nat) (y : RS) (s : MS), x < N → D x < UNR → D x % 1000 = m → yR y s → s.1 + m ≤ 60 → VS s → (spL ch m (nI x) y).1 = true ∧ yR (spL ch m (nI x) y).2 (sqS nx c D m x s) ∧ VS (sqS nx c D m x s) := by
  have hc5 : ∀ s, s < 29 → c s ≤ 50001 := fun s hs => by have h1 := hc s hs; have h2 := hp s hs; omega
  induction m with
  | zero => intro x y s _ _ _ hy _ hs; exact ⟨rfl, hy, hs⟩
  | succ m ih =>
    intro x y s hx hI hm hy hs6 hs
    have hg : G x = false := by
      cases g : G x with
      | false => rfl
      | true =>
        have := (hF x hx).1 g
        rw [this] at hm
        cases hm
    obtain ⟨p1, p2, p3, p4, p5⟩ := hF.pick hok hx hg hI
    obtain ⟨n1, n2, n3, n4⟩ := hF.next hok hN hc hx hg hI
    have hfo := fo_R h hN hok hc5 hF hx hg hI 29 0 rfl (Nat.zero_le _)
    have e : spL ch (m + 1) (nI x) y = if syI (foL ch (nI x) 29 0) = true then spL ch m (leI ch (nI x) (foL ch (nI x) 29 0)) (yP y (sa_f 0 (foL ch (nI x) 29 0).toNatClampNeg)) else (false, y) := rfl
    have hsy : syI (nI (pkF 29 nx c D x)) = true := by
      unfold syI
      rw [if_neg (nI_pos (by omega)), if_neg (nI_ge p1 (by decide))]
    rw [e, hfo, if_pos hsy, le_R h hN hx p1, p2, nI_clamp (by omega)]
    have hok2 := say_ok _ p1
    refine ih (pkN 29 nx c D x) _ (s.1 + 1, updN s.2.1 s.1 (ky (pkF 29 nx c D x)), updN s.2.2 s.1 (ny (pkF 29 nx c D x))) p3 n1 (by omega) ?_ (by show s.1 + 1 + m ≤ 60; omega) ⟨by show s.1 + 1 ≤ 60; omega, fun i hi => ?_⟩
    · refine ⟨?_, fun i hi => ?_⟩
      · show adZ 60 y.1 = nI (s.1 + 1)
        rw [hy.1, adZ_n (by decide) (by omega), if_pos (by omega)]
      · have hi : i < s.1 + 1 := hi
        show adF 60 y.1 y.2 (sa_f 0 (pkF 29 nx c D x)) i = nI (10 * updN s.2.1 s.1 (ky (pkF 29 nx c D x)) i + updN s.2.2 s.1 (ny (pkF 29 nx c D x)) i)
        rw [hy.1, adF_n (by decide) (by omega), if_pos (by omega)]
        by_cases q : i = s.1
        · rw [q, pk_us, updN_s, updN_s, ← sayN_e]
          rfl
        · rw [pk_un q, updN_n q, updN_n q]
          exact hy.2 i (by omega)
    · have hi : i < s.1 + 1 := hi
      show okS (updN s.2.1 s.1 (ky (pkF 29 nx c D x)) i) (updN s.2.2 s.1 (ny (pkF 29 nx c D x)) i)
      by_cases q : i = s.1
      · rw [q, updN_s, updN_s]
        exact hok2
      · rw [updN_n q, updN_n q]
        exact hs.2 i (by omega)
end CH5
