/-! route: the distances of both sides are the fixed point -/
theorem rNX_e {ld : Nat → Option Nat} {k e t : Nat} (h : rNX ld k e = some t) : ∃ y, ld (4 * k + e) = some y ∧ t = y / 4 := by
  unfold rNX at h
  cases hy : ld (4 * k + e) with
  | none => rw [hy] at h; cases h
  | some y => rw [hy] at h; exact ⟨y, rfl, (Option.some.inj h).symm⟩
theorem rNX_i {ld : Nat → Option Nat} {k e y : Nat} (h : ld (4 * k + e) = some y) : rNX ld k e = some (y / 4) := by
  unfold rNX
  rw [h]
  rfl
theorem rNX_no {ld : Nat → Option Nat} {k e : Nat} (h : ld (4 * k + e) = none) : rNX ld k e = none := by
  unfold rNX
  rw [h]
  rfl
theorem rNX_ok {N : MN} (hv : VN N) : NXok N.1 4 (rNX N.2.2.1) := fun x s t hx hs h => by
  have hK := hv.1
  obtain ⟨y, hy, e⟩ := rNX_e h
  have := (hv.2.1 _ y (by omega) hy).2.1
  omega
theorem rNX_sym {N : MN} (hv : VN N) {x s t : Nat} (hx : x < N.1) (hs : s < 4) (h : rNX N.2.2.1 x s = some t) : ∃ e, e < 4 ∧ rNX N.2.2.1 t e = some x := by
  have hK := hv.1
  obtain ⟨y, hy, e⟩ := rNX_e h
  obtain ⟨h1, h2, h3, h4⟩ := hv.2.1 _ y (by omega) hy
  refine ⟨y % 4, by omega, ?_⟩
  have : rNX N.2.2.1 t (y % 4) = some ((4 * x + s) / 4) := rNX_i (by rw [e, show 4 * (y / 4) + y % 4 = y by omega]; exact h4)
  rw [this]
  congr 1
  omega
def rG (T : Nat) (x : Nat) : Bool := decide (x = T)
/-! ### the reference -/
theorem rx_SW {N : MN} (hv : VN N) (v : Nat → Nat) (m : Nat) : ∀ (i : Nat) (u : Nat → Nat), i + m = 4 * N.1 → (∀ x, x < N.1 → u x ≤ v x ∧ (∀ s t, s < 4 → 4 * x + s < i → rNX N.2.2.1 x s = some t → u x ≤ one1 s + v t) ∧ (u x = v x ∨ ∃ s t, s < 4 ∧ rNX N.2.2.1 x s = some t ∧ one1 s + u t ≤ u x)) → SW N.1 4 (rNX N.2.2.1) one1 v (itT (rxF N.2.2.1) m i u) := by
  have hK := hv.1
  induction m with
  | zero =>
    intro i u hi h
    exact fun x hx => ⟨(h x hx).1, fun s t hs ht => (h x hx).2.1 s t hs (by omega) ht, (h x hx).2.2⟩
  | succ m ih =>
    intro i u hi h
    refine ih (i + 1) (rxF N.2.2.1 i u) (by omega) (fun x hx => ?_)
    cases hy : N.2.2.1 i with
    | none =>
      have e : rxF N.2.2.1 i u = u := by unfold rxF; rw [hy]
      rw [e]
      refine ⟨(h x hx).1, fun s t hs hlt ht => ?_, (h x hx).2.2⟩
      by_cases q : 4 * x + s = i
      · rw [rNX_no (by rw [q]; exact hy)] at ht
        cases ht
      · exact (h x hx).2.1 s t hs (by omega) ht
    | some y =>
      have hyN := (hv.2.1 i y (by omega) hy).2.1
      have e : rxF N.2.2.1 i u = if u (y / 4) + 1 < u (i / 4) then updN u (i / 4) (u (y / 4) + 1) else u := by unfold rxF; rw [hy]
      have hly := (h (y / 4) (by omega)).1
      have hnx : rNX N.2.2.1 (i / 4) (i % 4) = some (y / 4) := rNX_i (by rw [show 4 * (i / 4) + i % 4 = i by omega]; exact hy)
      rw [e]
      by_cases c : u (y / 4) + 1 < u (i / 4)
      · rw [if_pos c]
        have hne : ¬ y / 4 = i / 4 := fun q => by rw [q] at c; omega
        have hle : ∀ z, updN u (i / 4) (u (y / 4) + 1) z ≤ u z := fun z => by
          unfold updN
          split
          · rename_i q
            rw [q]
            omega
          · exact Nat.le_refl _
        by_cases q : x = i / 4
        · subst q
          rw [updN_s]
          refine ⟨by have := (h (i / 4) hx).1; omega, fun s t hs hlt ht => ?_, Or.inr ⟨i % 4, y / 4, by omega, hnx, ?_⟩⟩
          · by_cases q2 : s = i % 4
            · rw [q2, hnx] at ht
              cases ht
              show u (y / 4) + 1 ≤ 1 + v (y / 4)
              omega
            · have := (h (i / 4) hx).2.1 s t hs (by omega) ht
              have : u (i / 4) ≤ 1 + v t := this
              show u (y / 4) + 1 ≤ 1 + v t
              omega
          · rw [updN_n hne]
            show 1 + u (y / 4) ≤ _
            omega
        · rw [updN_n q]
          refine ⟨(h x hx).1, fun s t hs hlt ht => (h x hx).2.1 s t hs (by omega) ht, ?_⟩
          rcases (h x hx).2.2 with z | ⟨s, t, hs, ht, hl⟩
          · exact Or.inl z
          · exact Or.inr ⟨s, t, hs, ht, by have := hle t; omega⟩
      · rw [if_neg c]
        refine ⟨(h x hx).1, fun s t hs hlt ht => ?_, (h x hx).2.2⟩
        by_cases q : 4 * x + s = i
        · have e1 : x = i / 4 := by omega
          have e2 : s = i % 4 := by omega
          subst e1
          subst e2
          rw [hnx] at ht
          cases ht
          show u (i / 4) ≤ 1 + v (y / 4)
          omega
        · exact (h x hx).2.1 s t hs (by omega) ht
theorem it_pw (f : (Nat → Nat) → (Nat → Nat)) (m : Nat) : ∀ (i : Nat) (v : Nat → Nat), itT (fun _ g => f g) m i v = pwF f m v := by
  induction m with
  | zero => intro i v; rfl
  | succ m ih => intro i v; exact ih (i + 1) (f v)
theorem r0_at {T : Nat} (m : Nat) : ∀ (i : Nat) (f : Nat → Nat) (x : Nat), itT (r0F T) m i f x = if i ≤ x ∧ x < i + m then (if x = T then 0 else BIG) else f x := by
  induction m with
  | zero => intro i f x; exact (if_neg (by omega)).symm
  | succ m ih =>
    intro i f x
    show itT (r0F T) m (i + 1) (r0F T i f) x = _
    rw [ih]
    by_cases c : i + 1 ≤ x ∧ x < i + 1 + m
    · have c2 : i ≤ x ∧ x < i + (m + 1) := by omega
      rw [if_pos c, if_pos c2]
    · rw [if_neg c]
      unfold r0F
      by_cases z : x = i
      · have c2 : i ≤ i ∧ i < i + (m + 1) := by omega
        rw [z, updN_s, if_pos c2]
      · have c2 : ¬ (i ≤ x ∧ x < i + (m + 1)) := by omega
        rw [updN_n z, if_neg c2]
theorem ra_FX {N : MN} (hv : VN N) {T : Nat} {fr : Nat → Nat} : FX N.1 4 (rNX N.2.2.1) one1 (rG T) BIG (raF N.2.2.1 N.1 T fr) := by
  unfold raF
  rw [it_pw]
  refine bf_end (u := fun j => pwF (rsF N.2.2.1 N.1) j (itT (r0F T) N.1 0 fr)) (rNX_ok hv) (fun _ _ => Nat.le_refl 1) (fun x hx => ?_) (fun j => ?_) (Nat.le_refl _)
  · show itT (r0F T) N.1 0 fr x = v0F (rG T) BIG x
    have c2 : 0 ≤ x ∧ x < 0 + N.1 := by omega
    rw [r0_at, if_pos c2]
    unfold v0F rG
    by_cases c : x = T
    · rw [if_pos c, if_pos (decide_eq_true c)]
    · rw [if_neg c, if_neg (by rw [decide_eq_false c]; decide)]
  · show SW N.1 4 (rNX N.2.2.1) one1 (pwF (rsF N.2.2.1 N.1) j (itT (r0F T) N.1 0 fr)) (pwF (rsF N.2.2.1 N.1) (j + 1) (itT (r0F T) N.1 0 fr))
    rw [pwF_s]
    exact rx_SW hv _ (4 * N.1) 0 _ (by omega) (fun x _ => ⟨Nat.le_refl _, fun s t _ h => absurd h (by omega), Or.inl rfl⟩)
/-! ### the system: knots are reached in a row -/
abbrev BG : Type := Nat × (Nat → Nat) × (Nat → Option Nat)
def bR (n : NS) (N : MN) (b : BG) : Prop := n.1 = nI N.1 ∧ n.2.2.2.1 = (fun x => oI (N.2.2.1 x)) ∧ (∀ x, x < 24 → n.2.2.2.2.2.1 x = oI (b.2.2 x)) ∧ n.2.2.2.2.2.2.1 = nI b.1 ∧ ∀ i, i < b.1 → n.2.2.2.2.2.2.2 i = nI (b.2.1 i)
def rcG (b : BG) (x d : Nat) : BG := match b.2.2 x with
  | none => (b.1 + 1, updN b.2.1 b.1 x, updO b.2.2 x (some d))
  | some _ => b
def BI (ld : Nat → Option Nat) (K T i e : Nat) (b : BG) : Prop :=
  b.1 = fa_cnt (fun x => (b.2.2 x).isSome) K ∧ i ≤ b.1 ∧ (∀ j, j < b.1 → b.2.1 j < K ∧ ∃ d, b.2.2 (b.2.1 j) = some d ∧ d ≤ j) ∧ (∀ x d, x < K → b.2.2 x = some d → ∃ j, j < b.1 ∧ b.2.1 j = x) ∧ (∀ j j' d d', j < j' → j' < b.1 → b.2.2 (b.2.1 j) = some d → b.2.2 (b.2.1 j') = some d' → d ≤ d') ∧ (∀ j d d0, j < b.1 → i < b.1 → b.2.2 (b.2.1 j) = some d → b.2.2 (b.2.1 i) = some d0 → d ≤ d0 + 1) ∧ b.2.2 T = some 0 ∧ (∀ x d, x < K → ¬ x = T → b.2.2 x = some d → ∃ s t d', s < 4 ∧ rNX ld x s = some t ∧ b.2.2 t = some d' ∧ d = 1 + d') ∧ (∀ j s t, j < b.1 → j < i ∨ (j = i ∧ s < e) → s < 4 → rNX ld (b.2.1 j) s = some t → ∃ d d', b.2.2 (b.2.1 j) = some d ∧ b.2.2 t = some d' ∧ d' ≤ d + 1)
theorem cnt_one {p q : Nat → Bool} {y : Nat} (n : Nat) (hy : y < n) (hp : p y = false) (hq : q y = true) (h : ∀ x, ¬ x = y → q x = p x) : fa_cnt q n = fa_cnt p n + 1 := by
  induction n with
  | zero => omega
  | succ n ih =>
    show fa_cnt q n + (if q n = true then 1 else 0) = fa_cnt p n + (if p n = true then 1 else 0) + 1
    by_cases e : y = n
    · subst e
      rw [if_pos hq, if_neg (by rw [hp]; decide), fa_cnt_cong (p := q) (q := p) (fun k hk => h k (by omega))]
    · rw [ih (by omega), h n (fun q => e q.symm)]
      omega
theorem BI.le {ld : Nat → Option Nat} {K T i e : Nat} {b : BG} (h : BI ld K T i e b) : b.1 ≤ K := by
  rw [h.1]
  exact fa_cnt_le _ K
theorem updO_s {f : Nat → Option Nat} {i : Nat} {v : Option Nat} : updO f i v i = v := if_pos rfl
theorem updO_n {f : Nat → Option Nat} {i j : Nat} {v : Option Nat} (h : ¬ j = i) : updO f i v j = f j := if_neg h
theorem BI.step {N : MN} {T i e : Nat} {b : BG} (hv : VN N) (h : BI N.2.2.1 N.1 T i e b) (hi : i < b.1) (he : e < 4) {d0 : Nat} (hd0 : b.2.2 (b.2.1 i) = some d0) : BI N.2.2.1 N.1 T i (e + 1) (match rNX N.2.2.1 (b.2.1 i) e with
    | none => b
    | some t => rcG b t (d0 + 1)) := by
  obtain ⟨h1, h2, h3, h4, h5, h6, h7, h8, h9⟩ := id h
  cases ht : rNX N.2.2.1 (b.2.1 i) e with
  | none =>
    refine ⟨h1, h2, h3, h4, h5, h6, h7, h8, fun j s t hj hc hs hn => ?_⟩
    by_cases q : j = i ∧ s = e
    · rw [q.1, q.2, ht] at hn
      cases hn
    · exact h9 j s t hj (by omega) hs hn
  | some t =>
    show BI N.2.2.1 N.1 T i (e + 1) (rcG b t (d0 + 1))
    have hqi := (h3 i hi).1
    have htN := rNX_ok hv _ e t hqi he ht
    unfold rcG
    cases hdt : b.2.2 t with
    | some d1 =>
      refine ⟨h1, h2, h3, h4, h5, h6, h7, h8, fun j s t2 hj hc hs hn => ?_⟩
      by_cases q : j = i ∧ s = e
      · rw [q.1, q.2, ht] at hn
        cases hn
        rw [q.1]
        obtain ⟨j2, hj2, e2⟩ := h4 t d1 htN hdt
        exact ⟨d0, d1, hd0, hdt, h6 j2 d1 d0 hj2 hi (by rw [e2]; exact hdt) hd0⟩
      · exact h9 j s t2 hj (by omega) hs hn
    | none =>
      have hne : ∀ j, j < b.1 → ¬ b.2.1 j = t := fun j hj q => by
        obtain ⟨d, hd, _⟩ := (h3 j hj).2
        rw [q, hdt] at hd
        cases hd
      have hT : ¬ T = t := fun q => by
        rw [← q, h7] at hdt
        cases hdt
      have hold : ∀ j, j < b.1 → updO b.2.2 t (some (d0 + 1)) (updN b.2.1 b.1 t j) = b.2.2 (b.2.1 j) := fun j hj => by
        rw [updN_n (by omega), updO_n (hne j hj)]
      have hnew : updO b.2.2 t (some (d0 + 1)) (updN b.2.1 b.1 t b.1) = some (d0 + 1) := by rw [updN_s, updO_s]
      have hkeep : ∀ x d, b.2.2 x = some d → updO b.2.2 t (some (d0 + 1)) x = some d := fun x d hx => by
        rw [updO_n (fun q => by rw [q, hdt] at hx; cases hx)]
        exact hx
      have hd0i : d0 ≤ i := by
        obtain ⟨d, hd, hl⟩ := (h3 i hi).2
        rw [hd0] at hd
        cases hd
        exact hl
      refine ⟨?_, by show i ≤ b.1 + 1; omega, fun j hj => ?_, fun x d hx hd => ?_, fun j j' d d' hjj hj' hd hd' => ?_, fun j d d1 hj hi2 hd hd1 => ?_, ?_, fun x d hx hxT hd => ?_, fun j s t2 hj hc hs hn => ?_⟩
      · show b.1 + 1 = fa_cnt (fun x => (updO b.2.2 t (some (d0 + 1)) x).isSome) N.1
        rw [cnt_one (p := fun x => (b.2.2 x).isSome) N.1 htN (by show (b.2.2 t).isSome = false; rw [hdt]; rfl) (by show (updO b.2.2 t (some (d0 + 1)) t).isSome = true; rw [updO_s]; rfl) (fun x hx => by show (updO b.2.2 t (some (d0 + 1)) x).isSome = _; rw [updO_n hx]), ← h1]
      · have hj : j < b.1 + 1 := hj
        show updN b.2.1 b.1 t j < N.1 ∧ ∃ d, updO b.2.2 t (some (d0 + 1)) (updN b.2.1 b.1 t j) = some d ∧ d ≤ j
        by_cases q : j = b.1
        · rw [q, hnew, updN_s]
          exact ⟨htN, d0 + 1, rfl, by omega⟩
        · rw [hold j (by omega), updN_n q]
          exact h3 j (by omega)
      · show ∃ j, j < b.1 + 1 ∧ updN b.2.1 b.1 t j = x
        by_cases q : x = t
        · exact ⟨b.1, by omega, by rw [updN_s, q]⟩
        · have hd : updO b.2.2 t (some (d0 + 1)) x = some d := hd
          rw [updO_n q] at hd
          obtain ⟨j, hj, ej⟩ := h4 x d hx hd
          exact ⟨j, by omega, by rw [updN_n (by omega)]; exact ej⟩
      · have hj' : j' < b.1 + 1 := hj'
        have hd : updO b.2.2 t (some (d0 + 1)) (updN b.2.1 b.1 t j) = some d := hd
        have hd' : updO b.2.2 t (some (d0 + 1)) (updN b.2.1 b.1 t j') = some d' := hd'
        rw [hold j (by omega)] at hd
        by_cases q : j' = b.1
        · rw [q, hnew] at hd'
          cases hd'
          exact h6 j d d0 (by omega) hi hd hd0
        · rw [hold j' (by omega)] at hd'
          exact h5 j j' d d' hjj (by omega) hd hd'
      · have hj : j < b.1 + 1 := hj
        have hd : updO b.2.2 t (some (d0 + 1)) (updN b.2.1 b.1 t j) = some d := hd
        have hd1 : updO b.2.2 t (some (d0 + 1)) (updN b.2.1 b.1 t i) = some d1 := hd1
        rw [hold i hi, hd0] at hd1
        cases hd1
        by_cases q : j = b.1
        · rw [q, hnew] at hd
          cases hd
          exact Nat.le_refl _
        · rw [hold j (by omega)] at hd
          exact h6 j d d0 (by omega) hi hd hd0
      · show updO b.2.2 t (some (d0 + 1)) T = some 0
        exact hkeep T 0 h7
      · have hd : updO b.2.2 t (some (d0 + 1)) x = some d := hd
        show ∃ s t2 d', s < 4 ∧ rNX N.2.2.1 x s = some t2 ∧ updO b.2.2 t (some (d0 + 1)) t2 = some d' ∧ d = 1 + d'
        by_cases q : x = t
        · rw [q, updO_s] at hd
          cases hd
          obtain ⟨s, hs, hn⟩ := rNX_sym hv hqi he ht
          exact ⟨s, b.2.1 i, d0, hs, by rw [q]; exact hn, hkeep _ _ hd0, by omega⟩
        · rw [updO_n q] at hd
          obtain ⟨s, t2, d', k1, k2, k3, k4⟩ := h8 x d hx hxT hd
          exact ⟨s, t2, d', k1, k2, hkeep _ _ k3, k4⟩
      · have hj : j < b.1 + 1 := hj
        have hn : rNX N.2.2.1 (updN b.2.1 b.1 t j) s = some t2 := hn
        show ∃ d d', updO b.2.2 t (some (d0 + 1)) (updN b.2.1 b.1 t j) = some d ∧ updO b.2.2 t (some (d0 + 1)) t2 = some d' ∧ d' ≤ d + 1
        have hjb : j < b.1 := by omega
        rw [hold j hjb]
        rw [updN_n (by omega)] at hn
        by_cases q : j = i ∧ s = e
        · rw [q.1, q.2, ht] at hn
          cases hn
          rw [q.1]
          exact ⟨d0, d0 + 1, hd0, updO_s, Nat.le_refl _⟩
        · obtain ⟨d, d', k1, k2, k3⟩ := h9 j s t2 hjb (by omega) hs hn
          exact ⟨d, d', k1, hkeep _ _ k2, k3⟩
theorem BI.next {ld : Nat → Option Nat} {K T i : Nat} {b : BG} (h : BI ld K T i 4 b) (hi : i < b.1) : BI ld K T (i + 1) 0 b := by
  obtain ⟨h1, h2, h3, h4, h5, h6, h7, h8, h9⟩ := h
  refine ⟨h1, by omega, h3, h4, h5, fun j d d0 hj hi2 hd hd0 => ?_, h7, h8, fun j s t hj hc hs hn => h9 j s t hj (by omega) hs hn⟩
  obtain ⟨di, hdi, _⟩ := (h3 i hi).2
  have k1 := h6 j d di hj hi hd hdi
  have k2 := h5 i (i + 1) di d0 (by omega) hi2 hdi hd0
  omega
theorem rc_R {n : NS} {N : MN} {b : BG} {x d : Nat} (hb : bR n N b) (hK : N.1 ≤ 24) (hx : x < N.1) (hd : ∀ d1, b.2.2 x = some d1 → d1 < 2 ^ 31) (hz : b.2.2 x = none → b.1 < 24) (hz2 : b.1 ≤ 24) : bR (rcN n (nI x) (nI d)) N (rcG b x d) := by
  obtain ⟨h1, h2, h3, h4, h5⟩ := id hb
  unfold rcN rcG
  rw [h1, if_pos (hasI_n hx hK), nI_clamp (by omega), h3 x (by omega)]
  cases hq : b.2.2 x with
  | some d1 =>
    rw [if_neg (oI_some (hd d1 hq))]
    exact hb
  | none =>
    rw [if_pos (show oI none = -1 from rfl)]
    have hzz := hz hq
    refine ⟨rfl, h2, fun y hy => ?_, ?_, fun i hi => ?_⟩
    · show upd n.2.2.2.2.2.1 x (nI d) y = oI (updO b.2.2 x (some d) y)
      by_cases e : y = x
      · rw [e, pk_us, updO_s]
        rfl
      · rw [pk_un e, updO_n e]
        exact h3 y hy
    · show adZ 24 n.2.2.2.2.2.2.1 = nI (b.1 + 1)
      rw [h4, adZ_n (by decide) (by omega), if_pos hzz]
    · have hi : i < b.1 + 1 := hi
      show adF 24 n.2.2.2.2.2.2.1 n.2.2.2.2.2.2.2 (nI x) i = nI (updN b.2.1 b.1 x i)
      rw [h4, adF_n (by decide) (by omega), if_pos hzz]
      by_cases e : i = b.1
      · rw [e, pk_us, updN_s]
      · rw [pk_un e, updN_n e]
        exact h5 i (by omega)
def keepN (n m : NS) : Prop := m.1 = n.1 ∧ m.2.1 = n.2.1 ∧ m.2.2.1 = n.2.2.1 ∧ m.2.2.2.1 = n.2.2.2.1 ∧ m.2.2.2.2.1 = n.2.2.2.2.1
theorem rc_keep {n : NS} {k d : Int32} : keepN n (rcN n k d) := by
  unfold rcN
  split
  · split
    · exact ⟨rfl, rfl, rfl, rfl, rfl⟩
    · exact ⟨rfl, rfl, rfl, rfl, rfl⟩
  · exact ⟨rfl, rfl, rfl, rfl, rfl⟩
theorem keepN.trans {a b c : NS} (h : keepN a b) (k : keepN b c) : keepN a c := ⟨k.1.trans h.1, k.2.1.trans h.2.1, k.2.2.1.trans h.2.2.1, k.2.2.2.1.trans h.2.2.2.1, k.2.2.2.2.trans h.2.2.2.2⟩
theorem ra_keep {k : Int32} (m : Nat) : ∀ (i : Nat) (n : NS), keepN n (raL k m i n) := by
  induction m with
  | zero => intro i n; exact ⟨rfl, rfl, rfl, rfl, rfl⟩
  | succ m ih => intro i n; exact rc_keep.trans (ih (i + 1) _)
theorem m2_keep (m : Nat) : ∀ (i : Nat) (n : NS), keepN n (m2L m i n) := by
  induction m with
  | zero => intro i n; exact ⟨rfl, rfl, rfl, rfl, rfl⟩
  | succ m ih =>
    intro i n
    unfold m2L
    split
    · exact ⟨rfl, rfl, rfl, rfl, rfl⟩
    · exact (ra_keep 4 0 n).trans (ih (i + 1) _)
theorem mt_keep {n : NS} {k : Int32} : keepN n (mtN n k) := by
  unfold mtN
  exact (show keepN n (rcN (c0N (d0N n (mdL 24 0 n.2.2.2.2.2.1))) k 0) from (show keepN n (c0N (d0N n (mdL 24 0 n.2.2.2.2.2.1))) from ⟨rfl, rfl, rfl, rfl, rfl⟩).trans rc_keep).trans (m2_keep 24 0 _)
theorem ra_R {N : MN} {T i : Nat} (hv : VN N) (m : Nat) : ∀ (e : Nat) (n : NS) (b : BG) (k : Nat), e + m = 4 → bR n N b → BI N.2.2.1 N.1 T i e b → i < b.1 → b.2.1 i = k → ∃ b', bR (raL (nI k) m e n) N b' ∧ BI N.2.2.1 N.1 T i 4 b' ∧ i < b'.1 := by
  have hK := hv.1
  induction m with
  | zero =>
    intro e n b k he hb h hi _
    rw [show e = 4 by omega] at h
    exact ⟨b, hb, h, hi⟩
  | succ m ih =>
    intro e n b k he hb h hi hk
    obtain ⟨hkN, d0, hd0, hd0i⟩ := h.2.2.1 i hi
    have hz := h.le
    have hstep := h.step hv hi (show e < 4 by omega) hd0
    have hka : kaI n.2.2.2.1 (nI k) (nI e) = oI (rNX N.2.2.1 (b.2.1 i) e) := by
      unfold kaI
      rw [hb.2.1, ← hk, acI_n (by omega) (by omega)]
      cases hy : N.2.2.1 (4 * b.2.1 i + e) with
      | none => rw [rNX_no hy, if_pos (show oI none = -1 from rfl)]; rfl
      | some y =>
        have hy9 := hv.vl _ y (by omega) hy
        rw [rNX_i hy, if_neg (oI_some (by omega))]
        exact dv4 (by omega)
    have hsi : siI n.1 n.2.2.2.2.2.1 (nI k) + 1 = nI (d0 + 1) := by
      unfold siI
      rw [hb.1, ← hk, if_pos (hasI_n hkN hK), nI_clamp (by omega), hb.2.2.1 _ (by omega), hd0]
      exact nI_1 d0
    show ∃ b', bR (raL (nI k) m (e + 1) (rcN n (kaI n.2.2.2.1 (nI k) (nI e)) (siI n.1 n.2.2.2.2.2.1 (nI k) + 1))) N b' ∧ BI N.2.2.1 N.1 T i 4 b' ∧ i < b'.1
    rw [hka, hsi]
    cases ht : rNX N.2.2.1 (b.2.1 i) e with
    | none =>
      rw [ht] at hstep
      have e1 : rcN n (oI none) (nI (d0 + 1)) = n := by
        unfold rcN
        rw [if_neg]
        unfold hasI
        rw [if_pos (show oI none < 0 by decide)]
        decide
      rw [e1]
      exact ih (e + 1) n b k (by omega) hb hstep hi hk
    | some t =>
      rw [ht] at hstep
      have htN := rNX_ok hv _ e t hkN (by omega) ht
      have hb2 : bR (rcN n (nI t) (nI (d0 + 1))) N (rcG b t (d0 + 1)) := rc_R hb hK htN (fun d1 hd1 => by
        obtain ⟨j, hj, ej⟩ := h.2.2.2.1 t d1 htN hd1
        obtain ⟨_, d2, hd2, hl⟩ := h.2.2.1 j hj
        rw [ej, hd1] at hd2
        cases hd2
        omega) (fun hn => by
        have := cnt_lt_n (p := fun x => (b.2.2 x).isSome) N.1 htN (by show (b.2.2 t).isSome = false; rw [hn]; rfl)
        have h1 := h.1
        omega) (by omega)
      have hi2 : i < (rcG b t (d0 + 1)).1 ∧ (rcG b t (d0 + 1)).2.1 i = k := by
        unfold rcG
        cases b.2.2 t with
        | some _ => exact ⟨hi, hk⟩
        | none => exact ⟨by show i < b.1 + 1; omega, by show updN b.2.1 b.1 t i = k; rw [updN_n (by omega)]; exact hk⟩
      exact ih (e + 1) _ _ k (by omega) hb2 hstep hi2.1 hi2.2
theorem m2_R {N : MN} {T : Nat} (hv : VN N) (m : Nat) : ∀ (i : Nat) (n : NS) (b : BG), i + m = 24 → bR n N b → BI N.2.2.1 N.1 T i 0 b → ∃ b', bR (m2L m i n) N b' ∧ BI N.2.2.1 N.1 T b'.1 0 b' := by
  have hK := hv.1
  induction m with
  | zero =>
    intro i n b hi hb h
    have h1 := h.le
    have h2 := h.2.1
    rw [show i = b.1 by omega] at h
    exact ⟨b, hb, h⟩
  | succ m ih =>
    intro i n b hi hb h
    have h1 := h.le
    have h2 := h.2.1
    unfold m2L
    rw [hb.2.2.2.1]
    by_cases c : b.1 ≤ i
    · rw [if_pos (nI_le c (by omega))]
      rw [show i = b.1 by omega] at h
      exact ⟨b, hb, h⟩
    · have c2 : i < b.1 := by omega
      rw [if_neg (nI_ge c2 (by omega)), atI_n (by decide) (by omega) c2, hb.2.2.2.2 i c2]
      obtain ⟨b', k1, k2, k3⟩ := ra_R hv 4 0 n b (b.2.1 i) rfl hb h c2 rfl
      exact ih (i + 1) _ b' (by omega) k1 (k2.next k3)
theorem md_at (m : Nat) : ∀ (i : Nat) (f : Nat → Int32) (x : Nat), mdL m i f x = if i ≤ x ∧ x < i + m then -1 else f x := by
  induction m with
  | zero => intro i f x; exact (if_neg (by omega)).symm
  | succ m ih =>
    intro i f x
    show mdL m (i + 1) (upd f i (-1)) x = _
    rw [ih]
    by_cases c : i + 1 ≤ x ∧ x < i + 1 + m
    · have c2 : i ≤ x ∧ x < i + (m + 1) := by omega
      rw [if_pos c, if_pos c2]
    · rw [if_neg c]
      by_cases z : x = i
      · have c2 : i ≤ i ∧ i < i + (m + 1) := by omega
        rw [z, pk_us, if_pos c2]
      · have c2 : ¬ (i ≤ x ∧ x < i + (m + 1)) := by omega
        rw [pk_un z, if_neg c2]
def dF (f : Nat → Option Nat) (x : Nat) : Nat := (f x).getD BIG
theorem mt_R {n : NS} {N : MN} {T : Nat} (hn : nR n N) (hv : VN N) (hT : T < N.1) : ∃ dist : Nat → Option Nat, (∀ x, x < 24 → (mtN n (nI T)).2.2.2.2.2.1 x = oI (dist x)) ∧ (∀ x d, x < N.1 → dist x = some d → d ≤ 24) ∧ FX N.1 4 (rNX N.2.2.1) one1 (rG T) BIG (dF dist) := by
  have hK := hv.1
  have hB : BIG = 268435456 := rfl
  have hb0 : bR (c0N (d0N n (mdL 24 0 n.2.2.2.2.2.1))) N (0, fun _ => 0, fun _ => none) := by
    refine ⟨hn.1, hn.2.2.1, fun x hx => ?_, rfl, fun i hi => absurd hi (Nat.not_lt_zero i)⟩
    show mdL 24 0 n.2.2.2.2.2.1 x = -1
    have c2 : 0 ≤ x ∧ x < 0 + 24 := by omega
    rw [md_at, if_pos c2]
  have hb1 : bR (rcN (c0N (d0N n (mdL 24 0 n.2.2.2.2.2.1))) (nI T) 0) N (1, updN (fun _ => 0) 0 T, updO (fun _ => none) T (some 0)) := rc_R (d := 0) hb0 hK hT (fun d1 h => by cases h) (fun _ => by show 0 < 24; decide) (by show 0 ≤ 24; decide)
  have hcnt : fa_cnt (fun x => (updO (fun _ => (none : Option Nat)) T (some 0) x).isSome) N.1 = 1 := by
    rw [cnt_one (p := fun _ => false) (y := T) N.1 hT rfl (by show (updO _ T (some 0) T).isSome = true; rw [updO_s]; rfl) (fun x hx => by show (updO _ T (some 0) x).isSome = false; rw [updO_n hx]; rfl)]
    have : ∀ k, fa_cnt (fun _ => false) k = 0 := fun k => by
      induction k with
      | zero => rfl
      | succ k ih => rw [fa_cnt_no rfl, ih]
    rw [this]
  have hBI : BI N.2.2.1 N.1 T 0 0 (1, updN (fun _ => 0) 0 T, updO (fun _ => none) T (some 0)) := by
    refine ⟨hcnt.symm, by show 0 ≤ 1; decide, fun j hj => ?_, fun x d hx hd => ?_, fun j j' d d' h1 h2 => ?_, fun j d d0 hj _ hd hd0 => ?_, (show updO (fun _ => (none : Option Nat)) T (some 0) T = some 0 from updO_s), fun x d hx hne hd => ?_, fun j s t hj hc => ?_⟩
    · have hj : j < 1 := hj
      rw [show j = 0 by omega]
      show updN (fun _ => 0) 0 T 0 < N.1 ∧ ∃ d, updO (fun _ => none) T (some 0) (updN (fun _ => 0) 0 T 0) = some d ∧ d ≤ 0
      rw [updN_s, updO_s]
      exact ⟨hT, 0, rfl, Nat.le_refl _⟩
    · have hd : updO (fun _ => none) T (some 0) x = some d := hd
      by_cases q : x = T
      · exact ⟨0, by show 0 < 1; decide, by show updN (fun _ => 0) 0 T 0 = x; rw [updN_s, q]⟩
      · rw [updO_n q] at hd
        cases hd
    · have h2 : j' < 1 := h2
      omega
    · have hj : j < 1 := hj
      have hj0 : j = 0 := by omega
      subst hj0
      rw [hd] at hd0
      cases hd0
      omega
    · have hd : updO (fun _ => none) T (some 0) x = some d := hd
      rw [updO_n hne] at hd
      cases hd
    · omega
  obtain ⟨b, k1, k2⟩ := m2_R (T := T) hv 24 0 _ _ rfl hb1 hBI
  have k1 : bR (mtN n (nI T)) N b := k1
  obtain ⟨h1, h2, h3, h4, h5, h6, h7, h8, h9⟩ := k2
  have hle : b.1 ≤ N.1 := by rw [h1]; exact fa_cnt_le _ _
  have hbd : ∀ x d, x < N.1 → b.2.2 x = some d → d ≤ 24 := fun x d hx hd => by
    obtain ⟨j, hj, ej⟩ := h4 x d hx hd
    obtain ⟨_, d2, hd2, hl⟩ := h3 j hj
    rw [ej, hd] at hd2
    cases hd2
    omega
  refine ⟨b.2.2, k1.2.2.1, hbd, fun x hx => ?_⟩
  have hgs : ∀ y d, b.2.2 y = some d → dF b.2.2 y = d := fun y d h => by unfold dF; rw [h]; rfl
  have hgn : ∀ y, b.2.2 y = none → dF b.2.2 y = BIG := fun y h => by unfold dF; rw [h]; rfl
  refine ⟨fun g => ?_, ?_, fun s t hs ht => ?_, fun g hlt => ?_⟩
  · have : x = T := of_decide_eq_true g
    rw [this]
    exact hgs T 0 h7
  · cases hd : b.2.2 x with
    | none => rw [hgn x hd]; exact Nat.le_refl _
    | some d => rw [hgs x d hd]; have := hbd x d hx hd; omega
  · have htN := rNX_ok hv x s t hx hs ht
    show dF b.2.2 x ≤ 1 + dF b.2.2 t
    cases hd : b.2.2 t with
    | none =>
      rw [hgn t hd]
      cases hd2 : b.2.2 x with
      | none => rw [hgn x hd2]; omega
      | some d2 => rw [hgs x d2 hd2]; have := hbd x d2 hx hd2; omega
    | some d =>
      obtain ⟨j, hj, ej⟩ := h4 t d htN hd
      obtain ⟨s2, hs2, hn2⟩ := rNX_sym hv hx hs ht
      obtain ⟨d1, d2, q1, q2, q3⟩ := h9 j s2 x hj (Or.inl hj) hs2 (by rw [ej]; exact hn2)
      rw [ej, hd] at q1
      cases q1
      rw [hgs t d hd, hgs x d2 q2]
      omega
  · cases hd : b.2.2 x with
    | none => rw [hgn x hd] at hlt; omega
    | some d =>
      obtain ⟨s, t, d', q1, q2, q3, q4⟩ := h8 x d hx (of_decide_eq_false g) hd
      refine ⟨s, t, q1, q2, ?_⟩
      rw [hgs x d hd, hgs t d' q3]
      exact q4
