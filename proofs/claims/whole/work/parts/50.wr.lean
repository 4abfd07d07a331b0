/-! the two walkers: the one of the system and the one of the reference -/
def nR (n : NS) (N : MN) : Prop := n.1 = nI N.1 ∧ n.2.2.1 = (fun x => nI (N.2.1 x)) ∧ n.2.2.2.1 = (fun x => oI (N.2.2.1 x)) ∧ n.2.2.2.2.1 = (fun x => nI (N.2.2.2 x))
def VN (N : MN) : Prop := N.1 ≤ 24 ∧ (∀ x y, x < 96 → N.2.2.1 x = some y → x < 4 * N.1 ∧ y < 4 * N.1 ∧ y ≠ x ∧ N.2.2.1 y = some x) ∧ (∀ x, x < 24 → N.2.1 x ≤ 7) ∧ ∀ x, x < 96 → N.2.2.2 x ≤ 9
theorem VN.vl {N : MN} (h : VN N) : VL N.2.2.1 := fun x y hx hy => by
  have h1 := (h.2.1 x y hx hy).2.1
  have h2 := h.1
  omega
theorem VN.nm {N : MN} (h : VN N) : ∀ x, x < 96 → N.2.2.2 x < 2 ^ 31 := fun x hx => by have := h.2.2.2 x hx; omega
theorem VN.sg {N : MN} (h : VN N) : ∀ x, x < 24 → N.2.1 x < 2 ^ 31 := fun x hx => by have := h.2.2.1 x hx; omega
theorem hasI_n {K k : Nat} (hk : k < K) (hK : K ≤ 24) : hasI (nI K) (nI k) = true := by
  unfold hasI
  rw [if_neg (nI_pos (by omega)), if_neg (nI_ge hk (by omega)), if_neg (show ¬ (24 : Int32) ≤ nI k from nI_ge (b := 24) (by omega) (by decide))]
theorem hasI_no {K k : Nat} (hk : K ≤ k) (hk2 : k < 2 ^ 31) : hasI (nI K) (nI k) = false := by
  unfold hasI
  rw [if_neg (nI_pos (by omega)), if_pos (nI_le hk hk2)]
theorem exI_n {e : Nat} (he : e < 4) : exI (nI e) = true := by
  unfold exI
  rw [if_neg (nI_pos (by omega)), if_neg (show ¬ (4 : Int32) ≤ nI e from nI_ge (b := 4) he (by decide))]
theorem pl4 (k e : Nat) : nI k * 4 + nI e = nI (4 * k + e) := by
  rw [show (4 : Int32) = nI 4 from rfl, pk_mul, nI_add, Nat.mul_comm]
theorem acI_n {f : Nat → Int32} {k e : Nat} (hk : k < 24) (he : e < 4) : acI f (nI k) (nI e) = f (4 * k + e) := by
  unfold acI
  rw [if_neg (nI_pos (by omega)), if_neg (show ¬ (24 : Int32) ≤ nI k from nI_ge (b := 24) hk (by decide)), if_neg (nI_pos (by omega)), if_pos (show nI e < (4 : Int32) from nI_lt (b := 4) he (by decide)), pl4, nI_clamp (by omega)]
theorem acI_m {f : Nat → Int32} {k : Int32} : acI f k (-1) = -1 := by
  unfold acI
  by_cases h1 : k < 0
  · rw [if_pos h1]
  · rw [if_neg h1]
    by_cases h2 : (24 : Int32) ≤ k
    · rw [if_pos h2]
    · rw [if_neg h2, if_pos (by decide)]
theorem remI_n {a : Nat} (h : a < 2 ^ 31) : remI (nI a) = nI (a % 4) := rm4 h
theorem remI_2 {a b : Nat} (h : a + b < 2 ^ 31) : remI (nI a + nI b) = nI ((a + b) % 4) := by rw [nI_add]; exact rm4 h
theorem remI_22 {a : Nat} (h : a + 2 < 2 ^ 31) : remI (nI a + 2) = nI ((a + 2) % 4) := rm42 h
theorem adOk_n {cap z : Nat} (hc : cap < 2 ^ 31) (hz : z < 2 ^ 31) : adOk cap (nI z) = decide (z < cap) := by
  unfold adOk
  rw [if_neg (nI_pos hz)]
  by_cases h : z < cap
  · rw [if_pos (nI_lt h hc), decide_eq_true h]
  · rw [if_neg (nI_nlt (by omega) hz), decide_eq_false h]
theorem adZ_n {cap z : Nat} (hc : cap < 2 ^ 31) (hz : z < 2 ^ 31) : adZ cap (nI z) = nI (if z < cap then z + 1 else z) := by
  unfold adZ
  rw [adOk_n hc hz]
  by_cases h : z < cap
  · rw [if_pos (decide_eq_true h), if_pos h, nI_1]
  · rw [if_neg (by rw [decide_eq_false h]; decide), if_neg h]
theorem adF_n {cap z : Nat} {f : Nat → Int32} {x : Int32} (hc : cap < 2 ^ 31) (hz : z < 2 ^ 31) : adF cap (nI z) f x = if z < cap then upd f z x else f := by
  unfold adF
  rw [adOk_n hc hz]
  by_cases h : z < cap
  · rw [if_pos (decide_eq_true h), if_pos h, nI_clamp hz]
  · rw [if_neg (by rw [decide_eq_false h]; decide), if_neg h]
theorem atI_n {cap z i : Nat} {f : Nat → Int32} (hc : cap < 2 ^ 31) (hz : z ≤ cap) (hi : i < z) : atI cap (nI z) f (nI i) = f i := by
  unfold atI
  rw [if_neg (nI_pos (by omega)), if_neg (nI_ge hi (by omega)), if_neg (nI_ge (by omega) hc), nI_clamp (by omega)]
theorem atI_no {cap z i : Nat} {f : Nat → Int32} (hi : z ≤ i) (hi2 : i < 2 ^ 31) : atI cap (nI z) f (nI i) = -1 := by
  unfold atI
  rw [if_neg (nI_pos (by omega)), if_pos (nI_le hi hi2)]
/-- within a saying: S0 streets went before it, by the exits ex -/
def wR (S0 : Nat) (ex : Nat → Nat) (w : WS) (a : MA) : Prop := w.1 = nI a.1 ∧ w.2.1 = nI a.2.1 ∧ w.2.2.1 = nI (S0 + a.2.2.1) ∧ w.2.2.2.1 = nI a.2.2.1 ∧ w.2.2.2.2.1 = nI (min 200 (S0 + a.2.2.1)) ∧ ∀ j, j < 200 → (j < S0 → w.2.2.2.2.2 j = nI (ex j)) ∧ (S0 ≤ j → j < S0 + a.2.2.1 → w.2.2.2.2.2 j = nI (a.2.2.2 (j - S0)))
/-- between two sayings -/
def wQ (S0 : Nat) (ex : Nat → Nat) (w : WS) (k f : Nat) : Prop := w.1 = nI k ∧ w.2.1 = nI f ∧ w.2.2.1 = nI S0 ∧ w.2.2.2.2.1 = nI (min 200 S0) ∧ ∀ j, j < 200 → j < S0 → w.2.2.2.2.2 j = nI (ex j)
theorem wQ.z {S0 : Nat} {ex : Nat → Nat} {w : WS} {a : MA} (h : wQ S0 ex w a.1 a.2.1) : wR S0 ex (zW w) (zA a) := ⟨h.1, h.2.1, h.2.2.1, rfl, h.2.2.2.1, fun j hj => ⟨fun h1 => h.2.2.2.2 j hj h1, fun h1 h2 => absurd h2 (by show ¬ j < S0 + 0; omega)⟩⟩
def apE (S0 : Nat) (ex path : Nat → Nat) (j : Nat) : Nat := if j < S0 then ex j else path (j - S0)
theorem wR.q {S0 : Nat} {ex : Nat → Nat} {w : WS} {a : MA} (h : wR S0 ex w a) : wQ (S0 + a.2.2.1) (apE S0 ex a.2.2.2) w a.1 a.2.1 := ⟨h.1, h.2.1, h.2.2.1, h.2.2.2.2.1, fun j hj h1 => by
  unfold apE
  by_cases c : j < S0
  · rw [if_pos c]
    exact (h.2.2.2.2.2 j hj).1 c
  · rw [if_neg c]
    exact (h.2.2.2.2.2 j hj).2 (by omega) h1⟩
section WRS
variable {n : NS} {N : MN} {S0 : Nat} {ex : Nat → Nat}
theorem hs_R {w : WS} {a : MA} {e : Nat} (hn : nR n N) (hl : VL N.2.2.1) (h1 : w.1 = nI a.1) (ha : a.1 < 24) (he : e < 4) : hsI n w (nI e) = (N.2.2.1 (4 * a.1 + e)).isSome := by
  unfold hsI
  rw [h1, hn.2.2.1, acI_n ha he]
  cases hy : N.2.2.1 (4 * a.1 + e) with
  | none => rfl
  | some y => rw [if_neg (oI_some (by have := hl _ y (by omega) hy; omega))]; rfl
theorem ps_R {w : WS} {a : MA} {e : Nat} (hn : nR n N) (hl : VL N.2.2.1) (ha : okA a) (he : e < 4) (hS : S0 ≤ 2 ^ 30) (h : wR S0 ex w a) : psOk n w (nI e) = (gbT N.2.2.1 a e).1 ∧ wR S0 ex (psW n w (nI e)) (gbT N.2.2.1 a e).2 := by
  obtain ⟨w1, w2, w3, w4, w5, w6⟩ := id h
  obtain ⟨a1, a2, a3⟩ := ha
  have hac : acI n.2.2.2.1 w.1 (nI e) = oI (N.2.2.1 (4 * a.1 + e)) := by rw [w1, hn.2.2.1, acI_n a1 he]
  unfold gbT
  cases hy : N.2.2.1 (4 * a.1 + e) with
  | none =>
    have hok : psOk n w (nI e) = false := by unfold psOk; rw [hac, hy]; exact if_pos rfl
    refine ⟨hok, ?_⟩
    unfold psW
    rw [if_neg (by rw [hok]; decide)]
    exact h
  | some y =>
    have hy9 := hl _ y (by omega) hy
    have hne : ¬ oI (some y) = -1 := oI_some (by omega)
    by_cases hm : a.2.2.1 = 30
    · have hok : psOk n w (nI e) = false := by
        unfold psOk
        rw [hac, hy, if_neg hne, w4, hm]
        rfl
      simp only [hm, if_true]
      refine ⟨hok, ?_⟩
      unfold psW
      rw [if_neg (by rw [hok]; decide)]
      exact h
    · have hok : psOk n w (nI e) = true := by
        unfold psOk
        rw [hac, hy, if_neg hne, w4, if_pos (show nI a.2.2.1 < (30 : Int32) from nI_lt (b := 30) (by omega) (by decide))]
      simp only [hm, if_false]
      refine ⟨hok, ?_⟩
      unfold psW
      rw [if_pos hok]
      unfold psT
      rw [hac, hy, w3, w4, w5]
      refine ⟨dv4 (by omega), remI_22 (by omega), ?_, nI_1 _, ?_, fun j hj => ?_⟩
      · show nI (S0 + a.2.2.1) + 1 = nI (S0 + (a.2.2.1 + 1))
        rw [nI_1]
        rfl
      · show adZ 200 (nI (min 200 (S0 + a.2.2.1))) = nI (min 200 (S0 + (a.2.2.1 + 1)))
        rw [adZ_n (by decide) (by omega)]
        congr 1
        split <;> omega
      · show (j < S0 → adF 200 (nI (min 200 (S0 + a.2.2.1))) w.2.2.2.2.2 (nI e) j = nI (ex j)) ∧ (S0 ≤ j → j < S0 + (a.2.2.1 + 1) → adF 200 (nI (min 200 (S0 + a.2.2.1))) w.2.2.2.2.2 (nI e) j = nI (updN a.2.2.2 a.2.2.1 e (j - S0)))
        rw [adF_n (by decide) (by omega)]
        obtain ⟨q1, q2⟩ := w6 j hj
        by_cases c : min 200 (S0 + a.2.2.1) < 200
        · rw [if_pos c]
          by_cases cj : j = min 200 (S0 + a.2.2.1)
          · rw [cj, pk_us]
            refine ⟨fun k1 => by omega, fun k1 k2 => ?_⟩
            rw [show min 200 (S0 + a.2.2.1) - S0 = a.2.2.1 by omega]
            unfold updN
            rw [if_pos rfl]
          · rw [pk_un cj]
            refine ⟨q1, fun k1 k2 => ?_⟩
            unfold updN
            rw [if_neg (by omega)]
            exact q2 k1 (by omega)
        · rw [if_neg c]
          refine ⟨q1, fun k1 k2 => ?_⟩
          unfold updN
          rw [if_neg (by omega)]
          exact q2 k1 (by omega)
theorem tn_R {sd nb : Nat} (hn : nR n N) (hl : VL N.2.2.1) (hS : S0 ≤ 2 ^ 30) (hnb : nb < 2 ^ 31) (hsd : sd < 4) (m : Nat) : ∀ (mt : Nat) (w : WS) (a : MA), mt < nb → okA a → wR S0 ex w a → (tnL n (nI sd) (nI nb) m (nI mt) w).1 = (tnT N.2.2.1 sd m (nb - mt) a).1 ∧ wR S0 ex (tnL n (nI sd) (nI nb) m (nI mt) w).2 (tnT N.2.2.1 sd m (nb - mt) a).2 := by
  induction m with
  | zero => intro mt w a hmt ha h; exact ⟨rfl, h⟩
  | succ m ih =>
    intro mt w a hmt ha h
    have a2 := ha.2.1
    have er : remI (w.2.1 + nI sd) = nI ((a.2.1 + sd) % 4) := by rw [h.2.1]; exact remI_2 (by omega)
    have eh : hsI n w (remI (w.2.1 + nI sd)) = hsT N.2.2.1 a sd := by rw [er, hs_R hn hl h.1 ha.1 (by omega)]; rfl
    unfold tnL tnT
    rw [eh, er, h.2.1]
    have g1 := ps_R (e := (a.2.1 + sd) % 4) hn hl ha (by omega) hS h
    have g2 := ps_R (e := a.2.1) hn hl ha (by omega) hS h
    have gok := (gbT_ok (e := a.2.1) hl ha a2).1
    by_cases c : hsT N.2.2.1 a sd = true
    · rw [if_pos c, if_pos c, nI_1]
      by_cases c2 : nb - mt - 1 = 0
      · rw [if_pos c2, if_neg (nI_nlt (by omega) (by omega))]
        exact g1
      · rw [if_neg c2, if_pos (nI_lt (by omega) hnb), g2.1]
        by_cases c3 : (gbT N.2.2.1 a a.2.1).1 = true
        · rw [if_pos c3, if_pos c3, show nb - mt - 1 = nb - (mt + 1) by omega]
          exact ih (mt + 1) _ _ (by omega) gok g2.2
        · rw [if_neg c3, if_neg c3]
          exact ⟨rfl, g2.2⟩
    · rw [if_neg c, if_neg c]
      rw [if_neg (show ¬ nb - mt = 0 by omega), if_pos (nI_lt hmt hnb), g2.1]
      by_cases c3 : (gbT N.2.2.1 a a.2.1).1 = true
      · rw [if_pos c3, if_pos c3]
        exact ih mt _ _ hmt gok g2.2
      · rw [if_neg c3, if_neg c3]
        exact ⟨rfl, g2.2⟩
theorem gb_knot {a : MA} {e : Nat} (hv : VN N) (h1 : a.1 < 24) (he : e < 4) (h : (gbT N.2.2.1 a e).1 = true) : (gbT N.2.2.1 a e).2.1 < N.1 := by
  unfold gbT at h ⊢
  cases hy : N.2.2.1 (4 * a.1 + e) with
  | none => rw [hy] at h; cases h
  | some y =>
    have := (hv.2.1 _ y (by omega) hy).2.1
    rw [hy] at h
    simp only at h ⊢
    split at h
    · cases h
    · rename_i hm
      rw [if_neg hm]
      show y / 4 < N.1
      omega
theorem un_R {nb me : Nat} (hn : nR n N) (hv : VN N) (hS : S0 ≤ 2 ^ 30) (hnb : nb < 2 ^ 31) (hme : me < 2 ^ 31) (m : Nat) : ∀ (mt : Nat) (w : WS) (a : MA), mt < me → okA a → wR S0 ex w a → (puL n (nI nb) (nI me) m (nI mt) w).1 = (unT N nb m (me - 1 - mt) a).1 ∧ wR S0 ex (puL n (nI nb) (nI me) m (nI mt) w).2 (unT N nb m (me - 1 - mt) a).2 := by
  have hl := hv.vl
  induction m with
  | zero => intro mt w a hmt ha h; exact ⟨rfl, h⟩
  | succ m ih =>
    intro mt w a hmt ha h
    have a2 := ha.2.1
    unfold puL unT
    rw [h.2.1]
    have g2 := ps_R (e := a.2.1) hn hl ha (by omega) hS h
    have gok := (gbT_ok (e := a.2.1) hl ha a2).1
    rw [g2.1]
    by_cases c3 : (gbT N.2.2.1 a a.2.1).1 = true
    · rw [if_pos c3, if_pos c3]
      have hk := gb_knot hv ha.1 a2 c3
      have es : siI n.1 n.2.2.1 (psW n w (nI a.2.1)).1 = nI (N.2.1 (gbT N.2.2.1 a a.2.1).2.1) := by
        unfold siI
        rw [g2.2.1, hn.1, hn.2.1, if_pos (hasI_n hk hv.1), nI_clamp (by have := hv.1; omega)]
      have hs7 := hv.2.2.1 (gbT N.2.2.1 a a.2.1).2.1 (by have := hv.1; omega)
      rw [es]
      by_cases c4 : N.2.1 (gbT N.2.2.1 a a.2.1).2.1 = nb
      · have e5 : (if nI (N.2.1 (gbT N.2.2.1 a a.2.1).2.1) = nI nb then nI mt + 1 else nI mt) = nI (mt + 1) := by rw [if_pos (by rw [c4]), nI_1]
        rw [if_pos c4, e5]
        by_cases c5 : me - 1 - mt = 0
        · rw [if_pos c5, if_neg (nI_nlt (by omega) (by omega))]
          exact ⟨rfl, g2.2⟩
        · rw [if_neg c5, if_pos (nI_lt (by omega) hme), show me - 1 - mt - 1 = me - 1 - (mt + 1) by omega]
          exact ih (mt + 1) _ _ (by omega) gok g2.2
      · have e5 : (if nI (N.2.1 (gbT N.2.2.1 a a.2.1).2.1) = nI nb then nI mt + 1 else nI mt) = nI mt := if_neg (fun q => c4 ((nI_eq (by omega) hnb).mp q))
        rw [if_neg c4, e5, if_pos (nI_lt hmt hme)]
        exact ih mt _ _ hmt gok g2.2
    · rw [if_neg c3, if_neg c3]
      exact ⟨rfl, g2.2⟩
theorem ed_R (hn : nR n N) (hl : VL N.2.2.1) (hS : S0 ≤ 2 ^ 30) (m : Nat) : ∀ (w : WS) (a : MA), okA a → wR S0 ex w a → (peL n m w).1 = (edT N.2.2.1 m a).1 ∧ wR S0 ex (peL n m w).2 (edT N.2.2.1 m a).2 := by
  induction m with
  | zero => intro w a ha h; exact ⟨rfl, h⟩
  | succ m ih =>
    intro w a ha h
    have a2 := ha.2.1
    unfold peL edT
    rw [h.2.1]
    have g2 := ps_R (e := a.2.1) hn hl ha (by omega) hS h
    have gok := (gbT_ok (e := a.2.1) hl ha a2).1
    rw [g2.1]
    by_cases c3 : (gbT N.2.2.1 a a.2.1).1 = true
    · rw [if_pos c3, if_pos c3]
      have eh : hsI n (psW n w (nI a.2.1)) (psW n w (nI a.2.1)).2.1 = hsT N.2.2.1 (gbT N.2.2.1 a a.2.1).2 0 := by
        have gk2 := gok.2.1
        rw [g2.2.2.1, hs_R hn hl g2.2.1 gok.1 gok.2.1]
        unfold hsT
        rw [show ((gbT N.2.2.1 a a.2.1).2.2.1 + 0) % 4 = (gbT N.2.2.1 a a.2.1).2.2.1 by omega]
      rw [eh]
      by_cases c4 : hsT N.2.2.1 (gbT N.2.2.1 a a.2.1).2 0 = true
      · rw [if_pos c4, if_pos c4]
        exact ih _ _ gok g2.2
      · rw [if_neg c4, if_neg c4]
        exact ⟨rfl, g2.2⟩
    · rw [if_neg c3, if_neg c3]
      exact ⟨rfl, g2.2⟩
theorem gn_R {nb : Nat} {w : WS} {a : MA} (hn : nR n N) (hv : VN N) (hS : S0 ≤ 2 ^ 30) (hnb : nb < 2 ^ 31) (ha : okA a) (hk : a.1 < N.1) (h : wR S0 ex w a) (m : Nat) : ∀ (i : Nat) (fo : Option Nat), i + m ≤ 4 → (∀ e, fo = some e → e < 4) → (pnL n w (nI nb) m i (oI fo)).1 = (gnT N a nb m i fo).1 ∧ wR S0 ex (pnL n w (nI nb) m i (oI fo)).2 (gnT N a nb m i fo).2 := by
  have hl := hv.vl
  have hK := hv.1
  have a2 := ha.2.1
  induction m with
  | zero =>
    intro i fo hi hf
    cases fo with
    | none =>
      have hok : psOk n w (-1) = false := by unfold psOk; rw [acI_m]; exact if_pos rfl
      refine ⟨hok, ?_⟩
      show wR S0 ex (psW n w (-1)) a
      unfold psW
      rw [if_neg (by rw [hok]; decide)]
      exact h
    | some e => exact ps_R hn hl ha (hf e rfl) hS h
  | succ m ih =>
    intro i fo hi hf
    unfold pnL gnT
    by_cases c : i = 2
    · rw [if_pos c, if_pos (show nI i = 2 by rw [c]; rfl)]
      exact ih (i + 1) fo (by omega) hf
    · rw [if_neg c, if_neg (show ¬ nI i = 2 from fun q => c ((nI_eq (b := 2) (by omega) (by decide)).mp q))]
      have er : remI (w.2.1 + nI i) = nI ((a.2.1 + i) % 4) := by rw [h.2.1]; exact remI_2 (by omega)
      have eh : hsI n w (remI (w.2.1 + nI i)) = hsT N.2.2.1 a i := by rw [er, hs_R hn hl h.1 ha.1 (by omega)]; rfl
      have en : nmI n.1 n.2.2.2.2.1 w.1 (remI (w.2.1 + nI i)) = nI (N.2.2.2 (4 * a.1 + (a.2.1 + i) % 4)) := by
        unfold nmI
        rw [er, h.1, hn.1, hn.2.2.2, if_pos (hasI_n hk hK), if_pos (exI_n (by omega)), pl4, nI_clamp (by omega)]
      have h9 := hv.2.2.2 (4 * a.1 + (a.2.1 + i) % 4) (by omega)
      rw [eh, en, er]
      by_cases c2 : hsT N.2.2.1 a i = true
      · rw [if_pos c2, if_pos c2]
        by_cases c3 : N.2.2.2 (4 * a.1 + (a.2.1 + i) % 4) = nb
        · rw [if_pos c3, if_pos (by rw [c3])]
          cases fo with
          | none =>
            rw [if_pos (show oI none = -1 from rfl)]
            exact ih (i + 1) (some ((a.2.1 + i) % 4)) (by omega) (fun e he => by cases he; omega)
          | some e =>
            rw [if_neg (oI_some (by have := hf e rfl; omega))]
            exact ⟨rfl, h⟩
        · rw [if_neg c3, if_neg (fun q => c3 ((nI_eq (by omega) hnb).mp q))]
          exact ih (i + 1) fo (by omega) hf
      · rw [if_neg c2, if_neg c2]
        exact ih (i + 1) fo (by omega) hf
/-- a saying -/
theorem fl_R {w : WS} {a : MA} {kd nb ps : Nat} (hn : nR n N) (hv : VN N) (hS : S0 ≤ 2 ^ 30) (hk : a.1 < N.1) (hf : a.2.1 < 4) (hkd : kd < 9) (hnb : nb < 2 ^ 31) (hnb1 : kd = 4 ∨ kd = 5 → 1 ≤ nb) (hps : ps < 100) (h : wQ S0 ex w a.1 a.2.1) : (flW n w (nI kd) (nI nb) (nI (ps + 1))).1 = (dsT N a kd nb ps).1 ∧ wR S0 ex (flW n w (nI kd) (nI nb) (nI (ps + 1))).2 (dsT N a kd nb ps).2 := by
  have hz := h.z
  have hK := hv.1
  have hl := hv.vl
  have hza : okA (zA a) := ⟨by show a.1 < 24; omega, hf, by show 0 ≤ 30; omega⟩
  have ne : ∀ v : Nat, v < 9 → ¬ kd = v → ¬ nI kd = nI v := fun v hv9 hne q => hne ((nI_eq (by omega) (by omega)).mp q)
  unfold flW dsT
  by_cases c4 : kd = 4
  · subst c4
    rw [if_pos (show nI 4 = 4 from rfl), if_neg (show ¬ 4 < 4 by decide), if_neg (show ¬ 4 = 7 by decide), if_pos (show 4 < 6 by decide), if_pos (show 4 = 4 from rfl)]
    exact tn_R hn hl hS hnb (by decide) 31 0 _ _ (by have := hnb1 (Or.inl rfl); omega) hza hz
  rw [if_neg (show ¬ nI kd = 4 from ne 4 (by decide) c4)]
  by_cases c5 : kd = 5
  · subst c5
    rw [if_pos (show nI 5 = 5 from rfl), if_neg (show ¬ 5 < 4 by decide), if_neg (show ¬ 5 = 7 by decide), if_pos (show 5 < 6 by decide), if_neg (show ¬ 5 = 4 by decide)]
    exact tn_R hn hl hS hnb (by decide) 31 0 _ _ (by have := hnb1 (Or.inr rfl); omega) hza hz
  rw [if_neg (show ¬ nI kd = 5 from ne 5 (by decide) c5)]
  by_cases c6 : kd = 6
  · subst c6
    rw [if_pos (show nI 6 = 6 from rfl), if_neg (show ¬ 6 < 4 by decide), if_neg (show ¬ 6 = 7 by decide), if_neg (show ¬ 6 < 6 by decide), if_neg (show ¬ 6 = 8 by decide)]
    have := un_R (me := ps + 1) hn hv hS hnb (by omega) 31 0 _ _ (by omega) hza hz
    rw [show ps + 1 - 1 - 0 = ps by omega] at this
    exact this
  rw [if_neg (show ¬ nI kd = 6 from ne 6 (by decide) c6)]
  by_cases c7 : kd = 7
  · subst c7
    rw [if_pos (show nI 7 = 7 from rfl), if_neg (show ¬ 7 < 4 by decide), if_pos (show 7 = 7 from rfl)]
    exact gn_R hn hv hS hnb hza hk hz 4 0 none (by omega) (fun e he => by cases he)
  rw [if_neg (show ¬ nI kd = 7 from ne 7 (by decide) c7)]
  by_cases c8 : kd = 8
  · subst c8
    rw [if_pos (show nI 8 = 8 from rfl), if_neg (show ¬ 8 < 4 by decide), if_neg (show ¬ 8 = 7 by decide), if_neg (show ¬ 8 < 6 by decide), if_pos (show 8 = 8 from rfl)]
    exact ed_R hn hl hS 31 _ _ hza hz
  have hk4 : kd < 4 := by omega
  rw [if_neg (show ¬ nI kd = 8 from ne 8 (by decide) c8), if_pos (exI_n hk4), if_pos hk4]
  have er : remI ((zW w).2.1 + nI kd) = nI (((zA a).2.1 + kd) % 4) := by rw [hz.2.1]; exact remI_2 (by have : (zA a).2.1 < 4 := hf; omega)
  rw [er]
  exact ps_R hn hl hza (by omega) hS hz
end WRS
