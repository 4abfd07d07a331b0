/-! walk, holds, slip: the two sides alike -/
def yR (y : RS) (s : MS) : Prop := y.1 = nI s.1 ∧ ∀ i, i < s.1 → y.2 i = nI (10 * s.2.1 i + s.2.2 i)
def okS (kd nb : Nat) : Prop := kd < 9 ∧ nb ≤ 9 ∧ (kd = 4 ∨ kd = 5 → 1 ≤ nb)
theorem d10 {a b : Nat} (ha : a < 9) (hb : b ≤ 9) : nI (10 * a + b) / 10 = nI a := by
  rw [show (10 : Int32) = nI 10 from rfl, pk_div (by omega) (by decide) (by decide)]
  congr 1
  omega
theorem m10 {a b : Nat} (ha : a < 9) (hb : b ≤ 9) : nI (10 * a + b) - nI (10 * a + b) / 10 * 10 = nI b := by
  rw [show (10 : Int32) = nI 10 from rfl, pk_rem (by omega) (by decide) (by decide)]
  congr 1
  omega
theorem gw_idx {F : Nat → MA → Bool × MA} (m : Nat) : ∀ (i : Nat) (q : GW) (j : Nat), (gwL F m i q).1 = some j → j < i + m := by
  induction m with
  | zero => intro i q j h; cases h
  | succ m ih =>
    intro i q j h
    unfold gwL at h
    by_cases c : (F i q.1).1 = true
    · rw [if_pos c] at h
      have := ih (i + 1) _ j h
      omega
    · rw [if_neg c] at h
      cases h
      omega
theorem gw_keep {K Z : Nat} {F : Nat → MA → Bool × MA} (hF : ∀ i a, i < Z → a.1 < K → a.2.1 < 4 → (F i a).2.1 < K ∧ (F i a).2.2.1 < 4 ∧ (F i a).2.2.2.1 ≤ 30 ∧ paOk (F i a).2) (m : Nat) : ∀ (i : Nat) (q : GW), i + m ≤ Z → q.1.1 < K → q.1.2.1 < 4 → (∀ j, j < q.2.1 → q.2.2 j < 4) → (gwL F m i q).2.1.1 < K ∧ (gwL F m i q).2.1.2.1 < 4 ∧ (gwL F m i q).2.2.1 ≤ q.2.1 + 30 * m ∧ ∀ j, j < (gwL F m i q).2.2.1 → (gwL F m i q).2.2.2 j < 4 := by
  induction m with
  | zero => intro i q _ h1 h2 h; exact ⟨h1, h2, Nat.le_refl _, h⟩
  | succ m ih =>
    intro i q hi h1 h2 h
    obtain ⟨g1, g2, g3, g4⟩ := hF i q.1 (by omega) h1 h2
    have h5 : ∀ j, j < (gwN F i q).2.1 → (gwN F i q).2.2 j < 4 := fun j hj => by
      have hj : j < q.2.1 + (F i q.1).2.2.2.1 := hj
      show apE q.2.1 q.2.2 (F i q.1).2.2.2.2 j < 4
      unfold apE
      by_cases c : j < q.2.1
      · rw [if_pos c]
        exact h j c
      · rw [if_neg c]
        exact g4 _ (by omega)
    unfold gwL
    by_cases c : (F i q.1).1 = true
    · rw [if_pos c]
      obtain ⟨k1, k2, k3, k4⟩ := ih (i + 1) (gwN F i q) (by omega) g1 g2 h5
      refine ⟨k1, k2, ?_, k4⟩
      have : (gwN F i q).2.1 = q.2.1 + (F i q.1).2.2.2.1 := rfl
      omega
    · rw [if_neg c]
      refine ⟨g1, g2, ?_, h5⟩
      show q.2.1 + (F i q.1).2.2.2.1 ≤ _
      omega
theorem dsF_ok {N : MN} {kd nb : Nat → Nat} (hv : VN N) (i : Nat) (a : MA) (h1 : a.1 < N.1) (h2 : a.2.1 < 4) : (dsF N kd nb i a).2.1 < N.1 ∧ (dsF N kd nb i a).2.2.1 < 4 ∧ (dsF N kd nb i a).2.2.2.1 ≤ 30 ∧ paOk (dsF N kd nb i a).2 := by
  have hK := hv.1
  have h := dsT_ok hv.vl (show a.1 < 24 by omega) h2 (kd i) (nb i) 0
  exact ⟨ds_knot hv h1 h2 _ _ _, h.2.1, h.2.2, dsT_pa hv.vl (by omega) h2 _ _ _⟩
theorem spD_ok {N : MN} {s : MS} {ii : Nat} (hv : VN N) (i : Nat) (a : MA) (h1 : a.1 < N.1) (h2 : a.2.1 < 4) : (spD N s ii i a).2.1 < N.1 ∧ (spD N s ii i a).2.2.1 < 4 ∧ (spD N s ii i a).2.2.2.1 ≤ 30 ∧ paOk (spD N s ii i a).2 := by
  have hK := hv.1
  unfold spD
  split
  · have h := dsT_ok hv.vl (show a.1 < 24 by omega) h2 (spK2 (s.2.1 i)) (spN2 (spK2 (s.2.1 i)) (s.2.2 i)) 1
    exact ⟨ds_knot hv h1 h2 _ _ _, h.2.1, h.2.2, dsT_pa hv.vl (by omega) h2 _ _ _⟩
  · have h := dsT_ok hv.vl (show a.1 < 24 by omega) h2 (s.2.1 i) (s.2.2 i) 0
    exact ⟨ds_knot hv h1 h2 _ _ _, h.2.1, h.2.2, dsT_pa hv.vl (by omega) h2 _ _ _⟩
/-- the row of the one and the row of the other -/
theorem gF_ds {n : NS} {N : MN} {cap Z : Nat} {g : Nat → Int32} {kd nb : Nat → Nat} (hn : nR n N) (hv : VN N) (hc : cap < 2 ^ 31) (hZ : Z ≤ cap) (hg : ∀ i, i < Z → g i = nI (10 * kd i + nb i)) (hs : ∀ i, i < Z → okS (kd i) (nb i)) : gF n N (dsF N kd nb) (sgL n cap (nI Z) g (-1)) Z := fun i S ex w a hi hS h1 h2 h => by
  obtain ⟨s1, s2, s3⟩ := hs i hi
  have e : sgL n cap (nI Z) g (-1) i w = flW n w (nI (kd i)) (nI (nb i)) 1 := by
    unfold sgL
    rw [if_neg (nI_nm1 (by omega)), atI_n hc hZ hi, hg i hi, m10 s1 s2, d10 s1 s2]
  rw [e]
  have := fl_R (ps := 0) hn hv hS h1 h2 s1 (show nb i < 2 ^ 31 by omega) s3 (by decide) h
  have k := dsF_ok (kd := kd) (nb := nb) hv i a h1 h2
  exact ⟨this.1, this.2, k.1, k.2.1, k.2.2.1⟩
theorem fl_mt {n : NS} {w : WS} {kind number a b : Int32} (h : ¬ kind = 6) : flW n w kind number a = flW n w kind number b := by
  simp only [flW, h, if_false]
theorem gF_sp {n : NS} {N : MN} {s : MS} {y : RS} {ii : Nat} (hn : nR n N) (hv : VN N) (hs : VS s) (hy : yR y s) (hii : ii < s.1) (hk : s.2.1 ii = 1 ∨ s.2.1 ii = 3 ∨ s.2.1 ii = 4 ∨ s.2.1 ii = 5 ∨ s.2.1 ii = 6) : gF n N (spD N s ii) (sgL n 60 y.1 y.2 (nI ii)) s.1 := fun i S ex w a hi hS h1 h2 h => by
  obtain ⟨s1, s2, s3⟩ := hs.2 i hi
  have hs6 := hs.1
  have k := spD_ok (s := s) (ii := ii) hv i a h1 h2
  refine ⟨?_, ?_, k.1, k.2.1, k.2.2.1⟩ <;> unfold spD sgL <;> rw [hy.1, atI_n (by decide) hs.1 hi, hy.2 i hi, m10 s1 s2, d10 s1 s2]
  all_goals
    by_cases c : i = ii
    · subst c
      rw [if_pos rfl, if_pos rfl]
      unfold fsW
      rcases hk with q | q | q | q | q
      · have := fl_R (kd := 3) (nb := s.2.2 i) (ps := 1) hn hv hS h1 h2 (by decide) (by omega) (fun q => by omega) (by decide) h
        rw [q, if_pos (show nI 1 = 1 from rfl)]
        rw [fl_mt (b := nI (1 + 1)) (by decide)]
        first | exact this.1 | exact this.2
      · have := fl_R (kd := 1) (nb := s.2.2 i) (ps := 1) hn hv hS h1 h2 (by decide) (by omega) (fun q => by omega) (by decide) h
        rw [q, if_neg (show ¬ nI 3 = 1 by decide), if_pos (show nI 3 = 3 from rfl)]
        rw [fl_mt (b := nI (1 + 1)) (by decide)]
        first | exact this.1 | exact this.2
      · have := fl_R (kd := 4) (nb := s.2.2 i + 1) (ps := 1) hn hv hS h1 h2 (by decide) (by omega) (fun _ => by omega) (by decide) h
        rw [q, if_neg (show ¬ nI 4 = 1 by decide), if_neg (show ¬ nI 4 = 3 by decide), if_pos (show nI 4 = 4 from rfl), nI_1]
        rw [fl_mt (b := nI (1 + 1)) (by decide)]
        first | exact this.1 | exact this.2
      · have := fl_R (kd := 5) (nb := s.2.2 i + 1) (ps := 1) hn hv hS h1 h2 (by decide) (by omega) (fun _ => by omega) (by decide) h
        rw [q, if_neg (show ¬ nI 5 = 1 by decide), if_neg (show ¬ nI 5 = 3 by decide), if_neg (show ¬ nI 5 = 4 by decide), if_pos (show nI 5 = 5 from rfl), nI_1]
        rw [fl_mt (b := nI (1 + 1)) (by decide)]
        first | exact this.1 | exact this.2
      · have := fl_R (kd := 6) (nb := s.2.2 i) (ps := 1) hn hv hS h1 h2 (by decide) (by omega) (fun q => by omega) (by decide) h
        rw [q, if_neg (show ¬ nI 6 = 1 by decide), if_neg (show ¬ nI 6 = 3 by decide), if_neg (show ¬ nI 6 = 4 by decide), if_neg (show ¬ nI 6 = 5 by decide)]
        first | exact this.1 | exact this.2
    · rw [if_neg c, if_neg (show ¬ nI i = nI ii from fun q => c ((nI_eq (by omega) (by omega)).mp q))]
      have := fl_R (ps := 0) hn hv hS h1 h2 s1 (show s.2.2 i < 2 ^ 31 by omega) s3 (by decide) h
      first | exact this.1 | exact this.2
theorem st_wQ {w : WS} {k f : Nat} {ex : Nat → Nat} : wQ 0 ex (stW w (nI k) (nI f)) k f := ⟨rfl, rfl, rfl, rfl, fun j _ h => absurd h (Nat.not_lt_zero j)⟩
theorem VS.ok {s : MS} (h : VS s) : ∀ i, i < s.1 → okS (s.2.1 i) (s.2.2 i) := h.2
/-- the last walk -/
def laR (o2 : Int32) (la : WS) (w : MW) : Prop := o2 = bI w.1 ∧ (w.1 = true → w.2.2.2.1 ≤ 2 ^ 20 ∧ wQ w.2.2.2.1 w.2.2.2.2 la w.2.1 w.2.2.1)
theorem walk_R {n : NS} {N : MN} {s : MS} {y : RS} {la : WS} {w : MW} {a : MA} {k f : Nat} (hn : nR n N) (hv : VN N) (hs : VS s) (hy : yR y s) (hk : k < N.1) (hf : f < 4) : (if (faL n 60 y.1 y.2 (-1) s.1 0 (stW la (nI k) (nI f))).1 = -1 then (faL n 60 y.1 y.2 (-1) s.1 0 (stW la (nI k) (nI f))).2.1 else -2 - (faL n 60 y.1 y.2 (-1) s.1 0 (stW la (nI k) (nI f))).1) = wkA (wkT N s s.1 0 ((k, f, a.2.2), (true, w.2.1, w.2.2.1, 0, w.2.2.2.2))) ∧ laR 1 (faL n 60 y.1 y.2 (-1) s.1 0 (stW la (nI k) (nI f))).2 (wkF (wkT N s s.1 0 ((k, f, a.2.2), (true, w.2.1, w.2.2.1, 0, w.2.2.2.2)))) := by
  have hs6 := hs.1
  have hF := gF_ds (kd := s.2.1) (nb := s.2.2) hn hv (cap := 60) (by decide) hs.1 hy.2 hs.ok
  rw [hy.1]
  have hg := fa_gw hF s.1 0 ((k, f, a.2.2), 0, fun _ => 0) (stW la (nI k) (nI f)) (by omega) (by show 0 + 30 * s.1 ≤ _; omega) hk hf st_wQ
  have hw := wk_gw (N := N) (s := s) s.1 0 (k, f, a.2.2) (true, w.2.1, w.2.2.1, 0, w.2.2.2.2) 0 (fun _ => 0) ⟨rfl, fun j _ h => absurd h (Nat.not_lt_zero j)⟩
  have hb := gw_keep (F := dsF N s.2.1 s.2.2) (Z := s.1) (fun i a _ h1 h2 => dsF_ok hv i a h1 h2) s.1 0 ((k, f, a.2.2), 0, fun _ => 0) (by omega) hk hf (fun j h => absurd h (Nat.not_lt_zero j))
  have hidx := gw_idx (F := dsF N s.2.1 s.2.2) s.1 0 ((k, f, a.2.2), 0, fun _ => 0)
  generalize gwL (dsF N s.2.1 s.2.2) s.1 0 ((k, f, a.2.2), 0, fun _ => 0) = G at hg hw hb hidx
  obtain ⟨g1, g2, g3, g4⟩ := hg
  obtain ⟨w1, w2, w3, w4⟩ := hw
  generalize wkT N s s.1 0 ((k, f, a.2.2), (true, w.2.1, w.2.2.1, 0, w.2.2.2.2)) = V at w1 w2 w3 w4
  have w3 : V.2.2.1 = true := w3
  have hb3 : G.2.2.1 ≤ 0 + 30 * s.1 := hb.2.2.1
  constructor
  · unfold wkA
    rw [g1, w1]
    cases hG : G.1 with
    | none =>
      rw [if_pos (show oI none = -1 from rfl), g2.1]
      show nI G.2.1.1 = nI V.2.1.1
      rw [w2]
    | some i =>
      have := hidx i hG
      rw [if_neg (oI_some (by omega))]
      rfl
  · refine ⟨by show (1 : Int32) = bI V.2.2.1; rw [w3]; rfl, fun _ => ⟨by show V.2.2.2.2.2.1 ≤ _; rw [w4.1]; omega, ?_⟩⟩
    show wQ V.2.2.2.2.2.1 V.2.2.2.2.2.2 _ V.2.1.1 V.2.1.2.1
    rw [w2, w4.1]
    exact ⟨g2.1, g2.2.1, g2.2.2.1, g2.2.2.2.1, fun j hj hS => by rw [g2.2.2.2.2 j hj hS, w4.2 j hj hS]⟩
theorem walked_R {o2 : Int32} {la : WS} {w : MW} (h : laR o2 la w) (x : Int32) : rWalked o2 la x = rwM w x := by
  unfold rWalked rwM
  rw [h.1]
  by_cases c : w.1 = true
  · obtain ⟨hb, q1, q2, q3, q4, q5⟩ := h.2 c
    rw [if_pos c, if_neg ((bI_ne _).mpr c), q1, q2, q3, q4]
    by_cases c9 : x < 10
    · rw [if_pos c9]
      by_cases c0 : x = 0
      · rw [if_pos c0, if_pos c0]
      rw [if_neg c0, if_neg c0]
      by_cases c1 : x = 1
      · rw [if_pos c1, if_pos c1]
      rw [if_neg c1, if_neg c1]
      by_cases c2 : x = 2
      · rw [if_pos c2, if_pos c2]
      rw [if_neg c2, if_neg c2]
      unfold xaI
      rw [if_neg (fa_of_lt c9).2.1]
    · have ht : (10 : Int32) ≤ x := fa_of_nlt c9
      have h0 : ¬ x = 0 := fun q => by rw [q] at ht; exact absurd ht (by decide)
      have h1 : ¬ x = 1 := fun q => by rw [q] at ht; exact absurd ht (by decide)
      have h2 : ¬ x = 2 := fun q => by rw [q] at ht; exact absurd ht (by decide)
      rw [if_neg c9, if_neg h0, if_neg h1, if_neg h2]
      unfold xaI
      rw [if_pos ht]
      obtain ⟨j, hj, hx⟩ : ∃ j : Nat, j < 2 ^ 31 ∧ x = nI j := nI_of (fun q => by
        rw [fa_lt, show (0 : Int32).toInt = 0 by decide] at q
        have ht2 := (fa_le _ _).mp ht
        rw [show (10 : Int32).toInt = 10 by decide] at ht2
        omega)
      have hj10 : 10 ≤ j := (nI_leI (by decide) hj).mp (show nI 10 ≤ nI j from by rw [← hx]; exact ht)
      have hxs : x - 10 = nI (j - 10) := by rw [hx]; exact pk_sub hj10
      rw [hxs]
      have et : tN (nI (j - 10)) = j - 10 := nI_clamp (by omega)
      by_cases e1 : w.2.2.2.1 ≤ j - 10
      · rw [if_pos (nI_le e1 (by omega)), atI_no (by omega) (by omega)]
      · rw [if_neg (nI_ge (by omega) (by omega))]
        by_cases e2 : 200 ≤ j - 10
        · rw [if_pos (show (200 : Int32) ≤ nI (j - 10) from nI_le (a := 200) e2 (by omega)), atI_no (by omega) (by omega)]
        · rw [if_neg (show ¬ (200 : Int32) ≤ nI (j - 10) from nI_ge (b := 200) (by omega) (by decide)), atI_n (by decide) (by omega) (by omega), et]
          exact q5 (j - 10) (by omega) (by omega)
  · rw [if_neg c, if_pos ((bI_eq _).mpr (Bool.eq_false_iff.mpr c))]
/-! ### the route -/
theorem fo_rp {ld : Nat → Option Nat} {g : Nat → Nat} {f0 k f : Nat} (m : Nat) : ∀ (i : Nat) (pl : MP), (∀ j, j ≤ i → rp ld (fun i => g (f0 + i)) k f j = some (pl.1 j, pl.2 j)) → (foT ld g f0 m i pl).1 = (rp ld (fun i => g (f0 + i)) k f (i + m)).isSome ∧ ((foT ld g f0 m i pl).1 = true → ∀ j, j ≤ i + m → rp ld (fun i => g (f0 + i)) k f j = some ((foT ld g f0 m i pl).2.1 j, (foT ld g f0 m i pl).2.2 j)) := by
  induction m with
  | zero =>
    intro i pl h
    refine ⟨?_, fun _ j hj => h j hj⟩
    show true = _
    rw [Nat.add_zero, h i (Nat.le_refl _)]
    rfl
  | succ m ih =>
    intro i pl h
    have hi := h i (Nat.le_refl _)
    have hs := rp_s hi
    have e : foT ld g f0 (m + 1) i pl = (match ld (4 * pl.1 i + g (f0 + i)) with
      | none => (false, pl)
      | some y => foT ld g f0 m (i + 1) (updN pl.1 (i + 1) (y / 4), updN pl.2 (i + 1) ((y + 2) % 4))) := rfl
    rw [e]
    have hs : rp ld (fun i => g (f0 + i)) k f (i + 1) = (match ld (4 * pl.1 i + g (f0 + i)) with
      | none => none
      | some y => some (y / 4, (y + 2) % 4)) := hs
    cases hy : ld (4 * pl.1 i + g (f0 + i)) with
    | none =>
      rw [hy] at hs
      have hn : ∀ d, rp ld (fun i => g (f0 + i)) k f (i + 1 + d) = none := fun d => by
        induction d with
        | zero => exact hs
        | succ d ih2 =>
          show (match rp ld (fun i => g (f0 + i)) k f (i + 1 + d) with
            | none => none
            | some q => match ld (4 * q.1 + g (f0 + (i + 1 + d))) with
              | none => none
              | some y => some (y / 4, (y + 2) % 4)) = none
          rw [ih2]
      refine ⟨?_, fun q => by cases q⟩
      show false = _
      rw [show i + (m + 1) = i + 1 + m by omega, hn m]
      rfl
    | some y =>
      rw [hy] at hs
      have := ih (i + 1) (updN pl.1 (i + 1) (y / 4), updN pl.2 (i + 1) ((y + 2) % 4)) (fun j hj => by
        by_cases c : j = i + 1
        · rw [c]
          show _ = some (updN pl.1 (i + 1) (y / 4) (i + 1), updN pl.2 (i + 1) ((y + 2) % 4) (i + 1))
          rw [updN_s, updN_s]
          exact hs
        · show _ = some (updN pl.1 (i + 1) (y / 4) j, updN pl.2 (i + 1) ((y + 2) % 4) j)
          rw [updN_n c, updN_n c]
          exact h j (by omega))
      rw [show i + (m + 1) = i + 1 + m by omega]
      exact this
theorem foP_rp {ld : Nat → Option Nat} {g : Nat → Nat} {f0 m k f : Nat} {pl : MP} : (foP ld g f0 m k f pl).1 = (rp ld (fun i => g (f0 + i)) k f m).isSome ∧ ((foP ld g f0 m k f pl).1 = true → ∀ j, j ≤ m → rp ld (fun i => g (f0 + i)) k f j = some ((foP ld g f0 m k f pl).2.1 j, (foP ld g f0 m k f pl).2.2 j)) := by
  have := fo_rp (ld := ld) (g := g) (f0 := f0) (k := k) (f := f) m 0 (updN pl.1 0 k, updN pl.2 0 f) (fun j hj => by
    rw [show j = 0 by omega]
    show some (k, f) = some (updN pl.1 0 k 0, updN pl.2 0 f 0)
    rw [updN_s, updN_s])
  rw [Nat.zero_add] at this
  exact this
theorem goP_rp {N : MN} {r : MR} {pl : MP} (h : (foP N.2.2.1 r.2.2.2.2 0 r.2.2.2.1 r.2.1 r.2.2.1 pl).1 = true) {j : Nat} (hj : j ≤ r.2.2.2.1) : rp N.2.2.1 r.2.2.2.2 r.2.1 r.2.2.1 j = some ((goP N r pl).1 j, (goP N r pl).2 j) := by
  have := foP_rp.2 h j hj
  rw [show (fun i => r.2.2.2.2 (0 + i)) = r.2.2.2.2 from funext fun i => by rw [Nat.zero_add]] at this
  exact this
theorem rp_step {N : MN} {g : Nat → Nat} {k f i : Nat} {q : Nat × Nat} (hv : VN N) (hg : g i < 4) (hq : q.1 < N.1) (h : rp N.2.2.1 g k f i = some q) (h2 : (rp N.2.2.1 g k f (i + 1)).isSome = true) : ∃ y, N.2.2.1 (4 * q.1 + g i) = some y ∧ y < 4 * N.1 ∧ rp N.2.2.1 g k f (i + 1) = some (y / 4, (y + 2) % 4) := by
  have hs := rp_s h
  cases hy : N.2.2.1 (4 * q.1 + g i) with
  | none => rw [hs, hy] at h2; cases h2
  | some y =>
    rw [hy] at hs
    exact ⟨y, rfl, (hv.2.1 _ y (by have := hv.1; omega) hy).2.1, hs⟩
theorem rp_down {ld : Nat → Option Nat} {g : Nat → Nat} {k f i : Nat} (h : (rp ld g k f (i + 1)).isSome = true) : ∃ q, rp ld g k f i = some q := by
  cases e : rp ld g k f i with
  | some q => exact ⟨q, rfl⟩
  | none =>
    have : rp ld g k f (i + 1) = none := by
      show (match rp ld g k f i with
        | none => none
        | some q => match ld (4 * q.1 + g i) with
          | none => none
          | some y => some (y / 4, (y + 2) % 4)) = none
      rw [e]
    rw [this] at h
    cases h
theorem rp_all {ld : Nat → Option Nat} {g : Nat → Nat} {k f : Nat} (d : Nat) : ∀ i, (rp ld g k f (i + d)).isSome = true → (rp ld g k f i).isSome = true := by
  induction d with
  | zero => intro i h; exact h
  | succ d ih =>
    intro i h
    obtain ⟨q, hq⟩ := rp_down (show (rp ld g k f (i + d + 1)).isSome = true from h)
    exact ih i (by rw [hq]; rfl)
theorem rp_in {N : MN} {g : Nat → Nat} {k f m : Nat} (hv : VN N) (hg : ∀ i, i < m → g i < 4) (hk : k < N.1) (hf : f < 4) (h : (rp N.2.2.1 g k f m).isSome = true) (i : Nat) : i ≤ m → ∃ q, rp N.2.2.1 g k f i = some q ∧ q.1 < N.1 ∧ q.2 < 4 := by
  induction i with
  | zero => intro _; exact ⟨(k, f), rfl, hk, hf⟩
  | succ i ih =>
    intro hi
    obtain ⟨q, hq, h1, h2⟩ := ih (by omega)
    obtain ⟨y, hy, hy2, e⟩ := rp_step hv (hg i (by omega)) h1 hq (rp_all (m - (i + 1)) (i + 1) (by rw [show i + 1 + (m - (i + 1)) = m by omega]; exact h))
    exact ⟨_, e, by show y / 4 < N.1; omega, by show (y + 2) % 4 < 4; omega⟩
theorem pa_R {n : NS} {N : MN} {k f e y : Nat} (hn : nR n N) (hv : VN N) (hk : k < N.1) (hf : f < 4) (he : e < 4) (hy : N.2.2.1 (4 * k + e) = some y) : paI n (nI (4 * k + f)) (nI e) = nI (4 * (y / 4) + (y + 2) % 4) := by
  have hK := hv.1
  have hy9 := (hv.2.1 _ y (by omega) hy).2.1
  have e1 : nI (4 * k + f) / 4 = nI k := by
    rw [dv4 (by omega)]
    congr 1
    omega
  unfold paI
  rw [e1, hn.2.2.1, acI_n (by omega) he, hy]
  show nI y / 4 * 4 + remI (nI y + 2) = _
  rw [dv4 (by omega), remI_22 (by omega), pl4]
/-- the route as the system has it -/
def yW (wy : YS) (r : MR) : Prop := wy.1 = bI r.1 ∧ wy.2.1 = nI r.2.1 ∧ wy.2.2.1 = nI r.2.2.1 ∧ wy.2.2.2.1 = nI r.2.2.2.1 ∧ ∀ i, i < r.2.2.2.1 → wy.2.2.2.2 i = nI (r.2.2.2.2 i)
def VR (N : MN) (r : MR) : Prop := (r.2.1 < 24 ∧ r.2.2.1 < 4 ∧ r.2.2.2.1 ≤ 30 ∧ ∀ i, i < r.2.2.2.1 → r.2.2.2.2 i < 4) ∧ (r.1 = true → r.2.1 < N.1 ∧ (rp N.2.2.1 r.2.2.2.2 r.2.1 r.2.2.1 r.2.2.2.1).isSome = true)
theorem lp_R {n : NS} {N : MN} {wy : YS} {r : MR} (hn : nR n N) (hv : VN N) (hy : yW wy r) (hr : VR N r) (h1 : r.1 = true) (m : Nat) : ∀ (i : Nat) (q z : Nat × Nat), i + m = r.2.2.2.1 → rp N.2.2.1 r.2.2.2.2 r.2.1 r.2.2.1 i = some q → rp N.2.2.1 r.2.2.2.2 r.2.1 r.2.2.1 r.2.2.2.1 = some z → lpL n wy m i (nI (4 * q.1 + q.2)) = nI (4 * z.1 + z.2) := by
  obtain ⟨⟨r1, r2, r3, r4⟩, r5⟩ := hr
  obtain ⟨r6, r7⟩ := r5 h1
  induction m with
  | zero =>
    intro i q z hi hq hz
    rw [show i = r.2.2.2.1 by omega, hz] at hq
    cases hq
    rfl
  | succ m ih =>
    intro i q z hi hq hz
    obtain ⟨q2, hq2, b1, b2⟩ := rp_in hv r4 r6 r2 r7 i (by omega)
    rw [hq] at hq2
    cases hq2
    obtain ⟨y, hy2, hy3, e⟩ := rp_step hv (r4 i (by omega)) b1 hq (rp_all m (i + 1) (by rw [show i + 1 + m = r.2.2.2.1 by omega]; exact r7))
    unfold lpL
    rw [hy.2.2.2.1, atI_n (by decide) r3 (by omega), hy.2.2.2.2 i (by omega), pa_R hn hv b1 b2 (r4 i (by omega)) hy2]
    exact ih (i + 1) (y / 4, (y + 2) % 4) z (by omega) e hz
theorem lp_R0 {n : NS} {N : MN} {wy : YS} {r : MR} {pl : MP} (hn : nR n N) (hv : VN N) (hy : yW wy r) (hr : VR N r) (h1 : r.1 = true) : ∃ z : Nat × Nat, z.1 < N.1 ∧ z.2 < 4 ∧ lpL n wy r.2.2.2.1 0 (wy.2.1 * 4 + wy.2.2.1) = nI (4 * z.1 + z.2) ∧ rp N.2.2.1 r.2.2.2.2 r.2.1 r.2.2.1 r.2.2.2.1 = some z ∧ (goP N r pl).1 r.2.2.2.1 = z.1 ∧ (goP N r pl).2 r.2.2.2.1 = z.2 ∧ (foP N.2.2.1 r.2.2.2.2 0 r.2.2.2.1 r.2.1 r.2.2.1 pl).1 = true := by
  obtain ⟨r6, r7⟩ := hr.2 h1
  obtain ⟨z, hz, b1, b2⟩ := rp_in hv hr.1.2.2.2 r6 hr.1.2.1 r7 _ (Nat.le_refl _)
  have hfo : (foP N.2.2.1 r.2.2.2.2 0 r.2.2.2.1 r.2.1 r.2.2.1 pl).1 = true := by
    rw [foP_rp.1, show (fun i => r.2.2.2.2 (0 + i)) = r.2.2.2.2 from funext fun i => by rw [Nat.zero_add]]
    exact r7
  have hg := goP_rp hfo (Nat.le_refl r.2.2.2.1)
  rw [hz] at hg
  have hg := Option.some.inj hg
  refine ⟨z, b1, b2, ?_, hz, ?_, ?_, hfo⟩
  · rw [hy.2.1, hy.2.2.1, pl4]
    exact lp_R hn hv hy hr h1 _ 0 (r.2.1, r.2.2.1) z (by omega) rfl hz
  · rw [hg]
  · rw [hg]
/-! ### holds, still -/
theorem wa_iff {w : WS} {S M cap : Nat} {ex gg : Nat → Nat} {g : Nat → Int32} {k f at_ : Nat} (hq : wQ S ex w k f) (hcap : cap < 2 ^ 20) (hM : M ≤ cap) (m : Nat) : ∀ i, i + m ≤ S → i + m ≤ 200 → at_ + (i + m) ≤ M → (∀ j, j < M → g j = nI (gg j)) → (∀ j, j < M → gg j < 4) → (∀ j, j < S → ex j < 4) → (waL w cap (nI M) g (nI at_) m i = true ↔ ∀ j, i ≤ j → j < i + m → ex j = gg (at_ + j)) := by
  induction m with
  | zero => intro i _ _ _ _ _ _; exact ⟨fun _ j h1 h2 => absurd h2 (by omega), fun _ => rfl⟩
  | succ m ih =>
    intro i h1 h2 h3 h4 h5 h6
    have e : waL w cap (nI M) g (nI at_) (m + 1) i = if atI 200 w.2.2.2.2.1 w.2.2.2.2.2 (nI i) = atI cap (nI M) g (nI at_ + nI i) then waL w cap (nI M) g (nI at_) m (i + 1) else false := rfl
    rw [e, hq.2.2.2.1, atI_n (by decide) (by omega) (by omega), nI_add, atI_n (by omega) hM (by omega), hq.2.2.2.2 i (by omega) (by omega), h4 _ (by omega)]
    have b1 := h5 (at_ + i) (by omega)
    have b2 := h6 i (by omega)
    by_cases c : ex i = gg (at_ + i)
    · rw [if_pos (by rw [c]), ih (i + 1) (by omega) (by omega) (by omega) h4 h5 h6]
      refine ⟨fun h j k1 k2 => ?_, fun h j k1 k2 => h j (by omega) (by omega)⟩
      by_cases q : j = i
      · rw [q]
        exact c
      · exact h j (by omega) (by omega)
    · rw [if_neg (fun q => c ((nI_eq (by omega) (by omega)).mp q))]
      exact ⟨fun h => (by cases h), fun h => absurd (h i (Nat.le_refl _) (by omega)) c⟩
theorem iw_te {n : NS} {N : MN} {sc : WS} {cap Z M k f f0 fi : Nat} {g eg : Nat → Int32} {gg kd nb : Nat → Nat} {a : MA} {pl : MP} (hn : nR n N) (hv : VN N) (hcap : cap < 2 ^ 31) (hZ : Z ≤ cap) (hZ6 : Z ≤ 60) (hg : ∀ i, i < Z → g i = nI (10 * kd (fi + i) + nb (fi + i))) (hs : ∀ i, i < Z → okS (kd (fi + i)) (nb (fi + i))) (hM : M ≤ 30) (he : ∀ i, i < M → eg i = nI (gg (f0 + i))) (he4 : ∀ i, i < M → gg (f0 + i) < 4) (hk : k < N.1) (hf : f < 4) : iwI (iwQ n sc (nI k) (nI f) cap (nI Z) g Z) 30 (nI M) eg M = (teR N gg f0 M kd nb fi Z k f a pl).1 := by
  have hF := gF_ds (kd := fun j => kd (fi + j)) (nb := fun j => nb (fi + j)) hn hv hcap hZ hg hs
  have h1 := fa_gw hF Z 0 ((k, f, a.2.2), 0, fun _ => 0) (stW sc (nI k) (nI f)) (by omega) (by show 0 + 30 * Z ≤ _; omega) hk hf st_wQ
  have h2 := te_gw (N := N) (g := gg) (kd := kd) (nb := nb) (f0 := f0) (M := M) (fi := fi) Z 0 0 (k, f, a.2.2) (fun _ => 0) (Nat.zero_le _) (fun j h => absurd h (Nat.not_lt_zero j))
  have h3 := gw_keep (F := dsF N (fun j => kd (fi + j)) (fun j => nb (fi + j))) (Z := Z) (fun i a _ q1 q2 => dsF_ok hv i a q1 q2) Z 0 ((k, f, a.2.2), 0, fun _ => 0) (by omega) hk hf (fun j h => absurd h (Nat.not_lt_zero j))
  have h4 := gw_rp (ld := N.2.2.1) (F := dsF N (fun j => kd (fi + j)) (fun j => nb (fi + j))) (Z := Z) (k0 := k) (f0 := f) (K := N.1) (fun i a _ q1 q2 => ⟨ds_rp hv.vl (by have := hv.1; omega) q2 _ _ _, (dsF_ok hv i a q1 q2).1, (dsF_ok hv i a q1 q2).2.1⟩) Z 0 ((k, f, a.2.2), 0, fun _ => 0) (by omega) hk hf rfl
  have hidx := gw_idx (F := dsF N (fun j => kd (fi + j)) (fun j => nb (fi + j))) Z 0 ((k, f, a.2.2), 0, fun _ => 0)
  generalize gwL (dsF N (fun j => kd (fi + j)) (fun j => nb (fi + j))) Z 0 ((k, f, a.2.2), 0, fun _ => 0) = G at h1 h2 h3 h4 hidx
  obtain ⟨g1, g2, g3, g4⟩ := h1
  have hS : G.2.2.1 ≤ 0 + 30 * Z := h3.2.2.1
  have hte : (teR N gg f0 M kd nb fi Z k f a pl).1 = true ↔ okG G M (fun j => gg (f0 + j)) := by
    unfold teR
    constructor
    · intro h
      by_cases c : (foP N.2.2.1 gg f0 M k f pl).1 = true
      · rw [if_pos c] at h
        exact h2.mp h
      · rw [if_neg c] at h
        cases h
    · intro h
      have hfo : (foP N.2.2.1 gg f0 M k f pl).1 = true := by
        rw [foP_rp.1, ← rp_cong M h.2.2, ← h.2.1, h4]
        rfl
      rw [if_pos hfo]
      exact h2.mpr h
  have hcl : iwI (iwQ n sc (nI k) (nI f) cap (nI Z) g Z) 30 (nI M) eg M = true ↔ okG G M (fun j => gg (f0 + j)) := by
    unfold iwI iwQ okG
    rw [g1]
    have hS3 := g2.2.2.1
    cases hG : G.1 with
    | none =>
      rw [if_pos (show oI none = -1 from rfl), hS3]
      by_cases c : G.2.2.1 = M
      · rw [if_pos (by rw [c])]
        unfold wnI
        rw [hS3, c, show nI M - 0 = nI M from pk_sub (b := 0) (Nat.zero_le _), if_pos (nI_le (Nat.le_refl _) (by omega))]
        rw [c] at g2 h3
        have := wa_iff (gg := fun j => gg (f0 + j)) (at_ := 0) g2 (by decide) hM M 0 (by omega) (by omega) (by omega) he he4 h3.2.2.2
        rw [show (0 : Int32) = nI 0 from rfl, this]
        refine ⟨fun h => ⟨rfl, rfl, fun j hj => ?_⟩, fun h j _ hj => ?_⟩
        · have := h j (Nat.zero_le _) (by omega)
          rw [Nat.zero_add] at this
          exact this
        · have := h.2.2 j (by omega)
          rw [Nat.zero_add]
          exact this
      · rw [if_neg (fun q => c ((nI_eq (by omega) (by omega)).mp q))]
        exact ⟨fun h => (by cases h), fun h => absurd h.2.1 c⟩
    | some i =>
      have h9 := hidx i hG
      rw [if_neg (oI_some (by omega))]
      exact ⟨fun h => (by cases h), fun h => by cases h.1⟩
  exact Bool.eq_iff_iff.mpr (hcl.trans hte.symm)
