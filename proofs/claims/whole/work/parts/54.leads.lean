/-! the leads of the two charts -/
def cP (P : Nat → Nat) (s : Nat) : Nat := 1000 * P (ky s) + 1
theorem fi_at (v : Int32) (m : Nat) : ∀ (i : Nat) (f : Nat → Int32) (x : Nat), fiL v m i f x = if i ≤ x ∧ x < i + m then v else f x := by
  induction m with
  | zero => intro i f x; exact (if_neg (by omega)).symm
  | succ m ih =>
    intro i f x
    show fiL v m (i + 1) (upd f i v) x = _
    rw [ih]
    by_cases c : i + 1 ≤ x ∧ x < i + 1 + m
    · rw [if_pos c, if_pos (by omega)]
    · rw [if_neg c]
      by_cases e : x = i
      · rw [e, pk_us, if_pos (by omega)]
      · rw [pk_un e, if_neg (by omega)]
theorem rC.cong {N : Nat} {nx nx' : NX} {c v v' : Nat → Nat} {ch : KS} (h : rC N nx c v ch) (h1 : ∀ x s, x < N → s < 29 → nx x s = nx' x s) (h2 : ∀ x, x < N → v x = v' x) : rC N nx' c v' ch := ⟨h.1, fun x s hx hs => by rw [h.2.1 x s hx hs, h1 x s hx hs], fun x hx => by rw [h.2.2.1 x hx, h2 x hx], h.2.2.2⟩
theorem prI_n {P : Nat → Nat} {kd : Nat} (hk : kd < 9) : prI (fun x => nI (P x)) (nI kd) = nI (P kd) := by
  unfold prI kiI
  rw [if_neg (nI_pos (by omega)), if_neg (show ¬ (9 : Int32) ≤ nI kd from nI_ge (b := 9) hk (by decide)), if_pos rfl, nI_clamp (by omega)]
theorem op_at {P : Nat → Nat} (m : Nat) : ∀ (i : Nat) (ch : KS), i + m ≤ 29 → (opL (fun x => nI (P x)) m i ch).1 = ch.1 ∧ (opL (fun x => nI (P x)) m i ch).2.1 = ch.2.1 ∧ (opL (fun x => nI (P x)) m i ch).2.2.1 = ch.2.2.1 ∧ ∀ s, s < 29 → (opL (fun x => nI (P x)) m i ch).2.2.2 s = if i ≤ s ∧ s < i + m then nI (cP P s) else ch.2.2.2 s := by
  induction m with
  | zero => intro i ch _; exact ⟨rfl, rfl, rfl, fun s _ => (if_neg (by omega)).symm⟩
  | succ m ih =>
    intro i ch hi
    have hok := say_ok i (by omega)
    have e : spK ch (nI i) (prI (fun x => nI (P x)) (sa_f 0 i / 10)) = (ch.1, ch.2.1, ch.2.2.1, upd ch.2.2.2 i (nI (cP P i))) := by
      have hp : prI (fun x => nI (P x)) (sa_f 0 i / 10) = nI (P (ky i)) := by
        have : sa_f 0 i = nI (10 * ky i + ny i) := by rw [← sayN_e]; rfl
        rw [this, d10 hok.1 hok.2.1, prI_n hok.1]
      unfold spK syI
      rw [if_neg (nI_pos (by omega)), if_neg (nI_ge (by omega) (by decide)), if_pos rfl, hp, nI_clamp (by omega), show (1000 : Int32) = nI 1000 from rfl, pk_mul, nI_1, Nat.mul_comm]
      rfl
    show (opL (fun x => nI (P x)) m (i + 1) (spK ch (nI i) (prI (fun x => nI (P x)) (sa_f 0 i / 10)))).1 = _ ∧ (opL (fun x => nI (P x)) m (i + 1) (spK ch (nI i) (prI (fun x => nI (P x)) (sa_f 0 i / 10)))).2.1 = _ ∧ (opL (fun x => nI (P x)) m (i + 1) (spK ch (nI i) (prI (fun x => nI (P x)) (sa_f 0 i / 10)))).2.2.1 = _ ∧ ∀ s, s < 29 → (opL (fun x => nI (P x)) m (i + 1) (spK ch (nI i) (prI (fun x => nI (P x)) (sa_f 0 i / 10)))).2.2.2 s = _
    rw [e]
    obtain ⟨h1, h2, h3, h4⟩ := ih (i + 1) (ch.1, ch.2.1, ch.2.2.1, upd ch.2.2.2 i (nI (cP P i))) (by omega)
    refine ⟨h1, h2, h3, fun s hs => ?_⟩
    rw [h4 s hs]
    show (if i + 1 ≤ s ∧ s < i + 1 + m then nI (cP P s) else upd ch.2.2.2 i (nI (cP P i)) s) = _
    by_cases q : i + 1 ≤ s ∧ s < i + 1 + m
    · rw [if_pos q, if_pos (by omega)]
    · rw [if_neg q]
      by_cases z : s = i
      · rw [z, pk_us, if_pos (by omega)]
      · rw [pk_un z, if_neg (by omega)]
theorem op_R {P : Nat → Nat} {ch : KS} {NP : Nat} : rC NP (fun _ _ => none) (cP P) (fun _ => UNR) (opK (fun x => nI (P x)) ch NP) := by
  unfold opK
  obtain ⟨h1, h2, h3, h4⟩ := op_at (P := P) 29 0 (clK ch NP) (by decide)
  refine ⟨h1, fun x s hx hs => ?_, fun x hx => ?_, fun s hs => ?_⟩
  · rw [h2]
    show fiL (-1) (NP * 29) 0 ch.2.1 (x * 29 + s) = -1
    rw [fi_at, if_pos (by omega)]
  · rw [h3]
    show fiL 1000000000 NP 0 ch.2.2.1 x = nI UNR
    rw [fi_at, if_pos (by omega)]
    rfl
  · rw [h4 s hs, if_pos (by omega)]
theorem sg_R {N : Nat} {nx : NX} {c v : Nat → Nat} {ch : KS} (h : rC N nx c v ch) (hN : N ≤ 96) {x : Nat} (hx : x < N) : rC N nx c (updN v x 0) (sgK ch (nI x)) := by
  unfold sgK
  rw [if_pos (pl_R h hN hx), nI_clamp (by omega)]
  refine ⟨h.1, h.2.1, fun y hy => ?_, h.2.2.2⟩
  show upd ch.2.2.1 x 0 y = nI (updN v x 0 y)
  by_cases e : y = x
  · rw [e, pk_us, updN_s]
    rfl
  · rw [pk_un e, updN_n e]
    exact h.2.2.1 y hy
def nxU (F : NX) (a i : Nat) : NX := fun x s => if x < a ∨ (x = a ∧ s < i) then F x s else none
theorem sl_R {N : Nat} {F : NX} {c v : Nat → Nat} {ch : KS} {a i t : Nat} (h : rC N (nxU F a i) c v ch) (hN : N ≤ 96) (ha : a < N) (hi : i < 29) (hF : F a i = some t) : rC N (nxU F a (i + 1)) c v (slK ch (nI a) (nI i) (nI t)) := by
  have hsy : syI (nI i) = true := by
    unfold syI
    rw [if_neg (nI_pos (by omega)), if_neg (nI_ge hi (by decide))]
  unfold slK
  rw [if_pos (pl_R h hN ha), if_pos hsy, pk_mul, nI_add, nI_clamp (by omega)]
  refine ⟨h.1, fun x s hx hs => ?_, h.2.2.1, h.2.2.2⟩
  show upd ch.2.1 (a * 29 + i) (nI t) (x * 29 + s) = oI (nxU F a (i + 1) x s)
  unfold nxU
  by_cases e : x = a ∧ s = i
  · rw [e.1, e.2, pk_us, if_pos (by omega), hF]
    rfl
  · rw [pk_un (by omega), h.2.1 x s hx hs]
    unfold nxU
    by_cases q : x < a ∨ (x = a ∧ s < i)
    · rw [if_pos q, if_pos (by omega)]
    · rw [if_neg q, if_neg (by omega)]
theorem nxU_no {F : NX} {a i x s : Nat} (hF : F a i = none) : nxU F a i x s = nxU F a (i + 1) x s := by
  unfold nxU
  by_cases e : x = a ∧ s = i
  · rw [if_neg (by omega), if_pos (by omega), e.1, e.2, hF]
  · by_cases q : x < a ∨ (x = a ∧ s < i)
    · rw [if_pos q, if_pos (by omega)]
    · rw [if_neg q, if_neg (by omega)]
theorem nxU_row {F : NX} {a x s : Nat} (hs : s < 29) : nxU F a 29 x s = nxU F (a + 1) 0 x s := by
  unfold nxU
  by_cases q : x < a ∨ (x = a ∧ s < 29)
  · rw [if_pos q, if_pos (by omega)]
  · rw [if_neg q, if_neg (by omega)]
/-! ### tell -/
def tlF (N : MN) (r : MR) (pl : MP) (al : Int32) : NX := fun x s => if alI al (nI (ky s)) = true then axT N r pl x (ky s) (ny s) else none
def bsX (N : MN) (al : Int32) : NX := fun x s => if alI al (nI (ky s)) = true then nxT N x (ky s) (ny s) else none
theorem sf_R {n : NS} {N : MN} {al : Int32} {sc : WS} {k f i : Nat} {ex path : Nat → Nat} (hn : nR n N) (hv : VN N) (hk : k < N.1) (hf : f < 4) (hi : i < 29) (hal : alI al (nI (ky i)) = true) : (sfW n al sc (nI (4 * k + f)) (sa_f 0 i)).1 = (dsT N (k, f, 0, path) (ky i) (ny i) 0).1 ∧ wR 0 ex (sfW n al sc (nI (4 * k + f)) (sa_f 0 i)).2 (dsT N (k, f, 0, path) (ky i) (ny i) 0).2 := by
  have hK := hv.1
  have hok := say_ok i hi
  have es : sa_f 0 i = nI (10 * ky i + ny i) := by rw [← sayN_e]; rfl
  have e1 : nI (4 * k + f) / 4 = nI k := by
    rw [dv4 (by omega)]
    congr 1
    omega
  have e2 : remI (nI (4 * k + f)) = nI f := by
    rw [remI_n (by omega)]
    congr 1
    omega
  unfold sfW
  rw [es, m10 hok.1 hok.2.1, d10 hok.1 hok.2.1, if_pos hal, e1, e2]
  exact fl_R (ps := 0) hn hv (by decide) hk hf hok.1 (by have := hok.2.1; omega) hok.2.2 (by decide) st_wQ
theorem sf_no {n : NS} {al : Int32} {sc : WS} {pl : Int32} {i : Nat} (hi : i < 29) (hal : ¬ alI al (nI (ky i)) = true) : sfW n al sc pl (sa_f 0 i) = (false, sc) := by
  have hok := say_ok i hi
  have es : sa_f 0 i = nI (10 * ky i + ny i) := by rw [← sayN_e]; rfl
  unfold sfW
  rw [es, d10 hok.1 hok.2.1, if_neg hal]
theorem cy_R {n : NS} {N : MN} {al : Int32} {wy : YS} {r : MR} {pl : MP} {c v : Nat → Nat} {a : Nat} (hn : nR n N) (hv : VN N) (hy : yW wy r) (hr3 : r.2.2.2.1 ≤ 30) (hr4 : ∀ i, i < r.2.2.2.1 → r.2.2.2.2 i < 4) (ha : a < r.2.2.2.1) (hk : pl.1 a < N.1) (hf : pl.2 a < 4) (m : Nat) : ∀ (i : Nat) (q : WS × KS), i + m = 29 → rC (r.2.2.2.1 + 1) (nxU (tlF N r pl al) a i) c v q.2 → rC (r.2.2.2.1 + 1) (nxU (tlF N r pl al) (a + 1) 0) c v (cyL n al wy (nI a) (nI (4 * pl.1 a + pl.2 a)) m i q).2 := by
  have hK := hv.1
  induction m with
  | zero =>
    intro i q hi h
    rw [show i = 29 by omega] at h
    exact h.cong (fun x s _ hs => nxU_row hs) (fun _ _ => rfl)
  | succ m ih =>
    intro i q hi h
    refine ih (i + 1) _ (by omega) ?_
    show rC (r.2.2.2.1 + 1) (nxU (tlF N r pl al) a (i + 1)) c v (if (sfW n al q.1 (nI (4 * pl.1 a + pl.2 a)) (sa_f 0 i)).1 = true then (if wnI (sfW n al q.1 (nI (4 * pl.1 a + pl.2 a)) (sa_f 0 i)).2 30 wy.2.2.2.1 wy.2.2.2.2 (nI a) (sfW n al q.1 (nI (4 * pl.1 a + pl.2 a)) (sa_f 0 i)).2.2.2.1.toNatClampNeg = true then slK q.2 (nI a) (nI i) (nI a + (sfW n al q.1 (nI (4 * pl.1 a + pl.2 a)) (sa_f 0 i)).2.2.2.1) else q.2) else q.2)
    by_cases hal : alI al (nI (ky i)) = true
    · have hF : tlF N r pl al a i = axT N r pl a (ky i) (ny i) := if_pos hal
      obtain ⟨g1, g2⟩ := sf_R (sc := q.1) (ex := fun _ => 0) (path := fun _ => 0) hn hv hk hf (show i < 29 by omega) hal
      have hax : axT N r pl a (ky i) (ny i) = (if (dsT N (pl.1 a, pl.2 a, 0, fun _ => 0) (ky i) (ny i) 0).1 = true then (if a + (dsT N (pl.1 a, pl.2 a, 0, fun _ => 0) (ky i) (ny i) 0).2.2.2.1 ≤ r.2.2.2.1 then (if cmT (dsT N (pl.1 a, pl.2 a, 0, fun _ => 0) (ky i) (ny i) 0).2.2.2.2 r.2.2.2.2 a (dsT N (pl.1 a, pl.2 a, 0, fun _ => 0) (ky i) (ny i) 0).2.2.2.1 0 = true then some (a + (dsT N (pl.1 a, pl.2 a, 0, fun _ => 0) (ky i) (ny i) 0).2.2.2.1) else none) else none) else none) := rfl
      have hb := (dsT_ok hv.vl (a := (pl.1 a, pl.2 a, 0, fun _ => 0)) (show pl.1 a < 24 by omega) hf (ky i) (ny i) 0).2.2
      have hpa := dsT_pa hv.vl (a := (pl.1 a, pl.2 a, 0, fun _ => 0)) (show pl.1 a < 24 by omega) hf (ky i) (ny i) 0
      generalize dsT N (pl.1 a, pl.2 a, 0, fun _ => 0) (ky i) (ny i) 0 = d at g1 g2 hax hb hpa
      generalize sfW n al q.1 (nI (4 * pl.1 a + pl.2 a)) (sa_f 0 i) = e at g1 g2
      rw [g1]
      by_cases c1 : d.1 = true
      · rw [if_pos c1] at hax ⊢
        have hst : e.2.2.2.1 = nI (0 + d.2.2.2.1) := g2.2.2.1
        rw [Nat.zero_add] at hst
        have hq := g2.q
        rw [Nat.zero_add] at hq
        unfold wnI
        rw [hst, hy.2.2.2.1, pk_sub (by omega), nI_clamp (by omega)]
        by_cases c2 : a + d.2.2.2.1 ≤ r.2.2.2.1
        · rw [if_pos c2] at hax
          rw [if_pos (nI_le (show d.2.2.2.1 ≤ r.2.2.2.1 - a by omega) (by omega))]
          have hw := wa_iff (gg := r.2.2.2.2) (at_ := a) hq (cap := 30) (by decide) hr3 d.2.2.2.1 0 (by omega) (by omega) (by omega) hy.2.2.2.2 hr4 (fun j hj => by
            unfold apE
            rw [if_neg (Nat.not_lt_zero j), Nat.sub_zero]
            exact hpa j hj)
          have hcm := cm_iff (path := d.2.2.2.2) (g := r.2.2.2.2) (o := a) d.2.2.2.1 0
          have hiff : waL e.2 30 (nI r.2.2.2.1) wy.2.2.2.2 (nI a) d.2.2.2.1 0 = cmT d.2.2.2.2 r.2.2.2.2 a d.2.2.2.1 0 := Bool.eq_iff_iff.mpr (hw.trans hcm.symm)
          rw [hiff]
          by_cases c3 : cmT d.2.2.2.2 r.2.2.2.2 a d.2.2.2.1 0 = true
          · rw [if_pos c3] at hax ⊢
            rw [nI_add]
            exact sl_R h (by omega) (by omega) (by omega) (hF.trans hax)
          · rw [if_neg c3] at hax ⊢
            exact h.cong (fun x s _ _ => nxU_no (hF.trans hax)) (fun _ _ => rfl)
        · rw [if_neg c2] at hax
          rw [if_neg (nI_ge (show r.2.2.2.1 - a < d.2.2.2.1 by omega) (by omega)), if_neg (by decide)]
          exact h.cong (fun x s _ _ => nxU_no (hF.trans hax)) (fun _ _ => rfl)
      · rw [if_neg c1] at hax ⊢
        exact h.cong (fun x s _ _ => nxU_no (hF.trans hax)) (fun _ _ => rfl)
    · rw [sf_no (by omega) hal, if_neg (show ¬ (false, q.1).1 = true from fun h => by cases h)]
      exact h.cong (fun x s _ _ => nxU_no (show tlF N r pl al a i = none from if_neg hal)) (fun _ _ => rfl)
theorem cw_R {n : NS} {N : MN} {al : Int32} {wy : YS} {r : MR} {pl : MP} {c v : Nat → Nat} (hn : nR n N) (hv : VN N) (hy : yW wy r) (hr : VR N r) (h1 : r.1 = true) (hpl : ∀ j, j ≤ r.2.2.2.1 → rp N.2.2.1 r.2.2.2.2 r.2.1 r.2.2.1 j = some (pl.1 j, pl.2 j)) (m : Nat) : ∀ (a : Nat) (q : WS × KS), a + m = r.2.2.2.1 → rC (r.2.2.2.1 + 1) (nxU (tlF N r pl al) a 0) c v q.2 → rC (r.2.2.2.1 + 1) (nxU (tlF N r pl al) r.2.2.2.1 0) c v (cwL n al wy m a (nI (4 * pl.1 a + pl.2 a)) q).2 := by
  obtain ⟨⟨r1, r2, r3, r4⟩, r5⟩ := hr
  obtain ⟨r6, r7⟩ := r5 h1
  induction m with
  | zero =>
    intro a q ha h
    rw [show a = r.2.2.2.1 by omega] at h
    exact h
  | succ m ih =>
    intro a q ha h
    obtain ⟨z, hz, b1, b2⟩ := rp_in hv r4 r6 r2 r7 a (by omega)
    have hz2 := hpl a (by omega)
    rw [hz] at hz2
    cases hz2
    obtain ⟨y, hy2, hy3, e⟩ := rp_step hv (r4 a (by omega)) b1 hz (rp_all m (a + 1) (by rw [show a + 1 + m = r.2.2.2.1 by omega]; exact r7))
    have e2 := hpl (a + 1) (by omega)
    rw [e] at e2
    have e3 := Option.some.inj e2
    have e4 : y / 4 = pl.1 (a + 1) := congrArg (·.1) e3
    have e5 : (y + 2) % 4 = pl.2 (a + 1) := congrArg (·.2) e3
    show rC (r.2.2.2.1 + 1) (nxU (tlF N r pl al) r.2.2.2.1 0) c v (cwL n al wy m (a + 1) (paI n (nI (4 * pl.1 a + pl.2 a)) (atI 30 wy.2.2.2.1 wy.2.2.2.2 (nI a))) (cyL n al wy (nI a) (nI (4 * pl.1 a + pl.2 a)) 29 0 q)).2
    rw [hy.2.2.2.1, atI_n (by decide) r3 (by omega), hy.2.2.2.2 a (by omega), pa_R hn hv b1 b2 (r4 a (by omega)) hy2, e4, e5]
    exact ih (a + 1) _ (by omega) (cy_R hn hv hy r3 r4 (by omega) b1 b2 29 0 q rfl h)
def tNX (N : MN) (r : MR) (pl : MP) (al : Int32) : NX := fun x s => if x < r.2.2.2.1 then tlF N r pl al x s else none
theorem tNX_ok {N : MN} {r : MR} {pl : MP} {al : Int32} : NXok (r.2.2.2.1 + 1) 29 (tNX N r pl al) := fun x s t hx hs h => by
  unfold tNX tlF at h
  split at h
  · split at h
    · have := axT_le h
      omega
    · cases h
  · cases h
def tG (E : Nat) (x : Nat) : Bool := decide (x = E)
theorem cP_1 {P : Nat → Nat} : ∀ s, s < 29 → 1 ≤ cP P s := fun s _ => Nat.le_add_left 1 _
theorem cP_5 {P : Nat → Nat} (hp : ∀ q, q < 9 → P q ≤ 50) : ∀ s, s < 29 → cP P s ≤ 50001 := fun s hs => by
  have := hp _ (say_ok s hs).1
  unfold cP
  omega
theorem tell_ch {n : NS} {N : MN} {al : Int32} {sc : WS} {wy : YS} {ch : KS} {r : MR} {pl : MP} {P : Nat → Nat} (hn : nR n N) (hv : VN N) (hy : yW wy r) (hr : VR N r) (h1 : r.1 = true) (hp : ∀ q, q < 9 → P q ≤ 50) (hpl : ∀ j, j ≤ r.2.2.2.1 → rp N.2.2.1 r.2.2.2.2 r.2.1 r.2.2.1 j = some (pl.1 j, pl.2 j)) : ∃ D, FX (r.2.2.2.1 + 1) 29 (tNX N r pl al) (cP P) (tG r.2.2.2.1) UNR D ∧ rC (r.2.2.2.1 + 1) (tNX N r pl al) (cP P) D (tcK n (fun x => nI (P x)) al sc wy ch r.2.2.2.1) := by
  have r3 := hr.1.2.2.1
  have h0 : rC (r.2.2.2.1 + 1) (nxU (tlF N r pl al) 0 0) (cP P) (v0F (tG r.2.2.2.1) UNR) (sgK (opK (fun x => nI (P x)) ch (r.2.2.2.1 + 1)) (nI r.2.2.2.1)) := (sg_R (op_R (P := P) (ch := ch) (NP := r.2.2.2.1 + 1)) (by omega) (Nat.lt_succ_self _)).cong (fun x s _ _ => (if_neg (by omega)).symm) (fun x _ => by
    unfold v0F tG updN
    by_cases e : x = r.2.2.2.1
    · rw [if_pos e, if_pos (decide_eq_true e)]
    · rw [if_neg e, if_neg (by rw [decide_eq_false e]; decide)])
  have e0 := hpl 0 (Nat.zero_le _)
  have e0 : some (r.2.1, r.2.2.1) = some (pl.1 0, pl.2 0) := e0
  have e1 := Option.some.inj e0
  have e2 : r.2.1 = pl.1 0 := congrArg (·.1) e1
  have e3 : r.2.2.1 = pl.2 0 := congrArg (·.2) e1
  have h2 := cw_R (al := al) (c := cP P) (v := v0F (tG r.2.2.2.1) UNR) hn hv hy hr h1 hpl r.2.2.2.1 0 (sc, sgK (opK (fun x => nI (P x)) ch (r.2.2.2.1 + 1)) (nI r.2.2.2.1)) (by omega) h0
  have h3 : rC (r.2.2.2.1 + 1) (tNX N r pl al) (cP P) (v0F (tG r.2.2.2.1) UNR) (cwQ n (fun x => nI (P x)) al sc wy ch r.2.2.2.1).2 := by
    unfold cwQ
    rw [hy.2.1, hy.2.2.1, pl4, e2, e3]
    refine h2.cong (fun x s _ _ => ?_) (fun _ _ => rfl)
    unfold nxU tNX
    by_cases q : x < r.2.2.2.1
    · rw [if_pos q, if_pos (Or.inl q)]
    · rw [if_neg q, if_neg (by omega)]
  exact settle_R (by omega) tNX_ok cP_1 (cP_5 hp) h3
/-! ### best -/
theorem ny_R {n : NS} {N : MN} {al : Int32} {c v : Nat → Nat} {x : Nat} (hn : nR n N) (hv : VN N) (hx : x < 4 * N.1) (m : Nat) : ∀ (i : Nat) (q : WS × KS), i + m = 29 → rC (4 * N.1) (nxU (bsX N al) x i) c v q.2 → rC (4 * N.1) (nxU (bsX N al) (x + 1) 0) c v (nyL n al (nI x) m i q).2 := by
  have hK := hv.1
  induction m with
  | zero =>
    intro i q hi h
    rw [show i = 29 by omega] at h
    exact h.cong (fun x s _ hs => nxU_row hs) (fun _ _ => rfl)
  | succ m ih =>
    intro i q hi h
    refine ih (i + 1) _ (by omega) ?_
    show rC (4 * N.1) (nxU (bsX N al) x (i + 1)) c v (if (sfW n al q.1 (nI x) (sa_f 0 i)).1 = true then slK q.2 (nI x) (nI i) ((sfW n al q.1 (nI x) (sa_f 0 i)).2.1 * 4 + (sfW n al q.1 (nI x) (sa_f 0 i)).2.2.1) else q.2)
    by_cases hal : alI al (nI (ky i)) = true
    · have hF : bsX N al x i = nxT N x (ky i) (ny i) := if_pos hal
      obtain ⟨g1, g2⟩ := sf_R (sc := q.1) (k := x / 4) (f := x % 4) (ex := fun _ => 0) (path := fun _ => 0) hn hv (by omega) (by omega) (show i < 29 by omega) hal
      rw [show 4 * (x / 4) + x % 4 = x by omega] at g1 g2
      have hnx : nxT N x (ky i) (ny i) = (if (dsT N (x / 4, x % 4, 0, fun _ => 0) (ky i) (ny i) 0).1 = true then some (4 * (dsT N (x / 4, x % 4, 0, fun _ => 0) (ky i) (ny i) 0).2.1 + (dsT N (x / 4, x % 4, 0, fun _ => 0) (ky i) (ny i) 0).2.2.1) else none) := rfl
      generalize dsT N (x / 4, x % 4, 0, fun _ => 0) (ky i) (ny i) 0 = d at g1 g2 hnx
      generalize sfW n al q.1 (nI x) (sa_f 0 i) = e at g1 g2
      rw [g1]
      by_cases c1 : d.1 = true
      · rw [if_pos c1] at hnx ⊢
        rw [g2.1, g2.2.1, pl4]
        exact sl_R h (by omega) hx (by omega) (hF.trans hnx)
      · rw [if_neg c1] at hnx ⊢
        exact h.cong (fun x s _ _ => nxU_no (hF.trans hnx)) (fun _ _ => rfl)
    · rw [sf_no (by omega) hal, if_neg (show ¬ (false, q.1).1 = true from fun h => by cases h)]
      exact h.cong (fun y s _ _ => nxU_no (show bsX N al x i = none from if_neg hal)) (fun _ _ => rfl)
theorem nw_R {n : NS} {N : MN} {al : Int32} {c v : Nat → Nat} (hn : nR n N) (hv : VN N) (m : Nat) : ∀ (x : Nat) (q : WS × KS), x + m = 4 * N.1 → rC (4 * N.1) (nxU (bsX N al) x 0) c v q.2 → rC (4 * N.1) (nxU (bsX N al) (4 * N.1) 0) c v (nwL n al m x q).2 := by
  induction m with
  | zero =>
    intro x q hx h
    rw [show x = 4 * N.1 by omega] at h
    exact h
  | succ m ih =>
    intro x q hx h
    exact ih (x + 1) _ (by omega) (ny_R hn hv (by omega) 29 0 q rfl h)
theorem bsX_ok {N : MN} {al : Int32} (hv : VN N) : NXok (4 * N.1) 29 (bsX N al) := fun x s t hx hs h => by
  have hK := hv.1
  unfold bsX nxT frT at h
  split at h
  · simp only at h
    split at h
    · cases h
      have h1 := ds_knot (a := (x / 4, x % 4, zzA.2.2)) hv (show x / 4 < N.1 by omega) (show x % 4 < 4 by omega) (ky s) (ny s) 0
      have h2 := (dsT_ok hv.vl (a := (x / 4, x % 4, zzA.2.2)) (show x / 4 < 24 by omega) (show x % 4 < 4 by omega) (ky s) (ny s) 0).2.1
      omega
    · cases h
  · cases h
def bG (T : Nat) (x : Nat) : Bool := decide (x / 4 = T)
theorem ng_R {N : Nat} {nx : NX} {c : Nat → Nat} {T : Nat} (hN : N ≤ 96) (hT : 4 * T + 4 ≤ N) (m : Nat) : ∀ (i : Nat) (v : Nat → Nat) (ch : KS), i + m = 4 → rC N nx c v ch → (∀ x, x < N → v x = if 4 * T ≤ x ∧ x < 4 * T + i then 0 else UNR) → rC N nx c (v0F (bG T) UNR) (ngL (nI T) m i ch) := by
  induction m with
  | zero =>
    intro i v ch hi h hv
    refine h.cong (fun _ _ _ _ => rfl) (fun x hx => ?_)
    rw [hv x hx]
    unfold v0F bG
    by_cases q : x / 4 = T
    · rw [if_pos (by omega), if_pos (decide_eq_true q)]
    · rw [if_neg (by omega), if_neg (by rw [decide_eq_false q]; decide)]
  | succ m ih =>
    intro i v ch hi h hv
    show rC N nx c (v0F (bG T) UNR) (ngL (nI T) m (i + 1) (sgK ch (nI T * 4 + nI i)))
    rw [pl4]
    refine ih (i + 1) (updN v (4 * T + i) 0) _ (by omega) (sg_R h hN (by omega)) (fun x hx => ?_)
    by_cases e : x = 4 * T + i
    · rw [e, updN_s, if_pos (by omega)]
    · rw [updN_n e, hv x hx]
      by_cases q : 4 * T ≤ x ∧ x < 4 * T + i
      · rw [if_pos q, if_pos (by omega)]
      · rw [if_neg q, if_neg (by omega)]
theorem best_ch {n : NS} {N : MN} {al : Int32} {sc : WS} {ch : KS} {P : Nat → Nat} {T : Nat} (hn : nR n N) (hv : VN N) (hp : ∀ q, q < 9 → P q ≤ 50) (hT : T < N.1) : ∃ D, FX (4 * N.1) 29 (bsX N al) (cP P) (bG T) UNR D ∧ rC (4 * N.1) (bsX N al) (cP P) D (bcK n (fun x => nI (P x)) al sc ch (nI T) N.1) := by
  have hK := hv.1
  have h0 := ng_R (T := T) (show 4 * N.1 ≤ 96 by omega) (by omega) 4 0 _ _ rfl (op_R (P := P) (ch := ch) (NP := 4 * N.1)) (fun x _ => (if_neg (by omega)).symm)
  have h1 : rC (4 * N.1) (nxU (bsX N al) 0 0) (cP P) (v0F (bG T) UNR) (ngL (nI T) 4 0 (opK (fun x => nI (P x)) ch (4 * N.1))) := h0.cong (fun x s _ _ => (if_neg (by omega)).symm) (fun _ _ => rfl)
  have h2 := nw_R (al := al) hn hv (4 * N.1) 0 (sc, ngL (nI T) 4 0 (opK (fun x => nI (P x)) ch (4 * N.1))) (by omega) h1
  have h3 : rC (4 * N.1) (bsX N al) (cP P) (v0F (bG T) UNR) (nwQ n (fun x => nI (P x)) al sc ch (nI T) N.1).2 := by
    unfold nwQ
    rw [show N.1 * 4 = 4 * N.1 by omega]
    exact h2.cong (fun x s hx _ => if_pos (Or.inl hx)) (fun _ _ => rfl)
  unfold bcK
  rw [show N.1 * 4 = 4 * N.1 by omega]
  exact settle_R (by omega) (bsX_ok hv) cP_1 (cP_5 hp) h3
