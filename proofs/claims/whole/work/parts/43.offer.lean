/-! the model: what a saying does hangs on knot and facing alone; offerAll, offerJust -/
def simA (a b : MA) : Prop := a.1 = b.1 ∧ a.2.1 = b.2.1 ∧ a.2.2.1 = b.2.2.1 ∧ ∀ j, j < a.2.2.1 → a.2.2.2 j = b.2.2.2 j
def simR (x y : Bool × MA) : Prop := x.1 = y.1 ∧ simA x.2 y.2
theorem gb_sim {ld : Nat → Option Nat} {a b : MA} {e : Nat} (h : simA a b) : simR (gbT ld a e) (gbT ld b e) := by
  obtain ⟨h1, h2, h3, h4⟩ := id h
  unfold gbT
  rw [← h1, ← h3]
  cases ld (4 * a.1 + e) with
  | none => exact ⟨rfl, h⟩
  | some y =>
    by_cases hm : a.2.2.1 = 30
    · simp only [hm, if_true]
      exact ⟨rfl, h⟩
    · simp only [hm, if_false]
      refine ⟨rfl, rfl, rfl, rfl, fun j hj => ?_⟩
      show updN a.2.2.2 a.2.2.1 e j = updN b.2.2.2 a.2.2.1 e j
      unfold updN
      by_cases hj2 : j = a.2.2.1
      · rw [if_pos hj2, if_pos hj2]
      · rw [if_neg hj2, if_neg hj2]
        exact h4 j (by have : j < a.2.2.1 + 1 := hj; omega)
theorem hs_sim {ld : Nat → Option Nat} {a b : MA} {i : Nat} (h : simA a b) : hsT ld a i = hsT ld b i := by
  unfold hsT
  rw [h.1, h.2.1]
theorem tn_sim {ld : Nat → Option Nat} {turn : Nat} (m : Nat) : ∀ (left : Nat) (a b : MA), simA a b → simR (tnT ld turn m left a) (tnT ld turn m left b) := by
  induction m with
  | zero => intro left a b h; exact ⟨rfl, h⟩
  | succ m ih =>
    intro left a b h
    unfold tnT
    rw [hs_sim (i := turn) h, ← h.2.1]
    by_cases c : (if hsT ld b turn = true then left - 1 else left) = 0
    · rw [if_pos c, if_pos c]
      exact gb_sim h
    · rw [if_neg c, if_neg c]
      have g := gb_sim (ld := ld) (e := a.2.1) h
      have gg : ((gbT ld a a.2.1).1 = true) ↔ ((gbT ld b a.2.1).1 = true) := by rw [g.1]
      by_cases k : (gbT ld a a.2.1).1 = true
      · rw [if_pos k, if_pos (gg.mp k)]
        exact ih _ _ _ g.2
      · rw [if_neg k, if_neg (fun q => k (gg.mpr q))]
        exact ⟨rfl, g.2⟩
theorem un_sim {n : MN} {nb : Nat} (m : Nat) : ∀ (left : Nat) (a b : MA), simA a b → simR (unT n nb m left a) (unT n nb m left b) := by
  induction m with
  | zero => intro left a b h; exact ⟨rfl, h⟩
  | succ m ih =>
    intro left a b h
    unfold unT
    rw [← h.2.1]
    have g := gb_sim (ld := n.2.2.1) (e := a.2.1) h
    have gg : ((gbT n.2.2.1 a a.2.1).1 = true) ↔ ((gbT n.2.2.1 b a.2.1).1 = true) := by rw [g.1]
    by_cases k : (gbT n.2.2.1 a a.2.1).1 = true
    · rw [if_pos k, if_pos (gg.mp k), ← g.2.1]
      by_cases c : n.2.1 (gbT n.2.2.1 a a.2.1).2.1 = nb
      · rw [if_pos c, if_pos c]
        by_cases z : left = 0
        · rw [if_pos z, if_pos z]
          exact ⟨rfl, g.2⟩
        · rw [if_neg z, if_neg z]
          exact ih _ _ _ g.2
      · rw [if_neg c, if_neg c]
        exact ih _ _ _ g.2
    · rw [if_neg k, if_neg (fun q => k (gg.mpr q))]
      exact ⟨rfl, g.2⟩
theorem ed_sim {ld : Nat → Option Nat} (m : Nat) : ∀ (a b : MA), simA a b → simR (edT ld m a) (edT ld m b) := by
  induction m with
  | zero => intro a b h; exact ⟨rfl, h⟩
  | succ m ih =>
    intro a b h
    unfold edT
    rw [← h.2.1]
    have g := gb_sim (ld := ld) (e := a.2.1) h
    have gg : ((gbT ld a a.2.1).1 = true) ↔ ((gbT ld b a.2.1).1 = true) := by rw [g.1]
    by_cases k : (gbT ld a a.2.1).1 = true
    · rw [if_pos k, if_pos (gg.mp k), hs_sim (i := 0) g.2]
      by_cases c : hsT ld (gbT ld b a.2.1).2 0 = true
      · rw [if_pos c, if_pos c]
        exact ih _ _ g.2
      · rw [if_neg c, if_neg c]
        exact ⟨rfl, g.2⟩
    · rw [if_neg k, if_neg (fun q => k (gg.mpr q))]
      exact ⟨rfl, g.2⟩
theorem gn_sim {n : MN} {a b : MA} {name : Nat} (h : simA a b) (m : Nat) : ∀ (i : Nat) (fo : Option Nat), simR (gnT n a name m i fo) (gnT n b name m i fo) := by
  induction m with
  | zero =>
    intro i fo
    cases fo with
    | none => exact ⟨rfl, h⟩
    | some e => exact gb_sim h
  | succ m ih =>
    intro i fo
    unfold gnT
    rw [← h.1, ← h.2.1, hs_sim (i := i) h]
    by_cases c : i = 2
    · rw [if_pos c, if_pos c]
      exact ih _ _
    · rw [if_neg c, if_neg c]
      by_cases k : hsT n.2.2.1 b i = true
      · rw [if_pos k, if_pos k]
        by_cases z : n.2.2.2 (4 * a.1 + (a.2.1 + i) % 4) = name
        · rw [if_pos z, if_pos z]
          cases fo with
          | none => exact ih _ _
          | some e => exact ⟨rfl, h⟩
        · rw [if_neg z, if_neg z]
          exact ih _ _
      · rw [if_neg k, if_neg k]
        exact ih _ _
theorem ds_sim {n : MN} {a b : MA} {kd nb ps : Nat} (h1 : a.1 = b.1) (h2 : a.2.1 = b.2.1) : simR (dsT n a kd nb ps) (dsT n b kd nb ps) := by
  have h : simA (zA a) (zA b) := ⟨h1, h2, rfl, fun j hj => absurd hj (Nat.not_lt_zero j)⟩
  unfold dsT
  rw [← h.2.1]
  by_cases c1 : kd < 4
  · rw [if_pos c1, if_pos c1]
    exact gb_sim h
  · rw [if_neg c1, if_neg c1]
    by_cases c2 : kd = 7
    · rw [if_pos c2, if_pos c2]
      exact gn_sim h _ _ _
    · rw [if_neg c2, if_neg c2]
      by_cases c3 : kd < 6
      · rw [if_pos c3, if_pos c3]
        exact tn_sim _ _ _ _ h
      · rw [if_neg c3, if_neg c3]
        by_cases c4 : kd = 8
        · rw [if_pos c4, if_pos c4]
          exact ed_sim _ _ _ h
        · rw [if_neg c4, if_neg c4]
          exact un_sim _ _ _ _ h
def zzA : MA := (0, 0, 0, fun _ => 0)
def nxT (n : MN) (st kd nb : Nat) : Option Nat := (frT n zzA st kd nb).1
def axT (n : MN) (r : MR) (pl : MP) (i kd nb : Nat) : Option Nat := (alT n r pl zzA i kd nb).1
theorem frT_1 {n : MN} {a : MA} {st kd nb : Nat} : (frT n a st kd nb).1 = nxT n st kd nb := by
  have h := ds_sim (n := n) (a := (st / 4, st % 4, a.2.2)) (b := (st / 4, st % 4, zzA.2.2)) (kd := kd) (nb := nb) (ps := 0) rfl rfl
  unfold nxT frT
  rw [h.1, h.2.1, h.2.2.1]
theorem cm_sim {f f' g : Nat → Nat} {o : Nat} (m : Nat) : ∀ p, (∀ j, j < p + m → f j = f' j) → cmT f g o m p = cmT f' g o m p := by
  induction m with
  | zero => intro p h; rfl
  | succ m ih =>
    intro p h
    unfold cmT
    rw [h p (by omega), ih (p + 1) (fun j hj => h j (by omega))]
theorem alT_1 {n : MN} {r : MR} {pl : MP} {a : MA} {i kd nb : Nat} : (alT n r pl a i kd nb).1 = axT n r pl i kd nb := by
  have h : simR (alD n pl a i kd nb) (alD n pl zzA i kd nb) := ds_sim rfl rfl
  unfold axT alT
  rw [h.1, h.2.2.2.1, cm_sim _ 0 (fun j hj => h.2.2.2.2 j (by rw [h.2.2.2.1]; omega))]
theorem nxT_lt {n : MN} {st kd nb y : Nat} (hl : VL n.2.2.1) (hst : st < 96) (h : nxT n st kd nb = some y) : y < 96 := by
  unfold nxT frT at h
  by_cases c : (dsT n (st / 4, st % 4, zzA.2.2) kd nb 0).1 = true
  · rw [if_pos c] at h
    cases h
    exact dsT_num hl (by show st / 4 < 24; omega) (by show st % 4 < 4; omega)
  · rw [if_neg c] at h
    cases h
theorem frT_ok {n : MN} {a : MA} {st kd nb : Nat} (hl : VL n.2.2.1) (hst : st < 96) : okA (frT n a st kd nb).2 := dsT_ok hl (by show st / 4 < 24; omega) (by show st % 4 < 4; omega) kd nb 0
def BIG : Nat := 268435456
def TB (Bd : Nat) (t : MT) : Prop := ∀ x, x < 96 → t.1 x ≤ BIG + 50 ∧ t.2.1 x ≤ Bd ∧ t.2.2.1 x < 9 ∧ t.2.2.2 x ≤ 9 ∧ (t.2.2.1 x = 4 ∨ t.2.2.1 x = 5 → 1 ≤ t.2.2.2 x)
def oaS (nx : Nat → Nat → Nat → Option Nat) (p : Nat → Nat) (s kd nb : Nat) (t : MT) : MT := match nx s kd nb with
  | none => t
  | some y => if t.1 y < BIG then ofT t s (p kd + t.1 y) (1 + t.2.1 y) kd nb else t
theorem TB.mono {B B' : Nat} {t : MT} (h : TB B t) (hb : B ≤ B') : TB B' t := fun x hx => ⟨(h x hx).1, Nat.le_trans (h x hx).2.1 hb, (h x hx).2.2⟩
theorem TB.set {B : Nat} {t : MT} (h : TB B t) {s pr mn kd nb : Nat} (h1 : pr ≤ BIG + 50) (h2 : mn ≤ B) (h3 : kd < 9) (h4 : nb ≤ 9) (h5 : kd = 4 ∨ kd = 5 → 1 ≤ nb) : TB B (updN t.1 s pr, updN t.2.1 s mn, updN t.2.2.1 s kd, updN t.2.2.2 s nb) := fun x hx => by
  by_cases c : x = s
  · simp only [updN, c, if_true]
    exact ⟨h1, h2, h3, h4, h5⟩
  · simp only [updN, c, if_false]
    exact h x hx
theorem TB.of {B : Nat} {t : MT} (h : TB B t) {s pr mn kd nb : Nat} (h1 : pr ≤ BIG + 50) (h2 : mn ≤ B) (h3 : kd < 9) (h4 : nb ≤ 9) (h5 : kd = 4 ∨ kd = 5 → 1 ≤ nb) : TB B (ofT t s pr mn kd nb) := by
  unfold ofT
  split
  · exact h
  · split
    · split
      · exact h.set h1 h2 h3 h4 h5
      · exact h
    · exact h.set h1 h2 h3 h4 h5
theorem TB.oa {B : Nat} {t : MT} (h : TB B t) {nx : Nat → Nat → Nat → Option Nat} {p : Nat → Nat} {s kd nb : Nat} (hy : ∀ y, nx s kd nb = some y → y < 96) (hp : p kd ≤ 50) (h3 : kd < 9) (h4 : nb ≤ 9) (h5 : kd = 4 ∨ kd = 5 → 1 ≤ nb) : TB (B + 1) (oaS nx p s kd nb t) := by
  unfold oaS
  cases e : nx s kd nb with
  | none => exact h.mono (by omega)
  | some y =>
    have hy1 := hy y e
    show TB (B + 1) (if t.1 y < BIG then _ else t)
    split
    · exact (h.mono (Nat.le_succ B)).of (by omega) (by have := (h y hy1).2.1; omega) h3 h4 h5
    · exact h.mono (by omega)
def itT {σ : Type} (f : Nat → σ → σ) : Nat → Nat → σ → σ
  | 0, _, x => x
  | m + 1, i, x => itT f m (i + 1) (f i x)
def loN (kd : Nat) : Nat := if moN kd = 0 then 0 else 1
def oaK (nx : Nat → Nat → Nat → Option Nat) (p : Nat → Nat) (al : Int32) (s kd : Nat) (t : MT) : MT := if alI al (nI kd) = true then itT (oaS nx p s kd) (moN kd + 1 - loN kd) (loN kd) t else t
def oaA (nx : Nat → Nat → Nat → Option Nat) (p : Nat → Nat) (al : Int32) (s : Nat) (t : MT) : MT := itT (oaK nx p al s) 9 0 t
theorem moN_le (kd : Nat) : moN kd ≤ 9 := by
  unfold moN
  split <;> (try decide)
  split <;> (try decide)
  split <;> (try decide)
  split <;> decide
theorem lo_le (kd : Nat) : loN kd ≤ moN kd := by
  unfold loN
  split <;> omega
theorem lo_45 {kd nb : Nat} (h : loN kd ≤ nb) : kd = 4 ∨ kd = 5 → 1 ≤ nb := by
  rintro (q | q) <;> subst q <;> exact h
theorem TB.it {B : Nat} {nx : Nat → Nat → Nat → Option Nat} {p : Nat → Nat} {s kd : Nat} (hy : ∀ nb y, nx s kd nb = some y → y < 96) (hp : p kd ≤ 50) (h3 : kd < 9) (m : Nat) : ∀ (B nb : Nat) (t : MT), TB B t → nb + m = moN kd + 1 → loN kd ≤ nb → TB (B + m) (itT (oaS nx p s kd) m nb t) := by
  induction m with
  | zero => intro B nb t h _ _; exact h
  | succ m ih =>
    intro B nb t h h1 h2
    have := ih (B + 1) (nb + 1) _ (h.oa (hy nb) hp h3 (by have := moN_le kd; omega) (lo_45 h2)) (by omega) (by omega)
    exact this.mono (by omega)
theorem TB.K {B : Nat} {nx : Nat → Nat → Nat → Option Nat} {p : Nat → Nat} {al : Int32} {s kd : Nat} {t : MT} (h : TB B t) (hy : ∀ nb y, nx s kd nb = some y → y < 96) (hp : p kd ≤ 50) (h3 : kd < 9) : TB (B + 10) (oaK nx p al s kd t) := by
  unfold oaK
  split
  · exact (TB.it (B := 0) hy hp h3 _ B (loN kd) t h (by have := lo_le kd; omega) (Nat.le_refl _)).mono (by have := moN_le kd; omega)
  · exact h.mono (by omega)

set_option maxHeartbeats 4000000 in
set_option maxRecDepth 100000 in
theorem mlp_oa1 {c : XV} {n : MN} {p : Nat → Nat} {al : Int32} {s : MS} {r : MR} {w : MW} {k : MK} {pl : MP} {fr : Nat → Nat} {rest : AH} {post : Post} (hl : VL n.2.2.1) (hnm : ∀ x, x < 96 → n.2.2.2 x < 2 ^ 31) (hsg : ∀ x, x < 24 → n.2.1 x < 2 ^ 31) (st kd : Nat) (hst : st < 96) (hkd : kd < 9) (hal : alI al (nI kd) = true) (hp5 : ∀ q, q < 9 → p q ≤ 50)  (m : Nat) : ∀ (nb Bd : Nat) (t : MT) (a : MA) (x4 : Option Value) (_ : nb + m = moN kd + 1) (_ : loN kd ≤ nb) (_ : TB Bd t) (_ : Bd + m < 2 ^ 30) (_ : ∀ (a : MA) (x3 x4 : Option Value), AW mX7_offerAll 4 0 0 0 0 100 [some (.ref 25), some (.int (nI st)), some (.int (nI kd)), x3, x4] [] (MX c n p al s r w k a pl fr (itT (oaS (nxT n) p st kd) m nb t) rest) post), AW mX7_offerAll 4 0 0 0 0 21 [some (.ref 25), some (.int (nI st)), some (.int (nI kd)), some (.int (nI nb)), x4] [] (MX c n p al s r w k a pl fr t rest) post := by
  induction m with
  | zero =>
    intro nb Bd t a x4 hm hlo hT hB hC
    refine A_iload3 (pc := 21) dX7_offerAll_21 ?_
    refine A_iload2 (pc := 22) dX7_offerAll_22 ?_
    refine A_csi (pc := 23) csX7_111 (mp_mostOf kd (by omega)) dX7_offerAll_23 rfl rfl (Nat.le_of_ble_eq_true rfl) (by decide) (by decide) (by decide) ?_
    refine A_icmp_gt (pc := 26) (tgt := 100) dX7_offerAll_26 (by decide) (fun c26 => ?_) (fun c26 => absurd (show nI (moN kd) < nI nb from nI_lt (by omega) (by have := moN_le kd; omega)) c26)
    exact hC a _ _
  | succ m ih =>
    intro nb Bd t a x4 hm hlo hT hB hC
    have hf1 : (frT n a st kd nb).1 = nxT n st kd nb := frT_1
    have e8 : itT (oaS (nxT n) p st kd) (m + 1) nb t = itT (oaS (nxT n) p st kd) m (nb + 1) (oaS (nxT n) p st kd nb t) := rfl
    rw [e8] at hC
    have hT1 : TB (Bd + 1) (oaS (nxT n) p st kd nb t) := hT.oa (fun y hy => nxT_lt hl hst hy) (hp5 kd hkd) hkd (by have := moN_le kd; omega) (lo_45 hlo)
    cases hy : nxT n st kd nb with
    | none =>
      have e7 : oaS (nxT n) p st kd nb t = t := by unfold oaS; rw [hy]
      refine A_iload3 (pc := 21) dX7_offerAll_21 ?_
      refine A_iload2 (pc := 22) dX7_offerAll_22 ?_
      refine A_csi (pc := 23) csX7_111 (mp_mostOf kd (by omega)) dX7_offerAll_23 rfl rfl (Nat.le_of_ble_eq_true rfl) (by decide) (by decide) (by decide) ?_
      refine A_icmp_gt (pc := 26) (tgt := 100) dX7_offerAll_26 (by decide) (fun c26 => absurd c26 (show ¬ nI (moN kd) < nI nb from nI_nlt (by omega) (by have := moN_le kd; omega))) (fun c26 => ?_)
      refine A_aload0 (pc := 29) dX7_offerAll_29 ?_
      refine A_iload2 (pc := 30) dX7_offerAll_30 ?_
      refine A_cvi (pc := 31) cvX7_162 (mp_isAllowed _) dX7_offerAll_31 rfl rfl rfl rfl (Nat.le_of_ble_eq_true rfl) (by decide) (by decide) (by decide) ?_
      rw [hal]
      refine A_if_eq (pc := 34) (tgt := 100) dX7_offerAll_34 (by decide) (fun c34 => absurd c34 (by decide)) (fun c34 => ?_)
      refine A_aload0 (pc := 37) dX7_offerAll_37 ?_
      refine A_iload1 (pc := 38) dX7_offerAll_38 ?_
      refine A_iload2 (pc := 39) dX7_offerAll_39 ?_
      refine A_iload3 (pc := 40) dX7_offerAll_40 ?_
      refine A_cvi (pc := 41) cvX7_185 (mp_from hl hnm hsg st kd nb hst hkd (by have := moN_le kd; omega) (lo_45 hlo)) dX7_offerAll_41 rfl rfl rfl rfl (Nat.le_of_ble_eq_true rfl) (by decide) (by decide) (by decide) ?_
      rw [hf1, hy]
      refine A_istore4 (pc := 44) dX7_offerAll_44 (by decide) ?_
      skip
      refine A_iload4 (pc := 46) dX7_offerAll_46 ?_
      refine A_iconst (pc := 48) (v := -1) dX7_offerAll_48 (by decide) ?_
      refine A_icmp_eq (pc := 49) (tgt := 94) dX7_offerAll_49 (by decide) (fun c49 => ?_) (fun c49 => absurd rfl c49)
      refine A_iinc3 (pc := 94) dX7_offerAll_94 (by decide) (nI_1 nb) ?_
      refine A_goto (pc := 97) (tgt := 21) dX7_offerAll_97 (by decide) ?_
      rw [e7] at hC hT1
      exact ih (nb + 1) (Bd + 1) t _ _ (by omega) (by omega) hT1 (by omega) hC
    | some y =>
      have hy9 := nxT_lt hl hst hy
      have e7 : oaS (nxT n) p st kd nb t = if t.1 y < BIG then ofT t st (p kd + t.1 y) (1 + t.2.1 y) kd nb else t := by unfold oaS; rw [hy]
      have hty := hT y hy9
      have hpk := hp5 kd hkd
      have hB9 : BIG = 268435456 := rfl
      rw [e7] at hC hT1
      refine A_iload3 (pc := 21) dX7_offerAll_21 ?_
      refine A_iload2 (pc := 22) dX7_offerAll_22 ?_
      refine A_csi (pc := 23) csX7_111 (mp_mostOf kd (by omega)) dX7_offerAll_23 rfl rfl (Nat.le_of_ble_eq_true rfl) (by decide) (by decide) (by decide) ?_
      refine A_icmp_gt (pc := 26) (tgt := 100) dX7_offerAll_26 (by decide) (fun c26 => absurd c26 (show ¬ nI (moN kd) < nI nb from nI_nlt (by omega) (by have := moN_le kd; omega))) (fun c26 => ?_)
      refine A_aload0 (pc := 29) dX7_offerAll_29 ?_
      refine A_iload2 (pc := 30) dX7_offerAll_30 ?_
      refine A_cvi (pc := 31) cvX7_162 (mp_isAllowed _) dX7_offerAll_31 rfl rfl rfl rfl (Nat.le_of_ble_eq_true rfl) (by decide) (by decide) (by decide) ?_
      rw [hal]
      refine A_if_eq (pc := 34) (tgt := 100) dX7_offerAll_34 (by decide) (fun c34 => absurd c34 (by decide)) (fun c34 => ?_)
      refine A_aload0 (pc := 37) dX7_offerAll_37 ?_
      refine A_iload1 (pc := 38) dX7_offerAll_38 ?_
      refine A_iload2 (pc := 39) dX7_offerAll_39 ?_
      refine A_iload3 (pc := 40) dX7_offerAll_40 ?_
      refine A_cvi (pc := 41) cvX7_185 (mp_from hl hnm hsg st kd nb hst hkd (by have := moN_le kd; omega) (lo_45 hlo)) dX7_offerAll_41 rfl rfl rfl rfl (Nat.le_of_ble_eq_true rfl) (by decide) (by decide) (by decide) ?_
      rw [hf1, hy]
      refine A_istore4 (pc := 44) dX7_offerAll_44 (by decide) ?_
      skip
      refine A_iload4 (pc := 46) dX7_offerAll_46 ?_
      refine A_iconst (pc := 48) (v := -1) dX7_offerAll_48 (by decide) ?_
      refine A_icmp_eq (pc := 49) (tgt := 94) dX7_offerAll_49 (by decide) (fun c49 => absurd c49 (oI_some (by omega))) (fun c49 => ?_)
      refine A_aload0 (pc := 52) dX7_offerAll_52 ?_
      refine A_getf (pc := 53) flX7_71 dX7_offerAll_53 rfl rfl ?_
      refine A_iload4 (pc := 56) dX7_offerAll_56 ?_
      refine A_ialdN (pc := 58) (i := y) dX7_offerAll_58 rfl rfl hy9 (by decide) ?_
      refine A_ldc (pc := 59) dX7_offerAll_59 kcX7_161 ?_
      refine A_icmp_ge (pc := 61) (tgt := 94) dX7_offerAll_61 (by decide) (fun c61 => ?_) (fun c61 => ?_)
      · have d61 : ¬ t.1 y < BIG := fun q => absurd c61 (show ¬ nI BIG ≤ nI (t.1 y) from nI_ge q (by decide))
        rw [if_neg d61] at hC hT1
        refine A_iinc3 (pc := 94) dX7_offerAll_94 (by decide) (nI_1 nb) ?_
        refine A_goto (pc := 97) (tgt := 21) dX7_offerAll_97 (by decide) ?_
        exact ih (nb + 1) (Bd + 1) _ _ _ (by omega) (by omega) hT1 (by omega) hC
      · have d61 : t.1 y < BIG := by
          rcases Nat.lt_or_ge (t.1 y) BIG with q | q
          · exact q
          · exact absurd (show nI BIG ≤ nI (t.1 y) from nI_le q (by omega)) c61
        rw [if_pos d61] at hC hT1
        refine A_aload0 (pc := 64) dX7_offerAll_64 ?_
        refine A_iload1 (pc := 65) dX7_offerAll_65 ?_
        refine A_aload0 (pc := 66) dX7_offerAll_66 ?_
        refine A_getf (pc := 67) flX7_19 dX7_offerAll_67 rfl rfl ?_
        refine A_iload2 (pc := 70) dX7_offerAll_70 ?_
        refine A_ialdN (pc := 71) (i := kd) dX7_offerAll_71 rfl rfl hkd (by decide) ?_
        refine A_aload0 (pc := 72) dX7_offerAll_72 ?_
        refine A_getf (pc := 73) flX7_71 dX7_offerAll_73 rfl rfl ?_
        refine A_iload4 (pc := 76) dX7_offerAll_76 ?_
        refine A_ialdN (pc := 78) (i := y) dX7_offerAll_78 rfl rfl hy9 (by decide) ?_
        refine A_iadd (pc := 79) dX7_offerAll_79 ?_
        rw [nI_add]
        refine A_iconst (pc := 80) (v := 1) dX7_offerAll_80 (by decide) ?_
        refine A_aload0 (pc := 81) dX7_offerAll_81 ?_
        refine A_getf (pc := 82) flX7_74 dX7_offerAll_82 rfl rfl ?_
        refine A_iload4 (pc := 85) dX7_offerAll_85 ?_
        refine A_ialdN (pc := 87) (i := y) dX7_offerAll_87 rfl rfl hy9 (by decide) ?_
        refine A_iadd (pc := 88) dX7_offerAll_88 ?_
        rw [show (1 : Int32) + nI (t.2.1 y) = nI (1 + t.2.1 y) from nI_add 1 _]
        refine A_iload2 (pc := 89) dX7_offerAll_89 ?_
        refine A_iload3 (pc := 90) dX7_offerAll_90 ?_
        refine A_cvv (pc := 91) cvX7_169 (mp_offer (t := t) (fun x hx => by have := (hT x hx).1; omega) (fun x hx => by have := (hT x hx).2.1; omega) st (p kd + t.1 y) (1 + t.2.1 y) kd nb hst (by omega) (by omega)) dX7_offerAll_91 rfl rfl rfl rfl (Nat.le_of_ble_eq_true rfl) (by decide) (by decide) (by decide) ?_
        refine A_iinc3 (pc := 94) dX7_offerAll_94 (by decide) (nI_1 nb) ?_
        refine A_goto (pc := 97) (tgt := 21) dX7_offerAll_97 (by decide) ?_
        exact ih (nb + 1) (Bd + 1) _ _ _ (by omega) (by omega) hT1 (by omega) hC

set_option maxHeartbeats 4000000 in
set_option maxRecDepth 100000 in
theorem mlp_oa2 {c : XV} {n : MN} {p : Nat → Nat} {al : Int32} {s : MS} {r : MR} {w : MW} {k : MK} {pl : MP} {fr : Nat → Nat} {rest : AH} {post : Post} (hl : VL n.2.2.1) (hnm : ∀ x, x < 96 → n.2.2.2 x < 2 ^ 31) (hsg : ∀ x, x < 24 → n.2.1 x < 2 ^ 31) (st : Nat) (hst : st < 96) (hp5 : ∀ q, q < 9 → p q ≤ 50)  (m : Nat) : ∀ (kd Bd : Nat) (t : MT) (a : MA) (x3 x4 : Option Value) (_ : kd + m = 9) (_ : TB Bd t) (_ : Bd + 10 * m < 2 ^ 30) (_ : ∀ (a : MA) (x2 x3 x4 : Option Value), AW mX7_offerAll 4 0 0 0 0 106 [some (.ref 25), some (.int (nI st)), x2, x3, x4] [] (MX c n p al s r w k a pl fr (itT (oaK (nxT n) p al st) m kd t) rest) post), AW mX7_offerAll 4 0 0 0 0 2 [some (.ref 25), some (.int (nI st)), some (.int (nI kd)), x3, x4] [] (MX c n p al s r w k a pl fr t rest) post := by
  induction m with
  | zero =>
    intro kd Bd t a x3 x4 hm hT hB hC
    refine A_iload2 (pc := 2) dX7_offerAll_2 ?_
    refine A_bipush (pc := 3) (v := 9) dX7_offerAll_3 (by decide) ?_
    refine A_icmp_ge (pc := 5) (tgt := 106) dX7_offerAll_5 (by decide) (fun c5 => ?_) (fun c5 => absurd (show nI 9 ≤ nI kd from nI_le (by omega) (by omega)) c5)
    exact hC a _ _ _
  | succ m ih =>
    intro kd Bd t a x3 x4 hm hT hB hC
    have e8 : itT (oaK (nxT n) p al st) (m + 1) kd t = itT (oaK (nxT n) p al st) m (kd + 1) (oaK (nxT n) p al st kd t) := rfl
    rw [e8] at hC
    have hT1 : TB (Bd + 10) (oaK (nxT n) p al st kd t) := hT.K (fun nb y hy => nxT_lt hl hst hy) (hp5 kd (by omega)) (by omega)
    have hmo := moN_le kd
    have hlm := lo_le kd
    by_cases hal : alI al (nI kd) = true
    · by_cases hz : moN kd = 0
      · have hlo : loN kd = 0 := if_pos hz
        refine A_iload2 (pc := 2) dX7_offerAll_2 ?_
        refine A_bipush (pc := 3) (v := 9) dX7_offerAll_3 (by decide) ?_
        refine A_icmp_ge (pc := 5) (tgt := 106) dX7_offerAll_5 (by decide) (fun c5 => absurd c5 (show ¬ nI 9 ≤ nI kd from nI_ge (by omega) (by decide))) (fun c5 => ?_)
        refine A_iload2 (pc := 8) dX7_offerAll_8 ?_
        refine A_csi (pc := 9) csX7_111 (mp_mostOf kd (by omega)) dX7_offerAll_9 rfl rfl (Nat.le_of_ble_eq_true rfl) (by decide) (by decide) (by decide) ?_
        refine A_if_le (pc := 12) (tgt := 19) dX7_offerAll_12 (by decide) (fun c12 => ?_) (fun c12 => absurd (show nI (moN kd) ≤ 0 from by rw [hz]; decide) c12)
        refine A_iconst (pc := 19) (v := 0) dX7_offerAll_19 (by decide) ?_
        refine A_istore3 (pc := 20) dX7_offerAll_20 (by decide) ?_
        refine mlp_oa1 hl hnm hsg st kd hst (by omega) hal hp5 (moN kd + 1 - loN kd) 0 Bd t a _ (by omega) (by omega) hT (by omega) (fun a2 y3 y4 => ?_)
        refine A_iinc2 (pc := 100) dX7_offerAll_100 (by decide) (nI_1 kd) ?_
        refine A_goto (pc := 103) (tgt := 2) dX7_offerAll_103 (by decide) ?_
        have e7 : oaK (nxT n) p al st kd t = itT (oaS (nxT n) p st kd) (moN kd + 1 - loN kd) 0 t := by unfold oaK; rw [if_pos hal, hlo]
        rw [← e7]
        exact ih (kd + 1) (Bd + 10) _ a2 _ _ (by omega) hT1 (by omega) hC
      · have hlo : loN kd = 1 := if_neg hz
        refine A_iload2 (pc := 2) dX7_offerAll_2 ?_
        refine A_bipush (pc := 3) (v := 9) dX7_offerAll_3 (by decide) ?_
        refine A_icmp_ge (pc := 5) (tgt := 106) dX7_offerAll_5 (by decide) (fun c5 => absurd c5 (show ¬ nI 9 ≤ nI kd from nI_ge (by omega) (by decide))) (fun c5 => ?_)
        refine A_iload2 (pc := 8) dX7_offerAll_8 ?_
        refine A_csi (pc := 9) csX7_111 (mp_mostOf kd (by omega)) dX7_offerAll_9 rfl rfl (Nat.le_of_ble_eq_true rfl) (by decide) (by decide) (by decide) ?_
        refine A_if_le (pc := 12) (tgt := 19) dX7_offerAll_12 (by decide) (fun c12 => absurd c12 (show ¬ nI (moN kd) ≤ nI 0 from nI_ge (by omega) (by omega))) (fun c12 => ?_)
        refine A_iconst (pc := 15) (v := 1) dX7_offerAll_15 (by decide) ?_
        refine A_goto (pc := 16) (tgt := 20) dX7_offerAll_16 (by decide) ?_
        refine A_istore3 (pc := 20) dX7_offerAll_20 (by decide) ?_
        refine mlp_oa1 hl hnm hsg st kd hst (by omega) hal hp5 (moN kd + 1 - loN kd) 1 Bd t a _ (by omega) (by omega) hT (by omega) (fun a2 y3 y4 => ?_)
        refine A_iinc2 (pc := 100) dX7_offerAll_100 (by decide) (nI_1 kd) ?_
        refine A_goto (pc := 103) (tgt := 2) dX7_offerAll_103 (by decide) ?_
        have e7 : oaK (nxT n) p al st kd t = itT (oaS (nxT n) p st kd) (moN kd + 1 - loN kd) 1 t := by unfold oaK; rw [if_pos hal, hlo]
        rw [← e7]
        exact ih (kd + 1) (Bd + 10) _ a2 _ _ (by omega) hT1 (by omega) hC
    · by_cases hz : moN kd = 0
      · have hlo : loN kd = 0 := if_pos hz
        refine A_iload2 (pc := 2) dX7_offerAll_2 ?_
        refine A_bipush (pc := 3) (v := 9) dX7_offerAll_3 (by decide) ?_
        refine A_icmp_ge (pc := 5) (tgt := 106) dX7_offerAll_5 (by decide) (fun c5 => absurd c5 (show ¬ nI 9 ≤ nI kd from nI_ge (by omega) (by decide))) (fun c5 => ?_)
        refine A_iload2 (pc := 8) dX7_offerAll_8 ?_
        refine A_csi (pc := 9) csX7_111 (mp_mostOf kd (by omega)) dX7_offerAll_9 rfl rfl (Nat.le_of_ble_eq_true rfl) (by decide) (by decide) (by decide) ?_
        refine A_if_le (pc := 12) (tgt := 19) dX7_offerAll_12 (by decide) (fun c12 => ?_) (fun c12 => absurd (show nI (moN kd) ≤ 0 from by rw [hz]; decide) c12)
        refine A_iconst (pc := 19) (v := 0) dX7_offerAll_19 (by decide) ?_
        refine A_istore3 (pc := 20) dX7_offerAll_20 (by decide) ?_
        refine A_iload3 (pc := 21) dX7_offerAll_21 ?_
        refine A_iload2 (pc := 22) dX7_offerAll_22 ?_
        refine A_csi (pc := 23) csX7_111 (mp_mostOf kd (by omega)) dX7_offerAll_23 rfl rfl (Nat.le_of_ble_eq_true rfl) (by decide) (by decide) (by decide) ?_
        refine A_icmp_gt (pc := 26) (tgt := 100) dX7_offerAll_26 (by decide) (fun c26 => absurd c26 (show ¬ nI (moN kd) < nI 0 from nI_nlt (by omega) (by omega))) (fun c26 => ?_)
        refine A_aload0 (pc := 29) dX7_offerAll_29 ?_
        refine A_iload2 (pc := 30) dX7_offerAll_30 ?_
        refine A_cvi (pc := 31) cvX7_162 (mp_isAllowed _) dX7_offerAll_31 rfl rfl rfl rfl (Nat.le_of_ble_eq_true rfl) (by decide) (by decide) (by decide) ?_
        rw [show alI al (nI kd) = false from by cases hh : alI al (nI kd) with
          | true => exact absurd hh hal
          | false => rfl]
        refine A_if_eq (pc := 34) (tgt := 100) dX7_offerAll_34 (by decide) (fun c34 => ?_) (fun c34 => absurd rfl c34)
        refine A_iinc2 (pc := 100) dX7_offerAll_100 (by decide) (nI_1 kd) ?_
        refine A_goto (pc := 103) (tgt := 2) dX7_offerAll_103 (by decide) ?_
        have e7 : oaK (nxT n) p al st kd t = t := by unfold oaK; rw [if_neg hal]
        rw [e7] at hC hT1
        exact ih (kd + 1) (Bd + 10) _ a _ _ (by omega) hT1 (by omega) hC
      · have hlo : loN kd = 1 := if_neg hz
        refine A_iload2 (pc := 2) dX7_offerAll_2 ?_
        refine A_bipush (pc := 3) (v := 9) dX7_offerAll_3 (by decide) ?_
        refine A_icmp_ge (pc := 5) (tgt := 106) dX7_offerAll_5 (by decide) (fun c5 => absurd c5 (show ¬ nI 9 ≤ nI kd from nI_ge (by omega) (by decide))) (fun c5 => ?_)
        refine A_iload2 (pc := 8) dX7_offerAll_8 ?_
        refine A_csi (pc := 9) csX7_111 (mp_mostOf kd (by omega)) dX7_offerAll_9 rfl rfl (Nat.le_of_ble_eq_true rfl) (by decide) (by decide) (by decide) ?_
        refine A_if_le (pc := 12) (tgt := 19) dX7_offerAll_12 (by decide) (fun c12 => absurd c12 (show ¬ nI (moN kd) ≤ nI 0 from nI_ge (by omega) (by omega))) (fun c12 => ?_)
        refine A_iconst (pc := 15) (v := 1) dX7_offerAll_15 (by decide) ?_
        refine A_goto (pc := 16) (tgt := 20) dX7_offerAll_16 (by decide) ?_
        refine A_istore3 (pc := 20) dX7_offerAll_20 (by decide) ?_
        refine A_iload3 (pc := 21) dX7_offerAll_21 ?_
        refine A_iload2 (pc := 22) dX7_offerAll_22 ?_
        refine A_csi (pc := 23) csX7_111 (mp_mostOf kd (by omega)) dX7_offerAll_23 rfl rfl (Nat.le_of_ble_eq_true rfl) (by decide) (by decide) (by decide) ?_
        refine A_icmp_gt (pc := 26) (tgt := 100) dX7_offerAll_26 (by decide) (fun c26 => absurd c26 (show ¬ nI (moN kd) < nI 1 from nI_nlt (by omega) (by omega))) (fun c26 => ?_)
        refine A_aload0 (pc := 29) dX7_offerAll_29 ?_
        refine A_iload2 (pc := 30) dX7_offerAll_30 ?_
        refine A_cvi (pc := 31) cvX7_162 (mp_isAllowed _) dX7_offerAll_31 rfl rfl rfl rfl (Nat.le_of_ble_eq_true rfl) (by decide) (by decide) (by decide) ?_
        rw [show alI al (nI kd) = false from by cases hh : alI al (nI kd) with
          | true => exact absurd hh hal
          | false => rfl]
        refine A_if_eq (pc := 34) (tgt := 100) dX7_offerAll_34 (by decide) (fun c34 => ?_) (fun c34 => absurd rfl c34)
        refine A_iinc2 (pc := 100) dX7_offerAll_100 (by decide) (nI_1 kd) ?_
        refine A_goto (pc := 103) (tgt := 2) dX7_offerAll_103 (by decide) ?_
        have e7 : oaK (nxT n) p al st kd t = t := by unfold oaK; rw [if_neg hal]
        rw [e7] at hC hT1
        exact ih (kd + 1) (Bd + 10) _ a _ _ (by omega) hT1 (by omega) hC

def QoA (c : XV) (n : MN) (p : Nat → Nat) (al : Int32) (s : MS) (r : MR) (w : MW) (k : MK) (pl : MP) (fr : Nat → Nat) (t : MT) (rest : AH) : Post := fun v h => v = none ∧ ∃ a : MA, h = MX c n p al s r w k a pl fr t rest
set_option maxHeartbeats 4000000 in
set_option maxRecDepth 100000 in
theorem mp_offerAll {c : XV} {n : MN} {p : Nat → Nat} {al : Int32} {s : MS} {r : MR} {w : MW} {k : MK} {a : MA} {pl : MP} {fr : Nat → Nat} {t : MT} {rest : AH} (hl : VL n.2.2.1) (hnm : ∀ x, x < 96 → n.2.2.2 x < 2 ^ 31) (hsg : ∀ x, x < 24 → n.2.1 x < 2 ^ 31) (st : Nat) (hst : st < 96) (hp5 : ∀ q, q < 9 → p q ≤ 50) {Bd : Nat} (hT : TB Bd t) (hB : Bd + 100 < 2 ^ 30) : AS mX7_offerAll 4 0 0 [.ref 25, .int (nI st)] (MX c n p al s r w k a pl fr t rest) (QoA c n p al s r w k pl fr (oaA (nxT n) p al st t) rest) := by
  refine AS.go (lv := [some (.ref 25), some (.int (nI st)), none, none, none]) rfl ?_ (by decide +kernel) rfl (Nat.le_of_ble_eq_true rfl)
  refine A_iconst (pc := 0) (v := 0) dX7_offerAll_0 (by decide) ?_
  refine A_istore2 (pc := 1) dX7_offerAll_1 (by decide) ?_
  refine mlp_oa2 hl hnm hsg st hst hp5 9 0 Bd t a none none (by omega) hT (by omega) (fun a2 y2 y3 y4 => ?_)
  exact A_vret (pc := 106) dX7_offerAll_106 rfl (by decide) (by decide) (⟨rfl, a2, rfl⟩)
