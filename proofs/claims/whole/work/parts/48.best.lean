/-! the model: best -/
def b0T (T : Nat) (i : Nat) (t : MT) : MT := (updN t.1 i (if i / 4 = T then 0 else BIG), updN t.2.1 i 0, t.2.2)
def bsS (nx : Nat → Nat → Nat → Option Nat) (p : Nat → Nat) (al : Int32) (T x : Nat) (q : Bool × MT) : Bool × MT := if x / 4 = T then q else (q.1 || decide (¬ (oaA nx p al x q.2).1 x = q.2.1 x) || decide (¬ (oaA nx p al x q.2).2.1 x = q.2.2.1 x), oaA nx p al x q.2)
def bsW (nx : Nat → Nat → Nat → Option Nat) (p : Nat → Nat) (al : Int32) (T K : Nat) (t : MT) : Bool × MT := itT (bsS nx p al T) (4 * K) 0 (false, t)
def bsP (nx : Nat → Nat → Nat → Option Nat) (p : Nat → Nat) (al : Int32) (T K : Nat) : Nat → MT → MT
  | 0, t => t
  | j + 1, t => bsP nx p al T K j (bsW nx p al T K t).2
theorem TB.b0 {B : Nat} {t : MT} (h : TB B t) (T i : Nat) : TB B (b0T T i t) := fun x hx => by
  have h1 := h x hx
  refine ⟨?_, ?_, h1.2.2⟩
  · show updN t.1 i (if i / 4 = T then 0 else BIG) x ≤ BIG + 50
    unfold updN
    split
    · split <;> omega
    · exact h1.1
  · show updN t.2.1 i 0 x ≤ B
    unfold updN
    split
    · omega
    · exact h1.2.1
theorem TB.b0s {B : Nat} {T : Nat} (m : Nat) : ∀ (i : Nat) (t : MT), TB B t → TB B (itT (b0T T) m i t) := by
  induction m with
  | zero => intro i t h; exact h
  | succ m ih => intro i t h; exact ih (i + 1) _ (h.b0 T i)
theorem TB.bs {B : Nat} {q : Bool × MT} {nx : Nat → Nat → Nat → Option Nat} {p : Nat → Nat} {al : Int32} {T x : Nat} (h : TB B q.2) (hy : ∀ kd nb y, nx x kd nb = some y → y < 96) (hp : ∀ q, q < 9 → p q ≤ 50) : TB (B + 90) (bsS nx p al T x q).2 := by
  unfold bsS
  split
  · exact h.mono (by omega)
  · exact h.A hy hp
theorem TB.bsw {nx : Nat → Nat → Nat → Option Nat} {p : Nat → Nat} {al : Int32} {T : Nat} (hp : ∀ q, q < 9 → p q ≤ 50) (m : Nat) : ∀ (B x : Nat) (q : Bool × MT), x + m ≤ 96 → (∀ x kd nb y, x < 96 → nx x kd nb = some y → y < 96) → TB B q.2 → TB (B + 90 * m) (itT (bsS nx p al T) m x q).2 := by
  induction m with
  | zero => intro B x q _ _ h; exact h
  | succ m ih => intro B x q hx hy h; exact (ih (B + 90) (x + 1) _ (by omega) hy (h.bs (fun kd nb y => hy x kd nb y (by omega)) hp)).mono (by omega)
theorem TB.W {B : Nat} {t : MT} {nx : Nat → Nat → Nat → Option Nat} {p : Nat → Nat} {al : Int32} {T K : Nat} (h : TB B t) (hK : K ≤ 24) (hp : ∀ q, q < 9 → p q ≤ 50) (hy : ∀ x kd nb y, x < 96 → nx x kd nb = some y → y < 96) : TB (B + 9000) (bsW nx p al T K t).2 := (TB.bsw hp (4 * K) B 0 (false, t) (by omega) hy h).mono (by omega)
theorem ojP_upd {nx : Nat → Nat → Nat → Option Nat} {p P M : Nat → Nat} {x pr mn b m0 kd nb : Nat} : ojP nx p (updN P x b) (updN M x m0) x pr mn kd nb = ojP nx p P M x pr mn kd nb := by
  unfold ojP
  cases nx x kd nb with
  | none => rfl
  | some y =>
    show (if y = x then false else if p kd + updN P x b y = pr then decide (1 + updN M x m0 y = mn) else false) = (if y = x then false else if p kd + P y = pr then decide (1 + M y = mn) else false)
    by_cases e : y = x
    · rw [if_pos e, if_pos e]
    · rw [if_neg e, if_neg e, updN_n e, updN_n e]
theorem fnN_mem {P : Nat → Nat → Bool} {kd : Nat} {z : Nat × Nat} (m : Nat) : ∀ nb, fnN P kd m nb = some z → z.1 = kd ∧ nb ≤ z.2 ∧ z.2 < nb + m ∧ P z.1 z.2 = true := by
  induction m with
  | zero => intro nb h; cases h
  | succ m ih =>
    intro nb h
    have h : (if P kd nb = true then some (kd, nb) else fnN P kd m (nb + 1)) = some z := h
    by_cases c : P kd nb = true
    · rw [if_pos c] at h
      cases h
      exact ⟨rfl, Nat.le_refl _, by omega, c⟩
    · rw [if_neg c] at h
      obtain ⟨h1, h2, h3, h4⟩ := ih (nb + 1) h
      exact ⟨h1, by omega, by omega, h4⟩
theorem fnB_mem {P : Nat → Nat → Bool} {al : Int32} {kd : Nat} {z : Nat × Nat} (h : fnB P al kd = some z) : z.1 = kd ∧ loN kd ≤ z.2 ∧ z.2 ≤ moN kd ∧ P z.1 z.2 = true := by
  unfold fnB at h
  split at h
  · obtain ⟨h1, h2, h3, h4⟩ := fnN_mem _ _ h
    have := lo_le kd
    exact ⟨h1, h2, by omega, h4⟩
  · cases h
theorem fnK_mem {P : Nat → Nat → Bool} {al : Int32} {z : Nat × Nat} (m : Nat) : ∀ kd, fnK P al m kd = some z → z.1 < kd + m ∧ loN z.1 ≤ z.2 ∧ z.2 ≤ moN z.1 ∧ P z.1 z.2 = true := by
  induction m with
  | zero => intro kd h; cases h
  | succ m ih =>
    intro kd h
    have h : (match fnB P al kd with
      | some z => some z
      | none => fnK P al m (kd + 1)) = some z := h
    cases e : fnB P al kd with
    | none =>
      rw [e] at h
      obtain ⟨h1, h2⟩ := ih (kd + 1) h
      exact ⟨by omega, h2⟩
    | some z2 =>
      rw [e] at h
      cases h
      obtain ⟨h1, h2, h3, h4⟩ := fnB_mem e
      exact ⟨by omega, by rw [h1]; exact h2, by rw [h1]; exact h3, h4⟩
def bsZ (nx : Nat → Nat → Nat → Option Nat) (p : Nat → Nat) (al : Int32) (P M : Nat → Nat) (x : Nat) : Option (Nat × Nat) := fnK (ojP nx p P M x (P x) (M x)) al 9 0
def bsC (nx : Nat → Nat → Nat → Option Nat) (p : Nat → Nat) (al : Int32) (P M : Nat → Nat) (T : Nat) : Nat → Nat → Prop
  | 0, x => x / 4 = T
  | m + 1, x => ¬ x / 4 = T ∧ ∃ z y, bsZ nx p al P M x = some z ∧ nx x z.1 z.2 = some y ∧ bsC nx p al P M T m y
def blS (nx : Nat → Nat → Nat → Option Nat) (p : Nat → Nat) (al : Int32) (P M : Nat → Nat) : Nat → Nat → MS → MS
  | 0, _, s => s
  | m + 1, x, s => blS nx p al P M m ((nx x ((bsZ nx p al P M x).getD (0, 0)).1 ((bsZ nx p al P M x).getD (0, 0)).2).getD 0) (s.1 + 1, updN s.2.1 s.1 ((bsZ nx p al P M x).getD (0, 0)).1, updN s.2.2 s.1 ((bsZ nx p al P M x).getD (0, 0)).2)
def bsF (nx : Nat → Nat → Nat → Option Nat) (p : Nat → Nat) (al : Int32) (T x : Nat) (s : MS) (va : Int32) (sf : MS) (t : MT) : Prop := (t.1 x < BIG ∧ t.2.1 x ≤ 60 ∧ ∃ m, m ≤ 60 ∧ bsC nx p al t.1 t.2.1 T m x ∧ va = nI (t.1 x) ∧ sf = blS nx p al t.1 t.2.1 m x (0, s.2)) ∨ (¬ (t.1 x < BIG ∧ t.2.1 x ≤ 60) ∧ va = -1 ∧ sf = s)
def Qbe (v : Int32) (Bd : Nat) (c : XV) (n : MN) (p : Nat → Nat) (al : Int32) (s : MS) (r : MR) (w : MW) (k : MK) (pl : MP) (fr : Nat → Nat) (rest : AH) : Post := fun q h => q = some (.int v) ∧ ∃ (a : MA) (t : MT), TB Bd t ∧ h = MX c n p al s r w k a pl fr t rest

set_option maxHeartbeats 4000000 in
set_option maxRecDepth 100000 in
theorem mlp_be0 {c : XV} {n : MN} {p : Nat → Nat} {al : Int32} {s : MS} {r : MR} {w : MW} {k : MK} {pl : MP} {fr : Nat → Nat} {rest : AH} {a : MA} {post : Post} (hK : n.1 ≤ 24) (kk ff T : Nat) (hT : T < 24) (m : Nat) : ∀ (i : Nat) (t : MT) (_ : i + m = 4 * n.1) (_ : ∀ (x4 : Option Value), AW mX7_best 5 0 0 0 0 68 [some (.ref 25), some (.int (nI kk)), some (.int (nI ff)), some (.int (nI T)), x4, none, none, none, none] [] (MX c n p al s r w k a pl fr (itT (b0T T) m i t) rest) post), AW mX7_best 5 0 0 0 0 22 [some (.ref 25), some (.int (nI kk)), some (.int (nI ff)), some (.int (nI T)), some (.int (nI i)), none, none, none, none] [] (MX c n p al s r w k a pl fr t rest) post := by
  induction m with
  | zero =>
    intro i t hm hC
    refine A_iload4 (pc := 22) dX7_best_22 ?_
    refine A_iconst (pc := 24) (v := 4) dX7_best_24 (by decide) ?_
    refine A_aload0 (pc := 25) dX7_best_25 ?_
    refine A_getf (pc := 26) flX7_83 dX7_best_26 rfl rfl ?_
    refine A_imul (pc := 29) dX7_best_29 ?_
    rw [show (4 : Int32) * nI n.1 = nI (4 * n.1) from by rw [show (4 : Int32) = nI 4 from rfl, pk_mul]]
    refine A_icmp_ge (pc := 30) (tgt := 68) dX7_best_30 (by decide) (fun c30 => ?_) (fun c30 => absurd (show nI (4 * n.1) ≤ nI i from nI_le (by omega) (by omega)) c30)
    exact hC _
  | succ m ih =>
    intro i t hm hC
    have e8 : itT (b0T T) (m + 1) i t = itT (b0T T) m (i + 1) (b0T T i t) := rfl
    rw [e8] at hC
    have hdi : nI i / 4 = nI (i / 4) := dv4 (by omega)
    refine A_iload4 (pc := 22) dX7_best_22 ?_
    refine A_iconst (pc := 24) (v := 4) dX7_best_24 (by decide) ?_
    refine A_aload0 (pc := 25) dX7_best_25 ?_
    refine A_getf (pc := 26) flX7_83 dX7_best_26 rfl rfl ?_
    refine A_imul (pc := 29) dX7_best_29 ?_
    rw [show (4 : Int32) * nI n.1 = nI (4 * n.1) from by rw [show (4 : Int32) = nI 4 from rfl, pk_mul]]
    refine A_icmp_ge (pc := 30) (tgt := 68) dX7_best_30 (by decide) (fun c30 => absurd c30 (show ¬ nI (4 * n.1) ≤ nI i from nI_ge (by omega) (by omega))) (fun c30 => ?_)
    refine A_aload0 (pc := 33) dX7_best_33 ?_
    refine A_getf (pc := 34) flX7_71 dX7_best_34 rfl rfl ?_
    refine A_iload4 (pc := 37) dX7_best_37 ?_
    refine A_iload4 (pc := 39) dX7_best_39 ?_
    refine A_iconst (pc := 41) (v := 4) dX7_best_41 (by decide) ?_
    refine A_idiv (pc := 42) dX7_best_42 (by decide) ?_
    rw [hdi]
    refine A_iload3 (pc := 43) dX7_best_43 ?_
    refine A_icmp_ne (pc := 44) (tgt := 51) dX7_best_44 (by decide) (fun c44 => ?_) (fun c44 => ?_)
    · have e7 : b0T T i t = (updN t.1 i BIG, updN t.2.1 i 0, t.2.2) := by unfold b0T; rw [if_neg (fun q => c44 (by rw [q]))]
      rw [e7] at hC
      refine A_ldc (pc := 51) dX7_best_51 kcX7_161 ?_
      refine A_iastN (pc := 53) (i := i) (v := BIG) dX7_best_53 rfl rfl (show (268435456 : Int32) = nI BIG from rfl) (by omega) (by decide) ?_
      refine A_aload0 (pc := 54) dX7_best_54 ?_
      refine A_getf (pc := 55) flX7_74 dX7_best_55 rfl rfl ?_
      refine A_iload4 (pc := 58) dX7_best_58 ?_
      refine A_iconst (pc := 60) (v := 0) dX7_best_60 (by decide) ?_
      refine A_iastN (pc := 61) (i := i) (v := 0) dX7_best_61 rfl rfl rfl (by omega) (by decide) ?_
      refine AW.heq (hp' := MX c n p al s r w k a pl fr ((updN t.1 i BIG, updN t.2.1 i 0, t.2.2)) rest) rfl ?_
      refine A_iinc4 (pc := 62) dX7_best_62 (by decide) (nI_1 i) ?_
      refine A_goto (pc := 65) (tgt := 22) dX7_best_65 (by decide) ?_
      exact ih (i + 1) _ (by omega) hC
    · have e7 : b0T T i t = (updN t.1 i 0, updN t.2.1 i 0, t.2.2) := by unfold b0T; rw [if_pos ((nI_eq (by omega) (by omega)).mp c44)]
      rw [e7] at hC
      refine A_iconst (pc := 47) (v := 0) dX7_best_47 (by decide) ?_
      refine A_goto (pc := 48) (tgt := 53) dX7_best_48 (by decide) ?_
      refine A_iastN (pc := 53) (i := i) (v := 0) dX7_best_53 rfl rfl rfl (by omega) (by decide) ?_
      refine A_aload0 (pc := 54) dX7_best_54 ?_
      refine A_getf (pc := 55) flX7_74 dX7_best_55 rfl rfl ?_
      refine A_iload4 (pc := 58) dX7_best_58 ?_
      refine A_iconst (pc := 60) (v := 0) dX7_best_60 (by decide) ?_
      refine A_iastN (pc := 61) (i := i) (v := 0) dX7_best_61 rfl rfl rfl (by omega) (by decide) ?_
      refine AW.heq (hp' := MX c n p al s r w k a pl fr ((updN t.1 i 0, updN t.2.1 i 0, t.2.2)) rest) rfl ?_
      refine A_iinc4 (pc := 62) dX7_best_62 (by decide) (nI_1 i) ?_
      refine A_goto (pc := 65) (tgt := 22) dX7_best_65 (by decide) ?_
      exact ih (i + 1) _ (by omega) hC

set_option maxHeartbeats 4000000 in
set_option maxRecDepth 100000 in
theorem mlp_be1 {c : XV} {n : MN} {p : Nat → Nat} {al : Int32} {s : MS} {r : MR} {w : MW} {k : MK} {pl : MP} {fr : Nat → Nat} {rest : AH} {post : Post} (hK : n.1 ≤ 24) (hl : VL n.2.2.1) (hnm : ∀ x, x < 96 → n.2.2.2 x < 2 ^ 31) (hsg : ∀ x, x < 24 → n.2.1 x < 2 ^ 31) (hp5 : ∀ q, q < 9 → p q ≤ 50) (kk ff T : Nat) (hT : T < 24) (m : Nat) : ∀ (x Bd : Nat) (q : Bool × MT) (a : MA) (x6 x7 x8 : Option Value) (_ : x + m = 4 * n.1) (_ : TB Bd q.2) (_ : Bd + 90 * m + 100 < 2 ^ 30) (_ : ∀ (a : MA) (x5 x6 x7 : Option Value), AW mX7_best 5 0 0 0 0 170 [some (.ref 25), some (.int (nI kk)), some (.int (nI ff)), some (.int (nI T)), some (.int (bI (itT (bsS (nxT n) p al T) m x q).1)), x5, x6, x7, x8] [] (MX c n p al s r w k a pl fr (itT (bsS (nxT n) p al T) m x q).2 rest) post), AW mX7_best 5 0 0 0 0 82 [some (.ref 25), some (.int (nI kk)), some (.int (nI ff)), some (.int (nI T)), some (.int (bI q.1)), some (.int (nI x)), x6, x7, x8] [] (MX c n p al s r w k a pl fr q.2 rest) post := by
  have hB9 : BIG = 268435456 := rfl
  induction m with
  | zero =>
    intro x Bd q a x6 x7 x8 hm hTB hB hC
    refine A_iload5 (pc := 82) dX7_best_82 ?_
    refine A_iconst (pc := 84) (v := 4) dX7_best_84 (by decide) ?_
    refine A_aload0 (pc := 85) dX7_best_85 ?_
    refine A_getf (pc := 86) flX7_83 dX7_best_86 rfl rfl ?_
    refine A_imul (pc := 89) dX7_best_89 ?_
    rw [show (4 : Int32) * nI n.1 = nI (4 * n.1) from by rw [show (4 : Int32) = nI 4 from rfl, pk_mul]]
    refine A_icmp_ge (pc := 90) (tgt := 170) dX7_best_90 (by decide) (fun c90 => ?_) (fun c90 => absurd (show nI (4 * n.1) ≤ nI x from nI_le (by omega) (by omega)) c90)
    exact hC a _ _ _
  | succ m ih =>
    intro x Bd q a x6 x7 x8 hm hTB hB hC
    have e8 : itT (bsS (nxT n) p al T) (m + 1) x q = itT (bsS (nxT n) p al T) m (x + 1) (bsS (nxT n) p al T x q) := rfl
    rw [e8] at hC
    have hdi : nI x / 4 = nI (x / 4) := dv4 (by omega)
    have hy9 : ∀ kd nb y, nxT n x kd nb = some y → y < 96 := fun kd nb y hy => nxT_lt hl (by omega) hy
    have hT1 : TB (Bd + 90) (oaA (nxT n) p al x q.2) := hTB.A hy9 hp5
    have hx1 := hTB x (by omega)
    have hx2 := hT1 x (by omega)
    by_cases c9 : x / 4 = T
    · have e7 : bsS (nxT n) p al T x q = q := if_pos c9
      rw [e7] at hC
      refine A_iload5 (pc := 82) dX7_best_82 ?_
      refine A_iconst (pc := 84) (v := 4) dX7_best_84 (by decide) ?_
      refine A_aload0 (pc := 85) dX7_best_85 ?_
      refine A_getf (pc := 86) flX7_83 dX7_best_86 rfl rfl ?_
      refine A_imul (pc := 89) dX7_best_89 ?_
      rw [show (4 : Int32) * nI n.1 = nI (4 * n.1) from by rw [show (4 : Int32) = nI 4 from rfl, pk_mul]]
      refine A_icmp_ge (pc := 90) (tgt := 170) dX7_best_90 (by decide) (fun c90 => absurd c90 (show ¬ nI (4 * n.1) ≤ nI x from nI_ge (by omega) (by omega))) (fun c90 => ?_)
      refine A_iload5 (pc := 93) dX7_best_93 ?_
      refine A_iconst (pc := 95) (v := 4) dX7_best_95 (by decide) ?_
      refine A_idiv (pc := 96) dX7_best_96 (by decide) ?_
      rw [hdi]
      refine A_iload3 (pc := 97) dX7_best_97 ?_
      refine A_icmp_ne (pc := 98) (tgt := 104) dX7_best_98 (by decide) (fun c98 => absurd (show nI (x / 4) = nI T from by rw [c9]) c98) (fun c98 => ?_)
      refine A_goto (pc := 101) (tgt := 164) dX7_best_101 (by decide) ?_
      refine A_iinc5 (pc := 164) dX7_best_164 (by decide) (nI_1 x) ?_
      refine A_goto (pc := 167) (tgt := 82) dX7_best_167 (by decide) ?_
      exact ih (x + 1) Bd q a _ _ _ (by omega) hTB (by omega) hC
    · have e7 : bsS (nxT n) p al T x q = (q.1 || decide (¬ (oaA (nxT n) p al x q.2).1 x = q.2.1 x) || decide (¬ (oaA (nxT n) p al x q.2).2.1 x = q.2.2.1 x), (oaA (nxT n) p al x q.2)) := if_neg c9
      rw [e7] at hC
      refine A_iload5 (pc := 82) dX7_best_82 ?_
      refine A_iconst (pc := 84) (v := 4) dX7_best_84 (by decide) ?_
      refine A_aload0 (pc := 85) dX7_best_85 ?_
      refine A_getf (pc := 86) flX7_83 dX7_best_86 rfl rfl ?_
      refine A_imul (pc := 89) dX7_best_89 ?_
      rw [show (4 : Int32) * nI n.1 = nI (4 * n.1) from by rw [show (4 : Int32) = nI 4 from rfl, pk_mul]]
      refine A_icmp_ge (pc := 90) (tgt := 170) dX7_best_90 (by decide) (fun c90 => absurd c90 (show ¬ nI (4 * n.1) ≤ nI x from nI_ge (by omega) (by omega))) (fun c90 => ?_)
      refine A_iload5 (pc := 93) dX7_best_93 ?_
      refine A_iconst (pc := 95) (v := 4) dX7_best_95 (by decide) ?_
      refine A_idiv (pc := 96) dX7_best_96 (by decide) ?_
      rw [hdi]
      refine A_iload3 (pc := 97) dX7_best_97 ?_
      refine A_icmp_ne (pc := 98) (tgt := 104) dX7_best_98 (by decide) (fun c98 => ?_) (fun c98 => absurd c98 (show ¬ nI (x / 4) = nI T from fun h => c9 ((nI_eq (by omega) (by omega)).mp h)))
      refine A_aload0 (pc := 104) dX7_best_104 ?_
      refine A_getf (pc := 105) flX7_71 dX7_best_105 rfl rfl ?_
      refine A_iload5 (pc := 108) dX7_best_108 ?_
      refine A_ialdN (pc := 110) (i := x) dX7_best_110 rfl rfl (by omega) (by decide) ?_
      refine A_istore6 (pc := 111) dX7_best_111 (by decide) ?_
      refine A_aload0 (pc := 113) dX7_best_113 ?_
      refine A_getf (pc := 114) flX7_74 dX7_best_114 rfl rfl ?_
      refine A_iload5 (pc := 117) dX7_best_117 ?_
      refine A_ialdN (pc := 119) (i := x) dX7_best_119 rfl rfl (by omega) (by decide) ?_
      refine A_istore7 (pc := 120) dX7_best_120 (by decide) ?_
      refine A_aload0 (pc := 122) dX7_best_122 ?_
      refine A_iload5 (pc := 123) dX7_best_123 ?_
      refine A_callV (pc := 125) cvX7_177 (mp_offerAll hl hnm hsg x (by omega) hp5 hTB (by omega)) dX7_best_125 rfl rfl rfl rfl (Nat.le_of_ble_eq_true rfl) (by decide) (by decide) (by decide) (fun r9 h9 hq9 => ?_)
      obtain ⟨rfl, a2, rfl⟩ := hq9
      refine A_iload4 (pc := 128) dX7_best_128 ?_
      refine A_if_ne (pc := 130) (tgt := 157) dX7_best_130 (by decide) (fun c130 => ?_) (fun c130 => ?_)
      · have d1 : q.1 = true := (bI_ne _).mp c130
        refine A_iconst (pc := 157) (v := 1) dX7_best_157 (by decide) ?_
        refine A_goto (pc := 158) (tgt := 162) dX7_best_158 (by decide) ?_
        refine A_istore4 (pc := 162) dX7_best_162 (by decide) ?_
        refine A_iinc5 (pc := 164) dX7_best_164 (by decide) (nI_1 x) ?_
        refine A_goto (pc := 167) (tgt := 82) dX7_best_167 (by decide) ?_
        have e9 : (q.1 || decide (¬ (oaA (nxT n) p al x q.2).1 x = q.2.1 x) || decide (¬ (oaA (nxT n) p al x q.2).2.1 x = q.2.2.1 x)) = true := by rw [d1]; rfl
        rw [e9] at hC
        exact ih (x + 1) (Bd + 90) (true, (oaA (nxT n) p al x q.2)) a2 _ _ _ (by omega) hT1 (by omega) hC
      · have d1 : q.1 = false := (bI_eq _).mp c130
        refine A_aload0 (pc := 133) dX7_best_133 ?_
        refine A_getf (pc := 134) flX7_71 dX7_best_134 rfl rfl ?_
        refine A_iload5 (pc := 137) dX7_best_137 ?_
        refine A_ialdN (pc := 139) (i := x) dX7_best_139 rfl rfl (by omega) (by decide) ?_
        refine A_iload6 (pc := 140) dX7_best_140 ?_
        refine A_icmp_ne (pc := 142) (tgt := 157) dX7_best_142 (by decide) (fun c142 => ?_) (fun c142 => ?_)
        · have d2 : ¬ (oaA (nxT n) p al x q.2).1 x = q.2.1 x := fun h => c142 (by rw [h])
          refine A_iconst (pc := 157) (v := 1) dX7_best_157 (by decide) ?_
          refine A_goto (pc := 158) (tgt := 162) dX7_best_158 (by decide) ?_
          refine A_istore4 (pc := 162) dX7_best_162 (by decide) ?_
          refine A_iinc5 (pc := 164) dX7_best_164 (by decide) (nI_1 x) ?_
          refine A_goto (pc := 167) (tgt := 82) dX7_best_167 (by decide) ?_
          have e9 : (q.1 || decide (¬ (oaA (nxT n) p al x q.2).1 x = q.2.1 x) || decide (¬ (oaA (nxT n) p al x q.2).2.1 x = q.2.2.1 x)) = true := by rw [d1, decide_eq_true d2]; rfl
          rw [e9] at hC
          exact ih (x + 1) (Bd + 90) (true, (oaA (nxT n) p al x q.2)) a2 _ _ _ (by omega) hT1 (by omega) hC
        · have d2 : (oaA (nxT n) p al x q.2).1 x = q.2.1 x := (nI_eq (by omega) (by omega)).mp c142
          refine A_aload0 (pc := 145) dX7_best_145 ?_
          refine A_getf (pc := 146) flX7_74 dX7_best_146 rfl rfl ?_
          refine A_iload5 (pc := 149) dX7_best_149 ?_
          refine A_ialdN (pc := 151) (i := x) dX7_best_151 rfl rfl (by omega) (by decide) ?_
          refine A_iload7 (pc := 152) dX7_best_152 ?_
          refine A_icmp_eq (pc := 154) (tgt := 161) dX7_best_154 (by decide) (fun c154 => ?_) (fun c154 => ?_)
          · have d3 : (oaA (nxT n) p al x q.2).2.1 x = q.2.2.1 x := (nI_eq (by omega) (by omega)).mp c154
            refine A_iconst (pc := 161) (v := 0) dX7_best_161 (by decide) ?_
            refine A_istore4 (pc := 162) dX7_best_162 (by decide) ?_
            refine A_iinc5 (pc := 164) dX7_best_164 (by decide) (nI_1 x) ?_
            refine A_goto (pc := 167) (tgt := 82) dX7_best_167 (by decide) ?_
            have e9 : (q.1 || decide (¬ (oaA (nxT n) p al x q.2).1 x = q.2.1 x) || decide (¬ (oaA (nxT n) p al x q.2).2.1 x = q.2.2.1 x)) = false := by rw [d1, decide_eq_false (fun h => h d2), decide_eq_false (fun h => h d3)]; rfl
            rw [e9] at hC
            exact ih (x + 1) (Bd + 90) (false, (oaA (nxT n) p al x q.2)) a2 _ _ _ (by omega) hT1 (by omega) hC
          · have d3 : ¬ (oaA (nxT n) p al x q.2).2.1 x = q.2.2.1 x := fun h => c154 (by rw [h])
            refine A_iconst (pc := 157) (v := 1) dX7_best_157 (by decide) ?_
            refine A_goto (pc := 158) (tgt := 162) dX7_best_158 (by decide) ?_
            refine A_istore4 (pc := 162) dX7_best_162 (by decide) ?_
            refine A_iinc5 (pc := 164) dX7_best_164 (by decide) (nI_1 x) ?_
            refine A_goto (pc := 167) (tgt := 82) dX7_best_167 (by decide) ?_
            have e9 : (q.1 || decide (¬ (oaA (nxT n) p al x q.2).1 x = q.2.1 x) || decide (¬ (oaA (nxT n) p al x q.2).2.1 x = q.2.2.1 x)) = true := by rw [d1, decide_eq_false (fun h => h d2), decide_eq_true d3]; rfl
            rw [e9] at hC
            exact ih (x + 1) (Bd + 90) (true, (oaA (nxT n) p al x q.2)) a2 _ _ _ (by omega) hT1 (by omega) hC

set_option maxHeartbeats 4000000 in
set_option maxRecDepth 100000 in
theorem mlp_be2 {c : XV} {n : MN} {p : Nat → Nat} {al : Int32} {s : MS} {r : MR} {w : MW} {k : MK} {pl : MP} {fr : Nat → Nat} {rest : AH} {post : Post} (hK : n.1 ≤ 24) (hl : VL n.2.2.1) (hnm : ∀ x, x < 96 → n.2.2.2 x < 2 ^ 31) (hsg : ∀ x, x < 24 → n.2.1 x < 2 ^ 31) (hp5 : ∀ q, q < 9 → p q ≤ 50) (kk ff T : Nat) (hT : T < 24) (j : Nat) : ∀ (Bd : Nat) (t : MT) (a : MA) (x4 x5 x6 x7 x8 : Option Value) (_ : TB Bd t) (_ : Bd + 9000 * (j + 1) + 100 < 2 ^ 30) (_ : (bsW (nxT n) p al T n.1 (bsP (nxT n) p al T n.1 j t)).1 = false) (_ : ∀ (a : MA) (i : Nat) (x4 x5 x6 x7 x8 : Option Value), i ≤ j → (bsW (nxT n) p al T n.1 (bsP (nxT n) p al T n.1 i t)).1 = false → TB (Bd + 9000 * (j + 1)) (bsW (nxT n) p al T n.1 (bsP (nxT n) p al T n.1 i t)).2 → AW mX7_best 5 0 0 0 0 173 [some (.ref 25), some (.int (nI kk)), some (.int (nI ff)), some (.int (nI T)), x4, x5, x6, x7, x8] [] (MX c n p al s r w k a pl fr (bsW (nxT n) p al T n.1 (bsP (nxT n) p al T n.1 i t)).2 rest) post), AW mX7_best 5 0 0 0 0 76 [some (.ref 25), some (.int (nI kk)), some (.int (nI ff)), some (.int (nI T)), x4, x5, x6, x7, x8] [] (MX c n p al s r w k a pl fr t rest) post := by
  have hy9 : ∀ x kd nb y, x < 96 → nxT n x kd nb = some y → y < 96 := fun x kd nb y hx hy => nxT_lt hl hx hy
  induction j with
  | zero =>
    intro Bd t a x4 x5 x6 x7 x8 hTB hB hst hC
    have hst : (bsW (nxT n) p al T n.1 t).1 = false := hst
    refine A_iconst (pc := 76) (v := 0) dX7_best_76 (by decide) ?_
    refine A_istore4 (pc := 77) dX7_best_77 (by decide) ?_
    refine A_iconst (pc := 79) (v := 0) dX7_best_79 (by decide) ?_
    refine A_istore5 (pc := 80) dX7_best_80 (by decide) ?_
    refine mlp_be1 hK hl hnm hsg hp5 kk ff T hT (4 * n.1) 0 Bd (false, t) a _ _ _ (by omega) hTB (by omega) (fun a2 y5 y6 y7 => ?_)
    refine A_goto (pc := 170) (tgt := 71) dX7_best_170 (by decide) ?_
    refine A_iload4 (pc := 71) dX7_best_71 ?_
    refine A_if_eq (pc := 73) (tgt := 173) dX7_best_73 (by decide) (fun c73 => ?_) (fun c73 => absurd (show bI (bsW (nxT n) p al T n.1 t).1 = 0 from by rw [hst]; rfl) c73)
    exact hC a2 0 _ _ _ _ _ (Nat.le_refl 0) hst ((hTB.W hK hp5 hy9).mono (by omega))
  | succ j ih =>
    intro Bd t a x4 x5 x6 x7 x8 hTB hB hst hC
    by_cases hb : (bsW (nxT n) p al T n.1 t).1 = true
    · refine A_iconst (pc := 76) (v := 0) dX7_best_76 (by decide) ?_
      refine A_istore4 (pc := 77) dX7_best_77 (by decide) ?_
      refine A_iconst (pc := 79) (v := 0) dX7_best_79 (by decide) ?_
      refine A_istore5 (pc := 80) dX7_best_80 (by decide) ?_
      refine mlp_be1 hK hl hnm hsg hp5 kk ff T hT (4 * n.1) 0 Bd (false, t) a _ _ _ (by omega) hTB (by omega) (fun a2 y5 y6 y7 => ?_)
      refine A_goto (pc := 170) (tgt := 71) dX7_best_170 (by decide) ?_
      refine A_iload4 (pc := 71) dX7_best_71 ?_
      refine A_if_eq (pc := 73) (tgt := 173) dX7_best_73 (by decide) (fun c73 => absurd c73 (show ¬ bI (bsW (nxT n) p al T n.1 t).1 = 0 from by rw [hb]; decide)) (fun c73 => ?_)
      exact ih (Bd + 9000) (bsW (nxT n) p al T n.1 t).2 a2 _ _ _ _ _ (hTB.W hK hp5 hy9) (by omega) hst (fun a3 i z4 z5 z6 z7 z8 hi h1 h2 => hC a3 (i + 1) z4 z5 z6 z7 z8 (by omega) h1 (h2.mono (by omega)))
    · have hst : (bsW (nxT n) p al T n.1 t).1 = false := by
        cases hh : (bsW (nxT n) p al T n.1 t).1 with
        | true => exact absurd hh hb
        | false => rfl
      refine A_iconst (pc := 76) (v := 0) dX7_best_76 (by decide) ?_
      refine A_istore4 (pc := 77) dX7_best_77 (by decide) ?_
      refine A_iconst (pc := 79) (v := 0) dX7_best_79 (by decide) ?_
      refine A_istore5 (pc := 80) dX7_best_80 (by decide) ?_
      refine mlp_be1 hK hl hnm hsg hp5 kk ff T hT (4 * n.1) 0 Bd (false, t) a _ _ _ (by omega) hTB (by omega) (fun a2 y5 y6 y7 => ?_)
      refine A_goto (pc := 170) (tgt := 71) dX7_best_170 (by decide) ?_
      refine A_iload4 (pc := 71) dX7_best_71 ?_
      refine A_if_eq (pc := 73) (tgt := 173) dX7_best_73 (by decide) (fun c73 => ?_) (fun c73 => absurd (show bI (bsW (nxT n) p al T n.1 t).1 = 0 from by rw [hst]; rfl) c73)
      exact hC a2 0 _ _ _ _ _ (Nat.zero_le _) hst ((hTB.W hK hp5 hy9).mono (by omega))

set_option maxHeartbeats 4000000 in
set_option maxRecDepth 100000 in
theorem mlp_be3 {c : XV} {n : MN} {p : Nat → Nat} {al : Int32} {r : MR} {w : MW} {k : MK} {pl : MP} {fr : Nat → Nat} {rest : AH} {post : Post} (hl : VL n.2.2.1) (hnm : ∀ x, x < 96 → n.2.2.2 x < 2 ^ 31) (hsg : ∀ x, x < 24 → n.2.1 x < 2 ^ 31) (hp5 : ∀ q, q < 9 → p q ≤ 50) (kk ff T : Nat) (hT : T < 24) (x6 : Option Value) {P N : Nat → Nat} {Bd : Nat} (hB : Bd < 2 ^ 30) (m : Nat) : ∀ (x : Nat) (s : MS) (q : (Nat → Nat) × (Nat → Nat)) (a : MA) (x4 x7 x8 : Option Value) (_ : x < 96) (_ : TB Bd (P, N, q)) (_ : bsC (nxT n) p al P N T m x) (_ : s.1 + m ≤ 60) (_ : ∀ (a : MA) (q : (Nat → Nat) × (Nat → Nat)) (x5 x7 x8 : Option Value), TB Bd (P, N, q) → AW mX7_best 5 0 0 0 0 340 [some (.ref 25), some (.int (nI kk)), some (.int (nI ff)), some (.int (nI T)), x4, x5, x6, x7, x8] [] (MX c n p al (blS (nxT n) p al P N m x s) r w k a pl fr (P, N, q) rest) post), AW mX7_best 5 0 0 0 0 220 [some (.ref 25), some (.int (nI kk)), some (.int (nI ff)), some (.int (nI T)), x4, some (.int (nI x)), x6, x7, x8] [] (MX c n p al s r w k a pl fr (P, N, q) rest) post := by
  have hB9 : BIG = 268435456 := rfl
  induction m with
  | zero =>
    intro x s q a x4 x7 x8 hx hTB hch hm hC
    have hch : x / 4 = T := hch
    have hdi : nI x / 4 = nI (x / 4) := dv4 (by omega)
    refine A_iload5 (pc := 220) dX7_best_220 ?_
    refine A_iconst (pc := 222) (v := 4) dX7_best_222 (by decide) ?_
    refine A_idiv (pc := 223) dX7_best_223 (by decide) ?_
    rw [hdi]
    refine A_iload3 (pc := 224) dX7_best_224 ?_
    refine A_icmp_eq (pc := 225) (tgt := 340) dX7_best_225 (by decide) (fun c225 => ?_) (fun c225 => absurd (show nI (x / 4) = nI T from by rw [hch]) c225)
    exact hC a q _ _ _ hTB
  | succ m ih =>
    intro x s q a x4 x7 x8 hx hTB hch hm hC
    obtain ⟨hne, z, y, hz, hy, hch⟩ := hch
    have hdi : nI x / 4 = nI (x / 4) := dv4 (by omega)
    have hy9 := nxT_lt hl hx hy
    have hz2 : fnK (ojP (nxT n) p P N x (P x) (N x)) al 9 0 = some z := hz
    have hzm := fnK_mem 9 0 hz2
    have hz3 : fnK (ojP (nxT n) p (updN P x BIG) (updN N x 0) x (P x) (N x)) al 9 0 = some z := by
      rw [show ojP (nxT n) p (updN P x BIG) (updN N x 0) x (P x) (N x) = ojP (nxT n) p P N x (P x) (N x) from funext fun a => funext fun b => ojP_upd]
      exact hz2
    have hz9 := moN_le z.1
    have hxb := hTB x hx
    have hx1 : P x ≤ BIG + 50 := hxb.1
    have hx2 : N x ≤ Bd := hxb.2.1
    have hTB2 : TB Bd (updN P x BIG, updN N x 0, q) := fun i hi => by
      have h1 := hTB i hi
      refine ⟨?_, ?_, h1.2.2⟩
      · show updN P x BIG i ≤ BIG + 50
        unfold updN
        split
        · omega
        · exact h1.1
      · show updN N x 0 i ≤ Bd
        unfold updN
        split
        · omega
        · exact h1.2.1
    have eP : updN (updN P x BIG) x (P x) = P := by
      funext i
      unfold updN
      split
      · rename_i h; rw [h]
      · rfl
    have eN : updN (updN N x 0) x (N x) = N := by
      funext i
      unfold updN
      split
      · rename_i h; rw [h]
      · rfl
    have hsj : sjT (updN P x BIG, updN N x 0, q) x (P x) (N x) z = (P, N, updN q.1 x z.1, updN q.2 x z.2) := by
      show (updN (updN P x BIG) x (P x), updN (updN N x 0) x (N x), updN q.1 x z.1, updN q.2 x z.2) = _
      rw [eP, eN]
    have hTB3 : TB Bd (P, N, updN q.1 x z.1, updN q.2 x z.2) := fun i hi => by
      have h1 := hTB i hi
      refine ⟨h1.1, h1.2.1, ?_⟩
      show updN q.1 x z.1 i < 9 ∧ updN q.2 x z.2 i ≤ 9 ∧ (updN q.1 x z.1 i = 4 ∨ updN q.1 x z.1 i = 5 → 1 ≤ updN q.2 x z.2 i)
      by_cases e : i = x
      · rw [e, updN_s, updN_s]
        exact ⟨by omega, by omega, lo_45 hzm.2.1⟩
      · rw [updN_n e, updN_n e]
        exact h1.2.2
    have hg : (bsZ (nxT n) p al P N x).getD (0, 0) = z := by rw [hz]; rfl
    have e8 : blS (nxT n) p al P N (m + 1) x s = blS (nxT n) p al P N m y (s.1 + 1, updN s.2.1 s.1 z.1, updN s.2.2 s.1 z.2) := by
      show blS (nxT n) p al P N m ((nxT n x ((bsZ (nxT n) p al P N x).getD (0, 0)).1 ((bsZ (nxT n) p al P N x).getD (0, 0)).2).getD 0) (s.1 + 1, updN s.2.1 s.1 ((bsZ (nxT n) p al P N x).getD (0, 0)).1, updN s.2.2 s.1 ((bsZ (nxT n) p al P N x).getD (0, 0)).2) = _
      rw [hg, hy]
      rfl
    rw [e8] at hC
    refine A_iload5 (pc := 220) dX7_best_220 ?_
    refine A_iconst (pc := 222) (v := 4) dX7_best_222 (by decide) ?_
    refine A_idiv (pc := 223) dX7_best_223 (by decide) ?_
    rw [hdi]
    refine A_iload3 (pc := 224) dX7_best_224 ?_
    refine A_icmp_eq (pc := 225) (tgt := 340) dX7_best_225 (by decide) (fun c225 => absurd c225 (show ¬ nI (x / 4) = nI T from fun h => hne ((nI_eq (by omega) (by omega)).mp h))) (fun c225 => ?_)
    refine A_aload0 (pc := 228) dX7_best_228 ?_
    refine A_getf (pc := 229) flX7_71 dX7_best_229 rfl rfl ?_
    refine A_iload5 (pc := 232) dX7_best_232 ?_
    refine A_ialdN (pc := 234) (i := x) dX7_best_234 rfl rfl hx (by decide) ?_
    refine A_istore7 (pc := 235) dX7_best_235 (by decide) ?_
    refine A_aload0 (pc := 237) dX7_best_237 ?_
    refine A_getf (pc := 238) flX7_74 dX7_best_238 rfl rfl ?_
    refine A_iload5 (pc := 241) dX7_best_241 ?_
    refine A_ialdN (pc := 243) (i := x) dX7_best_243 rfl rfl hx (by decide) ?_
    refine A_istore8 (pc := 244) dX7_best_244 (by decide) ?_
    refine A_aload0 (pc := 246) dX7_best_246 ?_
    refine A_getf (pc := 247) flX7_71 dX7_best_247 rfl rfl ?_
    refine A_iload5 (pc := 250) dX7_best_250 ?_
    refine A_ldc (pc := 252) dX7_best_252 kcX7_161 ?_
    refine A_iastN (pc := 254) (i := x) (v := BIG) dX7_best_254 rfl rfl (show (268435456 : Int32) = nI BIG from rfl) hx (by decide) ?_
    refine A_aload0 (pc := 255) dX7_best_255 ?_
    refine A_getf (pc := 256) flX7_74 dX7_best_256 rfl rfl ?_
    refine A_iload5 (pc := 259) dX7_best_259 ?_
    refine A_iconst (pc := 261) (v := 0) dX7_best_261 (by decide) ?_
    refine A_iastN (pc := 262) (i := x) (v := 0) dX7_best_262 rfl rfl rfl hx (by decide) ?_
    refine AW.heq (hp' := MX c n p al s r w k a pl fr ((updN P x BIG, updN N x 0, q)) rest) rfl ?_
    refine A_aload0 (pc := 263) dX7_best_263 ?_
    refine A_iload5 (pc := 264) dX7_best_264 ?_
    refine A_iload7 (pc := 266) dX7_best_266 ?_
    refine A_iload8 (pc := 268) dX7_best_268 ?_
    refine A_callV (pc := 270) cvX7_181 (mp_offerJust hl hnm hsg x hx hp5 hTB2 hB (P x) (N x) (by omega) (by omega) z hz3) dX7_best_270 rfl rfl rfl rfl (Nat.le_of_ble_eq_true rfl) (by decide) (by decide) (by decide) (fun r9 h9 hq9 => ?_)
    obtain ⟨rfl, a2, rfl⟩ := hq9
    rw [hsj]
    refine A_aload0 (pc := 273) dX7_best_273 ?_
    refine A_getf (pc := 274) flX7_26 dX7_best_274 rfl rfl ?_
    refine A_aload0 (pc := 277) dX7_best_277 ?_
    refine A_getf (pc := 278) flX7_136 dX7_best_278 rfl rfl ?_
    refine A_aload0 (pc := 281) dX7_best_281 ?_
    refine A_getf (pc := 282) flX7_77 dX7_best_282 rfl rfl ?_
    refine A_iload5 (pc := 285) dX7_best_285 ?_
    refine A_ialdN (pc := 287) (i := x) dX7_best_287 rfl rfl hx (by decide) ?_
    refine A_iastN (pc := 288) (i := s.1) (v := z.1) dX7_best_288 rfl rfl (show nI (updN q.1 x z.1 x) = nI z.1 from by rw [updN_s]) (by omega) (by decide) ?_
    refine A_aload0 (pc := 289) dX7_best_289 ?_
    refine A_getf (pc := 290) flX7_29 dX7_best_290 rfl rfl ?_
    refine A_aload0 (pc := 293) dX7_best_293 ?_
    refine A_getf (pc := 294) flX7_136 dX7_best_294 rfl rfl ?_
    refine A_aload0 (pc := 297) dX7_best_297 ?_
    refine A_getf (pc := 298) flX7_80 dX7_best_298 rfl rfl ?_
    refine A_iload5 (pc := 301) dX7_best_301 ?_
    refine A_ialdN (pc := 303) (i := x) dX7_best_303 rfl rfl hx (by decide) ?_
    refine A_iastN (pc := 304) (i := s.1) (v := z.2) dX7_best_304 rfl rfl (show nI (updN q.2 x z.2 x) = nI z.2 from by rw [updN_s]) (by omega) (by decide) ?_
    refine A_aload0 (pc := 305) dX7_best_305 ?_
    refine A_dup (pc := 306) dX7_best_306 rfl ?_
    refine A_getf (pc := 307) flX7_136 dX7_best_307 rfl rfl ?_
    refine A_iconst (pc := 310) (v := 1) dX7_best_310 (by decide) ?_
    refine A_iadd (pc := 311) dX7_best_311 ?_
    rw [nI_1]
    refine A_putf (pc := 312) flX7_136 ft7_8 dX7_best_312 rfl (Nat.le_of_ble_eq_true rfl) (fun _ => ⟨rfl, rfl⟩) ?_
    refine AW.heq (hp' := MX c n p al ((s.1 + 1, updN s.2.1 s.1 z.1, updN s.2.2 s.1 z.2)) r w k a2 pl fr ((P, N, updN q.1 x z.1, updN q.2 x z.2)) rest) rfl ?_
    refine A_aload0 (pc := 315) dX7_best_315 ?_
    refine A_iload5 (pc := 316) dX7_best_316 ?_
    refine A_aload0 (pc := 318) dX7_best_318 ?_
    refine A_getf (pc := 319) flX7_77 dX7_best_319 rfl rfl ?_
    refine A_iload5 (pc := 322) dX7_best_322 ?_
    refine A_ialdN (pc := 324) (i := x) dX7_best_324 rfl rfl hx (by decide) ?_
    rw [show nI (updN q.1 x z.1 x) = nI z.1 from by rw [updN_s]]
    refine A_aload0 (pc := 325) dX7_best_325 ?_
    refine A_getf (pc := 326) flX7_80 dX7_best_326 rfl rfl ?_
    refine A_iload5 (pc := 329) dX7_best_329 ?_
    refine A_ialdN (pc := 331) (i := x) dX7_best_331 rfl rfl hx (by decide) ?_
    rw [show nI (updN q.2 x z.2 x) = nI z.2 from by rw [updN_s]]
    refine A_cvi (pc := 332) cvX7_185 (mp_from hl hnm hsg x z.1 z.2 hx (by omega) (by omega) (lo_45 hzm.2.1)) dX7_best_332 rfl rfl rfl rfl (Nat.le_of_ble_eq_true rfl) (by decide) (by decide) (by decide) ?_
    rw [show (frT n a2 x z.1 z.2).1 = some y from by rw [frT_1]; exact hy]
    refine A_istore5 (pc := 335) dX7_best_335 (by decide) ?_
    refine A_goto (pc := 337) (tgt := 220) dX7_best_337 (by decide) ?_
    exact ih y (s.1 + 1, updN s.2.1 s.1 z.1, updN s.2.2 s.1 z.2) _ _ _ _ _ hy9 hTB3 hch (by show s.1 + 1 + m ≤ 60; omega) hC

set_option maxHeartbeats 4000000 in
set_option maxRecDepth 100000 in
theorem mp_best0 {c : XV} {n : MN} {p : Nat → Nat} {al : Int32} {s : MS} {r : MR} {w : MW} {k : MK} {a : MA} {pl : MP} {fr : Nat → Nat} {t : MT} {rest : AH} (hK : n.1 ≤ 24) (x f y : Int32) (hno : isX n.1 x f = false ∨ hasI (nI n.1) y = false) : AS mX7_best 5 0 0 [.ref 25, .int x, .int f, .int y] (MX c n p al s r w k a pl fr t rest) (P1 (-1) (MX c n p al s r w k a pl fr t rest)) := by
  refine AS.go (lv := [some (.ref 25), some (.int x), some (.int f), some (.int y), none, none, none, none, none]) rfl ?_ (by decide +kernel) rfl (Nat.le_of_ble_eq_true rfl)
  refine A_aload0 (pc := 0) dX7_best_0 ?_
  refine A_iload1 (pc := 1) dX7_best_1 ?_
  refine A_iload2 (pc := 2) dX7_best_2 ?_
  refine A_cvi (pc := 3) cvX7_94 (mp_isExit hK _ _) dX7_best_3 rfl rfl rfl rfl (Nat.le_of_ble_eq_true rfl) (by decide) (by decide) (by decide) ?_
  refine A_if_eq (pc := 6) (tgt := 17) dX7_best_6 (by decide) (fun c6 => ?_) (fun c6 => ?_)
  · replace c6 := (bI_eq _).mp c6
    refine A_iconst (pc := 17) (v := -1) dX7_best_17 (by decide) ?_
    exact A_iret (pc := 18) dX7_best_18 rfl rfl (by decide) (by decide) (⟨rfl, rfl⟩)
  · replace c6 := (bI_ne _).mp c6
    refine A_aload0 (pc := 9) dX7_best_9 ?_
    refine A_iload3 (pc := 10) dX7_best_10 ?_
    refine A_cvi (pc := 11) cvX7_90 (mp_isKnot hK _) dX7_best_11 rfl rfl rfl rfl (Nat.le_of_ble_eq_true rfl) (by decide) (by decide) (by decide) ?_
    refine A_if_ne (pc := 14) (tgt := 19) dX7_best_14 (by decide) (fun c14 => ?_) (fun c14 => ?_)
    · replace c14 := (bI_ne _).mp c14
      exact hno.elim (fun q => absurd c6 (by show ¬ isX n.1 x f = true; rw [q]; decide)) (fun q => absurd c14 (by rw [q]; decide))
    · replace c14 := (bI_eq _).mp c14
      refine A_iconst (pc := 17) (v := -1) dX7_best_17 (by decide) ?_
      exact A_iret (pc := 18) dX7_best_18 rfl rfl (by decide) (by decide) (⟨rfl, rfl⟩)

set_option maxHeartbeats 4000000 in
set_option maxRecDepth 100000 in
theorem mp_best1 {c : XV} {n : MN} {p : Nat → Nat} {al : Int32} {s : MS} {r : MR} {w : MW} {k : MK} {a : MA} {pl : MP} {fr : Nat → Nat} {t : MT} {rest : AH} (hK : n.1 ≤ 24) (hl : VL n.2.2.1) (hnm : ∀ x, x < 96 → n.2.2.2 x < 2 ^ 31) (hsg : ∀ x, x < 24 → n.2.1 x < 2 ^ 31) (hp5 : ∀ q, q < 9 → p q ≤ 50) (kk ff T : Nat) (hkk : kk < n.1) (hff : ff < 4) (hT : T < n.1) {Bd : Nat} (hTB : TB Bd t) (hB : Bd + 1000000 < 2 ^ 30) (j : Nat) (hj : j ≤ 100) (hst : (bsW (nxT n) p al T n.1 (bsP (nxT n) p al T n.1 j (itT (b0T T) (4 * n.1) 0 t))).1 = false) (va : Int32) (sf : MS) (hfin : ∀ i, i ≤ j → (bsW (nxT n) p al T n.1 (bsP (nxT n) p al T n.1 i (itT (b0T T) (4 * n.1) 0 t))).1 = false → bsF (nxT n) p al T (4 * kk + ff) s va sf (bsW (nxT n) p al T n.1 (bsP (nxT n) p al T n.1 i (itT (b0T T) (4 * n.1) 0 t))).2) : AS mX7_best 5 0 0 [.ref 25, .int (nI kk), .int (nI ff), .int (nI T)] (MX c n p al s r w k a pl fr t rest) (Qbe va (Bd + 1000000) c n p al sf r w k pl fr rest) := by
  refine AS.go (lv := [some (.ref 25), some (.int (nI kk)), some (.int (nI ff)), some (.int (nI T)), none, none, none, none, none]) rfl ?_ (by decide +kernel) rfl (Nat.le_of_ble_eq_true rfl)
  refine A_aload0 (pc := 0) dX7_best_0 ?_
  refine A_iload1 (pc := 1) dX7_best_1 ?_
  refine A_iload2 (pc := 2) dX7_best_2 ?_
  refine A_cvi (pc := 3) cvX7_94 (mp_isExit hK _ _) dX7_best_3 rfl rfl rfl rfl (Nat.le_of_ble_eq_true rfl) (by decide) (by decide) (by decide) ?_
  have hh1 : hasI (nI n.1) (nI kk) = true := by unfold hasI; rw [if_neg (nI_pos (by omega)), if_neg (nI_ge hkk (by omega)), if_neg (show ¬ (24 : Int32) ≤ nI kk from nI_ge (b := 24) (by omega) (by decide))]
  have hh2 : exI (nI ff) = true := by unfold exI; rw [if_neg (nI_pos (by omega)), if_neg (show ¬ (4 : Int32) ≤ nI ff from nI_ge (b := 4) (by omega) (by decide))]
  have hh3 : hasI (nI n.1) (nI T) = true := by unfold hasI; rw [if_neg (nI_pos (by omega)), if_neg (nI_ge hT (by omega)), if_neg (show ¬ (24 : Int32) ≤ nI T from nI_ge (b := 24) (by omega) (by decide))]
  rw [if_pos hh1, hh2]
  refine A_if_eq (pc := 6) (tgt := 17) dX7_best_6 (by decide) (fun c6 => absurd c6 (by decide)) (fun c6 => ?_)
  refine A_aload0 (pc := 9) dX7_best_9 ?_
  refine A_iload3 (pc := 10) dX7_best_10 ?_
  refine A_cvi (pc := 11) cvX7_90 (mp_isKnot hK _) dX7_best_11 rfl rfl rfl rfl (Nat.le_of_ble_eq_true rfl) (by decide) (by decide) (by decide) ?_
  rw [hh3]
  refine A_if_ne (pc := 14) (tgt := 19) dX7_best_14 (by decide) (fun c14 => ?_) (fun c14 => absurd c14 (by decide))
  refine A_iconst (pc := 19) (v := 0) dX7_best_19 (by decide) ?_
  refine A_istore4 (pc := 20) dX7_best_20 (by decide) ?_
  refine mlp_be0 hK kk ff T (by omega) (4 * n.1) 0 t (by omega) (fun y4 => ?_)
  refine A_iconst (pc := 68) (v := 1) dX7_best_68 (by decide) ?_
  refine A_istore4 (pc := 69) dX7_best_69 (by decide) ?_
  refine A_iload4 (pc := 71) dX7_best_71 ?_
  refine A_if_eq (pc := 73) (tgt := 173) dX7_best_73 (by decide) (fun c73 => absurd c73 (by decide)) (fun c73 => ?_)
  refine mlp_be2 hK hl hnm hsg hp5 kk ff T (by omega) j Bd (itT (b0T T) (4 * n.1) 0 t) a _ _ _ _ _ (TB.b0s _ _ _ hTB) (by omega) hst (fun a2 i z4 z5 z6 z7 z8 hi h1 h2 => ?_)
  have hf := hfin i hi h1
  generalize hgT : (bsW (nxT n) p al T n.1 (bsP (nxT n) p al T n.1 i (itT (b0T T) (4 * n.1) 0 t))).2 = t2 at h2 hf ⊢
  obtain ⟨P, N, q⟩ := t2
  have hT3 : TB (Bd + 1000000) (P, N, q) := h2.mono (by omega)
  have hx9 : 4 * kk + ff < 96 := by omega
  have hxb := hT3 (4 * kk + ff) hx9
  have hx1 : P (4 * kk + ff) ≤ BIG + 50 := hxb.1
  have hx2 : N (4 * kk + ff) ≤ Bd + 1000000 := hxb.2.1
  have hB9 : BIG = 268435456 := rfl
  clear h1 hst hfin
  refine A_iconst (pc := 173) (v := 4) dX7_best_173 (by decide) ?_
  refine A_iload1 (pc := 174) dX7_best_174 ?_
  refine A_imul (pc := 175) dX7_best_175 ?_
  refine A_iload2 (pc := 176) dX7_best_176 ?_
  refine A_iadd (pc := 177) dX7_best_177 ?_
  rw [ix4]
  refine A_istore5 (pc := 178) dX7_best_178 (by decide) ?_
  refine A_aload0 (pc := 180) dX7_best_180 ?_
  refine A_getf (pc := 181) flX7_71 dX7_best_181 rfl rfl ?_
  refine A_iload5 (pc := 184) dX7_best_184 ?_
  refine A_ialdN (pc := 186) (i := (4 * kk + ff)) dX7_best_186 rfl rfl hx9 (by decide) ?_
  refine A_ldc (pc := 187) dX7_best_187 kcX7_161 ?_
  refine A_icmp_ge (pc := 189) (tgt := 204) dX7_best_189 (by decide) (fun c189 => ?_) (fun c189 => ?_)
  · have d1 : ¬ P (4 * kk + ff) < BIG := fun h => absurd c189 (show ¬ nI BIG ≤ nI (P (4 * kk + ff)) from nI_ge h (by decide))
    refine A_iconst (pc := 204) (v := -1) dX7_best_204 (by decide) ?_
    exact A_iret (pc := 205) dX7_best_205 rfl rfl (by decide) (by decide) (by rcases hf with ⟨h5, h6, _⟩ | ⟨_, hva, hsf⟩; (· exact absurd h5 d1); (· exact ⟨by rw [hva], a2, (P, N, q), hT3, by rw [hsf]⟩))
  · have d1 : P (4 * kk + ff) < BIG := Nat.lt_of_not_le (fun h => c189 (show nI BIG ≤ nI (P (4 * kk + ff)) from nI_le h (by omega)))
    refine A_aload0 (pc := 192) dX7_best_192 ?_
    refine A_getf (pc := 193) flX7_74 dX7_best_193 rfl rfl ?_
    refine A_iload5 (pc := 196) dX7_best_196 ?_
    refine A_ialdN (pc := 198) (i := (4 * kk + ff)) dX7_best_198 rfl rfl hx9 (by decide) ?_
    refine A_bipush (pc := 199) (v := 60) dX7_best_199 (by decide) ?_
    refine A_icmp_le (pc := 201) (tgt := 206) dX7_best_201 (by decide) (fun c201 => ?_) (fun c201 => ?_)
    · have d2 : N (4 * kk + ff) ≤ 60 := (nI_leI (by omega) (by decide)).mp c201
      refine A_aload0 (pc := 206) dX7_best_206 ?_
      refine A_getf (pc := 207) flX7_71 dX7_best_207 rfl rfl ?_
      refine A_iload5 (pc := 210) dX7_best_210 ?_
      refine A_ialdN (pc := 212) (i := (4 * kk + ff)) dX7_best_212 rfl rfl hx9 (by decide) ?_
      refine A_istore6 (pc := 213) dX7_best_213 (by decide) ?_
      refine A_aload0 (pc := 215) dX7_best_215 ?_
      refine A_iconst (pc := 216) (v := 0) dX7_best_216 (by decide) ?_
      refine A_putf (pc := 217) flX7_136 ft7_8 dX7_best_217 rfl (Nat.le_of_ble_eq_true rfl) (fun _ => ⟨rfl, rfl⟩) ?_
      refine AW.heq (hp' := MX c n p al ((0, s.2)) r w k a2 pl fr ((P, N, q)) rest) rfl ?_
      rcases hf with ⟨_, _, m, hm, hch, hva, hsf⟩ | ⟨hno, _⟩
      · refine mlp_be3 hl hnm hsg hp5 kk ff T (by omega) _ hB m (4 * kk + ff) (0, s.2) q a2 _ _ _ hx9 hT3 hch (by show 0 + m ≤ 60; omega) (fun a3 q3 u5 u7 u8 h3 => ?_)
        rw [← show sf = blS (nxT n) p al P N m (4 * kk + ff) (0, s.2) from hsf]
        refine A_iload6 (pc := 340) dX7_best_340 ?_
        exact A_iret (pc := 342) dX7_best_342 rfl rfl (by decide) (by decide) (⟨by rw [hva], a3, (P, N, q3), h3, rfl⟩)
      · exact absurd ⟨d1, d2⟩ hno
    · have d2 : ¬ N (4 * kk + ff) ≤ 60 := fun h => c201 (show nI (N (4 * kk + ff)) ≤ nI 60 from nI_le h (by decide))
      refine A_iconst (pc := 204) (v := -1) dX7_best_204 (by decide) ?_
      exact A_iret (pc := 205) dX7_best_205 rfl rfl (by decide) (by decide) (by rcases hf with ⟨h5, h6, _⟩ | ⟨_, hva, hsf⟩; (· exact absurd h6 d2); (· exact ⟨by rw [hva], a2, (P, N, q), hT3, by rw [hsf]⟩))
