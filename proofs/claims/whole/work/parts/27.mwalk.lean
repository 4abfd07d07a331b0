/-! the model: walk, tells, holds, still -/
theorem tnT_ok {ld : Nat → Option Nat} (hl : VL ld) {turn : Nat} (m : Nat) : ∀ {left : Nat} {a : MA}, okA a → okA (tnT ld turn m left a).2 := by
  induction m with
  | zero => intro left a h; exact h
  | succ m ih =>
    intro left a h
    unfold tnT
    generalize (if hsT ld a turn = true then left - 1 else left) = l2
    split
    · exact (gbT_ok hl h (Nat.mod_lt _ (by decide))).1
    · split
      · exact ih (gbT_ok hl h h.2.1).1
      · exact (gbT_ok hl h h.2.1).1
theorem unT_ok {n : MN} (hl : VL n.2.2.1) {nb : Nat} (m : Nat) : ∀ {left : Nat} {a : MA}, okA a → okA (unT n nb m left a).2 := by
  induction m with
  | zero => intro left a h; exact h
  | succ m ih =>
    intro left a h
    have h1 := (gbT_ok hl h h.2.1).1
    unfold unT
    split
    · split
      · split
        · exact h1
        · exact ih h1
      · exact ih h1
    · exact h1
theorem edT_ok {ld : Nat → Option Nat} (hl : VL ld) (m : Nat) : ∀ {a : MA}, okA a → okA (edT ld m a).2 := by
  induction m with
  | zero => intro a h; exact h
  | succ m ih =>
    intro a h
    have h1 := (gbT_ok hl h h.2.1).1
    unfold edT
    split
    · split
      · exact ih h1
      · exact h1
    · exact h1
theorem gnT_ok {n : MN} (hl : VL n.2.2.1) {a : MA} (ha : okA a) {name : Nat} (m : Nat) : ∀ {i : Nat} {fo : Option Nat}, (∀ e, fo = some e → e < 4) → okA (gnT n a name m i fo).2 := by
  induction m with
  | zero =>
    intro i fo hf
    cases fo with
    | none => exact ha
    | some e => exact (gbT_ok hl ha (hf e rfl)).1
  | succ m ih =>
    intro i fo hf
    unfold gnT
    split
    · exact ih hf
    · split
      · split
        · cases fo with
          | none => exact ih (fun e h => by cases h; omega)
          | some e => exact ha
        · exact ih hf
      · exact ih hf
theorem dsT_ok {n : MN} (hl : VL n.2.2.1) {a : MA} (h1 : a.1 < 24) (h2 : a.2.1 < 4) (kd nb ps : Nat) : okA (dsT n a kd nb ps).2 := by
  have h0 : okA (zA a) := ⟨h1, h2, Nat.zero_le 30⟩
  unfold dsT
  split
  · exact (gbT_ok hl h0 (by omega)).1
  · split
    · exact gnT_ok hl h0 4 (fun e h => by cases h)
    · split
      · exact tnT_ok hl 31 h0
      · split
        · exact edT_ok hl 31 h0
        · exact unT_ok hl 31 h0
theorem cpT_many (path : Nat → Nat) (m : Nat) : ∀ (p : Nat) (w : MW), (cpT path m p w).2.2.2.1 = w.2.2.2.1 + m := by
  induction m with
  | zero => intro p w; rfl
  | succ m ih => intro p w; unfold cpT; rw [ih]; show w.2.2.2.1 + 1 + m = _; omega
def wkF (r : Option Nat × MA × MW) : MW := (r.2.2.1, r.2.1.1, r.2.1.2.1, r.2.2.2.2.2)
def wkA (r : Option Nat × MA × MW) : Int32 := match r.1 with
  | none => nI r.2.1.1
  | some i => -2 - nI i
def cmT (path g : Nat → Nat) (o : Nat) : Nat → Nat → Bool
  | 0, _ => true
  | m + 1, p => if path p = g (o + p) then cmT path g o m (p + 1) else false
def teT (n : MN) (g : Nat → Nat) (f0 M : Nat) (kd nb : Nat → Nat) (fi : Nat) : Nat → Nat → Nat → MA → Bool × MA
  | 0, _, at_, a => (decide (at_ = M), a)
  | m + 1, i, at_, a => if (dsT n a (kd (fi + i)) (nb (fi + i)) 0).1 = true then (if at_ + (dsT n a (kd (fi + i)) (nb (fi + i)) 0).2.2.2.1 ≤ M then (if cmT (dsT n a (kd (fi + i)) (nb (fi + i)) 0).2.2.2.2 g (f0 + at_) (dsT n a (kd (fi + i)) (nb (fi + i)) 0).2.2.2.1 0 = true then teT n g f0 M kd nb fi m (i + 1) (at_ + (dsT n a (kd (fi + i)) (nb (fi + i)) 0).2.2.2.1) (dsT n a (kd (fi + i)) (nb (fi + i)) 0).2 else (false, (dsT n a (kd (fi + i)) (nb (fi + i)) 0).2)) else (false, (dsT n a (kd (fi + i)) (nb (fi + i)) 0).2)) else (false, (dsT n a (kd (fi + i)) (nb (fi + i)) 0).2)
def teR (n : MN) (g : Nat → Nat) (f0 M : Nat) (kd nb : Nat → Nat) (fi S k f : Nat) (a : MA) (pl : MP) : Bool × MA × MP := if (foP n.2.2.1 g f0 M k f pl).1 = true then ((teT n g f0 M kd nb fi S 0 0 (k, f, a.2.2)).1, (teT n g f0 M kd nb fi S 0 0 (k, f, a.2.2)).2, (foP n.2.2.1 g f0 M k f pl).2) else (false, a, (foP n.2.2.1 g f0 M k f pl).2)

set_option maxHeartbeats 4000000 in
set_option maxRecDepth 100000 in
theorem mlp_cp {c : XV} {n : MN} {p : Nat → Nat} {al : Int32} {s : MS} {r : MR} {k : MK} {a : MA} {pl : MP} {fr : Nat → Nat} {t : MT} {rest : AH} {post : Post} (x f en : Int32) (i : Nat) (ha : a.2.2.1 ≤ 30) (m : Nat) : ∀ (p9 : Nat) (w : MW) (_ : p9 + m = a.2.2.1) (_ : w.2.2.2.1 + m < 2 ^ 30) (_ : AW mX7_walk 3 0 0 0 0 132 [some (.ref 25), some (.int x), some (.int f), some (.int en), some (.int (nI i)), some (.int (nI a.2.2.1))] [] (MX c n p al s r (cpT a.2.2.2 m p9 w) k a pl fr t rest) post), AW mX7_walk 3 0 0 0 0 81 [some (.ref 25), some (.int x), some (.int f), some (.int en), some (.int (nI i)), some (.int (nI p9))] [] (MX c n p al s r w k a pl fr t rest) (post) := by
  induction m with
  | zero =>
    intro p9 w hp hw hR
    refine A_iload5 (pc := 81) dX7_walk_81 ?_
    refine A_aload0 (pc := 83) dX7_walk_83 ?_
    refine A_getf (pc := 84) flX7_118 dX7_walk_84 rfl rfl ?_
    refine A_icmp_ge (pc := 87) (tgt := 132) dX7_walk_87 (by decide) (fun c87 => ?_) (fun c87 => absurd (show nI a.2.2.1 ≤ nI p9 from nI_le (by omega) (by omega)) c87)
    have e9 : p9 = a.2.2.1 := by omega
    subst e9
    exact hR
  | succ m ih =>
    intro p9 w hp hw hR
    refine A_iload5 (pc := 81) dX7_walk_81 ?_
    refine A_aload0 (pc := 83) dX7_walk_83 ?_
    refine A_getf (pc := 84) flX7_118 dX7_walk_84 rfl rfl ?_
    refine A_icmp_ge (pc := 87) (tgt := 132) dX7_walk_87 (by decide) (fun c87 => absurd c87 (show ¬ nI a.2.2.1 ≤ nI p9 from nI_ge (by omega) (by omega))) (fun c87 => ?_)
    refine A_aload0 (pc := 90) dX7_walk_90 ?_
    refine A_getf (pc := 91) flX7_142 dX7_walk_91 rfl rfl ?_
    refine A_sipush (pc := 94) (v := 200) dX7_walk_94 (by decide) ?_
    refine A_icmp_ge (pc := 97) (tgt := 116) dX7_walk_97 (by decide) (fun c97 => ?_) (fun c97 => ?_)
    · have d97 : ¬ w.2.2.2.1 < 200 := fun q => (show ¬ nI 200 ≤ nI w.2.2.2.1 from nI_ge q (by decide)) c97
      refine A_aload0 (pc := 116) dX7_walk_116 ?_
      refine A_dup (pc := 117) dX7_walk_117 rfl ?_
      refine A_getf (pc := 118) flX7_142 dX7_walk_118 rfl rfl ?_
      refine A_iconst (pc := 121) (v := 1) dX7_walk_121 (by decide) ?_
      refine A_iadd (pc := 122) dX7_walk_122 ?_
      rw [nI_1]
      refine A_putf (pc := 123) flX7_142 ft7_17 dX7_walk_123 rfl (Nat.le_of_ble_eq_true rfl) (fun _ => ⟨rfl, rfl⟩) ?_
      refine A_iinc5 (pc := 126) dX7_walk_126 (by decide) (nI_1 p9) ?_
      refine A_goto (pc := 129) (tgt := 81) dX7_walk_129 (by decide) ?_
      refine ih (p9 + 1) (w.1, w.2.1, w.2.2.1, w.2.2.2.1 + 1, w.2.2.2.2) (by omega) (by show w.2.2.2.1 + 1 + m < 2 ^ 30; omega) ?_
      have e9 := hR
      simp only [cpT, d97, if_true, if_false] at e9
      exact e9
    · have d97 : w.2.2.2.1 < 200 := Nat.not_le.mp (fun q => c97 (show nI 200 ≤ nI w.2.2.2.1 from nI_le q (by omega)))
      refine A_aload0 (pc := 100) dX7_walk_100 ?_
      refine A_getf (pc := 101) flX7_35 dX7_walk_101 rfl rfl ?_
      refine A_aload0 (pc := 104) dX7_walk_104 ?_
      refine A_getf (pc := 105) flX7_142 dX7_walk_105 rfl rfl ?_
      refine A_aload0 (pc := 108) dX7_walk_108 ?_
      refine A_getf (pc := 109) flX7_59 dX7_walk_109 rfl rfl ?_
      refine A_iload5 (pc := 112) dX7_walk_112 ?_
      refine A_ialdN (pc := 114) (i := p9) dX7_walk_114 rfl rfl (by omega) (by decide) ?_
      refine A_iastN (pc := 115) (i := w.2.2.2.1) (v := (a.2.2.2 p9)) dX7_walk_115 rfl rfl rfl d97 (by decide) ?_
      refine A_aload0 (pc := 116) dX7_walk_116 ?_
      refine A_dup (pc := 117) dX7_walk_117 rfl ?_
      refine A_getf (pc := 118) flX7_142 dX7_walk_118 rfl rfl ?_
      refine A_iconst (pc := 121) (v := 1) dX7_walk_121 (by decide) ?_
      refine A_iadd (pc := 122) dX7_walk_122 ?_
      rw [nI_1]
      refine A_putf (pc := 123) flX7_142 ft7_17 dX7_walk_123 rfl (Nat.le_of_ble_eq_true rfl) (fun _ => ⟨rfl, rfl⟩) ?_
      refine A_iinc5 (pc := 126) dX7_walk_126 (by decide) (nI_1 p9) ?_
      refine A_goto (pc := 129) (tgt := 81) dX7_walk_129 (by decide) ?_
      refine ih (p9 + 1) (w.1, w.2.1, w.2.2.1, w.2.2.2.1 + 1, updN w.2.2.2.2 w.2.2.2.1 (a.2.2.2 p9)) (by omega) (by show w.2.2.2.1 + 1 + m < 2 ^ 30; omega) ?_
      have e9 := hR
      simp only [cpT, d97, if_true, if_false] at e9
      exact e9

theorem edI_ne {i : Nat} (h : i < 2 ^ 30) : ¬ edI (some i) = -1 := fun e => by
  have h1 := congrArg Int32.toInt e
  rw [show edI (some i) = -2 - nI i from rfl, Int32.toInt_sub, nI_toInt (by omega)] at h1
  have e2 : (-2 : Int32).toInt = -2 := by decide
  have e3 : (-1 : Int32).toInt = -1 := by decide
  rw [e2, e3] at h1
  rw [Int.bmod_eq_of_le (by omega) (by omega)] at h1
  omega
set_option maxHeartbeats 4000000 in
set_option maxRecDepth 100000 in
theorem mlp_wz {c : XV} {n : MN} {p : Nat → Nat} {al : Int32} {s : MS} {r : MR} {w : MW} {k : MK} {a : MA} {pl : MP} {fr : Nat → Nat} {t : MT} {rest : AH} (x f : Int32) (v : Option Nat) (hv : ∀ i, v = some i → i < 2 ^ 30) (x4 x5 : Option Value) : AW mX7_walk 3 0 0 0 0 138 [some (.ref 25), some (.int x), some (.int f), some (.int (edI v)), x4, x5] [] (MX c n p al s r w k a pl fr t rest) (P1 (wkA (v, a, w)) (MX c n p al s r (wkF (v, a, w)) k a pl fr t rest)) := by
  cases v with
  | none =>
    refine A_aload0 (pc := 138) dX7_walk_138 ?_
    refine A_aload0 (pc := 139) dX7_walk_139 ?_
    refine A_getf (pc := 140) flX7_115 dX7_walk_140 rfl rfl ?_
    refine A_putf (pc := 143) flX7_148 ft7_15 dX7_walk_143 rfl (Nat.le_of_ble_eq_true rfl) (fun _ => ⟨rfl, rfl⟩) ?_
    refine A_aload0 (pc := 146) dX7_walk_146 ?_
    refine A_aload0 (pc := 147) dX7_walk_147 ?_
    refine A_getf (pc := 148) flX7_121 dX7_walk_148 rfl rfl ?_
    refine A_putf (pc := 151) flX7_151 ft7_16 dX7_walk_151 rfl (Nat.le_of_ble_eq_true rfl) (fun _ => ⟨rfl, rfl⟩) ?_
    refine A_iload3 (pc := 154) dX7_walk_154 ?_
    refine A_iconst (pc := 155) (v := -1) dX7_walk_155 (by decide) ?_
    refine A_icmp_ne (pc := 156) (tgt := 166) dX7_walk_156 (by decide) (fun c156 => absurd rfl c156) (fun c156 => ?_)
    refine A_aload0 (pc := 159) dX7_walk_159 ?_
    refine A_getf (pc := 160) flX7_115 dX7_walk_160 rfl rfl ?_
    refine A_goto (pc := 163) (tgt := 167) dX7_walk_163 (by decide) ?_
    exact A_iret (pc := 167) dX7_walk_167 rfl rfl (by decide) (by decide) (⟨rfl, rfl⟩)
  | some i =>
    refine A_aload0 (pc := 138) dX7_walk_138 ?_
    refine A_aload0 (pc := 139) dX7_walk_139 ?_
    refine A_getf (pc := 140) flX7_115 dX7_walk_140 rfl rfl ?_
    refine A_putf (pc := 143) flX7_148 ft7_15 dX7_walk_143 rfl (Nat.le_of_ble_eq_true rfl) (fun _ => ⟨rfl, rfl⟩) ?_
    refine A_aload0 (pc := 146) dX7_walk_146 ?_
    refine A_aload0 (pc := 147) dX7_walk_147 ?_
    refine A_getf (pc := 148) flX7_121 dX7_walk_148 rfl rfl ?_
    refine A_putf (pc := 151) flX7_151 ft7_16 dX7_walk_151 rfl (Nat.le_of_ble_eq_true rfl) (fun _ => ⟨rfl, rfl⟩) ?_
    refine A_iload3 (pc := 154) dX7_walk_154 ?_
    refine A_iconst (pc := 155) (v := -1) dX7_walk_155 (by decide) ?_
    refine A_icmp_ne (pc := 156) (tgt := 166) dX7_walk_156 (by decide) (fun c156 => ?_) (fun c156 => absurd c156 (edI_ne (hv i rfl)))
    refine A_iload3 (pc := 166) dX7_walk_166 ?_
    exact A_iret (pc := 167) dX7_walk_167 rfl rfl (by decide) (by decide) (⟨rfl, rfl⟩)

set_option maxHeartbeats 4000000 in
set_option maxRecDepth 100000 in
theorem mlp_wk {c : XV} {n : MN} {p : Nat → Nat} {al : Int32} {s : MS} {r : MR} {k : MK} {pl : MP} {fr : Nat → Nat} {t : MT} {rest : AH} (hl : VL n.2.2.1) (hnm : ∀ x, x < 96 → n.2.2.2 x < 2 ^ 31) (hsg : ∀ x, x < 24 → n.2.1 x < 2 ^ 31) (hs : VS s) (x f : Int32) (m : Nat) : ∀ (i : Nat) (a : MA) (w : MW) (_ : i + m = s.1) (_ : a.1 < 24) (_ : a.2.1 < 4) (_ : w.2.2.2.1 ≤ 30 * i) (x5 : Option Value), AW mX7_walk 3 0 0 0 0 36 [some (.ref 25), some (.int x), some (.int f), some (.int (-1)), some (.int (nI i)), x5] [] (MX c n p al s r w k a pl fr t rest) (P1 (wkA (wkT n s m i (a, w))) (MX c n p al s r (wkF (wkT n s m i (a, w))) k ((wkT n s m i (a, w)).2.1) pl fr t rest)) := by
  induction m with
  | zero =>
    intro i a w hi h1 h2 hw x5
    refine A_iload4 (pc := 36) dX7_walk_36 ?_
    refine A_aload0 (pc := 38) dX7_walk_38 ?_
    refine A_getf (pc := 39) flX7_136 dX7_walk_39 rfl rfl ?_
    refine A_icmp_ge (pc := 42) (tgt := 138) dX7_walk_42 (by decide) (fun c42 => ?_) (fun c42 => absurd (show nI s.1 ≤ nI i from nI_le (by omega) (by have := hs.1; omega)) c42)
    exact mlp_wz x f none (fun j h => by cases h) _ _
  | succ m ih =>
    intro i a w hi h1 h2 hw x5
    have hs60 := hs.1
    cases hd : (dsT n a (s.2.1 i) (s.2.2 i) 0).1 with
    | true =>
      refine A_iload4 (pc := 36) dX7_walk_36 ?_
      refine A_aload0 (pc := 38) dX7_walk_38 ?_
      refine A_getf (pc := 39) flX7_136 dX7_walk_39 rfl rfl ?_
      refine A_icmp_ge (pc := 42) (tgt := 138) dX7_walk_42 (by decide) (fun c42 => absurd c42 (show ¬ nI s.1 ≤ nI i from nI_ge (by omega) (by have := hs.1; omega))) (fun c42 => ?_)
      refine A_iload3 (pc := 45) dX7_walk_45 ?_
      refine A_iconst (pc := 46) (v := -1) dX7_walk_46 (by decide) ?_
      refine A_icmp_ne (pc := 47) (tgt := 138) dX7_walk_47 (by decide) (fun c47 => absurd rfl c47) (fun c47 => ?_)
      refine A_aload0 (pc := 50) dX7_walk_50 ?_
      refine A_aload0 (pc := 51) dX7_walk_51 ?_
      refine A_getf (pc := 52) flX7_26 dX7_walk_52 rfl rfl ?_
      refine A_iload4 (pc := 55) dX7_walk_55 ?_
      refine A_ialdN (pc := 57) (i := i) dX7_walk_57 rfl rfl (by have := hs.1; omega) (by decide) ?_
      refine A_aload0 (pc := 58) dX7_walk_58 ?_
      refine A_getf (pc := 59) flX7_29 dX7_walk_59 rfl rfl ?_
      refine A_iload4 (pc := 62) dX7_walk_62 ?_
      refine A_ialdN (pc := 64) (i := i) dX7_walk_64 rfl rfl (by have := hs.1; omega) (by decide) ?_
      refine A_iconst (pc := 65) (v := 0) dX7_walk_65 (by decide) ?_
      refine A_cvi (pc := 66) cvX7_145 (mp_does hl hnm hsg h1 h2 (s.2.1 i) (s.2.2 i) 0 (hs.2 i (by omega)).1 (by have := (hs.2 i (by omega)).2.1; omega) (hs.2 i (by omega)).2.2 (by decide)) dX7_walk_66 rfl rfl rfl rfl (Nat.le_of_ble_eq_true rfl) (by decide) (by decide) (by decide) ?_
      refine A_if_ne (pc := 69) (tgt := 78) dX7_walk_69 (by decide) (fun c69 => ?_) (fun c69 => absurd c69 (by rw [hd]; decide))
      refine A_iconst (pc := 78) (v := 0) dX7_walk_78 (by decide) ?_
      refine A_istore5 (pc := 79) dX7_walk_79 (by decide) ?_
      have hd9 := dsT_ok hl h1 h2 (s.2.1 i) (s.2.2 i) 0
      refine mlp_cp x f (-1) i hd9.2.2 (dsT n a (s.2.1 i) (s.2.2 i) 0).2.2.2.1 0 w (by omega) (by have := hd9.2.2; omega) ?_
      refine A_iinc4 (pc := 132) dX7_walk_132 (by decide) (nI_1 i) ?_
      refine A_goto (pc := 135) (tgt := 36) dX7_walk_135 (by decide) ?_
      rw [show wkT n s (m + 1) i (a, w) = wkT n s m (i + 1) ((dsT n a (s.2.1 i) (s.2.2 i) 0).2, cpT (dsT n a (s.2.1 i) (s.2.2 i) 0).2.2.2.2 (dsT n a (s.2.1 i) (s.2.2 i) 0).2.2.2.1 0 w) from if_pos hd]
      exact ih (i + 1) (dsT n a (s.2.1 i) (s.2.2 i) 0).2 (cpT (dsT n a (s.2.1 i) (s.2.2 i) 0).2.2.2.2 (dsT n a (s.2.1 i) (s.2.2 i) 0).2.2.2.1 0 w) (by omega) hd9.1 hd9.2.1 (by rw [cpT_many]; have := hd9.2.2; omega) _
    | false =>
      refine A_iload4 (pc := 36) dX7_walk_36 ?_
      refine A_aload0 (pc := 38) dX7_walk_38 ?_
      refine A_getf (pc := 39) flX7_136 dX7_walk_39 rfl rfl ?_
      refine A_icmp_ge (pc := 42) (tgt := 138) dX7_walk_42 (by decide) (fun c42 => absurd c42 (show ¬ nI s.1 ≤ nI i from nI_ge (by omega) (by have := hs.1; omega))) (fun c42 => ?_)
      refine A_iload3 (pc := 45) dX7_walk_45 ?_
      refine A_iconst (pc := 46) (v := -1) dX7_walk_46 (by decide) ?_
      refine A_icmp_ne (pc := 47) (tgt := 138) dX7_walk_47 (by decide) (fun c47 => absurd rfl c47) (fun c47 => ?_)
      refine A_aload0 (pc := 50) dX7_walk_50 ?_
      refine A_aload0 (pc := 51) dX7_walk_51 ?_
      refine A_getf (pc := 52) flX7_26 dX7_walk_52 rfl rfl ?_
      refine A_iload4 (pc := 55) dX7_walk_55 ?_
      refine A_ialdN (pc := 57) (i := i) dX7_walk_57 rfl rfl (by have := hs.1; omega) (by decide) ?_
      refine A_aload0 (pc := 58) dX7_walk_58 ?_
      refine A_getf (pc := 59) flX7_29 dX7_walk_59 rfl rfl ?_
      refine A_iload4 (pc := 62) dX7_walk_62 ?_
      refine A_ialdN (pc := 64) (i := i) dX7_walk_64 rfl rfl (by have := hs.1; omega) (by decide) ?_
      refine A_iconst (pc := 65) (v := 0) dX7_walk_65 (by decide) ?_
      refine A_cvi (pc := 66) cvX7_145 (mp_does hl hnm hsg h1 h2 (s.2.1 i) (s.2.2 i) 0 (hs.2 i (by omega)).1 (by have := (hs.2 i (by omega)).2.1; omega) (hs.2 i (by omega)).2.2 (by decide)) dX7_walk_66 rfl rfl rfl rfl (Nat.le_of_ble_eq_true rfl) (by decide) (by decide) (by decide) ?_
      refine A_if_ne (pc := 69) (tgt := 78) dX7_walk_69 (by decide) (fun c69 => absurd (by rw [hd]; rfl) c69) (fun c69 => ?_)
      refine A_bipush (pc := 72) (v := -2) dX7_walk_72 (by decide) ?_
      refine A_iload4 (pc := 74) dX7_walk_74 ?_
      refine A_isub (pc := 76) dX7_walk_76 ?_
      refine A_istore3 (pc := 77) dX7_walk_77 (by decide) ?_
      refine A_iconst (pc := 78) (v := 0) dX7_walk_78 (by decide) ?_
      refine A_istore5 (pc := 79) dX7_walk_79 (by decide) ?_
      have hd9 := dsT_ok hl h1 h2 (s.2.1 i) (s.2.2 i) 0
      refine mlp_cp x f (edI (some i)) i hd9.2.2 (dsT n a (s.2.1 i) (s.2.2 i) 0).2.2.2.1 0 w (by omega) (by have := hd9.2.2; omega) ?_
      refine A_iinc4 (pc := 132) dX7_walk_132 (by decide) (nI_1 i) ?_
      refine A_goto (pc := 135) (tgt := 36) dX7_walk_135 (by decide) ?_
      rw [show wkT n s (m + 1) i (a, w) = (some i, ((dsT n a (s.2.1 i) (s.2.2 i) 0).2, cpT (dsT n a (s.2.1 i) (s.2.2 i) 0).2.2.2.2 (dsT n a (s.2.1 i) (s.2.2 i) 0).2.2.2.1 0 w)) from if_neg (by rw [hd]; decide)]
      by_cases hlast : s.1 ≤ i + 1
      · refine A_iload4 (pc := 36) dX7_walk_36 ?_
        refine A_aload0 (pc := 38) dX7_walk_38 ?_
        refine A_getf (pc := 39) flX7_136 dX7_walk_39 rfl rfl ?_
        refine A_icmp_ge (pc := 42) (tgt := 138) dX7_walk_42 (by decide) (fun c42 => ?_) (fun c42 => absurd (show nI s.1 ≤ nI (i + 1) from nI_le hlast (by omega)) c42)
        exact mlp_wz x f (some i) (fun j h => by cases h; omega) _ _
      · refine A_iload4 (pc := 36) dX7_walk_36 ?_
        refine A_aload0 (pc := 38) dX7_walk_38 ?_
        refine A_getf (pc := 39) flX7_136 dX7_walk_39 rfl rfl ?_
        refine A_icmp_ge (pc := 42) (tgt := 138) dX7_walk_42 (by decide) (fun c42 => absurd c42 (show ¬ nI s.1 ≤ nI (i + 1) from nI_ge (by omega) (by have := hs.1; omega))) (fun c42 => ?_)
        refine A_iload3 (pc := 45) dX7_walk_45 ?_
        refine A_iconst (pc := 46) (v := -1) dX7_walk_46 (by decide) ?_
        refine A_icmp_ne (pc := 47) (tgt := 138) dX7_walk_47 (by decide) (fun c47 => ?_) (fun c47 => absurd c47 (edI_ne (by omega)))
        exact mlp_wz x f (some i) (fun j h => by cases h; omega) _ _

set_option maxHeartbeats 4000000 in
set_option maxRecDepth 100000 in
theorem mp_walk {c : XV} {n : MN} {p : Nat → Nat} {al : Int32} {s : MS} {r : MR} {w : MW} {k : MK} {a : MA} {pl : MP} {fr : Nat → Nat} {t : MT} {rest : AH} (hK : n.1 ≤ 24) (hl : VL n.2.2.1) (hnm : ∀ x, x < 96 → n.2.2.2 x < 2 ^ 31) (hsg : ∀ x, x < 24 → n.2.1 x < 2 ^ 31) (hs : VS s) (x f : Int32) : AS mX7_walk 3 0 0 [.ref 25, .int x, .int f] (MX c n p al s r w k a pl fr t rest) (P1 (if isX n.1 x f = true then wkA (wkT n s s.1 0 ((tN x, tN f, a.2.2), (true, w.2.1, w.2.2.1, 0, w.2.2.2.2))) else -1) (MX c n p al s r (if isX n.1 x f = true then wkF (wkT n s s.1 0 ((tN x, tN f, a.2.2), (true, w.2.1, w.2.2.1, 0, w.2.2.2.2))) else w) k (if isX n.1 x f = true then (wkT n s s.1 0 ((tN x, tN f, a.2.2), (true, w.2.1, w.2.2.1, 0, w.2.2.2.2))).2.1 else a) pl fr t rest)) := by
  refine AS.go (lv := [some (.ref 25), some (.int x), some (.int f), none, none, none]) rfl ?_ (by decide +kernel) rfl (Nat.le_of_ble_eq_true rfl)
  cases hh : isX n.1 x f with
  | false =>
    refine A_aload0 (pc := 0) dX7_walk_0 ?_
    refine A_iload1 (pc := 1) dX7_walk_1 ?_
    refine A_iload2 (pc := 2) dX7_walk_2 ?_
    refine A_cvi (pc := 3) cvX7_94 (mp_isExit hK _ _) dX7_walk_3 rfl rfl rfl rfl (Nat.le_of_ble_eq_true rfl) (by decide) (by decide) (by decide) ?_
    refine A_if_ne (pc := 6) (tgt := 11) dX7_walk_6 (by decide) (fun c6 => absurd (show bI (isX n.1 x f) = 0 from by rw [hh]; rfl) c6) (fun c6 => ?_)
    refine A_iconst (pc := 9) (v := -1) dX7_walk_9 (by decide) ?_
    exact A_iret (pc := 10) dX7_walk_10 rfl rfl (by decide) (by decide) (⟨rfl, rfl⟩)
  | true =>
    obtain ⟨e1, e5, e3, e4⟩ := isX_nat hK hh
    obtain ⟨x2, hx2⟩ : ∃ j, j = tN x := ⟨_, rfl⟩
    obtain ⟨f2, hf2⟩ : ∃ j, j = tN f := ⟨_, rfl⟩
    rw [← hx2] at e1 e5
    rw [← hf2] at e3 e4
    subst e1
    subst e3
    rw [show tN (nI x2) = x2 from nI_clamp (by omega), show tN (nI f2) = f2 from nI_clamp (by omega)]
    simp only [if_true]
    refine A_aload0 (pc := 0) dX7_walk_0 ?_
    refine A_iload1 (pc := 1) dX7_walk_1 ?_
    refine A_iload2 (pc := 2) dX7_walk_2 ?_
    refine A_cvi (pc := 3) cvX7_94 (mp_isExit hK _ _) dX7_walk_3 rfl rfl rfl rfl (Nat.le_of_ble_eq_true rfl) (by decide) (by decide) (by decide) ?_
    refine A_if_ne (pc := 6) (tgt := 11) dX7_walk_6 (by decide) (fun c6 => ?_) (fun c6 => absurd c6 (show ¬ bI (isX n.1 (nI x2) (nI f2)) = 0 from by rw [hh]; decide))
    refine A_aload0 (pc := 11) dX7_walk_11 ?_
    refine A_iconst (pc := 12) (v := 1) dX7_walk_12 (by decide) ?_
    refine A_putf (pc := 13) flX7_139 ft7_14 dX7_walk_13 rfl (Nat.le_of_ble_eq_true rfl) (fun _ => ⟨rfl, rfl⟩) ?_
    refine A_aload0 (pc := 16) dX7_walk_16 ?_
    refine A_iconst (pc := 17) (v := 0) dX7_walk_17 (by decide) ?_
    refine A_putf (pc := 18) flX7_142 ft7_17 dX7_walk_18 rfl (Nat.le_of_ble_eq_true rfl) (fun _ => ⟨rfl, rfl⟩) ?_
    refine A_aload0 (pc := 21) dX7_walk_21 ?_
    refine A_iload1 (pc := 22) dX7_walk_22 ?_
    refine A_putf (pc := 23) flX7_115 ft7_27 dX7_walk_23 rfl (Nat.le_of_ble_eq_true rfl) (fun _ => ⟨rfl, rfl⟩) ?_
    refine A_aload0 (pc := 26) dX7_walk_26 ?_
    refine A_iload2 (pc := 27) dX7_walk_27 ?_
    refine A_putf (pc := 28) flX7_121 ft7_28 dX7_walk_28 rfl (Nat.le_of_ble_eq_true rfl) (fun _ => ⟨rfl, rfl⟩) ?_
    refine A_iconst (pc := 31) (v := -1) dX7_walk_31 (by decide) ?_
    refine A_istore3 (pc := 32) dX7_walk_32 (by decide) ?_
    refine A_iconst (pc := 33) (v := 0) dX7_walk_33 (by decide) ?_
    refine A_istore4 (pc := 34) dX7_walk_34 (by decide) ?_
    exact mlp_wk hl hnm hsg hs _ _ s.1 0 (x2, f2, a.2.2) (true, w.2.1, w.2.2.1, 0, w.2.2.2.2) (by omega) (by show x2 < 24; omega) e4 (Nat.zero_le _) none
