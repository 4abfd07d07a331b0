/-! the model: tells, holds, still -/
set_option maxHeartbeats 4000000 in
set_option maxRecDepth 100000 in
theorem mlp_cm {c : XV} {n : MN} {p : Nat → Nat} {al : Int32} {s : MS} {r : MR} {w : MW} {k : MK} {a : MA} {pl : MP} {fr : Nat → Nat} {t : MT} {rest : AH} {post : Post} {q kq nq N N2 M S : Nat} {g kd nb : Nat → Nat} (hrow : ∀ (a : MA) (pl : MP), (MX c n p al s r w k a pl fr t rest)[q]? = some (nC N g)) (hkd : ∀ (a : MA) (pl : MP), (MX c n p al s r w k a pl fr t rest)[kq]? = some (nC N2 kd)) (hnb : ∀ (a : MA) (pl : MP), (MX c n p al s r w k a pl fr t rest)[nq]? = some (nC N2 nb)) (hN31 : N < 2 ^ 31) (hN2 : N2 < 2 ^ 31) (f0 fi : Nat) (hfm : f0 + M ≤ N) (hM : M ≤ 30) (hg : ∀ j, j < M → g (f0 + j) < 4) (hfi : fi + S ≤ N2) (hS : S ≤ 60) (hv : ∀ i, i < S → kd (fi + i) < 9 ∧ nb (fi + i) ≤ 9 ∧ (kd (fi + i) = 4 ∨ kd (fi + i) = 5 → 1 ≤ nb (fi + i))) (kk ff : Int32) (at_ i : Nat) (ha : a.2.2.1 ≤ 30) (hat : at_ + a.2.2.1 ≤ M) (hpa : ∀ j, j < a.2.2.1 → a.2.2.2 j < 2 ^ 31) (m : Nat) : ∀ (p9 : Nat) (_ : p9 + m = a.2.2.1) (_ : cmT a.2.2.2 g (f0 + at_) m p9 = true → AW mX7_tells 3 0 0 0 0 117 [some (.ref 25), some (.int kk), some (.int ff), some (.ref q), some (.int (nI f0)), some (.int (nI M)), some (.ref kq), some (.ref nq), some (.int (nI fi)), some (.int (nI S)), some (.int (nI at_)), some (.int (nI i)), some (.int (nI a.2.2.1))] [] (MX c n p al s r w k a pl fr t rest) post) (_ : cmT a.2.2.2 g (f0 + at_) m p9 = false → post (some (.int 0)) (MX c n p al s r w k a pl fr t rest)), AW mX7_tells 3 0 0 0 0 80 [some (.ref 25), some (.int kk), some (.int ff), some (.ref q), some (.int (nI f0)), some (.int (nI M)), some (.ref kq), some (.ref nq), some (.int (nI fi)), some (.int (nI S)), some (.int (nI at_)), some (.int (nI i)), some (.int (nI p9))] [] (MX c n p al s r w k a pl fr t rest) (post) := by
  induction m with
  | zero =>
    intro p9 hp hT hF
    refine A_iload12 (pc := 80) dX7_tells_80 ?_
    refine A_aload0 (pc := 82) dX7_tells_82 ?_
    refine A_getf (pc := 83) flX7_118 dX7_tells_83 rfl rfl ?_
    refine A_icmp_ge (pc := 86) (tgt := 117) dX7_tells_86 (by decide) (fun c86 => ?_) (fun c86 => absurd (show nI a.2.2.1 ≤ nI p9 from nI_le (by omega) (by omega)) c86)
    have e9 : p9 = a.2.2.1 := by omega
    subst e9
    exact hT rfl
  | succ m ih =>
    intro p9 hp hT hF
    refine A_iload12 (pc := 80) dX7_tells_80 ?_
    refine A_aload0 (pc := 82) dX7_tells_82 ?_
    refine A_getf (pc := 83) flX7_118 dX7_tells_83 rfl rfl ?_
    refine A_icmp_ge (pc := 86) (tgt := 117) dX7_tells_86 (by decide) (fun c86 => absurd c86 (show ¬ nI a.2.2.1 ≤ nI p9 from nI_ge (by omega) (by omega))) (fun c86 => ?_)
    refine A_aload0 (pc := 89) dX7_tells_89 ?_
    refine A_getf (pc := 90) flX7_59 dX7_tells_90 rfl rfl ?_
    refine A_iload12 (pc := 93) dX7_tells_93 ?_
    refine A_ialdN (pc := 95) (i := p9) dX7_tells_95 rfl rfl (by omega) (by decide) ?_
    refine A_aload3 (pc := 96) dX7_tells_96 ?_
    refine A_iload4 (pc := 97) dX7_tells_97 ?_
    refine A_iload10 (pc := 99) dX7_tells_99 ?_
    refine A_iadd (pc := 101) dX7_tells_101 ?_
    refine A_iload12 (pc := 102) dX7_tells_102 ?_
    refine A_iadd (pc := 104) dX7_tells_104 ?_
    refine A_ialdN (pc := 105) (i := (f0 + at_ + p9)) dX7_tells_105 (hrow _ _) (by rw [nI_add, nI_add]) (by omega) hN31 ?_
    refine A_icmp_eq (pc := 106) (tgt := 111) dX7_tells_106 (by decide) (fun c106 => ?_) (fun c106 => ?_)
    · have d106 : a.2.2.2 p9 = g (f0 + at_ + p9) := (nI_eq (hpa p9 (by omega)) (by have := hg (at_ + p9) (by omega); rw [← Nat.add_assoc] at this; omega)).mp c106
      refine A_iinc12 (pc := 111) dX7_tells_111 (by decide) (nI_1 p9) ?_
      refine A_goto (pc := 114) (tgt := 80) dX7_tells_114 (by decide) ?_
      exact ih (p9 + 1) (by omega) (fun h => hT ((if_pos d106).trans h)) (fun h => hF ((if_pos d106).trans h))
    · have d106 : ¬ a.2.2.2 p9 = g (f0 + at_ + p9) := fun q => c106 (by rw [q])
      refine A_iconst (pc := 109) (v := 0) dX7_tells_109 (by decide) ?_
      exact A_iret (pc := 110) dX7_tells_110 rfl rfl (by decide) (by decide) (hF (if_neg d106))

def paOk (a : MA) : Prop := ∀ j, j < a.2.2.1 → a.2.2.2 j < 4
theorem gbT_pa {ld : Nat → Option Nat} {a : MA} {e : Nat} (ha : paOk a) (he : e < 4) : paOk (gbT ld a e).2 := by
  unfold gbT
  cases hy : ld (4 * a.1 + e) with
  | none => exact ha
  | some y =>
    by_cases hm : a.2.2.1 = 30
    · simp only [hm, if_true]; exact ha
    · simp only [hm, if_false]
      intro j hj
      show updN a.2.2.2 a.2.2.1 e j < 4
      unfold updN
      split
      · exact he
      · exact ha j (by have : j < a.2.2.1 + 1 := hj; omega)
theorem tnT_pa {ld : Nat → Option Nat} (hl : VL ld) {turn : Nat} (m : Nat) : ∀ {left : Nat} {a : MA}, okA a → paOk a → paOk (tnT ld turn m left a).2 := by
  induction m with
  | zero => intro left a _ h; exact h
  | succ m ih =>
    intro left a ho h
    unfold tnT
    generalize (if hsT ld a turn = true then left - 1 else left) = l2
    split
    · exact gbT_pa h (Nat.mod_lt _ (by decide))
    · split
      · exact ih (gbT_ok hl ho ho.2.1).1 (gbT_pa h ho.2.1)
      · exact gbT_pa h ho.2.1
theorem unT_pa {n : MN} (hl : VL n.2.2.1) {nb : Nat} (m : Nat) : ∀ {left : Nat} {a : MA}, okA a → paOk a → paOk (unT n nb m left a).2 := by
  induction m with
  | zero => intro left a _ h; exact h
  | succ m ih =>
    intro left a ho h
    have h1 := (gbT_ok hl ho ho.2.1).1
    have h2 := gbT_pa (ld := n.2.2.1) h ho.2.1
    unfold unT
    split
    · split
      · split
        · exact h2
        · exact ih h1 h2
      · exact ih h1 h2
    · exact h2
theorem edT_pa {ld : Nat → Option Nat} (hl : VL ld) (m : Nat) : ∀ {a : MA}, okA a → paOk a → paOk (edT ld m a).2 := by
  induction m with
  | zero => intro a _ h; exact h
  | succ m ih =>
    intro a ho h
    have h1 := (gbT_ok hl ho ho.2.1).1
    have h2 := gbT_pa (ld := ld) h ho.2.1
    unfold edT
    split
    · split
      · exact ih h1 h2
      · exact h2
    · exact h2
theorem gnT_pa {n : MN} {a : MA} (ha : paOk a) {name : Nat} (m : Nat) : ∀ {i : Nat} {fo : Option Nat}, (∀ e, fo = some e → e < 4) → paOk (gnT n a name m i fo).2 := by
  induction m with
  | zero =>
    intro i fo hf
    cases fo with
    | none => exact ha
    | some e => exact gbT_pa ha (hf e rfl)
  | succ m ih =>
    intro i fo hf
    unfold gnT
    split
    · exact ih hf
    · split
      · split
        · cases fo with
          | none => exact ih (fun e h => by cases h; omega)
          | some e => exact ha
        · exact ih hf
      · exact ih hf
theorem dsT_pa {n : MN} (hl : VL n.2.2.1) {a : MA} (h1 : a.1 < 24) (h2 : a.2.1 < 4) (kd nb ps : Nat) : paOk (dsT n a kd nb ps).2 := by
  have h0 : okA (zA a) := ⟨h1, h2, Nat.zero_le 30⟩
  have h3 : paOk (zA a) := fun j hj => absurd hj (Nat.not_lt_zero j)
  unfold dsT
  split
  · exact gbT_pa h3 (by omega)
  · split
    · exact gnT_pa h3 4 (fun e h => by cases h)
    · split
      · exact tnT_pa hl 31 h0 h3
      · split
        · exact edT_pa hl 31 h0 h3
        · exact unT_pa hl 31 h0 h3
set_option maxHeartbeats 4000000 in
set_option maxRecDepth 100000 in
theorem mlp_te {c : XV} {n : MN} {p : Nat → Nat} {al : Int32} {s : MS} {r : MR} {w : MW} {k : MK} {pl : MP} {fr : Nat → Nat} {t : MT} {rest : AH} (hl : VL n.2.2.1) (hnm : ∀ x, x < 96 → n.2.2.2 x < 2 ^ 31) (hsg : ∀ x, x < 24 → n.2.1 x < 2 ^ 31) {q kq nq N N2 M S : Nat} {g kd nb : Nat → Nat} (hrow : ∀ (a : MA) (pl : MP), (MX c n p al s r w k a pl fr t rest)[q]? = some (nC N g)) (hkd : ∀ (a : MA) (pl : MP), (MX c n p al s r w k a pl fr t rest)[kq]? = some (nC N2 kd)) (hnb : ∀ (a : MA) (pl : MP), (MX c n p al s r w k a pl fr t rest)[nq]? = some (nC N2 nb)) (hN31 : N < 2 ^ 31) (hN2 : N2 < 2 ^ 31) (f0 fi : Nat) (hfm : f0 + M ≤ N) (hM : M ≤ 30) (hg : ∀ j, j < M → g (f0 + j) < 4) (hfi : fi + S ≤ N2) (hS : S ≤ 60) (hv : ∀ i, i < S → kd (fi + i) < 9 ∧ nb (fi + i) ≤ 9 ∧ (kd (fi + i) = 4 ∨ kd (fi + i) = 5 → 1 ≤ nb (fi + i))) (kk ff : Int32) (m : Nat) : ∀ (i at_ : Nat) (a : MA) (_ : i + m = S) (_ : a.1 < 24) (_ : a.2.1 < 4) (_ : at_ ≤ M) (x12 : Option Value), AW mX7_tells 3 0 0 0 0 32 [some (.ref 25), some (.int kk), some (.int ff), some (.ref q), some (.int (nI f0)), some (.int (nI M)), some (.ref kq), some (.ref nq), some (.int (nI fi)), some (.int (nI S)), some (.int (nI at_)), some (.int (nI i)), x12] [] (MX c n p al s r w k a pl fr t rest) (P1 (bI (teT n g f0 M kd nb fi m i at_ a).1) (MX c n p al s r w k ((teT n g f0 M kd nb fi m i at_ a).2) pl fr t rest)) := by
  induction m with
  | zero =>
    intro i at_ a hi h1 h2 hat x12
    refine A_iload11 (pc := 32) dX7_tells_32 ?_
    refine A_iload9 (pc := 34) dX7_tells_34 ?_
    refine A_icmp_ge (pc := 36) (tgt := 132) dX7_tells_36 (by decide) (fun c36 => ?_) (fun c36 => absurd (show nI S ≤ nI i from nI_le (by omega) (by omega)) c36)
    refine A_iload10 (pc := 132) dX7_tells_132 ?_
    refine A_iload5 (pc := 134) dX7_tells_134 ?_
    refine A_icmp_ne (pc := 136) (tgt := 143) dX7_tells_136 (by decide) (fun c136 => ?_) (fun c136 => ?_)
    · have d136 : ¬ at_ = M := fun q => c136 (by rw [q])
      refine A_iconst (pc := 143) (v := 0) dX7_tells_143 (by decide) ?_
      exact A_iret (pc := 144) dX7_tells_144 rfl rfl (by decide) (by decide) (⟨by simp only [teT, d136, decide_true, decide_false, bI, if_true, if_false, Bool.false_eq_true], rfl⟩)
    · have d136 : at_ = M := (nI_eq (by omega) (by omega)).mp c136
      refine A_iconst (pc := 139) (v := 1) dX7_tells_139 (by decide) ?_
      refine A_goto (pc := 140) (tgt := 144) dX7_tells_140 (by decide) ?_
      exact A_iret (pc := 144) dX7_tells_144 rfl rfl (by decide) (by decide) (⟨by simp only [teT, d136, decide_true, decide_false, bI, if_true, if_false, Bool.false_eq_true], rfl⟩)
  | succ m ih =>
    intro i at_ a hi h1 h2 hat x12
    refine A_iload11 (pc := 32) dX7_tells_32 ?_
    refine A_iload9 (pc := 34) dX7_tells_34 ?_
    refine A_icmp_ge (pc := 36) (tgt := 132) dX7_tells_36 (by decide) (fun c36 => absurd c36 (show ¬ nI S ≤ nI i from nI_ge (by omega) (by omega))) (fun c36 => ?_)
    refine A_aload0 (pc := 39) dX7_tells_39 ?_
    refine A_aload6 (pc := 40) dX7_tells_40 ?_
    refine A_iload8 (pc := 42) dX7_tells_42 ?_
    refine A_iload11 (pc := 44) dX7_tells_44 ?_
    refine A_iadd (pc := 46) dX7_tells_46 ?_
    refine A_ialdN (pc := 47) (i := (fi + i)) dX7_tells_47 (hkd _ _) (nI_add fi i) (by omega) hN2 ?_
    refine A_aload7 (pc := 48) dX7_tells_48 ?_
    refine A_iload8 (pc := 50) dX7_tells_50 ?_
    refine A_iload11 (pc := 52) dX7_tells_52 ?_
    refine A_iadd (pc := 54) dX7_tells_54 ?_
    refine A_ialdN (pc := 55) (i := (fi + i)) dX7_tells_55 (hnb _ _) (nI_add fi i) (by omega) hN2 ?_
    refine A_iconst (pc := 56) (v := 0) dX7_tells_56 (by decide) ?_
    refine A_cvi (pc := 57) cvX7_145 (mp_does hl hnm hsg h1 h2 (kd (fi + i)) (nb (fi + i)) 0 (hv i (by omega)).1 (by have := (hv i (by omega)).2.1; omega) (hv i (by omega)).2.2 (by decide)) dX7_tells_57 rfl rfl rfl rfl (Nat.le_of_ble_eq_true rfl) (by decide) (by decide) (by decide) ?_
    refine A_if_eq (pc := 60) (tgt := 75) dX7_tells_60 (by decide) (fun c60 => ?_) (fun c60 => ?_)
    · replace c60 := (bI_eq _).mp c60
      refine A_iconst (pc := 75) (v := 0) dX7_tells_75 (by decide) ?_
      exact A_iret (pc := 76) dX7_tells_76 rfl rfl (by decide) (by decide) (by rw [show (teT n g f0 M kd nb fi (m + 1) i at_ a) = (false, (dsT n a (kd (fi + i)) (nb (fi + i)) 0).2) from if_neg (by rw [c60]; decide)]; exact ⟨rfl, rfl⟩)
    · replace c60 := (bI_ne _).mp c60
      have hd9 := dsT_ok hl h1 h2 (kd (fi + i)) (nb (fi + i)) 0
      have hp9 := dsT_pa hl h1 h2 (kd (fi + i)) (nb (fi + i)) 0
      refine A_iload10 (pc := 63) dX7_tells_63 ?_
      refine A_aload0 (pc := 65) dX7_tells_65 ?_
      refine A_getf (pc := 66) flX7_118 dX7_tells_66 rfl rfl ?_
      refine A_iadd (pc := 69) dX7_tells_69 ?_
      refine A_iload5 (pc := 70) dX7_tells_70 ?_
      rw [nI_add]
      refine A_icmp_le (pc := 72) (tgt := 77) dX7_tells_72 (by decide) (fun c72 => ?_) (fun c72 => ?_)
      · have d72 : at_ + (dsT n a (kd (fi + i)) (nb (fi + i)) 0).2.2.2.1 ≤ M := (nI_leI (by have := hd9.2.2; omega) (by omega)).mp c72
        refine A_iconst (pc := 77) (v := 0) dX7_tells_77 (by decide) ?_
        refine A_istore12 (pc := 78) dX7_tells_78 (by decide) ?_
        refine mlp_cm hrow hkd hnb hN31 hN2 f0 fi hfm hM hg hfi hS hv kk ff at_ i hd9.2.2 d72 (fun j hj => by have := hp9 j hj; omega) (dsT n a (kd (fi + i)) (nb (fi + i)) 0).2.2.2.1 0 (by omega) (fun hc => ?_) (fun hc => ?_)
        · refine A_iload10 (pc := 117) dX7_tells_117 ?_
          refine A_aload0 (pc := 119) dX7_tells_119 ?_
          refine A_getf (pc := 120) flX7_118 dX7_tells_120 rfl rfl ?_
          refine A_iadd (pc := 123) dX7_tells_123 ?_
          rw [nI_add]
          refine A_istore10 (pc := 124) dX7_tells_124 (by decide) ?_
          refine A_iinc11 (pc := 126) dX7_tells_126 (by decide) (nI_1 i) ?_
          refine A_goto (pc := 129) (tgt := 32) dX7_tells_129 (by decide) ?_
          rw [show (teT n g f0 M kd nb fi (m + 1) i at_ a) = (teT n g f0 M kd nb fi m (i + 1) (at_ + (dsT n a (kd (fi + i)) (nb (fi + i)) 0).2.2.2.1) (dsT n a (kd (fi + i)) (nb (fi + i)) 0).2) from (if_pos c60).trans ((if_pos d72).trans (if_pos hc))]
          exact ih (i + 1) _ _ (by omega) hd9.1 hd9.2.1 d72 _
        · rw [show (teT n g f0 M kd nb fi (m + 1) i at_ a) = (false, (dsT n a (kd (fi + i)) (nb (fi + i)) 0).2) from (if_pos c60).trans ((if_pos d72).trans (if_neg (by rw [hc]; decide)))]
          exact ⟨rfl, rfl⟩
      · have d72 : ¬ at_ + (dsT n a (kd (fi + i)) (nb (fi + i)) 0).2.2.2.1 ≤ M := fun q => c72 (nI_le q (by omega))
        refine A_iconst (pc := 75) (v := 0) dX7_tells_75 (by decide) ?_
        exact A_iret (pc := 76) dX7_tells_76 rfl rfl (by decide) (by decide) (by rw [show (teT n g f0 M kd nb fi (m + 1) i at_ a) = (false, (dsT n a (kd (fi + i)) (nb (fi + i)) 0).2) from (if_pos c60).trans (if_neg d72)]; exact ⟨rfl, rfl⟩)

set_option maxHeartbeats 4000000 in
set_option maxRecDepth 100000 in
theorem mp_tells {c : XV} {n : MN} {p : Nat → Nat} {al : Int32} {s : MS} {r : MR} {w : MW} {k : MK} {a : MA} {pl : MP} {fr : Nat → Nat} {t : MT} {rest : AH} (hl : VL n.2.2.1) (hnm : ∀ x, x < 96 → n.2.2.2 x < 2 ^ 31) (hsg : ∀ x, x < 24 → n.2.1 x < 2 ^ 31) {q kq nq N N2 M S : Nat} {g kd nb : Nat → Nat} (hrow : ∀ (a : MA) (pl : MP), (MX c n p al s r w k a pl fr t rest)[q]? = some (nC N g)) (hkd : ∀ (a : MA) (pl : MP), (MX c n p al s r w k a pl fr t rest)[kq]? = some (nC N2 kd)) (hnb : ∀ (a : MA) (pl : MP), (MX c n p al s r w k a pl fr t rest)[nq]? = some (nC N2 nb)) (hN31 : N < 2 ^ 31) (hN2 : N2 < 2 ^ 31) (f0 fi : Nat) (hfm : f0 + M ≤ N) (hM : M ≤ 30) (hg : ∀ j, j < M → g (f0 + j) < 4) (hfi : fi + S ≤ N2) (hS : S ≤ 60) (hv : ∀ i, i < S → kd (fi + i) < 9 ∧ nb (fi + i) ≤ 9 ∧ (kd (fi + i) = 4 ∨ kd (fi + i) = 5 → 1 ≤ nb (fi + i))) (k9 f9 : Nat) (hk9 : k9 < 24) (hf9 : f9 < 4) : AS mX7_tells 3 0 0 [.ref 25, .int (nI k9), .int (nI f9), .ref q, .int (nI f0), .int (nI M), .ref kq, .ref nq, .int (nI fi), .int (nI S)] (MX c n p al s r w k a pl fr t rest) (P1 (bI (teR n g f0 M kd nb fi S k9 f9 a pl).1) (MX c n p al s r w k ((teR n g f0 M kd nb fi S k9 f9 a pl).2.1) ((teR n g f0 M kd nb fi S k9 f9 a pl).2.2) fr t rest)) := by
  refine AS.go (lv := [some (.ref 25), some (.int (nI k9)), some (.int (nI f9)), some (.ref q), some (.int (nI f0)), some (.int (nI M)), some (.ref kq), some (.ref nq), some (.int (nI fi)), some (.int (nI S)), none, none, none]) rfl ?_ (by decide +kernel) rfl (Nat.le_of_ble_eq_true rfl)
  refine A_aload0 (pc := 0) dX7_tells_0 ?_
  refine A_iload1 (pc := 1) dX7_tells_1 ?_
  refine A_iload2 (pc := 2) dX7_tells_2 ?_
  refine A_aload3 (pc := 3) dX7_tells_3 ?_
  refine A_iload4 (pc := 4) dX7_tells_4 ?_
  refine A_iload5 (pc := 6) dX7_tells_6 ?_
  refine A_cvi (pc := 8) cvX7_157 (mp_follow (q := q) (N := N) (M := M) (g := g) hl (fun pl => hrow a pl) hN31 f0 hfm hM hg k9 f9 hk9) dX7_tells_8 rfl rfl rfl rfl (Nat.le_of_ble_eq_true rfl) (by decide) (by decide) (by decide) ?_
  refine A_if_ne (pc := 11) (tgt := 16) dX7_tells_11 (by decide) (fun c11 => ?_) (fun c11 => ?_)
  · replace c11 := (bI_ne _).mp c11
    refine A_iconst (pc := 16) (v := 0) dX7_tells_16 (by decide) ?_
    refine A_istore10 (pc := 17) dX7_tells_17 (by decide) ?_
    refine A_aload0 (pc := 19) dX7_tells_19 ?_
    refine A_iload1 (pc := 20) dX7_tells_20 ?_
    refine A_putf (pc := 21) flX7_115 ft7_27 dX7_tells_21 rfl (Nat.le_of_ble_eq_true rfl) (fun _ => ⟨rfl, rfl⟩) ?_
    refine A_aload0 (pc := 24) dX7_tells_24 ?_
    refine A_iload2 (pc := 25) dX7_tells_25 ?_
    refine A_putf (pc := 26) flX7_121 ft7_28 dX7_tells_26 rfl (Nat.le_of_ble_eq_true rfl) (fun _ => ⟨rfl, rfl⟩) ?_
    refine AW.heq (hp' := MX c n p al s r w k ((k9, f9, a.2.2)) ((foP n.2.2.1 g f0 M k9 f9 pl).2) fr t rest) rfl ?_
    refine A_iconst (pc := 29) (v := 0) dX7_tells_29 (by decide) ?_
    refine A_istore11 (pc := 30) dX7_tells_30 (by decide) ?_
    rw [show (teR n g f0 M kd nb fi S k9 f9 a pl) = ((teT n g f0 M kd nb fi S 0 0 (k9, f9, a.2.2)).1, (teT n g f0 M kd nb fi S 0 0 (k9, f9, a.2.2)).2, (foP n.2.2.1 g f0 M k9 f9 pl).2) from if_pos c11]
    exact mlp_te hl hnm hsg hrow hkd hnb hN31 hN2 f0 fi hfm hM hg hfi hS hv _ _ S 0 0 (k9, f9, a.2.2) (by omega) hk9 hf9 (Nat.zero_le _) none
  · replace c11 := (bI_eq _).mp c11
    refine A_iconst (pc := 14) (v := 0) dX7_tells_14 (by decide) ?_
    exact A_iret (pc := 15) dX7_tells_15 rfl rfl (by decide) (by decide) (by rw [show (teR n g f0 M kd nb fi S k9 f9 a pl) = (false, a, (foP n.2.2.1 g f0 M k9 f9 pl).2) from if_neg (by rw [c11]; decide)]; exact ⟨rfl, rfl⟩)

set_option maxHeartbeats 4000000 in
set_option maxRecDepth 100000 in
theorem mp_holds {c : XV} {n : MN} {p : Nat → Nat} {al : Int32} {s : MS} {r : MR} {w : MW} {k : MK} {a : MA} {pl : MP} {fr : Nat → Nat} {t : MT} {rest : AH} (hl : VL n.2.2.1) (hnm : ∀ x, x < 96 → n.2.2.2 x < 2 ^ 31) (hsg : ∀ x, x < 24 → n.2.1 x < 2 ^ 31) (hr1 : r.2.1 < 24) (hr2 : r.2.2.1 < 4) (hr3 : r.2.2.2.1 ≤ 30) (hr4 : ∀ i, i < r.2.2.2.1 → r.2.2.2.2 i < 4) (hs : VS s) : AS mX7_holds 4 0 0 [.ref 25] (MX c n p al s r w k a pl fr t rest) (P1 (if r.1 = true then bI (teR n r.2.2.2.2 0 r.2.2.2.1 s.2.1 s.2.2 0 s.1 r.2.1 r.2.2.1 a pl).1 else -1) (MX c n p al s r w k (if r.1 = true then (teR n r.2.2.2.2 0 r.2.2.2.1 s.2.1 s.2.2 0 s.1 r.2.1 r.2.2.1 a pl).2.1 else a) (if r.1 = true then (teR n r.2.2.2.2 0 r.2.2.2.1 s.2.1 s.2.2 0 s.1 r.2.1 r.2.2.1 a pl).2.2 else pl) fr t rest)) := by
  refine AS.go (lv := [some (.ref 25)]) rfl ?_ (by decide +kernel) rfl (Nat.le_of_ble_eq_true rfl)
  refine A_aload0 (pc := 0) dX7_holds_0 ?_
  refine A_getf (pc := 1) flX7_104 dX7_holds_1 rfl rfl ?_
  refine A_if_ne (pc := 4) (tgt := 9) dX7_holds_4 (by decide) (fun c4 => ?_) (fun c4 => ?_)
  · replace c4 := (bI_ne _).mp c4
    refine A_aload0 (pc := 9) dX7_holds_9 ?_
    refine A_aload0 (pc := 10) dX7_holds_10 ?_
    refine A_getf (pc := 11) flX7_98 dX7_holds_11 rfl rfl ?_
    refine A_aload0 (pc := 14) dX7_holds_14 ?_
    refine A_getf (pc := 15) flX7_154 dX7_holds_15 rfl rfl ?_
    refine A_aload0 (pc := 18) dX7_holds_18 ?_
    refine A_getf (pc := 19) flX7_32 dX7_holds_19 rfl rfl ?_
    refine A_iconst (pc := 22) (v := 0) dX7_holds_22 (by decide) ?_
    refine A_aload0 (pc := 23) dX7_holds_23 ?_
    refine A_getf (pc := 24) flX7_101 dX7_holds_24 rfl rfl ?_
    refine A_aload0 (pc := 27) dX7_holds_27 ?_
    refine A_getf (pc := 28) flX7_26 dX7_holds_28 rfl rfl ?_
    refine A_aload0 (pc := 31) dX7_holds_31 ?_
    refine A_getf (pc := 32) flX7_29 dX7_holds_32 rfl rfl ?_
    refine A_iconst (pc := 35) (v := 0) dX7_holds_35 (by decide) ?_
    refine A_aload0 (pc := 36) dX7_holds_36 ?_
    refine A_getf (pc := 37) flX7_136 dX7_holds_37 rfl rfl ?_
    refine A_cvi (pc := 40) cvX7_173 (mp_tells hl hnm hsg (q := 32) (kq := 30) (nq := 31) (N := 30) (N2 := 60) (M := r.2.2.2.1) (S := s.1) (g := r.2.2.2.2) (kd := s.2.1) (nb := s.2.2) (fun _ _ => rfl) (fun _ _ => rfl) (fun _ _ => rfl) (by decide) (by decide) 0 0 (by omega) hr3 (fun j hj => by rw [Nat.zero_add]; exact hr4 j hj) (by have := hs.1; omega) hs.1 (fun i hi => by rw [Nat.zero_add]; exact hs.2 i hi) r.2.1 r.2.2.1 hr1 hr2) dX7_holds_40 rfl rfl rfl rfl (Nat.le_of_ble_eq_true rfl) (by decide) (by decide) (by decide) ?_
    refine A_if_eq (pc := 43) (tgt := 50) dX7_holds_43 (by decide) (fun c43 => ?_) (fun c43 => ?_)
    · replace c43 := (bI_eq _).mp c43
      refine A_iconst (pc := 50) (v := 0) dX7_holds_50 (by decide) ?_
      exact A_iret (pc := 51) dX7_holds_51 rfl rfl (by decide) (by decide) (⟨by rw [if_pos c4, c43]; rfl, by rw [if_pos c4, if_pos c4]⟩)
    · replace c43 := (bI_ne _).mp c43
      refine A_iconst (pc := 46) (v := 1) dX7_holds_46 (by decide) ?_
      refine A_goto (pc := 47) (tgt := 51) dX7_holds_47 (by decide) ?_
      exact A_iret (pc := 51) dX7_holds_51 rfl rfl (by decide) (by decide) (⟨by rw [if_pos c4, c43]; rfl, by rw [if_pos c4, if_pos c4]⟩)
  · replace c4 := (bI_eq _).mp c4
    refine A_iconst (pc := 7) (v := -1) dX7_holds_7 (by decide) ?_
    exact A_iret (pc := 8) dX7_holds_8 rfl rfl (by decide) (by decide) (⟨by rw [if_neg (by rw [c4]; decide)], by rw [if_neg (by rw [c4]; decide), if_neg (by rw [c4]; decide)]⟩)
