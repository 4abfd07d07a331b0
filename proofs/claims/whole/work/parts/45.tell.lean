/-! the model: tell -/
def dI : Nat → Int32
  | 0 => -1
  | m + 1 => nI m
theorem dI_sub (m : Nat) : nI m - 1 = dI m := by
  cases m with
  | zero => decide
  | succ m => exact nI_pred m
theorem dI_dec (m : Nat) : nI m + (-1) = dI m := by
  cases m with
  | zero => decide
  | succ m => exact pk_m1 m
theorem axT_le {n : MN} {r : MR} {pl : MP} {i kd nb y : Nat} (h : axT n r pl i kd nb = some y) : y ≤ r.2.2.2.1 := by
  unfold axT alT at h
  simp only at h
  split at h
  · split at h
    · split at h
      · cases h
        rename_i h2 _
        exact h2
      · cases h
    · cases h
  · cases h
def tlT (nx : Nat → Nat → Nat → Option Nat) (p : Nat → Nat) (al : Int32) : Nat → MT → MT
  | 0, t => t
  | m + 1, t => tlT nx p al m (oaA nx p al m (updN t.1 m BIG, t.2))
def tlC (nx : Nat → Nat → Nat → Option Nat) (rk rn : Nat → Nat) (E : Nat) : Nat → Nat → Prop
  | 0, x => x = E
  | m + 1, x => x < E ∧ ∃ y, nx x (rk x) (rn x) = some y ∧ tlC nx rk rn E m y
def tlS (nx : Nat → Nat → Nat → Option Nat) (rk rn : Nat → Nat) : Nat → Nat → MS → MS
  | 0, _, s => s
  | m + 1, x, s => tlS nx rk rn m ((nx x (rk x) (rn x)).getD 0) (s.1 + 1, updN s.2.1 s.1 (rk x), updN s.2.2 s.1 (rn x))
theorem TB.big {B : Nat} {t : MT} (h : TB B t) (i : Nat) : TB B (updN t.1 i BIG, t.2) := fun x hx => by
  have h1 := h x hx
  refine ⟨?_, h1.2⟩
  show updN t.1 i BIG x ≤ BIG + 50
  unfold updN
  split
  · omega
  · exact h1.1
theorem TB.tl {nx : Nat → Nat → Nat → Option Nat} {p : Nat → Nat} {al : Int32} (m : Nat) : ∀ (B : Nat) (t : MT), (∀ x kd nb y, x < m → nx x kd nb = some y → y < 96) → (∀ q, q < 9 → p q ≤ 50) → TB B t → TB (B + 90 * m) (tlT nx p al m t) := by
  induction m with
  | zero => intro B t _ _ h; exact h
  | succ m ih =>
    intro B t hy hp h
    exact (ih (B + 90) _ (fun x kd nb y hx => hy x kd nb y (by omega)) hp ((h.big m).A (fun kd nb y => hy m kd nb y (by omega)) hp)).mono (by omega)

set_option maxHeartbeats 4000000 in
set_option maxRecDepth 100000 in
theorem mlp_te1 {c : XV} {n : MN} {p : Nat → Nat} {al : Int32} {s : MS} {r : MR} {w : MW} {k : MK} {pl : MP} {fr : Nat → Nat} {rest : AH} {post : Post} (hl : VL n.2.2.1) (hnm : ∀ x, x < 96 → n.2.2.2 x < 2 ^ 31) (hsg : ∀ x, x < 24 → n.2.1 x < 2 ^ 31) (hr1 : r.2.1 < 24) (hr2 : r.2.2.1 < 4) (hr3 : r.2.2.2.1 ≤ 30) (hr4 : ∀ i, i < r.2.2.2.1 → r.2.2.2.2 i < 4) (hpl : ∀ j, j ≤ r.2.2.2.1 → pl.1 j < 24 ∧ pl.2 j < 4) (i kd : Nat) (hi : i < r.2.2.2.1) (hkd : kd < 9) (hal : alI al (nI kd) = true) (hp5 : ∀ q, q < 9 → p q ≤ 50) (m : Nat) : ∀ (nb Bd : Nat) (t : MT) (a : MA) (x4 : Option Value) (_ : nb + m = moN kd + 1) (_ : loN kd ≤ nb) (_ : TB Bd t) (_ : Bd + m < 2 ^ 30) (_ : ∀ (a : MA) (x3 x4 : Option Value), AW mX7_tell 4 0 0 0 0 174 [some (.ref 25), some (.int (nI i)), some (.int (nI kd)), x3, x4] [] (MX c n p al s r w k a pl fr (itT (oaS (axT n r pl) p i kd) m nb t) rest) post), AW mX7_tell 4 0 0 0 0 91 [some (.ref 25), some (.int (nI i)), some (.int (nI kd)), some (.int (nI nb)), x4] [] (MX c n p al s r w k a pl fr t rest) post := by
  induction m with
  | zero =>
    intro nb Bd t a x4 hm hlo hT hB hC
    refine A_iload3 (pc := 91) dX7_tell_91 ?_
    refine A_iload2 (pc := 92) dX7_tell_92 ?_
    refine A_csi (pc := 93) csX7_111 (mp_mostOf kd (by omega)) dX7_tell_93 rfl rfl (Nat.le_of_ble_eq_true rfl) (by decide) (by decide) (by decide) ?_
    refine A_icmp_gt (pc := 96) (tgt := 174) dX7_tell_96 (by decide) (fun c96 => ?_) (fun c96 => absurd (show nI (moN kd) < nI nb from nI_lt (by omega) (by have := moN_le kd; omega)) c96)
    exact hC a _ _
  | succ m ih =>
    intro nb Bd t a x4 hm hlo hT hB hC
    have hf1 : (alT n r pl a i kd nb).1 = axT n r pl i kd nb := alT_1
    have e8 : itT (oaS (axT n r pl) p i kd) (m + 1) nb t = itT (oaS (axT n r pl) p i kd) m (nb + 1) (oaS (axT n r pl) p i kd nb t) := rfl
    rw [e8] at hC
    have hT1 : TB (Bd + 1) (oaS (axT n r pl) p i kd nb t) := hT.oa (fun y hy => by have := axT_le hy; omega) (hp5 kd hkd) hkd (by have := moN_le kd; omega) (lo_45 hlo)
    cases hy : axT n r pl i kd nb with
    | none =>
      have e7 : oaS (axT n r pl) p i kd nb t = t := by unfold oaS; rw [hy]
      refine A_iload3 (pc := 91) dX7_tell_91 ?_
      refine A_iload2 (pc := 92) dX7_tell_92 ?_
      refine A_csi (pc := 93) csX7_111 (mp_mostOf kd (by omega)) dX7_tell_93 rfl rfl (Nat.le_of_ble_eq_true rfl) (by decide) (by decide) (by decide) ?_
      refine A_icmp_gt (pc := 96) (tgt := 174) dX7_tell_96 (by decide) (fun c96 => absurd c96 (show ¬ nI (moN kd) < nI nb from nI_nlt (by omega) (by have := moN_le kd; omega))) (fun c96 => ?_)
      refine A_aload0 (pc := 99) dX7_tell_99 ?_
      refine A_iload2 (pc := 100) dX7_tell_100 ?_
      refine A_cvi (pc := 101) cvX7_162 (mp_isAllowed _) dX7_tell_101 rfl rfl rfl rfl (Nat.le_of_ble_eq_true rfl) (by decide) (by decide) (by decide) ?_
      rw [hal]
      refine A_if_eq (pc := 104) (tgt := 117) dX7_tell_104 (by decide) (fun c104 => absurd c104 (by decide)) (fun c104 => ?_)
      refine A_aload0 (pc := 107) dX7_tell_107 ?_
      refine A_iload1 (pc := 108) dX7_tell_108 ?_
      refine A_iload2 (pc := 109) dX7_tell_109 ?_
      refine A_iload3 (pc := 110) dX7_tell_110 ?_
      refine A_cvi (pc := 111) cvX7_165 (mp_along hl hnm hsg hr1 hr2 hr3 hr4 i kd nb (by omega) (hpl i (by omega)).1 (hpl i (by omega)).2 hkd (by have := moN_le kd; omega) (lo_45 hlo)) dX7_tell_111 rfl rfl rfl rfl (Nat.le_of_ble_eq_true rfl) (by decide) (by decide) (by decide) ?_
      rw [hf1, hy]
      refine A_goto (pc := 114) (tgt := 118) dX7_tell_114 (by decide) ?_
      refine A_istore4 (pc := 118) dX7_tell_118 (by decide) ?_
      refine A_iload4 (pc := 120) dX7_tell_120 ?_
      refine A_iconst (pc := 122) (v := -1) dX7_tell_122 (by decide) ?_
      refine A_icmp_eq (pc := 123) (tgt := 168) dX7_tell_123 (by decide) (fun c123 => ?_) (fun c123 => absurd rfl c123)
      refine A_iinc3 (pc := 168) dX7_tell_168 (by decide) (nI_1 nb) ?_
      refine A_goto (pc := 171) (tgt := 91) dX7_tell_171 (by decide) ?_
      rw [e7] at hC hT1
      exact ih (nb + 1) (Bd + 1) t _ _ (by omega) (by omega) hT1 (by omega) hC
    | some y =>
      have hy8 := axT_le hy
      have hy9 : y < 96 := by omega
      have e7 : oaS (axT n r pl) p i kd nb t = if t.1 y < BIG then ofT t i (p kd + t.1 y) (1 + t.2.1 y) kd nb else t := by unfold oaS; rw [hy]
      have hty := hT y hy9
      have hpk := hp5 kd hkd
      have hB9 : BIG = 268435456 := rfl
      rw [e7] at hC hT1
      refine A_iload3 (pc := 91) dX7_tell_91 ?_
      refine A_iload2 (pc := 92) dX7_tell_92 ?_
      refine A_csi (pc := 93) csX7_111 (mp_mostOf kd (by omega)) dX7_tell_93 rfl rfl (Nat.le_of_ble_eq_true rfl) (by decide) (by decide) (by decide) ?_
      refine A_icmp_gt (pc := 96) (tgt := 174) dX7_tell_96 (by decide) (fun c96 => absurd c96 (show ¬ nI (moN kd) < nI nb from nI_nlt (by omega) (by have := moN_le kd; omega))) (fun c96 => ?_)
      refine A_aload0 (pc := 99) dX7_tell_99 ?_
      refine A_iload2 (pc := 100) dX7_tell_100 ?_
      refine A_cvi (pc := 101) cvX7_162 (mp_isAllowed _) dX7_tell_101 rfl rfl rfl rfl (Nat.le_of_ble_eq_true rfl) (by decide) (by decide) (by decide) ?_
      rw [hal]
      refine A_if_eq (pc := 104) (tgt := 117) dX7_tell_104 (by decide) (fun c104 => absurd c104 (by decide)) (fun c104 => ?_)
      refine A_aload0 (pc := 107) dX7_tell_107 ?_
      refine A_iload1 (pc := 108) dX7_tell_108 ?_
      refine A_iload2 (pc := 109) dX7_tell_109 ?_
      refine A_iload3 (pc := 110) dX7_tell_110 ?_
      refine A_cvi (pc := 111) cvX7_165 (mp_along hl hnm hsg hr1 hr2 hr3 hr4 i kd nb (by omega) (hpl i (by omega)).1 (hpl i (by omega)).2 hkd (by have := moN_le kd; omega) (lo_45 hlo)) dX7_tell_111 rfl rfl rfl rfl (Nat.le_of_ble_eq_true rfl) (by decide) (by decide) (by decide) ?_
      rw [hf1, hy]
      refine A_goto (pc := 114) (tgt := 118) dX7_tell_114 (by decide) ?_
      refine A_istore4 (pc := 118) dX7_tell_118 (by decide) ?_
      refine A_iload4 (pc := 120) dX7_tell_120 ?_
      refine A_iconst (pc := 122) (v := -1) dX7_tell_122 (by decide) ?_
      refine A_icmp_eq (pc := 123) (tgt := 168) dX7_tell_123 (by decide) (fun c123 => absurd c123 (oI_some (by omega))) (fun c123 => ?_)
      refine A_aload0 (pc := 126) dX7_tell_126 ?_
      refine A_getf (pc := 127) flX7_71 dX7_tell_127 rfl rfl ?_
      refine A_iload4 (pc := 130) dX7_tell_130 ?_
      refine A_ialdN (pc := 132) (i := y) dX7_tell_132 rfl rfl hy9 (by decide) ?_
      refine A_ldc (pc := 133) dX7_tell_133 kcX7_161 ?_
      refine A_icmp_ge (pc := 135) (tgt := 168) dX7_tell_135 (by decide) (fun c135 => ?_) (fun c135 => ?_)
      · have d61 : ¬ t.1 y < BIG := fun q => absurd c135 (show ¬ nI BIG ≤ nI (t.1 y) from nI_ge q (by decide))
        rw [if_neg d61] at hC hT1
        refine A_iinc3 (pc := 168) dX7_tell_168 (by decide) (nI_1 nb) ?_
        refine A_goto (pc := 171) (tgt := 91) dX7_tell_171 (by decide) ?_
        exact ih (nb + 1) (Bd + 1) _ _ _ (by omega) (by omega) hT1 (by omega) hC
      · have d61 : t.1 y < BIG := by
          rcases Nat.lt_or_ge (t.1 y) BIG with q | q
          · exact q
          · exact absurd (show nI BIG ≤ nI (t.1 y) from nI_le q (by omega)) c135
        rw [if_pos d61] at hC hT1
        refine A_aload0 (pc := 138) dX7_tell_138 ?_
        refine A_iload1 (pc := 139) dX7_tell_139 ?_
        refine A_aload0 (pc := 140) dX7_tell_140 ?_
        refine A_getf (pc := 141) flX7_19 dX7_tell_141 rfl rfl ?_
        refine A_iload2 (pc := 144) dX7_tell_144 ?_
        refine A_ialdN (pc := 145) (i := kd) dX7_tell_145 rfl rfl hkd (by decide) ?_
        refine A_aload0 (pc := 146) dX7_tell_146 ?_
        refine A_getf (pc := 147) flX7_71 dX7_tell_147 rfl rfl ?_
        refine A_iload4 (pc := 150) dX7_tell_150 ?_
        refine A_ialdN (pc := 152) (i := y) dX7_tell_152 rfl rfl hy9 (by decide) ?_
        refine A_iadd (pc := 153) dX7_tell_153 ?_
        rw [nI_add]
        refine A_iconst (pc := 154) (v := 1) dX7_tell_154 (by decide) ?_
        refine A_aload0 (pc := 155) dX7_tell_155 ?_
        refine A_getf (pc := 156) flX7_74 dX7_tell_156 rfl rfl ?_
        refine A_iload4 (pc := 159) dX7_tell_159 ?_
        refine A_ialdN (pc := 161) (i := y) dX7_tell_161 rfl rfl hy9 (by decide) ?_
        refine A_iadd (pc := 162) dX7_tell_162 ?_
        rw [show (1 : Int32) + nI (t.2.1 y) = nI (1 + t.2.1 y) from nI_add 1 _]
        refine A_iload2 (pc := 163) dX7_tell_163 ?_
        refine A_iload3 (pc := 164) dX7_tell_164 ?_
        refine A_cvv (pc := 165) cvX7_169 (mp_offer (t := t) (fun x hx => by have := (hT x hx).1; omega) (fun x hx => by have := (hT x hx).2.1; omega) i (p kd + t.1 y) (1 + t.2.1 y) kd nb (by omega) (by omega) (by omega)) dX7_tell_165 rfl rfl rfl rfl (Nat.le_of_ble_eq_true rfl) (by decide) (by decide) (by decide) ?_
        refine A_iinc3 (pc := 168) dX7_tell_168 (by decide) (nI_1 nb) ?_
        refine A_goto (pc := 171) (tgt := 91) dX7_tell_171 (by decide) ?_
        exact ih (nb + 1) (Bd + 1) _ _ _ (by omega) (by omega) hT1 (by omega) hC

set_option maxHeartbeats 4000000 in
set_option maxRecDepth 100000 in
theorem mlp_te1n {a : MA} {c : XV} {n : MN} {p : Nat → Nat} {al : Int32} {s : MS} {r : MR} {w : MW} {k : MK} {pl : MP} {fr : Nat → Nat} {t : MT} {rest : AH} {post : Post} (i kd : Nat) (hkd : kd < 9) (hal : alI al (nI kd) = false) (m : Nat) : ∀ (nb : Nat) (x4 : Option Value) (_ : nb + m = moN kd + 1) (_ : ∀ (x3 x4 : Option Value), AW mX7_tell 4 0 0 0 0 174 [some (.ref 25), some (.int (nI i)), some (.int (nI kd)), x3, x4] [] (MX c n p al s r w k a pl fr t rest) post), AW mX7_tell 4 0 0 0 0 91 [some (.ref 25), some (.int (nI i)), some (.int (nI kd)), some (.int (nI nb)), x4] [] (MX c n p al s r w k a pl fr t rest) post := by
  induction m with
  | zero =>
    intro nb x4 hm hC
    refine A_iload3 (pc := 91) dX7_tell_91 ?_
    refine A_iload2 (pc := 92) dX7_tell_92 ?_
    refine A_csi (pc := 93) csX7_111 (mp_mostOf kd (by omega)) dX7_tell_93 rfl rfl (Nat.le_of_ble_eq_true rfl) (by decide) (by decide) (by decide) ?_
    refine A_icmp_gt (pc := 96) (tgt := 174) dX7_tell_96 (by decide) (fun c96 => ?_) (fun c96 => absurd (show nI (moN kd) < nI nb from nI_lt (by omega) (by have := moN_le kd; omega)) c96)
    exact hC _ _
  | succ m ih =>
    intro nb x4 hm hC
    refine A_iload3 (pc := 91) dX7_tell_91 ?_
    refine A_iload2 (pc := 92) dX7_tell_92 ?_
    refine A_csi (pc := 93) csX7_111 (mp_mostOf kd (by omega)) dX7_tell_93 rfl rfl (Nat.le_of_ble_eq_true rfl) (by decide) (by decide) (by decide) ?_
    refine A_icmp_gt (pc := 96) (tgt := 174) dX7_tell_96 (by decide) (fun c96 => absurd c96 (show ¬ nI (moN kd) < nI nb from nI_nlt (by omega) (by have := moN_le kd; omega))) (fun c96 => ?_)
    refine A_aload0 (pc := 99) dX7_tell_99 ?_
    refine A_iload2 (pc := 100) dX7_tell_100 ?_
    refine A_cvi (pc := 101) cvX7_162 (mp_isAllowed _) dX7_tell_101 rfl rfl rfl rfl (Nat.le_of_ble_eq_true rfl) (by decide) (by decide) (by decide) ?_
    rw [hal]
    refine A_if_eq (pc := 104) (tgt := 117) dX7_tell_104 (by decide) (fun c104 => ?_) (fun c104 => absurd rfl c104)
    refine A_iconst (pc := 117) (v := -1) dX7_tell_117 (by decide) ?_
    refine A_istore4 (pc := 118) dX7_tell_118 (by decide) ?_
    refine A_iload4 (pc := 120) dX7_tell_120 ?_
    refine A_iconst (pc := 122) (v := -1) dX7_tell_122 (by decide) ?_
    refine A_icmp_eq (pc := 123) (tgt := 168) dX7_tell_123 (by decide) (fun c123 => ?_) (fun c123 => absurd rfl c123)
    refine A_iinc3 (pc := 168) dX7_tell_168 (by decide) (nI_1 nb) ?_
    refine A_goto (pc := 171) (tgt := 91) dX7_tell_171 (by decide) ?_
    exact ih (nb + 1) _ (by omega) hC

set_option maxHeartbeats 4000000 in
set_option maxRecDepth 100000 in
theorem mlp_te2 {c : XV} {n : MN} {p : Nat → Nat} {al : Int32} {s : MS} {r : MR} {w : MW} {k : MK} {pl : MP} {fr : Nat → Nat} {rest : AH} {post : Post} (hl : VL n.2.2.1) (hnm : ∀ x, x < 96 → n.2.2.2 x < 2 ^ 31) (hsg : ∀ x, x < 24 → n.2.1 x < 2 ^ 31) (hr1 : r.2.1 < 24) (hr2 : r.2.2.1 < 4) (hr3 : r.2.2.2.1 ≤ 30) (hr4 : ∀ i, i < r.2.2.2.1 → r.2.2.2.2 i < 4) (hpl : ∀ j, j ≤ r.2.2.2.1 → pl.1 j < 24 ∧ pl.2 j < 4) (i : Nat) (hi : i < r.2.2.2.1) (hp5 : ∀ q, q < 9 → p q ≤ 50) (m : Nat) : ∀ (kd Bd : Nat) (t : MT) (a : MA) (x3 x4 : Option Value) (_ : kd + m = 9) (_ : TB Bd t) (_ : Bd + 10 * m < 2 ^ 30) (_ : ∀ (a : MA) (x2 x3 x4 : Option Value), AW mX7_tell 4 0 0 0 0 180 [some (.ref 25), some (.int (nI i)), x2, x3, x4] [] (MX c n p al s r w k a pl fr (itT (oaK (axT n r pl) p al i) m kd t) rest) post), AW mX7_tell 4 0 0 0 0 72 [some (.ref 25), some (.int (nI i)), some (.int (nI kd)), x3, x4] [] (MX c n p al s r w k a pl fr t rest) post := by
  induction m with
  | zero =>
    intro kd Bd t a x3 x4 hm hT hB hC
    refine A_iload2 (pc := 72) dX7_tell_72 ?_
    refine A_bipush (pc := 73) (v := 9) dX7_tell_73 (by decide) ?_
    refine A_icmp_ge (pc := 75) (tgt := 180) dX7_tell_75 (by decide) (fun c75 => ?_) (fun c75 => absurd (show nI 9 ≤ nI kd from nI_le (by omega) (by omega)) c75)
    exact hC a _ _ _
  | succ m ih =>
    intro kd Bd t a x3 x4 hm hT hB hC
    have e8 : itT (oaK (axT n r pl) p al i) (m + 1) kd t = itT (oaK (axT n r pl) p al i) m (kd + 1) (oaK (axT n r pl) p al i kd t) := rfl
    rw [e8] at hC
    have hT1 : TB (Bd + 10) (oaK (axT n r pl) p al i kd t) := hT.K (fun nb y hy => by have := axT_le hy; omega) (hp5 kd (by omega)) (by omega)
    have hmo := moN_le kd
    have hlm := lo_le kd
    by_cases hal : alI al (nI kd) = true
    · by_cases hz : moN kd = 0
      · have hlo : loN kd = 0 := if_pos hz
        refine A_iload2 (pc := 72) dX7_tell_72 ?_
        refine A_bipush (pc := 73) (v := 9) dX7_tell_73 (by decide) ?_
        refine A_icmp_ge (pc := 75) (tgt := 180) dX7_tell_75 (by decide) (fun c75 => absurd c75 (show ¬ nI 9 ≤ nI kd from nI_ge (by omega) (by decide))) (fun c75 => ?_)
        refine A_iload2 (pc := 78) dX7_tell_78 ?_
        refine A_csi (pc := 79) csX7_111 (mp_mostOf kd (by omega)) dX7_tell_79 rfl rfl (Nat.le_of_ble_eq_true rfl) (by decide) (by decide) (by decide) ?_
        refine A_if_le (pc := 82) (tgt := 89) dX7_tell_82 (by decide) (fun c82 => ?_) (fun c82 => absurd (show nI (moN kd) ≤ 0 from by rw [hz]; decide) c82)
        refine A_iconst (pc := 89) (v := 0) dX7_tell_89 (by decide) ?_
        refine A_istore3 (pc := 90) dX7_tell_90 (by decide) ?_
        refine mlp_te1 hl hnm hsg hr1 hr2 hr3 hr4 hpl i kd hi (by omega) hal hp5 (moN kd + 1 - loN kd) 0 Bd t a _ (by omega) (by omega) hT (by omega) (fun a2 y3 y4 => ?_)
        refine A_iinc2 (pc := 174) dX7_tell_174 (by decide) (nI_1 kd) ?_
        refine A_goto (pc := 177) (tgt := 72) dX7_tell_177 (by decide) ?_
        have e7 : oaK (axT n r pl) p al i kd t = itT (oaS (axT n r pl) p i kd) (moN kd + 1 - loN kd) 0 t := by unfold oaK; rw [if_pos hal, hlo]
        rw [← e7]
        exact ih (kd + 1) (Bd + 10) _ a2 _ _ (by omega) hT1 (by omega) hC
      · have hlo : loN kd = 1 := if_neg hz
        refine A_iload2 (pc := 72) dX7_tell_72 ?_
        refine A_bipush (pc := 73) (v := 9) dX7_tell_73 (by decide) ?_
        refine A_icmp_ge (pc := 75) (tgt := 180) dX7_tell_75 (by decide) (fun c75 => absurd c75 (show ¬ nI 9 ≤ nI kd from nI_ge (by omega) (by decide))) (fun c75 => ?_)
        refine A_iload2 (pc := 78) dX7_tell_78 ?_
        refine A_csi (pc := 79) csX7_111 (mp_mostOf kd (by omega)) dX7_tell_79 rfl rfl (Nat.le_of_ble_eq_true rfl) (by decide) (by decide) (by decide) ?_
        refine A_if_le (pc := 82) (tgt := 89) dX7_tell_82 (by decide) (fun c82 => absurd c82 (show ¬ nI (moN kd) ≤ nI 0 from nI_ge (by omega) (by omega))) (fun c82 => ?_)
        refine A_iconst (pc := 85) (v := 1) dX7_tell_85 (by decide) ?_
        refine A_goto (pc := 86) (tgt := 90) dX7_tell_86 (by decide) ?_
        refine A_istore3 (pc := 90) dX7_tell_90 (by decide) ?_
        refine mlp_te1 hl hnm hsg hr1 hr2 hr3 hr4 hpl i kd hi (by omega) hal hp5 (moN kd + 1 - loN kd) 1 Bd t a _ (by omega) (by omega) hT (by omega) (fun a2 y3 y4 => ?_)
        refine A_iinc2 (pc := 174) dX7_tell_174 (by decide) (nI_1 kd) ?_
        refine A_goto (pc := 177) (tgt := 72) dX7_tell_177 (by decide) ?_
        have e7 : oaK (axT n r pl) p al i kd t = itT (oaS (axT n r pl) p i kd) (moN kd + 1 - loN kd) 1 t := by unfold oaK; rw [if_pos hal, hlo]
        rw [← e7]
        exact ih (kd + 1) (Bd + 10) _ a2 _ _ (by omega) hT1 (by omega) hC
    · have hal2 : alI al (nI kd) = false := by
        cases hh : alI al (nI kd) with
        | true => exact absurd hh hal
        | false => rfl
      by_cases hz : moN kd = 0
      · have hlo : loN kd = 0 := if_pos hz
        refine A_iload2 (pc := 72) dX7_tell_72 ?_
        refine A_bipush (pc := 73) (v := 9) dX7_tell_73 (by decide) ?_
        refine A_icmp_ge (pc := 75) (tgt := 180) dX7_tell_75 (by decide) (fun c75 => absurd c75 (show ¬ nI 9 ≤ nI kd from nI_ge (by omega) (by decide))) (fun c75 => ?_)
        refine A_iload2 (pc := 78) dX7_tell_78 ?_
        refine A_csi (pc := 79) csX7_111 (mp_mostOf kd (by omega)) dX7_tell_79 rfl rfl (Nat.le_of_ble_eq_true rfl) (by decide) (by decide) (by decide) ?_
        refine A_if_le (pc := 82) (tgt := 89) dX7_tell_82 (by decide) (fun c82 => ?_) (fun c82 => absurd (show nI (moN kd) ≤ 0 from by rw [hz]; decide) c82)
        refine A_iconst (pc := 89) (v := 0) dX7_tell_89 (by decide) ?_
        refine A_istore3 (pc := 90) dX7_tell_90 (by decide) ?_
        refine mlp_te1n i kd (by omega) hal2 (moN kd + 1 - loN kd) 0 _ (by omega) (fun y3 y4 => ?_)
        refine A_iinc2 (pc := 174) dX7_tell_174 (by decide) (nI_1 kd) ?_
        refine A_goto (pc := 177) (tgt := 72) dX7_tell_177 (by decide) ?_
        have e7 : oaK (axT n r pl) p al i kd t = t := by unfold oaK; rw [if_neg hal]
        rw [e7] at hC hT1
        exact ih (kd + 1) (Bd + 10) _ a _ _ (by omega) hT1 (by omega) hC
      · have hlo : loN kd = 1 := if_neg hz
        refine A_iload2 (pc := 72) dX7_tell_72 ?_
        refine A_bipush (pc := 73) (v := 9) dX7_tell_73 (by decide) ?_
        refine A_icmp_ge (pc := 75) (tgt := 180) dX7_tell_75 (by decide) (fun c75 => absurd c75 (show ¬ nI 9 ≤ nI kd from nI_ge (by omega) (by decide))) (fun c75 => ?_)
        refine A_iload2 (pc := 78) dX7_tell_78 ?_
        refine A_csi (pc := 79) csX7_111 (mp_mostOf kd (by omega)) dX7_tell_79 rfl rfl (Nat.le_of_ble_eq_true rfl) (by decide) (by decide) (by decide) ?_
        refine A_if_le (pc := 82) (tgt := 89) dX7_tell_82 (by decide) (fun c82 => absurd c82 (show ¬ nI (moN kd) ≤ nI 0 from nI_ge (by omega) (by omega))) (fun c82 => ?_)
        refine A_iconst (pc := 85) (v := 1) dX7_tell_85 (by decide) ?_
        refine A_goto (pc := 86) (tgt := 90) dX7_tell_86 (by decide) ?_
        refine A_istore3 (pc := 90) dX7_tell_90 (by decide) ?_
        refine mlp_te1n i kd (by omega) hal2 (moN kd + 1 - loN kd) 1 _ (by omega) (fun y3 y4 => ?_)
        refine A_iinc2 (pc := 174) dX7_tell_174 (by decide) (nI_1 kd) ?_
        refine A_goto (pc := 177) (tgt := 72) dX7_tell_177 (by decide) ?_
        have e7 : oaK (axT n r pl) p al i kd t = t := by unfold oaK; rw [if_neg hal]
        rw [e7] at hC hT1
        exact ih (kd + 1) (Bd + 10) _ a _ _ (by omega) hT1 (by omega) hC

set_option maxHeartbeats 4000000 in
set_option maxRecDepth 100000 in
theorem mlp_te3 {c : XV} {n : MN} {p : Nat → Nat} {al : Int32} {s : MS} {r : MR} {w : MW} {k : MK} {pl : MP} {fr : Nat → Nat} {rest : AH} {post : Post} (hl : VL n.2.2.1) (hnm : ∀ x, x < 96 → n.2.2.2 x < 2 ^ 31) (hsg : ∀ x, x < 24 → n.2.1 x < 2 ^ 31) (hr1 : r.2.1 < 24) (hr2 : r.2.2.1 < 4) (hr3 : r.2.2.2.1 ≤ 30) (hr4 : ∀ i, i < r.2.2.2.1 → r.2.2.2.2 i < 4) (hpl : ∀ j, j ≤ r.2.2.2.1 → pl.1 j < 24 ∧ pl.2 j < 4) (hp5 : ∀ q, q < 9 → p q ≤ 50) (m : Nat) : ∀ (Bd : Nat) (t : MT) (a : MA) (x2 x3 x4 : Option Value) (_ : m ≤ r.2.2.2.1) (_ : TB Bd t) (_ : Bd + 90 * m + 90 < 2 ^ 30) (_ : ∀ (a : MA) (x1 x2 x3 x4 : Option Value), AW mX7_tell 4 0 0 0 0 186 [some (.ref 25), x1, x2, x3, x4] [] (MX c n p al s r w k a pl fr (tlT (axT n r pl) p al m t) rest) post), AW mX7_tell 4 0 0 0 0 58 [some (.ref 25), some (.int (dI m)), x2, x3, x4] [] (MX c n p al s r w k a pl fr t rest) post := by
  induction m with
  | zero =>
    intro Bd t a x2 x3 x4 hm hT hB hC
    refine A_iload1 (pc := 58) dX7_tell_58 ?_
    refine A_if_lt (pc := 59) (tgt := 186) dX7_tell_59 (by decide) (fun c59 => ?_) (fun c59 => absurd (show dI 0 < 0 from by decide) c59)
    exact hC a _ _ _ _
  | succ m ih =>
    intro Bd t a x2 x3 x4 hm hT hB hC
    have hT1 := (hT.big m).A (al := al) (fun kd nb y (hy : axT n r pl m kd nb = some y) => by have := axT_le hy; omega) hp5
    refine A_iload1 (pc := 58) dX7_tell_58 ?_
    refine A_if_lt (pc := 59) (tgt := 186) dX7_tell_59 (by decide) (fun c59 => absurd c59 (show ¬ nI m < 0 from nI_pos (by omega))) (fun c59 => ?_)
    refine A_aload0 (pc := 62) dX7_tell_62 ?_
    refine A_getf (pc := 63) flX7_71 dX7_tell_63 rfl rfl ?_
    refine A_iload1 (pc := 66) dX7_tell_66 ?_
    refine A_ldc (pc := 67) dX7_tell_67 kcX7_161 ?_
    refine A_iastN (pc := 69) (i := m) (v := BIG) dX7_tell_69 rfl rfl (show (268435456 : Int32) = nI BIG from rfl) (by omega) (by decide) ?_
    refine AW.heq (hp' := MX c n p al s r w k a pl fr ((updN t.1 m BIG, t.2)) rest) rfl ?_
    refine A_iconst (pc := 70) (v := 0) dX7_tell_70 (by decide) ?_
    refine A_istore2 (pc := 71) dX7_tell_71 (by decide) ?_
    refine mlp_te2 hl hnm hsg hr1 hr2 hr3 hr4 hpl m (by omega) hp5 9 0 Bd (updN t.1 m BIG, t.2) a _ _ (by omega) (hT.big m) (by omega) (fun a2 y2 y3 y4 => ?_)
    refine A_iinc1 (pc := 180) dX7_tell_180 (by decide) (dI_dec m) ?_
    refine A_goto (pc := 183) (tgt := 58) dX7_tell_183 (by decide) ?_
    exact ih (Bd + 90) _ a2 _ _ _ (by omega) hT1 (by omega) hC

set_option maxHeartbeats 4000000 in
set_option maxRecDepth 100000 in
theorem mlp_te4 {c : XV} {n : MN} {p : Nat → Nat} {al : Int32} {r : MR} {w : MW} {k : MK} {pl : MP} {fr : Nat → Nat} {t : MT} {rest : AH} {post : Post} (hl : VL n.2.2.1) (hnm : ∀ x, x < 96 → n.2.2.2 x < 2 ^ 31) (hsg : ∀ x, x < 24 → n.2.1 x < 2 ^ 31) (hr1 : r.2.1 < 24) (hr2 : r.2.2.1 < 4) (hr3 : r.2.2.2.1 ≤ 30) (hr4 : ∀ i, i < r.2.2.2.1 → r.2.2.2.2 i < 4) (hpl : ∀ j, j ≤ r.2.2.2.1 → pl.1 j < 24 ∧ pl.2 j < 4) {Bd : Nat} (hT : TB Bd t) (m : Nat) : ∀ (i : Nat) (s : MS) (a : MA) (x2 x3 x4 : Option Value) (_ : tlC (axT n r pl) t.2.2.1 t.2.2.2 r.2.2.2.1 m i) (_ : s.1 + m ≤ 60) (_ : i ≤ r.2.2.2.1) (_ : ∀ (a : MA) (x1 : Option Value), AW mX7_tell 4 0 0 0 0 275 [some (.ref 25), x1, x2, x3, x4] [] (MX c n p al (tlS (axT n r pl) t.2.2.1 t.2.2.2 m i s) r w k a pl fr t rest) post), AW mX7_tell 4 0 0 0 0 206 [some (.ref 25), some (.int (nI i)), x2, x3, x4] [] (MX c n p al s r w k a pl fr t rest) post := by
  induction m with
  | zero =>
    intro i s a x2 x3 x4 hch hs hi hC
    have hch : i = r.2.2.2.1 := hch
    refine A_iload1 (pc := 206) dX7_tell_206 ?_
    refine A_aload0 (pc := 207) dX7_tell_207 ?_
    refine A_getf (pc := 208) flX7_101 dX7_tell_208 rfl rfl ?_
    refine A_icmp_ge (pc := 211) (tgt := 275) dX7_tell_211 (by decide) (fun c211 => ?_) (fun c211 => absurd (show nI r.2.2.2.1 ≤ nI i from nI_le (by omega) (by omega)) c211)
    exact hC a _
  | succ m ih =>
    intro i s a x2 x3 x4 hch hs hi hC
    obtain ⟨hlt, y, hy, hch⟩ := hch
    have hti := hT i (by omega)
    have hti4 := hti.2.2.2.1
    have hy8 := axT_le hy
    have hf1 : (alT n r pl a i (t.2.2.1 i) (t.2.2.2 i)).1 = some y := by rw [alT_1]; exact hy
    have e8 : tlS (axT n r pl) t.2.2.1 t.2.2.2 (m + 1) i s = tlS (axT n r pl) t.2.2.1 t.2.2.2 m y (s.1 + 1, updN s.2.1 s.1 (t.2.2.1 i), updN s.2.2 s.1 (t.2.2.2 i)) := by
      show tlS (axT n r pl) t.2.2.1 t.2.2.2 m (((axT n r pl) i (t.2.2.1 i) (t.2.2.2 i)).getD 0) _ = _
      rw [hy]
      rfl
    rw [e8] at hC
    refine A_iload1 (pc := 206) dX7_tell_206 ?_
    refine A_aload0 (pc := 207) dX7_tell_207 ?_
    refine A_getf (pc := 208) flX7_101 dX7_tell_208 rfl rfl ?_
    refine A_icmp_ge (pc := 211) (tgt := 275) dX7_tell_211 (by decide) (fun c211 => absurd c211 (show ¬ nI r.2.2.2.1 ≤ nI i from nI_ge (by omega) (by omega))) (fun c211 => ?_)
    refine A_aload0 (pc := 214) dX7_tell_214 ?_
    refine A_getf (pc := 215) flX7_26 dX7_tell_215 rfl rfl ?_
    refine A_aload0 (pc := 218) dX7_tell_218 ?_
    refine A_getf (pc := 219) flX7_136 dX7_tell_219 rfl rfl ?_
    refine A_aload0 (pc := 222) dX7_tell_222 ?_
    refine A_getf (pc := 223) flX7_77 dX7_tell_223 rfl rfl ?_
    refine A_iload1 (pc := 226) dX7_tell_226 ?_
    refine A_ialdN (pc := 227) (i := i) dX7_tell_227 rfl rfl (by omega) (by decide) ?_
    refine A_iastN (pc := 228) (i := s.1) (v := (t.2.2.1 i)) dX7_tell_228 rfl rfl rfl (by omega) (by decide) ?_
    refine A_aload0 (pc := 229) dX7_tell_229 ?_
    refine A_getf (pc := 230) flX7_29 dX7_tell_230 rfl rfl ?_
    refine A_aload0 (pc := 233) dX7_tell_233 ?_
    refine A_getf (pc := 234) flX7_136 dX7_tell_234 rfl rfl ?_
    refine A_aload0 (pc := 237) dX7_tell_237 ?_
    refine A_getf (pc := 238) flX7_80 dX7_tell_238 rfl rfl ?_
    refine A_iload1 (pc := 241) dX7_tell_241 ?_
    refine A_ialdN (pc := 242) (i := i) dX7_tell_242 rfl rfl (by omega) (by decide) ?_
    refine A_iastN (pc := 243) (i := s.1) (v := (t.2.2.2 i)) dX7_tell_243 rfl rfl rfl (by omega) (by decide) ?_
    refine A_aload0 (pc := 244) dX7_tell_244 ?_
    refine A_dup (pc := 245) dX7_tell_245 rfl ?_
    refine A_getf (pc := 246) flX7_136 dX7_tell_246 rfl rfl ?_
    refine A_iconst (pc := 249) (v := 1) dX7_tell_249 (by decide) ?_
    refine A_iadd (pc := 250) dX7_tell_250 ?_
    rw [nI_1]
    refine A_putf (pc := 251) flX7_136 ft7_8 dX7_tell_251 rfl (Nat.le_of_ble_eq_true rfl) (fun _ => ⟨rfl, rfl⟩) ?_
    refine AW.heq (hp' := MX c n p al ((s.1 + 1, updN s.2.1 s.1 (t.2.2.1 i), updN s.2.2 s.1 (t.2.2.2 i))) r w k a pl fr t rest) rfl ?_
    refine A_aload0 (pc := 254) dX7_tell_254 ?_
    refine A_iload1 (pc := 255) dX7_tell_255 ?_
    refine A_aload0 (pc := 256) dX7_tell_256 ?_
    refine A_getf (pc := 257) flX7_77 dX7_tell_257 rfl rfl ?_
    refine A_iload1 (pc := 260) dX7_tell_260 ?_
    refine A_ialdN (pc := 261) (i := i) dX7_tell_261 rfl rfl (by omega) (by decide) ?_
    refine A_aload0 (pc := 262) dX7_tell_262 ?_
    refine A_getf (pc := 263) flX7_80 dX7_tell_263 rfl rfl ?_
    refine A_iload1 (pc := 266) dX7_tell_266 ?_
    refine A_ialdN (pc := 267) (i := i) dX7_tell_267 rfl rfl (by omega) (by decide) ?_
    refine A_cvi (pc := 268) cvX7_165 (mp_along hl hnm hsg hr1 hr2 hr3 hr4 i (t.2.2.1 i) (t.2.2.2 i) (by omega) (hpl i (by omega)).1 (hpl i (by omega)).2 hti.2.2.1 (by omega) hti.2.2.2.2) dX7_tell_268 rfl rfl rfl rfl (Nat.le_of_ble_eq_true rfl) (by decide) (by decide) (by decide) ?_
    rw [hf1]
    refine A_istore1 (pc := 271) dX7_tell_271 (by decide) ?_
    refine A_goto (pc := 272) (tgt := 206) dX7_tell_272 (by decide) ?_
    exact ih y (s.1 + 1, updN s.2.1 s.1 (t.2.2.1 i), updN s.2.2 s.1 (t.2.2.2 i)) _ _ _ _ hch (by show s.1 + 1 + m ≤ 60; omega) hy8 hC

def Qte (v : Int32) (c : XV) (n : MN) (p : Nat → Nat) (al : Int32) (s : MS) (r : MR) (w : MW) (k : MK) (pl : MP) (fr : Nat → Nat) (t : MT) (rest : AH) : Post := fun q h => q = some (.int v) ∧ ∃ a : MA, h = MX c n p al s r w k a pl fr t rest
set_option maxHeartbeats 4000000 in
set_option maxRecDepth 100000 in
theorem mp_tell0 {c : XV} {n : MN} {p : Nat → Nat} {al : Int32} {s : MS} {r : MR} {w : MW} {k : MK} {a : MA} {pl : MP} {fr : Nat → Nat} {t : MT} {rest : AH} (hr : r.1 = false) : AS mX7_tell 0 0 0 [.ref 25] (MX c n p al s r w k a pl fr t rest) (P1 (-1) (MX c n p al s r w k a pl fr t rest)) := by
  refine AS.go (lv := [some (.ref 25), none, none, none, none]) rfl ?_ (by decide +kernel) rfl (Nat.le_of_ble_eq_true rfl)
  refine A_aload0 (pc := 0) dX7_tell_0 ?_
  refine A_getf (pc := 1) flX7_104 dX7_tell_1 rfl rfl ?_
  refine A_if_ne (pc := 4) (tgt := 9) dX7_tell_4 (by decide) (fun c4 => absurd (show bI r.1 = 0 from by rw [hr]; rfl) c4) (fun c4 => ?_)
  refine A_iconst (pc := 7) (v := -1) dX7_tell_7 (by decide) ?_
  exact A_iret (pc := 8) dX7_tell_8 rfl rfl (by decide) (by decide) (⟨rfl, rfl⟩)

set_option maxHeartbeats 4000000 in
set_option maxRecDepth 100000 in
theorem mp_tell1 {c : XV} {n : MN} {p : Nat → Nat} {al : Int32} {s : MS} {r : MR} {w : MW} {k : MK} {a : MA} {pl : MP} {fr : Nat → Nat} {t : MT} {rest : AH} (hl : VL n.2.2.1) (hnm : ∀ x, x < 96 → n.2.2.2 x < 2 ^ 31) (hsg : ∀ x, x < 24 → n.2.1 x < 2 ^ 31) (hr1 : r.2.1 < 24) (hr2 : r.2.2.1 < 4) (hr3 : r.2.2.2.1 ≤ 30) (hr4 : ∀ i, i < r.2.2.2.1 → r.2.2.2.2 i < 4) (hp5 : ∀ q, q < 9 → p q ≤ 50) (hr : r.1 = true) (hw : (foP n.2.2.1 r.2.2.2.2 0 r.2.2.2.1 r.2.1 r.2.2.1 pl).1 = true) {Bd : Nat} (hT : TB Bd t) (hB : Bd + 10000 < 2 ^ 30) (m : Nat) (hm : m ≤ 60) (hch : (tlT (axT n r (goP n r pl)) p al r.2.2.2.1 (updN t.1 r.2.2.2.1 0, updN t.2.1 r.2.2.2.1 0, t.2.2)).1 0 < BIG → tlC (axT n r (goP n r pl)) (tlT (axT n r (goP n r pl)) p al r.2.2.2.1 (updN t.1 r.2.2.2.1 0, updN t.2.1 r.2.2.2.1 0, t.2.2)).2.2.1 (tlT (axT n r (goP n r pl)) p al r.2.2.2.1 (updN t.1 r.2.2.2.1 0, updN t.2.1 r.2.2.2.1 0, t.2.2)).2.2.2 r.2.2.2.1 m 0) : AS mX7_tell 4 0 0 [.ref 25] (MX c n p al s r w k a pl fr t rest) (Qte (if (tlT (axT n r (goP n r pl)) p al r.2.2.2.1 (updN t.1 r.2.2.2.1 0, updN t.2.1 r.2.2.2.1 0, t.2.2)).1 0 < BIG then nI ((tlT (axT n r (goP n r pl)) p al r.2.2.2.1 (updN t.1 r.2.2.2.1 0, updN t.2.1 r.2.2.2.1 0, t.2.2)).1 0) else -1) c n p al (if (tlT (axT n r (goP n r pl)) p al r.2.2.2.1 (updN t.1 r.2.2.2.1 0, updN t.2.1 r.2.2.2.1 0, t.2.2)).1 0 < BIG then tlS (axT n r (goP n r pl)) (tlT (axT n r (goP n r pl)) p al r.2.2.2.1 (updN t.1 r.2.2.2.1 0, updN t.2.1 r.2.2.2.1 0, t.2.2)).2.2.1 (tlT (axT n r (goP n r pl)) p al r.2.2.2.1 (updN t.1 r.2.2.2.1 0, updN t.2.1 r.2.2.2.1 0, t.2.2)).2.2.2 m 0 (0, s.2) else s) r w k (goP n r pl) fr (tlT (axT n r (goP n r pl)) p al r.2.2.2.1 (updN t.1 r.2.2.2.1 0, updN t.2.1 r.2.2.2.1 0, t.2.2)) rest) := by
  refine AS.go (lv := [some (.ref 25), none, none, none, none]) rfl ?_ (by decide +kernel) rfl (Nat.le_of_ble_eq_true rfl)
  refine A_aload0 (pc := 0) dX7_tell_0 ?_
  refine A_getf (pc := 1) flX7_104 dX7_tell_1 rfl rfl ?_
  refine A_if_ne (pc := 4) (tgt := 9) dX7_tell_4 (by decide) (fun c4 => ?_) (fun c4 => absurd c4 (show ¬ bI r.1 = 0 from by rw [hr]; decide))
  have hpl : ∀ j, j ≤ r.2.2.2.1 → (goP n r pl).1 j < 24 ∧ (goP n r pl).2 j < 4 := foP_ok hl (fun j hj => by rw [Nat.zero_add]; exact hr4 j hj) hr1 hr2 hw
  have hT0 : TB Bd (updN t.1 r.2.2.2.1 0, updN t.2.1 r.2.2.2.1 0, t.2.2) := fun x hx => by
    have h1 := hT x hx
    refine ⟨?_, ?_, h1.2.2⟩
    · show updN t.1 r.2.2.2.1 0 x ≤ BIG + 50
      unfold updN
      split
      · omega
      · exact h1.1
    · show updN t.2.1 r.2.2.2.1 0 x ≤ Bd
      unfold updN
      split
      · omega
      · exact h1.2.1
  have hTT : TB (Bd + 90 * r.2.2.2.1) (tlT (axT n r (goP n r pl)) p al r.2.2.2.1 (updN t.1 r.2.2.2.1 0, updN t.2.1 r.2.2.2.1 0, t.2.2)) := TB.tl _ _ _ (fun x kd nb y _ hy => by have := axT_le hy; omega) hp5 hT0
  have hB9 : BIG = 268435456 := rfl
  generalize hgT : (tlT (axT n r (goP n r pl)) p al r.2.2.2.1 (updN t.1 r.2.2.2.1 0, updN t.2.1 r.2.2.2.1 0, t.2.2)) = T at hTT hch ⊢
  refine A_aload0 (pc := 9) dX7_tell_9 ?_
  refine A_aload0 (pc := 10) dX7_tell_10 ?_
  refine A_getf (pc := 11) flX7_98 dX7_tell_11 rfl rfl ?_
  refine A_aload0 (pc := 14) dX7_tell_14 ?_
  refine A_getf (pc := 15) flX7_154 dX7_tell_15 rfl rfl ?_
  refine A_aload0 (pc := 18) dX7_tell_18 ?_
  refine A_getf (pc := 19) flX7_32 dX7_tell_19 rfl rfl ?_
  refine A_iconst (pc := 22) (v := 0) dX7_tell_22 (by decide) ?_
  refine A_aload0 (pc := 23) dX7_tell_23 ?_
  refine A_getf (pc := 24) flX7_101 dX7_tell_24 rfl rfl ?_
  refine A_cvi (pc := 27) cvX7_157 (mp_follow (q := 32) (N := 30) (M := r.2.2.2.1) (g := r.2.2.2.2) hl (fun _ => rfl) (by decide) 0 (by omega) hr3 (fun j hj => by rw [Nat.zero_add]; exact hr4 j hj) r.2.1 r.2.2.1 hr1) dX7_tell_27 rfl rfl rfl rfl (Nat.le_of_ble_eq_true rfl) (by decide) (by decide) (by decide) ?_
  refine AW.heq (hp' := MX c n p al s r w k a ((goP n r pl)) fr t rest) rfl ?_
  refine A_pop (pc := 30) dX7_tell_30 rfl ?_
  refine A_aload0 (pc := 31) dX7_tell_31 ?_
  refine A_getf (pc := 32) flX7_71 dX7_tell_32 rfl rfl ?_
  refine A_aload0 (pc := 35) dX7_tell_35 ?_
  refine A_getf (pc := 36) flX7_101 dX7_tell_36 rfl rfl ?_
  refine A_iconst (pc := 39) (v := 0) dX7_tell_39 (by decide) ?_
  refine A_iastN (pc := 40) (i := r.2.2.2.1) (v := 0) dX7_tell_40 rfl rfl rfl (by omega) (by decide) ?_
  refine A_aload0 (pc := 41) dX7_tell_41 ?_
  refine A_getf (pc := 42) flX7_74 dX7_tell_42 rfl rfl ?_
  refine A_aload0 (pc := 45) dX7_tell_45 ?_
  refine A_getf (pc := 46) flX7_101 dX7_tell_46 rfl rfl ?_
  refine A_iconst (pc := 49) (v := 0) dX7_tell_49 (by decide) ?_
  refine A_iastN (pc := 50) (i := r.2.2.2.1) (v := 0) dX7_tell_50 rfl rfl rfl (by omega) (by decide) ?_
  refine AW.heq (hp' := MX c n p al s r w k a ((goP n r pl)) fr ((updN t.1 r.2.2.2.1 0, updN t.2.1 r.2.2.2.1 0, t.2.2)) rest) rfl ?_
  refine A_aload0 (pc := 51) dX7_tell_51 ?_
  refine A_getf (pc := 52) flX7_101 dX7_tell_52 rfl rfl ?_
  refine A_iconst (pc := 55) (v := 1) dX7_tell_55 (by decide) ?_
  refine A_isub (pc := 56) dX7_tell_56 ?_
  rw [dI_sub]
  refine A_istore1 (pc := 57) dX7_tell_57 (by decide) ?_
  refine mlp_te3 hl hnm hsg hr1 hr2 hr3 hr4 hpl hp5 r.2.2.2.1 Bd (updN t.1 r.2.2.2.1 0, updN t.2.1 r.2.2.2.1 0, t.2.2) a _ _ _ (Nat.le_refl _) hT0 (by omega) (fun a2 y1 y2 y3 y4 => ?_)
  rw [hgT]
  refine A_aload0 (pc := 186) dX7_tell_186 ?_
  refine A_getf (pc := 187) flX7_71 dX7_tell_187 rfl rfl ?_
  refine A_iconst (pc := 190) (v := 0) dX7_tell_190 (by decide) ?_
  refine A_ialdN (pc := 191) (i := 0) dX7_tell_191 rfl rfl (by decide) (by decide) ?_
  refine A_ldc (pc := 192) dX7_tell_192 kcX7_161 ?_
  refine A_icmp_lt (pc := 194) (tgt := 199) dX7_tell_194 (by decide) (fun c194 => ?_) (fun c194 => ?_)
  · have d194 : T.1 0 < BIG := (nI_ltI (by have := (hTT 0 (by decide)).1; omega) (by decide)).mp c194
    rw [if_pos d194, if_pos d194]
    refine A_aload0 (pc := 199) dX7_tell_199 ?_
    refine A_iconst (pc := 200) (v := 0) dX7_tell_200 (by decide) ?_
    refine A_putf (pc := 201) flX7_136 ft7_8 dX7_tell_201 rfl (Nat.le_of_ble_eq_true rfl) (fun _ => ⟨rfl, rfl⟩) ?_
    refine A_iconst (pc := 204) (v := 0) dX7_tell_204 (by decide) ?_
    refine A_istore1 (pc := 205) dX7_tell_205 (by decide) ?_
    refine mlp_te4 hl hnm hsg hr1 hr2 hr3 hr4 hpl hTT m 0 (0, s.2) a2 _ _ _ (hch d194) (by show 0 + m ≤ 60; omega) (Nat.zero_le _) (fun a3 z1 => ?_)
    refine A_aload0 (pc := 275) dX7_tell_275 ?_
    refine A_getf (pc := 276) flX7_71 dX7_tell_276 rfl rfl ?_
    refine A_iconst (pc := 279) (v := 0) dX7_tell_279 (by decide) ?_
    refine A_ialdN (pc := 280) (i := 0) dX7_tell_280 rfl rfl (by decide) (by decide) ?_
    exact A_iret (pc := 281) dX7_tell_281 rfl rfl (by decide) (by decide) (⟨rfl, a3, rfl⟩)
  · have d194 : ¬ T.1 0 < BIG := fun q => c194 (nI_lt q (by decide))
    rw [if_neg d194, if_neg d194]
    refine A_iconst (pc := 197) (v := -1) dX7_tell_197 (by decide) ?_
    exact A_iret (pc := 198) dX7_tell_198 rfl rfl (by decide) (by decide) (⟨rfl, a2, rfl⟩)
