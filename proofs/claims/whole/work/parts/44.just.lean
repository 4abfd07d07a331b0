/-! the model: offerJust, tell -/
theorem TB.A9 {nx : Nat → Nat → Nat → Option Nat} {p : Nat → Nat} {al : Int32} {s : Nat} (hy : ∀ kd nb y, nx s kd nb = some y → y < 96) (hp : ∀ q, q < 9 → p q ≤ 50) (m : Nat) : ∀ (kd B : Nat) (t : MT), kd + m = 9 → TB B t → TB (B + 10 * m) (itT (oaK nx p al s) m kd t) := by
  induction m with
  | zero => intro kd B t _ h; exact h
  | succ m ih =>
    intro kd B t h1 h
    exact (ih (kd + 1) (B + 10) _ (by omega) (h.K (hy kd) (hp kd (by omega)) (by omega))).mono (by omega)
theorem TB.A {B : Nat} {t : MT} {nx : Nat → Nat → Nat → Option Nat} {p : Nat → Nat} {al : Int32} {s : Nat} (h : TB B t) (hy : ∀ kd nb y, nx s kd nb = some y → y < 96) (hp : ∀ q, q < 9 → p q ≤ 50) : TB (B + 90) (oaA nx p al s t) := TB.A9 hy hp 9 0 B t rfl h
def fnN (P : Nat → Nat → Bool) (kd : Nat) : Nat → Nat → Option (Nat × Nat)
  | 0, _ => none
  | m + 1, nb => if P kd nb = true then some (kd, nb) else fnN P kd m (nb + 1)
def fnB (P : Nat → Nat → Bool) (al : Int32) (kd : Nat) : Option (Nat × Nat) := if alI al (nI kd) = true then fnN P kd (moN kd + 1 - loN kd) (loN kd) else none
def fnK (P : Nat → Nat → Bool) (al : Int32) : Nat → Nat → Option (Nat × Nat)
  | 0, _ => none
  | m + 1, kd => match fnB P al kd with
    | some z => some z
    | none => fnK P al m (kd + 1)
def ojP (nx : Nat → Nat → Nat → Option Nat) (p : Nat → Nat) (P M : Nat → Nat) (s pr mn kd nb : Nat) : Bool := match nx s kd nb with
  | none => false
  | some y => if y = s then false else if p kd + P y = pr then decide (1 + M y = mn) else false
def sjT (t : MT) (s pr mn : Nat) (z : Nat × Nat) : MT := (updN t.1 s pr, updN t.2.1 s mn, updN t.2.2.1 s z.1, updN t.2.2.2 s z.2)

set_option maxHeartbeats 4000000 in
set_option maxRecDepth 100000 in
theorem mlp_oj1 {c : XV} {n : MN} {p : Nat → Nat} {al : Int32} {s : MS} {r : MR} {w : MW} {k : MK} {pl : MP} {fr : Nat → Nat} {t : MT} {rest : AH} {post : Post} (hl : VL n.2.2.1) (hnm : ∀ x, x < 96 → n.2.2.2 x < 2 ^ 31) (hsg : ∀ x, x < 24 → n.2.1 x < 2 ^ 31) (st kd : Nat) (hst : st < 96) (hkd : kd < 9) (hal : alI al (nI kd) = true) (hp5 : ∀ q, q < 9 → p q ≤ 50) {Bd : Nat} (hT : TB Bd t) (hB : Bd < 2 ^ 30) (pr mn : Nat) (hpr : pr < 2 ^ 31) (hmn : mn < 2 ^ 31) (m : Nat) : ∀ (nb : Nat) (a : MA) (x6 : Option Value) (_ : nb + m = moN kd + 1) (_ : loN kd ≤ nb) (_ : ∀ (a : MA) (z : Nat × Nat), fnN (ojP (nxT n) p t.1 t.2.1 st pr mn) kd m nb = some z → post none (MX c n p al s r w k a pl fr (sjT t st pr mn z) rest)) (_ : ∀ (a : MA) (x5 x6 : Option Value), fnN (ojP (nxT n) p t.1 t.2.1 st pr mn) kd m nb = none → AW mX7_offerJust 4 0 0 0 0 139 [some (.ref 25), some (.int (nI st)), some (.int (nI pr)), some (.int (nI mn)), some (.int (nI kd)), x5, x6] [] (MX c n p al s r w k a pl fr t rest) post), AW mX7_offerJust 4 0 0 0 0 25 [some (.ref 25), some (.int (nI st)), some (.int (nI pr)), some (.int (nI mn)), some (.int (nI kd)), some (.int (nI nb)), x6] [] (MX c n p al s r w k a pl fr t rest) post := by
  induction m with
  | zero =>
    intro nb a x6 hm hlo hF hN
    refine A_iload5 (pc := 25) dX7_offerJust_25 ?_
    refine A_iload4 (pc := 27) dX7_offerJust_27 ?_
    refine A_csi (pc := 29) csX7_111 (mp_mostOf kd (by omega)) dX7_offerJust_29 rfl rfl (Nat.le_of_ble_eq_true rfl) (by decide) (by decide) (by decide) ?_
    refine A_icmp_gt (pc := 32) (tgt := 139) dX7_offerJust_32 (by decide) (fun c32 => ?_) (fun c32 => absurd (show nI (moN kd) < nI nb from nI_lt (by omega) (by have := moN_le kd; omega)) c32)
    exact hN a _ _ rfl
  | succ m ih =>
    intro nb a x6 hm hlo hF hN
    have hf1 : (frT n a st kd nb).1 = nxT n st kd nb := frT_1
    have e8 : fnN (ojP (nxT n) p t.1 t.2.1 st pr mn) kd (m + 1) nb = if (ojP (nxT n) p t.1 t.2.1 st pr mn) kd nb = true then some (kd, nb) else fnN (ojP (nxT n) p t.1 t.2.1 st pr mn) kd m (nb + 1) := rfl
    rw [e8] at hF hN
    have hB9 : BIG = 268435456 := rfl
    cases hy : nxT n st kd nb with
    | none =>
      have e7 : (ojP (nxT n) p t.1 t.2.1 st pr mn) kd nb = false := by unfold ojP; rw [hy]
      rw [if_neg (by rw [e7]; decide)] at hF hN
      refine A_iload5 (pc := 25) dX7_offerJust_25 ?_
      refine A_iload4 (pc := 27) dX7_offerJust_27 ?_
      refine A_csi (pc := 29) csX7_111 (mp_mostOf kd (by omega)) dX7_offerJust_29 rfl rfl (Nat.le_of_ble_eq_true rfl) (by decide) (by decide) (by decide) ?_
      refine A_icmp_gt (pc := 32) (tgt := 139) dX7_offerJust_32 (by decide) (fun c32 => absurd c32 (show ¬ nI (moN kd) < nI nb from nI_nlt (by omega) (by have := moN_le kd; omega))) (fun c32 => ?_)
      refine A_aload0 (pc := 35) dX7_offerJust_35 ?_
      refine A_iload4 (pc := 36) dX7_offerJust_36 ?_
      refine A_cvi (pc := 38) cvX7_162 (mp_isAllowed _) dX7_offerJust_38 rfl rfl rfl rfl (Nat.le_of_ble_eq_true rfl) (by decide) (by decide) (by decide) ?_
      rw [hal]
      refine A_if_eq (pc := 41) (tgt := 139) dX7_offerJust_41 (by decide) (fun c41 => absurd c41 (by decide)) (fun c41 => ?_)
      refine A_aload0 (pc := 44) dX7_offerJust_44 ?_
      refine A_iload1 (pc := 45) dX7_offerJust_45 ?_
      refine A_iload4 (pc := 46) dX7_offerJust_46 ?_
      refine A_iload5 (pc := 48) dX7_offerJust_48 ?_
      refine A_cvi (pc := 50) cvX7_185 (mp_from hl hnm hsg st kd nb hst hkd (by have := moN_le kd; omega) (lo_45 hlo)) dX7_offerJust_50 rfl rfl rfl rfl (Nat.le_of_ble_eq_true rfl) (by decide) (by decide) (by decide) ?_
      rw [hf1, hy]
      refine A_istore6 (pc := 53) dX7_offerJust_53 (by decide) ?_
      refine A_iload6 (pc := 55) dX7_offerJust_55 ?_
      refine A_iconst (pc := 57) (v := -1) dX7_offerJust_57 (by decide) ?_
      refine A_icmp_eq (pc := 58) (tgt := 133) dX7_offerJust_58 (by decide) (fun c58 => ?_) (fun c58 => absurd rfl c58)
      refine A_iinc5 (pc := 133) dX7_offerJust_133 (by decide) (nI_1 nb) ?_
      refine A_goto (pc := 136) (tgt := 25) dX7_offerJust_136 (by decide) ?_
      exact ih (nb + 1) _ _ (by omega) (by omega) hF hN
    | some y =>
      have hy9 := nxT_lt hl hst hy
      have e7 : (ojP (nxT n) p t.1 t.2.1 st pr mn) kd nb = (if y = st then false else if p kd + t.1 y = pr then decide (1 + t.2.1 y = mn) else false) := by unfold ojP; rw [hy]
      have hty := hT y hy9
      have hpk := hp5 kd hkd
      refine A_iload5 (pc := 25) dX7_offerJust_25 ?_
      refine A_iload4 (pc := 27) dX7_offerJust_27 ?_
      refine A_csi (pc := 29) csX7_111 (mp_mostOf kd (by omega)) dX7_offerJust_29 rfl rfl (Nat.le_of_ble_eq_true rfl) (by decide) (by decide) (by decide) ?_
      refine A_icmp_gt (pc := 32) (tgt := 139) dX7_offerJust_32 (by decide) (fun c32 => absurd c32 (show ¬ nI (moN kd) < nI nb from nI_nlt (by omega) (by have := moN_le kd; omega))) (fun c32 => ?_)
      refine A_aload0 (pc := 35) dX7_offerJust_35 ?_
      refine A_iload4 (pc := 36) dX7_offerJust_36 ?_
      refine A_cvi (pc := 38) cvX7_162 (mp_isAllowed _) dX7_offerJust_38 rfl rfl rfl rfl (Nat.le_of_ble_eq_true rfl) (by decide) (by decide) (by decide) ?_
      rw [hal]
      refine A_if_eq (pc := 41) (tgt := 139) dX7_offerJust_41 (by decide) (fun c41 => absurd c41 (by decide)) (fun c41 => ?_)
      refine A_aload0 (pc := 44) dX7_offerJust_44 ?_
      refine A_iload1 (pc := 45) dX7_offerJust_45 ?_
      refine A_iload4 (pc := 46) dX7_offerJust_46 ?_
      refine A_iload5 (pc := 48) dX7_offerJust_48 ?_
      refine A_cvi (pc := 50) cvX7_185 (mp_from hl hnm hsg st kd nb hst hkd (by have := moN_le kd; omega) (lo_45 hlo)) dX7_offerJust_50 rfl rfl rfl rfl (Nat.le_of_ble_eq_true rfl) (by decide) (by decide) (by decide) ?_
      rw [hf1, hy]
      refine A_istore6 (pc := 53) dX7_offerJust_53 (by decide) ?_
      refine A_iload6 (pc := 55) dX7_offerJust_55 ?_
      refine A_iconst (pc := 57) (v := -1) dX7_offerJust_57 (by decide) ?_
      refine A_icmp_eq (pc := 58) (tgt := 133) dX7_offerJust_58 (by decide) (fun c58 => absurd c58 (oI_some (by omega))) (fun c58 => ?_)
      refine A_iload6 (pc := 61) dX7_offerJust_61 ?_
      refine A_iload1 (pc := 63) dX7_offerJust_63 ?_
      refine A_icmp_eq (pc := 64) (tgt := 133) dX7_offerJust_64 (by decide) (fun c64 => ?_) (fun c64 => ?_)
      · have d64 : y = st := (nI_eq (by omega) (by omega)).mp c64
        rw [if_neg (by rw [e7, if_pos d64]; decide)] at hF hN
        refine A_iinc5 (pc := 133) dX7_offerJust_133 (by decide) (nI_1 nb) ?_
        refine A_goto (pc := 136) (tgt := 25) dX7_offerJust_136 (by decide) ?_
        exact ih (nb + 1) _ _ (by omega) (by omega) hF hN
      · have d64 : ¬ y = st := fun q => c64 (show nI y = nI st from by rw [q])
        refine A_aload0 (pc := 67) dX7_offerJust_67 ?_
        refine A_getf (pc := 68) flX7_19 dX7_offerJust_68 rfl rfl ?_
        refine A_iload4 (pc := 71) dX7_offerJust_71 ?_
        refine A_ialdN (pc := 73) (i := kd) dX7_offerJust_73 rfl rfl hkd (by decide) ?_
        refine A_aload0 (pc := 74) dX7_offerJust_74 ?_
        refine A_getf (pc := 75) flX7_71 dX7_offerJust_75 rfl rfl ?_
        refine A_iload6 (pc := 78) dX7_offerJust_78 ?_
        refine A_ialdN (pc := 80) (i := y) dX7_offerJust_80 rfl rfl hy9 (by decide) ?_
        refine A_iadd (pc := 81) dX7_offerJust_81 ?_
        rw [nI_add]
        refine A_iload2 (pc := 82) dX7_offerJust_82 ?_
        refine A_icmp_ne (pc := 83) (tgt := 133) dX7_offerJust_83 (by decide) (fun c83 => ?_) (fun c83 => ?_)
        · have d83 : ¬ p kd + t.1 y = pr := fun q => c83 (by rw [q])
          rw [if_neg (by rw [e7, if_neg d64, if_neg d83]; decide)] at hF hN
          refine A_iinc5 (pc := 133) dX7_offerJust_133 (by decide) (nI_1 nb) ?_
          refine A_goto (pc := 136) (tgt := 25) dX7_offerJust_136 (by decide) ?_
          exact ih (nb + 1) _ _ (by omega) (by omega) hF hN
        · have d83 : p kd + t.1 y = pr := (nI_eq (by omega) (by omega)).mp c83
          refine A_iconst (pc := 86) (v := 1) dX7_offerJust_86 (by decide) ?_
          refine A_aload0 (pc := 87) dX7_offerJust_87 ?_
          refine A_getf (pc := 88) flX7_74 dX7_offerJust_88 rfl rfl ?_
          refine A_iload6 (pc := 91) dX7_offerJust_91 ?_
          refine A_ialdN (pc := 93) (i := y) dX7_offerJust_93 rfl rfl hy9 (by decide) ?_
          refine A_iadd (pc := 94) dX7_offerJust_94 ?_
          rw [show (1 : Int32) + nI (t.2.1 y) = nI (1 + t.2.1 y) from nI_add 1 _]
          refine A_iload3 (pc := 95) dX7_offerJust_95 ?_
          refine A_icmp_eq (pc := 96) (tgt := 102) dX7_offerJust_96 (by decide) (fun c96 => ?_) (fun c96 => ?_)
          · have d96 : 1 + t.2.1 y = mn := (nI_eq (by omega) (by omega)).mp c96
            rw [if_pos (by rw [e7, if_neg d64, if_pos d83]; exact decide_eq_true d96)] at hF hN
            refine A_aload0 (pc := 102) dX7_offerJust_102 ?_
            refine A_getf (pc := 103) flX7_71 dX7_offerJust_103 rfl rfl ?_
            refine A_iload1 (pc := 106) dX7_offerJust_106 ?_
            refine A_iload2 (pc := 107) dX7_offerJust_107 ?_
            refine A_iastN (pc := 108) (i := st) (v := pr) dX7_offerJust_108 rfl rfl rfl hst (by decide) ?_
            refine A_aload0 (pc := 109) dX7_offerJust_109 ?_
            refine A_getf (pc := 110) flX7_74 dX7_offerJust_110 rfl rfl ?_
            refine A_iload1 (pc := 113) dX7_offerJust_113 ?_
            refine A_iload3 (pc := 114) dX7_offerJust_114 ?_
            refine A_iastN (pc := 115) (i := st) (v := mn) dX7_offerJust_115 rfl rfl rfl hst (by decide) ?_
            refine A_aload0 (pc := 116) dX7_offerJust_116 ?_
            refine A_getf (pc := 117) flX7_77 dX7_offerJust_117 rfl rfl ?_
            refine A_iload1 (pc := 120) dX7_offerJust_120 ?_
            refine A_iload4 (pc := 121) dX7_offerJust_121 ?_
            refine A_iastN (pc := 123) (i := st) (v := kd) dX7_offerJust_123 rfl rfl rfl hst (by decide) ?_
            refine A_aload0 (pc := 124) dX7_offerJust_124 ?_
            refine A_getf (pc := 125) flX7_80 dX7_offerJust_125 rfl rfl ?_
            refine A_iload1 (pc := 128) dX7_offerJust_128 ?_
            refine A_iload5 (pc := 129) dX7_offerJust_129 ?_
            refine A_iastN (pc := 131) (i := st) (v := nb) dX7_offerJust_131 rfl rfl rfl hst (by decide) ?_
            exact A_vret (pc := 132) dX7_offerJust_132 rfl (by decide) (by decide) (hF _ (kd, nb) rfl)
          · have d96 : ¬ 1 + t.2.1 y = mn := fun q => c96 (by rw [q])
            rw [if_neg (by rw [e7, if_neg d64, if_pos d83, decide_eq_false d96]; decide)] at hF hN
            refine A_goto (pc := 99) (tgt := 133) dX7_offerJust_99 (by decide) ?_
            refine A_iinc5 (pc := 133) dX7_offerJust_133 (by decide) (nI_1 nb) ?_
            refine A_goto (pc := 136) (tgt := 25) dX7_offerJust_136 (by decide) ?_
            exact ih (nb + 1) _ _ (by omega) (by omega) hF hN

set_option maxHeartbeats 4000000 in
set_option maxRecDepth 100000 in
theorem mlp_oj2 {c : XV} {n : MN} {p : Nat → Nat} {al : Int32} {s : MS} {r : MR} {w : MW} {k : MK} {pl : MP} {fr : Nat → Nat} {t : MT} {rest : AH} {post : Post} (hl : VL n.2.2.1) (hnm : ∀ x, x < 96 → n.2.2.2 x < 2 ^ 31) (hsg : ∀ x, x < 24 → n.2.1 x < 2 ^ 31) (st : Nat) (hst : st < 96) (hp5 : ∀ q, q < 9 → p q ≤ 50) {Bd : Nat} (hT : TB Bd t) (hB : Bd < 2 ^ 30) (pr mn : Nat) (hpr : pr < 2 ^ 31) (hmn : mn < 2 ^ 31) (m : Nat) : ∀ (kd : Nat) (a : MA) (x5 x6 : Option Value) (_ : kd + m = 9) (_ : ∀ (a : MA) (z : Nat × Nat), fnK (ojP (nxT n) p t.1 t.2.1 st pr mn) al m kd = some z → post none (MX c n p al s r w k a pl fr (sjT t st pr mn z) rest)) (_ : ∀ (a : MA) (x4 x5 x6 : Option Value), fnK (ojP (nxT n) p t.1 t.2.1 st pr mn) al m kd = none → AW mX7_offerJust 4 0 0 0 0 145 [some (.ref 25), some (.int (nI st)), some (.int (nI pr)), some (.int (nI mn)), x4, x5, x6] [] (MX c n p al s r w k a pl fr t rest) post), AW mX7_offerJust 4 0 0 0 0 3 [some (.ref 25), some (.int (nI st)), some (.int (nI pr)), some (.int (nI mn)), some (.int (nI kd)), x5, x6] [] (MX c n p al s r w k a pl fr t rest) post := by
  induction m with
  | zero =>
    intro kd a x5 x6 hm hF hN
    refine A_iload4 (pc := 3) dX7_offerJust_3 ?_
    refine A_bipush (pc := 5) (v := 9) dX7_offerJust_5 (by decide) ?_
    refine A_icmp_ge (pc := 7) (tgt := 145) dX7_offerJust_7 (by decide) (fun c7 => ?_) (fun c7 => absurd (show nI 9 ≤ nI kd from nI_le (by omega) (by omega)) c7)
    exact hN a _ _ _ rfl
  | succ m ih =>
    intro kd a x5 x6 hm hF hN
    have e8 : fnK (ojP (nxT n) p t.1 t.2.1 st pr mn) al (m + 1) kd = (match fnB (ojP (nxT n) p t.1 t.2.1 st pr mn) al kd with
      | some z => some z
      | none => fnK (ojP (nxT n) p t.1 t.2.1 st pr mn) al m (kd + 1)) := rfl
    rw [e8] at hF hN
    have hmo := moN_le kd
    have hlm := lo_le kd
    by_cases hal : alI al (nI kd) = true
    · by_cases hz : moN kd = 0
      · have hlo : loN kd = 0 := if_pos hz
        refine A_iload4 (pc := 3) dX7_offerJust_3 ?_
        refine A_bipush (pc := 5) (v := 9) dX7_offerJust_5 (by decide) ?_
        refine A_icmp_ge (pc := 7) (tgt := 145) dX7_offerJust_7 (by decide) (fun c7 => absurd c7 (show ¬ nI 9 ≤ nI kd from nI_ge (by omega) (by decide))) (fun c7 => ?_)
        refine A_iload4 (pc := 10) dX7_offerJust_10 ?_
        refine A_csi (pc := 12) csX7_111 (mp_mostOf kd (by omega)) dX7_offerJust_12 rfl rfl (Nat.le_of_ble_eq_true rfl) (by decide) (by decide) (by decide) ?_
        refine A_if_le (pc := 15) (tgt := 22) dX7_offerJust_15 (by decide) (fun c15 => ?_) (fun c15 => absurd (show nI (moN kd) ≤ 0 from by rw [hz]; decide) c15)
        refine A_iconst (pc := 22) (v := 0) dX7_offerJust_22 (by decide) ?_
        refine A_istore5 (pc := 23) dX7_offerJust_23 (by decide) ?_
        have e6 : fnB (ojP (nxT n) p t.1 t.2.1 st pr mn) al kd = fnN (ojP (nxT n) p t.1 t.2.1 st pr mn) kd (moN kd + 1 - loN kd) 0 := by unfold fnB; rw [if_pos hal, hlo]
        rw [e6] at hF hN
        refine mlp_oj1 hl hnm hsg st kd hst (by omega) hal hp5 hT hB pr mn hpr hmn (moN kd + 1 - loN kd) 0 a _ (by omega) (by omega) (fun a2 z hz2 => ?_) (fun a2 y5 y6 hz2 => ?_)
        · rw [hz2] at hF
          exact hF a2 z rfl
        · rw [hz2] at hF hN
          refine A_iinc4 (pc := 139) dX7_offerJust_139 (by decide) (nI_1 kd) ?_
          refine A_goto (pc := 142) (tgt := 3) dX7_offerJust_142 (by decide) ?_
          exact ih (kd + 1) a2 _ _ (by omega) hF hN
      · have hlo : loN kd = 1 := if_neg hz
        refine A_iload4 (pc := 3) dX7_offerJust_3 ?_
        refine A_bipush (pc := 5) (v := 9) dX7_offerJust_5 (by decide) ?_
        refine A_icmp_ge (pc := 7) (tgt := 145) dX7_offerJust_7 (by decide) (fun c7 => absurd c7 (show ¬ nI 9 ≤ nI kd from nI_ge (by omega) (by decide))) (fun c7 => ?_)
        refine A_iload4 (pc := 10) dX7_offerJust_10 ?_
        refine A_csi (pc := 12) csX7_111 (mp_mostOf kd (by omega)) dX7_offerJust_12 rfl rfl (Nat.le_of_ble_eq_true rfl) (by decide) (by decide) (by decide) ?_
        refine A_if_le (pc := 15) (tgt := 22) dX7_offerJust_15 (by decide) (fun c15 => absurd c15 (show ¬ nI (moN kd) ≤ nI 0 from nI_ge (by omega) (by omega))) (fun c15 => ?_)
        refine A_iconst (pc := 18) (v := 1) dX7_offerJust_18 (by decide) ?_
        refine A_goto (pc := 19) (tgt := 23) dX7_offerJust_19 (by decide) ?_
        refine A_istore5 (pc := 23) dX7_offerJust_23 (by decide) ?_
        have e6 : fnB (ojP (nxT n) p t.1 t.2.1 st pr mn) al kd = fnN (ojP (nxT n) p t.1 t.2.1 st pr mn) kd (moN kd + 1 - loN kd) 1 := by unfold fnB; rw [if_pos hal, hlo]
        rw [e6] at hF hN
        refine mlp_oj1 hl hnm hsg st kd hst (by omega) hal hp5 hT hB pr mn hpr hmn (moN kd + 1 - loN kd) 1 a _ (by omega) (by omega) (fun a2 z hz2 => ?_) (fun a2 y5 y6 hz2 => ?_)
        · rw [hz2] at hF
          exact hF a2 z rfl
        · rw [hz2] at hF hN
          refine A_iinc4 (pc := 139) dX7_offerJust_139 (by decide) (nI_1 kd) ?_
          refine A_goto (pc := 142) (tgt := 3) dX7_offerJust_142 (by decide) ?_
          exact ih (kd + 1) a2 _ _ (by omega) hF hN
    · by_cases hz : moN kd = 0
      · have hlo : loN kd = 0 := if_pos hz
        refine A_iload4 (pc := 3) dX7_offerJust_3 ?_
        refine A_bipush (pc := 5) (v := 9) dX7_offerJust_5 (by decide) ?_
        refine A_icmp_ge (pc := 7) (tgt := 145) dX7_offerJust_7 (by decide) (fun c7 => absurd c7 (show ¬ nI 9 ≤ nI kd from nI_ge (by omega) (by decide))) (fun c7 => ?_)
        refine A_iload4 (pc := 10) dX7_offerJust_10 ?_
        refine A_csi (pc := 12) csX7_111 (mp_mostOf kd (by omega)) dX7_offerJust_12 rfl rfl (Nat.le_of_ble_eq_true rfl) (by decide) (by decide) (by decide) ?_
        refine A_if_le (pc := 15) (tgt := 22) dX7_offerJust_15 (by decide) (fun c15 => ?_) (fun c15 => absurd (show nI (moN kd) ≤ 0 from by rw [hz]; decide) c15)
        refine A_iconst (pc := 22) (v := 0) dX7_offerJust_22 (by decide) ?_
        refine A_istore5 (pc := 23) dX7_offerJust_23 (by decide) ?_
        refine A_iload5 (pc := 25) dX7_offerJust_25 ?_
        refine A_iload4 (pc := 27) dX7_offerJust_27 ?_
        refine A_csi (pc := 29) csX7_111 (mp_mostOf kd (by omega)) dX7_offerJust_29 rfl rfl (Nat.le_of_ble_eq_true rfl) (by decide) (by decide) (by decide) ?_
        refine A_icmp_gt (pc := 32) (tgt := 139) dX7_offerJust_32 (by decide) (fun c32 => absurd c32 (show ¬ nI (moN kd) < nI 0 from nI_nlt (by omega) (by omega))) (fun c32 => ?_)
        refine A_aload0 (pc := 35) dX7_offerJust_35 ?_
        refine A_iload4 (pc := 36) dX7_offerJust_36 ?_
        refine A_cvi (pc := 38) cvX7_162 (mp_isAllowed _) dX7_offerJust_38 rfl rfl rfl rfl (Nat.le_of_ble_eq_true rfl) (by decide) (by decide) (by decide) ?_
        rw [show alI al (nI kd) = false from by cases hh : alI al (nI kd) with
          | true => exact absurd hh hal
          | false => rfl]
        refine A_if_eq (pc := 41) (tgt := 139) dX7_offerJust_41 (by decide) (fun c41 => ?_) (fun c41 => absurd rfl c41)
        refine A_iinc4 (pc := 139) dX7_offerJust_139 (by decide) (nI_1 kd) ?_
        refine A_goto (pc := 142) (tgt := 3) dX7_offerJust_142 (by decide) ?_
        have e6 : fnB (ojP (nxT n) p t.1 t.2.1 st pr mn) al kd = none := by unfold fnB; rw [if_neg hal]
        rw [e6] at hF hN
        exact ih (kd + 1) a _ _ (by omega) hF hN
      · have hlo : loN kd = 1 := if_neg hz
        refine A_iload4 (pc := 3) dX7_offerJust_3 ?_
        refine A_bipush (pc := 5) (v := 9) dX7_offerJust_5 (by decide) ?_
        refine A_icmp_ge (pc := 7) (tgt := 145) dX7_offerJust_7 (by decide) (fun c7 => absurd c7 (show ¬ nI 9 ≤ nI kd from nI_ge (by omega) (by decide))) (fun c7 => ?_)
        refine A_iload4 (pc := 10) dX7_offerJust_10 ?_
        refine A_csi (pc := 12) csX7_111 (mp_mostOf kd (by omega)) dX7_offerJust_12 rfl rfl (Nat.le_of_ble_eq_true rfl) (by decide) (by decide) (by decide) ?_
        refine A_if_le (pc := 15) (tgt := 22) dX7_offerJust_15 (by decide) (fun c15 => absurd c15 (show ¬ nI (moN kd) ≤ nI 0 from nI_ge (by omega) (by omega))) (fun c15 => ?_)
        refine A_iconst (pc := 18) (v := 1) dX7_offerJust_18 (by decide) ?_
        refine A_goto (pc := 19) (tgt := 23) dX7_offerJust_19 (by decide) ?_
        refine A_istore5 (pc := 23) dX7_offerJust_23 (by decide) ?_
        refine A_iload5 (pc := 25) dX7_offerJust_25 ?_
        refine A_iload4 (pc := 27) dX7_offerJust_27 ?_
        refine A_csi (pc := 29) csX7_111 (mp_mostOf kd (by omega)) dX7_offerJust_29 rfl rfl (Nat.le_of_ble_eq_true rfl) (by decide) (by decide) (by decide) ?_
        refine A_icmp_gt (pc := 32) (tgt := 139) dX7_offerJust_32 (by decide) (fun c32 => absurd c32 (show ¬ nI (moN kd) < nI 1 from nI_nlt (by omega) (by omega))) (fun c32 => ?_)
        refine A_aload0 (pc := 35) dX7_offerJust_35 ?_
        refine A_iload4 (pc := 36) dX7_offerJust_36 ?_
        refine A_cvi (pc := 38) cvX7_162 (mp_isAllowed _) dX7_offerJust_38 rfl rfl rfl rfl (Nat.le_of_ble_eq_true rfl) (by decide) (by decide) (by decide) ?_
        rw [show alI al (nI kd) = false from by cases hh : alI al (nI kd) with
          | true => exact absurd hh hal
          | false => rfl]
        refine A_if_eq (pc := 41) (tgt := 139) dX7_offerJust_41 (by decide) (fun c41 => ?_) (fun c41 => absurd rfl c41)
        refine A_iinc4 (pc := 139) dX7_offerJust_139 (by decide) (nI_1 kd) ?_
        refine A_goto (pc := 142) (tgt := 3) dX7_offerJust_142 (by decide) ?_
        have e6 : fnB (ojP (nxT n) p t.1 t.2.1 st pr mn) al kd = none := by unfold fnB; rw [if_neg hal]
        rw [e6] at hF hN
        exact ih (kd + 1) a _ _ (by omega) hF hN

set_option maxHeartbeats 4000000 in
set_option maxRecDepth 100000 in
theorem mp_offerJust {c : XV} {n : MN} {p : Nat → Nat} {al : Int32} {s : MS} {r : MR} {w : MW} {k : MK} {a : MA} {pl : MP} {fr : Nat → Nat} {t : MT} {rest : AH} (hl : VL n.2.2.1) (hnm : ∀ x, x < 96 → n.2.2.2 x < 2 ^ 31) (hsg : ∀ x, x < 24 → n.2.1 x < 2 ^ 31) (st : Nat) (hst : st < 96) (hp5 : ∀ q, q < 9 → p q ≤ 50) {Bd : Nat} (hT : TB Bd t) (hB : Bd < 2 ^ 30) (pr mn : Nat) (hpr : pr < 2 ^ 31) (hmn : mn < 2 ^ 31) (z : Nat × Nat) (hz : fnK (ojP (nxT n) p t.1 t.2.1 st pr mn) al 9 0 = some z) : AS mX7_offerJust 4 0 0 [.ref 25, .int (nI st), .int (nI pr), .int (nI mn)] (MX c n p al s r w k a pl fr t rest) (QoA c n p al s r w k pl fr (sjT t st pr mn z) rest) := by
  refine AS.go (lv := [some (.ref 25), some (.int (nI st)), some (.int (nI pr)), some (.int (nI mn)), none, none, none]) rfl ?_ (by decide +kernel) rfl (Nat.le_of_ble_eq_true rfl)
  refine A_iconst (pc := 0) (v := 0) dX7_offerJust_0 (by decide) ?_
  refine A_istore4 (pc := 1) dX7_offerJust_1 (by decide) ?_
  refine mlp_oj2 hl hnm hsg st hst hp5 hT hB pr mn hpr hmn 9 0 a none none (by omega) (fun a2 z2 hz2 => ?_) (fun a2 y4 y5 y6 hz2 => ?_)
  · rw [hz] at hz2
    cases hz2
    exact ⟨rfl, a2, rfl⟩
  · rw [hz] at hz2
    cases hz2
