/-! the model: named, does -/
theorem hs_eq {ld : Nat → Option Nat} {a : MA} {i : Nat} : hsT ld a i = (ld (4 * a.1 + (a.2.1 + i) % 4)).isSome := rfl

set_option maxHeartbeats 4000000 in
set_option maxRecDepth 100000 in
theorem mlp_named {c : XV} {n : MN} {p : Nat → Nat} {al : Int32} {s : MS} {r : MR} {w : MW} {k : MK} {a : MA} {pl : MP} {fr : Nat → Nat} {t : MT} {rest : AH} (hl : VL n.2.2.1) (ha : okA a) (hnm : ∀ x, x < 96 → n.2.2.2 x < 2 ^ 31) (name : Nat) (hname : name < 2 ^ 31) (m : Nat) : ∀ (i : Nat) (fo : Option Nat) (_ : i + m = 4) (_ : ∀ e, fo = some e → e < 4) (x4 : Option Value), AW mX7_goNamed 1 0 0 0 0 4 [some (.ref 25), some (.int (nI name)), some (.int (oI fo)), some (.int (nI i)), x4] [] (MX c n p al s r w k a pl fr t rest) (P1 (bI (gnT n a name m i fo).1) (MX c n p al s r w k ((gnT n a name m i fo).2) pl fr t rest)) := by
  induction m with
  | zero =>
    intro i fo hi hf x4
    cases fo with
    | none =>
      refine A_iload3 (pc := 4) dX7_goNamed_4 ?_
      refine A_iconst (pc := 5) (v := 4) dX7_goNamed_5 (by decide) ?_
      refine A_icmp_ge (pc := 6) (tgt := 72) dX7_goNamed_6 (by decide) (fun c6 => ?_) (fun c6 => absurd (show nI 4 ≤ nI i from nI_le (by omega) (by omega)) c6)
      refine A_iload2 (pc := 72) dX7_goNamed_72 ?_
      refine A_iconst (pc := 73) (v := -1) dX7_goNamed_73 (by decide) ?_
      refine A_icmp_eq (pc := 74) (tgt := 89) dX7_goNamed_74 (by decide) (fun c74 => ?_) (fun c74 => absurd rfl c74)
      refine A_iconst (pc := 89) (v := 0) dX7_goNamed_89 (by decide) ?_
      exact A_iret (pc := 90) dX7_goNamed_90 rfl rfl (by decide) (by decide) (⟨rfl, rfl⟩)
    | some e =>
      refine A_iload3 (pc := 4) dX7_goNamed_4 ?_
      refine A_iconst (pc := 5) (v := 4) dX7_goNamed_5 (by decide) ?_
      refine A_icmp_ge (pc := 6) (tgt := 72) dX7_goNamed_6 (by decide) (fun c6 => ?_) (fun c6 => absurd (show nI 4 ≤ nI i from nI_le (by omega) (by omega)) c6)
      refine A_iload2 (pc := 72) dX7_goNamed_72 ?_
      refine A_iconst (pc := 73) (v := -1) dX7_goNamed_73 (by decide) ?_
      refine A_icmp_eq (pc := 74) (tgt := 89) dX7_goNamed_74 (by decide) (fun c74 => absurd c74 (oI_some (by have := hf e rfl; omega))) (fun c74 => ?_)
      refine A_aload0 (pc := 77) dX7_goNamed_77 ?_
      refine A_iload2 (pc := 78) dX7_goNamed_78 ?_
      refine A_cvi (pc := 79) cvX7_127 (mp_goBy hl ha e (hf e rfl)) dX7_goNamed_79 rfl rfl rfl rfl (Nat.le_of_ble_eq_true rfl) (by decide) (by decide) (by decide) ?_
      refine A_if_eq (pc := 82) (tgt := 89) dX7_goNamed_82 (by decide) (fun c82 => ?_) (fun c82 => ?_)
      · replace c82 := (bI_eq _).mp c82
        refine A_iconst (pc := 89) (v := 0) dX7_goNamed_89 (by decide) ?_
        exact A_iret (pc := 90) dX7_goNamed_90 rfl rfl (by decide) (by decide) (⟨by simp only [gnT, c82]; rfl, rfl⟩)
      · replace c82 := (bI_ne _).mp c82
        refine A_iconst (pc := 85) (v := 1) dX7_goNamed_85 (by decide) ?_
        refine A_goto (pc := 86) (tgt := 90) dX7_goNamed_86 (by decide) ?_
        exact A_iret (pc := 90) dX7_goNamed_90 rfl rfl (by decide) (by decide) (⟨by simp only [gnT, c82]; rfl, rfl⟩)
  | succ m ih =>
    intro i fo hi hf x4
    cases fo with
    | none =>
      refine A_iload3 (pc := 4) dX7_goNamed_4 ?_
      refine A_iconst (pc := 5) (v := 4) dX7_goNamed_5 (by decide) ?_
      refine A_icmp_ge (pc := 6) (tgt := 72) dX7_goNamed_6 (by decide) (fun c6 => absurd c6 (show ¬ nI 4 ≤ nI i from nI_ge (by omega) (by omega))) (fun c6 => ?_)
      refine A_iload3 (pc := 9) dX7_goNamed_9 ?_
      refine A_iconst (pc := 10) (v := 2) dX7_goNamed_10 (by decide) ?_
      refine A_icmp_eq (pc := 11) (tgt := 66) dX7_goNamed_11 (by decide) (fun c11 => ?_) (fun c11 => ?_)
      · have d11 : i = 2 := (nI_eq (by omega) (by decide)).mp c11
        refine A_iinc3 (pc := 66) dX7_goNamed_66 (by decide) (nI_1 i) ?_
        refine A_goto (pc := 69) (tgt := 4) dX7_goNamed_69 (by decide) ?_
        rw [show gnT n a name (m + 1) i (none) = gnT n a name m (i + 1) (none) from if_pos d11]
        exact ih (i + 1) (none) (by omega) hf _
      · have d11 : ¬ i = 2 := fun q => c11 (by rw [q]; rfl)
        refine A_aload0 (pc := 14) dX7_goNamed_14 ?_
        refine A_iload3 (pc := 15) dX7_goNamed_15 ?_
        refine A_cvi (pc := 16) cvX7_124 (mp_has hl ha i (by omega)) dX7_goNamed_16 rfl rfl rfl rfl (Nat.le_of_ble_eq_true rfl) (by decide) (by decide) (by decide) ?_
        refine A_if_ne (pc := 19) (tgt := 25) dX7_goNamed_19 (by decide) (fun c19 => ?_) (fun c19 => ?_)
        · replace c19 := (bI_ne _).mp c19
          refine A_aload0 (pc := 25) dX7_goNamed_25 ?_
          refine A_getf (pc := 26) flX7_121 dX7_goNamed_26 rfl rfl ?_
          refine A_iload3 (pc := 29) dX7_goNamed_29 ?_
          refine A_iadd (pc := 30) dX7_goNamed_30 ?_
          refine A_iconst (pc := 31) (v := 4) dX7_goNamed_31 (by decide) ?_
          refine A_irem (pc := 32) dX7_goNamed_32 (by decide) ?_
          rw [rm4a (by have := ha.2.1; omega)]
          refine A_istore4 (pc := 33) dX7_goNamed_33 (by decide) ?_
          refine A_aload0 (pc := 35) dX7_goNamed_35 ?_
          refine A_getf (pc := 36) flX7_16 dX7_goNamed_36 rfl rfl ?_
          refine A_iconst (pc := 39) (v := 4) dX7_goNamed_39 (by decide) ?_
          refine A_aload0 (pc := 40) dX7_goNamed_40 ?_
          refine A_getf (pc := 41) flX7_115 dX7_goNamed_41 rfl rfl ?_
          refine A_imul (pc := 44) dX7_goNamed_44 ?_
          refine A_iload4 (pc := 45) dX7_goNamed_45 ?_
          refine A_iadd (pc := 47) dX7_goNamed_47 ?_
          refine A_ialdN (pc := 48) (i := (4 * a.1 + (a.2.1 + i) % 4)) dX7_goNamed_48 rfl (ix4 _ _) (by have := ha.1; omega) (by decide) ?_
          refine A_iload1 (pc := 49) dX7_goNamed_49 ?_
          refine A_icmp_eq (pc := 50) (tgt := 56) dX7_goNamed_50 (by decide) (fun c50 => ?_) (fun c50 => ?_)
          · have d50 := (nI_eq (hnm _ (by have := ha.1; omega)) hname).mp c50
            refine A_iload2 (pc := 56) dX7_goNamed_56 ?_
            refine A_iconst (pc := 57) (v := -1) dX7_goNamed_57 (by decide) ?_
            refine A_icmp_eq (pc := 58) (tgt := 63) dX7_goNamed_58 (by decide) (fun c58 => ?_) (fun c58 => absurd rfl c58)
            refine A_iload4 (pc := 63) dX7_goNamed_63 ?_
            refine A_istore2 (pc := 65) dX7_goNamed_65 (by decide) ?_
            refine A_iinc3 (pc := 66) dX7_goNamed_66 (by decide) (nI_1 i) ?_
            refine A_goto (pc := 69) (tgt := 4) dX7_goNamed_69 (by decide) ?_
            simp only [gnT, d11, c19, d50, if_true, if_false, Bool.false_eq_true]
            exact ih (i + 1) (some ((a.2.1 + i) % 4)) (by omega) (fun e h => by cases h; omega) _
          · have d50 : ¬ n.2.2.2 (4 * a.1 + (a.2.1 + i) % 4) = name := fun q => c50 (by rw [q])
            refine A_goto (pc := 53) (tgt := 66) dX7_goNamed_53 (by decide) ?_
            refine A_iinc3 (pc := 66) dX7_goNamed_66 (by decide) (nI_1 i) ?_
            refine A_goto (pc := 69) (tgt := 4) dX7_goNamed_69 (by decide) ?_
            simp only [gnT, d11, c19, d50, if_true, if_false, Bool.false_eq_true]
            exact ih (i + 1) (none) (by omega) hf _
        · replace c19 := (bI_eq _).mp c19
          refine A_goto (pc := 22) (tgt := 66) dX7_goNamed_22 (by decide) ?_
          refine A_iinc3 (pc := 66) dX7_goNamed_66 (by decide) (nI_1 i) ?_
          refine A_goto (pc := 69) (tgt := 4) dX7_goNamed_69 (by decide) ?_
          simp only [gnT, d11, c19, if_true, if_false, Bool.false_eq_true]
          exact ih (i + 1) (none) (by omega) hf _
    | some e =>
      refine A_iload3 (pc := 4) dX7_goNamed_4 ?_
      refine A_iconst (pc := 5) (v := 4) dX7_goNamed_5 (by decide) ?_
      refine A_icmp_ge (pc := 6) (tgt := 72) dX7_goNamed_6 (by decide) (fun c6 => absurd c6 (show ¬ nI 4 ≤ nI i from nI_ge (by omega) (by omega))) (fun c6 => ?_)
      refine A_iload3 (pc := 9) dX7_goNamed_9 ?_
      refine A_iconst (pc := 10) (v := 2) dX7_goNamed_10 (by decide) ?_
      refine A_icmp_eq (pc := 11) (tgt := 66) dX7_goNamed_11 (by decide) (fun c11 => ?_) (fun c11 => ?_)
      · have d11 : i = 2 := (nI_eq (by omega) (by decide)).mp c11
        refine A_iinc3 (pc := 66) dX7_goNamed_66 (by decide) (nI_1 i) ?_
        refine A_goto (pc := 69) (tgt := 4) dX7_goNamed_69 (by decide) ?_
        rw [show gnT n a name (m + 1) i (some e) = gnT n a name m (i + 1) (some e) from if_pos d11]
        exact ih (i + 1) (some e) (by omega) hf _
      · have d11 : ¬ i = 2 := fun q => c11 (by rw [q]; rfl)
        refine A_aload0 (pc := 14) dX7_goNamed_14 ?_
        refine A_iload3 (pc := 15) dX7_goNamed_15 ?_
        refine A_cvi (pc := 16) cvX7_124 (mp_has hl ha i (by omega)) dX7_goNamed_16 rfl rfl rfl rfl (Nat.le_of_ble_eq_true rfl) (by decide) (by decide) (by decide) ?_
        refine A_if_ne (pc := 19) (tgt := 25) dX7_goNamed_19 (by decide) (fun c19 => ?_) (fun c19 => ?_)
        · replace c19 := (bI_ne _).mp c19
          refine A_aload0 (pc := 25) dX7_goNamed_25 ?_
          refine A_getf (pc := 26) flX7_121 dX7_goNamed_26 rfl rfl ?_
          refine A_iload3 (pc := 29) dX7_goNamed_29 ?_
          refine A_iadd (pc := 30) dX7_goNamed_30 ?_
          refine A_iconst (pc := 31) (v := 4) dX7_goNamed_31 (by decide) ?_
          refine A_irem (pc := 32) dX7_goNamed_32 (by decide) ?_
          rw [rm4a (by have := ha.2.1; omega)]
          refine A_istore4 (pc := 33) dX7_goNamed_33 (by decide) ?_
          refine A_aload0 (pc := 35) dX7_goNamed_35 ?_
          refine A_getf (pc := 36) flX7_16 dX7_goNamed_36 rfl rfl ?_
          refine A_iconst (pc := 39) (v := 4) dX7_goNamed_39 (by decide) ?_
          refine A_aload0 (pc := 40) dX7_goNamed_40 ?_
          refine A_getf (pc := 41) flX7_115 dX7_goNamed_41 rfl rfl ?_
          refine A_imul (pc := 44) dX7_goNamed_44 ?_
          refine A_iload4 (pc := 45) dX7_goNamed_45 ?_
          refine A_iadd (pc := 47) dX7_goNamed_47 ?_
          refine A_ialdN (pc := 48) (i := (4 * a.1 + (a.2.1 + i) % 4)) dX7_goNamed_48 rfl (ix4 _ _) (by have := ha.1; omega) (by decide) ?_
          refine A_iload1 (pc := 49) dX7_goNamed_49 ?_
          refine A_icmp_eq (pc := 50) (tgt := 56) dX7_goNamed_50 (by decide) (fun c50 => ?_) (fun c50 => ?_)
          · have d50 := (nI_eq (hnm _ (by have := ha.1; omega)) hname).mp c50
            refine A_iload2 (pc := 56) dX7_goNamed_56 ?_
            refine A_iconst (pc := 57) (v := -1) dX7_goNamed_57 (by decide) ?_
            refine A_icmp_eq (pc := 58) (tgt := 63) dX7_goNamed_58 (by decide) (fun c58 => absurd c58 (oI_some (by have := hf e rfl; omega))) (fun c58 => ?_)
            refine A_iconst (pc := 61) (v := 0) dX7_goNamed_61 (by decide) ?_
            exact A_iret (pc := 62) dX7_goNamed_62 rfl rfl (by decide) (by decide) (⟨by simp only [gnT, d11, c19, d50, if_true, if_false]; rfl, by simp only [gnT, d11, c19, d50, if_true, if_false]⟩)
          · have d50 : ¬ n.2.2.2 (4 * a.1 + (a.2.1 + i) % 4) = name := fun q => c50 (by rw [q])
            refine A_goto (pc := 53) (tgt := 66) dX7_goNamed_53 (by decide) ?_
            refine A_iinc3 (pc := 66) dX7_goNamed_66 (by decide) (nI_1 i) ?_
            refine A_goto (pc := 69) (tgt := 4) dX7_goNamed_69 (by decide) ?_
            simp only [gnT, d11, c19, d50, if_true, if_false, Bool.false_eq_true]
            exact ih (i + 1) (some e) (by omega) hf _
        · replace c19 := (bI_eq _).mp c19
          refine A_goto (pc := 22) (tgt := 66) dX7_goNamed_22 (by decide) ?_
          refine A_iinc3 (pc := 66) dX7_goNamed_66 (by decide) (nI_1 i) ?_
          refine A_goto (pc := 69) (tgt := 4) dX7_goNamed_69 (by decide) ?_
          simp only [gnT, d11, c19, if_true, if_false, Bool.false_eq_true]
          exact ih (i + 1) (some e) (by omega) hf _

set_option maxHeartbeats 4000000 in
set_option maxRecDepth 100000 in
theorem mp_goNamed {c : XV} {n : MN} {p : Nat → Nat} {al : Int32} {s : MS} {r : MR} {w : MW} {k : MK} {a : MA} {pl : MP} {fr : Nat → Nat} {t : MT} {rest : AH} (hl : VL n.2.2.1) (ha : okA a) (hnm : ∀ x, x < 96 → n.2.2.2 x < 2 ^ 31) (name : Nat) (hname : name < 2 ^ 31) : AS mX7_goNamed 1 0 0 [.ref 25, .int (nI name)] (MX c n p al s r w k a pl fr t rest) (P1 (bI (gnT n a name 4 0 none).1) (MX c n p al s r w k ((gnT n a name 4 0 none).2) pl fr t rest)) := by
  refine AS.go (lv := [some (.ref 25), some (.int (nI name)), none, none, none]) rfl ?_ (by decide +kernel) rfl (Nat.le_of_ble_eq_true rfl)
  refine A_iconst (pc := 0) (v := -1) dX7_goNamed_0 (by decide) ?_
  refine A_istore2 (pc := 1) dX7_goNamed_1 (by decide) ?_
  refine A_iconst (pc := 2) (v := 0) dX7_goNamed_2 (by decide) ?_
  refine A_istore3 (pc := 3) dX7_goNamed_3 (by decide) ?_
  exact mlp_named hl ha hnm name hname 4 0 none (by omega) (fun e h => by cases h) none

set_option maxHeartbeats 4000000 in
set_option maxRecDepth 100000 in
theorem mlp_turn {c : XV} {n : MN} {p : Nat → Nat} {al : Int32} {s : MS} {r : MR} {w : MW} {k : MK} {pl : MP} {fr : Nat → Nat} {t : MT} {rest : AH} (hl : VL n.2.2.1) (kd nb ps turn : Nat) (ht : turn < 4) (m : Nat) : ∀ (left : Nat) (a : MA) (_ : okA a) (_ : a.2.2.1 + m = 31) (_ : 1 ≤ left) (_ : left < 2 ^ 31), AW mX7_does 2 0 0 0 0 56 [some (.ref 25), some (.int (nI kd)), some (.int (nI nb)), some (.int (nI ps)), some (.int (nI turn)), some (.int (nI left))] [] (MX c n p al s r w k a pl fr t rest) (P1 (bI (tnT n.2.2.1 turn m left a).1) (MX c n p al s r w k ((tnT n.2.2.1 turn m left a).2) pl fr t rest)) := by
  induction m with
  | zero =>
    intro left a ha hm h1 h2
    exact absurd ha.2.2 (by omega)
  | succ m ih =>
    intro left a ha hm h1 h2
    cases hh : hsT n.2.2.1 a turn with
    | true =>
      refine A_aload0 (pc := 56) dX7_does_56 ?_
      refine A_iload4 (pc := 57) dX7_does_57 ?_
      refine A_cvi (pc := 59) cvX7_124 (mp_has hl ha turn ht) dX7_does_59 rfl rfl rfl rfl (Nat.le_of_ble_eq_true rfl) (by decide) (by decide) (by decide) ?_
      rw [hh]
      change AW mX7_does 2 0 0 0 0 62 _ [.int 1] _ _
      refine A_if_eq (pc := 62) (tgt := 68) dX7_does_62 (by decide) (fun c62 => absurd c62 (by decide)) (fun c62 => ?_)
      refine A_iinc5 (pc := 65) dX7_does_65 (by decide) (sb_m1 (by omega)) ?_
      refine A_iload5 (pc := 68) dX7_does_68 ?_
      refine A_if_ne (pc := 70) (tgt := 87) dX7_does_70 (by decide) (fun c70 => ?_) (fun c70 => ?_)
      · have d70 : ¬ (left - 1) = 0 := fun q => c70 (by rw [q]; rfl)
        refine A_aload0 (pc := 87) dX7_does_87 ?_
        refine A_aload0 (pc := 88) dX7_does_88 ?_
        refine A_getf (pc := 89) flX7_121 dX7_does_89 rfl rfl ?_
        refine A_cvi (pc := 92) cvX7_127 (mp_goBy hl ha _ ha.2.1) dX7_does_92 rfl rfl rfl rfl (Nat.le_of_ble_eq_true rfl) (by decide) (by decide) (by decide) ?_
        refine A_if_ne (pc := 95) (tgt := 56) dX7_does_95 (by decide) (fun c95 => ?_) (fun c95 => ?_)
        · replace c95 := (bI_ne _).mp c95
          simp only [tnT, hh, d70, c95, if_true, if_false, Bool.false_eq_true]
          exact ih (left - 1) _ (gbT_ok hl ha ha.2.1).1 (by rw [(gbT_ok hl ha ha.2.1).2 c95]; omega) (by omega) (by omega)
        · replace c95 := (bI_eq _).mp c95
          refine A_iconst (pc := 98) (v := 0) dX7_does_98 (by decide) ?_
          exact A_iret (pc := 99) dX7_does_99 rfl rfl (by decide) (by decide) (⟨by simp only [tnT, hh, d70, c95, if_true, if_false, Bool.false_eq_true]; rfl, by simp only [tnT, hh, d70, c95, if_true, if_false, Bool.false_eq_true]⟩)
      · have d70 : (left - 1) = 0 := (nI_eq (by omega) (by decide)).mp c70
        refine A_aload0 (pc := 73) dX7_does_73 ?_
        refine A_aload0 (pc := 74) dX7_does_74 ?_
        refine A_getf (pc := 75) flX7_121 dX7_does_75 rfl rfl ?_
        refine A_iload4 (pc := 78) dX7_does_78 ?_
        refine A_iadd (pc := 80) dX7_does_80 ?_
        refine A_iconst (pc := 81) (v := 4) dX7_does_81 (by decide) ?_
        refine A_irem (pc := 82) dX7_does_82 (by decide) ?_
        rw [rm4a (by have := ha.2.1; omega)]
        refine A_cvi (pc := 83) cvX7_127 (mp_goBy hl ha _ (by omega)) dX7_does_83 rfl rfl rfl rfl (Nat.le_of_ble_eq_true rfl) (by decide) (by decide) (by decide) ?_
        exact A_iret (pc := 86) dX7_does_86 rfl (bI_n _) (by decide) (by decide) (⟨by simp only [tnT, hh, d70, if_true, if_false, Bool.false_eq_true], by simp only [tnT, hh, d70, if_true, if_false, Bool.false_eq_true]⟩)
    | false =>
      refine A_aload0 (pc := 56) dX7_does_56 ?_
      refine A_iload4 (pc := 57) dX7_does_57 ?_
      refine A_cvi (pc := 59) cvX7_124 (mp_has hl ha turn ht) dX7_does_59 rfl rfl rfl rfl (Nat.le_of_ble_eq_true rfl) (by decide) (by decide) (by decide) ?_
      rw [hh]
      change AW mX7_does 2 0 0 0 0 62 _ [.int 0] _ _
      refine A_if_eq (pc := 62) (tgt := 68) dX7_does_62 (by decide) (fun c62 => ?_) (fun c62 => absurd rfl c62)
      refine A_iload5 (pc := 68) dX7_does_68 ?_
      refine A_if_ne (pc := 70) (tgt := 87) dX7_does_70 (by decide) (fun c70 => ?_) (fun c70 => ?_)
      · have d70 : ¬ left = 0 := fun q => c70 (by rw [q]; rfl)
        refine A_aload0 (pc := 87) dX7_does_87 ?_
        refine A_aload0 (pc := 88) dX7_does_88 ?_
        refine A_getf (pc := 89) flX7_121 dX7_does_89 rfl rfl ?_
        refine A_cvi (pc := 92) cvX7_127 (mp_goBy hl ha _ ha.2.1) dX7_does_92 rfl rfl rfl rfl (Nat.le_of_ble_eq_true rfl) (by decide) (by decide) (by decide) ?_
        refine A_if_ne (pc := 95) (tgt := 56) dX7_does_95 (by decide) (fun c95 => ?_) (fun c95 => ?_)
        · replace c95 := (bI_ne _).mp c95
          simp only [tnT, hh, d70, c95, if_true, if_false, Bool.false_eq_true]
          exact ih left _ (gbT_ok hl ha ha.2.1).1 (by rw [(gbT_ok hl ha ha.2.1).2 c95]; omega) (by omega) (by omega)
        · replace c95 := (bI_eq _).mp c95
          refine A_iconst (pc := 98) (v := 0) dX7_does_98 (by decide) ?_
          exact A_iret (pc := 99) dX7_does_99 rfl rfl (by decide) (by decide) (⟨by simp only [tnT, hh, d70, c95, if_true, if_false, Bool.false_eq_true]; rfl, by simp only [tnT, hh, d70, c95, if_true, if_false, Bool.false_eq_true]⟩)
      · have d70 : left = 0 := (nI_eq (by omega) (by decide)).mp c70
        refine A_aload0 (pc := 73) dX7_does_73 ?_
        refine A_aload0 (pc := 74) dX7_does_74 ?_
        refine A_getf (pc := 75) flX7_121 dX7_does_75 rfl rfl ?_
        refine A_iload4 (pc := 78) dX7_does_78 ?_
        refine A_iadd (pc := 80) dX7_does_80 ?_
        refine A_iconst (pc := 81) (v := 4) dX7_does_81 (by decide) ?_
        refine A_irem (pc := 82) dX7_does_82 (by decide) ?_
        rw [rm4a (by have := ha.2.1; omega)]
        refine A_cvi (pc := 83) cvX7_127 (mp_goBy hl ha _ (by omega)) dX7_does_83 rfl rfl rfl rfl (Nat.le_of_ble_eq_true rfl) (by decide) (by decide) (by decide) ?_
        exact A_iret (pc := 86) dX7_does_86 rfl (bI_n _) (by decide) (by decide) (⟨by simp only [tnT, hh, d70, if_true, if_false, Bool.false_eq_true], by simp only [tnT, hh, d70, if_true, if_false, Bool.false_eq_true]⟩)

set_option maxHeartbeats 4000000 in
set_option maxRecDepth 100000 in
theorem mlp_until {c : XV} {n : MN} {p : Nat → Nat} {al : Int32} {s : MS} {r : MR} {w : MW} {k : MK} {pl : MP} {fr : Nat → Nat} {t : MT} {rest : AH} (hl : VL n.2.2.1) (hsg : ∀ x, x < 24 → n.2.1 x < 2 ^ 31) (nb ps : Nat) (hnb : nb < 2 ^ 31) (m : Nat) : ∀ (left : Nat) (a : MA) (_ : okA a) (_ : a.2.2.1 + m = 31) (_ : left < 2 ^ 31) (x5 : Option Value), AW mX7_does 2 0 0 0 0 103 [some (.ref 25), some (.int (nI 6)), some (.int (nI nb)), some (.int (nI ps)), some (.int (nI left)), x5] [] (MX c n p al s r w k a pl fr t rest) (P1 (bI (unT n nb m left a).1) (MX c n p al s r w k ((unT n nb m left a).2) pl fr t rest)) := by
  induction m with
  | zero =>
    intro left a ha hm h2 x5
    exact absurd ha.2.2 (by omega)
  | succ m ih =>
    intro left a ha hm h2 x5
    refine A_aload0 (pc := 103) dX7_does_103 ?_
    refine A_aload0 (pc := 104) dX7_does_104 ?_
    refine A_getf (pc := 105) flX7_121 dX7_does_105 rfl rfl ?_
    refine A_cvi (pc := 108) cvX7_127 (mp_goBy hl ha _ ha.2.1) dX7_does_108 rfl rfl rfl rfl (Nat.le_of_ble_eq_true rfl) (by decide) (by decide) (by decide) ?_
    refine A_if_ne (pc := 111) (tgt := 116) dX7_does_111 (by decide) (fun c111 => ?_) (fun c111 => ?_)
    · replace c111 := (bI_ne _).mp c111
      refine A_iload1 (pc := 116) dX7_does_116 ?_
      refine A_bipush (pc := 117) (v := 8) dX7_does_117 (by decide) ?_
      refine A_icmp_ne (pc := 119) (tgt := 132) dX7_does_119 (by decide) (fun c119 => ?_) (fun c119 => absurd c119 (by decide))
      refine A_iload1 (pc := 132) dX7_does_132 ?_
      refine A_bipush (pc := 133) (v := 6) dX7_does_133 (by decide) ?_
      refine A_icmp_ne (pc := 135) (tgt := 103) dX7_does_135 (by decide) (fun c135 => absurd rfl c135) (fun c135 => ?_)
      refine A_aload0 (pc := 138) dX7_does_138 ?_
      refine A_getf (pc := 139) flX7_9 dX7_does_139 rfl rfl ?_
      refine A_aload0 (pc := 142) dX7_does_142 ?_
      refine A_getf (pc := 143) flX7_115 dX7_does_143 rfl rfl ?_
      refine A_ialdN (pc := 146) (i := (gbT n.2.2.1 a a.2.1).2.1) dX7_does_146 rfl rfl (gbT_ok hl ha ha.2.1).1.1 (by decide) ?_
      refine A_iload2 (pc := 147) dX7_does_147 ?_
      refine A_icmp_ne (pc := 148) (tgt := 103) dX7_does_148 (by decide) (fun c148 => ?_) (fun c148 => ?_)
      · have d148 : ¬ n.2.1 (gbT n.2.2.1 a a.2.1).2.1 = nb := fun q => c148 (by rw [q])
        simp only [unT, c111, d148, if_true, if_false, Bool.false_eq_true]
        exact ih left _ (gbT_ok hl ha ha.2.1).1 (by rw [(gbT_ok hl ha ha.2.1).2 c111]; omega) (by omega) _
      · have d148 := (nI_eq (hsg _ (gbT_ok hl ha ha.2.1).1.1) hnb).mp c148
        refine A_iload4 (pc := 151) dX7_does_151 ?_
        refine A_if_ne (pc := 153) (tgt := 158) dX7_does_153 (by decide) (fun c153 => ?_) (fun c153 => ?_)
        · have d153 : ¬ left = 0 := fun q => c153 (by rw [q]; rfl)
          refine A_iinc4 (pc := 158) dX7_does_158 (by decide) (sb_m1 (by omega)) ?_
          refine A_goto (pc := 161) (tgt := 103) dX7_does_161 (by decide) ?_
          simp only [unT, c111, d148, d153, if_true, if_false, Bool.false_eq_true]
          exact ih (left - 1) _ (gbT_ok hl ha ha.2.1).1 (by rw [(gbT_ok hl ha ha.2.1).2 c111]; omega) (by omega) _
        · have d153 : left = 0 := (nI_eq h2 (by decide)).mp c153
          refine A_iconst (pc := 156) (v := 1) dX7_does_156 (by decide) ?_
          exact A_iret (pc := 157) dX7_does_157 rfl rfl (by decide) (by decide) (⟨by simp only [unT, c111, d148, d153, if_true]; rfl, by simp only [unT, c111, d148, d153, if_true]⟩)
    · replace c111 := (bI_eq _).mp c111
      refine A_iconst (pc := 114) (v := 0) dX7_does_114 (by decide) ?_
      exact A_iret (pc := 115) dX7_does_115 rfl rfl (by decide) (by decide) (⟨by simp only [unT, c111, if_false, Bool.false_eq_true]; rfl, by simp only [unT, c111, if_false, Bool.false_eq_true]⟩)

set_option maxHeartbeats 4000000 in
set_option maxRecDepth 100000 in
theorem mlp_end {c : XV} {n : MN} {p : Nat → Nat} {al : Int32} {s : MS} {r : MR} {w : MW} {k : MK} {pl : MP} {fr : Nat → Nat} {t : MT} {rest : AH} (hl : VL n.2.2.1) (nb ps left : Nat) (m : Nat) : ∀ (a : MA) (_ : okA a) (_ : a.2.2.1 + m = 31) (x5 : Option Value), AW mX7_does 2 0 0 0 0 103 [some (.ref 25), some (.int (nI 8)), some (.int (nI nb)), some (.int (nI ps)), some (.int (nI left)), x5] [] (MX c n p al s r w k a pl fr t rest) (P1 (bI (edT n.2.2.1 m a).1) (MX c n p al s r w k ((edT n.2.2.1 m a).2) pl fr t rest)) := by
  induction m with
  | zero =>
    intro a ha hm x5
    exact absurd ha.2.2 (by omega)
  | succ m ih =>
    intro a ha hm x5
    refine A_aload0 (pc := 103) dX7_does_103 ?_
    refine A_aload0 (pc := 104) dX7_does_104 ?_
    refine A_getf (pc := 105) flX7_121 dX7_does_105 rfl rfl ?_
    refine A_cvi (pc := 108) cvX7_127 (mp_goBy hl ha _ ha.2.1) dX7_does_108 rfl rfl rfl rfl (Nat.le_of_ble_eq_true rfl) (by decide) (by decide) (by decide) ?_
    refine A_if_ne (pc := 111) (tgt := 116) dX7_does_111 (by decide) (fun c111 => ?_) (fun c111 => ?_)
    · replace c111 := (bI_ne _).mp c111
      refine A_iload1 (pc := 116) dX7_does_116 ?_
      refine A_bipush (pc := 117) (v := 8) dX7_does_117 (by decide) ?_
      refine A_icmp_ne (pc := 119) (tgt := 132) dX7_does_119 (by decide) (fun c119 => absurd rfl c119) (fun c119 => ?_)
      refine A_aload0 (pc := 122) dX7_does_122 ?_
      refine A_iconst (pc := 123) (v := 0) dX7_does_123 (by decide) ?_
      refine A_cvi (pc := 124) cvX7_124 (mp_has hl (gbT_ok hl ha ha.2.1).1 0 (by decide)) dX7_does_124 rfl rfl rfl rfl (Nat.le_of_ble_eq_true rfl) (by decide) (by decide) (by decide) ?_
      refine A_if_ne (pc := 127) (tgt := 132) dX7_does_127 (by decide) (fun c127 => ?_) (fun c127 => ?_)
      · replace c127 := (bI_ne _).mp c127
        refine A_iload1 (pc := 132) dX7_does_132 ?_
        refine A_bipush (pc := 133) (v := 6) dX7_does_133 (by decide) ?_
        refine A_icmp_ne (pc := 135) (tgt := 103) dX7_does_135 (by decide) (fun c135 => ?_) (fun c135 => absurd c135 (by decide))
        simp only [edT, c111, c127, if_true]
        exact ih _ (gbT_ok hl ha ha.2.1).1 (by rw [(gbT_ok hl ha ha.2.1).2 c111]; omega) _
      · replace c127 := (bI_eq _).mp c127
        refine A_iconst (pc := 130) (v := 1) dX7_does_130 (by decide) ?_
        exact A_iret (pc := 131) dX7_does_131 rfl rfl (by decide) (by decide) (⟨by simp only [edT, c111, c127, if_true, if_false, Bool.false_eq_true]; rfl, by simp only [edT, c111, c127, if_true, if_false, Bool.false_eq_true]⟩)
    · replace c111 := (bI_eq _).mp c111
      refine A_iconst (pc := 114) (v := 0) dX7_does_114 (by decide) ?_
      exact A_iret (pc := 115) dX7_does_115 rfl rfl (by decide) (by decide) (⟨by simp only [edT, c111, if_false, Bool.false_eq_true]; rfl, by simp only [edT, c111, if_false, Bool.false_eq_true]⟩)

set_option maxHeartbeats 4000000 in
set_option maxRecDepth 100000 in
theorem mp_does {c : XV} {n : MN} {p : Nat → Nat} {al : Int32} {s : MS} {r : MR} {w : MW} {k : MK} {a : MA} {pl : MP} {fr : Nat → Nat} {t : MT} {rest : AH} (hl : VL n.2.2.1) (hnm : ∀ x, x < 96 → n.2.2.2 x < 2 ^ 31) (hsg : ∀ x, x < 24 → n.2.1 x < 2 ^ 31) (h1 : a.1 < 24) (h2 : a.2.1 < 4) (kd nb ps : Nat) (hkd : kd < 9) (hnb : nb < 2 ^ 31) (hnb1 : kd = 4 ∨ kd = 5 → 1 ≤ nb) (hps : ps < 2 ^ 31)  : AS mX7_does 2 0 0 [.ref 25, .int (nI kd), .int (nI nb), .int (nI ps)] (MX c n p al s r w k a pl fr t rest) (P1 (bI (dsT n a kd nb ps).1) (MX c n p al s r w k ((dsT n a kd nb ps).2) pl fr t rest)) := by
  refine AS.go (lv := [some (.ref 25), some (.int (nI kd)), some (.int (nI nb)), some (.int (nI ps)), none, none]) rfl ?_ (by decide +kernel) rfl (Nat.le_of_ble_eq_true rfl)
  rcases (show kd = 0 ∨ kd = 1 ∨ kd = 2 ∨ kd = 3 ∨ kd = 4 ∨ kd = 5 ∨ kd = 6 ∨ kd = 7 ∨ kd = 8 by omega) with rfl | rfl | rfl | rfl | rfl | rfl | rfl | rfl | rfl
  · refine A_aload0 (pc := 0) dX7_does_0 ?_
    refine A_iconst (pc := 1) (v := 0) dX7_does_1 (by decide) ?_
    refine A_putf (pc := 2) flX7_118 ft7_30 dX7_does_2 rfl (Nat.le_of_ble_eq_true rfl) (fun _ => ⟨rfl, rfl⟩) ?_
    refine AW.heq (hp' := MX c n p al s r w k (zA a) pl fr t rest) rfl ?_
    refine A_iload1 (pc := 5) dX7_does_5 ?_
    refine A_iconst (pc := 6) (v := 4) dX7_does_6 (by decide) ?_
    refine A_icmp_ge (pc := 7) (tgt := 23) dX7_does_7 (by decide) (fun c7 => absurd c7 (show ¬ nI 4 ≤ nI 0 from by decide)) (fun c7 => ?_)
    refine A_aload0 (pc := 10) dX7_does_10 ?_
    refine A_aload0 (pc := 11) dX7_does_11 ?_
    refine A_getf (pc := 12) flX7_121 dX7_does_12 rfl rfl ?_
    refine A_iload1 (pc := 15) dX7_does_15 ?_
    refine A_iadd (pc := 16) dX7_does_16 ?_
    refine A_iconst (pc := 17) (v := 4) dX7_does_17 (by decide) ?_
    refine A_irem (pc := 18) dX7_does_18 (by decide) ?_
    rw [rm4a (a := (zA a).2.1) (by show a.2.1 + 0 < _; omega)]
    refine A_cvi (pc := 19) cvX7_127 (mp_goBy hl (show okA (zA a) from ⟨h1, h2, Nat.zero_le 30⟩) _ (by omega)) dX7_does_19 rfl rfl rfl rfl (Nat.le_of_ble_eq_true rfl) (by decide) (by decide) (by decide) ?_
    exact A_iret (pc := 22) dX7_does_22 rfl (bI_n _) (by decide) (by decide) (⟨rfl, rfl⟩)
  · refine A_aload0 (pc := 0) dX7_does_0 ?_
    refine A_iconst (pc := 1) (v := 0) dX7_does_1 (by decide) ?_
    refine A_putf (pc := 2) flX7_118 ft7_30 dX7_does_2 rfl (Nat.le_of_ble_eq_true rfl) (fun _ => ⟨rfl, rfl⟩) ?_
    refine AW.heq (hp' := MX c n p al s r w k (zA a) pl fr t rest) rfl ?_
    refine A_iload1 (pc := 5) dX7_does_5 ?_
    refine A_iconst (pc := 6) (v := 4) dX7_does_6 (by decide) ?_
    refine A_icmp_ge (pc := 7) (tgt := 23) dX7_does_7 (by decide) (fun c7 => absurd c7 (show ¬ nI 4 ≤ nI 1 from by decide)) (fun c7 => ?_)
    refine A_aload0 (pc := 10) dX7_does_10 ?_
    refine A_aload0 (pc := 11) dX7_does_11 ?_
    refine A_getf (pc := 12) flX7_121 dX7_does_12 rfl rfl ?_
    refine A_iload1 (pc := 15) dX7_does_15 ?_
    refine A_iadd (pc := 16) dX7_does_16 ?_
    refine A_iconst (pc := 17) (v := 4) dX7_does_17 (by decide) ?_
    refine A_irem (pc := 18) dX7_does_18 (by decide) ?_
    rw [rm4a (a := (zA a).2.1) (by show a.2.1 + 1 < _; omega)]
    refine A_cvi (pc := 19) cvX7_127 (mp_goBy hl (show okA (zA a) from ⟨h1, h2, Nat.zero_le 30⟩) _ (by omega)) dX7_does_19 rfl rfl rfl rfl (Nat.le_of_ble_eq_true rfl) (by decide) (by decide) (by decide) ?_
    exact A_iret (pc := 22) dX7_does_22 rfl (bI_n _) (by decide) (by decide) (⟨rfl, rfl⟩)
  · refine A_aload0 (pc := 0) dX7_does_0 ?_
    refine A_iconst (pc := 1) (v := 0) dX7_does_1 (by decide) ?_
    refine A_putf (pc := 2) flX7_118 ft7_30 dX7_does_2 rfl (Nat.le_of_ble_eq_true rfl) (fun _ => ⟨rfl, rfl⟩) ?_
    refine AW.heq (hp' := MX c n p al s r w k (zA a) pl fr t rest) rfl ?_
    refine A_iload1 (pc := 5) dX7_does_5 ?_
    refine A_iconst (pc := 6) (v := 4) dX7_does_6 (by decide) ?_
    refine A_icmp_ge (pc := 7) (tgt := 23) dX7_does_7 (by decide) (fun c7 => absurd c7 (show ¬ nI 4 ≤ nI 2 from by decide)) (fun c7 => ?_)
    refine A_aload0 (pc := 10) dX7_does_10 ?_
    refine A_aload0 (pc := 11) dX7_does_11 ?_
    refine A_getf (pc := 12) flX7_121 dX7_does_12 rfl rfl ?_
    refine A_iload1 (pc := 15) dX7_does_15 ?_
    refine A_iadd (pc := 16) dX7_does_16 ?_
    refine A_iconst (pc := 17) (v := 4) dX7_does_17 (by decide) ?_
    refine A_irem (pc := 18) dX7_does_18 (by decide) ?_
    rw [rm4a (a := (zA a).2.1) (by show a.2.1 + 2 < _; omega)]
    refine A_cvi (pc := 19) cvX7_127 (mp_goBy hl (show okA (zA a) from ⟨h1, h2, Nat.zero_le 30⟩) _ (by omega)) dX7_does_19 rfl rfl rfl rfl (Nat.le_of_ble_eq_true rfl) (by decide) (by decide) (by decide) ?_
    exact A_iret (pc := 22) dX7_does_22 rfl (bI_n _) (by decide) (by decide) (⟨rfl, rfl⟩)
  · refine A_aload0 (pc := 0) dX7_does_0 ?_
    refine A_iconst (pc := 1) (v := 0) dX7_does_1 (by decide) ?_
    refine A_putf (pc := 2) flX7_118 ft7_30 dX7_does_2 rfl (Nat.le_of_ble_eq_true rfl) (fun _ => ⟨rfl, rfl⟩) ?_
    refine AW.heq (hp' := MX c n p al s r w k (zA a) pl fr t rest) rfl ?_
    refine A_iload1 (pc := 5) dX7_does_5 ?_
    refine A_iconst (pc := 6) (v := 4) dX7_does_6 (by decide) ?_
    refine A_icmp_ge (pc := 7) (tgt := 23) dX7_does_7 (by decide) (fun c7 => absurd c7 (show ¬ nI 4 ≤ nI 3 from by decide)) (fun c7 => ?_)
    refine A_aload0 (pc := 10) dX7_does_10 ?_
    refine A_aload0 (pc := 11) dX7_does_11 ?_
    refine A_getf (pc := 12) flX7_121 dX7_does_12 rfl rfl ?_
    refine A_iload1 (pc := 15) dX7_does_15 ?_
    refine A_iadd (pc := 16) dX7_does_16 ?_
    refine A_iconst (pc := 17) (v := 4) dX7_does_17 (by decide) ?_
    refine A_irem (pc := 18) dX7_does_18 (by decide) ?_
    rw [rm4a (a := (zA a).2.1) (by show a.2.1 + 3 < _; omega)]
    refine A_cvi (pc := 19) cvX7_127 (mp_goBy hl (show okA (zA a) from ⟨h1, h2, Nat.zero_le 30⟩) _ (by omega)) dX7_does_19 rfl rfl rfl rfl (Nat.le_of_ble_eq_true rfl) (by decide) (by decide) (by decide) ?_
    exact A_iret (pc := 22) dX7_does_22 rfl (bI_n _) (by decide) (by decide) (⟨rfl, rfl⟩)
  · refine A_aload0 (pc := 0) dX7_does_0 ?_
    refine A_iconst (pc := 1) (v := 0) dX7_does_1 (by decide) ?_
    refine A_putf (pc := 2) flX7_118 ft7_30 dX7_does_2 rfl (Nat.le_of_ble_eq_true rfl) (fun _ => ⟨rfl, rfl⟩) ?_
    refine AW.heq (hp' := MX c n p al s r w k (zA a) pl fr t rest) rfl ?_
    refine A_iload1 (pc := 5) dX7_does_5 ?_
    refine A_iconst (pc := 6) (v := 4) dX7_does_6 (by decide) ?_
    refine A_icmp_ge (pc := 7) (tgt := 23) dX7_does_7 (by decide) (fun c7 => ?_) (fun c7 => absurd (show nI 4 ≤ nI 4 from by decide) c7)
    refine A_iload1 (pc := 23) dX7_does_23 ?_
    refine A_bipush (pc := 24) (v := 7) dX7_does_24 (by decide) ?_
    refine A_icmp_ne (pc := 26) (tgt := 35) dX7_does_26 (by decide) (fun c26 => ?_) (fun c26 => absurd c26 (by decide))
    refine A_iload1 (pc := 35) dX7_does_35 ?_
    refine A_bipush (pc := 36) (v := 6) dX7_does_36 (by decide) ?_
    refine A_icmp_ge (pc := 38) (tgt := 100) dX7_does_38 (by decide) (fun c38 => absurd c38 (show ¬ nI 6 ≤ nI 4 from by decide)) (fun c38 => ?_)
    refine A_iload1 (pc := 41) dX7_does_41 ?_
    refine A_iconst (pc := 42) (v := 4) dX7_does_42 (by decide) ?_
    refine A_icmp_ne (pc := 43) (tgt := 50) dX7_does_43 (by decide) (fun c43 => absurd rfl c43) (fun c43 => ?_)
    refine A_iconst (pc := 46) (v := 3) dX7_does_46 (by decide) ?_
    refine A_goto (pc := 47) (tgt := 51) dX7_does_47 (by decide) ?_
    refine A_istore4 (pc := 51) dX7_does_51 (by decide) ?_
    refine A_iload2 (pc := 53) dX7_does_53 ?_
    refine A_istore5 (pc := 54) dX7_does_54 (by decide) ?_
    exact mlp_turn hl 4 nb ps 3 (by decide) 31 nb (zA a) (show okA (zA a) from ⟨h1, h2, Nat.zero_le 30⟩) rfl (hnb1 (by decide)) hnb
  · refine A_aload0 (pc := 0) dX7_does_0 ?_
    refine A_iconst (pc := 1) (v := 0) dX7_does_1 (by decide) ?_
    refine A_putf (pc := 2) flX7_118 ft7_30 dX7_does_2 rfl (Nat.le_of_ble_eq_true rfl) (fun _ => ⟨rfl, rfl⟩) ?_
    refine AW.heq (hp' := MX c n p al s r w k (zA a) pl fr t rest) rfl ?_
    refine A_iload1 (pc := 5) dX7_does_5 ?_
    refine A_iconst (pc := 6) (v := 4) dX7_does_6 (by decide) ?_
    refine A_icmp_ge (pc := 7) (tgt := 23) dX7_does_7 (by decide) (fun c7 => ?_) (fun c7 => absurd (show nI 4 ≤ nI 5 from by decide) c7)
    refine A_iload1 (pc := 23) dX7_does_23 ?_
    refine A_bipush (pc := 24) (v := 7) dX7_does_24 (by decide) ?_
    refine A_icmp_ne (pc := 26) (tgt := 35) dX7_does_26 (by decide) (fun c26 => ?_) (fun c26 => absurd c26 (by decide))
    refine A_iload1 (pc := 35) dX7_does_35 ?_
    refine A_bipush (pc := 36) (v := 6) dX7_does_36 (by decide) ?_
    refine A_icmp_ge (pc := 38) (tgt := 100) dX7_does_38 (by decide) (fun c38 => absurd c38 (show ¬ nI 6 ≤ nI 5 from by decide)) (fun c38 => ?_)
    refine A_iload1 (pc := 41) dX7_does_41 ?_
    refine A_iconst (pc := 42) (v := 4) dX7_does_42 (by decide) ?_
    refine A_icmp_ne (pc := 43) (tgt := 50) dX7_does_43 (by decide) (fun c43 => ?_) (fun c43 => absurd c43 (by decide))
    refine A_iconst (pc := 50) (v := 1) dX7_does_50 (by decide) ?_
    refine A_istore4 (pc := 51) dX7_does_51 (by decide) ?_
    refine A_iload2 (pc := 53) dX7_does_53 ?_
    refine A_istore5 (pc := 54) dX7_does_54 (by decide) ?_
    exact mlp_turn hl 5 nb ps 1 (by decide) 31 nb (zA a) (show okA (zA a) from ⟨h1, h2, Nat.zero_le 30⟩) rfl (hnb1 (by decide)) hnb
  · refine A_aload0 (pc := 0) dX7_does_0 ?_
    refine A_iconst (pc := 1) (v := 0) dX7_does_1 (by decide) ?_
    refine A_putf (pc := 2) flX7_118 ft7_30 dX7_does_2 rfl (Nat.le_of_ble_eq_true rfl) (fun _ => ⟨rfl, rfl⟩) ?_
    refine AW.heq (hp' := MX c n p al s r w k (zA a) pl fr t rest) rfl ?_
    refine A_iload1 (pc := 5) dX7_does_5 ?_
    refine A_iconst (pc := 6) (v := 4) dX7_does_6 (by decide) ?_
    refine A_icmp_ge (pc := 7) (tgt := 23) dX7_does_7 (by decide) (fun c7 => ?_) (fun c7 => absurd (show nI 4 ≤ nI 6 from by decide) c7)
    refine A_iload1 (pc := 23) dX7_does_23 ?_
    refine A_bipush (pc := 24) (v := 7) dX7_does_24 (by decide) ?_
    refine A_icmp_ne (pc := 26) (tgt := 35) dX7_does_26 (by decide) (fun c26 => ?_) (fun c26 => absurd c26 (by decide))
    refine A_iload1 (pc := 35) dX7_does_35 ?_
    refine A_bipush (pc := 36) (v := 6) dX7_does_36 (by decide) ?_
    refine A_icmp_ge (pc := 38) (tgt := 100) dX7_does_38 (by decide) (fun c38 => ?_) (fun c38 => absurd (show nI 6 ≤ nI 6 from by decide) c38)
    refine A_iload3 (pc := 100) dX7_does_100 ?_
    refine A_istore4 (pc := 101) dX7_does_101 (by decide) ?_
    exact mlp_until hl hsg nb ps hnb 31 ps (zA a) (show okA (zA a) from ⟨h1, h2, Nat.zero_le 30⟩) rfl hps none
  · refine A_aload0 (pc := 0) dX7_does_0 ?_
    refine A_iconst (pc := 1) (v := 0) dX7_does_1 (by decide) ?_
    refine A_putf (pc := 2) flX7_118 ft7_30 dX7_does_2 rfl (Nat.le_of_ble_eq_true rfl) (fun _ => ⟨rfl, rfl⟩) ?_
    refine AW.heq (hp' := MX c n p al s r w k (zA a) pl fr t rest) rfl ?_
    refine A_iload1 (pc := 5) dX7_does_5 ?_
    refine A_iconst (pc := 6) (v := 4) dX7_does_6 (by decide) ?_
    refine A_icmp_ge (pc := 7) (tgt := 23) dX7_does_7 (by decide) (fun c7 => ?_) (fun c7 => absurd (show nI 4 ≤ nI 7 from by decide) c7)
    refine A_iload1 (pc := 23) dX7_does_23 ?_
    refine A_bipush (pc := 24) (v := 7) dX7_does_24 (by decide) ?_
    refine A_icmp_ne (pc := 26) (tgt := 35) dX7_does_26 (by decide) (fun c26 => absurd rfl c26) (fun c26 => ?_)
    refine A_aload0 (pc := 29) dX7_does_29 ?_
    refine A_iload2 (pc := 30) dX7_does_30 ?_
    refine A_cvi (pc := 31) cvX7_130 (mp_goNamed hl (show okA (zA a) from ⟨h1, h2, Nat.zero_le 30⟩) hnm nb hnb) dX7_does_31 rfl rfl rfl rfl (Nat.le_of_ble_eq_true rfl) (by decide) (by decide) (by decide) ?_
    exact A_iret (pc := 34) dX7_does_34 rfl (bI_n _) (by decide) (by decide) (⟨rfl, rfl⟩)
  · refine A_aload0 (pc := 0) dX7_does_0 ?_
    refine A_iconst (pc := 1) (v := 0) dX7_does_1 (by decide) ?_
    refine A_putf (pc := 2) flX7_118 ft7_30 dX7_does_2 rfl (Nat.le_of_ble_eq_true rfl) (fun _ => ⟨rfl, rfl⟩) ?_
    refine AW.heq (hp' := MX c n p al s r w k (zA a) pl fr t rest) rfl ?_
    refine A_iload1 (pc := 5) dX7_does_5 ?_
    refine A_iconst (pc := 6) (v := 4) dX7_does_6 (by decide) ?_
    refine A_icmp_ge (pc := 7) (tgt := 23) dX7_does_7 (by decide) (fun c7 => ?_) (fun c7 => absurd (show nI 4 ≤ nI 8 from by decide) c7)
    refine A_iload1 (pc := 23) dX7_does_23 ?_
    refine A_bipush (pc := 24) (v := 7) dX7_does_24 (by decide) ?_
    refine A_icmp_ne (pc := 26) (tgt := 35) dX7_does_26 (by decide) (fun c26 => ?_) (fun c26 => absurd c26 (by decide))
    refine A_iload1 (pc := 35) dX7_does_35 ?_
    refine A_bipush (pc := 36) (v := 6) dX7_does_36 (by decide) ?_
    refine A_icmp_ge (pc := 38) (tgt := 100) dX7_does_38 (by decide) (fun c38 => ?_) (fun c38 => absurd (show nI 6 ≤ nI 8 from by decide) c38)
    refine A_iload3 (pc := 100) dX7_does_100 ?_
    refine A_istore4 (pc := 101) dX7_does_101 (by decide) ?_
    exact mlp_end hl nb ps ps 31 (zA a) (show okA (zA a) from ⟨h1, h2, Nat.zero_le 30⟩) rfl none

