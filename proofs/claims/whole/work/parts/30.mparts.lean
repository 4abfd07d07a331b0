/-! the model: slip, from, along, offer -/
def spK2 (kd : Nat) : Nat := if kd < 4 then 4 - kd else kd
def spN2 (kd nb : Nat) : Nat := if kd = 4 ∨ kd = 5 then nb + 1 else nb
def spD (n : MN) (s : MS) (ii j : Nat) (a : MA) : Bool × MA := if j = ii then dsT n a (spK2 (s.2.1 j)) (spN2 (spK2 (s.2.1 j)) (s.2.2 j)) 1 else dsT n a (s.2.1 j) (s.2.2 j) 0
def spT2 (n : MN) (s : MS) (ii : Nat) : Nat → Nat → MA → Option Nat × MA
  | 0, _, a => (none, a)
  | m + 1, j, a => if (spD n s ii j a).1 = true then spT2 n s ii m (j + 1) (spD n s ii j a).2 else (some j, (spD n s ii j a).2)
def spC (r : MR) (s : MS) (x : Int32) : Bool := if r.1 = true then (if inI x 0 (nI s.1 - 1) = true then (if s.2.1 (tN x) = 0 then false else if s.2.1 (tN x) = 2 then false else if s.2.1 (tN x) ≤ 6 then true else false) else false) else false
def spA (q : Option Nat × MA) (k : Nat) : Int32 := match q.1 with
  | none => if q.2.1 = k then 1 else 0
  | some j => -2 - nI j
def frT (n : MN) (a : MA) (st kd nb : Nat) : Option Nat × MA := (if (dsT n (st / 4, st % 4, a.2.2) kd nb 0).1 = true then some (4 * (dsT n (st / 4, st % 4, a.2.2) kd nb 0).2.1 + (dsT n (st / 4, st % 4, a.2.2) kd nb 0).2.2.1) else none, (dsT n (st / 4, st % 4, a.2.2) kd nb 0).2)
def alD (n : MN) (pl : MP) (a : MA) (i kd nb : Nat) : Bool × MA := dsT n (pl.1 i, pl.2 i, a.2.2) kd nb 0
def alT (n : MN) (r : MR) (pl : MP) (a : MA) (i kd nb : Nat) : Option Nat × MA := (if (alD n pl a i kd nb).1 = true then (if i + (alD n pl a i kd nb).2.2.2.1 ≤ r.2.2.2.1 then (if cmT (alD n pl a i kd nb).2.2.2.2 r.2.2.2.2 i (alD n pl a i kd nb).2.2.2.1 0 = true then some (i + (alD n pl a i kd nb).2.2.2.1) else none) else none) else none, (alD n pl a i kd nb).2)
def ofT (t : MT) (at_ pr mn kd nb : Nat) : MT := if t.1 at_ < pr then t else if pr = t.1 at_ then (if mn < t.2.1 at_ then (updN t.1 at_ pr, updN t.2.1 at_ mn, updN t.2.2.1 at_ kd, updN t.2.2.2 at_ nb) else t) else (updN t.1 at_ pr, updN t.2.1 at_ mn, updN t.2.2.1 at_ kd, updN t.2.2.2 at_ nb)
theorem dsT_num {n : MN} {a : MA} {kd nb : Nat} (hl : VL n.2.2.1) (h1 : a.1 < 24) (h2 : a.2.1 < 4) : 4 * (dsT n a kd nb 0).2.1 + (dsT n a kd nb 0).2.2.1 < 96 := by
  have := dsT_ok hl h1 h2 kd nb 0
  have h3 := this.1
  have h4 := this.2.1
  omega

set_option maxHeartbeats 4000000 in
set_option maxRecDepth 100000 in
theorem mp_from {c : XV} {n : MN} {p : Nat → Nat} {al : Int32} {s : MS} {r : MR} {w : MW} {k : MK} {a : MA} {pl : MP} {fr : Nat → Nat} {t : MT} {rest : AH} (hl : VL n.2.2.1) (hnm : ∀ x, x < 96 → n.2.2.2 x < 2 ^ 31) (hsg : ∀ x, x < 24 → n.2.1 x < 2 ^ 31) (st kd nb : Nat) (hst : st < 96) (hkd : kd < 9) (hnb : nb < 2 ^ 31) (hnb1 : kd = 4 ∨ kd = 5 → 1 ≤ nb) : AS mX7_from 3 0 0 [.ref 25, .int (nI st), .int (nI kd), .int (nI nb)] (MX c n p al s r w k a pl fr t rest) (P1 (oI (frT n a st kd nb).1) (MX c n p al s r w k ((frT n a st kd nb).2) pl fr t rest)) := by
  refine AS.go (lv := [some (.ref 25), some (.int (nI st)), some (.int (nI kd)), some (.int (nI nb))]) rfl ?_ (by decide +kernel) rfl (Nat.le_of_ble_eq_true rfl)
  refine A_aload0 (pc := 0) dX7_from_0 ?_
  refine A_iload1 (pc := 1) dX7_from_1 ?_
  refine A_iconst (pc := 2) (v := 4) dX7_from_2 (by decide) ?_
  refine A_idiv (pc := 3) dX7_from_3 (by decide) ?_
  rw [dv4 (by omega)]
  refine A_putf (pc := 4) flX7_115 ft7_27 dX7_from_4 rfl (Nat.le_of_ble_eq_true rfl) (fun _ => ⟨rfl, rfl⟩) ?_
  refine A_aload0 (pc := 7) dX7_from_7 ?_
  refine A_iload1 (pc := 8) dX7_from_8 ?_
  refine A_iconst (pc := 9) (v := 4) dX7_from_9 (by decide) ?_
  refine A_irem (pc := 10) dX7_from_10 (by decide) ?_
  rw [rm4 (by omega)]
  refine A_putf (pc := 11) flX7_121 ft7_28 dX7_from_11 rfl (Nat.le_of_ble_eq_true rfl) (fun _ => ⟨rfl, rfl⟩) ?_
  refine AW.heq (hp' := MX c n p al s r w k ((st / 4, st % 4, a.2.2)) pl fr t rest) rfl ?_
  refine A_aload0 (pc := 14) dX7_from_14 ?_
  refine A_iload2 (pc := 15) dX7_from_15 ?_
  refine A_iload3 (pc := 16) dX7_from_16 ?_
  refine A_iconst (pc := 17) (v := 0) dX7_from_17 (by decide) ?_
  refine A_cvi (pc := 18) cvX7_145 (mp_does hl hnm hsg (a := (st / 4, st % 4, a.2.2)) (by show st / 4 < 24; omega) (by show st % 4 < 4; omega) kd nb 0 hkd hnb hnb1 (by decide)) dX7_from_18 rfl rfl rfl rfl (Nat.le_of_ble_eq_true rfl) (by decide) (by decide) (by decide) ?_
  refine A_if_eq (pc := 21) (tgt := 38) dX7_from_21 (by decide) (fun c21 => ?_) (fun c21 => ?_)
  · replace c21 := (bI_eq _).mp c21
    refine A_iconst (pc := 38) (v := -1) dX7_from_38 (by decide) ?_
    exact A_iret (pc := 39) dX7_from_39 rfl rfl (by decide) (by decide) (⟨by unfold frT; rw [if_neg (by rw [c21]; decide)]; rfl, rfl⟩)
  · replace c21 := (bI_ne _).mp c21
    refine A_iconst (pc := 24) (v := 4) dX7_from_24 (by decide) ?_
    refine A_aload0 (pc := 25) dX7_from_25 ?_
    refine A_getf (pc := 26) flX7_115 dX7_from_26 rfl rfl ?_
    refine A_imul (pc := 29) dX7_from_29 ?_
    refine A_aload0 (pc := 30) dX7_from_30 ?_
    refine A_getf (pc := 31) flX7_121 dX7_from_31 rfl rfl ?_
    refine A_iadd (pc := 34) dX7_from_34 ?_
    refine A_goto (pc := 35) (tgt := 39) dX7_from_35 (by decide) ?_
    exact A_iret (pc := 39) dX7_from_39 rfl rfl (by decide) (by decide) (⟨by unfold frT; rw [if_pos c21, ix4]; rfl, rfl⟩)

set_option maxHeartbeats 4000000 in
set_option maxRecDepth 100000 in
theorem mp_offer {c : XV} {n : MN} {p : Nat → Nat} {al : Int32} {s : MS} {r : MR} {w : MW} {k : MK} {a : MA} {pl : MP} {fr : Nat → Nat} {t : MT} {rest : AH} (h1 : ∀ x, x < 96 → t.1 x < 2 ^ 31) (h2 : ∀ x, x < 96 → t.2.1 x < 2 ^ 31) (at_ pr mn kd nb : Nat) (hat : at_ < 96) (hpr : pr < 2 ^ 31) (hmn : mn < 2 ^ 31)  : AS mX7_offer 0 0 0 [.ref 25, .int (nI at_), .int (nI pr), .int (nI mn), .int (nI kd), .int (nI nb)] (MX c n p al s r w k a pl fr t rest) (P0 (MX c n p al s r w k a pl fr (ofT t at_ pr mn kd nb) rest)) := by
  refine AS.go (lv := [some (.ref 25), some (.int (nI at_)), some (.int (nI pr)), some (.int (nI mn)), some (.int (nI kd)), some (.int (nI nb))]) rfl ?_ (by decide +kernel) rfl (Nat.le_of_ble_eq_true rfl)
  refine A_iload2 (pc := 0) dX7_offer_0 ?_
  refine A_aload0 (pc := 1) dX7_offer_1 ?_
  refine A_getf (pc := 2) flX7_71 dX7_offer_2 rfl rfl ?_
  refine A_iload1 (pc := 5) dX7_offer_5 ?_
  refine A_ialdN (pc := 6) (i := at_) dX7_offer_6 rfl rfl hat (by decide) ?_
  refine A_icmp_gt (pc := 7) (tgt := 30) dX7_offer_7 (by decide) (fun c7 => ?_) (fun c7 => ?_)
  · have d7 : t.1 at_ < pr := (nI_ltI (h1 at_ hat) hpr).mp c7
    exact A_vret (pc := 30) dX7_offer_30 rfl (by decide) (by decide) (⟨rfl, by unfold ofT; rw [if_pos d7]⟩)
  · have d7 : ¬ t.1 at_ < pr := fun q => c7 (nI_lt q hpr)
    refine A_iload2 (pc := 10) dX7_offer_10 ?_
    refine A_aload0 (pc := 11) dX7_offer_11 ?_
    refine A_getf (pc := 12) flX7_71 dX7_offer_12 rfl rfl ?_
    refine A_iload1 (pc := 15) dX7_offer_15 ?_
    refine A_ialdN (pc := 16) (i := at_) dX7_offer_16 rfl rfl hat (by decide) ?_
    refine A_icmp_ne (pc := 17) (tgt := 31) dX7_offer_17 (by decide) (fun c17 => ?_) (fun c17 => ?_)
    · have d17 : ¬ pr = t.1 at_ := fun q => c17 (by rw [q])
      refine A_aload0 (pc := 31) dX7_offer_31 ?_
      refine A_getf (pc := 32) flX7_71 dX7_offer_32 rfl rfl ?_
      refine A_iload1 (pc := 35) dX7_offer_35 ?_
      refine A_iload2 (pc := 36) dX7_offer_36 ?_
      refine A_iastN (pc := 37) (i := at_) (v := pr) dX7_offer_37 rfl rfl rfl hat (by decide) ?_
      refine A_aload0 (pc := 38) dX7_offer_38 ?_
      refine A_getf (pc := 39) flX7_74 dX7_offer_39 rfl rfl ?_
      refine A_iload1 (pc := 42) dX7_offer_42 ?_
      refine A_iload3 (pc := 43) dX7_offer_43 ?_
      refine A_iastN (pc := 44) (i := at_) (v := mn) dX7_offer_44 rfl rfl rfl hat (by decide) ?_
      refine A_aload0 (pc := 45) dX7_offer_45 ?_
      refine A_getf (pc := 46) flX7_77 dX7_offer_46 rfl rfl ?_
      refine A_iload1 (pc := 49) dX7_offer_49 ?_
      refine A_iload4 (pc := 50) dX7_offer_50 ?_
      refine A_iastN (pc := 52) (i := at_) (v := kd) dX7_offer_52 rfl rfl rfl hat (by decide) ?_
      refine A_aload0 (pc := 53) dX7_offer_53 ?_
      refine A_getf (pc := 54) flX7_80 dX7_offer_54 rfl rfl ?_
      refine A_iload1 (pc := 57) dX7_offer_57 ?_
      refine A_iload5 (pc := 58) dX7_offer_58 ?_
      refine A_iastN (pc := 60) (i := at_) (v := nb) dX7_offer_60 rfl rfl rfl hat (by decide) ?_
      exact A_vret (pc := 61) dX7_offer_61 rfl (by decide) (by decide) (⟨rfl, by unfold ofT; rw [if_neg d7, if_neg d17]; rfl⟩)
    · have d17 : pr = t.1 at_ := (nI_eq hpr (h1 at_ hat)).mp c17
      refine A_iload3 (pc := 20) dX7_offer_20 ?_
      refine A_aload0 (pc := 21) dX7_offer_21 ?_
      refine A_getf (pc := 22) flX7_74 dX7_offer_22 rfl rfl ?_
      refine A_iload1 (pc := 25) dX7_offer_25 ?_
      refine A_ialdN (pc := 26) (i := at_) dX7_offer_26 rfl rfl hat (by decide) ?_
      refine A_icmp_lt (pc := 27) (tgt := 31) dX7_offer_27 (by decide) (fun c27 => ?_) (fun c27 => ?_)
      · have d27 : mn < t.2.1 at_ := (nI_ltI hmn (h2 at_ hat)).mp c27
        refine A_aload0 (pc := 31) dX7_offer_31 ?_
        refine A_getf (pc := 32) flX7_71 dX7_offer_32 rfl rfl ?_
        refine A_iload1 (pc := 35) dX7_offer_35 ?_
        refine A_iload2 (pc := 36) dX7_offer_36 ?_
        refine A_iastN (pc := 37) (i := at_) (v := pr) dX7_offer_37 rfl rfl rfl hat (by decide) ?_
        refine A_aload0 (pc := 38) dX7_offer_38 ?_
        refine A_getf (pc := 39) flX7_74 dX7_offer_39 rfl rfl ?_
        refine A_iload1 (pc := 42) dX7_offer_42 ?_
        refine A_iload3 (pc := 43) dX7_offer_43 ?_
        refine A_iastN (pc := 44) (i := at_) (v := mn) dX7_offer_44 rfl rfl rfl hat (by decide) ?_
        refine A_aload0 (pc := 45) dX7_offer_45 ?_
        refine A_getf (pc := 46) flX7_77 dX7_offer_46 rfl rfl ?_
        refine A_iload1 (pc := 49) dX7_offer_49 ?_
        refine A_iload4 (pc := 50) dX7_offer_50 ?_
        refine A_iastN (pc := 52) (i := at_) (v := kd) dX7_offer_52 rfl rfl rfl hat (by decide) ?_
        refine A_aload0 (pc := 53) dX7_offer_53 ?_
        refine A_getf (pc := 54) flX7_80 dX7_offer_54 rfl rfl ?_
        refine A_iload1 (pc := 57) dX7_offer_57 ?_
        refine A_iload5 (pc := 58) dX7_offer_58 ?_
        refine A_iastN (pc := 60) (i := at_) (v := nb) dX7_offer_60 rfl rfl rfl hat (by decide) ?_
        exact A_vret (pc := 61) dX7_offer_61 rfl (by decide) (by decide) (⟨rfl, by unfold ofT; rw [if_neg d7, if_pos d17, if_pos d27]; rfl⟩)
      · have d27 : ¬ mn < t.2.1 at_ := fun q => c27 (nI_lt q (h2 at_ hat))
        exact A_vret (pc := 30) dX7_offer_30 rfl (by decide) (by decide) (⟨rfl, by unfold ofT; rw [if_neg d7, if_pos d17, if_neg d27]⟩)

set_option maxHeartbeats 4000000 in
set_option maxRecDepth 100000 in
theorem mlp_al {c : XV} {n : MN} {p : Nat → Nat} {al : Int32} {s : MS} {r : MR} {w : MW} {k : MK} {a : MA} {pl : MP} {fr : Nat → Nat} {t : MT} {rest : AH} {post : Post} (hr3 : r.2.2.2.1 ≤ 30) (hr4 : ∀ i, i < r.2.2.2.1 → r.2.2.2.2 i < 4) (kd nb : Int32) (i : Nat) (ha : a.2.2.1 ≤ 30) (hat : i + a.2.2.1 ≤ r.2.2.2.1) (hpa : paOk a) (m : Nat) : ∀ (p9 : Nat) (_ : p9 + m = a.2.2.1) (_ : cmT a.2.2.2 r.2.2.2.2 i m p9 = true → post (some (.int (nI (i + a.2.2.1)))) (MX c n p al s r w k a pl fr t rest)) (_ : cmT a.2.2.2 r.2.2.2.2 i m p9 = false → post (some (.int (-1))) (MX c n p al s r w k a pl fr t rest)), AW mX7_along 3 0 0 0 0 48 [some (.ref 25), some (.int (nI i)), some (.int kd), some (.int nb), some (.int (nI p9))] [] (MX c n p al s r w k a pl fr t rest) (post) := by
  induction m with
  | zero =>
    intro p9 hp hT hF
    refine A_iload4 (pc := 48) dX7_along_48 ?_
    refine A_aload0 (pc := 50) dX7_along_50 ?_
    refine A_getf (pc := 51) flX7_118 dX7_along_51 rfl rfl ?_
    refine A_icmp_ge (pc := 54) (tgt := 84) dX7_along_54 (by decide) (fun c54 => ?_) (fun c54 => absurd (show nI a.2.2.1 ≤ nI p9 from nI_le (by omega) (by omega)) c54)
    refine A_iload1 (pc := 84) dX7_along_84 ?_
    refine A_aload0 (pc := 85) dX7_along_85 ?_
    refine A_getf (pc := 86) flX7_118 dX7_along_86 rfl rfl ?_
    refine A_iadd (pc := 89) dX7_along_89 ?_
    rw [nI_add]
    exact A_iret (pc := 90) dX7_along_90 rfl rfl (by decide) (by decide) (hT rfl)
  | succ m ih =>
    intro p9 hp hT hF
    refine A_iload4 (pc := 48) dX7_along_48 ?_
    refine A_aload0 (pc := 50) dX7_along_50 ?_
    refine A_getf (pc := 51) flX7_118 dX7_along_51 rfl rfl ?_
    refine A_icmp_ge (pc := 54) (tgt := 84) dX7_along_54 (by decide) (fun c54 => absurd c54 (show ¬ nI a.2.2.1 ≤ nI p9 from nI_ge (by omega) (by omega))) (fun c54 => ?_)
    refine A_aload0 (pc := 57) dX7_along_57 ?_
    refine A_getf (pc := 58) flX7_59 dX7_along_58 rfl rfl ?_
    refine A_iload4 (pc := 61) dX7_along_61 ?_
    refine A_ialdN (pc := 63) (i := p9) dX7_along_63 rfl rfl (by omega) (by decide) ?_
    refine A_aload0 (pc := 64) dX7_along_64 ?_
    refine A_getf (pc := 65) flX7_32 dX7_along_65 rfl rfl ?_
    refine A_iload1 (pc := 68) dX7_along_68 ?_
    refine A_iload4 (pc := 69) dX7_along_69 ?_
    refine A_iadd (pc := 71) dX7_along_71 ?_
    refine A_ialdN (pc := 72) (i := (i + p9)) dX7_along_72 rfl (nI_add i p9) (by omega) (by decide) ?_
    refine A_icmp_eq (pc := 73) (tgt := 78) dX7_along_73 (by decide) (fun c73 => ?_) (fun c73 => ?_)
    · have d73 : a.2.2.2 p9 = r.2.2.2.2 (i + p9) := (nI_eq (by have := hpa p9 (by omega); omega) (by have := hr4 (i + p9) (by omega); omega)).mp c73
      refine A_iinc4 (pc := 78) dX7_along_78 (by decide) (nI_1 p9) ?_
      refine A_goto (pc := 81) (tgt := 48) dX7_along_81 (by decide) ?_
      exact ih (p9 + 1) (by omega) (fun h => hT ((if_pos d73).trans h)) (fun h => hF ((if_pos d73).trans h))
    · have d73 : ¬ a.2.2.2 p9 = r.2.2.2.2 (i + p9) := fun q => c73 (by rw [q])
      refine A_iconst (pc := 76) (v := -1) dX7_along_76 (by decide) ?_
      exact A_iret (pc := 77) dX7_along_77 rfl rfl (by decide) (by decide) (hF (if_neg d73))

set_option maxHeartbeats 4000000 in
set_option maxRecDepth 100000 in
theorem mp_along {c : XV} {n : MN} {p : Nat → Nat} {al : Int32} {s : MS} {r : MR} {w : MW} {k : MK} {a : MA} {pl : MP} {fr : Nat → Nat} {t : MT} {rest : AH} (hl : VL n.2.2.1) (hnm : ∀ x, x < 96 → n.2.2.2 x < 2 ^ 31) (hsg : ∀ x, x < 24 → n.2.1 x < 2 ^ 31) (hr1 : r.2.1 < 24) (hr2 : r.2.2.1 < 4) (hr3 : r.2.2.2.1 ≤ 30) (hr4 : ∀ i, i < r.2.2.2.1 → r.2.2.2.2 i < 4) (i kd nb : Nat) (hi : i ≤ r.2.2.2.1) (hp1 : pl.1 i < 24) (hp2 : pl.2 i < 4) (hkd : kd < 9) (hnb : nb < 2 ^ 31) (hnb1 : kd = 4 ∨ kd = 5 → 1 ≤ nb) : AS mX7_along 3 0 0 [.ref 25, .int (nI i), .int (nI kd), .int (nI nb)] (MX c n p al s r w k a pl fr t rest) (P1 (oI (alT n r pl a i kd nb).1) (MX c n p al s r w k ((alT n r pl a i kd nb).2) pl fr t rest)) := by
  refine AS.go (lv := [some (.ref 25), some (.int (nI i)), some (.int (nI kd)), some (.int (nI nb)), none]) rfl ?_ (by decide +kernel) rfl (Nat.le_of_ble_eq_true rfl)
  refine A_aload0 (pc := 0) dX7_along_0 ?_
  refine A_aload0 (pc := 1) dX7_along_1 ?_
  refine A_getf (pc := 2) flX7_62 dX7_along_2 rfl rfl ?_
  refine A_iload1 (pc := 5) dX7_along_5 ?_
  refine A_ialdN (pc := 6) (i := i) dX7_along_6 rfl rfl (by omega) (by decide) ?_
  refine A_putf (pc := 7) flX7_115 ft7_27 dX7_along_7 rfl (Nat.le_of_ble_eq_true rfl) (fun _ => ⟨rfl, rfl⟩) ?_
  refine A_aload0 (pc := 10) dX7_along_10 ?_
  refine A_aload0 (pc := 11) dX7_along_11 ?_
  refine A_getf (pc := 12) flX7_65 dX7_along_12 rfl rfl ?_
  refine A_iload1 (pc := 15) dX7_along_15 ?_
  refine A_ialdN (pc := 16) (i := i) dX7_along_16 rfl rfl (by omega) (by decide) ?_
  refine A_putf (pc := 17) flX7_121 ft7_28 dX7_along_17 rfl (Nat.le_of_ble_eq_true rfl) (fun _ => ⟨rfl, rfl⟩) ?_
  refine AW.heq (hp' := MX c n p al s r w k ((pl.1 i, pl.2 i, a.2.2)) pl fr t rest) rfl ?_
  refine A_aload0 (pc := 20) dX7_along_20 ?_
  refine A_iload2 (pc := 21) dX7_along_21 ?_
  refine A_iload3 (pc := 22) dX7_along_22 ?_
  refine A_iconst (pc := 23) (v := 0) dX7_along_23 (by decide) ?_
  refine A_cvi (pc := 24) cvX7_145 (mp_does hl hnm hsg (a := (pl.1 i, pl.2 i, a.2.2)) hp1 hp2 kd nb 0 hkd hnb hnb1 (by decide)) dX7_along_24 rfl rfl rfl rfl (Nat.le_of_ble_eq_true rfl) (by decide) (by decide) (by decide) ?_
  refine AW.heq (hp' := MX c n p al s r w k ((alD n pl a i kd nb).2) pl fr t rest) rfl ?_
  change AW mX7_along 3 0 0 0 0 27 _ [.int (bI (alD n pl a i kd nb).1)] _ _
  refine A_if_eq (pc := 27) (tgt := 43) dX7_along_27 (by decide) (fun c27 => ?_) (fun c27 => ?_)
  · replace c27 := (bI_eq _).mp c27
    refine A_iconst (pc := 43) (v := -1) dX7_along_43 (by decide) ?_
    exact A_iret (pc := 44) dX7_along_44 rfl rfl (by decide) (by decide) (⟨by unfold alT; rw [if_neg (by rw [c27]; decide)]; rfl, rfl⟩)
  · replace c27 := (bI_ne _).mp c27
    have hd9 : okA (alD n pl a i kd nb).2 := dsT_ok hl hp1 hp2 kd nb 0
    have hp9 : paOk (alD n pl a i kd nb).2 := dsT_pa hl hp1 hp2 kd nb 0
    refine A_iload1 (pc := 30) dX7_along_30 ?_
    refine A_aload0 (pc := 31) dX7_along_31 ?_
    refine A_getf (pc := 32) flX7_118 dX7_along_32 rfl rfl ?_
    refine A_iadd (pc := 35) dX7_along_35 ?_
    rw [nI_add]
    refine A_aload0 (pc := 36) dX7_along_36 ?_
    refine A_getf (pc := 37) flX7_101 dX7_along_37 rfl rfl ?_
    refine A_icmp_le (pc := 40) (tgt := 45) dX7_along_40 (by decide) (fun c40 => ?_) (fun c40 => ?_)
    · have d40 : i + (alD n pl a i kd nb).2.2.2.1 ≤ r.2.2.2.1 := (nI_leI (by have := hd9.2.2; omega) (by omega)).mp c40
      refine A_iconst (pc := 45) (v := 0) dX7_along_45 (by decide) ?_
      refine A_istore4 (pc := 46) dX7_along_46 (by decide) ?_
      refine mlp_al hr3 hr4 _ _ i hd9.2.2 d40 hp9 (alD n pl a i kd nb).2.2.2.1 0 (by omega) (fun hc => ?_) (fun hc => ?_)
      · exact ⟨by unfold alT; rw [if_pos c27, if_pos d40, if_pos hc]; rfl, rfl⟩
      · exact ⟨by unfold alT; rw [if_pos c27, if_pos d40, if_neg (by rw [hc]; decide)]; rfl, rfl⟩
    · have d40 : ¬ i + (alD n pl a i kd nb).2.2.2.1 ≤ r.2.2.2.1 := fun q => c40 (nI_le q (by omega))
      refine A_iconst (pc := 43) (v := -1) dX7_along_43 (by decide) ?_
      exact A_iret (pc := 44) dX7_along_44 rfl rfl (by decide) (by decide) (⟨by unfold alT; rw [if_pos c27, if_neg d40]; rfl, rfl⟩)
