/-! the model: the net, prices, what is said -/
abbrev tN (x : Int32) : Nat := x.toNatClampNeg
theorem ix4' {x y : Int32} {i j : Nat} (hx : x = nI i) (hy : y = nI j) : 4 * x + y = nI (4 * i + j) := by rw [hx, hy, ix4]
theorem tN_of {x : Int32} {j : Nat} (h : x = nI j) (hj : j < 2 ^ 31) : tN x = j := by rw [h]; exact nI_clamp hj
theorem hasI_nat {K : Nat} {x : Int32} (hK : K ≤ 24) (h : hasI (nI K) x = true) : x = nI (tN x) ∧ tN x < K := by
  obtain ⟨h0, h1, -⟩ := hasI_t h
  obtain ⟨j, hj, rfl⟩ := nI_get (by omega) h0 h1
  rw [show tN (nI j) = j from nI_clamp (by omega)]
  exact ⟨rfl, hj⟩
theorem exI_nat {x : Int32} (h : exI x = true) : x = nI (tN x) ∧ tN x < 4 := by
  obtain ⟨h0, h1⟩ := exI_t h
  obtain ⟨j, hj, rfl⟩ := nI_get (by decide) h0 h1
  rw [show tN (nI j) = j from nI_clamp (by omega)]
  exact ⟨rfl, hj⟩
theorem inI_nat {x : Int32} {H : Nat} (hH : H < 2 ^ 31) (h : inI x 0 (nI H) = true) : x = nI (tN x) ∧ tN x ≤ H := by
  unfold inI at h
  split at h
  · cases h
  · next h0 =>
    split at h
    · cases h
    · next h1 =>
      obtain ⟨j, hj, rfl⟩ := nI_of h0
      rw [show tN (nI j) = j from nI_clamp hj]
      refine ⟨rfl, ?_⟩
      rcases Nat.lt_or_ge H j with q | q
      · exact absurd (nI_lt q hj) h1
      · exact q
theorem and_t {b c : Bool} (h : (if b = true then c else false) = true) : b = true ∧ c = true := by cases b <;> cases c <;> simp_all
def isX (K : Nat) (x e : Int32) : Bool := if hasI (nI K) x = true then exI e else false
def isS (k v : Int32) : Bool := if inI k 0 8 = true then inI v (if moN (tN k) = 0 then 0 else 1) (nI (moN (tN k))) else false
def knN (n : MN) (s : Int32) : MN := (n.1 + 1, updN n.2.1 n.1 (tN s), n.2.2)
def sxB (n : MN) (x y : Nat) : Bool := if x = y then false else if (n.2.2.1 x).isSome = true then false else if (n.2.2.1 y).isSome = true then false else true
def sxN (n : MN) (x y v : Nat) : MN := (n.1, n.2.1, updO (updO n.2.2.1 x (some y)) y (some x), updN (updN n.2.2.2 x v) y v)
def skB (n : MN) (a e b f v : Int32) : Bool := if isX n.1 a e = true then (if isX n.1 b f = true then (if inI v 0 9 = true then sxB n (4 * tN a + tN e) (4 * tN b + tN f) else false) else false) else false
def skN (n : MN) (a e b f v : Int32) : MN := if skB n a e b f v = true then sxN n (4 * tN a + tN e) (4 * tN b + tN f) (tN v) else n
def shM (n : MN) (x s : Int32) : MN := (n.1, updN n.2.1 (tN x) (tN s), n.2.2)
def lkM (n : MN) (x e v : Int32) : Int32 := if hasI (nI n.1) x = true then (if v = 3 then nI (n.2.1 (tN x)) else if exI e = true then (match n.2.2.1 (4 * tN x + tN e) with
  | none => -1
  | some y => if v = 0 then nI (y / 4) else if v = 1 then nI ((y + 2) % 4) else if v = 2 then nI (n.2.2.2 (4 * tN x + tN e)) else -1) else -1) else -1
def okP (k v : Int32) : Bool := if inI k 0 8 = true then inI v 0 50 else false
def okSy (s : MS) (k v : Int32) : Bool := if isS k v = true then (if s.1 = 60 then false else true) else false
def syN (s : MS) (k v : Int32) : MS := (s.1 + 1, updN s.2.1 s.1 (tN k), updN s.2.2 s.1 (tN v))
theorem oI_iff {v : Option Nat} (h : ∀ y, v = some y → y < 2 ^ 31) : oI v = -1 ↔ v.isSome = false := by
  cases v with
  | none => exact ⟨fun _ => rfl, fun _ => rfl⟩
  | some y => exact ⟨fun q => absurd q (oI_some (h y rfl)), fun q => by cases q⟩

set_option maxHeartbeats 4000000 in
set_option maxRecDepth 100000 in
theorem mp_knot {c : XV} {n : MN} {p : Nat → Nat} {al : Int32} {s : MS} {r : MR} {w : MW} {k : MK} {a : MA} {pl : MP} {fr : Nat → Nat} {t : MT} {rest : AH} (hK : n.1 ≤ 24) (x : Int32) : AS mX7_knot 1 0 0 [.ref 25, .int x] (MX c n p al s r w k a pl fr t rest) (P1 (if inI x 0 7 = true then (if n.1 = 24 then -1 else nI n.1) else -1) (MX c (if inI x 0 7 = true then (if n.1 = 24 then n else knN n x) else n) p al s r w k a pl fr t rest)) := by
  refine AS.go (lv := [some (.ref 25), some (.int x)]) rfl ?_ (by decide +kernel) rfl (Nat.le_of_ble_eq_true rfl)
  refine A_iload1 (pc := 0) dX7_knot_0 ?_
  refine A_iconst (pc := 1) (v := 0) dX7_knot_1 (by decide) ?_
  refine A_bipush (pc := 2) (v := 7) dX7_knot_2 (by decide) ?_
  refine A_csi (pc := 4) csX7_86 (mp_in _ _ _) dX7_knot_4 rfl rfl (Nat.le_of_ble_eq_true rfl) (by decide) (by decide) (by decide) ?_
  refine A_if_eq (pc := 7) (tgt := 19) dX7_knot_7 (by decide) (fun c7 => ?_) (fun c7 => ?_)
  · replace c7 := (bI_eq _).mp c7
    refine A_iconst (pc := 19) (v := -1) dX7_knot_19 (by decide) ?_
    exact A_iret (pc := 20) dX7_knot_20 rfl rfl (by decide) (by decide) (⟨by rw [if_neg (by rw [c7]; decide)], by rw [if_neg (by rw [c7]; decide)]⟩)
  · replace c7 := (bI_ne _).mp c7
    refine A_aload0 (pc := 10) dX7_knot_10 ?_
    refine A_getf (pc := 11) flX7_83 dX7_knot_11 rfl rfl ?_
    refine A_bipush (pc := 14) (v := 24) dX7_knot_14 (by decide) ?_
    refine A_icmp_ne (pc := 16) (tgt := 21) dX7_knot_16 (by decide) (fun c16 => ?_) (fun c16 => ?_)
    · have d16 : ¬ n.1 = 24 := fun q => c16 (by rw [q]; rfl)
      refine A_aload0 (pc := 21) dX7_knot_21 ?_
      refine A_getf (pc := 22) flX7_9 dX7_knot_22 rfl rfl ?_
      refine A_aload0 (pc := 25) dX7_knot_25 ?_
      refine A_getf (pc := 26) flX7_83 dX7_knot_26 rfl rfl ?_
      refine A_iload1 (pc := 29) dX7_knot_29 ?_
      refine A_iastN (pc := 30) (i := n.1) (v := (tN x)) dX7_knot_30 rfl rfl (inI_nat (H := 7) (by decide) c7).1 (by omega) (by decide) ?_
      refine A_aload0 (pc := 31) dX7_knot_31 ?_
      refine A_dup (pc := 32) dX7_knot_32 rfl ?_
      refine A_getf (pc := 33) flX7_83 dX7_knot_33 rfl rfl ?_
      refine A_iconst (pc := 36) (v := 1) dX7_knot_36 (by decide) ?_
      refine A_iadd (pc := 37) dX7_knot_37 ?_
      rw [nI_1]
      refine A_putf (pc := 38) flX7_83 ft7_1 dX7_knot_38 rfl (Nat.le_of_ble_eq_true rfl) (fun _ => ⟨rfl, rfl⟩) ?_
      refine A_aload0 (pc := 41) dX7_knot_41 ?_
      refine A_getf (pc := 42) flX7_83 dX7_knot_42 rfl rfl ?_
      refine A_iconst (pc := 45) (v := 1) dX7_knot_45 (by decide) ?_
      refine A_isub (pc := 46) dX7_knot_46 ?_
      rw [show nI (n.1 + 1) - 1 = nI n.1 from nI_pred n.1]
      exact A_iret (pc := 47) dX7_knot_47 rfl rfl (by decide) (by decide) (⟨by rw [if_pos c7, if_neg d16], by rw [if_pos c7, if_neg d16]; rfl⟩)
    · have d16 : n.1 = 24 := (nI_eq (by omega) (by decide)).mp c16
      refine A_iconst (pc := 19) (v := -1) dX7_knot_19 (by decide) ?_
      exact A_iret (pc := 20) dX7_knot_20 rfl rfl (by decide) (by decide) (⟨by rw [if_pos c7, if_pos d16], by rw [if_pos c7, if_pos d16]⟩)

theorem oI_c {n : MN} (hl : VL n.2.2.1) {x : Nat} (hx : x < 96) : oI (n.2.2.1 x) = -1 ↔ (n.2.2.1 x).isSome = false := oI_iff (fun y hy => by have := hl x y hx hy; omega)
set_option maxHeartbeats 4000000 in
set_option maxRecDepth 100000 in
theorem mp_street {c : XV} {n : MN} {p : Nat → Nat} {al : Int32} {s : MS} {r : MR} {w : MW} {k : MK} {a : MA} {pl : MP} {fr : Nat → Nat} {t : MT} {rest : AH} (hK : n.1 ≤ 24) (hl : VL n.2.2.1) (a9 e b f v : Int32) : AS mX7_street 3 0 0 [.ref 25, .int a9, .int e, .int b, .int f, .int v] (MX c n p al s r w k a pl fr t rest) (P1 (bI (skB n a9 e b f v)) (MX c (skN n a9 e b f v) p al s r w k a pl fr t rest)) := by
  refine AS.go (lv := [some (.ref 25), some (.int a9), some (.int e), some (.int b), some (.int f), some (.int v), none, none]) rfl ?_ (by decide +kernel) rfl (Nat.le_of_ble_eq_true rfl)
  refine A_aload0 (pc := 0) dX7_street_0 ?_
  refine A_iload1 (pc := 1) dX7_street_1 ?_
  refine A_iload2 (pc := 2) dX7_street_2 ?_
  refine A_cvi (pc := 3) cvX7_94 (mp_isExit hK _ _) dX7_street_3 rfl rfl rfl rfl (Nat.le_of_ble_eq_true rfl) (by decide) (by decide) (by decide) ?_
  refine A_if_eq (pc := 6) (tgt := 30) dX7_street_6 (by decide) (fun c6 => ?_) (fun c6 => ?_)
  · replace c6 := (bI_eq _).mp c6
    refine A_iconst (pc := 30) (v := 0) dX7_street_30 (by decide) ?_
    exact A_iret (pc := 31) dX7_street_31 rfl rfl (by decide) (by decide) (⟨by simp only [skB, sxB, isX, c6, if_true, if_false, Bool.false_eq_true, bI], by simp only [skN, skB, sxB, isX, c6, if_true, if_false, Bool.false_eq_true]⟩)
  · replace c6 := (bI_ne _).mp c6
    refine A_aload0 (pc := 9) dX7_street_9 ?_
    refine A_iload3 (pc := 10) dX7_street_10 ?_
    refine A_iload4 (pc := 11) dX7_street_11 ?_
    refine A_cvi (pc := 13) cvX7_94 (mp_isExit hK _ _) dX7_street_13 rfl rfl rfl rfl (Nat.le_of_ble_eq_true rfl) (by decide) (by decide) (by decide) ?_
    refine A_if_eq (pc := 16) (tgt := 30) dX7_street_16 (by decide) (fun c16 => ?_) (fun c16 => ?_)
    · replace c16 := (bI_eq _).mp c16
      refine A_iconst (pc := 30) (v := 0) dX7_street_30 (by decide) ?_
      exact A_iret (pc := 31) dX7_street_31 rfl rfl (by decide) (by decide) (⟨by simp only [skB, sxB, isX, c6, c16, if_true, if_false, Bool.false_eq_true, bI], by simp only [skN, skB, sxB, isX, c6, c16, if_true, if_false, Bool.false_eq_true]⟩)
    · replace c16 := (bI_ne _).mp c16
      refine A_iload5 (pc := 19) dX7_street_19 ?_
      refine A_iconst (pc := 21) (v := 0) dX7_street_21 (by decide) ?_
      refine A_bipush (pc := 22) (v := 9) dX7_street_22 (by decide) ?_
      refine A_csi (pc := 24) csX7_86 (mp_in _ _ _) dX7_street_24 rfl rfl (Nat.le_of_ble_eq_true rfl) (by decide) (by decide) (by decide) ?_
      refine A_if_ne (pc := 27) (tgt := 32) dX7_street_27 (by decide) (fun c27 => ?_) (fun c27 => ?_)
      · replace c27 := (bI_ne _).mp c27
        have hx : 4 * tN a9 + tN e < 96 := by have h1 := (hasI_nat hK (and_t c6).1).2; have h2 := (exI_nat (and_t c6).2).2; omega
        have hy : 4 * tN b + tN f < 96 := by have h1 := (hasI_nat hK (and_t c16).1).2; have h2 := (exI_nat (and_t c16).2).2; omega
        refine A_iconst (pc := 32) (v := 4) dX7_street_32 (by decide) ?_
        refine A_iload1 (pc := 33) dX7_street_33 ?_
        refine A_imul (pc := 34) dX7_street_34 ?_
        refine A_iload2 (pc := 35) dX7_street_35 ?_
        refine A_iadd (pc := 36) dX7_street_36 ?_
        refine A_istore6 (pc := 37) dX7_street_37 (by decide) ?_
        refine A_iconst (pc := 39) (v := 4) dX7_street_39 (by decide) ?_
        refine A_iload3 (pc := 40) dX7_street_40 ?_
        refine A_imul (pc := 41) dX7_street_41 ?_
        refine A_iload4 (pc := 42) dX7_street_42 ?_
        refine A_iadd (pc := 44) dX7_street_44 ?_
        refine A_istore7 (pc := 45) dX7_street_45 (by decide) ?_
        refine A_iload6 (pc := 47) dX7_street_47 ?_
        refine A_iload7 (pc := 49) dX7_street_49 ?_
        refine A_icmp_eq (pc := 51) (tgt := 76) dX7_street_51 (by decide) (fun c51 => ?_) (fun c51 => ?_)
        · have d51 : 4 * tN a9 + tN e = 4 * tN b + tN f := (nI_eq (by omega) (by omega)).mp (ix4' ((hasI_nat hK (and_t c6).1).1) ((exI_nat (and_t c6).2).1) ▸ ix4' ((hasI_nat hK (and_t c16).1).1) ((exI_nat (and_t c16).2).1) ▸ c51)
          refine A_iconst (pc := 76) (v := 0) dX7_street_76 (by decide) ?_
          exact A_iret (pc := 77) dX7_street_77 rfl rfl (by decide) (by decide) (⟨by simp only [skB, sxB, isX, c6, c16, c27, d51, if_true, if_false, Bool.false_eq_true, bI], by simp only [skN, skB, sxB, isX, c6, c16, c27, d51, if_true, if_false, Bool.false_eq_true]⟩)
        · have d51 : ¬ 4 * tN a9 + tN e = 4 * tN b + tN f := fun q => c51 (by rw [ix4' ((hasI_nat hK (and_t c6).1).1) ((exI_nat (and_t c6).2).1), ix4' ((hasI_nat hK (and_t c16).1).1) ((exI_nat (and_t c16).2).1), q])
          refine A_aload0 (pc := 54) dX7_street_54 ?_
          refine A_getf (pc := 55) flX7_13 dX7_street_55 rfl rfl ?_
          refine A_iload6 (pc := 58) dX7_street_58 ?_
          refine A_ialdN (pc := 60) (i := (4 * tN a9 + tN e)) dX7_street_60 rfl (ix4' ((hasI_nat hK (and_t c6).1).1) ((exI_nat (and_t c6).2).1)) hx (by decide) ?_
          refine A_iconst (pc := 61) (v := -1) dX7_street_61 (by decide) ?_
          refine A_icmp_ne (pc := 62) (tgt := 76) dX7_street_62 (by decide) (fun c62 => ?_) (fun c62 => ?_)
          · have d62 : (n.2.2.1 (4 * tN a9 + tN e)).isSome = true := by cases hq : (n.2.2.1 (4 * tN a9 + tN e)).isSome with
              | true => rfl
              | false => exact absurd ((oI_c hl hx).mpr hq) c62
            refine A_iconst (pc := 76) (v := 0) dX7_street_76 (by decide) ?_
            exact A_iret (pc := 77) dX7_street_77 rfl rfl (by decide) (by decide) (⟨by simp only [skB, sxB, isX, c6, c16, c27, d51, d62, if_true, if_false, Bool.false_eq_true, bI], by simp only [skN, skB, sxB, isX, c6, c16, c27, d51, d62, if_true, if_false, Bool.false_eq_true]⟩)
          · have d62 := (oI_c hl hx).mp c62
            refine A_aload0 (pc := 65) dX7_street_65 ?_
            refine A_getf (pc := 66) flX7_13 dX7_street_66 rfl rfl ?_
            refine A_iload7 (pc := 69) dX7_street_69 ?_
            refine A_ialdN (pc := 71) (i := (4 * tN b + tN f)) dX7_street_71 rfl (ix4' ((hasI_nat hK (and_t c16).1).1) ((exI_nat (and_t c16).2).1)) hy (by decide) ?_
            refine A_iconst (pc := 72) (v := -1) dX7_street_72 (by decide) ?_
            refine A_icmp_eq (pc := 73) (tgt := 78) dX7_street_73 (by decide) (fun c73 => ?_) (fun c73 => ?_)
            · have d73 := (oI_c hl hy).mp c73
              refine A_aload0 (pc := 78) dX7_street_78 ?_
              refine A_getf (pc := 79) flX7_13 dX7_street_79 rfl rfl ?_
              refine A_iload6 (pc := 82) dX7_street_82 ?_
              refine A_iload7 (pc := 84) dX7_street_84 ?_
              refine A_iastO (pc := 86) (i := (4 * tN a9 + tN e)) (v := (some (4 * tN b + tN f))) dX7_street_86 rfl (ix4' ((hasI_nat hK (and_t c6).1).1) ((exI_nat (and_t c6).2).1)) (ix4' ((hasI_nat hK (and_t c16).1).1) ((exI_nat (and_t c16).2).1)) hx (by decide) ?_
              refine A_aload0 (pc := 87) dX7_street_87 ?_
              refine A_getf (pc := 88) flX7_13 dX7_street_88 rfl rfl ?_
              refine A_iload7 (pc := 91) dX7_street_91 ?_
              refine A_iload6 (pc := 93) dX7_street_93 ?_
              refine A_iastO (pc := 95) (i := (4 * tN b + tN f)) (v := (some (4 * tN a9 + tN e))) dX7_street_95 rfl (ix4' ((hasI_nat hK (and_t c16).1).1) ((exI_nat (and_t c16).2).1)) (ix4' ((hasI_nat hK (and_t c6).1).1) ((exI_nat (and_t c6).2).1)) hy (by decide) ?_
              refine A_aload0 (pc := 96) dX7_street_96 ?_
              refine A_getf (pc := 97) flX7_16 dX7_street_97 rfl rfl ?_
              refine A_iload6 (pc := 100) dX7_street_100 ?_
              refine A_iload5 (pc := 102) dX7_street_102 ?_
              refine A_iastN (pc := 104) (i := (4 * tN a9 + tN e)) (v := (tN v)) dX7_street_104 rfl (ix4' ((hasI_nat hK (and_t c6).1).1) ((exI_nat (and_t c6).2).1)) ((inI_nat (H := 9) (by decide) c27).1) hx (by decide) ?_
              refine A_aload0 (pc := 105) dX7_street_105 ?_
              refine A_getf (pc := 106) flX7_16 dX7_street_106 rfl rfl ?_
              refine A_iload7 (pc := 109) dX7_street_109 ?_
              refine A_iload5 (pc := 111) dX7_street_111 ?_
              refine A_iastN (pc := 113) (i := (4 * tN b + tN f)) (v := (tN v)) dX7_street_113 rfl (ix4' ((hasI_nat hK (and_t c16).1).1) ((exI_nat (and_t c16).2).1)) ((inI_nat (H := 9) (by decide) c27).1) hy (by decide) ?_
              refine A_iconst (pc := 114) (v := 1) dX7_street_114 (by decide) ?_
              exact A_iret (pc := 115) dX7_street_115 rfl rfl (by decide) (by decide) (⟨by simp only [skB, sxB, isX, c6, c16, c27, d51, d62, d73, if_true, if_false, Bool.false_eq_true, bI], by simp only [skN, skB, sxB, isX, c6, c16, c27, d51, d62, d73, if_true, if_false, Bool.false_eq_true]; rfl⟩)
            · have d73 : (n.2.2.1 (4 * tN b + tN f)).isSome = true := by cases hq : (n.2.2.1 (4 * tN b + tN f)).isSome with
                | true => rfl
                | false => exact absurd ((oI_c hl hy).mpr hq) c73
              refine A_iconst (pc := 76) (v := 0) dX7_street_76 (by decide) ?_
              exact A_iret (pc := 77) dX7_street_77 rfl rfl (by decide) (by decide) (⟨by simp only [skB, sxB, isX, c6, c16, c27, d51, d62, d73, if_true, if_false, Bool.false_eq_true, bI], by simp only [skN, skB, sxB, isX, c6, c16, c27, d51, d62, d73, if_true, if_false, Bool.false_eq_true]⟩)
      · replace c27 := (bI_eq _).mp c27
        refine A_iconst (pc := 30) (v := 0) dX7_street_30 (by decide) ?_
        exact A_iret (pc := 31) dX7_street_31 rfl rfl (by decide) (by decide) (⟨by simp only [skB, sxB, isX, c6, c16, c27, if_true, if_false, Bool.false_eq_true, bI], by simp only [skN, skB, sxB, isX, c6, c16, c27, if_true, if_false, Bool.false_eq_true]⟩)

set_option maxHeartbeats 4000000 in
set_option maxRecDepth 100000 in
theorem mp_sight {c : XV} {n : MN} {p : Nat → Nat} {al : Int32} {s : MS} {r : MR} {w : MW} {k : MK} {a : MA} {pl : MP} {fr : Nat → Nat} {t : MT} {rest : AH} (hK : n.1 ≤ 24) (x v : Int32) : AS mX7_sight 2 0 0 [.ref 25, .int x, .int v] (MX c n p al s r w k a pl fr t rest) (P1 (bI (if hasI (nI n.1) x = true then inI v 0 7 else false)) (MX c (if hasI (nI n.1) x = true then (if inI v 0 7 = true then shM n x v else n) else n) p al s r w k a pl fr t rest)) := by
  refine AS.go (lv := [some (.ref 25), some (.int x), some (.int v)]) rfl ?_ (by decide +kernel) rfl (Nat.le_of_ble_eq_true rfl)
  refine A_aload0 (pc := 0) dX7_sight_0 ?_
  refine A_iload1 (pc := 1) dX7_sight_1 ?_
  refine A_cvi (pc := 2) cvX7_90 (mp_isKnot hK _) dX7_sight_2 rfl rfl rfl rfl (Nat.le_of_ble_eq_true rfl) (by decide) (by decide) (by decide) ?_
  refine A_if_eq (pc := 5) (tgt := 18) dX7_sight_5 (by decide) (fun c5 => ?_) (fun c5 => ?_)
  · replace c5 := (bI_eq _).mp c5
    refine A_iconst (pc := 18) (v := 0) dX7_sight_18 (by decide) ?_
    exact A_iret (pc := 19) dX7_sight_19 rfl rfl (by decide) (by decide) (⟨by simp only [c5, if_true, if_false, Bool.false_eq_true, bI], by simp only [c5, if_true, if_false, Bool.false_eq_true]⟩)
  · replace c5 := (bI_ne _).mp c5
    refine A_iload2 (pc := 8) dX7_sight_8 ?_
    refine A_iconst (pc := 9) (v := 0) dX7_sight_9 (by decide) ?_
    refine A_bipush (pc := 10) (v := 7) dX7_sight_10 (by decide) ?_
    refine A_csi (pc := 12) csX7_86 (mp_in _ _ _) dX7_sight_12 rfl rfl (Nat.le_of_ble_eq_true rfl) (by decide) (by decide) (by decide) ?_
    refine A_if_ne (pc := 15) (tgt := 20) dX7_sight_15 (by decide) (fun c15 => ?_) (fun c15 => ?_)
    · replace c15 := (bI_ne _).mp c15
      refine A_aload0 (pc := 20) dX7_sight_20 ?_
      refine A_getf (pc := 21) flX7_9 dX7_sight_21 rfl rfl ?_
      refine A_iload1 (pc := 24) dX7_sight_24 ?_
      refine A_iload2 (pc := 25) dX7_sight_25 ?_
      refine A_iastN (pc := 26) (i := (tN x)) (v := (tN v)) dX7_sight_26 rfl (hasI_nat hK c5).1 (inI_nat (H := 7) (by decide) c15).1 (by have := (hasI_nat hK c5).2; omega) (by decide) ?_
      refine AW.heq (hp' := MX c (shM n x v) p al s r w k a pl fr t rest) rfl ?_
      refine A_iconst (pc := 27) (v := 1) dX7_sight_27 (by decide) ?_
      exact A_iret (pc := 28) dX7_sight_28 rfl rfl (by decide) (by decide) (⟨by simp only [c5, c15, if_true, if_false, Bool.false_eq_true, bI], by simp only [c5, c15, if_true, if_false, Bool.false_eq_true]⟩)
    · replace c15 := (bI_eq _).mp c15
      refine A_iconst (pc := 18) (v := 0) dX7_sight_18 (by decide) ?_
      exact A_iret (pc := 19) dX7_sight_19 rfl rfl (by decide) (by decide) (⟨by simp only [c5, c15, if_true, if_false, Bool.false_eq_true, bI], by simp only [c5, c15, if_true, if_false, Bool.false_eq_true]⟩)

set_option maxHeartbeats 4000000 in
set_option maxRecDepth 100000 in
theorem mp_price {c : XV} {n : MN} {p : Nat → Nat} {al : Int32} {s : MS} {r : MR} {w : MW} {k : MK} {a : MA} {pl : MP} {fr : Nat → Nat} {t : MT} {rest : AH} (x v : Int32) : AS mX7_price 1 0 0 [.ref 25, .int x, .int v] (MX c n p al s r w k a pl fr t rest) (P1 (if okP x v = true then nI (p (tN x)) else -1) (MX c n (if okP x v = true then updN p (tN x) (tN v) else p) al s r w k a pl fr t rest)) := by
  refine AS.go (lv := [some (.ref 25), some (.int x), some (.int v), none]) rfl ?_ (by decide +kernel) rfl (Nat.le_of_ble_eq_true rfl)
  refine A_iload1 (pc := 0) dX7_price_0 ?_
  refine A_iconst (pc := 1) (v := 0) dX7_price_1 (by decide) ?_
  refine A_bipush (pc := 2) (v := 8) dX7_price_2 (by decide) ?_
  refine A_csi (pc := 4) csX7_86 (mp_in _ _ _) dX7_price_4 rfl rfl (Nat.le_of_ble_eq_true rfl) (by decide) (by decide) (by decide) ?_
  refine A_if_eq (pc := 7) (tgt := 20) dX7_price_7 (by decide) (fun c7 => ?_) (fun c7 => ?_)
  · replace c7 := (bI_eq _).mp c7
    refine A_iconst (pc := 20) (v := -1) dX7_price_20 (by decide) ?_
    exact A_iret (pc := 21) dX7_price_21 rfl rfl (by decide) (by decide) (⟨by simp only [okP, c7, if_true, if_false, Bool.false_eq_true, bI], by simp only [okP, c7, if_true, if_false, Bool.false_eq_true]⟩)
  · replace c7 := (bI_ne _).mp c7
    refine A_iload2 (pc := 10) dX7_price_10 ?_
    refine A_iconst (pc := 11) (v := 0) dX7_price_11 (by decide) ?_
    refine A_bipush (pc := 12) (v := 50) dX7_price_12 (by decide) ?_
    refine A_csi (pc := 14) csX7_86 (mp_in _ _ _) dX7_price_14 rfl rfl (Nat.le_of_ble_eq_true rfl) (by decide) (by decide) (by decide) ?_
    refine A_if_ne (pc := 17) (tgt := 22) dX7_price_17 (by decide) (fun c17 => ?_) (fun c17 => ?_)
    · replace c17 := (bI_ne _).mp c17
      refine A_aload0 (pc := 22) dX7_price_22 ?_
      refine A_getf (pc := 23) flX7_19 dX7_price_23 rfl rfl ?_
      refine A_iload1 (pc := 26) dX7_price_26 ?_
      refine A_ialdN (pc := 27) (i := (tN x)) dX7_price_27 rfl (inI_nat (H := 8) (by decide) c7).1 (by have := (inI_nat (H := 8) (by decide) c7).2; omega) (by decide) ?_
      refine A_istore3 (pc := 28) dX7_price_28 (by decide) ?_
      refine A_aload0 (pc := 29) dX7_price_29 ?_
      refine A_getf (pc := 30) flX7_19 dX7_price_30 rfl rfl ?_
      refine A_iload1 (pc := 33) dX7_price_33 ?_
      refine A_iload2 (pc := 34) dX7_price_34 ?_
      refine A_iastN (pc := 35) (i := (tN x)) (v := (tN v)) dX7_price_35 rfl (inI_nat (H := 8) (by decide) c7).1 (inI_nat (H := 50) (by decide) c17).1 (by have := (inI_nat (H := 8) (by decide) c7).2; omega) (by decide) ?_
      refine AW.heq (hp' := MX c n (updN p (tN x) (tN v)) al s r w k a pl fr t rest) rfl ?_
      refine A_iload3 (pc := 36) dX7_price_36 ?_
      exact A_iret (pc := 37) dX7_price_37 rfl rfl (by decide) (by decide) (⟨by simp only [okP, c7, c17, if_true, if_false, Bool.false_eq_true, bI], by simp only [okP, c7, c17, if_true, if_false, Bool.false_eq_true]⟩)
    · replace c17 := (bI_eq _).mp c17
      refine A_iconst (pc := 20) (v := -1) dX7_price_20 (by decide) ?_
      exact A_iret (pc := 21) dX7_price_21 rfl rfl (by decide) (by decide) (⟨by simp only [okP, c7, c17, if_true, if_false, Bool.false_eq_true, bI], by simp only [okP, c7, c17, if_true, if_false, Bool.false_eq_true]⟩)

set_option maxHeartbeats 4000000 in
set_option maxRecDepth 100000 in
theorem mp_allow {c : XV} {n : MN} {p : Nat → Nat} {al : Int32} {s : MS} {r : MR} {w : MW} {k : MK} {a : MA} {pl : MP} {fr : Nat → Nat} {t : MT} {rest : AH} (x : Int32) : AS mX7_allow 1 0 0 [.ref 25, .int x] (MX c n p al s r w k a pl fr t rest) (P1 (if inI x 0 511 = true then al else -1) (MX c n p (if inI x 0 511 = true then x else al) s r w k a pl fr t rest)) := by
  refine AS.go (lv := [some (.ref 25), some (.int x), none]) rfl ?_ (by decide +kernel) rfl (Nat.le_of_ble_eq_true rfl)
  refine A_iload1 (pc := 0) dX7_allow_0 ?_
  refine A_iconst (pc := 1) (v := 0) dX7_allow_1 (by decide) ?_
  refine A_sipush (pc := 2) (v := 511) dX7_allow_2 (by decide) ?_
  refine A_csi (pc := 5) csX7_86 (mp_in _ _ _) dX7_allow_5 rfl rfl (Nat.le_of_ble_eq_true rfl) (by decide) (by decide) (by decide) ?_
  refine A_if_ne (pc := 8) (tgt := 13) dX7_allow_8 (by decide) (fun c8 => ?_) (fun c8 => ?_)
  · replace c8 := (bI_ne _).mp c8
    refine A_aload0 (pc := 13) dX7_allow_13 ?_
    refine A_getf (pc := 14) flX7_22 dX7_allow_14 rfl rfl ?_
    refine A_istore2 (pc := 17) dX7_allow_17 (by decide) ?_
    refine A_aload0 (pc := 18) dX7_allow_18 ?_
    refine A_iload1 (pc := 19) dX7_allow_19 ?_
    refine A_putf (pc := 20) flX7_22 ft7_5 dX7_allow_20 rfl (Nat.le_of_ble_eq_true rfl) (fun _ => ⟨rfl, rfl⟩) ?_
    refine AW.heq (hp' := MX c n p x s r w k a pl fr t rest) rfl ?_
    refine A_iload2 (pc := 23) dX7_allow_23 ?_
    exact A_iret (pc := 24) dX7_allow_24 rfl rfl (by decide) (by decide) (⟨by simp only [c8, if_true, if_false, Bool.false_eq_true, bI], by simp only [c8, if_true, if_false, Bool.false_eq_true]⟩)
  · replace c8 := (bI_eq _).mp c8
    refine A_iconst (pc := 11) (v := -1) dX7_allow_11 (by decide) ?_
    exact A_iret (pc := 12) dX7_allow_12 rfl rfl (by decide) (by decide) (⟨by simp only [c8, if_true, if_false, Bool.false_eq_true, bI], by simp only [c8, if_true, if_false, Bool.false_eq_true]⟩)

theorem moN_lt (kd : Nat) : moN kd ≤ 9 := by
  unfold moN
  split
  · decide
  · split
    · decide
    · split
      · decide
      · split <;> decide
theorem moN_0 (kd : Nat) : nI (moN kd) ≤ 0 ↔ moN kd = 0 := by
  have := moN_lt kd
  constructor
  · intro h
    rcases Nat.eq_zero_or_pos (moN kd) with q | q
    · exact q
    · exact absurd h (nI_nle q (by omega))
  · intro h
    rw [h]
    decide
set_option maxHeartbeats 4000000 in
set_option maxRecDepth 100000 in
theorem mp_isSaying {hp : AH} (x v : Int32) : AS mX7_isSaying 1 0 0 [.int x, .int v] (hp) (P1 (bI (isS x v)) hp) := by
  refine AS.go (lv := [some (.int x), some (.int v)]) rfl ?_ (by decide +kernel) rfl (Nat.le_of_ble_eq_true rfl)
  cases h7 : inI x 0 8 with
  | false =>
    refine A_iload0 (pc := 0) dX7_isSaying_0 ?_
    refine A_iconst (pc := 1) (v := 0) dX7_isSaying_1 (by decide) ?_
    refine A_bipush (pc := 2) (v := 8) dX7_isSaying_2 (by decide) ?_
    refine A_csi (pc := 4) csX7_86 (mp_in _ _ _) dX7_isSaying_4 rfl rfl (Nat.le_of_ble_eq_true rfl) (by decide) (by decide) (by decide) ?_
    refine A_if_eq (pc := 7) (tgt := 37) dX7_isSaying_7 (by decide) (fun c7 => ?_) (fun c7 => absurd (by rw [h7]; rfl) c7)
    refine A_iconst (pc := 37) (v := 0) dX7_isSaying_37 (by decide) ?_
    exact A_iret (pc := 38) dX7_isSaying_38 rfl rfl (by decide) (by decide) (⟨by simp only [isS, h7, if_false, Bool.false_eq_true]; rfl, rfl⟩)
  | true =>
    obtain ⟨hj1, hj2⟩ := inI_nat (H := 8) (by decide) h7
    obtain ⟨j, hj⟩ : ∃ j, j = tN x := ⟨_, rfl⟩
    rw [← hj] at hj1 hj2
    subst hj1
    by_cases h15 : moN j = 0
    · refine A_iload0 (pc := 0) dX7_isSaying_0 ?_
      refine A_iconst (pc := 1) (v := 0) dX7_isSaying_1 (by decide) ?_
      refine A_bipush (pc := 2) (v := 8) dX7_isSaying_2 (by decide) ?_
      refine A_csi (pc := 4) csX7_86 (mp_in _ _ _) dX7_isSaying_4 rfl rfl (Nat.le_of_ble_eq_true rfl) (by decide) (by decide) (by decide) ?_
      refine A_if_eq (pc := 7) (tgt := 37) dX7_isSaying_7 (by decide) (fun c7 => absurd c7 (by rw [h7]; decide)) (fun c7 => ?_)
      refine A_iload1 (pc := 10) dX7_isSaying_10 ?_
      refine A_iload0 (pc := 11) dX7_isSaying_11 ?_
      refine A_csi (pc := 12) csX7_111 (mp_mostOf j (by omega)) dX7_isSaying_12 rfl rfl (Nat.le_of_ble_eq_true rfl) (by decide) (by decide) (by decide) ?_
      refine A_if_le (pc := 15) (tgt := 22) dX7_isSaying_15 (by decide) (fun c15 => ?_) (fun c15 => absurd ((moN_0 _).mpr h15) c15)
      refine A_iconst (pc := 22) (v := 0) dX7_isSaying_22 (by decide) ?_
      refine A_iload0 (pc := 23) dX7_isSaying_23 ?_
      refine A_csi (pc := 24) csX7_111 (mp_mostOf j (by omega)) dX7_isSaying_24 rfl rfl (Nat.le_of_ble_eq_true rfl) (by decide) (by decide) (by decide) ?_
      refine A_csi (pc := 27) csX7_86 (mp_in _ _ _) dX7_isSaying_27 rfl rfl (Nat.le_of_ble_eq_true rfl) (by decide) (by decide) (by decide) ?_
      refine A_if_eq (pc := 30) (tgt := 37) dX7_isSaying_30 (by decide) (fun c30 => ?_) (fun c30 => ?_)
      · replace c30 := (bI_eq _).mp c30
        rw [h15] at c30
        refine A_iconst (pc := 37) (v := 0) dX7_isSaying_37 (by decide) ?_
        exact A_iret (pc := 38) dX7_isSaying_38 rfl rfl (by decide) (by decide) (⟨by simp only [isS, h7, show tN (nI j) = j from nI_clamp (by omega), h15, c30, if_true, if_false, Bool.false_eq_true, bI], rfl⟩)
      · replace c30 := (bI_ne _).mp c30
        rw [h15] at c30
        refine A_iconst (pc := 33) (v := 1) dX7_isSaying_33 (by decide) ?_
        refine A_goto (pc := 34) (tgt := 38) dX7_isSaying_34 (by decide) ?_
        exact A_iret (pc := 38) dX7_isSaying_38 rfl rfl (by decide) (by decide) (⟨by simp only [isS, h7, show tN (nI j) = j from nI_clamp (by omega), h15, c30, if_true, if_false, Bool.false_eq_true, bI], rfl⟩)
    · refine A_iload0 (pc := 0) dX7_isSaying_0 ?_
      refine A_iconst (pc := 1) (v := 0) dX7_isSaying_1 (by decide) ?_
      refine A_bipush (pc := 2) (v := 8) dX7_isSaying_2 (by decide) ?_
      refine A_csi (pc := 4) csX7_86 (mp_in _ _ _) dX7_isSaying_4 rfl rfl (Nat.le_of_ble_eq_true rfl) (by decide) (by decide) (by decide) ?_
      refine A_if_eq (pc := 7) (tgt := 37) dX7_isSaying_7 (by decide) (fun c7 => absurd c7 (by rw [h7]; decide)) (fun c7 => ?_)
      refine A_iload1 (pc := 10) dX7_isSaying_10 ?_
      refine A_iload0 (pc := 11) dX7_isSaying_11 ?_
      refine A_csi (pc := 12) csX7_111 (mp_mostOf j (by omega)) dX7_isSaying_12 rfl rfl (Nat.le_of_ble_eq_true rfl) (by decide) (by decide) (by decide) ?_
      refine A_if_le (pc := 15) (tgt := 22) dX7_isSaying_15 (by decide) (fun c15 => absurd c15 (fun q => h15 ((moN_0 _).mp q))) (fun c15 => ?_)
      refine A_iconst (pc := 18) (v := 1) dX7_isSaying_18 (by decide) ?_
      refine A_goto (pc := 19) (tgt := 23) dX7_isSaying_19 (by decide) ?_
      refine A_iload0 (pc := 23) dX7_isSaying_23 ?_
      refine A_csi (pc := 24) csX7_111 (mp_mostOf j (by omega)) dX7_isSaying_24 rfl rfl (Nat.le_of_ble_eq_true rfl) (by decide) (by decide) (by decide) ?_
      refine A_csi (pc := 27) csX7_86 (mp_in _ _ _) dX7_isSaying_27 rfl rfl (Nat.le_of_ble_eq_true rfl) (by decide) (by decide) (by decide) ?_
      refine A_if_eq (pc := 30) (tgt := 37) dX7_isSaying_30 (by decide) (fun c30 => ?_) (fun c30 => ?_)
      · replace c30 := (bI_eq _).mp c30
        refine A_iconst (pc := 37) (v := 0) dX7_isSaying_37 (by decide) ?_
        exact A_iret (pc := 38) dX7_isSaying_38 rfl rfl (by decide) (by decide) (⟨by simp only [isS, h7, show tN (nI j) = j from nI_clamp (by omega), h15, c30, if_true, if_false, Bool.false_eq_true, bI], rfl⟩)
      · replace c30 := (bI_ne _).mp c30
        refine A_iconst (pc := 33) (v := 1) dX7_isSaying_33 (by decide) ?_
        refine A_goto (pc := 34) (tgt := 38) dX7_isSaying_34 (by decide) ?_
        exact A_iret (pc := 38) dX7_isSaying_38 rfl rfl (by decide) (by decide) (⟨by simp only [isS, h7, show tN (nI j) = j from nI_clamp (by omega), h15, c30, if_true, if_false, Bool.false_eq_true, bI], rfl⟩)

theorem isS_nat {x v : Int32} (h : isS x v = true) : x = nI (tN x) ∧ tN x ≤ 8 ∧ v = nI (tN v) ∧ tN v ≤ moN (tN x) ∧ (moN (tN x) = 0 ∨ 1 ≤ tN v) := by
  obtain ⟨h1, h2⟩ := and_t h
  obtain ⟨a1, a2⟩ := inI_nat (H := 8) (by decide) h1
  have hm := moN_lt (tN x)
  have key : ∀ lo : Int32, 0 ≤ lo.toInt → inI v lo (nI (moN (tN x))) = true → v = nI (tN v) ∧ tN v ≤ moN (tN x) ∧ lo.toInt ≤ (tN v : Int) := by
    intro lo hlo h9
    unfold inI at h9
    split at h9
    · cases h9
    · next q1 =>
      split at h9
      · cases h9
      · next q2 =>
        have hv0 : ¬ v < 0 := by
          intro hlt
          apply q1
          rw [fa_lt] at hlt ⊢
          have e1 : (0 : Int32).toInt = 0 := by decide
          omega
        obtain ⟨j, hj, rfl⟩ := nI_of hv0
        rw [show tN (nI j) = j from nI_clamp hj]
        refine ⟨rfl, ?_, ?_⟩
        · rcases Nat.lt_or_ge (moN (tN x)) j with q | q
          · exact absurd (nI_lt q hj) q2
          · exact q
        · rw [fa_lt, nI_toInt hj] at q1
          omega
  by_cases hz : moN (tN x) = 0
  · rw [if_pos hz] at h2
    obtain ⟨k1, k2, k3⟩ := key 0 (by decide) h2
    exact ⟨a1, a2, k1, k2, Or.inl hz⟩
  · rw [if_neg hz] at h2
    obtain ⟨k1, k2, k3⟩ := key 1 (by decide) h2
    have e2 : (1 : Int32).toInt = 1 := by decide
    exact ⟨a1, a2, k1, k2, Or.inr (by omega)⟩
set_option maxHeartbeats 4000000 in
set_option maxRecDepth 100000 in
theorem mp_say {c : XV} {n : MN} {p : Nat → Nat} {al : Int32} {s : MS} {r : MR} {w : MW} {k : MK} {a : MA} {pl : MP} {fr : Nat → Nat} {t : MT} {rest : AH} (hs : s.1 ≤ 60) (x v : Int32) : AS mX7_say 2 0 0 [.ref 25, .int x, .int v] (MX c n p al s r w k a pl fr t rest) (P1 (if isS x v = true then (if s.1 = 60 then -1 else nI (s.1 + 1)) else -1) (MX c n p al (if isS x v = true then (if s.1 = 60 then s else syN s x v) else s) r w k a pl fr t rest)) := by
  refine AS.go (lv := [some (.ref 25), some (.int x), some (.int v)]) rfl ?_ (by decide +kernel) rfl (Nat.le_of_ble_eq_true rfl)
  refine A_iload1 (pc := 0) dX7_say_0 ?_
  refine A_iload2 (pc := 1) dX7_say_1 ?_
  refine A_csi (pc := 2) csX7_133 (mp_isSaying _ _) dX7_say_2 rfl rfl (Nat.le_of_ble_eq_true rfl) (by decide) (by decide) (by decide) ?_
  refine A_if_eq (pc := 5) (tgt := 17) dX7_say_5 (by decide) (fun c5 => ?_) (fun c5 => ?_)
  · replace c5 := (bI_eq _).mp c5
    refine A_iconst (pc := 17) (v := -1) dX7_say_17 (by decide) ?_
    exact A_iret (pc := 18) dX7_say_18 rfl rfl (by decide) (by decide) (⟨by rw [if_neg (by rw [c5]; decide)], by rw [if_neg (by rw [c5]; decide)]⟩)
  · replace c5 := (bI_ne _).mp c5
    refine A_aload0 (pc := 8) dX7_say_8 ?_
    refine A_getf (pc := 9) flX7_136 dX7_say_9 rfl rfl ?_
    refine A_bipush (pc := 12) (v := 60) dX7_say_12 (by decide) ?_
    refine A_icmp_ne (pc := 14) (tgt := 19) dX7_say_14 (by decide) (fun c14 => ?_) (fun c14 => ?_)
    · have d14 : ¬ s.1 = 60 := fun q => c14 (by rw [q]; rfl)
      refine A_aload0 (pc := 19) dX7_say_19 ?_
      refine A_getf (pc := 20) flX7_26 dX7_say_20 rfl rfl ?_
      refine A_aload0 (pc := 23) dX7_say_23 ?_
      refine A_getf (pc := 24) flX7_136 dX7_say_24 rfl rfl ?_
      refine A_iload1 (pc := 27) dX7_say_27 ?_
      refine A_iastN (pc := 28) (i := s.1) (v := (tN x)) dX7_say_28 rfl rfl (isS_nat c5).1 (by omega) (by decide) ?_
      refine A_aload0 (pc := 29) dX7_say_29 ?_
      refine A_getf (pc := 30) flX7_29 dX7_say_30 rfl rfl ?_
      refine A_aload0 (pc := 33) dX7_say_33 ?_
      refine A_getf (pc := 34) flX7_136 dX7_say_34 rfl rfl ?_
      refine A_iload2 (pc := 37) dX7_say_37 ?_
      refine A_iastN (pc := 38) (i := s.1) (v := (tN v)) dX7_say_38 rfl rfl (isS_nat c5).2.2.1 (by omega) (by decide) ?_
      refine A_aload0 (pc := 39) dX7_say_39 ?_
      refine A_dup (pc := 40) dX7_say_40 rfl ?_
      refine A_getf (pc := 41) flX7_136 dX7_say_41 rfl rfl ?_
      refine A_iconst (pc := 44) (v := 1) dX7_say_44 (by decide) ?_
      refine A_iadd (pc := 45) dX7_say_45 ?_
      rw [nI_1]
      refine A_putf (pc := 46) flX7_136 ft7_8 dX7_say_46 rfl (Nat.le_of_ble_eq_true rfl) (fun _ => ⟨rfl, rfl⟩) ?_
      refine A_aload0 (pc := 49) dX7_say_49 ?_
      refine A_getf (pc := 50) flX7_136 dX7_say_50 rfl rfl ?_
      exact A_iret (pc := 53) dX7_say_53 rfl rfl (by decide) (by decide) (⟨by rw [if_pos c5, if_neg d14], by rw [if_pos c5, if_neg d14]; rfl⟩)
    · have d14 : s.1 = 60 := (nI_eq (by omega) (by decide)).mp c14
      refine A_iconst (pc := 17) (v := -1) dX7_say_17 (by decide) ?_
      exact A_iret (pc := 18) dX7_say_18 rfl rfl (by decide) (by decide) (⟨by rw [if_pos c5, if_pos d14], by rw [if_pos c5, if_pos d14]⟩)

set_option maxHeartbeats 4000000 in
set_option maxRecDepth 100000 in
theorem mp_hush {c : XV} {n : MN} {p : Nat → Nat} {al : Int32} {s : MS} {r : MR} {w : MW} {k : MK} {a : MA} {pl : MP} {fr : Nat → Nat} {t : MT} {rest : AH}  : AS mX7_hush 0 0 0 [.ref 25] (MX c n p al s r w k a pl fr t rest) (P1 (nI s.1) (MX c n p al ((0, s.2)) r w k a pl fr t rest)) := by
  refine AS.go (lv := [some (.ref 25), none]) rfl ?_ (by decide +kernel) rfl (Nat.le_of_ble_eq_true rfl)
  refine A_aload0 (pc := 0) dX7_hush_0 ?_
  refine A_getf (pc := 1) flX7_136 dX7_hush_1 rfl rfl ?_
  refine A_istore1 (pc := 4) dX7_hush_4 (by decide) ?_
  refine A_aload0 (pc := 5) dX7_hush_5 ?_
  refine A_iconst (pc := 6) (v := 0) dX7_hush_6 (by decide) ?_
  refine A_putf (pc := 7) flX7_136 ft7_8 dX7_hush_7 rfl (Nat.le_of_ble_eq_true rfl) (fun _ => ⟨rfl, rfl⟩) ?_
  refine A_iload1 (pc := 10) dX7_hush_10 ?_
  exact A_iret (pc := 11) dX7_hush_11 rfl rfl (by decide) (by decide) (⟨rfl, rfl⟩)
