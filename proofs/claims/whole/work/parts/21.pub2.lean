/-! the class's public methods: route, routed, tell, holds, slip, best, count -/
def rtD (n : NS) (k : Int32) (wy : YS) : Int32 := siI (mtN n k).1 (mtN n k).2.2.2.2.2.1 wy.2.1
def rtY (n : NS) (k : Int32) (wy : YS) (D : Nat) : YS := asL (mtN n k) D wy.2.1 (wy.1, wy.2.1, wy.2.2.1, 0, wy.2.2.2.2)

set_option maxHeartbeats 4000000 in
set_option maxRecDepth 100000 in
theorem sp_route {n : NS} {p : Nat → Int32} {o : OS} {y : RS} {la sc : WS} {wy : YS} {ch : KS} {ko : Nat → Option Nat} {rest : AH} (k : Int32) {D : Nat} (hD : ¬ rtD n k wy = -1 → rtD n k wy = nI D) (hD2 : D < 2 ^ 31) : AS mX6_route 4 0 0 [.ref 0, .int k] (CH n p o y la sc wy ch ko ++ rest) (P1 (if wy.1 = 0 then -1 else if hasI n.1 k = true then (if rtD n k wy = -1 then -1 else (rtY n k wy D).2.2.2.1) else -1) (CH (if wy.1 = 0 then n else if hasI n.1 k = true then (if rtD n k wy = -1 then mtN n k else mtN n k) else n) p o y la sc (if wy.1 = 0 then wy else if hasI n.1 k = true then (if rtD n k wy = -1 then wy else rtY n k wy D) else wy) ch ko ++ rest)) := by
  refine AS.go (lv := [some (.ref 0), some (.int k)]) rfl ?_ (by decide +kernel) rfl (Nat.le_of_ble_eq_true rfl)
  refine A_aload0 (pc := 0) dX6_route_0 ?_
  refine A_getf (pc := 1) flX6_52 dX6_route_1 rfl rfl ?_
  refine A_getf (pc := 4) flX6_107 dX6_route_4 rfl rfl ?_
  refine A_if_eq (pc := 7) (tgt := 21) dX6_route_7 (by decide) (fun c7 => ?_) (fun c7 => ?_)
  · refine A_iconst (pc := 21) (v := -1) dX6_route_21 (by decide) ?_
    exact A_iret (pc := 22) dX6_route_22 rfl rfl (by decide) (by decide) (⟨by simp only [rtY, c7, if_true, if_false, Bool.false_eq_true, bI], by simp only [rtY, c7, if_true, if_false, Bool.false_eq_true]⟩)
  · refine A_aload0 (pc := 10) dX6_route_10 ?_
    refine A_getf (pc := 11) flX6_12 dX6_route_11 rfl rfl ?_
    refine A_iload1 (pc := 14) dX6_route_14 ?_
    refine A_cvi (pc := 15) cvX6_150 (sp_hasKnot (kn := n.1) (sk := n.2.1) rfl _) dX6_route_15 rfl rfl rfl rfl (Nat.le_of_ble_eq_true rfl) (by decide) (by decide) (by decide) ?_
    refine A_if_ne (pc := 18) (tgt := 23) dX6_route_18 (by decide) (fun c18 => ?_) (fun c18 => ?_)
    · replace c18 := (bI_ne _).mp c18
      refine A_aload0 (pc := 23) dX6_route_23 ?_
      refine A_getf (pc := 24) flX6_12 dX6_route_24 rfl rfl ?_
      refine A_iload1 (pc := 27) dX6_route_27 ?_
      refine A_cvv (pc := 28) cvX6_189 (sp_measureTo _) dX6_route_28 rfl rfl rfl rfl (Nat.le_of_ble_eq_true rfl) (by decide) (by decide) (by decide) ?_
      refine A_aload0 (pc := 31) dX6_route_31 ?_
      refine A_getf (pc := 32) flX6_12 dX6_route_32 rfl rfl ?_
      refine A_aload0 (pc := 35) dX6_route_35 ?_
      refine A_getf (pc := 36) flX6_52 dX6_route_36 rfl rfl ?_
      refine A_getf (pc := 39) flX6_192 dX6_route_39 rfl rfl ?_
      refine A_cvi (pc := 42) cvX6_193 (sp_distanceFrom (kn := (mtN n k).1) (sk := (mtN n k).2.1) (sg := (mtN n k).2.2.2.2.2.1) rfl rfl _) dX6_route_42 rfl rfl rfl rfl (Nat.le_of_ble_eq_true rfl) (by decide) (by decide) (by decide) ?_
      change AW mX6_route 4 0 0 0 0 45 _ [.int (rtD n k wy)] _ _
      refine A_iconst (pc := 45) (v := -1) dX6_route_45 (by decide) ?_
      refine A_icmp_ne (pc := 46) (tgt := 51) dX6_route_46 (by decide) (fun c46 => ?_) (fun c46 => ?_)
      · refine A_aload0 (pc := 51) dX6_route_51 ?_
        refine A_getf (pc := 52) flX6_52 dX6_route_52 rfl rfl ?_
        refine A_getf (pc := 55) flX6_188 dX6_route_55 rfl rfl ?_
        refine A_cvv (pc := 58) cvX6_144 (sp_clear (r := 18) (a := 19) rfl) dX6_route_58 rfl rfl rfl rfl (Nat.le_of_ble_eq_true rfl) (by decide) (by decide) (by decide) ?_
        refine AW.heq (hp' := CH (mtN n k) p o y la sc ((wy.1, wy.2.1, wy.2.2.1, 0, wy.2.2.2.2)) ch ko ++ rest) rfl ?_
        refine A_aload0 (pc := 61) dX6_route_61 ?_
        refine A_getf (pc := 62) flX6_12 dX6_route_62 rfl rfl ?_
        refine A_aload0 (pc := 65) dX6_route_65 ?_
        refine A_getf (pc := 66) flX6_52 dX6_route_66 rfl rfl ?_
        refine A_getf (pc := 69) flX6_192 dX6_route_69 rfl rfl ?_
        refine A_aload0 (pc := 72) dX6_route_72 ?_
        refine A_getf (pc := 73) flX6_52 dX6_route_73 rfl rfl ?_
        refine A_getf (pc := 76) flX6_188 dX6_route_76 rfl rfl ?_
        refine A_cvv (pc := 79) cvX6_196 (sp_addShortest (n := mtN n k) _ (hD c46) hD2) dX6_route_79 rfl rfl rfl rfl (Nat.le_of_ble_eq_true rfl) (by decide) (by decide) (by decide) ?_
        refine A_aload0 (pc := 82) dX6_route_82 ?_
        refine A_getf (pc := 83) flX6_52 dX6_route_83 rfl rfl ?_
        refine A_getf (pc := 86) flX6_188 dX6_route_86 rfl rfl ?_
        refine A_getf (pc := 89) flX6_141 dX6_route_89 rfl rfl ?_
        exact A_iret (pc := 92) dX6_route_92 rfl rfl (by decide) (by decide) (⟨by simp only [rtY, c7, c18, c46, if_true, if_false, Bool.false_eq_true, bI], by simp only [rtY, c7, c18, c46, if_true, if_false, Bool.false_eq_true]⟩)
      · refine A_iconst (pc := 49) (v := -1) dX6_route_49 (by decide) ?_
        exact A_iret (pc := 50) dX6_route_50 rfl rfl (by decide) (by decide) (⟨by simp only [rtY, c7, c18, c46, if_true, if_false, Bool.false_eq_true, bI], by simp only [rtY, c7, c18, c46, if_true, if_false, Bool.false_eq_true]⟩)
    · replace c18 := (bI_eq _).mp c18
      refine A_iconst (pc := 21) (v := -1) dX6_route_21 (by decide) ?_
      exact A_iret (pc := 22) dX6_route_22 rfl rfl (by decide) (by decide) (⟨by simp only [rtY, c7, c18, if_true, if_false, Bool.false_eq_true, bI], by simp only [rtY, c7, c18, if_true, if_false, Bool.false_eq_true]⟩)

set_option maxHeartbeats 4000000 in
set_option maxRecDepth 100000 in
theorem sp_routed {n : NS} {p : Nat → Int32} {o : OS} {y : RS} {la sc : WS} {wy : YS} {ch : KS} {ko : Nat → Option Nat} {rest : AH} {E : Nat} (he : wy.2.2.2.1 = nI E) (hE : E ≤ 30) (w : Int32) : AS mX6_routed 3 0 0 [.ref 0, .int w] (CH n p o y la sc wy ch ko ++ rest) (P1 (rRouted n wy E w) (CH n p o y la sc wy ch ko ++ rest)) := by
  refine AS.go (lv := [some (.ref 0), some (.int w)]) rfl ?_ (by decide +kernel) rfl (Nat.le_of_ble_eq_true rfl)
  refine A_aload0 (pc := 0) dX6_routed_0 ?_
  refine A_getf (pc := 1) flX6_52 dX6_routed_1 rfl rfl ?_
  refine A_getf (pc := 4) flX6_107 dX6_routed_4 rfl rfl ?_
  refine A_if_ne (pc := 7) (tgt := 12) dX6_routed_7 (by decide) (fun c7 => ?_) (fun c7 => ?_)
  · refine A_iload1 (pc := 12) dX6_routed_12 ?_
    rcases sw_in w 0 2 (by decide) with hsw | ⟨j, hj1, hj2, hsw⟩
    · refine A_tsOut (pc := 13) (tgt := 67) dX6_routed_13 hsw (by decide) ?_
      refine A_aload0 (pc := 67) dX6_routed_67 ?_
      refine A_getf (pc := 68) flX6_52 dX6_routed_68 rfl rfl ?_
      refine A_getf (pc := 71) flX6_188 dX6_routed_71 rfl rfl ?_
      refine A_iload1 (pc := 74) dX6_routed_74 ?_
      refine A_csi (pc := 75) csX6_178 (sp_exitAsked (r := 18) (a := 19) (cap := 30) rfl rfl (by decide) _) dX6_routed_75 rfl rfl (Nat.le_of_ble_eq_true rfl) (by decide) (by decide) (by decide) ?_
      exact A_iret (pc := 78) dX6_routed_78 rfl rfl (by decide) (by decide) (⟨by unfold rRouted; rw [if_neg c7, if_neg (sw_out hsw 0 (by decide)), if_neg (sw_out hsw 1 (by decide)), if_neg (sw_out hsw 2 (by decide))], rfl⟩)
    · rcases (show j = 0 ∨ j = 1 ∨ j = 2 by omega) with rfl | rfl | rfl
      · have e9 : w = 0 := hsw
        subst e9
        refine A_tsIn (pc := 13) (tgt := 40) dX6_routed_13 (by decide) (by decide) rfl (by decide) ?_
        refine A_aload0 (pc := 40) dX6_routed_40 ?_
        refine A_getf (pc := 41) flX6_52 dX6_routed_41 rfl rfl ?_
        refine A_getf (pc := 44) flX6_188 dX6_routed_44 rfl rfl ?_
        refine A_getf (pc := 47) flX6_141 dX6_routed_47 rfl rfl ?_
        exact A_iret (pc := 50) dX6_routed_50 rfl rfl (by decide) (by decide) (⟨by unfold rRouted; rw [if_neg c7, if_pos rfl], rfl⟩)
      · have e9 : w = 1 := hsw
        subst e9
        refine A_tsIn (pc := 13) (tgt := 51) dX6_routed_13 (by decide) (by decide) rfl (by decide) ?_
        refine A_aload0 (pc := 51) dX6_routed_51 ?_
        refine A_cvi (pc := 52) cvX6_184 (sp_lastPlace he (by omega)) dX6_routed_52 rfl rfl rfl rfl (Nat.le_of_ble_eq_true rfl) (by decide) (by decide) (by decide) ?_
        refine A_csi (pc := 55) csX6_120 (sp_knotOf _) dX6_routed_55 rfl rfl (Nat.le_of_ble_eq_true rfl) (by decide) (by decide) (by decide) ?_
        exact A_iret (pc := 58) dX6_routed_58 rfl rfl (by decide) (by decide) (⟨by unfold rRouted; rw [if_neg c7, if_neg (by decide), if_pos rfl], rfl⟩)
      · have e9 : w = 2 := hsw
        subst e9
        refine A_tsIn (pc := 13) (tgt := 59) dX6_routed_13 (by decide) (by decide) rfl (by decide) ?_
        refine A_aload0 (pc := 59) dX6_routed_59 ?_
        refine A_cvi (pc := 60) cvX6_184 (sp_lastPlace he (by omega)) dX6_routed_60 rfl rfl rfl rfl (Nat.le_of_ble_eq_true rfl) (by decide) (by decide) (by decide) ?_
        refine A_csi (pc := 63) csX6_200 (sp_exitOf _) dX6_routed_63 rfl rfl (Nat.le_of_ble_eq_true rfl) (by decide) (by decide) (by decide) ?_
        exact A_iret (pc := 66) dX6_routed_66 rfl rfl (by decide) (by decide) (⟨by unfold rRouted; rw [if_neg c7, if_neg (by decide), if_neg (by decide), if_pos rfl], rfl⟩)
  · refine A_iconst (pc := 10) (v := -1) dX6_routed_10 (by decide) ?_
    exact A_iret (pc := 11) dX6_routed_11 rfl rfl (by decide) (by decide) (⟨by unfold rRouted; rw [if_pos c7], rfl⟩)

set_option maxHeartbeats 4000000 in
set_option maxRecDepth 100000 in
theorem sp_tell {n : NS} {p : Nat → Int32} {o : OS} {y : RS} {la sc : WS} {wy : YS} {ch : KS} {ko : Nat → Option Nat} {rest : AH} {E : Nat} (he : wy.2.2.2.1 = nI E) (hE : E ≤ 30) {C : Nat} (hC : lcI (tcK n p o.1 sc wy ch E) 0 = nI C) (hC2 : C < 2 ^ 31) : AS mX6_tell 6 0 0 [.ref 0] (CH n p o y la sc wy ch ko ++ rest) (P1 (if wy.1 = 0 then -1 else (spR (tcK n p o.1 sc wy ch E) C 0 y).1) (CH n p o (if wy.1 = 0 then y else (spR (tcK n p o.1 sc wy ch E) C 0 y).2) la (if wy.1 = 0 then sc else (cwQ n p o.1 sc wy ch E).1) wy (if wy.1 = 0 then ch else (tcK n p o.1 sc wy ch E)) ko ++ rest)) := by
  refine AS.go (lv := [some (.ref 0)]) rfl ?_ (by decide +kernel) rfl (Nat.le_of_ble_eq_true rfl)
  refine A_aload0 (pc := 0) dX6_tell_0 ?_
  refine A_getf (pc := 1) flX6_52 dX6_tell_1 rfl rfl ?_
  refine A_getf (pc := 4) flX6_107 dX6_tell_4 rfl rfl ?_
  refine A_if_ne (pc := 7) (tgt := 12) dX6_tell_7 (by decide) (fun c7 => ?_) (fun c7 => ?_)
  · refine A_aload0 (pc := 12) dX6_tell_12 ?_
    refine A_cvv (pc := 13) cvX6_203 (sp_chartWay he hE) dX6_tell_13 rfl rfl rfl rfl (Nat.le_of_ble_eq_true rfl) (by decide) (by decide) (by decide) ?_
    change AW mX6_tell 6 0 0 0 0 16 _ [] (CH n p o y la ((cwQ n p o.1 sc wy ch E).1) wy ((tcK n p o.1 sc wy ch E)) ko ++ rest) _
    refine A_aload0 (pc := 16) dX6_tell_16 ?_
    refine A_getf (pc := 17) flX6_59 dX6_tell_17 rfl rfl ?_
    refine A_iconst (pc := 20) (v := 0) dX6_tell_20 (by decide) ?_
    refine A_aload0 (pc := 21) dX6_tell_21 ?_
    refine A_getf (pc := 22) flX6_29 dX6_tell_22 rfl rfl ?_
    refine A_cvi (pc := 25) cvX6_206 (sp_spell (PL := E + 1) tcK_1 (by omega) 0 hC hC2) dX6_tell_25 rfl rfl rfl rfl (Nat.le_of_ble_eq_true rfl) (by decide) (by decide) (by decide) ?_
    exact A_iret (pc := 28) dX6_tell_28 rfl rfl (by decide) (by decide) (⟨by simp only [c7, if_true, if_false, Bool.false_eq_true, bI], by simp only [c7, if_true, if_false, Bool.false_eq_true]⟩)
  · refine A_iconst (pc := 10) (v := -1) dX6_tell_10 (by decide) ?_
    exact A_iret (pc := 11) dX6_tell_11 rfl rfl (by decide) (by decide) (⟨by simp only [c7, if_true, if_false, Bool.false_eq_true, bI], by simp only [c7, if_true, if_false, Bool.false_eq_true]⟩)

set_option maxHeartbeats 4000000 in
set_option maxRecDepth 100000 in
theorem sp_holds {n : NS} {p : Nat → Int32} {o : OS} {y : RS} {la sc : WS} {wy : YS} {ch : KS} {ko : Nat → Option Nat} {rest : AH} {E : Nat} (he : wy.2.2.2.1 = nI E) (hE : E ≤ 30) {Z : Nat} (hz : y.1 = nI Z) (hZ : Z < 2 ^ 31)  : AS mX6_holds 7 0 0 [.ref 0] (CH n p o y la sc wy ch ko ++ rest) (P1 (if wy.1 = 0 then -1 else bI (iwI (iwQ n sc wy.2.1 wy.2.2.1 60 y.1 y.2 Z) 30 wy.2.2.2.1 wy.2.2.2.2 E)) (CH n p o y la (if wy.1 = 0 then sc else (iwQ n sc wy.2.1 wy.2.2.1 60 y.1 y.2 Z).2) wy ch ko ++ rest)) := by
  refine AS.go (lv := [some (.ref 0)]) rfl ?_ (by decide +kernel) rfl (Nat.le_of_ble_eq_true rfl)
  refine A_aload0 (pc := 0) dX6_holds_0 ?_
  refine A_getf (pc := 1) flX6_52 dX6_holds_1 rfl rfl ?_
  refine A_getf (pc := 4) flX6_107 dX6_holds_4 rfl rfl ?_
  refine A_if_ne (pc := 7) (tgt := 12) dX6_holds_7 (by decide) (fun c7 => ?_) (fun c7 => ?_)
  · refine A_aload0 (pc := 12) dX6_holds_12 ?_
    refine A_aload0 (pc := 13) dX6_holds_13 ?_
    refine A_getf (pc := 14) flX6_52 dX6_holds_14 rfl rfl ?_
    refine A_aload0 (pc := 17) dX6_holds_17 ?_
    refine A_getf (pc := 18) flX6_29 dX6_holds_18 rfl rfl ?_
    refine A_cvi (pc := 21) cvX6_210 (sp_isWalkedBy sc (q := 17) (er := 18) (ea := 19) (ecap := 30) (EZ := E) (r := 9) (a := 10) (cap := 60) (Z := Z) (fun _ => rfl) (fun _ => rfl) (fun _ => rfl) (by decide) he (by omega) (fun _ => rfl) (fun _ => rfl) (by decide) hz hZ) dX6_holds_21 rfl rfl rfl rfl (Nat.le_of_ble_eq_true rfl) (by decide) (by decide) (by decide) ?_
    refine A_if_eq (pc := 24) (tgt := 31) dX6_holds_24 (by decide) (fun c24 => ?_) (fun c24 => ?_)
    · replace c24 := (bI_eq _).mp c24
      refine A_iconst (pc := 31) (v := 0) dX6_holds_31 (by decide) ?_
      exact A_iret (pc := 32) dX6_holds_32 rfl rfl (by decide) (by decide) (⟨by simp only [c7, c24, if_true, if_false, Bool.false_eq_true, bI], by simp only [c7, c24, if_true, if_false, Bool.false_eq_true]⟩)
    · replace c24 := (bI_ne _).mp c24
      refine A_iconst (pc := 27) (v := 1) dX6_holds_27 (by decide) ?_
      refine A_goto (pc := 28) (tgt := 32) dX6_holds_28 (by decide) ?_
      exact A_iret (pc := 32) dX6_holds_32 rfl rfl (by decide) (by decide) (⟨by simp only [c7, c24, if_true, if_false, Bool.false_eq_true, bI], by simp only [c7, c24, if_true, if_false, Bool.false_eq_true]⟩)
  · refine A_iconst (pc := 10) (v := -1) dX6_holds_10 (by decide) ?_
    exact A_iret (pc := 11) dX6_holds_11 rfl rfl (by decide) (by decide) (⟨by simp only [c7, if_true, if_false, Bool.false_eq_true, bI], by simp only [c7, if_true, if_false, Bool.false_eq_true]⟩)

set_option maxHeartbeats 4000000 in
set_option maxRecDepth 100000 in
theorem sp_slip {n : NS} {p : Nat → Int32} {o : OS} {y : RS} {la sc : WS} {wy : YS} {ch : KS} {ko : Nat → Option Nat} {rest : AH} {E : Nat} (he : wy.2.2.2.1 = nI E) (hE : E ≤ 30) {Z : Nat} (hz : y.1 = nI Z) (hZ : Z < 2 ^ 31) (i : Int32) : AS mX6_slip 6 0 0 [.ref 0, .int i] (CH n p o y la sc wy ch ko ++ rest) (P1 (if wy.1 = 0 then -1 else if csI (atI 60 y.1 y.2 i) = true then (if (faL n 60 y.1 y.2 i Z 0 (stW sc wy.2.1 wy.2.2.1)).1 = -1 then (if (faL n 60 y.1 y.2 i Z 0 (stW sc wy.2.1 wy.2.2.1)).2.1 = (lpL n wy E 0 (wy.2.1 * 4 + wy.2.2.1)) / 4 then 1 else 0) else -2 - (faL n 60 y.1 y.2 i Z 0 (stW sc wy.2.1 wy.2.2.1)).1) else -1) (CH n p o y la (if wy.1 = 0 then sc else if csI (atI 60 y.1 y.2 i) = true then (faL n 60 y.1 y.2 i Z 0 (stW sc wy.2.1 wy.2.2.1)).2 else sc) wy ch ko ++ rest)) := by
  refine AS.go (lv := [some (.ref 0), some (.int i), none]) rfl ?_ (by decide +kernel) rfl (Nat.le_of_ble_eq_true rfl)
  refine A_aload0 (pc := 0) dX6_slip_0 ?_
  refine A_getf (pc := 1) flX6_52 dX6_slip_1 rfl rfl ?_
  refine A_getf (pc := 4) flX6_107 dX6_slip_4 rfl rfl ?_
  refine A_if_eq (pc := 7) (tgt := 24) dX6_slip_7 (by decide) (fun c7 => ?_) (fun c7 => ?_)
  · refine A_iconst (pc := 24) (v := -1) dX6_slip_24 (by decide) ?_
    exact A_iret (pc := 25) dX6_slip_25 rfl rfl (by decide) (by decide) (⟨by simp only [c7, if_true, if_false, Bool.false_eq_true, bI], by simp only [c7, if_true, if_false, Bool.false_eq_true]⟩)
  · refine A_aload0 (pc := 10) dX6_slip_10 ?_
    refine A_getf (pc := 11) flX6_29 dX6_slip_11 rfl rfl ?_
    refine A_iload1 (pc := 14) dX6_slip_14 ?_
    refine A_cvi (pc := 15) cvX6_147 (sp_at (r := 9) (a := 10) (cap := 60) rfl rfl (by decide) _) dX6_slip_15 rfl rfl rfl rfl (Nat.le_of_ble_eq_true rfl) (by decide) (by decide) (by decide) ?_
    refine A_csi (pc := 18) csX6_214 (sp_canSlip _) dX6_slip_18 rfl rfl (Nat.le_of_ble_eq_true rfl) (by decide) (by decide) (by decide) ?_
    refine A_if_ne (pc := 21) (tgt := 26) dX6_slip_21 (by decide) (fun c21 => ?_) (fun c21 => ?_)
    · replace c21 := (bI_ne _).mp c21
      refine A_aload0 (pc := 26) dX6_slip_26 ?_
      refine A_getf (pc := 27) flX6_46 dX6_slip_27 rfl rfl ?_
      refine A_aload0 (pc := 30) dX6_slip_30 ?_
      refine A_getf (pc := 31) flX6_52 dX6_slip_31 rfl rfl ?_
      refine A_getf (pc := 34) flX6_192 dX6_slip_34 rfl rfl ?_
      refine A_aload0 (pc := 37) dX6_slip_37 ?_
      refine A_getf (pc := 38) flX6_52 dX6_slip_38 rfl rfl ?_
      refine A_getf (pc := 41) flX6_217 dX6_slip_41 rfl rfl ?_
      refine A_cvv (pc := 44) cvX6_156 (sp_stand_sc _ _) dX6_slip_44 rfl rfl rfl rfl (Nat.le_of_ble_eq_true rfl) (by decide) (by decide) (by decide) ?_
      refine A_aload0 (pc := 47) dX6_slip_47 ?_
      refine A_getf (pc := 48) flX6_46 dX6_slip_48 rfl rfl ?_
      refine A_aload0 (pc := 51) dX6_slip_51 ?_
      refine A_getf (pc := 52) flX6_29 dX6_slip_52 rfl rfl ?_
      refine A_iload1 (pc := 55) dX6_slip_55 ?_
      refine A_cvi (pc := 56) cvX6_159 (sp_followAll_sc (r := 9) (q := 10) (cap := 60) (Z := Z) (fun _ => rfl) (fun _ => rfl) (by decide) hz hZ i) dX6_slip_56 rfl rfl rfl rfl (Nat.le_of_ble_eq_true rfl) (by decide) (by decide) (by decide) ?_
      refine A_istore2 (pc := 59) dX6_slip_59 (by decide) ?_
      refine A_iload2 (pc := 60) dX6_slip_60 ?_
      refine A_iconst (pc := 61) (v := -1) dX6_slip_61 (by decide) ?_
      refine A_icmp_eq (pc := 62) (tgt := 70) dX6_slip_62 (by decide) (fun c62 => ?_) (fun c62 => ?_)
      · refine A_aload0 (pc := 70) dX6_slip_70 ?_
        refine A_getf (pc := 71) flX6_46 dX6_slip_71 rfl rfl ?_
        refine A_getf (pc := 74) flX6_163 dX6_slip_74 rfl rfl ?_
        refine A_aload0 (pc := 77) dX6_slip_77 ?_
        refine A_cvi (pc := 78) cvX6_184 (sp_lastPlace he (by omega)) dX6_slip_78 rfl rfl rfl rfl (Nat.le_of_ble_eq_true rfl) (by decide) (by decide) (by decide) ?_
        refine A_csi (pc := 81) csX6_120 (sp_knotOf _) dX6_slip_81 rfl rfl (Nat.le_of_ble_eq_true rfl) (by decide) (by decide) (by decide) ?_
        refine A_icmp_ne (pc := 84) (tgt := 91) dX6_slip_84 (by decide) (fun c84 => ?_) (fun c84 => ?_)
        · refine A_iconst (pc := 91) (v := 0) dX6_slip_91 (by decide) ?_
          exact A_iret (pc := 92) dX6_slip_92 rfl rfl (by decide) (by decide) (⟨by simp only [c7, c21, c62, c84, if_true, if_false, Bool.false_eq_true, bI], by simp only [c7, c21, c62, c84, if_true, if_false, Bool.false_eq_true]⟩)
        · refine A_iconst (pc := 87) (v := 1) dX6_slip_87 (by decide) ?_
          refine A_goto (pc := 88) (tgt := 92) dX6_slip_88 (by decide) ?_
          exact A_iret (pc := 92) dX6_slip_92 rfl rfl (by decide) (by decide) (⟨by simp only [c7, c21, c62, c84, if_true, if_false, Bool.false_eq_true, bI], by simp only [c7, c21, c62, c84, if_true, if_false, Bool.false_eq_true]⟩)
      · refine A_iload2 (pc := 65) dX6_slip_65 ?_
        refine A_csi (pc := 66) csX6_166 (sp_lostAnswer _) dX6_slip_66 rfl rfl (Nat.le_of_ble_eq_true rfl) (by decide) (by decide) (by decide) ?_
        exact A_iret (pc := 69) dX6_slip_69 rfl rfl (by decide) (by decide) (⟨by simp only [c7, c21, c62, if_true, if_false, Bool.false_eq_true, bI], by simp only [c7, c21, c62, if_true, if_false, Bool.false_eq_true]⟩)
    · replace c21 := (bI_eq _).mp c21
      refine A_iconst (pc := 24) (v := -1) dX6_slip_24 (by decide) ?_
      exact A_iret (pc := 25) dX6_slip_25 rfl rfl (by decide) (by decide) (⟨by simp only [c7, c21, if_true, if_false, Bool.false_eq_true, bI], by simp only [c7, c21, if_true, if_false, Bool.false_eq_true]⟩)

set_option maxHeartbeats 4000000 in
set_option maxRecDepth 100000 in
theorem sp_best {n : NS} {p : Nat → Int32} {o : OS} {y : RS} {la sc : WS} {wy : YS} {ch : KS} {ko : Nat → Option Nat} {rest : AH} {K : Nat} (hk : n.1 = nI K) (hK : K ≤ 24) (k f to : Int32) {C : Nat} (hC : lcI (bcK n p o.1 sc ch to K) (k * 4 + f) = nI C) (hC2 : C < 2 ^ 31) : AS mX6_best 6 0 0 [.ref 0, .int k, .int f, .int to] (CH n p o y la sc wy ch ko ++ rest) (P1 (if hasI n.1 k = true then (if exI f = true then (if hasI n.1 to = true then (spR (bcK n p o.1 sc ch to K) C (k * 4 + f) y).1 else -1) else -1) else -1) (CH n p o (if hasI n.1 k = true then (if exI f = true then (if hasI n.1 to = true then (spR (bcK n p o.1 sc ch to K) C (k * 4 + f) y).2 else y) else y) else y) la (if hasI n.1 k = true then (if exI f = true then (if hasI n.1 to = true then (nwQ n p o.1 sc ch to K).1 else sc) else sc) else sc) wy (if hasI n.1 k = true then (if exI f = true then (if hasI n.1 to = true then (bcK n p o.1 sc ch to K) else ch) else ch) else ch) ko ++ rest)) := by
  refine AS.go (lv := [some (.ref 0), some (.int k), some (.int f), some (.int to)]) rfl ?_ (by decide +kernel) rfl (Nat.le_of_ble_eq_true rfl)
  refine A_aload0 (pc := 0) dX6_best_0 ?_
  refine A_getf (pc := 1) flX6_12 dX6_best_1 rfl rfl ?_
  refine A_iload1 (pc := 4) dX6_best_4 ?_
  refine A_cvi (pc := 5) cvX6_150 (sp_hasKnot (kn := n.1) (sk := n.2.1) rfl _) dX6_best_5 rfl rfl rfl rfl (Nat.le_of_ble_eq_true rfl) (by decide) (by decide) (by decide) ?_
  refine A_if_eq (pc := 8) (tgt := 29) dX6_best_8 (by decide) (fun c8 => ?_) (fun c8 => ?_)
  · replace c8 := (bI_eq _).mp c8
    refine A_iconst (pc := 29) (v := -1) dX6_best_29 (by decide) ?_
    exact A_iret (pc := 30) dX6_best_30 rfl rfl (by decide) (by decide) (⟨by simp only [c8, if_true, if_false, Bool.false_eq_true, bI], by simp only [c8, if_true, if_false, Bool.false_eq_true]⟩)
  · replace c8 := (bI_ne _).mp c8
    refine A_iload2 (pc := 11) dX6_best_11 ?_
    refine A_csi (pc := 12) csX6_153 (sp_isExit _) dX6_best_12 rfl rfl (Nat.le_of_ble_eq_true rfl) (by decide) (by decide) (by decide) ?_
    refine A_if_eq (pc := 15) (tgt := 29) dX6_best_15 (by decide) (fun c15 => ?_) (fun c15 => ?_)
    · replace c15 := (bI_eq _).mp c15
      refine A_iconst (pc := 29) (v := -1) dX6_best_29 (by decide) ?_
      exact A_iret (pc := 30) dX6_best_30 rfl rfl (by decide) (by decide) (⟨by simp only [c8, c15, if_true, if_false, Bool.false_eq_true, bI], by simp only [c8, c15, if_true, if_false, Bool.false_eq_true]⟩)
    · replace c15 := (bI_ne _).mp c15
      refine A_aload0 (pc := 18) dX6_best_18 ?_
      refine A_getf (pc := 19) flX6_12 dX6_best_19 rfl rfl ?_
      refine A_iload3 (pc := 22) dX6_best_22 ?_
      refine A_cvi (pc := 23) cvX6_150 (sp_hasKnot (kn := n.1) (sk := n.2.1) rfl _) dX6_best_23 rfl rfl rfl rfl (Nat.le_of_ble_eq_true rfl) (by decide) (by decide) (by decide) ?_
      refine A_if_ne (pc := 26) (tgt := 31) dX6_best_26 (by decide) (fun c26 => ?_) (fun c26 => ?_)
      · replace c26 := (bI_ne _).mp c26
        refine A_aload0 (pc := 31) dX6_best_31 ?_
        refine A_iload3 (pc := 32) dX6_best_32 ?_
        refine A_cvv (pc := 33) cvX6_218 (sp_chartNet hk hK _) dX6_best_33 rfl rfl rfl rfl (Nat.le_of_ble_eq_true rfl) (by decide) (by decide) (by decide) ?_
        change AW mX6_best 6 0 0 0 0 36 _ [] (CH n p o y la ((nwQ n p o.1 sc ch to K).1) wy ((bcK n p o.1 sc ch to K)) ko ++ rest) _
        refine A_aload0 (pc := 36) dX6_best_36 ?_
        refine A_getf (pc := 37) flX6_59 dX6_best_37 rfl rfl ?_
        refine A_iload1 (pc := 40) dX6_best_40 ?_
        refine A_iload2 (pc := 41) dX6_best_41 ?_
        refine A_csi (pc := 42) csX6_93 (sp_placeOf _ _) dX6_best_42 rfl rfl (Nat.le_of_ble_eq_true rfl) (by decide) (by decide) (by decide) ?_
        refine A_aload0 (pc := 45) dX6_best_45 ?_
        refine A_getf (pc := 46) flX6_29 dX6_best_46 rfl rfl ?_
        refine A_cvi (pc := 49) cvX6_206 (sp_spell (PL := K * 4) bcK_1 (by omega) _ hC hC2) dX6_best_49 rfl rfl rfl rfl (Nat.le_of_ble_eq_true rfl) (by decide) (by decide) (by decide) ?_
        exact A_iret (pc := 52) dX6_best_52 rfl rfl (by decide) (by decide) (⟨by simp only [c8, c15, c26, if_true, if_false, Bool.false_eq_true, bI], by simp only [c8, c15, c26, if_true, if_false, Bool.false_eq_true]⟩)
      · replace c26 := (bI_eq _).mp c26
        refine A_iconst (pc := 29) (v := -1) dX6_best_29 (by decide) ?_
        exact A_iret (pc := 30) dX6_best_30 rfl rfl (by decide) (by decide) (⟨by simp only [c8, c15, c26, if_true, if_false, Bool.false_eq_true, bI], by simp only [c8, c15, c26, if_true, if_false, Bool.false_eq_true]⟩)

def rCount (n : NS) (p : Nat → Int32) (o : OS) (y : RS) (Z : Nat) (w : Int32) : Int32 := if w = 0 then n.1 else if w = 1 then n.2.1 else if w = 2 then y.1 else if w = 3 then o.2.2 else if w = 4 then prL p y Z 0 0 else if w = 5 then o.1 else -1
set_option maxHeartbeats 4000000 in
set_option maxRecDepth 100000 in
theorem sp_count {n : NS} {p : Nat → Int32} {o : OS} {y : RS} {la sc : WS} {wy : YS} {ch : KS} {ko : Nat → Option Nat} {rest : AH} {Z : Nat} (hz : y.1 = nI Z) (hZ : Z < 2 ^ 31) (w : Int32) : AS mX6_count 3 0 0 [.ref 0, .int w] (CH n p o y la sc wy ch ko ++ rest) (P1 (rCount n p o y Z w) (CH n p o y la sc wy ch ko ++ rest)) := by
  refine AS.go (lv := [some (.ref 0), some (.int w)]) rfl ?_ (by decide +kernel) rfl (Nat.le_of_ble_eq_true rfl)
  refine A_iload1 (pc := 0) dX6_count_0 ?_
  rcases sw_in w 0 5 (by decide) with hsw | ⟨j, hj1, hj2, hsw⟩
  · refine A_tsOut (pc := 1) (tgt := 79) dX6_count_1 hsw (by decide) ?_
    refine A_iconst (pc := 79) (v := -1) dX6_count_79 (by decide) ?_
    exact A_iret (pc := 80) dX6_count_80 rfl rfl (by decide) (by decide) (⟨by unfold rCount; rw [if_neg (sw_out hsw 0 (by decide)), if_neg (sw_out hsw 1 (by decide)), if_neg (sw_out hsw 2 (by decide)), if_neg (sw_out hsw 3 (by decide)), if_neg (sw_out hsw 4 (by decide)), if_neg (sw_out hsw 5 (by decide))], rfl⟩)
  · rcases (show j = 0 ∨ j = 1 ∨ j = 2 ∨ j = 3 ∨ j = 4 ∨ j = 5 by omega) with rfl | rfl | rfl | rfl | rfl | rfl
    · have e9 : w = 0 := hsw
      subst e9
      refine A_tsIn (pc := 1) (tgt := 40) dX6_count_1 (by decide) (by decide) rfl (by decide) ?_
      refine A_aload0 (pc := 40) dX6_count_40 ?_
      refine A_getf (pc := 41) flX6_12 dX6_count_41 rfl rfl ?_
      refine A_getf (pc := 44) flX6_226 dX6_count_44 rfl rfl ?_
      exact A_iret (pc := 47) dX6_count_47 rfl rfl (by decide) (by decide) (⟨by unfold rCount; rw [if_pos rfl], rfl⟩)
    · have e9 : w = 1 := hsw
      subst e9
      refine A_tsIn (pc := 1) (tgt := 48) dX6_count_1 (by decide) (by decide) rfl (by decide) ?_
      refine A_aload0 (pc := 48) dX6_count_48 ?_
      refine A_getf (pc := 49) flX6_12 dX6_count_49 rfl rfl ?_
      refine A_getf (pc := 52) flX6_229 dX6_count_52 rfl rfl ?_
      exact A_iret (pc := 55) dX6_count_55 rfl rfl (by decide) (by decide) (⟨by unfold rCount; rw [if_neg (by decide), if_pos rfl], rfl⟩)
    · have e9 : w = 2 := hsw
      subst e9
      refine A_tsIn (pc := 1) (tgt := 56) dX6_count_1 (by decide) (by decide) rfl (by decide) ?_
      refine A_aload0 (pc := 56) dX6_count_56 ?_
      refine A_getf (pc := 57) flX6_29 dX6_count_57 rfl rfl ?_
      refine A_getf (pc := 60) flX6_141 dX6_count_60 rfl rfl ?_
      exact A_iret (pc := 63) dX6_count_63 rfl rfl (by decide) (by decide) (⟨by unfold rCount; rw [if_neg (by decide), if_neg (by decide), if_pos rfl], rfl⟩)
    · have e9 : w = 3 := hsw
      subst e9
      refine A_tsIn (pc := 1) (tgt := 64) dX6_count_1 (by decide) (by decide) rfl (by decide) ?_
      refine A_aload0 (pc := 64) dX6_count_64 ?_
      refine A_getf (pc := 65) flX6_69 dX6_count_65 rfl rfl ?_
      exact A_iret (pc := 68) dX6_count_68 rfl rfl (by decide) (by decide) (⟨by unfold rCount; rw [if_neg (by decide), if_neg (by decide), if_neg (by decide), if_pos rfl], rfl⟩)
    · have e9 : w = 4 := hsw
      subst e9
      refine A_tsIn (pc := 1) (tgt := 69) dX6_count_1 (by decide) (by decide) rfl (by decide) ?_
      refine A_aload0 (pc := 69) dX6_count_69 ?_
      refine A_cvi (pc := 70) cvX6_230 (sp_priceOfSaid hz hZ) dX6_count_70 rfl rfl rfl rfl (Nat.le_of_ble_eq_true rfl) (by decide) (by decide) (by decide) ?_
      exact A_iret (pc := 73) dX6_count_73 rfl rfl (by decide) (by decide) (⟨by unfold rCount; rw [if_neg (by decide), if_neg (by decide), if_neg (by decide), if_neg (by decide), if_pos rfl], rfl⟩)
    · have e9 : w = 5 := hsw
      subst e9
      refine A_tsIn (pc := 1) (tgt := 74) dX6_count_1 (by decide) (by decide) rfl (by decide) ?_
      refine A_aload0 (pc := 74) dX6_count_74 ?_
      refine A_getf (pc := 75) flX6_20 dX6_count_75 rfl rfl ?_
      exact A_iret (pc := 78) dX6_count_78 rfl rfl (by decide) (by decide) (⟨by unfold rCount; rw [if_neg (by decide), if_neg (by decide), if_neg (by decide), if_neg (by decide), if_neg (by decide), if_pos rfl], rfl⟩)
