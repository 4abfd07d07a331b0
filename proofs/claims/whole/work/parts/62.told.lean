/-! route, tell, holds, slip, best -/
set_option maxHeartbeats 4000000 in
set_option maxRecDepth 100000 in
theorem sp_route0 {n : NS} {p : Nat → Int32} {o : OS} {y : RS} {la sc : WS} {wy : YS} {ch : KS} {ko : Nat → Option Nat} {rest : AH} (k : Int32) (hno : wy.1 = 0 ∨ hasI n.1 k = false) : AS mX6_route 4 0 0 [.ref 0, .int k] (CH n p o y la sc wy ch ko ++ rest) (P1 (-1) (CH n p o y la sc wy ch ko ++ rest)) := by
  refine AS.go (lv := [some (.ref 0), some (.int k)]) rfl ?_ (by decide +kernel) rfl (Nat.le_of_ble_eq_true rfl)
  refine A_aload0 (pc := 0) dX6_route_0 ?_
  refine A_getf (pc := 1) flX6_52 dX6_route_1 rfl rfl ?_
  refine A_getf (pc := 4) flX6_107 dX6_route_4 rfl rfl ?_
  refine A_if_eq (pc := 7) (tgt := 21) dX6_route_7 (by decide) (fun c7 => ?_) (fun c7 => ?_)
  · refine A_iconst (pc := 21) (v := -1) dX6_route_21 (by decide) ?_
    exact A_iret (pc := 22) dX6_route_22 rfl rfl (by decide) (by decide) (⟨rfl, rfl⟩)
  · refine A_aload0 (pc := 10) dX6_route_10 ?_
    refine A_getf (pc := 11) flX6_12 dX6_route_11 rfl rfl ?_
    refine A_iload1 (pc := 14) dX6_route_14 ?_
    refine A_cvi (pc := 15) cvX6_150 (sp_hasKnot (kn := n.1) (sk := n.2.1) rfl _) dX6_route_15 rfl rfl rfl rfl (Nat.le_of_ble_eq_true rfl) (by decide) (by decide) (by decide) ?_
    refine A_if_ne (pc := 18) (tgt := 23) dX6_route_18 (by decide) (fun c18 => ?_) (fun c18 => ?_)
    · replace c18 := (bI_ne _).mp c18
      exact hno.elim (fun q => absurd q c7) (fun q => absurd c18 (by rw [q]; decide))
    · replace c18 := (bI_eq _).mp c18
      refine A_iconst (pc := 21) (v := -1) dX6_route_21 (by decide) ?_
      exact A_iret (pc := 22) dX6_route_22 rfl rfl (by decide) (by decide) (⟨rfl, rfl⟩)

set_option maxHeartbeats 4000000 in
set_option maxRecDepth 100000 in
theorem sp_tell0 {n : NS} {p : Nat → Int32} {o : OS} {y : RS} {la sc : WS} {wy : YS} {ch : KS} {ko : Nat → Option Nat} {rest : AH} (hno : wy.1 = 0) : AS mX6_tell 6 0 0 [.ref 0] (CH n p o y la sc wy ch ko ++ rest) (P1 (-1) (CH n p o y la sc wy ch ko ++ rest)) := by
  refine AS.go (lv := [some (.ref 0)]) rfl ?_ (by decide +kernel) rfl (Nat.le_of_ble_eq_true rfl)
  refine A_aload0 (pc := 0) dX6_tell_0 ?_
  refine A_getf (pc := 1) flX6_52 dX6_tell_1 rfl rfl ?_
  refine A_getf (pc := 4) flX6_107 dX6_tell_4 rfl rfl ?_
  refine A_if_ne (pc := 7) (tgt := 12) dX6_tell_7 (by decide) (fun c7 => absurd hno c7) (fun c7 => ?_)
  refine A_iconst (pc := 10) (v := -1) dX6_tell_10 (by decide) ?_
  exact A_iret (pc := 11) dX6_tell_11 rfl rfl (by decide) (by decide) (⟨rfl, rfl⟩)

set_option maxHeartbeats 4000000 in
set_option maxRecDepth 100000 in
theorem sp_best0 {n : NS} {p : Nat → Int32} {o : OS} {y : RS} {la sc : WS} {wy : YS} {ch : KS} {ko : Nat → Option Nat} {rest : AH} (k f to : Int32) (hno : hasI n.1 k = false ∨ exI f = false ∨ hasI n.1 to = false) : AS mX6_best 6 0 0 [.ref 0, .int k, .int f, .int to] (CH n p o y la sc wy ch ko ++ rest) (P1 (-1) (CH n p o y la sc wy ch ko ++ rest)) := by
  refine AS.go (lv := [some (.ref 0), some (.int k), some (.int f), some (.int to)]) rfl ?_ (by decide +kernel) rfl (Nat.le_of_ble_eq_true rfl)
  refine A_aload0 (pc := 0) dX6_best_0 ?_
  refine A_getf (pc := 1) flX6_12 dX6_best_1 rfl rfl ?_
  refine A_iload1 (pc := 4) dX6_best_4 ?_
  refine A_cvi (pc := 5) cvX6_150 (sp_hasKnot (kn := n.1) (sk := n.2.1) rfl _) dX6_best_5 rfl rfl rfl rfl (Nat.le_of_ble_eq_true rfl) (by decide) (by decide) (by decide) ?_
  refine A_if_eq (pc := 8) (tgt := 29) dX6_best_8 (by decide) (fun c8 => ?_) (fun c8 => ?_)
  · replace c8 := (bI_eq _).mp c8
    refine A_iconst (pc := 29) (v := -1) dX6_best_29 (by decide) ?_
    exact A_iret (pc := 30) dX6_best_30 rfl rfl (by decide) (by decide) (⟨rfl, rfl⟩)
  · replace c8 := (bI_ne _).mp c8
    refine A_iload2 (pc := 11) dX6_best_11 ?_
    refine A_csi (pc := 12) csX6_153 (sp_isExit _) dX6_best_12 rfl rfl (Nat.le_of_ble_eq_true rfl) (by decide) (by decide) (by decide) ?_
    refine A_if_eq (pc := 15) (tgt := 29) dX6_best_15 (by decide) (fun c15 => ?_) (fun c15 => ?_)
    · replace c15 := (bI_eq _).mp c15
      refine A_iconst (pc := 29) (v := -1) dX6_best_29 (by decide) ?_
      exact A_iret (pc := 30) dX6_best_30 rfl rfl (by decide) (by decide) (⟨rfl, rfl⟩)
    · replace c15 := (bI_ne _).mp c15
      refine A_aload0 (pc := 18) dX6_best_18 ?_
      refine A_getf (pc := 19) flX6_12 dX6_best_19 rfl rfl ?_
      refine A_iload3 (pc := 22) dX6_best_22 ?_
      refine A_cvi (pc := 23) cvX6_150 (sp_hasKnot (kn := n.1) (sk := n.2.1) rfl _) dX6_best_23 rfl rfl rfl rfl (Nat.le_of_ble_eq_true rfl) (by decide) (by decide) (by decide) ?_
      refine A_if_ne (pc := 26) (tgt := 31) dX6_best_26 (by decide) (fun c26 => ?_) (fun c26 => ?_)
      · replace c26 := (bI_ne _).mp c26
        exact hno.elim (fun q => absurd c8 (by rw [q]; decide)) (fun q => q.elim (fun q => absurd c15 (by rw [q]; decide)) (fun q => absurd c26 (by rw [q]; decide)))
      · replace c26 := (bI_eq _).mp c26
        refine A_iconst (pc := 29) (v := -1) dX6_best_29 (by decide) ?_
        exact A_iret (pc := 30) dX6_best_30 rfl rfl (by decide) (by decide) (⟨rfl, rfl⟩)

set_option maxHeartbeats 4000000 in
set_option maxRecDepth 100000 in
theorem st_route {c : XV} {n : MN} {p : Nat → Nat} {al : Int32} {s : MS} {r : MR} {w : MW} {k : MK} {a : MA} {pl : MP} {fr : Nat → Nat} {t : MT} {rest : AH} {Bd : Nat} (I : INV Bd c n p al s r w k fr t rest) (x : Int32) : STEP mX6_route mX7_route [.int x] Bd c n p al s r w k a pl fr t rest := by
  obtain ⟨⟨I1, I2, I3⟩, ⟨I4, I5⟩, I6, I7, ⟨I8, I9⟩, ⟨I10, I11⟩, ⟨I12, I13, I14, I15⟩, I16, I17⟩ := id I
  by_cases hr : r.1 = true
  · by_cases hh : hasI (nI n.1) x = true
    · obtain ⟨e1, e2⟩ := hasI_nat I2.1 hh
      generalize tN x = T at e1 e2
      subst e1
      obtain ⟨Dn, b1, b2, b3, b4⟩ := route_R (fr := fr) I1 I2 I10 I11 hr e2
      have h6 : AS mX6_route 4 0 0 [.ref 0, .int (nI T)] (MX c n p al s r w k a pl fr t rest) (P1 (if c.2.2.2.2.2.2.1.1 = 0 then -1 else if hasI c.1.1 (nI T) = true then (if rtD c.1 (nI T) c.2.2.2.2.2.2.1 = -1 then -1 else (rtY c.1 (nI T) c.2.2.2.2.2.2.1 Dn).2.2.2.1) else -1) (MX ((if c.2.2.2.2.2.2.1.1 = 0 then c.1 else if hasI c.1.1 (nI T) = true then (if rtD c.1 (nI T) c.2.2.2.2.2.2.1 = -1 then mtN c.1 (nI T) else mtN c.1 (nI T)) else c.1), c.2.1, c.2.2.1, c.2.2.2.1, c.2.2.2.2.1, c.2.2.2.2.2.1, (if c.2.2.2.2.2.2.1.1 = 0 then c.2.2.2.2.2.2.1 else if hasI c.1.1 (nI T) = true then (if rtD c.1 (nI T) c.2.2.2.2.2.2.1 = -1 then c.2.2.2.2.2.2.1 else rtY c.1 (nI T) c.2.2.2.2.2.2.1 Dn) else c.2.2.2.2.2.2.1), c.2.2.2.2.2.2.2.1, c.2.2.2.2.2.2.2.2) n p al s r w k a pl fr t rest)) := sp_route (nI T) b2 (by omega)
      have h7 : AS mX7_route 2 0 0 [.ref 25, .int (nI T)] (MX ((if c.2.2.2.2.2.2.1.1 = 0 then c.1 else if hasI c.1.1 (nI T) = true then (if rtD c.1 (nI T) c.2.2.2.2.2.2.1 = -1 then mtN c.1 (nI T) else mtN c.1 (nI T)) else c.1), c.2.1, c.2.2.1, c.2.2.2.1, c.2.2.2.2.1, c.2.2.2.2.2.1, (if c.2.2.2.2.2.2.1.1 = 0 then c.2.2.2.2.2.2.1 else if hasI c.1.1 (nI T) = true then (if rtD c.1 (nI T) c.2.2.2.2.2.2.1 = -1 then c.2.2.2.2.2.2.1 else rtY c.1 (nI T) c.2.2.2.2.2.2.1 Dn) else c.2.2.2.2.2.2.1), c.2.2.2.2.2.2.2.1, c.2.2.2.2.2.2.2.2) n p al s r w k a pl fr t rest) (P1 (if (raF n.2.2.1 n.1 T fr) r.2.1 = BIG then -1 else nI (rtS n.2.2.1 (raF n.2.2.1 n.1 T fr) Dn r.2.1 (r.1, r.2.1, r.2.2.1, 0, r.2.2.2.2)).2.2.2.1) (MX ((if c.2.2.2.2.2.2.1.1 = 0 then c.1 else if hasI c.1.1 (nI T) = true then (if rtD c.1 (nI T) c.2.2.2.2.2.2.1 = -1 then mtN c.1 (nI T) else mtN c.1 (nI T)) else c.1), c.2.1, c.2.2.1, c.2.2.2.1, c.2.2.2.2.1, c.2.2.2.2.2.1, (if c.2.2.2.2.2.2.1.1 = 0 then c.2.2.2.2.2.2.1 else if hasI c.1.1 (nI T) = true then (if rtD c.1 (nI T) c.2.2.2.2.2.2.1 = -1 then c.2.2.2.2.2.2.1 else rtY c.1 (nI T) c.2.2.2.2.2.2.1 Dn) else c.2.2.2.2.2.2.1), c.2.2.2.2.2.2.2.1, c.2.2.2.2.2.2.2.2) n p al s (if (raF n.2.2.1 n.1 T fr) r.2.1 = BIG then r else rtS n.2.2.1 (raF n.2.2.1 n.1 T fr) Dn r.2.1 (r.1, r.2.1, r.2.2.1, 0, r.2.2.2.2)) w k a pl ((raF n.2.2.1 n.1 T fr)) t rest)) := mp_route1 I2.1 I2.vl I11.1.1 hr I16 T e2 Dn b1 (fun q => (b4 q).1)
      have w0 : ¬ c.2.2.2.2.2.2.1.1 = 0 := by rw [I10.1]; exact (bI_ne _).mpr hr
      have hh2 : hasI c.1.1 (nI T) = true := by rw [I1.1]; exact hh
      have hkp := mt_keep (n := c.1) (k := nI T)
      have hnet : nR (mtN c.1 (nI T)) n := ⟨hkp.1.trans I1.1, hkp.2.2.1.trans I1.2.1, hkp.2.2.2.1.trans I1.2.2.1, hkp.2.2.2.2.trans I1.2.2.2⟩
      have hst : (mtN c.1 (nI T)).2.1 = nI (ctT n.2.2.1 (4 * n.1) 0 0) := hkp.2.1.trans I3
      refine STEP.of h6 h7 (by decide) (by decide) ?_ ?_
      · rw [if_neg w0, if_pos hh2]
        by_cases q : (raF n.2.2.1 n.1 T fr) r.2.1 = BIG
        · rw [if_pos q, if_pos (b3.mpr q)]
        · rw [if_neg q, if_neg (fun z => q (b3.mp z))]
          exact (b4 q).2.1.2.2.2.1
      · rw [if_neg w0, if_pos hh2, if_neg w0, if_pos hh2]
        by_cases q : (raF n.2.2.1 n.1 T fr) r.2.1 = BIG
        · rw [if_pos q, if_pos (b3.mpr q), if_pos (b3.mpr q)]
          exact ⟨⟨hnet, I2, hst⟩, ⟨I4, I5⟩, I6, I7, ⟨I8, I9⟩, ⟨I10, I11⟩, ⟨I12, I13, I14, I15⟩, I16.ra I2.1, I17⟩
        · rw [if_neg q, if_neg (fun z => q (b3.mp z)), if_neg (fun z => q (b3.mp z))]
          exact ⟨⟨hnet, I2, hst⟩, ⟨I4, I5⟩, I6, I7, ⟨I8, I9⟩, (b4 q).2, ⟨I12, I13, I14, I15⟩, I16.ra I2.1, I17⟩
    · have h6 : AS mX6_route 4 0 0 [.ref 0, .int x] (MX c n p al s r w k a pl fr t rest) (P1 (-1) (MX c n p al s r w k a pl fr t rest)) := sp_route0 x (Or.inr (by rw [I1.1]; exact Bool.eq_false_iff.mpr hh))
      have h7 : AS mX7_route 2 0 0 [.ref 25, .int x] (MX c n p al s r w k a pl fr t rest) (P1 (-1) (MX c n p al s r w k a pl fr t rest)) := mp_route0 I2.1 x (Or.inr (Bool.eq_false_iff.mpr hh))
      exact STEP.of h6 h7 (by decide) (by decide) rfl I
  · have h6 : AS mX6_route 4 0 0 [.ref 0, .int x] (MX c n p al s r w k a pl fr t rest) (P1 (-1) (MX c n p al s r w k a pl fr t rest)) := sp_route0 x (Or.inl (by rw [I10.1]; exact (bI_eq _).mpr (Bool.eq_false_iff.mpr hr)))
    have h7 : AS mX7_route 2 0 0 [.ref 25, .int x] (MX c n p al s r w k a pl fr t rest) (P1 (-1) (MX c n p al s r w k a pl fr t rest)) := mp_route0 I2.1 x (Or.inl (Bool.eq_false_iff.mpr hr))
    exact STEP.of h6 h7 (by decide) (by decide) rfl I

theorem TB.zero {B : Nat} {t : MT} (h : TB B t) (i : Nat) : TB B (updN t.1 i 0, updN t.2.1 i 0, t.2.2) := fun x hx => by
  have h1 := h x hx
  refine ⟨?_, ?_, h1.2.2⟩
  · show updN t.1 i 0 x ≤ BIG + 50
    unfold updN
    split
    · omega
    · exact h1.1
  · show updN t.2.1 i 0 x ≤ B
    unfold updN
    split
    · omega
    · exact h1.2.1
theorem VS.nil {s : MS} : VS (0, s.2) := ⟨Nat.zero_le _, fun i hi => absurd hi (Nat.not_lt_zero i)⟩
theorem yR.nil {y : RS} {s : MS} : yR (0, y.2) (0, s.2) := ⟨rfl, fun i hi => absurd hi (Nat.not_lt_zero i)⟩
theorem spR_no {ch : KS} {C : Nat} {f : Int32} {y : RS} (h : ¬ (C < UNR ∧ C % 1000 ≤ 60)) : spR ch C f y = (-1, y) := by
  unfold spR
  by_cases c : 1000000000 ≤ C
  · rw [if_pos c]
  · rw [if_neg c, if_neg (fun q => h ⟨by have hU : UNR = 1000000000 := rfl; omega, q⟩)]
theorem spR_yes {ch : KS} {C : Nat} {f : Int32} {y : RS} (h : C < UNR) (h2 : C % 1000 ≤ 60) (h3 : (spL ch (C % 1000) f (0, y.2)).1 = true) : spR ch C f y = (nI (C / 1000), (spL ch (C % 1000) f (0, y.2)).2) := by
  unfold spR
  rw [if_neg (by have hU : UNR = 1000000000 := rfl; omega), if_pos h2, if_pos h3]

set_option maxHeartbeats 4000000 in
set_option maxRecDepth 100000 in
theorem st_tell {c : XV} {n : MN} {p : Nat → Nat} {al : Int32} {s : MS} {r : MR} {w : MW} {k : MK} {a : MA} {pl : MP} {fr : Nat → Nat} {t : MT} {rest : AH} {Bd : Nat} (I : INV Bd c n p al s r w k fr t rest) (hBd : Bd + 1000000 < 2 ^ 30) : STEP mX6_tell mX7_tell [] Bd c n p al s r w k a pl fr t rest := by
  obtain ⟨⟨I1, I2, I3⟩, ⟨I4, I5⟩, I6, I7, ⟨I8, I9⟩, ⟨I10, I11⟩, ⟨I12, I13, I14, I15⟩, I16, I17⟩ := id I
  by_cases hr : r.1 = true
  · have r3 := I11.1.2.2.1
    have hB : BIG = 268435456 := rfl
    have hU : UNR = 1000000000 := rfl
    obtain ⟨z, z1, z2, z3, z4, z5, z6, z7⟩ := lp_R0 (pl := pl) I1 I2 I10 I11 hr
    obtain ⟨D, hF, hR⟩ := tell_ch (al := al) (sc := c.2.2.2.2.2.1) (ch := c.2.2.2.2.2.2.2.1) (P := p) I1 I2 I10 I11 hr I5 (fun j hj => goP_rp z7 hj)
    have hR2 : rC (r.2.2.2.1 + 1) (tNX n r (goP n r pl) al) (cP p) D (tcK c.1 c.2.1 c.2.2.1.1 c.2.2.2.2.2.1 c.2.2.2.2.2.2.1 c.2.2.2.2.2.2.2.1 r.2.2.2.1) := by
      rw [I4, I6]
      exact hR
    have hC : lcI (tcK c.1 c.2.1 c.2.2.1.1 c.2.2.2.2.2.1 c.2.2.2.2.2.2.1 c.2.2.2.2.2.2.2.1 r.2.2.2.1) 0 = nI (D 0) := lc_R hR2 (by omega) (Nat.succ_pos _)
    have hD0 : D 0 ≤ UNR := (hF 0 (Nat.succ_pos _)).2.1
    have hbd := tl_bd r3 I5 hF
    have hE0 : D r.2.2.2.1 = 0 := (hF _ (Nat.lt_succ_self _)).1 (decide_eq_true rfl)
    have hgd := tl_all r3 I5 hF r.2.2.2.1 (updN t.1 r.2.2.2.1 0, updN t.2.1 r.2.2.2.1 0, t.2.2) (Nat.le_refl _) (fun y h1 h2 => by
      rw [show y = r.2.2.2.1 by omega]
      refine ⟨fun _ => ⟨?_, ?_, fun q => absurd q (Nat.lt_irrefl _)⟩, fun q => absurd (by omega) q⟩
      · show updN t.1 r.2.2.2.1 0 r.2.2.2.1 = _
        rw [updN_s, hE0]
      · show updN t.2.1 r.2.2.2.1 0 r.2.2.2.1 = _
        rw [updN_s, hE0])
    have hTT : TB (Bd + 1000000) (tlT (axT n r (goP n r pl)) p al r.2.2.2.1 (updN t.1 r.2.2.2.1 0, updN t.2.1 r.2.2.2.1 0, t.2.2)) := (TB.tl _ _ _ (fun x kd nb y _ hy => by have := axT_le hy; omega) I5 (I17.zero r.2.2.2.1)).mono (by omega)
    have hlt : (tlT (axT n r (goP n r pl)) p al r.2.2.2.1 (updN t.1 r.2.2.2.1 0, updN t.2.1 r.2.2.2.1 0, t.2.2)).1 0 < BIG ↔ D 0 < UNR := by
      constructor
      · intro q
        exact Classical.byContradiction (fun w => by
          have := (hgd 0 (Nat.zero_le _)).2 w
          omega)
      · intro q
        have h1 := ((hgd 0 (Nat.zero_le _)).1 q).1
        have h2 := hbd 0 (Nat.zero_le _) q
        omega
    have hm : D 0 % 1000 ≤ 60 ∨ ¬ D 0 < UNR := by
      by_cases q : D 0 < UNR
      · have := hbd 0 (Nat.zero_le _) q
        exact Or.inl (by omega)
      · exact Or.inr q
    have hch : (tlT (axT n r (goP n r pl)) p al r.2.2.2.1 (updN t.1 r.2.2.2.1 0, updN t.2.1 r.2.2.2.1 0, t.2.2)).1 0 < BIG → tlC (axT n r (goP n r pl)) (tlT (axT n r (goP n r pl)) p al r.2.2.2.1 (updN t.1 r.2.2.2.1 0, updN t.2.1 r.2.2.2.1 0, t.2.2)).2.2.1 (tlT (axT n r (goP n r pl)) p al r.2.2.2.1 (updN t.1 r.2.2.2.1 0, updN t.2.1 r.2.2.2.1 0, t.2.2)).2.2.2 r.2.2.2.1 (D 0 % 1000) 0 := fun q => (tl_chain r3 hF hgd _ 0 s (Nat.zero_le _) (hlt.mp q) rfl).1
    have h6 : AS mX6_tell 6 0 0 [.ref 0] (MX c n p al s r w k a pl fr t rest) (P1 (if c.2.2.2.2.2.2.1.1 = 0 then -1 else (spR (tcK c.1 c.2.1 c.2.2.1.1 c.2.2.2.2.2.1 c.2.2.2.2.2.2.1 c.2.2.2.2.2.2.2.1 r.2.2.2.1) (D 0) 0 c.2.2.2.1).1) (MX (c.1, c.2.1, c.2.2.1, (if c.2.2.2.2.2.2.1.1 = 0 then c.2.2.2.1 else (spR (tcK c.1 c.2.1 c.2.2.1.1 c.2.2.2.2.2.1 c.2.2.2.2.2.2.1 c.2.2.2.2.2.2.2.1 r.2.2.2.1) (D 0) 0 c.2.2.2.1).2), c.2.2.2.2.1, (if c.2.2.2.2.2.2.1.1 = 0 then c.2.2.2.2.2.1 else (cwQ c.1 c.2.1 c.2.2.1.1 c.2.2.2.2.2.1 c.2.2.2.2.2.2.1 c.2.2.2.2.2.2.2.1 r.2.2.2.1).1), c.2.2.2.2.2.2.1, (if c.2.2.2.2.2.2.1.1 = 0 then c.2.2.2.2.2.2.2.1 else (tcK c.1 c.2.1 c.2.2.1.1 c.2.2.2.2.2.1 c.2.2.2.2.2.2.1 c.2.2.2.2.2.2.2.1 r.2.2.2.1)), c.2.2.2.2.2.2.2.2) n p al s r w k a pl fr t rest)) := sp_tell I10.2.2.2.1 r3 hC (by omega)
    have w0 : ¬ c.2.2.2.2.2.2.1.1 = 0 := by rw [I10.1]; exact (bI_ne _).mpr hr
    by_cases hq : D 0 < UNR
    · have hm6 : D 0 % 1000 ≤ 60 := by
        rcases hm with q | q
        · exact q
        · exact absurd hq q
      have hsp := sp_R hR2 (by omega) tNX_ok (cP_e (P := p)) (fun s hs => I5 _ (say_ok s hs).1) hF (D 0 % 1000) 0 (0, c.2.2.2.1.2) (0, s.2) (Nat.succ_pos _) hq rfl yR.nil (by show 0 + D 0 % 1000 ≤ 60; omega) VS.nil
      have hT := hlt.mpr hq
      have hch2 := tl_chain r3 hF hgd (D 0 % 1000) 0 (0, s.2) (Nat.zero_le _) hq rfl
      have h7 := mp_tell1 (c := (c.1, c.2.1, c.2.2.1, (if c.2.2.2.2.2.2.1.1 = 0 then c.2.2.2.1 else (spR (tcK c.1 c.2.1 c.2.2.1.1 c.2.2.2.2.2.1 c.2.2.2.2.2.2.1 c.2.2.2.2.2.2.2.1 r.2.2.2.1) (D 0) 0 c.2.2.2.1).2), c.2.2.2.2.1, (if c.2.2.2.2.2.2.1.1 = 0 then c.2.2.2.2.2.1 else (cwQ c.1 c.2.1 c.2.2.1.1 c.2.2.2.2.2.1 c.2.2.2.2.2.2.1 c.2.2.2.2.2.2.2.1 r.2.2.2.1).1), c.2.2.2.2.2.2.1, (if c.2.2.2.2.2.2.1.1 = 0 then c.2.2.2.2.2.2.2.1 else (tcK c.1 c.2.1 c.2.2.1.1 c.2.2.2.2.2.1 c.2.2.2.2.2.2.1 c.2.2.2.2.2.2.2.1 r.2.2.2.1)), c.2.2.2.2.2.2.2.2)) (s := s) (w := w) (k := k) (a := a) (fr := fr) (rest := rest) I2.vl I2.nm I2.sg I11.1.1 I11.1.2.1 r3 I11.1.2.2.2 I5 hr z7 I17 (by omega) (D 0 % 1000) hm6 hch
      have hspr := spR_yes (ch := (tcK c.1 c.2.1 c.2.2.1.1 c.2.2.2.2.2.1 c.2.2.2.2.2.2.1 c.2.2.2.2.2.2.2.1 r.2.2.2.1)) (f := 0) (y := c.2.2.2.1) hq hm6 hsp.1
      refine ⟨6, 4, 0, 0, _, (c.1, c.2.1, c.2.2.1, (if c.2.2.2.2.2.2.1.1 = 0 then c.2.2.2.1 else (spR (tcK c.1 c.2.1 c.2.2.1.1 c.2.2.2.2.2.1 c.2.2.2.2.2.2.1 c.2.2.2.2.2.2.2.1 r.2.2.2.1) (D 0) 0 c.2.2.2.1).2), c.2.2.2.2.1, (if c.2.2.2.2.2.2.1.1 = 0 then c.2.2.2.2.2.1 else (cwQ c.1 c.2.1 c.2.2.1.1 c.2.2.2.2.2.1 c.2.2.2.2.2.2.1 c.2.2.2.2.2.2.2.1 r.2.2.2.1).1), c.2.2.2.2.2.2.1, (if c.2.2.2.2.2.2.1.1 = 0 then c.2.2.2.2.2.2.2.1 else (tcK c.1 c.2.1 c.2.2.1.1 c.2.2.2.2.2.1 c.2.2.2.2.2.2.1 c.2.2.2.2.2.2.2.1 r.2.2.2.1)), c.2.2.2.2.2.2.2.2), rest, by decide, by decide, by decide, by decide, h6, h7.imp (fun q h hQ => ?_)⟩
      obtain ⟨hq1, a2, hq2⟩ := hQ
      refine ⟨?_, n, p, al, _, r, w, k, a2, _, fr, _, ?_, hq2⟩
      · rw [hq1, if_neg w0, hspr, if_pos hT, ((hgd 0 (Nat.zero_le _)).1 hq).1]
      · rw [if_pos hT, hch2.2, if_neg w0, hspr, if_neg w0, if_neg w0]
        exact ⟨⟨I1, I2, I3⟩, ⟨I4, I5⟩, I6, I7, hsp.2, ⟨I10, I11⟩, ⟨I12, I13, I14, I15⟩, I16, hTT⟩
    · have hT : ¬ (tlT (axT n r (goP n r pl)) p al r.2.2.2.1 (updN t.1 r.2.2.2.1 0, updN t.2.1 r.2.2.2.1 0, t.2.2)).1 0 < BIG := fun q => hq (hlt.mp q)
      have h7 := mp_tell1 (c := (c.1, c.2.1, c.2.2.1, (if c.2.2.2.2.2.2.1.1 = 0 then c.2.2.2.1 else (spR (tcK c.1 c.2.1 c.2.2.1.1 c.2.2.2.2.2.1 c.2.2.2.2.2.2.1 c.2.2.2.2.2.2.2.1 r.2.2.2.1) (D 0) 0 c.2.2.2.1).2), c.2.2.2.2.1, (if c.2.2.2.2.2.2.1.1 = 0 then c.2.2.2.2.2.1 else (cwQ c.1 c.2.1 c.2.2.1.1 c.2.2.2.2.2.1 c.2.2.2.2.2.2.1 c.2.2.2.2.2.2.2.1 r.2.2.2.1).1), c.2.2.2.2.2.2.1, (if c.2.2.2.2.2.2.1.1 = 0 then c.2.2.2.2.2.2.2.1 else (tcK c.1 c.2.1 c.2.2.1.1 c.2.2.2.2.2.1 c.2.2.2.2.2.2.1 c.2.2.2.2.2.2.2.1 r.2.2.2.1)), c.2.2.2.2.2.2.2.2)) (s := s) (w := w) (k := k) (a := a) (fr := fr) (rest := rest) I2.vl I2.nm I2.sg I11.1.1 I11.1.2.1 r3 I11.1.2.2.2 I5 hr z7 I17 (by omega) 0 (by omega) (fun q => absurd q hT)
      have hspr := spR_no (ch := (tcK c.1 c.2.1 c.2.2.1.1 c.2.2.2.2.2.1 c.2.2.2.2.2.2.1 c.2.2.2.2.2.2.2.1 r.2.2.2.1)) (f := 0) (y := c.2.2.2.1) (C := D 0) (fun q => hq q.1)
      refine ⟨6, 4, 0, 0, _, (c.1, c.2.1, c.2.2.1, (if c.2.2.2.2.2.2.1.1 = 0 then c.2.2.2.1 else (spR (tcK c.1 c.2.1 c.2.2.1.1 c.2.2.2.2.2.1 c.2.2.2.2.2.2.1 c.2.2.2.2.2.2.2.1 r.2.2.2.1) (D 0) 0 c.2.2.2.1).2), c.2.2.2.2.1, (if c.2.2.2.2.2.2.1.1 = 0 then c.2.2.2.2.2.1 else (cwQ c.1 c.2.1 c.2.2.1.1 c.2.2.2.2.2.1 c.2.2.2.2.2.2.1 c.2.2.2.2.2.2.2.1 r.2.2.2.1).1), c.2.2.2.2.2.2.1, (if c.2.2.2.2.2.2.1.1 = 0 then c.2.2.2.2.2.2.2.1 else (tcK c.1 c.2.1 c.2.2.1.1 c.2.2.2.2.2.1 c.2.2.2.2.2.2.1 c.2.2.2.2.2.2.2.1 r.2.2.2.1)), c.2.2.2.2.2.2.2.2), rest, by decide, by decide, by decide, by decide, h6, h7.imp (fun q h hQ => ?_)⟩
      obtain ⟨hq1, a2, hq2⟩ := hQ
      refine ⟨?_, n, p, al, _, r, w, k, a2, _, fr, _, ?_, hq2⟩
      · rw [hq1, if_neg w0, hspr, if_neg hT]
      · rw [if_neg hT, if_neg w0, hspr, if_neg w0, if_neg w0]
        exact ⟨⟨I1, I2, I3⟩, ⟨I4, I5⟩, I6, I7, ⟨I8, I9⟩, ⟨I10, I11⟩, ⟨I12, I13, I14, I15⟩, I16, hTT⟩
  · have h6 : AS mX6_tell 6 0 0 [.ref 0] (MX c n p al s r w k a pl fr t rest) (P1 (-1) (MX c n p al s r w k a pl fr t rest)) := sp_tell0 (by rw [I10.1]; exact (bI_eq _).mpr (Bool.eq_false_iff.mpr hr))
    have h7 : AS mX7_tell 0 0 0 [.ref 25] (MX c n p al s r w k a pl fr t rest) (P1 (-1) (MX c n p al s r w k a pl fr t rest)) := mp_tell0 (Bool.eq_false_iff.mpr hr)
    exact STEP.of h6 h7 (by decide) (by decide) rfl I

set_option maxHeartbeats 4000000 in
set_option maxRecDepth 100000 in
theorem st_holds {c : XV} {n : MN} {p : Nat → Nat} {al : Int32} {s : MS} {r : MR} {w : MW} {k : MK} {a : MA} {pl : MP} {fr : Nat → Nat} {t : MT} {rest : AH} {Bd : Nat} (I : INV Bd c n p al s r w k fr t rest)  : STEP mX6_holds mX7_holds [] Bd c n p al s r w k a pl fr t rest := by
  obtain ⟨⟨I1, I2, I3⟩, ⟨I4, I5⟩, I6, I7, ⟨I8, I9⟩, ⟨I10, I11⟩, ⟨I12, I13, I14, I15⟩, I16, I17⟩ := id I
  have h6 : AS mX6_holds 7 0 0 [.ref 0] (MX c n p al s r w k a pl fr t rest) (P1 (if c.2.2.2.2.2.2.1.1 = 0 then -1 else bI (iwI (iwQ c.1 c.2.2.2.2.2.1 c.2.2.2.2.2.2.1.2.1 c.2.2.2.2.2.2.1.2.2.1 60 c.2.2.2.1.1 c.2.2.2.1.2 s.1) 30 c.2.2.2.2.2.2.1.2.2.2.1 c.2.2.2.2.2.2.1.2.2.2.2 r.2.2.2.1)) (MX (c.1, c.2.1, c.2.2.1, c.2.2.2.1, c.2.2.2.2.1, (if c.2.2.2.2.2.2.1.1 = 0 then c.2.2.2.2.2.1 else (iwQ c.1 c.2.2.2.2.2.1 c.2.2.2.2.2.2.1.2.1 c.2.2.2.2.2.2.1.2.2.1 60 c.2.2.2.1.1 c.2.2.2.1.2 s.1).2), c.2.2.2.2.2.2.1, c.2.2.2.2.2.2.2.1, c.2.2.2.2.2.2.2.2) n p al s r w k a pl fr t rest)) := sp_holds I10.2.2.2.1 I11.1.2.2.1 I8.1 (by have := I9.1; omega)
  have h7 : AS mX7_holds 4 0 0 [.ref 25] (MX (c.1, c.2.1, c.2.2.1, c.2.2.2.1, c.2.2.2.2.1, (if c.2.2.2.2.2.2.1.1 = 0 then c.2.2.2.2.2.1 else (iwQ c.1 c.2.2.2.2.2.1 c.2.2.2.2.2.2.1.2.1 c.2.2.2.2.2.2.1.2.2.1 60 c.2.2.2.1.1 c.2.2.2.1.2 s.1).2), c.2.2.2.2.2.2.1, c.2.2.2.2.2.2.2.1, c.2.2.2.2.2.2.2.2) n p al s r w k a pl fr t rest) (P1 (if r.1 = true then bI (teR n r.2.2.2.2 0 r.2.2.2.1 s.2.1 s.2.2 0 s.1 r.2.1 r.2.2.1 a pl).1 else -1) (MX (c.1, c.2.1, c.2.2.1, c.2.2.2.1, c.2.2.2.2.1, (if c.2.2.2.2.2.2.1.1 = 0 then c.2.2.2.2.2.1 else (iwQ c.1 c.2.2.2.2.2.1 c.2.2.2.2.2.2.1.2.1 c.2.2.2.2.2.2.1.2.2.1 60 c.2.2.2.1.1 c.2.2.2.1.2 s.1).2), c.2.2.2.2.2.2.1, c.2.2.2.2.2.2.2.1, c.2.2.2.2.2.2.2.2) n p al s r w k (if r.1 = true then (teR n r.2.2.2.2 0 r.2.2.2.1 s.2.1 s.2.2 0 s.1 r.2.1 r.2.2.1 a pl).2.1 else a) (if r.1 = true then (teR n r.2.2.2.2 0 r.2.2.2.1 s.2.1 s.2.2 0 s.1 r.2.1 r.2.2.1 a pl).2.2 else pl) fr t rest)) := mp_holds I2.vl I2.nm I2.sg I11.1.1 I11.1.2.1 I11.1.2.2.1 I11.1.2.2.2 I9
  refine STEP.of h6 h7 (by decide) (by decide) ?_ ?_
  · by_cases hr : r.1 = true
    · rw [if_pos hr, if_neg (by rw [I10.1]; exact (bI_ne _).mpr hr)]
      congr 1
      rw [I10.2.1, I10.2.2.1, I10.2.2.2.1, I8.1]
      exact iw_te I1 I2 (by decide) I9.1 I9.1 (fun i hi => by rw [Nat.zero_add]; exact I8.2 i hi) (fun i hi => by rw [Nat.zero_add]; exact I9.2 i hi) I11.1.2.2.1 (fun i hi => by rw [Nat.zero_add]; exact I10.2.2.2.2 i hi) (fun i hi => by rw [Nat.zero_add]; exact I11.1.2.2.2 i hi) (I11.2 hr).1 I11.1.2.1
    · rw [if_neg hr, if_pos (by rw [I10.1]; exact (bI_eq _).mpr (Bool.eq_false_iff.mpr hr))]
  · exact ⟨⟨I1, I2, I3⟩, ⟨I4, I5⟩, I6, I7, ⟨I8, I9⟩, ⟨I10, I11⟩, ⟨I12, I13, I14, I15⟩, I16, I17⟩

theorem cs_e {y : RS} {s : MS} {r : MR} {x : Int32} (hy : yR y s) (hs : VS s) (hr : r.1 = true) : csI (atI 60 y.1 y.2 x) = spC r s x ∧ (spC r s x = true → x = nI (tN x) ∧ tN x < s.1 ∧ (s.2.1 (tN x) = 1 ∨ s.2.1 (tN x) = 3 ∨ s.2.1 (tN x) = 4 ∨ s.2.1 (tN x) = 5 ∨ s.2.1 (tN x) = 6)) := by
  have hs6 := hs.1
  unfold spC
  rw [if_pos hr, hy.1]
  by_cases c1 : inI x 0 (nI s.1 - 1) = true
  · obtain ⟨e1, e2⟩ := inI_pred (by omega) c1
    rw [if_pos c1]
    have ea : atI 60 (nI s.1) y.2 x = nI (10 * s.2.1 (tN x) + s.2.2 (tN x)) := by
      conv => lhs; rw [e1]
      rw [atI_n (by decide) hs6 e2]
      exact hy.2 _ e2
    obtain ⟨s1, s2, s3⟩ := hs.2 _ e2
    rw [ea]
    generalize tN x = j at *
    unfold csI
    rw [if_neg (nI_nm1 (by omega)), d10 s1 s2]
    have hk : s.2.1 j = 0 ∨ s.2.1 j = 1 ∨ s.2.1 j = 2 ∨ s.2.1 j = 3 ∨ s.2.1 j = 4 ∨ s.2.1 j = 5 ∨ s.2.1 j = 6 ∨ s.2.1 j = 7 ∨ s.2.1 j = 8 := by omega
    rcases hk with q | q | q | q | q | q | q | q | q <;> rw [q] <;> refine ⟨by decide, fun h => ?_⟩
    all_goals first
      | exact absurd h (by decide)
      | exact ⟨e1, e2, by decide⟩
  · rw [if_neg c1]
    refine ⟨?_, fun h => by cases h⟩
    have : atI 60 (nI s.1) y.2 x = -1 := by
      by_cases q1 : x < 0
      · unfold atI
        rw [if_pos q1]
      · obtain ⟨j, hj, rfl⟩ := nI_of q1
        by_cases q2 : j < s.1
        · exact absurd (in_pred (by omega) q2) c1
        · exact atI_no (by omega) hj
    rw [this]
    rfl

set_option maxHeartbeats 4000000 in
set_option maxRecDepth 100000 in
theorem st_slip {c : XV} {n : MN} {p : Nat → Nat} {al : Int32} {s : MS} {r : MR} {w : MW} {k : MK} {a : MA} {pl : MP} {fr : Nat → Nat} {t : MT} {rest : AH} {Bd : Nat} (I : INV Bd c n p al s r w k fr t rest) (x : Int32) : STEP mX6_slip mX7_slip [.int x] Bd c n p al s r w k a pl fr t rest := by
  obtain ⟨⟨I1, I2, I3⟩, ⟨I4, I5⟩, I6, I7, ⟨I8, I9⟩, ⟨I10, I11⟩, ⟨I12, I13, I14, I15⟩, I16, I17⟩ := id I
  have h6 : AS mX6_slip 6 0 0 [.ref 0, .int x] (MX c n p al s r w k a pl fr t rest) (P1 (if c.2.2.2.2.2.2.1.1 = 0 then -1 else if csI (atI 60 c.2.2.2.1.1 c.2.2.2.1.2 x) = true then (if (faL c.1 60 c.2.2.2.1.1 c.2.2.2.1.2 x s.1 0 (stW c.2.2.2.2.2.1 c.2.2.2.2.2.2.1.2.1 c.2.2.2.2.2.2.1.2.2.1)).1 = -1 then (if (faL c.1 60 c.2.2.2.1.1 c.2.2.2.1.2 x s.1 0 (stW c.2.2.2.2.2.1 c.2.2.2.2.2.2.1.2.1 c.2.2.2.2.2.2.1.2.2.1)).2.1 = (lpL c.1 c.2.2.2.2.2.2.1 r.2.2.2.1 0 (c.2.2.2.2.2.2.1.2.1 * 4 + c.2.2.2.2.2.2.1.2.2.1)) / 4 then 1 else 0) else -2 - (faL c.1 60 c.2.2.2.1.1 c.2.2.2.1.2 x s.1 0 (stW c.2.2.2.2.2.1 c.2.2.2.2.2.2.1.2.1 c.2.2.2.2.2.2.1.2.2.1)).1) else -1) (MX (c.1, c.2.1, c.2.2.1, c.2.2.2.1, c.2.2.2.2.1, (if c.2.2.2.2.2.2.1.1 = 0 then c.2.2.2.2.2.1 else if csI (atI 60 c.2.2.2.1.1 c.2.2.2.1.2 x) = true then (faL c.1 60 c.2.2.2.1.1 c.2.2.2.1.2 x s.1 0 (stW c.2.2.2.2.2.1 c.2.2.2.2.2.2.1.2.1 c.2.2.2.2.2.2.1.2.2.1)).2 else c.2.2.2.2.2.1), c.2.2.2.2.2.2.1, c.2.2.2.2.2.2.2.1, c.2.2.2.2.2.2.2.2) n p al s r w k a pl fr t rest)) := sp_slip I10.2.2.2.1 I11.1.2.2.1 I8.1 (by have := I9.1; omega) x
  have h7 : AS mX7_slip 3 0 0 [.ref 25, .int x] (MX (c.1, c.2.1, c.2.2.1, c.2.2.2.1, c.2.2.2.2.1, (if c.2.2.2.2.2.2.1.1 = 0 then c.2.2.2.2.2.1 else if csI (atI 60 c.2.2.2.1.1 c.2.2.2.1.2 x) = true then (faL c.1 60 c.2.2.2.1.1 c.2.2.2.1.2 x s.1 0 (stW c.2.2.2.2.2.1 c.2.2.2.2.2.2.1.2.1 c.2.2.2.2.2.2.1.2.2.1)).2 else c.2.2.2.2.2.1), c.2.2.2.2.2.2.1, c.2.2.2.2.2.2.2.1, c.2.2.2.2.2.2.2.2) n p al s r w k a pl fr t rest) (P1 (if spC r s x = true then spA (spT2 n s (tN x) s.1 0 (r.2.1, r.2.2.1, a.2.2)) ((goP n r pl).1 r.2.2.2.1) else -1) (MX (c.1, c.2.1, c.2.2.1, c.2.2.2.1, c.2.2.2.2.1, (if c.2.2.2.2.2.2.1.1 = 0 then c.2.2.2.2.2.1 else if csI (atI 60 c.2.2.2.1.1 c.2.2.2.1.2 x) = true then (faL c.1 60 c.2.2.2.1.1 c.2.2.2.1.2 x s.1 0 (stW c.2.2.2.2.2.1 c.2.2.2.2.2.2.1.2.1 c.2.2.2.2.2.2.1.2.2.1)).2 else c.2.2.2.2.2.1), c.2.2.2.2.2.2.1, c.2.2.2.2.2.2.2.1, c.2.2.2.2.2.2.2.2) n p al s r w k (if spC r s x = true then (spT2 n s (tN x) s.1 0 (r.2.1, r.2.2.1, a.2.2)).2 else a) (if spC r s x = true then goP n r pl else pl) fr t rest)) := mp_slip I2.vl I2.nm I2.sg I11.1.1 I11.1.2.1 I11.1.2.2.1 I11.1.2.2.2 (fun h => by obtain ⟨_, _, _, _, _, _, _, q⟩ := lp_R0 (pl := pl) I1 I2 I10 I11 h; exact q) I9 x
  refine STEP.of h6 h7 (by decide) (by decide) ?_ ?_
  · by_cases hr : r.1 = true
    · have hs6 := I9.1
      have hK := I2.1
      obtain ⟨g1, g2⟩ := cs_e (r := r) (x := x) I8 I9 hr
      rw [if_neg (by rw [I10.1]; exact (bI_ne _).mpr hr), g1]
      by_cases c1 : spC r s x = true
      · obtain ⟨e1, e2, e3⟩ := g2 c1
        obtain ⟨z, z1, z2, z3, z4, z5, z6, z7⟩ := lp_R0 (pl := pl) I1 I2 I10 I11 hr
        have e9 : nI (4 * z.1 + z.2) / 4 = nI z.1 := by
          rw [dv4 (by omega)]
          congr 1
          omega
        rw [if_pos c1, if_pos c1, z3, e9, z5, I10.2.1, I10.2.2.1]
        have hFs := gF_sp (ii := tN x) I1 I2 I9 I8 e2 e3
        rw [← e1] at hFs
        have hg := fa_gw hFs s.1 0 ((r.2.1, r.2.2.1, a.2.2), 0, fun _ => 0) (stW c.2.2.2.2.2.1 (nI r.2.1) (nI r.2.2.1)) (by omega) (by show 0 + 30 * s.1 ≤ _; omega) (I11.2 hr).1 I11.1.2.1 st_wQ
        have hw := sp_gw (N := n) (s := s) (ii := tN x) s.1 0 (r.2.1, r.2.2.1, a.2.2) 0 (fun _ => 0)
        have hidx := gw_idx (F := spD n s (tN x)) s.1 0 ((r.2.1, r.2.2.1, a.2.2), 0, fun _ => 0)
        generalize gwL (spD n s (tN x)) s.1 0 ((r.2.1, r.2.2.1, a.2.2), 0, fun _ => 0) = G at hg hw hidx
        obtain ⟨k1, k2, k3, k4⟩ := hg
        unfold spA
        rw [k1, hw.1, hw.2]
        cases hG : G.1 with
        | none =>
          rw [if_pos (show oI none = -1 from rfl), k2.1]
          show (if nI G.2.1.1 = nI z.1 then (1 : Int32) else 0) = if G.2.1.1 = z.1 then 1 else 0
          by_cases q : G.2.1.1 = z.1
          · rw [if_pos q, if_pos (by rw [q])]
          · rw [if_neg q, if_neg (fun w => q ((nI_eq (by omega) (by omega)).mp w))]
        | some i =>
          have := hidx i hG
          rw [if_neg (oI_some (by omega))]
          rfl
      · rw [if_neg c1, if_neg c1]
    · have hsp : ¬ spC r s x = true := by
        unfold spC
        rw [if_neg hr]
        decide
      rw [if_neg hsp, if_pos (by rw [I10.1]; exact (bI_eq _).mpr (Bool.eq_false_iff.mpr hr))]
  · exact ⟨⟨I1, I2, I3⟩, ⟨I4, I5⟩, I6, I7, ⟨I8, I9⟩, ⟨I10, I11⟩, ⟨I12, I13, I14, I15⟩, I16, I17⟩

set_option maxHeartbeats 4000000 in
set_option maxRecDepth 100000 in
theorem st_best {c : XV} {n : MN} {p : Nat → Nat} {al : Int32} {s : MS} {r : MR} {w : MW} {k : MK} {a : MA} {pl : MP} {fr : Nat → Nat} {t : MT} {rest : AH} {Bd : Nat} (I : INV Bd c n p al s r w k fr t rest) (x f y : Int32) (hBd : Bd + 1000000 < 2 ^ 30) : STEP mX6_best mX7_best [.int x, .int f, .int y] Bd c n p al s r w k a pl fr t rest := by
  obtain ⟨⟨I1, I2, I3⟩, ⟨I4, I5⟩, I6, I7, ⟨I8, I9⟩, ⟨I10, I11⟩, ⟨I12, I13, I14, I15⟩, I16, I17⟩ := id I
  by_cases hh : isX n.1 x f = true ∧ hasI (nI n.1) y = true
  · have hK := I2.1
    have hB : BIG = 268435456 := rfl
    have hU : UNR = 1000000000 := rfl
    obtain ⟨e1, e2, e3, e4⟩ := isX_n I2.1 hh.1
    obtain ⟨b1, b2⟩ := and_t hh.1
    obtain ⟨e5, e6⟩ := hasI_nat I2.1 hh.2
    have b3 := hh.2
    clear hh
    generalize tN x = kk at *
    generalize tN f = ff at *
    generalize tN y = T at *
    subst e1
    subst e3
    subst e5
    obtain ⟨D, hF, hR⟩ := best_ch (al := al) (sc := c.2.2.2.2.2.1) (ch := c.2.2.2.2.2.2.2.1) (P := p) I1 I2 I5 e6
    have hR2 : rC (4 * n.1) (bsX n al) (cP p) D (bcK c.1 c.2.1 c.2.2.1.1 c.2.2.2.2.2.1 c.2.2.2.2.2.2.2.1 (nI T) n.1) := by
      rw [I4, I6]
      exact hR
    have hx : (4 * kk + ff) < 4 * n.1 := by omega
    have hC : lcI (bcK c.1 c.2.1 c.2.2.1.1 c.2.2.2.2.2.1 c.2.2.2.2.2.2.2.1 (nI T) n.1) (nI kk * 4 + nI ff) = nI (D (4 * kk + ff)) := by
      rw [pl4]
      exact lc_R hR2 (by omega) hx
    have hD0 : D (4 * kk + ff) ≤ UNR := (hF _ hx).2.1
    have h6 : AS mX6_best 6 0 0 [.ref 0, .int (nI kk), .int (nI ff), .int (nI T)] (MX c n p al s r w k a pl fr t rest) (P1 (if hasI c.1.1 (nI kk) = true then (if exI (nI ff) = true then (if hasI c.1.1 (nI T) = true then (spR (bcK c.1 c.2.1 c.2.2.1.1 c.2.2.2.2.2.1 c.2.2.2.2.2.2.2.1 (nI T) n.1) (D (4 * kk + ff)) (nI kk * 4 + nI ff) c.2.2.2.1).1 else -1) else -1) else -1) (MX (c.1, c.2.1, c.2.2.1, (if hasI c.1.1 (nI kk) = true then (if exI (nI ff) = true then (if hasI c.1.1 (nI T) = true then (spR (bcK c.1 c.2.1 c.2.2.1.1 c.2.2.2.2.2.1 c.2.2.2.2.2.2.2.1 (nI T) n.1) (D (4 * kk + ff)) (nI kk * 4 + nI ff) c.2.2.2.1).2 else c.2.2.2.1) else c.2.2.2.1) else c.2.2.2.1), c.2.2.2.2.1, (if hasI c.1.1 (nI kk) = true then (if exI (nI ff) = true then (if hasI c.1.1 (nI T) = true then (nwQ c.1 c.2.1 c.2.2.1.1 c.2.2.2.2.2.1 c.2.2.2.2.2.2.2.1 (nI T) n.1).1 else c.2.2.2.2.2.1) else c.2.2.2.2.2.1) else c.2.2.2.2.2.1), c.2.2.2.2.2.2.1, (if hasI c.1.1 (nI kk) = true then (if exI (nI ff) = true then (if hasI c.1.1 (nI T) = true then (bcK c.1 c.2.1 c.2.2.1.1 c.2.2.2.2.2.1 c.2.2.2.2.2.2.2.1 (nI T) n.1) else c.2.2.2.2.2.2.2.1) else c.2.2.2.2.2.2.2.1) else c.2.2.2.2.2.2.2.1), c.2.2.2.2.2.2.2.2) n p al s r w k a pl fr t rest)) := sp_best I1.1 hK (nI kk) (nI ff) (nI T) hC (by omega)
    rw [← I1.1] at b1 b3
    obtain ⟨v1, v2⟩ := b0_inv hF t
    obtain ⟨s1, s2⟩ := bs_stop I2 I5 hF v1 v2
    have hres : ∃ (va : Int32) (sf : MS), (spR (bcK c.1 c.2.1 c.2.2.1.1 c.2.2.2.2.2.1 c.2.2.2.2.2.2.2.1 (nI T) n.1) (D (4 * kk + ff)) (nI kk * 4 + nI ff) c.2.2.2.1).1 = va ∧ yR (spR (bcK c.1 c.2.1 c.2.2.1.1 c.2.2.2.2.2.1 c.2.2.2.2.2.2.2.1 (nI T) n.1) (D (4 * kk + ff)) (nI kk * 4 + nI ff) c.2.2.2.1).2 sf ∧ VS sf ∧ ∀ i, i ≤ 4 * n.1 → (bsW (nxT n) p al T n.1 (bsP (nxT n) p al T n.1 i (itT (b0T T) (4 * n.1) 0 t))).1 = false → bsF (nxT n) p al T (4 * kk + ff) s va sf (bsW (nxT n) p al T n.1 (bsP (nxT n) p al T n.1 i (itT (b0T T) (4 * n.1) 0 t))).2 := by
      by_cases hq : D (4 * kk + ff) < UNR ∧ D (4 * kk + ff) % 1000 ≤ 60
      · have hsp := sp_R hR2 (by omega) (bsX_ok I2) (cP_e (P := p)) (fun s hs => I5 _ (say_ok s hs).1) hF (D (4 * kk + ff) % 1000) (4 * kk + ff) (0, c.2.2.2.1.2) (0, s.2) hx hq.1 rfl yR.nil (by show 0 + D (4 * kk + ff) % 1000 ≤ 60; omega) VS.nil
        rw [← pl4] at hsp
        have hspr := spR_yes (ch := (bcK c.1 c.2.1 c.2.2.1.1 c.2.2.2.2.2.1 c.2.2.2.2.2.2.2.1 (nI T) n.1)) (f := (nI kk * 4 + nI ff)) (y := c.2.2.2.1) hq.1 hq.2 hsp.1
        refine ⟨nI (D (4 * kk + ff) / 1000), sqS (bsX n al) (cP p) D (D (4 * kk + ff) % 1000) (4 * kk + ff) (0, s.2), by rw [hspr], by rw [hspr]; exact hsp.2.1, hsp.2.2, fun i _ hi => ?_⟩
        have hS := s2 i hi
        have h9 := (hS _ hx).lt hq.1
        have h10 := bs_bd I2 I5 hF _ hx hq.1
        obtain ⟨c1, c2⟩ := be_chain I2 I5 hF hS (D (4 * kk + ff) % 1000) (4 * kk + ff) (0, s.2) hx hq.1 rfl
        exact Or.inl ⟨by omega, by omega, D (4 * kk + ff) % 1000, hq.2, c1, by rw [h9.1], c2.symm⟩
      · have hspr := spR_no (ch := (bcK c.1 c.2.1 c.2.2.1.1 c.2.2.2.2.2.1 c.2.2.2.2.2.2.2.1 (nI T) n.1)) (f := (nI kk * 4 + nI ff)) (y := c.2.2.2.1) hq
        refine ⟨-1, s, by rw [hspr], by rw [hspr]; exact I8, I9, fun i _ hi => ?_⟩
        have hS := s2 i hi
        refine Or.inr ⟨fun w => hq ?_, rfl, rfl⟩
        have hlt : D (4 * kk + ff) < UNR := Classical.byContradiction (fun q => by
          have := (hS _ hx).ge q
          omega)
        have h9 := (hS _ hx).lt hlt
        exact ⟨hlt, by omega⟩
    obtain ⟨va, sf, q1, q2, q3, q4⟩ := hres
    have h7 := mp_best1 (c := (c.1, c.2.1, c.2.2.1, (if hasI c.1.1 (nI kk) = true then (if exI (nI ff) = true then (if hasI c.1.1 (nI T) = true then (spR (bcK c.1 c.2.1 c.2.2.1.1 c.2.2.2.2.2.1 c.2.2.2.2.2.2.2.1 (nI T) n.1) (D (4 * kk + ff)) (nI kk * 4 + nI ff) c.2.2.2.1).2 else c.2.2.2.1) else c.2.2.2.1) else c.2.2.2.1), c.2.2.2.2.1, (if hasI c.1.1 (nI kk) = true then (if exI (nI ff) = true then (if hasI c.1.1 (nI T) = true then (nwQ c.1 c.2.1 c.2.2.1.1 c.2.2.2.2.2.1 c.2.2.2.2.2.2.2.1 (nI T) n.1).1 else c.2.2.2.2.2.1) else c.2.2.2.2.2.1) else c.2.2.2.2.2.1), c.2.2.2.2.2.2.1, (if hasI c.1.1 (nI kk) = true then (if exI (nI ff) = true then (if hasI c.1.1 (nI T) = true then (bcK c.1 c.2.1 c.2.2.1.1 c.2.2.2.2.2.1 c.2.2.2.2.2.2.2.1 (nI T) n.1) else c.2.2.2.2.2.2.2.1) else c.2.2.2.2.2.2.2.1) else c.2.2.2.2.2.2.2.1), c.2.2.2.2.2.2.2.2)) (r := r) (w := w) (k := k) (a := a) (pl := pl) (fr := fr) (rest := rest) hK I2.vl I2.nm I2.sg I5 kk ff T e2 e4 e6 I17 hBd (4 * n.1) (by omega) s1 va sf q4
    refine ⟨6, 5, 0, 0, _, (c.1, c.2.1, c.2.2.1, (if hasI c.1.1 (nI kk) = true then (if exI (nI ff) = true then (if hasI c.1.1 (nI T) = true then (spR (bcK c.1 c.2.1 c.2.2.1.1 c.2.2.2.2.2.1 c.2.2.2.2.2.2.2.1 (nI T) n.1) (D (4 * kk + ff)) (nI kk * 4 + nI ff) c.2.2.2.1).2 else c.2.2.2.1) else c.2.2.2.1) else c.2.2.2.1), c.2.2.2.2.1, (if hasI c.1.1 (nI kk) = true then (if exI (nI ff) = true then (if hasI c.1.1 (nI T) = true then (nwQ c.1 c.2.1 c.2.2.1.1 c.2.2.2.2.2.1 c.2.2.2.2.2.2.2.1 (nI T) n.1).1 else c.2.2.2.2.2.1) else c.2.2.2.2.2.1) else c.2.2.2.2.2.1), c.2.2.2.2.2.2.1, (if hasI c.1.1 (nI kk) = true then (if exI (nI ff) = true then (if hasI c.1.1 (nI T) = true then (bcK c.1 c.2.1 c.2.2.1.1 c.2.2.2.2.2.1 c.2.2.2.2.2.2.2.1 (nI T) n.1) else c.2.2.2.2.2.2.2.1) else c.2.2.2.2.2.2.2.1) else c.2.2.2.2.2.2.2.1), c.2.2.2.2.2.2.2.2), rest, by decide, by decide, by decide, by decide, h6, h7.imp (fun q h hQ => ?_)⟩
    obtain ⟨hq1, a2, t2, ht2, hq2⟩ := hQ
    refine ⟨?_, n, p, al, sf, r, w, k, a2, pl, fr, t2, ?_, hq2⟩
    · rw [hq1, if_pos b1, if_pos b2, if_pos b3, q1]
    · rw [if_pos b1, if_pos b2, if_pos b3]
      exact ⟨⟨I1, I2, I3⟩, ⟨I4, I5⟩, I6, I7, ⟨q2, q3⟩, ⟨I10, I11⟩, ⟨I12, I13, I14, I15⟩, I16, ht2⟩
  · have hno6 : hasI c.1.1 x = false ∨ exI f = false ∨ hasI c.1.1 y = false := by
      rw [I1.1]
      cases q1 : hasI (nI n.1) x with
      | false => exact Or.inl rfl
      | true =>
        cases q2 : exI f with
        | false => exact Or.inr (Or.inl rfl)
        | true =>
          refine Or.inr (Or.inr ?_)
          cases q3 : hasI (nI n.1) y with
          | false => rfl
          | true => exact absurd ⟨by unfold isX; rw [q1, q2]; rfl, q3⟩ hh
    have hno7 : isX n.1 x f = false ∨ hasI (nI n.1) y = false := by
      cases q1 : isX n.1 x f with
      | false => exact Or.inl rfl
      | true =>
        refine Or.inr ?_
        cases q3 : hasI (nI n.1) y with
        | false => rfl
        | true => exact absurd ⟨q1, q3⟩ hh
    have h6 : AS mX6_best 6 0 0 [.ref 0, .int x, .int f, .int y] (MX c n p al s r w k a pl fr t rest) (P1 (-1) (MX c n p al s r w k a pl fr t rest)) := sp_best0 x f y hno6
    have h7 : AS mX7_best 5 0 0 [.ref 25, .int x, .int f, .int y] (MX c n p al s r w k a pl fr t rest) (P1 (-1) (MX c n p al s r w k a pl fr t rest)) := mp_best0 I2.1 x f y hno7
    exact STEP.of h6 h7 (by decide) (by decide) rfl I
