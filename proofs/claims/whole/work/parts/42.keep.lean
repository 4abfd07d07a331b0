/-! Way.copy, Kept, keep, still -/
theorem set_ap (hp l : AH) (i : Nat) (c : AC) : (hp ++ l).set (hp.length + i) c = hp ++ l.set i c := by
  rw [List.set_append_right _ _ (Nat.le_add_right _ _), Nat.add_sub_cancel_left]
theorem at_ap (hp l : AH) (i : Nat) : (hp ++ l)[hp.length + i]? = l[i]? := by
  rw [List.getElem?_append_right (Nat.le_add_right _ _), Nat.add_sub_cancel_left]
theorem at_apl {hp l : AH} {i : Nat} {c : AC} (h : hp[i]? = some c) : (hp ++ l)[i]? = some c := by
  rw [List.getElem?_append_left (a_lt h)]
  exact h
theorem rowH_ap (hp l : AH) (i j cap : Nat) (w : Int32 × (Nat → Int32)) : rowH (hp ++ l) (hp.length + i) (hp.length + j) cap w = hp ++ (l.set j (aC cap w.2)).set i (oC 3 [.ref (hp.length + j), .int w.1]) := by
  unfold rowH
  rw [set_ap, set_ap]
theorem sp_RowA (hp l : AH) (i cap : Nat) (hi : l.length = i) (hcap : cap < 100000) (hlen : hp.length + i < 998) : AS mX3_init 1 1 cap [.ref (hp.length + i), .int (nI cap)] (hp ++ (l ++ [oC 3 [.null, .int 0]])) (P0 (hp ++ (l ++ [oC 3 [.ref (hp.length + (i + 1)), .int 0], aC cap (fun _ => 0)]))) := by
  have h := sp_RowN (hp ++ l) cap hcap (by rw [List.length_append, hi]; exact hlen)
  rw [List.length_append, hi, List.append_assoc, List.append_assoc, Nat.add_assoc] at h
  exact h
theorem sp_WayA (hp l : AH) (i : Nat) (hi : l.length = i) (hlen : hp.length + i < 900) : AS mX5_init 2 2 32 [.ref (hp.length + i)] (hp ++ (l ++ [oC 5 [.int 0, .int 0, .int 0, .null]])) (P0 (hp ++ (l ++ [oC 5 [.int 0, .int 0, .int 0, .ref (hp.length + (i + 1))], oC 3 [.ref (hp.length + (i + 2)), .int 0], aC 30 (fun _ => 0)]))) := by
  have h := sp_Way (hp := hp ++ (l ++ [oC 5 [.int 0, .int 0, .int 0, .null]])) (q := hp.length + i) (by rw [at_ap, List.getElem?_append_right (Nat.le_of_eq hi), hi, Nat.sub_self]; rfl) (by simp; omega)
  have e1 : (hp ++ (l ++ [oC 5 [.int 0, .int 0, .int 0, .null]])).length = hp.length + (i + 1) := by simp; omega
  rw [e1, set_ap, List.set_append_right _ _ (Nat.le_of_eq hi), hi, Nat.sub_self, List.append_assoc, List.append_assoc] at h
  exact h

set_option maxHeartbeats 4000000 in
set_option maxRecDepth 100000 in
theorem sp_ycopy {hp : AH} {q r a cap q2 r2 a2 cap2 Z : Nat} {b0 k0 f0 sz k2 f2 : Int32} {bb : Bool} {f g : Nat → Int32} (h1 : hp[q]? = some (oC 5 [.int b0, .int k0, .int f0, .ref r])) (h2 : hp[r]? = some (oC 3 [.ref a, .int sz])) (h3 : hp[a]? = some (aC cap f)) (g1 : hp[q2]? = some (oC 5 [.int (bI bb), .int k2, .int f2, .ref r2])) (g2 : hp[r2]? = some (oC 3 [.ref a2, .int (nI Z)])) (g3 : hp[a2]? = some (aC cap2 g)) (hc : cap < 2 ^ 31) (hc2 : cap2 < 2 ^ 31) (hZ : Z < 2 ^ 31) (hq : q2 ≠ q) (hr : r2 ≠ r) (ha : a2 ≠ a)  : AS mX5_copy 2 0 0 [.ref q, .ref q2] (hp) (P0 (rowH (hp.set q (oC 5 [.int (bI bb), .int k2, .int f2, .ref r])) r a cap (cyT cap cap2 Z g Z 0 (0, f)))) := by
  refine AS.go (lv := [some (.ref q), some (.ref q2)]) rfl ?_ (by decide +kernel) rfl (Nat.le_of_ble_eq_true rfl)
  refine A_aload0 (pc := 0) dX5_copy_0 ?_
  refine A_aload1 (pc := 1) dX5_copy_1 ?_
  refine A_getf (pc := 2) flX5_9 dX5_copy_2 g1 rfl ?_
  refine A_putf (pc := 5) flX5_9 ft5_0 dX5_copy_5 h1 (Nat.le_of_ble_eq_true rfl) (fun _ => ⟨bI_n _, by cases bb <;> rfl⟩) ?_
  refine AW.heq (hp' := hp.set q (oC 5 [.int (bI bb), .int k0, .int f0, .ref r])) rfl ?_
  refine A_aload0 (pc := 8) dX5_copy_8 ?_
  refine A_aload1 (pc := 9) dX5_copy_9 ?_
  refine A_getf (pc := 10) flX5_15 dX5_copy_10 (by rw [List.getElem?_set_ne (Ne.symm hq)]; exact g1) rfl ?_
  refine A_putf (pc := 13) flX5_15 ft5_1 dX5_copy_13 (List.getElem?_set_self (a_lt h1)) (Nat.le_of_ble_eq_true rfl) (fun _ => ⟨rfl, rfl⟩) ?_
  refine AW.heq (hp' := hp.set q (oC 5 [.int (bI bb), .int k2, .int f0, .ref r])) (List.set_set _) ?_
  refine A_aload0 (pc := 16) dX5_copy_16 ?_
  refine A_aload1 (pc := 17) dX5_copy_17 ?_
  refine A_getf (pc := 18) flX5_19 dX5_copy_18 (by rw [List.getElem?_set_ne (Ne.symm hq)]; exact g1) rfl ?_
  refine A_putf (pc := 21) flX5_19 ft5_2 dX5_copy_21 (List.getElem?_set_self (a_lt h1)) (Nat.le_of_ble_eq_true rfl) (fun _ => ⟨rfl, rfl⟩) ?_
  refine AW.heq (hp' := hp.set q (oC 5 [.int (bI bb), .int k2, .int f2, .ref r])) (List.set_set _) ?_
  refine A_aload0 (pc := 24) dX5_copy_24 ?_
  refine A_getf (pc := 25) flX5_27 dX5_copy_25 (List.getElem?_set_self (a_lt h1)) rfl ?_
  refine A_aload1 (pc := 28) dX5_copy_28 ?_
  refine A_getf (pc := 29) flX5_27 dX5_copy_29 (by rw [List.getElem?_set_ne (Ne.symm hq)]; exact g1) rfl ?_
  refine A_cvv (pc := 32) cvX5_34 (sp_copy (hp := hp.set q (oC 5 [.int (bI bb), .int k2, .int f2, .ref r])) (by rw [List.getElem?_set_ne (at_ne h1 h2 (fun e => by cases e))]; exact h2) (by rw [List.getElem?_set_ne (at_ne h1 h3 (fun e => by cases e))]; exact h3) (by rw [List.getElem?_set_ne (at_ne h1 g2 (fun e => by cases e))]; exact g2) (by rw [List.getElem?_set_ne (at_ne h1 g3 (fun e => by cases e))]; exact g3) hc hc2 hZ hr ha) dX5_copy_32 rfl rfl (by rw [List.getElem?_set_ne (at_ne h1 h2 (fun e => by cases e))]; exact h2) rfl (Nat.le_of_ble_eq_true rfl) (by decide) (by decide) (by decide) ?_
  exact A_vret (pc := 35) dX5_copy_35 rfl (by decide) (by decide) (⟨rfl, rfl⟩)

def kpC (L : Nat) (bb : Bool) (kn fa : Int32) (e s : Int32 × (Nat → Int32)) : AH := [oC 1 [.ref (L + 1), .ref (L + 4)], oC 5 [.int (bI bb), .int kn, .int fa, .ref (L + 2)], oC 3 [.ref (L + 3), .int e.1], aC 30 e.2, oC 3 [.ref (L + 5), .int s.1], aC 60 s.2]
set_option maxHeartbeats 4000000 in
set_option maxRecDepth 100000 in
theorem sp_Kept {hp : AH} {E Z : Nat} {bb : Bool} {kn fa : Int32} {g y : Nat → Int32} (h17 : hp[17]? = some (oC 5 [.int (bI bb), .int kn, .int fa, .ref 18])) (h18 : hp[18]? = some (oC 3 [.ref 19, .int (nI E)])) (h19 : hp[19]? = some (aC 30 g)) (h9 : hp[9]? = some (oC 3 [.ref 10, .int (nI Z)])) (h10 : hp[10]? = some (aC 60 y)) (hE : E < 2 ^ 31) (hZ : Z < 2 ^ 31) (hlen : hp.length < 800) (hl2 : 20 < hp.length)  : AS mX1_init 3 5 98 [.ref (hp.length + 0), .ref 17, .ref 9] (hp ++ [oC 1 [.null, .null]]) (P0 (hp ++ kpC hp.length bb kn fa (cyT 30 30 E g E 0 (0, fun _ => 0)) (cyT 60 60 Z y Z 0 (0, fun _ => 0)))) := by
  refine AS.go (lv := [some (.ref (hp.length + 0)), some (.ref 17), some (.ref 9)]) rfl ?_ (by decide +kernel) rfl (Nat.le_of_ble_eq_true rfl)
  refine A_aload0 (pc := 0) dX1_init_0 ?_
  refine A_objInit (pc := 1) oiX1_3 dX1_init_1 (by decide) (Nat.le_of_ble_eq_true rfl) ?_
  refine A_aload0 (pc := 4) dX1_init_4 ?_
  refine A_new (pc := 5) (ci := 5) [.int 0, .int 0, .int 0, .null] tyX5 rfl cwX5 tyX5_ok klX1_9 ins5 ini5 (fun j hj => by rcases (show j = 0 ∨ j = 1 ∨ j = 2 ∨ j = 3 by omega) with rfl | rfl | rfl | rfl <;> rfl) (fun _ => rfl) dX1_init_5 (by decide) (by decide) (by simp; omega) ?_
  refine AW.heq (hp' := hp ++ [oC 1 [.null, .null], oC 5 [.int 0, .int 0, .int 0, .null]]) (List.append_assoc _ _ _) ?_
  refine AW.stk (st' := [.ref (hp.length + 1), .ref (hp.length + 0)]) (by simp) ?_
  refine A_dup (pc := 8) dX1_init_8 rfl ?_
  refine A_civ (pc := 9) ciX1_11 (sp_WayA hp [oC 1 [.null, .null]] 1 rfl (by omega)) dX1_init_9 rfl rfl (Nat.le_of_ble_eq_true rfl) (by decide) (by decide) (by decide) ?_
  refine AW.heq (hp' := hp ++ [oC 1 [.null, .null], oC 5 [.int 0, .int 0, .int 0, .ref (hp.length + 2)], oC 3 [.ref (hp.length + 3), .int 0], aC 30 (fun _ => 0)]) rfl ?_
  refine A_putF (pc := 12) flX1_12 ft1_0 (fun q hq => by cases hq; rfl) rfl dX1_init_12 (at_ap hp _ 0) (Nat.le_of_ble_eq_true rfl) (fun _ => ⟨rfl, rfl⟩) (fun q hq => by cases hq; exact fwX1_12) ?_
  refine AW.heq (hp' := hp ++ [oC 1 [.ref (hp.length + 1), .null], oC 5 [.int 0, .int 0, .int 0, .ref (hp.length + 2)], oC 3 [.ref (hp.length + 3), .int 0], aC 30 (fun _ => 0)]) (set_ap hp _ 0 _) ?_
  refine A_aload0 (pc := 15) dX1_init_15 ?_
  refine A_new (pc := 16) (ci := 3) [.null, .int 0] tyX3 rfl cwX3 tyX3_ok klX1_18 ins3 ini3 (fun j hj => by rcases (show j = 0 ∨ j = 1 by omega) with rfl | rfl <;> rfl) (fun _ => rfl) dX1_init_16 (by decide) (by decide) (by simp; omega) ?_
  refine AW.heq (hp' := hp ++ [oC 1 [.ref (hp.length + 1), .null], oC 5 [.int 0, .int 0, .int 0, .ref (hp.length + 2)], oC 3 [.ref (hp.length + 3), .int 0], aC 30 (fun _ => 0), oC 3 [.null, .int 0]]) (List.append_assoc _ _ _) ?_
  refine AW.stk (st' := [.ref (hp.length + 4), .ref (hp.length + 0)]) (by simp) ?_
  refine A_dup (pc := 19) dX1_init_19 rfl ?_
  refine A_bipush (pc := 20) (v := 60) dX1_init_20 (by decide) ?_
  refine A_civ (pc := 22) ciX1_20 (sp_RowA hp [oC 1 [.ref (hp.length + 1), .null], oC 5 [.int 0, .int 0, .int 0, .ref (hp.length + 2)], oC 3 [.ref (hp.length + 3), .int 0], aC 30 (fun _ => 0)] 4 60 rfl (by decide) (by omega)) dX1_init_22 rfl rfl (Nat.le_of_ble_eq_true rfl) (by decide) (by decide) (by decide) ?_
  refine AW.heq (hp' := hp ++ [oC 1 [.ref (hp.length + 1), .null], oC 5 [.int 0, .int 0, .int 0, .ref (hp.length + 2)], oC 3 [.ref (hp.length + 3), .int 0], aC 30 (fun _ => 0), oC 3 [.ref (hp.length + 5), .int 0], aC 60 (fun _ => 0)]) rfl ?_
  refine A_putF (pc := 25) flX1_23 ft1_1 (fun q hq => by cases hq; rfl) rfl dX1_init_25 (at_ap hp _ 0) (Nat.le_of_ble_eq_true rfl) (fun _ => ⟨rfl, rfl⟩) (fun q hq => by cases hq; exact fwX1_23) ?_
  refine AW.heq (hp' := hp ++ [oC 1 [.ref (hp.length + 1), .ref (hp.length + 4)], oC 5 [.int 0, .int 0, .int 0, .ref (hp.length + 2)], oC 3 [.ref (hp.length + 3), .int 0], aC 30 (fun _ => 0), oC 3 [.ref (hp.length + 5), .int 0], aC 60 (fun _ => 0)]) (set_ap hp _ 0 _) ?_
  refine A_aload0 (pc := 28) dX1_init_28 ?_
  refine A_getf (pc := 29) flX1_12 dX1_init_29 (at_ap hp _ 0) rfl ?_
  refine A_aload1 (pc := 32) dX1_init_32 ?_
  refine A_cvv (pc := 33) cvX1_27 (sp_ycopy (hp := hp ++ [oC 1 [.ref (hp.length + 1), .ref (hp.length + 4)], oC 5 [.int 0, .int 0, .int 0, .ref (hp.length + 2)], oC 3 [.ref (hp.length + 3), .int 0], aC 30 (fun _ => 0), oC 3 [.ref (hp.length + 5), .int 0], aC 60 (fun _ => 0)]) (q := hp.length + 1) (r := hp.length + 2) (a := hp.length + 3) (q2 := 17) (r2 := 18) (a2 := 19) (cap := 30) (cap2 := 30) (f := fun _ => 0) (at_ap hp _ 1) (at_ap hp _ 2) (at_ap hp _ 3) (at_apl h17) (at_apl h18) (at_apl h19) (by decide) (by decide) hE (by omega) (by omega) (by omega)) dX1_init_33 rfl rfl (at_ap hp _ 1) rfl (Nat.le_of_ble_eq_true rfl) (by decide) (by decide) (by decide) ?_
  refine AW.heq (hp' := hp ++ [oC 1 [.ref (hp.length + 1), .ref (hp.length + 4)], oC 5 [.int (bI bb), .int kn, .int fa, .ref (hp.length + 2)], oC 3 [.ref (hp.length + 3), .int (cyT 30 30 E g E 0 (0, fun _ => 0)).1], aC 30 (cyT 30 30 E g E 0 (0, fun _ => 0)).2, oC 3 [.ref (hp.length + 5), .int 0], aC 60 (fun _ => 0)]) (by rw [set_ap, rowH_ap]; rfl) ?_
  refine A_aload0 (pc := 36) dX1_init_36 ?_
  refine A_getf (pc := 37) flX1_23 dX1_init_37 (at_ap hp _ 0) rfl ?_
  refine A_aload2 (pc := 40) dX1_init_40 ?_
  refine A_cvv (pc := 41) cvX1_31 (sp_copy (hp := hp ++ [oC 1 [.ref (hp.length + 1), .ref (hp.length + 4)], oC 5 [.int (bI bb), .int kn, .int fa, .ref (hp.length + 2)], oC 3 [.ref (hp.length + 3), .int (cyT 30 30 E g E 0 (0, fun _ => 0)).1], aC 30 (cyT 30 30 E g E 0 (0, fun _ => 0)).2, oC 3 [.ref (hp.length + 5), .int 0], aC 60 (fun _ => 0)]) (r := hp.length + 4) (a := hp.length + 5) (q := 9) (b := 10) (cap := 60) (cap2 := 60) (f := fun _ => 0) (at_ap hp _ 4) (at_ap hp _ 5) (at_apl h9) (at_apl h10) (by decide) (by decide) hZ (by omega) (by omega)) dX1_init_41 rfl rfl (at_ap hp _ 4) rfl (Nat.le_of_ble_eq_true rfl) (by decide) (by decide) (by decide) ?_
  exact A_vret (pc := 44) dX1_init_44 rfl (by decide) (by decide) (⟨rfl, by rw [rowH_ap]; rfl⟩)

set_option maxHeartbeats 4000000 in
set_option maxRecDepth 100000 in
theorem sp_keep0 {n : NS} {p : Nat → Int32} {o : OS} {y : RS} {la sc : WS} {wy : YS} {ch : KS} {ko : Nat → Option Nat} {rest : AH} {K : Nat} (hk : o.2.2 = nI K) (hK : K ≤ 8) {bb : Bool} (hb : wy.1 = bI bb) (hno : bb = false ∨ K = 8) : AS mX6_keep 0 0 0 [.ref 0] (CH n p o y la sc wy ch ko ++ rest) (P1 (-1) (CH n p o y la sc wy ch ko ++ rest)) := by
  refine AS.go (lv := [some (.ref 0)]) rfl ?_ (by decide +kernel) rfl (Nat.le_of_ble_eq_true rfl)
  refine A_aload0 (pc := 0) dX6_keep_0 ?_
  refine A_getf (pc := 1) flX6_52 dX6_keep_1 rfl rfl ?_
  refine A_getf (pc := 4) flX6_107 dX6_keep_4 rfl rfl ?_
  refine A_if_eq (pc := 7) (tgt := 26) dX6_keep_7 (by decide) (fun c7 => ?_) (fun c7 => ?_)
  · refine A_iconst (pc := 26) (v := -1) dX6_keep_26 (by decide) ?_
    exact A_iret (pc := 27) dX6_keep_27 rfl rfl (by decide) (by decide) (⟨rfl, rfl⟩)
  · have d7 : bb = true := (bI_ne _).mp (hb ▸ c7)
    refine A_aload0 (pc := 10) dX6_keep_10 ?_
    refine A_getf (pc := 11) flX6_69 dX6_keep_11 rfl rfl ?_
    refine A_if_lt (pc := 14) (tgt := 26) dX6_keep_14 (by decide) (fun c14 => ?_) (fun c14 => ?_)
    · refine A_iconst (pc := 26) (v := -1) dX6_keep_26 (by decide) ?_
      exact A_iret (pc := 27) dX6_keep_27 rfl rfl (by decide) (by decide) (⟨rfl, rfl⟩)
    · skip
      refine A_aload0 (pc := 17) dX6_keep_17 ?_
      refine A_getf (pc := 18) flX6_69 dX6_keep_18 rfl rfl ?_
      refine A_bipush (pc := 21) (v := 8) dX6_keep_21 (by decide) ?_
      refine A_icmp_lt (pc := 23) (tgt := 28) dX6_keep_23 (by decide) (fun c23 => ?_) (fun c23 => ?_)
      · exact absurd (show nI K < nI 8 from hk ▸ c23) (hno.elim (fun q => by rw [d7] at q; cases q) (fun q => by rw [q]; decide))
      · refine A_iconst (pc := 26) (v := -1) dX6_keep_26 (by decide) ?_
        exact A_iret (pc := 27) dX6_keep_27 rfl rfl (by decide) (by decide) (⟨rfl, rfl⟩)

set_option maxHeartbeats 4000000 in
set_option maxRecDepth 100000 in
theorem sp_keep1 {n : NS} {p : Nat → Int32} {o : OS} {y : RS} {la sc : WS} {wy : YS} {ch : KS} {ko : Nat → Option Nat} {rest : AH} {K : Nat} (hk : o.2.2 = nI K) (hK : K < 8) (hb : wy.1 = bI true) (hrl : rest.length < 700) {E : Nat} (he : wy.2.2.2.1 = nI E) (hE : E < 2 ^ 31) {Z : Nat} (hz : y.1 = nI Z) (hZ : Z < 2 ^ 31)  : AS mX6_keep 4 6 100 [.ref 0] (CH n p o y la sc wy ch ko ++ rest) (P1 (nI K) (CH n p ((o.1, o.2.1, nI (K + 1))) y la sc wy ch (va_up ko K (some (rest.length + 25))) ++ (rest ++ kpC (rest.length + 25) true wy.2.1 wy.2.2.1 (cyT 30 30 E wy.2.2.2.2 E 0 (0, fun _ => 0)) (cyT 60 60 Z y.2 Z 0 (0, fun _ => 0))))) := by
  refine AS.go (lv := [some (.ref 0)]) rfl ?_ (by decide +kernel) rfl (Nat.le_of_ble_eq_true rfl)
  refine A_aload0 (pc := 0) dX6_keep_0 ?_
  refine A_getf (pc := 1) flX6_52 dX6_keep_1 rfl rfl ?_
  refine A_getf (pc := 4) flX6_107 dX6_keep_4 rfl rfl ?_
  refine A_if_eq (pc := 7) (tgt := 26) dX6_keep_7 (by decide) (fun c7 => absurd c7 (show ¬ wy.1 = 0 from by rw [hb]; decide)) (fun c7 => ?_)
  refine A_aload0 (pc := 10) dX6_keep_10 ?_
  refine A_getf (pc := 11) flX6_69 dX6_keep_11 rfl rfl ?_
  refine A_if_lt (pc := 14) (tgt := 26) dX6_keep_14 (by decide) (fun c14 => absurd c14 (show ¬ o.2.2 < 0 from by rw [hk]; exact nI_pos (by omega))) (fun c14 => ?_)
  refine A_aload0 (pc := 17) dX6_keep_17 ?_
  refine A_getf (pc := 18) flX6_69 dX6_keep_18 rfl rfl ?_
  refine A_bipush (pc := 21) (v := 8) dX6_keep_21 (by decide) ?_
  refine A_icmp_lt (pc := 23) (tgt := 28) dX6_keep_23 (by decide) (fun c23 => ?_) (fun c23 => absurd (show o.2.2 < nI 8 from by rw [hk]; exact nI_lt hK (by decide)) c23)
  refine A_aload0 (pc := 28) dX6_keep_28 ?_
  refine A_getf (pc := 29) flX6_65 dX6_keep_29 rfl rfl ?_
  refine A_aload0 (pc := 32) dX6_keep_32 ?_
  refine A_getf (pc := 33) flX6_69 dX6_keep_33 rfl rfl ?_
  refine A_new (pc := 36) (ci := 1) [.null, .null] tyX1 rfl cwX1 tyX1_ok klX6_63 ins1 ini1 (fun j hj => by rcases (show j = 0 ∨ j = 1 by omega) with rfl | rfl <;> rfl) (fun _ => rfl) dX6_keep_36 (by decide) (by decide) (by show rest.length + 25 < 1000; omega) ?_
  refine A_dup (pc := 39) dX6_keep_39 rfl ?_
  refine A_aload0 (pc := 40) dX6_keep_40 ?_
  refine A_getf (pc := 41) flX6_52 dX6_keep_41 rfl rfl ?_
  refine A_aload0 (pc := 44) dX6_keep_44 ?_
  refine A_getf (pc := 45) flX6_29 dX6_keep_45 rfl rfl ?_
  refine A_civ (pc := 48) ciX6_221 (sp_Kept (hp := (CH n p o y la sc wy ch ko ++ rest)) (E := E) (Z := Z) (bb := true) (kn := wy.2.1) (fa := wy.2.2.1) (g := wy.2.2.2.2) (y := y.2) (show (CH n p o y la sc wy ch ko ++ rest)[17]? = _ from by rw [← hb]; rfl) (show (CH n p o y la sc wy ch ko ++ rest)[18]? = _ from by rw [← he]; rfl) rfl (show (CH n p o y la sc wy ch ko ++ rest)[9]? = _ from by rw [← hz]; rfl) rfl hE hZ (by show rest.length + 25 < 800; omega) (by show 20 < rest.length + 25; omega)) dX6_keep_48 rfl rfl (Nat.le_of_ble_eq_true rfl) (by decide) (by decide) (by decide) ?_
  refine A_aast (pc := 51) (i := K) dX6_keep_51 rfl (at_ap (CH n p o y la sc wy ch ko ++ rest) _ 0) hk hK (by decide) ?_
  refine AW.heq (hp' := (CH n p o y la sc wy ch (va_up ko K (some (rest.length + 25))) ++ rest) ++ kpC (rest.length + 25) true wy.2.1 wy.2.2.1 (cyT 30 30 E wy.2.2.2.2 E 0 (0, fun _ => 0)) (cyT 60 60 Z y.2 Z 0 (0, fun _ => 0))) rfl ?_
  refine A_aload0 (pc := 52) dX6_keep_52 ?_
  refine A_dup (pc := 53) dX6_keep_53 rfl ?_
  refine A_getf (pc := 54) flX6_69 dX6_keep_54 rfl rfl ?_
  refine A_iconst (pc := 57) (v := 1) dX6_keep_57 (by decide) ?_
  refine A_iadd (pc := 58) dX6_keep_58 ?_
  refine A_putf (pc := 59) flX6_69 ft6_10 dX6_keep_59 rfl (Nat.le_of_ble_eq_true rfl) (fun _ => ⟨rfl, rfl⟩) ?_
  refine AW.heq (hp' := (CH n p ((o.1, o.2.1, o.2.2 + 1)) y la sc wy ch (va_up ko K (some (rest.length + 25))) ++ rest) ++ kpC (rest.length + 25) true wy.2.1 wy.2.2.1 (cyT 30 30 E wy.2.2.2.2 E 0 (0, fun _ => 0)) (cyT 60 60 Z y.2 Z 0 (0, fun _ => 0))) rfl ?_
  refine A_aload0 (pc := 62) dX6_keep_62 ?_
  refine A_getf (pc := 63) flX6_69 dX6_keep_63 rfl rfl ?_
  refine A_iconst (pc := 66) (v := 1) dX6_keep_66 (by decide) ?_
  refine A_isub (pc := 67) dX6_keep_67 ?_
  exact A_iret (pc := 68) dX6_keep_68 rfl rfl (by decide) (by decide) (⟨by show some (Value.int (o.2.2 + 1 - 1)) = _; rw [hk, nI_1]; exact congrArg (fun z => some (Value.int z)) (nI_pred K), by rw [List.append_assoc]; show _ ++ _ = _; rw [hk, nI_1]⟩)

set_option maxHeartbeats 4000000 in
set_option maxRecDepth 100000 in
theorem sp_still0 {n : NS} {p : Nat → Int32} {o : OS} {y : RS} {la sc : WS} {wy : YS} {ch : KS} {ko : Nat → Option Nat} {rest : AH} (x : Int32) (hx : ¬ x < 0 → ¬ nI 8 ≤ x → ko (tN x) = none) : AS mX6_still 0 0 0 [.ref 0, .int x] (CH n p o y la sc wy ch ko ++ rest) (P1 (-1) (CH n p o y la sc wy ch ko ++ rest)) := by
  refine AS.go (lv := [some (.ref 0), some (.int x), none]) rfl ?_ (by decide +kernel) rfl (Nat.le_of_ble_eq_true rfl)
  by_cases e1 : x < 0
  · refine A_iload1 (pc := 0) dX6_still_0 ?_
    refine A_if_lt (pc := 1) (tgt := 19) dX6_still_1 (by decide) (fun c1 => ?_) (fun c1 => absurd e1 c1)
    refine A_null (pc := 19) dX6_still_19 ?_
    refine A_astoreN2 (pc := 20) dX6_still_20 (by decide) ?_
    refine A_aloadN2 (pc := 21) dX6_still_21 ?_
    refine A_ifnonnullN (pc := 22) dX6_still_22 ?_
    refine A_iconst (pc := 25) (v := -1) dX6_still_25 (by decide) ?_
    exact A_iret (pc := 26) dX6_still_26 rfl rfl (by decide) (by decide) (⟨rfl, rfl⟩)
  · by_cases e7 : nI 8 ≤ x
    · refine A_iload1 (pc := 0) dX6_still_0 ?_
      refine A_if_lt (pc := 1) (tgt := 19) dX6_still_1 (by decide) (fun c1 => absurd c1 e1) (fun c1 => ?_)
      refine A_iload1 (pc := 4) dX6_still_4 ?_
      refine A_bipush (pc := 5) (v := 8) dX6_still_5 (by decide) ?_
      refine A_icmp_ge (pc := 7) (tgt := 19) dX6_still_7 (by decide) (fun c7 => ?_) (fun c7 => absurd e7 c7)
      refine A_null (pc := 19) dX6_still_19 ?_
      refine A_astoreN2 (pc := 20) dX6_still_20 (by decide) ?_
      refine A_aloadN2 (pc := 21) dX6_still_21 ?_
      refine A_ifnonnullN (pc := 22) dX6_still_22 ?_
      refine A_iconst (pc := 25) (v := -1) dX6_still_25 (by decide) ?_
      exact A_iret (pc := 26) dX6_still_26 rfl rfl (by decide) (by decide) (⟨rfl, rfl⟩)
    · obtain ⟨j, hj, rfl⟩ := nI_get (by decide) e1 e7
      have hn := hx e1 e7
      rw [show tN (nI j) = j from nI_clamp (by omega)] at hn
      refine A_iload1 (pc := 0) dX6_still_0 ?_
      refine A_if_lt (pc := 1) (tgt := 19) dX6_still_1 (by decide) (fun c1 => absurd c1 e1) (fun c1 => ?_)
      refine A_iload1 (pc := 4) dX6_still_4 ?_
      refine A_bipush (pc := 5) (v := 8) dX6_still_5 (by decide) ?_
      refine A_icmp_ge (pc := 7) (tgt := 19) dX6_still_7 (by decide) (fun c7 => absurd c7 e7) (fun c7 => ?_)
      refine A_aload0 (pc := 10) dX6_still_10 ?_
      refine A_getf (pc := 11) flX6_65 dX6_still_11 rfl rfl ?_
      refine A_iload1 (pc := 14) dX6_still_14 ?_
      refine A_aald (pc := 15) (i := j) dX6_still_15 rfl rfl hj (by decide) ?_
      rw [hn]
      refine A_goto (pc := 16) (tgt := 20) dX6_still_16 (by decide) ?_
      refine A_astoreN2 (pc := 20) dX6_still_20 (by decide) ?_
      refine A_aloadN2 (pc := 21) dX6_still_21 ?_
      refine A_ifnonnullN (pc := 22) dX6_still_22 ?_
      refine A_iconst (pc := 25) (v := -1) dX6_still_25 (by decide) ?_
      exact A_iret (pc := 26) dX6_still_26 rfl rfl (by decide) (by decide) (⟨rfl, rfl⟩)

set_option maxHeartbeats 4000000 in
set_option maxRecDepth 100000 in
theorem sp_still1 {n : NS} {p : Nat → Int32} {o : OS} {y : RS} {la : WS} {wy : YS} {ch : KS} {ko : Nat → Option Nat} {rest : AH} (sc : WS) {q er ea ecap EZ r a cap Z : Nat} {bg kn fa ez sz : Int32} {eg g : Nat → Int32} (hq : ∀ sc : WS, (CH n p o y la sc wy ch ko ++ rest)[q]? = some (oC 5 [.int bg, .int kn, .int fa, .ref er])) (her : ∀ sc : WS, (CH n p o y la sc wy ch ko ++ rest)[er]? = some (oC 3 [.ref ea, .int ez])) (hea : ∀ sc : WS, (CH n p o y la sc wy ch ko ++ rest)[ea]? = some (aC ecap eg)) (hec : ecap < 2 ^ 31) (hez : ez = nI EZ) (hEZ : EZ < 2 ^ 31) (hr : ∀ sc : WS, (CH n p o y la sc wy ch ko ++ rest)[r]? = some (oC 3 [.ref a, .int sz])) (ha : ∀ sc : WS, (CH n p o y la sc wy ch ko ++ rest)[a]? = some (aC cap g)) (hcap : cap < 2 ^ 31) (hz : sz = nI Z) (hZ : Z < 2 ^ 31) {b j : Nat} (hj : j < 8) (hko : ko j = some b) (hkb : (CH n p o y la sc wy ch ko ++ rest)[b]? = some (oC 1 [.ref q, .ref r])) : AS mX6_still 7 0 0 [.ref 0, .int (nI j)] (CH n p o y la sc wy ch ko ++ rest) (P1 (bI (iwI (iwQ n sc kn fa cap sz g Z) ecap ez eg EZ)) (CH n p o y la ((iwQ n sc kn fa cap sz g Z).2) wy ch ko ++ rest)) := by
  refine AS.go (lv := [some (.ref 0), some (.int (nI j)), none]) rfl ?_ (by decide +kernel) rfl (Nat.le_of_ble_eq_true rfl)
  refine A_iload1 (pc := 0) dX6_still_0 ?_
  refine A_if_lt (pc := 1) (tgt := 19) dX6_still_1 (by decide) (fun c1 => absurd c1 (nI_pos (by omega))) (fun c1 => ?_)
  refine A_iload1 (pc := 4) dX6_still_4 ?_
  refine A_bipush (pc := 5) (v := 8) dX6_still_5 (by decide) ?_
  refine A_icmp_ge (pc := 7) (tgt := 19) dX6_still_7 (by decide) (fun c7 => absurd c7 (show ¬ nI 8 ≤ nI j from nI_ge hj (by decide))) (fun c7 => ?_)
  refine A_aload0 (pc := 10) dX6_still_10 ?_
  refine A_getf (pc := 11) flX6_65 dX6_still_11 rfl rfl ?_
  refine A_iload1 (pc := 14) dX6_still_14 ?_
  refine A_aald (pc := 15) (i := j) dX6_still_15 rfl rfl hj (by decide) ?_
  rw [hko]
  change AW mX6_still 7 0 0 0 0 16 _ [.ref b] _ _
  refine A_goto (pc := 16) (tgt := 20) dX6_still_16 (by decide) ?_
  refine A_astore2 (pc := 20) dX6_still_20 (by decide) ?_
  refine A_aload2 (pc := 21) dX6_still_21 ?_
  refine A_ifnonnull (pc := 22) (tgt := 27) dX6_still_22 (by decide) ?_
  refine A_aload0 (pc := 27) dX6_still_27 ?_
  refine A_aload2 (pc := 28) dX6_still_28 ?_
  refine A_getf (pc := 29) flX6_224 dX6_still_29 hkb rfl ?_
  refine A_aload2 (pc := 32) dX6_still_32 ?_
  refine A_getf (pc := 33) flX6_225 dX6_still_33 hkb rfl ?_
  refine A_cvi (pc := 36) cvX6_210 (sp_isWalkedBy sc hq her hea hec hez hEZ hr ha hcap hz hZ) dX6_still_36 rfl rfl rfl rfl (Nat.le_of_ble_eq_true rfl) (by decide) (by decide) (by decide) ?_
  refine A_if_eq (pc := 39) (tgt := 46) dX6_still_39 (by decide) (fun c39 => ?_) (fun c39 => ?_)
  · replace c39 := (bI_eq _).mp c39
    refine A_iconst (pc := 46) (v := 0) dX6_still_46 (by decide) ?_
    exact A_iret (pc := 47) dX6_still_47 rfl rfl (by decide) (by decide) (⟨by rw [c39]; rfl, rfl⟩)
  · replace c39 := (bI_ne _).mp c39
    refine A_iconst (pc := 42) (v := 1) dX6_still_42 (by decide) ?_
    refine A_goto (pc := 43) (tgt := 47) dX6_still_43 (by decide) ?_
    exact A_iret (pc := 47) dX6_still_47 rfl rfl (by decide) (by decide) (⟨by rw [c39]; rfl, rfl⟩)
