/-! Row.copy -/
def rowH (hp : AH) (r a cap : Nat) (w : Int32 × (Nat → Int32)) : AH := (hp.set a (aC cap w.2)).set r (oC 3 [.ref a, .int w.1])
def cyT (cap cap2 Z : Nat) (g : Nat → Int32) : Nat → Nat → Int32 × (Nat → Int32) → Int32 × (Nat → Int32)
  | 0, _, w => w
  | m + 1, i, w => cyT cap cap2 Z g m (i + 1) (adZ cap w.1, adF cap w.1 w.2 (atI cap2 (nI Z) g (nI i)))
theorem rowH_r {hp : AH} {r a cap : Nat} {w : Int32 × (Nat → Int32)} (hr : r < hp.length) : (rowH hp r a cap w)[r]? = some (oC 3 [.ref a, .int w.1]) := by
  unfold rowH
  rw [List.getElem?_set_self (by rw [List.length_set]; exact hr)]
theorem rowH_a {hp : AH} {r a cap : Nat} {w : Int32 × (Nat → Int32)} (ha : a < hp.length) (hne : a ≠ r) : (rowH hp r a cap w)[a]? = some (aC cap w.2) := by
  unfold rowH
  rw [List.getElem?_set_ne (Ne.symm hne), List.getElem?_set_self ha]
theorem rowH_o {hp : AH} {r a cap x : Nat} {w : Int32 × (Nat → Int32)} (h1 : x ≠ r) (h2 : x ≠ a) : (rowH hp r a cap w)[x]? = hp[x]? := by
  unfold rowH
  rw [List.getElem?_set_ne (Ne.symm h1), List.getElem?_set_ne (Ne.symm h2)]
theorem rowH_set {hp : AH} {r a cap : Nat} {w w2 : Int32 × (Nat → Int32)} (hne : a ≠ r) : ((rowH hp r a cap w).set a (aC cap w2.2)).set r (oC 3 [.ref a, .int w2.1]) = rowH hp r a cap w2 := by
  unfold rowH
  rw [List.set_comm _ _ (Ne.symm hne), List.set_set, List.set_set]
theorem rowH_0 {hp : AH} {r a cap : Nat} {sz : Int32} {f : Nat → Int32} (h2 : hp[a]? = some (aC cap f)) : hp.set r (oC 3 [.ref a, .int 0]) = rowH hp r a cap (0, f) := by
  unfold rowH
  rw [set_same h2]

set_option maxHeartbeats 4000000 in
set_option maxRecDepth 100000 in
theorem lp_copy {hp : AH} {r a cap q b cap2 Z : Nat} {sz : Int32} {f g : Nat → Int32} (h1 : hp[r]? = some (oC 3 [.ref a, .int sz])) (h2 : hp[a]? = some (aC cap f)) (h3 : hp[q]? = some (oC 3 [.ref b, .int (nI Z)])) (h4 : hp[b]? = some (aC cap2 g)) (hc : cap < 2 ^ 31) (hc2 : cap2 < 2 ^ 31) (hZ : Z < 2 ^ 31) (hqr : q ≠ r) (hba : b ≠ a)  (m : Nat) : ∀ (i : Nat) (w : Int32 × (Nat → Int32)) (_ : i + m = Z), AW mX3_copy 1 0 0 0 0 6 [some (.ref r), some (.ref q), some (.int (nI i))] [] (rowH hp r a cap w) (P0 (rowH hp r a cap (cyT cap cap2 Z g m i w))) := by
  induction m with
  | zero =>
    intro i w hi
    have har : a ≠ r := at_ne h2 h1 (fun e => by cases e)
    have hqa : q ≠ a := at_ne h3 h2 (fun e => by cases e)
    have hbr : b ≠ r := at_ne h4 h1 (fun e => by cases e)
    have k1 : (rowH hp r a cap w)[r]? = some (oC 3 [.ref a, .int w.1]) := rowH_r (a_lt h1)
    have k2 : (rowH hp r a cap w)[a]? = some (aC cap w.2) := rowH_a (a_lt h2) har
    have k3 : (rowH hp r a cap w)[q]? = some (oC 3 [.ref b, .int (nI Z)]) := (rowH_o hqr hqa).trans h3
    have k4 : (rowH hp r a cap w)[b]? = some (aC cap2 g) := (rowH_o hbr hba).trans h4
    refine A_iload2 (pc := 6) dX3_copy_6 ?_
    refine A_aload1 (pc := 7) dX3_copy_7 ?_
    refine A_getf (pc := 8) flX3_9 dX3_copy_8 k3 rfl ?_
    refine A_icmp_ge (pc := 11) (tgt := 30) dX3_copy_11 (by decide) (fun c11 => ?_) (fun c11 => absurd (show nI Z ≤ nI i from nI_le (by omega) (by omega)) c11)
    exact A_vret (pc := 30) dX3_copy_30 rfl (by decide) (by decide) (⟨rfl, rfl⟩)
  | succ m ih =>
    intro i w hi
    have har : a ≠ r := at_ne h2 h1 (fun e => by cases e)
    have hqa : q ≠ a := at_ne h3 h2 (fun e => by cases e)
    have hbr : b ≠ r := at_ne h4 h1 (fun e => by cases e)
    have k1 : (rowH hp r a cap w)[r]? = some (oC 3 [.ref a, .int w.1]) := rowH_r (a_lt h1)
    have k2 : (rowH hp r a cap w)[a]? = some (aC cap w.2) := rowH_a (a_lt h2) har
    have k3 : (rowH hp r a cap w)[q]? = some (oC 3 [.ref b, .int (nI Z)]) := (rowH_o hqr hqa).trans h3
    have k4 : (rowH hp r a cap w)[b]? = some (aC cap2 g) := (rowH_o hbr hba).trans h4
    refine A_iload2 (pc := 6) dX3_copy_6 ?_
    refine A_aload1 (pc := 7) dX3_copy_7 ?_
    refine A_getf (pc := 8) flX3_9 dX3_copy_8 k3 rfl ?_
    refine A_icmp_ge (pc := 11) (tgt := 30) dX3_copy_11 (by decide) (fun c11 => absurd c11 (show ¬ nI Z ≤ nI i from nI_ge (by omega) hZ)) (fun c11 => ?_)
    refine A_aload0 (pc := 14) dX3_copy_14 ?_
    refine A_aload1 (pc := 15) dX3_copy_15 ?_
    refine A_iload2 (pc := 16) dX3_copy_16 ?_
    refine A_cvi (pc := 17) cvX3_28 (sp_at k3 k4 hc2 _) dX3_copy_17 rfl rfl k3 rfl (Nat.le_of_ble_eq_true rfl) (by decide) (by decide) (by decide) ?_
    refine A_cvi (pc := 20) cvX3_32 (sp_add k1 k2 hc _) dX3_copy_20 rfl rfl k1 rfl (Nat.le_of_ble_eq_true rfl) (by decide) (by decide) (by decide) ?_
    refine AW.heq (hp' := rowH hp r a cap (adZ cap w.1, adF cap w.1 w.2 (atI cap2 (nI Z) g (nI i)))) (rowH_set (w2 := (adZ cap w.1, adF cap w.1 w.2 (atI cap2 (nI Z) g (nI i)))) har) ?_
    refine A_pop (pc := 23) dX3_copy_23 rfl ?_
    refine A_iinc2 (pc := 24) dX3_copy_24 (by decide) (nI_1 i) ?_
    refine A_goto (pc := 27) (tgt := 6) dX3_copy_27 (by decide) ?_
    simp only [cyT]
    exact ih (i + 1) _ (by omega)

set_option maxHeartbeats 4000000 in
set_option maxRecDepth 100000 in
theorem sp_copy {hp : AH} {r a cap q b cap2 Z : Nat} {sz : Int32} {f g : Nat → Int32} (h1 : hp[r]? = some (oC 3 [.ref a, .int sz])) (h2 : hp[a]? = some (aC cap f)) (h3 : hp[q]? = some (oC 3 [.ref b, .int (nI Z)])) (h4 : hp[b]? = some (aC cap2 g)) (hc : cap < 2 ^ 31) (hc2 : cap2 < 2 ^ 31) (hZ : Z < 2 ^ 31) (hqr : q ≠ r) (hba : b ≠ a)  : AS mX3_copy 1 0 0 [.ref r, .ref q] (hp) (P0 (rowH hp r a cap (cyT cap cap2 Z g Z 0 (0, f)))) := by
  refine AS.go (lv := [some (.ref r), some (.ref q), none]) rfl ?_ (by decide +kernel) rfl (Nat.le_of_ble_eq_true rfl)
  refine A_aload0 (pc := 0) dX3_copy_0 ?_
  refine A_cvv (pc := 1) cvX3_25 (sp_clear h1) dX3_copy_1 rfl rfl h1 rfl (Nat.le_of_ble_eq_true rfl) (by decide) (by decide) (by decide) ?_
  refine AW.heq (hp' := rowH hp r a cap (0, f)) (rowH_0 (sz := sz) h2) ?_
  refine A_iconst (pc := 4) (v := 0) dX3_copy_4 (by decide) ?_
  refine A_istore2 (pc := 5) dX3_copy_5 (by decide) ?_
  exact lp_copy h1 h2 h3 h4 hc hc2 hZ hqr hba Z 0 (0, f) (by omega)
