/-! Row.add, Row.clear; the net -/
theorem set_same {hp : AH} {i : Nat} {c : AC} (h : hp[i]? = some c) : hp.set i c = hp := by
  apply List.ext_getElem?
  intro j
  by_cases hj : j = i
  · subst hj
    rw [List.getElem?_set_self (a_lt h), h]
  · rw [List.getElem?_set_ne (Ne.symm hj)]
theorem at_ne {hp : AH} {i j : Nat} {c c' : AC} (h : hp[i]? = some c) (h' : hp[j]? = some c') (hc : c = c' → False) : i ≠ j := fun e => by
  subst e
  exact hc (Option.some.inj (h.symm.trans h'))
def adOk (cap : Nat) (sz : Int32) : Bool := if sz < 0 then false else if sz < nI cap then true else false
def adF (cap : Nat) (sz : Int32) (f : Nat → Int32) (x : Int32) : Nat → Int32 := if adOk cap sz = true then upd f sz.toNatClampNeg x else f
def adZ (cap : Nat) (sz : Int32) : Int32 := if adOk cap sz = true then sz + 1 else sz
theorem vp_lt2 {x : Int32} {N : Nat} (hN : N < 2 ^ 31) (h0 : ¬ x < 0) (h1 : x < nI N) : vp_in x N := vp_lt hN h0 (nI_ngt h1)

set_option maxHeartbeats 4000000 in
set_option maxRecDepth 100000 in
theorem sp_add {hp : AH} {r a cap : Nat} {sz : Int32} {f : Nat → Int32} (h1 : hp[r]? = some (oC 3 [.ref a, .int sz])) (h2 : hp[a]? = some (aC cap f)) (hcap : cap < 2 ^ 31) (x : Int32) : AS mX3_add 0 0 0 [.ref r, .int x] (hp) (P1 (bI (adOk cap sz)) ((hp.set a (aC cap (adF cap sz f x))).set r (oC 3 [.ref a, .int (adZ cap sz)]))) := by
  refine AS.go (lv := [some (.ref r), some (.int x)]) rfl ?_ (by decide +kernel) rfl (Nat.le_of_ble_eq_true rfl)
  refine A_aload0 (pc := 0) dX3_add_0 ?_
  refine A_getf (pc := 1) flX3_9 dX3_add_1 h1 rfl ?_
  refine A_if_lt (pc := 4) (tgt := 19) dX3_add_4 (by decide) (fun c4 => ?_) (fun c4 => ?_)
  · refine A_iconst (pc := 19) (v := 0) dX3_add_19 (by decide) ?_
    exact A_iret (pc := 20) dX3_add_20 rfl rfl (by decide) (by decide) (⟨by simp [adOk, *, bI], by simp [adF, adZ, adOk, *]; rw [set_same h2, set_same h1]⟩)
  · refine A_aload0 (pc := 7) dX3_add_7 ?_
    refine A_getf (pc := 8) flX3_9 dX3_add_8 h1 rfl ?_
    refine A_aload0 (pc := 11) dX3_add_11 ?_
    refine A_getf (pc := 12) flX3_21 dX3_add_12 h1 rfl ?_
    refine A_alen (pc := 15) (v := nI _) dX3_add_15 h2 rfl ?_
    refine A_icmp_lt (pc := 16) (tgt := 21) dX3_add_16 (by decide) (fun c16 => ?_) (fun c16 => ?_)
    · refine A_aload0 (pc := 21) dX3_add_21 ?_
      refine A_getf (pc := 22) flX3_21 dX3_add_22 h1 rfl ?_
      refine A_aload0 (pc := 25) dX3_add_25 ?_
      refine A_getf (pc := 26) flX3_9 dX3_add_26 h1 rfl ?_
      refine A_iload1 (pc := 29) dX3_add_29 ?_
      refine A_iast (pc := 30) dX3_add_30 h2 (vp_lt2 hcap c4 c16) ?_
      have hra : a ≠ r := at_ne h2 h1 (fun e => by cases e)
      have h3 : (hp.set a (aC cap (upd f sz.toNatClampNeg x)))[r]? = some (oC 3 [.ref a, .int sz]) := by rw [List.getElem?_set_ne hra]; exact h1
      refine A_aload0 (pc := 31) dX3_add_31 ?_
      refine A_dup (pc := 32) dX3_add_32 rfl ?_
      refine A_getf (pc := 33) flX3_9 dX3_add_33 h3 rfl ?_
      refine A_iconst (pc := 36) (v := 1) dX3_add_36 (by decide) ?_
      refine A_iadd (pc := 37) dX3_add_37 ?_
      refine A_putf (pc := 38) flX3_9 ft3_1 dX3_add_38 h3 (Nat.le_of_ble_eq_true rfl) (fun _ => ⟨rfl, rfl⟩) ?_
      refine A_iconst (pc := 41) (v := 1) dX3_add_41 (by decide) ?_
      exact A_iret (pc := 42) dX3_add_42 rfl rfl (by decide) (by decide) (⟨by simp [adOk, *, bI], by simp [adF, adZ, adOk, *]⟩)
    · refine A_iconst (pc := 19) (v := 0) dX3_add_19 (by decide) ?_
      exact A_iret (pc := 20) dX3_add_20 rfl rfl (by decide) (by decide) (⟨by simp [adOk, *, bI], by simp [adF, adZ, adOk, *]; rw [set_same h2, set_same h1]⟩)

set_option maxHeartbeats 4000000 in
set_option maxRecDepth 100000 in
theorem sp_clear {hp : AH} {r a : Nat} {sz : Int32} (h1 : hp[r]? = some (oC 3 [.ref a, .int sz])) : AS mX3_clear 0 0 0 [.ref r] (hp) (P0 (hp.set r (oC 3 [.ref a, .int 0]))) := by
  refine AS.go (lv := [some (.ref r)]) rfl ?_ (by decide +kernel) rfl (Nat.le_of_ble_eq_true rfl)
  refine A_aload0 (pc := 0) dX3_clear_0 ?_
  refine A_iconst (pc := 1) (v := 0) dX3_clear_1 (by decide) ?_
  refine A_putf (pc := 2) flX3_9 ft3_1 dX3_clear_2 h1 (Nat.le_of_ble_eq_true rfl) (fun _ => ⟨rfl, rfl⟩) ?_
  exact A_vret (pc := 5) dX3_clear_5 rfl (by decide) (by decide) (⟨rfl, rfl⟩)

set_option maxHeartbeats 4000000 in
set_option maxRecDepth 100000 in
theorem sp_hasKnot {hp : AH} {kn sk : Int32} (h1 : hp[1]? = some (oC 2 [.int kn, .int sk, .ref 2, .ref 3, .ref 4, .ref 5, .ref 6])) (k : Int32) : AS mX2_hasKnot 0 0 0 [.ref 1, .int k] (hp) (P1 (bI (hasI kn k)) hp) := by
  refine AS.go (lv := [some (.ref 1), some (.int k)]) rfl ?_ (by decide +kernel) rfl (Nat.le_of_ble_eq_true rfl)
  refine A_iload1 (pc := 0) dX2_hasKnot_0 ?_
  refine A_if_lt (pc := 1) (tgt := 22) dX2_hasKnot_1 (by decide) (fun c1 => ?_) (fun c1 => ?_)
  · refine A_iconst (pc := 22) (v := 0) dX2_hasKnot_22 (by decide) ?_
    exact A_iret (pc := 23) dX2_hasKnot_23 rfl rfl (by decide) (by decide) (⟨by simp [hasI, bI, *], rfl⟩)
  · refine A_iload1 (pc := 4) dX2_hasKnot_4 ?_
    refine A_aload0 (pc := 5) dX2_hasKnot_5 ?_
    refine A_getf (pc := 6) flX2_9 dX2_hasKnot_6 h1 rfl ?_
    refine A_icmp_ge (pc := 9) (tgt := 22) dX2_hasKnot_9 (by decide) (fun c9 => ?_) (fun c9 => ?_)
    · refine A_iconst (pc := 22) (v := 0) dX2_hasKnot_22 (by decide) ?_
      exact A_iret (pc := 23) dX2_hasKnot_23 rfl rfl (by decide) (by decide) (⟨by simp [hasI, bI, *], rfl⟩)
    · refine A_iload1 (pc := 12) dX2_hasKnot_12 ?_
      refine A_bipush (pc := 13) (v := 24) dX2_hasKnot_13 (by decide) ?_
      refine A_icmp_ge (pc := 15) (tgt := 22) dX2_hasKnot_15 (by decide) (fun c15 => ?_) (fun c15 => ?_)
      · refine A_iconst (pc := 22) (v := 0) dX2_hasKnot_22 (by decide) ?_
        exact A_iret (pc := 23) dX2_hasKnot_23 rfl rfl (by decide) (by decide) (⟨by simp [hasI, bI, *], rfl⟩)
      · refine A_iconst (pc := 18) (v := 1) dX2_hasKnot_18 (by decide) ?_
        refine A_goto (pc := 19) (tgt := 23) dX2_hasKnot_19 (by decide) ?_
        exact A_iret (pc := 23) dX2_hasKnot_23 rfl rfl (by decide) (by decide) (⟨by simp [hasI, bI, *], rfl⟩)

def siI (kn : Int32) (sg : Nat → Int32) (k : Int32) : Int32 := if hasI kn k = true then sg k.toNatClampNeg else -1
set_option maxHeartbeats 4000000 in
set_option maxRecDepth 100000 in
theorem sp_sightOf {hp : AH} {kn sk : Int32} (h1 : hp[1]? = some (oC 2 [.int kn, .int sk, .ref 2, .ref 3, .ref 4, .ref 5, .ref 6])) {sg : Nat → Int32} (h2 : hp[2]? = some (aC 24 sg)) (k : Int32) : AS mX2_sightOf 1 0 0 [.ref 1, .int k] (hp) (P1 (siI kn sg k) hp) := by
  refine AS.go (lv := [some (.ref 1), some (.int k)]) rfl ?_ (by decide +kernel) rfl (Nat.le_of_ble_eq_true rfl)
  refine A_aload0 (pc := 0) dX2_sightOf_0 ?_
  refine A_iload1 (pc := 1) dX2_sightOf_1 ?_
  refine A_cvi (pc := 2) cvX2_40 (sp_hasKnot h1 k) dX2_sightOf_2 rfl rfl h1 rfl (Nat.le_of_ble_eq_true rfl) (by decide) (by decide) (by decide) ?_
  refine A_if_eq (pc := 5) (tgt := 17) dX2_sightOf_5 (by decide) (fun c5 => ?_) (fun c5 => ?_)
  · replace c5 := (bI_eq _).mp c5
    refine A_iconst (pc := 17) (v := -1) dX2_sightOf_17 (by decide) ?_
    exact A_iret (pc := 18) dX2_sightOf_18 rfl rfl (by decide) (by decide) (⟨by simp [siI, *], rfl⟩)
  · replace c5 := (bI_ne _).mp c5
    refine A_aload0 (pc := 8) dX2_sightOf_8 ?_
    refine A_getf (pc := 9) flX2_18 dX2_sightOf_9 h1 rfl ?_
    refine A_iload1 (pc := 12) dX2_sightOf_12 ?_
    refine A_iald (pc := 13) dX2_sightOf_13 h2 (vp_lt (by decide) (hasI_t c5).1 (hasI_t c5).2.2) ?_
    refine A_goto (pc := 14) (tgt := 18) dX2_sightOf_14 (by decide) ?_
    exact A_iret (pc := 18) dX2_sightOf_18 rfl rfl (by decide) (by decide) (⟨by simp [siI, *], rfl⟩)

set_option maxHeartbeats 4000000 in
set_option maxRecDepth 100000 in
theorem sp_distanceFrom {hp : AH} {kn sk : Int32} (h1 : hp[1]? = some (oC 2 [.int kn, .int sk, .ref 2, .ref 3, .ref 4, .ref 5, .ref 6])) {sg : Nat → Int32} (h2 : hp[5]? = some (aC 24 sg)) (k : Int32) : AS mX2_distanceFrom 1 0 0 [.ref 1, .int k] (hp) (P1 (siI kn sg k) hp) := by
  refine AS.go (lv := [some (.ref 1), some (.int k)]) rfl ?_ (by decide +kernel) rfl (Nat.le_of_ble_eq_true rfl)
  refine A_aload0 (pc := 0) dX2_distanceFrom_0 ?_
  refine A_iload1 (pc := 1) dX2_distanceFrom_1 ?_
  refine A_cvi (pc := 2) cvX2_40 (sp_hasKnot h1 k) dX2_distanceFrom_2 rfl rfl h1 rfl (Nat.le_of_ble_eq_true rfl) (by decide) (by decide) (by decide) ?_
  refine A_if_eq (pc := 5) (tgt := 17) dX2_distanceFrom_5 (by decide) (fun c5 => ?_) (fun c5 => ?_)
  · replace c5 := (bI_eq _).mp c5
    refine A_iconst (pc := 17) (v := -1) dX2_distanceFrom_17 (by decide) ?_
    exact A_iret (pc := 18) dX2_distanceFrom_18 rfl rfl (by decide) (by decide) (⟨by simp [siI, *], rfl⟩)
  · replace c5 := (bI_ne _).mp c5
    refine A_aload0 (pc := 8) dX2_distanceFrom_8 ?_
    refine A_getf (pc := 9) flX2_28 dX2_distanceFrom_9 h1 rfl ?_
    refine A_iload1 (pc := 12) dX2_distanceFrom_12 ?_
    refine A_iald (pc := 13) dX2_distanceFrom_13 h2 (vp_lt (by decide) (hasI_t c5).1 (hasI_t c5).2.2) ?_
    refine A_goto (pc := 14) (tgt := 18) dX2_distanceFrom_14 (by decide) ?_
    exact A_iret (pc := 18) dX2_distanceFrom_18 rfl rfl (by decide) (by decide) (⟨by simp [siI, *], rfl⟩)

set_option maxHeartbeats 4000000 in
set_option maxRecDepth 100000 in
theorem sp_across {hp : AH} {kn sk : Int32} (h1 : hp[1]? = some (oC 2 [.int kn, .int sk, .ref 2, .ref 3, .ref 4, .ref 5, .ref 6])) {ac : Nat → Int32} (h2 : hp[3]? = some (aC 96 ac)) (k e : Int32) : AS mX2_across 0 0 0 [.ref 1, .int k, .int e] (hp) (P1 (acI ac k e) hp) := by
  refine AS.go (lv := [some (.ref 1), some (.int k), some (.int e)]) rfl ?_ (by decide +kernel) rfl (Nat.le_of_ble_eq_true rfl)
  refine A_iload1 (pc := 0) dX2_across_0 ?_
  refine A_if_lt (pc := 1) (tgt := 19) dX2_across_1 (by decide) (fun c1 => ?_) (fun c1 => ?_)
  · refine A_iconst (pc := 19) (v := -1) dX2_across_19 (by decide) ?_
    exact A_iret (pc := 20) dX2_across_20 rfl rfl (by decide) (by decide) (⟨by simp [acI, *], rfl⟩)
  · refine A_iload1 (pc := 4) dX2_across_4 ?_
    refine A_bipush (pc := 5) (v := 24) dX2_across_5 (by decide) ?_
    refine A_icmp_ge (pc := 7) (tgt := 19) dX2_across_7 (by decide) (fun c7 => ?_) (fun c7 => ?_)
    · refine A_iconst (pc := 19) (v := -1) dX2_across_19 (by decide) ?_
      exact A_iret (pc := 20) dX2_across_20 rfl rfl (by decide) (by decide) (⟨by simp [acI, *], rfl⟩)
    · refine A_iload2 (pc := 10) dX2_across_10 ?_
      refine A_if_lt (pc := 11) (tgt := 19) dX2_across_11 (by decide) (fun c11 => ?_) (fun c11 => ?_)
      · refine A_iconst (pc := 19) (v := -1) dX2_across_19 (by decide) ?_
        exact A_iret (pc := 20) dX2_across_20 rfl rfl (by decide) (by decide) (⟨by simp [acI, *], rfl⟩)
      · refine A_iload2 (pc := 14) dX2_across_14 ?_
        refine A_iconst (pc := 15) (v := 4) dX2_across_15 (by decide) ?_
        refine A_icmp_lt (pc := 16) (tgt := 21) dX2_across_16 (by decide) (fun c16 => ?_) (fun c16 => ?_)
        · refine A_aload0 (pc := 21) dX2_across_21 ?_
          refine A_getf (pc := 22) flX2_22 dX2_across_22 h1 rfl ?_
          refine A_iload1 (pc := 25) dX2_across_25 ?_
          refine A_iconst (pc := 26) (v := 4) dX2_across_26 (by decide) ?_
          refine A_imul (pc := 27) dX2_across_27 ?_
          refine A_iload2 (pc := 28) dX2_across_28 ?_
          refine A_iadd (pc := 29) dX2_across_29 ?_
          refine A_iald (pc := 30) dX2_across_30 h2 (vp_place c1 c7 c11 (nI_ngt c16)) ?_
          exact A_iret (pc := 31) dX2_across_31 rfl rfl (by decide) (by decide) (⟨by simp [acI, *], rfl⟩)
        · refine A_iconst (pc := 19) (v := -1) dX2_across_19 (by decide) ?_
          exact A_iret (pc := 20) dX2_across_20 rfl rfl (by decide) (by decide) (⟨by simp [acI, *], rfl⟩)

def nmI (kn : Int32) (nm : Nat → Int32) (k e : Int32) : Int32 := if hasI kn k = true then if exI e = true then nm (k * 4 + e).toNatClampNeg else -1 else -1
set_option maxHeartbeats 4000000 in
set_option maxRecDepth 100000 in
theorem sp_nameAt {hp : AH} {kn sk : Int32} (h1 : hp[1]? = some (oC 2 [.int kn, .int sk, .ref 2, .ref 3, .ref 4, .ref 5, .ref 6])) {nm : Nat → Int32} (h2 : hp[4]? = some (aC 96 nm)) (k e : Int32) : AS mX2_nameAt 1 0 0 [.ref 1, .int k, .int e] (hp) (P1 (nmI kn nm k e) hp) := by
  refine AS.go (lv := [some (.ref 1), some (.int k), some (.int e)]) rfl ?_ (by decide +kernel) rfl (Nat.le_of_ble_eq_true rfl)
  refine A_aload0 (pc := 0) dX2_nameAt_0 ?_
  refine A_iload1 (pc := 1) dX2_nameAt_1 ?_
  refine A_cvi (pc := 2) cvX2_40 (sp_hasKnot h1 k) dX2_nameAt_2 rfl rfl h1 rfl (Nat.le_of_ble_eq_true rfl) (by decide) (by decide) (by decide) ?_
  refine A_if_eq (pc := 5) (tgt := 28) dX2_nameAt_5 (by decide) (fun c5 => ?_) (fun c5 => ?_)
  · replace c5 := (bI_eq _).mp c5
    refine A_iconst (pc := 28) (v := -1) dX2_nameAt_28 (by decide) ?_
    exact A_iret (pc := 29) dX2_nameAt_29 rfl rfl (by decide) (by decide) (⟨by simp [nmI, *], rfl⟩)
  · replace c5 := (bI_ne _).mp c5
    refine A_iload2 (pc := 8) dX2_nameAt_8 ?_
    refine A_csi (pc := 9) csX2_44 (sp_isExit e) dX2_nameAt_9 rfl rfl (Nat.le_of_ble_eq_true rfl) (by decide) (by decide) (by decide) ?_
    refine A_if_eq (pc := 12) (tgt := 28) dX2_nameAt_12 (by decide) (fun c12 => ?_) (fun c12 => ?_)
    · replace c12 := (bI_eq _).mp c12
      refine A_iconst (pc := 28) (v := -1) dX2_nameAt_28 (by decide) ?_
      exact A_iret (pc := 29) dX2_nameAt_29 rfl rfl (by decide) (by decide) (⟨by simp [nmI, *], rfl⟩)
    · replace c12 := (bI_ne _).mp c12
      refine A_aload0 (pc := 15) dX2_nameAt_15 ?_
      refine A_getf (pc := 16) flX2_25 dX2_nameAt_16 h1 rfl ?_
      refine A_iload1 (pc := 19) dX2_nameAt_19 ?_
      refine A_iload2 (pc := 20) dX2_nameAt_20 ?_
      refine A_csi (pc := 21) csX2_47 (sp_placeOf k e) dX2_nameAt_21 rfl rfl (Nat.le_of_ble_eq_true rfl) (by decide) (by decide) (by decide) ?_
      refine A_iald (pc := 24) dX2_nameAt_24 h2 (vp_place (hasI_t c5).1 (hasI_t c5).2.2 (exI_t c12).1 (exI_t c12).2) ?_
      refine A_goto (pc := 25) (tgt := 29) dX2_nameAt_25 (by decide) ?_
      exact A_iret (pc := 29) dX2_nameAt_29 rfl rfl (by decide) (by decide) (⟨by simp [nmI, *], rfl⟩)

def frI (kn : Int32) (ac : Nat → Int32) (k e : Int32) : Bool := if hasI kn k = true then if exI e = true then if acI ac k e = -1 then true else false else false else false
set_option maxHeartbeats 4000000 in
set_option maxRecDepth 100000 in
theorem sp_isFree {hp : AH} {kn sk : Int32} (h1 : hp[1]? = some (oC 2 [.int kn, .int sk, .ref 2, .ref 3, .ref 4, .ref 5, .ref 6])) {ac : Nat → Int32} (h2 : hp[3]? = some (aC 96 ac)) (k e : Int32) : AS mX2_isFree 1 0 0 [.ref 1, .int k, .int e] (hp) (P1 (bI (frI kn ac k e)) hp) := by
  refine AS.go (lv := [some (.ref 1), some (.int k), some (.int e)]) rfl ?_ (by decide +kernel) rfl (Nat.le_of_ble_eq_true rfl)
  refine A_aload0 (pc := 0) dX2_isFree_0 ?_
  refine A_iload1 (pc := 1) dX2_isFree_1 ?_
  refine A_cvi (pc := 2) cvX2_40 (sp_hasKnot h1 k) dX2_isFree_2 rfl rfl h1 rfl (Nat.le_of_ble_eq_true rfl) (by decide) (by decide) (by decide) ?_
  refine A_if_eq (pc := 5) (tgt := 29) dX2_isFree_5 (by decide) (fun c5 => ?_) (fun c5 => ?_)
  · replace c5 := (bI_eq _).mp c5
    refine A_iconst (pc := 29) (v := 0) dX2_isFree_29 (by decide) ?_
    exact A_iret (pc := 30) dX2_isFree_30 rfl rfl (by decide) (by decide) (⟨by simp [frI, bI, *], rfl⟩)
  · replace c5 := (bI_ne _).mp c5
    refine A_iload2 (pc := 8) dX2_isFree_8 ?_
    refine A_csi (pc := 9) csX2_44 (sp_isExit e) dX2_isFree_9 rfl rfl (Nat.le_of_ble_eq_true rfl) (by decide) (by decide) (by decide) ?_
    refine A_if_eq (pc := 12) (tgt := 29) dX2_isFree_12 (by decide) (fun c12 => ?_) (fun c12 => ?_)
    · replace c12 := (bI_eq _).mp c12
      refine A_iconst (pc := 29) (v := 0) dX2_isFree_29 (by decide) ?_
      exact A_iret (pc := 30) dX2_isFree_30 rfl rfl (by decide) (by decide) (⟨by simp [frI, bI, *], rfl⟩)
    · replace c12 := (bI_ne _).mp c12
      refine A_aload0 (pc := 15) dX2_isFree_15 ?_
      refine A_iload1 (pc := 16) dX2_isFree_16 ?_
      refine A_iload2 (pc := 17) dX2_isFree_17 ?_
      refine A_cvi (pc := 18) cvX2_51 (sp_across h1 h2 k e) dX2_isFree_18 rfl rfl h1 rfl (Nat.le_of_ble_eq_true rfl) (by decide) (by decide) (by decide) ?_
      refine A_iconst (pc := 21) (v := -1) dX2_isFree_21 (by decide) ?_
      refine A_icmp_ne (pc := 22) (tgt := 29) dX2_isFree_22 (by decide) (fun c22 => ?_) (fun c22 => ?_)
      · refine A_iconst (pc := 29) (v := 0) dX2_isFree_29 (by decide) ?_
        exact A_iret (pc := 30) dX2_isFree_30 rfl rfl (by decide) (by decide) (⟨by simp [frI, bI, *], rfl⟩)
      · refine A_iconst (pc := 25) (v := 1) dX2_isFree_25 (by decide) ?_
        refine A_goto (pc := 26) (tgt := 30) dX2_isFree_26 (by decide) ?_
        exact A_iret (pc := 30) dX2_isFree_30 rfl rfl (by decide) (by decide) (⟨by simp [frI, bI, *], rfl⟩)

def kaI (ac : Nat → Int32) (k e : Int32) : Int32 := if acI ac k e = -1 then -1 else acI ac k e / 4
set_option maxHeartbeats 4000000 in
set_option maxRecDepth 100000 in
theorem sp_knotAfter {hp : AH} {kn sk : Int32} (h1 : hp[1]? = some (oC 2 [.int kn, .int sk, .ref 2, .ref 3, .ref 4, .ref 5, .ref 6])) {ac : Nat → Int32} (h2 : hp[3]? = some (aC 96 ac)) (k e : Int32) : AS mX2_knotAfter 1 0 0 [.ref 1, .int k, .int e] (hp) (P1 (kaI ac k e) hp) := by
  refine AS.go (lv := [some (.ref 1), some (.int k), some (.int e), none]) rfl ?_ (by decide +kernel) rfl (Nat.le_of_ble_eq_true rfl)
  refine A_aload0 (pc := 0) dX2_knotAfter_0 ?_
  refine A_iload1 (pc := 1) dX2_knotAfter_1 ?_
  refine A_iload2 (pc := 2) dX2_knotAfter_2 ?_
  refine A_cvi (pc := 3) cvX2_51 (sp_across h1 h2 k e) dX2_knotAfter_3 rfl rfl h1 rfl (Nat.le_of_ble_eq_true rfl) (by decide) (by decide) (by decide) ?_
  refine A_istore3 (pc := 6) dX2_knotAfter_6 (by decide) ?_
  refine A_iload3 (pc := 7) dX2_knotAfter_7 ?_
  refine A_iconst (pc := 8) (v := -1) dX2_knotAfter_8 (by decide) ?_
  refine A_icmp_ne (pc := 9) (tgt := 16) dX2_knotAfter_9 (by decide) (fun c9 => ?_) (fun c9 => ?_)
  · refine A_iload3 (pc := 16) dX2_knotAfter_16 ?_
    refine A_csi (pc := 17) csX2_86 (sp_knotOf _) dX2_knotAfter_17 rfl rfl (Nat.le_of_ble_eq_true rfl) (by decide) (by decide) (by decide) ?_
    exact A_iret (pc := 20) dX2_knotAfter_20 rfl rfl (by decide) (by decide) (⟨by simp [kaI, *], rfl⟩)
  · refine A_iconst (pc := 12) (v := -1) dX2_knotAfter_12 (by decide) ?_
    refine A_goto (pc := 13) (tgt := 20) dX2_knotAfter_13 (by decide) ?_
    exact A_iret (pc := 20) dX2_knotAfter_20 rfl rfl (by decide) (by decide) (⟨by simp [kaI, *], rfl⟩)

def enI (e : Int32) : Bool := if e < 0 then false else if 96 ≤ e then false else true
theorem enI_t {e : Int32} (h : enI e = true) : vp_in e 96 := by
  unfold enI at h
  split at h
  · cases h
  · split at h
    · cases h
    · exact vp_lt (by decide) (by assumption) (by assumption)
set_option maxHeartbeats 4000000 in
set_option maxRecDepth 100000 in
theorem sp_isEnd {hp : AH} (e : Int32) : AS mX2_isEnd 0 0 0 [.int e] (hp) (P1 (bI (enI e)) hp) := by
  refine AS.go (lv := [some (.int e)]) rfl ?_ (by decide +kernel) rfl (Nat.le_of_ble_eq_true rfl)
  refine A_iload0 (pc := 0) dX2_isEnd_0 ?_
  refine A_if_lt (pc := 1) (tgt := 14) dX2_isEnd_1 (by decide) (fun c1 => ?_) (fun c1 => ?_)
  · refine A_iconst (pc := 14) (v := 0) dX2_isEnd_14 (by decide) ?_
    exact A_iret (pc := 15) dX2_isEnd_15 rfl rfl (by decide) (by decide) (⟨by simp [enI, bI, *], rfl⟩)
  · refine A_iload0 (pc := 4) dX2_isEnd_4 ?_
    refine A_bipush (pc := 5) (v := 96) dX2_isEnd_5 (by decide) ?_
    refine A_icmp_ge (pc := 7) (tgt := 14) dX2_isEnd_7 (by decide) (fun c7 => ?_) (fun c7 => ?_)
    · refine A_iconst (pc := 14) (v := 0) dX2_isEnd_14 (by decide) ?_
      exact A_iret (pc := 15) dX2_isEnd_15 rfl rfl (by decide) (by decide) (⟨by simp [enI, bI, *], rfl⟩)
    · refine A_iconst (pc := 10) (v := 1) dX2_isEnd_10 (by decide) ?_
      refine A_goto (pc := 11) (tgt := 15) dX2_isEnd_11 (by decide) ?_
      exact A_iret (pc := 15) dX2_isEnd_15 rfl rfl (by decide) (by decide) (⟨by simp [enI, bI, *], rfl⟩)

def jnOk (e ot : Int32) : Bool := if enI e = true then if enI ot = true then if e = ot then false else true else false else false
def jnN (n : NS) (e ot nm : Int32) : NS := (n.1, n.2.1 + 1, n.2.2.1, upd (upd n.2.2.2.1 e.toNatClampNeg ot) ot.toNatClampNeg e, upd (upd n.2.2.2.2.1 e.toNatClampNeg nm) ot.toNatClampNeg nm, n.2.2.2.2.2)
def ptN (n : NS) (e ot : Int32) : NS := (n.1, n.2.1 - 1, n.2.2.1, upd (upd n.2.2.2.1 e.toNatClampNeg (-1)) ot.toNatClampNeg (-1), n.2.2.2.2)
def ptOk (e ot : Int32) : Bool := if enI e = true then enI ot else false
def akOk (n : NS) : Bool := if n.1 < 0 then false else if n.1 < 24 then true else false
def akN (n : NS) (s : Int32) : NS := (n.1 + 1, n.2.1, upd n.2.2.1 n.1.toNatClampNeg s, n.2.2.2)
def shN (n : NS) (k s : Int32) : NS := (n.1, n.2.1, upd n.2.2.1 k.toNatClampNeg s, n.2.2.2)
set_option maxHeartbeats 4000000 in
set_option maxRecDepth 100000 in
theorem sp_join {n : NS} {p : Nat → Int32} {o : OS} {y : RS} {la sc : WS} {wy : YS} {ch : KS} {ko : Nat → Option Nat} {rest : AH} (e ot nm : Int32) : AS mX2_join 1 0 0 [.ref 1, .int e, .int ot, .int nm] (CH n p o y la sc wy ch ko ++ rest) (P1 (bI (jnOk e ot)) (CH (if jnOk e ot = true then jnN n e ot nm else n) p o y la sc wy ch ko ++ rest)) := by
  refine AS.go (lv := [some (.ref 1), some (.int e), some (.int ot), some (.int nm)]) rfl ?_ (by decide +kernel) rfl (Nat.le_of_ble_eq_true rfl)
  refine A_iload1 (pc := 0) dX2_join_0 ?_
  refine A_csi (pc := 1) csX2_54 (sp_isEnd e) dX2_join_1 rfl rfl (Nat.le_of_ble_eq_true rfl) (by decide) (by decide) (by decide) ?_
  refine A_if_eq (pc := 4) (tgt := 19) dX2_join_4 (by decide) (fun c4 => ?_) (fun c4 => ?_)
  · replace c4 := (bI_eq _).mp c4
    refine A_iconst (pc := 19) (v := 0) dX2_join_19 (by decide) ?_
    exact A_iret (pc := 20) dX2_join_20 rfl rfl (by decide) (by decide) (⟨by simp [jnOk, bI, *], by rw [if_neg (by simp [jnOk, bI, *])]⟩)
  · replace c4 := (bI_ne _).mp c4
    refine A_iload2 (pc := 7) dX2_join_7 ?_
    refine A_csi (pc := 8) csX2_54 (sp_isEnd ot) dX2_join_8 rfl rfl (Nat.le_of_ble_eq_true rfl) (by decide) (by decide) (by decide) ?_
    refine A_if_eq (pc := 11) (tgt := 19) dX2_join_11 (by decide) (fun c11 => ?_) (fun c11 => ?_)
    · replace c11 := (bI_eq _).mp c11
      refine A_iconst (pc := 19) (v := 0) dX2_join_19 (by decide) ?_
      exact A_iret (pc := 20) dX2_join_20 rfl rfl (by decide) (by decide) (⟨by simp [jnOk, bI, *], by rw [if_neg (by simp [jnOk, bI, *])]⟩)
    · replace c11 := (bI_ne _).mp c11
      refine A_iload1 (pc := 14) dX2_join_14 ?_
      refine A_iload2 (pc := 15) dX2_join_15 ?_
      refine A_icmp_ne (pc := 16) (tgt := 21) dX2_join_16 (by decide) (fun c16 => ?_) (fun c16 => ?_)
      · refine A_aload0 (pc := 21) dX2_join_21 ?_
        refine A_getf (pc := 22) flX2_22 dX2_join_22 rfl rfl ?_
        refine A_iload1 (pc := 25) dX2_join_25 ?_
        refine A_iload2 (pc := 26) dX2_join_26 ?_
        refine A_iast (pc := 27) dX2_join_27 rfl (enI_t c4) ?_
        refine A_aload0 (pc := 28) dX2_join_28 ?_
        refine A_getf (pc := 29) flX2_22 dX2_join_29 rfl rfl ?_
        refine A_iload2 (pc := 32) dX2_join_32 ?_
        refine A_iload1 (pc := 33) dX2_join_33 ?_
        refine A_iast (pc := 34) dX2_join_34 rfl (enI_t c11) ?_
        refine A_aload0 (pc := 35) dX2_join_35 ?_
        refine A_getf (pc := 36) flX2_25 dX2_join_36 rfl rfl ?_
        refine A_iload1 (pc := 39) dX2_join_39 ?_
        refine A_iload3 (pc := 40) dX2_join_40 ?_
        refine A_iast (pc := 41) dX2_join_41 rfl (enI_t c4) ?_
        refine A_aload0 (pc := 42) dX2_join_42 ?_
        refine A_getf (pc := 43) flX2_25 dX2_join_43 rfl rfl ?_
        refine A_iload2 (pc := 46) dX2_join_46 ?_
        refine A_iload3 (pc := 47) dX2_join_47 ?_
        refine A_iast (pc := 48) dX2_join_48 rfl (enI_t c11) ?_
        refine A_aload0 (pc := 49) dX2_join_49 ?_
        refine A_dup (pc := 50) dX2_join_50 rfl ?_
        refine A_getf (pc := 51) flX2_15 dX2_join_51 rfl rfl ?_
        refine A_iconst (pc := 54) (v := 1) dX2_join_54 (by decide) ?_
        refine A_iadd (pc := 55) dX2_join_55 ?_
        refine A_putf (pc := 56) flX2_15 ft2_1 dX2_join_56 rfl (Nat.le_of_ble_eq_true rfl) (fun _ => ⟨rfl, rfl⟩) ?_
        refine A_iconst (pc := 59) (v := 1) dX2_join_59 (by decide) ?_
        exact A_iret (pc := 60) dX2_join_60 rfl rfl (by decide) (by decide) (⟨by simp [jnOk, bI, *], by rw [if_pos (by simp [jnOk, bI, *])]; rfl⟩)
      · refine A_iconst (pc := 19) (v := 0) dX2_join_19 (by decide) ?_
        exact A_iret (pc := 20) dX2_join_20 rfl rfl (by decide) (by decide) (⟨by simp [jnOk, bI, *], by rw [if_neg (by simp [jnOk, bI, *])]⟩)

set_option maxHeartbeats 4000000 in
set_option maxRecDepth 100000 in
theorem sp_part {n : NS} {p : Nat → Int32} {o : OS} {y : RS} {la sc : WS} {wy : YS} {ch : KS} {ko : Nat → Option Nat} {rest : AH} (e ot : Int32) : AS mX2_part 1 0 0 [.ref 1, .int e, .int ot] (CH n p o y la sc wy ch ko ++ rest) (P0 (CH (if ptOk e ot = true then ptN n e ot else n) p o y la sc wy ch ko ++ rest)) := by
  refine AS.go (lv := [some (.ref 1), some (.int e), some (.int ot)]) rfl ?_ (by decide +kernel) rfl (Nat.le_of_ble_eq_true rfl)
  refine A_iload1 (pc := 0) dX2_part_0 ?_
  refine A_csi (pc := 1) csX2_54 (sp_isEnd e) dX2_part_1 rfl rfl (Nat.le_of_ble_eq_true rfl) (by decide) (by decide) (by decide) ?_
  refine A_if_eq (pc := 4) (tgt := 38) dX2_part_4 (by decide) (fun c4 => ?_) (fun c4 => ?_)
  · replace c4 := (bI_eq _).mp c4
    exact A_vret (pc := 38) dX2_part_38 rfl (by decide) (by decide) (⟨rfl, by rw [if_neg (by simp [ptOk, *])]⟩)
  · replace c4 := (bI_ne _).mp c4
    refine A_iload2 (pc := 7) dX2_part_7 ?_
    refine A_csi (pc := 8) csX2_54 (sp_isEnd ot) dX2_part_8 rfl rfl (Nat.le_of_ble_eq_true rfl) (by decide) (by decide) (by decide) ?_
    refine A_if_eq (pc := 11) (tgt := 38) dX2_part_11 (by decide) (fun c11 => ?_) (fun c11 => ?_)
    · replace c11 := (bI_eq _).mp c11
      exact A_vret (pc := 38) dX2_part_38 rfl (by decide) (by decide) (⟨rfl, by rw [if_neg (by simp [ptOk, *])]⟩)
    · replace c11 := (bI_ne _).mp c11
      refine A_aload0 (pc := 14) dX2_part_14 ?_
      refine A_getf (pc := 15) flX2_22 dX2_part_15 rfl rfl ?_
      refine A_iload1 (pc := 18) dX2_part_18 ?_
      refine A_iconst (pc := 19) (v := -1) dX2_part_19 (by decide) ?_
      refine A_iast (pc := 20) dX2_part_20 rfl (enI_t c4) ?_
      refine A_aload0 (pc := 21) dX2_part_21 ?_
      refine A_getf (pc := 22) flX2_22 dX2_part_22 rfl rfl ?_
      refine A_iload2 (pc := 25) dX2_part_25 ?_
      refine A_iconst (pc := 26) (v := -1) dX2_part_26 (by decide) ?_
      refine A_iast (pc := 27) dX2_part_27 rfl (enI_t c11) ?_
      refine A_aload0 (pc := 28) dX2_part_28 ?_
      refine A_dup (pc := 29) dX2_part_29 rfl ?_
      refine A_getf (pc := 30) flX2_15 dX2_part_30 rfl rfl ?_
      refine A_iconst (pc := 33) (v := 1) dX2_part_33 (by decide) ?_
      refine A_isub (pc := 34) dX2_part_34 ?_
      refine A_putf (pc := 35) flX2_15 ft2_1 dX2_part_35 rfl (Nat.le_of_ble_eq_true rfl) (fun _ => ⟨rfl, rfl⟩) ?_
      exact A_vret (pc := 38) dX2_part_38 rfl (by decide) (by decide) (⟨rfl, by rw [if_pos (by simp [ptOk, *])]; rfl⟩)

set_option maxHeartbeats 4000000 in
set_option maxRecDepth 100000 in
theorem sp_addKnot {n : NS} {p : Nat → Int32} {o : OS} {y : RS} {la sc : WS} {wy : YS} {ch : KS} {ko : Nat → Option Nat} {rest : AH} (s : Int32) : AS mX2_addKnot 0 0 0 [.ref 1, .int s] (CH n p o y la sc wy ch ko ++ rest) (P1 (if akOk n = true then n.1 + 1 - 1 else -1) (CH (if akOk n = true then akN n s else n) p o y la sc wy ch ko ++ rest)) := by
  refine AS.go (lv := [some (.ref 1), some (.int s)]) rfl ?_ (by decide +kernel) rfl (Nat.le_of_ble_eq_true rfl)
  refine A_aload0 (pc := 0) dX2_addKnot_0 ?_
  refine A_getf (pc := 1) flX2_9 dX2_addKnot_1 rfl rfl ?_
  refine A_if_lt (pc := 4) (tgt := 16) dX2_addKnot_4 (by decide) (fun c4 => ?_) (fun c4 => ?_)
  · refine A_iconst (pc := 16) (v := -1) dX2_addKnot_16 (by decide) ?_
    exact A_iret (pc := 17) dX2_addKnot_17 rfl rfl (by decide) (by decide) (⟨by simp [akOk, *], by rw [if_neg (by simp [akOk, *])]⟩)
  · refine A_aload0 (pc := 7) dX2_addKnot_7 ?_
    refine A_getf (pc := 8) flX2_9 dX2_addKnot_8 rfl rfl ?_
    refine A_bipush (pc := 11) (v := 24) dX2_addKnot_11 (by decide) ?_
    refine A_icmp_lt (pc := 13) (tgt := 18) dX2_addKnot_13 (by decide) (fun c13 => ?_) (fun c13 => ?_)
    · refine A_aload0 (pc := 18) dX2_addKnot_18 ?_
      refine A_getf (pc := 19) flX2_18 dX2_addKnot_19 rfl rfl ?_
      refine A_aload0 (pc := 22) dX2_addKnot_22 ?_
      refine A_getf (pc := 23) flX2_9 dX2_addKnot_23 rfl rfl ?_
      refine A_iload1 (pc := 26) dX2_addKnot_26 ?_
      refine A_iast (pc := 27) dX2_addKnot_27 rfl (vp_lt2 (by decide) c4 c13) ?_
      refine A_aload0 (pc := 28) dX2_addKnot_28 ?_
      refine A_dup (pc := 29) dX2_addKnot_29 rfl ?_
      refine A_getf (pc := 30) flX2_9 dX2_addKnot_30 rfl rfl ?_
      refine A_iconst (pc := 33) (v := 1) dX2_addKnot_33 (by decide) ?_
      refine A_iadd (pc := 34) dX2_addKnot_34 ?_
      refine A_putf (pc := 35) flX2_9 ft2_0 dX2_addKnot_35 rfl (Nat.le_of_ble_eq_true rfl) (fun _ => ⟨rfl, rfl⟩) ?_
      refine A_aload0 (pc := 38) dX2_addKnot_38 ?_
      refine A_getf (pc := 39) flX2_9 dX2_addKnot_39 rfl rfl ?_
      refine A_iconst (pc := 42) (v := 1) dX2_addKnot_42 (by decide) ?_
      refine A_isub (pc := 43) dX2_addKnot_43 ?_
      exact A_iret (pc := 44) dX2_addKnot_44 rfl rfl (by decide) (by decide) (⟨by simp [akOk, *], by rw [if_pos (by simp [akOk, *])]; rfl⟩)
    · refine A_iconst (pc := 16) (v := -1) dX2_addKnot_16 (by decide) ?_
      exact A_iret (pc := 17) dX2_addKnot_17 rfl rfl (by decide) (by decide) (⟨by simp [akOk, *], by rw [if_neg (by simp [akOk, *])]⟩)

set_option maxHeartbeats 4000000 in
set_option maxRecDepth 100000 in
theorem sp_show {n : NS} {p : Nat → Int32} {o : OS} {y : RS} {la sc : WS} {wy : YS} {ch : KS} {ko : Nat → Option Nat} {rest : AH} (k s : Int32) : AS mX2_show 1 0 0 [.ref 1, .int k, .int s] (CH n p o y la sc wy ch ko ++ rest) (P1 (bI (hasI n.1 k)) (CH (if hasI n.1 k = true then shN n k s else n) p o y la sc wy ch ko ++ rest)) := by
  refine AS.go (lv := [some (.ref 1), some (.int k), some (.int s)]) rfl ?_ (by decide +kernel) rfl (Nat.le_of_ble_eq_true rfl)
  refine A_aload0 (pc := 0) dX2_show_0 ?_
  refine A_iload1 (pc := 1) dX2_show_1 ?_
  refine A_cvi (pc := 2) cvX2_40 (sp_hasKnot (kn := n.1) (sk := n.2.1) rfl k) dX2_show_2 rfl rfl rfl rfl (Nat.le_of_ble_eq_true rfl) (by decide) (by decide) (by decide) ?_
  refine A_if_ne (pc := 5) (tgt := 10) dX2_show_5 (by decide) (fun c5 => ?_) (fun c5 => ?_)
  · replace c5 := (bI_ne _).mp c5
    refine A_aload0 (pc := 10) dX2_show_10 ?_
    refine A_getf (pc := 11) flX2_18 dX2_show_11 rfl rfl ?_
    refine A_iload1 (pc := 14) dX2_show_14 ?_
    refine A_iload2 (pc := 15) dX2_show_15 ?_
    refine A_iast (pc := 16) dX2_show_16 rfl (vp_lt (by decide) (hasI_t c5).1 (hasI_t c5).2.2) ?_
    refine A_iconst (pc := 17) (v := 1) dX2_show_17 (by decide) ?_
    exact A_iret (pc := 18) dX2_show_18 rfl rfl (by decide) (by decide) (⟨by simp [bI, *], by rw [if_pos (by simp [bI, *])]; rfl⟩)
  · replace c5 := (bI_eq _).mp c5
    refine A_iconst (pc := 8) (v := 0) dX2_show_8 (by decide) ?_
    exact A_iret (pc := 9) dX2_show_9 rfl rfl (by decide) (by decide) (⟨by simp [bI, *], by rw [if_neg (by simp [bI, *])]⟩)
