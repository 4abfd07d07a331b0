/-! the model: the route -/
theorem dv4o {v : Option Nat} (h : ∀ y, v = some y → y < 96) : oI v / 4 = nI (v.getD 0 / 4) := by
  cases v with
  | none => decide
  | some y => exact dv4 (by have := h y rfl; omega)
theorem inI_pred {x : Int32} {K : Nat} (hK : K < 2 ^ 31) (h : inI x 0 (nI K - 1) = true) : x = nI (tN x) ∧ tN x < K := by
  cases K with
  | zero =>
    unfold inI at h
    split at h
    · cases h
    · next h0 =>
      split at h
      · cases h
      · next h1 =>
        refine absurd ?_ h1
        rw [fa_lt, show (nI 0 - 1).toInt = -1 from by decide]
        have h2 : ¬ x.toInt < (0 : Int32).toInt := fun q => h0 ((fa_lt x 0).mpr q)
        have e1 : (0 : Int32).toInt = 0 := by decide
        omega
  | succ K =>
    rw [nI_pred] at h
    obtain ⟨h1, h2⟩ := inI_nat (by omega) h
    exact ⟨h1, by omega⟩
def gyT (ld : Nat → Option Nat) (ex : Nat → Nat) (x : Nat) : Nat → Nat → Nat → Bool
  | 0, _, _ => false
  | m + 1, i, k => if 4 * k + ex i = x then true else if ld (4 * k + ex i) = some x then true else gyT ld ex x m (i + 1) ((ld (4 * k + ex i)).getD 0 / 4)
def foT (ld : Nat → Option Nat) (g : Nat → Nat) (f0 : Nat) : Nat → Nat → MP → Bool × MP
  | 0, _, pl => (true, pl)
  | m + 1, i, pl => (match ld (4 * pl.1 i + g (f0 + i)) with
    | none => (false, pl)
    | some y => foT ld g f0 m (i + 1) (updN pl.1 (i + 1) (y / 4), updN pl.2 (i + 1) ((y + 2) % 4)))
def foP (ld : Nat → Option Nat) (g : Nat → Nat) (f0 m k f : Nat) (pl : MP) : Bool × MP := foT ld g f0 m 0 (updN pl.1 0 k, updN pl.2 0 f)
def sdI (s : MS) (x : Int32) : Int32 := if inI x 0 (nI s.1 - 1) = true then nI (10 * s.2.1 (tN x) + s.2.2 (tN x)) else -1
def clB (n : MN) (x e : Int32) : Bool := if isX n.1 x e = true then (n.2.2.1 (4 * tN x + tN e)).isSome else false
def clN (n : MN) (z : Nat) : MN := (n.1, n.2.1, updO (updO n.2.2.1 ((n.2.2.1 z).getD 0) none) z none, n.2.2.2)
def clR (n : MN) (r : MR) (z : Nat) : MR := if r.1 = true then (if gyT n.2.2.1 r.2.2.2.2 z r.2.2.2.1 0 r.2.1 = true then (false, r.2) else r) else r
theorem oI_eq {v : Option Nat} {x : Nat} (h : ∀ y, v = some y → y < 96) (hx : x < 2 ^ 31) : oI v = nI x ↔ v = some x := by
  cases v with
  | none => exact ⟨fun q => absurd q.symm (nI_nm1 hx), fun q => by cases q⟩
  | some y =>
    have := h y rfl
    exact ⟨fun q => by rw [(nI_eq (by omega) hx).mp q], fun q => by cases q; rfl⟩

set_option maxHeartbeats 4000000 in
set_option maxRecDepth 100000 in
theorem mlp_goesBy {c : XV} {n : MN} {p : Nat → Nat} {al : Int32} {s : MS} {r : MR} {w : MW} {k : MK} {a : MA} {pl : MP} {fr : Nat → Nat} {t : MT} {rest : AH} (hl : VL n.2.2.1) (hr1 : r.2.1 < 24) (hr2 : r.2.2.1 < 4) (hr3 : r.2.2.2.1 ≤ 30) (hr4 : ∀ i, i < r.2.2.2.1 → r.2.2.2.2 i < 4) (x : Nat) (hx : x < 96) (m : Nat) : ∀ (i kk : Nat) (_ : i + m = r.2.2.2.1) (_ : kk < 24) (x4 : Option Value), AW mX7_goesBy 0 0 0 0 0 7 [some (.ref 25), some (.int (nI x)), some (.int (nI kk)), some (.int (nI i)), x4] [] (MX c n p al s r w k a pl fr t rest) (P1 (bI (gyT n.2.2.1 r.2.2.2.2 x m i kk)) (MX c n p al s r w k a pl fr t rest)) := by
  induction m with
  | zero =>
    intro i kk hi hk x4
    refine A_iload3 (pc := 7) dX7_goesBy_7 ?_
    refine A_aload0 (pc := 8) dX7_goesBy_8 ?_
    refine A_getf (pc := 9) flX7_101 dX7_goesBy_9 rfl rfl ?_
    refine A_icmp_ge (pc := 12) (tgt := 62) dX7_goesBy_12 (by decide) (fun c12 => ?_) (fun c12 => absurd (show nI r.2.2.2.1 ≤ nI i from nI_le (by omega) (by omega)) c12)
    refine A_iconst (pc := 62) (v := 0) dX7_goesBy_62 (by decide) ?_
    exact A_iret (pc := 63) dX7_goesBy_63 rfl rfl (by decide) (by decide) (⟨rfl, rfl⟩)
  | succ m ih =>
    intro i kk hi hk x4
    have hz : (4 * kk + r.2.2.2.2 i) < 96 := by have := hr4 i (by omega); omega
    have hv : ∀ y, n.2.2.1 (4 * kk + r.2.2.2.2 i) = some y → y < 96 := fun y q => hl _ y hz q
    refine A_iload3 (pc := 7) dX7_goesBy_7 ?_
    refine A_aload0 (pc := 8) dX7_goesBy_8 ?_
    refine A_getf (pc := 9) flX7_101 dX7_goesBy_9 rfl rfl ?_
    refine A_icmp_ge (pc := 12) (tgt := 62) dX7_goesBy_12 (by decide) (fun c12 => absurd c12 (show ¬ nI r.2.2.2.1 ≤ nI i from nI_ge (by omega) (by omega))) (fun c12 => ?_)
    refine A_iconst (pc := 15) (v := 4) dX7_goesBy_15 (by decide) ?_
    refine A_iload2 (pc := 16) dX7_goesBy_16 ?_
    refine A_imul (pc := 17) dX7_goesBy_17 ?_
    refine A_aload0 (pc := 18) dX7_goesBy_18 ?_
    refine A_getf (pc := 19) flX7_32 dX7_goesBy_19 rfl rfl ?_
    refine A_iload3 (pc := 22) dX7_goesBy_22 ?_
    refine A_ialdN (pc := 23) (i := i) dX7_goesBy_23 rfl rfl (by omega) (by decide) ?_
    refine A_iadd (pc := 24) dX7_goesBy_24 ?_
    rw [ix4]
    refine A_istore4 (pc := 25) dX7_goesBy_25 (by decide) ?_
    refine A_iload4 (pc := 27) dX7_goesBy_27 ?_
    refine A_iload1 (pc := 29) dX7_goesBy_29 ?_
    refine A_icmp_eq (pc := 30) (tgt := 44) dX7_goesBy_30 (by decide) (fun c30 => ?_) (fun c30 => ?_)
    · have d30 : (4 * kk + r.2.2.2.2 i) = x := (nI_eq (by omega) (by omega)).mp c30
      refine A_iconst (pc := 44) (v := 1) dX7_goesBy_44 (by decide) ?_
      exact A_iret (pc := 45) dX7_goesBy_45 rfl rfl (by decide) (by decide) (⟨by rw [show gyT n.2.2.1 r.2.2.2.2 x (m + 1) i kk = true from if_pos d30]; rfl, rfl⟩)
    · have d30 : ¬ (4 * kk + r.2.2.2.2 i) = x := fun q => c30 (by rw [q])
      refine A_aload0 (pc := 33) dX7_goesBy_33 ?_
      refine A_getf (pc := 34) flX7_13 dX7_goesBy_34 rfl rfl ?_
      refine A_iload4 (pc := 37) dX7_goesBy_37 ?_
      refine A_ialdN (pc := 39) (i := (4 * kk + r.2.2.2.2 i)) dX7_goesBy_39 rfl rfl hz (by decide) ?_
      refine A_iload1 (pc := 40) dX7_goesBy_40 ?_
      refine A_icmp_ne (pc := 41) (tgt := 46) dX7_goesBy_41 (by decide) (fun c41 => ?_) (fun c41 => ?_)
      · have d41 : ¬ n.2.2.1 (4 * kk + r.2.2.2.2 i) = some x := fun q => c41 ((oI_eq hv (by omega)).mpr q)
        refine A_aload0 (pc := 46) dX7_goesBy_46 ?_
        refine A_getf (pc := 47) flX7_13 dX7_goesBy_47 rfl rfl ?_
        refine A_iload4 (pc := 50) dX7_goesBy_50 ?_
        refine A_ialdN (pc := 52) (i := (4 * kk + r.2.2.2.2 i)) dX7_goesBy_52 rfl rfl hz (by decide) ?_
        refine A_iconst (pc := 53) (v := 4) dX7_goesBy_53 (by decide) ?_
        refine A_idiv (pc := 54) dX7_goesBy_54 (by decide) ?_
        rw [dv4o hv]
        refine A_istore2 (pc := 55) dX7_goesBy_55 (by decide) ?_
        refine A_iinc3 (pc := 56) dX7_goesBy_56 (by decide) (nI_1 i) ?_
        refine A_goto (pc := 59) (tgt := 7) dX7_goesBy_59 (by decide) ?_
        rw [show gyT n.2.2.1 r.2.2.2.2 x (m + 1) i kk = gyT n.2.2.1 r.2.2.2.2 x m (i + 1) ((n.2.2.1 (4 * kk + r.2.2.2.2 i)).getD 0 / 4) from (if_neg d30).trans (if_neg d41)]
        exact ih (i + 1) _ (by omega) (by cases hq : n.2.2.1 (4 * kk + r.2.2.2.2 i) with
          | none => decide
          | some y => have := hv y hq; show y / 4 < 24; omega) _
      · have d41 := (oI_eq hv (by omega)).mp c41
        refine A_iconst (pc := 44) (v := 1) dX7_goesBy_44 (by decide) ?_
        exact A_iret (pc := 45) dX7_goesBy_45 rfl rfl (by decide) (by decide) (⟨by rw [show gyT n.2.2.1 r.2.2.2.2 x (m + 1) i kk = true from (if_neg d30).trans (if_pos d41)]; rfl, rfl⟩)

set_option maxHeartbeats 4000000 in
set_option maxRecDepth 100000 in
theorem mp_goesBy {c : XV} {n : MN} {p : Nat → Nat} {al : Int32} {s : MS} {r : MR} {w : MW} {k : MK} {a : MA} {pl : MP} {fr : Nat → Nat} {t : MT} {rest : AH} (hl : VL n.2.2.1) (hr1 : r.2.1 < 24) (hr2 : r.2.2.1 < 4) (hr3 : r.2.2.2.1 ≤ 30) (hr4 : ∀ i, i < r.2.2.2.1 → r.2.2.2.2 i < 4) (x : Nat) (hx : x < 96) : AS mX7_goesBy 0 0 0 [.ref 25, .int (nI x)] (MX c n p al s r w k a pl fr t rest) (P1 (bI (gyT n.2.2.1 r.2.2.2.2 x r.2.2.2.1 0 r.2.1)) (MX c n p al s r w k a pl fr t rest)) := by
  refine AS.go (lv := [some (.ref 25), some (.int (nI x)), none, none, none]) rfl ?_ (by decide +kernel) rfl (Nat.le_of_ble_eq_true rfl)
  refine A_aload0 (pc := 0) dX7_goesBy_0 ?_
  refine A_getf (pc := 1) flX7_98 dX7_goesBy_1 rfl rfl ?_
  refine A_istore2 (pc := 4) dX7_goesBy_4 (by decide) ?_
  refine A_iconst (pc := 5) (v := 0) dX7_goesBy_5 (by decide) ?_
  refine A_istore3 (pc := 6) dX7_goesBy_6 (by decide) ?_
  exact mlp_goesBy hl hr1 hr2 hr3 hr4 x hx r.2.2.2.1 0 r.2.1 (by omega) hr1 none

set_option maxHeartbeats 4000000 in
set_option maxRecDepth 100000 in
theorem mp_close {c : XV} {n : MN} {p : Nat → Nat} {al : Int32} {s : MS} {r : MR} {w : MW} {k : MK} {a : MA} {pl : MP} {fr : Nat → Nat} {t : MT} {rest : AH} (hK : n.1 ≤ 24) (hl : VL n.2.2.1) (hr1 : r.2.1 < 24) (hr2 : r.2.2.1 < 4) (hr3 : r.2.2.2.1 ≤ 30) (hr4 : ∀ i, i < r.2.2.2.1 → r.2.2.2.2 i < 4) (x e : Int32) : AS mX7_close 3 0 0 [.ref 25, .int x, .int e] (MX c n p al s r w k a pl fr t rest) (P1 (bI (clB n x e)) (MX c (if clB n x e = true then clN n (4 * tN x + tN e) else n) p al s (if clB n x e = true then clR n r (4 * tN x + tN e) else r) w k a pl fr t rest)) := by
  refine AS.go (lv := [some (.ref 25), some (.int x), some (.int e), none]) rfl ?_ (by decide +kernel) rfl (Nat.le_of_ble_eq_true rfl)
  refine A_aload0 (pc := 0) dX7_close_0 ?_
  refine A_iload1 (pc := 1) dX7_close_1 ?_
  refine A_iload2 (pc := 2) dX7_close_2 ?_
  refine A_cvi (pc := 3) cvX7_94 (mp_isExit hK _ _) dX7_close_3 rfl rfl rfl rfl (Nat.le_of_ble_eq_true rfl) (by decide) (by decide) (by decide) ?_
  refine A_if_eq (pc := 6) (tgt := 23) dX7_close_6 (by decide) (fun c6 => ?_) (fun c6 => ?_)
  · replace c6 := (bI_eq _).mp c6
    refine A_iconst (pc := 23) (v := 0) dX7_close_23 (by decide) ?_
    exact A_iret (pc := 24) dX7_close_24 rfl rfl (by decide) (by decide) (⟨by simp only [clB, isX, c6, if_false, Bool.false_eq_true]; rfl, by simp only [clB, isX, c6, if_false, Bool.false_eq_true]⟩)
  · replace c6 := (bI_ne _).mp c6
    have hz : (4 * tN x + tN e) < 96 := by have h1 := (hasI_nat hK (and_t c6).1).2; have h2 := (exI_nat (and_t c6).2).2; omega
    refine A_aload0 (pc := 9) dX7_close_9 ?_
    refine A_getf (pc := 10) flX7_13 dX7_close_10 rfl rfl ?_
    refine A_iconst (pc := 13) (v := 4) dX7_close_13 (by decide) ?_
    refine A_iload1 (pc := 14) dX7_close_14 ?_
    refine A_imul (pc := 15) dX7_close_15 ?_
    refine A_iload2 (pc := 16) dX7_close_16 ?_
    refine A_iadd (pc := 17) dX7_close_17 ?_
    refine A_ialdN (pc := 18) (i := (4 * tN x + tN e)) dX7_close_18 rfl (ix4' (hasI_nat hK (and_t c6).1).1 (exI_nat (and_t c6).2).1) hz (by decide) ?_
    refine A_iconst (pc := 19) (v := -1) dX7_close_19 (by decide) ?_
    refine A_icmp_ne (pc := 20) (tgt := 25) dX7_close_20 (by decide) (fun c20 => ?_) (fun c20 => ?_)
    · have d20 : clB n x e = true := by unfold clB isX; rw [if_pos c6]; cases hq : (n.2.2.1 (4 * tN x + tN e)).isSome with
        | true => rfl
        | false => exact absurd ((oI_c hl hz).mpr hq) c20
      obtain ⟨y9, hy9⟩ : ∃ y, n.2.2.1 (4 * tN x + tN e) = some y := by cases hq : n.2.2.1 (4 * tN x + tN e) with
        | none => exact absurd (show oI (n.2.2.1 (4 * tN x + tN e)) = -1 from by rw [hq]; rfl) c20
        | some y => exact ⟨y, rfl⟩
      have hg9 : (n.2.2.1 (4 * tN x + tN e)).getD 0 < 96 := by rw [hy9]; exact hl _ _ hz hy9
      have hgd : oI (n.2.2.1 (4 * tN x + tN e)) = nI ((n.2.2.1 (4 * tN x + tN e)).getD 0) := by rw [hy9]; rfl
      refine A_iconst (pc := 25) (v := 4) dX7_close_25 (by decide) ?_
      refine A_iload1 (pc := 26) dX7_close_26 ?_
      refine A_imul (pc := 27) dX7_close_27 ?_
      refine A_iload2 (pc := 28) dX7_close_28 ?_
      refine A_iadd (pc := 29) dX7_close_29 ?_
      rw [ix4' (hasI_nat hK (and_t c6).1).1 (exI_nat (and_t c6).2).1]
      refine A_istore3 (pc := 30) dX7_close_30 (by decide) ?_
      refine A_aload0 (pc := 31) dX7_close_31 ?_
      refine A_getf (pc := 32) flX7_104 dX7_close_32 rfl rfl ?_
      refine A_if_eq (pc := 35) (tgt := 51) dX7_close_35 (by decide) (fun c35 => ?_) (fun c35 => ?_)
      · replace c35 := (bI_eq _).mp c35
        refine A_aload0 (pc := 51) dX7_close_51 ?_
        refine A_getf (pc := 52) flX7_13 dX7_close_52 rfl rfl ?_
        refine A_aload0 (pc := 55) dX7_close_55 ?_
        refine A_getf (pc := 56) flX7_13 dX7_close_56 rfl rfl ?_
        refine A_iload3 (pc := 59) dX7_close_59 ?_
        refine A_ialdN (pc := 60) (i := (4 * tN x + tN e)) dX7_close_60 rfl rfl hz (by decide) ?_
        refine A_iconst (pc := 61) (v := -1) dX7_close_61 (by decide) ?_
        refine A_iastO (pc := 62) (i := ((n.2.2.1 (4 * tN x + tN e)).getD 0)) (v := none) dX7_close_62 rfl hgd rfl hg9 (by decide) ?_
        refine A_aload0 (pc := 63) dX7_close_63 ?_
        refine A_getf (pc := 64) flX7_13 dX7_close_64 rfl rfl ?_
        refine A_iload3 (pc := 67) dX7_close_67 ?_
        refine A_iconst (pc := 68) (v := -1) dX7_close_68 (by decide) ?_
        refine A_iastO (pc := 69) (i := (4 * tN x + tN e)) (v := none) dX7_close_69 rfl rfl rfl hz (by decide) ?_
        refine A_iconst (pc := 70) (v := 1) dX7_close_70 (by decide) ?_
        exact A_iret (pc := 71) dX7_close_71 rfl rfl (by decide) (by decide) (⟨by rw [d20]; rfl, by rw [if_pos d20, if_pos d20]; unfold clR; simp only [c35, if_true, if_false, Bool.false_eq_true]; rfl⟩)
      · replace c35 := (bI_ne _).mp c35
        refine A_aload0 (pc := 38) dX7_close_38 ?_
        refine A_iload3 (pc := 39) dX7_close_39 ?_
        refine A_cvi (pc := 40) cvX7_108 (mp_goesBy hl hr1 hr2 hr3 hr4 (4 * tN x + tN e) hz) dX7_close_40 rfl rfl rfl rfl (Nat.le_of_ble_eq_true rfl) (by decide) (by decide) (by decide) ?_
        refine A_if_eq (pc := 43) (tgt := 51) dX7_close_43 (by decide) (fun c43 => ?_) (fun c43 => ?_)
        · replace c43 := (bI_eq _).mp c43
          refine A_aload0 (pc := 51) dX7_close_51 ?_
          refine A_getf (pc := 52) flX7_13 dX7_close_52 rfl rfl ?_
          refine A_aload0 (pc := 55) dX7_close_55 ?_
          refine A_getf (pc := 56) flX7_13 dX7_close_56 rfl rfl ?_
          refine A_iload3 (pc := 59) dX7_close_59 ?_
          refine A_ialdN (pc := 60) (i := (4 * tN x + tN e)) dX7_close_60 rfl rfl hz (by decide) ?_
          refine A_iconst (pc := 61) (v := -1) dX7_close_61 (by decide) ?_
          refine A_iastO (pc := 62) (i := ((n.2.2.1 (4 * tN x + tN e)).getD 0)) (v := none) dX7_close_62 rfl hgd rfl hg9 (by decide) ?_
          refine A_aload0 (pc := 63) dX7_close_63 ?_
          refine A_getf (pc := 64) flX7_13 dX7_close_64 rfl rfl ?_
          refine A_iload3 (pc := 67) dX7_close_67 ?_
          refine A_iconst (pc := 68) (v := -1) dX7_close_68 (by decide) ?_
          refine A_iastO (pc := 69) (i := (4 * tN x + tN e)) (v := none) dX7_close_69 rfl rfl rfl hz (by decide) ?_
          refine A_iconst (pc := 70) (v := 1) dX7_close_70 (by decide) ?_
          exact A_iret (pc := 71) dX7_close_71 rfl rfl (by decide) (by decide) (⟨by rw [d20]; rfl, by rw [if_pos d20, if_pos d20]; unfold clR; simp only [c35, c43, if_true, if_false, Bool.false_eq_true]; rfl⟩)
        · replace c43 := (bI_ne _).mp c43
          refine A_aload0 (pc := 46) dX7_close_46 ?_
          refine A_iconst (pc := 47) (v := 0) dX7_close_47 (by decide) ?_
          refine A_putf (pc := 48) flX7_104 ft7_9 dX7_close_48 rfl (Nat.le_of_ble_eq_true rfl) (fun _ => ⟨rfl, rfl⟩) ?_
          refine AW.heq (hp' := MX c n p al s ((false, r.2)) w k a pl fr t rest) rfl ?_
          refine A_aload0 (pc := 51) dX7_close_51 ?_
          refine A_getf (pc := 52) flX7_13 dX7_close_52 rfl rfl ?_
          refine A_aload0 (pc := 55) dX7_close_55 ?_
          refine A_getf (pc := 56) flX7_13 dX7_close_56 rfl rfl ?_
          refine A_iload3 (pc := 59) dX7_close_59 ?_
          refine A_ialdN (pc := 60) (i := (4 * tN x + tN e)) dX7_close_60 rfl rfl hz (by decide) ?_
          refine A_iconst (pc := 61) (v := -1) dX7_close_61 (by decide) ?_
          refine A_iastO (pc := 62) (i := ((n.2.2.1 (4 * tN x + tN e)).getD 0)) (v := none) dX7_close_62 rfl hgd rfl hg9 (by decide) ?_
          refine A_aload0 (pc := 63) dX7_close_63 ?_
          refine A_getf (pc := 64) flX7_13 dX7_close_64 rfl rfl ?_
          refine A_iload3 (pc := 67) dX7_close_67 ?_
          refine A_iconst (pc := 68) (v := -1) dX7_close_68 (by decide) ?_
          refine A_iastO (pc := 69) (i := (4 * tN x + tN e)) (v := none) dX7_close_69 rfl rfl rfl hz (by decide) ?_
          refine A_iconst (pc := 70) (v := 1) dX7_close_70 (by decide) ?_
          exact A_iret (pc := 71) dX7_close_71 rfl rfl (by decide) (by decide) (⟨by rw [d20]; rfl, by rw [if_pos d20, if_pos d20]; unfold clR; simp only [c35, c43, if_true, if_false, Bool.false_eq_true]; rfl⟩)
    · refine A_iconst (pc := 23) (v := 0) dX7_close_23 (by decide) ?_
      exact A_iret (pc := 24) dX7_close_24 rfl rfl (by decide) (by decide) (⟨by simp only [clB, isX, c6, if_true, (oI_c hl hz).mp c20]; rfl, by simp only [clB, isX, c6, if_true, (oI_c hl hz).mp c20, if_false, Bool.false_eq_true]⟩)

theorem lkM_no {n : MN} {x e v : Int32} (h : hasI (nI n.1) x = false) : lkM n x e v = -1 := by unfold lkM; rw [if_neg (by rw [h]; decide)]
set_option maxHeartbeats 4000000 in
set_option maxRecDepth 100000 in
theorem mp_look {c : XV} {n : MN} {p : Nat → Nat} {al : Int32} {s : MS} {r : MR} {w : MW} {k : MK} {a : MA} {pl : MP} {fr : Nat → Nat} {t : MT} {rest : AH} (hK : n.1 ≤ 24) (hl : VL n.2.2.1) (x e v : Int32) : AS mX7_look 2 0 0 [.ref 25, .int x, .int e, .int v] (MX c n p al s r w k a pl fr t rest) (P1 (lkM n x e v) (MX c n p al s r w k a pl fr t rest)) := by
  refine AS.go (lv := [some (.ref 25), some (.int x), some (.int e), some (.int v), none]) rfl ?_ (by decide +kernel) rfl (Nat.le_of_ble_eq_true rfl)
  refine A_aload0 (pc := 0) dX7_look_0 ?_
  refine A_iload1 (pc := 1) dX7_look_1 ?_
  refine A_cvi (pc := 2) cvX7_90 (mp_isKnot hK _) dX7_look_2 rfl rfl rfl rfl (Nat.le_of_ble_eq_true rfl) (by decide) (by decide) (by decide) ?_
  refine A_if_ne (pc := 5) (tgt := 10) dX7_look_5 (by decide) (fun c5 => ?_) (fun c5 => ?_)
  · replace c5 := (bI_ne _).mp c5
    refine A_iload3 (pc := 10) dX7_look_10 ?_
    refine A_iconst (pc := 11) (v := 3) dX7_look_11 (by decide) ?_
    refine A_icmp_ne (pc := 12) (tgt := 22) dX7_look_12 (by decide) (fun c12 => ?_) (fun c12 => ?_)
    · refine A_iload2 (pc := 22) dX7_look_22 ?_
      refine A_iconst (pc := 23) (v := 0) dX7_look_23 (by decide) ?_
      refine A_iconst (pc := 24) (v := 3) dX7_look_24 (by decide) ?_
      refine A_csi (pc := 25) csX7_86 (mp_in _ _ _) dX7_look_25 rfl rfl (Nat.le_of_ble_eq_true rfl) (by decide) (by decide) (by decide) ?_
      refine A_if_eq (pc := 28) (tgt := 45) dX7_look_28 (by decide) (fun c28 => ?_) (fun c28 => ?_)
      · replace c28 := (bI_eq _).mp c28
        rw [exI_in] at c28
        refine A_iconst (pc := 45) (v := -1) dX7_look_45 (by decide) ?_
        exact A_iret (pc := 46) dX7_look_46 rfl rfl (by decide) (by decide) (⟨by unfold lkM; rw [if_pos c5, if_neg c12, if_neg (by rw [c28]; decide)], rfl⟩)
      · replace c28 := (bI_ne _).mp c28
        rw [exI_in] at c28
        have hz : (4 * tN x + tN e) < 96 := by have h1 := (hasI_nat hK c5).2; have h2 := (exI_nat c28).2; omega
        refine A_aload0 (pc := 31) dX7_look_31 ?_
        refine A_getf (pc := 32) flX7_13 dX7_look_32 rfl rfl ?_
        refine A_iconst (pc := 35) (v := 4) dX7_look_35 (by decide) ?_
        refine A_iload1 (pc := 36) dX7_look_36 ?_
        refine A_imul (pc := 37) dX7_look_37 ?_
        refine A_iload2 (pc := 38) dX7_look_38 ?_
        refine A_iadd (pc := 39) dX7_look_39 ?_
        refine A_ialdN (pc := 40) (i := (4 * tN x + tN e)) dX7_look_40 rfl (ix4' (hasI_nat hK c5).1 (exI_nat c28).1) hz (by decide) ?_
        refine A_iconst (pc := 41) (v := -1) dX7_look_41 (by decide) ?_
        refine A_icmp_ne (pc := 42) (tgt := 47) dX7_look_42 (by decide) (fun c42 => ?_) (fun c42 => ?_)
        · obtain ⟨y, hy⟩ : ∃ y, n.2.2.1 (4 * tN x + tN e) = some y := by cases hq : n.2.2.1 (4 * tN x + tN e) with
            | none => exact absurd (show oI (n.2.2.1 (4 * tN x + tN e)) = -1 from by rw [hq]; rfl) c42
            | some y => exact ⟨y, rfl⟩
          have hy9 := hl _ _ hz hy
          refine A_iconst (pc := 47) (v := 4) dX7_look_47 (by decide) ?_
          refine A_iload1 (pc := 48) dX7_look_48 ?_
          refine A_imul (pc := 49) dX7_look_49 ?_
          refine A_iload2 (pc := 50) dX7_look_50 ?_
          refine A_iadd (pc := 51) dX7_look_51 ?_
          rw [ix4' (hasI_nat hK c5).1 (exI_nat c28).1]
          refine A_istore4 (pc := 52) dX7_look_52 (by decide) ?_
          refine A_iload3 (pc := 54) dX7_look_54 ?_
          refine A_if_ne (pc := 55) (tgt := 70) dX7_look_55 (by decide) (fun c55 => ?_) (fun c55 => ?_)
          · refine A_iload3 (pc := 70) dX7_look_70 ?_
            refine A_iconst (pc := 71) (v := 1) dX7_look_71 (by decide) ?_
            refine A_icmp_ne (pc := 72) (tgt := 89) dX7_look_72 (by decide) (fun c72 => ?_) (fun c72 => ?_)
            · refine A_iload3 (pc := 89) dX7_look_89 ?_
              refine A_iconst (pc := 90) (v := 2) dX7_look_90 (by decide) ?_
              refine A_icmp_ne (pc := 91) (tgt := 104) dX7_look_91 (by decide) (fun c91 => ?_) (fun c91 => ?_)
              · refine A_iconst (pc := 104) (v := -1) dX7_look_104 (by decide) ?_
                exact A_iret (pc := 105) dX7_look_105 rfl rfl (by decide) (by decide) (⟨by unfold lkM; rw [if_pos c5, if_neg c12, if_pos c28]; simp only [hy]; rw [if_neg c55, if_neg c72, if_neg c91], rfl⟩)
              · refine A_aload0 (pc := 94) dX7_look_94 ?_
                refine A_getf (pc := 95) flX7_16 dX7_look_95 rfl rfl ?_
                refine A_iload4 (pc := 98) dX7_look_98 ?_
                refine A_ialdN (pc := 100) (i := (4 * tN x + tN e)) dX7_look_100 rfl rfl hz (by decide) ?_
                refine A_goto (pc := 101) (tgt := 105) dX7_look_101 (by decide) ?_
                exact A_iret (pc := 105) dX7_look_105 rfl rfl (by decide) (by decide) (⟨by unfold lkM; rw [if_pos c5, if_neg c12, if_pos c28]; simp only [hy]; rw [if_neg c55, if_neg c72, if_pos c91], rfl⟩)
            · refine A_aload0 (pc := 75) dX7_look_75 ?_
              refine A_getf (pc := 76) flX7_13 dX7_look_76 rfl rfl ?_
              refine A_iload4 (pc := 79) dX7_look_79 ?_
              refine A_ialdN (pc := 81) (i := (4 * tN x + tN e)) dX7_look_81 rfl rfl hz (by decide) ?_
              rw [hy]
              refine A_iconst (pc := 82) (v := 2) dX7_look_82 (by decide) ?_
              refine A_iadd (pc := 83) dX7_look_83 ?_
              refine A_iconst (pc := 84) (v := 4) dX7_look_84 (by decide) ?_
              refine A_irem (pc := 85) dX7_look_85 (by decide) ?_
              rw [show oI (some y) + 2 - (oI (some y) + 2) / 4 * 4 = nI ((y + 2) % 4) from rm42 (by omega)]
              refine A_goto (pc := 86) (tgt := 105) dX7_look_86 (by decide) ?_
              exact A_iret (pc := 105) dX7_look_105 rfl rfl (by decide) (by decide) (⟨by unfold lkM; rw [if_pos c5, if_neg c12, if_pos c28]; simp only [hy]; rw [if_neg c55, if_pos c72], rfl⟩)
          · refine A_aload0 (pc := 58) dX7_look_58 ?_
            refine A_getf (pc := 59) flX7_13 dX7_look_59 rfl rfl ?_
            refine A_iload4 (pc := 62) dX7_look_62 ?_
            refine A_ialdN (pc := 64) (i := (4 * tN x + tN e)) dX7_look_64 rfl rfl hz (by decide) ?_
            rw [hy]
            refine A_iconst (pc := 65) (v := 4) dX7_look_65 (by decide) ?_
            refine A_idiv (pc := 66) dX7_look_66 (by decide) ?_
            rw [show oI (some y) / 4 = nI (y / 4) from dv4 (by omega)]
            refine A_goto (pc := 67) (tgt := 105) dX7_look_67 (by decide) ?_
            exact A_iret (pc := 105) dX7_look_105 rfl rfl (by decide) (by decide) (⟨by unfold lkM; rw [if_pos c5, if_neg c12, if_pos c28]; simp only [hy]; rw [if_pos c55], rfl⟩)
        · have d42 : n.2.2.1 (4 * tN x + tN e) = none := by cases hq : n.2.2.1 (4 * tN x + tN e) with
            | none => rfl
            | some y => exact absurd (show oI (some y) = -1 from hq ▸ c42) (oI_some (by have := hl _ _ hz hq; omega))
          refine A_iconst (pc := 45) (v := -1) dX7_look_45 (by decide) ?_
          exact A_iret (pc := 46) dX7_look_46 rfl rfl (by decide) (by decide) (⟨by unfold lkM; rw [if_pos c5, if_neg c12, if_pos c28]; simp only [d42], rfl⟩)
    · refine A_aload0 (pc := 15) dX7_look_15 ?_
      refine A_getf (pc := 16) flX7_9 dX7_look_16 rfl rfl ?_
      refine A_iload1 (pc := 19) dX7_look_19 ?_
      refine A_ialdN (pc := 20) (i := (tN x)) dX7_look_20 rfl (hasI_nat hK c5).1 (by have := (hasI_nat hK c5).2; omega) (by decide) ?_
      exact A_iret (pc := 21) dX7_look_21 rfl rfl (by decide) (by decide) (⟨by unfold lkM; rw [if_pos c5, if_pos c12], rfl⟩)
  · replace c5 := (bI_eq _).mp c5
    refine A_iconst (pc := 8) (v := -1) dX7_look_8 (by decide) ?_
    exact A_iret (pc := 9) dX7_look_9 rfl rfl (by decide) (by decide) (⟨by unfold lkM; rw [if_neg (by rw [c5]; decide)], rfl⟩)

set_option maxHeartbeats 4000000 in
set_option maxRecDepth 100000 in
theorem mp_said {c : XV} {n : MN} {p : Nat → Nat} {al : Int32} {s : MS} {r : MR} {w : MW} {k : MK} {a : MA} {pl : MP} {fr : Nat → Nat} {t : MT} {rest : AH} (hs : s.1 ≤ 60) (x : Int32) : AS mX7_said 1 0 0 [.ref 25, .int x] (MX c n p al s r w k a pl fr t rest) (P1 (sdI s x) (MX c n p al s r w k a pl fr t rest)) := by
  refine AS.go (lv := [some (.ref 25), some (.int x)]) rfl ?_ (by decide +kernel) rfl (Nat.le_of_ble_eq_true rfl)
  refine A_iload1 (pc := 0) dX7_said_0 ?_
  refine A_iconst (pc := 1) (v := 0) dX7_said_1 (by decide) ?_
  refine A_aload0 (pc := 2) dX7_said_2 ?_
  refine A_getf (pc := 3) flX7_136 dX7_said_3 rfl rfl ?_
  refine A_iconst (pc := 6) (v := 1) dX7_said_6 (by decide) ?_
  refine A_isub (pc := 7) dX7_said_7 ?_
  refine A_csi (pc := 8) csX7_86 (mp_in _ _ _) dX7_said_8 rfl rfl (Nat.le_of_ble_eq_true rfl) (by decide) (by decide) (by decide) ?_
  refine A_if_eq (pc := 11) (tgt := 33) dX7_said_11 (by decide) (fun c11 => ?_) (fun c11 => ?_)
  · replace c11 := (bI_eq _).mp c11
    refine A_iconst (pc := 33) (v := -1) dX7_said_33 (by decide) ?_
    exact A_iret (pc := 34) dX7_said_34 rfl rfl (by decide) (by decide) (⟨by simp only [sdI, c11, if_true, if_false, Bool.false_eq_true], rfl⟩)
  · replace c11 := (bI_ne _).mp c11
    refine A_bipush (pc := 14) (v := 10) dX7_said_14 (by decide) ?_
    refine A_aload0 (pc := 16) dX7_said_16 ?_
    refine A_getf (pc := 17) flX7_26 dX7_said_17 rfl rfl ?_
    refine A_iload1 (pc := 20) dX7_said_20 ?_
    refine A_ialdN (pc := 21) (i := (tN x)) dX7_said_21 rfl (inI_pred (by omega) c11).1 (by have := (inI_pred (by omega) c11).2; omega) (by decide) ?_
    refine A_imul (pc := 22) dX7_said_22 ?_
    refine A_aload0 (pc := 23) dX7_said_23 ?_
    refine A_getf (pc := 24) flX7_29 dX7_said_24 rfl rfl ?_
    refine A_iload1 (pc := 27) dX7_said_27 ?_
    refine A_ialdN (pc := 28) (i := (tN x)) dX7_said_28 rfl (inI_pred (by omega) c11).1 (by have := (inI_pred (by omega) c11).2; omega) (by decide) ?_
    refine A_iadd (pc := 29) dX7_said_29 ?_
    rw [show (10 : Int32) * nI (s.2.1 (tN x)) + nI (s.2.2 (tN x)) = nI (10 * s.2.1 (tN x) + s.2.2 (tN x)) from by rw [show (10 : Int32) = nI 10 from rfl, pk_mul, nI_add]]
    refine A_goto (pc := 30) (tgt := 34) dX7_said_30 (by decide) ?_
    exact A_iret (pc := 34) dX7_said_34 rfl rfl (by decide) (by decide) (⟨by simp only [sdI, c11, if_true, if_false, Bool.false_eq_true], rfl⟩)

theorem isX_nat {K : Nat} {x e : Int32} (hK : K ≤ 24) (h : isX K x e = true) : x = nI (tN x) ∧ tN x < K ∧ e = nI (tN e) ∧ tN e < 4 := ⟨(hasI_nat hK (and_t h).1).1, (hasI_nat hK (and_t h).1).2, (exI_nat (and_t h).2).1, (exI_nat (and_t h).2).2⟩
set_option maxHeartbeats 4000000 in
set_option maxRecDepth 100000 in
theorem mp_start {c : XV} {n : MN} {p : Nat → Nat} {al : Int32} {s : MS} {r : MR} {w : MW} {k : MK} {a : MA} {pl : MP} {fr : Nat → Nat} {t : MT} {rest : AH} (hK : n.1 ≤ 24) (x e : Int32) : AS mX7_start 3 0 0 [.ref 25, .int x, .int e] (MX c n p al s r w k a pl fr t rest) (P1 (bI (isX n.1 x e)) (MX c n p al s (if isX n.1 x e = true then (true, tN x, tN e, 0, r.2.2.2.2) else r) w k a pl fr t rest)) := by
  refine AS.go (lv := [some (.ref 25), some (.int x), some (.int e)]) rfl ?_ (by decide +kernel) rfl (Nat.le_of_ble_eq_true rfl)
  cases hh : isX n.1 x e with
  | false =>
    refine A_aload0 (pc := 0) dX7_start_0 ?_
    refine A_iload1 (pc := 1) dX7_start_1 ?_
    refine A_iload2 (pc := 2) dX7_start_2 ?_
    refine A_cvi (pc := 3) cvX7_94 (mp_isExit hK _ _) dX7_start_3 rfl rfl rfl rfl (Nat.le_of_ble_eq_true rfl) (by decide) (by decide) (by decide) ?_
    refine A_if_ne (pc := 6) (tgt := 11) dX7_start_6 (by decide) (fun c6 => absurd (show bI (isX n.1 x e) = 0 from by rw [hh]; rfl) c6) (fun c6 => ?_)
    refine A_iconst (pc := 9) (v := 0) dX7_start_9 (by decide) ?_
    exact A_iret (pc := 10) dX7_start_10 rfl rfl (by decide) (by decide) (⟨rfl, rfl⟩)
  | true =>
    obtain ⟨e1, e5, e3, e4⟩ := isX_nat hK hh
    obtain ⟨x2, hx2⟩ : ∃ j, j = tN x := ⟨_, rfl⟩
    obtain ⟨e2, he2⟩ : ∃ j, j = tN e := ⟨_, rfl⟩
    rw [← hx2] at e1 e5
    rw [← he2] at e3 e4
    subst e1
    subst e3
    refine A_aload0 (pc := 0) dX7_start_0 ?_
    refine A_iload1 (pc := 1) dX7_start_1 ?_
    refine A_iload2 (pc := 2) dX7_start_2 ?_
    refine A_cvi (pc := 3) cvX7_94 (mp_isExit hK _ _) dX7_start_3 rfl rfl rfl rfl (Nat.le_of_ble_eq_true rfl) (by decide) (by decide) (by decide) ?_
    refine A_if_ne (pc := 6) (tgt := 11) dX7_start_6 (by decide) (fun c6 => ?_) (fun c6 => absurd c6 (show ¬ bI (isX n.1 (nI x2) (nI e2)) = 0 from by rw [hh]; decide))
    refine A_aload0 (pc := 11) dX7_start_11 ?_
    refine A_iconst (pc := 12) (v := 1) dX7_start_12 (by decide) ?_
    refine A_putf (pc := 13) flX7_104 ft7_9 dX7_start_13 rfl (Nat.le_of_ble_eq_true rfl) (fun _ => ⟨rfl, rfl⟩) ?_
    refine A_aload0 (pc := 16) dX7_start_16 ?_
    refine A_iload1 (pc := 17) dX7_start_17 ?_
    refine A_putf (pc := 18) flX7_98 ft7_10 dX7_start_18 rfl (Nat.le_of_ble_eq_true rfl) (fun _ => ⟨rfl, rfl⟩) ?_
    refine A_aload0 (pc := 21) dX7_start_21 ?_
    refine A_iload2 (pc := 22) dX7_start_22 ?_
    refine A_putf (pc := 23) flX7_154 ft7_11 dX7_start_23 rfl (Nat.le_of_ble_eq_true rfl) (fun _ => ⟨rfl, rfl⟩) ?_
    refine A_aload0 (pc := 26) dX7_start_26 ?_
    refine A_iconst (pc := 27) (v := 0) dX7_start_27 (by decide) ?_
    refine A_putf (pc := 28) flX7_101 ft7_13 dX7_start_28 rfl (Nat.le_of_ble_eq_true rfl) (fun _ => ⟨rfl, rfl⟩) ?_
    refine A_iconst (pc := 31) (v := 1) dX7_start_31 (by decide) ?_
    exact A_iret (pc := 32) dX7_start_32 rfl rfl (by decide) (by decide) (⟨rfl, by rw [show tN (nI x2) = x2 from nI_clamp (by omega), show tN (nI e2) = e2 from nI_clamp (by omega)]; rfl⟩)
