/-! the model: follow, go, routed, walk, walked -/
theorem foT_ok {ld : Nat → Option Nat} {g : Nat → Nat} {f0 : Nat} (hl : VL ld) (m : Nat) : ∀ (i : Nat) (pl : MP), (∀ j, j < m → g (f0 + (i + j)) < 4) → (∀ j, j ≤ i → pl.1 j < 24 ∧ pl.2 j < 4) → (foT ld g f0 m i pl).1 = true → ∀ j, j ≤ i + m → (foT ld g f0 m i pl).2.1 j < 24 ∧ (foT ld g f0 m i pl).2.2 j < 4 := by
  induction m with
  | zero => intro i pl hg hp _ j hj; exact hp j (by omega)
  | succ m ih =>
    intro i pl hg hp h j hj
    have h4 := hg 0 (by omega)
    have hk := (hp i (Nat.le_refl i)).1
    unfold foT at h ⊢
    cases hy : ld (4 * pl.1 i + g (f0 + i)) with
    | none => rw [hy] at h; cases h
    | some y =>
      rw [hy] at h
      have hy9 := hl _ _ (by have h5 : g (f0 + i) < 4 := h4; omega) hy
      refine ih (i + 1) _ (fun q hq => by have := hg (q + 1) (by omega); rw [show f0 + (i + 1 + q) = f0 + (i + (q + 1)) by omega]; exact this) (fun q hq => ?_) h j (by omega)
      show updN pl.1 (i + 1) (y / 4) q < 24 ∧ updN pl.2 (i + 1) ((y + 2) % 4) q < 4
      unfold updN
      by_cases hqi : q = i + 1
      · rw [if_pos hqi, if_pos hqi]
        omega
      · rw [if_neg hqi, if_neg hqi]
        exact hp q (by omega)
theorem foP_ok {ld : Nat → Option Nat} {g : Nat → Nat} {f0 m k f : Nat} {pl : MP} (hl : VL ld) (hg : ∀ j, j < m → g (f0 + j) < 4) (hk : k < 24) (hf : f < 4) (h : (foP ld g f0 m k f pl).1 = true) : ∀ j, j ≤ m → (foP ld g f0 m k f pl).2.1 j < 24 ∧ (foP ld g f0 m k f pl).2.2 j < 4 := by
  intro j hj
  refine foT_ok hl m 0 _ (fun q hq => by rw [Nat.zero_add]; exact hg q hq) (fun q hq => ?_) h j (by omega)
  have : q = 0 := by omega
  subst this
  exact ⟨hk, hf⟩
def goC (r : MR) (e : Int32) : Bool := if r.1 = true then (if exI e = true then (if r.2.2.2.1 = 30 then false else true) else false) else false
def goP (n : MN) (r : MR) (pl : MP) : MP := (foP n.2.2.1 r.2.2.2.2 0 r.2.2.2.1 r.2.1 r.2.2.1 pl).2
def goB (n : MN) (r : MR) (pl : MP) (e : Int32) : Bool := (n.2.2.1 (4 * (goP n r pl).1 r.2.2.2.1 + tN e)).isSome
def goR (r : MR) (e : Int32) : MR := (r.1, r.2.1, r.2.2.1, r.2.2.2.1 + 1, updN r.2.2.2.2 r.2.2.2.1 (tN e))
def rdM (n : MN) (r : MR) (pl : MP) (x : Int32) : Int32 := if r.1 = true then (if x < 10 then (if x = 0 then nI r.2.2.2.1 else if x = 1 then nI ((goP n r pl).1 r.2.2.2.1) else if x = 2 then nI ((goP n r pl).2 r.2.2.2.1) else -1) else if nI r.2.2.2.1 ≤ x - 10 then -1 else nI (r.2.2.2.2 (tN (x - 10)))) else -1
def rwM (w : MW) (x : Int32) : Int32 := if w.1 = true then (if x < 10 then (if x = 0 then nI w.2.1 else if x = 1 then nI w.2.2.1 else if x = 2 then nI w.2.2.2.1 else -1) else if nI w.2.2.2.1 ≤ x - 10 then -1 else if 200 ≤ x - 10 then -1 else nI (w.2.2.2.2 (tN (x - 10)))) else -1
theorem sub10 {x : Int32} {M : Nat} (hM : M < 2 ^ 31) (h0 : ¬ x < 10) (h1 : ¬ nI M ≤ x - 10) : x - 10 = nI (tN (x - 10)) ∧ tN (x - 10) < M := by
  have hx0 : ¬ x < 0 := by
    intro q
    apply h0
    rw [fa_lt] at q ⊢
    have e1 : (0 : Int32).toInt = 0 := by decide
    have e2 : (10 : Int32).toInt = 10 := by decide
    omega
  obtain ⟨j, hj, rfl⟩ := nI_of hx0
  have hj10 : 10 ≤ j := by
    rcases Nat.lt_or_ge j 10 with q | q
    · exact absurd (show nI j < nI 10 from nI_lt q (by decide)) h0
    · exact q
  have e9 : nI j - 10 = nI (j - 10) := pk_sub (b := 10) hj10
  rw [e9] at h1 ⊢
  rw [show tN (nI (j - 10)) = j - 10 from nI_clamp (by omega)]
  refine ⟨rfl, ?_⟩
  rcases Nat.lt_or_ge (j - 10) M with q | q
  · exact q
  · exact absurd (nI_le q (by omega)) h1
def cpT (path : Nat → Nat) : Nat → Nat → MW → MW
  | 0, _, w => w
  | m + 1, p, w => cpT path m (p + 1) (w.1, w.2.1, w.2.2.1, w.2.2.2.1 + 1, if w.2.2.2.1 < 200 then updN w.2.2.2.2 w.2.2.2.1 (path p) else w.2.2.2.2)
def VS (s : MS) : Prop := s.1 ≤ 60 ∧ ∀ i, i < s.1 → s.2.1 i < 9 ∧ s.2.2 i ≤ 9 ∧ (s.2.1 i = 4 ∨ s.2.1 i = 5 → 1 ≤ s.2.2 i)
def wkT (n : MN) (s : MS) : Nat → Nat → MA × MW → Option Nat × MA × MW
  | 0, _, q => (none, q)
  | m + 1, i, q => if (dsT n q.1 (s.2.1 i) (s.2.2 i) 0).1 = true then wkT n s m (i + 1) ((dsT n q.1 (s.2.1 i) (s.2.2 i) 0).2, cpT (dsT n q.1 (s.2.1 i) (s.2.2 i) 0).2.2.2.2 (dsT n q.1 (s.2.1 i) (s.2.2 i) 0).2.2.2.1 0 q.2) else (some i, ((dsT n q.1 (s.2.1 i) (s.2.2 i) 0).2, cpT (dsT n q.1 (s.2.1 i) (s.2.2 i) 0).2.2.2.2 (dsT n q.1 (s.2.1 i) (s.2.2 i) 0).2.2.2.1 0 q.2))
def edI (v : Option Nat) : Int32 := match v with
  | none => -1
  | some i => -2 - nI i

set_option maxHeartbeats 4000000 in
set_option maxRecDepth 100000 in
theorem mlp_follow {c : XV} {n : MN} {p : Nat → Nat} {al : Int32} {s : MS} {r : MR} {w : MW} {k : MK} {a : MA} {fr : Nat → Nat} {t : MT} {rest : AH} (hl : VL n.2.2.1) {q N M : Nat} {g : Nat → Nat} (hrow : ∀ pl : MP, (MX c n p al s r w k a pl fr t rest)[q]? = some (nC N g)) (hN31 : N < 2 ^ 31) (f0 : Nat) (hfm : f0 + M ≤ N) (hM : M ≤ 30) (hg : ∀ j, j < M → g (f0 + j) < 4) (kk ff : Int32) (m : Nat) : ∀ (i : Nat) (pl : MP) (_ : i + m = M) (_ : pl.1 i < 24) (x7 : Option Value), AW mX7_follow 0 0 0 0 0 17 [some (.ref 25), some (.int kk), some (.int ff), some (.ref q), some (.int (nI f0)), some (.int (nI M)), some (.int (nI i)), x7] [] (MX c n p al s r w k a pl fr t rest) (P1 (bI (foT n.2.2.1 g f0 m i pl).1) (MX c n p al s r w k a ((foT n.2.2.1 g f0 m i pl).2) fr t rest)) := by
  induction m with
  | zero =>
    intro i pl hi hk x7
    refine A_iload6 (pc := 17) dX7_follow_17 ?_
    refine A_iload5 (pc := 19) dX7_follow_19 ?_
    refine A_icmp_ge (pc := 21) (tgt := 90) dX7_follow_21 (by decide) (fun c21 => ?_) (fun c21 => absurd (show nI M ≤ nI i from nI_le (by omega) (by omega)) c21)
    refine A_iconst (pc := 90) (v := 1) dX7_follow_90 (by decide) ?_
    exact A_iret (pc := 91) dX7_follow_91 rfl rfl (by decide) (by decide) (⟨rfl, rfl⟩)
  | succ m ih =>
    intro i pl hi hk x7
    have hz : (4 * pl.1 i + g (f0 + i)) < 96 := by have := hg i (by omega); omega
    cases hy : n.2.2.1 (4 * pl.1 i + g (f0 + i)) with
    | none =>
      refine A_iload6 (pc := 17) dX7_follow_17 ?_
      refine A_iload5 (pc := 19) dX7_follow_19 ?_
      refine A_icmp_ge (pc := 21) (tgt := 90) dX7_follow_21 (by decide) (fun c21 => absurd c21 (show ¬ nI M ≤ nI i from nI_ge (by omega) (by omega))) (fun c21 => ?_)
      refine A_aload0 (pc := 24) dX7_follow_24 ?_
      refine A_getf (pc := 25) flX7_13 dX7_follow_25 rfl rfl ?_
      refine A_iconst (pc := 28) (v := 4) dX7_follow_28 (by decide) ?_
      refine A_aload0 (pc := 29) dX7_follow_29 ?_
      refine A_getf (pc := 30) flX7_62 dX7_follow_30 rfl rfl ?_
      refine A_iload6 (pc := 33) dX7_follow_33 ?_
      refine A_ialdN (pc := 35) (i := i) dX7_follow_35 rfl rfl (by omega) (by decide) ?_
      refine A_imul (pc := 36) dX7_follow_36 ?_
      refine A_aload3 (pc := 37) dX7_follow_37 ?_
      refine A_iload4 (pc := 38) dX7_follow_38 ?_
      refine A_iload6 (pc := 40) dX7_follow_40 ?_
      refine A_iadd (pc := 42) dX7_follow_42 ?_
      refine A_ialdN (pc := 43) (i := (f0 + i)) dX7_follow_43 (hrow _) (nI_add f0 i) (by omega) hN31 ?_
      refine A_iadd (pc := 44) dX7_follow_44 ?_
      refine A_ialdN (pc := 45) (i := (4 * pl.1 i + g (f0 + i))) dX7_follow_45 rfl (ix4 _ _) hz (by decide) ?_
      rw [hy]
      refine A_istore7 (pc := 46) dX7_follow_46 (by decide) ?_
      refine A_iload7 (pc := 48) dX7_follow_48 ?_
      refine A_iconst (pc := 50) (v := -1) dX7_follow_50 (by decide) ?_
      refine A_icmp_ne (pc := 51) (tgt := 56) dX7_follow_51 (by decide) (fun c51 => absurd rfl c51) (fun c51 => ?_)
      refine A_iconst (pc := 54) (v := 0) dX7_follow_54 (by decide) ?_
      exact A_iret (pc := 55) dX7_follow_55 rfl rfl (by decide) (by decide) (⟨by simp only [foT, hy]; rfl, by simp only [foT, hy]⟩)
    | some y =>
      have hy9 := hl _ _ hz hy
      refine A_iload6 (pc := 17) dX7_follow_17 ?_
      refine A_iload5 (pc := 19) dX7_follow_19 ?_
      refine A_icmp_ge (pc := 21) (tgt := 90) dX7_follow_21 (by decide) (fun c21 => absurd c21 (show ¬ nI M ≤ nI i from nI_ge (by omega) (by omega))) (fun c21 => ?_)
      refine A_aload0 (pc := 24) dX7_follow_24 ?_
      refine A_getf (pc := 25) flX7_13 dX7_follow_25 rfl rfl ?_
      refine A_iconst (pc := 28) (v := 4) dX7_follow_28 (by decide) ?_
      refine A_aload0 (pc := 29) dX7_follow_29 ?_
      refine A_getf (pc := 30) flX7_62 dX7_follow_30 rfl rfl ?_
      refine A_iload6 (pc := 33) dX7_follow_33 ?_
      refine A_ialdN (pc := 35) (i := i) dX7_follow_35 rfl rfl (by omega) (by decide) ?_
      refine A_imul (pc := 36) dX7_follow_36 ?_
      refine A_aload3 (pc := 37) dX7_follow_37 ?_
      refine A_iload4 (pc := 38) dX7_follow_38 ?_
      refine A_iload6 (pc := 40) dX7_follow_40 ?_
      refine A_iadd (pc := 42) dX7_follow_42 ?_
      refine A_ialdN (pc := 43) (i := (f0 + i)) dX7_follow_43 (hrow _) (nI_add f0 i) (by omega) hN31 ?_
      refine A_iadd (pc := 44) dX7_follow_44 ?_
      refine A_ialdN (pc := 45) (i := (4 * pl.1 i + g (f0 + i))) dX7_follow_45 rfl (ix4 _ _) hz (by decide) ?_
      rw [hy]
      refine A_istore7 (pc := 46) dX7_follow_46 (by decide) ?_
      refine A_iload7 (pc := 48) dX7_follow_48 ?_
      refine A_iconst (pc := 50) (v := -1) dX7_follow_50 (by decide) ?_
      refine A_icmp_ne (pc := 51) (tgt := 56) dX7_follow_51 (by decide) (fun c51 => ?_) (fun c51 => absurd c51 (oI_some (by omega)))
      refine A_aload0 (pc := 56) dX7_follow_56 ?_
      refine A_getf (pc := 57) flX7_62 dX7_follow_57 rfl rfl ?_
      refine A_iload6 (pc := 60) dX7_follow_60 ?_
      refine A_iconst (pc := 62) (v := 1) dX7_follow_62 (by decide) ?_
      refine A_iadd (pc := 63) dX7_follow_63 ?_
      refine A_iload7 (pc := 64) dX7_follow_64 ?_
      refine A_iconst (pc := 66) (v := 4) dX7_follow_66 (by decide) ?_
      refine A_idiv (pc := 67) dX7_follow_67 (by decide) ?_
      refine A_iastN (pc := 68) (i := (i + 1)) (v := (y / 4)) dX7_follow_68 rfl (nI_1 i) (show oI (some y) / 4 = nI (y / 4) from dv4 (by omega)) (by omega) (by decide) ?_
      refine A_aload0 (pc := 69) dX7_follow_69 ?_
      refine A_getf (pc := 70) flX7_65 dX7_follow_70 rfl rfl ?_
      refine A_iload6 (pc := 73) dX7_follow_73 ?_
      refine A_iconst (pc := 75) (v := 1) dX7_follow_75 (by decide) ?_
      refine A_iadd (pc := 76) dX7_follow_76 ?_
      refine A_iload7 (pc := 77) dX7_follow_77 ?_
      refine A_iconst (pc := 79) (v := 2) dX7_follow_79 (by decide) ?_
      refine A_iadd (pc := 80) dX7_follow_80 ?_
      refine A_iconst (pc := 81) (v := 4) dX7_follow_81 (by decide) ?_
      refine A_irem (pc := 82) dX7_follow_82 (by decide) ?_
      refine A_iastN (pc := 83) (i := (i + 1)) (v := ((y + 2) % 4)) dX7_follow_83 rfl (nI_1 i) (show oI (some y) + 2 - (oI (some y) + 2) / 4 * 4 = nI ((y + 2) % 4) from rm42 (by omega)) (by omega) (by decide) ?_
      refine AW.heq (hp' := MX c n p al s r w k a ((updN pl.1 (i + 1) (y / 4), updN pl.2 (i + 1) ((y + 2) % 4))) fr t rest) rfl ?_
      refine A_iinc6 (pc := 84) dX7_follow_84 (by decide) (nI_1 i) ?_
      refine A_goto (pc := 87) (tgt := 17) dX7_follow_87 (by decide) ?_
      rw [show foT n.2.2.1 g f0 (m + 1) i pl = foT n.2.2.1 g f0 m (i + 1) (updN pl.1 (i + 1) (y / 4), updN pl.2 (i + 1) ((y + 2) % 4)) from by simp only [foT, hy]]
      exact ih (i + 1) _ (by omega) (show updN pl.1 (i + 1) (y / 4) (i + 1) < 24 from by unfold updN; rw [if_pos rfl]; omega) _

set_option maxHeartbeats 4000000 in
set_option maxRecDepth 100000 in
theorem mp_follow {c : XV} {n : MN} {p : Nat → Nat} {al : Int32} {s : MS} {r : MR} {w : MW} {k : MK} {a : MA} {pl : MP} {fr : Nat → Nat} {t : MT} {rest : AH} (hl : VL n.2.2.1) {q N M : Nat} {g : Nat → Nat} (hrow : ∀ pl : MP, (MX c n p al s r w k a pl fr t rest)[q]? = some (nC N g)) (hN31 : N < 2 ^ 31) (f0 : Nat) (hfm : f0 + M ≤ N) (hM : M ≤ 30) (hg : ∀ j, j < M → g (f0 + j) < 4) (kk ff : Nat) (hkk : kk < 24) : AS mX7_follow 0 0 0 [.ref 25, .int (nI kk), .int (nI ff), .ref q, .int (nI f0), .int (nI M)] (MX c n p al s r w k a pl fr t rest) (P1 (bI (foP n.2.2.1 g f0 M kk ff pl).1) (MX c n p al s r w k a ((foP n.2.2.1 g f0 M kk ff pl).2) fr t rest)) := by
  refine AS.go (lv := [some (.ref 25), some (.int (nI kk)), some (.int (nI ff)), some (.ref q), some (.int (nI f0)), some (.int (nI M)), none, none]) rfl ?_ (by decide +kernel) rfl (Nat.le_of_ble_eq_true rfl)
  refine A_aload0 (pc := 0) dX7_follow_0 ?_
  refine A_getf (pc := 1) flX7_62 dX7_follow_1 rfl rfl ?_
  refine A_iconst (pc := 4) (v := 0) dX7_follow_4 (by decide) ?_
  refine A_iload1 (pc := 5) dX7_follow_5 ?_
  refine A_iastN (pc := 6) (i := 0) (v := kk) dX7_follow_6 rfl rfl rfl (by decide) (by decide) ?_
  refine A_aload0 (pc := 7) dX7_follow_7 ?_
  refine A_getf (pc := 8) flX7_65 dX7_follow_8 rfl rfl ?_
  refine A_iconst (pc := 11) (v := 0) dX7_follow_11 (by decide) ?_
  refine A_iload2 (pc := 12) dX7_follow_12 ?_
  refine A_iastN (pc := 13) (i := 0) (v := ff) dX7_follow_13 rfl rfl rfl (by decide) (by decide) ?_
  refine AW.heq (hp' := MX c n p al s r w k a ((updN pl.1 0 kk, updN pl.2 0 ff)) fr t rest) rfl ?_
  refine A_iconst (pc := 14) (v := 0) dX7_follow_14 (by decide) ?_
  refine A_istore6 (pc := 15) dX7_follow_15 (by decide) ?_
  exact mlp_follow hl hrow hN31 f0 hfm hM hg _ _ M 0 (updN pl.1 0 kk, updN pl.2 0 ff) (by omega) (show updN pl.1 0 kk 0 < 24 from hkk) none

set_option maxHeartbeats 4000000 in
set_option maxRecDepth 100000 in
theorem mp_go {c : XV} {n : MN} {p : Nat → Nat} {al : Int32} {s : MS} {r : MR} {w : MW} {k : MK} {a : MA} {pl : MP} {fr : Nat → Nat} {t : MT} {rest : AH} (hl : VL n.2.2.1) (hr1 : r.2.1 < 24) (hr2 : r.2.2.1 < 4) (hr3 : r.2.2.2.1 ≤ 30) (hr4 : ∀ i, i < r.2.2.2.1 → r.2.2.2.2 i < 4) (hw : r.1 = true → (foP n.2.2.1 r.2.2.2.2 0 r.2.2.2.1 r.2.1 r.2.2.1 pl).1 = true) (e : Int32) : AS mX7_go 1 0 0 [.ref 25, .int e] (MX c n p al s r w k a pl fr t rest) (P1 (if goC r e = true then (if goB n r pl e = true then nI (r.2.2.2.1 + 1) else -1) else -1) (MX c n p al s (if goC r e = true then (if goB n r pl e = true then goR r e else r) else r) w k a (if goC r e = true then goP n r pl else pl) fr t rest)) := by
  refine AS.go (lv := [some (.ref 25), some (.int e)]) rfl ?_ (by decide +kernel) rfl (Nat.le_of_ble_eq_true rfl)
  refine A_aload0 (pc := 0) dX7_go_0 ?_
  refine A_getf (pc := 1) flX7_104 dX7_go_1 rfl rfl ?_
  refine A_if_eq (pc := 4) (tgt := 25) dX7_go_4 (by decide) (fun c4 => ?_) (fun c4 => ?_)
  · replace c4 := (bI_eq _).mp c4
    refine A_iconst (pc := 25) (v := -1) dX7_go_25 (by decide) ?_
    exact A_iret (pc := 26) dX7_go_26 rfl rfl (by decide) (by decide) (by have gC : ¬ goC r e = true := (by unfold goC; rw [if_neg (by rw [c4]; decide)]; decide); exact ⟨by rw [if_neg gC], by rw [if_neg gC, if_neg gC]⟩)
  · replace c4 := (bI_ne _).mp c4
    refine A_iload1 (pc := 7) dX7_go_7 ?_
    refine A_iconst (pc := 8) (v := 0) dX7_go_8 (by decide) ?_
    refine A_iconst (pc := 9) (v := 3) dX7_go_9 (by decide) ?_
    refine A_csi (pc := 10) csX7_86 (mp_in _ _ _) dX7_go_10 rfl rfl (Nat.le_of_ble_eq_true rfl) (by decide) (by decide) (by decide) ?_
    refine A_if_eq (pc := 13) (tgt := 25) dX7_go_13 (by decide) (fun c13 => ?_) (fun c13 => ?_)
    · replace c13 := (bI_eq _).mp c13
      rw [exI_in] at c13
      refine A_iconst (pc := 25) (v := -1) dX7_go_25 (by decide) ?_
      exact A_iret (pc := 26) dX7_go_26 rfl rfl (by decide) (by decide) (by have gC : ¬ goC r e = true := (by unfold goC; rw [if_pos c4, if_neg (by rw [c13]; decide)]; decide); exact ⟨by rw [if_neg gC], by rw [if_neg gC, if_neg gC]⟩)
    · replace c13 := (bI_ne _).mp c13
      rw [exI_in] at c13
      refine A_aload0 (pc := 16) dX7_go_16 ?_
      refine A_getf (pc := 17) flX7_101 dX7_go_17 rfl rfl ?_
      refine A_bipush (pc := 20) (v := 30) dX7_go_20 (by decide) ?_
      refine A_icmp_ne (pc := 22) (tgt := 27) dX7_go_22 (by decide) (fun c22 => ?_) (fun c22 => ?_)
      · have d22 : ¬ r.2.2.2.1 = 30 := fun q => c22 (by rw [q]; rfl)
        have gC : goC r e = true := by unfold goC; rw [if_pos c4, if_pos c13, if_neg d22]
        refine A_aload0 (pc := 27) dX7_go_27 ?_
        refine A_aload0 (pc := 28) dX7_go_28 ?_
        refine A_getf (pc := 29) flX7_98 dX7_go_29 rfl rfl ?_
        refine A_aload0 (pc := 32) dX7_go_32 ?_
        refine A_getf (pc := 33) flX7_154 dX7_go_33 rfl rfl ?_
        refine A_aload0 (pc := 36) dX7_go_36 ?_
        refine A_getf (pc := 37) flX7_32 dX7_go_37 rfl rfl ?_
        refine A_iconst (pc := 40) (v := 0) dX7_go_40 (by decide) ?_
        refine A_aload0 (pc := 41) dX7_go_41 ?_
        refine A_getf (pc := 42) flX7_101 dX7_go_42 rfl rfl ?_
        refine A_cvi (pc := 45) cvX7_157 (mp_follow (q := 32) (N := 30) (M := r.2.2.2.1) (g := r.2.2.2.2) hl (fun _ => rfl) (by decide) 0 (by omega) hr3 (fun j hj => by rw [Nat.zero_add]; exact hr4 j hj) r.2.1 r.2.2.1 hr1) dX7_go_45 rfl rfl rfl rfl (Nat.le_of_ble_eq_true rfl) (by decide) (by decide) (by decide) ?_
        refine AW.heq (hp' := MX c n p al s r w k a (goP n r pl) fr t rest) rfl ?_
        refine A_pop (pc := 48) dX7_go_48 rfl ?_
        have hz : (4 * (goP n r pl).1 r.2.2.2.1 + tN e) < 96 := by have h1 : (goP n r pl).1 r.2.2.2.1 < 24 := (foP_ok hl (fun j hj => by rw [Nat.zero_add]; exact hr4 j hj) hr1 hr2 (hw c4) r.2.2.2.1 (Nat.le_refl _)).1; have h2 := (exI_nat c13).2; omega
        refine A_aload0 (pc := 49) dX7_go_49 ?_
        refine A_getf (pc := 50) flX7_13 dX7_go_50 rfl rfl ?_
        refine A_iconst (pc := 53) (v := 4) dX7_go_53 (by decide) ?_
        refine A_aload0 (pc := 54) dX7_go_54 ?_
        refine A_getf (pc := 55) flX7_62 dX7_go_55 rfl rfl ?_
        refine A_aload0 (pc := 58) dX7_go_58 ?_
        refine A_getf (pc := 59) flX7_101 dX7_go_59 rfl rfl ?_
        refine A_ialdN (pc := 62) (i := r.2.2.2.1) dX7_go_62 rfl rfl (by omega) (by decide) ?_
        refine A_imul (pc := 63) dX7_go_63 ?_
        refine A_iload1 (pc := 64) dX7_go_64 ?_
        refine A_iadd (pc := 65) dX7_go_65 ?_
        refine A_ialdN (pc := 66) (i := (4 * (goP n r pl).1 r.2.2.2.1 + tN e)) dX7_go_66 rfl (ix4' rfl (exI_nat c13).1) hz (by decide) ?_
        refine A_iconst (pc := 67) (v := -1) dX7_go_67 (by decide) ?_
        refine A_icmp_ne (pc := 68) (tgt := 73) dX7_go_68 (by decide) (fun c68 => ?_) (fun c68 => ?_)
        · have d68 : goB n r pl e = true := by cases hq : goB n r pl e with
            | true => rfl
            | false => exact absurd ((oI_c hl hz).mpr hq) c68
          refine A_aload0 (pc := 73) dX7_go_73 ?_
          refine A_getf (pc := 74) flX7_32 dX7_go_74 rfl rfl ?_
          refine A_aload0 (pc := 77) dX7_go_77 ?_
          refine A_getf (pc := 78) flX7_101 dX7_go_78 rfl rfl ?_
          refine A_iload1 (pc := 81) dX7_go_81 ?_
          refine A_iastN (pc := 82) (i := r.2.2.2.1) (v := (tN e)) dX7_go_82 rfl rfl (exI_nat c13).1 (by omega) (by decide) ?_
          refine A_aload0 (pc := 83) dX7_go_83 ?_
          refine A_dup (pc := 84) dX7_go_84 rfl ?_
          refine A_getf (pc := 85) flX7_101 dX7_go_85 rfl rfl ?_
          refine A_iconst (pc := 88) (v := 1) dX7_go_88 (by decide) ?_
          refine A_iadd (pc := 89) dX7_go_89 ?_
          rw [nI_1]
          refine A_putf (pc := 90) flX7_101 ft7_13 dX7_go_90 rfl (Nat.le_of_ble_eq_true rfl) (fun _ => ⟨rfl, rfl⟩) ?_
          refine A_aload0 (pc := 93) dX7_go_93 ?_
          refine A_getf (pc := 94) flX7_101 dX7_go_94 rfl rfl ?_
          exact A_iret (pc := 97) dX7_go_97 rfl rfl (by decide) (by decide) (⟨by rw [if_pos gC, if_pos d68], by rw [if_pos gC, if_pos d68, if_pos gC]; rfl⟩)
        · have d68 : goB n r pl e = false := (oI_c hl hz).mp c68
          refine A_iconst (pc := 71) (v := -1) dX7_go_71 (by decide) ?_
          exact A_iret (pc := 72) dX7_go_72 rfl rfl (by decide) (by decide) (⟨by rw [if_pos gC, if_neg (by rw [d68]; decide)], by rw [if_pos gC, if_neg (by rw [d68]; decide), if_pos gC]⟩)
      · have d22 : r.2.2.2.1 = 30 := (nI_eq (by omega) (by decide)).mp c22
        refine A_iconst (pc := 25) (v := -1) dX7_go_25 (by decide) ?_
        exact A_iret (pc := 26) dX7_go_26 rfl rfl (by decide) (by decide) (by have gC : ¬ goC r e = true := (by unfold goC; rw [if_pos c4, if_pos c13, if_pos d22]; decide); exact ⟨by rw [if_neg gC], by rw [if_neg gC, if_neg gC]⟩)

set_option maxHeartbeats 4000000 in
set_option maxRecDepth 100000 in
theorem mp_routed {c : XV} {n : MN} {p : Nat → Nat} {al : Int32} {s : MS} {r : MR} {w : MW} {k : MK} {a : MA} {pl : MP} {fr : Nat → Nat} {t : MT} {rest : AH} (hl : VL n.2.2.1) (hr1 : r.2.1 < 24) (hr2 : r.2.2.1 < 4) (hr3 : r.2.2.2.1 ≤ 30) (hr4 : ∀ i, i < r.2.2.2.1 → r.2.2.2.2 i < 4) (x : Int32) : AS mX7_routed 1 0 0 [.ref 25, .int x] (MX c n p al s r w k a pl fr t rest) (P1 (rdM n r pl x) (MX c n p al s r w k a (if r.1 = true then (if x < 10 then goP n r pl else pl) else pl) fr t rest)) := by
  refine AS.go (lv := [some (.ref 25), some (.int x)]) rfl ?_ (by decide +kernel) rfl (Nat.le_of_ble_eq_true rfl)
  refine A_aload0 (pc := 0) dX7_routed_0 ?_
  refine A_getf (pc := 1) flX7_104 dX7_routed_1 rfl rfl ?_
  refine A_if_ne (pc := 4) (tgt := 9) dX7_routed_4 (by decide) (fun c4 => ?_) (fun c4 => ?_)
  · replace c4 := (bI_ne _).mp c4
    refine A_iload1 (pc := 9) dX7_routed_9 ?_
    refine A_bipush (pc := 10) (v := 10) dX7_routed_10 (by decide) ?_
    refine A_icmp_lt (pc := 12) (tgt := 40) dX7_routed_12 (by decide) (fun c12 => ?_) (fun c12 => ?_)
    · refine A_aload0 (pc := 40) dX7_routed_40 ?_
      refine A_aload0 (pc := 41) dX7_routed_41 ?_
      refine A_getf (pc := 42) flX7_98 dX7_routed_42 rfl rfl ?_
      refine A_aload0 (pc := 45) dX7_routed_45 ?_
      refine A_getf (pc := 46) flX7_154 dX7_routed_46 rfl rfl ?_
      refine A_aload0 (pc := 49) dX7_routed_49 ?_
      refine A_getf (pc := 50) flX7_32 dX7_routed_50 rfl rfl ?_
      refine A_iconst (pc := 53) (v := 0) dX7_routed_53 (by decide) ?_
      refine A_aload0 (pc := 54) dX7_routed_54 ?_
      refine A_getf (pc := 55) flX7_101 dX7_routed_55 rfl rfl ?_
      refine A_cvi (pc := 58) cvX7_157 (mp_follow (q := 32) (N := 30) (M := r.2.2.2.1) (g := r.2.2.2.2) hl (fun _ => rfl) (by decide) 0 (by omega) hr3 (fun j hj => by rw [Nat.zero_add]; exact hr4 j hj) r.2.1 r.2.2.1 hr1) dX7_routed_58 rfl rfl rfl rfl (Nat.le_of_ble_eq_true rfl) (by decide) (by decide) (by decide) ?_
      refine AW.heq (hp' := MX c n p al s r w k a (goP n r pl) fr t rest) rfl ?_
      refine A_pop (pc := 61) dX7_routed_61 rfl ?_
      refine A_iload1 (pc := 62) dX7_routed_62 ?_
      refine A_if_ne (pc := 63) (tgt := 73) dX7_routed_63 (by decide) (fun c63 => ?_) (fun c63 => ?_)
      · refine A_iload1 (pc := 73) dX7_routed_73 ?_
        refine A_iconst (pc := 74) (v := 1) dX7_routed_74 (by decide) ?_
        refine A_icmp_ne (pc := 75) (tgt := 90) dX7_routed_75 (by decide) (fun c75 => ?_) (fun c75 => ?_)
        · refine A_iload1 (pc := 90) dX7_routed_90 ?_
          refine A_iconst (pc := 91) (v := 2) dX7_routed_91 (by decide) ?_
          refine A_icmp_ne (pc := 92) (tgt := 107) dX7_routed_92 (by decide) (fun c92 => ?_) (fun c92 => ?_)
          · refine A_iconst (pc := 107) (v := -1) dX7_routed_107 (by decide) ?_
            exact A_iret (pc := 108) dX7_routed_108 rfl rfl (by decide) (by decide) (⟨by unfold rdM; rw [if_pos c4, if_pos c12, if_neg c63, if_neg c75, if_neg c92], by rw [if_pos c4, if_pos c12]⟩)
          · refine A_aload0 (pc := 95) dX7_routed_95 ?_
            refine A_getf (pc := 96) flX7_65 dX7_routed_96 rfl rfl ?_
            refine A_aload0 (pc := 99) dX7_routed_99 ?_
            refine A_getf (pc := 100) flX7_101 dX7_routed_100 rfl rfl ?_
            refine A_ialdN (pc := 103) (i := r.2.2.2.1) dX7_routed_103 rfl rfl (by omega) (by decide) ?_
            refine A_goto (pc := 104) (tgt := 108) dX7_routed_104 (by decide) ?_
            exact A_iret (pc := 108) dX7_routed_108 rfl rfl (by decide) (by decide) (⟨by unfold rdM; rw [if_pos c4, if_pos c12, if_neg c63, if_neg c75, if_pos c92], by rw [if_pos c4, if_pos c12]⟩)
        · refine A_aload0 (pc := 78) dX7_routed_78 ?_
          refine A_getf (pc := 79) flX7_62 dX7_routed_79 rfl rfl ?_
          refine A_aload0 (pc := 82) dX7_routed_82 ?_
          refine A_getf (pc := 83) flX7_101 dX7_routed_83 rfl rfl ?_
          refine A_ialdN (pc := 86) (i := r.2.2.2.1) dX7_routed_86 rfl rfl (by omega) (by decide) ?_
          refine A_goto (pc := 87) (tgt := 108) dX7_routed_87 (by decide) ?_
          exact A_iret (pc := 108) dX7_routed_108 rfl rfl (by decide) (by decide) (⟨by unfold rdM; rw [if_pos c4, if_pos c12, if_neg c63, if_pos c75], by rw [if_pos c4, if_pos c12]⟩)
      · refine A_aload0 (pc := 66) dX7_routed_66 ?_
        refine A_getf (pc := 67) flX7_101 dX7_routed_67 rfl rfl ?_
        refine A_goto (pc := 70) (tgt := 108) dX7_routed_70 (by decide) ?_
        exact A_iret (pc := 108) dX7_routed_108 rfl rfl (by decide) (by decide) (⟨by unfold rdM; rw [if_pos c4, if_pos c12, if_pos c63], by rw [if_pos c4, if_pos c12]⟩)
    · refine A_iload1 (pc := 15) dX7_routed_15 ?_
      refine A_bipush (pc := 16) (v := 10) dX7_routed_16 (by decide) ?_
      refine A_isub (pc := 18) dX7_routed_18 ?_
      refine A_aload0 (pc := 19) dX7_routed_19 ?_
      refine A_getf (pc := 20) flX7_101 dX7_routed_20 rfl rfl ?_
      refine A_icmp_ge (pc := 23) (tgt := 38) dX7_routed_23 (by decide) (fun c23 => ?_) (fun c23 => ?_)
      · refine A_iconst (pc := 38) (v := -1) dX7_routed_38 (by decide) ?_
        exact A_iret (pc := 39) dX7_routed_39 rfl rfl (by decide) (by decide) (⟨by unfold rdM; rw [if_pos c4, if_neg c12, if_pos c23], by rw [if_pos c4, if_neg c12]⟩)
      · refine A_aload0 (pc := 26) dX7_routed_26 ?_
        refine A_getf (pc := 27) flX7_32 dX7_routed_27 rfl rfl ?_
        refine A_iload1 (pc := 30) dX7_routed_30 ?_
        refine A_bipush (pc := 31) (v := 10) dX7_routed_31 (by decide) ?_
        refine A_isub (pc := 33) dX7_routed_33 ?_
        refine A_ialdN (pc := 34) (i := (tN (x - 10))) dX7_routed_34 rfl (sub10 (by omega) c12 c23).1 (by have := (sub10 (by omega) c12 c23).2; omega) (by decide) ?_
        refine A_goto (pc := 35) (tgt := 39) dX7_routed_35 (by decide) ?_
        exact A_iret (pc := 39) dX7_routed_39 rfl rfl (by decide) (by decide) (⟨by unfold rdM; rw [if_pos c4, if_neg c12, if_neg c23], by rw [if_pos c4, if_neg c12]⟩)
  · replace c4 := (bI_eq _).mp c4
    refine A_iconst (pc := 7) (v := -1) dX7_routed_7 (by decide) ?_
    exact A_iret (pc := 8) dX7_routed_8 rfl rfl (by decide) (by decide) (⟨by unfold rdM; rw [if_neg (by rw [c4]; decide)], by rw [if_neg (by rw [c4]; decide)]⟩)

set_option maxHeartbeats 4000000 in
set_option maxRecDepth 100000 in
theorem mp_walked {c : XV} {n : MN} {p : Nat → Nat} {al : Int32} {s : MS} {r : MR} {w : MW} {k : MK} {a : MA} {pl : MP} {fr : Nat → Nat} {t : MT} {rest : AH} (x : Int32) : AS mX7_walked 0 0 0 [.ref 25, .int x] (MX c n p al s r w k a pl fr t rest) (P1 (rwM w x) (MX c n p al s r w k a pl fr t rest)) := by
  refine AS.go (lv := [some (.ref 25), some (.int x)]) rfl ?_ (by decide +kernel) rfl (Nat.le_of_ble_eq_true rfl)
  refine A_aload0 (pc := 0) dX7_walked_0 ?_
  refine A_getf (pc := 1) flX7_139 dX7_walked_1 rfl rfl ?_
  refine A_if_ne (pc := 4) (tgt := 9) dX7_walked_4 (by decide) (fun c4 => ?_) (fun c4 => ?_)
  · replace c4 := (bI_ne _).mp c4
    refine A_iload1 (pc := 9) dX7_walked_9 ?_
    refine A_bipush (pc := 10) (v := 10) dX7_walked_10 (by decide) ?_
    refine A_icmp_lt (pc := 12) (tgt := 50) dX7_walked_12 (by decide) (fun c12 => ?_) (fun c12 => ?_)
    · refine A_iload1 (pc := 50) dX7_walked_50 ?_
      refine A_if_ne (pc := 51) (tgt := 61) dX7_walked_51 (by decide) (fun c51 => ?_) (fun c51 => ?_)
      · refine A_iload1 (pc := 61) dX7_walked_61 ?_
        refine A_iconst (pc := 62) (v := 1) dX7_walked_62 (by decide) ?_
        refine A_icmp_ne (pc := 63) (tgt := 73) dX7_walked_63 (by decide) (fun c63 => ?_) (fun c63 => ?_)
        · refine A_iload1 (pc := 73) dX7_walked_73 ?_
          refine A_iconst (pc := 74) (v := 2) dX7_walked_74 (by decide) ?_
          refine A_icmp_ne (pc := 75) (tgt := 85) dX7_walked_75 (by decide) (fun c75 => ?_) (fun c75 => ?_)
          · refine A_iconst (pc := 85) (v := -1) dX7_walked_85 (by decide) ?_
            exact A_iret (pc := 86) dX7_walked_86 rfl rfl (by decide) (by decide) (⟨by unfold rwM; rw [if_pos c4, if_pos c12, if_neg c51, if_neg c63, if_neg c75], rfl⟩)
          · refine A_aload0 (pc := 78) dX7_walked_78 ?_
            refine A_getf (pc := 79) flX7_142 dX7_walked_79 rfl rfl ?_
            refine A_goto (pc := 82) (tgt := 86) dX7_walked_82 (by decide) ?_
            exact A_iret (pc := 86) dX7_walked_86 rfl rfl (by decide) (by decide) (⟨by unfold rwM; rw [if_pos c4, if_pos c12, if_neg c51, if_neg c63, if_pos c75], rfl⟩)
        · refine A_aload0 (pc := 66) dX7_walked_66 ?_
          refine A_getf (pc := 67) flX7_151 dX7_walked_67 rfl rfl ?_
          refine A_goto (pc := 70) (tgt := 86) dX7_walked_70 (by decide) ?_
          exact A_iret (pc := 86) dX7_walked_86 rfl rfl (by decide) (by decide) (⟨by unfold rwM; rw [if_pos c4, if_pos c12, if_neg c51, if_pos c63], rfl⟩)
      · refine A_aload0 (pc := 54) dX7_walked_54 ?_
        refine A_getf (pc := 55) flX7_148 dX7_walked_55 rfl rfl ?_
        refine A_goto (pc := 58) (tgt := 86) dX7_walked_58 (by decide) ?_
        exact A_iret (pc := 86) dX7_walked_86 rfl rfl (by decide) (by decide) (⟨by unfold rwM; rw [if_pos c4, if_pos c12, if_pos c51], rfl⟩)
    · refine A_iload1 (pc := 15) dX7_walked_15 ?_
      refine A_bipush (pc := 16) (v := 10) dX7_walked_16 (by decide) ?_
      refine A_isub (pc := 18) dX7_walked_18 ?_
      refine A_aload0 (pc := 19) dX7_walked_19 ?_
      refine A_getf (pc := 20) flX7_142 dX7_walked_20 rfl rfl ?_
      refine A_icmp_ge (pc := 23) (tgt := 48) dX7_walked_23 (by decide) (fun c23 => ?_) (fun c23 => ?_)
      · refine A_iconst (pc := 48) (v := -1) dX7_walked_48 (by decide) ?_
        exact A_iret (pc := 49) dX7_walked_49 rfl rfl (by decide) (by decide) (⟨by unfold rwM; rw [if_pos c4, if_neg c12, if_pos c23], rfl⟩)
      · refine A_iload1 (pc := 26) dX7_walked_26 ?_
        refine A_bipush (pc := 27) (v := 10) dX7_walked_27 (by decide) ?_
        refine A_isub (pc := 29) dX7_walked_29 ?_
        refine A_sipush (pc := 30) (v := 200) dX7_walked_30 (by decide) ?_
        refine A_icmp_ge (pc := 33) (tgt := 48) dX7_walked_33 (by decide) (fun c33 => ?_) (fun c33 => ?_)
        · refine A_iconst (pc := 48) (v := -1) dX7_walked_48 (by decide) ?_
          exact A_iret (pc := 49) dX7_walked_49 rfl rfl (by decide) (by decide) (⟨by unfold rwM; rw [if_pos c4, if_neg c12, if_neg c23, if_pos c33], rfl⟩)
        · refine A_aload0 (pc := 36) dX7_walked_36 ?_
          refine A_getf (pc := 37) flX7_35 dX7_walked_37 rfl rfl ?_
          refine A_iload1 (pc := 40) dX7_walked_40 ?_
          refine A_bipush (pc := 41) (v := 10) dX7_walked_41 (by decide) ?_
          refine A_isub (pc := 43) dX7_walked_43 ?_
          refine A_ialdN (pc := 44) (i := (tN (x - 10))) dX7_walked_44 rfl (sub10 (M := 200) (by decide) c12 c33).1 (sub10 (M := 200) (by decide) c12 c33).2 (by decide) ?_
          refine A_goto (pc := 45) (tgt := 49) dX7_walked_45 (by decide) ?_
          exact A_iret (pc := 49) dX7_walked_49 rfl rfl (by decide) (by decide) (⟨by unfold rwM; rw [if_pos c4, if_neg c12, if_neg c23, if_neg c33], rfl⟩)
  · replace c4 := (bI_eq _).mp c4
    refine A_iconst (pc := 7) (v := -1) dX7_walked_7 (by decide) ?_
    exact A_iret (pc := 8) dX7_walked_8 rfl rfl (by decide) (by decide) (⟨by unfold rwM; rw [if_neg (by rw [c4]; decide)], rfl⟩)
