/-! the model: still, keep, slip, count -/
def VK (k : MK) : Prop := k.1 ≤ 8 ∧ ∀ j, j < k.1 → k.2.1 j < 24 ∧ k.2.2.1 j < 4 ∧ k.2.2.2.2.1 j ≤ 30 ∧ (∀ i, i < k.2.2.2.2.1 j → k.2.2.2.1 (30 * j + i) < 4) ∧ k.2.2.2.2.2.2.2 j ≤ 60 ∧ ∀ i, i < k.2.2.2.2.2.2.2 j → k.2.2.2.2.2.1 (60 * j + i) < 9 ∧ k.2.2.2.2.2.2.1 (60 * j + i) ≤ 9 ∧ (k.2.2.2.2.2.1 (60 * j + i) = 4 ∨ k.2.2.2.2.2.1 (60 * j + i) = 5 → 1 ≤ k.2.2.2.2.2.2.1 (60 * j + i))
def slR (n : MN) (k : MK) (j : Nat) (a : MA) (pl : MP) : Bool × MA × MP := teR n k.2.2.2.1 (30 * j) (k.2.2.2.2.1 j) k.2.2.2.2.2.1 k.2.2.2.2.2.2.1 (60 * j) (k.2.2.2.2.2.2.2 j) (k.2.1 j) (k.2.2.1 j) a pl
def kxT (ex : Nat → Nat) (b : Nat) : Nat → Nat → (Nat → Nat) → (Nat → Nat)
  | 0, _, f => f
  | m + 1, i, f => kxT ex b m (i + 1) (updN f (b + i) (ex i))
def keK (s : MS) (r : MR) (k : MK) : MK := (k.1 + 1, updN k.2.1 k.1 r.2.1, updN k.2.2.1 k.1 r.2.2.1, kxT r.2.2.2.2 (30 * k.1) r.2.2.2.1 0 k.2.2.2.1, updN k.2.2.2.2.1 k.1 r.2.2.2.1, kxT s.2.1 (60 * k.1) s.1 0 k.2.2.2.2.2.1, kxT s.2.2 (60 * k.1) s.1 0 k.2.2.2.2.2.2.1, updN k.2.2.2.2.2.2.2 k.1 s.1)
def ctB (ld : Nat → Option Nat) (x : Nat) : Bool := match ld x with
  | none => false
  | some y => decide (x < y)
def ctT (ld : Nat → Option Nat) : Nat → Nat → Nat → Nat
  | 0, _, acc => acc
  | m + 1, x, acc => ctT ld m (x + 1) (if ctB ld x = true then acc + 1 else acc)
def spT (p kd : Nat → Nat) : Nat → Nat → Nat → Nat
  | 0, _, acc => acc
  | m + 1, i, acc => spT p kd m (i + 1) (acc + p (kd i))
def cnM (n : MN) (p : Nat → Nat) (al : Int32) (s : MS) (k : MK) (x : Int32) : Int32 := if x = 0 then nI n.1 else if x = 1 then nI (ctT n.2.2.1 (4 * n.1) 0 0) else if x = 2 then nI s.1 else if x = 3 then nI k.1 else if x = 4 then nI (spT p s.2.1 s.1 0 0) else if x = 5 then al else -1
theorem ct_le {ld : Nat → Option Nat} {x : Nat} (hx : x < 2 ^ 31) (hv : ∀ y, ld x = some y → y < 96) : oI (ld x) ≤ nI x ↔ ctB ld x = false := by
  unfold ctB
  cases hy : ld x with
  | none =>
    refine ⟨fun _ => rfl, fun _ => ?_⟩
    show (-1 : Int32) ≤ nI x
    rw [fa_le, nI_toInt hx]
    have e : (-1 : Int32).toInt = -1 := by decide
    omega
  | some y =>
    have := hv y hy
    show nI y ≤ nI x ↔ decide (x < y) = false
    rw [nI_leI (by omega) hx]
    simp

set_option maxHeartbeats 4000000 in
set_option maxRecDepth 100000 in
theorem mp_still {c : XV} {n : MN} {p : Nat → Nat} {al : Int32} {s : MS} {r : MR} {w : MW} {k : MK} {a : MA} {pl : MP} {fr : Nat → Nat} {t : MT} {rest : AH} (hl : VL n.2.2.1) (hnm : ∀ x, x < 96 → n.2.2.2 x < 2 ^ 31) (hsg : ∀ x, x < 24 → n.2.1 x < 2 ^ 31) (hk : VK k) (x : Int32) : AS mX7_still 4 0 0 [.ref 25, .int x] (MX c n p al s r w k a pl fr t rest) (P1 (if inI x 0 (nI k.1 - 1) = true then bI (slR n k (tN x) a pl).1 else -1) (MX c n p al s r w k (if inI x 0 (nI k.1 - 1) = true then (slR n k (tN x) a pl).2.1 else a) (if inI x 0 (nI k.1 - 1) = true then (slR n k (tN x) a pl).2.2 else pl) fr t rest)) := by
  refine AS.go (lv := [some (.ref 25), some (.int x)]) rfl ?_ (by decide +kernel) rfl (Nat.le_of_ble_eq_true rfl)
  have hk8 := hk.1
  cases hh : inI x 0 (nI k.1 - 1) with
  | false =>
    refine A_iload1 (pc := 0) dX7_still_0 ?_
    refine A_iconst (pc := 1) (v := 0) dX7_still_1 (by decide) ?_
    refine A_aload0 (pc := 2) dX7_still_2 ?_
    refine A_getf (pc := 3) flX7_188 dX7_still_3 rfl rfl ?_
    refine A_iconst (pc := 6) (v := 1) dX7_still_6 (by decide) ?_
    refine A_isub (pc := 7) dX7_still_7 ?_
    refine A_csi (pc := 8) csX7_86 (mp_in _ _ _) dX7_still_8 rfl rfl (Nat.le_of_ble_eq_true rfl) (by decide) (by decide) (by decide) ?_
    refine A_if_ne (pc := 11) (tgt := 16) dX7_still_11 (by decide) (fun c11 => absurd (by rw [hh]; rfl) c11) (fun c11 => ?_)
    refine A_iconst (pc := 14) (v := -1) dX7_still_14 (by decide) ?_
    exact A_iret (pc := 15) dX7_still_15 rfl rfl (by decide) (by decide) (⟨rfl, rfl⟩)
  | true =>
    obtain ⟨e1, e2⟩ := inI_pred (by omega) hh
    obtain ⟨j, hj⟩ : ∃ j, j = tN x := ⟨_, rfl⟩
    rw [← hj] at e1 e2 ⊢
    subst e1
    obtain ⟨v1, v2, v3, v4, v5, v6⟩ := hk.2 j e2
    simp only [if_true]
    refine A_iload1 (pc := 0) dX7_still_0 ?_
    refine A_iconst (pc := 1) (v := 0) dX7_still_1 (by decide) ?_
    refine A_aload0 (pc := 2) dX7_still_2 ?_
    refine A_getf (pc := 3) flX7_188 dX7_still_3 rfl rfl ?_
    refine A_iconst (pc := 6) (v := 1) dX7_still_6 (by decide) ?_
    refine A_isub (pc := 7) dX7_still_7 ?_
    refine A_csi (pc := 8) csX7_86 (mp_in _ _ _) dX7_still_8 rfl rfl (Nat.le_of_ble_eq_true rfl) (by decide) (by decide) (by decide) ?_
    refine A_if_ne (pc := 11) (tgt := 16) dX7_still_11 (by decide) (fun c11 => ?_) (fun c11 => absurd c11 (by rw [hh]; decide))
    refine A_aload0 (pc := 16) dX7_still_16 ?_
    refine A_aload0 (pc := 17) dX7_still_17 ?_
    refine A_getf (pc := 18) flX7_38 dX7_still_18 rfl rfl ?_
    refine A_iload1 (pc := 21) dX7_still_21 ?_
    refine A_ialdN (pc := 22) (i := j) dX7_still_22 rfl rfl (by omega) (by decide) ?_
    refine A_aload0 (pc := 23) dX7_still_23 ?_
    refine A_getf (pc := 24) flX7_41 dX7_still_24 rfl rfl ?_
    refine A_iload1 (pc := 27) dX7_still_27 ?_
    refine A_ialdN (pc := 28) (i := j) dX7_still_28 rfl rfl (by omega) (by decide) ?_
    refine A_aload0 (pc := 29) dX7_still_29 ?_
    refine A_getf (pc := 30) flX7_44 dX7_still_30 rfl rfl ?_
    refine A_bipush (pc := 33) (v := 30) dX7_still_33 (by decide) ?_
    refine A_iload1 (pc := 35) dX7_still_35 ?_
    refine A_imul (pc := 36) dX7_still_36 ?_
    rw [show (30 : Int32) * nI j = nI (30 * j) from pk_mul 30 j]
    refine A_aload0 (pc := 37) dX7_still_37 ?_
    refine A_getf (pc := 38) flX7_47 dX7_still_38 rfl rfl ?_
    refine A_iload1 (pc := 41) dX7_still_41 ?_
    refine A_ialdN (pc := 42) (i := j) dX7_still_42 rfl rfl (by omega) (by decide) ?_
    refine A_aload0 (pc := 43) dX7_still_43 ?_
    refine A_getf (pc := 44) flX7_50 dX7_still_44 rfl rfl ?_
    refine A_aload0 (pc := 47) dX7_still_47 ?_
    refine A_getf (pc := 48) flX7_53 dX7_still_48 rfl rfl ?_
    refine A_bipush (pc := 51) (v := 60) dX7_still_51 (by decide) ?_
    refine A_iload1 (pc := 53) dX7_still_53 ?_
    refine A_imul (pc := 54) dX7_still_54 ?_
    rw [show (60 : Int32) * nI j = nI (60 * j) from pk_mul 60 j]
    refine A_aload0 (pc := 55) dX7_still_55 ?_
    refine A_getf (pc := 56) flX7_56 dX7_still_56 rfl rfl ?_
    refine A_iload1 (pc := 59) dX7_still_59 ?_
    refine A_ialdN (pc := 60) (i := j) dX7_still_60 rfl rfl (by omega) (by decide) ?_
    refine A_cvi (pc := 61) cvX7_173 (mp_tells hl hnm hsg (q := 36) (kq := 38) (nq := 39) (N := 240) (N2 := 480) (M := k.2.2.2.2.1 j) (S := k.2.2.2.2.2.2.2 j) (g := k.2.2.2.1) (kd := k.2.2.2.2.2.1) (nb := k.2.2.2.2.2.2.1) (fun _ _ => rfl) (fun _ _ => rfl) (fun _ _ => rfl) (by decide) (by decide) (30 * j) (60 * j) (by omega) v3 v4 (by omega) v5 v6 (k.2.1 j) (k.2.2.1 j) v1 v2) dX7_still_61 rfl rfl rfl rfl (Nat.le_of_ble_eq_true rfl) (by decide) (by decide) (by decide) ?_
    refine A_if_eq (pc := 64) (tgt := 71) dX7_still_64 (by decide) (fun c64 => ?_) (fun c64 => ?_)
    · replace c64 := (bI_eq _).mp c64
      refine A_iconst (pc := 71) (v := 0) dX7_still_71 (by decide) ?_
      exact A_iret (pc := 72) dX7_still_72 rfl rfl (by decide) (by decide) (⟨by unfold slR; rw [c64]; rfl, rfl⟩)
    · replace c64 := (bI_ne _).mp c64
      refine A_iconst (pc := 67) (v := 1) dX7_still_67 (by decide) ?_
      refine A_goto (pc := 68) (tgt := 72) dX7_still_68 (by decide) ?_
      exact A_iret (pc := 72) dX7_still_72 rfl rfl (by decide) (by decide) (⟨by unfold slR; rw [c64]; rfl, rfl⟩)

set_option maxHeartbeats 4000000 in
set_option maxRecDepth 100000 in
theorem mlp_ke2 {c : XV} {n : MN} {p : Nat → Nat} {al : Int32} {s : MS} {r : MR} {w : MW} {k : MK} {a : MA} {pl : MP} {fr : Nat → Nat} {t : MT} {rest : AH} (hk : k.1 < 8) (hs : s.1 ≤ 60) (e9 : Nat → Nat) (m : Nat) : ∀ (i : Nat) (f g : Nat → Nat) (_ : i + m = s.1), AW mX7_keep 0 0 0 0 0 108 [some (.ref 25), some (.int (nI i))] [] (MX c n p al s r w ((k.1, updN k.2.1 k.1 r.2.1, updN k.2.2.1 k.1 r.2.2.1, e9, updN k.2.2.2.2.1 k.1 r.2.2.2.1, f, g, updN k.2.2.2.2.2.2.2 k.1 s.1)) a pl fr t rest) (P1 (nI k.1) (MX c n p al s r w ((k.1 + 1, updN k.2.1 k.1 r.2.1, updN k.2.2.1 k.1 r.2.2.1, e9, updN k.2.2.2.2.1 k.1 r.2.2.2.1, kxT s.2.1 (60 * k.1) m i f, kxT s.2.2 (60 * k.1) m i g, updN k.2.2.2.2.2.2.2 k.1 s.1)) a pl fr t rest)) := by
  induction m with
  | zero =>
    intro i f g hi
    refine A_iload1 (pc := 108) dX7_keep_108 ?_
    refine A_aload0 (pc := 109) dX7_keep_109 ?_
    refine A_getf (pc := 110) flX7_136 dX7_keep_110 rfl rfl ?_
    refine A_icmp_ge (pc := 113) (tgt := 162) dX7_keep_113 (by decide) (fun c113 => ?_) (fun c113 => absurd (show nI s.1 ≤ nI i from nI_le (by omega) (by omega)) c113)
    refine A_aload0 (pc := 162) dX7_keep_162 ?_
    refine A_dup (pc := 163) dX7_keep_163 rfl ?_
    refine A_getf (pc := 164) flX7_188 dX7_keep_164 rfl rfl ?_
    refine A_iconst (pc := 167) (v := 1) dX7_keep_167 (by decide) ?_
    refine A_iadd (pc := 168) dX7_keep_168 ?_
    rw [show nI k.1 + 1 = nI (k.1 + 1) from nI_1 k.1]
    refine A_putf (pc := 169) flX7_188 ft7_26 dX7_keep_169 rfl (Nat.le_of_ble_eq_true rfl) (fun _ => ⟨rfl, rfl⟩) ?_
    refine A_aload0 (pc := 172) dX7_keep_172 ?_
    refine A_getf (pc := 173) flX7_188 dX7_keep_173 rfl rfl ?_
    refine A_iconst (pc := 176) (v := 1) dX7_keep_176 (by decide) ?_
    refine A_isub (pc := 177) dX7_keep_177 ?_
    rw [show nI (k.1 + 1) - 1 = nI k.1 from nI_pred k.1]
    exact A_iret (pc := 178) dX7_keep_178 rfl rfl (by decide) (by decide) (⟨rfl, rfl⟩)
  | succ m ih =>
    intro i f g hi
    refine A_iload1 (pc := 108) dX7_keep_108 ?_
    refine A_aload0 (pc := 109) dX7_keep_109 ?_
    refine A_getf (pc := 110) flX7_136 dX7_keep_110 rfl rfl ?_
    refine A_icmp_ge (pc := 113) (tgt := 162) dX7_keep_113 (by decide) (fun c113 => absurd c113 (show ¬ nI s.1 ≤ nI i from nI_ge (by omega) (by omega))) (fun c113 => ?_)
    refine A_aload0 (pc := 116) dX7_keep_116 ?_
    refine A_getf (pc := 117) flX7_50 dX7_keep_117 rfl rfl ?_
    refine A_bipush (pc := 120) (v := 60) dX7_keep_120 (by decide) ?_
    refine A_aload0 (pc := 122) dX7_keep_122 ?_
    refine A_getf (pc := 123) flX7_188 dX7_keep_123 rfl rfl ?_
    refine A_imul (pc := 126) dX7_keep_126 ?_
    refine A_iload1 (pc := 127) dX7_keep_127 ?_
    refine A_iadd (pc := 128) dX7_keep_128 ?_
    refine A_aload0 (pc := 129) dX7_keep_129 ?_
    refine A_getf (pc := 130) flX7_26 dX7_keep_130 rfl rfl ?_
    refine A_iload1 (pc := 133) dX7_keep_133 ?_
    refine A_ialdN (pc := 134) (i := i) dX7_keep_134 rfl rfl (by omega) (by decide) ?_
    refine A_iastN (pc := 135) (i := (60 * k.1 + i)) (v := (s.2.1 i)) dX7_keep_135 rfl (by rw [show (60 : Int32) * nI k.1 = nI (60 * k.1) from pk_mul 60 k.1, nI_add]) rfl (by omega) (by decide) ?_
    refine A_aload0 (pc := 136) dX7_keep_136 ?_
    refine A_getf (pc := 137) flX7_53 dX7_keep_137 rfl rfl ?_
    refine A_bipush (pc := 140) (v := 60) dX7_keep_140 (by decide) ?_
    refine A_aload0 (pc := 142) dX7_keep_142 ?_
    refine A_getf (pc := 143) flX7_188 dX7_keep_143 rfl rfl ?_
    refine A_imul (pc := 146) dX7_keep_146 ?_
    refine A_iload1 (pc := 147) dX7_keep_147 ?_
    refine A_iadd (pc := 148) dX7_keep_148 ?_
    refine A_aload0 (pc := 149) dX7_keep_149 ?_
    refine A_getf (pc := 150) flX7_29 dX7_keep_150 rfl rfl ?_
    refine A_iload1 (pc := 153) dX7_keep_153 ?_
    refine A_ialdN (pc := 154) (i := i) dX7_keep_154 rfl rfl (by omega) (by decide) ?_
    refine A_iastN (pc := 155) (i := (60 * k.1 + i)) (v := (s.2.2 i)) dX7_keep_155 rfl (by rw [show (60 : Int32) * nI k.1 = nI (60 * k.1) from pk_mul 60 k.1, nI_add]) rfl (by omega) (by decide) ?_
    refine AW.heq (hp' := MX c n p al s r w ((k.1, updN k.2.1 k.1 r.2.1, updN k.2.2.1 k.1 r.2.2.1, e9, updN k.2.2.2.2.1 k.1 r.2.2.2.1, updN f (60 * k.1 + i) (s.2.1 i), updN g (60 * k.1 + i) (s.2.2 i), updN k.2.2.2.2.2.2.2 k.1 s.1)) a pl fr t rest) rfl ?_
    refine A_iinc1 (pc := 156) dX7_keep_156 (by decide) (nI_1 i) ?_
    refine A_goto (pc := 159) (tgt := 108) dX7_keep_159 (by decide) ?_
    simp only [kxT]
    exact ih (i + 1) _ _ (by omega)

set_option maxHeartbeats 4000000 in
set_option maxRecDepth 100000 in
theorem mlp_ke1 {c : XV} {n : MN} {p : Nat → Nat} {al : Int32} {s : MS} {r : MR} {w : MW} {k : MK} {a : MA} {pl : MP} {fr : Nat → Nat} {t : MT} {rest : AH} (hk : k.1 < 8) (hs : s.1 ≤ 60) (hr3 : r.2.2.2.1 ≤ 30) (m : Nat) : ∀ (i : Nat) (f : Nat → Nat) (_ : i + m = r.2.2.2.1), AW mX7_keep 0 0 0 0 0 59 [some (.ref 25), some (.int (nI i))] [] (MX c n p al s r w ((k.1, updN k.2.1 k.1 r.2.1, updN k.2.2.1 k.1 r.2.2.1, f, updN k.2.2.2.2.1 k.1 r.2.2.2.1, k.2.2.2.2.2.1, k.2.2.2.2.2.2.1, k.2.2.2.2.2.2.2)) a pl fr t rest) (P1 (nI k.1) (MX c n p al s r w ((k.1 + 1, updN k.2.1 k.1 r.2.1, updN k.2.2.1 k.1 r.2.2.1, kxT r.2.2.2.2 (30 * k.1) m i f, updN k.2.2.2.2.1 k.1 r.2.2.2.1, kxT s.2.1 (60 * k.1) s.1 0 k.2.2.2.2.2.1, kxT s.2.2 (60 * k.1) s.1 0 k.2.2.2.2.2.2.1, updN k.2.2.2.2.2.2.2 k.1 s.1)) a pl fr t rest)) := by
  induction m with
  | zero =>
    intro i f hi
    refine A_iload1 (pc := 59) dX7_keep_59 ?_
    refine A_aload0 (pc := 60) dX7_keep_60 ?_
    refine A_getf (pc := 61) flX7_101 dX7_keep_61 rfl rfl ?_
    refine A_icmp_ge (pc := 64) (tgt := 93) dX7_keep_64 (by decide) (fun c64 => ?_) (fun c64 => absurd (show nI r.2.2.2.1 ≤ nI i from nI_le (by omega) (by omega)) c64)
    refine A_aload0 (pc := 93) dX7_keep_93 ?_
    refine A_getf (pc := 94) flX7_56 dX7_keep_94 rfl rfl ?_
    refine A_aload0 (pc := 97) dX7_keep_97 ?_
    refine A_getf (pc := 98) flX7_188 dX7_keep_98 rfl rfl ?_
    refine A_aload0 (pc := 101) dX7_keep_101 ?_
    refine A_getf (pc := 102) flX7_136 dX7_keep_102 rfl rfl ?_
    refine A_iastN (pc := 105) (i := k.1) (v := s.1) dX7_keep_105 rfl rfl rfl hk (by decide) ?_
    refine AW.heq (hp' := MX c n p al s r w ((k.1, updN k.2.1 k.1 r.2.1, updN k.2.2.1 k.1 r.2.2.1, f, updN k.2.2.2.2.1 k.1 r.2.2.2.1, k.2.2.2.2.2.1, k.2.2.2.2.2.2.1, updN k.2.2.2.2.2.2.2 k.1 s.1)) a pl fr t rest) rfl ?_
    refine A_iconst (pc := 106) (v := 0) dX7_keep_106 (by decide) ?_
    refine A_istore1 (pc := 107) dX7_keep_107 (by decide) ?_
    exact mlp_ke2 hk hs f s.1 0 _ _ (by omega)
  | succ m ih =>
    intro i f hi
    refine A_iload1 (pc := 59) dX7_keep_59 ?_
    refine A_aload0 (pc := 60) dX7_keep_60 ?_
    refine A_getf (pc := 61) flX7_101 dX7_keep_61 rfl rfl ?_
    refine A_icmp_ge (pc := 64) (tgt := 93) dX7_keep_64 (by decide) (fun c64 => absurd c64 (show ¬ nI r.2.2.2.1 ≤ nI i from nI_ge (by omega) (by omega))) (fun c64 => ?_)
    refine A_aload0 (pc := 67) dX7_keep_67 ?_
    refine A_getf (pc := 68) flX7_44 dX7_keep_68 rfl rfl ?_
    refine A_bipush (pc := 71) (v := 30) dX7_keep_71 (by decide) ?_
    refine A_aload0 (pc := 73) dX7_keep_73 ?_
    refine A_getf (pc := 74) flX7_188 dX7_keep_74 rfl rfl ?_
    refine A_imul (pc := 77) dX7_keep_77 ?_
    refine A_iload1 (pc := 78) dX7_keep_78 ?_
    refine A_iadd (pc := 79) dX7_keep_79 ?_
    refine A_aload0 (pc := 80) dX7_keep_80 ?_
    refine A_getf (pc := 81) flX7_32 dX7_keep_81 rfl rfl ?_
    refine A_iload1 (pc := 84) dX7_keep_84 ?_
    refine A_ialdN (pc := 85) (i := i) dX7_keep_85 rfl rfl (by omega) (by decide) ?_
    refine A_iastN (pc := 86) (i := (30 * k.1 + i)) (v := (r.2.2.2.2 i)) dX7_keep_86 rfl (by rw [show (30 : Int32) * nI k.1 = nI (30 * k.1) from pk_mul 30 k.1, nI_add]) rfl (by omega) (by decide) ?_
    refine AW.heq (hp' := MX c n p al s r w ((k.1, updN k.2.1 k.1 r.2.1, updN k.2.2.1 k.1 r.2.2.1, updN f (30 * k.1 + i) (r.2.2.2.2 i), updN k.2.2.2.2.1 k.1 r.2.2.2.1, k.2.2.2.2.2.1, k.2.2.2.2.2.2.1, k.2.2.2.2.2.2.2)) a pl fr t rest) rfl ?_
    refine A_iinc1 (pc := 87) dX7_keep_87 (by decide) (nI_1 i) ?_
    refine A_goto (pc := 90) (tgt := 59) dX7_keep_90 (by decide) ?_
    simp only [kxT]
    exact ih (i + 1) _ (by omega)

set_option maxHeartbeats 4000000 in
set_option maxRecDepth 100000 in
theorem mp_keep {c : XV} {n : MN} {p : Nat → Nat} {al : Int32} {s : MS} {r : MR} {w : MW} {k : MK} {a : MA} {pl : MP} {fr : Nat → Nat} {t : MT} {rest : AH} (hk : k.1 ≤ 8) (hs : s.1 ≤ 60) (hr3 : r.2.2.2.1 ≤ 30) : AS mX7_keep 0 0 0 [.ref 25] (MX c n p al s r w k a pl fr t rest) (P1 (if r.1 = true then (if k.1 = 8 then -1 else nI k.1) else -1) (MX c n p al s r w (if r.1 = true then (if k.1 = 8 then k else keK s r k) else k) a pl fr t rest)) := by
  refine AS.go (lv := [some (.ref 25), none]) rfl ?_ (by decide +kernel) rfl (Nat.le_of_ble_eq_true rfl)
  refine A_aload0 (pc := 0) dX7_keep_0 ?_
  refine A_getf (pc := 1) flX7_104 dX7_keep_1 rfl rfl ?_
  refine A_if_eq (pc := 4) (tgt := 16) dX7_keep_4 (by decide) (fun c4 => ?_) (fun c4 => ?_)
  · replace c4 := (bI_eq _).mp c4
    refine A_iconst (pc := 16) (v := -1) dX7_keep_16 (by decide) ?_
    exact A_iret (pc := 17) dX7_keep_17 rfl rfl (by decide) (by decide) (⟨by rw [if_neg (by rw [c4]; decide)], by rw [if_neg (by rw [c4]; decide)]⟩)
  · replace c4 := (bI_ne _).mp c4
    refine A_aload0 (pc := 7) dX7_keep_7 ?_
    refine A_getf (pc := 8) flX7_188 dX7_keep_8 rfl rfl ?_
    refine A_bipush (pc := 11) (v := 8) dX7_keep_11 (by decide) ?_
    refine A_icmp_ne (pc := 13) (tgt := 18) dX7_keep_13 (by decide) (fun c13 => ?_) (fun c13 => ?_)
    · have d13 : ¬ k.1 = 8 := fun q => c13 (by rw [q]; rfl)
      refine A_aload0 (pc := 18) dX7_keep_18 ?_
      refine A_getf (pc := 19) flX7_38 dX7_keep_19 rfl rfl ?_
      refine A_aload0 (pc := 22) dX7_keep_22 ?_
      refine A_getf (pc := 23) flX7_188 dX7_keep_23 rfl rfl ?_
      refine A_aload0 (pc := 26) dX7_keep_26 ?_
      refine A_getf (pc := 27) flX7_98 dX7_keep_27 rfl rfl ?_
      refine A_iastN (pc := 30) (i := k.1) (v := r.2.1) dX7_keep_30 rfl rfl rfl (by omega) (by decide) ?_
      refine A_aload0 (pc := 31) dX7_keep_31 ?_
      refine A_getf (pc := 32) flX7_41 dX7_keep_32 rfl rfl ?_
      refine A_aload0 (pc := 35) dX7_keep_35 ?_
      refine A_getf (pc := 36) flX7_188 dX7_keep_36 rfl rfl ?_
      refine A_aload0 (pc := 39) dX7_keep_39 ?_
      refine A_getf (pc := 40) flX7_154 dX7_keep_40 rfl rfl ?_
      refine A_iastN (pc := 43) (i := k.1) (v := r.2.2.1) dX7_keep_43 rfl rfl rfl (by omega) (by decide) ?_
      refine A_aload0 (pc := 44) dX7_keep_44 ?_
      refine A_getf (pc := 45) flX7_47 dX7_keep_45 rfl rfl ?_
      refine A_aload0 (pc := 48) dX7_keep_48 ?_
      refine A_getf (pc := 49) flX7_188 dX7_keep_49 rfl rfl ?_
      refine A_aload0 (pc := 52) dX7_keep_52 ?_
      refine A_getf (pc := 53) flX7_101 dX7_keep_53 rfl rfl ?_
      refine A_iastN (pc := 56) (i := k.1) (v := r.2.2.2.1) dX7_keep_56 rfl rfl rfl (by omega) (by decide) ?_
      refine AW.heq (hp' := MX c n p al s r w ((k.1, updN k.2.1 k.1 r.2.1, updN k.2.2.1 k.1 r.2.2.1, k.2.2.2.1, updN k.2.2.2.2.1 k.1 r.2.2.2.1, k.2.2.2.2.2.1, k.2.2.2.2.2.2.1, k.2.2.2.2.2.2.2)) a pl fr t rest) rfl ?_
      refine A_iconst (pc := 57) (v := 0) dX7_keep_57 (by decide) ?_
      refine A_istore1 (pc := 58) dX7_keep_58 (by decide) ?_
      rw [if_pos c4, if_neg d13, if_pos c4, if_neg d13]
      exact mlp_ke1 (by omega) hs hr3 r.2.2.2.1 0 _ (by omega)
    · have d13 : k.1 = 8 := (nI_eq (by omega) (by decide)).mp c13
      refine A_iconst (pc := 16) (v := -1) dX7_keep_16 (by decide) ?_
      exact A_iret (pc := 17) dX7_keep_17 rfl rfl (by decide) (by decide) (⟨by rw [if_pos c4, if_pos d13], by rw [if_pos c4, if_pos d13]⟩)

set_option maxHeartbeats 4000000 in
set_option maxRecDepth 100000 in
theorem mlp_ct {c : XV} {n : MN} {p : Nat → Nat} {al : Int32} {s : MS} {r : MR} {w : MW} {k : MK} {a : MA} {pl : MP} {fr : Nat → Nat} {t : MT} {rest : AH} (hl : VL n.2.2.1) (hK : n.1 ≤ 24) (x9 : Int32) (m : Nat) : ∀ (x acc : Nat) (_ : x + m = 4 * n.1) (_ : acc ≤ x), AW mX7_count 0 0 0 0 0 47 [some (.ref 25), some (.int x9), some (.int (nI acc)), some (.int (nI x))] [] (MX c n p al s r w k a pl fr t rest) (P1 (nI (ctT n.2.2.1 m x acc)) (MX c n p al s r w k a pl fr t rest)) := by
  induction m with
  | zero =>
    intro x acc hx ha
    refine A_iload3 (pc := 47) dX7_count_47 ?_
    refine A_iconst (pc := 48) (v := 4) dX7_count_48 (by decide) ?_
    refine A_aload0 (pc := 49) dX7_count_49 ?_
    refine A_getf (pc := 50) flX7_83 dX7_count_50 rfl rfl ?_
    refine A_imul (pc := 53) dX7_count_53 ?_
    refine A_icmp_ge (pc := 54) (tgt := 76) dX7_count_54 (by decide) (fun c54 => ?_) (fun c54 => absurd (show 4 * nI n.1 ≤ nI x from by rw [show (4 : Int32) * nI n.1 = nI (4 * n.1) from pk_mul 4 n.1]; exact nI_le (by omega) (by omega)) c54)
    refine A_iload2 (pc := 76) dX7_count_76 ?_
    exact A_iret (pc := 77) dX7_count_77 rfl rfl (by decide) (by decide) (⟨rfl, rfl⟩)
  | succ m ih =>
    intro x acc hx ha
    refine A_iload3 (pc := 47) dX7_count_47 ?_
    refine A_iconst (pc := 48) (v := 4) dX7_count_48 (by decide) ?_
    refine A_aload0 (pc := 49) dX7_count_49 ?_
    refine A_getf (pc := 50) flX7_83 dX7_count_50 rfl rfl ?_
    refine A_imul (pc := 53) dX7_count_53 ?_
    refine A_icmp_ge (pc := 54) (tgt := 76) dX7_count_54 (by decide) (fun c54 => absurd c54 (show ¬ 4 * nI n.1 ≤ nI x from by rw [show (4 : Int32) * nI n.1 = nI (4 * n.1) from pk_mul 4 n.1]; exact nI_ge (by omega) (by omega))) (fun c54 => ?_)
    refine A_aload0 (pc := 57) dX7_count_57 ?_
    refine A_getf (pc := 58) flX7_13 dX7_count_58 rfl rfl ?_
    refine A_iload3 (pc := 61) dX7_count_61 ?_
    refine A_ialdN (pc := 62) (i := x) dX7_count_62 rfl rfl (by omega) (by decide) ?_
    refine A_iload3 (pc := 63) dX7_count_63 ?_
    refine A_icmp_le (pc := 64) (tgt := 70) dX7_count_64 (by decide) (fun c64 => ?_) (fun c64 => ?_)
    · have d64 := (ct_le (by omega) (fun y q => hl x y (by omega) q)).mp c64
      refine A_iinc3 (pc := 70) dX7_count_70 (by decide) (nI_1 x) ?_
      refine A_goto (pc := 73) (tgt := 47) dX7_count_73 (by decide) ?_
      simp only [ctT, d64, if_true, if_false, Bool.false_eq_true]
      exact ih (x + 1) _ (by omega) (by omega)
    · have d64 : ctB n.2.2.1 x = true := by
        cases hq : ctB n.2.2.1 x with
        | true => rfl
        | false => exact absurd ((ct_le (by omega) (fun y q => hl x y (by omega) q)).mpr hq) c64
      refine A_iinc2 (pc := 67) dX7_count_67 (by decide) (nI_1 acc) ?_
      refine A_iinc3 (pc := 70) dX7_count_70 (by decide) (nI_1 x) ?_
      refine A_goto (pc := 73) (tgt := 47) dX7_count_73 (by decide) ?_
      simp only [ctT, d64, if_true, if_false, Bool.false_eq_true]
      exact ih (x + 1) _ (by omega) (by omega)

set_option maxHeartbeats 4000000 in
set_option maxRecDepth 100000 in
theorem mlp_sp {c : XV} {n : MN} {p : Nat → Nat} {al : Int32} {s : MS} {r : MR} {w : MW} {k : MK} {a : MA} {pl : MP} {fr : Nat → Nat} {t : MT} {rest : AH} (hs : VS s) (hp : ∀ x, x < 9 → p x ≤ 50) (x9 : Int32) (m : Nat) : ∀ (i acc : Nat) (_ : i + m = s.1), AW mX7_count 0 0 0 0 0 90 [some (.ref 25), some (.int x9), some (.int (nI acc)), some (.int (nI i))] [] (MX c n p al s r w k a pl fr t rest) (P1 (nI (spT p s.2.1 m i acc)) (MX c n p al s r w k a pl fr t rest)) := by
  induction m with
  | zero =>
    intro i acc hi
    refine A_iload3 (pc := 90) dX7_count_90 ?_
    refine A_aload0 (pc := 91) dX7_count_91 ?_
    refine A_getf (pc := 92) flX7_136 dX7_count_92 rfl rfl ?_
    refine A_icmp_ge (pc := 95) (tgt := 118) dX7_count_95 (by decide) (fun c95 => ?_) (fun c95 => absurd (show nI s.1 ≤ nI i from nI_le (by omega) (by have := hs.1; omega)) c95)
    refine A_iload2 (pc := 118) dX7_count_118 ?_
    exact A_iret (pc := 119) dX7_count_119 rfl rfl (by decide) (by decide) (⟨rfl, rfl⟩)
  | succ m ih =>
    intro i acc hi
    refine A_iload3 (pc := 90) dX7_count_90 ?_
    refine A_aload0 (pc := 91) dX7_count_91 ?_
    refine A_getf (pc := 92) flX7_136 dX7_count_92 rfl rfl ?_
    refine A_icmp_ge (pc := 95) (tgt := 118) dX7_count_95 (by decide) (fun c95 => absurd c95 (show ¬ nI s.1 ≤ nI i from nI_ge (by omega) (by have := hs.1; omega))) (fun c95 => ?_)
    refine A_iload2 (pc := 98) dX7_count_98 ?_
    refine A_aload0 (pc := 99) dX7_count_99 ?_
    refine A_getf (pc := 100) flX7_19 dX7_count_100 rfl rfl ?_
    refine A_aload0 (pc := 103) dX7_count_103 ?_
    refine A_getf (pc := 104) flX7_26 dX7_count_104 rfl rfl ?_
    refine A_iload3 (pc := 107) dX7_count_107 ?_
    refine A_ialdN (pc := 108) (i := i) dX7_count_108 rfl rfl (by have := hs.1; omega) (by decide) ?_
    refine A_ialdN (pc := 109) (i := (s.2.1 i)) dX7_count_109 rfl rfl (hs.2 i (by omega)).1 (by decide) ?_
    refine A_iadd (pc := 110) dX7_count_110 ?_
    rw [nI_add]
    refine A_istore2 (pc := 111) dX7_count_111 (by decide) ?_
    refine A_iinc3 (pc := 112) dX7_count_112 (by decide) (nI_1 i) ?_
    refine A_goto (pc := 115) (tgt := 90) dX7_count_115 (by decide) ?_
    simp only [spT]
    exact ih (i + 1) _ (by omega)

set_option maxHeartbeats 4000000 in
set_option maxRecDepth 100000 in
theorem mp_count {c : XV} {n : MN} {p : Nat → Nat} {al : Int32} {s : MS} {r : MR} {w : MW} {k : MK} {a : MA} {pl : MP} {fr : Nat → Nat} {t : MT} {rest : AH} (hl : VL n.2.2.1) (hK : n.1 ≤ 24) (hs : VS s) (hp : ∀ x, x < 9 → p x ≤ 50) (x : Int32) : AS mX7_count 0 0 0 [.ref 25, .int x] (MX c n p al s r w k a pl fr t rest) (P1 (cnM n p al s k x) (MX c n p al s r w k a pl fr t rest)) := by
  refine AS.go (lv := [some (.ref 25), some (.int x), none, none]) rfl ?_ (by decide +kernel) rfl (Nat.le_of_ble_eq_true rfl)
  refine A_iconst (pc := 0) (v := 0) dX7_count_0 (by decide) ?_
  refine A_istore2 (pc := 1) dX7_count_1 (by decide) ?_
  refine A_iload1 (pc := 2) dX7_count_2 ?_
  rcases sw_in x 0 5 (by decide) with hsw | ⟨j, hj1, hj2, hsw⟩
  · refine A_tsOut (pc := 3) (tgt := 125) dX7_count_3 hsw (by decide) ?_
    refine A_iconst (pc := 125) (v := -1) dX7_count_125 (by decide) ?_
    exact A_iret (pc := 126) dX7_count_126 rfl rfl (by decide) (by decide) (⟨by unfold cnM; rw [if_neg (sw_out hsw 0 (by decide)), if_neg (sw_out hsw 1 (by decide)), if_neg (sw_out hsw 2 (by decide)), if_neg (sw_out hsw 3 (by decide)), if_neg (sw_out hsw 4 (by decide)), if_neg (sw_out hsw 5 (by decide))], rfl⟩)
  · rcases (show j = 0 ∨ j = 1 ∨ j = 2 ∨ j = 3 ∨ j = 4 ∨ j = 5 by omega) with rfl | rfl | rfl | rfl | rfl | rfl
    · have e9 : x = 0 := hsw
      subst e9
      refine A_tsIn (pc := 3) (tgt := 40) dX7_count_3 (by decide) (by decide) rfl (by decide) ?_
      refine A_aload0 (pc := 40) dX7_count_40 ?_
      refine A_getf (pc := 41) flX7_83 dX7_count_41 rfl rfl ?_
      exact A_iret (pc := 44) dX7_count_44 rfl rfl (by decide) (by decide) (⟨by unfold cnM; rw [if_pos rfl], rfl⟩)
    · have e9 : x = 1 := hsw
      subst e9
      refine A_tsIn (pc := 3) (tgt := 45) dX7_count_3 (by decide) (by decide) rfl (by decide) ?_
      refine A_iconst (pc := 45) (v := 0) dX7_count_45 (by decide) ?_
      refine A_istore3 (pc := 46) dX7_count_46 (by decide) ?_
      rw [show cnM n p al s k 1 = nI (ctT n.2.2.1 (4 * n.1) 0 0) from rfl]
      exact mlp_ct hl hK _ (4 * n.1) 0 0 (by omega) (Nat.le_refl 0)
    · have e9 : x = 2 := hsw
      subst e9
      refine A_tsIn (pc := 3) (tgt := 78) dX7_count_3 (by decide) (by decide) rfl (by decide) ?_
      refine A_aload0 (pc := 78) dX7_count_78 ?_
      refine A_getf (pc := 79) flX7_136 dX7_count_79 rfl rfl ?_
      exact A_iret (pc := 82) dX7_count_82 rfl rfl (by decide) (by decide) (⟨by unfold cnM; rw [if_neg (by decide), if_neg (by decide), if_pos rfl], rfl⟩)
    · have e9 : x = 3 := hsw
      subst e9
      refine A_tsIn (pc := 3) (tgt := 83) dX7_count_3 (by decide) (by decide) rfl (by decide) ?_
      refine A_aload0 (pc := 83) dX7_count_83 ?_
      refine A_getf (pc := 84) flX7_188 dX7_count_84 rfl rfl ?_
      exact A_iret (pc := 87) dX7_count_87 rfl rfl (by decide) (by decide) (⟨by unfold cnM; rw [if_neg (by decide), if_neg (by decide), if_neg (by decide), if_pos rfl], rfl⟩)
    · have e9 : x = 4 := hsw
      subst e9
      refine A_tsIn (pc := 3) (tgt := 88) dX7_count_3 (by decide) (by decide) rfl (by decide) ?_
      refine A_iconst (pc := 88) (v := 0) dX7_count_88 (by decide) ?_
      refine A_istore3 (pc := 89) dX7_count_89 (by decide) ?_
      rw [show cnM n p al s k 4 = nI (spT p s.2.1 s.1 0 0) from rfl]
      exact mlp_sp hs hp _ s.1 0 0 (by omega)
    · have e9 : x = 5 := hsw
      subst e9
      refine A_tsIn (pc := 3) (tgt := 120) dX7_count_3 (by decide) (by decide) rfl (by decide) ?_
      refine A_aload0 (pc := 120) dX7_count_120 ?_
      refine A_getf (pc := 121) flX7_22 dX7_count_121 rfl rfl ?_
      exact A_iret (pc := 124) dX7_count_124 rfl rfl (by decide) (by decide) (⟨by unfold cnM; rw [if_neg (by decide), if_neg (by decide), if_neg (by decide), if_neg (by decide), if_neg (by decide), if_pos rfl], rfl⟩)
