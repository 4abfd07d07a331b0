/-! the model: route -/
theorem updN_s {f : Nat → Nat} {i v : Nat} : updN f i v i = v := if_pos rfl
theorem updN_n {f : Nat → Nat} {i v j : Nat} (h : ¬ j = i) : updN f i v j = f j := if_neg h
def one1 : Nat → Nat := fun _ => 1
def rNX (ld : Nat → Option Nat) : NX := fun k e => (ld (4 * k + e)).map (fun y => y / 4)
def r0F (T : Nat) (i : Nat) (f : Nat → Nat) : Nat → Nat := updN f i (if i = T then 0 else BIG)
def rxF (ld : Nat → Option Nat) (x : Nat) (f : Nat → Nat) : Nat → Nat := match ld x with
  | none => f
  | some y => if f (y / 4) + 1 < f (x / 4) then updN f (x / 4) (f (y / 4) + 1) else f
def rsF (ld : Nat → Option Nat) (K : Nat) (f : Nat → Nat) : Nat → Nat := itT (rxF ld) (4 * K) 0 f
def raF (ld : Nat → Option Nat) (K T : Nat) (f : Nat → Nat) : Nat → Nat := itT (fun _ g => rsF ld K g) K 0 (itT (r0F T) K 0 f)
def FB (f : Nat → Nat) : Prop := ∀ x, x < 24 → f x ≤ BIG
theorem FB.r0 {f : Nat → Nat} (h : FB f) (T i : Nat) : FB (r0F T i f) := fun x hx => by
  unfold r0F updN
  split
  · split <;> omega
  · exact h x hx
theorem FB.rx {f : Nat → Nat} (h : FB f) {ld : Nat → Option Nat} (x : Nat) (hx9 : x < 96) : FB (rxF ld x f) := fun z hz => by
  unfold rxF
  cases ld x with
  | none => exact h z hz
  | some y =>
    show (if f (y / 4) + 1 < f (x / 4) then updN f (x / 4) (f (y / 4) + 1) else f) z ≤ BIG
    by_cases c : f (y / 4) + 1 < f (x / 4)
    · rw [if_pos c]
      unfold updN
      split
      · have := h (x / 4) (by omega)
        omega
      · exact h z hz
    · rw [if_neg c]
      exact h z hz
theorem FB.it {g : Nat → (Nat → Nat) → (Nat → Nat)} {B : Nat} (hg : ∀ i f, i < B → FB f → FB (g i f)) (m : Nat) : ∀ (i : Nat) (f : Nat → Nat), i + m ≤ B → FB f → FB (itT g m i f) := by
  induction m with
  | zero => intro i f _ h; exact h
  | succ m ih => intro i f hi h; exact ih (i + 1) (g i f) (by omega) (hg i f (by omega) h)
theorem FB.rs {f : Nat → Nat} (h : FB f) {ld : Nat → Option Nat} {K : Nat} (hK : K ≤ 24) : FB (rsF ld K f) := FB.it (B := 96) (fun i f hi hf => hf.rx i hi) (4 * K) 0 f (by omega) h
theorem FB.ra {f : Nat → Nat} (h : FB f) {ld : Nat → Option Nat} {K T : Nat} (hK : K ≤ 24) : FB (raF ld K T f) := FB.it (B := 24) (fun _ _ _ hf => hf.rs hK) K 0 _ (by omega) (FB.it (B := 24) (fun i _ _ hf => hf.r0 T i) K 0 f (by omega) h)
def rtC (ld : Nat → Option Nat) (F : Nat → Nat) (T : Nat) : Nat → Nat → Prop
  | 0, k => k = T
  | m + 1, k => ¬ k = T ∧ pkF 4 (rNX ld) one1 F k < 4 ∧ rtC ld F T m (pkN 4 (rNX ld) one1 F k)
def rtS (ld : Nat → Option Nat) (F : Nat → Nat) : Nat → Nat → MR → MR
  | 0, _, r => r
  | m + 1, k, r => rtS ld F m (pkN 4 (rNX ld) one1 F k) (r.1, r.2.1, r.2.2.1, r.2.2.2.1 + 1, updN r.2.2.2.2 r.2.2.2.1 (pkF 4 (rNX ld) one1 F k))

set_option maxHeartbeats 4000000 in
set_option maxRecDepth 100000 in
theorem mlp_ro1 {c : XV} {n : MN} {p : Nat → Nat} {al : Int32} {s : MS} {r : MR} {w : MW} {k : MK} {a : MA} {pl : MP} {t : MT} {rest : AH} {post : Post} (hK : n.1 ≤ 24) (T : Nat) (hT : T < 24) (m : Nat) : ∀ (i : Nat) (fr : Nat → Nat) (x3 : Option Value) (_ : i + m = n.1) (_ : ∀ (x2 x3 : Option Value), AW mX7_route 2 0 0 0 0 50 [some (.ref 25), some (.int (nI T)), x2, x3] [] (MX c n p al s r w k a pl (itT (r0F T) m i fr) t rest) post), AW mX7_route 2 0 0 0 0 19 [some (.ref 25), some (.int (nI T)), some (.int (nI i)), x3] [] (MX c n p al s r w k a pl fr t rest) post := by
  induction m with
  | zero =>
    intro i fr x3 hm hC
    refine A_iload2 (pc := 19) dX7_route_19 ?_
    refine A_aload0 (pc := 20) dX7_route_20 ?_
    refine A_getf (pc := 21) flX7_83 dX7_route_21 rfl rfl ?_
    refine A_icmp_ge (pc := 24) (tgt := 50) dX7_route_24 (by decide) (fun c24 => ?_) (fun c24 => absurd (show nI n.1 ≤ nI i from nI_le (by omega) (by omega)) c24)
    exact hC _ _
  | succ m ih =>
    intro i fr x3 hm hC
    have e8 : itT (r0F T) (m + 1) i fr = itT (r0F T) m (i + 1) (r0F T i fr) := rfl
    rw [e8] at hC
    refine A_iload2 (pc := 19) dX7_route_19 ?_
    refine A_aload0 (pc := 20) dX7_route_20 ?_
    refine A_getf (pc := 21) flX7_83 dX7_route_21 rfl rfl ?_
    refine A_icmp_ge (pc := 24) (tgt := 50) dX7_route_24 (by decide) (fun c24 => absurd c24 (show ¬ nI n.1 ≤ nI i from nI_ge (by omega) (by omega))) (fun c24 => ?_)
    refine A_aload0 (pc := 27) dX7_route_27 ?_
    refine A_getf (pc := 28) flX7_68 dX7_route_28 rfl rfl ?_
    refine A_iload2 (pc := 31) dX7_route_31 ?_
    refine A_iload2 (pc := 32) dX7_route_32 ?_
    refine A_iload1 (pc := 33) dX7_route_33 ?_
    refine A_icmp_ne (pc := 34) (tgt := 41) dX7_route_34 (by decide) (fun c34 => ?_) (fun c34 => ?_)
    · have e7 : r0F T i fr = updN fr i BIG := by unfold r0F; rw [if_neg (fun q => c34 (by rw [q]))]
      rw [e7] at hC
      refine A_ldc (pc := 41) dX7_route_41 kcX7_161 ?_
      refine A_iastN (pc := 43) (i := i) (v := BIG) dX7_route_43 rfl rfl (show (268435456 : Int32) = nI BIG from rfl) (by omega) (by decide) ?_
      refine A_iinc2 (pc := 44) dX7_route_44 (by decide) (nI_1 i) ?_
      refine A_goto (pc := 47) (tgt := 19) dX7_route_47 (by decide) ?_
      exact ih (i + 1) _ _ (by omega) hC
    · have e7 : r0F T i fr = updN fr i 0 := by unfold r0F; rw [if_pos ((nI_eq (by omega) (by omega)).mp c34)]
      rw [e7] at hC
      refine A_iconst (pc := 37) (v := 0) dX7_route_37 (by decide) ?_
      refine A_goto (pc := 38) (tgt := 43) dX7_route_38 (by decide) ?_
      refine A_iastN (pc := 43) (i := i) (v := 0) dX7_route_43 rfl rfl rfl (by omega) (by decide) ?_
      refine A_iinc2 (pc := 44) dX7_route_44 (by decide) (nI_1 i) ?_
      refine A_goto (pc := 47) (tgt := 19) dX7_route_47 (by decide) ?_
      exact ih (i + 1) _ _ (by omega) hC

set_option maxHeartbeats 4000000 in
set_option maxRecDepth 100000 in
theorem mlp_ro2 {c : XV} {n : MN} {p : Nat → Nat} {al : Int32} {s : MS} {r : MR} {w : MW} {k : MK} {a : MA} {pl : MP} {t : MT} {rest : AH} {post : Post} (hK : n.1 ≤ 24) (hl : VL n.2.2.1) (T q : Nat) (m : Nat) : ∀ (i : Nat) (fr : Nat → Nat) (_ : i + m = 4 * n.1) (_ : FB fr) (_ : ∀ (x3 : Option Value), AW mX7_route 2 0 0 0 0 137 [some (.ref 25), some (.int (nI T)), some (.int (nI q)), x3] [] (MX c n p al s r w k a pl (itT (rxF n.2.2.1) m i fr) t rest) post), AW mX7_route 2 0 0 0 0 62 [some (.ref 25), some (.int (nI T)), some (.int (nI q)), some (.int (nI i))] [] (MX c n p al s r w k a pl fr t rest) post := by
  induction m with
  | zero =>
    intro i fr hm hF hC
    refine A_iload3 (pc := 62) dX7_route_62 ?_
    refine A_iconst (pc := 63) (v := 4) dX7_route_63 (by decide) ?_
    refine A_aload0 (pc := 64) dX7_route_64 ?_
    refine A_getf (pc := 65) flX7_83 dX7_route_65 rfl rfl ?_
    refine A_imul (pc := 68) dX7_route_68 ?_
    rw [show (4 : Int32) * nI n.1 = nI (4 * n.1) from by rw [show (4 : Int32) = nI 4 from rfl, pk_mul]]
    refine A_icmp_ge (pc := 69) (tgt := 137) dX7_route_69 (by decide) (fun c69 => ?_) (fun c69 => absurd (show nI (4 * n.1) ≤ nI i from nI_le (by omega) (by omega)) c69)
    exact hC _
  | succ m ih =>
    intro i fr hm hF hC
    have e8 : itT (rxF n.2.2.1) (m + 1) i fr = itT (rxF n.2.2.1) m (i + 1) (rxF n.2.2.1 i fr) := rfl
    rw [e8] at hC
    have hF1 : FB (rxF n.2.2.1 i fr) := hF.rx i (by omega)
    cases hy : n.2.2.1 i with
    | none =>
      have e7 : rxF n.2.2.1 i fr = fr := by unfold rxF; rw [hy]
      rw [e7] at hC
      refine A_iload3 (pc := 62) dX7_route_62 ?_
      refine A_iconst (pc := 63) (v := 4) dX7_route_63 (by decide) ?_
      refine A_aload0 (pc := 64) dX7_route_64 ?_
      refine A_getf (pc := 65) flX7_83 dX7_route_65 rfl rfl ?_
      refine A_imul (pc := 68) dX7_route_68 ?_
      rw [show (4 : Int32) * nI n.1 = nI (4 * n.1) from by rw [show (4 : Int32) = nI 4 from rfl, pk_mul]]
      refine A_icmp_ge (pc := 69) (tgt := 137) dX7_route_69 (by decide) (fun c69 => absurd c69 (show ¬ nI (4 * n.1) ≤ nI i from nI_ge (by omega) (by omega))) (fun c69 => ?_)
      refine A_aload0 (pc := 72) dX7_route_72 ?_
      refine A_getf (pc := 73) flX7_13 dX7_route_73 rfl rfl ?_
      refine A_iload3 (pc := 76) dX7_route_76 ?_
      refine A_ialdN (pc := 77) (i := i) dX7_route_77 rfl rfl (by omega) (by decide) ?_
      rw [hy]
      refine A_iconst (pc := 78) (v := -1) dX7_route_78 (by decide) ?_
      refine A_icmp_eq (pc := 79) (tgt := 131) dX7_route_79 (by decide) (fun c79 => ?_) (fun c79 => absurd rfl c79)
      refine A_iinc3 (pc := 131) dX7_route_131 (by decide) (nI_1 i) ?_
      refine A_goto (pc := 134) (tgt := 62) dX7_route_134 (by decide) ?_
      exact ih (i + 1) fr (by omega) hF hC
    | some y =>
      have hy9 := hl i y (by omega) hy
      have e7 : rxF n.2.2.1 i fr = if fr (y / 4) + 1 < fr (i / 4) then updN fr (i / 4) (fr (y / 4) + 1) else fr := by unfold rxF; rw [hy]
      have hb1 := hF (y / 4) (by omega)
      have hb2 := hF (i / 4) (by omega)
      have hB9 : BIG = 268435456 := rfl
      have hdy : oI (some y) / 4 = nI (y / 4) := dv4 (by omega)
      have hdi : nI i / 4 = nI (i / 4) := dv4 (by omega)
      refine A_iload3 (pc := 62) dX7_route_62 ?_
      refine A_iconst (pc := 63) (v := 4) dX7_route_63 (by decide) ?_
      refine A_aload0 (pc := 64) dX7_route_64 ?_
      refine A_getf (pc := 65) flX7_83 dX7_route_65 rfl rfl ?_
      refine A_imul (pc := 68) dX7_route_68 ?_
      rw [show (4 : Int32) * nI n.1 = nI (4 * n.1) from by rw [show (4 : Int32) = nI 4 from rfl, pk_mul]]
      refine A_icmp_ge (pc := 69) (tgt := 137) dX7_route_69 (by decide) (fun c69 => absurd c69 (show ¬ nI (4 * n.1) ≤ nI i from nI_ge (by omega) (by omega))) (fun c69 => ?_)
      refine A_aload0 (pc := 72) dX7_route_72 ?_
      refine A_getf (pc := 73) flX7_13 dX7_route_73 rfl rfl ?_
      refine A_iload3 (pc := 76) dX7_route_76 ?_
      refine A_ialdN (pc := 77) (i := i) dX7_route_77 rfl rfl (by omega) (by decide) ?_
      rw [hy]
      refine A_iconst (pc := 78) (v := -1) dX7_route_78 (by decide) ?_
      refine A_icmp_eq (pc := 79) (tgt := 131) dX7_route_79 (by decide) (fun c79 => absurd c79 (oI_some (by omega))) (fun c79 => ?_)
      refine A_aload0 (pc := 82) dX7_route_82 ?_
      refine A_getf (pc := 83) flX7_68 dX7_route_83 rfl rfl ?_
      refine A_aload0 (pc := 86) dX7_route_86 ?_
      refine A_getf (pc := 87) flX7_13 dX7_route_87 rfl rfl ?_
      refine A_iload3 (pc := 90) dX7_route_90 ?_
      refine A_ialdN (pc := 91) (i := i) dX7_route_91 rfl rfl (by omega) (by decide) ?_
      rw [hy]
      refine A_iconst (pc := 92) (v := 4) dX7_route_92 (by decide) ?_
      refine A_idiv (pc := 93) dX7_route_93 (by decide) ?_
      refine A_ialdN (pc := 94) (i := (y / 4)) dX7_route_94 rfl hdy (by omega) (by decide) ?_
      refine A_iconst (pc := 95) (v := 1) dX7_route_95 (by decide) ?_
      refine A_iadd (pc := 96) dX7_route_96 ?_
      rw [nI_1]
      refine A_aload0 (pc := 97) dX7_route_97 ?_
      refine A_getf (pc := 98) flX7_68 dX7_route_98 rfl rfl ?_
      refine A_iload3 (pc := 101) dX7_route_101 ?_
      refine A_iconst (pc := 102) (v := 4) dX7_route_102 (by decide) ?_
      refine A_idiv (pc := 103) dX7_route_103 (by decide) ?_
      refine A_ialdN (pc := 104) (i := (i / 4)) dX7_route_104 rfl hdi (by omega) (by decide) ?_
      refine A_icmp_ge (pc := 105) (tgt := 131) dX7_route_105 (by decide) (fun c105 => ?_) (fun c105 => ?_)
      · have d1 : ¬ fr (y / 4) + 1 < fr (i / 4) := fun q => absurd c105 (nI_ge q (by omega))
        rw [e7, if_neg d1] at hC
        refine A_iinc3 (pc := 131) dX7_route_131 (by decide) (nI_1 i) ?_
        refine A_goto (pc := 134) (tgt := 62) dX7_route_134 (by decide) ?_
        exact ih (i + 1) fr (by omega) hF hC
      · have d1 : fr (y / 4) + 1 < fr (i / 4) := Nat.lt_of_not_le (fun q => c105 (nI_le q (by omega)))
        rw [e7, if_pos d1] at hC hF1
        refine A_aload0 (pc := 108) dX7_route_108 ?_
        refine A_getf (pc := 109) flX7_68 dX7_route_109 rfl rfl ?_
        refine A_iload3 (pc := 112) dX7_route_112 ?_
        refine A_iconst (pc := 113) (v := 4) dX7_route_113 (by decide) ?_
        refine A_idiv (pc := 114) dX7_route_114 (by decide) ?_
        refine A_aload0 (pc := 115) dX7_route_115 ?_
        refine A_getf (pc := 116) flX7_68 dX7_route_116 rfl rfl ?_
        refine A_aload0 (pc := 119) dX7_route_119 ?_
        refine A_getf (pc := 120) flX7_13 dX7_route_120 rfl rfl ?_
        refine A_iload3 (pc := 123) dX7_route_123 ?_
        refine A_ialdN (pc := 124) (i := i) dX7_route_124 rfl rfl (by omega) (by decide) ?_
        rw [hy]
        refine A_iconst (pc := 125) (v := 4) dX7_route_125 (by decide) ?_
        refine A_idiv (pc := 126) dX7_route_126 (by decide) ?_
        refine A_ialdN (pc := 127) (i := (y / 4)) dX7_route_127 rfl hdy (by omega) (by decide) ?_
        refine A_iconst (pc := 128) (v := 1) dX7_route_128 (by decide) ?_
        refine A_iadd (pc := 129) dX7_route_129 ?_
        refine A_iastN (pc := 130) (i := (i / 4)) (v := (fr (y / 4) + 1)) dX7_route_130 rfl hdi (nI_1 _) (by omega) (by decide) ?_
        refine A_iinc3 (pc := 131) dX7_route_131 (by decide) (nI_1 i) ?_
        refine A_goto (pc := 134) (tgt := 62) dX7_route_134 (by decide) ?_
        exact ih (i + 1) _ (by omega) hF1 hC

set_option maxHeartbeats 4000000 in
set_option maxRecDepth 100000 in
theorem mlp_ro3 {c : XV} {n : MN} {p : Nat → Nat} {al : Int32} {s : MS} {r : MR} {w : MW} {k : MK} {a : MA} {pl : MP} {t : MT} {rest : AH} {post : Post} (hK : n.1 ≤ 24) (hl : VL n.2.2.1) (T : Nat) (m : Nat) : ∀ (q : Nat) (fr : Nat → Nat) (x3 : Option Value) (_ : q + m = n.1) (_ : FB fr) (_ : ∀ (x2 x3 : Option Value), AW mX7_route 2 0 0 0 0 143 [some (.ref 25), some (.int (nI T)), x2, x3] [] (MX c n p al s r w k a pl (itT (fun _ g => rsF n.2.2.1 n.1 g) m q fr) t rest) post), AW mX7_route 2 0 0 0 0 52 [some (.ref 25), some (.int (nI T)), some (.int (nI q)), x3] [] (MX c n p al s r w k a pl fr t rest) post := by
  induction m with
  | zero =>
    intro q fr x3 hm hF hC
    refine A_iload2 (pc := 52) dX7_route_52 ?_
    refine A_aload0 (pc := 53) dX7_route_53 ?_
    refine A_getf (pc := 54) flX7_83 dX7_route_54 rfl rfl ?_
    refine A_icmp_ge (pc := 57) (tgt := 143) dX7_route_57 (by decide) (fun c57 => ?_) (fun c57 => absurd (show nI n.1 ≤ nI q from nI_le (by omega) (by omega)) c57)
    exact hC _ _
  | succ m ih =>
    intro q fr x3 hm hF hC
    have e8 : itT (fun _ g => rsF n.2.2.1 n.1 g) (m + 1) q fr = itT (fun _ g => rsF n.2.2.1 n.1 g) m (q + 1) (rsF n.2.2.1 n.1 fr) := rfl
    rw [e8] at hC
    refine A_iload2 (pc := 52) dX7_route_52 ?_
    refine A_aload0 (pc := 53) dX7_route_53 ?_
    refine A_getf (pc := 54) flX7_83 dX7_route_54 rfl rfl ?_
    refine A_icmp_ge (pc := 57) (tgt := 143) dX7_route_57 (by decide) (fun c57 => absurd c57 (show ¬ nI n.1 ≤ nI q from nI_ge (by omega) (by omega))) (fun c57 => ?_)
    refine A_iconst (pc := 60) (v := 0) dX7_route_60 (by decide) ?_
    refine A_istore3 (pc := 61) dX7_route_61 (by decide) ?_
    refine mlp_ro2 hK hl T q (4 * n.1) 0 fr (by omega) hF (fun y3 => ?_)
    refine A_iinc2 (pc := 137) dX7_route_137 (by decide) (nI_1 q) ?_
    refine A_goto (pc := 140) (tgt := 52) dX7_route_140 (by decide) ?_
    exact ih (q + 1) _ _ (by omega) (hF.rs hK) hC

set_option maxHeartbeats 4000000 in
set_option maxRecDepth 100000 in
theorem mlp_ro4 {c : XV} {n : MN} {p : Nat → Nat} {al : Int32} {s : MS} {r : MR} {w : MW} {k : MK} {a : MA} {pl : MP} {fr : Nat → Nat} {t : MT} {rest : AH} {post : Post} (hl : VL n.2.2.1) (hF : FB fr) (T kk : Nat) (hkk : kk < 24) (hE : pkF 4 (rNX n.2.2.1) one1 fr kk < 4) (m : Nat) : ∀ (e : Nat) (_ : e + m = pkF 4 (rNX n.2.2.1) one1 fr kk) (_ : AW mX7_route 2 0 0 0 0 224 [some (.ref 25), some (.int (nI T)), some (.int (nI kk)), some (.int (nI (pkF 4 (rNX n.2.2.1) one1 fr kk)))] [] (MX c n p al s r w k a pl fr t rest) post), AW mX7_route 2 0 0 0 0 176 [some (.ref 25), some (.int (nI T)), some (.int (nI kk)), some (.int (nI e))] [] (MX c n p al s r w k a pl fr t rest) post := by
  have hB9 : BIG = 268435456 := rfl
  have hfk := hF kk hkk
  have hk1 : 1 ≤ fr kk := by
    obtain ⟨t2, _, e2⟩ := pkP_t (fa_first_yes (pkP (rNX n.2.2.1) one1 fr kk) 4 hE)
    rw [e2]
    show 1 ≤ 1 + fr t2
    omega
  have hpre : nI (fr kk) - 1 = nI (fr kk - 1) := by
    obtain ⟨j, hj⟩ : ∃ j, fr kk = j + 1 := ⟨fr kk - 1, by omega⟩
    rw [hj]
    exact nI_pred j
  induction m with
  | zero =>
    intro e hm hC
    obtain ⟨t2, h2, e2⟩ := pkP_t (fa_first_yes (pkP (rNX n.2.2.1) one1 fr kk) 4 hE)
    have he : e = pkF 4 (rNX n.2.2.1) one1 fr kk := by omega
    have h2 : rNX n.2.2.1 kk e = some t2 := by rw [he]; exact h2
    rw [← he] at hC
    unfold rNX at h2
    cases hy : n.2.2.1 (4 * kk + e) with
    | none => rw [hy] at h2; cases h2
    | some y =>
      have hy9 := hl _ y (by omega) hy
      have h3 : y / 4 = t2 := by rw [hy] at h2; exact Option.some.inj h2
      have e2 : fr kk = 1 + fr t2 := e2
      have hfy := hF (y / 4) (by omega)
      have hdy : oI (some y) / 4 = nI (y / 4) := dv4 (by omega)
      refine A_aload0 (pc := 176) dX7_route_176 ?_
      refine A_getf (pc := 177) flX7_13 dX7_route_177 rfl rfl ?_
      refine A_iconst (pc := 180) (v := 4) dX7_route_180 (by decide) ?_
      refine A_iload2 (pc := 181) dX7_route_181 ?_
      refine A_imul (pc := 182) dX7_route_182 ?_
      refine A_iload3 (pc := 183) dX7_route_183 ?_
      refine A_iadd (pc := 184) dX7_route_184 ?_
      refine A_ialdN (pc := 185) (i := (4 * kk + e)) dX7_route_185 rfl (ix4 _ _) (by omega) (by decide) ?_
      rw [hy]
      refine A_iconst (pc := 186) (v := -1) dX7_route_186 (by decide) ?_
      refine A_icmp_eq (pc := 187) (tgt := 218) dX7_route_187 (by decide) (fun c187 => absurd c187 (oI_some (by omega))) (fun c187 => ?_)
      refine A_aload0 (pc := 190) dX7_route_190 ?_
      refine A_getf (pc := 191) flX7_68 dX7_route_191 rfl rfl ?_
      refine A_aload0 (pc := 194) dX7_route_194 ?_
      refine A_getf (pc := 195) flX7_13 dX7_route_195 rfl rfl ?_
      refine A_iconst (pc := 198) (v := 4) dX7_route_198 (by decide) ?_
      refine A_iload2 (pc := 199) dX7_route_199 ?_
      refine A_imul (pc := 200) dX7_route_200 ?_
      refine A_iload3 (pc := 201) dX7_route_201 ?_
      refine A_iadd (pc := 202) dX7_route_202 ?_
      refine A_ialdN (pc := 203) (i := (4 * kk + e)) dX7_route_203 rfl (ix4 _ _) (by omega) (by decide) ?_
      rw [hy]
      refine A_iconst (pc := 204) (v := 4) dX7_route_204 (by decide) ?_
      refine A_idiv (pc := 205) dX7_route_205 (by decide) ?_
      refine A_ialdN (pc := 206) (i := (y / 4)) dX7_route_206 rfl hdy (by omega) (by decide) ?_
      refine A_aload0 (pc := 207) dX7_route_207 ?_
      refine A_getf (pc := 208) flX7_68 dX7_route_208 rfl rfl ?_
      refine A_iload2 (pc := 211) dX7_route_211 ?_
      refine A_ialdN (pc := 212) (i := kk) dX7_route_212 rfl rfl hkk (by decide) ?_
      refine A_iconst (pc := 213) (v := 1) dX7_route_213 (by decide) ?_
      refine A_isub (pc := 214) dX7_route_214 ?_
      rw [hpre]
      refine A_icmp_eq (pc := 215) (tgt := 224) dX7_route_215 (by decide) (fun c215 => ?_) (fun c215 => absurd (show nI (fr (y / 4)) = nI (fr kk - 1) from by rw [h3, e2]; congr 1; omega) c215)
      exact hC
  | succ m ih =>
    intro e hm hC
    have hno := fa_first_no (pkP (rNX n.2.2.1) one1 fr kk) 4 e (by have : fa_first (pkP (rNX n.2.2.1) one1 fr kk) 4 = pkF 4 (rNX n.2.2.1) one1 fr kk := rfl; omega)
    cases hy : n.2.2.1 (4 * kk + e) with
    | none =>
      refine A_aload0 (pc := 176) dX7_route_176 ?_
      refine A_getf (pc := 177) flX7_13 dX7_route_177 rfl rfl ?_
      refine A_iconst (pc := 180) (v := 4) dX7_route_180 (by decide) ?_
      refine A_iload2 (pc := 181) dX7_route_181 ?_
      refine A_imul (pc := 182) dX7_route_182 ?_
      refine A_iload3 (pc := 183) dX7_route_183 ?_
      refine A_iadd (pc := 184) dX7_route_184 ?_
      refine A_ialdN (pc := 185) (i := (4 * kk + e)) dX7_route_185 rfl (ix4 _ _) (by omega) (by decide) ?_
      rw [hy]
      refine A_iconst (pc := 186) (v := -1) dX7_route_186 (by decide) ?_
      refine A_icmp_eq (pc := 187) (tgt := 218) dX7_route_187 (by decide) (fun c187 => ?_) (fun c187 => absurd rfl c187)
      refine A_iinc3 (pc := 218) dX7_route_218 (by decide) (nI_1 e) ?_
      refine A_goto (pc := 221) (tgt := 176) dX7_route_221 (by decide) ?_
      exact ih (e + 1) (by omega) hC
    | some y =>
      have hy9 := hl _ y (by omega) hy
      have hfy := hF (y / 4) (by omega)
      have hdy : oI (some y) / 4 = nI (y / 4) := dv4 (by omega)
      have hnx : rNX n.2.2.1 kk e = some (y / 4) := by unfold rNX; rw [hy]; rfl
      rw [pkP_some hnx] at hno
      have hno2 : ¬ fr kk = 1 + fr (y / 4) := of_decide_eq_false hno
      refine A_aload0 (pc := 176) dX7_route_176 ?_
      refine A_getf (pc := 177) flX7_13 dX7_route_177 rfl rfl ?_
      refine A_iconst (pc := 180) (v := 4) dX7_route_180 (by decide) ?_
      refine A_iload2 (pc := 181) dX7_route_181 ?_
      refine A_imul (pc := 182) dX7_route_182 ?_
      refine A_iload3 (pc := 183) dX7_route_183 ?_
      refine A_iadd (pc := 184) dX7_route_184 ?_
      refine A_ialdN (pc := 185) (i := (4 * kk + e)) dX7_route_185 rfl (ix4 _ _) (by omega) (by decide) ?_
      rw [hy]
      refine A_iconst (pc := 186) (v := -1) dX7_route_186 (by decide) ?_
      refine A_icmp_eq (pc := 187) (tgt := 218) dX7_route_187 (by decide) (fun c187 => absurd c187 (oI_some (by omega))) (fun c187 => ?_)
      refine A_aload0 (pc := 190) dX7_route_190 ?_
      refine A_getf (pc := 191) flX7_68 dX7_route_191 rfl rfl ?_
      refine A_aload0 (pc := 194) dX7_route_194 ?_
      refine A_getf (pc := 195) flX7_13 dX7_route_195 rfl rfl ?_
      refine A_iconst (pc := 198) (v := 4) dX7_route_198 (by decide) ?_
      refine A_iload2 (pc := 199) dX7_route_199 ?_
      refine A_imul (pc := 200) dX7_route_200 ?_
      refine A_iload3 (pc := 201) dX7_route_201 ?_
      refine A_iadd (pc := 202) dX7_route_202 ?_
      refine A_ialdN (pc := 203) (i := (4 * kk + e)) dX7_route_203 rfl (ix4 _ _) (by omega) (by decide) ?_
      rw [hy]
      refine A_iconst (pc := 204) (v := 4) dX7_route_204 (by decide) ?_
      refine A_idiv (pc := 205) dX7_route_205 (by decide) ?_
      refine A_ialdN (pc := 206) (i := (y / 4)) dX7_route_206 rfl hdy (by omega) (by decide) ?_
      refine A_aload0 (pc := 207) dX7_route_207 ?_
      refine A_getf (pc := 208) flX7_68 dX7_route_208 rfl rfl ?_
      refine A_iload2 (pc := 211) dX7_route_211 ?_
      refine A_ialdN (pc := 212) (i := kk) dX7_route_212 rfl rfl hkk (by decide) ?_
      refine A_iconst (pc := 213) (v := 1) dX7_route_213 (by decide) ?_
      refine A_isub (pc := 214) dX7_route_214 ?_
      rw [hpre]
      refine A_icmp_eq (pc := 215) (tgt := 224) dX7_route_215 (by decide) (fun c215 => absurd c215 (show ¬ nI (fr (y / 4)) = nI (fr kk - 1) from fun q => hno2 (by have := (nI_eq (by omega) (by omega)).mp q; omega))) (fun c215 => ?_)
      refine A_iinc3 (pc := 218) dX7_route_218 (by decide) (nI_1 e) ?_
      refine A_goto (pc := 221) (tgt := 176) dX7_route_221 (by decide) ?_
      exact ih (e + 1) (by omega) hC

set_option maxHeartbeats 4000000 in
set_option maxRecDepth 100000 in
theorem mlp_ro5 {c : XV} {n : MN} {p : Nat → Nat} {al : Int32} {s : MS} {w : MW} {k : MK} {a : MA} {pl : MP} {fr : Nat → Nat} {t : MT} {rest : AH} {post : Post} (hl : VL n.2.2.1) (hF : FB fr) (T : Nat) (hT : T < 24) (m : Nat) : ∀ (kk : Nat) (r : MR) (x3 : Option Value) (_ : kk < 24) (_ : rtC n.2.2.1 fr T m kk) (_ : r.2.2.2.1 + m ≤ 30) (_ : ∀ (x2 x3 : Option Value), AW mX7_route 2 0 0 0 0 260 [some (.ref 25), some (.int (nI T)), x2, x3] [] (MX c n p al s (rtS n.2.2.1 fr m kk r) w k a pl fr t rest) post), AW mX7_route 2 0 0 0 0 169 [some (.ref 25), some (.int (nI T)), some (.int (nI kk)), x3] [] (MX c n p al s r w k a pl fr t rest) post := by
  induction m with
  | zero =>
    intro kk r x3 hkk hch hm hC
    have hch : kk = T := hch
    refine A_iload2 (pc := 169) dX7_route_169 ?_
    refine A_iload1 (pc := 170) dX7_route_170 ?_
    refine A_icmp_eq (pc := 171) (tgt := 260) dX7_route_171 (by decide) (fun c171 => ?_) (fun c171 => absurd (show nI kk = nI T from by rw [hch]) c171)
    exact hC _ _
  | succ m ih =>
    intro kk r x3 hkk hch hm hC
    obtain ⟨hne, hE, hch⟩ := hch
    obtain ⟨t2, h2, e2⟩ := pkP_t (fa_first_yes (pkP (rNX n.2.2.1) one1 fr kk) 4 hE)
    have h2 : rNX n.2.2.1 kk (pkF 4 (rNX n.2.2.1) one1 fr kk) = some t2 := h2
    have hpn : pkN 4 (rNX n.2.2.1) one1 fr kk = t2 := by unfold pkN; rw [h2]; rfl
    have e8 : rtS n.2.2.1 fr (m + 1) kk r = rtS n.2.2.1 fr m (pkN 4 (rNX n.2.2.1) one1 fr kk) (r.1, r.2.1, r.2.2.1, r.2.2.2.1 + 1, updN r.2.2.2.2 r.2.2.2.1 (pkF 4 (rNX n.2.2.1) one1 fr kk)) := rfl
    rw [e8, hpn] at hC
    rw [hpn] at hch
    have h2 : (n.2.2.1 (4 * kk + pkF 4 (rNX n.2.2.1) one1 fr kk)).map (fun y => y / 4) = some t2 := h2
    cases hy : n.2.2.1 (4 * kk + pkF 4 (rNX n.2.2.1) one1 fr kk) with
    | none => rw [hy] at h2; cases h2
    | some y =>
      have hy9 := hl _ y (by omega) hy
      have h3 : y / 4 = t2 := by rw [hy] at h2; exact Option.some.inj h2
      have hdy : oI (some y) / 4 = nI (y / 4) := dv4 (by omega)
      refine A_iload2 (pc := 169) dX7_route_169 ?_
      refine A_iload1 (pc := 170) dX7_route_170 ?_
      refine A_icmp_eq (pc := 171) (tgt := 260) dX7_route_171 (by decide) (fun c171 => absurd c171 (show ¬ nI kk = nI T from fun q => hne ((nI_eq (by omega) (by omega)).mp q))) (fun c171 => ?_)
      refine A_iconst (pc := 174) (v := 0) dX7_route_174 (by decide) ?_
      refine A_istore3 (pc := 175) dX7_route_175 (by decide) ?_
      refine mlp_ro4 hl hF T kk hkk hE (pkF 4 (rNX n.2.2.1) one1 fr kk) 0 (by omega) ?_
      refine A_aload0 (pc := 224) dX7_route_224 ?_
      refine A_getf (pc := 225) flX7_32 dX7_route_225 rfl rfl ?_
      refine A_aload0 (pc := 228) dX7_route_228 ?_
      refine A_getf (pc := 229) flX7_101 dX7_route_229 rfl rfl ?_
      refine A_iload3 (pc := 232) dX7_route_232 ?_
      refine A_iastN (pc := 233) (i := r.2.2.2.1) (v := (pkF 4 (rNX n.2.2.1) one1 fr kk)) dX7_route_233 rfl rfl rfl (by omega) (by decide) ?_
      refine A_aload0 (pc := 234) dX7_route_234 ?_
      refine A_dup (pc := 235) dX7_route_235 rfl ?_
      refine A_getf (pc := 236) flX7_101 dX7_route_236 rfl rfl ?_
      refine A_iconst (pc := 239) (v := 1) dX7_route_239 (by decide) ?_
      refine A_iadd (pc := 240) dX7_route_240 ?_
      rw [nI_1]
      refine A_putf (pc := 241) flX7_101 ft7_13 dX7_route_241 rfl (Nat.le_of_ble_eq_true rfl) (fun _ => ⟨rfl, rfl⟩) ?_
      refine AW.heq (hp' := MX c n p al s ((r.1, r.2.1, r.2.2.1, r.2.2.2.1 + 1, updN r.2.2.2.2 r.2.2.2.1 (pkF 4 (rNX n.2.2.1) one1 fr kk))) w k a pl fr t rest) rfl ?_
      refine A_aload0 (pc := 244) dX7_route_244 ?_
      refine A_getf (pc := 245) flX7_13 dX7_route_245 rfl rfl ?_
      refine A_iconst (pc := 248) (v := 4) dX7_route_248 (by decide) ?_
      refine A_iload2 (pc := 249) dX7_route_249 ?_
      refine A_imul (pc := 250) dX7_route_250 ?_
      refine A_iload3 (pc := 251) dX7_route_251 ?_
      refine A_iadd (pc := 252) dX7_route_252 ?_
      refine A_ialdN (pc := 253) (i := (4 * kk + pkF 4 (rNX n.2.2.1) one1 fr kk)) dX7_route_253 rfl (ix4 _ _) (by omega) (by decide) ?_
      rw [hy]
      refine A_iconst (pc := 254) (v := 4) dX7_route_254 (by decide) ?_
      refine A_idiv (pc := 255) dX7_route_255 (by decide) ?_
      rw [hdy, h3]
      refine A_istore2 (pc := 256) dX7_route_256 (by decide) ?_
      refine A_goto (pc := 257) (tgt := 169) dX7_route_257 (by decide) ?_
      exact ih t2 (r.1, r.2.1, r.2.2.1, r.2.2.2.1 + 1, updN r.2.2.2.2 r.2.2.2.1 (pkF 4 (rNX n.2.2.1) one1 fr kk)) _ (by omega) hch (by show r.2.2.2.1 + 1 + m ≤ 30; omega) hC

set_option maxHeartbeats 4000000 in
set_option maxRecDepth 100000 in
theorem mp_route0 {c : XV} {n : MN} {p : Nat → Nat} {al : Int32} {s : MS} {r : MR} {w : MW} {k : MK} {a : MA} {pl : MP} {fr : Nat → Nat} {t : MT} {rest : AH} (hK : n.1 ≤ 24) (x : Int32) (hno : r.1 = false ∨ hasI (nI n.1) x = false) : AS mX7_route 2 0 0 [.ref 25, .int x] (MX c n p al s r w k a pl fr t rest) (P1 (-1) (MX c n p al s r w k a pl fr t rest)) := by
  refine AS.go (lv := [some (.ref 25), some (.int x), none, none]) rfl ?_ (by decide +kernel) rfl (Nat.le_of_ble_eq_true rfl)
  refine A_aload0 (pc := 0) dX7_route_0 ?_
  refine A_getf (pc := 1) flX7_104 dX7_route_1 rfl rfl ?_
  refine A_if_eq (pc := 4) (tgt := 15) dX7_route_4 (by decide) (fun c4 => ?_) (fun c4 => ?_)
  · refine A_iconst (pc := 15) (v := -1) dX7_route_15 (by decide) ?_
    exact A_iret (pc := 16) dX7_route_16 rfl rfl (by decide) (by decide) (⟨rfl, rfl⟩)
  · refine A_aload0 (pc := 7) dX7_route_7 ?_
    refine A_iload1 (pc := 8) dX7_route_8 ?_
    refine A_cvi (pc := 9) cvX7_90 (mp_isKnot hK _) dX7_route_9 rfl rfl rfl rfl (Nat.le_of_ble_eq_true rfl) (by decide) (by decide) (by decide) ?_
    refine A_if_ne (pc := 12) (tgt := 17) dX7_route_12 (by decide) (fun c12 => ?_) (fun c12 => ?_)
    · replace c12 := (bI_ne _).mp c12
      exact hno.elim (fun q => absurd (show bI r.1 = 0 from by rw [q]; rfl) c4) (fun q => absurd c12 (by rw [q]; decide))
    · replace c12 := (bI_eq _).mp c12
      refine A_iconst (pc := 15) (v := -1) dX7_route_15 (by decide) ?_
      exact A_iret (pc := 16) dX7_route_16 rfl rfl (by decide) (by decide) (⟨rfl, rfl⟩)

set_option maxHeartbeats 4000000 in
set_option maxRecDepth 100000 in
theorem mp_route1 {c : XV} {n : MN} {p : Nat → Nat} {al : Int32} {s : MS} {r : MR} {w : MW} {k : MK} {a : MA} {pl : MP} {fr : Nat → Nat} {t : MT} {rest : AH} (hK : n.1 ≤ 24) (hl : VL n.2.2.1) (hr1 : r.2.1 < 24) (hr : r.1 = true) (hF : FB fr) (T : Nat) (hT : T < n.1) (m : Nat) (hm : m ≤ 30) (hch : ¬ (raF n.2.2.1 n.1 T fr) r.2.1 = BIG → rtC n.2.2.1 (raF n.2.2.1 n.1 T fr) T m r.2.1) : AS mX7_route 2 0 0 [.ref 25, .int (nI T)] (MX c n p al s r w k a pl fr t rest) (P1 (if (raF n.2.2.1 n.1 T fr) r.2.1 = BIG then -1 else nI (rtS n.2.2.1 (raF n.2.2.1 n.1 T fr) m r.2.1 (r.1, r.2.1, r.2.2.1, 0, r.2.2.2.2)).2.2.2.1) (MX c n p al s (if (raF n.2.2.1 n.1 T fr) r.2.1 = BIG then r else rtS n.2.2.1 (raF n.2.2.1 n.1 T fr) m r.2.1 (r.1, r.2.1, r.2.2.1, 0, r.2.2.2.2)) w k a pl ((raF n.2.2.1 n.1 T fr)) t rest)) := by
  refine AS.go (lv := [some (.ref 25), some (.int (nI T)), none, none]) rfl ?_ (by decide +kernel) rfl (Nat.le_of_ble_eq_true rfl)
  refine A_aload0 (pc := 0) dX7_route_0 ?_
  refine A_getf (pc := 1) flX7_104 dX7_route_1 rfl rfl ?_
  refine A_if_eq (pc := 4) (tgt := 15) dX7_route_4 (by decide) (fun c4 => absurd c4 (show ¬ bI r.1 = 0 from by rw [hr]; decide)) (fun c4 => ?_)
  refine A_aload0 (pc := 7) dX7_route_7 ?_
  refine A_iload1 (pc := 8) dX7_route_8 ?_
  refine A_cvi (pc := 9) cvX7_90 (mp_isKnot hK _) dX7_route_9 rfl rfl rfl rfl (Nat.le_of_ble_eq_true rfl) (by decide) (by decide) (by decide) ?_
  rw [show hasI (nI n.1) (nI T) = true from by unfold hasI; rw [if_neg (nI_pos (by omega)), if_neg (nI_ge hT (by omega)), if_neg (show ¬ (24 : Int32) ≤ nI T from nI_ge (b := 24) (by omega) (by decide))]]
  refine A_if_ne (pc := 12) (tgt := 17) dX7_route_12 (by decide) (fun c12 => ?_) (fun c12 => absurd c12 (by decide))
  refine A_iconst (pc := 17) (v := 0) dX7_route_17 (by decide) ?_
  refine A_istore2 (pc := 18) dX7_route_18 (by decide) ?_
  refine mlp_ro1 hK T (by omega) n.1 0 fr _ (by omega) (fun y2 y3 => ?_)
  refine A_iconst (pc := 50) (v := 0) dX7_route_50 (by decide) ?_
  refine A_istore2 (pc := 51) dX7_route_51 (by decide) ?_
  refine mlp_ro3 hK hl T n.1 0 (itT (r0F T) n.1 0 fr) _ (by omega) (FB.it (B := 24) (fun i _ _ hf => hf.r0 T i) n.1 0 fr (by omega) hF) (fun z2 z3 => ?_)
  change AW mX7_route 2 0 0 0 0 143 _ _ (MX c n p al s r w k a pl ((raF n.2.2.1 n.1 T fr)) t rest) _
  have hFR : FB (raF n.2.2.1 n.1 T fr) := hF.ra hK
  have hB9 : BIG = 268435456 := rfl
  generalize hgR : (raF n.2.2.1 n.1 T fr) = F at hFR hch ⊢
  refine A_aload0 (pc := 143) dX7_route_143 ?_
  refine A_getf (pc := 144) flX7_68 dX7_route_144 rfl rfl ?_
  refine A_aload0 (pc := 147) dX7_route_147 ?_
  refine A_getf (pc := 148) flX7_98 dX7_route_148 rfl rfl ?_
  refine A_ialdN (pc := 151) (i := r.2.1) dX7_route_151 rfl rfl hr1 (by decide) ?_
  refine A_ldc (pc := 152) dX7_route_152 kcX7_161 ?_
  refine A_icmp_ne (pc := 154) (tgt := 159) dX7_route_154 (by decide) (fun c154 => ?_) (fun c154 => ?_)
  · have d1 : ¬ F r.2.1 = BIG := fun q => c154 (show nI (F r.2.1) = nI BIG from by rw [q])
    refine A_aload0 (pc := 159) dX7_route_159 ?_
    refine A_iconst (pc := 160) (v := 0) dX7_route_160 (by decide) ?_
    refine A_putf (pc := 161) flX7_101 ft7_13 dX7_route_161 rfl (Nat.le_of_ble_eq_true rfl) (fun _ => ⟨rfl, rfl⟩) ?_
    refine AW.heq (hp' := MX c n p al s ((r.1, r.2.1, r.2.2.1, 0, r.2.2.2.2)) w k a pl F t rest) rfl ?_
    refine A_aload0 (pc := 164) dX7_route_164 ?_
    refine A_getf (pc := 165) flX7_98 dX7_route_165 rfl rfl ?_
    refine A_istore2 (pc := 168) dX7_route_168 (by decide) ?_
    refine mlp_ro5 hl hFR T (by omega) m r.2.1 (r.1, r.2.1, r.2.2.1, 0, r.2.2.2.2) _ hr1 (hch d1) (by show 0 + m ≤ 30; omega) (fun u2 u3 => ?_)
    refine A_aload0 (pc := 260) dX7_route_260 ?_
    refine A_getf (pc := 261) flX7_101 dX7_route_261 rfl rfl ?_
    exact A_iret (pc := 264) dX7_route_264 rfl rfl (by decide) (by decide) (⟨by rw [if_neg d1], by rw [if_neg d1]⟩)
  · have d1 : F r.2.1 = BIG := (nI_eq (by have := hFR _ hr1; omega) (by decide)).mp c154
    refine A_iconst (pc := 157) (v := -1) dX7_route_157 (by decide) ?_
    exact A_iret (pc := 158) dX7_route_158 rfl rfl (by decide) (by decide) (⟨by rw [if_pos d1], by rw [if_pos d1]⟩)
