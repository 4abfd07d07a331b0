/-! streets that a walker has gone: a small number; the two charts -/
def stOk (w : WS) (b : Nat) : Prop := ∃ s : Nat, s ≤ b ∧ w.2.2.1 = nI s
theorem stOk.mono {w : WS} {b b2 : Nat} (h : stOk w b) (hb : b ≤ b2) : stOk w b2 := by
  obtain ⟨s, h1, h2⟩ := h
  exact ⟨s, by omega, h2⟩
theorem psW_st {n : NS} {w : WS} {b : Nat} (e : Int32) (h : stOk w b) : stOk (psW n w e) (b + 1) := by
  unfold psW
  split
  · obtain ⟨s, h1, h2⟩ := h
    exact ⟨s + 1, by omega, by show w.2.2.1 + 1 = _; rw [h2, nI_1]⟩
  · exact h.mono (by omega)
theorem tnL_st {n : NS} {side number : Int32} (m : Nat) : ∀ {met : Int32} {w : WS} {b : Nat}, stOk w b → stOk (tnL n side number m met w).2 (b + m) := by
  induction m with
  | zero => intro met w b h; exact h
  | succ m ih =>
    intro met w b h
    unfold tnL
    repeat' split
    all_goals first | exact (ih (psW_st _ h)).mono (by omega) | exact (psW_st _ h).mono (by omega)
theorem puL_st {n : NS} {s mt : Int32} (m : Nat) : ∀ {met : Int32} {w : WS} {b : Nat}, stOk w b → stOk (puL n s mt m met w).2 (b + m) := by
  induction m with
  | zero => intro met w b h; exact h
  | succ m ih =>
    intro met w b h
    unfold puL
    repeat' split
    all_goals first | exact (ih (psW_st _ h)).mono (by omega) | exact (psW_st _ h).mono (by omega)
theorem peL_st {n : NS} (m : Nat) : ∀ {w : WS} {b : Nat}, stOk w b → stOk (peL n m w).2 (b + m) := by
  induction m with
  | zero => intro w b h; exact h
  | succ m ih =>
    intro w b h
    unfold peL
    repeat' split
    all_goals first | exact (ih (psW_st _ h)).mono (by omega) | exact (psW_st _ h).mono (by omega)
theorem pnL_st {n : NS} {w : WS} {name : Int32} (m : Nat) : ∀ {i : Nat} {f : Int32} {b : Nat}, stOk w b → stOk (pnL n w name m i f).2 (b + 1) := by
  induction m with
  | zero => intro i f b h; exact psW_st _ h
  | succ m ih =>
    intro i f b h
    unfold pnL
    repeat' split
    all_goals first | exact ih h | exact h.mono (by omega)
theorem flW_st {n : NS} {w : WS} {b : Nat} (kind number mt : Int32) (h : stOk w b) : stOk (flW n w kind number mt).2 (b + 31) := by
  have h0 : stOk (zW w) b := h
  unfold flW
  split
  · exact tnL_st 31 h0
  · split
    · exact tnL_st 31 h0
    · split
      · exact puL_st 31 h0
      · split
        · exact (pnL_st 4 h0).mono (by omega)
        · split
          · exact peL_st 31 h0
          · split
            · exact (psW_st _ h0).mono (by omega)
            · exact h0.mono (by omega)
theorem sfW_st {n : NS} {al : Int32} {sc : WS} {pl s : Int32} (h : (sfW n al sc pl s).1 = true) : stOk (sfW n al sc pl s).2 31 := by
  unfold sfW at h ⊢
  split
  · exact flW_st (b := 0) _ _ _ ⟨0, Nat.le_refl 0, rfl⟩
  · next hh => rw [if_neg hh] at h; cases h
theorem stOk.num {w : WS} {b : Nat} (h : stOk w b) (hb : b < 2 ^ 31) : w.2.2.1 = nI w.2.2.1.toNatClampNeg ∧ w.2.2.1.toNatClampNeg < 2 ^ 31 := by
  obtain ⟨s, h1, h2⟩ := h
  rw [h2, nI_clamp (by omega)]
  exact ⟨rfl, by omega⟩
def cyS (n : NS) (al : Int32) (wy : YS) (at_ pl : Int32) (i : Nat) (q : WS × KS) : WS × KS := ((sfW n al q.1 pl (sa_f 0 i)).2, if (sfW n al q.1 pl (sa_f 0 i)).1 = true then (if wnI (sfW n al q.1 pl (sa_f 0 i)).2 30 wy.2.2.2.1 wy.2.2.2.2 at_ (sfW n al q.1 pl (sa_f 0 i)).2.2.2.1.toNatClampNeg = true then slK q.2 at_ (nI i) (at_ + (sfW n al q.1 pl (sa_f 0 i)).2.2.2.1) else q.2) else q.2)
def cyL (n : NS) (al : Int32) (wy : YS) (at_ pl : Int32) : Nat → Nat → WS × KS → WS × KS
  | 0, _, q => q
  | m + 1, i, q => cyL n al wy at_ pl m (i + 1) (cyS n al wy at_ pl i q)
def cwL (n : NS) (al : Int32) (wy : YS) : Nat → Nat → Int32 → WS × KS → WS × KS
  | 0, _, _, q => q
  | m + 1, a, pl, q => cwL n al wy m (a + 1) (paI n pl (atI 30 wy.2.2.2.1 wy.2.2.2.2 (nI a))) (cyL n al wy (nI a) pl 29 0 q)
def cwQ (n : NS) (p : Nat → Int32) (al : Int32) (sc : WS) (wy : YS) (ch : KS) (E : Nat) : WS × KS := cwL n al wy E 0 (wy.2.1 * 4 + wy.2.2.1) (sc, sgK (opK p ch (E + 1)) (nI E))
def nyS (n : NS) (al : Int32) (pl : Int32) (i : Nat) (q : WS × KS) : WS × KS := ((sfW n al q.1 pl (sa_f 0 i)).2, if (sfW n al q.1 pl (sa_f 0 i)).1 = true then slK q.2 pl (nI i) ((sfW n al q.1 pl (sa_f 0 i)).2.1 * 4 + (sfW n al q.1 pl (sa_f 0 i)).2.2.1) else q.2)
def nyL (n : NS) (al : Int32) (pl : Int32) : Nat → Nat → WS × KS → WS × KS
  | 0, _, q => q
  | m + 1, i, q => nyL n al pl m (i + 1) (nyS n al pl i q)
def nwL (n : NS) (al : Int32) : Nat → Nat → WS × KS → WS × KS
  | 0, _, q => q
  | m + 1, a, q => nwL n al m (a + 1) (nyL n al (nI a) 29 0 q)
def ngL (to : Int32) : Nat → Nat → KS → KS
  | 0, _, ch => ch
  | m + 1, i, ch => ngL to m (i + 1) (sgK ch (to * 4 + nI i))
def nwQ (n : NS) (p : Nat → Int32) (al : Int32) (sc : WS) (ch : KS) (to : Int32) (K : Nat) : WS × KS := nwL n al (K * 4) 0 (sc, ngL to 4 0 (opK p ch (K * 4)))
theorem cyS_1 {n : NS} {al : Int32} {wy : YS} {at_ pl : Int32} {i : Nat} {q : WS × KS} : (cyS n al wy at_ pl i q).2.1 = q.2.1 := by
  unfold cyS
  dsimp only
  repeat' split
  all_goals first | rfl | exact slK_1 _ _ _ _
theorem nyS_1 {n : NS} {al : Int32} {pl : Int32} {i : Nat} {q : WS × KS} : (nyS n al pl i q).2.1 = q.2.1 := by
  unfold nyS
  dsimp only
  repeat' split
  all_goals first | rfl | exact slK_1 _ _ _ _
theorem ngL_1 (to : Int32) (m : Nat) : ∀ (i : Nat) (ch : KS), (ngL to m i ch).1 = ch.1 := by
  induction m with
  | zero => intro i ch; rfl
  | succ m ih => intro i ch; unfold ngL; rw [ih, sgK_1]
theorem opK_1 (p : Nat → Int32) (ch : KS) (NP : Nat) : (opK p ch NP).1 = nI NP := by unfold opK; rw [opL_1]; rfl

set_option maxHeartbeats 4000000 in
set_option maxRecDepth 100000 in
theorem lp_cy {K : WS × KS → WS × KS} {n : NS} {p : Nat → Int32} {o : OS} {y : RS} {la : WS} {wy : YS} {ko : Nat → Option Nat} {rest : AH} {E : Nat} (he : wy.2.2.2.1 = nI E) (hE : E ≤ 30) (a : Nat) (pl : Int32) (hR : ∀ q : WS × KS, q.2.1 = nI (E + 1) → AW mX6_chartWay 5 0 0 0 0 120 [some (.ref 0), some (.int (nI E)), some (.int pl), some (.int (nI a)), some (.int (nI 29))] [] (CH n p o y la (q.1) wy (q.2) ko ++ rest) (P0 (CH n p o y la ((K q).1) wy ((K q).2) ko ++ rest))) (m : Nat) : ∀ (i : Nat) (q : WS × KS) (_ : q.2.1 = nI (E + 1)) (_ : i + m = 29), AW mX6_chartWay 5 0 0 0 0 54 [some (.ref 0), some (.int (nI E)), some (.int pl), some (.int (nI a)), some (.int (nI i))] [] (CH n p o y la (q.1) wy (q.2) ko ++ rest) (P0 (CH n p o y la ((K (cyL n o.1 wy (nI a) pl m i q)).1) wy ((K (cyL n o.1 wy (nI a) pl m i q)).2) ko ++ rest)) := by
  induction m with
  | zero =>
    intro i q hq hi
    refine A_iload4 (pc := 54) dX6_chartWay_54 ?_
    refine A_gets (pc := 56) (j := 0) (by decide) slX6_248 dX6_chartWay_56 ?_
    refine A_alenS (pc := 59) (j := 0) (v := nI 29) (by decide) dX6_chartWay_59 rfl ?_
    refine A_icmp_ge (pc := 60) (tgt := 120) dX6_chartWay_60 (by decide) (fun c60 => ?_) (fun c60 => absurd (show nI 29 ≤ nI i from nI_le (by omega) (by omega)) c60)
    rw [show i = 29 by omega]
    exact hR q hq
  | succ m ih =>
    intro i q hq hi
    refine A_iload4 (pc := 54) dX6_chartWay_54 ?_
    refine A_gets (pc := 56) (j := 0) (by decide) slX6_248 dX6_chartWay_56 ?_
    refine A_alenS (pc := 59) (j := 0) (v := nI 29) (by decide) dX6_chartWay_59 rfl ?_
    refine A_icmp_ge (pc := 60) (tgt := 120) dX6_chartWay_60 (by decide) (fun c60 => absurd c60 (show ¬ nI 29 ≤ nI i from nI_ge (by omega) (by omega))) (fun c60 => ?_)
    refine A_aload0 (pc := 63) dX6_chartWay_63 ?_
    refine A_iload2 (pc := 64) dX6_chartWay_64 ?_
    refine A_gets (pc := 65) (j := 0) (by decide) slX6_248 dX6_chartWay_65 ?_
    refine A_iload4 (pc := 68) dX6_chartWay_68 ?_
    refine A_ialdS (pc := 70) (j := 0) (by decide) dX6_chartWay_70 (vp_in_nI (by show i < 29; omega) (by decide)) ?_
    rw [nI_clamp (by omega)]
    refine A_cvi (pc := 71) cvX6_260 (sp_scoutFollows _ _) dX6_chartWay_71 rfl rfl rfl rfl (Nat.le_of_ble_eq_true rfl) (by decide) (by decide) (by decide) ?_
    refine A_if_eq (pc := 74) (tgt := 114) dX6_chartWay_74 (by decide) (fun c74 => ?_) (fun c74 => ?_)
    · replace c74 := (bI_eq _).mp c74
      refine A_iinc4 (pc := 114) dX6_chartWay_114 (by decide) (nI_1 i) ?_
      refine A_goto (pc := 117) (tgt := 54) dX6_chartWay_117 (by decide) ?_
      have e9 : cyS n o.1 wy (nI a) pl i q = ((sfW n o.1 q.1 pl (sa_f 0 i)).2, q.2) := by simp only [cyS, c74, if_true, if_false, Bool.false_eq_true]
      simp only [cyL]
      rw [e9]
      refine ih (i + 1) ((sfW n o.1 q.1 pl (sa_f 0 i)).2, q.2) ?_ (by omega)
      rw [← e9, cyS_1]
      exact hq
    · replace c74 := (bI_ne _).mp c74
      refine A_aload0 (pc := 77) dX6_chartWay_77 ?_
      refine A_getf (pc := 78) flX6_46 dX6_chartWay_78 rfl rfl ?_
      refine A_aload0 (pc := 81) dX6_chartWay_81 ?_
      refine A_getf (pc := 82) flX6_52 dX6_chartWay_82 rfl rfl ?_
      refine A_getf (pc := 85) flX6_188 dX6_chartWay_85 rfl rfl ?_
      refine A_iload3 (pc := 88) dX6_chartWay_88 ?_
      refine A_cvi (pc := 89) cvX6_242 (sp_wentAlong (r := 18) (q := 19) (cap := 30) rfl rfl (by decide) ((sfW_st c74).num (by decide)).1 ((sfW_st c74).num (by decide)).2 _) dX6_chartWay_89 rfl rfl rfl rfl (Nat.le_of_ble_eq_true rfl) (by decide) (by decide) (by decide) ?_
      refine A_if_eq (pc := 92) (tgt := 114) dX6_chartWay_92 (by decide) (fun c92 => ?_) (fun c92 => ?_)
      · replace c92 := (bI_eq _).mp c92
        refine A_iinc4 (pc := 114) dX6_chartWay_114 (by decide) (nI_1 i) ?_
        refine A_goto (pc := 117) (tgt := 54) dX6_chartWay_117 (by decide) ?_
        have e9 : cyS n o.1 wy (nI a) pl i q = ((sfW n o.1 q.1 pl (sa_f 0 i)).2, q.2) := by simp only [cyS, c74, c92, if_true, if_false, Bool.false_eq_true]
        simp only [cyL]
        rw [e9]
        refine ih (i + 1) ((sfW n o.1 q.1 pl (sa_f 0 i)).2, q.2) ?_ (by omega)
        rw [← e9, cyS_1]
        exact hq
      · replace c92 := (bI_ne _).mp c92
        refine A_aload0 (pc := 95) dX6_chartWay_95 ?_
        refine A_getf (pc := 96) flX6_59 dX6_chartWay_96 rfl rfl ?_
        refine A_iload3 (pc := 99) dX6_chartWay_99 ?_
        refine A_iload4 (pc := 100) dX6_chartWay_100 ?_
        refine A_iload3 (pc := 102) dX6_chartWay_102 ?_
        refine A_aload0 (pc := 103) dX6_chartWay_103 ?_
        refine A_getf (pc := 104) flX6_46 dX6_chartWay_104 rfl rfl ?_
        refine A_getf (pc := 107) flX6_172 dX6_chartWay_107 rfl rfl ?_
        refine A_iadd (pc := 110) dX6_chartWay_110 ?_
        refine A_cvv (pc := 111) cvX6_263 (sp_setLead _ _ _) dX6_chartWay_111 rfl rfl rfl rfl (Nat.le_of_ble_eq_true rfl) (by decide) (by decide) (by decide) ?_
        refine A_iinc4 (pc := 114) dX6_chartWay_114 (by decide) (nI_1 i) ?_
        refine A_goto (pc := 117) (tgt := 54) dX6_chartWay_117 (by decide) ?_
        have e9 : cyS n o.1 wy (nI a) pl i q = ((sfW n o.1 q.1 pl (sa_f 0 i)).2, slK q.2 (nI a) (nI i) (nI a + (sfW n o.1 q.1 pl (sa_f 0 i)).2.2.2.1)) := by simp only [cyS, c74, c92, if_true, if_false, Bool.false_eq_true]
        simp only [cyL]
        rw [e9]
        refine ih (i + 1) ((sfW n o.1 q.1 pl (sa_f 0 i)).2, slK q.2 (nI a) (nI i) (nI a + (sfW n o.1 q.1 pl (sa_f 0 i)).2.2.2.1)) ?_ (by omega)
        rw [← e9, cyS_1]
        exact hq

set_option maxHeartbeats 4000000 in
set_option maxRecDepth 100000 in
theorem lp_cw {n : NS} {p : Nat → Int32} {o : OS} {y : RS} {la : WS} {wy : YS} {ko : Nat → Option Nat} {rest : AH} {E : Nat} (he : wy.2.2.2.1 = nI E) (hE : E ≤ 30)  (m : Nat) : ∀ (a : Nat) (pl : Int32) (q : WS × KS) (_ : q.2.1 = nI (E + 1)) (_ : a + m = E) (x4 : Option Value), AW mX6_chartWay 5 0 0 0 0 46 [some (.ref 0), some (.int (nI E)), some (.int pl), some (.int (nI a)), x4] [] (CH n p o y la (q.1) wy (q.2) ko ++ rest) (P0 (CH n p o y la ((cwL n o.1 wy m a pl q).1) wy (seL (E + 1) (E + 1 + 1) true (cwL n o.1 wy m a pl q).2) ko ++ rest)) := by
  induction m with
  | zero =>
    intro a pl q hq ha x4
    refine A_iload3 (pc := 46) dX6_chartWay_46 ?_
    refine A_iload1 (pc := 47) dX6_chartWay_47 ?_
    refine A_icmp_ge (pc := 48) (tgt := 143) dX6_chartWay_48 (by decide) (fun c48 => ?_) (fun c48 => absurd (show nI E ≤ nI a from nI_le (by omega) (by omega)) c48)
    refine A_aload0 (pc := 143) dX6_chartWay_143 ?_
    refine A_getf (pc := 144) flX6_59 dX6_chartWay_144 rfl rfl ?_
    refine A_cvv (pc := 147) cvX6_267 (sp_settle hq (by omega)) dX6_chartWay_147 rfl rfl rfl rfl (Nat.le_of_ble_eq_true rfl) (by decide) (by decide) (by decide) ?_
    exact A_vret (pc := 150) dX6_chartWay_150 rfl (by decide) (by decide) (⟨rfl, rfl⟩)
  | succ m ih =>
    intro a pl q hq ha x4
    refine A_iload3 (pc := 46) dX6_chartWay_46 ?_
    refine A_iload1 (pc := 47) dX6_chartWay_47 ?_
    refine A_icmp_ge (pc := 48) (tgt := 143) dX6_chartWay_48 (by decide) (fun c48 => absurd c48 (show ¬ nI E ≤ nI a from nI_ge (by omega) (by omega))) (fun c48 => ?_)
    refine A_iconst (pc := 51) (v := 0) dX6_chartWay_51 (by decide) ?_
    refine A_istore4 (pc := 52) dX6_chartWay_52 (by decide) ?_
    simp only [cwL]
    refine lp_cy (K := fun q2 => ((cwL n o.1 wy m (a + 1) (paI n pl (atI 30 wy.2.2.2.1 wy.2.2.2.2 (nI a))) q2).1, seL (E + 1) (E + 1 + 1) true (cwL n o.1 wy m (a + 1) (paI n pl (atI 30 wy.2.2.2.1 wy.2.2.2.2 (nI a))) q2).2)) he hE a pl (fun q2 hq2 => ?_) 29 0 q hq (by omega)
    refine A_aload0 (pc := 120) dX6_chartWay_120 ?_
    refine A_iload2 (pc := 121) dX6_chartWay_121 ?_
    refine A_aload0 (pc := 122) dX6_chartWay_122 ?_
    refine A_getf (pc := 123) flX6_52 dX6_chartWay_123 rfl rfl ?_
    refine A_getf (pc := 126) flX6_188 dX6_chartWay_126 rfl rfl ?_
    refine A_iload3 (pc := 129) dX6_chartWay_129 ?_
    refine A_cvi (pc := 130) cvX6_147 (sp_at (r := 18) (a := 19) (cap := 30) rfl rfl (by decide) _) dX6_chartWay_130 rfl rfl rfl rfl (Nat.le_of_ble_eq_true rfl) (by decide) (by decide) (by decide) ?_
    refine A_cvi (pc := 133) cvX6_239 (sp_placeAfter _ _) dX6_chartWay_133 rfl rfl rfl rfl (Nat.le_of_ble_eq_true rfl) (by decide) (by decide) (by decide) ?_
    refine A_istore2 (pc := 136) dX6_chartWay_136 (by decide) ?_
    refine A_iinc3 (pc := 137) dX6_chartWay_137 (by decide) (nI_1 a) ?_
    refine A_goto (pc := 140) (tgt := 46) dX6_chartWay_140 (by decide) ?_
    exact ih (a + 1) _ q2 hq2 (by omega) _

set_option maxHeartbeats 4000000 in
set_option maxRecDepth 100000 in
theorem sp_chartWay {n : NS} {p : Nat → Int32} {o : OS} {y : RS} {la sc : WS} {wy : YS} {ch : KS} {ko : Nat → Option Nat} {rest : AH} {E : Nat} (he : wy.2.2.2.1 = nI E) (hE : E ≤ 30)  : AS mX6_chartWay 5 0 0 [.ref 0] (CH n p o y la sc wy ch ko ++ rest) (P0 (CH n p o y la ((cwQ n p o.1 sc wy ch E).1) wy (seL (E + 1) (E + 1 + 1) true (cwQ n p o.1 sc wy ch E).2) ko ++ rest)) := by
  refine AS.go (lv := [some (.ref 0), none, none, none, none]) rfl ?_ (by decide +kernel) rfl (Nat.le_of_ble_eq_true rfl)
  refine A_aload0 (pc := 0) dX6_chartWay_0 ?_
  refine A_getf (pc := 1) flX6_52 dX6_chartWay_1 rfl rfl ?_
  refine A_getf (pc := 4) flX6_188 dX6_chartWay_4 rfl rfl ?_
  refine A_getf (pc := 7) flX6_141 dX6_chartWay_7 rfl rfl ?_
  rw [he]
  refine A_istore1 (pc := 10) dX6_chartWay_10 (by decide) ?_
  refine A_aload0 (pc := 11) dX6_chartWay_11 ?_
  refine A_iload1 (pc := 12) dX6_chartWay_12 ?_
  refine A_iconst (pc := 13) (v := 1) dX6_chartWay_13 (by decide) ?_
  refine A_iadd (pc := 14) dX6_chartWay_14 ?_
  rw [show nI E + 1 = nI (E + 1) from nI_1 E]
  refine A_cvv (pc := 15) cvX6_254 (sp_openChart (E + 1) (by omega)) dX6_chartWay_15 rfl rfl rfl rfl (Nat.le_of_ble_eq_true rfl) (by decide) (by decide) (by decide) ?_
  refine A_aload0 (pc := 18) dX6_chartWay_18 ?_
  refine A_getf (pc := 19) flX6_59 dX6_chartWay_19 rfl rfl ?_
  refine A_iload1 (pc := 22) dX6_chartWay_22 ?_
  refine A_cvv (pc := 23) cvX6_257 (sp_setGoal _) dX6_chartWay_23 rfl rfl rfl rfl (Nat.le_of_ble_eq_true rfl) (by decide) (by decide) (by decide) ?_
  refine A_aload0 (pc := 26) dX6_chartWay_26 ?_
  refine A_getf (pc := 27) flX6_52 dX6_chartWay_27 rfl rfl ?_
  refine A_getf (pc := 30) flX6_192 dX6_chartWay_30 rfl rfl ?_
  refine A_aload0 (pc := 33) dX6_chartWay_33 ?_
  refine A_getf (pc := 34) flX6_52 dX6_chartWay_34 rfl rfl ?_
  refine A_getf (pc := 37) flX6_217 dX6_chartWay_37 rfl rfl ?_
  refine A_csi (pc := 40) csX6_93 (sp_placeOf _ _) dX6_chartWay_40 rfl rfl (Nat.le_of_ble_eq_true rfl) (by decide) (by decide) (by decide) ?_
  refine A_istore2 (pc := 43) dX6_chartWay_43 (by decide) ?_
  refine A_iconst (pc := 44) (v := 0) dX6_chartWay_44 (by decide) ?_
  refine A_istore3 (pc := 45) dX6_chartWay_45 (by decide) ?_
  exact lp_cw he hE E 0 _ (sc, sgK (opK p ch (E + 1)) (nI E)) (by rw [sgK_1, opK_1]) (by omega) none

set_option maxHeartbeats 4000000 in
set_option maxRecDepth 100000 in
theorem lp_ny {J : WS × KS → WS × KS} {n : NS} {p : Nat → Int32} {o : OS} {y : RS} {la : WS} {wy : YS} {ko : Nat → Option Nat} {rest : AH} {K : Nat} (hk : n.1 = nI K) (hK : K ≤ 24) (to : Int32) (a : Nat) (hR : ∀ q : WS × KS, q.2.1 = nI (K * 4) → AW mX6_chartNet 5 0 0 0 0 106 [some (.ref 0), some (.int to), some (.int (nI (K * 4))), some (.int (nI a)), some (.int (nI 29))] [] (CH n p o y la (q.1) wy (q.2) ko ++ rest) (P0 (CH n p o y la ((J q).1) wy ((J q).2) ko ++ rest))) (m : Nat) : ∀ (i : Nat) (q : WS × KS) (_ : q.2.1 = nI (K * 4)) (_ : i + m = 29), AW mX6_chartNet 5 0 0 0 0 50 [some (.ref 0), some (.int to), some (.int (nI (K * 4))), some (.int (nI a)), some (.int (nI i))] [] (CH n p o y la (q.1) wy (q.2) ko ++ rest) (P0 (CH n p o y la ((J (nyL n o.1 (nI a) m i q)).1) wy ((J (nyL n o.1 (nI a) m i q)).2) ko ++ rest)) := by
  induction m with
  | zero =>
    intro i q hq hi
    refine A_iload4 (pc := 50) dX6_chartNet_50 ?_
    refine A_gets (pc := 52) (j := 0) (by decide) slX6_248 dX6_chartNet_52 ?_
    refine A_alenS (pc := 55) (j := 0) (v := nI 29) (by decide) dX6_chartNet_55 rfl ?_
    refine A_icmp_ge (pc := 56) (tgt := 106) dX6_chartNet_56 (by decide) (fun c56 => ?_) (fun c56 => absurd (show nI 29 ≤ nI i from nI_le (by omega) (by omega)) c56)
    rw [show i = 29 by omega]
    exact hR q hq
  | succ m ih =>
    intro i q hq hi
    refine A_iload4 (pc := 50) dX6_chartNet_50 ?_
    refine A_gets (pc := 52) (j := 0) (by decide) slX6_248 dX6_chartNet_52 ?_
    refine A_alenS (pc := 55) (j := 0) (v := nI 29) (by decide) dX6_chartNet_55 rfl ?_
    refine A_icmp_ge (pc := 56) (tgt := 106) dX6_chartNet_56 (by decide) (fun c56 => absurd c56 (show ¬ nI 29 ≤ nI i from nI_ge (by omega) (by omega))) (fun c56 => ?_)
    refine A_aload0 (pc := 59) dX6_chartNet_59 ?_
    refine A_iload3 (pc := 60) dX6_chartNet_60 ?_
    refine A_gets (pc := 61) (j := 0) (by decide) slX6_248 dX6_chartNet_61 ?_
    refine A_iload4 (pc := 64) dX6_chartNet_64 ?_
    refine A_ialdS (pc := 66) (j := 0) (by decide) dX6_chartNet_66 (vp_in_nI (by show i < 29; omega) (by decide)) ?_
    rw [nI_clamp (by omega)]
    refine A_cvi (pc := 67) cvX6_260 (sp_scoutFollows _ _) dX6_chartNet_67 rfl rfl rfl rfl (Nat.le_of_ble_eq_true rfl) (by decide) (by decide) (by decide) ?_
    refine A_if_eq (pc := 70) (tgt := 100) dX6_chartNet_70 (by decide) (fun c70 => ?_) (fun c70 => ?_)
    · replace c70 := (bI_eq _).mp c70
      refine A_iinc4 (pc := 100) dX6_chartNet_100 (by decide) (nI_1 i) ?_
      refine A_goto (pc := 103) (tgt := 50) dX6_chartNet_103 (by decide) ?_
      have e9 : nyS n o.1 (nI a) i q = ((sfW n o.1 q.1 (nI a) (sa_f 0 i)).2, q.2) := by simp only [nyS, c70, if_true, if_false, Bool.false_eq_true]
      simp only [nyL]
      rw [e9]
      refine ih (i + 1) ((sfW n o.1 q.1 (nI a) (sa_f 0 i)).2, q.2) ?_ (by omega)
      rw [← e9, nyS_1]
      exact hq
    · replace c70 := (bI_ne _).mp c70
      refine A_aload0 (pc := 73) dX6_chartNet_73 ?_
      refine A_getf (pc := 74) flX6_59 dX6_chartNet_74 rfl rfl ?_
      refine A_iload3 (pc := 77) dX6_chartNet_77 ?_
      refine A_iload4 (pc := 78) dX6_chartNet_78 ?_
      refine A_aload0 (pc := 80) dX6_chartNet_80 ?_
      refine A_getf (pc := 81) flX6_46 dX6_chartNet_81 rfl rfl ?_
      refine A_getf (pc := 84) flX6_163 dX6_chartNet_84 rfl rfl ?_
      refine A_aload0 (pc := 87) dX6_chartNet_87 ?_
      refine A_getf (pc := 88) flX6_46 dX6_chartNet_88 rfl rfl ?_
      refine A_getf (pc := 91) flX6_169 dX6_chartNet_91 rfl rfl ?_
      refine A_csi (pc := 94) csX6_93 (sp_placeOf _ _) dX6_chartNet_94 rfl rfl (Nat.le_of_ble_eq_true rfl) (by decide) (by decide) (by decide) ?_
      refine A_cvv (pc := 97) cvX6_263 (sp_setLead _ _ _) dX6_chartNet_97 rfl rfl rfl rfl (Nat.le_of_ble_eq_true rfl) (by decide) (by decide) (by decide) ?_
      refine A_iinc4 (pc := 100) dX6_chartNet_100 (by decide) (nI_1 i) ?_
      refine A_goto (pc := 103) (tgt := 50) dX6_chartNet_103 (by decide) ?_
      have e9 : nyS n o.1 (nI a) i q = ((sfW n o.1 q.1 (nI a) (sa_f 0 i)).2, slK q.2 (nI a) (nI i) ((sfW n o.1 q.1 (nI a) (sa_f 0 i)).2.1 * 4 + (sfW n o.1 q.1 (nI a) (sa_f 0 i)).2.2.1)) := by simp only [nyS, c70, if_true, if_false, Bool.false_eq_true]
      simp only [nyL]
      rw [e9]
      refine ih (i + 1) ((sfW n o.1 q.1 (nI a) (sa_f 0 i)).2, slK q.2 (nI a) (nI i) ((sfW n o.1 q.1 (nI a) (sa_f 0 i)).2.1 * 4 + (sfW n o.1 q.1 (nI a) (sa_f 0 i)).2.2.1)) ?_ (by omega)
      rw [← e9, nyS_1]
      exact hq

set_option maxHeartbeats 4000000 in
set_option maxRecDepth 100000 in
theorem lp_nw {n : NS} {p : Nat → Int32} {o : OS} {y : RS} {la : WS} {wy : YS} {ko : Nat → Option Nat} {rest : AH} {K : Nat} (hk : n.1 = nI K) (hK : K ≤ 24) (to : Int32) (m : Nat) : ∀ (a : Nat) (q : WS × KS) (_ : q.2.1 = nI (K * 4)) (_ : a + m = K * 4) (x4 : Option Value), AW mX6_chartNet 5 0 0 0 0 42 [some (.ref 0), some (.int to), some (.int (nI (K * 4))), some (.int (nI a)), x4] [] (CH n p o y la (q.1) wy (q.2) ko ++ rest) (P0 (CH n p o y la ((nwL n o.1 m a q).1) wy (seL (K * 4) (K * 4 + 1) true (nwL n o.1 m a q).2) ko ++ rest)) := by
  induction m with
  | zero =>
    intro a q hq ha x4
    refine A_iload3 (pc := 42) dX6_chartNet_42 ?_
    refine A_iload2 (pc := 43) dX6_chartNet_43 ?_
    refine A_icmp_ge (pc := 44) (tgt := 112) dX6_chartNet_44 (by decide) (fun c44 => ?_) (fun c44 => absurd (show nI (K * 4) ≤ nI a from nI_le (by omega) (by omega)) c44)
    refine A_aload0 (pc := 112) dX6_chartNet_112 ?_
    refine A_getf (pc := 113) flX6_59 dX6_chartNet_113 rfl rfl ?_
    refine A_cvv (pc := 116) cvX6_267 (sp_settle hq (by omega)) dX6_chartNet_116 rfl rfl rfl rfl (Nat.le_of_ble_eq_true rfl) (by decide) (by decide) (by decide) ?_
    exact A_vret (pc := 119) dX6_chartNet_119 rfl (by decide) (by decide) (⟨rfl, rfl⟩)
  | succ m ih =>
    intro a q hq ha x4
    refine A_iload3 (pc := 42) dX6_chartNet_42 ?_
    refine A_iload2 (pc := 43) dX6_chartNet_43 ?_
    refine A_icmp_ge (pc := 44) (tgt := 112) dX6_chartNet_44 (by decide) (fun c44 => absurd c44 (show ¬ nI (K * 4) ≤ nI a from nI_ge (by omega) (by omega))) (fun c44 => ?_)
    refine A_iconst (pc := 47) (v := 0) dX6_chartNet_47 (by decide) ?_
    refine A_istore4 (pc := 48) dX6_chartNet_48 (by decide) ?_
    simp only [nwL]
    refine lp_ny (J := fun q2 => ((nwL n o.1 m (a + 1) q2).1, seL (K * 4) (K * 4 + 1) true (nwL n o.1 m (a + 1) q2).2)) hk hK to a (fun q2 hq2 => ?_) 29 0 q hq (by omega)
    refine A_iinc3 (pc := 106) dX6_chartNet_106 (by decide) (nI_1 a) ?_
    refine A_goto (pc := 109) (tgt := 42) dX6_chartNet_109 (by decide) ?_
    exact ih (a + 1) q2 hq2 (by omega) _

set_option maxHeartbeats 4000000 in
set_option maxRecDepth 100000 in
theorem lp_ng {n : NS} {p : Nat → Int32} {o : OS} {y : RS} {la sc : WS} {wy : YS} {ko : Nat → Option Nat} {rest : AH} {K : Nat} (hk : n.1 = nI K) (hK : K ≤ 24) (to : Int32) (m : Nat) : ∀ (i : Nat) (ch : KS) (_ : ch.1 = nI (K * 4)) (_ : i + m = 4), AW mX6_chartNet 5 0 0 0 0 17 [some (.ref 0), some (.int to), some (.int (nI (K * 4))), some (.int (nI i)), none] [] (CH n p o y la sc wy ch ko ++ rest) (P0 (CH n p o y la ((nwL n o.1 (K * 4) 0 (sc, ngL to m i ch)).1) wy (seL (K * 4) (K * 4 + 1) true (nwL n o.1 (K * 4) 0 (sc, ngL to m i ch)).2) ko ++ rest)) := by
  induction m with
  | zero =>
    intro i ch hc hi
    refine A_iload3 (pc := 17) dX6_chartNet_17 ?_
    refine A_iconst (pc := 18) (v := 4) dX6_chartNet_18 (by decide) ?_
    refine A_icmp_ge (pc := 19) (tgt := 40) dX6_chartNet_19 (by decide) (fun c19 => ?_) (fun c19 => absurd (show nI 4 ≤ nI i from nI_le (by omega) (by omega)) c19)
    refine A_iconst (pc := 40) (v := 0) dX6_chartNet_40 (by decide) ?_
    refine A_istore3 (pc := 41) dX6_chartNet_41 (by decide) ?_
    exact lp_nw hk hK to (K * 4) 0 (sc, ch) hc (by omega) none
  | succ m ih =>
    intro i ch hc hi
    refine A_iload3 (pc := 17) dX6_chartNet_17 ?_
    refine A_iconst (pc := 18) (v := 4) dX6_chartNet_18 (by decide) ?_
    refine A_icmp_ge (pc := 19) (tgt := 40) dX6_chartNet_19 (by decide) (fun c19 => absurd c19 (show ¬ nI 4 ≤ nI i from nI_ge (by omega) (by omega))) (fun c19 => ?_)
    refine A_aload0 (pc := 22) dX6_chartNet_22 ?_
    refine A_getf (pc := 23) flX6_59 dX6_chartNet_23 rfl rfl ?_
    refine A_iload1 (pc := 26) dX6_chartNet_26 ?_
    refine A_iload3 (pc := 27) dX6_chartNet_27 ?_
    refine A_csi (pc := 28) csX6_93 (sp_placeOf _ _) dX6_chartNet_28 rfl rfl (Nat.le_of_ble_eq_true rfl) (by decide) (by decide) (by decide) ?_
    refine A_cvv (pc := 31) cvX6_257 (sp_setGoal _) dX6_chartNet_31 rfl rfl rfl rfl (Nat.le_of_ble_eq_true rfl) (by decide) (by decide) (by decide) ?_
    refine A_iinc3 (pc := 34) dX6_chartNet_34 (by decide) (nI_1 i) ?_
    refine A_goto (pc := 37) (tgt := 17) dX6_chartNet_37 (by decide) ?_
    simp only [ngL]
    exact ih (i + 1) _ (by rw [sgK_1]; exact hc) (by omega)

set_option maxHeartbeats 4000000 in
set_option maxRecDepth 100000 in
theorem sp_chartNet {n : NS} {p : Nat → Int32} {o : OS} {y : RS} {la sc : WS} {wy : YS} {ch : KS} {ko : Nat → Option Nat} {rest : AH} {K : Nat} (hk : n.1 = nI K) (hK : K ≤ 24) (to : Int32) : AS mX6_chartNet 5 0 0 [.ref 0, .int to] (CH n p o y la sc wy ch ko ++ rest) (P0 (CH n p o y la ((nwQ n p o.1 sc ch to K).1) wy (seL (K * 4) (K * 4 + 1) true (nwQ n p o.1 sc ch to K).2) ko ++ rest)) := by
  refine AS.go (lv := [some (.ref 0), some (.int to), none, none, none]) rfl ?_ (by decide +kernel) rfl (Nat.le_of_ble_eq_true rfl)
  refine A_aload0 (pc := 0) dX6_chartNet_0 ?_
  refine A_getf (pc := 1) flX6_12 dX6_chartNet_1 rfl rfl ?_
  refine A_getf (pc := 4) flX6_226 dX6_chartNet_4 rfl rfl ?_
  refine A_iconst (pc := 7) (v := 4) dX6_chartNet_7 (by decide) ?_
  refine A_imul (pc := 8) dX6_chartNet_8 ?_
  rw [hk, show nI K * 4 = nI (K * 4) from pk_mul K 4]
  refine A_istore2 (pc := 9) dX6_chartNet_9 (by decide) ?_
  refine A_aload0 (pc := 10) dX6_chartNet_10 ?_
  refine A_iload2 (pc := 11) dX6_chartNet_11 ?_
  refine A_cvv (pc := 12) cvX6_254 (sp_openChart (K * 4) (by omega)) dX6_chartNet_12 rfl rfl rfl rfl (Nat.le_of_ble_eq_true rfl) (by decide) (by decide) (by decide) ?_
  refine A_iconst (pc := 15) (v := 0) dX6_chartNet_15 (by decide) ?_
  refine A_istore3 (pc := 16) dX6_chartNet_16 (by decide) ?_
  exact lp_ng hk hK to 4 0 _ (by rw [opK_1]) (by omega)
