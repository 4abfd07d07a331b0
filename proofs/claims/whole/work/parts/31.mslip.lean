/-! the model: slip -/
set_option maxHeartbeats 4000000 in
set_option maxRecDepth 100000 in
theorem mlp_slip {c : XV} {n : MN} {p : Nat → Nat} {al : Int32} {s : MS} {r : MR} {w : MW} {k : MK} {pl : MP} {fr : Nat → Nat} {t : MT} {rest : AH} (hl : VL n.2.2.1) (hnm : ∀ x, x < 96 → n.2.2.2 x < 2 ^ 31) (hsg : ∀ x, x < 24 → n.2.1 x < 2 ^ 31) (hs : VS s) (hr3 : r.2.2.2.1 ≤ 30) (hpk : pl.1 r.2.2.2.1 < 24) (ii : Nat) (hii : ii < s.1) (hkv : s.2.1 ii = 1 ∨ s.2.1 ii = 3 ∨ s.2.1 ii = 4 ∨ s.2.1 ii = 5 ∨ s.2.1 ii = 6) (kd9 : Int32) (m : Nat) : ∀ (j : Nat) (a : MA) (_ : j + m = s.1) (_ : a.1 < 24) (_ : a.2.1 < 4) (x4 x5 x6 : Option Value), AW mX7_slip 3 0 0 0 0 87 [some (.ref 25), some (.int (nI ii)), some (.int kd9), some (.int (nI j)), x4, x5, x6] [] (MX c n p al s r w k a pl fr t rest) (P1 (spA (spT2 n s ii m j a) (pl.1 r.2.2.2.1)) (MX c n p al s r w k ((spT2 n s ii m j a).2) pl fr t rest)) := by
  induction m with
  | zero =>
    intro j a hj9 h1 h2 x4 x5 x6
    refine A_iload3 (pc := 87) dX7_slip_87 ?_
    refine A_aload0 (pc := 88) dX7_slip_88 ?_
    refine A_getf (pc := 89) flX7_136 dX7_slip_89 rfl rfl ?_
    refine A_icmp_ge (pc := 92) (tgt := 209) dX7_slip_92 (by decide) (fun c92 => ?_) (fun c92 => absurd (show nI s.1 ≤ nI j from nI_le (by omega) (by have := hs.1; omega)) c92)
    refine A_aload0 (pc := 209) dX7_slip_209 ?_
    refine A_getf (pc := 210) flX7_115 dX7_slip_210 rfl rfl ?_
    refine A_aload0 (pc := 213) dX7_slip_213 ?_
    refine A_getf (pc := 214) flX7_62 dX7_slip_214 rfl rfl ?_
    refine A_aload0 (pc := 217) dX7_slip_217 ?_
    refine A_getf (pc := 218) flX7_101 dX7_slip_218 rfl rfl ?_
    refine A_ialdN (pc := 221) (i := r.2.2.2.1) dX7_slip_221 rfl rfl (by omega) (by decide) ?_
    refine A_icmp_ne (pc := 222) (tgt := 229) dX7_slip_222 (by decide) (fun c222 => ?_) (fun c222 => ?_)
    · have d222 : ¬ a.1 = pl.1 r.2.2.2.1 := fun q => c222 (by rw [q])
      refine A_iconst (pc := 229) (v := 0) dX7_slip_229 (by decide) ?_
      exact A_iret (pc := 230) dX7_slip_230 rfl rfl (by decide) (by decide) (⟨by rw [show spA (spT2 n s ii 0 j a) (pl.1 r.2.2.2.1) = 0 from if_neg d222], rfl⟩)
    · have d222 : a.1 = pl.1 r.2.2.2.1 := (nI_eq (by omega) (by omega)).mp c222
      refine A_iconst (pc := 225) (v := 1) dX7_slip_225 (by decide) ?_
      refine A_goto (pc := 226) (tgt := 230) dX7_slip_226 (by decide) ?_
      exact A_iret (pc := 230) dX7_slip_230 rfl rfl (by decide) (by decide) (⟨by rw [show spA (spT2 n s ii 0 j a) (pl.1 r.2.2.2.1) = 1 from if_pos d222], rfl⟩)
  | succ m ih =>
    intro j a hj9 h1 h2 x4 x5 x6
    have hs60 := hs.1
    have e8 : spT2 n s ii (m + 1) j a = (if (spD n s ii j a).1 = true then spT2 n s ii m (j + 1) (spD n s ii j a).2 else (some j, (spD n s ii j a).2)) := rfl
    by_cases hj : j = ii
    · rcases hkv with hv | hv | hv | hv | hv
      · rw [← hj] at hv
        have hsd : spD n s ii j a = (dsT n a 3 (s.2.2 j) 1) := by unfold spD; rw [if_pos hj, hv]; rfl
        rw [e8, hsd]
        refine A_iload3 (pc := 87) dX7_slip_87 ?_
        refine A_aload0 (pc := 88) dX7_slip_88 ?_
        refine A_getf (pc := 89) flX7_136 dX7_slip_89 rfl rfl ?_
        refine A_icmp_ge (pc := 92) (tgt := 209) dX7_slip_92 (by decide) (fun c92 => absurd c92 (show ¬ nI s.1 ≤ nI j from nI_ge (by omega) (by omega))) (fun c92 => ?_)
        refine A_iload3 (pc := 95) dX7_slip_95 ?_
        refine A_iload1 (pc := 96) dX7_slip_96 ?_
        refine A_icmp_ne (pc := 97) (tgt := 104) dX7_slip_97 (by decide) (fun c97 => absurd (show nI j = nI ii from by rw [hj]) c97) (fun c97 => ?_)
        refine A_iconst (pc := 100) (v := 1) dX7_slip_100 (by decide) ?_
        refine A_goto (pc := 101) (tgt := 105) dX7_slip_101 (by decide) ?_
        refine A_istore4 (pc := 105) dX7_slip_105 (by decide) ?_
        refine A_iload4 (pc := 107) dX7_slip_107 ?_
        refine A_if_eq (pc := 109) (tgt := 133) dX7_slip_109 (by decide) (fun c109 => absurd c109 (by decide)) (fun c109 => ?_)
        refine A_aload0 (pc := 112) dX7_slip_112 ?_
        refine A_getf (pc := 113) flX7_26 dX7_slip_113 rfl rfl ?_
        refine A_iload3 (pc := 116) dX7_slip_116 ?_
        refine A_ialdN (pc := 117) (i := j) dX7_slip_117 rfl rfl (by omega) (by decide) ?_
        refine A_iconst (pc := 118) (v := 4) dX7_slip_118 (by decide) ?_
        refine A_icmp_ge (pc := 119) (tgt := 133) dX7_slip_119 (by decide) (fun c119 => absurd c119 (show ¬ nI 4 ≤ nI (s.2.1 j) from by rw [hv]; decide)) (fun c119 => ?_)
        refine A_iconst (pc := 122) (v := 4) dX7_slip_122 (by decide) ?_
        refine A_aload0 (pc := 123) dX7_slip_123 ?_
        refine A_getf (pc := 124) flX7_26 dX7_slip_124 rfl rfl ?_
        refine A_iload3 (pc := 127) dX7_slip_127 ?_
        refine A_ialdN (pc := 128) (i := j) dX7_slip_128 rfl rfl (by omega) (by decide) ?_
        refine A_isub (pc := 129) dX7_slip_129 ?_
        refine A_goto (pc := 130) (tgt := 139) dX7_slip_130 (by decide) ?_
        refine AW.stk (st' := [.int (nI 3)]) (by rw [hv]; first | rfl | decide) ?_
        refine A_istore5 (pc := 139) dX7_slip_139 (by decide) ?_
        refine A_iload4 (pc := 141) dX7_slip_141 ?_
        refine A_if_eq (pc := 143) (tgt := 169) dX7_slip_143 (by decide) (fun c143 => absurd c143 (by decide)) (fun c143 => ?_)
        refine A_iload5 (pc := 146) dX7_slip_146 ?_
        refine A_iconst (pc := 148) (v := 4) dX7_slip_148 (by decide) ?_
        refine A_icmp_eq (pc := 149) (tgt := 158) dX7_slip_149 (by decide) (fun c149 => absurd c149 (by decide)) (fun c149 => ?_)
        refine A_iload5 (pc := 152) dX7_slip_152 ?_
        refine A_iconst (pc := 154) (v := 5) dX7_slip_154 (by decide) ?_
        refine A_icmp_ne (pc := 155) (tgt := 169) dX7_slip_155 (by decide) (fun c155 => ?_) (fun c155 => absurd c155 (by decide))
        refine A_aload0 (pc := 169) dX7_slip_169 ?_
        refine A_getf (pc := 170) flX7_29 dX7_slip_170 rfl rfl ?_
        refine A_iload3 (pc := 173) dX7_slip_173 ?_
        refine A_ialdN (pc := 174) (i := j) dX7_slip_174 rfl rfl (by omega) (by decide) ?_
        refine A_istore6 (pc := 175) dX7_slip_175 (by decide) ?_
        refine A_aload0 (pc := 177) dX7_slip_177 ?_
        refine A_iload5 (pc := 178) dX7_slip_178 ?_
        refine A_iload6 (pc := 180) dX7_slip_180 ?_
        refine A_iload4 (pc := 182) dX7_slip_182 ?_
        refine A_if_eq (pc := 184) (tgt := 191) dX7_slip_184 (by decide) (fun c184 => absurd c184 (by decide)) (fun c184 => ?_)
        refine A_iconst (pc := 187) (v := 1) dX7_slip_187 (by decide) ?_
        refine A_goto (pc := 188) (tgt := 192) dX7_slip_188 (by decide) ?_
        refine A_cvi (pc := 192) cvX7_145 (mp_does hl hnm hsg h1 h2 3 (s.2.2 j) 1 (by decide) (by have := (hs.2 j (by omega)).2.1; omega) (fun h => absurd h (by decide)) (by decide)) dX7_slip_192 rfl rfl rfl rfl (Nat.le_of_ble_eq_true rfl) (by decide) (by decide) (by decide) ?_
        refine A_if_ne (pc := 195) (tgt := 203) dX7_slip_195 (by decide) (fun c195 => ?_) (fun c195 => ?_)
        · replace c195 := (bI_ne _).mp c195
          refine A_iinc3 (pc := 203) dX7_slip_203 (by decide) (nI_1 j) ?_
          refine A_goto (pc := 206) (tgt := 87) dX7_slip_206 (by decide) ?_
          rw [if_pos c195]
          exact ih (j + 1) _ (by omega) (dsT_ok hl h1 h2 _ _ _).1 (dsT_ok hl h1 h2 _ _ _).2.1 _ _ _
        · replace c195 := (bI_eq _).mp c195
          refine A_bipush (pc := 198) (v := -2) dX7_slip_198 (by decide) ?_
          refine A_iload3 (pc := 200) dX7_slip_200 ?_
          refine A_isub (pc := 201) dX7_slip_201 ?_
          exact A_iret (pc := 202) dX7_slip_202 rfl rfl (by decide) (by decide) (⟨by rw [if_neg (by rw [c195]; decide)]; rfl, by rw [if_neg (by rw [c195]; decide)]⟩)
      · rw [← hj] at hv
        have hsd : spD n s ii j a = (dsT n a 1 (s.2.2 j) 1) := by unfold spD; rw [if_pos hj, hv]; rfl
        rw [e8, hsd]
        refine A_iload3 (pc := 87) dX7_slip_87 ?_
        refine A_aload0 (pc := 88) dX7_slip_88 ?_
        refine A_getf (pc := 89) flX7_136 dX7_slip_89 rfl rfl ?_
        refine A_icmp_ge (pc := 92) (tgt := 209) dX7_slip_92 (by decide) (fun c92 => absurd c92 (show ¬ nI s.1 ≤ nI j from nI_ge (by omega) (by omega))) (fun c92 => ?_)
        refine A_iload3 (pc := 95) dX7_slip_95 ?_
        refine A_iload1 (pc := 96) dX7_slip_96 ?_
        refine A_icmp_ne (pc := 97) (tgt := 104) dX7_slip_97 (by decide) (fun c97 => absurd (show nI j = nI ii from by rw [hj]) c97) (fun c97 => ?_)
        refine A_iconst (pc := 100) (v := 1) dX7_slip_100 (by decide) ?_
        refine A_goto (pc := 101) (tgt := 105) dX7_slip_101 (by decide) ?_
        refine A_istore4 (pc := 105) dX7_slip_105 (by decide) ?_
        refine A_iload4 (pc := 107) dX7_slip_107 ?_
        refine A_if_eq (pc := 109) (tgt := 133) dX7_slip_109 (by decide) (fun c109 => absurd c109 (by decide)) (fun c109 => ?_)
        refine A_aload0 (pc := 112) dX7_slip_112 ?_
        refine A_getf (pc := 113) flX7_26 dX7_slip_113 rfl rfl ?_
        refine A_iload3 (pc := 116) dX7_slip_116 ?_
        refine A_ialdN (pc := 117) (i := j) dX7_slip_117 rfl rfl (by omega) (by decide) ?_
        refine A_iconst (pc := 118) (v := 4) dX7_slip_118 (by decide) ?_
        refine A_icmp_ge (pc := 119) (tgt := 133) dX7_slip_119 (by decide) (fun c119 => absurd c119 (show ¬ nI 4 ≤ nI (s.2.1 j) from by rw [hv]; decide)) (fun c119 => ?_)
        refine A_iconst (pc := 122) (v := 4) dX7_slip_122 (by decide) ?_
        refine A_aload0 (pc := 123) dX7_slip_123 ?_
        refine A_getf (pc := 124) flX7_26 dX7_slip_124 rfl rfl ?_
        refine A_iload3 (pc := 127) dX7_slip_127 ?_
        refine A_ialdN (pc := 128) (i := j) dX7_slip_128 rfl rfl (by omega) (by decide) ?_
        refine A_isub (pc := 129) dX7_slip_129 ?_
        refine A_goto (pc := 130) (tgt := 139) dX7_slip_130 (by decide) ?_
        refine AW.stk (st' := [.int (nI 1)]) (by rw [hv]; first | rfl | decide) ?_
        refine A_istore5 (pc := 139) dX7_slip_139 (by decide) ?_
        refine A_iload4 (pc := 141) dX7_slip_141 ?_
        refine A_if_eq (pc := 143) (tgt := 169) dX7_slip_143 (by decide) (fun c143 => absurd c143 (by decide)) (fun c143 => ?_)
        refine A_iload5 (pc := 146) dX7_slip_146 ?_
        refine A_iconst (pc := 148) (v := 4) dX7_slip_148 (by decide) ?_
        refine A_icmp_eq (pc := 149) (tgt := 158) dX7_slip_149 (by decide) (fun c149 => absurd c149 (by decide)) (fun c149 => ?_)
        refine A_iload5 (pc := 152) dX7_slip_152 ?_
        refine A_iconst (pc := 154) (v := 5) dX7_slip_154 (by decide) ?_
        refine A_icmp_ne (pc := 155) (tgt := 169) dX7_slip_155 (by decide) (fun c155 => ?_) (fun c155 => absurd c155 (by decide))
        refine A_aload0 (pc := 169) dX7_slip_169 ?_
        refine A_getf (pc := 170) flX7_29 dX7_slip_170 rfl rfl ?_
        refine A_iload3 (pc := 173) dX7_slip_173 ?_
        refine A_ialdN (pc := 174) (i := j) dX7_slip_174 rfl rfl (by omega) (by decide) ?_
        refine A_istore6 (pc := 175) dX7_slip_175 (by decide) ?_
        refine A_aload0 (pc := 177) dX7_slip_177 ?_
        refine A_iload5 (pc := 178) dX7_slip_178 ?_
        refine A_iload6 (pc := 180) dX7_slip_180 ?_
        refine A_iload4 (pc := 182) dX7_slip_182 ?_
        refine A_if_eq (pc := 184) (tgt := 191) dX7_slip_184 (by decide) (fun c184 => absurd c184 (by decide)) (fun c184 => ?_)
        refine A_iconst (pc := 187) (v := 1) dX7_slip_187 (by decide) ?_
        refine A_goto (pc := 188) (tgt := 192) dX7_slip_188 (by decide) ?_
        refine A_cvi (pc := 192) cvX7_145 (mp_does hl hnm hsg h1 h2 1 (s.2.2 j) 1 (by decide) (by have := (hs.2 j (by omega)).2.1; omega) (fun h => absurd h (by decide)) (by decide)) dX7_slip_192 rfl rfl rfl rfl (Nat.le_of_ble_eq_true rfl) (by decide) (by decide) (by decide) ?_
        refine A_if_ne (pc := 195) (tgt := 203) dX7_slip_195 (by decide) (fun c195 => ?_) (fun c195 => ?_)
        · replace c195 := (bI_ne _).mp c195
          refine A_iinc3 (pc := 203) dX7_slip_203 (by decide) (nI_1 j) ?_
          refine A_goto (pc := 206) (tgt := 87) dX7_slip_206 (by decide) ?_
          rw [if_pos c195]
          exact ih (j + 1) _ (by omega) (dsT_ok hl h1 h2 _ _ _).1 (dsT_ok hl h1 h2 _ _ _).2.1 _ _ _
        · replace c195 := (bI_eq _).mp c195
          refine A_bipush (pc := 198) (v := -2) dX7_slip_198 (by decide) ?_
          refine A_iload3 (pc := 200) dX7_slip_200 ?_
          refine A_isub (pc := 201) dX7_slip_201 ?_
          exact A_iret (pc := 202) dX7_slip_202 rfl rfl (by decide) (by decide) (⟨by rw [if_neg (by rw [c195]; decide)]; rfl, by rw [if_neg (by rw [c195]; decide)]⟩)
      · rw [← hj] at hv
        have hsd : spD n s ii j a = (dsT n a 4 (s.2.2 j + 1) 1) := by unfold spD; rw [if_pos hj, hv]; rfl
        rw [e8, hsd]
        refine A_iload3 (pc := 87) dX7_slip_87 ?_
        refine A_aload0 (pc := 88) dX7_slip_88 ?_
        refine A_getf (pc := 89) flX7_136 dX7_slip_89 rfl rfl ?_
        refine A_icmp_ge (pc := 92) (tgt := 209) dX7_slip_92 (by decide) (fun c92 => absurd c92 (show ¬ nI s.1 ≤ nI j from nI_ge (by omega) (by omega))) (fun c92 => ?_)
        refine A_iload3 (pc := 95) dX7_slip_95 ?_
        refine A_iload1 (pc := 96) dX7_slip_96 ?_
        refine A_icmp_ne (pc := 97) (tgt := 104) dX7_slip_97 (by decide) (fun c97 => absurd (show nI j = nI ii from by rw [hj]) c97) (fun c97 => ?_)
        refine A_iconst (pc := 100) (v := 1) dX7_slip_100 (by decide) ?_
        refine A_goto (pc := 101) (tgt := 105) dX7_slip_101 (by decide) ?_
        refine A_istore4 (pc := 105) dX7_slip_105 (by decide) ?_
        refine A_iload4 (pc := 107) dX7_slip_107 ?_
        refine A_if_eq (pc := 109) (tgt := 133) dX7_slip_109 (by decide) (fun c109 => absurd c109 (by decide)) (fun c109 => ?_)
        refine A_aload0 (pc := 112) dX7_slip_112 ?_
        refine A_getf (pc := 113) flX7_26 dX7_slip_113 rfl rfl ?_
        refine A_iload3 (pc := 116) dX7_slip_116 ?_
        refine A_ialdN (pc := 117) (i := j) dX7_slip_117 rfl rfl (by omega) (by decide) ?_
        refine A_iconst (pc := 118) (v := 4) dX7_slip_118 (by decide) ?_
        refine A_icmp_ge (pc := 119) (tgt := 133) dX7_slip_119 (by decide) (fun c119 => ?_) (fun c119 => absurd (show nI 4 ≤ nI (s.2.1 j) from by rw [hv]; decide) c119)
        refine A_aload0 (pc := 133) dX7_slip_133 ?_
        refine A_getf (pc := 134) flX7_26 dX7_slip_134 rfl rfl ?_
        refine A_iload3 (pc := 137) dX7_slip_137 ?_
        refine A_ialdN (pc := 138) (i := j) dX7_slip_138 rfl rfl (by omega) (by decide) ?_
        refine AW.stk (st' := [.int (nI 4)]) (by rw [hv]) ?_
        refine A_istore5 (pc := 139) dX7_slip_139 (by decide) ?_
        refine A_iload4 (pc := 141) dX7_slip_141 ?_
        refine A_if_eq (pc := 143) (tgt := 169) dX7_slip_143 (by decide) (fun c143 => absurd c143 (by decide)) (fun c143 => ?_)
        refine A_iload5 (pc := 146) dX7_slip_146 ?_
        refine A_iconst (pc := 148) (v := 4) dX7_slip_148 (by decide) ?_
        refine A_icmp_eq (pc := 149) (tgt := 158) dX7_slip_149 (by decide) (fun c149 => ?_) (fun c149 => absurd rfl c149)
        refine A_aload0 (pc := 158) dX7_slip_158 ?_
        refine A_getf (pc := 159) flX7_29 dX7_slip_159 rfl rfl ?_
        refine A_iload3 (pc := 162) dX7_slip_162 ?_
        refine A_ialdN (pc := 163) (i := j) dX7_slip_163 rfl rfl (by omega) (by decide) ?_
        refine A_iconst (pc := 164) (v := 1) dX7_slip_164 (by decide) ?_
        refine A_iadd (pc := 165) dX7_slip_165 ?_
        refine A_goto (pc := 166) (tgt := 175) dX7_slip_166 (by decide) ?_
        rw [nI_1]
        refine A_istore6 (pc := 175) dX7_slip_175 (by decide) ?_
        refine A_aload0 (pc := 177) dX7_slip_177 ?_
        refine A_iload5 (pc := 178) dX7_slip_178 ?_
        refine A_iload6 (pc := 180) dX7_slip_180 ?_
        refine A_iload4 (pc := 182) dX7_slip_182 ?_
        refine A_if_eq (pc := 184) (tgt := 191) dX7_slip_184 (by decide) (fun c184 => absurd c184 (by decide)) (fun c184 => ?_)
        refine A_iconst (pc := 187) (v := 1) dX7_slip_187 (by decide) ?_
        refine A_goto (pc := 188) (tgt := 192) dX7_slip_188 (by decide) ?_
        refine A_cvi (pc := 192) cvX7_145 (mp_does hl hnm hsg h1 h2 4 (s.2.2 j + 1) 1 (by decide) (by have := (hs.2 j (by omega)).2.1; omega) (fun _ => by omega) (by decide)) dX7_slip_192 rfl rfl rfl rfl (Nat.le_of_ble_eq_true rfl) (by decide) (by decide) (by decide) ?_
        refine A_if_ne (pc := 195) (tgt := 203) dX7_slip_195 (by decide) (fun c195 => ?_) (fun c195 => ?_)
        · replace c195 := (bI_ne _).mp c195
          refine A_iinc3 (pc := 203) dX7_slip_203 (by decide) (nI_1 j) ?_
          refine A_goto (pc := 206) (tgt := 87) dX7_slip_206 (by decide) ?_
          rw [if_pos c195]
          exact ih (j + 1) _ (by omega) (dsT_ok hl h1 h2 _ _ _).1 (dsT_ok hl h1 h2 _ _ _).2.1 _ _ _
        · replace c195 := (bI_eq _).mp c195
          refine A_bipush (pc := 198) (v := -2) dX7_slip_198 (by decide) ?_
          refine A_iload3 (pc := 200) dX7_slip_200 ?_
          refine A_isub (pc := 201) dX7_slip_201 ?_
          exact A_iret (pc := 202) dX7_slip_202 rfl rfl (by decide) (by decide) (⟨by rw [if_neg (by rw [c195]; decide)]; rfl, by rw [if_neg (by rw [c195]; decide)]⟩)
      · rw [← hj] at hv
        have hsd : spD n s ii j a = (dsT n a 5 (s.2.2 j + 1) 1) := by unfold spD; rw [if_pos hj, hv]; rfl
        rw [e8, hsd]
        refine A_iload3 (pc := 87) dX7_slip_87 ?_
        refine A_aload0 (pc := 88) dX7_slip_88 ?_
        refine A_getf (pc := 89) flX7_136 dX7_slip_89 rfl rfl ?_
        refine A_icmp_ge (pc := 92) (tgt := 209) dX7_slip_92 (by decide) (fun c92 => absurd c92 (show ¬ nI s.1 ≤ nI j from nI_ge (by omega) (by omega))) (fun c92 => ?_)
        refine A_iload3 (pc := 95) dX7_slip_95 ?_
        refine A_iload1 (pc := 96) dX7_slip_96 ?_
        refine A_icmp_ne (pc := 97) (tgt := 104) dX7_slip_97 (by decide) (fun c97 => absurd (show nI j = nI ii from by rw [hj]) c97) (fun c97 => ?_)
        refine A_iconst (pc := 100) (v := 1) dX7_slip_100 (by decide) ?_
        refine A_goto (pc := 101) (tgt := 105) dX7_slip_101 (by decide) ?_
        refine A_istore4 (pc := 105) dX7_slip_105 (by decide) ?_
        refine A_iload4 (pc := 107) dX7_slip_107 ?_
        refine A_if_eq (pc := 109) (tgt := 133) dX7_slip_109 (by decide) (fun c109 => absurd c109 (by decide)) (fun c109 => ?_)
        refine A_aload0 (pc := 112) dX7_slip_112 ?_
        refine A_getf (pc := 113) flX7_26 dX7_slip_113 rfl rfl ?_
        refine A_iload3 (pc := 116) dX7_slip_116 ?_
        refine A_ialdN (pc := 117) (i := j) dX7_slip_117 rfl rfl (by omega) (by decide) ?_
        refine A_iconst (pc := 118) (v := 4) dX7_slip_118 (by decide) ?_
        refine A_icmp_ge (pc := 119) (tgt := 133) dX7_slip_119 (by decide) (fun c119 => ?_) (fun c119 => absurd (show nI 4 ≤ nI (s.2.1 j) from by rw [hv]; decide) c119)
        refine A_aload0 (pc := 133) dX7_slip_133 ?_
        refine A_getf (pc := 134) flX7_26 dX7_slip_134 rfl rfl ?_
        refine A_iload3 (pc := 137) dX7_slip_137 ?_
        refine A_ialdN (pc := 138) (i := j) dX7_slip_138 rfl rfl (by omega) (by decide) ?_
        refine AW.stk (st' := [.int (nI 5)]) (by rw [hv]) ?_
        refine A_istore5 (pc := 139) dX7_slip_139 (by decide) ?_
        refine A_iload4 (pc := 141) dX7_slip_141 ?_
        refine A_if_eq (pc := 143) (tgt := 169) dX7_slip_143 (by decide) (fun c143 => absurd c143 (by decide)) (fun c143 => ?_)
        refine A_iload5 (pc := 146) dX7_slip_146 ?_
        refine A_iconst (pc := 148) (v := 4) dX7_slip_148 (by decide) ?_
        refine A_icmp_eq (pc := 149) (tgt := 158) dX7_slip_149 (by decide) (fun c149 => absurd c149 (by decide)) (fun c149 => ?_)
        refine A_iload5 (pc := 152) dX7_slip_152 ?_
        refine A_iconst (pc := 154) (v := 5) dX7_slip_154 (by decide) ?_
        refine A_icmp_ne (pc := 155) (tgt := 169) dX7_slip_155 (by decide) (fun c155 => absurd rfl c155) (fun c155 => ?_)
        refine A_aload0 (pc := 158) dX7_slip_158 ?_
        refine A_getf (pc := 159) flX7_29 dX7_slip_159 rfl rfl ?_
        refine A_iload3 (pc := 162) dX7_slip_162 ?_
        refine A_ialdN (pc := 163) (i := j) dX7_slip_163 rfl rfl (by omega) (by decide) ?_
        refine A_iconst (pc := 164) (v := 1) dX7_slip_164 (by decide) ?_
        refine A_iadd (pc := 165) dX7_slip_165 ?_
        refine A_goto (pc := 166) (tgt := 175) dX7_slip_166 (by decide) ?_
        rw [nI_1]
        refine A_istore6 (pc := 175) dX7_slip_175 (by decide) ?_
        refine A_aload0 (pc := 177) dX7_slip_177 ?_
        refine A_iload5 (pc := 178) dX7_slip_178 ?_
        refine A_iload6 (pc := 180) dX7_slip_180 ?_
        refine A_iload4 (pc := 182) dX7_slip_182 ?_
        refine A_if_eq (pc := 184) (tgt := 191) dX7_slip_184 (by decide) (fun c184 => absurd c184 (by decide)) (fun c184 => ?_)
        refine A_iconst (pc := 187) (v := 1) dX7_slip_187 (by decide) ?_
        refine A_goto (pc := 188) (tgt := 192) dX7_slip_188 (by decide) ?_
        refine A_cvi (pc := 192) cvX7_145 (mp_does hl hnm hsg h1 h2 5 (s.2.2 j + 1) 1 (by decide) (by have := (hs.2 j (by omega)).2.1; omega) (fun _ => by omega) (by decide)) dX7_slip_192 rfl rfl rfl rfl (Nat.le_of_ble_eq_true rfl) (by decide) (by decide) (by decide) ?_
        refine A_if_ne (pc := 195) (tgt := 203) dX7_slip_195 (by decide) (fun c195 => ?_) (fun c195 => ?_)
        · replace c195 := (bI_ne _).mp c195
          refine A_iinc3 (pc := 203) dX7_slip_203 (by decide) (nI_1 j) ?_
          refine A_goto (pc := 206) (tgt := 87) dX7_slip_206 (by decide) ?_
          rw [if_pos c195]
          exact ih (j + 1) _ (by omega) (dsT_ok hl h1 h2 _ _ _).1 (dsT_ok hl h1 h2 _ _ _).2.1 _ _ _
        · replace c195 := (bI_eq _).mp c195
          refine A_bipush (pc := 198) (v := -2) dX7_slip_198 (by decide) ?_
          refine A_iload3 (pc := 200) dX7_slip_200 ?_
          refine A_isub (pc := 201) dX7_slip_201 ?_
          exact A_iret (pc := 202) dX7_slip_202 rfl rfl (by decide) (by decide) (⟨by rw [if_neg (by rw [c195]; decide)]; rfl, by rw [if_neg (by rw [c195]; decide)]⟩)
      · rw [← hj] at hv
        have hsd : spD n s ii j a = (dsT n a 6 (s.2.2 j) 1) := by unfold spD; rw [if_pos hj, hv]; rfl
        rw [e8, hsd]
        refine A_iload3 (pc := 87) dX7_slip_87 ?_
        refine A_aload0 (pc := 88) dX7_slip_88 ?_
        refine A_getf (pc := 89) flX7_136 dX7_slip_89 rfl rfl ?_
        refine A_icmp_ge (pc := 92) (tgt := 209) dX7_slip_92 (by decide) (fun c92 => absurd c92 (show ¬ nI s.1 ≤ nI j from nI_ge (by omega) (by omega))) (fun c92 => ?_)
        refine A_iload3 (pc := 95) dX7_slip_95 ?_
        refine A_iload1 (pc := 96) dX7_slip_96 ?_
        refine A_icmp_ne (pc := 97) (tgt := 104) dX7_slip_97 (by decide) (fun c97 => absurd (show nI j = nI ii from by rw [hj]) c97) (fun c97 => ?_)
        refine A_iconst (pc := 100) (v := 1) dX7_slip_100 (by decide) ?_
        refine A_goto (pc := 101) (tgt := 105) dX7_slip_101 (by decide) ?_
        refine A_istore4 (pc := 105) dX7_slip_105 (by decide) ?_
        refine A_iload4 (pc := 107) dX7_slip_107 ?_
        refine A_if_eq (pc := 109) (tgt := 133) dX7_slip_109 (by decide) (fun c109 => absurd c109 (by decide)) (fun c109 => ?_)
        refine A_aload0 (pc := 112) dX7_slip_112 ?_
        refine A_getf (pc := 113) flX7_26 dX7_slip_113 rfl rfl ?_
        refine A_iload3 (pc := 116) dX7_slip_116 ?_
        refine A_ialdN (pc := 117) (i := j) dX7_slip_117 rfl rfl (by omega) (by decide) ?_
        refine A_iconst (pc := 118) (v := 4) dX7_slip_118 (by decide) ?_
        refine A_icmp_ge (pc := 119) (tgt := 133) dX7_slip_119 (by decide) (fun c119 => ?_) (fun c119 => absurd (show nI 4 ≤ nI (s.2.1 j) from by rw [hv]; decide) c119)
        refine A_aload0 (pc := 133) dX7_slip_133 ?_
        refine A_getf (pc := 134) flX7_26 dX7_slip_134 rfl rfl ?_
        refine A_iload3 (pc := 137) dX7_slip_137 ?_
        refine A_ialdN (pc := 138) (i := j) dX7_slip_138 rfl rfl (by omega) (by decide) ?_
        refine AW.stk (st' := [.int (nI 6)]) (by rw [hv]) ?_
        refine A_istore5 (pc := 139) dX7_slip_139 (by decide) ?_
        refine A_iload4 (pc := 141) dX7_slip_141 ?_
        refine A_if_eq (pc := 143) (tgt := 169) dX7_slip_143 (by decide) (fun c143 => absurd c143 (by decide)) (fun c143 => ?_)
        refine A_iload5 (pc := 146) dX7_slip_146 ?_
        refine A_iconst (pc := 148) (v := 4) dX7_slip_148 (by decide) ?_
        refine A_icmp_eq (pc := 149) (tgt := 158) dX7_slip_149 (by decide) (fun c149 => absurd c149 (by decide)) (fun c149 => ?_)
        refine A_iload5 (pc := 152) dX7_slip_152 ?_
        refine A_iconst (pc := 154) (v := 5) dX7_slip_154 (by decide) ?_
        refine A_icmp_ne (pc := 155) (tgt := 169) dX7_slip_155 (by decide) (fun c155 => ?_) (fun c155 => absurd c155 (by decide))
        refine A_aload0 (pc := 169) dX7_slip_169 ?_
        refine A_getf (pc := 170) flX7_29 dX7_slip_170 rfl rfl ?_
        refine A_iload3 (pc := 173) dX7_slip_173 ?_
        refine A_ialdN (pc := 174) (i := j) dX7_slip_174 rfl rfl (by omega) (by decide) ?_
        refine A_istore6 (pc := 175) dX7_slip_175 (by decide) ?_
        refine A_aload0 (pc := 177) dX7_slip_177 ?_
        refine A_iload5 (pc := 178) dX7_slip_178 ?_
        refine A_iload6 (pc := 180) dX7_slip_180 ?_
        refine A_iload4 (pc := 182) dX7_slip_182 ?_
        refine A_if_eq (pc := 184) (tgt := 191) dX7_slip_184 (by decide) (fun c184 => absurd c184 (by decide)) (fun c184 => ?_)
        refine A_iconst (pc := 187) (v := 1) dX7_slip_187 (by decide) ?_
        refine A_goto (pc := 188) (tgt := 192) dX7_slip_188 (by decide) ?_
        refine A_cvi (pc := 192) cvX7_145 (mp_does hl hnm hsg h1 h2 6 (s.2.2 j) 1 (by decide) (by have := (hs.2 j (by omega)).2.1; omega) (fun h => absurd h (by decide)) (by decide)) dX7_slip_192 rfl rfl rfl rfl (Nat.le_of_ble_eq_true rfl) (by decide) (by decide) (by decide) ?_
        refine A_if_ne (pc := 195) (tgt := 203) dX7_slip_195 (by decide) (fun c195 => ?_) (fun c195 => ?_)
        · replace c195 := (bI_ne _).mp c195
          refine A_iinc3 (pc := 203) dX7_slip_203 (by decide) (nI_1 j) ?_
          refine A_goto (pc := 206) (tgt := 87) dX7_slip_206 (by decide) ?_
          rw [if_pos c195]
          exact ih (j + 1) _ (by omega) (dsT_ok hl h1 h2 _ _ _).1 (dsT_ok hl h1 h2 _ _ _).2.1 _ _ _
        · replace c195 := (bI_eq _).mp c195
          refine A_bipush (pc := 198) (v := -2) dX7_slip_198 (by decide) ?_
          refine A_iload3 (pc := 200) dX7_slip_200 ?_
          refine A_isub (pc := 201) dX7_slip_201 ?_
          exact A_iret (pc := 202) dX7_slip_202 rfl rfl (by decide) (by decide) (⟨by rw [if_neg (by rw [c195]; decide)]; rfl, by rw [if_neg (by rw [c195]; decide)]⟩)
    · have hsd : spD n s ii j a = (dsT n a (s.2.1 j) (s.2.2 j) 0) := if_neg hj
      rw [e8, hsd]
      refine A_iload3 (pc := 87) dX7_slip_87 ?_
      refine A_aload0 (pc := 88) dX7_slip_88 ?_
      refine A_getf (pc := 89) flX7_136 dX7_slip_89 rfl rfl ?_
      refine A_icmp_ge (pc := 92) (tgt := 209) dX7_slip_92 (by decide) (fun c92 => absurd c92 (show ¬ nI s.1 ≤ nI j from nI_ge (by omega) (by omega))) (fun c92 => ?_)
      refine A_iload3 (pc := 95) dX7_slip_95 ?_
      refine A_iload1 (pc := 96) dX7_slip_96 ?_
      refine A_icmp_ne (pc := 97) (tgt := 104) dX7_slip_97 (by decide) (fun c97 => ?_) (fun c97 => absurd c97 (fun q => hj ((nI_eq (by omega) (by omega)).mp q)))
      refine A_iconst (pc := 104) (v := 0) dX7_slip_104 (by decide) ?_
      refine A_istore4 (pc := 105) dX7_slip_105 (by decide) ?_
      refine A_iload4 (pc := 107) dX7_slip_107 ?_
      refine A_if_eq (pc := 109) (tgt := 133) dX7_slip_109 (by decide) (fun c109 => ?_) (fun c109 => absurd rfl c109)
      refine A_aload0 (pc := 133) dX7_slip_133 ?_
      refine A_getf (pc := 134) flX7_26 dX7_slip_134 rfl rfl ?_
      refine A_iload3 (pc := 137) dX7_slip_137 ?_
      refine A_ialdN (pc := 138) (i := j) dX7_slip_138 rfl rfl (by omega) (by decide) ?_
      refine A_istore5 (pc := 139) dX7_slip_139 (by decide) ?_
      refine A_iload4 (pc := 141) dX7_slip_141 ?_
      refine A_if_eq (pc := 143) (tgt := 169) dX7_slip_143 (by decide) (fun c143 => ?_) (fun c143 => absurd rfl c143)
      refine A_aload0 (pc := 169) dX7_slip_169 ?_
      refine A_getf (pc := 170) flX7_29 dX7_slip_170 rfl rfl ?_
      refine A_iload3 (pc := 173) dX7_slip_173 ?_
      refine A_ialdN (pc := 174) (i := j) dX7_slip_174 rfl rfl (by omega) (by decide) ?_
      refine A_istore6 (pc := 175) dX7_slip_175 (by decide) ?_
      refine A_aload0 (pc := 177) dX7_slip_177 ?_
      refine A_iload5 (pc := 178) dX7_slip_178 ?_
      refine A_iload6 (pc := 180) dX7_slip_180 ?_
      refine A_iload4 (pc := 182) dX7_slip_182 ?_
      refine A_if_eq (pc := 184) (tgt := 191) dX7_slip_184 (by decide) (fun c184 => ?_) (fun c184 => absurd rfl c184)
      refine A_iconst (pc := 191) (v := 0) dX7_slip_191 (by decide) ?_
      refine A_cvi (pc := 192) cvX7_145 (mp_does hl hnm hsg h1 h2 (s.2.1 j) (s.2.2 j) 0 (hs.2 j (by omega)).1 (by have := (hs.2 j (by omega)).2.1; omega) (hs.2 j (by omega)).2.2 (by decide)) dX7_slip_192 rfl rfl rfl rfl (Nat.le_of_ble_eq_true rfl) (by decide) (by decide) (by decide) ?_
      refine A_if_ne (pc := 195) (tgt := 203) dX7_slip_195 (by decide) (fun c195 => ?_) (fun c195 => ?_)
      · replace c195 := (bI_ne _).mp c195
        refine A_iinc3 (pc := 203) dX7_slip_203 (by decide) (nI_1 j) ?_
        refine A_goto (pc := 206) (tgt := 87) dX7_slip_206 (by decide) ?_
        rw [if_pos c195]
        exact ih (j + 1) _ (by omega) (dsT_ok hl h1 h2 _ _ _).1 (dsT_ok hl h1 h2 _ _ _).2.1 _ _ _
      · replace c195 := (bI_eq _).mp c195
        refine A_bipush (pc := 198) (v := -2) dX7_slip_198 (by decide) ?_
        refine A_iload3 (pc := 200) dX7_slip_200 ?_
        refine A_isub (pc := 201) dX7_slip_201 ?_
        exact A_iret (pc := 202) dX7_slip_202 rfl rfl (by decide) (by decide) (⟨by rw [if_neg (by rw [c195]; decide)]; rfl, by rw [if_neg (by rw [c195]; decide)]⟩)

set_option maxHeartbeats 4000000 in
set_option maxRecDepth 100000 in
theorem mp_slip {c : XV} {n : MN} {p : Nat → Nat} {al : Int32} {s : MS} {r : MR} {w : MW} {k : MK} {a : MA} {pl : MP} {fr : Nat → Nat} {t : MT} {rest : AH} (hl : VL n.2.2.1) (hnm : ∀ x, x < 96 → n.2.2.2 x < 2 ^ 31) (hsg : ∀ x, x < 24 → n.2.1 x < 2 ^ 31) (hr1 : r.2.1 < 24) (hr2 : r.2.2.1 < 4) (hr3 : r.2.2.2.1 ≤ 30) (hr4 : ∀ i, i < r.2.2.2.1 → r.2.2.2.2 i < 4) (hw : r.1 = true → (foP n.2.2.1 r.2.2.2.2 0 r.2.2.2.1 r.2.1 r.2.2.1 pl).1 = true) (hs : VS s) (x : Int32) : AS mX7_slip 3 0 0 [.ref 25, .int x] (MX c n p al s r w k a pl fr t rest) (P1 (if spC r s x = true then spA (spT2 n s (tN x) s.1 0 (r.2.1, r.2.2.1, a.2.2)) ((goP n r pl).1 r.2.2.2.1) else -1) (MX c n p al s r w k (if spC r s x = true then (spT2 n s (tN x) s.1 0 (r.2.1, r.2.2.1, a.2.2)).2 else a) (if spC r s x = true then goP n r pl else pl) fr t rest)) := by
  refine AS.go (lv := [some (.ref 25), some (.int x), none, none, none, none, none]) rfl ?_ (by decide +kernel) rfl (Nat.le_of_ble_eq_true rfl)
  refine A_aload0 (pc := 0) dX7_slip_0 ?_
  refine A_getf (pc := 1) flX7_104 dX7_slip_1 rfl rfl ?_
  refine A_if_eq (pc := 4) (tgt := 21) dX7_slip_4 (by decide) (fun c4 => ?_) (fun c4 => ?_)
  · replace c4 := (bI_eq _).mp c4
    refine A_iconst (pc := 21) (v := -1) dX7_slip_21 (by decide) ?_
    exact A_iret (pc := 22) dX7_slip_22 rfl rfl (by decide) (by decide) (by have gC : ¬ spC r s x = true := (by unfold spC; rw [if_neg (by rw [c4]; decide)]; decide); exact ⟨by rw [if_neg gC], by rw [if_neg gC, if_neg gC]⟩)
  · replace c4 := (bI_ne _).mp c4
    refine A_iload1 (pc := 7) dX7_slip_7 ?_
    refine A_iconst (pc := 8) (v := 0) dX7_slip_8 (by decide) ?_
    refine A_aload0 (pc := 9) dX7_slip_9 ?_
    refine A_getf (pc := 10) flX7_136 dX7_slip_10 rfl rfl ?_
    refine A_iconst (pc := 13) (v := 1) dX7_slip_13 (by decide) ?_
    refine A_isub (pc := 14) dX7_slip_14 ?_
    refine A_csi (pc := 15) csX7_86 (mp_in _ _ _) dX7_slip_15 rfl rfl (Nat.le_of_ble_eq_true rfl) (by decide) (by decide) (by decide) ?_
    refine A_if_ne (pc := 18) (tgt := 23) dX7_slip_18 (by decide) (fun c18 => ?_) (fun c18 => ?_)
    · replace c18 := (bI_ne _).mp c18
      have hk9 := (hs.2 (tN x) (inI_pred (by have := hs.1; omega) c18).2).1
      refine A_aload0 (pc := 23) dX7_slip_23 ?_
      refine A_getf (pc := 24) flX7_26 dX7_slip_24 rfl rfl ?_
      refine A_iload1 (pc := 27) dX7_slip_27 ?_
      refine A_ialdN (pc := 28) (i := (tN x)) dX7_slip_28 rfl (inI_pred (by have := hs.1; omega) c18).1 (by have := (inI_pred (by have := hs.1; omega) c18).2; have := hs.1; omega) (by decide) ?_
      refine A_istore2 (pc := 29) dX7_slip_29 (by decide) ?_
      refine A_iload2 (pc := 30) dX7_slip_30 ?_
      refine A_if_eq (pc := 31) (tgt := 45) dX7_slip_31 (by decide) (fun c31 => ?_) (fun c31 => ?_)
      · have d31 : (s.2.1 (tN x)) = 0 := (nI_eq (by omega) (by decide)).mp c31
        refine A_iconst (pc := 45) (v := -1) dX7_slip_45 (by decide) ?_
        exact A_iret (pc := 46) dX7_slip_46 rfl rfl (by decide) (by decide) (by have gC : ¬ spC r s x = true := (by unfold spC; rw [if_pos c4, if_pos c18, if_pos d31]; decide); exact ⟨by rw [if_neg gC], by rw [if_neg gC, if_neg gC]⟩)
      · have d31 : ¬ (s.2.1 (tN x)) = 0 := fun q => c31 (by rw [q]; rfl)
        refine A_iload2 (pc := 34) dX7_slip_34 ?_
        refine A_iconst (pc := 35) (v := 2) dX7_slip_35 (by decide) ?_
        refine A_icmp_eq (pc := 36) (tgt := 45) dX7_slip_36 (by decide) (fun c36 => ?_) (fun c36 => ?_)
        · have d36 : (s.2.1 (tN x)) = 2 := (nI_eq (by omega) (by decide)).mp c36
          refine A_iconst (pc := 45) (v := -1) dX7_slip_45 (by decide) ?_
          exact A_iret (pc := 46) dX7_slip_46 rfl rfl (by decide) (by decide) (by have gC : ¬ spC r s x = true := (by unfold spC; rw [if_pos c4, if_pos c18, if_neg d31, if_pos d36]; decide); exact ⟨by rw [if_neg gC], by rw [if_neg gC, if_neg gC]⟩)
        · have d36 : ¬ (s.2.1 (tN x)) = 2 := fun q => c36 (by rw [q]; rfl)
          refine A_iload2 (pc := 39) dX7_slip_39 ?_
          refine A_bipush (pc := 40) (v := 6) dX7_slip_40 (by decide) ?_
          refine A_icmp_le (pc := 42) (tgt := 47) dX7_slip_42 (by decide) (fun c42 => ?_) (fun c42 => ?_)
          · have d42 : (s.2.1 (tN x)) ≤ 6 := (nI_leI (by omega) (by decide)).mp c42
            have gC : spC r s x = true := by unfold spC; rw [if_pos c4, if_pos c18, if_neg d31, if_neg d36, if_pos d42]
            refine A_aload0 (pc := 47) dX7_slip_47 ?_
            refine A_aload0 (pc := 48) dX7_slip_48 ?_
            refine A_getf (pc := 49) flX7_98 dX7_slip_49 rfl rfl ?_
            refine A_aload0 (pc := 52) dX7_slip_52 ?_
            refine A_getf (pc := 53) flX7_154 dX7_slip_53 rfl rfl ?_
            refine A_aload0 (pc := 56) dX7_slip_56 ?_
            refine A_getf (pc := 57) flX7_32 dX7_slip_57 rfl rfl ?_
            refine A_iconst (pc := 60) (v := 0) dX7_slip_60 (by decide) ?_
            refine A_aload0 (pc := 61) dX7_slip_61 ?_
            refine A_getf (pc := 62) flX7_101 dX7_slip_62 rfl rfl ?_
            refine A_cvi (pc := 65) cvX7_157 (mp_follow (q := 32) (N := 30) (M := r.2.2.2.1) (g := r.2.2.2.2) hl (fun _ => rfl) (by decide) 0 (by omega) hr3 (fun j hj => by rw [Nat.zero_add]; exact hr4 j hj) r.2.1 r.2.2.1 hr1) dX7_slip_65 rfl rfl rfl rfl (Nat.le_of_ble_eq_true rfl) (by decide) (by decide) (by decide) ?_
            refine AW.heq (hp' := MX c n p al s r w k a (goP n r pl) fr t rest) rfl ?_
            refine A_pop (pc := 68) dX7_slip_68 rfl ?_
            refine A_aload0 (pc := 69) dX7_slip_69 ?_
            refine A_aload0 (pc := 70) dX7_slip_70 ?_
            refine A_getf (pc := 71) flX7_98 dX7_slip_71 rfl rfl ?_
            refine A_putf (pc := 74) flX7_115 ft7_27 dX7_slip_74 rfl (Nat.le_of_ble_eq_true rfl) (fun _ => ⟨rfl, rfl⟩) ?_
            refine A_aload0 (pc := 77) dX7_slip_77 ?_
            refine A_aload0 (pc := 78) dX7_slip_78 ?_
            refine A_getf (pc := 79) flX7_154 dX7_slip_79 rfl rfl ?_
            refine A_putf (pc := 82) flX7_121 ft7_28 dX7_slip_82 rfl (Nat.le_of_ble_eq_true rfl) (fun _ => ⟨rfl, rfl⟩) ?_
            refine AW.heq (hp' := MX c n p al s r w k ((r.2.1, r.2.2.1, a.2.2)) (goP n r pl) fr t rest) rfl ?_
            refine A_iconst (pc := 85) (v := 0) dX7_slip_85 (by decide) ?_
            refine A_istore3 (pc := 86) dX7_slip_86 (by decide) ?_
            rw [if_pos gC, if_pos gC, if_pos gC]
            rw [(inI_pred (by have := hs.1; omega) c18).1]
            rw [show tN (nI (tN x)) = tN x from nI_clamp (by have := (inI_pred (by have := hs.1; omega) c18).2; have := hs.1; omega)]
            exact mlp_slip (pl := goP n r pl) hl hnm hsg hs hr3 (foP_ok hl (fun j hj => by rw [Nat.zero_add]; exact hr4 j hj) hr1 hr2 (hw c4) r.2.2.2.1 (Nat.le_refl _)).1 (tN x) (inI_pred (by have := hs.1; omega) c18).2 (by omega) _ s.1 0 (r.2.1, r.2.2.1, a.2.2) (by omega) hr1 hr2 none none none
          · have d42 : ¬ (s.2.1 (tN x)) ≤ 6 := fun q => c42 (show nI (s.2.1 (tN x)) ≤ nI 6 from nI_le q (by decide))
            refine A_iconst (pc := 45) (v := -1) dX7_slip_45 (by decide) ?_
            exact A_iret (pc := 46) dX7_slip_46 rfl rfl (by decide) (by decide) (by have gC : ¬ spC r s x = true := (by unfold spC; rw [if_pos c4, if_pos c18, if_neg d31, if_neg d36, if_neg d42]; decide); exact ⟨by rw [if_neg gC], by rw [if_neg gC, if_neg gC]⟩)
    · replace c18 := (bI_eq _).mp c18
      refine A_iconst (pc := 21) (v := -1) dX7_slip_21 (by decide) ?_
      exact A_iret (pc := 22) dX7_slip_22 rfl rfl (by decide) (by decide) (by have gC : ¬ spC r s x = true := (by unfold spC; rw [if_pos c4, if_neg (by rw [c18]; decide)]; decide); exact ⟨by rw [if_neg gC], by rw [if_neg gC, if_neg gC]⟩)
