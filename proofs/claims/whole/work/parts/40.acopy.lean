/-! AW: the one arraycopy, out of the static array 1 (nine first prices) -/
section ACOPY
variable {M : MD} {d mc ms k n pc : Nat} {lv : List (Option Value)} {st : List Value} {hp : AH} {post : Post}
theorem A_acopy {b idx : Nat} {f : Nat → Int32} (hl : Cond.methodLink M.1.cls idx arraycopyName ∈ gw) (hd : decode M.2.1 pc = .ok (.invokestatic idx, 3)) (hc : hp[b]? = some (aC 9 f)) (hd1 : 1 ≤ d) (hr : (st.map fun v => v.category).sum + (nativeFrameWords "java/lang/System" "arraycopy" 5 + 11) ≤ 37 * d)
    (h : AW M d mc ms k n (pc + 3) lv st (hp.set b (aC 9 (va_cpy (sa_f 1) f 0 0 9))) post) : AW M d mc ms k n pc lv (.int 9 :: .int 0 :: .ref b :: .int 0 :: .ref 1001 :: st) hp post := by
  intro p l e R s m args below meth c g Q H locs ls F E A L
  have hts := F.2.2.2.2.1
  obtain ⟨-, -, hmaxL, hown, -, hT, hfr, hlo, hclR, hslR, -⟩ := id F
  obtain ⟨z1, z2, z3⟩ := hT.2.2.1 1 (by decide)
  have hc1 : H[a_ad g b]? = some (vp_cell (g_I g) (9, .inl f)) := A.at hc 0 _ rfl
  have hsrc : a_ad g 1001 = g_s g 1 := a_ad_st g 1
  intro T hTh X
  obtain ⟨scr, hs1, hs2, hs3, hs4, hs5⟩ := z2
  have hc0 : H[g_s g 1]? = some scr := by rw [A.2.2.2.2.1 _ z3]; exact hs1
  obtain ⟨hs6, k0, hk0, cm0, hkk0⟩ := hs2
  obtain ⟨-, k1, hk1, cm1, hkk1⟩ := (hT.1.2 0 _ rfl).1 9 (fun j => .int (f j))
  have c0 : (0 : Int32).toNatClampNeg = 0 := by decide
  have c9 : (9 : Int32).toNatClampNeg = 9 := by decide
  have t0 : (0 : Int32).toInt = 0 := by decide
  have t9 : (9 : Int32).toInt = 9 := by decide
  have hs4' : scr.slots.size = 9 := hs4
  obtain ⟨vm', X', step⟩ := X.arraycopy F.1 hown (hts _ hl) (hts _ ac_nat) (hts _ ac_stat) (hts _ ac_ini) (src := g_s g 1) (dst := a_ad g b) (cs := scr) (cd := vp_cell (g_I g) (9, .inl f)) (srcPos := 0) (destPos := 0) (n := 9) (by rw [hTh]; exact hc0) (by rw [hTh]; exact hc1)
    hs6 (fun _ h => by cases h) hs3 (fun h => by cases h) hk0 hk1 hkk0 hkk1 (by simp [refKind]) (by decide) (by decide) (by decide)
    (by rw [t0, t9, hs4']; omega)
    (by rw [t0, t9]; show ¬ _ > ((arrV (g_I g) 9 (fun j => .int (f j))).slots.size : Int); rw [arrV_size]; omega)
    (fun vm₁ _ i hi => by
      rw [c9] at hi
      have e1 : scr.slots.getD ((0 : Int32).toNatClampNeg + i) .null = .int (sa_f 1 ((0 : Int32).toNatClampNeg + i)) := by
        rw [Array.getD_eq_getD_getElem?, hs5 _ (by rw [c0]; show 0 + i < 9; omega)]
        rfl
      refine ⟨?_, ?_⟩
      · rw [e1]
        rfl
      · rw [e1]
        exact trivial)
    (g := F0 m pc ls (.int 9 :: .int 0 :: .ref (a_ad g b) :: .int 0 :: .ref (g_s g 1) :: st.map (a_v g))) rfl (L.1.trans hmaxL.symm) (rest := st.map (a_v g)) rfl (by rw [F.2.1]; exact hd) (by rw [hfr]; exact hd1) (by show 2 * 0 + _ + _ ≤ _; rw [a_sum, hlo]; omega)
  have e1 : copied scr (vp_cell (g_I g) (9, .inl f)) 0 0 9 = vp_cell (g_I g) (9, .inl (va_cpy (sa_f 1) f 0 0 9)) := va_copiedX (n0 := 9) (fun z => .int z) scr (g_I g) (sa_f 1) f hs5 (by decide)
  rw [e1] at X' step
  have hlt : a_ad g b < H.size := (Array.getElem?_eq_some_iff.mp hc1).1
  have hheap : ((T.setVm vm').setCell (a_ad g b) (vp_cell (g_I g) (9, .inl (va_cpy (sa_f 1) f 0 0 9)))).heap = H.setIfInBounds (a_ad g b) (vp_cell (g_I g) (9, .inl (va_cpy (sa_f 1) f 0 0 9))) := by rw [← hTh]; rfl
  have oq : ∀ q : Nat, q ≠ a_ad g b → (H.setIfInBounds (a_ad g b) (vp_cell (g_I g) (9, .inl (va_cpy (sa_f 1) f 0 0 9))))[q]? = H[q]? := fun q hq => by simp [Array.getElem?_setIfInBounds, Ne.symm hq]
  have A1 := A.put hc (c1 := aC 9 (va_cpy (sa_f 1) f 0 0 9)) (show (H.setIfInBounds (a_ad g b) (vp_cell (g_I g) (9, .inl (va_cpy (sa_f 1) f 0 0 9))))[a_ad g b]? = some (vp_cell (g_I g) (9, .inl (va_cpy (sa_f 1) f 0 0 9))) by simp [Array.getElem?_setIfInBounds, hlt]) (by simp) oq 0
  have hb9 : g_b g ≤ a_ad g b := A1.2.2.2.2.2 _ (List.mem_append_right _ (List.mem_singleton.mpr rfl))
  obtain ⟨t, a1, b1⟩ := h p l e R s m args below meth c g Q _ _ ls F E ⟨A1.1, A1.2.1, A1.2.2.1, A1.2.2.2.1, A1.2.2.2.2.1, fun x hx => by
    rcases List.mem_append.mp hx with h2 | h2
    · exact A.2.2.2.2.2 x h2
    · obtain ⟨z, -, hz⟩ := List.mem_map.mp h2
      rw [← hz]
      exact hb9⟩ L _ hheap X'
  refine ⟨t, ?_, b1⟩
  have e9 : (Value.int 9 :: .int 0 :: .ref b :: .int 0 :: .ref 1001 :: st).map (a_v g) = .int 9 :: .int 0 :: .ref (a_ad g b) :: .int 0 :: .ref (g_s g 1) :: st.map (a_v g) := by
    show Value.int 9 :: .int 0 :: .ref (a_ad g b) :: .int 0 :: .ref (a_ad g 1001) :: _ = _
    rw [hsrc]
  rw [e9]
  exact step t a1
end ACOPY
