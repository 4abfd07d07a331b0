/-! AW: objects and arrays that are made -/
section ANEW
variable {M : MD} {d mc ms k n pc : Nat} {lv : List (Option Value)} {st : List Value} {hp : AH} {post : Post}
theorem A_objInit {idx b : Nat} (hl : Cond.methodLink M.1.cls idx objectInit ∈ gw) (hd : decode M.2.1 pc = .ok (.invokespecial idx, 3)) (hd1 : 1 ≤ d) (hr : (st.map fun v => v.category).sum ≤ 8) (h : AW M d mc ms k n (pc + 3) lv st hp post) : AW M d mc ms k n pc lv (.ref b :: st) hp post := by
  intro p l e R s m args below meth c g Q H locs ls F E A L
  have hts := F.2.2.2.2.1
  obtain ⟨-, -, hmaxL, hown, -, hT, hfr, hlo, hcl, hsl, -⟩ := id F
  have hroom : 2 * (F0 m pc ls ((Value.ref b :: st).map (a_v g))).monitorRoom + ((st.map (a_v g)).map fun v => v.category).sum ≤ 8 := lv_room (by rw [a_sum]; exact hr)
  exact W.objInit F.1 F.2.1 hown (hts _ hl) (hts _ oi_inst) (hts _ oi_code) rfl (L.1.trans hmaxL.symm) rfl hd (by rw [hfr]; exact hd1) (by rw [hlo]; omega) (h p l e R s m args below meth c g Q H locs ls F E A L)
theorem a_top {g : GG} {hp : AH} (hlen : hp.length < 1000) : a_v g (.ref hp.length) = .ref (g_b g + hp.length) := by
  show Value.ref (a_ad g hp.length) = _
  rw [a_ad_lt g hlen]
theorem A_new {idx ci N : Nat} {C : String} {T : u_T} (fs : List Value) (ty : Nat → FieldType) (hC : vwCl[ci]? = some (C, T, N)) (hw : ∀ w ∈ u_ws C T N, w ∈ gw) (hty : ∀ j, j < N → parseFieldDescriptor (T j).2.2.1 = some (ty j)) (hcl : Cond.classLink M.1.cls idx C ∈ gw) (hins : Cond.instantiable C N ∈ gw) (hini : Cond.initialized C ∈ gw) (hfs : ∀ j, j < N → defaultValue (ty j) = vp_V fs j) (hav : ∀ g, fs.map (a_v g) = fs) (hd : decode M.2.1 pc = .ok (.new idx, 3)) (hk : k + 1 ≤ mc) (hm : n + N ≤ ms) (hlen : hp.length < 1000)
    (h : AW M d mc ms (k + 1) (n + N) (pc + 3) lv (.ref hp.length :: st) (hp ++ [oC ci fs]) post) : AW M d mc ms k n pc lv st hp post := by
  intro p l e R s m args below meth c g Q H locs ls F E A L
  have hts := F.2.2.2.2.1
  obtain ⟨-, -, hmaxL, hown, -, hT, hfr, hlo, hclR, hslR, -⟩ := id F
  have hKn := hT.1.1 ci _ hC
  refine W.newcK F.1 F.2.1 hown (hts _ hcl) (hts _ hins) (hts _ hini) rfl hd (by rw [hclR]; exact hk) (by rw [hslR]; exact hm) hKn.2.1 rfl fun H1 kC hkC e1 z1 o1 => ?_
  have h1 := h p l e R s m args below meth c g Q H1 locs ls F E (A.push hlen (c1 := oC ci fs) ?_ z1 o1) L
  · have e9 : (Value.ref hp.length :: st).map (a_v g) = .ref H.size :: st.map (a_v g) := by
      show a_v g (.ref hp.length) :: _ = _
      rw [a_top hlen, A.1]
    rw [e9] at h1
    exact h1
  · refine ⟨_, hC, ?_⟩
    show t_OB H.size _ N _ H1 (vp_V (fs.map (a_v g)))
    rw [hav g]
    exact (u_born ty hts hw hKn hkC e1 hty).to hfs
theorem A_newa {N : Nat} {x : Int32} (hx : x = nI N) (hN : N < 100000) (hd : decode M.2.1 pc = .ok (.newarray .int, 2)) (hk : k + 1 ≤ mc) (hm : n + N ≤ ms) (hlen : hp.length < 1000)
    (h : AW M d mc ms (k + 1) (n + N) (pc + 2) lv (.ref hp.length :: st) (hp ++ [aC N (fun _ => 0)]) post) : AW M d mc ms k n pc lv (.int x :: st) hp post := by
  intro p l e R s m args below meth c g Q H locs ls F E A L
  subst hx
  have hts := F.2.2.2.2.1
  obtain ⟨-, -, hmaxL, hown, -, hT, hfr, hlo, hclR, hslR, -⟩ := id F
  refine va_newaK F.1 F.2.1 (atype := .int) (hts _ arI) rfl hd rfl (nI_pos (by omega)) (nI_clamp (by omega)) (by show N * 4 ≤ _; omega) (by rw [hclR]; exact hk) (by rw [hslR]; exact hm) rfl fun H1 cA e1 z1 o1 hAr hNm => ?_
  have hcA : cA = g_I g := Option.some.inj (hNm.symm.trans (hT.1.2 0 _ rfl).2)
  subst hcA
  have h1 := h p l e R s m args below meth c g Q H1 locs ls F E (A.push hlen (c1 := aC N (fun _ => 0)) e1 z1 o1) L
  have e9 : (Value.ref hp.length :: st).map (a_v g) = .ref H.size :: st.map (a_v g) := by
    show a_v g (.ref hp.length) :: _ = _
    rw [a_top hlen, A.1]
  rw [e9] at h1
  exact h1
end ANEW
