/-! AW: anewarray of kept ones; System.arraycopy out of a static array -/
theorem aoK : Cond.arrayOver (.object "WaysTold$Kept") ∈ nw := List.mem_filter.mpr ⟨List.mem_of_getElem? (i := 149) (by decide +kernel), rfl⟩
theorem ac_link : Cond.methodLink RX6 75 arraycopyName ∈ gw := gw_t (List.mem_of_getElem? (i := 152) (by decide +kernel)) rfl
theorem ac_stat : Cond.static arraycopyName ∈ gw := gw_t (List.mem_of_getElem? (i := 153) (by decide +kernel)) rfl
theorem ac_nat : Cond.native arraycopyName ∈ gw := gw_t (List.mem_of_getElem? (i := 154) (by decide +kernel)) rfl
theorem ac_ini : Cond.initialized "java/lang/System" ∈ gw := gw_t (List.mem_of_getElem? (i := 8) (by decide +kernel)) rfl
section AANEW
variable {M : MD} {d mc ms k n pc : Nat} {lv : List (Option Value)} {st : List Value} {hp : AH} {post : Post}
theorem A_anew {idx N : Nat} {x : Int32} (hx : x = nI N) (hN : N < 100000) (hcl : Cond.classLink M.1.cls idx "WaysTold$Kept" ∈ gw) (hd : decode M.2.1 pc = .ok (.anewarray idx, 3)) (hk : k + 1 ≤ mc) (hm : n + N ≤ ms) (hlen : hp.length < 1000)
    (h : AW M d mc ms (k + 1) (n + N) (pc + 3) lv (.ref hp.length :: st) (hp ++ [.inr (.inr (N, fun _ => none))]) post) : AW M d mc ms k n pc lv (.int x :: st) hp post := by
  intro p l e R s m args below meth c g Q H locs ls F E A L
  subst hx
  have hts := F.2.2.2.2.1
  obtain ⟨-, -, hmaxL, hown, -, hT, hfr, hlo, hclR, hslR, -⟩ := id F
  have hcn : (nI N).toNatClampNeg = N := nI_clamp (by omega)
  refine W.anew F.1 F.2.1 hown (hts _ hcl) (va_AO.use (hT.2.1 _ aoK)) rfl hd rfl (nI_pos (by omega)) (by rw [hcn]; omega) (by rw [hclR]; exact hk) (by rw [hcn, hslR]; exact hm) fun cA kA comp f1 f2 f3 f4 => ?_
  rw [hcn]
  obtain ⟨kA', comp', -, -, -, j4⟩ := (hT.1.2 1 _ rfl).2
  have hcA : cA = g_K g := Option.some.inj (f1.symm.trans j4)
  subst hcA
  generalize hH1 : H.push ({ cls := g_K g, slots := Array.replicate N .null, vm := .none } : Cell) = H1
  have z1 : H1.size = H.size + 1 := by rw [← hH1, Array.size_push]
  have e1 : H1[H.size]? = some (arrV (g_K g) N (fun _ => .null)) := by rw [← hH1, Array.getElem?_push_size, ← arrV_new]
  have o1 : ∀ q : Nat, q < H.size → H1[q]? = H[q]? := fun q hq => by rw [← hH1, Array.getElem?_push, if_neg (Nat.ne_of_lt hq)]
  have h1 := h p l e R s m args below meth c g Q H1 locs ls F E (A.push hlen (c1 := .inr (.inr (N, fun _ => none))) e1 z1 o1) L
  have e9 : (Value.ref hp.length :: st).map (a_v g) = .ref H.size :: st.map (a_v g) := by
    show a_v g (.ref hp.length) :: _ = _
    rw [a_top hlen, A.1]
  rw [e9] at h1
  exact h1
end AANEW
