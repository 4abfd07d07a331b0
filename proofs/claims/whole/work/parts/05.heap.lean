/-! AW: the heap, calls, from AW to a contract -/
/-- the field that the class own names by the constant idx: slot j of class number ci -/
def a_fl (own : String) (idx ci j : Nat) : Prop := ∃ (C : String) (T : u_T) (N : Nat), vwCl[ci]? = some (C, T, N) ∧ j < N ∧ (∀ w ∈ u_ws C T N, w ∈ gw) ∧ (T j).1 = C ∧ (Cond.fieldLink own idx C (T j).2.1 (T j).2.2.1 ∈ gw ∨ ∃ host, Cond.fieldLinkNest own idx C (T j).2.1 (T j).2.2.1 host ∈ nw)
/-- its type, and whether it is final -/
def a_ft (ci j : Nat) (ty : FieldType) (fin : Bool) : Prop := ∃ (C : String) (T : u_T) (N : Nat) (ty0 : Nat → FieldType), vwCl[ci]? = some (C, T, N) ∧ (T j).2.2.2 = fin ∧ parseFieldDescriptor (T j).2.2.1 = some ty ∧ (∀ i, i < N → parseFieldDescriptor (T i).2.2.1 = some (ty0 i)) ∧ ∀ a, a < N → ∀ b, b < N → a ≠ b → (T a).2.1 ≠ (T b).2.1
theorem a_T.warm {g : GG} {s U : State} {H : Heap} {locs : List Loc} {hp : AH} (hT : a_T g s) (A : a_H g s H locs hp) (hU : U.heap = H) (hW : s.WarmedH U.vm) : a_T g U := by
  obtain ⟨h1, h2, h3, h4⟩ := hT
  refine ⟨va_K.moved hW.alike h1, nw_all hW h2, fun j hj => ?_, by rw [hU]; exact Nat.le_trans h4 A.2.2.2.1⟩
  obtain ⟨z1, z2, z3⟩ := h3 j hj
  have hk : ∀ a : Nat, ¬ g_b g ≤ a → U.heap[a]? = s.heap[a]? := fun a ha => by rw [hU]; exact A.2.2.2.2.1 a (Nat.not_le.mp ha)
  exact ⟨(z1.kept (fun a _ ha => hk a ha)).moved hW.alike, (z2.kept (hk _ (Nat.not_le.mpr z3))).moved hW.alike, z3⟩
theorem a_T.blind {g : GG} {U : State} (gf : JFrame) (mk : MethodId) (a : Array Value) (h : a_T g U) : a_T g (U.calling gf mk a) := by
  obtain ⟨h1, h2, h3, h4⟩ := h
  refine ⟨va_K.moved (u := U) (U := U.calling gf mk a) (Vm.Alike.refl U.vm) h1, nw_moved (s := U) (U := U.calling gf mk a) rfl h2, fun j hj => ?_, h4⟩
  obtain ⟨z1, z2, z3⟩ := h3 j hj
  exact ⟨va_Z.moved (u := U) (U := U.calling gf mk a) (Vm.Alike.refl U.vm) z1, va_X.moved (u := U) (U := U.calling gf mk a) (Vm.Alike.refl U.vm) z2, z3⟩
theorem a_P.blind {g : GG} {as : List Value} {hp : AH} : FrameBlind (a_P g as hp) := fun a _ gf mk h => ⟨h.1, h.2.1.blind gf mk a, h.2.2⟩
theorem a_P.of {g : GG} {s : State} {H : Heap} {locs : List Loc} {as : List Value} {hp : AH} (hT : a_T g s) (A : a_H g s H locs hp) : ∀ U : State, U.heap = H → s.WarmedH U.vm → a_P g as hp (as.map (a_v g)).toArray U := fun U hU hW =>
  ⟨rfl, hT.warm A hU hW, by rw [hU]; exact ⟨A.1, A.2.1, A.2.2.1, Nat.le_of_eq (by rw [hU]), fun q _ => by rw [hU], fun x h => by cases h⟩⟩
theorem a_good {M : MD} (hc : Cond.code M.1 M.2.1 M.2.2.1 M.2.2.2 ∈ gw) : GoodIn gw (a_ws M) := fun w hw => by
  rcases List.mem_cons.mp hw with h | h
  · subst h
    exact ⟨hc, good_of_word (gw_good hc)⟩
  · exact ⟨h, good_of_word (gw_good h)⟩
section AHR
variable {M : MD} {d mc ms k n pc : Nat} {lv : List (Option Value)} {st : List Value} {hp : AH} {post : Post}
theorem A_getf {b idx ci j : Nat} {fs : List Value} {v : Value} (hf : a_fl M.1.cls idx ci j) (hd : decode M.2.1 pc = .ok (.getfield idx, 3)) (hc : hp[b]? = some (.inr (.inl (ci, fs)))) (hv : fs[j]? = some v) (h : AW M d mc ms k n (pc + 3) lv (v :: st) hp post) : AW M d mc ms k n pc lv (.ref b :: st) hp post := by
  intro p l e R s m args below meth c g Q H locs ls F E A L
  obtain ⟨C, T, N, hC, hj, hw, hT, hl⟩ := hf
  have hv' : (fs.map (a_v g))[j]? = some (a_v g v) := by rw [List.getElem?_map, hv]; rfl
  have hsame : ∀ x, s.fieldFound? (T j).1 (T j).2.1 (T j).2.2.1 = some x → s.fieldFound? C (T j).2.1 (T j).2.2.1 = some x := fun x h9 => by rw [hT] at h9; exact h9
  rcases hl with hl | ⟨host, hl⟩
  · exact va_get F.1 F.2.1 F.2.2.2.2.1 hw F.2.2.2.1 F.2.2.2.2.2.1.1 (A.at hc) 0 rfl hC j hj (F.2.2.2.2.1 _ hl) hsame hv' hd (h p l e R s m args below meth c g Q H locs ls F E A L)
  · exact va_getN F.1 F.2.1 F.2.2.2.2.1 hw F.2.2.2.1 F.2.2.2.2.2.1.1 (A.at hc) 0 rfl hC j hj (va_Nw.use rfl (F.2.2.2.2.2.1.2.1 _ hl)) hsame hv' hd (h p l e R s m args below meth c g Q H locs ls F E A L)
theorem a_fset (g : GG) {fs : List Value} {j : Nat} (hl : j < fs.length) (v : Value) (i : Nat) : updV (vp_V (fs.map (a_v g))) j (a_v g v) i = vp_V ((fs.set j v).map (a_v g)) i := by
  rw [vp_updV_set (by simpa using hl), List.map_set]
theorem A_putf {b idx ci j : Nat} {fs : List Value} {v : Value} {ty : FieldType} (hf : a_fl M.1.cls idx ci j) (ht : a_ft ci j ty false) (hd : decode M.2.1 pc = .ok (.putfield idx, 3)) (hc : hp[b]? = some (.inr (.inl (ci, fs)))) (hl : j < fs.length) (hn : ∀ g, narrow ty (a_v g v) = a_v g v ∧ fits ty (a_v g v) = true) (h : AW M d mc ms k n (pc + 3) lv st (hp.set b (.inr (.inl (ci, fs.set j v)))) post) : AW M d mc ms k n pc lv (v :: .ref b :: st) hp post := by
  intro p l e R s m args below meth c g Q H locs ls F E A L
  obtain ⟨C, T, N, hC, hj, hw, hT, hlk⟩ := hf
  obtain ⟨C', T', N', ty0, hC', hfin, hpt, hty, hnm⟩ := ht
  cases hC.symm.trans hC'
  have hts := F.2.2.2.2.1
  have hK := F.2.2.2.2.2.1.1
  have hap := va_apart (own := M.1.cls) hts hw ty0 hty hnm hK hC
  obtain ⟨r, h1, cell, q1, q2, q3, q4⟩ := A.at hc 0 _ rfl
  have hr : r = (C, T, N) := Option.some.inj (h1.symm.trans hC)
  subst hr
  obtain ⟨hS, hfc, kC, hkC, hkind⟩ := hK.1 ci _ hC
  obtain ⟨cf, kf, fi, f, hi, hsl⟩ := hS j hj
  have hsame : s.fieldFound? C (T j).2.1 (T j).2.2.1 = some (cf, kf, fi, f) := by have h9 := hi; rw [hT] at h9; exact h9
  have hlay := hts _ (hw _ (u_in_lay hj))
  unfold u_lay at hlay
  rw [if_neg (by rw [hfin]; decide)] at hlay
  have hst := (u_facts hfc hkC (u_lays hts hw hj) hi).1
  have h6 := u_store hfc hkC hkind hlay hi hpt (hn g).1 (hn g).2
  have fin : ∀ H' : Heap, H'[a_ad g b]? = some (cell.setSlot f.slot (a_v g v)) → H'.size = H.size → (∀ q, q ≠ a_ad g b → H'[q]? = H[q]?) → W p l e R s m args below meth c H' (locs ++ [⟨a_ad g b, f.slot⟩]) k n Q (F0 m (pc + 3) ls (st.map (a_v g))) := by
    intro H' e1 e2 e3
    refine h p l e R s m args below meth c g Q H' _ ls F E (A.put hc ?_ e2 e3 _) L
    rw [hsl] at e1
    exact ⟨_, hC, t_OB.to (V := updV (vp_V (fs.map (a_v g))) j (a_v g v)) ⟨_, e1, q2, q3, t_set q4 hap hj (a_v g v)⟩ (fun i _ => a_fset g hl v i)⟩
  rcases hlk with hlk | ⟨host, hlk⟩
  · exact W.putK F.1 F.2.1 (f := f) ⟨F.2.2.2.1, hts _ hlk, ⟨_, _, _, hsame⟩, hst⟩ (by rw [q2]; exact h6) q1 q3 (by rw [hsl]; exact k2_hasslot (q4 j hj)) rfl rfl hd fin
  · exact va_WputK F.1 F.2.1 (f := f) F.2.2.2.1 (va_Nw.use rfl (F.2.2.2.2.2.1.2.1 _ hlk)) hsame hst (by rw [q2]; exact h6) q1 q3 (by rw [hsl]; exact k2_hasslot (q4 j hj)) rfl rfl hd fin
theorem A_putF {b idx ci j : Nat} {fs : List Value} {v : Value} {ty : FieldType} (hf : a_fl M.1.cls idx ci j) (ht : a_ft ci j ty true) (hdecl : ∀ q : vw_C, vwCl[ci]? = some q → q.1 = M.1.cls) (hin : M.1.name = "<init>") (hd : decode M.2.1 pc = .ok (.putfield idx, 3)) (hc : hp[b]? = some (.inr (.inl (ci, fs)))) (hl : j < fs.length) (hn : ∀ g, narrow ty (a_v g v) = a_v g v ∧ fits ty (a_v g v) = true) (hlk : ∀ q : vw_C, vwCl[ci]? = some q → Cond.fieldLink M.1.cls idx q.1 (q.2.1 j).2.1 (q.2.1 j).2.2.1 ∈ gw) (h : AW M d mc ms k n (pc + 3) lv st (hp.set b (.inr (.inl (ci, fs.set j v)))) post) : AW M d mc ms k n pc lv (v :: .ref b :: st) hp post := by
  intro p l e R s m args below meth c g Q H locs ls F E A L
  obtain ⟨C, T, N, hC, hj, hw, hT, -⟩ := hf
  obtain ⟨C', T', N', ty0, hC', hfin, hpt, hty, hnm⟩ := ht
  cases hC.symm.trans hC'
  have hown : C = M.1.cls := hdecl _ hC
  have hlk := hlk _ hC
  have hts := F.2.2.2.2.1
  have hK := F.2.2.2.2.2.1.1
  have hap := va_apart (own := M.1.cls) hts hw ty0 hty hnm hK hC
  obtain ⟨r, h1, cell, q1, q2, q3, q4⟩ := A.at hc 0 _ rfl
  have hr : r = (C, T, N) := Option.some.inj (h1.symm.trans hC)
  subst hr
  obtain ⟨hS, hfc, kC, hkC, hkind⟩ := hK.1 ci _ hC
  obtain ⟨cf, kf, fi, f, hi, hsl⟩ := hS j hj
  have hsame : s.fieldFound? C (T j).2.1 (T j).2.2.1 = some (cf, kf, fi, f) := by have h9 := hi; rw [hT] at h9; exact h9
  have hlay := hts _ (hw _ (u_in_lay hj))
  unfold u_lay at hlay
  rw [if_pos hfin] at hlay
  have hst := (u_facts hfc hkC (u_lays hts hw hj) hi).1
  have hcf : m.cls = cf := by
    obtain ⟨_, _, c', _, _, _, -, -, hf', -, -, -, hown2, -⟩ := Cond.laysFinal_spec hlay
    have e1 : c' = cf := by have := hi.symm.trans hf'; simp at this; exact this.1.symm
    rw [hT, hown] at hown2
    rw [← e1]
    exact Option.some.inj (F.2.2.2.1.symm.trans hown2)
  have h6 := u_fits hfc hkC hkind (Or.inr hlay) hi hpt (hn g).1 (hn g).2
  refine W.putFinK F.1 F.2.1 F.2.2.2.1 (hts _ hlk) hsame hst hcf (F.2.2.2.2.2.2.2.2.2.2.trans hin) (by rw [q2]; exact h6) q1 q3 (by rw [hsl]; exact k2_hasslot (q4 j hj)) rfl rfl hd fun H' e1 e2 e3 => ?_
  refine h p l e R s m args below meth c g Q H' _ ls F E (A.put hc ?_ e2 e3 _) L
  rw [hsl] at e1
  exact ⟨_, hC, t_OB.to (V := updV (vp_V (fs.map (a_v g))) j (a_v g v)) ⟨_, e1, q2, q3, t_set q4 hap hj (a_v g v)⟩ (fun i _ => a_fset g hl v i)⟩
theorem A_iald {b N : Nat} {f : Nat → Int32} {i : Int32} (hd : decode M.2.1 pc = .ok (.iaload, 1)) (hc : hp[b]? = some (.inl (N, f))) (hi : vp_in i N) (h : AW M d mc ms k n (pc + 1) lv (.int (f i.toNatClampNeg) :: st) hp post) : AW M d mc ms k n pc lv (.int i :: .ref b :: st) hp post := by
  intro p l e R s m args below meth c g Q H locs ls F E A L
  exact va_iald F.1 F.2.1 F.2.2.2.2.2.1.1 (A.at hc) 0 0 rfl rfl hi hd (h p l e R s m args below meth c g Q H locs ls F E A L)
theorem A_iast {b N : Nat} {f : Nat → Int32} {i x : Int32} (hd : decode M.2.1 pc = .ok (.iastore, 1)) (hc : hp[b]? = some (.inl (N, f))) (hi : vp_in i N) (h : AW M d mc ms k n (pc + 1) lv st (hp.set b (.inl (N, upd f i.toNatClampNeg x))) post) : AW M d mc ms k n pc lv (.int x :: .int i :: .ref b :: st) hp post := by
  intro p l e R s m args below meth c g Q H locs ls F E A L
  have hK := F.2.2.2.2.2.1.1
  refine W.iast F.1 F.2.1 (A.at hc 0 _ rfl) ((hK.2 0 _ rfl).1 N (fun j => .int (f j))) (fun q => by cases q) (by show ¬ (i < 0 ∨ (arrV _ _ _).slots.size ≤ _); rw [arrV_size]; exact hi) rfl rfl hd fun H1 e1 z oq => ?_
  refine h p l e R s m args below meth c g Q H1 _ ls F E (A.put hc ?_ z oq _) L
  show H1[a_ad g b]? = some (vp_cell _ _)
  refine e1.trans ?_
  show some ((vp_cell (g_I g) (N, .inl f)).setSlot _ _) = _
  rw [vp_cell_i, vp_cell_i, arrV_store]
  congr 2
  funext q
  by_cases hq : q = i.toNatClampNeg
  · simp [updV, upd, hq]
  · simp [updV, upd, hq]
theorem A_alen {b N : Nat} {f : Nat → Int32} {v : Int32} (hd : decode M.2.1 pc = .ok (.arraylength, 1)) (hc : hp[b]? = some (.inl (N, f))) (hv : Int32.ofNat N = v) (h : AW M d mc ms k n (pc + 1) lv (.int v :: st) hp post) : AW M d mc ms k n pc lv (.ref b :: st) hp post := by
  intro p l e R s m args below meth c g Q H locs ls F E A L
  exact va_alen F.1 F.2.1 F.2.2.2.2.2.1.1 (A.at hc) 0 0 rfl rfl hv hd (h p l e R s m args below meth c g Q H locs ls F E A L)
/-- a static array's reference, length, items -/
theorem A_gets {idx j : Nat} (hj : j < 4) (hl : Cond.fieldLink M.1.cls idx "WaysTold" (sa_n j) "[I" ∈ gw ∨ ∃ host, Cond.fieldLinkNest M.1.cls idx "WaysTold" (sa_n j) "[I" host ∈ nw) (hd : decode M.2.1 pc = .ok (.getstatic idx, 3)) (h : AW M d mc ms k n (pc + 3) lv (.ref (1000 + j) :: st) hp post) : AW M d mc ms k n pc lv st hp post := by
  intro p l e R s m args below meth c g Q H locs ls F E A L
  obtain ⟨z1, z2, z3⟩ := F.2.2.2.2.2.1.2.2.1 j hj
  have h1 := h p l e R s m args below meth c g Q H locs ls F E A L
  have e1 : (Value.ref (1000 + j) :: st).map (a_v g) = .ref (g_s g j) :: st.map (a_v g) := by
    show Value.ref (a_ad g (1000 + j)) :: _ = _
    rw [a_ad_st]
  rw [e1] at h1
  rcases hl with hl | ⟨host, hl⟩
  · exact va_gets F.1 F.2.1 z1 A.S F.2.2.2.1 (F.2.2.2.2.1 _ hl) (fun _ h9 => h9) hd h1
  · exact va_getsN F.1 F.2.1 z1 A.S F.2.2.2.1 (va_Nw.use rfl (F.2.2.2.2.2.1.2.1 _ hl)) (fun _ h9 => h9) hd h1
theorem A_ialdS {j : Nat} {i : Int32} (hj : j < 4) (hd : decode M.2.1 pc = .ok (.iaload, 1)) (hi : vp_in i (sa_l j)) (h : AW M d mc ms k n (pc + 1) lv (.int (sa_f j i.toNatClampNeg) :: st) hp post) : AW M d mc ms k n pc lv (.int i :: .ref (1000 + j) :: st) hp post := by
  intro p l e R s m args below meth c g Q H locs ls F E A L
  obtain ⟨z1, z2, z3⟩ := F.2.2.2.2.2.1.2.2.1 j hj
  have hbs := F.2.2.2.2.2.1.2.2.2
  have e1 : (Value.int i :: Value.ref (1000 + j) :: st).map (a_v g) = .int i :: .ref (g_s g j) :: st.map (a_v g) := by
    show Value.int i :: Value.ref (a_ad g (1000 + j)) :: _ = _
    rw [a_ad_st]
  rw [e1]
  exact va_sld F.1 F.2.1 z2 (Nat.lt_of_lt_of_le z3 hbs) (Nat.not_le.mpr z3) A.S hi hd (h p l e R s m args below meth c g Q H locs ls F E A L)
theorem A_alenS {j : Nat} {v : Int32} (hj : j < 4) (hd : decode M.2.1 pc = .ok (.arraylength, 1)) (hv : Int32.ofNat (sa_l j) = v) (h : AW M d mc ms k n (pc + 1) lv (.int v :: st) hp post) : AW M d mc ms k n pc lv (.ref (1000 + j) :: st) hp post := by
  intro p l e R s m args below meth c g Q H locs ls F E A L
  obtain ⟨z1, z2, z3⟩ := F.2.2.2.2.2.1.2.2.1 j hj
  have hbs := F.2.2.2.2.2.1.2.2.2
  have e1 : (Value.ref (1000 + j) :: st).map (a_v g) = .ref (g_s g j) :: st.map (a_v g) := by
    show Value.ref (a_ad g (1000 + j)) :: _ = _
    rw [a_ad_st]
  rw [e1]
  subst hv
  exact va_slen F.1 F.2.1 z2 (Nat.lt_of_lt_of_le z3 hbs) (Nat.not_le.mpr z3) A.S hd (h p l e R s m args below meth c g Q H locs ls F E A L)
/-! ### calls -/
/-- the words of a call: its link, its code, its class, how many parameters -/
def a_cb (own : String) (idx : Nat) (M' : MD) (np : Nat) : Prop :=
  (Cond.methodLink own idx M'.1 ∈ gw ∨ ∃ host, Cond.methodLinkNest own idx M'.1 host ∈ nw) ∧ Cond.initialized M'.1.cls ∈ gw ∧ Cond.code M'.1 M'.2.1 M'.2.2.1 M'.2.2.2 ∈ gw ∧ (M'.1.cls ≠ "java/lang/invoke/MethodHandle" ∧ M'.1.cls ≠ "java/lang/invoke/VarHandle" ∧ (parseMethodDescriptor M'.1.desc).map (fun d => d.parameters.length) = some np) ∧ M'.2.2.1 ≤ 18
def a_cs (own : String) (idx : Nat) (M' : MD) (np : Nat) : Prop := a_cb own idx M' np ∧ Cond.static M'.1 ∈ gw
def a_cv (own : String) (idx : Nat) (M' : MD) (np : Nat) : Prop := a_cb own idx M' np ∧ Cond.instanceMethod M'.1 ∈ gw ∧ Cond.selects M'.1.cls M'.1 M'.1 ∈ gw
def a_ci (own : String) (idx : Nat) (M' : MD) (np : Nat) : Prop := a_cb own idx M' np ∧ Cond.instanceMethod M'.1 ∈ gw ∧ M'.1.name = "<init>" ∧ M'.2.2.2 = none
theorem a_after {p : Program} {l : Launch} {e : Env} {R : Room} {s : State} {m : MethodId} {args : Array Value} {below : List Frame} {meth : Method} {c : Code} {g : GG} {Q : State → Prop} {H : Heap} {locs : List Loc} {ls : Array Slot} {mc' ms' : Nat} {st0 rest : List Value} {post' : Post} {a : Array Value}
    (F : a_F g M d mc ms p R s m args meth c) (E : a_E p l e R s m args below meth c g M mc ms Q post) (A : a_H g s H locs hp) (L : a_L g M.2.2.1 ls lv)
    (hr : va_Run p l e R s m args below meth c H locs k n mc' ms' (F0 m pc ls st0) (rest.map (a_v g)) (a_Q g post' a) (fun q => g_b g ≤ q))
    (h : ∀ (r : Option Value) (hp' : AH), post' r hp' → AW M d mc ms (k + mc') (n + ms') (pc + 3) lv (r.toList ++ rest) hp' post) : W p l e R s m args below meth c H locs k n Q (F0 m pc ls st0) := by
  intro T hT X
  obtain ⟨v, s0, t, T', L', h0, X', hL, e1, e2, ⟨r, hp', hv, hp1, A'⟩, stt⟩ := hr T hT X
  have hv' : v = r.map (a_v g) := by cases hv; rfl
  subst hv'
  obtain ⟨A1, A2, A3, A4, A5, -⟩ := A'
  have A9 : a_H g s T'.heap (locs ++ L') hp' := by
    refine ⟨by rw [e1]; exact A1, A2, by rw [e1]; exact A3, Nat.le_trans A.2.2.2.1 (by rw [e1, ← h0]; exact A4), fun q hq => ?_, fun x hx => ?_⟩
    · rw [e1, A5 q hq, h0]
      exact A.2.2.2.2.1 q hq
    · rcases List.mem_append.mp hx with h2 | h2
      · exact A.2.2.2.2.2 x h2
      · exact hL x h2
  obtain ⟨t2, a1, b1⟩ := h r hp' hp1 p l e R s m args below meth c g Q T'.heap (locs ++ L') ls F E A9 L T' rfl X'
  refine ⟨t2, stt t2 ?_, b1⟩
  have es : (r.map (a_v g)).toList ++ rest.map (a_v g) = (r.toList ++ rest).map (a_v g) := by cases r <;> simp
  show Steps p.tables e below (T'.setTop (F0 m (pc + 3) ls ((r.map (a_v g)).toList ++ rest.map (a_v g)))) t2
  rw [es]
  exact a1
theorem a_sum (g : GG) (rest : List Value) : ((rest.map (a_v g)).map fun v => v.category).sum = (rest.map fun v => v.category).sum := by
  rw [List.map_map]
  congr 1
  apply List.map_congr_left
  intro v _
  exact a_v_cat g v
theorem A_callS {M' : MD} {idx np d' mc' ms' : Nat} {as rest st : List Value} {post' : Post} (cb : a_cs M.1.cls idx M' np) (hs : AS M' d' mc' ms' as hp post') (hd : decode M.2.1 pc = .ok (.invokestatic idx, 3)) (hnp : as.length = np) (hst : st = as.reverse ++ rest) (hrest : (rest.map fun v => v.category).sum ≤ 8) (hdd : d' + 1 ≤ d) (hk : k + mc' ≤ mc) (hm : n + ms' ≤ ms)
    (h : ∀ (r : Option Value) (hp' : AH), post' r hp' → AW M d mc ms (k + mc') (n + ms') (pc + 3) lv (r.toList ++ rest) hp' post) : AW M d mc ms k n pc lv st hp post := by
  intro p l e R s m args below meth c g Q H locs ls F E A L
  obtain ⟨⟨hl, hini, hcode, hy, hml⟩, hstat⟩ := cb
  have hts := F.2.2.2.2.1
  obtain ⟨-, -, hmaxL, hown, -, hT, hfr, hlo, hcl, hsl, -⟩ := id F
  have hR : (a_rm d' mc' ms').frames + 1 ≤ R.frames ∧ 8 + (M'.2.2.1 + 11) + (a_rm d' mc' ms').locals ≤ R.locals := by
    rw [hfr, hlo]
    exact ⟨hdd, by show 8 + (M'.2.2.1 + 11) + 37 * d' ≤ 37 * d; omega⟩
  have hstk : st.map (a_v g) = (as.map (a_v g)).reverse ++ rest.map (a_v g) := by rw [hst, List.map_append, List.map_reverse]
  refine a_after (rest := rest) (post' := post') (a := (as.map (a_v g)).toArray) F E A L ?_ h
  have hroom : 2 * (F0 m pc ls (st.map (a_v g))).monitorRoom + ((rest.map (a_v g)).map fun v => v.category).sum ≤ 8 := lv_room (by rw [a_sum]; exact hrest)
  rcases hl with hl | ⟨host, hl⟩
  · exact va_runS (Ts := gw) (own := M.1.cls) (n := np) ⟨F.1, F.2.1, hmaxL, hown, hts⟩ (hs l g) ⟨callB_of np hts (a_good hcode) rfl rfl rfl (hts _ hini) (hts _ hl) hy hR, hts _ hstat⟩ ⟨a_P.blind, a_P.of hT A⟩ rfl (by rw [List.length_map]; exact hnp) L.1 hstk hroom hd (by rw [hcl, hsl]; exact ⟨hk, hm⟩)
  · exact va_runSN (Ts := gw) (own := M.1.cls) (host := host) (n := np) ⟨F.1, F.2.1, hmaxL, hown, hts⟩ (hs l g) ⟨va_cnB np hts (a_good hcode) rfl rfl rfl (hT.2.1 _ hl) (hts _ hini) hy hR, hts _ hstat, trivial⟩ ⟨a_P.blind, a_P.of hT A⟩ rfl (by rw [List.length_map]; exact hnp) L.1 hstk hroom hd (by rw [hcl, hsl]; exact ⟨hk, hm⟩)
theorem A_callV {M' : MD} {idx np d' mc' ms' b ci : Nat} {as rest st fs : List Value} {post' : Post} (cb : a_cv M.1.cls idx M' np) (hs : AS M' d' mc' ms' (.ref b :: as) hp post') (hd : decode M.2.1 pc = .ok (.invokevirtual idx, 3)) (hnp : as.length = np) (hst : st = as.reverse ++ .ref b :: rest) (hb : hp[b]? = some (.inr (.inl (ci, fs)))) (hci : (vwCl[ci]?).map (fun q => q.1) = some M'.1.cls) (hrest : (rest.map fun v => v.category).sum ≤ 8) (hdd : d' + 1 ≤ d) (hk : k + mc' ≤ mc) (hm : n + ms' ≤ ms)
    (h : ∀ (r : Option Value) (hp' : AH), post' r hp' → AW M d mc ms (k + mc') (n + ms') (pc + 3) lv (r.toList ++ rest) hp' post) : AW M d mc ms k n pc lv st hp post := by
  intro p l e R s m args below meth c g Q H locs ls F E A L
  obtain ⟨⟨hl, hini, hcode, hy, hml⟩, hins, hsel⟩ := cb
  have hts := F.2.2.2.2.1
  obtain ⟨-, -, hmaxL, hown, -, hT, hfr, hlo, hcl, hsl, -⟩ := id F
  have hR : (a_rm d' mc' ms').frames + 1 ≤ R.frames ∧ 8 + (M'.2.2.1 + 11) + (a_rm d' mc' ms').locals ≤ R.locals := by
    rw [hfr, hlo]
    exact ⟨hdd, by show 8 + (M'.2.2.1 + 11) + 37 * d' ≤ 37 * d; omega⟩
  have hstk : st.map (a_v g) = (as.map (a_v g)).reverse ++ .ref (a_ad g b) :: rest.map (a_v g) := by rw [hst, List.map_append, List.map_reverse]; rfl
  obtain ⟨q, hq, hqc⟩ : ∃ q : vw_C, vwCl[ci]? = some q ∧ q.1 = M'.1.cls := by
    cases hz : vwCl[ci]? with
    | none => rw [hz] at hci; cases hci
    | some q => rw [hz] at hci; exact ⟨q, rfl, Option.some.inj hci⟩
  have hrecv := va_recv hT.1 (A.at hb) hq (q0 := 0) rfl
  rw [hqc] at hrecv
  refine a_after (rest := rest) (post' := post') (a := (Value.ref (a_ad g b) :: as.map (a_v g)).toArray) F E A L ?_ h
  have hroom : 2 * (F0 m pc ls (st.map (a_v g))).monitorRoom + ((rest.map (a_v g)).map fun v => v.category).sum ≤ 8 := lv_room (by rw [a_sum]; exact hrest)
  rcases hl with hl | ⟨host, hl⟩
  · exact va_runV (Ts := gw) (own := M.1.cls) (n := np) (C := M'.1.cls) ⟨F.1, F.2.1, hmaxL, hown, hts⟩ (hs l g) ⟨callB_of np hts (a_good hcode) rfl rfl rfl (hts _ hini) (hts _ hl) hy hR, hts _ hins, hts _ hsel⟩ ⟨a_P.blind, hrecv, a_P.of (as := .ref b :: as) hT A⟩ rfl (by rw [List.length_map]; exact hnp) L.1 hstk hroom hd (by rw [hcl, hsl]; exact ⟨hk, hm⟩)
  · exact va_runVN (Ts := gw) (own := M.1.cls) (host := host) (n := np) (C := M'.1.cls) ⟨F.1, F.2.1, hmaxL, hown, hts⟩ (hs l g) ⟨va_cnB np hts (a_good hcode) rfl rfl rfl (hT.2.1 _ hl) (hts _ hini) hy hR, hts _ hins, hts _ hsel⟩ ⟨a_P.blind, hrecv, a_P.of (as := .ref b :: as) hT A⟩ rfl (by rw [List.length_map]; exact hnp) L.1 hstk hroom hd (by rw [hcl, hsl]; exact ⟨hk, hm⟩)
theorem A_callI {M' : MD} {idx np d' mc' ms' b : Nat} {as rest st : List Value} {post' : Post} (cb : a_ci M.1.cls idx M' np) (hs : AS M' d' mc' ms' (.ref b :: as) hp post') (hd : decode M.2.1 pc = .ok (.invokespecial idx, 3)) (hnp : as.length = np) (hst : st = as.reverse ++ .ref b :: rest) (hrest : (rest.map fun v => v.category).sum ≤ 8) (hdd : d' + 1 ≤ d) (hk : k + mc' ≤ mc) (hm : n + ms' ≤ ms)
    (h : ∀ (r : Option Value) (hp' : AH), post' r hp' → AW M d mc ms (k + mc') (n + ms') (pc + 3) lv (r.toList ++ rest) hp' post) : AW M d mc ms k n pc lv st hp post := by
  intro p l e R s m args below meth c g Q H locs ls F E A L
  obtain ⟨⟨hl, hini, hcode, hy, hml⟩, hins, hnm, hret⟩ := cb
  obtain ⟨y, bytes, maxL, ret⟩ := M'
  dsimp only at hl hini hcode hy hml hins hnm hret hs
  subst hret
  have hts := F.2.2.2.2.1
  obtain ⟨-, -, hmaxL, hown, -, hT, hfr, hlo, hcl, hsl, -⟩ := id F
  have hR : (a_rm d' mc' ms').frames + 1 ≤ R.frames ∧ 8 + (maxL + 11) + (a_rm d' mc' ms').locals ≤ R.locals := by
    rw [hfr, hlo]
    exact ⟨hdd, by show 8 + (maxL + 11) + 37 * d' ≤ 37 * d; omega⟩
  have hstk : st.map (a_v g) = (as.map (a_v g)).reverse ++ .ref (a_ad g b) :: rest.map (a_v g) := by rw [hst, List.map_append, List.map_reverse]; rfl
  refine a_after (rest := rest) (post' := post') (a := (Value.ref (a_ad g b) :: as.map (a_v g)).toArray) F E A L ?_ h
  have hroom : 2 * (F0 m pc ls (st.map (a_v g))).monitorRoom + ((rest.map (a_v g)).map fun v => v.category).sum ≤ 8 := lv_room (by rw [a_sum]; exact hrest)
  rcases hl with hl | ⟨host, hl⟩
  · exact va_runI (Ts := gw) (own := M.1.cls) (n := np) ⟨F.1, F.2.1, hmaxL, hown, hts⟩ (hs l g) ⟨callB_of np hts (a_good hcode) rfl rfl rfl (hts _ hini) (hts _ hl) hy hR, hnm, hts _ hins⟩ ⟨a_P.blind, a_P.of (as := .ref b :: as) hT A⟩ rfl (by rw [List.length_map]; exact hnp) L.1 hstk hroom hd (by rw [hcl, hsl]; exact ⟨hk, hm⟩)
  · exact va_runIN (Ts := gw) (own := M.1.cls) (host := host) (n := np) ⟨F.1, F.2.1, hmaxL, hown, hts⟩ (hs l g) ⟨va_cnB np hts (a_good hcode) rfl rfl rfl (hT.2.1 _ hl) (hts _ hini) hy hR, hnm, hts _ hins⟩ ⟨a_P.blind, a_P.of (as := .ref b :: as) hT A⟩ rfl (by rw [List.length_map]; exact hnp) L.1 hstk hroom hd (by rw [hcl, hsl]; exact ⟨hk, hm⟩)
/-! ### from AW to a contract -/
theorem a_entry {g : GG} {as : List Value} {nL : Nat} (hc : ∀ v ∈ as, v.category = 1) (hl : as.length ≤ nL) : a_L g nL ((((as.map (a_v g)).map Slot.val) ++ List.replicate (nL - (as.map (a_v g)).length) Slot.unset).toArray) (as.map some ++ List.replicate (nL - as.length) none) := by
  have hx : ∀ (i : Nat) (sl : Slot), ((((as.map (a_v g)).map Slot.val) ++ List.replicate (nL - (as.map (a_v g)).length) Slot.unset).toArray)[i]? = some sl → (∃ v, as[i]? = some v ∧ sl = .val (a_v g v)) ∨ sl = .unset := by
    intro i sl h
    rw [List.getElem?_toArray] at h
    by_cases hi : i < as.length
    · rw [List.getElem?_append_left (by simpa using hi), List.getElem?_map, List.getElem?_map] at h
      cases hz : as[i]? with
      | none => rw [hz] at h; cases h
      | some v => rw [hz] at h; cases h; exact Or.inl ⟨v, rfl, rfl⟩
    · rw [List.getElem?_append_right (by simpa using hi)] at h
      exact Or.inr (List.eq_of_mem_replicate (List.mem_of_getElem? h))
  refine ⟨?_, ⟨fun i v h h2 => ?_, fun i h => ?_⟩, fun i v h => ?_⟩
  · simp
    omega
  · rcases hx i _ h with ⟨w, hw, he⟩ | he
    · cases he
      rw [a_v_cat, hc w (List.mem_of_getElem? hw)] at h2
      cases h2
    · cases he
  · rcases hx i _ h with ⟨w, hw, he⟩ | he <;> cases he
  · by_cases hi : i < as.length
    · rw [List.getElem?_append_left (by simpa using hi), List.getElem?_map] at h
      cases hz : as[i]? with
      | none => rw [hz] at h; cases h
      | some w =>
        rw [hz] at h
        have hwv : w = v := by simpa using h
        subst hwv
        refine ⟨hc _ (List.mem_of_getElem? hz), ?_⟩
        rw [List.getElem?_toArray, List.getElem?_append_left (by simpa using hi), List.getElem?_map, List.getElem?_map, hz]
        rfl
    · rw [List.getElem?_append_right (by simpa using hi)] at h
      have := List.eq_of_mem_replicate (List.mem_of_getElem? h)
      cases this
theorem AS.of {as : List Value} (hy : plainName M.1.cls = true) (hc : ∀ v ∈ as, v.category = 1) (hl : as.length ≤ M.2.2.1) (h : AW M d mc ms 0 0 0 (as.map some ++ List.replicate (M.2.2.1 - as.length) none) [] hp post) : AS M d mc ms as hp post := by
  intro l g
  refine Met.ofW (cc := M.2.1) (maxL := M.2.2.1) (ret := M.2.2.2) hy rfl ?_
  intro p e s m args below meth c s₁ B hml hv
  obtain ⟨rfl, hT, hA⟩ := hv
  have hts := atoms_spec (ws := a_ws M) B.pre
  rw [entry_eq m (as.map (a_v g)) (fun v hv => by obtain ⟨w, hw, rfl⟩ := List.mem_map.mp hv; rw [a_v_cat]; exact hc w hw)]
  refine h p l e _ s m _ below meth c g _ s.heap [] _ ⟨B.exec, B.bytes, hml, findClass_of_methodNamed B.named, fun w hw => hts w (List.mem_cons_of_mem _ hw), hT, rfl, rfl, rfl, rfl, (name_of_methodNamed B.named B.method).1⟩ ?_ hA (a_entry hc hl)
  intro r hp' H locs ls pc k n hpost A hk hn hret
  refine W.widen hk hn ?_
  rcases hret with ⟨rfl, hr, hd⟩ | ⟨v, ty, rfl, hr, hnr, hd⟩
  · exact W.vret B.exec B.bytes (B.returns.trans hr) (fun t ht hW => ⟨none, hp', rfl, hpost, by rw [ht]; exact ⟨A.1, A.2.1, A.2.2.1, A.2.2.2.1, A.2.2.2.2.1, fun x h => by cases h⟩⟩) A.2.2.2.2.2 hd B.notSynchronized
  · exact W.zret B.exec B.bytes (B.returns.trans hr) hnr (fun t ht hW => ⟨some (.int v), hp', rfl, hpost, by rw [ht]; exact ⟨A.1, A.2.1, A.2.2.1, A.2.2.2.1, A.2.2.2.2.1, fun x h => by cases h⟩⟩) A.2.2.2.2.2 hd B.notSynchronized
theorem AW.heq {hp' : AH} (he : hp = hp') (h : AW M d mc ms k n pc lv st hp' post) : AW M d mc ms k n pc lv st hp post := by rw [he]; exact h
theorem AS.imp {as : List Value} {post' : Post} (h : AS M d mc ms as hp post') (hi : ∀ r hp', post' r hp' → post r hp') : AS M d mc ms as hp post := by
  intro l g
  have h1 := h l g
  intro p e a1 a2 a3 s m args below a4 a5 a6 a7
  obtain ⟨t, o, b1, b2, b3, ⟨⟨r, hp', c1, c2, c3⟩, b5⟩⟩ := h1 p e a1 a2 a3 s m args below a4 a5 a6 a7
  exact ⟨t, o, b1, b2, b3, ⟨r, hp', c1, hi r hp' c2, c3⟩, b5⟩
end AHR
