/-! the law's own walk: the script lies below the cells; its rules -/
def LX (g : GG) (s : State) (xs : Nat → Int32) (SL : Nat) : Prop := va_X (g_s g 4) SL xs s s.heap ∧ g_s g 4 < g_b g ∧ g_b g ≤ s.heap.size
def LW (xs : Nat → Int32) (SL : Nat) (M : MD) (d mc ms k n pc : Nat) (lv : List (Option Value)) (st : List Value) (hp : AH) (post : Post) : Prop :=
  ∀ (p : Program) (l : Launch) (e : Env) (R : Room) (s : State) (m : MethodId) (args : Array Value) (below : List Frame) (meth : Method) (c : Code) (g : GG) (Q : State → Prop) (H : Heap) (locs : List Loc) (ls : Array Slot),
    LX g s xs SL → a_F g M d mc ms p R s m args meth c → a_E p l e R s m args below meth c g M mc ms Q post → a_H g s H locs hp → a_L g M.2.2.1 ls lv → W p l e R s m args below meth c H locs k n Q (F0 m pc ls (st.map (a_v g)))
section LAWR
variable {xs : Nat → Int32} {SL : Nat} {M : MD} {d mc ms k n pc : Nat} {lv : List (Option Value)} {st : List Value} {hp : AH} {post : Post}
theorem L_iconst {i : Int} {v : Int32} (hd : decode M.2.1 pc = .ok (.iconst i, 1)) (hv : Int32.ofInt i = v) (h : LW xs SL M d mc ms k n (pc + 1) lv (.int v :: st) hp post) : LW xs SL M d mc ms k n pc lv st hp post := by
  intro p l e R s m args below meth c g Q H locs ls XS F E A L
  exact lv_iconst F.1 F.2.1 hd hv (h p l e R s m args below meth c g Q H locs ls XS F E A L)
theorem L_bipush {i : Int} {v : Int32} (hd : decode M.2.1 pc = .ok (.bipush i, 2)) (hv : (Int8.ofInt i).toInt32 = v) (h : LW xs SL M d mc ms k n (pc + 2) lv (.int v :: st) hp post) : LW xs SL M d mc ms k n pc lv st hp post := by
  intro p l e R s m args below meth c g Q H locs ls XS F E A L
  exact lv_bipush F.1 F.2.1 hd hv (h p l e R s m args below meth c g Q H locs ls XS F E A L)
theorem L_iadd {x y : Int32} (hd : decode M.2.1 pc = .ok (.iadd, 1)) (h : LW xs SL M d mc ms k n (pc + 1) lv (.int (x + y) :: st) hp post) : LW xs SL M d mc ms k n pc lv (.int y :: .int x :: st) hp post := by
  intro p l e R s m args below meth c g Q H locs ls XS F E A L
  exact lv_iadd F.1 F.2.1 hd (h p l e R s m args below meth c g Q H locs ls XS F E A L)
theorem L_isub {x y : Int32} (hd : decode M.2.1 pc = .ok (.isub, 1)) (h : LW xs SL M d mc ms k n (pc + 1) lv (.int (x - y) :: st) hp post) : LW xs SL M d mc ms k n pc lv (.int y :: .int x :: st) hp post := by
  intro p l e R s m args below meth c g Q H locs ls XS F E A L
  exact lv_isub F.1 F.2.1 hd (h p l e R s m args below meth c g Q H locs ls XS F E A L)
theorem L_iand {x y : Int32} (hd : decode M.2.1 pc = .ok (.iand, 1)) (h : LW xs SL M d mc ms k n (pc + 1) lv (.int (x &&& y) :: st) hp post) : LW xs SL M d mc ms k n pc lv (.int y :: .int x :: st) hp post := by
  intro p l e R s m args below meth c g Q H locs ls XS F E A L
  exact lv_iand F.1 F.2.1 hd (h p l e R s m args below meth c g Q H locs ls XS F E A L)
theorem L_dup {v : Value} (hd : decode M.2.1 pc = .ok (.dup, 1)) (hc : v.category = 1) (h : LW xs SL M d mc ms k n (pc + 1) lv (v :: v :: st) hp post) : LW xs SL M d mc ms k n pc lv (v :: st) hp post := by
  intro p l e R s m args below meth c g Q H locs ls XS F E A L
  exact lv_dup F.1 F.2.1 hd (by rw [a_v_cat]; exact hc) (h p l e R s m args below meth c g Q H locs ls XS F E A L)
theorem L_goto {off : Int} {tgt : Nat} (hd : decode M.2.1 pc = .ok (.goto off, 3)) (ht : (pc : Int) + off = (tgt : Int)) (h : LW xs SL M d mc ms k n tgt lv st hp post) : LW xs SL M d mc ms k n pc lv st hp post := by
  intro p l e R s m args below meth c g Q H locs ls XS F E A L
  exact lv_goto F.1 F.2.1 hd ht (h p l e R s m args below meth c g Q H locs ls XS F E A L)
theorem L_icmp_eq {x y : Int32} {off : Int} {tgt : Nat} (hd : decode M.2.1 pc = .ok (.if_icmp .eq off, 3)) (ht : (pc : Int) + off = (tgt : Int)) (ht1 : x = y → LW xs SL M d mc ms k n tgt lv st hp post) (hf1 : ¬ (x = y) → LW xs SL M d mc ms k n (pc + 3) lv st hp post) : LW xs SL M d mc ms k n pc lv (.int y :: .int x :: st) hp post := by
  intro p l e R s m args below meth c g Q H locs ls XS F E A L
  exact lv_icmp_eq F.1 F.2.1 hd ht (fun q => ht1 q p l e R s m args below meth c g Q H locs ls XS F E A L) (fun q => hf1 q p l e R s m args below meth c g Q H locs ls XS F E A L)
theorem L_icmp_gt {x y : Int32} {off : Int} {tgt : Nat} (hd : decode M.2.1 pc = .ok (.if_icmp .gt off, 3)) (ht : (pc : Int) + off = (tgt : Int)) (ht1 : y < x → LW xs SL M d mc ms k n tgt lv st hp post) (hf1 : ¬ (y < x) → LW xs SL M d mc ms k n (pc + 3) lv st hp post) : LW xs SL M d mc ms k n pc lv (.int y :: .int x :: st) hp post := by
  intro p l e R s m args below meth c g Q H locs ls XS F E A L
  exact lv_icmp_gt F.1 F.2.1 hd ht (fun q => ht1 q p l e R s m args below meth c g Q H locs ls XS F E A L) (fun q => hf1 q p l e R s m args below meth c g Q H locs ls XS F E A L)
theorem L_aload0 {lt : List (Option Value)} {x : Nat} (hd : decode M.2.1 pc = .ok (.aload_n 0, 1)) (h : LW xs SL M d mc ms k n (pc + 1) (some (.ref x) :: lt) (.ref x :: st) hp post) : LW xs SL M d mc ms k n pc (some (.ref x) :: lt) st hp post := by
  intro p l e R s m args below meth c g Q H locs ls XS F E A L
  exact lv_aload_n F.1 F.2.1 hd rfl (L.2.2 0 (.ref x) rfl).2 (h p l e R s m args below meth c g Q H locs ls XS F E A L)
theorem L_aload1 {a0 : Option Value} {lt : List (Option Value)} {x : Nat} (hd : decode M.2.1 pc = .ok (.aload_n 1, 1)) (h : LW xs SL M d mc ms k n (pc + 1) (a0 :: some (.ref x) :: lt) (.ref x :: st) hp post) : LW xs SL M d mc ms k n pc (a0 :: some (.ref x) :: lt) st hp post := by
  intro p l e R s m args below meth c g Q H locs ls XS F E A L
  exact lv_aload_n F.1 F.2.1 hd rfl (L.2.2 1 (.ref x) rfl).2 (h p l e R s m args below meth c g Q H locs ls XS F E A L)
theorem L_aload2 {a0 a1 : Option Value} {lt : List (Option Value)} {x : Nat} (hd : decode M.2.1 pc = .ok (.aload_n 2, 1)) (h : LW xs SL M d mc ms k n (pc + 1) (a0 :: a1 :: some (.ref x) :: lt) (.ref x :: st) hp post) : LW xs SL M d mc ms k n pc (a0 :: a1 :: some (.ref x) :: lt) st hp post := by
  intro p l e R s m args below meth c g Q H locs ls XS F E A L
  exact lv_aload_n F.1 F.2.1 hd rfl (L.2.2 2 (.ref x) rfl).2 (h p l e R s m args below meth c g Q H locs ls XS F E A L)
theorem L_iload3 {a0 a1 a2 : Option Value} {lt : List (Option Value)} {x : Int32} (hd : decode M.2.1 pc = .ok (.iload_n 3, 1)) (h : LW xs SL M d mc ms k n (pc + 1) (a0 :: a1 :: a2 :: some (.int x) :: lt) (.int x :: st) hp post) : LW xs SL M d mc ms k n pc (a0 :: a1 :: a2 :: some (.int x) :: lt) st hp post := by
  intro p l e R s m args below meth c g Q H locs ls XS F E A L
  exact lv_iload_n F.1 F.2.1 hd rfl (L.2.2 3 (.int x) rfl).2 (h p l e R s m args below meth c g Q H locs ls XS F E A L)
theorem L_istore3 {a0 a1 a2 : Option Value} {lt : List (Option Value)} {ai : Option Value} {x : Int32} (hd : decode M.2.1 pc = .ok (.istore_n 3, 1)) (hn : 3 < M.2.2.1) (h : LW xs SL M d mc ms k n (pc + 1) (a0 :: a1 :: a2 :: some (.int x) :: lt) st hp post) : LW xs SL M d mc ms k n pc (a0 :: a1 :: a2 :: ai :: lt) (.int x :: st) hp post := by
  intro p l e R s m args below meth c g Q H locs ls XS F E A L
  exact lv_istore_n F.1 F.2.1 hd rfl L.has hn rfl (fun ls' L' => h p l e R s m args below meth c g Q H locs ls' XS F E A (L.set (v := .int x) rfl L'))
theorem L_astore1 {a0 : Option Value} {lt : List (Option Value)} {ai : Option Value} {x : Nat} (hd : decode M.2.1 pc = .ok (.astore_n 1, 1)) (hn : 1 < M.2.2.1) (h : LW xs SL M d mc ms k n (pc + 1) (a0 :: some (.ref x) :: lt) st hp post) : LW xs SL M d mc ms k n pc (a0 :: ai :: lt) (.ref x :: st) hp post := by
  intro p l e R s m args below meth c g Q H locs ls XS F E A L
  exact lv_astore_n F.1 F.2.1 hd rfl L.has hn rfl (fun ls' L' => h p l e R s m args below meth c g Q H locs ls' XS F E A (L.set (v := .ref x) rfl L'))
theorem L_astore2 {a0 a1 : Option Value} {lt : List (Option Value)} {ai : Option Value} {x : Nat} (hd : decode M.2.1 pc = .ok (.astore_n 2, 1)) (hn : 2 < M.2.2.1) (h : LW xs SL M d mc ms k n (pc + 1) (a0 :: a1 :: some (.ref x) :: lt) st hp post) : LW xs SL M d mc ms k n pc (a0 :: a1 :: ai :: lt) (.ref x :: st) hp post := by
  intro p l e R s m args below meth c g Q H locs ls XS F E A L
  exact lv_astore_n F.1 F.2.1 hd rfl L.has hn rfl (fun ls' L' => h p l e R s m args below meth c g Q H locs ls' XS F E A (L.set (v := .ref x) rfl L'))
theorem L_iinc3 {a0 a1 a2 : Option Value} {lt : List (Option Value)} {x v : Int32} {j : Int} (hd : decode M.2.1 pc = .ok (.iinc 3 j, 3)) (hn : 3 < M.2.2.1) (hv : x + Int32.ofInt j = v) (h : LW xs SL M d mc ms k n (pc + 3) (a0 :: a1 :: a2 :: some (.int v) :: lt) st hp post) : LW xs SL M d mc ms k n pc (a0 :: a1 :: a2 :: some (.int x) :: lt) st hp post := by
  intro p l e R s m args below meth c g Q H locs ls XS F E A L
  obtain ⟨kk, hk⟩ := List.getElem?_of_mem ((a_pr_mem (g := g) (lv := (a0 :: a1 :: a2 :: some (.int x) :: lt)) (q := (3, .int x))).mpr ⟨.int x, rfl, rfl⟩)
  exact lv_iinc (k := kk) F.1 F.2.1 hd L.has hk hv hn rfl (fun ls' L' => h p l e R s m args below meth c g Q H locs ls' XS F E A (L.set (v := .int v) rfl L'))
theorem L_tsOut {dflt lo hi : Int} {offs : Array Int} {len : Nat} {x : Int32} {tgt : Nat} (hd : decode M.2.1 pc = .ok (.tableswitch dflt lo hi offs, len)) (hx : x.toInt < lo ∨ hi < x.toInt) (ht : (pc : Int) + dflt = (tgt : Int)) (h : LW xs SL M d mc ms k n tgt lv st hp post) : LW xs SL M d mc ms k n pc lv (.int x :: st) hp post := by
  intro p l e R s m args below meth c g Q H locs ls XS F E A L
  exact lv_tableOut F.1 F.2.1 hd hx ht (h p l e R s m args below meth c g Q H locs ls XS F E A L)
theorem L_tsIn {dflt lo hi : Int} {offs : Array Int} {len : Nat} {x : Int32} {off : Int} {tgt : Nat} (hd : decode M.2.1 pc = .ok (.tableswitch dflt lo hi offs, len)) (h1 : ¬ x.toInt < lo) (h2 : ¬ hi < x.toInt) (ho : offs[(x.toInt - lo).toNat]? = some off) (ht : (pc : Int) + off = (tgt : Int)) (h : LW xs SL M d mc ms k n tgt lv st hp post) : LW xs SL M d mc ms k n pc lv (.int x :: st) hp post := by
  intro p l e R s m args below meth c g Q H locs ls XS F E A L
  exact lv_tableIn F.1 F.2.1 hd h1 h2 ho ht (h p l e R s m args below meth c g Q H locs ls XS F E A L)
theorem L_iret {v : Int32} {ty : FieldType} (hd : decode M.2.1 pc = .ok (.ireturn, 1)) (hr : M.2.2.2 = some ty) (hn : narrow ty (.int v) = .int v) (hk : k ≤ mc) (hm : n ≤ ms) (h : post (some (.int v)) hp) : LW xs SL M d mc ms k n pc lv [.int v] hp post := by
  intro p l e R s m args below meth c g Q H locs ls XS F E A L
  exact E (some (.int v)) hp H locs ls pc k n h A hk hm (Or.inr ⟨v, ty, rfl, hr, hn, hd⟩)
theorem L_new {idx ci N : Nat} {C : String} {T : u_T} (fs : List Value) (ty : Nat → FieldType) (hC : vwCl[ci]? = some (C, T, N)) (hw : ∀ w ∈ u_ws C T N, w ∈ gw) (hty : ∀ j, j < N → parseFieldDescriptor (T j).2.2.1 = some (ty j)) (hcl : Cond.classLink M.1.cls idx C ∈ gw) (hins : Cond.instantiable C N ∈ gw) (hini : Cond.initialized C ∈ gw) (hfs : ∀ j, j < N → defaultValue (ty j) = vp_V fs j) (hav : ∀ g, fs.map (a_v g) = fs) (hd : decode M.2.1 pc = .ok (.new idx, 3)) (hk : k + 1 ≤ mc) (hm : n + N ≤ ms) (hlen : hp.length < 1000)
    (h : LW xs SL M d mc ms (k + 1) (n + N) (pc + 3) lv (.ref hp.length :: st) (hp ++ [oC ci fs]) post) : LW xs SL M d mc ms k n pc lv st hp post := by
  intro p l e R s m args below meth c g Q H locs ls XS F E A L
  have hts := F.2.2.2.2.1
  obtain ⟨-, -, hmaxL, hown, -, hT, hfr, hlo, hclR, hslR, -⟩ := id F
  have hKn := hT.1.1 ci _ hC
  refine W.newcK F.1 F.2.1 hown (hts _ hcl) (hts _ hins) (hts _ hini) rfl hd (by rw [hclR]; exact hk) (by rw [hslR]; exact hm) hKn.2.1 rfl fun H1 kC hkC e1 z1 o1 => ?_
  have h1 := h p l e R s m args below meth c g Q H1 locs ls XS F E (A.push hlen (c1 := oC ci fs) ?_ z1 o1) L
  · have e9 : (Value.ref hp.length :: st).map (a_v g) = .ref H.size :: st.map (a_v g) := by
      show a_v g (.ref hp.length) :: _ = _
      rw [a_top hlen, A.1]
    rw [e9] at h1
    exact h1
  · refine ⟨_, hC, ?_⟩
    show t_OB H.size _ N _ H1 (vp_V (fs.map (a_v g)))
    rw [hav g]
    exact (u_born ty hts hw hKn hkC e1 hty).to hfs
theorem l_after {p : Program} {l : Launch} {e : Env} {R : Room} {s : State} {m : MethodId} {args : Array Value} {below : List Frame} {meth : Method} {c : Code} {g : GG} {Q : State → Prop} {H : Heap} {locs : List Loc} {ls : Array Slot} {mc' ms' : Nat} {st0 rest : List Value} {post' : Post} {a : Array Value}
    (XS : LX g s xs SL) (F : a_F g M d mc ms p R s m args meth c) (E : a_E p l e R s m args below meth c g M mc ms Q post) (A : a_H g s H locs hp) (L : a_L g M.2.2.1 ls lv)
    (hr : va_Run p l e R s m args below meth c H locs k n mc' ms' (F0 m pc ls st0) (rest.map (a_v g)) (a_Q g post' a) (fun q => g_b g ≤ q))
    (h : ∀ (r : Option Value) (hp' : AH), post' r hp' → LW xs SL M d mc ms (k + mc') (n + ms') (pc + 3) lv (r.toList ++ rest) hp' post) : W p l e R s m args below meth c H locs k n Q (F0 m pc ls st0) := by
  intro T hT X
  obtain ⟨v, s0, t, T', L', h0, X', hL, e1, e2, ⟨r, hp', hv, hp1, A'⟩, stt⟩ := hr T hT X
  have hv' : v = r.map (a_v g) := by cases hv; rfl
  subst hv'
  obtain ⟨A1, A2, A3, A4, A5, -⟩ := A'
  have A9 : a_H g s T'.heap (locs ++ L') hp' := by
    refine ⟨by rw [e1]; exact A1, A2, by rw [e1]; exact A3, Nat.le_trans A.2.2.2.1 (by rw [e1, ← h0]; exact A4), fun q hq => ?_, fun x hx => ?_⟩
    · rw [e1, A5 q hq, h0]
      exact A.2.2.2.2.1 q hq
    · rcases List.mem_append.mp hx with h2 | h2
      · exact A.2.2.2.2.2 x h2
      · exact hL x h2
  obtain ⟨t2, a1, b1⟩ := h r hp' hp1 p l e R s m args below meth c g Q T'.heap (locs ++ L') ls XS F E A9 L T' rfl X'
  refine ⟨t2, stt t2 ?_, b1⟩
  have es : (r.map (a_v g)).toList ++ rest.map (a_v g) = (r.toList ++ rest).map (a_v g) := by cases r <;> simp
  show Steps p.tables e below (T'.setTop (F0 m (pc + 3) ls ((r.map (a_v g)).toList ++ rest.map (a_v g)))) t2
  rw [es]
  exact a1
theorem L_callV {M' : MD} {idx np d' mc' ms' b ci : Nat} {as rest st fs : List Value} {post' : Post} (cb : a_cv M.1.cls idx M' np) (hs : AS M' d' mc' ms' (.ref b :: as) hp post') (hd : decode M.2.1 pc = .ok (.invokevirtual idx, 3)) (hnp : as.length = np) (hst : st = as.reverse ++ .ref b :: rest) (hb : hp[b]? = some (.inr (.inl (ci, fs)))) (hci : (vwCl[ci]?).map (fun q => q.1) = some M'.1.cls) (hrest : (rest.map fun v => v.category).sum ≤ 8) (hdd : d' + 1 ≤ d) (hk : k + mc' ≤ mc) (hm : n + ms' ≤ ms)
    (h : ∀ (r : Option Value) (hp' : AH), post' r hp' → LW xs SL M d mc ms (k + mc') (n + ms') (pc + 3) lv (r.toList ++ rest) hp' post) : LW xs SL M d mc ms k n pc lv st hp post := by
  intro p l e R s m args below meth c g Q H locs ls XS F E A L
  obtain ⟨⟨hl, hini, hcode, hy, hml⟩, hins, hsel⟩ := cb
  have hts := F.2.2.2.2.1
  obtain ⟨-, -, hmaxL, hown, -, hT, hfr, hlo, hcl, hsl, -⟩ := id F
  have hR : (a_rm d' mc' ms').frames + 1 ≤ R.frames ∧ 8 + (M'.2.2.1 + 11) + (a_rm d' mc' ms').locals ≤ R.locals := by
    rw [hfr, hlo]
    exact ⟨hdd, by show 8 + (M'.2.2.1 + 11) + 37 * d' ≤ 37 * d; omega⟩
  have hstk : st.map (a_v g) = (as.map (a_v g)).reverse ++ .ref (a_ad g b) :: rest.map (a_v g) := by rw [hst, List.map_append, List.map_reverse]; rfl
  obtain ⟨q, hq, hqc⟩ : ∃ q : vw_C, vwCl[ci]? = some q ∧ q.1 = M'.1.cls := by
    cases hz : vwCl[ci]? with
    | none => rw [hz] at hci; cases hci
    | some q => rw [hz] at hci; exact ⟨q, rfl, Option.some.inj hci⟩
  have hrecv := va_recv hT.1 (A.at hb) hq (q0 := 0) rfl
  rw [hqc] at hrecv
  refine l_after (rest := rest) (post' := post') (a := (Value.ref (a_ad g b) :: as.map (a_v g)).toArray) XS F E A L ?_ h
  have hroom : 2 * (F0 m pc ls (st.map (a_v g))).monitorRoom + ((rest.map (a_v g)).map fun v => v.category).sum ≤ 8 := lv_room (by rw [a_sum]; exact hrest)
  rcases hl with hl | ⟨host, hl⟩
  · exact va_runV (Ts := gw) (own := M.1.cls) (n := np) (C := M'.1.cls) ⟨F.1, F.2.1, hmaxL, hown, hts⟩ (hs l g) ⟨callB_of np hts (a_good hcode) rfl rfl rfl (hts _ hini) (hts _ hl) hy hR, hts _ hins, hts _ hsel⟩ ⟨a_P.blind, hrecv, a_P.of (as := .ref b :: as) hT A⟩ rfl (by rw [List.length_map]; exact hnp) L.1 hstk hroom hd (by rw [hcl, hsl]; exact ⟨hk, hm⟩)
  · exact va_runVN (Ts := gw) (own := M.1.cls) (host := host) (n := np) (C := M'.1.cls) ⟨F.1, F.2.1, hmaxL, hown, hts⟩ (hs l g) ⟨va_cnB np hts (a_good hcode) rfl rfl rfl (hT.2.1 _ hl) (hts _ hini) hy hR, hts _ hins, hts _ hsel⟩ ⟨a_P.blind, hrecv, a_P.of (as := .ref b :: as) hT A⟩ rfl (by rw [List.length_map]; exact hnp) L.1 hstk hroom hd (by rw [hcl, hsl]; exact ⟨hk, hm⟩)
theorem L_callI {M' : MD} {idx np d' mc' ms' b : Nat} {as rest st : List Value} {post' : Post} (cb : a_ci M.1.cls idx M' np) (hs : AS M' d' mc' ms' (.ref b :: as) hp post') (hd : decode M.2.1 pc = .ok (.invokespecial idx, 3)) (hnp : as.length = np) (hst : st = as.reverse ++ .ref b :: rest) (hrest : (rest.map fun v => v.category).sum ≤ 8) (hdd : d' + 1 ≤ d) (hk : k + mc' ≤ mc) (hm : n + ms' ≤ ms)
    (h : ∀ (r : Option Value) (hp' : AH), post' r hp' → LW xs SL M d mc ms (k + mc') (n + ms') (pc + 3) lv (r.toList ++ rest) hp' post) : LW xs SL M d mc ms k n pc lv st hp post := by
  intro p l e R s m args below meth c g Q H locs ls XS F E A L
  obtain ⟨⟨hl, hini, hcode, hy, hml⟩, hins, hnm, hret⟩ := cb
  obtain ⟨y, bytes, maxL, ret⟩ := M'
  dsimp only at hl hini hcode hy hml hins hnm hret hs
  subst hret
  have hts := F.2.2.2.2.1
  obtain ⟨-, -, hmaxL, hown, -, hT, hfr, hlo, hcl, hsl, -⟩ := id F
  have hR : (a_rm d' mc' ms').frames + 1 ≤ R.frames ∧ 8 + (maxL + 11) + (a_rm d' mc' ms').locals ≤ R.locals := by
    rw [hfr, hlo]
    exact ⟨hdd, by show 8 + (maxL + 11) + 37 * d' ≤ 37 * d; omega⟩
  have hstk : st.map (a_v g) = (as.map (a_v g)).reverse ++ .ref (a_ad g b) :: rest.map (a_v g) := by rw [hst, List.map_append, List.map_reverse]; rfl
  refine l_after (rest := rest) (post' := post') (a := (Value.ref (a_ad g b) :: as.map (a_v g)).toArray) XS F E A L ?_ h
  have hroom : 2 * (F0 m pc ls (st.map (a_v g))).monitorRoom + ((rest.map (a_v g)).map fun v => v.category).sum ≤ 8 := lv_room (by rw [a_sum]; exact hrest)
  rcases hl with hl | ⟨host, hl⟩
  · exact va_runI (Ts := gw) (own := M.1.cls) (n := np) ⟨F.1, F.2.1, hmaxL, hown, hts⟩ (hs l g) ⟨callB_of np hts (a_good hcode) rfl rfl rfl (hts _ hini) (hts _ hl) hy hR, hnm, hts _ hins⟩ ⟨a_P.blind, a_P.of (as := .ref b :: as) hT A⟩ rfl (by rw [List.length_map]; exact hnp) L.1 hstk hroom hd (by rw [hcl, hsl]; exact ⟨hk, hm⟩)
  · exact va_runIN (Ts := gw) (own := M.1.cls) (host := host) (n := np) ⟨F.1, F.2.1, hmaxL, hown, hts⟩ (hs l g) ⟨va_cnB np hts (a_good hcode) rfl rfl rfl (hT.2.1 _ hl) (hts _ hini) hy hR, hnm, hts _ hins⟩ ⟨a_P.blind, a_P.of (as := .ref b :: as) hT A⟩ rfl (by rw [List.length_map]; exact hnp) L.1 hstk hroom hd (by rw [hcl, hsl]; exact ⟨hk, hm⟩)
theorem L_scr {i : Nat} {x : Int32} (hd : decode M.2.1 pc = .ok (.iaload, 1)) (hx : x = nI i) (hi : i < SL) (hS : SL < 2 ^ 31) (h : LW xs SL M d mc ms k n (pc + 1) lv (.int (xs i) :: st) hp post) : LW xs SL M d mc ms k n pc lv (.int x :: .ref 1004 :: st) hp post := by
  intro p l e R s m args below meth c g Q H locs ls XS F E A L
  subst hx
  have e1 : (Value.int (nI i) :: Value.ref 1004 :: st).map (a_v g) = .int (nI i) :: .ref (g_s g 4) :: st.map (a_v g) := by
    show Value.int (nI i) :: Value.ref (a_ad g (1000 + 4)) :: _ = _
    rw [a_ad_st]
  rw [e1]
  refine va_sld F.1 F.2.1 XS.1 (Nat.lt_of_lt_of_le XS.2.1 XS.2.2) (Nat.not_le.mpr XS.2.1) A.S (vp_in_nI hi hS) hd ?_
  rw [nI_clamp (by omega)]
  exact h p l e R s m args below meth c g Q H locs ls XS F E A L
theorem L_slen {v : Int32} (hd : decode M.2.1 pc = .ok (.arraylength, 1)) (hv : nI SL = v) (h : LW xs SL M d mc ms k n (pc + 1) lv (.int v :: st) hp post) : LW xs SL M d mc ms k n pc lv (.ref 1004 :: st) hp post := by
  intro p l e R s m args below meth c g Q H locs ls XS F E A L
  have e1 : (Value.ref 1004 :: st).map (a_v g) = .ref (g_s g 4) :: st.map (a_v g) := by
    show Value.ref (a_ad g (1000 + 4)) :: _ = _
    rw [a_ad_st]
  rw [e1]
  subst hv
  exact va_slen F.1 F.2.1 XS.1 (Nat.lt_of_lt_of_le XS.2.1 XS.2.2) (Nat.not_le.mpr XS.2.1) A.S hd (h p l e R s m args below meth c g Q H locs ls XS F E A L)
end LAWR
abbrev mL (nm : String) : MD := (⟨RL, nm, "([I)Z"⟩, cL_law, 4, some .boolean)
def pL : Post := fun r _ => r = some (.int 1)

set_option maxHeartbeats 4000000 in
set_option maxRecDepth 100000 in
theorem law_loop {xs : Nat → Int32} {SL : Nat} (nm : String) (hSL : SL ≤ 3072) (m : Nat) : ∀ (i k0 n0 Bd : Nat) (c : XV) (n : MN) (p : Nat → Nat) (al : Int32) (s : MS) (r : MR) (w : MW) (k : MK) (a : MA) (pl : MP) (fr : Nat → Nat) (t : MT) (rest : AH) (_ : INV Bd c n p al s r w k fr t rest) (_ : SL ≤ i + 6 * m) (_ : i ≤ 4000) (_ : k0 + 6 * m ≤ 600000) (_ : n0 + 100 * m ≤ 7302250) (_ : Bd + 1000000 * m + 1000000 < 2 ^ 30), LW xs SL (mL nm) 10 600000 7302250 k0 n0 18 [some (.ref 1004), some (.ref 0), some (.ref 25), some (.int (nI i))] [] (MX c n p al s r w k a pl fr t rest) pL := by
  induction m with
  | zero =>
    intro i k0 n0 Bd c n p al s r w k a pl fr t rest I hi hi4 hk hn hB
    have hlt : nI SL - 6 < nI i := by
      by_cases h6 : 6 ≤ SL
      · rw [show nI SL - 6 = nI (SL - 6) from pk_sub h6]
        exact nI_lt (by omega) (by omega)
      · have h7 : nI SL - nI 6 < 0 := pk_sneg (by decide) (by omega)
        exact fa_trans h7 (nI_pos' (by omega))
    refine L_iload3 (pc := 18) dL_law_18 ?_
    refine L_aload0 (pc := 19) dL_law_19 ?_
    refine L_slen (pc := 20) dL_law_20 rfl ?_
    refine L_bipush (pc := 21) (v := 6) dL_law_21 (by decide) ?_
    refine L_isub (pc := 23) dL_law_23 ?_
    refine L_icmp_gt (pc := 24) (tgt := 775) dL_law_24 (by decide) (fun _ => ?_) (fun c9 => absurd hlt c9)
    refine L_iconst (pc := 775) (v := 1) dL_law_775 (by decide) ?_
    exact L_iret (pc := 776) dL_law_776 rfl rfl (by omega) (by omega) rfl
  | succ m ih =>
    intro i k0 n0 Bd c n p al s r w k a pl fr t rest I hi hi4 hk hn hB
    by_cases hin : i + 6 ≤ SL
    · have hnlt : ¬ nI SL - 6 < nI i := by
        rw [show nI SL - 6 = nI (SL - 6) from pk_sub (b := 6) (by omega)]
        exact nI_nlt (by omega) (by omega)
      refine L_iload3 (pc := 18) dL_law_18 ?_
      refine L_aload0 (pc := 19) dL_law_19 ?_
      refine L_slen (pc := 20) dL_law_20 rfl ?_
      refine L_bipush (pc := 21) (v := 6) dL_law_21 (by decide) ?_
      refine L_isub (pc := 23) dL_law_23 ?_
      refine L_icmp_gt (pc := 24) (tgt := 775) dL_law_24 (by decide) (fun c9 => absurd c9 hnlt) (fun _ => ?_)
      refine L_aload0 (pc := 27) dL_law_27 ?_
      refine L_iload3 (pc := 28) dL_law_28 ?_
      refine L_scr (pc := 29) (i := i) dL_law_29 rfl (by omega) (by omega) ?_
      refine L_bipush (pc := 30) (v := 31) dL_law_30 (by decide) ?_
      refine L_iand (pc := 32) dL_law_32 ?_
      generalize hv0 : xs i &&& 31 = x0
      rcases sw_in x0 0 22 (by decide) with hsw | ⟨j, hj1, hj2, hsw⟩
      · refine L_tsOut (pc := 33) (tgt := 769) dL_law_33 hsw (by decide) ?_
        refine L_iinc3 (pc := 769) dL_law_769 (Nat.le_of_ble_eq_true rfl) (nI_add i 6) ?_
        refine L_goto (pc := 772) (tgt := 18) dL_law_772 (by decide) ?_
        exact ih (i + 6) k0 n0 Bd c n p al s r w k a pl fr t rest I (by omega) (by omega) (by omega) (by omega) (by omega)
      · rcases (show j = 0 ∨ j = 1 ∨ j = 2 ∨ j = 3 ∨ j = 4 ∨ j = 5 ∨ j = 6 ∨ j = 7 ∨ j = 8 ∨ j = 9 ∨ j = 10 ∨ j = 11 ∨ j = 12 ∨ j = 13 ∨ j = 14 ∨ j = 15 ∨ j = 16 ∨ j = 17 ∨ j = 18 ∨ j = 19 ∨ j = 20 ∨ j = 21 ∨ j = 22 by omega) with rfl | rfl | rfl | rfl | rfl | rfl | rfl | rfl | rfl | rfl | rfl | rfl | rfl | rfl | rfl | rfl | rfl | rfl | rfl | rfl | rfl | rfl | rfl
        · have e9 : x0 = 0 := hsw
          subst e9
          refine L_tsIn (pc := 33) (tgt := 140) dL_law_33 (by decide) (by decide) rfl (by decide) ?_
          obtain ⟨d6, d7, mc, ms, v, c2, rest2, q6, q7, qc, qs, h6, h7⟩ := st_knot (a := a) (pl := pl) I (xs (i + 1))
          refine L_aload1 (pc := 140) dL_law_140 ?_
          refine L_aload0 (pc := 141) dL_law_141 ?_
          refine L_iload3 (pc := 142) dL_law_142 ?_
          refine L_iconst (pc := 143) (v := 1) dL_law_143 (by decide) ?_
          refine L_iadd (pc := 144) dL_law_144 ?_
          refine L_scr (pc := 145) (i := i + 1) dL_law_145 (nI_add i 1) (by omega) (by omega) ?_
          refine L_callV (pc := 146) cvL_13 h6 dL_law_146 rfl rfl rfl rfl (Nat.le_of_ble_eq_true rfl) (by omega) (by omega) (by omega) (fun r9 h9 hq9 => ?_)
          obtain ⟨rfl, rfl⟩ := hq9
          refine L_aload2 (pc := 149) dL_law_149 ?_
          refine L_aload0 (pc := 150) dL_law_150 ?_
          refine L_iload3 (pc := 151) dL_law_151 ?_
          refine L_iconst (pc := 152) (v := 1) dL_law_152 (by decide) ?_
          refine L_iadd (pc := 153) dL_law_153 ?_
          refine L_scr (pc := 154) (i := i + 1) dL_law_154 (nI_add i 1) (by omega) (by omega) ?_
          refine L_callV (pc := 155) cvL_17 h7 dL_law_155 rfl rfl rfl rfl (Nat.le_of_ble_eq_true rfl) (by omega) (by omega) (by omega) (fun r9 h9 hq9 => ?_)
          obtain ⟨rfl, n2, p2, al2, s2, r2, w2, k2, a2, pl2, fr2, t2, J, rfl⟩ := hq9
          refine L_icmp_eq (pc := 158) (tgt := 769) dL_law_158 (by decide) (fun _ => ?_) (fun c9 => absurd rfl c9)
          refine L_iinc3 (pc := 769) dL_law_769 (Nat.le_of_ble_eq_true rfl) (nI_add i 6) ?_
          refine L_goto (pc := 772) (tgt := 18) dL_law_772 (by decide) ?_
          exact ih (i + 6) (k0 + mc + 0) (n0 + ms + 0) (Bd + 1000000) c2 n2 p2 al2 s2 r2 w2 k2 a2 pl2 fr2 t2 rest2 J (by omega) (by omega) (by omega) (by omega) (by omega)
        · have e9 : x0 = 1 := hsw
          subst e9
          refine L_tsIn (pc := 33) (tgt := 163) dL_law_33 (by decide) (by decide) rfl (by decide) ?_
          obtain ⟨d6, d7, mc, ms, v, c2, rest2, q6, q7, qc, qs, h6, h7⟩ := st_street (a := a) (pl := pl) I (xs (i + 1)) (xs (i + 2)) (xs (i + 3)) (xs (i + 4)) (xs (i + 5))
          refine L_aload1 (pc := 163) dL_law_163 ?_
          refine L_aload0 (pc := 164) dL_law_164 ?_
          refine L_iload3 (pc := 165) dL_law_165 ?_
          refine L_iconst (pc := 166) (v := 1) dL_law_166 (by decide) ?_
          refine L_iadd (pc := 167) dL_law_167 ?_
          refine L_scr (pc := 168) (i := i + 1) dL_law_168 (nI_add i 1) (by omega) (by omega) ?_
          refine L_aload0 (pc := 169) dL_law_169 ?_
          refine L_iload3 (pc := 170) dL_law_170 ?_
          refine L_iconst (pc := 171) (v := 2) dL_law_171 (by decide) ?_
          refine L_iadd (pc := 172) dL_law_172 ?_
          refine L_scr (pc := 173) (i := i + 2) dL_law_173 (nI_add i 2) (by omega) (by omega) ?_
          refine L_aload0 (pc := 174) dL_law_174 ?_
          refine L_iload3 (pc := 175) dL_law_175 ?_
          refine L_iconst (pc := 176) (v := 3) dL_law_176 (by decide) ?_
          refine L_iadd (pc := 177) dL_law_177 ?_
          refine L_scr (pc := 178) (i := i + 3) dL_law_178 (nI_add i 3) (by omega) (by omega) ?_
          refine L_aload0 (pc := 179) dL_law_179 ?_
          refine L_iload3 (pc := 180) dL_law_180 ?_
          refine L_iconst (pc := 181) (v := 4) dL_law_181 (by decide) ?_
          refine L_iadd (pc := 182) dL_law_182 ?_
          refine L_scr (pc := 183) (i := i + 4) dL_law_183 (nI_add i 4) (by omega) (by omega) ?_
          refine L_aload0 (pc := 184) dL_law_184 ?_
          refine L_iload3 (pc := 185) dL_law_185 ?_
          refine L_iconst (pc := 186) (v := 5) dL_law_186 (by decide) ?_
          refine L_iadd (pc := 187) dL_law_187 ?_
          refine L_scr (pc := 188) (i := i + 5) dL_law_188 (nI_add i 5) (by omega) (by omega) ?_
          refine L_callV (pc := 189) cvL_18 h6 dL_law_189 rfl rfl rfl rfl (Nat.le_of_ble_eq_true rfl) (by omega) (by omega) (by omega) (fun r9 h9 hq9 => ?_)
          obtain ⟨rfl, rfl⟩ := hq9
          refine L_aload2 (pc := 192) dL_law_192 ?_
          refine L_aload0 (pc := 193) dL_law_193 ?_
          refine L_iload3 (pc := 194) dL_law_194 ?_
          refine L_iconst (pc := 195) (v := 1) dL_law_195 (by decide) ?_
          refine L_iadd (pc := 196) dL_law_196 ?_
          refine L_scr (pc := 197) (i := i + 1) dL_law_197 (nI_add i 1) (by omega) (by omega) ?_
          refine L_aload0 (pc := 198) dL_law_198 ?_
          refine L_iload3 (pc := 199) dL_law_199 ?_
          refine L_iconst (pc := 200) (v := 2) dL_law_200 (by decide) ?_
          refine L_iadd (pc := 201) dL_law_201 ?_
          refine L_scr (pc := 202) (i := i + 2) dL_law_202 (nI_add i 2) (by omega) (by omega) ?_
          refine L_aload0 (pc := 203) dL_law_203 ?_
          refine L_iload3 (pc := 204) dL_law_204 ?_
          refine L_iconst (pc := 205) (v := 3) dL_law_205 (by decide) ?_
          refine L_iadd (pc := 206) dL_law_206 ?_
          refine L_scr (pc := 207) (i := i + 3) dL_law_207 (nI_add i 3) (by omega) (by omega) ?_
          refine L_aload0 (pc := 208) dL_law_208 ?_
          refine L_iload3 (pc := 209) dL_law_209 ?_
          refine L_iconst (pc := 210) (v := 4) dL_law_210 (by decide) ?_
          refine L_iadd (pc := 211) dL_law_211 ?_
          refine L_scr (pc := 212) (i := i + 4) dL_law_212 (nI_add i 4) (by omega) (by omega) ?_
          refine L_aload0 (pc := 213) dL_law_213 ?_
          refine L_iload3 (pc := 214) dL_law_214 ?_
          refine L_iconst (pc := 215) (v := 5) dL_law_215 (by decide) ?_
          refine L_iadd (pc := 216) dL_law_216 ?_
          refine L_scr (pc := 217) (i := i + 5) dL_law_217 (nI_add i 5) (by omega) (by omega) ?_
          refine L_callV (pc := 218) cvL_22 h7 dL_law_218 rfl rfl rfl rfl (Nat.le_of_ble_eq_true rfl) (by omega) (by omega) (by omega) (fun r9 h9 hq9 => ?_)
          obtain ⟨rfl, n2, p2, al2, s2, r2, w2, k2, a2, pl2, fr2, t2, J, rfl⟩ := hq9
          refine L_icmp_eq (pc := 221) (tgt := 769) dL_law_221 (by decide) (fun _ => ?_) (fun c9 => absurd rfl c9)
          refine L_iinc3 (pc := 769) dL_law_769 (Nat.le_of_ble_eq_true rfl) (nI_add i 6) ?_
          refine L_goto (pc := 772) (tgt := 18) dL_law_772 (by decide) ?_
          exact ih (i + 6) (k0 + mc + 0) (n0 + ms + 0) (Bd + 1000000) c2 n2 p2 al2 s2 r2 w2 k2 a2 pl2 fr2 t2 rest2 J (by omega) (by omega) (by omega) (by omega) (by omega)
        · have e9 : x0 = 2 := hsw
          subst e9
          refine L_tsIn (pc := 33) (tgt := 226) dL_law_33 (by decide) (by decide) rfl (by decide) ?_
          obtain ⟨d6, d7, mc, ms, v, c2, rest2, q6, q7, qc, qs, h6, h7⟩ := st_close (a := a) (pl := pl) I (xs (i + 1)) (xs (i + 2))
          refine L_aload1 (pc := 226) dL_law_226 ?_
          refine L_aload0 (pc := 227) dL_law_227 ?_
          refine L_iload3 (pc := 228) dL_law_228 ?_
          refine L_iconst (pc := 229) (v := 1) dL_law_229 (by decide) ?_
          refine L_iadd (pc := 230) dL_law_230 ?_
          refine L_scr (pc := 231) (i := i + 1) dL_law_231 (nI_add i 1) (by omega) (by omega) ?_
          refine L_aload0 (pc := 232) dL_law_232 ?_
          refine L_iload3 (pc := 233) dL_law_233 ?_
          refine L_iconst (pc := 234) (v := 2) dL_law_234 (by decide) ?_
          refine L_iadd (pc := 235) dL_law_235 ?_
          refine L_scr (pc := 236) (i := i + 2) dL_law_236 (nI_add i 2) (by omega) (by omega) ?_
          refine L_callV (pc := 237) cvL_23 h6 dL_law_237 rfl rfl rfl rfl (Nat.le_of_ble_eq_true rfl) (by omega) (by omega) (by omega) (fun r9 h9 hq9 => ?_)
          obtain ⟨rfl, rfl⟩ := hq9
          refine L_aload2 (pc := 240) dL_law_240 ?_
          refine L_aload0 (pc := 241) dL_law_241 ?_
          refine L_iload3 (pc := 242) dL_law_242 ?_
          refine L_iconst (pc := 243) (v := 1) dL_law_243 (by decide) ?_
          refine L_iadd (pc := 244) dL_law_244 ?_
          refine L_scr (pc := 245) (i := i + 1) dL_law_245 (nI_add i 1) (by omega) (by omega) ?_
          refine L_aload0 (pc := 246) dL_law_246 ?_
          refine L_iload3 (pc := 247) dL_law_247 ?_
          refine L_iconst (pc := 248) (v := 2) dL_law_248 (by decide) ?_
          refine L_iadd (pc := 249) dL_law_249 ?_
          refine L_scr (pc := 250) (i := i + 2) dL_law_250 (nI_add i 2) (by omega) (by omega) ?_
          refine L_callV (pc := 251) cvL_27 h7 dL_law_251 rfl rfl rfl rfl (Nat.le_of_ble_eq_true rfl) (by omega) (by omega) (by omega) (fun r9 h9 hq9 => ?_)
          obtain ⟨rfl, n2, p2, al2, s2, r2, w2, k2, a2, pl2, fr2, t2, J, rfl⟩ := hq9
          refine L_icmp_eq (pc := 254) (tgt := 769) dL_law_254 (by decide) (fun _ => ?_) (fun c9 => absurd rfl c9)
          refine L_iinc3 (pc := 769) dL_law_769 (Nat.le_of_ble_eq_true rfl) (nI_add i 6) ?_
          refine L_goto (pc := 772) (tgt := 18) dL_law_772 (by decide) ?_
          exact ih (i + 6) (k0 + mc + 0) (n0 + ms + 0) (Bd + 1000000) c2 n2 p2 al2 s2 r2 w2 k2 a2 pl2 fr2 t2 rest2 J (by omega) (by omega) (by omega) (by omega) (by omega)
        · have e9 : x0 = 3 := hsw
          subst e9
          refine L_tsIn (pc := 33) (tgt := 259) dL_law_33 (by decide) (by decide) rfl (by decide) ?_
          obtain ⟨d6, d7, mc, ms, v, c2, rest2, q6, q7, qc, qs, h6, h7⟩ := st_sight (a := a) (pl := pl) I (xs (i + 1)) (xs (i + 2))
          refine L_aload1 (pc := 259) dL_law_259 ?_
          refine L_aload0 (pc := 260) dL_law_260 ?_
          refine L_iload3 (pc := 261) dL_law_261 ?_
          refine L_iconst (pc := 262) (v := 1) dL_law_262 (by decide) ?_
          refine L_iadd (pc := 263) dL_law_263 ?_
          refine L_scr (pc := 264) (i := i + 1) dL_law_264 (nI_add i 1) (by omega) (by omega) ?_
          refine L_aload0 (pc := 265) dL_law_265 ?_
          refine L_iload3 (pc := 266) dL_law_266 ?_
          refine L_iconst (pc := 267) (v := 2) dL_law_267 (by decide) ?_
          refine L_iadd (pc := 268) dL_law_268 ?_
          refine L_scr (pc := 269) (i := i + 2) dL_law_269 (nI_add i 2) (by omega) (by omega) ?_
          refine L_callV (pc := 270) cvL_28 h6 dL_law_270 rfl rfl rfl rfl (Nat.le_of_ble_eq_true rfl) (by omega) (by omega) (by omega) (fun r9 h9 hq9 => ?_)
          obtain ⟨rfl, rfl⟩ := hq9
          refine L_aload2 (pc := 273) dL_law_273 ?_
          refine L_aload0 (pc := 274) dL_law_274 ?_
          refine L_iload3 (pc := 275) dL_law_275 ?_
          refine L_iconst (pc := 276) (v := 1) dL_law_276 (by decide) ?_
          refine L_iadd (pc := 277) dL_law_277 ?_
          refine L_scr (pc := 278) (i := i + 1) dL_law_278 (nI_add i 1) (by omega) (by omega) ?_
          refine L_aload0 (pc := 279) dL_law_279 ?_
          refine L_iload3 (pc := 280) dL_law_280 ?_
          refine L_iconst (pc := 281) (v := 2) dL_law_281 (by decide) ?_
          refine L_iadd (pc := 282) dL_law_282 ?_
          refine L_scr (pc := 283) (i := i + 2) dL_law_283 (nI_add i 2) (by omega) (by omega) ?_
          refine L_callV (pc := 284) cvL_31 h7 dL_law_284 rfl rfl rfl rfl (Nat.le_of_ble_eq_true rfl) (by omega) (by omega) (by omega) (fun r9 h9 hq9 => ?_)
          obtain ⟨rfl, n2, p2, al2, s2, r2, w2, k2, a2, pl2, fr2, t2, J, rfl⟩ := hq9
          refine L_icmp_eq (pc := 287) (tgt := 769) dL_law_287 (by decide) (fun _ => ?_) (fun c9 => absurd rfl c9)
          refine L_iinc3 (pc := 769) dL_law_769 (Nat.le_of_ble_eq_true rfl) (nI_add i 6) ?_
          refine L_goto (pc := 772) (tgt := 18) dL_law_772 (by decide) ?_
          exact ih (i + 6) (k0 + mc + 0) (n0 + ms + 0) (Bd + 1000000) c2 n2 p2 al2 s2 r2 w2 k2 a2 pl2 fr2 t2 rest2 J (by omega) (by omega) (by omega) (by omega) (by omega)
        · have e9 : x0 = 4 := hsw
          subst e9
          refine L_tsIn (pc := 33) (tgt := 292) dL_law_33 (by decide) (by decide) rfl (by decide) ?_
          obtain ⟨d6, d7, mc, ms, v, c2, rest2, q6, q7, qc, qs, h6, h7⟩ := st_look (a := a) (pl := pl) I (xs (i + 1)) (xs (i + 2)) (xs (i + 3))
          refine L_aload1 (pc := 292) dL_law_292 ?_
          refine L_aload0 (pc := 293) dL_law_293 ?_
          refine L_iload3 (pc := 294) dL_law_294 ?_
          refine L_iconst (pc := 295) (v := 1) dL_law_295 (by decide) ?_
          refine L_iadd (pc := 296) dL_law_296 ?_
          refine L_scr (pc := 297) (i := i + 1) dL_law_297 (nI_add i 1) (by omega) (by omega) ?_
          refine L_aload0 (pc := 298) dL_law_298 ?_
          refine L_iload3 (pc := 299) dL_law_299 ?_
          refine L_iconst (pc := 300) (v := 2) dL_law_300 (by decide) ?_
          refine L_iadd (pc := 301) dL_law_301 ?_
          refine L_scr (pc := 302) (i := i + 2) dL_law_302 (nI_add i 2) (by omega) (by omega) ?_
          refine L_aload0 (pc := 303) dL_law_303 ?_
          refine L_iload3 (pc := 304) dL_law_304 ?_
          refine L_iconst (pc := 305) (v := 3) dL_law_305 (by decide) ?_
          refine L_iadd (pc := 306) dL_law_306 ?_
          refine L_scr (pc := 307) (i := i + 3) dL_law_307 (nI_add i 3) (by omega) (by omega) ?_
          refine L_callV (pc := 308) cvL_32 h6 dL_law_308 rfl rfl rfl rfl (Nat.le_of_ble_eq_true rfl) (by omega) (by omega) (by omega) (fun r9 h9 hq9 => ?_)
          obtain ⟨rfl, rfl⟩ := hq9
          refine L_aload2 (pc := 311) dL_law_311 ?_
          refine L_aload0 (pc := 312) dL_law_312 ?_
          refine L_iload3 (pc := 313) dL_law_313 ?_
          refine L_iconst (pc := 314) (v := 1) dL_law_314 (by decide) ?_
          refine L_iadd (pc := 315) dL_law_315 ?_
          refine L_scr (pc := 316) (i := i + 1) dL_law_316 (nI_add i 1) (by omega) (by omega) ?_
          refine L_aload0 (pc := 317) dL_law_317 ?_
          refine L_iload3 (pc := 318) dL_law_318 ?_
          refine L_iconst (pc := 319) (v := 2) dL_law_319 (by decide) ?_
          refine L_iadd (pc := 320) dL_law_320 ?_
          refine L_scr (pc := 321) (i := i + 2) dL_law_321 (nI_add i 2) (by omega) (by omega) ?_
          refine L_aload0 (pc := 322) dL_law_322 ?_
          refine L_iload3 (pc := 323) dL_law_323 ?_
          refine L_iconst (pc := 324) (v := 3) dL_law_324 (by decide) ?_
          refine L_iadd (pc := 325) dL_law_325 ?_
          refine L_scr (pc := 326) (i := i + 3) dL_law_326 (nI_add i 3) (by omega) (by omega) ?_
          refine L_callV (pc := 327) cvL_36 h7 dL_law_327 rfl rfl rfl rfl (Nat.le_of_ble_eq_true rfl) (by omega) (by omega) (by omega) (fun r9 h9 hq9 => ?_)
          obtain ⟨rfl, n2, p2, al2, s2, r2, w2, k2, a2, pl2, fr2, t2, J, rfl⟩ := hq9
          refine L_icmp_eq (pc := 330) (tgt := 769) dL_law_330 (by decide) (fun _ => ?_) (fun c9 => absurd rfl c9)
          refine L_iinc3 (pc := 769) dL_law_769 (Nat.le_of_ble_eq_true rfl) (nI_add i 6) ?_
          refine L_goto (pc := 772) (tgt := 18) dL_law_772 (by decide) ?_
          exact ih (i + 6) (k0 + mc + 0) (n0 + ms + 0) (Bd + 1000000) c2 n2 p2 al2 s2 r2 w2 k2 a2 pl2 fr2 t2 rest2 J (by omega) (by omega) (by omega) (by omega) (by omega)
        · have e9 : x0 = 5 := hsw
          subst e9
          refine L_tsIn (pc := 33) (tgt := 335) dL_law_33 (by decide) (by decide) rfl (by decide) ?_
          obtain ⟨d6, d7, mc, ms, v, c2, rest2, q6, q7, qc, qs, h6, h7⟩ := st_price (a := a) (pl := pl) I (xs (i + 1)) (xs (i + 2))
          refine L_aload1 (pc := 335) dL_law_335 ?_
          refine L_aload0 (pc := 336) dL_law_336 ?_
          refine L_iload3 (pc := 337) dL_law_337 ?_
          refine L_iconst (pc := 338) (v := 1) dL_law_338 (by decide) ?_
          refine L_iadd (pc := 339) dL_law_339 ?_
          refine L_scr (pc := 340) (i := i + 1) dL_law_340 (nI_add i 1) (by omega) (by omega) ?_
          refine L_aload0 (pc := 341) dL_law_341 ?_
          refine L_iload3 (pc := 342) dL_law_342 ?_
          refine L_iconst (pc := 343) (v := 2) dL_law_343 (by decide) ?_
          refine L_iadd (pc := 344) dL_law_344 ?_
          refine L_scr (pc := 345) (i := i + 2) dL_law_345 (nI_add i 2) (by omega) (by omega) ?_
          refine L_callV (pc := 346) cvL_37 h6 dL_law_346 rfl rfl rfl rfl (Nat.le_of_ble_eq_true rfl) (by omega) (by omega) (by omega) (fun r9 h9 hq9 => ?_)
          obtain ⟨rfl, rfl⟩ := hq9
          refine L_aload2 (pc := 349) dL_law_349 ?_
          refine L_aload0 (pc := 350) dL_law_350 ?_
          refine L_iload3 (pc := 351) dL_law_351 ?_
          refine L_iconst (pc := 352) (v := 1) dL_law_352 (by decide) ?_
          refine L_iadd (pc := 353) dL_law_353 ?_
          refine L_scr (pc := 354) (i := i + 1) dL_law_354 (nI_add i 1) (by omega) (by omega) ?_
          refine L_aload0 (pc := 355) dL_law_355 ?_
          refine L_iload3 (pc := 356) dL_law_356 ?_
          refine L_iconst (pc := 357) (v := 2) dL_law_357 (by decide) ?_
          refine L_iadd (pc := 358) dL_law_358 ?_
          refine L_scr (pc := 359) (i := i + 2) dL_law_359 (nI_add i 2) (by omega) (by omega) ?_
          refine L_callV (pc := 360) cvL_41 h7 dL_law_360 rfl rfl rfl rfl (Nat.le_of_ble_eq_true rfl) (by omega) (by omega) (by omega) (fun r9 h9 hq9 => ?_)
          obtain ⟨rfl, n2, p2, al2, s2, r2, w2, k2, a2, pl2, fr2, t2, J, rfl⟩ := hq9
          refine L_icmp_eq (pc := 363) (tgt := 769) dL_law_363 (by decide) (fun _ => ?_) (fun c9 => absurd rfl c9)
          refine L_iinc3 (pc := 769) dL_law_769 (Nat.le_of_ble_eq_true rfl) (nI_add i 6) ?_
          refine L_goto (pc := 772) (tgt := 18) dL_law_772 (by decide) ?_
          exact ih (i + 6) (k0 + mc + 0) (n0 + ms + 0) (Bd + 1000000) c2 n2 p2 al2 s2 r2 w2 k2 a2 pl2 fr2 t2 rest2 J (by omega) (by omega) (by omega) (by omega) (by omega)
        · have e9 : x0 = 6 := hsw
          subst e9
          refine L_tsIn (pc := 33) (tgt := 368) dL_law_33 (by decide) (by decide) rfl (by decide) ?_
          obtain ⟨d6, d7, mc, ms, v, c2, rest2, q6, q7, qc, qs, h6, h7⟩ := st_allow (a := a) (pl := pl) I (xs (i + 1))
          refine L_aload1 (pc := 368) dL_law_368 ?_
          refine L_aload0 (pc := 369) dL_law_369 ?_
          refine L_iload3 (pc := 370) dL_law_370 ?_
          refine L_iconst (pc := 371) (v := 1) dL_law_371 (by decide) ?_
          refine L_iadd (pc := 372) dL_law_372 ?_
          refine L_scr (pc := 373) (i := i + 1) dL_law_373 (nI_add i 1) (by omega) (by omega) ?_
          refine L_callV (pc := 374) cvL_42 h6 dL_law_374 rfl rfl rfl rfl (Nat.le_of_ble_eq_true rfl) (by omega) (by omega) (by omega) (fun r9 h9 hq9 => ?_)
          obtain ⟨rfl, rfl⟩ := hq9
          refine L_aload2 (pc := 377) dL_law_377 ?_
          refine L_aload0 (pc := 378) dL_law_378 ?_
          refine L_iload3 (pc := 379) dL_law_379 ?_
          refine L_iconst (pc := 380) (v := 1) dL_law_380 (by decide) ?_
          refine L_iadd (pc := 381) dL_law_381 ?_
          refine L_scr (pc := 382) (i := i + 1) dL_law_382 (nI_add i 1) (by omega) (by omega) ?_
          refine L_callV (pc := 383) cvL_45 h7 dL_law_383 rfl rfl rfl rfl (Nat.le_of_ble_eq_true rfl) (by omega) (by omega) (by omega) (fun r9 h9 hq9 => ?_)
          obtain ⟨rfl, n2, p2, al2, s2, r2, w2, k2, a2, pl2, fr2, t2, J, rfl⟩ := hq9
          refine L_icmp_eq (pc := 386) (tgt := 769) dL_law_386 (by decide) (fun _ => ?_) (fun c9 => absurd rfl c9)
          refine L_iinc3 (pc := 769) dL_law_769 (Nat.le_of_ble_eq_true rfl) (nI_add i 6) ?_
          refine L_goto (pc := 772) (tgt := 18) dL_law_772 (by decide) ?_
          exact ih (i + 6) (k0 + mc + 0) (n0 + ms + 0) (Bd + 1000000) c2 n2 p2 al2 s2 r2 w2 k2 a2 pl2 fr2 t2 rest2 J (by omega) (by omega) (by omega) (by omega) (by omega)
        · have e9 : x0 = 7 := hsw
          subst e9
          refine L_tsIn (pc := 33) (tgt := 391) dL_law_33 (by decide) (by decide) rfl (by decide) ?_
          obtain ⟨d6, d7, mc, ms, v, c2, rest2, q6, q7, qc, qs, h6, h7⟩ := st_say (a := a) (pl := pl) I (xs (i + 1)) (xs (i + 2))
          refine L_aload1 (pc := 391) dL_law_391 ?_
          refine L_aload0 (pc := 392) dL_law_392 ?_
          refine L_iload3 (pc := 393) dL_law_393 ?_
          refine L_iconst (pc := 394) (v := 1) dL_law_394 (by decide) ?_
          refine L_iadd (pc := 395) dL_law_395 ?_
          refine L_scr (pc := 396) (i := i + 1) dL_law_396 (nI_add i 1) (by omega) (by omega) ?_
          refine L_aload0 (pc := 397) dL_law_397 ?_
          refine L_iload3 (pc := 398) dL_law_398 ?_
          refine L_iconst (pc := 399) (v := 2) dL_law_399 (by decide) ?_
          refine L_iadd (pc := 400) dL_law_400 ?_
          refine L_scr (pc := 401) (i := i + 2) dL_law_401 (nI_add i 2) (by omega) (by omega) ?_
          refine L_callV (pc := 402) cvL_46 h6 dL_law_402 rfl rfl rfl rfl (Nat.le_of_ble_eq_true rfl) (by omega) (by omega) (by omega) (fun r9 h9 hq9 => ?_)
          obtain ⟨rfl, rfl⟩ := hq9
          refine L_aload2 (pc := 405) dL_law_405 ?_
          refine L_aload0 (pc := 406) dL_law_406 ?_
          refine L_iload3 (pc := 407) dL_law_407 ?_
          refine L_iconst (pc := 408) (v := 1) dL_law_408 (by decide) ?_
          refine L_iadd (pc := 409) dL_law_409 ?_
          refine L_scr (pc := 410) (i := i + 1) dL_law_410 (nI_add i 1) (by omega) (by omega) ?_
          refine L_aload0 (pc := 411) dL_law_411 ?_
          refine L_iload3 (pc := 412) dL_law_412 ?_
          refine L_iconst (pc := 413) (v := 2) dL_law_413 (by decide) ?_
          refine L_iadd (pc := 414) dL_law_414 ?_
          refine L_scr (pc := 415) (i := i + 2) dL_law_415 (nI_add i 2) (by omega) (by omega) ?_
          refine L_callV (pc := 416) cvL_49 h7 dL_law_416 rfl rfl rfl rfl (Nat.le_of_ble_eq_true rfl) (by omega) (by omega) (by omega) (fun r9 h9 hq9 => ?_)
          obtain ⟨rfl, n2, p2, al2, s2, r2, w2, k2, a2, pl2, fr2, t2, J, rfl⟩ := hq9
          refine L_icmp_eq (pc := 419) (tgt := 769) dL_law_419 (by decide) (fun _ => ?_) (fun c9 => absurd rfl c9)
          refine L_iinc3 (pc := 769) dL_law_769 (Nat.le_of_ble_eq_true rfl) (nI_add i 6) ?_
          refine L_goto (pc := 772) (tgt := 18) dL_law_772 (by decide) ?_
          exact ih (i + 6) (k0 + mc + 0) (n0 + ms + 0) (Bd + 1000000) c2 n2 p2 al2 s2 r2 w2 k2 a2 pl2 fr2 t2 rest2 J (by omega) (by omega) (by omega) (by omega) (by omega)
        · have e9 : x0 = 8 := hsw
          subst e9
          refine L_tsIn (pc := 33) (tgt := 424) dL_law_33 (by decide) (by decide) rfl (by decide) ?_
          obtain ⟨d6, d7, mc, ms, v, c2, rest2, q6, q7, qc, qs, h6, h7⟩ := st_hush (a := a) (pl := pl) I
          refine L_aload1 (pc := 424) dL_law_424 ?_
          refine L_callV (pc := 425) cvL_50 h6 dL_law_425 rfl rfl rfl rfl (Nat.le_of_ble_eq_true rfl) (by omega) (by omega) (by omega) (fun r9 h9 hq9 => ?_)
          obtain ⟨rfl, rfl⟩ := hq9
          refine L_aload2 (pc := 428) dL_law_428 ?_
          refine L_callV (pc := 429) cvL_54 h7 dL_law_429 rfl rfl rfl rfl (Nat.le_of_ble_eq_true rfl) (by omega) (by omega) (by omega) (fun r9 h9 hq9 => ?_)
          obtain ⟨rfl, n2, p2, al2, s2, r2, w2, k2, a2, pl2, fr2, t2, J, rfl⟩ := hq9
          refine L_icmp_eq (pc := 432) (tgt := 769) dL_law_432 (by decide) (fun _ => ?_) (fun c9 => absurd rfl c9)
          refine L_iinc3 (pc := 769) dL_law_769 (Nat.le_of_ble_eq_true rfl) (nI_add i 6) ?_
          refine L_goto (pc := 772) (tgt := 18) dL_law_772 (by decide) ?_
          exact ih (i + 6) (k0 + mc + 0) (n0 + ms + 0) (Bd + 1000000) c2 n2 p2 al2 s2 r2 w2 k2 a2 pl2 fr2 t2 rest2 J (by omega) (by omega) (by omega) (by omega) (by omega)
        · have e9 : x0 = 9 := hsw
          subst e9
          refine L_tsIn (pc := 33) (tgt := 437) dL_law_33 (by decide) (by decide) rfl (by decide) ?_
          obtain ⟨d6, d7, mc, ms, v, c2, rest2, q6, q7, qc, qs, h6, h7⟩ := st_said (a := a) (pl := pl) I (xs (i + 1))
          refine L_aload1 (pc := 437) dL_law_437 ?_
          refine L_aload0 (pc := 438) dL_law_438 ?_
          refine L_iload3 (pc := 439) dL_law_439 ?_
          refine L_iconst (pc := 440) (v := 1) dL_law_440 (by decide) ?_
          refine L_iadd (pc := 441) dL_law_441 ?_
          refine L_scr (pc := 442) (i := i + 1) dL_law_442 (nI_add i 1) (by omega) (by omega) ?_
          refine L_callV (pc := 443) cvL_55 h6 dL_law_443 rfl rfl rfl rfl (Nat.le_of_ble_eq_true rfl) (by omega) (by omega) (by omega) (fun r9 h9 hq9 => ?_)
          obtain ⟨rfl, rfl⟩ := hq9
          refine L_aload2 (pc := 446) dL_law_446 ?_
          refine L_aload0 (pc := 447) dL_law_447 ?_
          refine L_iload3 (pc := 448) dL_law_448 ?_
          refine L_iconst (pc := 449) (v := 1) dL_law_449 (by decide) ?_
          refine L_iadd (pc := 450) dL_law_450 ?_
          refine L_scr (pc := 451) (i := i + 1) dL_law_451 (nI_add i 1) (by omega) (by omega) ?_
          refine L_callV (pc := 452) cvL_58 h7 dL_law_452 rfl rfl rfl rfl (Nat.le_of_ble_eq_true rfl) (by omega) (by omega) (by omega) (fun r9 h9 hq9 => ?_)
          obtain ⟨rfl, n2, p2, al2, s2, r2, w2, k2, a2, pl2, fr2, t2, J, rfl⟩ := hq9
          refine L_icmp_eq (pc := 455) (tgt := 769) dL_law_455 (by decide) (fun _ => ?_) (fun c9 => absurd rfl c9)
          refine L_iinc3 (pc := 769) dL_law_769 (Nat.le_of_ble_eq_true rfl) (nI_add i 6) ?_
          refine L_goto (pc := 772) (tgt := 18) dL_law_772 (by decide) ?_
          exact ih (i + 6) (k0 + mc + 0) (n0 + ms + 0) (Bd + 1000000) c2 n2 p2 al2 s2 r2 w2 k2 a2 pl2 fr2 t2 rest2 J (by omega) (by omega) (by omega) (by omega) (by omega)
        · have e9 : x0 = 10 := hsw
          subst e9
          refine L_tsIn (pc := 33) (tgt := 460) dL_law_33 (by decide) (by decide) rfl (by decide) ?_
          obtain ⟨d6, d7, mc, ms, v, c2, rest2, q6, q7, qc, qs, h6, h7⟩ := st_walk (a := a) (pl := pl) I (xs (i + 1)) (xs (i + 2))
          refine L_aload1 (pc := 460) dL_law_460 ?_
          refine L_aload0 (pc := 461) dL_law_461 ?_
          refine L_iload3 (pc := 462) dL_law_462 ?_
          refine L_iconst (pc := 463) (v := 1) dL_law_463 (by decide) ?_
          refine L_iadd (pc := 464) dL_law_464 ?_
          refine L_scr (pc := 465) (i := i + 1) dL_law_465 (nI_add i 1) (by omega) (by omega) ?_
          refine L_aload0 (pc := 466) dL_law_466 ?_
          refine L_iload3 (pc := 467) dL_law_467 ?_
          refine L_iconst (pc := 468) (v := 2) dL_law_468 (by decide) ?_
          refine L_iadd (pc := 469) dL_law_469 ?_
          refine L_scr (pc := 470) (i := i + 2) dL_law_470 (nI_add i 2) (by omega) (by omega) ?_
          refine L_callV (pc := 471) cvL_59 h6 dL_law_471 rfl rfl rfl rfl (Nat.le_of_ble_eq_true rfl) (by omega) (by omega) (by omega) (fun r9 h9 hq9 => ?_)
          obtain ⟨rfl, rfl⟩ := hq9
          refine L_aload2 (pc := 474) dL_law_474 ?_
          refine L_aload0 (pc := 475) dL_law_475 ?_
          refine L_iload3 (pc := 476) dL_law_476 ?_
          refine L_iconst (pc := 477) (v := 1) dL_law_477 (by decide) ?_
          refine L_iadd (pc := 478) dL_law_478 ?_
          refine L_scr (pc := 479) (i := i + 1) dL_law_479 (nI_add i 1) (by omega) (by omega) ?_
          refine L_aload0 (pc := 480) dL_law_480 ?_
          refine L_iload3 (pc := 481) dL_law_481 ?_
          refine L_iconst (pc := 482) (v := 2) dL_law_482 (by decide) ?_
          refine L_iadd (pc := 483) dL_law_483 ?_
          refine L_scr (pc := 484) (i := i + 2) dL_law_484 (nI_add i 2) (by omega) (by omega) ?_
          refine L_callV (pc := 485) cvL_62 h7 dL_law_485 rfl rfl rfl rfl (Nat.le_of_ble_eq_true rfl) (by omega) (by omega) (by omega) (fun r9 h9 hq9 => ?_)
          obtain ⟨rfl, n2, p2, al2, s2, r2, w2, k2, a2, pl2, fr2, t2, J, rfl⟩ := hq9
          refine L_icmp_eq (pc := 488) (tgt := 769) dL_law_488 (by decide) (fun _ => ?_) (fun c9 => absurd rfl c9)
          refine L_iinc3 (pc := 769) dL_law_769 (Nat.le_of_ble_eq_true rfl) (nI_add i 6) ?_
          refine L_goto (pc := 772) (tgt := 18) dL_law_772 (by decide) ?_
          exact ih (i + 6) (k0 + mc + 0) (n0 + ms + 0) (Bd + 1000000) c2 n2 p2 al2 s2 r2 w2 k2 a2 pl2 fr2 t2 rest2 J (by omega) (by omega) (by omega) (by omega) (by omega)
        · have e9 : x0 = 11 := hsw
          subst e9
          refine L_tsIn (pc := 33) (tgt := 493) dL_law_33 (by decide) (by decide) rfl (by decide) ?_
          obtain ⟨d6, d7, mc, ms, v, c2, rest2, q6, q7, qc, qs, h6, h7⟩ := st_walked (a := a) (pl := pl) I (xs (i + 1))
          refine L_aload1 (pc := 493) dL_law_493 ?_
          refine L_aload0 (pc := 494) dL_law_494 ?_
          refine L_iload3 (pc := 495) dL_law_495 ?_
          refine L_iconst (pc := 496) (v := 1) dL_law_496 (by decide) ?_
          refine L_iadd (pc := 497) dL_law_497 ?_
          refine L_scr (pc := 498) (i := i + 1) dL_law_498 (nI_add i 1) (by omega) (by omega) ?_
          refine L_callV (pc := 499) cvL_63 h6 dL_law_499 rfl rfl rfl rfl (Nat.le_of_ble_eq_true rfl) (by omega) (by omega) (by omega) (fun r9 h9 hq9 => ?_)
          obtain ⟨rfl, rfl⟩ := hq9
          refine L_aload2 (pc := 502) dL_law_502 ?_
          refine L_aload0 (pc := 503) dL_law_503 ?_
          refine L_iload3 (pc := 504) dL_law_504 ?_
          refine L_iconst (pc := 505) (v := 1) dL_law_505 (by decide) ?_
          refine L_iadd (pc := 506) dL_law_506 ?_
          refine L_scr (pc := 507) (i := i + 1) dL_law_507 (nI_add i 1) (by omega) (by omega) ?_
          refine L_callV (pc := 508) cvL_66 h7 dL_law_508 rfl rfl rfl rfl (Nat.le_of_ble_eq_true rfl) (by omega) (by omega) (by omega) (fun r9 h9 hq9 => ?_)
          obtain ⟨rfl, n2, p2, al2, s2, r2, w2, k2, a2, pl2, fr2, t2, J, rfl⟩ := hq9
          refine L_icmp_eq (pc := 511) (tgt := 769) dL_law_511 (by decide) (fun _ => ?_) (fun c9 => absurd rfl c9)
          refine L_iinc3 (pc := 769) dL_law_769 (Nat.le_of_ble_eq_true rfl) (nI_add i 6) ?_
          refine L_goto (pc := 772) (tgt := 18) dL_law_772 (by decide) ?_
          exact ih (i + 6) (k0 + mc + 0) (n0 + ms + 0) (Bd + 1000000) c2 n2 p2 al2 s2 r2 w2 k2 a2 pl2 fr2 t2 rest2 J (by omega) (by omega) (by omega) (by omega) (by omega)
        · have e9 : x0 = 12 := hsw
          subst e9
          refine L_tsIn (pc := 33) (tgt := 516) dL_law_33 (by decide) (by decide) rfl (by decide) ?_
          obtain ⟨d6, d7, mc, ms, v, c2, rest2, q6, q7, qc, qs, h6, h7⟩ := st_start (a := a) (pl := pl) I (xs (i + 1)) (xs (i + 2))
          refine L_aload1 (pc := 516) dL_law_516 ?_
          refine L_aload0 (pc := 517) dL_law_517 ?_
          refine L_iload3 (pc := 518) dL_law_518 ?_
          refine L_iconst (pc := 519) (v := 1) dL_law_519 (by decide) ?_
          refine L_iadd (pc := 520) dL_law_520 ?_
          refine L_scr (pc := 521) (i := i + 1) dL_law_521 (nI_add i 1) (by omega) (by omega) ?_
          refine L_aload0 (pc := 522) dL_law_522 ?_
          refine L_iload3 (pc := 523) dL_law_523 ?_
          refine L_iconst (pc := 524) (v := 2) dL_law_524 (by decide) ?_
          refine L_iadd (pc := 525) dL_law_525 ?_
          refine L_scr (pc := 526) (i := i + 2) dL_law_526 (nI_add i 2) (by omega) (by omega) ?_
          refine L_callV (pc := 527) cvL_67 h6 dL_law_527 rfl rfl rfl rfl (Nat.le_of_ble_eq_true rfl) (by omega) (by omega) (by omega) (fun r9 h9 hq9 => ?_)
          obtain ⟨rfl, rfl⟩ := hq9
          refine L_aload2 (pc := 530) dL_law_530 ?_
          refine L_aload0 (pc := 531) dL_law_531 ?_
          refine L_iload3 (pc := 532) dL_law_532 ?_
          refine L_iconst (pc := 533) (v := 1) dL_law_533 (by decide) ?_
          refine L_iadd (pc := 534) dL_law_534 ?_
          refine L_scr (pc := 535) (i := i + 1) dL_law_535 (nI_add i 1) (by omega) (by omega) ?_
          refine L_aload0 (pc := 536) dL_law_536 ?_
          refine L_iload3 (pc := 537) dL_law_537 ?_
          refine L_iconst (pc := 538) (v := 2) dL_law_538 (by decide) ?_
          refine L_iadd (pc := 539) dL_law_539 ?_
          refine L_scr (pc := 540) (i := i + 2) dL_law_540 (nI_add i 2) (by omega) (by omega) ?_
          refine L_callV (pc := 541) cvL_70 h7 dL_law_541 rfl rfl rfl rfl (Nat.le_of_ble_eq_true rfl) (by omega) (by omega) (by omega) (fun r9 h9 hq9 => ?_)
          obtain ⟨rfl, n2, p2, al2, s2, r2, w2, k2, a2, pl2, fr2, t2, J, rfl⟩ := hq9
          refine L_icmp_eq (pc := 544) (tgt := 769) dL_law_544 (by decide) (fun _ => ?_) (fun c9 => absurd rfl c9)
          refine L_iinc3 (pc := 769) dL_law_769 (Nat.le_of_ble_eq_true rfl) (nI_add i 6) ?_
          refine L_goto (pc := 772) (tgt := 18) dL_law_772 (by decide) ?_
          exact ih (i + 6) (k0 + mc + 0) (n0 + ms + 0) (Bd + 1000000) c2 n2 p2 al2 s2 r2 w2 k2 a2 pl2 fr2 t2 rest2 J (by omega) (by omega) (by omega) (by omega) (by omega)
        · have e9 : x0 = 13 := hsw
          subst e9
          refine L_tsIn (pc := 33) (tgt := 549) dL_law_33 (by decide) (by decide) rfl (by decide) ?_
          obtain ⟨d6, d7, mc, ms, v, c2, rest2, q6, q7, qc, qs, h6, h7⟩ := st_go (a := a) (pl := pl) I (xs (i + 1))
          refine L_aload1 (pc := 549) dL_law_549 ?_
          refine L_aload0 (pc := 550) dL_law_550 ?_
          refine L_iload3 (pc := 551) dL_law_551 ?_
          refine L_iconst (pc := 552) (v := 1) dL_law_552 (by decide) ?_
          refine L_iadd (pc := 553) dL_law_553 ?_
          refine L_scr (pc := 554) (i := i + 1) dL_law_554 (nI_add i 1) (by omega) (by omega) ?_
          refine L_callV (pc := 555) cvL_71 h6 dL_law_555 rfl rfl rfl rfl (Nat.le_of_ble_eq_true rfl) (by omega) (by omega) (by omega) (fun r9 h9 hq9 => ?_)
          obtain ⟨rfl, rfl⟩ := hq9
          refine L_aload2 (pc := 558) dL_law_558 ?_
          refine L_aload0 (pc := 559) dL_law_559 ?_
          refine L_iload3 (pc := 560) dL_law_560 ?_
          refine L_iconst (pc := 561) (v := 1) dL_law_561 (by decide) ?_
          refine L_iadd (pc := 562) dL_law_562 ?_
          refine L_scr (pc := 563) (i := i + 1) dL_law_563 (nI_add i 1) (by omega) (by omega) ?_
          refine L_callV (pc := 564) cvL_74 h7 dL_law_564 rfl rfl rfl rfl (Nat.le_of_ble_eq_true rfl) (by omega) (by omega) (by omega) (fun r9 h9 hq9 => ?_)
          obtain ⟨rfl, n2, p2, al2, s2, r2, w2, k2, a2, pl2, fr2, t2, J, rfl⟩ := hq9
          refine L_icmp_eq (pc := 567) (tgt := 769) dL_law_567 (by decide) (fun _ => ?_) (fun c9 => absurd rfl c9)
          refine L_iinc3 (pc := 769) dL_law_769 (Nat.le_of_ble_eq_true rfl) (nI_add i 6) ?_
          refine L_goto (pc := 772) (tgt := 18) dL_law_772 (by decide) ?_
          exact ih (i + 6) (k0 + mc + 0) (n0 + ms + 0) (Bd + 1000000) c2 n2 p2 al2 s2 r2 w2 k2 a2 pl2 fr2 t2 rest2 J (by omega) (by omega) (by omega) (by omega) (by omega)
        · have e9 : x0 = 14 := hsw
          subst e9
          refine L_tsIn (pc := 33) (tgt := 572) dL_law_33 (by decide) (by decide) rfl (by decide) ?_
          obtain ⟨d6, d7, mc, ms, v, c2, rest2, q6, q7, qc, qs, h6, h7⟩ := st_route (a := a) (pl := pl) I (xs (i + 1))
          refine L_aload1 (pc := 572) dL_law_572 ?_
          refine L_aload0 (pc := 573) dL_law_573 ?_
          refine L_iload3 (pc := 574) dL_law_574 ?_
          refine L_iconst (pc := 575) (v := 1) dL_law_575 (by decide) ?_
          refine L_iadd (pc := 576) dL_law_576 ?_
          refine L_scr (pc := 577) (i := i + 1) dL_law_577 (nI_add i 1) (by omega) (by omega) ?_
          refine L_callV (pc := 578) cvL_75 h6 dL_law_578 rfl rfl rfl rfl (Nat.le_of_ble_eq_true rfl) (by omega) (by omega) (by omega) (fun r9 h9 hq9 => ?_)
          obtain ⟨rfl, rfl⟩ := hq9
          refine L_aload2 (pc := 581) dL_law_581 ?_
          refine L_aload0 (pc := 582) dL_law_582 ?_
          refine L_iload3 (pc := 583) dL_law_583 ?_
          refine L_iconst (pc := 584) (v := 1) dL_law_584 (by decide) ?_
          refine L_iadd (pc := 585) dL_law_585 ?_
          refine L_scr (pc := 586) (i := i + 1) dL_law_586 (nI_add i 1) (by omega) (by omega) ?_
          refine L_callV (pc := 587) cvL_78 h7 dL_law_587 rfl rfl rfl rfl (Nat.le_of_ble_eq_true rfl) (by omega) (by omega) (by omega) (fun r9 h9 hq9 => ?_)
          obtain ⟨rfl, n2, p2, al2, s2, r2, w2, k2, a2, pl2, fr2, t2, J, rfl⟩ := hq9
          refine L_icmp_eq (pc := 590) (tgt := 769) dL_law_590 (by decide) (fun _ => ?_) (fun c9 => absurd rfl c9)
          refine L_iinc3 (pc := 769) dL_law_769 (Nat.le_of_ble_eq_true rfl) (nI_add i 6) ?_
          refine L_goto (pc := 772) (tgt := 18) dL_law_772 (by decide) ?_
          exact ih (i + 6) (k0 + mc + 0) (n0 + ms + 0) (Bd + 1000000) c2 n2 p2 al2 s2 r2 w2 k2 a2 pl2 fr2 t2 rest2 J (by omega) (by omega) (by omega) (by omega) (by omega)
        · have e9 : x0 = 15 := hsw
          subst e9
          refine L_tsIn (pc := 33) (tgt := 595) dL_law_33 (by decide) (by decide) rfl (by decide) ?_
          obtain ⟨d6, d7, mc, ms, v, c2, rest2, q6, q7, qc, qs, h6, h7⟩ := st_routed (a := a) (pl := pl) I (xs (i + 1))
          refine L_aload1 (pc := 595) dL_law_595 ?_
          refine L_aload0 (pc := 596) dL_law_596 ?_
          refine L_iload3 (pc := 597) dL_law_597 ?_
          refine L_iconst (pc := 598) (v := 1) dL_law_598 (by decide) ?_
          refine L_iadd (pc := 599) dL_law_599 ?_
          refine L_scr (pc := 600) (i := i + 1) dL_law_600 (nI_add i 1) (by omega) (by omega) ?_
          refine L_callV (pc := 601) cvL_79 h6 dL_law_601 rfl rfl rfl rfl (Nat.le_of_ble_eq_true rfl) (by omega) (by omega) (by omega) (fun r9 h9 hq9 => ?_)
          obtain ⟨rfl, rfl⟩ := hq9
          refine L_aload2 (pc := 604) dL_law_604 ?_
          refine L_aload0 (pc := 605) dL_law_605 ?_
          refine L_iload3 (pc := 606) dL_law_606 ?_
          refine L_iconst (pc := 607) (v := 1) dL_law_607 (by decide) ?_
          refine L_iadd (pc := 608) dL_law_608 ?_
          refine L_scr (pc := 609) (i := i + 1) dL_law_609 (nI_add i 1) (by omega) (by omega) ?_
          refine L_callV (pc := 610) cvL_82 h7 dL_law_610 rfl rfl rfl rfl (Nat.le_of_ble_eq_true rfl) (by omega) (by omega) (by omega) (fun r9 h9 hq9 => ?_)
          obtain ⟨rfl, n2, p2, al2, s2, r2, w2, k2, a2, pl2, fr2, t2, J, rfl⟩ := hq9
          refine L_icmp_eq (pc := 613) (tgt := 769) dL_law_613 (by decide) (fun _ => ?_) (fun c9 => absurd rfl c9)
          refine L_iinc3 (pc := 769) dL_law_769 (Nat.le_of_ble_eq_true rfl) (nI_add i 6) ?_
          refine L_goto (pc := 772) (tgt := 18) dL_law_772 (by decide) ?_
          exact ih (i + 6) (k0 + mc + 0) (n0 + ms + 0) (Bd + 1000000) c2 n2 p2 al2 s2 r2 w2 k2 a2 pl2 fr2 t2 rest2 J (by omega) (by omega) (by omega) (by omega) (by omega)
        · have e9 : x0 = 16 := hsw
          subst e9
          refine L_tsIn (pc := 33) (tgt := 618) dL_law_33 (by decide) (by decide) rfl (by decide) ?_
          obtain ⟨d6, d7, mc, ms, v, c2, rest2, q6, q7, qc, qs, h6, h7⟩ := st_tell (a := a) (pl := pl) I (by omega)
          refine L_aload1 (pc := 618) dL_law_618 ?_
          refine L_callV (pc := 619) cvL_83 h6 dL_law_619 rfl rfl rfl rfl (Nat.le_of_ble_eq_true rfl) (by omega) (by omega) (by omega) (fun r9 h9 hq9 => ?_)
          obtain ⟨rfl, rfl⟩ := hq9
          refine L_aload2 (pc := 622) dL_law_622 ?_
          refine L_callV (pc := 623) cvL_86 h7 dL_law_623 rfl rfl rfl rfl (Nat.le_of_ble_eq_true rfl) (by omega) (by omega) (by omega) (fun r9 h9 hq9 => ?_)
          obtain ⟨rfl, n2, p2, al2, s2, r2, w2, k2, a2, pl2, fr2, t2, J, rfl⟩ := hq9
          refine L_icmp_eq (pc := 626) (tgt := 769) dL_law_626 (by decide) (fun _ => ?_) (fun c9 => absurd rfl c9)
          refine L_iinc3 (pc := 769) dL_law_769 (Nat.le_of_ble_eq_true rfl) (nI_add i 6) ?_
          refine L_goto (pc := 772) (tgt := 18) dL_law_772 (by decide) ?_
          exact ih (i + 6) (k0 + mc + 0) (n0 + ms + 0) (Bd + 1000000) c2 n2 p2 al2 s2 r2 w2 k2 a2 pl2 fr2 t2 rest2 J (by omega) (by omega) (by omega) (by omega) (by omega)
        · have e9 : x0 = 17 := hsw
          subst e9
          refine L_tsIn (pc := 33) (tgt := 631) dL_law_33 (by decide) (by decide) rfl (by decide) ?_
          obtain ⟨d6, d7, mc, ms, v, c2, rest2, q6, q7, qc, qs, h6, h7⟩ := st_holds (a := a) (pl := pl) I
          refine L_aload1 (pc := 631) dL_law_631 ?_
          refine L_callV (pc := 632) cvL_87 h6 dL_law_632 rfl rfl rfl rfl (Nat.le_of_ble_eq_true rfl) (by omega) (by omega) (by omega) (fun r9 h9 hq9 => ?_)
          obtain ⟨rfl, rfl⟩ := hq9
          refine L_aload2 (pc := 635) dL_law_635 ?_
          refine L_callV (pc := 636) cvL_90 h7 dL_law_636 rfl rfl rfl rfl (Nat.le_of_ble_eq_true rfl) (by omega) (by omega) (by omega) (fun r9 h9 hq9 => ?_)
          obtain ⟨rfl, n2, p2, al2, s2, r2, w2, k2, a2, pl2, fr2, t2, J, rfl⟩ := hq9
          refine L_icmp_eq (pc := 639) (tgt := 769) dL_law_639 (by decide) (fun _ => ?_) (fun c9 => absurd rfl c9)
          refine L_iinc3 (pc := 769) dL_law_769 (Nat.le_of_ble_eq_true rfl) (nI_add i 6) ?_
          refine L_goto (pc := 772) (tgt := 18) dL_law_772 (by decide) ?_
          exact ih (i + 6) (k0 + mc + 0) (n0 + ms + 0) (Bd + 1000000) c2 n2 p2 al2 s2 r2 w2 k2 a2 pl2 fr2 t2 rest2 J (by omega) (by omega) (by omega) (by omega) (by omega)
        · have e9 : x0 = 18 := hsw
          subst e9
          refine L_tsIn (pc := 33) (tgt := 644) dL_law_33 (by decide) (by decide) rfl (by decide) ?_
          obtain ⟨d6, d7, mc, ms, v, c2, rest2, q6, q7, qc, qs, h6, h7⟩ := st_slip (a := a) (pl := pl) I (xs (i + 1))
          refine L_aload1 (pc := 644) dL_law_644 ?_
          refine L_aload0 (pc := 645) dL_law_645 ?_
          refine L_iload3 (pc := 646) dL_law_646 ?_
          refine L_iconst (pc := 647) (v := 1) dL_law_647 (by decide) ?_
          refine L_iadd (pc := 648) dL_law_648 ?_
          refine L_scr (pc := 649) (i := i + 1) dL_law_649 (nI_add i 1) (by omega) (by omega) ?_
          refine L_callV (pc := 650) cvL_91 h6 dL_law_650 rfl rfl rfl rfl (Nat.le_of_ble_eq_true rfl) (by omega) (by omega) (by omega) (fun r9 h9 hq9 => ?_)
          obtain ⟨rfl, rfl⟩ := hq9
          refine L_aload2 (pc := 653) dL_law_653 ?_
          refine L_aload0 (pc := 654) dL_law_654 ?_
          refine L_iload3 (pc := 655) dL_law_655 ?_
          refine L_iconst (pc := 656) (v := 1) dL_law_656 (by decide) ?_
          refine L_iadd (pc := 657) dL_law_657 ?_
          refine L_scr (pc := 658) (i := i + 1) dL_law_658 (nI_add i 1) (by omega) (by omega) ?_
          refine L_callV (pc := 659) cvL_94 h7 dL_law_659 rfl rfl rfl rfl (Nat.le_of_ble_eq_true rfl) (by omega) (by omega) (by omega) (fun r9 h9 hq9 => ?_)
          obtain ⟨rfl, n2, p2, al2, s2, r2, w2, k2, a2, pl2, fr2, t2, J, rfl⟩ := hq9
          refine L_icmp_eq (pc := 662) (tgt := 769) dL_law_662 (by decide) (fun _ => ?_) (fun c9 => absurd rfl c9)
          refine L_iinc3 (pc := 769) dL_law_769 (Nat.le_of_ble_eq_true rfl) (nI_add i 6) ?_
          refine L_goto (pc := 772) (tgt := 18) dL_law_772 (by decide) ?_
          exact ih (i + 6) (k0 + mc + 0) (n0 + ms + 0) (Bd + 1000000) c2 n2 p2 al2 s2 r2 w2 k2 a2 pl2 fr2 t2 rest2 J (by omega) (by omega) (by omega) (by omega) (by omega)
        · have e9 : x0 = 19 := hsw
          subst e9
          refine L_tsIn (pc := 33) (tgt := 667) dL_law_33 (by decide) (by decide) rfl (by decide) ?_
          obtain ⟨d6, d7, mc, ms, v, c2, rest2, q6, q7, qc, qs, h6, h7⟩ := st_best (a := a) (pl := pl) I (xs (i + 1)) (xs (i + 2)) (xs (i + 3)) (by omega)
          refine L_aload1 (pc := 667) dL_law_667 ?_
          refine L_aload0 (pc := 668) dL_law_668 ?_
          refine L_iload3 (pc := 669) dL_law_669 ?_
          refine L_iconst (pc := 670) (v := 1) dL_law_670 (by decide) ?_
          refine L_iadd (pc := 671) dL_law_671 ?_
          refine L_scr (pc := 672) (i := i + 1) dL_law_672 (nI_add i 1) (by omega) (by omega) ?_
          refine L_aload0 (pc := 673) dL_law_673 ?_
          refine L_iload3 (pc := 674) dL_law_674 ?_
          refine L_iconst (pc := 675) (v := 2) dL_law_675 (by decide) ?_
          refine L_iadd (pc := 676) dL_law_676 ?_
          refine L_scr (pc := 677) (i := i + 2) dL_law_677 (nI_add i 2) (by omega) (by omega) ?_
          refine L_aload0 (pc := 678) dL_law_678 ?_
          refine L_iload3 (pc := 679) dL_law_679 ?_
          refine L_iconst (pc := 680) (v := 3) dL_law_680 (by decide) ?_
          refine L_iadd (pc := 681) dL_law_681 ?_
          refine L_scr (pc := 682) (i := i + 3) dL_law_682 (nI_add i 3) (by omega) (by omega) ?_
          refine L_callV (pc := 683) cvL_95 h6 dL_law_683 rfl rfl rfl rfl (Nat.le_of_ble_eq_true rfl) (by omega) (by omega) (by omega) (fun r9 h9 hq9 => ?_)
          obtain ⟨rfl, rfl⟩ := hq9
          refine L_aload2 (pc := 686) dL_law_686 ?_
          refine L_aload0 (pc := 687) dL_law_687 ?_
          refine L_iload3 (pc := 688) dL_law_688 ?_
          refine L_iconst (pc := 689) (v := 1) dL_law_689 (by decide) ?_
          refine L_iadd (pc := 690) dL_law_690 ?_
          refine L_scr (pc := 691) (i := i + 1) dL_law_691 (nI_add i 1) (by omega) (by omega) ?_
          refine L_aload0 (pc := 692) dL_law_692 ?_
          refine L_iload3 (pc := 693) dL_law_693 ?_
          refine L_iconst (pc := 694) (v := 2) dL_law_694 (by decide) ?_
          refine L_iadd (pc := 695) dL_law_695 ?_
          refine L_scr (pc := 696) (i := i + 2) dL_law_696 (nI_add i 2) (by omega) (by omega) ?_
          refine L_aload0 (pc := 697) dL_law_697 ?_
          refine L_iload3 (pc := 698) dL_law_698 ?_
          refine L_iconst (pc := 699) (v := 3) dL_law_699 (by decide) ?_
          refine L_iadd (pc := 700) dL_law_700 ?_
          refine L_scr (pc := 701) (i := i + 3) dL_law_701 (nI_add i 3) (by omega) (by omega) ?_
          refine L_callV (pc := 702) cvL_98 h7 dL_law_702 rfl rfl rfl rfl (Nat.le_of_ble_eq_true rfl) (by omega) (by omega) (by omega) (fun r9 h9 hq9 => ?_)
          obtain ⟨rfl, n2, p2, al2, s2, r2, w2, k2, a2, pl2, fr2, t2, J, rfl⟩ := hq9
          refine L_icmp_eq (pc := 705) (tgt := 769) dL_law_705 (by decide) (fun _ => ?_) (fun c9 => absurd rfl c9)
          refine L_iinc3 (pc := 769) dL_law_769 (Nat.le_of_ble_eq_true rfl) (nI_add i 6) ?_
          refine L_goto (pc := 772) (tgt := 18) dL_law_772 (by decide) ?_
          exact ih (i + 6) (k0 + mc + 0) (n0 + ms + 0) (Bd + 1000000) c2 n2 p2 al2 s2 r2 w2 k2 a2 pl2 fr2 t2 rest2 J (by omega) (by omega) (by omega) (by omega) (by omega)
        · have e9 : x0 = 20 := hsw
          subst e9
          refine L_tsIn (pc := 33) (tgt := 710) dL_law_33 (by decide) (by decide) rfl (by decide) ?_
          obtain ⟨d6, d7, mc, ms, v, c2, rest2, q6, q7, qc, qs, h6, h7⟩ := st_keep (a := a) (pl := pl) I
          refine L_aload1 (pc := 710) dL_law_710 ?_
          refine L_callV (pc := 711) cvL_99 h6 dL_law_711 rfl rfl rfl rfl (Nat.le_of_ble_eq_true rfl) (by omega) (by omega) (by omega) (fun r9 h9 hq9 => ?_)
          obtain ⟨rfl, rfl⟩ := hq9
          refine L_aload2 (pc := 714) dL_law_714 ?_
          refine L_callV (pc := 715) cvL_102 h7 dL_law_715 rfl rfl rfl rfl (Nat.le_of_ble_eq_true rfl) (by omega) (by omega) (by omega) (fun r9 h9 hq9 => ?_)
          obtain ⟨rfl, n2, p2, al2, s2, r2, w2, k2, a2, pl2, fr2, t2, J, rfl⟩ := hq9
          refine L_icmp_eq (pc := 718) (tgt := 769) dL_law_718 (by decide) (fun _ => ?_) (fun c9 => absurd rfl c9)
          refine L_iinc3 (pc := 769) dL_law_769 (Nat.le_of_ble_eq_true rfl) (nI_add i 6) ?_
          refine L_goto (pc := 772) (tgt := 18) dL_law_772 (by decide) ?_
          exact ih (i + 6) (k0 + mc + 0) (n0 + ms + 0) (Bd + 1000000) c2 n2 p2 al2 s2 r2 w2 k2 a2 pl2 fr2 t2 rest2 J (by omega) (by omega) (by omega) (by omega) (by omega)
        · have e9 : x0 = 21 := hsw
          subst e9
          refine L_tsIn (pc := 33) (tgt := 723) dL_law_33 (by decide) (by decide) rfl (by decide) ?_
          obtain ⟨d6, d7, mc, ms, v, c2, rest2, q6, q7, qc, qs, h6, h7⟩ := st_still (a := a) (pl := pl) I (xs (i + 1))
          refine L_aload1 (pc := 723) dL_law_723 ?_
          refine L_aload0 (pc := 724) dL_law_724 ?_
          refine L_iload3 (pc := 725) dL_law_725 ?_
          refine L_iconst (pc := 726) (v := 1) dL_law_726 (by decide) ?_
          refine L_iadd (pc := 727) dL_law_727 ?_
          refine L_scr (pc := 728) (i := i + 1) dL_law_728 (nI_add i 1) (by omega) (by omega) ?_
          refine L_callV (pc := 729) cvL_103 h6 dL_law_729 rfl rfl rfl rfl (Nat.le_of_ble_eq_true rfl) (by omega) (by omega) (by omega) (fun r9 h9 hq9 => ?_)
          obtain ⟨rfl, rfl⟩ := hq9
          refine L_aload2 (pc := 732) dL_law_732 ?_
          refine L_aload0 (pc := 733) dL_law_733 ?_
          refine L_iload3 (pc := 734) dL_law_734 ?_
          refine L_iconst (pc := 735) (v := 1) dL_law_735 (by decide) ?_
          refine L_iadd (pc := 736) dL_law_736 ?_
          refine L_scr (pc := 737) (i := i + 1) dL_law_737 (nI_add i 1) (by omega) (by omega) ?_
          refine L_callV (pc := 738) cvL_106 h7 dL_law_738 rfl rfl rfl rfl (Nat.le_of_ble_eq_true rfl) (by omega) (by omega) (by omega) (fun r9 h9 hq9 => ?_)
          obtain ⟨rfl, n2, p2, al2, s2, r2, w2, k2, a2, pl2, fr2, t2, J, rfl⟩ := hq9
          refine L_icmp_eq (pc := 741) (tgt := 769) dL_law_741 (by decide) (fun _ => ?_) (fun c9 => absurd rfl c9)
          refine L_iinc3 (pc := 769) dL_law_769 (Nat.le_of_ble_eq_true rfl) (nI_add i 6) ?_
          refine L_goto (pc := 772) (tgt := 18) dL_law_772 (by decide) ?_
          exact ih (i + 6) (k0 + mc + 0) (n0 + ms + 0) (Bd + 1000000) c2 n2 p2 al2 s2 r2 w2 k2 a2 pl2 fr2 t2 rest2 J (by omega) (by omega) (by omega) (by omega) (by omega)
        · have e9 : x0 = 22 := hsw
          subst e9
          refine L_tsIn (pc := 33) (tgt := 746) dL_law_33 (by decide) (by decide) rfl (by decide) ?_
          obtain ⟨d6, d7, mc, ms, v, c2, rest2, q6, q7, qc, qs, h6, h7⟩ := st_count (a := a) (pl := pl) I (xs (i + 1))
          refine L_aload1 (pc := 746) dL_law_746 ?_
          refine L_aload0 (pc := 747) dL_law_747 ?_
          refine L_iload3 (pc := 748) dL_law_748 ?_
          refine L_iconst (pc := 749) (v := 1) dL_law_749 (by decide) ?_
          refine L_iadd (pc := 750) dL_law_750 ?_
          refine L_scr (pc := 751) (i := i + 1) dL_law_751 (nI_add i 1) (by omega) (by omega) ?_
          refine L_callV (pc := 752) cvL_107 h6 dL_law_752 rfl rfl rfl rfl (Nat.le_of_ble_eq_true rfl) (by omega) (by omega) (by omega) (fun r9 h9 hq9 => ?_)
          obtain ⟨rfl, rfl⟩ := hq9
          refine L_aload2 (pc := 755) dL_law_755 ?_
          refine L_aload0 (pc := 756) dL_law_756 ?_
          refine L_iload3 (pc := 757) dL_law_757 ?_
          refine L_iconst (pc := 758) (v := 1) dL_law_758 (by decide) ?_
          refine L_iadd (pc := 759) dL_law_759 ?_
          refine L_scr (pc := 760) (i := i + 1) dL_law_760 (nI_add i 1) (by omega) (by omega) ?_
          refine L_callV (pc := 761) cvL_110 h7 dL_law_761 rfl rfl rfl rfl (Nat.le_of_ble_eq_true rfl) (by omega) (by omega) (by omega) (fun r9 h9 hq9 => ?_)
          obtain ⟨rfl, n2, p2, al2, s2, r2, w2, k2, a2, pl2, fr2, t2, J, rfl⟩ := hq9
          refine L_icmp_eq (pc := 764) (tgt := 769) dL_law_764 (by decide) (fun _ => ?_) (fun c9 => absurd rfl c9)
          refine L_iinc3 (pc := 769) dL_law_769 (Nat.le_of_ble_eq_true rfl) (nI_add i 6) ?_
          refine L_goto (pc := 772) (tgt := 18) dL_law_772 (by decide) ?_
          exact ih (i + 6) (k0 + mc + 0) (n0 + ms + 0) (Bd + 1000000) c2 n2 p2 al2 s2 r2 w2 k2 a2 pl2 fr2 t2 rest2 J (by omega) (by omega) (by omega) (by omega) (by omega)
    · have hlt : nI SL - 6 < nI i := by
        by_cases h6 : 6 ≤ SL
        · rw [show nI SL - 6 = nI (SL - 6) from pk_sub h6]
          exact nI_lt (by omega) (by omega)
        · have h7 : nI SL - nI 6 < 0 := pk_sneg (by decide) (by omega)
          exact fa_trans h7 (nI_pos' (by omega))
      refine L_iload3 (pc := 18) dL_law_18 ?_
      refine L_aload0 (pc := 19) dL_law_19 ?_
      refine L_slen (pc := 20) dL_law_20 rfl ?_
      refine L_bipush (pc := 21) (v := 6) dL_law_21 (by decide) ?_
      refine L_isub (pc := 23) dL_law_23 ?_
      refine L_icmp_gt (pc := 24) (tgt := 775) dL_law_24 (by decide) (fun _ => ?_) (fun c9 => absurd hlt c9)
      refine L_iconst (pc := 775) (v := 1) dL_law_775 (by decide) ?_
      exact L_iret (pc := 776) dL_law_776 rfl rfl (by omega) (by omega) rfl
