/-! out of kit/laws/SKELETON, with whole_start filled in -/
theorem len_lt {args : Array Value} {s : State} {t : Term} {v : Value} (h : (Term.length t).eval args s none [] s = some v) : ∃ a cell, t.eval args s none [] s = some (.ref a) ∧ s.arrayAt? a = some cell ∧ cell.slots.size < 2147483648 ∧ v = .int cell.slots.size.toInt32 := by
  simp only [Term.eval, Option.bind_eq_bind] at h
  cases ht : t.eval args s none [] s with
  | none => simp [ht] at h
  | some x =>
    cases x <;> simp [ht] at h
    case ref a =>
      obtain ⟨cell, hcell, h⟩ := Option.bind_eq_some_iff.mp h
      by_cases hn : cell.slots.size < 2147483648
      · rw [if_pos hn] at h; cases h; exact ⟨a, cell, rfl, hcell, hn, rfl⟩
      · rw [if_neg hn] at h; cases h
/-- a static array of ints: where it lies, what it holds -/
theorem stat_of {args : Array Value} {s : State} {nm : String} {N : Nat} {f : Nat → Int32} (hN : N < 2 ^ 31) (harr : (Cond.arrayOf (.static "WaysTold" nm "[I") .int).before args s = true) (hlen : (Cond.eq (.length (.static "WaysTold" nm "[I")) (.int (nI N))).before args s = true) (hel : ∀ j, j < N → (Cond.eq (.elem (.static "WaysTold" nm "[I") (.int (nI j))) (.int (f j))).before args s = true) (hl : (Cond.laysStatic "WaysTold" nm "[I").before args s = true) (hini : (Cond.initialized "WaysTold").before args s = true) : ∃ t : Nat, va_Z "WaysTold" nm "[I" (.ref t) (fun q => s.heap.size ≤ q) s s.heap ∧ va_X t N f s s.heap ∧ t < s.heap.size := by
  obtain ⟨t, cell, ht, hat, hlt, hv⟩ := len_lt (va_eqt hlen)
  obtain ⟨hcell, hkn, -, -⟩ := State.arrayAt?_spec hat
  obtain ⟨hof, -⟩ := Cond.arrayOf_spec harr ht hcell
  have hsz : cell.slots.size = N := ((nI_eq (by omega) hN).mp (show nI cell.slots.size = nI N from (Value.int.inj hv).symm))
  refine ⟨t, va_Zref hl hini ht (fun a ha => Nat.not_le.mpr ha), ⟨cell, hcell, hof, hkn, hsz, fun j hj => ?_⟩, (Array.getElem?_eq_some_iff.mp hcell).1⟩
  obtain ⟨a, i, cell2, h1, h2, h3, h4, h5⟩ := Term.elem_spec (va_eqt (hel j hj))
  cases ht.symm.trans h1
  cases hat.symm.trans h3
  have hi : i = nI j := by
    have e : (Term.int (nI j)).eval args s none [] s = some (.int (nI j)) := rfl
    cases h2.symm.trans e
    rfl
  have hc : i.toNatClampNeg = j := by rw [hi]; exact nI_clamp (by omega)
  rw [hc] at h5
  exact h5
theorem fl_arr : ∀ j, j < 4 → Cond.arrayOf (.static "WaysTold" (sa_n j) "[I") .int ∈ flatC (Jvm.Cond.and given_1 narrow_1) := by decide +kernel
theorem fl_len : ∀ j, j < 4 → Cond.eq (.length (.static "WaysTold" (sa_n j) "[I")) (.int (nI (sa_l j))) ∈ flatC (Jvm.Cond.and given_1 narrow_1) := by decide +kernel
theorem fl_el : ∀ j, j < 4 → ∀ i, i < sa_l j → Cond.eq (.elem (.static "WaysTold" (sa_n j) "[I") (.int (nI i))) (.int (sa_f j i)) ∈ flatC (Jvm.Cond.and given_1 narrow_1) := by decide +kernel
theorem fl_lay : ∀ j, j < 4 → Cond.laysStatic "WaysTold" (sa_n j) "[I" ∈ tables_1 := by decide +kernel
/-! THE CLAIM OUT OF ONE WALK OF THE LAW'S BODY. Your part is whole_start (and what it stands on); all else here is the same for every law, but numbers. -/
def R_law : String := "WaysToldLaw"
def lw_P (b : Addr) (xs : List Int32) (args : Array Value) (s : State) : Prop := args = #[.ref b] ∧ s.IntsAt b xs ∧ xs.length ≤ 3072 ∧ (Jvm.Cond.and given_1 narrow_1).before args s = true
def lw_Q (_ : Array Value) (s : State) (o : Outcome) (t : State) : Prop := o = .returned (some (.int 1)) ∧ Framed s o t [] 600000 7302250
def lw_Z (below : List Frame) (a : Array Value) (s : State) : State → Prop := fun t => ∃ o, t.status = .running ∧ Ended t below o ∧ lw_Q a s o t
/-- the law's own end, with 1 on the stack, nothing written that was there before, its room as the claim has it -/
theorem lw_ret {p : Program} {l : Launch} {e : Env} {s : State} {m : MethodId} {below : List Frame} {meth : Method} {c : Code} {b : Nat} (hx : p.tables.exec = Jvm.exec) (hb : c.code = code) (hr : meth.sig.returnType = ret) (hlocks : meth.locks = false) {pc : Nat} {H : Heap} {ls : Array Slot} (hdg : decode code pc = .ok (.ireturn, 1)) : W p l e room_1 s m #[Value.ref b] below meth c H [] 600000 7302250 (lw_Z below #[Value.ref b] s) (F0 m pc ls [.int 1]) := by
  intro T hT X
  obtain ⟨fs, hret, hrun, hended, hW, hframe⟩ := X.leave (v := some (.int 1)) (hlocks := hlocks) (fun h => by rw [hr] at h; cases h)
  have hmeth' : T.vm.method? m = some meth := X.method'
  refine ⟨T.setFrames fs, ?_, .returned (some (.int 1)), hrun, hended, rfl, ⟨_, rfl⟩, hW, hframe⟩
  jvm_step X.here [X.here.top, hx, hb, hdg, hmeth', hr, ret, narrow_b1]
  (try refine ⟨rfl, ?_⟩); (try refine ⟨rfl, ?_⟩)
  first | (intro acts; rw [hret _ acts rfl rfl rfl]) | rw [hret _ _ rfl rfl rfl]
  exact Steps.refl _
/-- what holds at the law's entry: the machine, the code, the tables' words (any of lw_tbl by 'hts w (by decide +kernel)'), the script of L ints xs at the cell b, what the Statement gives of the start (any of its parts by flat_of_before) -/
def lw_At (p : Program) (s : State) (m : MethodId) (meth : Method) (c : Code) (b L : Nat) (xs : Nat → Int32) : Prop :=
  p.tables.exec = Jvm.exec ∧ c.code = code ∧ meth.sig.returnType = ret ∧ c.maxLocals = 4 ∧ s.vm.findClass R_law = some m.cls ∧ (∀ w ∈ lw_tbl, w.before #[Value.ref b] s = true) ∧ va_X b L xs s s.heap ∧ b < s.heap.size ∧ meth.locks = false ∧ (Jvm.Cond.and given_1 narrow_1).before #[Value.ref b] s = true
set_option maxHeartbeats 4000000 in
set_option maxRecDepth 100000 in
theorem whole_start {p : Program} {e : Env} {s : State} {m : MethodId} {below : List Frame} {meth : Method} {c : Code} (l : Launch) {b L : Nat} {xs : Nat → Int32} (hL : L ≤ 3072) (C0 : lw_At p s m meth c b L xs) : W p l e room_1 s m #[Value.ref b] below meth c s.heap [] 0 0 (lw_Z below #[Value.ref b] s) (entryFrame m ([Value.ref b] : List Value).toArray 4) := by
  obtain ⟨hx, hb, hr, hml, hown, hts, hX, hbl, hlocks, hgv⟩ := C0
  have hgw : ∀ w ∈ gw, w.before #[Value.ref b] s = true := fun w hw => hts w (List.mem_filter.mp hw).1
  have htb : ∀ w ∈ tables_1, w.before #[Value.ref b] s = true := fun w hw => hts w (List.mem_append_right _ hw)
  have hfl := flat_of_before _ hgv
  obtain ⟨cC0, iS0, hK0⟩ := u_known hgw cwX0 (hgw _ ins0)
  obtain ⟨cC1, iS1, hK1⟩ := u_known hgw cwX1 (hgw _ ins1)
  obtain ⟨cC2, iS2, hK2⟩ := u_known hgw cwX2 (hgw _ ins2)
  obtain ⟨cC3, iS3, hK3⟩ := u_known hgw cwX3 (hgw _ ins3)
  obtain ⟨cC4, iS4, hK4⟩ := u_known hgw cwX4 (hgw _ ins4)
  obtain ⟨cC5, iS5, hK5⟩ := u_known hgw cwX5 (hgw _ ins5)
  obtain ⟨cC6, iS6, hK6⟩ := u_known hgw cwX6 (hgw _ ins6)
  obtain ⟨cC7, iS7, hK7⟩ := u_known hgw cwX7 (hgw _ ins7)
  obtain ⟨cA, kA, comp, f1, f2, f3⟩ := Cond.arrayClass_spec (hgw _ arI)
  obtain ⟨comp2, cK, kK, g1, g2, g3, g4, g5⟩ := Cond.arrayOver_spec (htb _ (List.mem_filter.mp aoK).1)
  have hst : ∀ j, j < 4 → ∃ t : Nat, va_Z "WaysTold" (sa_n j) "[I" (.ref t) (fun q => s.heap.size ≤ q) s s.heap ∧ va_X t (sa_l j) (sa_f j) s s.heap ∧ t < s.heap.size := fun j hj => stat_of (by unfold sa_l; split <;> decide) (hfl _ (fl_arr j hj)) (hfl _ (fl_len j hj)) (fun i hi => hfl _ (fl_el j hj i hi)) (htb _ (fl_lay j hj)) (hgw _ ini6)
  obtain ⟨t0, ht0⟩ := hst 0 (by decide)
  obtain ⟨t1, ht1⟩ := hst 1 (by decide)
  obtain ⟨t2, ht2⟩ := hst 2 (by decide)
  obtain ⟨t3, ht3⟩ := hst 3 (by decide)
  let g : GG := (((fun i => match i with
    | 0 => cC0
    | 1 => cC1
    | 2 => cC2
    | 3 => cC3
    | 4 => cC4
    | 5 => cC5
    | 6 => cC6
    | _ => cC7, fun i => match i with
    | 0 => iS0
    | 1 => iS1
    | 2 => iS2
    | 3 => iS3
    | 4 => iS4
    | 5 => iS5
    | 6 => iS6
    | _ => iS7), cA, cK), s.heap.size, fun j => match j with
    | 0 => t0
    | 1 => t1
    | 2 => t2
    | 3 => t3
    | _ => b)
  have hT : a_T g s := by
    refine ⟨⟨fun i q hq => ?_, fun i q hq => ?_⟩, fun w hw => ?_, fun j hj => ?_, Nat.le_refl _⟩
    · have hi : i < 8 := (List.getElem?_eq_some_iff.mp hq).1
      rcases (show i = 0 ∨ i = 1 ∨ i = 2 ∨ i = 3 ∨ i = 4 ∨ i = 5 ∨ i = 6 ∨ i = 7 by omega) with rfl | rfl | rfl | rfl | rfl | rfl | rfl | rfl
      · cases hq; exact hK0
      · cases hq; exact hK1
      · cases hq; exact hK2
      · cases hq; exact hK3
      · cases hq; exact hK4
      · cases hq; exact hK5
      · cases hq; exact hK6
      · cases hq; exact hK7
    · have hi : i < 2 := (List.getElem?_eq_some_iff.mp hq).1
      rcases (show i = 0 ∨ i = 1 by omega) with rfl | rfl
      · cases hq
        exact ⟨fun n z => ⟨fun k h => (by cases h), kA, f2, comp, f3⟩, f1⟩
      · cases hq
        exact ⟨fun n z => ⟨fun k h => (by cases h), kK, g3, comp2, g4⟩, kK, comp2, g3, g4, g1, g5⟩
    · have hn := (List.mem_filter.mp hw).2
      have h1 := htb w (List.mem_filter.mp hw).1
      cases w with
      | fieldLinkNest a b c d e f => exact va_Nw.of rfl h1
      | methodLinkNest a b c d => exact va_Nw.of rfl h1
      | arrayOver ty =>
        cases ty with
        | object C => exact va_AO.of h1
        | _ => simp [nestW] at hn
      | _ => simp [nestW] at hn
    · rcases (show j = 0 ∨ j = 1 ∨ j = 2 ∨ j = 3 by omega) with rfl | rfl | rfl | rfl
      · exact ht0
      · exact ht1
      · exact ht2
      · exact ht3
  have hLX : LX g s xs L := ⟨hX, hbl, Nat.le_refl _⟩
  have hF : a_F g (mL meth.name) 10 600000 7302250 p room_1 s m #[Value.ref b] meth c := ⟨hx, hb, hml, hown, hgw, hT, rfl, rfl, rfl, rfl, rfl⟩
  have hE : a_E p l e room_1 s m #[Value.ref b] below meth c g (mL meth.name) 600000 7302250 (lw_Z below #[Value.ref b] s) pL := by
    intro r hp H locs ls pc k n hpost A hk hn hret
    have hr1 : r = some (.int 1) := hpost
    subst hr1
    refine va_forget (fun q hq => A.2.2.2.2.2 q hq) ?_
    refine W.widen hk hn ?_
    rcases hret with ⟨h, _⟩ | ⟨v, ty, h1, h2, h3, hd⟩
    · cases h
    · exact lw_ret hx hb hr hlocks hd
  have hA : a_H g s s.heap [] [] := ⟨rfl, by decide, fun i c h => by simp at h, Nat.le_refl _, fun q _ => rfl, fun x h => by cases h⟩
  have hLe : a_L g 4 ((([Value.ref b] : List Value).map Slot.val ++ List.replicate (4 - ([Value.ref b] : List Value).length) Slot.unset).toArray) [some (.ref 1004), none, none, none] := a_entry (g := g) (as := [.ref 1004]) (nL := 4) (fun v hv => by cases hv with
    | head => rfl
    | tail _ h => cases h) (by decide)
  rw [entry_eq m [Value.ref b] (fun v hv => by cases hv with
    | head => rfl
    | tail _ h => cases h) 4]
  exact law_start meth.name hL p l e room_1 s m _ below meth c g _ s.heap [] _ hLX hF hE hA hLe
set_option maxHeartbeats 4000000 in
theorem lw_walk (l : Launch) (b : Addr) (xs : List Int32) : MetFree l x (headSpec (Jvm.Cond.code x code maxLocals ret :: tables_1) room_1) (lw_P b xs) (fun _ _ _ _ _ => True) lw_Q := by
  refine MetFree.of_bodyS (code := code) (maxLocals := maxLocals) (ret := ret) (by decide) ?_ ?_
  · intro args s m h hn
    obtain ⟨meth, c, h1, h2, h3, h4, h5, h6, -, -⟩ := Cond.code_spec hn (atoms_spec (ws := Jvm.Cond.code x code maxLocals ret :: tables_1) h _ List.mem_cons_self)
    exact ⟨meth, c, h1, h2, h3, h4, h5, h6⟩
  · intro p e s m args below meth c s₁ B hml0 hP _
    obtain ⟨rfl, hx, hbd, hgv⟩ := hP
    obtain ⟨scr, harrAt, hlist, hof, hsmall⟩ := hx
    obtain ⟨hcb, hkn, -, -⟩ := State.arrayAt?_spec harrAt
    have hown : s.vm.findClass R_law = some m.cls := findClass_of_methodNamed B.named
    have hts0 : ∀ c ∈ (Jvm.Cond.code x code maxLocals ret :: tables_1), c.before #[Value.ref b] s = true := atoms_spec (ws := Jvm.Cond.code x code maxLocals ret :: tables_1) B.pre
    have hts : ∀ w ∈ lw_tbl, w.before #[Value.ref b] s = true := k2_hts_sels lw_privs (fun w hw => hts0 w (List.mem_cons_of_mem _ hw)) lw_privs_ok
    have hml : c.maxLocals = 4 := B.maxLocals_eq (hts0 _ List.mem_cons_self)
    have X₀ : Stand p l e room_1 s m #[Value.ref b] below meth c s₁ [] 0 0 := Stand.of_body B
    have hh0 : s₁.heap = s.heap := by rw [B.state]; rfl
    have hsz : scr.slots.size = xs.length := by rw [← Array.length_toList, hlist, List.length_map]
    have hval : ∀ j : Nat, j < xs.length → scr.slots[j]? = some (.int (xs.getD j 0)) := fun j hj => by
      rw [← Array.getElem?_toList, hlist]
      simp [hj]
    have hbl : b < s.heap.size := (Array.getElem?_eq_some_iff.mp hcb).1
    have hX : va_X b xs.length (fun j => xs.getD j 0) s s.heap := ⟨scr, hcb, hof, hkn, hsz, hval⟩
    have K : W p l e room_1 s m #[Value.ref b] below meth c s₁.heap [] 0 0 (lw_Z below #[Value.ref b] s) (entryFrame m ([Value.ref b] : List Value).toArray 4) := by
      rw [hh0]
      exact whole_start l hbd ⟨B.exec, B.bytes, B.returns, hml, hown, hts, hX, hbl, B.notSynchronized, hgv⟩
    obtain ⟨t, a1, o, b1, b2, b3⟩ := K s₁ rfl X₀
    exact ⟨t, o, a1, b1, b2, b3⟩
theorem lw_pre_spec {args : Array Value} {s : State} (h : (Jvm.Cond.and given_1 narrow_1).before args s = true) (hr : rest_1_c.before args s = true) : ∃ (b : Addr) (xs : List Int32), lw_P b xs args s := by
  have hs := flat_of_before _ h
  have hq := flat_of_before _ hr
  have hc : (Cond.count 1).before args s = true := hs _ (by decide +kernel)
  have harr : (Cond.arrayOf (.arg 0) .int).before args s = true := hs _ (by decide +kernel)
  have hle : (Cond.le (.length (.arg 0)) (.int 3072)).before args s = true := hs _ (by decide +kernel)
  have hlen : (Cond.isInt (.length (.arg 0))).before args s = true := hq _ (by decide +kernel)
  have hall : (Cond.all (.arg 0) (.isInt (.elem (.arg 0) (.index 0)))).before args s = true := hq _ (by decide +kernel)
  obtain ⟨b, xs, hb, hx⟩ := State.ints_of_pre rfl harr hlen hall
  have hsm : xs.length < 2 ^ 31 := hx.choose_spec.2.2.2
  have hev : (Term.length (.arg 0)).eval args s none [] s = some (.int xs.length.toInt32) := hx.length_eval hb
  have hv := Cond.le_ints hev (show (Term.int 3072).eval args s none [] s = some (.int 3072) from rfl)
  have hd : xs.length.toInt32 ≤ 3072 := by
    simpa [Cond.before, Cond.holds, hv] using hle
  have hN : xs.length ≤ 3072 := (Int32.ofNat_le_ofNat hsm (by decide)).mp (show Int32.ofNat xs.length ≤ Int32.ofNat 3072 from hd)
  exact ⟨b, xs, Cond.one_arg hc (show args[0]? = some (.ref b) from hb), hx, hN, h⟩
theorem lw_comes (l : Launch) : Comes l x (Jvm.Cond.code x code maxLocals ret :: tables_1) room_1 (fun tb e args s => Calls_1 tb e args s ∧ rest_1 tb e args s ∧ Pre_1 tb e args s)
    (fun _ _ args s o t => lw_Q args s o t) := by
  intro p e ha hc hk s m args below hf hfit hheap happ hpre
  obtain ⟨b, xs, hP⟩ := lw_pre_spec hpre.2.2 hpre.2.1
  obtain ⟨k, o, h1, h2, h3, hQ⟩ := lw_walk l b xs p e ha hc hk s m args below hf ((Spec.applies_iff_loose hf).mp happ).1 hP trivial
  exact ⟨k, o, h1, h2, h3, hQ⟩
theorem lw_frame {s t : State} {o : Outcome} {args : Array Value} (h : Framed s o t [] 600000 7302250) :
    Framed s o t (fieldLocs frame_1_writes args s ++ arrayLocs frame_1_arrays args s ++ staticLocs frame_1_statics s) 600000 7302250 := h
theorem lw_limb (L : Cond) (hL : ∀ (args : Array Value) (s t : State), L.after args s (.returned (some (.int 1))) t = true) :
    ArmFor flags0 classFile x code maxLocals ret World_1 tables_1 room_1 Calls_1 rest_1 Pre_1
      (fun tb e a s o t => postC L tb e a s o t ∧ Framed s o t (fieldLocs frame_1_writes a s ++ arrayLocs frame_1_arrays a s ++ staticLocs frame_1_statics s) 600000 7302250) := by
  intro l _ _ _ p e ha hc hk s m args below hf hfit hheap happ hpre
  obtain ⟨k, o, h1, h2, h3, rfl, hF⟩ := lw_comes l p e ha hc hk s m args below hf hfit hheap happ hpre
  exact ⟨k, _, h1, h2, h3, hL args s _, lw_frame hF⟩
theorem i_vc : Claimed_1_1 ∧ Claimed_1_2 := ⟨lw_limb limb_1_1 (fun args s t => by simp [limb_1_1, Cond.after, Cond.holds, Cond.value]), lw_limb limb_1_2 (fun args s t => Cond.after_iff.mpr (by
  first | (rw [show limb_1_2 = Cond.eq .result (.int 1) from rfl, Cond.eq_ints (x := 1) (y := 1) rfl rfl]; simp; done) | (simp [limb_1_2, Cond.value, Term.eval]; done)))⟩
