/-! The judgement AW: a method of this system at a program counter, over a heap of numbered cells. Everything of the machine is hidden in it. -/
/-- the words that stay through every call -/
def gw : List Cond := lw_tbl.filter goodWord
def nestW (w : Cond) : Bool := match w with
  | .fieldLinkNest _ _ _ _ _ _ => true
  | .methodLinkNest _ _ _ _ => true
  | .arrayOver (.object _) => true
  | _ => false
/-- the words of nest mates, and that of the array of kept ones -/
def nw : List Cond := tables_1.filter nestW
theorem nw_warm {s U : State} (hW : s.WarmedH U.vm) {w : Cond} (hn : nestW w = true) (h : va_Nw w s) : va_Nw w U := by
  cases w with
  | fieldLinkNest a b c d e f => exact va_Nw.warmF hW h
  | methodLinkNest a b c d => exact va_Nw.warmM hW h
  | arrayOver ty =>
    cases ty with
    | object C => exact va_AO.moved hW.alike h
    | _ => simp [nestW] at hn
  | _ => simp [nestW] at hn
theorem nw_all {s U : State} (hW : s.WarmedH U.vm) (h : ∀ w ∈ nw, va_Nw w s) : ∀ w ∈ nw, va_Nw w U := fun w hw => nw_warm hW (List.mem_filter.mp hw).2 (h w hw)
theorem nw_moved {s U : State} (hv : s.vm = U.vm) (h : ∀ w ∈ nw, va_Nw w s) : ∀ w ∈ nw, va_Nw w U := fun w hw => by
  have hn := (List.mem_filter.mp hw).2
  have h1 := h w hw
  cases w with
  | fieldLinkNest a b c d e f => exact va_Nw.same rfl hv h1
  | methodLinkNest a b c d => exact va_Nw.same rfl hv h1
  | arrayOver ty =>
    cases ty with
    | object C => exact va_AO.moved (show s.vm.Alike U.vm by rw [← hv]; exact Vm.Alike.refl s.vm) h1
    | _ => simp [nestW] at hn
  | _ => simp [nestW] at hn
theorem gw_of {w : Cond} (h : w ∈ lw_tbl) (hg : goodWord w = true) : w ∈ gw := List.mem_filter.mpr ⟨h, hg⟩
theorem gw_t {w : Cond} (h : w ∈ tables_1) (hg : goodWord w = true) : w ∈ gw := gw_of (List.mem_append_right _ h) hg
theorem gw_good {w : Cond} (h : w ∈ gw) : goodWord w = true := (List.mem_filter.mp h).2
/-- a cell: an array of ints; an object; an array of kept ones -/
abbrev AC : Type := (Nat × (Nat → Int32)) ⊕ ((Nat × List Value) ⊕ (Nat × (Nat → Option Nat)))
abbrev AH : Type := List AC
/-- a method: name, code, locals, answer -/
abbrev MD : Type := MethodName × ByteArray × Nat × Option FieldType
abbrev GG : Type := (va_G × ClassId × ClassId) × Nat × (Nat → Nat)
def g_D (g : GG) : va_G := g.1.1
def g_I (g : GG) : ClassId := g.1.2.1
def g_K (g : GG) : ClassId := g.1.2.2
def g_b (g : GG) : Nat := g.2.1
def g_s (g : GG) : Nat → Nat := g.2.2
/-- where a numbered cell lies: from 1000 on they are the static arrays -/
def a_ad (g : GG) (k : Nat) : Nat := if k < 1000 then g_b g + k else g_s g (k - 1000)
def a_v (g : GG) (v : Value) : Value := match v with
  | .ref k => .ref (a_ad g k)
  | .int x => .int x
  | .null => .null
  | .long x => .long x
  | .float x => .float x
  | .double x => .double x
  | .retAddr x => .retAddr x
def a_c (g : GG) (c : AC) : va_E := match c with
  | .inl (n, f) => .inl (g_I g, n, .inl f)
  | .inr (.inl (ci, fs)) => .inr (ci, fs.map (a_v g))
  | .inr (.inr (n, f)) => .inl (g_K g, n, .inr (.inr (.inr (.inr (fun j => (f j).map (a_ad g))))))
/-- the heap H holds the numbered cells hp, from the place g_b on, and nothing behind them; below it is as it was -/
def a_H (g : GG) (s : State) (H : Heap) (locs : List Loc) (hp : AH) : Prop :=
  H.size = g_b g + hp.length ∧ hp.length ≤ 1000 ∧ (∀ (i : Nat) (c : AC), hp[i]? = some c → va_at (g_D g) vwCl (g_b g + i, a_c g c) H) ∧ s.heap.size ≤ H.size ∧ (∀ q : Nat, q < g_b g → H[q]? = s.heap[q]?) ∧ ∀ x ∈ locs, g_b g ≤ x.base
/-- the static arrays -/
def sa_n (j : Nat) : String := match j with
  | 0 => "SAYINGS"
  | 1 => "FIRST_PRICES"
  | 2 => "LEAST_NUMBERS"
  | _ => "MOST_NUMBERS"
def sa_l (j : Nat) : Nat := if j = 0 then 29 else 9
def sa_L (j : Nat) : List Nat := match j with
  | 0 => [0, 10, 20, 30, 41, 42, 43, 44, 51, 52, 53, 54, 61, 62, 63, 64, 65, 66, 67, 71, 72, 73, 74, 75, 76, 77, 78, 79, 80]
  | 1 => [1, 2, 3, 2, 4, 4, 3, 3, 2]
  | 2 => [0, 0, 0, 0, 1, 1, 1, 1, 0]
  | _ => [0, 0, 0, 0, 4, 4, 7, 9, 0]
def sa_f (j i : Nat) : Int32 := nI ((sa_L j).getD i 0)
def a_Z (g : GG) (U : State) (H : Heap) : Prop := ∀ j : Nat, j < 4 → va_Z "WaysTold" (sa_n j) "[I" (.ref (g_s g j)) (fun q => g_b g ≤ q) U H ∧ va_X (g_s g j) (sa_l j) (sa_f j) U H ∧ g_s g j < g_b g
/-- what the tables say -/
def a_T (g : GG) (U : State) : Prop := va_K (g_D g) vwCl [(g_I g, .int), (g_K g, .object "WaysTold$Kept")] U ∧ (∀ w ∈ nw, va_Nw w U) ∧ a_Z g U U.heap ∧ g_b g ≤ U.heap.size
def a_F (g : GG) (M : MD) (d mc ms : Nat) (p : Program) (R : Room) (s : State) (m : MethodId) (args : Array Value) (meth : Method) (c : Code) : Prop :=
  p.tables.exec = Jvm.exec ∧ c.code = M.2.1 ∧ c.maxLocals = M.2.2.1 ∧ s.vm.findClass M.1.cls = some m.cls ∧ (∀ w ∈ gw, w.before args s = true) ∧ a_T g s ∧ R.frames = d ∧ R.locals = 37 * d ∧ R.cells = mc ∧ R.slots = ms ∧ meth.name = M.1.name
/-- the locals -/
def a_L (g : GG) (nL : Nat) (ls : Array Slot) (lv : List (Option Value)) : Prop := ls.size = nL ∧ lv_wf ls ∧ ∀ (i : Nat) (v : Value), lv[i]? = some (some v) → v.category = 1 ∧ ls[i]? = some (.val (a_v g v))
def a_ret (M : MD) (pc : Nat) (r : Option Value) : Prop := (r = none ∧ M.2.2.2 = none ∧ decode M.2.1 pc = .ok (.return_, 1)) ∨ ∃ (v : Int32) (ty : FieldType), r = some (.int v) ∧ M.2.2.2 = some ty ∧ narrow ty (.int v) = .int v ∧ decode M.2.1 pc = .ok (.ireturn, 1)
abbrev Post : Type := Option Value → AH → Prop
def a_E (p : Program) (l : Launch) (e : Env) (R : Room) (s : State) (m : MethodId) (args : Array Value) (below : List Frame) (meth : Method) (c : Code) (g : GG) (M : MD) (mc ms : Nat) (Q : State → Prop) (post : Post) : Prop :=
  ∀ (r : Option Value) (hp : AH) (H : Heap) (locs : List Loc) (ls : Array Slot) (pc k n : Nat), post r hp → a_H g s H locs hp → k ≤ mc → n ≤ ms → a_ret M pc r → W p l e R s m args below meth c H locs k n Q (F0 m pc ls (r.toList.map (a_v g)))
def AW (M : MD) (d mc ms k n pc : Nat) (lv : List (Option Value)) (st : List Value) (hp : AH) (post : Post) : Prop :=
  ∀ (p : Program) (l : Launch) (e : Env) (R : Room) (s : State) (m : MethodId) (args : Array Value) (below : List Frame) (meth : Method) (c : Code) (g : GG) (Q : State → Prop) (H : Heap) (locs : List Loc) (ls : Array Slot),
    a_F g M d mc ms p R s m args meth c → a_E p l e R s m args below meth c g M mc ms Q post → a_H g s H locs hp → a_L g M.2.2.1 ls lv → W p l e R s m args below meth c H locs k n Q (F0 m pc ls (st.map (a_v g)))
/-- a method's start, as its caller leaves it -/
def a_P (g : GG) (as : List Value) (hp : AH) : Array Value → State → Prop := fun v U => v = (as.map (a_v g)).toArray ∧ a_T g U ∧ a_H g U U.heap [] hp
def a_Q (g : GG) (post : Post) : Array Value → State → Outcome → State → Prop := fun _ st oc t => ∃ (r : Option Value) (hp : AH), oc = .returned (r.map (a_v g)) ∧ post r hp ∧ a_H g st t.heap [] hp
def a_ws (M : MD) : List Cond := .code M.1 M.2.1 M.2.2.1 M.2.2.2 :: gw
def a_rm (d mc ms : Nat) : Room := { frames := d, cells := mc, slots := ms, locals := 37 * d }
/-- A CONTRACT: called with these arguments over this heap, the method returns, and post holds of its answer and of the heap behind it -/
def AS (M : MD) (d mc ms : Nat) (as : List Value) (hp : AH) (post : Post) : Prop :=
  ∀ (l : Launch) (g : GG), Met l M.1 (a_ws M) (a_rm d mc ms) (a_P g as hp) (a_Q g post) mc ms (fun q => g_b g ≤ q)
/-! ### plain facts -/
theorem a_v_cat (g : GG) (v : Value) : (a_v g v).category = v.category := by cases v <;> rfl
theorem a_ad_lt (g : GG) {k : Nat} (h : k < 1000) : a_ad g k = g_b g + k := if_pos h
theorem a_ad_st (g : GG) (j : Nat) : a_ad g (1000 + j) = g_s g j := by
  unfold a_ad
  rw [if_neg (by omega), Nat.add_sub_cancel_left]
theorem a_lt {hp : AH} {b : Nat} {c : AC} (h : hp[b]? = some c) : b < hp.length := (List.getElem?_eq_some_iff.mp h).1
theorem a_H.lt {g : GG} {s : State} {H : Heap} {locs : List Loc} {hp : AH} (A : a_H g s H locs hp) {b : Nat} {c : AC} (h : hp[b]? = some c) : b < 1000 := Nat.lt_of_lt_of_le (a_lt h) A.2.1
theorem a_H.ad {g : GG} {s : State} {H : Heap} {locs : List Loc} {hp : AH} (A : a_H g s H locs hp) {b : Nat} {c : AC} (h : hp[b]? = some c) : a_ad g b = g_b g + b := a_ad_lt g (A.lt h)
theorem a_H.at {g : GG} {s : State} {H : Heap} {locs : List Loc} {hp : AH} (A : a_H g s H locs hp) {b : Nat} {c : AC} (h : hp[b]? = some c) : va_P (g_D g) vwCl [(a_ad g b, a_c g c)] H := by
  intro k q hk
  have hz : k < 1 := (List.getElem?_eq_some_iff.mp hk).1
  rw [show k = 0 by omega] at hk
  cases hk
  rw [A.ad h]
  exact A.2.2.1 b c h
theorem a_H.S {g : GG} {s : State} {H : Heap} {locs : List Loc} {hp : AH} (A : a_H g s H locs hp) : va_S (fun q => g_b g ≤ q) s.heap H locs := ⟨A.2.2.2.1, fun q _ h => A.2.2.2.2.1 q (Nat.not_le.mp h), A.2.2.2.2.2⟩
/-- a cell is changed -/
theorem a_H.put {g : GG} {s : State} {H H1 : Heap} {locs : List Loc} {hp : AH} (A : a_H g s H locs hp) {b : Nat} {c c1 : AC} (h : hp[b]? = some c) (h1 : va_at (g_D g) vwCl (a_ad g b, a_c g c1) H1) (hz : H1.size = H.size) (ho : ∀ q : Nat, q ≠ a_ad g b → H1[q]? = H[q]?) (k : Nat) : a_H g s H1 (locs ++ [⟨a_ad g b, k⟩]) (hp.set b c1) := by
  have hb := a_lt h
  have had := A.ad h
  obtain ⟨A1, A2, A3, A4, A5, A6⟩ := A
  refine ⟨by rw [hz, A1, List.length_set], by rw [List.length_set]; exact A2, fun i x hx => ?_, by rw [hz]; exact A4, fun q hq => ?_, fun x hx => ?_⟩
  · by_cases hi : i = b
    · subst hi
      rw [List.getElem?_set_self hb] at hx
      cases hx
      rw [← had]
      exact h1
    · rw [List.getElem?_set_ne (Ne.symm hi)] at hx
      exact (A3 i x hx).kept (ho _ (by rw [had]; show g_b g + i ≠ g_b g + b; omega))
  · rw [ho q (by rw [had]; omega)]
    exact A5 q hq
  · rcases List.mem_append.mp hx with h2 | h2
    · exact A6 x h2
    · rw [List.mem_singleton.mp h2]
      show g_b g ≤ a_ad g b
      rw [had]
      omega
/-- a cell is made -/
theorem a_H.push {g : GG} {s : State} {H H1 : Heap} {locs : List Loc} {hp : AH} (A : a_H g s H locs hp) {c1 : AC} (hl : hp.length < 1000) (h1 : va_at (g_D g) vwCl (H.size, a_c g c1) H1) (hz : H1.size = H.size + 1) (ho : ∀ q : Nat, q < H.size → H1[q]? = H[q]?) : a_H g s H1 locs (hp ++ [c1]) := by
  obtain ⟨A1, A2, A3, A4, A5, A6⟩ := A
  refine ⟨by rw [hz, A1, List.length_append]; simp; omega, by rw [List.length_append]; simp; omega, fun i x hx => ?_, by omega, fun q hq => ?_, A6⟩
  · by_cases hi : i < hp.length
    · rw [List.getElem?_append_left hi] at hx
      exact (A3 i x hx).kept (ho _ (by show g_b g + i < H.size; omega))
    · rw [List.getElem?_append_right (by omega)] at hx
      have hz2 : i - hp.length < 1 := (List.getElem?_eq_some_iff.mp hx).1
      rw [show i - hp.length = 0 by omega] at hx
      cases hx
      rw [show g_b g + i = H.size by omega]
      exact h1
  · rw [ho q (by omega)]
    exact A5 q hq
/-- pairs of the locals -/
def a_pr (g : GG) (lv : List (Option Value)) : List (Nat × Value) := (List.range lv.length).filterMap (fun j => match lv[j]? with
  | some (some v) => some (j, a_v g v)
  | _ => none)
theorem a_pr_mem {g : GG} {lv : List (Option Value)} {q : Nat × Value} : q ∈ a_pr g lv ↔ ∃ v, lv[q.1]? = some (some v) ∧ q.2 = a_v g v := by
  obtain ⟨j, w⟩ := q
  unfold a_pr
  rw [List.mem_filterMap]
  constructor
  · rintro ⟨i, hi, h⟩
    split at h
    · next v hv =>
      cases h
      exact ⟨v, hv, rfl⟩
    · cases h
  · rintro ⟨v, hv, rfl⟩
    refine ⟨j, List.mem_range.mpr (List.getElem?_eq_some_iff.mp hv).1, ?_⟩
    simp only at hv
    simp [hv]
theorem a_L.has {g : GG} {nL : Nat} {ls : Array Slot} {lv : List (Option Value)} (L : a_L g nL ls lv) : lv_has ls nL (a_pr g lv) := ⟨L.1, L.2.1, fun q hq => by
  obtain ⟨v, hv, he⟩ := a_pr_mem.mp hq
  rw [he]
  exact (L.2.2 q.1 v hv).2⟩
theorem a_L.set {g : GG} {nL : Nat} {ls ls' : Array Slot} {lv : List (Option Value)} (L : a_L g nL ls lv) {i : Nat} {v : Value} (hc : v.category = 1) (h : lv_has ls' nL ((i, a_v g v) :: (a_pr g lv).filter (fun q => !(q.1 == i) && !(q.1 + 1 == i && q.2.category == 2)))) : a_L g nL ls' (lv.set i (some v)) := by
  refine ⟨h.1, h.2.1, fun j w hw => ?_⟩
  by_cases hj : j = i
  · subst hj
    have hl : j < lv.length := by
      have := (List.getElem?_eq_some_iff.mp hw).1
      simpa using this
    rw [List.getElem?_set_self hl] at hw
    cases hw
    exact ⟨hc, h.2.2 (j, a_v g v) List.mem_cons_self⟩
  · rw [List.getElem?_set_ne (Ne.symm hj)] at hw
    have hw2 := (L.2.2 j w hw).1
    refine ⟨hw2, h.2.2 (j, a_v g w) (List.mem_cons_of_mem _ (List.mem_filter.mpr ⟨a_pr_mem.mpr ⟨w, hw, rfl⟩, ?_⟩))⟩
    simp [hj, a_v_cat, hw2]
