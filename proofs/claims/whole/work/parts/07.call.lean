/-! calls whose end is known: an int, or nothing, and the heap -/
abbrev P1 (v : Int32) (h2 : AH) : Post := fun r h => r = some (.int v) ∧ h = h2
abbrev P0 (h2 : AH) : Post := fun r h => r = none ∧ h = h2
section AC7
variable {M : MD} {d mc ms k n pc : Nat} {lv : List (Option Value)} {st : List Value} {hp : AH} {post : Post}
theorem A_csi {M' : MD} {idx np d' : Nat} {as rest : List Value} {v : Int32} {h2 : AH} (cb : a_cs M.1.cls idx M' np) (hs : AS M' d' 0 0 as hp (P1 v h2)) (hd : decode M.2.1 pc = .ok (.invokestatic idx, 3)) (hnp : as.length = np) (hst : st = as.reverse ++ rest) (hrest : (rest.map fun v => v.category).sum ≤ 8) (hdd : d' + 1 ≤ d) (hk : k ≤ mc) (hm : n ≤ ms) (h : AW M d mc ms k n (pc + 3) lv (.int v :: rest) h2 post) : AW M d mc ms k n pc lv st hp post :=
  A_callS cb hs hd hnp hst hrest hdd hk hm (fun r hp' hq => by obtain ⟨rfl, rfl⟩ := hq; exact h)
theorem A_cvi {M' : MD} {idx np d' b ci : Nat} {as rest fs : List Value} {v : Int32} {h2 : AH} (cb : a_cv M.1.cls idx M' np) (hs : AS M' d' 0 0 (.ref b :: as) hp (P1 v h2)) (hd : decode M.2.1 pc = .ok (.invokevirtual idx, 3)) (hnp : as.length = np) (hst : st = as.reverse ++ .ref b :: rest) (hb : hp[b]? = some (.inr (.inl (ci, fs)))) (hci : (vwCl[ci]?).map (fun q => q.1) = some M'.1.cls) (hrest : (rest.map fun v => v.category).sum ≤ 8) (hdd : d' + 1 ≤ d) (hk : k ≤ mc) (hm : n ≤ ms) (h : AW M d mc ms k n (pc + 3) lv (.int v :: rest) h2 post) : AW M d mc ms k n pc lv st hp post :=
  A_callV cb hs hd hnp hst hb hci hrest hdd hk hm (fun r hp' hq => by obtain ⟨rfl, rfl⟩ := hq; exact h)
theorem A_cvv {M' : MD} {idx np d' b ci : Nat} {as rest fs : List Value} {h2 : AH} (cb : a_cv M.1.cls idx M' np) (hs : AS M' d' 0 0 (.ref b :: as) hp (P0 h2)) (hd : decode M.2.1 pc = .ok (.invokevirtual idx, 3)) (hnp : as.length = np) (hst : st = as.reverse ++ .ref b :: rest) (hb : hp[b]? = some (.inr (.inl (ci, fs)))) (hci : (vwCl[ci]?).map (fun q => q.1) = some M'.1.cls) (hrest : (rest.map fun v => v.category).sum ≤ 8) (hdd : d' + 1 ≤ d) (hk : k ≤ mc) (hm : n ≤ ms) (h : AW M d mc ms k n (pc + 3) lv rest h2 post) : AW M d mc ms k n pc lv st hp post :=
  A_callV cb hs hd hnp hst hb hci hrest hdd hk hm (fun r hp' hq => by obtain ⟨rfl, rfl⟩ := hq; exact h)
theorem A_civ {M' : MD} {idx np d' mc' ms' b : Nat} {as rest : List Value} {h2 : AH} (cb : a_ci M.1.cls idx M' np) (hs : AS M' d' mc' ms' (.ref b :: as) hp (P0 h2)) (hd : decode M.2.1 pc = .ok (.invokespecial idx, 3)) (hnp : as.length = np) (hst : st = as.reverse ++ .ref b :: rest) (hrest : (rest.map fun v => v.category).sum ≤ 8) (hdd : d' + 1 ≤ d) (hk : k + mc' ≤ mc) (hm : n + ms' ≤ ms) (h : AW M d mc ms (k + mc') (n + ms') (pc + 3) lv rest h2 post) : AW M d mc ms k n pc lv st hp post :=
  A_callI cb hs hd hnp hst hrest hdd hk hm (fun r hp' hq => by obtain ⟨rfl, rfl⟩ := hq; exact h)
theorem AS.go {as : List Value} {lv : List (Option Value)} (hlv : as.map some ++ List.replicate (M.2.2.1 - as.length) none = lv) (h : AW M d mc ms 0 0 0 lv [] hp post) (hy : plainName M.1.cls = true) (hc : as.all (fun v => v.category == 1) = true) (hl : as.length ≤ M.2.2.1) : AS M d mc ms as hp post :=
  AS.of hy (fun v hv => by simpa using List.all_eq_true.mp hc v hv) hl (by rw [hlv]; exact h)
end AC7
/-- a truth value as an int -/
def bI (b : Bool) : Int32 := if b then 1 else 0
theorem bI_n (b : Bool) : narrow .boolean (.int (bI b)) = .int (bI b) := by cases b <;> rfl
theorem bI_t : bI true = 1 := rfl
theorem bI_f : bI false = 0 := rfl
theorem bI_ne (b : Bool) : (¬ bI b = 0) ↔ b = true := by cases b <;> simp [bI]
theorem bI_eq (b : Bool) : bI b = 0 ↔ b = false := by cases b <;> simp [bI]
abbrev oC (ci : Nat) (fs : List Value) : AC := .inr (.inl (ci, fs))
abbrev aC (N : Nat) (f : Nat → Int32) : AC := .inl (N, f)
/-- numbers of the machine that lie between bounds -/
theorem nI_get {x : Int32} {N : Nat} (hN : N < 2 ^ 31) (h0 : ¬ x < 0) (h1 : ¬ nI N ≤ x) : ∃ j : Nat, j < N ∧ x = nI j := by
  rcases pk_ix x hN with h | h | h
  · exact absurd h h0
  · exact absurd h h1
  · exact h
theorem nI_lit (i : Nat) : (OfNat.ofNat i : Int32) = nI i := rfl
