/-! AW: the array of kept ones -/
def rv (o : Option Nat) : Value := match o with
  | none => .null
  | some k => .ref k
theorem a_rv (g : GG) (o : Option Nat) : a_v g (rv o) = va_rf (o.map (a_ad g)) := by cases o <;> rfl
section AREF
variable {M : MD} {d mc ms k n pc : Nat} {lv : List (Option Value)} {st : List Value} {hp : AH} {post : Post}
theorem A_aald {b N i : Nat} {f : Nat → Option Nat} {x : Int32} (hd : decode M.2.1 pc = .ok (.aaload, 1)) (hc : hp[b]? = some (.inr (.inr (N, f)))) (hx : x = nI i) (hi : i < N) (hN : N < 2 ^ 31) (h : AW M d mc ms k n (pc + 1) lv (rv (f i) :: st) hp post) : AW M d mc ms k n pc lv (.int x :: .ref b :: st) hp post := by
  intro p l e R s m args below meth c g Q H locs ls F E A L
  subst hx
  have h1 := h p l e R s m args below meth c g Q H locs ls F E A L
  have e9 : (rv (f i) :: st).map (a_v g) = va_rf ((f i).map (a_ad g)) :: st.map (a_v g) := by
    show a_v g (rv (f i)) :: _ = _
    rw [a_rv]
  rw [e9] at h1
  refine va_aldq F.1 F.2.1 F.2.2.2.2.2.1.1 (A.at hc) 0 1 rfl rfl (vp_in_nI hi hN) hd ?_
  rw [nI_clamp (by omega)]
  exact h1
theorem A_aast {b N i v : Nat} {f : Nat → Option Nat} {fs : List Value} {x : Int32} (hd : decode M.2.1 pc = .ok (.aastore, 1)) (hc : hp[b]? = some (.inr (.inr (N, f)))) (hv : hp[v]? = some (oC 1 fs)) (hx : x = nI i) (hi : i < N) (hN : N < 2 ^ 31) (h : AW M d mc ms k n (pc + 1) lv st (hp.set b (.inr (.inr (N, va_up f i (some v))))) post) : AW M d mc ms k n pc lv (.ref v :: .int x :: .ref b :: st) hp post := by
  intro p l e R s m args below meth c g Q H locs ls F E A L
  subst hx
  have hK := F.2.2.2.2.2.1.1
  obtain ⟨r', hr', cellV, g1, g2, g3, -⟩ := A.at hv 0 _ rfl
  have hcls := (hK.1 1 (RX1, TX1, 2) rfl).2
  obtain ⟨kA, comp, k1, k2, k3, -⟩ := (hK.2 1 _ rfl).2
  have hcomp : comp = (g_D g).1 1 := Option.some.inj (k3.symm.trans hcls.1)
  subst hcomp
  obtain ⟨kC, hkC, -⟩ := hcls.2
  have hin : ¬ nI i < 0 ∧ (nI i).toNatClampNeg < (vp_cell (g_K g) (N, .inr (.inr (.inr (.inr (fun j => (f j).map (a_ad g))))))).slots.size := by
    refine ⟨nI_pos (by omega), ?_⟩
    rw [vp_cell_q, arrV_size, nI_clamp (by omega)]
    exact hi
  refine W.aast F.1 F.2.1 (A.at hc 0 _ rfl) (fun q h => by cases h) (fun h => by cases h) k1 k2 rfl hkC hin g1 (fun q h => by rw [g3] at h; cases h) (by rw [g2]; exact hkC) (by rw [g2]; exact va_assign hcls) rfl rfl hd fun H1 e1 z oq => ?_
  refine h p l e R s m args below meth c g Q H1 _ ls F E (A.put hc ?_ z oq _) L
  show H1[a_ad g b]? = some (vp_cell _ _)
  refine e1.trans ?_
  show some ((vp_cell (g_K g) (N, .inr (.inr (.inr (.inr (fun j => (f j).map (a_ad g))))))).setSlot _ _) = _
  rw [vp_cell_q, vp_cell_q, arrV_store, nI_clamp (by omega)]
  congr 2
  funext q
  by_cases hq : q = i
  · simp [updV, va_up, hq, va_rf]
  · simp [updV, va_up, hq]
end AREF
