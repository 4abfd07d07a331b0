/-! route: the exits of both sides -/
section WAY
variable {n : NS} {N : MN} {T : Nat} {dist : Nat → Option Nat} {D : Nat → Nat}
theorem ka_R {m : NS} (hm : m.2.2.2.1 = (fun x => oI (N.2.2.1 x))) (hv : VN N) {x e : Nat} (hx : x < N.1) (he : e < 4) : kaI m.2.2.2.1 (nI x) (nI e) = oI (rNX N.2.2.1 x e) := by
  have hK := hv.1
  unfold kaI
  rw [hm, acI_n (by omega) he]
  cases hy : N.2.2.1 (4 * x + e) with
  | none => rw [rNX_no hy, if_pos (show oI none = -1 from rfl)]; rfl
  | some y =>
    have hy9 := hv.vl _ y (by omega) hy
    rw [rNX_i hy, if_neg (oI_some (by omega))]
    exact dv4 (by omega)
theorem en_R {m : NS} (hm1 : m.1 = nI N.1) (hm : m.2.2.2.1 = (fun x => oI (N.2.2.1 x))) (hd : ∀ x, x < 24 → m.2.2.2.2.2.1 x = oI (dist x)) (hbd : ∀ x d, x < N.1 → dist x = some d → d ≤ 24) (hv : VN N) (hD : ∀ x, x < N.1 → D x = dF dist x) (hF : FX N.1 4 (rNX N.2.2.1) one1 (rG T) BIG D) {x : Nat} (hx : x < N.1) (hxT : ¬ x = T) (hlt : D x < BIG) (f : Nat) : ∀ i, i + f = 4 → i ≤ pkF 4 (rNX N.2.2.1) one1 D x → enL m (nI x) f i = nI (pkF 4 (rNX N.2.2.1) one1 D x) := by
  have hK := hv.1
  have hB : BIG = 268435456 := rfl
  obtain ⟨p1, p2, p3, p4, p5⟩ := hF.pick (rNX_ok hv) hx (decide_eq_false hxT) hlt
  have p4 : D x = 1 + D (pkN 4 (rNX N.2.2.1) one1 D x) := p4
  have hgs : ∀ y d, y < N.1 → dist y = some d → D y = d := fun y d hy h => by rw [hD y hy]; unfold dF; rw [h]; rfl
  have hgn : ∀ y, y < N.1 → dist y = none → D y = BIG := fun y hy h => by rw [hD y hy]; unfold dF; rw [h]; rfl
  have hsi : ∀ y, y < N.1 → siI m.1 m.2.2.2.2.2.1 (nI y) = oI (dist y) := fun y hy => by
    unfold siI
    rw [hm1, if_pos (hasI_n hy hK), nI_clamp (by omega)]
    exact hd y (by omega)
  have hdx : dist x = some (D x) := by
    cases h : dist x with
    | none => rw [hgn x hx h] at hlt; omega
    | some d => rw [hgs x d hx h]
  have hx24 := hbd x _ hx hdx
  have hpre : oI (some (D x)) - 1 = nI (D x - 1) := by
    show nI (D x) - 1 = _
    exact pk_sub (b := 1) (by omega)
  induction f with
  | zero => intro i hi hle; omega
  | succ f ih =>
    intro i hi hle
    show (if kaI m.2.2.2.1 (nI x) (nI i) = -1 then enL m (nI x) f (i + 1) else if siI m.1 m.2.2.2.2.2.1 (kaI m.2.2.2.1 (nI x) (nI i)) = siI m.1 m.2.2.2.2.2.1 (nI x) - 1 then nI i else enL m (nI x) f (i + 1)) = _
    rw [ka_R hm hv hx (by omega), hsi x hx, hdx, hpre]
    by_cases e : i = pkF 4 (rNX N.2.2.1) one1 D x
    · have hdt : dist (pkN 4 (rNX N.2.2.1) one1 D x) = some (D x - 1) := by
        cases h : dist (pkN 4 (rNX N.2.2.1) one1 D x) with
        | none => rw [hgn _ p3 h] at p4; omega
        | some d => rw [hgs _ d p3 h] at p4; congr 1; omega
      rw [e, p2, if_neg (oI_some (by omega)), if_pos (by
        show siI m.1 m.2.2.2.2.2.1 (nI (pkN 4 (rNX N.2.2.1) one1 D x)) = _
        rw [hsi _ p3, hdt]
        rfl)]
    · have hno := p5 i (by omega)
      cases ht : rNX N.2.2.1 x i with
      | none =>
        rw [if_pos (show oI none = -1 from rfl)]
        exact ih (i + 1) (by omega) (by omega)
      | some t =>
        have htN := rNX_ok hv x i t hx (by omega) ht
        rw [pkP_some ht] at hno
        have hno2 : ¬ D x = 1 + D t := of_decide_eq_false hno
        rw [if_neg (oI_some (by omega)), if_neg (by
          show ¬ siI m.1 m.2.2.2.2.2.1 (nI t) = _
          rw [hsi t htN]
          cases h : dist t with
          | none =>
            intro q
            exact nI_nm1 (y := D x - 1) (by omega) q.symm
          | some d =>
            intro q
            have h24 := hbd t d htN h
            have q2 := (nI_eq (by omega) (by omega)).mp (show nI d = nI (D x - 1) from q)
            rw [hgs t d htN h] at hno2
            omega)]
        exact ih (i + 1) (by omega) (by omega)
theorem as_R {m : NS} (hm1 : m.1 = nI N.1) (hm : m.2.2.2.1 = (fun x => oI (N.2.2.1 x))) (hd : ∀ x, x < 24 → m.2.2.2.2.2.1 x = oI (dist x)) (hbd : ∀ x d, x < N.1 → dist x = some d → d ≤ 24) (hv : VN N) (hD : ∀ x, x < N.1 → D x = dF dist x) (hF : FX N.1 4 (rNX N.2.2.1) one1 (rG T) BIG D) (f : Nat) : ∀ (x : Nat) (wy : YS) (r : MR) (fc : Nat), x < N.1 → D x = f → D x < BIG → yW wy r → r.2.2.2.1 + f ≤ 30 → (∀ i, i < r.2.2.2.1 → r.2.2.2.2 i < 4) → rp N.2.2.1 r.2.2.2.2 r.2.1 r.2.2.1 r.2.2.2.1 = some (x, fc) → rtC N.2.2.1 D T f x ∧ yW (asL m f (nI x) wy) (rtS N.2.2.1 D f x r) ∧ (rtS N.2.2.1 D f x r).1 = r.1 ∧ (rtS N.2.2.1 D f x r).2.1 = r.2.1 ∧ (rtS N.2.2.1 D f x r).2.2.1 = r.2.2.1 ∧ (rtS N.2.2.1 D f x r).2.2.2.1 = r.2.2.2.1 + f ∧ (∀ i, i < (rtS N.2.2.1 D f x r).2.2.2.1 → (rtS N.2.2.1 D f x r).2.2.2.2 i < 4) ∧ (rp N.2.2.1 (rtS N.2.2.1 D f x r).2.2.2.2 r.2.1 r.2.2.1 (rtS N.2.2.1 D f x r).2.2.2.1).isSome = true := by
  have hK := hv.1
  have hB : BIG = 268435456 := rfl
  induction f with
  | zero =>
    intro x wy r fc hx hf hlt hy hm30 h4 hrp
    refine ⟨?_, hy, rfl, rfl, rfl, rfl, h4, by show (rp N.2.2.1 r.2.2.2.2 r.2.1 r.2.2.1 r.2.2.2.1).isSome = true; rw [hrp]; rfl⟩
    show x = T
    cases g : rG T x with
    | true => exact of_decide_eq_true g
    | false =>
      obtain ⟨s, t, hs, ht, e⟩ := (hF x hx).2.2.2 g hlt
      have e : D x = 1 + D t := e
      omega
  | succ f ih =>
    intro x wy r fc hx hf hlt hy hm30 h4 hrp
    have hxT : ¬ x = T := fun q => by
      have := (hF x hx).1 (decide_eq_true q)
      omega
    obtain ⟨p1, p2, p3, p4, p5⟩ := hF.pick (rNX_ok hv) hx (decide_eq_false hxT) hlt
    have p4 : D x = 1 + D (pkN 4 (rNX N.2.2.1) one1 D x) := p4
    have hen := en_R hm1 hm hd hbd hv hD hF hx hxT hlt 4 0 rfl (Nat.zero_le _)
    obtain ⟨y, hy2, hy3⟩ := rNX_e p2
    have e1 : asL m (f + 1) (nI x) wy = asL m f (kaI m.2.2.2.1 (nI x) (enL m (nI x) 4 0)) (yA wy (enL m (nI x) 4 0)) := rfl
    have hka : kaI m.2.2.2.1 (nI x) (nI (pkF 4 (rNX N.2.2.1) one1 D x)) = nI (pkN 4 (rNX N.2.2.1) one1 D x) := by rw [ka_R hm hv hx p1, p2]; rfl
    rw [e1, hen, hka]
    have hrp2 : rp N.2.2.1 (updN r.2.2.2.2 r.2.2.2.1 (pkF 4 (rNX N.2.2.1) one1 D x)) r.2.1 r.2.2.1 (r.2.2.2.1 + 1) = some (pkN 4 (rNX N.2.2.1) one1 D x, (y + 2) % 4) := by
      have h1 : rp N.2.2.1 (updN r.2.2.2.2 r.2.2.2.1 (pkF 4 (rNX N.2.2.1) one1 D x)) r.2.1 r.2.2.1 r.2.2.2.1 = some (x, fc) := by
        rw [← hrp]
        exact rp_cong _ (fun j hj => updN_n (by omega))
      rw [rp_s h1, updN_s]
      show (match N.2.2.1 (4 * x + pkF 4 (rNX N.2.2.1) one1 D x) with
        | none => none
        | some y => some (y / 4, (y + 2) % 4)) = _
      rw [hy2, hy3]
    have hyW : yW (yA wy (nI (pkF 4 (rNX N.2.2.1) one1 D x))) (r.1, r.2.1, r.2.2.1, r.2.2.2.1 + 1, updN r.2.2.2.2 r.2.2.2.1 (pkF 4 (rNX N.2.2.1) one1 D x)) := by
      refine ⟨hy.1, hy.2.1, hy.2.2.1, ?_, fun i hi => ?_⟩
      · show adZ 30 wy.2.2.2.1 = nI (r.2.2.2.1 + 1)
        rw [hy.2.2.2.1, adZ_n (by decide) (by omega), if_pos (by omega)]
      · have hi : i < r.2.2.2.1 + 1 := hi
        show adF 30 wy.2.2.2.1 wy.2.2.2.2 (nI (pkF 4 (rNX N.2.2.1) one1 D x)) i = nI (updN r.2.2.2.2 r.2.2.2.1 (pkF 4 (rNX N.2.2.1) one1 D x) i)
        rw [hy.2.2.2.1, adF_n (by decide) (by omega), if_pos (by omega)]
        by_cases q : i = r.2.2.2.1
        · rw [q, pk_us, updN_s]
        · rw [pk_un q, updN_n q]
          exact hy.2.2.2.2 i (by omega)
    obtain ⟨i1, i2, i3, i4, i5, i6, i7, i8⟩ := ih (pkN 4 (rNX N.2.2.1) one1 D x) (yA wy (nI (pkF 4 (rNX N.2.2.1) one1 D x))) (r.1, r.2.1, r.2.2.1, r.2.2.2.1 + 1, updN r.2.2.2.2 r.2.2.2.1 (pkF 4 (rNX N.2.2.1) one1 D x)) ((y + 2) % 4) p3 (by omega) (by omega) hyW (by show r.2.2.2.1 + 1 + f ≤ 30; omega) (fun i hi => by
      have hi : i < r.2.2.2.1 + 1 := hi
      show updN r.2.2.2.2 r.2.2.2.1 (pkF 4 (rNX N.2.2.1) one1 D x) i < 4
      by_cases q : i = r.2.2.2.1
      · rw [q, updN_s]
        exact p1
      · rw [updN_n q]
        exact h4 i (by omega)) hrp2
    exact ⟨⟨hxT, p1, i1⟩, i2, i3, i4, i5, by have i6 : _ = r.2.2.2.1 + 1 + f := i6; show (rtS N.2.2.1 D f (pkN 4 (rNX N.2.2.1) one1 D x) _).2.2.2.1 = r.2.2.2.1 + (f + 1); omega, i7, i8⟩
theorem route_R {wy : YS} {r : MR} {fr : Nat → Nat} (hn : nR n N) (hv : VN N) (hy : yW wy r) (hr : VR N r) (h1 : r.1 = true) (hT : T < N.1) : ∃ Dn, Dn ≤ 30 ∧ (¬ rtD n (nI T) wy = -1 → rtD n (nI T) wy = nI Dn) ∧ (rtD n (nI T) wy = -1 ↔ raF N.2.2.1 N.1 T fr r.2.1 = BIG) ∧ (¬ raF N.2.2.1 N.1 T fr r.2.1 = BIG → rtC N.2.2.1 (raF N.2.2.1 N.1 T fr) T Dn r.2.1 ∧ yW (rtY n (nI T) wy Dn) (rtS N.2.2.1 (raF N.2.2.1 N.1 T fr) Dn r.2.1 (r.1, r.2.1, r.2.2.1, 0, r.2.2.2.2)) ∧ VR N (rtS N.2.2.1 (raF N.2.2.1 N.1 T fr) Dn r.2.1 (r.1, r.2.1, r.2.2.1, 0, r.2.2.2.2))) := by
  have hK := hv.1
  have hB : BIG = 268435456 := rfl
  obtain ⟨dist, hd, hbd, hFd⟩ := mt_R hn hv hT
  have hF := ra_FX (T := T) (fr := fr) hv
  have hD := hF.uniq (rNX_ok hv) (fun _ _ => Nat.le_refl 1) hFd
  have hkp := mt_keep (n := n) (k := nI T)
  obtain ⟨r6, r7⟩ := hr.2 h1
  have hrt : rtD n (nI T) wy = oI (dist r.2.1) := by
    unfold rtD siI
    rw [hy.2.1, hkp.1, hn.1, if_pos (hasI_n r6 hK), nI_clamp (by omega)]
    exact hd _ (by omega)
  generalize raF N.2.2.1 N.1 T fr = D at hF hD
  have hgs : ∀ d, dist r.2.1 = some d → D r.2.1 = d := fun d h => by rw [hD _ r6]; unfold dF; rw [h]; rfl
  have hgn : dist r.2.1 = none → D r.2.1 = BIG := fun h => by rw [hD _ r6]; unfold dF; rw [h]; rfl
  cases hq : dist r.2.1 with
  | none =>
    refine ⟨0, by omega, fun q => absurd (by rw [hrt, hq]; rfl) q, ⟨fun _ => hgn hq, fun _ => by rw [hrt, hq]; rfl⟩, fun q => absurd (hgn hq) q⟩
  | some d =>
    have hd24 := hbd _ d r6 hq
    have hDd := hgs d hq
    have hmR := as_R (m := mtN n (nI T)) (hkp.1.trans hn.1) (hkp.2.2.2.1.trans hn.2.2.1) hd hbd hv hD hF d r.2.1 (wy.1, wy.2.1, wy.2.2.1, 0, wy.2.2.2.2) (r.1, r.2.1, r.2.2.1, 0, r.2.2.2.2) r.2.2.1 r6 hDd (by omega) ⟨hy.1, hy.2.1, hy.2.2.1, rfl, fun i hi => absurd hi (Nat.not_lt_zero i)⟩ (by show 0 + d ≤ 30; omega) (fun i hi => absurd hi (Nat.not_lt_zero i)) rfl
    obtain ⟨i1, i2, i3, i4, i5, i6, i7, i8⟩ := hmR
    refine ⟨d, by omega, fun _ => by rw [hrt, hq]; rfl, ⟨fun q => absurd q (by rw [hrt, hq]; exact oI_some (by omega)), fun q => by omega⟩, fun _ => ⟨i1, ?_, ?_⟩⟩
    · unfold rtY
      rw [hy.2.1] at i2 ⊢
      exact i2
    · have i4 : _ = r.2.1 := i4
      have i5 : _ = r.2.2.1 := i5
      have i6 : _ = 0 + d := i6
      refine ⟨⟨by rw [i4]; exact hr.1.1, by rw [i5]; exact hr.1.2.1, by rw [i6]; omega, i7⟩, fun _ => ⟨by rw [i4]; exact r6, ?_⟩⟩
      rw [i4, i5]
      exact i8
end WAY
