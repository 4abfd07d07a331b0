/-! the constructor of the model -/
def mdH (c : XV) (f : Nat → Int32) : AH := XH c ++ [oC 7 [.ref 26, .int 0, .ref 27, .ref 28, .ref 29, .int 511, .ref 30, .ref 31, .int 0, .int 0, .int 0, .int 0, .ref 32, .int 0, .int 0, .int 0, .int 0, .int 0, .ref 33, .ref 34, .ref 35, .ref 36, .ref 37, .ref 38, .ref 39, .ref 40, .int 0, .int 0, .int 0, .ref 41, .int 0, .ref 42, .ref 43, .ref 44, .ref 45, .ref 46, .ref 47, .ref 48], aC 24 (fun _ => 0), aC 96 f, aC 96 (fun _ => 0), aC 9 (upd (upd (upd (upd (upd (upd (upd (upd (upd (fun _ => 0) 0 1) 1 2) 2 3) 3 2) 4 4) 5 4) 6 3) 7 3) 8 2), aC 60 (fun _ => 0), aC 60 (fun _ => 0), aC 30 (fun _ => 0), aC 200 (fun _ => 0), aC 8 (fun _ => 0), aC 8 (fun _ => 0), aC 240 (fun _ => 0), aC 8 (fun _ => 0), aC 480 (fun _ => 0), aC 480 (fun _ => 0), aC 8 (fun _ => 0), aC 30 (fun _ => 0), aC 31 (fun _ => 0), aC 31 (fun _ => 0), aC 24 (fun _ => 0), aC 96 (fun _ => 0), aC 96 (fun _ => 0), aC 96 (fun _ => 0), aC 96 (fun _ => 0)]
set_option maxHeartbeats 4000000 in
set_option maxRecDepth 100000 in
theorem mlp_init (c : XV) (m : Nat) : ∀ (i : Nat) (f : Nat → Int32) (_ : i + m = 96), AW mX7_init 1 23 2307 23 2307 240 [some (.ref 25), some (.int (nI i))] [] (mdH c f) (P0 (mdH c (fiL (-1) m i f))) := by
  induction m with
  | zero =>
    intro i f hi
    refine A_iload1 (pc := 240) dX7_init_240 ?_
    refine A_bipush (pc := 241) (v := 96) dX7_init_241 (by decide) ?_
    refine A_icmp_ge (pc := 243) (tgt := 259) dX7_init_243 (by decide) (fun c243 => ?_) (fun c243 => absurd (show nI 96 ≤ nI i from nI_le (by omega) (by omega)) c243)
    exact A_vret (pc := 259) dX7_init_259 rfl (by decide) (by decide) (⟨rfl, rfl⟩)
  | succ m ih =>
    intro i f hi
    refine A_iload1 (pc := 240) dX7_init_240 ?_
    refine A_bipush (pc := 241) (v := 96) dX7_init_241 (by decide) ?_
    refine A_icmp_ge (pc := 243) (tgt := 259) dX7_init_243 (by decide) (fun c243 => absurd c243 (show ¬ nI 96 ≤ nI i from nI_ge (by omega) (by omega))) (fun c243 => ?_)
    refine A_aload0 (pc := 246) dX7_init_246 ?_
    refine A_getf (pc := 247) flX7_13 dX7_init_247 rfl rfl ?_
    refine A_iload1 (pc := 250) dX7_init_250 ?_
    refine A_iconst (pc := 251) (v := -1) dX7_init_251 (by decide) ?_
    refine A_iast (pc := 252) dX7_init_252 rfl (vp_in_nI (by omega) (by decide)) ?_
    refine AW.heq (hp' := mdH c (upd f i (-1))) (by rw [nI_clamp (by omega)]; rfl) ?_
    refine A_iinc1 (pc := 253) dX7_init_253 (by decide) (nI_1 i) ?_
    refine A_goto (pc := 256) (tgt := 240) dX7_init_256 (by decide) ?_
    simp only [fiL]
    exact ih (i + 1) _ (by omega)

set_option maxHeartbeats 4000000 in
set_option maxRecDepth 100000 in
theorem mp_init (c : XV) : AS mX7_init 1 23 2307 [.ref 25] (XH c ++ [oC 7 [.null, .int 0, .null, .null, .null, .int 0, .null, .null, .int 0, .int 0, .int 0, .int 0, .null, .int 0, .int 0, .int 0, .int 0, .int 0, .null, .null, .null, .null, .null, .null, .null, .null, .int 0, .int 0, .int 0, .null, .int 0, .null, .null, .null, .null, .null, .null, .null]]) (P0 (mdH c (fiL (-1) 96 0 (fun _ => 0)))) := by
  refine AS.go (lv := [some (.ref 25), none]) rfl ?_ (by decide +kernel) rfl (Nat.le_of_ble_eq_true rfl)
  refine A_aload0 (pc := 0) dX7_init_0 ?_
  refine A_objInit (pc := 1) oiX7_3 dX7_init_1 (by decide) (Nat.le_of_ble_eq_true rfl) ?_
  refine A_aload0 (pc := 4) dX7_init_4 ?_
  refine A_bipush (pc := 5) (v := 24) dX7_init_5 (by decide) ?_
  refine A_newa (pc := 7) (N := 24) rfl (by decide) dX7_init_7 (by decide) (by decide) (Nat.le_of_ble_eq_true rfl) ?_
  refine A_putF (pc := 9) flX7_9 ft7_0 (fun q hq => by cases hq; rfl) rfl dX7_init_9 rfl (Nat.le_of_ble_eq_true rfl) (fun _ => ⟨rfl, rfl⟩) (fun q hq => by cases hq; exact fwX7_9) ?_
  refine AW.heq (hp' := XH c ++ [oC 7 [.ref 26, .int 0, .null, .null, .null, .int 0, .null, .null, .int 0, .int 0, .int 0, .int 0, .null, .int 0, .int 0, .int 0, .int 0, .int 0, .null, .null, .null, .null, .null, .null, .null, .null, .int 0, .int 0, .int 0, .null, .int 0, .null, .null, .null, .null, .null, .null, .null], aC 24 (fun _ => 0)]) rfl ?_
  refine A_aload0 (pc := 12) dX7_init_12 ?_
  refine A_bipush (pc := 13) (v := 96) dX7_init_13 (by decide) ?_
  refine A_newa (pc := 15) (N := 96) rfl (by decide) dX7_init_15 (by decide) (by decide) (Nat.le_of_ble_eq_true rfl) ?_
  refine A_putF (pc := 17) flX7_13 ft7_2 (fun q hq => by cases hq; rfl) rfl dX7_init_17 rfl (Nat.le_of_ble_eq_true rfl) (fun _ => ⟨rfl, rfl⟩) (fun q hq => by cases hq; exact fwX7_13) ?_
  refine AW.heq (hp' := XH c ++ [oC 7 [.ref 26, .int 0, .ref 27, .null, .null, .int 0, .null, .null, .int 0, .int 0, .int 0, .int 0, .null, .int 0, .int 0, .int 0, .int 0, .int 0, .null, .null, .null, .null, .null, .null, .null, .null, .int 0, .int 0, .int 0, .null, .int 0, .null, .null, .null, .null, .null, .null, .null], aC 24 (fun _ => 0), aC 96 (fun _ => 0)]) rfl ?_
  refine A_aload0 (pc := 20) dX7_init_20 ?_
  refine A_bipush (pc := 21) (v := 96) dX7_init_21 (by decide) ?_
  refine A_newa (pc := 23) (N := 96) rfl (by decide) dX7_init_23 (by decide) (by decide) (Nat.le_of_ble_eq_true rfl) ?_
  refine A_putF (pc := 25) flX7_16 ft7_3 (fun q hq => by cases hq; rfl) rfl dX7_init_25 rfl (Nat.le_of_ble_eq_true rfl) (fun _ => ⟨rfl, rfl⟩) (fun q hq => by cases hq; exact fwX7_16) ?_
  refine AW.heq (hp' := XH c ++ [oC 7 [.ref 26, .int 0, .ref 27, .ref 28, .null, .int 0, .null, .null, .int 0, .int 0, .int 0, .int 0, .null, .int 0, .int 0, .int 0, .int 0, .int 0, .null, .null, .null, .null, .null, .null, .null, .null, .int 0, .int 0, .int 0, .null, .int 0, .null, .null, .null, .null, .null, .null, .null], aC 24 (fun _ => 0), aC 96 (fun _ => 0), aC 96 (fun _ => 0)]) rfl ?_
  refine A_aload0 (pc := 28) dX7_init_28 ?_
  refine A_bipush (pc := 29) (v := 9) dX7_init_29 (by decide) ?_
  refine A_newa (pc := 31) (N := 9) rfl (by decide) dX7_init_31 (by decide) (by decide) (Nat.le_of_ble_eq_true rfl) ?_
  refine A_dup (pc := 33) dX7_init_33 rfl ?_
  refine A_iconst (pc := 34) (v := 0) dX7_init_34 (by decide) ?_
  refine A_iconst (pc := 35) (v := 1) dX7_init_35 (by decide) ?_
  refine A_iast (pc := 36) dX7_init_36 rfl (vp_in_nI (n := 0) (N := 9) (by decide) (by decide)) ?_
  refine AW.heq (hp' := XH c ++ [oC 7 [.ref 26, .int 0, .ref 27, .ref 28, .null, .int 0, .null, .null, .int 0, .int 0, .int 0, .int 0, .null, .int 0, .int 0, .int 0, .int 0, .int 0, .null, .null, .null, .null, .null, .null, .null, .null, .int 0, .int 0, .int 0, .null, .int 0, .null, .null, .null, .null, .null, .null, .null], aC 24 (fun _ => 0), aC 96 (fun _ => 0), aC 96 (fun _ => 0), aC 9 (upd (fun _ => 0) 0 1)]) rfl ?_
  refine A_dup (pc := 37) dX7_init_37 rfl ?_
  refine A_iconst (pc := 38) (v := 1) dX7_init_38 (by decide) ?_
  refine A_iconst (pc := 39) (v := 2) dX7_init_39 (by decide) ?_
  refine A_iast (pc := 40) dX7_init_40 rfl (vp_in_nI (n := 1) (N := 9) (by decide) (by decide)) ?_
  refine AW.heq (hp' := XH c ++ [oC 7 [.ref 26, .int 0, .ref 27, .ref 28, .null, .int 0, .null, .null, .int 0, .int 0, .int 0, .int 0, .null, .int 0, .int 0, .int 0, .int 0, .int 0, .null, .null, .null, .null, .null, .null, .null, .null, .int 0, .int 0, .int 0, .null, .int 0, .null, .null, .null, .null, .null, .null, .null], aC 24 (fun _ => 0), aC 96 (fun _ => 0), aC 96 (fun _ => 0), aC 9 (upd (upd (fun _ => 0) 0 1) 1 2)]) rfl ?_
  refine A_dup (pc := 41) dX7_init_41 rfl ?_
  refine A_iconst (pc := 42) (v := 2) dX7_init_42 (by decide) ?_
  refine A_iconst (pc := 43) (v := 3) dX7_init_43 (by decide) ?_
  refine A_iast (pc := 44) dX7_init_44 rfl (vp_in_nI (n := 2) (N := 9) (by decide) (by decide)) ?_
  refine AW.heq (hp' := XH c ++ [oC 7 [.ref 26, .int 0, .ref 27, .ref 28, .null, .int 0, .null, .null, .int 0, .int 0, .int 0, .int 0, .null, .int 0, .int 0, .int 0, .int 0, .int 0, .null, .null, .null, .null, .null, .null, .null, .null, .int 0, .int 0, .int 0, .null, .int 0, .null, .null, .null, .null, .null, .null, .null], aC 24 (fun _ => 0), aC 96 (fun _ => 0), aC 96 (fun _ => 0), aC 9 (upd (upd (upd (fun _ => 0) 0 1) 1 2) 2 3)]) rfl ?_
  refine A_dup (pc := 45) dX7_init_45 rfl ?_
  refine A_iconst (pc := 46) (v := 3) dX7_init_46 (by decide) ?_
  refine A_iconst (pc := 47) (v := 2) dX7_init_47 (by decide) ?_
  refine A_iast (pc := 48) dX7_init_48 rfl (vp_in_nI (n := 3) (N := 9) (by decide) (by decide)) ?_
  refine AW.heq (hp' := XH c ++ [oC 7 [.ref 26, .int 0, .ref 27, .ref 28, .null, .int 0, .null, .null, .int 0, .int 0, .int 0, .int 0, .null, .int 0, .int 0, .int 0, .int 0, .int 0, .null, .null, .null, .null, .null, .null, .null, .null, .int 0, .int 0, .int 0, .null, .int 0, .null, .null, .null, .null, .null, .null, .null], aC 24 (fun _ => 0), aC 96 (fun _ => 0), aC 96 (fun _ => 0), aC 9 (upd (upd (upd (upd (fun _ => 0) 0 1) 1 2) 2 3) 3 2)]) rfl ?_
  refine A_dup (pc := 49) dX7_init_49 rfl ?_
  refine A_iconst (pc := 50) (v := 4) dX7_init_50 (by decide) ?_
  refine A_iconst (pc := 51) (v := 4) dX7_init_51 (by decide) ?_
  refine A_iast (pc := 52) dX7_init_52 rfl (vp_in_nI (n := 4) (N := 9) (by decide) (by decide)) ?_
  refine AW.heq (hp' := XH c ++ [oC 7 [.ref 26, .int 0, .ref 27, .ref 28, .null, .int 0, .null, .null, .int 0, .int 0, .int 0, .int 0, .null, .int 0, .int 0, .int 0, .int 0, .int 0, .null, .null, .null, .null, .null, .null, .null, .null, .int 0, .int 0, .int 0, .null, .int 0, .null, .null, .null, .null, .null, .null, .null], aC 24 (fun _ => 0), aC 96 (fun _ => 0), aC 96 (fun _ => 0), aC 9 (upd (upd (upd (upd (upd (fun _ => 0) 0 1) 1 2) 2 3) 3 2) 4 4)]) rfl ?_
  refine A_dup (pc := 53) dX7_init_53 rfl ?_
  refine A_iconst (pc := 54) (v := 5) dX7_init_54 (by decide) ?_
  refine A_iconst (pc := 55) (v := 4) dX7_init_55 (by decide) ?_
  refine A_iast (pc := 56) dX7_init_56 rfl (vp_in_nI (n := 5) (N := 9) (by decide) (by decide)) ?_
  refine AW.heq (hp' := XH c ++ [oC 7 [.ref 26, .int 0, .ref 27, .ref 28, .null, .int 0, .null, .null, .int 0, .int 0, .int 0, .int 0, .null, .int 0, .int 0, .int 0, .int 0, .int 0, .null, .null, .null, .null, .null, .null, .null, .null, .int 0, .int 0, .int 0, .null, .int 0, .null, .null, .null, .null, .null, .null, .null], aC 24 (fun _ => 0), aC 96 (fun _ => 0), aC 96 (fun _ => 0), aC 9 (upd (upd (upd (upd (upd (upd (fun _ => 0) 0 1) 1 2) 2 3) 3 2) 4 4) 5 4)]) rfl ?_
  refine A_dup (pc := 57) dX7_init_57 rfl ?_
  refine A_bipush (pc := 58) (v := 6) dX7_init_58 (by decide) ?_
  refine A_iconst (pc := 60) (v := 3) dX7_init_60 (by decide) ?_
  refine A_iast (pc := 61) dX7_init_61 rfl (vp_in_nI (n := 6) (N := 9) (by decide) (by decide)) ?_
  refine AW.heq (hp' := XH c ++ [oC 7 [.ref 26, .int 0, .ref 27, .ref 28, .null, .int 0, .null, .null, .int 0, .int 0, .int 0, .int 0, .null, .int 0, .int 0, .int 0, .int 0, .int 0, .null, .null, .null, .null, .null, .null, .null, .null, .int 0, .int 0, .int 0, .null, .int 0, .null, .null, .null, .null, .null, .null, .null], aC 24 (fun _ => 0), aC 96 (fun _ => 0), aC 96 (fun _ => 0), aC 9 (upd (upd (upd (upd (upd (upd (upd (fun _ => 0) 0 1) 1 2) 2 3) 3 2) 4 4) 5 4) 6 3)]) rfl ?_
  refine A_dup (pc := 62) dX7_init_62 rfl ?_
  refine A_bipush (pc := 63) (v := 7) dX7_init_63 (by decide) ?_
  refine A_iconst (pc := 65) (v := 3) dX7_init_65 (by decide) ?_
  refine A_iast (pc := 66) dX7_init_66 rfl (vp_in_nI (n := 7) (N := 9) (by decide) (by decide)) ?_
  refine AW.heq (hp' := XH c ++ [oC 7 [.ref 26, .int 0, .ref 27, .ref 28, .null, .int 0, .null, .null, .int 0, .int 0, .int 0, .int 0, .null, .int 0, .int 0, .int 0, .int 0, .int 0, .null, .null, .null, .null, .null, .null, .null, .null, .int 0, .int 0, .int 0, .null, .int 0, .null, .null, .null, .null, .null, .null, .null], aC 24 (fun _ => 0), aC 96 (fun _ => 0), aC 96 (fun _ => 0), aC 9 (upd (upd (upd (upd (upd (upd (upd (upd (fun _ => 0) 0 1) 1 2) 2 3) 3 2) 4 4) 5 4) 6 3) 7 3)]) rfl ?_
  refine A_dup (pc := 67) dX7_init_67 rfl ?_
  refine A_bipush (pc := 68) (v := 8) dX7_init_68 (by decide) ?_
  refine A_iconst (pc := 70) (v := 2) dX7_init_70 (by decide) ?_
  refine A_iast (pc := 71) dX7_init_71 rfl (vp_in_nI (n := 8) (N := 9) (by decide) (by decide)) ?_
  refine AW.heq (hp' := XH c ++ [oC 7 [.ref 26, .int 0, .ref 27, .ref 28, .null, .int 0, .null, .null, .int 0, .int 0, .int 0, .int 0, .null, .int 0, .int 0, .int 0, .int 0, .int 0, .null, .null, .null, .null, .null, .null, .null, .null, .int 0, .int 0, .int 0, .null, .int 0, .null, .null, .null, .null, .null, .null, .null], aC 24 (fun _ => 0), aC 96 (fun _ => 0), aC 96 (fun _ => 0), aC 9 (upd (upd (upd (upd (upd (upd (upd (upd (upd (fun _ => 0) 0 1) 1 2) 2 3) 3 2) 4 4) 5 4) 6 3) 7 3) 8 2)]) rfl ?_
  refine A_putF (pc := 72) flX7_19 ft7_4 (fun q hq => by cases hq; rfl) rfl dX7_init_72 rfl (Nat.le_of_ble_eq_true rfl) (fun _ => ⟨rfl, rfl⟩) (fun q hq => by cases hq; exact fwX7_19) ?_
  refine AW.heq (hp' := XH c ++ [oC 7 [.ref 26, .int 0, .ref 27, .ref 28, .ref 29, .int 0, .null, .null, .int 0, .int 0, .int 0, .int 0, .null, .int 0, .int 0, .int 0, .int 0, .int 0, .null, .null, .null, .null, .null, .null, .null, .null, .int 0, .int 0, .int 0, .null, .int 0, .null, .null, .null, .null, .null, .null, .null], aC 24 (fun _ => 0), aC 96 (fun _ => 0), aC 96 (fun _ => 0), aC 9 (upd (upd (upd (upd (upd (upd (upd (upd (upd (fun _ => 0) 0 1) 1 2) 2 3) 3 2) 4 4) 5 4) 6 3) 7 3) 8 2)]) rfl ?_
  refine A_aload0 (pc := 75) dX7_init_75 ?_
  refine A_sipush (pc := 76) (v := 511) dX7_init_76 (by decide) ?_
  refine A_putf (pc := 79) flX7_22 ft7_5 dX7_init_79 rfl (Nat.le_of_ble_eq_true rfl) (fun _ => ⟨rfl, rfl⟩) ?_
  refine AW.heq (hp' := XH c ++ [oC 7 [.ref 26, .int 0, .ref 27, .ref 28, .ref 29, .int 511, .null, .null, .int 0, .int 0, .int 0, .int 0, .null, .int 0, .int 0, .int 0, .int 0, .int 0, .null, .null, .null, .null, .null, .null, .null, .null, .int 0, .int 0, .int 0, .null, .int 0, .null, .null, .null, .null, .null, .null, .null], aC 24 (fun _ => 0), aC 96 (fun _ => 0), aC 96 (fun _ => 0), aC 9 (upd (upd (upd (upd (upd (upd (upd (upd (upd (fun _ => 0) 0 1) 1 2) 2 3) 3 2) 4 4) 5 4) 6 3) 7 3) 8 2)]) rfl ?_
  refine A_aload0 (pc := 82) dX7_init_82 ?_
  refine A_bipush (pc := 83) (v := 60) dX7_init_83 (by decide) ?_
  refine A_newa (pc := 85) (N := 60) rfl (by decide) dX7_init_85 (by decide) (by decide) (Nat.le_of_ble_eq_true rfl) ?_
  refine A_putF (pc := 87) flX7_26 ft7_6 (fun q hq => by cases hq; rfl) rfl dX7_init_87 rfl (Nat.le_of_ble_eq_true rfl) (fun _ => ⟨rfl, rfl⟩) (fun q hq => by cases hq; exact fwX7_26) ?_
  refine AW.heq (hp' := XH c ++ [oC 7 [.ref 26, .int 0, .ref 27, .ref 28, .ref 29, .int 511, .ref 30, .null, .int 0, .int 0, .int 0, .int 0, .null, .int 0, .int 0, .int 0, .int 0, .int 0, .null, .null, .null, .null, .null, .null, .null, .null, .int 0, .int 0, .int 0, .null, .int 0, .null, .null, .null, .null, .null, .null, .null], aC 24 (fun _ => 0), aC 96 (fun _ => 0), aC 96 (fun _ => 0), aC 9 (upd (upd (upd (upd (upd (upd (upd (upd (upd (fun _ => 0) 0 1) 1 2) 2 3) 3 2) 4 4) 5 4) 6 3) 7 3) 8 2), aC 60 (fun _ => 0)]) rfl ?_
  refine A_aload0 (pc := 90) dX7_init_90 ?_
  refine A_bipush (pc := 91) (v := 60) dX7_init_91 (by decide) ?_
  refine A_newa (pc := 93) (N := 60) rfl (by decide) dX7_init_93 (by decide) (by decide) (Nat.le_of_ble_eq_true rfl) ?_
  refine A_putF (pc := 95) flX7_29 ft7_7 (fun q hq => by cases hq; rfl) rfl dX7_init_95 rfl (Nat.le_of_ble_eq_true rfl) (fun _ => ⟨rfl, rfl⟩) (fun q hq => by cases hq; exact fwX7_29) ?_
  refine AW.heq (hp' := XH c ++ [oC 7 [.ref 26, .int 0, .ref 27, .ref 28, .ref 29, .int 511, .ref 30, .ref 31, .int 0, .int 0, .int 0, .int 0, .null, .int 0, .int 0, .int 0, .int 0, .int 0, .null, .null, .null, .null, .null, .null, .null, .null, .int 0, .int 0, .int 0, .null, .int 0, .null, .null, .null, .null, .null, .null, .null], aC 24 (fun _ => 0), aC 96 (fun _ => 0), aC 96 (fun _ => 0), aC 9 (upd (upd (upd (upd (upd (upd (upd (upd (upd (fun _ => 0) 0 1) 1 2) 2 3) 3 2) 4 4) 5 4) 6 3) 7 3) 8 2), aC 60 (fun _ => 0), aC 60 (fun _ => 0)]) rfl ?_
  refine A_aload0 (pc := 98) dX7_init_98 ?_
  refine A_bipush (pc := 99) (v := 30) dX7_init_99 (by decide) ?_
  refine A_newa (pc := 101) (N := 30) rfl (by decide) dX7_init_101 (by decide) (by decide) (Nat.le_of_ble_eq_true rfl) ?_
  refine A_putF (pc := 103) flX7_32 ft7_12 (fun q hq => by cases hq; rfl) rfl dX7_init_103 rfl (Nat.le_of_ble_eq_true rfl) (fun _ => ⟨rfl, rfl⟩) (fun q hq => by cases hq; exact fwX7_32) ?_
  refine AW.heq (hp' := XH c ++ [oC 7 [.ref 26, .int 0, .ref 27, .ref 28, .ref 29, .int 511, .ref 30, .ref 31, .int 0, .int 0, .int 0, .int 0, .ref 32, .int 0, .int 0, .int 0, .int 0, .int 0, .null, .null, .null, .null, .null, .null, .null, .null, .int 0, .int 0, .int 0, .null, .int 0, .null, .null, .null, .null, .null, .null, .null], aC 24 (fun _ => 0), aC 96 (fun _ => 0), aC 96 (fun _ => 0), aC 9 (upd (upd (upd (upd (upd (upd (upd (upd (upd (fun _ => 0) 0 1) 1 2) 2 3) 3 2) 4 4) 5 4) 6 3) 7 3) 8 2), aC 60 (fun _ => 0), aC 60 (fun _ => 0), aC 30 (fun _ => 0)]) rfl ?_
  refine A_aload0 (pc := 106) dX7_init_106 ?_
  refine A_sipush (pc := 107) (v := 200) dX7_init_107 (by decide) ?_
  refine A_newa (pc := 110) (N := 200) rfl (by decide) dX7_init_110 (by decide) (by decide) (Nat.le_of_ble_eq_true rfl) ?_
  refine A_putF (pc := 112) flX7_35 ft7_18 (fun q hq => by cases hq; rfl) rfl dX7_init_112 rfl (Nat.le_of_ble_eq_true rfl) (fun _ => ⟨rfl, rfl⟩) (fun q hq => by cases hq; exact fwX7_35) ?_
  refine AW.heq (hp' := XH c ++ [oC 7 [.ref 26, .int 0, .ref 27, .ref 28, .ref 29, .int 511, .ref 30, .ref 31, .int 0, .int 0, .int 0, .int 0, .ref 32, .int 0, .int 0, .int 0, .int 0, .int 0, .ref 33, .null, .null, .null, .null, .null, .null, .null, .int 0, .int 0, .int 0, .null, .int 0, .null, .null, .null, .null, .null, .null, .null], aC 24 (fun _ => 0), aC 96 (fun _ => 0), aC 96 (fun _ => 0), aC 9 (upd (upd (upd (upd (upd (upd (upd (upd (upd (fun _ => 0) 0 1) 1 2) 2 3) 3 2) 4 4) 5 4) 6 3) 7 3) 8 2), aC 60 (fun _ => 0), aC 60 (fun _ => 0), aC 30 (fun _ => 0), aC 200 (fun _ => 0)]) rfl ?_
  refine A_aload0 (pc := 115) dX7_init_115 ?_
  refine A_bipush (pc := 116) (v := 8) dX7_init_116 (by decide) ?_
  refine A_newa (pc := 118) (N := 8) rfl (by decide) dX7_init_118 (by decide) (by decide) (Nat.le_of_ble_eq_true rfl) ?_
  refine A_putF (pc := 120) flX7_38 ft7_19 (fun q hq => by cases hq; rfl) rfl dX7_init_120 rfl (Nat.le_of_ble_eq_true rfl) (fun _ => ⟨rfl, rfl⟩) (fun q hq => by cases hq; exact fwX7_38) ?_
  refine AW.heq (hp' := XH c ++ [oC 7 [.ref 26, .int 0, .ref 27, .ref 28, .ref 29, .int 511, .ref 30, .ref 31, .int 0, .int 0, .int 0, .int 0, .ref 32, .int 0, .int 0, .int 0, .int 0, .int 0, .ref 33, .ref 34, .null, .null, .null, .null, .null, .null, .int 0, .int 0, .int 0, .null, .int 0, .null, .null, .null, .null, .null, .null, .null], aC 24 (fun _ => 0), aC 96 (fun _ => 0), aC 96 (fun _ => 0), aC 9 (upd (upd (upd (upd (upd (upd (upd (upd (upd (fun _ => 0) 0 1) 1 2) 2 3) 3 2) 4 4) 5 4) 6 3) 7 3) 8 2), aC 60 (fun _ => 0), aC 60 (fun _ => 0), aC 30 (fun _ => 0), aC 200 (fun _ => 0), aC 8 (fun _ => 0)]) rfl ?_
  refine A_aload0 (pc := 123) dX7_init_123 ?_
  refine A_bipush (pc := 124) (v := 8) dX7_init_124 (by decide) ?_
  refine A_newa (pc := 126) (N := 8) rfl (by decide) dX7_init_126 (by decide) (by decide) (Nat.le_of_ble_eq_true rfl) ?_
  refine A_putF (pc := 128) flX7_41 ft7_20 (fun q hq => by cases hq; rfl) rfl dX7_init_128 rfl (Nat.le_of_ble_eq_true rfl) (fun _ => ⟨rfl, rfl⟩) (fun q hq => by cases hq; exact fwX7_41) ?_
  refine AW.heq (hp' := XH c ++ [oC 7 [.ref 26, .int 0, .ref 27, .ref 28, .ref 29, .int 511, .ref 30, .ref 31, .int 0, .int 0, .int 0, .int 0, .ref 32, .int 0, .int 0, .int 0, .int 0, .int 0, .ref 33, .ref 34, .ref 35, .null, .null, .null, .null, .null, .int 0, .int 0, .int 0, .null, .int 0, .null, .null, .null, .null, .null, .null, .null], aC 24 (fun _ => 0), aC 96 (fun _ => 0), aC 96 (fun _ => 0), aC 9 (upd (upd (upd (upd (upd (upd (upd (upd (upd (fun _ => 0) 0 1) 1 2) 2 3) 3 2) 4 4) 5 4) 6 3) 7 3) 8 2), aC 60 (fun _ => 0), aC 60 (fun _ => 0), aC 30 (fun _ => 0), aC 200 (fun _ => 0), aC 8 (fun _ => 0), aC 8 (fun _ => 0)]) rfl ?_
  refine A_aload0 (pc := 131) dX7_init_131 ?_
  refine A_sipush (pc := 132) (v := 240) dX7_init_132 (by decide) ?_
  refine A_newa (pc := 135) (N := 240) rfl (by decide) dX7_init_135 (by decide) (by decide) (Nat.le_of_ble_eq_true rfl) ?_
  refine A_putF (pc := 137) flX7_44 ft7_21 (fun q hq => by cases hq; rfl) rfl dX7_init_137 rfl (Nat.le_of_ble_eq_true rfl) (fun _ => ⟨rfl, rfl⟩) (fun q hq => by cases hq; exact fwX7_44) ?_
  refine AW.heq (hp' := XH c ++ [oC 7 [.ref 26, .int 0, .ref 27, .ref 28, .ref 29, .int 511, .ref 30, .ref 31, .int 0, .int 0, .int 0, .int 0, .ref 32, .int 0, .int 0, .int 0, .int 0, .int 0, .ref 33, .ref 34, .ref 35, .ref 36, .null, .null, .null, .null, .int 0, .int 0, .int 0, .null, .int 0, .null, .null, .null, .null, .null, .null, .null], aC 24 (fun _ => 0), aC 96 (fun _ => 0), aC 96 (fun _ => 0), aC 9 (upd (upd (upd (upd (upd (upd (upd (upd (upd (fun _ => 0) 0 1) 1 2) 2 3) 3 2) 4 4) 5 4) 6 3) 7 3) 8 2), aC 60 (fun _ => 0), aC 60 (fun _ => 0), aC 30 (fun _ => 0), aC 200 (fun _ => 0), aC 8 (fun _ => 0), aC 8 (fun _ => 0), aC 240 (fun _ => 0)]) rfl ?_
  refine A_aload0 (pc := 140) dX7_init_140 ?_
  refine A_bipush (pc := 141) (v := 8) dX7_init_141 (by decide) ?_
  refine A_newa (pc := 143) (N := 8) rfl (by decide) dX7_init_143 (by decide) (by decide) (Nat.le_of_ble_eq_true rfl) ?_
  refine A_putF (pc := 145) flX7_47 ft7_22 (fun q hq => by cases hq; rfl) rfl dX7_init_145 rfl (Nat.le_of_ble_eq_true rfl) (fun _ => ⟨rfl, rfl⟩) (fun q hq => by cases hq; exact fwX7_47) ?_
  refine AW.heq (hp' := XH c ++ [oC 7 [.ref 26, .int 0, .ref 27, .ref 28, .ref 29, .int 511, .ref 30, .ref 31, .int 0, .int 0, .int 0, .int 0, .ref 32, .int 0, .int 0, .int 0, .int 0, .int 0, .ref 33, .ref 34, .ref 35, .ref 36, .ref 37, .null, .null, .null, .int 0, .int 0, .int 0, .null, .int 0, .null, .null, .null, .null, .null, .null, .null], aC 24 (fun _ => 0), aC 96 (fun _ => 0), aC 96 (fun _ => 0), aC 9 (upd (upd (upd (upd (upd (upd (upd (upd (upd (fun _ => 0) 0 1) 1 2) 2 3) 3 2) 4 4) 5 4) 6 3) 7 3) 8 2), aC 60 (fun _ => 0), aC 60 (fun _ => 0), aC 30 (fun _ => 0), aC 200 (fun _ => 0), aC 8 (fun _ => 0), aC 8 (fun _ => 0), aC 240 (fun _ => 0), aC 8 (fun _ => 0)]) rfl ?_
  refine A_aload0 (pc := 148) dX7_init_148 ?_
  refine A_sipush (pc := 149) (v := 480) dX7_init_149 (by decide) ?_
  refine A_newa (pc := 152) (N := 480) rfl (by decide) dX7_init_152 (by decide) (by decide) (Nat.le_of_ble_eq_true rfl) ?_
  refine A_putF (pc := 154) flX7_50 ft7_23 (fun q hq => by cases hq; rfl) rfl dX7_init_154 rfl (Nat.le_of_ble_eq_true rfl) (fun _ => ⟨rfl, rfl⟩) (fun q hq => by cases hq; exact fwX7_50) ?_
  refine AW.heq (hp' := XH c ++ [oC 7 [.ref 26, .int 0, .ref 27, .ref 28, .ref 29, .int 511, .ref 30, .ref 31, .int 0, .int 0, .int 0, .int 0, .ref 32, .int 0, .int 0, .int 0, .int 0, .int 0, .ref 33, .ref 34, .ref 35, .ref 36, .ref 37, .ref 38, .null, .null, .int 0, .int 0, .int 0, .null, .int 0, .null, .null, .null, .null, .null, .null, .null], aC 24 (fun _ => 0), aC 96 (fun _ => 0), aC 96 (fun _ => 0), aC 9 (upd (upd (upd (upd (upd (upd (upd (upd (upd (fun _ => 0) 0 1) 1 2) 2 3) 3 2) 4 4) 5 4) 6 3) 7 3) 8 2), aC 60 (fun _ => 0), aC 60 (fun _ => 0), aC 30 (fun _ => 0), aC 200 (fun _ => 0), aC 8 (fun _ => 0), aC 8 (fun _ => 0), aC 240 (fun _ => 0), aC 8 (fun _ => 0), aC 480 (fun _ => 0)]) rfl ?_
  refine A_aload0 (pc := 157) dX7_init_157 ?_
  refine A_sipush (pc := 158) (v := 480) dX7_init_158 (by decide) ?_
  refine A_newa (pc := 161) (N := 480) rfl (by decide) dX7_init_161 (by decide) (by decide) (Nat.le_of_ble_eq_true rfl) ?_
  refine A_putF (pc := 163) flX7_53 ft7_24 (fun q hq => by cases hq; rfl) rfl dX7_init_163 rfl (Nat.le_of_ble_eq_true rfl) (fun _ => ⟨rfl, rfl⟩) (fun q hq => by cases hq; exact fwX7_53) ?_
  refine AW.heq (hp' := XH c ++ [oC 7 [.ref 26, .int 0, .ref 27, .ref 28, .ref 29, .int 511, .ref 30, .ref 31, .int 0, .int 0, .int 0, .int 0, .ref 32, .int 0, .int 0, .int 0, .int 0, .int 0, .ref 33, .ref 34, .ref 35, .ref 36, .ref 37, .ref 38, .ref 39, .null, .int 0, .int 0, .int 0, .null, .int 0, .null, .null, .null, .null, .null, .null, .null], aC 24 (fun _ => 0), aC 96 (fun _ => 0), aC 96 (fun _ => 0), aC 9 (upd (upd (upd (upd (upd (upd (upd (upd (upd (fun _ => 0) 0 1) 1 2) 2 3) 3 2) 4 4) 5 4) 6 3) 7 3) 8 2), aC 60 (fun _ => 0), aC 60 (fun _ => 0), aC 30 (fun _ => 0), aC 200 (fun _ => 0), aC 8 (fun _ => 0), aC 8 (fun _ => 0), aC 240 (fun _ => 0), aC 8 (fun _ => 0), aC 480 (fun _ => 0), aC 480 (fun _ => 0)]) rfl ?_
  refine A_aload0 (pc := 166) dX7_init_166 ?_
  refine A_bipush (pc := 167) (v := 8) dX7_init_167 (by decide) ?_
  refine A_newa (pc := 169) (N := 8) rfl (by decide) dX7_init_169 (by decide) (by decide) (Nat.le_of_ble_eq_true rfl) ?_
  refine A_putF (pc := 171) flX7_56 ft7_25 (fun q hq => by cases hq; rfl) rfl dX7_init_171 rfl (Nat.le_of_ble_eq_true rfl) (fun _ => ⟨rfl, rfl⟩) (fun q hq => by cases hq; exact fwX7_56) ?_
  refine AW.heq (hp' := XH c ++ [oC 7 [.ref 26, .int 0, .ref 27, .ref 28, .ref 29, .int 511, .ref 30, .ref 31, .int 0, .int 0, .int 0, .int 0, .ref 32, .int 0, .int 0, .int 0, .int 0, .int 0, .ref 33, .ref 34, .ref 35, .ref 36, .ref 37, .ref 38, .ref 39, .ref 40, .int 0, .int 0, .int 0, .null, .int 0, .null, .null, .null, .null, .null, .null, .null], aC 24 (fun _ => 0), aC 96 (fun _ => 0), aC 96 (fun _ => 0), aC 9 (upd (upd (upd (upd (upd (upd (upd (upd (upd (fun _ => 0) 0 1) 1 2) 2 3) 3 2) 4 4) 5 4) 6 3) 7 3) 8 2), aC 60 (fun _ => 0), aC 60 (fun _ => 0), aC 30 (fun _ => 0), aC 200 (fun _ => 0), aC 8 (fun _ => 0), aC 8 (fun _ => 0), aC 240 (fun _ => 0), aC 8 (fun _ => 0), aC 480 (fun _ => 0), aC 480 (fun _ => 0), aC 8 (fun _ => 0)]) rfl ?_
  refine A_aload0 (pc := 174) dX7_init_174 ?_
  refine A_bipush (pc := 175) (v := 30) dX7_init_175 (by decide) ?_
  refine A_newa (pc := 177) (N := 30) rfl (by decide) dX7_init_177 (by decide) (by decide) (Nat.le_of_ble_eq_true rfl) ?_
  refine A_putF (pc := 179) flX7_59 ft7_29 (fun q hq => by cases hq; rfl) rfl dX7_init_179 rfl (Nat.le_of_ble_eq_true rfl) (fun _ => ⟨rfl, rfl⟩) (fun q hq => by cases hq; exact fwX7_59) ?_
  refine AW.heq (hp' := XH c ++ [oC 7 [.ref 26, .int 0, .ref 27, .ref 28, .ref 29, .int 511, .ref 30, .ref 31, .int 0, .int 0, .int 0, .int 0, .ref 32, .int 0, .int 0, .int 0, .int 0, .int 0, .ref 33, .ref 34, .ref 35, .ref 36, .ref 37, .ref 38, .ref 39, .ref 40, .int 0, .int 0, .int 0, .ref 41, .int 0, .null, .null, .null, .null, .null, .null, .null], aC 24 (fun _ => 0), aC 96 (fun _ => 0), aC 96 (fun _ => 0), aC 9 (upd (upd (upd (upd (upd (upd (upd (upd (upd (fun _ => 0) 0 1) 1 2) 2 3) 3 2) 4 4) 5 4) 6 3) 7 3) 8 2), aC 60 (fun _ => 0), aC 60 (fun _ => 0), aC 30 (fun _ => 0), aC 200 (fun _ => 0), aC 8 (fun _ => 0), aC 8 (fun _ => 0), aC 240 (fun _ => 0), aC 8 (fun _ => 0), aC 480 (fun _ => 0), aC 480 (fun _ => 0), aC 8 (fun _ => 0), aC 30 (fun _ => 0)]) rfl ?_
  refine A_aload0 (pc := 182) dX7_init_182 ?_
  refine A_bipush (pc := 183) (v := 31) dX7_init_183 (by decide) ?_
  refine A_newa (pc := 185) (N := 31) rfl (by decide) dX7_init_185 (by decide) (by decide) (Nat.le_of_ble_eq_true rfl) ?_
  refine A_putF (pc := 187) flX7_62 ft7_31 (fun q hq => by cases hq; rfl) rfl dX7_init_187 rfl (Nat.le_of_ble_eq_true rfl) (fun _ => ⟨rfl, rfl⟩) (fun q hq => by cases hq; exact fwX7_62) ?_
  refine AW.heq (hp' := XH c ++ [oC 7 [.ref 26, .int 0, .ref 27, .ref 28, .ref 29, .int 511, .ref 30, .ref 31, .int 0, .int 0, .int 0, .int 0, .ref 32, .int 0, .int 0, .int 0, .int 0, .int 0, .ref 33, .ref 34, .ref 35, .ref 36, .ref 37, .ref 38, .ref 39, .ref 40, .int 0, .int 0, .int 0, .ref 41, .int 0, .ref 42, .null, .null, .null, .null, .null, .null], aC 24 (fun _ => 0), aC 96 (fun _ => 0), aC 96 (fun _ => 0), aC 9 (upd (upd (upd (upd (upd (upd (upd (upd (upd (fun _ => 0) 0 1) 1 2) 2 3) 3 2) 4 4) 5 4) 6 3) 7 3) 8 2), aC 60 (fun _ => 0), aC 60 (fun _ => 0), aC 30 (fun _ => 0), aC 200 (fun _ => 0), aC 8 (fun _ => 0), aC 8 (fun _ => 0), aC 240 (fun _ => 0), aC 8 (fun _ => 0), aC 480 (fun _ => 0), aC 480 (fun _ => 0), aC 8 (fun _ => 0), aC 30 (fun _ => 0), aC 31 (fun _ => 0)]) rfl ?_
  refine A_aload0 (pc := 190) dX7_init_190 ?_
  refine A_bipush (pc := 191) (v := 31) dX7_init_191 (by decide) ?_
  refine A_newa (pc := 193) (N := 31) rfl (by decide) dX7_init_193 (by decide) (by decide) (Nat.le_of_ble_eq_true rfl) ?_
  refine A_putF (pc := 195) flX7_65 ft7_32 (fun q hq => by cases hq; rfl) rfl dX7_init_195 rfl (Nat.le_of_ble_eq_true rfl) (fun _ => ⟨rfl, rfl⟩) (fun q hq => by cases hq; exact fwX7_65) ?_
  refine AW.heq (hp' := XH c ++ [oC 7 [.ref 26, .int 0, .ref 27, .ref 28, .ref 29, .int 511, .ref 30, .ref 31, .int 0, .int 0, .int 0, .int 0, .ref 32, .int 0, .int 0, .int 0, .int 0, .int 0, .ref 33, .ref 34, .ref 35, .ref 36, .ref 37, .ref 38, .ref 39, .ref 40, .int 0, .int 0, .int 0, .ref 41, .int 0, .ref 42, .ref 43, .null, .null, .null, .null, .null], aC 24 (fun _ => 0), aC 96 (fun _ => 0), aC 96 (fun _ => 0), aC 9 (upd (upd (upd (upd (upd (upd (upd (upd (upd (fun _ => 0) 0 1) 1 2) 2 3) 3 2) 4 4) 5 4) 6 3) 7 3) 8 2), aC 60 (fun _ => 0), aC 60 (fun _ => 0), aC 30 (fun _ => 0), aC 200 (fun _ => 0), aC 8 (fun _ => 0), aC 8 (fun _ => 0), aC 240 (fun _ => 0), aC 8 (fun _ => 0), aC 480 (fun _ => 0), aC 480 (fun _ => 0), aC 8 (fun _ => 0), aC 30 (fun _ => 0), aC 31 (fun _ => 0), aC 31 (fun _ => 0)]) rfl ?_
  refine A_aload0 (pc := 198) dX7_init_198 ?_
  refine A_bipush (pc := 199) (v := 24) dX7_init_199 (by decide) ?_
  refine A_newa (pc := 201) (N := 24) rfl (by decide) dX7_init_201 (by decide) (by decide) (Nat.le_of_ble_eq_true rfl) ?_
  refine A_putF (pc := 203) flX7_68 ft7_33 (fun q hq => by cases hq; rfl) rfl dX7_init_203 rfl (Nat.le_of_ble_eq_true rfl) (fun _ => ⟨rfl, rfl⟩) (fun q hq => by cases hq; exact fwX7_68) ?_
  refine AW.heq (hp' := XH c ++ [oC 7 [.ref 26, .int 0, .ref 27, .ref 28, .ref 29, .int 511, .ref 30, .ref 31, .int 0, .int 0, .int 0, .int 0, .ref 32, .int 0, .int 0, .int 0, .int 0, .int 0, .ref 33, .ref 34, .ref 35, .ref 36, .ref 37, .ref 38, .ref 39, .ref 40, .int 0, .int 0, .int 0, .ref 41, .int 0, .ref 42, .ref 43, .ref 44, .null, .null, .null, .null], aC 24 (fun _ => 0), aC 96 (fun _ => 0), aC 96 (fun _ => 0), aC 9 (upd (upd (upd (upd (upd (upd (upd (upd (upd (fun _ => 0) 0 1) 1 2) 2 3) 3 2) 4 4) 5 4) 6 3) 7 3) 8 2), aC 60 (fun _ => 0), aC 60 (fun _ => 0), aC 30 (fun _ => 0), aC 200 (fun _ => 0), aC 8 (fun _ => 0), aC 8 (fun _ => 0), aC 240 (fun _ => 0), aC 8 (fun _ => 0), aC 480 (fun _ => 0), aC 480 (fun _ => 0), aC 8 (fun _ => 0), aC 30 (fun _ => 0), aC 31 (fun _ => 0), aC 31 (fun _ => 0), aC 24 (fun _ => 0)]) rfl ?_
  refine A_aload0 (pc := 206) dX7_init_206 ?_
  refine A_bipush (pc := 207) (v := 96) dX7_init_207 (by decide) ?_
  refine A_newa (pc := 209) (N := 96) rfl (by decide) dX7_init_209 (by decide) (by decide) (Nat.le_of_ble_eq_true rfl) ?_
  refine A_putF (pc := 211) flX7_71 ft7_34 (fun q hq => by cases hq; rfl) rfl dX7_init_211 rfl (Nat.le_of_ble_eq_true rfl) (fun _ => ⟨rfl, rfl⟩) (fun q hq => by cases hq; exact fwX7_71) ?_
  refine AW.heq (hp' := XH c ++ [oC 7 [.ref 26, .int 0, .ref 27, .ref 28, .ref 29, .int 511, .ref 30, .ref 31, .int 0, .int 0, .int 0, .int 0, .ref 32, .int 0, .int 0, .int 0, .int 0, .int 0, .ref 33, .ref 34, .ref 35, .ref 36, .ref 37, .ref 38, .ref 39, .ref 40, .int 0, .int 0, .int 0, .ref 41, .int 0, .ref 42, .ref 43, .ref 44, .ref 45, .null, .null, .null], aC 24 (fun _ => 0), aC 96 (fun _ => 0), aC 96 (fun _ => 0), aC 9 (upd (upd (upd (upd (upd (upd (upd (upd (upd (fun _ => 0) 0 1) 1 2) 2 3) 3 2) 4 4) 5 4) 6 3) 7 3) 8 2), aC 60 (fun _ => 0), aC 60 (fun _ => 0), aC 30 (fun _ => 0), aC 200 (fun _ => 0), aC 8 (fun _ => 0), aC 8 (fun _ => 0), aC 240 (fun _ => 0), aC 8 (fun _ => 0), aC 480 (fun _ => 0), aC 480 (fun _ => 0), aC 8 (fun _ => 0), aC 30 (fun _ => 0), aC 31 (fun _ => 0), aC 31 (fun _ => 0), aC 24 (fun _ => 0), aC 96 (fun _ => 0)]) rfl ?_
  refine A_aload0 (pc := 214) dX7_init_214 ?_
  refine A_bipush (pc := 215) (v := 96) dX7_init_215 (by decide) ?_
  refine A_newa (pc := 217) (N := 96) rfl (by decide) dX7_init_217 (by decide) (by decide) (Nat.le_of_ble_eq_true rfl) ?_
  refine A_putF (pc := 219) flX7_74 ft7_35 (fun q hq => by cases hq; rfl) rfl dX7_init_219 rfl (Nat.le_of_ble_eq_true rfl) (fun _ => ⟨rfl, rfl⟩) (fun q hq => by cases hq; exact fwX7_74) ?_
  refine AW.heq (hp' := XH c ++ [oC 7 [.ref 26, .int 0, .ref 27, .ref 28, .ref 29, .int 511, .ref 30, .ref 31, .int 0, .int 0, .int 0, .int 0, .ref 32, .int 0, .int 0, .int 0, .int 0, .int 0, .ref 33, .ref 34, .ref 35, .ref 36, .ref 37, .ref 38, .ref 39, .ref 40, .int 0, .int 0, .int 0, .ref 41, .int 0, .ref 42, .ref 43, .ref 44, .ref 45, .ref 46, .null, .null], aC 24 (fun _ => 0), aC 96 (fun _ => 0), aC 96 (fun _ => 0), aC 9 (upd (upd (upd (upd (upd (upd (upd (upd (upd (fun _ => 0) 0 1) 1 2) 2 3) 3 2) 4 4) 5 4) 6 3) 7 3) 8 2), aC 60 (fun _ => 0), aC 60 (fun _ => 0), aC 30 (fun _ => 0), aC 200 (fun _ => 0), aC 8 (fun _ => 0), aC 8 (fun _ => 0), aC 240 (fun _ => 0), aC 8 (fun _ => 0), aC 480 (fun _ => 0), aC 480 (fun _ => 0), aC 8 (fun _ => 0), aC 30 (fun _ => 0), aC 31 (fun _ => 0), aC 31 (fun _ => 0), aC 24 (fun _ => 0), aC 96 (fun _ => 0), aC 96 (fun _ => 0)]) rfl ?_
  refine A_aload0 (pc := 222) dX7_init_222 ?_
  refine A_bipush (pc := 223) (v := 96) dX7_init_223 (by decide) ?_
  refine A_newa (pc := 225) (N := 96) rfl (by decide) dX7_init_225 (by decide) (by decide) (Nat.le_of_ble_eq_true rfl) ?_
  refine A_putF (pc := 227) flX7_77 ft7_36 (fun q hq => by cases hq; rfl) rfl dX7_init_227 rfl (Nat.le_of_ble_eq_true rfl) (fun _ => ⟨rfl, rfl⟩) (fun q hq => by cases hq; exact fwX7_77) ?_
  refine AW.heq (hp' := XH c ++ [oC 7 [.ref 26, .int 0, .ref 27, .ref 28, .ref 29, .int 511, .ref 30, .ref 31, .int 0, .int 0, .int 0, .int 0, .ref 32, .int 0, .int 0, .int 0, .int 0, .int 0, .ref 33, .ref 34, .ref 35, .ref 36, .ref 37, .ref 38, .ref 39, .ref 40, .int 0, .int 0, .int 0, .ref 41, .int 0, .ref 42, .ref 43, .ref 44, .ref 45, .ref 46, .ref 47, .null], aC 24 (fun _ => 0), aC 96 (fun _ => 0), aC 96 (fun _ => 0), aC 9 (upd (upd (upd (upd (upd (upd (upd (upd (upd (fun _ => 0) 0 1) 1 2) 2 3) 3 2) 4 4) 5 4) 6 3) 7 3) 8 2), aC 60 (fun _ => 0), aC 60 (fun _ => 0), aC 30 (fun _ => 0), aC 200 (fun _ => 0), aC 8 (fun _ => 0), aC 8 (fun _ => 0), aC 240 (fun _ => 0), aC 8 (fun _ => 0), aC 480 (fun _ => 0), aC 480 (fun _ => 0), aC 8 (fun _ => 0), aC 30 (fun _ => 0), aC 31 (fun _ => 0), aC 31 (fun _ => 0), aC 24 (fun _ => 0), aC 96 (fun _ => 0), aC 96 (fun _ => 0), aC 96 (fun _ => 0)]) rfl ?_
  refine A_aload0 (pc := 230) dX7_init_230 ?_
  refine A_bipush (pc := 231) (v := 96) dX7_init_231 (by decide) ?_
  refine A_newa (pc := 233) (N := 96) rfl (by decide) dX7_init_233 (by decide) (by decide) (Nat.le_of_ble_eq_true rfl) ?_
  refine A_putF (pc := 235) flX7_80 ft7_37 (fun q hq => by cases hq; rfl) rfl dX7_init_235 rfl (Nat.le_of_ble_eq_true rfl) (fun _ => ⟨rfl, rfl⟩) (fun q hq => by cases hq; exact fwX7_80) ?_
  refine AW.heq (hp' := XH c ++ [oC 7 [.ref 26, .int 0, .ref 27, .ref 28, .ref 29, .int 511, .ref 30, .ref 31, .int 0, .int 0, .int 0, .int 0, .ref 32, .int 0, .int 0, .int 0, .int 0, .int 0, .ref 33, .ref 34, .ref 35, .ref 36, .ref 37, .ref 38, .ref 39, .ref 40, .int 0, .int 0, .int 0, .ref 41, .int 0, .ref 42, .ref 43, .ref 44, .ref 45, .ref 46, .ref 47, .ref 48], aC 24 (fun _ => 0), aC 96 (fun _ => 0), aC 96 (fun _ => 0), aC 9 (upd (upd (upd (upd (upd (upd (upd (upd (upd (fun _ => 0) 0 1) 1 2) 2 3) 3 2) 4 4) 5 4) 6 3) 7 3) 8 2), aC 60 (fun _ => 0), aC 60 (fun _ => 0), aC 30 (fun _ => 0), aC 200 (fun _ => 0), aC 8 (fun _ => 0), aC 8 (fun _ => 0), aC 240 (fun _ => 0), aC 8 (fun _ => 0), aC 480 (fun _ => 0), aC 480 (fun _ => 0), aC 8 (fun _ => 0), aC 30 (fun _ => 0), aC 31 (fun _ => 0), aC 31 (fun _ => 0), aC 24 (fun _ => 0), aC 96 (fun _ => 0), aC 96 (fun _ => 0), aC 96 (fun _ => 0), aC 96 (fun _ => 0)]) rfl ?_
  refine A_iconst (pc := 238) (v := 0) dX7_init_238 (by decide) ?_
  refine A_istore1 (pc := 239) dX7_init_239 (by decide) ?_
  exact mlp_init c 96 0 _ (by omega)
