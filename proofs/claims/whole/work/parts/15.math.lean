/-! Math.max, Math.min: methods like any other; the words of their calls, of Object.<init>, of System.arraycopy -/
theorem oiX6_3 : Cond.methodLink RX6 3 objectInit ∈ gw := (gw_t (List.mem_of_getElem? (i := 16) (by decide +kernel)) rfl)
theorem oiX2_3 : Cond.methodLink RX2 3 objectInit ∈ gw := (gw_t (List.mem_of_getElem? (i := 24) (by decide +kernel)) rfl)
theorem oiX3_3 : Cond.methodLink RX3 3 objectInit ∈ gw := (gw_t (List.mem_of_getElem? (i := 30) (by decide +kernel)) rfl)
theorem mkX3_15 : Cond.methodLink RX3 15 Lib.Math.max.name ∈ gw := (gw_t (List.mem_of_getElem? (i := 31) (by decide +kernel)) rfl)
theorem ms_max : Cond.static Lib.Math.max.name ∈ gw := (gw_t (List.mem_of_getElem? (i := 32) (by decide +kernel)) rfl)
theorem mc_max : Cond.code Lib.Math.max.name Lib.Math.max.code 2 (some .int) ∈ gw := (gw_t (List.mem_of_getElem? (i := 33) (by decide +kernel)) rfl)
theorem oiX4_3 : Cond.methodLink RX4 3 objectInit ∈ gw := (gw_t (List.mem_of_getElem? (i := 76) (by decide +kernel)) rfl)
theorem oiX5_3 : Cond.methodLink RX5 3 objectInit ∈ gw := (gw_t (List.mem_of_getElem? (i := 107) (by decide +kernel)) rfl)
theorem oiX0_3 : Cond.methodLink RX0 3 objectInit ∈ gw := (gw_t (List.mem_of_getElem? (i := 132) (by decide +kernel)) rfl)
theorem mkX0_28 : Cond.methodLink RX0 28 Lib.Math.min.name ∈ gw := (gw_t (List.mem_of_getElem? (i := 462) (by decide +kernel)) rfl)
theorem ms_min : Cond.static Lib.Math.min.name ∈ gw := (gw_t (List.mem_of_getElem? (i := 463) (by decide +kernel)) rfl)
theorem mc_min : Cond.code Lib.Math.min.name Lib.Math.min.code 2 (some .int) ∈ gw := (gw_t (List.mem_of_getElem? (i := 464) (by decide +kernel)) rfl)
theorem mkX0_34 : Cond.methodLink RX0 34 Lib.Math.max.name ∈ gw := (gw_t (List.mem_of_getElem? (i := 465) (by decide +kernel)) rfl)
theorem oiX1_3 : Cond.methodLink RX1 3 objectInit ∈ gw := (gw_t (List.mem_of_getElem? (i := 567) (by decide +kernel)) rfl)
theorem oiX7_3 : Cond.methodLink RX7 3 objectInit ∈ gw := (gw_t (List.mem_of_getElem? (i := 610) (by decide +kernel)) rfl)
theorem oi_inst : Cond.instanceMethod objectInit ∈ gw := (gw_t (List.mem_of_getElem? (i := 17) (by decide +kernel)) rfl)
theorem oi_code : Cond.code objectInit ⟨#[0xb1]⟩ 1 none ∈ gw := (gw_t (List.mem_of_getElem? (i := 18) (by decide +kernel)) rfl)
theorem ins0 : Cond.instantiable RX0 4 ∈ gw := (gw_t (List.mem_of_getElem? (i := 128) (by decide +kernel)) rfl)
theorem ini0 : Cond.initialized RX0 ∈ gw := (gw_t (List.mem_of_getElem? (i := 7) (by decide +kernel)) rfl)
theorem ins1 : Cond.instantiable RX1 2 ∈ gw := (gw_t (List.mem_of_getElem? (i := 563) (by decide +kernel)) rfl)
theorem ini1 : Cond.initialized RX1 ∈ gw := (gw_t (List.mem_of_getElem? (i := 10) (by decide +kernel)) rfl)
theorem ins2 : Cond.instantiable RX2 7 ∈ gw := (gw_t (List.mem_of_getElem? (i := 20) (by decide +kernel)) rfl)
theorem ini2 : Cond.initialized RX2 ∈ gw := (gw_t (List.mem_of_getElem? (i := 2) (by decide +kernel)) rfl)
theorem ins3 : Cond.instantiable RX3 2 ∈ gw := (gw_t (List.mem_of_getElem? (i := 26) (by decide +kernel)) rfl)
theorem ini3 : Cond.initialized RX3 ∈ gw := (gw_t (List.mem_of_getElem? (i := 3) (by decide +kernel)) rfl)
theorem ins4 : Cond.instantiable RX4 6 ∈ gw := (gw_t (List.mem_of_getElem? (i := 72) (by decide +kernel)) rfl)
theorem ini4 : Cond.initialized RX4 ∈ gw := (gw_t (List.mem_of_getElem? (i := 5) (by decide +kernel)) rfl)
theorem ins5 : Cond.instantiable RX5 4 ∈ gw := (gw_t (List.mem_of_getElem? (i := 103) (by decide +kernel)) rfl)
theorem ini5 : Cond.initialized RX5 ∈ gw := (gw_t (List.mem_of_getElem? (i := 6) (by decide +kernel)) rfl)
theorem ins6 : Cond.instantiable RX6 11 ∈ gw := (gw_t (List.mem_of_getElem? (i := 12) (by decide +kernel)) rfl)
theorem ini6 : Cond.initialized RX6 ∈ gw := (gw_t (List.mem_of_getElem? (i := 1) (by decide +kernel)) rfl)
theorem ins7 : Cond.instantiable RX7 38 ∈ gw := (gw_t (List.mem_of_getElem? (i := 606) (by decide +kernel)) rfl)
theorem ini7 : Cond.initialized RX7 ∈ gw := (gw_t (List.mem_of_getElem? (i := 9) (by decide +kernel)) rfl)
theorem klL_7 : Cond.classLink RL 7 RX6 ∈ gw := (gw_t (List.mem_of_getElem? (i := 11) (by decide +kernel)) rfl)
theorem klX6_9 : Cond.classLink RX6 9 RX2 ∈ gw := (gw_t (List.mem_of_getElem? (i := 19) (by decide +kernel)) rfl)
theorem klX2_31 : Cond.classLink RX2 31 RX3 ∈ gw := (gw_t (List.mem_of_getElem? (i := 25) (by decide +kernel)) rfl)
theorem arI : Cond.arrayClass .int ∈ gw := (gw_t (List.mem_of_getElem? (i := 44) (by decide +kernel)) rfl)
theorem klX6_24 : Cond.classLink RX6 24 RX3 ∈ gw := (gw_t (List.mem_of_getElem? (i := 69) (by decide +kernel)) rfl)
theorem klX6_33 : Cond.classLink RX6 33 RX4 ∈ gw := (gw_t (List.mem_of_getElem? (i := 71) (by decide +kernel)) rfl)
theorem klX4_24 : Cond.classLink RX4 24 RX3 ∈ gw := (gw_t (List.mem_of_getElem? (i := 77) (by decide +kernel)) rfl)
theorem klX6_49 : Cond.classLink RX6 49 RX5 ∈ gw := (gw_t (List.mem_of_getElem? (i := 102) (by decide +kernel)) rfl)
theorem klX5_22 : Cond.classLink RX5 22 RX3 ∈ gw := (gw_t (List.mem_of_getElem? (i := 108) (by decide +kernel)) rfl)
theorem klX6_56 : Cond.classLink RX6 56 RX0 ∈ gw := (gw_t (List.mem_of_getElem? (i := 127) (by decide +kernel)) rfl)
theorem klX6_63 : Cond.classLink RX6 63 RX1 ∈ gw := (gw_t (List.mem_of_getElem? (i := 148) (by decide +kernel)) rfl)
theorem klX1_9 : Cond.classLink RX1 9 RX5 ∈ gw := (gw_t (List.mem_of_getElem? (i := 568) (by decide +kernel)) rfl)
theorem klX1_18 : Cond.classLink RX1 18 RX3 ∈ gw := (gw_t (List.mem_of_getElem? (i := 570) (by decide +kernel)) rfl)
theorem klL_10 : Cond.classLink RL 10 RX7 ∈ gw := (gw_t (List.mem_of_getElem? (i := 605) (by decide +kernel)) rfl)
theorem mini : Cond.initialized "java/lang/Math" ∈ gw := (gw_t (List.mem_of_getElem? (i := 4) (by decide +kernel)) rfl)
def maxI (x y : Int32) : Int32 := if x < y then y else x
def minI (x y : Int32) : Int32 := if y < x then y else x
section AM
variable {M : MD} {d mc ms k n pc : Nat} {lv : List (Option Value)} {st : List Value} {hp : AH} {post : Post}
theorem A_mmax {idx : Nat} {x y : Int32} (hl : Cond.methodLink M.1.cls idx Lib.Math.max.name ∈ gw) (hd : decode M.2.1 pc = .ok (.invokestatic idx, 3)) (hd1 : 1 ≤ d) (hr : (st.map fun v => v.category).sum ≤ 8) (hk : k ≤ mc) (hm : n ≤ ms) (h : AW M d mc ms k n (pc + 3) lv (.int (maxI x y) :: st) hp post) : AW M d mc ms k n pc lv (.int y :: .int x :: st) hp post := by
  intro p l e R s m args below meth c g Q H locs ls F E A L
  have hts := F.2.2.2.2.1
  obtain ⟨-, -, hmaxL, hown, -, hT, hfr, hlo, hcl, hsl, -⟩ := id F
  exact va_mmax F.1 F.2.1 (hmaxL.trans L.1.symm) hown (hts _ hl) (hts _ ms_max) (hts _ mini) (hts _ mc_max) (by rw [hfr]; exact hd1) (by rw [a_sum, hlo]; omega) (by rw [hcl]; exact hk) (by rw [hsl]; exact hm) hd (h p l e R s m args below meth c g Q H locs ls F E A L)
theorem A_mmin {idx : Nat} {x y : Int32} (hl : Cond.methodLink M.1.cls idx Lib.Math.min.name ∈ gw) (hd : decode M.2.1 pc = .ok (.invokestatic idx, 3)) (hd1 : 1 ≤ d) (hr : (st.map fun v => v.category).sum ≤ 8) (hk : k ≤ mc) (hm : n ≤ ms) (h : AW M d mc ms k n (pc + 3) lv (.int (minI x y) :: st) hp post) : AW M d mc ms k n pc lv (.int y :: .int x :: st) hp post := by
  intro p l e R s m args below meth c g Q H locs ls F E A L
  have hts := F.2.2.2.2.1
  obtain ⟨-, -, hmaxL, hown, -, hT, hfr, hlo, hcl, hsl, -⟩ := id F
  exact va_mmin F.1 F.2.1 (hmaxL.trans L.1.symm) hown (hts _ hl) (hts _ ms_min) (hts _ mini) (hts _ mc_min) (by rw [hfr]; exact hd1) (by rw [a_sum, hlo]; omega) (by rw [hcl]; exact hk) (by rw [hsl]; exact hm) hd (h p l e R s m args below meth c g Q H locs ls F E A L)
end AM
