section AR
variable {M : MD} {d mc ms k n pc : Nat} {lv : List (Option Value)} {st : List Value} {hp : AH} {post : Post}
theorem A_iconst {i : Int} {v : Int32} (hd : decode M.2.1 pc = .ok (.iconst i, 1)) (hv : Int32.ofInt i = v) (h : AW M d mc ms k n (pc + 1) lv (.int v :: st) hp post) : AW M d mc ms k n pc lv st hp post := by
  intro p l e R s m args below meth c g Q H locs ls F E A L
  exact lv_iconst F.1 F.2.1 hd hv (h p l e R s m args below meth c g Q H locs ls F E A L)
theorem A_bipush {i : Int} {v : Int32} (hd : decode M.2.1 pc = .ok (.bipush i, 2)) (hv : (Int8.ofInt i).toInt32 = v) (h : AW M d mc ms k n (pc + 2) lv (.int v :: st) hp post) : AW M d mc ms k n pc lv st hp post := by
  intro p l e R s m args below meth c g Q H locs ls F E A L
  exact lv_bipush F.1 F.2.1 hd hv (h p l e R s m args below meth c g Q H locs ls F E A L)
theorem A_sipush {i : Int} {v : Int32} (hd : decode M.2.1 pc = .ok (.sipush i, 3)) (hv : (Int16.ofInt i).toInt32 = v) (h : AW M d mc ms k n (pc + 3) lv (.int v :: st) hp post) : AW M d mc ms k n pc lv st hp post := by
  intro p l e R s m args below meth c g Q H locs ls F E A L
  exact lv_sipush F.1 F.2.1 hd hv (h p l e R s m args below meth c g Q H locs ls F E A L)
theorem A_ldc {i : Nat} {v : Int32} (hd : decode M.2.1 pc = .ok (.ldc i, 2)) (hw : Cond.constant M.1.cls i v ∈ gw) (h : AW M d mc ms k n (pc + 2) lv (.int v :: st) hp post) : AW M d mc ms k n pc lv st hp post := by
  intro p l e R s m args below meth c g Q H locs ls F E A L
  exact W.ldc F.1 F.2.1 F.2.2.2.1 (F.2.2.2.2.1 _ hw) rfl hd (h p l e R s m args below meth c g Q H locs ls F E A L)
theorem A_null (hd : decode M.2.1 pc = .ok (.aconst_null, 1)) (h : AW M d mc ms k n (pc + 1) lv (.null :: st) hp post) : AW M d mc ms k n pc lv st hp post := by
  intro p l e R s m args below meth c g Q H locs ls F E A L
  exact lv_null F.1 F.2.1 hd (h p l e R s m args below meth c g Q H locs ls F E A L)
theorem A_iadd {x y : Int32} (hd : decode M.2.1 pc = .ok (.iadd, 1)) (h : AW M d mc ms k n (pc + 1) lv (.int (x + y) :: st) hp post) : AW M d mc ms k n pc lv (.int y :: .int x :: st) hp post := by
  intro p l e R s m args below meth c g Q H locs ls F E A L
  exact lv_iadd F.1 F.2.1 hd (h p l e R s m args below meth c g Q H locs ls F E A L)
theorem A_isub {x y : Int32} (hd : decode M.2.1 pc = .ok (.isub, 1)) (h : AW M d mc ms k n (pc + 1) lv (.int (x - y) :: st) hp post) : AW M d mc ms k n pc lv (.int y :: .int x :: st) hp post := by
  intro p l e R s m args below meth c g Q H locs ls F E A L
  exact lv_isub F.1 F.2.1 hd (h p l e R s m args below meth c g Q H locs ls F E A L)
theorem A_imul {x y : Int32} (hd : decode M.2.1 pc = .ok (.imul, 1)) (h : AW M d mc ms k n (pc + 1) lv (.int (x * y) :: st) hp post) : AW M d mc ms k n pc lv (.int y :: .int x :: st) hp post := by
  intro p l e R s m args below meth c g Q H locs ls F E A L
  exact lv_imul F.1 F.2.1 hd (h p l e R s m args below meth c g Q H locs ls F E A L)
theorem A_iand {x y : Int32} (hd : decode M.2.1 pc = .ok (.iand, 1)) (h : AW M d mc ms k n (pc + 1) lv (.int (x &&& y) :: st) hp post) : AW M d mc ms k n pc lv (.int y :: .int x :: st) hp post := by
  intro p l e R s m args below meth c g Q H locs ls F E A L
  exact lv_iand F.1 F.2.1 hd (h p l e R s m args below meth c g Q H locs ls F E A L)
theorem A_ishr {x y : Int32} (hd : decode M.2.1 pc = .ok (.ishr, 1)) (h : AW M d mc ms k n (pc + 1) lv (.int (x >>> (y &&& 31)) :: st) hp post) : AW M d mc ms k n pc lv (.int y :: .int x :: st) hp post := by
  intro p l e R s m args below meth c g Q H locs ls F E A L
  exact lv_ishr F.1 F.2.1 hd (h p l e R s m args below meth c g Q H locs ls F E A L)
theorem A_idiv {x y : Int32} (hd : decode M.2.1 pc = .ok (.idiv, 1)) (hn : ¬ y = 0) (h : AW M d mc ms k n (pc + 1) lv (.int (x / y) :: st) hp post) : AW M d mc ms k n pc lv (.int y :: .int x :: st) hp post := by
  intro p l e R s m args below meth c g Q H locs ls F E A L
  exact lv_idiv F.1 F.2.1 hd hn (h p l e R s m args below meth c g Q H locs ls F E A L)
theorem A_irem {x y : Int32} (hd : decode M.2.1 pc = .ok (.irem, 1)) (hn : ¬ y = 0) (h : AW M d mc ms k n (pc + 1) lv (.int (x - x / y * y) :: st) hp post) : AW M d mc ms k n pc lv (.int y :: .int x :: st) hp post := by
  intro p l e R s m args below meth c g Q H locs ls F E A L
  exact lv_irem F.1 F.2.1 hd hn (h p l e R s m args below meth c g Q H locs ls F E A L)
theorem A_dup {v : Value} (hd : decode M.2.1 pc = .ok (.dup, 1)) (hc : v.category = 1) (h : AW M d mc ms k n (pc + 1) lv (v :: v :: st) hp post) : AW M d mc ms k n pc lv (v :: st) hp post := by
  intro p l e R s m args below meth c g Q H locs ls F E A L
  exact lv_dup F.1 F.2.1 hd (by rw [a_v_cat]; exact hc) (h p l e R s m args below meth c g Q H locs ls F E A L)
theorem A_pop {v : Value} (hd : decode M.2.1 pc = .ok (.pop, 1)) (hc : v.category = 1) (h : AW M d mc ms k n (pc + 1) lv st hp post) : AW M d mc ms k n pc lv (v :: st) hp post := by
  intro p l e R s m args below meth c g Q H locs ls F E A L
  exact lv_pop F.1 F.2.1 hd (by rw [a_v_cat]; exact hc) (h p l e R s m args below meth c g Q H locs ls F E A L)
theorem A_goto {off : Int} {tgt : Nat} (hd : decode M.2.1 pc = .ok (.goto off, 3)) (ht : (pc : Int) + off = (tgt : Int)) (h : AW M d mc ms k n tgt lv st hp post) : AW M d mc ms k n pc lv st hp post := by
  intro p l e R s m args below meth c g Q H locs ls F E A L
  exact lv_goto F.1 F.2.1 hd ht (h p l e R s m args below meth c g Q H locs ls F E A L)
theorem A_ifnonnull {b : Nat} {off : Int} {tgt : Nat} (hd : decode M.2.1 pc = .ok (.ifnonnull off, 3)) (ht : (pc : Int) + off = (tgt : Int)) (h : AW M d mc ms k n tgt lv st hp post) : AW M d mc ms k n pc lv (.ref b :: st) hp post := by
  intro p l e R s m args below meth c g Q H locs ls F E A L
  exact lv_ifnonnull F.1 F.2.1 hd ht (h p l e R s m args below meth c g Q H locs ls F E A L)
theorem A_ifnonnullN {off : Int} (hd : decode M.2.1 pc = .ok (.ifnonnull off, 3)) (h : AW M d mc ms k n (pc + 3) lv st hp post) : AW M d mc ms k n pc lv (.null :: st) hp post := by
  intro p l e R s m args below meth c g Q H locs ls F E A L
  exact lv_ifnonnullN F.1 F.2.1 hd (h p l e R s m args below meth c g Q H locs ls F E A L)
theorem A_if_eq {x : Int32} {off : Int} {tgt : Nat} (hd : decode M.2.1 pc = .ok (.ifCond .eq off, 3)) (ht : (pc : Int) + off = (tgt : Int)) (ht1 : x = 0 → AW M d mc ms k n tgt lv st hp post) (hf1 : ¬ (x = 0) → AW M d mc ms k n (pc + 3) lv st hp post) : AW M d mc ms k n pc lv (.int x :: st) hp post := by
  intro p l e R s m args below meth c g Q H locs ls F E A L
  exact lv_if_eq F.1 F.2.1 hd ht (fun q => ht1 q p l e R s m args below meth c g Q H locs ls F E A L) (fun q => hf1 q p l e R s m args below meth c g Q H locs ls F E A L)
theorem A_icmp_eq {x y : Int32} {off : Int} {tgt : Nat} (hd : decode M.2.1 pc = .ok (.if_icmp .eq off, 3)) (ht : (pc : Int) + off = (tgt : Int)) (ht1 : x = y → AW M d mc ms k n tgt lv st hp post) (hf1 : ¬ (x = y) → AW M d mc ms k n (pc + 3) lv st hp post) : AW M d mc ms k n pc lv (.int y :: .int x :: st) hp post := by
  intro p l e R s m args below meth c g Q H locs ls F E A L
  exact lv_icmp_eq F.1 F.2.1 hd ht (fun q => ht1 q p l e R s m args below meth c g Q H locs ls F E A L) (fun q => hf1 q p l e R s m args below meth c g Q H locs ls F E A L)
theorem A_if_ne {x : Int32} {off : Int} {tgt : Nat} (hd : decode M.2.1 pc = .ok (.ifCond .ne off, 3)) (ht : (pc : Int) + off = (tgt : Int)) (ht1 : ¬ x = 0 → AW M d mc ms k n tgt lv st hp post) (hf1 : x = 0 → AW M d mc ms k n (pc + 3) lv st hp post) : AW M d mc ms k n pc lv (.int x :: st) hp post := by
  intro p l e R s m args below meth c g Q H locs ls F E A L
  exact lv_if_ne F.1 F.2.1 hd ht (fun q => ht1 q p l e R s m args below meth c g Q H locs ls F E A L) (fun q => hf1 q p l e R s m args below meth c g Q H locs ls F E A L)
theorem A_icmp_ne {x y : Int32} {off : Int} {tgt : Nat} (hd : decode M.2.1 pc = .ok (.if_icmp .ne off, 3)) (ht : (pc : Int) + off = (tgt : Int)) (ht1 : ¬ x = y → AW M d mc ms k n tgt lv st hp post) (hf1 : x = y → AW M d mc ms k n (pc + 3) lv st hp post) : AW M d mc ms k n pc lv (.int y :: .int x :: st) hp post := by
  intro p l e R s m args below meth c g Q H locs ls F E A L
  exact lv_icmp_ne F.1 F.2.1 hd ht (fun q => ht1 q p l e R s m args below meth c g Q H locs ls F E A L) (fun q => hf1 q p l e R s m args below meth c g Q H locs ls F E A L)
theorem A_if_lt {x : Int32} {off : Int} {tgt : Nat} (hd : decode M.2.1 pc = .ok (.ifCond .lt off, 3)) (ht : (pc : Int) + off = (tgt : Int)) (ht1 : x < 0 → AW M d mc ms k n tgt lv st hp post) (hf1 : ¬ (x < 0) → AW M d mc ms k n (pc + 3) lv st hp post) : AW M d mc ms k n pc lv (.int x :: st) hp post := by
  intro p l e R s m args below meth c g Q H locs ls F E A L
  exact lv_if_lt F.1 F.2.1 hd ht (fun q => ht1 q p l e R s m args below meth c g Q H locs ls F E A L) (fun q => hf1 q p l e R s m args below meth c g Q H locs ls F E A L)
theorem A_icmp_lt {x y : Int32} {off : Int} {tgt : Nat} (hd : decode M.2.1 pc = .ok (.if_icmp .lt off, 3)) (ht : (pc : Int) + off = (tgt : Int)) (ht1 : x < y → AW M d mc ms k n tgt lv st hp post) (hf1 : ¬ (x < y) → AW M d mc ms k n (pc + 3) lv st hp post) : AW M d mc ms k n pc lv (.int y :: .int x :: st) hp post := by
  intro p l e R s m args below meth c g Q H locs ls F E A L
  exact lv_icmp_lt F.1 F.2.1 hd ht (fun q => ht1 q p l e R s m args below meth c g Q H locs ls F E A L) (fun q => hf1 q p l e R s m args below meth c g Q H locs ls F E A L)
theorem A_if_ge {x : Int32} {off : Int} {tgt : Nat} (hd : decode M.2.1 pc = .ok (.ifCond .ge off, 3)) (ht : (pc : Int) + off = (tgt : Int)) (ht1 : 0 ≤ x → AW M d mc ms k n tgt lv st hp post) (hf1 : ¬ (0 ≤ x) → AW M d mc ms k n (pc + 3) lv st hp post) : AW M d mc ms k n pc lv (.int x :: st) hp post := by
  intro p l e R s m args below meth c g Q H locs ls F E A L
  exact lv_if_ge F.1 F.2.1 hd ht (fun q => ht1 q p l e R s m args below meth c g Q H locs ls F E A L) (fun q => hf1 q p l e R s m args below meth c g Q H locs ls F E A L)
theorem A_icmp_ge {x y : Int32} {off : Int} {tgt : Nat} (hd : decode M.2.1 pc = .ok (.if_icmp .ge off, 3)) (ht : (pc : Int) + off = (tgt : Int)) (ht1 : y ≤ x → AW M d mc ms k n tgt lv st hp post) (hf1 : ¬ (y ≤ x) → AW M d mc ms k n (pc + 3) lv st hp post) : AW M d mc ms k n pc lv (.int y :: .int x :: st) hp post := by
  intro p l e R s m args below meth c g Q H locs ls F E A L
  exact lv_icmp_ge F.1 F.2.1 hd ht (fun q => ht1 q p l e R s m args below meth c g Q H locs ls F E A L) (fun q => hf1 q p l e R s m args below meth c g Q H locs ls F E A L)
theorem A_if_gt {x : Int32} {off : Int} {tgt : Nat} (hd : decode M.2.1 pc = .ok (.ifCond .gt off, 3)) (ht : (pc : Int) + off = (tgt : Int)) (ht1 : 0 < x → AW M d mc ms k n tgt lv st hp post) (hf1 : ¬ (0 < x) → AW M d mc ms k n (pc + 3) lv st hp post) : AW M d mc ms k n pc lv (.int x :: st) hp post := by
  intro p l e R s m args below meth c g Q H locs ls F E A L
  exact lv_if_gt F.1 F.2.1 hd ht (fun q => ht1 q p l e R s m args below meth c g Q H locs ls F E A L) (fun q => hf1 q p l e R s m args below meth c g Q H locs ls F E A L)
theorem A_icmp_gt {x y : Int32} {off : Int} {tgt : Nat} (hd : decode M.2.1 pc = .ok (.if_icmp .gt off, 3)) (ht : (pc : Int) + off = (tgt : Int)) (ht1 : y < x → AW M d mc ms k n tgt lv st hp post) (hf1 : ¬ (y < x) → AW M d mc ms k n (pc + 3) lv st hp post) : AW M d mc ms k n pc lv (.int y :: .int x :: st) hp post := by
  intro p l e R s m args below meth c g Q H locs ls F E A L
  exact lv_icmp_gt F.1 F.2.1 hd ht (fun q => ht1 q p l e R s m args below meth c g Q H locs ls F E A L) (fun q => hf1 q p l e R s m args below meth c g Q H locs ls F E A L)
theorem A_if_le {x : Int32} {off : Int} {tgt : Nat} (hd : decode M.2.1 pc = .ok (.ifCond .le off, 3)) (ht : (pc : Int) + off = (tgt : Int)) (ht1 : x ≤ 0 → AW M d mc ms k n tgt lv st hp post) (hf1 : ¬ (x ≤ 0) → AW M d mc ms k n (pc + 3) lv st hp post) : AW M d mc ms k n pc lv (.int x :: st) hp post := by
  intro p l e R s m args below meth c g Q H locs ls F E A L
  exact lv_if_le F.1 F.2.1 hd ht (fun q => ht1 q p l e R s m args below meth c g Q H locs ls F E A L) (fun q => hf1 q p l e R s m args below meth c g Q H locs ls F E A L)
theorem A_icmp_le {x y : Int32} {off : Int} {tgt : Nat} (hd : decode M.2.1 pc = .ok (.if_icmp .le off, 3)) (ht : (pc : Int) + off = (tgt : Int)) (ht1 : x ≤ y → AW M d mc ms k n tgt lv st hp post) (hf1 : ¬ (x ≤ y) → AW M d mc ms k n (pc + 3) lv st hp post) : AW M d mc ms k n pc lv (.int y :: .int x :: st) hp post := by
  intro p l e R s m args below meth c g Q H locs ls F E A L
  exact lv_icmp_le F.1 F.2.1 hd ht (fun q => ht1 q p l e R s m args below meth c g Q H locs ls F E A L) (fun q => hf1 q p l e R s m args below meth c g Q H locs ls F E A L)
theorem A_iload0 {lt : List (Option Value)} {x : Int32} (hd : decode M.2.1 pc = .ok (.iload_n 0, 1)) (h : AW M d mc ms k n (pc + 1) (some (.int x) :: lt) (.int x :: st) hp post) : AW M d mc ms k n pc (some (.int x) :: lt) st hp post := by
  intro p l e R s m args below meth c g Q H locs ls F E A L
  exact lv_iload_n F.1 F.2.1 hd rfl (L.2.2 0 (.int x) rfl).2 (h p l e R s m args below meth c g Q H locs ls F E A L)
theorem A_aload0 {lt : List (Option Value)} {x : Nat} (hd : decode M.2.1 pc = .ok (.aload_n 0, 1)) (h : AW M d mc ms k n (pc + 1) (some (.ref x) :: lt) (.ref x :: st) hp post) : AW M d mc ms k n pc (some (.ref x) :: lt) st hp post := by
  intro p l e R s m args below meth c g Q H locs ls F E A L
  exact lv_aload_n F.1 F.2.1 hd rfl (L.2.2 0 (.ref x) rfl).2 (h p l e R s m args below meth c g Q H locs ls F E A L)
theorem A_aloadN0 {lt : List (Option Value)} (hd : decode M.2.1 pc = .ok (.aload_n 0, 1)) (h : AW M d mc ms k n (pc + 1) (some .null :: lt) (.null :: st) hp post) : AW M d mc ms k n pc (some .null :: lt) st hp post := by
  intro p l e R s m args below meth c g Q H locs ls F E A L
  exact lv_aload_nN F.1 F.2.1 hd rfl (L.2.2 0 .null rfl).2 (h p l e R s m args below meth c g Q H locs ls F E A L)
theorem A_istore0 {lt : List (Option Value)} {ai : Option Value} {x : Int32} (hd : decode M.2.1 pc = .ok (.istore_n 0, 1)) (hn : 0 < M.2.2.1) (h : AW M d mc ms k n (pc + 1) (some (.int x) :: lt) st hp post) : AW M d mc ms k n pc (ai :: lt) (.int x :: st) hp post := by
  intro p l e R s m args below meth c g Q H locs ls F E A L
  exact lv_istore_n F.1 F.2.1 hd rfl L.has hn rfl (fun ls' L' => h p l e R s m args below meth c g Q H locs ls' F E A (L.set (v := .int x) rfl L'))
theorem A_astore0 {lt : List (Option Value)} {ai : Option Value} {x : Nat} (hd : decode M.2.1 pc = .ok (.astore_n 0, 1)) (hn : 0 < M.2.2.1) (h : AW M d mc ms k n (pc + 1) (some (.ref x) :: lt) st hp post) : AW M d mc ms k n pc (ai :: lt) (.ref x :: st) hp post := by
  intro p l e R s m args below meth c g Q H locs ls F E A L
  exact lv_astore_n F.1 F.2.1 hd rfl L.has hn rfl (fun ls' L' => h p l e R s m args below meth c g Q H locs ls' F E A (L.set (v := .ref x) rfl L'))
theorem A_astoreN0 {lt : List (Option Value)} {ai : Option Value} (hd : decode M.2.1 pc = .ok (.astore_n 0, 1)) (hn : 0 < M.2.2.1) (h : AW M d mc ms k n (pc + 1) (some .null :: lt) st hp post) : AW M d mc ms k n pc (ai :: lt) (.null :: st) hp post := by
  intro p l e R s m args below meth c g Q H locs ls F E A L
  exact lv_astore_nN F.1 F.2.1 hd rfl L.has hn rfl (fun ls' L' => h p l e R s m args below meth c g Q H locs ls' F E A (L.set (v := .null) rfl L'))
theorem A_iinc0 {lt : List (Option Value)} {x v : Int32} {j : Int} (hd : decode M.2.1 pc = .ok (.iinc 0 j, 3)) (hn : 0 < M.2.2.1) (hv : x + Int32.ofInt j = v) (h : AW M d mc ms k n (pc + 3) (some (.int v) :: lt) st hp post) : AW M d mc ms k n pc (some (.int x) :: lt) st hp post := by
  intro p l e R s m args below meth c g Q H locs ls F E A L
  obtain ⟨kk, hk⟩ := List.getElem?_of_mem ((a_pr_mem (g := g) (lv := (some (.int x) :: lt)) (q := (0, .int x))).mpr ⟨.int x, rfl, rfl⟩)
  exact lv_iinc (k := kk) F.1 F.2.1 hd L.has hk hv hn rfl (fun ls' L' => h p l e R s m args below meth c g Q H locs ls' F E A (L.set (v := .int v) rfl L'))
theorem A_iload1 {a0 : Option Value} {lt : List (Option Value)} {x : Int32} (hd : decode M.2.1 pc = .ok (.iload_n 1, 1)) (h : AW M d mc ms k n (pc + 1) (a0 :: some (.int x) :: lt) (.int x :: st) hp post) : AW M d mc ms k n pc (a0 :: some (.int x) :: lt) st hp post := by
  intro p l e R s m args below meth c g Q H locs ls F E A L
  exact lv_iload_n F.1 F.2.1 hd rfl (L.2.2 1 (.int x) rfl).2 (h p l e R s m args below meth c g Q H locs ls F E A L)
theorem A_aload1 {a0 : Option Value} {lt : List (Option Value)} {x : Nat} (hd : decode M.2.1 pc = .ok (.aload_n 1, 1)) (h : AW M d mc ms k n (pc + 1) (a0 :: some (.ref x) :: lt) (.ref x :: st) hp post) : AW M d mc ms k n pc (a0 :: some (.ref x) :: lt) st hp post := by
  intro p l e R s m args below meth c g Q H locs ls F E A L
  exact lv_aload_n F.1 F.2.1 hd rfl (L.2.2 1 (.ref x) rfl).2 (h p l e R s m args below meth c g Q H locs ls F E A L)
theorem A_aloadN1 {a0 : Option Value} {lt : List (Option Value)} (hd : decode M.2.1 pc = .ok (.aload_n 1, 1)) (h : AW M d mc ms k n (pc + 1) (a0 :: some .null :: lt) (.null :: st) hp post) : AW M d mc ms k n pc (a0 :: some .null :: lt) st hp post := by
  intro p l e R s m args below meth c g Q H locs ls F E A L
  exact lv_aload_nN F.1 F.2.1 hd rfl (L.2.2 1 .null rfl).2 (h p l e R s m args below meth c g Q H locs ls F E A L)
theorem A_istore1 {a0 : Option Value} {lt : List (Option Value)} {ai : Option Value} {x : Int32} (hd : decode M.2.1 pc = .ok (.istore_n 1, 1)) (hn : 1 < M.2.2.1) (h : AW M d mc ms k n (pc + 1) (a0 :: some (.int x) :: lt) st hp post) : AW M d mc ms k n pc (a0 :: ai :: lt) (.int x :: st) hp post := by
  intro p l e R s m args below meth c g Q H locs ls F E A L
  exact lv_istore_n F.1 F.2.1 hd rfl L.has hn rfl (fun ls' L' => h p l e R s m args below meth c g Q H locs ls' F E A (L.set (v := .int x) rfl L'))
theorem A_astore1 {a0 : Option Value} {lt : List (Option Value)} {ai : Option Value} {x : Nat} (hd : decode M.2.1 pc = .ok (.astore_n 1, 1)) (hn : 1 < M.2.2.1) (h : AW M d mc ms k n (pc + 1) (a0 :: some (.ref x) :: lt) st hp post) : AW M d mc ms k n pc (a0 :: ai :: lt) (.ref x :: st) hp post := by
  intro p l e R s m args below meth c g Q H locs ls F E A L
  exact lv_astore_n F.1 F.2.1 hd rfl L.has hn rfl (fun ls' L' => h p l e R s m args below meth c g Q H locs ls' F E A (L.set (v := .ref x) rfl L'))
theorem A_astoreN1 {a0 : Option Value} {lt : List (Option Value)} {ai : Option Value} (hd : decode M.2.1 pc = .ok (.astore_n 1, 1)) (hn : 1 < M.2.2.1) (h : AW M d mc ms k n (pc + 1) (a0 :: some .null :: lt) st hp post) : AW M d mc ms k n pc (a0 :: ai :: lt) (.null :: st) hp post := by
  intro p l e R s m args below meth c g Q H locs ls F E A L
  exact lv_astore_nN F.1 F.2.1 hd rfl L.has hn rfl (fun ls' L' => h p l e R s m args below meth c g Q H locs ls' F E A (L.set (v := .null) rfl L'))
theorem A_iinc1 {a0 : Option Value} {lt : List (Option Value)} {x v : Int32} {j : Int} (hd : decode M.2.1 pc = .ok (.iinc 1 j, 3)) (hn : 1 < M.2.2.1) (hv : x + Int32.ofInt j = v) (h : AW M d mc ms k n (pc + 3) (a0 :: some (.int v) :: lt) st hp post) : AW M d mc ms k n pc (a0 :: some (.int x) :: lt) st hp post := by
  intro p l e R s m args below meth c g Q H locs ls F E A L
  obtain ⟨kk, hk⟩ := List.getElem?_of_mem ((a_pr_mem (g := g) (lv := (a0 :: some (.int x) :: lt)) (q := (1, .int x))).mpr ⟨.int x, rfl, rfl⟩)
  exact lv_iinc (k := kk) F.1 F.2.1 hd L.has hk hv hn rfl (fun ls' L' => h p l e R s m args below meth c g Q H locs ls' F E A (L.set (v := .int v) rfl L'))
theorem A_iload2 {a0 a1 : Option Value} {lt : List (Option Value)} {x : Int32} (hd : decode M.2.1 pc = .ok (.iload_n 2, 1)) (h : AW M d mc ms k n (pc + 1) (a0 :: a1 :: some (.int x) :: lt) (.int x :: st) hp post) : AW M d mc ms k n pc (a0 :: a1 :: some (.int x) :: lt) st hp post := by
  intro p l e R s m args below meth c g Q H locs ls F E A L
  exact lv_iload_n F.1 F.2.1 hd rfl (L.2.2 2 (.int x) rfl).2 (h p l e R s m args below meth c g Q H locs ls F E A L)
theorem A_aload2 {a0 a1 : Option Value} {lt : List (Option Value)} {x : Nat} (hd : decode M.2.1 pc = .ok (.aload_n 2, 1)) (h : AW M d mc ms k n (pc + 1) (a0 :: a1 :: some (.ref x) :: lt) (.ref x :: st) hp post) : AW M d mc ms k n pc (a0 :: a1 :: some (.ref x) :: lt) st hp post := by
  intro p l e R s m args below meth c g Q H locs ls F E A L
  exact lv_aload_n F.1 F.2.1 hd rfl (L.2.2 2 (.ref x) rfl).2 (h p l e R s m args below meth c g Q H locs ls F E A L)
theorem A_aloadN2 {a0 a1 : Option Value} {lt : List (Option Value)} (hd : decode M.2.1 pc = .ok (.aload_n 2, 1)) (h : AW M d mc ms k n (pc + 1) (a0 :: a1 :: some .null :: lt) (.null :: st) hp post) : AW M d mc ms k n pc (a0 :: a1 :: some .null :: lt) st hp post := by
  intro p l e R s m args below meth c g Q H locs ls F E A L
  exact lv_aload_nN F.1 F.2.1 hd rfl (L.2.2 2 .null rfl).2 (h p l e R s m args below meth c g Q H locs ls F E A L)
theorem A_istore2 {a0 a1 : Option Value} {lt : List (Option Value)} {ai : Option Value} {x : Int32} (hd : decode M.2.1 pc = .ok (.istore_n 2, 1)) (hn : 2 < M.2.2.1) (h : AW M d mc ms k n (pc + 1) (a0 :: a1 :: some (.int x) :: lt) st hp post) : AW M d mc ms k n pc (a0 :: a1 :: ai :: lt) (.int x :: st) hp post := by
  intro p l e R s m args below meth c g Q H locs ls F E A L
  exact lv_istore_n F.1 F.2.1 hd rfl L.has hn rfl (fun ls' L' => h p l e R s m args below meth c g Q H locs ls' F E A (L.set (v := .int x) rfl L'))
theorem A_astore2 {a0 a1 : Option Value} {lt : List (Option Value)} {ai : Option Value} {x : Nat} (hd : decode M.2.1 pc = .ok (.astore_n 2, 1)) (hn : 2 < M.2.2.1) (h : AW M d mc ms k n (pc + 1) (a0 :: a1 :: some (.ref x) :: lt) st hp post) : AW M d mc ms k n pc (a0 :: a1 :: ai :: lt) (.ref x :: st) hp post := by
  intro p l e R s m args below meth c g Q H locs ls F E A L
  exact lv_astore_n F.1 F.2.1 hd rfl L.has hn rfl (fun ls' L' => h p l e R s m args below meth c g Q H locs ls' F E A (L.set (v := .ref x) rfl L'))
theorem A_astoreN2 {a0 a1 : Option Value} {lt : List (Option Value)} {ai : Option Value} (hd : decode M.2.1 pc = .ok (.astore_n 2, 1)) (hn : 2 < M.2.2.1) (h : AW M d mc ms k n (pc + 1) (a0 :: a1 :: some .null :: lt) st hp post) : AW M d mc ms k n pc (a0 :: a1 :: ai :: lt) (.null :: st) hp post := by
  intro p l e R s m args below meth c g Q H locs ls F E A L
  exact lv_astore_nN F.1 F.2.1 hd rfl L.has hn rfl (fun ls' L' => h p l e R s m args below meth c g Q H locs ls' F E A (L.set (v := .null) rfl L'))
theorem A_iinc2 {a0 a1 : Option Value} {lt : List (Option Value)} {x v : Int32} {j : Int} (hd : decode M.2.1 pc = .ok (.iinc 2 j, 3)) (hn : 2 < M.2.2.1) (hv : x + Int32.ofInt j = v) (h : AW M d mc ms k n (pc + 3) (a0 :: a1 :: some (.int v) :: lt) st hp post) : AW M d mc ms k n pc (a0 :: a1 :: some (.int x) :: lt) st hp post := by
  intro p l e R s m args below meth c g Q H locs ls F E A L
  obtain ⟨kk, hk⟩ := List.getElem?_of_mem ((a_pr_mem (g := g) (lv := (a0 :: a1 :: some (.int x) :: lt)) (q := (2, .int x))).mpr ⟨.int x, rfl, rfl⟩)
  exact lv_iinc (k := kk) F.1 F.2.1 hd L.has hk hv hn rfl (fun ls' L' => h p l e R s m args below meth c g Q H locs ls' F E A (L.set (v := .int v) rfl L'))
theorem A_iload3 {a0 a1 a2 : Option Value} {lt : List (Option Value)} {x : Int32} (hd : decode M.2.1 pc = .ok (.iload_n 3, 1)) (h : AW M d mc ms k n (pc + 1) (a0 :: a1 :: a2 :: some (.int x) :: lt) (.int x :: st) hp post) : AW M d mc ms k n pc (a0 :: a1 :: a2 :: some (.int x) :: lt) st hp post := by
  intro p l e R s m args below meth c g Q H locs ls F E A L
  exact lv_iload_n F.1 F.2.1 hd rfl (L.2.2 3 (.int x) rfl).2 (h p l e R s m args below meth c g Q H locs ls F E A L)
theorem A_aload3 {a0 a1 a2 : Option Value} {lt : List (Option Value)} {x : Nat} (hd : decode M.2.1 pc = .ok (.aload_n 3, 1)) (h : AW M d mc ms k n (pc + 1) (a0 :: a1 :: a2 :: some (.ref x) :: lt) (.ref x :: st) hp post) : AW M d mc ms k n pc (a0 :: a1 :: a2 :: some (.ref x) :: lt) st hp post := by
  intro p l e R s m args below meth c g Q H locs ls F E A L
  exact lv_aload_n F.1 F.2.1 hd rfl (L.2.2 3 (.ref x) rfl).2 (h p l e R s m args below meth c g Q H locs ls F E A L)
theorem A_aloadN3 {a0 a1 a2 : Option Value} {lt : List (Option Value)} (hd : decode M.2.1 pc = .ok (.aload_n 3, 1)) (h : AW M d mc ms k n (pc + 1) (a0 :: a1 :: a2 :: some .null :: lt) (.null :: st) hp post) : AW M d mc ms k n pc (a0 :: a1 :: a2 :: some .null :: lt) st hp post := by
  intro p l e R s m args below meth c g Q H locs ls F E A L
  exact lv_aload_nN F.1 F.2.1 hd rfl (L.2.2 3 .null rfl).2 (h p l e R s m args below meth c g Q H locs ls F E A L)
theorem A_istore3 {a0 a1 a2 : Option Value} {lt : List (Option Value)} {ai : Option Value} {x : Int32} (hd : decode M.2.1 pc = .ok (.istore_n 3, 1)) (hn : 3 < M.2.2.1) (h : AW M d mc ms k n (pc + 1) (a0 :: a1 :: a2 :: some (.int x) :: lt) st hp post) : AW M d mc ms k n pc (a0 :: a1 :: a2 :: ai :: lt) (.int x :: st) hp post := by
  intro p l e R s m args below meth c g Q H locs ls F E A L
  exact lv_istore_n F.1 F.2.1 hd rfl L.has hn rfl (fun ls' L' => h p l e R s m args below meth c g Q H locs ls' F E A (L.set (v := .int x) rfl L'))
theorem A_astore3 {a0 a1 a2 : Option Value} {lt : List (Option Value)} {ai : Option Value} {x : Nat} (hd : decode M.2.1 pc = .ok (.astore_n 3, 1)) (hn : 3 < M.2.2.1) (h : AW M d mc ms k n (pc + 1) (a0 :: a1 :: a2 :: some (.ref x) :: lt) st hp post) : AW M d mc ms k n pc (a0 :: a1 :: a2 :: ai :: lt) (.ref x :: st) hp post := by
  intro p l e R s m args below meth c g Q H locs ls F E A L
  exact lv_astore_n F.1 F.2.1 hd rfl L.has hn rfl (fun ls' L' => h p l e R s m args below meth c g Q H locs ls' F E A (L.set (v := .ref x) rfl L'))
theorem A_astoreN3 {a0 a1 a2 : Option Value} {lt : List (Option Value)} {ai : Option Value} (hd : decode M.2.1 pc = .ok (.astore_n 3, 1)) (hn : 3 < M.2.2.1) (h : AW M d mc ms k n (pc + 1) (a0 :: a1 :: a2 :: some .null :: lt) st hp post) : AW M d mc ms k n pc (a0 :: a1 :: a2 :: ai :: lt) (.null :: st) hp post := by
  intro p l e R s m args below meth c g Q H locs ls F E A L
  exact lv_astore_nN F.1 F.2.1 hd rfl L.has hn rfl (fun ls' L' => h p l e R s m args below meth c g Q H locs ls' F E A (L.set (v := .null) rfl L'))
theorem A_iinc3 {a0 a1 a2 : Option Value} {lt : List (Option Value)} {x v : Int32} {j : Int} (hd : decode M.2.1 pc = .ok (.iinc 3 j, 3)) (hn : 3 < M.2.2.1) (hv : x + Int32.ofInt j = v) (h : AW M d mc ms k n (pc + 3) (a0 :: a1 :: a2 :: some (.int v) :: lt) st hp post) : AW M d mc ms k n pc (a0 :: a1 :: a2 :: some (.int x) :: lt) st hp post := by
  intro p l e R s m args below meth c g Q H locs ls F E A L
  obtain ⟨kk, hk⟩ := List.getElem?_of_mem ((a_pr_mem (g := g) (lv := (a0 :: a1 :: a2 :: some (.int x) :: lt)) (q := (3, .int x))).mpr ⟨.int x, rfl, rfl⟩)
  exact lv_iinc (k := kk) F.1 F.2.1 hd L.has hk hv hn rfl (fun ls' L' => h p l e R s m args below meth c g Q H locs ls' F E A (L.set (v := .int v) rfl L'))
theorem A_iload4 {a0 a1 a2 a3 : Option Value} {lt : List (Option Value)} {x : Int32} (hd : decode M.2.1 pc = .ok (.iload 4, 2)) (h : AW M d mc ms k n (pc + 2) (a0 :: a1 :: a2 :: a3 :: some (.int x) :: lt) (.int x :: st) hp post) : AW M d mc ms k n pc (a0 :: a1 :: a2 :: a3 :: some (.int x) :: lt) st hp post := by
  intro p l e R s m args below meth c g Q H locs ls F E A L
  exact lv_iload F.1 F.2.1 hd (L.2.2 4 (.int x) rfl).2 (h p l e R s m args below meth c g Q H locs ls F E A L)
theorem A_aload4 {a0 a1 a2 a3 : Option Value} {lt : List (Option Value)} {x : Nat} (hd : decode M.2.1 pc = .ok (.aload 4, 2)) (h : AW M d mc ms k n (pc + 2) (a0 :: a1 :: a2 :: a3 :: some (.ref x) :: lt) (.ref x :: st) hp post) : AW M d mc ms k n pc (a0 :: a1 :: a2 :: a3 :: some (.ref x) :: lt) st hp post := by
  intro p l e R s m args below meth c g Q H locs ls F E A L
  exact lv_aload F.1 F.2.1 hd (L.2.2 4 (.ref x) rfl).2 (h p l e R s m args below meth c g Q H locs ls F E A L)
theorem A_istore4 {a0 a1 a2 a3 : Option Value} {lt : List (Option Value)} {ai : Option Value} {x : Int32} (hd : decode M.2.1 pc = .ok (.istore 4, 2)) (hn : 4 < M.2.2.1) (h : AW M d mc ms k n (pc + 2) (a0 :: a1 :: a2 :: a3 :: some (.int x) :: lt) st hp post) : AW M d mc ms k n pc (a0 :: a1 :: a2 :: a3 :: ai :: lt) (.int x :: st) hp post := by
  intro p l e R s m args below meth c g Q H locs ls F E A L
  exact lv_istore F.1 F.2.1 hd L.has hn rfl (fun ls' L' => h p l e R s m args below meth c g Q H locs ls' F E A (L.set (v := .int x) rfl L'))
theorem A_astore4 {a0 a1 a2 a3 : Option Value} {lt : List (Option Value)} {ai : Option Value} {x : Nat} (hd : decode M.2.1 pc = .ok (.astore 4, 2)) (hn : 4 < M.2.2.1) (h : AW M d mc ms k n (pc + 2) (a0 :: a1 :: a2 :: a3 :: some (.ref x) :: lt) st hp post) : AW M d mc ms k n pc (a0 :: a1 :: a2 :: a3 :: ai :: lt) (.ref x :: st) hp post := by
  intro p l e R s m args below meth c g Q H locs ls F E A L
  exact lv_astore F.1 F.2.1 hd L.has hn rfl (fun ls' L' => h p l e R s m args below meth c g Q H locs ls' F E A (L.set (v := .ref x) rfl L'))
theorem A_iinc4 {a0 a1 a2 a3 : Option Value} {lt : List (Option Value)} {x v : Int32} {j : Int} (hd : decode M.2.1 pc = .ok (.iinc 4 j, 3)) (hn : 4 < M.2.2.1) (hv : x + Int32.ofInt j = v) (h : AW M d mc ms k n (pc + 3) (a0 :: a1 :: a2 :: a3 :: some (.int v) :: lt) st hp post) : AW M d mc ms k n pc (a0 :: a1 :: a2 :: a3 :: some (.int x) :: lt) st hp post := by
  intro p l e R s m args below meth c g Q H locs ls F E A L
  obtain ⟨kk, hk⟩ := List.getElem?_of_mem ((a_pr_mem (g := g) (lv := (a0 :: a1 :: a2 :: a3 :: some (.int x) :: lt)) (q := (4, .int x))).mpr ⟨.int x, rfl, rfl⟩)
  exact lv_iinc (k := kk) F.1 F.2.1 hd L.has hk hv hn rfl (fun ls' L' => h p l e R s m args below meth c g Q H locs ls' F E A (L.set (v := .int v) rfl L'))
theorem A_iload5 {a0 a1 a2 a3 a4 : Option Value} {lt : List (Option Value)} {x : Int32} (hd : decode M.2.1 pc = .ok (.iload 5, 2)) (h : AW M d mc ms k n (pc + 2) (a0 :: a1 :: a2 :: a3 :: a4 :: some (.int x) :: lt) (.int x :: st) hp post) : AW M d mc ms k n pc (a0 :: a1 :: a2 :: a3 :: a4 :: some (.int x) :: lt) st hp post := by
  intro p l e R s m args below meth c g Q H locs ls F E A L
  exact lv_iload F.1 F.2.1 hd (L.2.2 5 (.int x) rfl).2 (h p l e R s m args below meth c g Q H locs ls F E A L)
theorem A_aload5 {a0 a1 a2 a3 a4 : Option Value} {lt : List (Option Value)} {x : Nat} (hd : decode M.2.1 pc = .ok (.aload 5, 2)) (h : AW M d mc ms k n (pc + 2) (a0 :: a1 :: a2 :: a3 :: a4 :: some (.ref x) :: lt) (.ref x :: st) hp post) : AW M d mc ms k n pc (a0 :: a1 :: a2 :: a3 :: a4 :: some (.ref x) :: lt) st hp post := by
  intro p l e R s m args below meth c g Q H locs ls F E A L
  exact lv_aload F.1 F.2.1 hd (L.2.2 5 (.ref x) rfl).2 (h p l e R s m args below meth c g Q H locs ls F E A L)
theorem A_istore5 {a0 a1 a2 a3 a4 : Option Value} {lt : List (Option Value)} {ai : Option Value} {x : Int32} (hd : decode M.2.1 pc = .ok (.istore 5, 2)) (hn : 5 < M.2.2.1) (h : AW M d mc ms k n (pc + 2) (a0 :: a1 :: a2 :: a3 :: a4 :: some (.int x) :: lt) st hp post) : AW M d mc ms k n pc (a0 :: a1 :: a2 :: a3 :: a4 :: ai :: lt) (.int x :: st) hp post := by
  intro p l e R s m args below meth c g Q H locs ls F E A L
  exact lv_istore F.1 F.2.1 hd L.has hn rfl (fun ls' L' => h p l e R s m args below meth c g Q H locs ls' F E A (L.set (v := .int x) rfl L'))
theorem A_astore5 {a0 a1 a2 a3 a4 : Option Value} {lt : List (Option Value)} {ai : Option Value} {x : Nat} (hd : decode M.2.1 pc = .ok (.astore 5, 2)) (hn : 5 < M.2.2.1) (h : AW M d mc ms k n (pc + 2) (a0 :: a1 :: a2 :: a3 :: a4 :: some (.ref x) :: lt) st hp post) : AW M d mc ms k n pc (a0 :: a1 :: a2 :: a3 :: a4 :: ai :: lt) (.ref x :: st) hp post := by
  intro p l e R s m args below meth c g Q H locs ls F E A L
  exact lv_astore F.1 F.2.1 hd L.has hn rfl (fun ls' L' => h p l e R s m args below meth c g Q H locs ls' F E A (L.set (v := .ref x) rfl L'))
theorem A_iinc5 {a0 a1 a2 a3 a4 : Option Value} {lt : List (Option Value)} {x v : Int32} {j : Int} (hd : decode M.2.1 pc = .ok (.iinc 5 j, 3)) (hn : 5 < M.2.2.1) (hv : x + Int32.ofInt j = v) (h : AW M d mc ms k n (pc + 3) (a0 :: a1 :: a2 :: a3 :: a4 :: some (.int v) :: lt) st hp post) : AW M d mc ms k n pc (a0 :: a1 :: a2 :: a3 :: a4 :: some (.int x) :: lt) st hp post := by
  intro p l e R s m args below meth c g Q H locs ls F E A L
  obtain ⟨kk, hk⟩ := List.getElem?_of_mem ((a_pr_mem (g := g) (lv := (a0 :: a1 :: a2 :: a3 :: a4 :: some (.int x) :: lt)) (q := (5, .int x))).mpr ⟨.int x, rfl, rfl⟩)
  exact lv_iinc (k := kk) F.1 F.2.1 hd L.has hk hv hn rfl (fun ls' L' => h p l e R s m args below meth c g Q H locs ls' F E A (L.set (v := .int v) rfl L'))
theorem A_iload6 {a0 a1 a2 a3 a4 a5 : Option Value} {lt : List (Option Value)} {x : Int32} (hd : decode M.2.1 pc = .ok (.iload 6, 2)) (h : AW M d mc ms k n (pc + 2) (a0 :: a1 :: a2 :: a3 :: a4 :: a5 :: some (.int x) :: lt) (.int x :: st) hp post) : AW M d mc ms k n pc (a0 :: a1 :: a2 :: a3 :: a4 :: a5 :: some (.int x) :: lt) st hp post := by
  intro p l e R s m args below meth c g Q H locs ls F E A L
  exact lv_iload F.1 F.2.1 hd (L.2.2 6 (.int x) rfl).2 (h p l e R s m args below meth c g Q H locs ls F E A L)
theorem A_aload6 {a0 a1 a2 a3 a4 a5 : Option Value} {lt : List (Option Value)} {x : Nat} (hd : decode M.2.1 pc = .ok (.aload 6, 2)) (h : AW M d mc ms k n (pc + 2) (a0 :: a1 :: a2 :: a3 :: a4 :: a5 :: some (.ref x) :: lt) (.ref x :: st) hp post) : AW M d mc ms k n pc (a0 :: a1 :: a2 :: a3 :: a4 :: a5 :: some (.ref x) :: lt) st hp post := by
  intro p l e R s m args below meth c g Q H locs ls F E A L
  exact lv_aload F.1 F.2.1 hd (L.2.2 6 (.ref x) rfl).2 (h p l e R s m args below meth c g Q H locs ls F E A L)
theorem A_istore6 {a0 a1 a2 a3 a4 a5 : Option Value} {lt : List (Option Value)} {ai : Option Value} {x : Int32} (hd : decode M.2.1 pc = .ok (.istore 6, 2)) (hn : 6 < M.2.2.1) (h : AW M d mc ms k n (pc + 2) (a0 :: a1 :: a2 :: a3 :: a4 :: a5 :: some (.int x) :: lt) st hp post) : AW M d mc ms k n pc (a0 :: a1 :: a2 :: a3 :: a4 :: a5 :: ai :: lt) (.int x :: st) hp post := by
  intro p l e R s m args below meth c g Q H locs ls F E A L
  exact lv_istore F.1 F.2.1 hd L.has hn rfl (fun ls' L' => h p l e R s m args below meth c g Q H locs ls' F E A (L.set (v := .int x) rfl L'))
theorem A_astore6 {a0 a1 a2 a3 a4 a5 : Option Value} {lt : List (Option Value)} {ai : Option Value} {x : Nat} (hd : decode M.2.1 pc = .ok (.astore 6, 2)) (hn : 6 < M.2.2.1) (h : AW M d mc ms k n (pc + 2) (a0 :: a1 :: a2 :: a3 :: a4 :: a5 :: some (.ref x) :: lt) st hp post) : AW M d mc ms k n pc (a0 :: a1 :: a2 :: a3 :: a4 :: a5 :: ai :: lt) (.ref x :: st) hp post := by
  intro p l e R s m args below meth c g Q H locs ls F E A L
  exact lv_astore F.1 F.2.1 hd L.has hn rfl (fun ls' L' => h p l e R s m args below meth c g Q H locs ls' F E A (L.set (v := .ref x) rfl L'))
theorem A_iinc6 {a0 a1 a2 a3 a4 a5 : Option Value} {lt : List (Option Value)} {x v : Int32} {j : Int} (hd : decode M.2.1 pc = .ok (.iinc 6 j, 3)) (hn : 6 < M.2.2.1) (hv : x + Int32.ofInt j = v) (h : AW M d mc ms k n (pc + 3) (a0 :: a1 :: a2 :: a3 :: a4 :: a5 :: some (.int v) :: lt) st hp post) : AW M d mc ms k n pc (a0 :: a1 :: a2 :: a3 :: a4 :: a5 :: some (.int x) :: lt) st hp post := by
  intro p l e R s m args below meth c g Q H locs ls F E A L
  obtain ⟨kk, hk⟩ := List.getElem?_of_mem ((a_pr_mem (g := g) (lv := (a0 :: a1 :: a2 :: a3 :: a4 :: a5 :: some (.int x) :: lt)) (q := (6, .int x))).mpr ⟨.int x, rfl, rfl⟩)
  exact lv_iinc (k := kk) F.1 F.2.1 hd L.has hk hv hn rfl (fun ls' L' => h p l e R s m args below meth c g Q H locs ls' F E A (L.set (v := .int v) rfl L'))
theorem A_iload7 {a0 a1 a2 a3 a4 a5 a6 : Option Value} {lt : List (Option Value)} {x : Int32} (hd : decode M.2.1 pc = .ok (.iload 7, 2)) (h : AW M d mc ms k n (pc + 2) (a0 :: a1 :: a2 :: a3 :: a4 :: a5 :: a6 :: some (.int x) :: lt) (.int x :: st) hp post) : AW M d mc ms k n pc (a0 :: a1 :: a2 :: a3 :: a4 :: a5 :: a6 :: some (.int x) :: lt) st hp post := by
  intro p l e R s m args below meth c g Q H locs ls F E A L
  exact lv_iload F.1 F.2.1 hd (L.2.2 7 (.int x) rfl).2 (h p l e R s m args below meth c g Q H locs ls F E A L)
theorem A_aload7 {a0 a1 a2 a3 a4 a5 a6 : Option Value} {lt : List (Option Value)} {x : Nat} (hd : decode M.2.1 pc = .ok (.aload 7, 2)) (h : AW M d mc ms k n (pc + 2) (a0 :: a1 :: a2 :: a3 :: a4 :: a5 :: a6 :: some (.ref x) :: lt) (.ref x :: st) hp post) : AW M d mc ms k n pc (a0 :: a1 :: a2 :: a3 :: a4 :: a5 :: a6 :: some (.ref x) :: lt) st hp post := by
  intro p l e R s m args below meth c g Q H locs ls F E A L
  exact lv_aload F.1 F.2.1 hd (L.2.2 7 (.ref x) rfl).2 (h p l e R s m args below meth c g Q H locs ls F E A L)
theorem A_istore7 {a0 a1 a2 a3 a4 a5 a6 : Option Value} {lt : List (Option Value)} {ai : Option Value} {x : Int32} (hd : decode M.2.1 pc = .ok (.istore 7, 2)) (hn : 7 < M.2.2.1) (h : AW M d mc ms k n (pc + 2) (a0 :: a1 :: a2 :: a3 :: a4 :: a5 :: a6 :: some (.int x) :: lt) st hp post) : AW M d mc ms k n pc (a0 :: a1 :: a2 :: a3 :: a4 :: a5 :: a6 :: ai :: lt) (.int x :: st) hp post := by
  intro p l e R s m args below meth c g Q H locs ls F E A L
  exact lv_istore F.1 F.2.1 hd L.has hn rfl (fun ls' L' => h p l e R s m args below meth c g Q H locs ls' F E A (L.set (v := .int x) rfl L'))
theorem A_astore7 {a0 a1 a2 a3 a4 a5 a6 : Option Value} {lt : List (Option Value)} {ai : Option Value} {x : Nat} (hd : decode M.2.1 pc = .ok (.astore 7, 2)) (hn : 7 < M.2.2.1) (h : AW M d mc ms k n (pc + 2) (a0 :: a1 :: a2 :: a3 :: a4 :: a5 :: a6 :: some (.ref x) :: lt) st hp post) : AW M d mc ms k n pc (a0 :: a1 :: a2 :: a3 :: a4 :: a5 :: a6 :: ai :: lt) (.ref x :: st) hp post := by
  intro p l e R s m args below meth c g Q H locs ls F E A L
  exact lv_astore F.1 F.2.1 hd L.has hn rfl (fun ls' L' => h p l e R s m args below meth c g Q H locs ls' F E A (L.set (v := .ref x) rfl L'))
theorem A_iinc7 {a0 a1 a2 a3 a4 a5 a6 : Option Value} {lt : List (Option Value)} {x v : Int32} {j : Int} (hd : decode M.2.1 pc = .ok (.iinc 7 j, 3)) (hn : 7 < M.2.2.1) (hv : x + Int32.ofInt j = v) (h : AW M d mc ms k n (pc + 3) (a0 :: a1 :: a2 :: a3 :: a4 :: a5 :: a6 :: some (.int v) :: lt) st hp post) : AW M d mc ms k n pc (a0 :: a1 :: a2 :: a3 :: a4 :: a5 :: a6 :: some (.int x) :: lt) st hp post := by
  intro p l e R s m args below meth c g Q H locs ls F E A L
  obtain ⟨kk, hk⟩ := List.getElem?_of_mem ((a_pr_mem (g := g) (lv := (a0 :: a1 :: a2 :: a3 :: a4 :: a5 :: a6 :: some (.int x) :: lt)) (q := (7, .int x))).mpr ⟨.int x, rfl, rfl⟩)
  exact lv_iinc (k := kk) F.1 F.2.1 hd L.has hk hv hn rfl (fun ls' L' => h p l e R s m args below meth c g Q H locs ls' F E A (L.set (v := .int v) rfl L'))
theorem A_iload8 {a0 a1 a2 a3 a4 a5 a6 a7 : Option Value} {lt : List (Option Value)} {x : Int32} (hd : decode M.2.1 pc = .ok (.iload 8, 2)) (h : AW M d mc ms k n (pc + 2) (a0 :: a1 :: a2 :: a3 :: a4 :: a5 :: a6 :: a7 :: some (.int x) :: lt) (.int x :: st) hp post) : AW M d mc ms k n pc (a0 :: a1 :: a2 :: a3 :: a4 :: a5 :: a6 :: a7 :: some (.int x) :: lt) st hp post := by
  intro p l e R s m args below meth c g Q H locs ls F E A L
  exact lv_iload F.1 F.2.1 hd (L.2.2 8 (.int x) rfl).2 (h p l e R s m args below meth c g Q H locs ls F E A L)
theorem A_aload8 {a0 a1 a2 a3 a4 a5 a6 a7 : Option Value} {lt : List (Option Value)} {x : Nat} (hd : decode M.2.1 pc = .ok (.aload 8, 2)) (h : AW M d mc ms k n (pc + 2) (a0 :: a1 :: a2 :: a3 :: a4 :: a5 :: a6 :: a7 :: some (.ref x) :: lt) (.ref x :: st) hp post) : AW M d mc ms k n pc (a0 :: a1 :: a2 :: a3 :: a4 :: a5 :: a6 :: a7 :: some (.ref x) :: lt) st hp post := by
  intro p l e R s m args below meth c g Q H locs ls F E A L
  exact lv_aload F.1 F.2.1 hd (L.2.2 8 (.ref x) rfl).2 (h p l e R s m args below meth c g Q H locs ls F E A L)
theorem A_istore8 {a0 a1 a2 a3 a4 a5 a6 a7 : Option Value} {lt : List (Option Value)} {ai : Option Value} {x : Int32} (hd : decode M.2.1 pc = .ok (.istore 8, 2)) (hn : 8 < M.2.2.1) (h : AW M d mc ms k n (pc + 2) (a0 :: a1 :: a2 :: a3 :: a4 :: a5 :: a6 :: a7 :: some (.int x) :: lt) st hp post) : AW M d mc ms k n pc (a0 :: a1 :: a2 :: a3 :: a4 :: a5 :: a6 :: a7 :: ai :: lt) (.int x :: st) hp post := by
  intro p l e R s m args below meth c g Q H locs ls F E A L
  exact lv_istore F.1 F.2.1 hd L.has hn rfl (fun ls' L' => h p l e R s m args below meth c g Q H locs ls' F E A (L.set (v := .int x) rfl L'))
theorem A_astore8 {a0 a1 a2 a3 a4 a5 a6 a7 : Option Value} {lt : List (Option Value)} {ai : Option Value} {x : Nat} (hd : decode M.2.1 pc = .ok (.astore 8, 2)) (hn : 8 < M.2.2.1) (h : AW M d mc ms k n (pc + 2) (a0 :: a1 :: a2 :: a3 :: a4 :: a5 :: a6 :: a7 :: some (.ref x) :: lt) st hp post) : AW M d mc ms k n pc (a0 :: a1 :: a2 :: a3 :: a4 :: a5 :: a6 :: a7 :: ai :: lt) (.ref x :: st) hp post := by
  intro p l e R s m args below meth c g Q H locs ls F E A L
  exact lv_astore F.1 F.2.1 hd L.has hn rfl (fun ls' L' => h p l e R s m args below meth c g Q H locs ls' F E A (L.set (v := .ref x) rfl L'))
theorem A_iinc8 {a0 a1 a2 a3 a4 a5 a6 a7 : Option Value} {lt : List (Option Value)} {x v : Int32} {j : Int} (hd : decode M.2.1 pc = .ok (.iinc 8 j, 3)) (hn : 8 < M.2.2.1) (hv : x + Int32.ofInt j = v) (h : AW M d mc ms k n (pc + 3) (a0 :: a1 :: a2 :: a3 :: a4 :: a5 :: a6 :: a7 :: some (.int v) :: lt) st hp post) : AW M d mc ms k n pc (a0 :: a1 :: a2 :: a3 :: a4 :: a5 :: a6 :: a7 :: some (.int x) :: lt) st hp post := by
  intro p l e R s m args below meth c g Q H locs ls F E A L
  obtain ⟨kk, hk⟩ := List.getElem?_of_mem ((a_pr_mem (g := g) (lv := (a0 :: a1 :: a2 :: a3 :: a4 :: a5 :: a6 :: a7 :: some (.int x) :: lt)) (q := (8, .int x))).mpr ⟨.int x, rfl, rfl⟩)
  exact lv_iinc (k := kk) F.1 F.2.1 hd L.has hk hv hn rfl (fun ls' L' => h p l e R s m args below meth c g Q H locs ls' F E A (L.set (v := .int v) rfl L'))
theorem A_iload9 {a0 a1 a2 a3 a4 a5 a6 a7 a8 : Option Value} {lt : List (Option Value)} {x : Int32} (hd : decode M.2.1 pc = .ok (.iload 9, 2)) (h : AW M d mc ms k n (pc + 2) (a0 :: a1 :: a2 :: a3 :: a4 :: a5 :: a6 :: a7 :: a8 :: some (.int x) :: lt) (.int x :: st) hp post) : AW M d mc ms k n pc (a0 :: a1 :: a2 :: a3 :: a4 :: a5 :: a6 :: a7 :: a8 :: some (.int x) :: lt) st hp post := by
  intro p l e R s m args below meth c g Q H locs ls F E A L
  exact lv_iload F.1 F.2.1 hd (L.2.2 9 (.int x) rfl).2 (h p l e R s m args below meth c g Q H locs ls F E A L)
theorem A_aload9 {a0 a1 a2 a3 a4 a5 a6 a7 a8 : Option Value} {lt : List (Option Value)} {x : Nat} (hd : decode M.2.1 pc = .ok (.aload 9, 2)) (h : AW M d mc ms k n (pc + 2) (a0 :: a1 :: a2 :: a3 :: a4 :: a5 :: a6 :: a7 :: a8 :: some (.ref x) :: lt) (.ref x :: st) hp post) : AW M d mc ms k n pc (a0 :: a1 :: a2 :: a3 :: a4 :: a5 :: a6 :: a7 :: a8 :: some (.ref x) :: lt) st hp post := by
  intro p l e R s m args below meth c g Q H locs ls F E A L
  exact lv_aload F.1 F.2.1 hd (L.2.2 9 (.ref x) rfl).2 (h p l e R s m args below meth c g Q H locs ls F E A L)
theorem A_istore9 {a0 a1 a2 a3 a4 a5 a6 a7 a8 : Option Value} {lt : List (Option Value)} {ai : Option Value} {x : Int32} (hd : decode M.2.1 pc = .ok (.istore 9, 2)) (hn : 9 < M.2.2.1) (h : AW M d mc ms k n (pc + 2) (a0 :: a1 :: a2 :: a3 :: a4 :: a5 :: a6 :: a7 :: a8 :: some (.int x) :: lt) st hp post) : AW M d mc ms k n pc (a0 :: a1 :: a2 :: a3 :: a4 :: a5 :: a6 :: a7 :: a8 :: ai :: lt) (.int x :: st) hp post := by
  intro p l e R s m args below meth c g Q H locs ls F E A L
  exact lv_istore F.1 F.2.1 hd L.has hn rfl (fun ls' L' => h p l e R s m args below meth c g Q H locs ls' F E A (L.set (v := .int x) rfl L'))
theorem A_astore9 {a0 a1 a2 a3 a4 a5 a6 a7 a8 : Option Value} {lt : List (Option Value)} {ai : Option Value} {x : Nat} (hd : decode M.2.1 pc = .ok (.astore 9, 2)) (hn : 9 < M.2.2.1) (h : AW M d mc ms k n (pc + 2) (a0 :: a1 :: a2 :: a3 :: a4 :: a5 :: a6 :: a7 :: a8 :: some (.ref x) :: lt) st hp post) : AW M d mc ms k n pc (a0 :: a1 :: a2 :: a3 :: a4 :: a5 :: a6 :: a7 :: a8 :: ai :: lt) (.ref x :: st) hp post := by
  intro p l e R s m args below meth c g Q H locs ls F E A L
  exact lv_astore F.1 F.2.1 hd L.has hn rfl (fun ls' L' => h p l e R s m args below meth c g Q H locs ls' F E A (L.set (v := .ref x) rfl L'))
theorem A_iinc9 {a0 a1 a2 a3 a4 a5 a6 a7 a8 : Option Value} {lt : List (Option Value)} {x v : Int32} {j : Int} (hd : decode M.2.1 pc = .ok (.iinc 9 j, 3)) (hn : 9 < M.2.2.1) (hv : x + Int32.ofInt j = v) (h : AW M d mc ms k n (pc + 3) (a0 :: a1 :: a2 :: a3 :: a4 :: a5 :: a6 :: a7 :: a8 :: some (.int v) :: lt) st hp post) : AW M d mc ms k n pc (a0 :: a1 :: a2 :: a3 :: a4 :: a5 :: a6 :: a7 :: a8 :: some (.int x) :: lt) st hp post := by
  intro p l e R s m args below meth c g Q H locs ls F E A L
  obtain ⟨kk, hk⟩ := List.getElem?_of_mem ((a_pr_mem (g := g) (lv := (a0 :: a1 :: a2 :: a3 :: a4 :: a5 :: a6 :: a7 :: a8 :: some (.int x) :: lt)) (q := (9, .int x))).mpr ⟨.int x, rfl, rfl⟩)
  exact lv_iinc (k := kk) F.1 F.2.1 hd L.has hk hv hn rfl (fun ls' L' => h p l e R s m args below meth c g Q H locs ls' F E A (L.set (v := .int v) rfl L'))
theorem A_iload10 {a0 a1 a2 a3 a4 a5 a6 a7 a8 a9 : Option Value} {lt : List (Option Value)} {x : Int32} (hd : decode M.2.1 pc = .ok (.iload 10, 2)) (h : AW M d mc ms k n (pc + 2) (a0 :: a1 :: a2 :: a3 :: a4 :: a5 :: a6 :: a7 :: a8 :: a9 :: some (.int x) :: lt) (.int x :: st) hp post) : AW M d mc ms k n pc (a0 :: a1 :: a2 :: a3 :: a4 :: a5 :: a6 :: a7 :: a8 :: a9 :: some (.int x) :: lt) st hp post := by
  intro p l e R s m args below meth c g Q H locs ls F E A L
  exact lv_iload F.1 F.2.1 hd (L.2.2 10 (.int x) rfl).2 (h p l e R s m args below meth c g Q H locs ls F E A L)
theorem A_aload10 {a0 a1 a2 a3 a4 a5 a6 a7 a8 a9 : Option Value} {lt : List (Option Value)} {x : Nat} (hd : decode M.2.1 pc = .ok (.aload 10, 2)) (h : AW M d mc ms k n (pc + 2) (a0 :: a1 :: a2 :: a3 :: a4 :: a5 :: a6 :: a7 :: a8 :: a9 :: some (.ref x) :: lt) (.ref x :: st) hp post) : AW M d mc ms k n pc (a0 :: a1 :: a2 :: a3 :: a4 :: a5 :: a6 :: a7 :: a8 :: a9 :: some (.ref x) :: lt) st hp post := by
  intro p l e R s m args below meth c g Q H locs ls F E A L
  exact lv_aload F.1 F.2.1 hd (L.2.2 10 (.ref x) rfl).2 (h p l e R s m args below meth c g Q H locs ls F E A L)
theorem A_istore10 {a0 a1 a2 a3 a4 a5 a6 a7 a8 a9 : Option Value} {lt : List (Option Value)} {ai : Option Value} {x : Int32} (hd : decode M.2.1 pc = .ok (.istore 10, 2)) (hn : 10 < M.2.2.1) (h : AW M d mc ms k n (pc + 2) (a0 :: a1 :: a2 :: a3 :: a4 :: a5 :: a6 :: a7 :: a8 :: a9 :: some (.int x) :: lt) st hp post) : AW M d mc ms k n pc (a0 :: a1 :: a2 :: a3 :: a4 :: a5 :: a6 :: a7 :: a8 :: a9 :: ai :: lt) (.int x :: st) hp post := by
  intro p l e R s m args below meth c g Q H locs ls F E A L
  exact lv_istore F.1 F.2.1 hd L.has hn rfl (fun ls' L' => h p l e R s m args below meth c g Q H locs ls' F E A (L.set (v := .int x) rfl L'))
theorem A_astore10 {a0 a1 a2 a3 a4 a5 a6 a7 a8 a9 : Option Value} {lt : List (Option Value)} {ai : Option Value} {x : Nat} (hd : decode M.2.1 pc = .ok (.astore 10, 2)) (hn : 10 < M.2.2.1) (h : AW M d mc ms k n (pc + 2) (a0 :: a1 :: a2 :: a3 :: a4 :: a5 :: a6 :: a7 :: a8 :: a9 :: some (.ref x) :: lt) st hp post) : AW M d mc ms k n pc (a0 :: a1 :: a2 :: a3 :: a4 :: a5 :: a6 :: a7 :: a8 :: a9 :: ai :: lt) (.ref x :: st) hp post := by
  intro p l e R s m args below meth c g Q H locs ls F E A L
  exact lv_astore F.1 F.2.1 hd L.has hn rfl (fun ls' L' => h p l e R s m args below meth c g Q H locs ls' F E A (L.set (v := .ref x) rfl L'))
theorem A_iinc10 {a0 a1 a2 a3 a4 a5 a6 a7 a8 a9 : Option Value} {lt : List (Option Value)} {x v : Int32} {j : Int} (hd : decode M.2.1 pc = .ok (.iinc 10 j, 3)) (hn : 10 < M.2.2.1) (hv : x + Int32.ofInt j = v) (h : AW M d mc ms k n (pc + 3) (a0 :: a1 :: a2 :: a3 :: a4 :: a5 :: a6 :: a7 :: a8 :: a9 :: some (.int v) :: lt) st hp post) : AW M d mc ms k n pc (a0 :: a1 :: a2 :: a3 :: a4 :: a5 :: a6 :: a7 :: a8 :: a9 :: some (.int x) :: lt) st hp post := by
  intro p l e R s m args below meth c g Q H locs ls F E A L
  obtain ⟨kk, hk⟩ := List.getElem?_of_mem ((a_pr_mem (g := g) (lv := (a0 :: a1 :: a2 :: a3 :: a4 :: a5 :: a6 :: a7 :: a8 :: a9 :: some (.int x) :: lt)) (q := (10, .int x))).mpr ⟨.int x, rfl, rfl⟩)
  exact lv_iinc (k := kk) F.1 F.2.1 hd L.has hk hv hn rfl (fun ls' L' => h p l e R s m args below meth c g Q H locs ls' F E A (L.set (v := .int v) rfl L'))
theorem A_iload11 {a0 a1 a2 a3 a4 a5 a6 a7 a8 a9 a10 : Option Value} {lt : List (Option Value)} {x : Int32} (hd : decode M.2.1 pc = .ok (.iload 11, 2)) (h : AW M d mc ms k n (pc + 2) (a0 :: a1 :: a2 :: a3 :: a4 :: a5 :: a6 :: a7 :: a8 :: a9 :: a10 :: some (.int x) :: lt) (.int x :: st) hp post) : AW M d mc ms k n pc (a0 :: a1 :: a2 :: a3 :: a4 :: a5 :: a6 :: a7 :: a8 :: a9 :: a10 :: some (.int x) :: lt) st hp post := by
  intro p l e R s m args below meth c g Q H locs ls F E A L
  exact lv_iload F.1 F.2.1 hd (L.2.2 11 (.int x) rfl).2 (h p l e R s m args below meth c g Q H locs ls F E A L)
theorem A_aload11 {a0 a1 a2 a3 a4 a5 a6 a7 a8 a9 a10 : Option Value} {lt : List (Option Value)} {x : Nat} (hd : decode M.2.1 pc = .ok (.aload 11, 2)) (h : AW M d mc ms k n (pc + 2) (a0 :: a1 :: a2 :: a3 :: a4 :: a5 :: a6 :: a7 :: a8 :: a9 :: a10 :: some (.ref x) :: lt) (.ref x :: st) hp post) : AW M d mc ms k n pc (a0 :: a1 :: a2 :: a3 :: a4 :: a5 :: a6 :: a7 :: a8 :: a9 :: a10 :: some (.ref x) :: lt) st hp post := by
  intro p l e R s m args below meth c g Q H locs ls F E A L
  exact lv_aload F.1 F.2.1 hd (L.2.2 11 (.ref x) rfl).2 (h p l e R s m args below meth c g Q H locs ls F E A L)
theorem A_istore11 {a0 a1 a2 a3 a4 a5 a6 a7 a8 a9 a10 : Option Value} {lt : List (Option Value)} {ai : Option Value} {x : Int32} (hd : decode M.2.1 pc = .ok (.istore 11, 2)) (hn : 11 < M.2.2.1) (h : AW M d mc ms k n (pc + 2) (a0 :: a1 :: a2 :: a3 :: a4 :: a5 :: a6 :: a7 :: a8 :: a9 :: a10 :: some (.int x) :: lt) st hp post) : AW M d mc ms k n pc (a0 :: a1 :: a2 :: a3 :: a4 :: a5 :: a6 :: a7 :: a8 :: a9 :: a10 :: ai :: lt) (.int x :: st) hp post := by
  intro p l e R s m args below meth c g Q H locs ls F E A L
  exact lv_istore F.1 F.2.1 hd L.has hn rfl (fun ls' L' => h p l e R s m args below meth c g Q H locs ls' F E A (L.set (v := .int x) rfl L'))
theorem A_astore11 {a0 a1 a2 a3 a4 a5 a6 a7 a8 a9 a10 : Option Value} {lt : List (Option Value)} {ai : Option Value} {x : Nat} (hd : decode M.2.1 pc = .ok (.astore 11, 2)) (hn : 11 < M.2.2.1) (h : AW M d mc ms k n (pc + 2) (a0 :: a1 :: a2 :: a3 :: a4 :: a5 :: a6 :: a7 :: a8 :: a9 :: a10 :: some (.ref x) :: lt) st hp post) : AW M d mc ms k n pc (a0 :: a1 :: a2 :: a3 :: a4 :: a5 :: a6 :: a7 :: a8 :: a9 :: a10 :: ai :: lt) (.ref x :: st) hp post := by
  intro p l e R s m args below meth c g Q H locs ls F E A L
  exact lv_astore F.1 F.2.1 hd L.has hn rfl (fun ls' L' => h p l e R s m args below meth c g Q H locs ls' F E A (L.set (v := .ref x) rfl L'))
theorem A_iinc11 {a0 a1 a2 a3 a4 a5 a6 a7 a8 a9 a10 : Option Value} {lt : List (Option Value)} {x v : Int32} {j : Int} (hd : decode M.2.1 pc = .ok (.iinc 11 j, 3)) (hn : 11 < M.2.2.1) (hv : x + Int32.ofInt j = v) (h : AW M d mc ms k n (pc + 3) (a0 :: a1 :: a2 :: a3 :: a4 :: a5 :: a6 :: a7 :: a8 :: a9 :: a10 :: some (.int v) :: lt) st hp post) : AW M d mc ms k n pc (a0 :: a1 :: a2 :: a3 :: a4 :: a5 :: a6 :: a7 :: a8 :: a9 :: a10 :: some (.int x) :: lt) st hp post := by
  intro p l e R s m args below meth c g Q H locs ls F E A L
  obtain ⟨kk, hk⟩ := List.getElem?_of_mem ((a_pr_mem (g := g) (lv := (a0 :: a1 :: a2 :: a3 :: a4 :: a5 :: a6 :: a7 :: a8 :: a9 :: a10 :: some (.int x) :: lt)) (q := (11, .int x))).mpr ⟨.int x, rfl, rfl⟩)
  exact lv_iinc (k := kk) F.1 F.2.1 hd L.has hk hv hn rfl (fun ls' L' => h p l e R s m args below meth c g Q H locs ls' F E A (L.set (v := .int v) rfl L'))
theorem A_iload12 {a0 a1 a2 a3 a4 a5 a6 a7 a8 a9 a10 a11 : Option Value} {lt : List (Option Value)} {x : Int32} (hd : decode M.2.1 pc = .ok (.iload 12, 2)) (h : AW M d mc ms k n (pc + 2) (a0 :: a1 :: a2 :: a3 :: a4 :: a5 :: a6 :: a7 :: a8 :: a9 :: a10 :: a11 :: some (.int x) :: lt) (.int x :: st) hp post) : AW M d mc ms k n pc (a0 :: a1 :: a2 :: a3 :: a4 :: a5 :: a6 :: a7 :: a8 :: a9 :: a10 :: a11 :: some (.int x) :: lt) st hp post := by
  intro p l e R s m args below meth c g Q H locs ls F E A L
  exact lv_iload F.1 F.2.1 hd (L.2.2 12 (.int x) rfl).2 (h p l e R s m args below meth c g Q H locs ls F E A L)
theorem A_aload12 {a0 a1 a2 a3 a4 a5 a6 a7 a8 a9 a10 a11 : Option Value} {lt : List (Option Value)} {x : Nat} (hd : decode M.2.1 pc = .ok (.aload 12, 2)) (h : AW M d mc ms k n (pc + 2) (a0 :: a1 :: a2 :: a3 :: a4 :: a5 :: a6 :: a7 :: a8 :: a9 :: a10 :: a11 :: some (.ref x) :: lt) (.ref x :: st) hp post) : AW M d mc ms k n pc (a0 :: a1 :: a2 :: a3 :: a4 :: a5 :: a6 :: a7 :: a8 :: a9 :: a10 :: a11 :: some (.ref x) :: lt) st hp post := by
  intro p l e R s m args below meth c g Q H locs ls F E A L
  exact lv_aload F.1 F.2.1 hd (L.2.2 12 (.ref x) rfl).2 (h p l e R s m args below meth c g Q H locs ls F E A L)
theorem A_istore12 {a0 a1 a2 a3 a4 a5 a6 a7 a8 a9 a10 a11 : Option Value} {lt : List (Option Value)} {ai : Option Value} {x : Int32} (hd : decode M.2.1 pc = .ok (.istore 12, 2)) (hn : 12 < M.2.2.1) (h : AW M d mc ms k n (pc + 2) (a0 :: a1 :: a2 :: a3 :: a4 :: a5 :: a6 :: a7 :: a8 :: a9 :: a10 :: a11 :: some (.int x) :: lt) st hp post) : AW M d mc ms k n pc (a0 :: a1 :: a2 :: a3 :: a4 :: a5 :: a6 :: a7 :: a8 :: a9 :: a10 :: a11 :: ai :: lt) (.int x :: st) hp post := by
  intro p l e R s m args below meth c g Q H locs ls F E A L
  exact lv_istore F.1 F.2.1 hd L.has hn rfl (fun ls' L' => h p l e R s m args below meth c g Q H locs ls' F E A (L.set (v := .int x) rfl L'))
theorem A_astore12 {a0 a1 a2 a3 a4 a5 a6 a7 a8 a9 a10 a11 : Option Value} {lt : List (Option Value)} {ai : Option Value} {x : Nat} (hd : decode M.2.1 pc = .ok (.astore 12, 2)) (hn : 12 < M.2.2.1) (h : AW M d mc ms k n (pc + 2) (a0 :: a1 :: a2 :: a3 :: a4 :: a5 :: a6 :: a7 :: a8 :: a9 :: a10 :: a11 :: some (.ref x) :: lt) st hp post) : AW M d mc ms k n pc (a0 :: a1 :: a2 :: a3 :: a4 :: a5 :: a6 :: a7 :: a8 :: a9 :: a10 :: a11 :: ai :: lt) (.ref x :: st) hp post := by
  intro p l e R s m args below meth c g Q H locs ls F E A L
  exact lv_astore F.1 F.2.1 hd L.has hn rfl (fun ls' L' => h p l e R s m args below meth c g Q H locs ls' F E A (L.set (v := .ref x) rfl L'))
theorem A_iinc12 {a0 a1 a2 a3 a4 a5 a6 a7 a8 a9 a10 a11 : Option Value} {lt : List (Option Value)} {x v : Int32} {j : Int} (hd : decode M.2.1 pc = .ok (.iinc 12 j, 3)) (hn : 12 < M.2.2.1) (hv : x + Int32.ofInt j = v) (h : AW M d mc ms k n (pc + 3) (a0 :: a1 :: a2 :: a3 :: a4 :: a5 :: a6 :: a7 :: a8 :: a9 :: a10 :: a11 :: some (.int v) :: lt) st hp post) : AW M d mc ms k n pc (a0 :: a1 :: a2 :: a3 :: a4 :: a5 :: a6 :: a7 :: a8 :: a9 :: a10 :: a11 :: some (.int x) :: lt) st hp post := by
  intro p l e R s m args below meth c g Q H locs ls F E A L
  obtain ⟨kk, hk⟩ := List.getElem?_of_mem ((a_pr_mem (g := g) (lv := (a0 :: a1 :: a2 :: a3 :: a4 :: a5 :: a6 :: a7 :: a8 :: a9 :: a10 :: a11 :: some (.int x) :: lt)) (q := (12, .int x))).mpr ⟨.int x, rfl, rfl⟩)
  exact lv_iinc (k := kk) F.1 F.2.1 hd L.has hk hv hn rfl (fun ls' L' => h p l e R s m args below meth c g Q H locs ls' F E A (L.set (v := .int v) rfl L'))
theorem A_iload13 {a0 a1 a2 a3 a4 a5 a6 a7 a8 a9 a10 a11 a12 : Option Value} {lt : List (Option Value)} {x : Int32} (hd : decode M.2.1 pc = .ok (.iload 13, 2)) (h : AW M d mc ms k n (pc + 2) (a0 :: a1 :: a2 :: a3 :: a4 :: a5 :: a6 :: a7 :: a8 :: a9 :: a10 :: a11 :: a12 :: some (.int x) :: lt) (.int x :: st) hp post) : AW M d mc ms k n pc (a0 :: a1 :: a2 :: a3 :: a4 :: a5 :: a6 :: a7 :: a8 :: a9 :: a10 :: a11 :: a12 :: some (.int x) :: lt) st hp post := by
  intro p l e R s m args below meth c g Q H locs ls F E A L
  exact lv_iload F.1 F.2.1 hd (L.2.2 13 (.int x) rfl).2 (h p l e R s m args below meth c g Q H locs ls F E A L)
theorem A_aload13 {a0 a1 a2 a3 a4 a5 a6 a7 a8 a9 a10 a11 a12 : Option Value} {lt : List (Option Value)} {x : Nat} (hd : decode M.2.1 pc = .ok (.aload 13, 2)) (h : AW M d mc ms k n (pc + 2) (a0 :: a1 :: a2 :: a3 :: a4 :: a5 :: a6 :: a7 :: a8 :: a9 :: a10 :: a11 :: a12 :: some (.ref x) :: lt) (.ref x :: st) hp post) : AW M d mc ms k n pc (a0 :: a1 :: a2 :: a3 :: a4 :: a5 :: a6 :: a7 :: a8 :: a9 :: a10 :: a11 :: a12 :: some (.ref x) :: lt) st hp post := by
  intro p l e R s m args below meth c g Q H locs ls F E A L
  exact lv_aload F.1 F.2.1 hd (L.2.2 13 (.ref x) rfl).2 (h p l e R s m args below meth c g Q H locs ls F E A L)
theorem A_istore13 {a0 a1 a2 a3 a4 a5 a6 a7 a8 a9 a10 a11 a12 : Option Value} {lt : List (Option Value)} {ai : Option Value} {x : Int32} (hd : decode M.2.1 pc = .ok (.istore 13, 2)) (hn : 13 < M.2.2.1) (h : AW M d mc ms k n (pc + 2) (a0 :: a1 :: a2 :: a3 :: a4 :: a5 :: a6 :: a7 :: a8 :: a9 :: a10 :: a11 :: a12 :: some (.int x) :: lt) st hp post) : AW M d mc ms k n pc (a0 :: a1 :: a2 :: a3 :: a4 :: a5 :: a6 :: a7 :: a8 :: a9 :: a10 :: a11 :: a12 :: ai :: lt) (.int x :: st) hp post := by
  intro p l e R s m args below meth c g Q H locs ls F E A L
  exact lv_istore F.1 F.2.1 hd L.has hn rfl (fun ls' L' => h p l e R s m args below meth c g Q H locs ls' F E A (L.set (v := .int x) rfl L'))
theorem A_astore13 {a0 a1 a2 a3 a4 a5 a6 a7 a8 a9 a10 a11 a12 : Option Value} {lt : List (Option Value)} {ai : Option Value} {x : Nat} (hd : decode M.2.1 pc = .ok (.astore 13, 2)) (hn : 13 < M.2.2.1) (h : AW M d mc ms k n (pc + 2) (a0 :: a1 :: a2 :: a3 :: a4 :: a5 :: a6 :: a7 :: a8 :: a9 :: a10 :: a11 :: a12 :: some (.ref x) :: lt) st hp post) : AW M d mc ms k n pc (a0 :: a1 :: a2 :: a3 :: a4 :: a5 :: a6 :: a7 :: a8 :: a9 :: a10 :: a11 :: a12 :: ai :: lt) (.ref x :: st) hp post := by
  intro p l e R s m args below meth c g Q H locs ls F E A L
  exact lv_astore F.1 F.2.1 hd L.has hn rfl (fun ls' L' => h p l e R s m args below meth c g Q H locs ls' F E A (L.set (v := .ref x) rfl L'))
theorem A_iinc13 {a0 a1 a2 a3 a4 a5 a6 a7 a8 a9 a10 a11 a12 : Option Value} {lt : List (Option Value)} {x v : Int32} {j : Int} (hd : decode M.2.1 pc = .ok (.iinc 13 j, 3)) (hn : 13 < M.2.2.1) (hv : x + Int32.ofInt j = v) (h : AW M d mc ms k n (pc + 3) (a0 :: a1 :: a2 :: a3 :: a4 :: a5 :: a6 :: a7 :: a8 :: a9 :: a10 :: a11 :: a12 :: some (.int v) :: lt) st hp post) : AW M d mc ms k n pc (a0 :: a1 :: a2 :: a3 :: a4 :: a5 :: a6 :: a7 :: a8 :: a9 :: a10 :: a11 :: a12 :: some (.int x) :: lt) st hp post := by
  intro p l e R s m args below meth c g Q H locs ls F E A L
  obtain ⟨kk, hk⟩ := List.getElem?_of_mem ((a_pr_mem (g := g) (lv := (a0 :: a1 :: a2 :: a3 :: a4 :: a5 :: a6 :: a7 :: a8 :: a9 :: a10 :: a11 :: a12 :: some (.int x) :: lt)) (q := (13, .int x))).mpr ⟨.int x, rfl, rfl⟩)
  exact lv_iinc (k := kk) F.1 F.2.1 hd L.has hk hv hn rfl (fun ls' L' => h p l e R s m args below meth c g Q H locs ls' F E A (L.set (v := .int v) rfl L'))
theorem A_iload14 {a0 a1 a2 a3 a4 a5 a6 a7 a8 a9 a10 a11 a12 a13 : Option Value} {lt : List (Option Value)} {x : Int32} (hd : decode M.2.1 pc = .ok (.iload 14, 2)) (h : AW M d mc ms k n (pc + 2) (a0 :: a1 :: a2 :: a3 :: a4 :: a5 :: a6 :: a7 :: a8 :: a9 :: a10 :: a11 :: a12 :: a13 :: some (.int x) :: lt) (.int x :: st) hp post) : AW M d mc ms k n pc (a0 :: a1 :: a2 :: a3 :: a4 :: a5 :: a6 :: a7 :: a8 :: a9 :: a10 :: a11 :: a12 :: a13 :: some (.int x) :: lt) st hp post := by
  intro p l e R s m args below meth c g Q H locs ls F E A L
  exact lv_iload F.1 F.2.1 hd (L.2.2 14 (.int x) rfl).2 (h p l e R s m args below meth c g Q H locs ls F E A L)
theorem A_aload14 {a0 a1 a2 a3 a4 a5 a6 a7 a8 a9 a10 a11 a12 a13 : Option Value} {lt : List (Option Value)} {x : Nat} (hd : decode M.2.1 pc = .ok (.aload 14, 2)) (h : AW M d mc ms k n (pc + 2) (a0 :: a1 :: a2 :: a3 :: a4 :: a5 :: a6 :: a7 :: a8 :: a9 :: a10 :: a11 :: a12 :: a13 :: some (.ref x) :: lt) (.ref x :: st) hp post) : AW M d mc ms k n pc (a0 :: a1 :: a2 :: a3 :: a4 :: a5 :: a6 :: a7 :: a8 :: a9 :: a10 :: a11 :: a12 :: a13 :: some (.ref x) :: lt) st hp post := by
  intro p l e R s m args below meth c g Q H locs ls F E A L
  exact lv_aload F.1 F.2.1 hd (L.2.2 14 (.ref x) rfl).2 (h p l e R s m args below meth c g Q H locs ls F E A L)
theorem A_istore14 {a0 a1 a2 a3 a4 a5 a6 a7 a8 a9 a10 a11 a12 a13 : Option Value} {lt : List (Option Value)} {ai : Option Value} {x : Int32} (hd : decode M.2.1 pc = .ok (.istore 14, 2)) (hn : 14 < M.2.2.1) (h : AW M d mc ms k n (pc + 2) (a0 :: a1 :: a2 :: a3 :: a4 :: a5 :: a6 :: a7 :: a8 :: a9 :: a10 :: a11 :: a12 :: a13 :: some (.int x) :: lt) st hp post) : AW M d mc ms k n pc (a0 :: a1 :: a2 :: a3 :: a4 :: a5 :: a6 :: a7 :: a8 :: a9 :: a10 :: a11 :: a12 :: a13 :: ai :: lt) (.int x :: st) hp post := by
  intro p l e R s m args below meth c g Q H locs ls F E A L
  exact lv_istore F.1 F.2.1 hd L.has hn rfl (fun ls' L' => h p l e R s m args below meth c g Q H locs ls' F E A (L.set (v := .int x) rfl L'))
theorem A_astore14 {a0 a1 a2 a3 a4 a5 a6 a7 a8 a9 a10 a11 a12 a13 : Option Value} {lt : List (Option Value)} {ai : Option Value} {x : Nat} (hd : decode M.2.1 pc = .ok (.astore 14, 2)) (hn : 14 < M.2.2.1) (h : AW M d mc ms k n (pc + 2) (a0 :: a1 :: a2 :: a3 :: a4 :: a5 :: a6 :: a7 :: a8 :: a9 :: a10 :: a11 :: a12 :: a13 :: some (.ref x) :: lt) st hp post) : AW M d mc ms k n pc (a0 :: a1 :: a2 :: a3 :: a4 :: a5 :: a6 :: a7 :: a8 :: a9 :: a10 :: a11 :: a12 :: a13 :: ai :: lt) (.ref x :: st) hp post := by
  intro p l e R s m args below meth c g Q H locs ls F E A L
  exact lv_astore F.1 F.2.1 hd L.has hn rfl (fun ls' L' => h p l e R s m args below meth c g Q H locs ls' F E A (L.set (v := .ref x) rfl L'))
theorem A_iinc14 {a0 a1 a2 a3 a4 a5 a6 a7 a8 a9 a10 a11 a12 a13 : Option Value} {lt : List (Option Value)} {x v : Int32} {j : Int} (hd : decode M.2.1 pc = .ok (.iinc 14 j, 3)) (hn : 14 < M.2.2.1) (hv : x + Int32.ofInt j = v) (h : AW M d mc ms k n (pc + 3) (a0 :: a1 :: a2 :: a3 :: a4 :: a5 :: a6 :: a7 :: a8 :: a9 :: a10 :: a11 :: a12 :: a13 :: some (.int v) :: lt) st hp post) : AW M d mc ms k n pc (a0 :: a1 :: a2 :: a3 :: a4 :: a5 :: a6 :: a7 :: a8 :: a9 :: a10 :: a11 :: a12 :: a13 :: some (.int x) :: lt) st hp post := by
  intro p l e R s m args below meth c g Q H locs ls F E A L
  obtain ⟨kk, hk⟩ := List.getElem?_of_mem ((a_pr_mem (g := g) (lv := (a0 :: a1 :: a2 :: a3 :: a4 :: a5 :: a6 :: a7 :: a8 :: a9 :: a10 :: a11 :: a12 :: a13 :: some (.int x) :: lt)) (q := (14, .int x))).mpr ⟨.int x, rfl, rfl⟩)
  exact lv_iinc (k := kk) F.1 F.2.1 hd L.has hk hv hn rfl (fun ls' L' => h p l e R s m args below meth c g Q H locs ls' F E A (L.set (v := .int v) rfl L'))
theorem A_iload15 {a0 a1 a2 a3 a4 a5 a6 a7 a8 a9 a10 a11 a12 a13 a14 : Option Value} {lt : List (Option Value)} {x : Int32} (hd : decode M.2.1 pc = .ok (.iload 15, 2)) (h : AW M d mc ms k n (pc + 2) (a0 :: a1 :: a2 :: a3 :: a4 :: a5 :: a6 :: a7 :: a8 :: a9 :: a10 :: a11 :: a12 :: a13 :: a14 :: some (.int x) :: lt) (.int x :: st) hp post) : AW M d mc ms k n pc (a0 :: a1 :: a2 :: a3 :: a4 :: a5 :: a6 :: a7 :: a8 :: a9 :: a10 :: a11 :: a12 :: a13 :: a14 :: some (.int x) :: lt) st hp post := by
  intro p l e R s m args below meth c g Q H locs ls F E A L
  exact lv_iload F.1 F.2.1 hd (L.2.2 15 (.int x) rfl).2 (h p l e R s m args below meth c g Q H locs ls F E A L)
theorem A_aload15 {a0 a1 a2 a3 a4 a5 a6 a7 a8 a9 a10 a11 a12 a13 a14 : Option Value} {lt : List (Option Value)} {x : Nat} (hd : decode M.2.1 pc = .ok (.aload 15, 2)) (h : AW M d mc ms k n (pc + 2) (a0 :: a1 :: a2 :: a3 :: a4 :: a5 :: a6 :: a7 :: a8 :: a9 :: a10 :: a11 :: a12 :: a13 :: a14 :: some (.ref x) :: lt) (.ref x :: st) hp post) : AW M d mc ms k n pc (a0 :: a1 :: a2 :: a3 :: a4 :: a5 :: a6 :: a7 :: a8 :: a9 :: a10 :: a11 :: a12 :: a13 :: a14 :: some (.ref x) :: lt) st hp post := by
  intro p l e R s m args below meth c g Q H locs ls F E A L
  exact lv_aload F.1 F.2.1 hd (L.2.2 15 (.ref x) rfl).2 (h p l e R s m args below meth c g Q H locs ls F E A L)
theorem A_istore15 {a0 a1 a2 a3 a4 a5 a6 a7 a8 a9 a10 a11 a12 a13 a14 : Option Value} {lt : List (Option Value)} {ai : Option Value} {x : Int32} (hd : decode M.2.1 pc = .ok (.istore 15, 2)) (hn : 15 < M.2.2.1) (h : AW M d mc ms k n (pc + 2) (a0 :: a1 :: a2 :: a3 :: a4 :: a5 :: a6 :: a7 :: a8 :: a9 :: a10 :: a11 :: a12 :: a13 :: a14 :: some (.int x) :: lt) st hp post) : AW M d mc ms k n pc (a0 :: a1 :: a2 :: a3 :: a4 :: a5 :: a6 :: a7 :: a8 :: a9 :: a10 :: a11 :: a12 :: a13 :: a14 :: ai :: lt) (.int x :: st) hp post := by
  intro p l e R s m args below meth c g Q H locs ls F E A L
  exact lv_istore F.1 F.2.1 hd L.has hn rfl (fun ls' L' => h p l e R s m args below meth c g Q H locs ls' F E A (L.set (v := .int x) rfl L'))
theorem A_astore15 {a0 a1 a2 a3 a4 a5 a6 a7 a8 a9 a10 a11 a12 a13 a14 : Option Value} {lt : List (Option Value)} {ai : Option Value} {x : Nat} (hd : decode M.2.1 pc = .ok (.astore 15, 2)) (hn : 15 < M.2.2.1) (h : AW M d mc ms k n (pc + 2) (a0 :: a1 :: a2 :: a3 :: a4 :: a5 :: a6 :: a7 :: a8 :: a9 :: a10 :: a11 :: a12 :: a13 :: a14 :: some (.ref x) :: lt) st hp post) : AW M d mc ms k n pc (a0 :: a1 :: a2 :: a3 :: a4 :: a5 :: a6 :: a7 :: a8 :: a9 :: a10 :: a11 :: a12 :: a13 :: a14 :: ai :: lt) (.ref x :: st) hp post := by
  intro p l e R s m args below meth c g Q H locs ls F E A L
  exact lv_astore F.1 F.2.1 hd L.has hn rfl (fun ls' L' => h p l e R s m args below meth c g Q H locs ls' F E A (L.set (v := .ref x) rfl L'))
theorem A_iinc15 {a0 a1 a2 a3 a4 a5 a6 a7 a8 a9 a10 a11 a12 a13 a14 : Option Value} {lt : List (Option Value)} {x v : Int32} {j : Int} (hd : decode M.2.1 pc = .ok (.iinc 15 j, 3)) (hn : 15 < M.2.2.1) (hv : x + Int32.ofInt j = v) (h : AW M d mc ms k n (pc + 3) (a0 :: a1 :: a2 :: a3 :: a4 :: a5 :: a6 :: a7 :: a8 :: a9 :: a10 :: a11 :: a12 :: a13 :: a14 :: some (.int v) :: lt) st hp post) : AW M d mc ms k n pc (a0 :: a1 :: a2 :: a3 :: a4 :: a5 :: a6 :: a7 :: a8 :: a9 :: a10 :: a11 :: a12 :: a13 :: a14 :: some (.int x) :: lt) st hp post := by
  intro p l e R s m args below meth c g Q H locs ls F E A L
  obtain ⟨kk, hk⟩ := List.getElem?_of_mem ((a_pr_mem (g := g) (lv := (a0 :: a1 :: a2 :: a3 :: a4 :: a5 :: a6 :: a7 :: a8 :: a9 :: a10 :: a11 :: a12 :: a13 :: a14 :: some (.int x) :: lt)) (q := (15, .int x))).mpr ⟨.int x, rfl, rfl⟩)
  exact lv_iinc (k := kk) F.1 F.2.1 hd L.has hk hv hn rfl (fun ls' L' => h p l e R s m args below meth c g Q H locs ls' F E A (L.set (v := .int v) rfl L'))
theorem A_iload16 {a0 a1 a2 a3 a4 a5 a6 a7 a8 a9 a10 a11 a12 a13 a14 a15 : Option Value} {lt : List (Option Value)} {x : Int32} (hd : decode M.2.1 pc = .ok (.iload 16, 2)) (h : AW M d mc ms k n (pc + 2) (a0 :: a1 :: a2 :: a3 :: a4 :: a5 :: a6 :: a7 :: a8 :: a9 :: a10 :: a11 :: a12 :: a13 :: a14 :: a15 :: some (.int x) :: lt) (.int x :: st) hp post) : AW M d mc ms k n pc (a0 :: a1 :: a2 :: a3 :: a4 :: a5 :: a6 :: a7 :: a8 :: a9 :: a10 :: a11 :: a12 :: a13 :: a14 :: a15 :: some (.int x) :: lt) st hp post := by
  intro p l e R s m args below meth c g Q H locs ls F E A L
  exact lv_iload F.1 F.2.1 hd (L.2.2 16 (.int x) rfl).2 (h p l e R s m args below meth c g Q H locs ls F E A L)
theorem A_aload16 {a0 a1 a2 a3 a4 a5 a6 a7 a8 a9 a10 a11 a12 a13 a14 a15 : Option Value} {lt : List (Option Value)} {x : Nat} (hd : decode M.2.1 pc = .ok (.aload 16, 2)) (h : AW M d mc ms k n (pc + 2) (a0 :: a1 :: a2 :: a3 :: a4 :: a5 :: a6 :: a7 :: a8 :: a9 :: a10 :: a11 :: a12 :: a13 :: a14 :: a15 :: some (.ref x) :: lt) (.ref x :: st) hp post) : AW M d mc ms k n pc (a0 :: a1 :: a2 :: a3 :: a4 :: a5 :: a6 :: a7 :: a8 :: a9 :: a10 :: a11 :: a12 :: a13 :: a14 :: a15 :: some (.ref x) :: lt) st hp post := by
  intro p l e R s m args below meth c g Q H locs ls F E A L
  exact lv_aload F.1 F.2.1 hd (L.2.2 16 (.ref x) rfl).2 (h p l e R s m args below meth c g Q H locs ls F E A L)
theorem A_istore16 {a0 a1 a2 a3 a4 a5 a6 a7 a8 a9 a10 a11 a12 a13 a14 a15 : Option Value} {lt : List (Option Value)} {ai : Option Value} {x : Int32} (hd : decode M.2.1 pc = .ok (.istore 16, 2)) (hn : 16 < M.2.2.1) (h : AW M d mc ms k n (pc + 2) (a0 :: a1 :: a2 :: a3 :: a4 :: a5 :: a6 :: a7 :: a8 :: a9 :: a10 :: a11 :: a12 :: a13 :: a14 :: a15 :: some (.int x) :: lt) st hp post) : AW M d mc ms k n pc (a0 :: a1 :: a2 :: a3 :: a4 :: a5 :: a6 :: a7 :: a8 :: a9 :: a10 :: a11 :: a12 :: a13 :: a14 :: a15 :: ai :: lt) (.int x :: st) hp post := by
  intro p l e R s m args below meth c g Q H locs ls F E A L
  exact lv_istore F.1 F.2.1 hd L.has hn rfl (fun ls' L' => h p l e R s m args below meth c g Q H locs ls' F E A (L.set (v := .int x) rfl L'))
theorem A_astore16 {a0 a1 a2 a3 a4 a5 a6 a7 a8 a9 a10 a11 a12 a13 a14 a15 : Option Value} {lt : List (Option Value)} {ai : Option Value} {x : Nat} (hd : decode M.2.1 pc = .ok (.astore 16, 2)) (hn : 16 < M.2.2.1) (h : AW M d mc ms k n (pc + 2) (a0 :: a1 :: a2 :: a3 :: a4 :: a5 :: a6 :: a7 :: a8 :: a9 :: a10 :: a11 :: a12 :: a13 :: a14 :: a15 :: some (.ref x) :: lt) st hp post) : AW M d mc ms k n pc (a0 :: a1 :: a2 :: a3 :: a4 :: a5 :: a6 :: a7 :: a8 :: a9 :: a10 :: a11 :: a12 :: a13 :: a14 :: a15 :: ai :: lt) (.ref x :: st) hp post := by
  intro p l e R s m args below meth c g Q H locs ls F E A L
  exact lv_astore F.1 F.2.1 hd L.has hn rfl (fun ls' L' => h p l e R s m args below meth c g Q H locs ls' F E A (L.set (v := .ref x) rfl L'))
theorem A_iinc16 {a0 a1 a2 a3 a4 a5 a6 a7 a8 a9 a10 a11 a12 a13 a14 a15 : Option Value} {lt : List (Option Value)} {x v : Int32} {j : Int} (hd : decode M.2.1 pc = .ok (.iinc 16 j, 3)) (hn : 16 < M.2.2.1) (hv : x + Int32.ofInt j = v) (h : AW M d mc ms k n (pc + 3) (a0 :: a1 :: a2 :: a3 :: a4 :: a5 :: a6 :: a7 :: a8 :: a9 :: a10 :: a11 :: a12 :: a13 :: a14 :: a15 :: some (.int v) :: lt) st hp post) : AW M d mc ms k n pc (a0 :: a1 :: a2 :: a3 :: a4 :: a5 :: a6 :: a7 :: a8 :: a9 :: a10 :: a11 :: a12 :: a13 :: a14 :: a15 :: some (.int x) :: lt) st hp post := by
  intro p l e R s m args below meth c g Q H locs ls F E A L
  obtain ⟨kk, hk⟩ := List.getElem?_of_mem ((a_pr_mem (g := g) (lv := (a0 :: a1 :: a2 :: a3 :: a4 :: a5 :: a6 :: a7 :: a8 :: a9 :: a10 :: a11 :: a12 :: a13 :: a14 :: a15 :: some (.int x) :: lt)) (q := (16, .int x))).mpr ⟨.int x, rfl, rfl⟩)
  exact lv_iinc (k := kk) F.1 F.2.1 hd L.has hk hv hn rfl (fun ls' L' => h p l e R s m args below meth c g Q H locs ls' F E A (L.set (v := .int v) rfl L'))
theorem A_tsOut {dflt lo hi : Int} {offs : Array Int} {len : Nat} {x : Int32} {tgt : Nat} (hd : decode M.2.1 pc = .ok (.tableswitch dflt lo hi offs, len)) (hx : x.toInt < lo ∨ hi < x.toInt) (ht : (pc : Int) + dflt = (tgt : Int)) (h : AW M d mc ms k n tgt lv st hp post) : AW M d mc ms k n pc lv (.int x :: st) hp post := by
  intro p l e R s m args below meth c g Q H locs ls F E A L
  exact lv_tableOut F.1 F.2.1 hd hx ht (h p l e R s m args below meth c g Q H locs ls F E A L)
theorem A_tsIn {dflt lo hi : Int} {offs : Array Int} {len : Nat} {x : Int32} {off : Int} {tgt : Nat} (hd : decode M.2.1 pc = .ok (.tableswitch dflt lo hi offs, len)) (h1 : ¬ x.toInt < lo) (h2 : ¬ hi < x.toInt) (ho : offs[(x.toInt - lo).toNat]? = some off) (ht : (pc : Int) + off = (tgt : Int)) (h : AW M d mc ms k n tgt lv st hp post) : AW M d mc ms k n pc lv (.int x :: st) hp post := by
  intro p l e R s m args below meth c g Q H locs ls F E A L
  exact lv_tableIn F.1 F.2.1 hd h1 h2 ho ht (h p l e R s m args below meth c g Q H locs ls F E A L)
theorem A_iret {v : Int32} {ty : FieldType} (hd : decode M.2.1 pc = .ok (.ireturn, 1)) (hr : M.2.2.2 = some ty) (hn : narrow ty (.int v) = .int v) (hk : k ≤ mc) (hm : n ≤ ms) (h : post (some (.int v)) hp) : AW M d mc ms k n pc lv [.int v] hp post := by
  intro p l e R s m args below meth c g Q H locs ls F E A L
  exact E (some (.int v)) hp H locs ls pc k n h A hk hm (Or.inr ⟨v, ty, rfl, hr, hn, hd⟩)
theorem A_vret (hd : decode M.2.1 pc = .ok (.return_, 1)) (hr : M.2.2.2 = none) (hk : k ≤ mc) (hm : n ≤ ms) (h : post none hp) : AW M d mc ms k n pc lv [] hp post := by
  intro p l e R s m args below meth c g Q H locs ls F E A L
  exact E none hp H locs ls pc k n h A hk hm (Or.inl ⟨rfl, hr, hd⟩)
end AR
