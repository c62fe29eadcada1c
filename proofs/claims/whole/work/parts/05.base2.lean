/-! ===== rows of AW, one an instruction ===== -/
section AWrows
variable {d : Nat} {M : ax_M} {pc q : Nat} {ls : List (Option AV)} {st : List AV} {σ : SS} {K : ax_K}
theorem aw_iload_n {k : Fin 4} {x : Int32} (hd : decode M.2.1 pc = .ok (.iload_n k, 1)) (hq : pc + 1 = q) (hg : ls[k.val]? = some (some (.inl x))) (kk : AW d M q ls (.inl x :: st) σ K) : AW d M pc ls st σ K := by
  subst hq
  intro p l e R s m args below meth c D cy ad H locs lsA C hl hs hP hS
  refine lv_iload_n C.1 C.2.1 hd rfl (hl.get hg).1 ?_
  exact kk p l e R s m args below meth c D cy ad H locs lsA C hl (List.forall_mem_cons.mpr ⟨trivial, hs⟩) hP hS

theorem aw_iload {k : Nat} {x : Int32} (hd : decode M.2.1 pc = .ok (.iload k, 2)) (hq : pc + 2 = q) (hg : ls[k]? = some (some (.inl x))) (kk : AW d M q ls (.inl x :: st) σ K) : AW d M pc ls st σ K := by
  subst hq
  intro p l e R s m args below meth c D cy ad H locs lsA C hl hs hP hS
  refine lv_iload C.1 C.2.1 hd (hl.get hg).1 ?_
  exact kk p l e R s m args below meth c D cy ad H locs lsA C hl (List.forall_mem_cons.mpr ⟨trivial, hs⟩) hP hS

theorem aw_aload_n {k : Fin 4} {x : Nat × Nat} (hd : decode M.2.1 pc = .ok (.aload_n k, 1)) (hq : pc + 1 = q) (hg : ls[k.val]? = some (some (.inr x))) (kk : AW d M q ls (.inr x :: st) σ K) : AW d M pc ls st σ K := by
  subst hq
  intro p l e R s m args below meth c D cy ad H locs lsA C hl hs hP hS
  refine lv_aload_n C.1 C.2.1 hd rfl (hl.get hg).1 ?_
  exact kk p l e R s m args below meth c D cy ad H locs lsA C hl (List.forall_mem_cons.mpr ⟨(hl.get hg).2, hs⟩) hP hS

theorem aw_aload {k : Nat} {x : Nat × Nat} (hd : decode M.2.1 pc = .ok (.aload k, 2)) (hq : pc + 2 = q) (hg : ls[k]? = some (some (.inr x))) (kk : AW d M q ls (.inr x :: st) σ K) : AW d M pc ls st σ K := by
  subst hq
  intro p l e R s m args below meth c D cy ad H locs lsA C hl hs hP hS
  refine lv_aload C.1 C.2.1 hd (hl.get hg).1 ?_
  exact kk p l e R s m args below meth c D cy ad H locs lsA C hl (List.forall_mem_cons.mpr ⟨(hl.get hg).2, hs⟩) hP hS

theorem aw_istore_n {k : Fin 4} {x : Int32} (hd : decode M.2.1 pc = .ok (.istore_n k, 1)) (hq : pc + 1 = q) (hn : k.val < M.2.2.1) (kk : AW d M q (ls.set k.val (some (.inl x))) st σ K) : AW d M pc ls (.inl x :: st) σ K := by
  subst hq
  intro p l e R s m args below meth c D cy ad H locs lsA C hl hs hP hS
  have hs2 := List.forall_mem_cons.mp hs
  refine lv_istore_n C.1 C.2.1 hd rfl hl.1 hn rfl (fun lsB hlB => ?_)
  exact kk p l e R s m args below meth c D cy ad H locs lsB C (ax_L.set _ _ hs2.1 hl.2 hlB) hs2.2 hP hS

theorem aw_istore {k : Nat} {x : Int32} (hd : decode M.2.1 pc = .ok (.istore k, 2)) (hq : pc + 2 = q) (hn : k < M.2.2.1) (kk : AW d M q (ls.set k (some (.inl x))) st σ K) : AW d M pc ls (.inl x :: st) σ K := by
  subst hq
  intro p l e R s m args below meth c D cy ad H locs lsA C hl hs hP hS
  have hs2 := List.forall_mem_cons.mp hs
  refine lv_istore C.1 C.2.1 hd hl.1 hn rfl (fun lsB hlB => ?_)
  exact kk p l e R s m args below meth c D cy ad H locs lsB C (ax_L.set _ _ hs2.1 hl.2 hlB) hs2.2 hP hS

theorem aw_astore_n {k : Fin 4} {x : Nat × Nat} (hd : decode M.2.1 pc = .ok (.astore_n k, 1)) (hq : pc + 1 = q) (hn : k.val < M.2.2.1) (kk : AW d M q (ls.set k.val (some (.inr x))) st σ K) : AW d M pc ls (.inr x :: st) σ K := by
  subst hq
  intro p l e R s m args below meth c D cy ad H locs lsA C hl hs hP hS
  have hs2 := List.forall_mem_cons.mp hs
  refine lv_astore_n C.1 C.2.1 hd rfl hl.1 hn rfl (fun lsB hlB => ?_)
  exact kk p l e R s m args below meth c D cy ad H locs lsB C (ax_L.set _ _ hs2.1 hl.2 hlB) hs2.2 hP hS

theorem aw_astore {k : Nat} {x : Nat × Nat} (hd : decode M.2.1 pc = .ok (.astore k, 2)) (hq : pc + 2 = q) (hn : k < M.2.2.1) (kk : AW d M q (ls.set k (some (.inr x))) st σ K) : AW d M pc ls (.inr x :: st) σ K := by
  subst hq
  intro p l e R s m args below meth c D cy ad H locs lsA C hl hs hP hS
  have hs2 := List.forall_mem_cons.mp hs
  refine lv_astore C.1 C.2.1 hd hl.1 hn rfl (fun lsB hlB => ?_)
  exact kk p l e R s m args below meth c D cy ad H locs lsB C (ax_L.set _ _ hs2.1 hl.2 hlB) hs2.2 hP hS

theorem aw_iinc {k : Nat} {n : Int} {x v : Int32} (hd : decode M.2.1 pc = .ok (.iinc k n, 3)) (hq : pc + 3 = q) (hg : ls[k]? = some (some (.inl x))) (hv : x + Int32.ofInt n = v) (hn : k < M.2.2.1) (kk : AW d M q (ls.set k (some (.inl v))) st σ K) : AW d M pc ls st σ K := by
  subst hq
  intro p l e R s m args below meth c D cy ad H locs lsA C hl hs hP hS
  have hm : (k, Value.int x) ∈ ax_lv ad 0 ls := (ax_lv_mem ls 0).mpr ⟨k, .inl x, hg, by simp [ax_va]⟩
  obtain ⟨j, hj⟩ := List.getElem?_of_mem hm
  refine lv_iinc C.1 C.2.1 hd hl.1 hj hv hn rfl (fun lsB hlB => ?_)
  exact kk p l e R s m args below meth c D cy ad H locs lsB C (ax_L.set k (.inl v) trivial hl.2 hlB) hs hP hS

theorem aw_iconst {n : Int} (v : Int32) (hd : decode M.2.1 pc = .ok (.iconst n, 1)) (hq : pc + 1 = q) (hv : Int32.ofInt n = v) (kk : AW d M q ls (.inl v :: st) σ K) : AW d M pc ls st σ K := by
  subst hq
  intro p l e R s m args below meth c D cy ad H locs lsA C hl hs hP hS
  refine lv_iconst C.1 C.2.1 hd hv ?_
  exact kk p l e R s m args below meth c D cy ad H locs lsA C hl (List.forall_mem_cons.mpr ⟨trivial, hs⟩) hP hS

theorem aw_bipush {n : Int} (v : Int32) (hd : decode M.2.1 pc = .ok (.bipush n, 2)) (hq : pc + 2 = q) (hv : (Int8.ofInt n).toInt32 = v) (kk : AW d M q ls (.inl v :: st) σ K) : AW d M pc ls st σ K := by
  subst hq
  intro p l e R s m args below meth c D cy ad H locs lsA C hl hs hP hS
  refine lv_bipush C.1 C.2.1 hd hv ?_
  exact kk p l e R s m args below meth c D cy ad H locs lsA C hl (List.forall_mem_cons.mpr ⟨trivial, hs⟩) hP hS

theorem aw_sipush {n : Int} (v : Int32) (hd : decode M.2.1 pc = .ok (.sipush n, 3)) (hq : pc + 3 = q) (hv : (Int16.ofInt n).toInt32 = v) (kk : AW d M q ls (.inl v :: st) σ K) : AW d M pc ls st σ K := by
  subst hq
  intro p l e R s m args below meth c D cy ad H locs lsA C hl hs hP hS
  refine lv_sipush C.1 C.2.1 hd hv ?_
  exact kk p l e R s m args below meth c D cy ad H locs lsA C hl (List.forall_mem_cons.mpr ⟨trivial, hs⟩) hP hS

theorem aw_ldc {n : Nat} {v : Int32} (hd : decode M.2.1 pc = .ok (.ldc n, 2)) (hq : pc + 2 = q) (hv : Cond.constant M.1.cls n v ∈ ax_GW) (kk : AW d M q ls (.inl v :: st) σ K) : AW d M pc ls st σ K := by
  subst hq
  intro p l e R s m args below meth c D cy ad H locs lsA C hl hs hP hS
  refine lv_ldc C.1 C.2.1 C.2.2.2.2.2.1 (C.2.2.2.2.2.2.1 _ (List.mem_cons_of_mem _ hv)) hd ?_
  exact kk p l e R s m args below meth c D cy ad H locs lsA C hl (List.forall_mem_cons.mpr ⟨trivial, hs⟩) hP hS

theorem aw_ldc_w {n : Nat} {v : Int32} (hd : decode M.2.1 pc = .ok (.ldc_w n, 3)) (hq : pc + 3 = q) (hv : Cond.constant M.1.cls n v ∈ ax_GW) (kk : AW d M q ls (.inl v :: st) σ K) : AW d M pc ls st σ K := by
  subst hq
  intro p l e R s m args below meth c D cy ad H locs lsA C hl hs hP hS
  refine lv_ldcw C.1 C.2.1 C.2.2.2.2.2.1 (C.2.2.2.2.2.2.1 _ (List.mem_cons_of_mem _ hv)) hd ?_
  exact kk p l e R s m args below meth c D cy ad H locs lsA C hl (List.forall_mem_cons.mpr ⟨trivial, hs⟩) hP hS

theorem aw_iadd {x y : Int32} (hd : decode M.2.1 pc = .ok (.iadd, 1)) (hq : pc + 1 = q) (kk : AW d M q ls (.inl (x + y) :: st) σ K) : AW d M pc ls (.inl y :: .inl x :: st) σ K := by
  subst hq
  intro p l e R s m args below meth c D cy ad H locs lsA C hl hs hP hS
  have hs2 := (List.forall_mem_cons.mp (List.forall_mem_cons.mp hs).2).2
  refine lv_iadd C.1 C.2.1 hd ?_
  exact kk p l e R s m args below meth c D cy ad H locs lsA C hl (List.forall_mem_cons.mpr ⟨trivial, hs2⟩) hP hS

theorem aw_isub {x y : Int32} (hd : decode M.2.1 pc = .ok (.isub, 1)) (hq : pc + 1 = q) (kk : AW d M q ls (.inl (x - y) :: st) σ K) : AW d M pc ls (.inl y :: .inl x :: st) σ K := by
  subst hq
  intro p l e R s m args below meth c D cy ad H locs lsA C hl hs hP hS
  have hs2 := (List.forall_mem_cons.mp (List.forall_mem_cons.mp hs).2).2
  refine lv_isub C.1 C.2.1 hd ?_
  exact kk p l e R s m args below meth c D cy ad H locs lsA C hl (List.forall_mem_cons.mpr ⟨trivial, hs2⟩) hP hS

theorem aw_imul {x y : Int32} (hd : decode M.2.1 pc = .ok (.imul, 1)) (hq : pc + 1 = q) (kk : AW d M q ls (.inl (x * y) :: st) σ K) : AW d M pc ls (.inl y :: .inl x :: st) σ K := by
  subst hq
  intro p l e R s m args below meth c D cy ad H locs lsA C hl hs hP hS
  have hs2 := (List.forall_mem_cons.mp (List.forall_mem_cons.mp hs).2).2
  refine lv_imul C.1 C.2.1 hd ?_
  exact kk p l e R s m args below meth c D cy ad H locs lsA C hl (List.forall_mem_cons.mpr ⟨trivial, hs2⟩) hP hS

theorem aw_iand {x y : Int32} (hd : decode M.2.1 pc = .ok (.iand, 1)) (hq : pc + 1 = q) (kk : AW d M q ls (.inl (x &&& y) :: st) σ K) : AW d M pc ls (.inl y :: .inl x :: st) σ K := by
  subst hq
  intro p l e R s m args below meth c D cy ad H locs lsA C hl hs hP hS
  have hs2 := (List.forall_mem_cons.mp (List.forall_mem_cons.mp hs).2).2
  refine lv_iand C.1 C.2.1 hd ?_
  exact kk p l e R s m args below meth c D cy ad H locs lsA C hl (List.forall_mem_cons.mpr ⟨trivial, hs2⟩) hP hS

theorem aw_ior {x y : Int32} (hd : decode M.2.1 pc = .ok (.ior, 1)) (hq : pc + 1 = q) (kk : AW d M q ls (.inl (x ||| y) :: st) σ K) : AW d M pc ls (.inl y :: .inl x :: st) σ K := by
  subst hq
  intro p l e R s m args below meth c D cy ad H locs lsA C hl hs hP hS
  have hs2 := (List.forall_mem_cons.mp (List.forall_mem_cons.mp hs).2).2
  refine lv_ior C.1 C.2.1 hd ?_
  exact kk p l e R s m args below meth c D cy ad H locs lsA C hl (List.forall_mem_cons.mpr ⟨trivial, hs2⟩) hP hS

theorem aw_ixor {x y : Int32} (hd : decode M.2.1 pc = .ok (.ixor, 1)) (hq : pc + 1 = q) (kk : AW d M q ls (.inl (x ^^^ y) :: st) σ K) : AW d M pc ls (.inl y :: .inl x :: st) σ K := by
  subst hq
  intro p l e R s m args below meth c D cy ad H locs lsA C hl hs hP hS
  have hs2 := (List.forall_mem_cons.mp (List.forall_mem_cons.mp hs).2).2
  refine lv_ixor C.1 C.2.1 hd ?_
  exact kk p l e R s m args below meth c D cy ad H locs lsA C hl (List.forall_mem_cons.mpr ⟨trivial, hs2⟩) hP hS

theorem aw_ishl {x y : Int32} (hd : decode M.2.1 pc = .ok (.ishl, 1)) (hq : pc + 1 = q) (kk : AW d M q ls (.inl (x <<< (y &&& 31)) :: st) σ K) : AW d M pc ls (.inl y :: .inl x :: st) σ K := by
  subst hq
  intro p l e R s m args below meth c D cy ad H locs lsA C hl hs hP hS
  have hs2 := (List.forall_mem_cons.mp (List.forall_mem_cons.mp hs).2).2
  refine lv_ishl C.1 C.2.1 hd ?_
  exact kk p l e R s m args below meth c D cy ad H locs lsA C hl (List.forall_mem_cons.mpr ⟨trivial, hs2⟩) hP hS

theorem aw_ishr {x y : Int32} (hd : decode M.2.1 pc = .ok (.ishr, 1)) (hq : pc + 1 = q) (kk : AW d M q ls (.inl (x >>> (y &&& 31)) :: st) σ K) : AW d M pc ls (.inl y :: .inl x :: st) σ K := by
  subst hq
  intro p l e R s m args below meth c D cy ad H locs lsA C hl hs hP hS
  have hs2 := (List.forall_mem_cons.mp (List.forall_mem_cons.mp hs).2).2
  refine lv_ishr C.1 C.2.1 hd ?_
  exact kk p l e R s m args below meth c D cy ad H locs lsA C hl (List.forall_mem_cons.mpr ⟨trivial, hs2⟩) hP hS

theorem aw_idiv {x y : Int32} (hd : decode M.2.1 pc = .ok (.idiv, 1)) (hq : pc + 1 = q) (hy : ¬ y = 0) (kk : AW d M q ls (.inl (x / y) :: st) σ K) : AW d M pc ls (.inl y :: .inl x :: st) σ K := by
  subst hq
  intro p l e R s m args below meth c D cy ad H locs lsA C hl hs hP hS
  have hs2 := (List.forall_mem_cons.mp (List.forall_mem_cons.mp hs).2).2
  refine lv_idiv C.1 C.2.1 hd hy ?_
  exact kk p l e R s m args below meth c D cy ad H locs lsA C hl (List.forall_mem_cons.mpr ⟨trivial, hs2⟩) hP hS

theorem aw_irem {x y : Int32} (hd : decode M.2.1 pc = .ok (.irem, 1)) (hq : pc + 1 = q) (hy : ¬ y = 0) (kk : AW d M q ls (.inl (x - x / y * y) :: st) σ K) : AW d M pc ls (.inl y :: .inl x :: st) σ K := by
  subst hq
  intro p l e R s m args below meth c D cy ad H locs lsA C hl hs hP hS
  have hs2 := (List.forall_mem_cons.mp (List.forall_mem_cons.mp hs).2).2
  refine lv_irem C.1 C.2.1 hd hy ?_
  exact kk p l e R s m args below meth c D cy ad H locs lsA C hl (List.forall_mem_cons.mpr ⟨trivial, hs2⟩) hP hS

theorem aw_iushr {x y : Int32} (hd : decode M.2.1 pc = .ok (.iushr, 1)) (hq : pc + 1 = q) (kk : AW d M q ls (.inl ((x.toUInt32 >>> (y.toUInt32 &&& Int32.toUInt32 31)).toInt32) :: st) σ K) : AW d M pc ls (.inl y :: .inl x :: st) σ K := by
  subst hq
  intro p l e R s m args below meth c D cy ad H locs lsA C hl hs hP hS
  have hs2 := (List.forall_mem_cons.mp (List.forall_mem_cons.mp hs).2).2
  refine lv_iushr C.1 C.2.1 hd rfl ?_
  exact kk p l e R s m args below meth c D cy ad H locs lsA C hl (List.forall_mem_cons.mpr ⟨trivial, hs2⟩) hP hS

theorem aw_ineg {x : Int32} (hd : decode M.2.1 pc = .ok (.ineg, 1)) (hq : pc + 1 = q) (kk : AW d M q ls (.inl (-x) :: st) σ K) : AW d M pc ls (.inl x :: st) σ K := by
  subst hq
  intro p l e R s m args below meth c D cy ad H locs lsA C hl hs hP hS
  refine lv_ineg C.1 C.2.1 hd ?_
  exact kk p l e R s m args below meth c D cy ad H locs lsA C hl (List.forall_mem_cons.mpr ⟨trivial, (List.forall_mem_cons.mp hs).2⟩) hP hS

theorem aw_dup {v : AV} (hd : decode M.2.1 pc = .ok (.dup, 1)) (hq : pc + 1 = q) (kk : AW d M q ls (v :: v :: st) σ K) : AW d M pc ls (v :: st) σ K := by
  subst hq
  intro p l e R s m args below meth c D cy ad H locs lsA C hl hs hP hS
  refine lv_dup C.1 C.2.1 hd (ax_va_cat ad v) ?_
  exact kk p l e R s m args below meth c D cy ad H locs lsA C hl (List.forall_mem_cons.mpr ⟨(List.forall_mem_cons.mp hs).1, hs⟩) hP hS

theorem aw_dup2 {u v : AV} (hd : decode M.2.1 pc = .ok (.dup2, 1)) (hq : pc + 1 = q) (kk : AW d M q ls (v :: u :: v :: u :: st) σ K) : AW d M pc ls (v :: u :: st) σ K := by
  subst hq
  intro p l e R s m args below meth c D cy ad H locs lsA C hl hs hP hS
  have h1 := List.forall_mem_cons.mp hs
  have h2 := List.forall_mem_cons.mp h1.2
  refine lv_dup2_11 C.1 C.2.1 hd (ax_va_cat ad v) (ax_va_cat ad u) ?_
  exact kk p l e R s m args below meth c D cy ad H locs lsA C hl (List.forall_mem_cons.mpr ⟨h1.1, List.forall_mem_cons.mpr ⟨h2.1, hs⟩⟩) hP hS

theorem aw_goto {off : Int} (hd : decode M.2.1 pc = .ok (.goto off, 3)) (ht : (pc : Int) + off = (q : Int)) (kk : AW d M q ls st σ K) : AW d M pc ls st σ K := by
  intro p l e R s m args below meth c D cy ad H locs lsA C hl hs hP hS
  refine lv_goto C.1 C.2.1 hd ht ?_
  exact kk p l e R s m args below meth c D cy ad H locs lsA C hl hs hP hS

theorem aw_icmp_eq {x y : Int32} {off : Int} {tgt : Nat} (hd : decode M.2.1 pc = .ok (.if_icmp .eq off, 3)) (ht : (pc : Int) + off = (tgt : Int)) (hq : pc + 3 = q) (kt : x = y → AW d M tgt ls st σ K) (kf : ¬ x = y → AW d M q ls st σ K) : AW d M pc ls (.inl y :: .inl x :: st) σ K := by
  subst hq
  intro p l e R s m args below meth c D cy ad H locs lsA C hl hs hP hS
  have hs2 := (List.forall_mem_cons.mp (List.forall_mem_cons.mp hs).2).2
  exact lv_icmp_eq C.1 C.2.1 hd ht (fun h => kt h p l e R s m args below meth c D cy ad H locs lsA C hl hs2 hP hS) (fun h => kf h p l e R s m args below meth c D cy ad H locs lsA C hl hs2 hP hS)
theorem aw_icmp_ne {x y : Int32} {off : Int} {tgt : Nat} (hd : decode M.2.1 pc = .ok (.if_icmp .ne off, 3)) (ht : (pc : Int) + off = (tgt : Int)) (hq : pc + 3 = q) (kt : ¬ x = y → AW d M tgt ls st σ K) (kf : x = y → AW d M q ls st σ K) : AW d M pc ls (.inl y :: .inl x :: st) σ K := by
  subst hq
  intro p l e R s m args below meth c D cy ad H locs lsA C hl hs hP hS
  have hs2 := (List.forall_mem_cons.mp (List.forall_mem_cons.mp hs).2).2
  exact lv_icmp_ne C.1 C.2.1 hd ht (fun h => kt h p l e R s m args below meth c D cy ad H locs lsA C hl hs2 hP hS) (fun h => kf h p l e R s m args below meth c D cy ad H locs lsA C hl hs2 hP hS)
theorem aw_icmp_lt {x y : Int32} {off : Int} {tgt : Nat} (hd : decode M.2.1 pc = .ok (.if_icmp .lt off, 3)) (ht : (pc : Int) + off = (tgt : Int)) (hq : pc + 3 = q) (kt : x < y → AW d M tgt ls st σ K) (kf : ¬ x < y → AW d M q ls st σ K) : AW d M pc ls (.inl y :: .inl x :: st) σ K := by
  subst hq
  intro p l e R s m args below meth c D cy ad H locs lsA C hl hs hP hS
  have hs2 := (List.forall_mem_cons.mp (List.forall_mem_cons.mp hs).2).2
  exact lv_icmp_lt C.1 C.2.1 hd ht (fun h => kt h p l e R s m args below meth c D cy ad H locs lsA C hl hs2 hP hS) (fun h => kf h p l e R s m args below meth c D cy ad H locs lsA C hl hs2 hP hS)
theorem aw_icmp_ge {x y : Int32} {off : Int} {tgt : Nat} (hd : decode M.2.1 pc = .ok (.if_icmp .ge off, 3)) (ht : (pc : Int) + off = (tgt : Int)) (hq : pc + 3 = q) (kt : y ≤ x → AW d M tgt ls st σ K) (kf : ¬ y ≤ x → AW d M q ls st σ K) : AW d M pc ls (.inl y :: .inl x :: st) σ K := by
  subst hq
  intro p l e R s m args below meth c D cy ad H locs lsA C hl hs hP hS
  have hs2 := (List.forall_mem_cons.mp (List.forall_mem_cons.mp hs).2).2
  exact lv_icmp_ge C.1 C.2.1 hd ht (fun h => kt h p l e R s m args below meth c D cy ad H locs lsA C hl hs2 hP hS) (fun h => kf h p l e R s m args below meth c D cy ad H locs lsA C hl hs2 hP hS)
theorem aw_icmp_gt {x y : Int32} {off : Int} {tgt : Nat} (hd : decode M.2.1 pc = .ok (.if_icmp .gt off, 3)) (ht : (pc : Int) + off = (tgt : Int)) (hq : pc + 3 = q) (kt : y < x → AW d M tgt ls st σ K) (kf : ¬ y < x → AW d M q ls st σ K) : AW d M pc ls (.inl y :: .inl x :: st) σ K := by
  subst hq
  intro p l e R s m args below meth c D cy ad H locs lsA C hl hs hP hS
  have hs2 := (List.forall_mem_cons.mp (List.forall_mem_cons.mp hs).2).2
  exact lv_icmp_gt C.1 C.2.1 hd ht (fun h => kt h p l e R s m args below meth c D cy ad H locs lsA C hl hs2 hP hS) (fun h => kf h p l e R s m args below meth c D cy ad H locs lsA C hl hs2 hP hS)
theorem aw_icmp_le {x y : Int32} {off : Int} {tgt : Nat} (hd : decode M.2.1 pc = .ok (.if_icmp .le off, 3)) (ht : (pc : Int) + off = (tgt : Int)) (hq : pc + 3 = q) (kt : x ≤ y → AW d M tgt ls st σ K) (kf : ¬ x ≤ y → AW d M q ls st σ K) : AW d M pc ls (.inl y :: .inl x :: st) σ K := by
  subst hq
  intro p l e R s m args below meth c D cy ad H locs lsA C hl hs hP hS
  have hs2 := (List.forall_mem_cons.mp (List.forall_mem_cons.mp hs).2).2
  exact lv_icmp_le C.1 C.2.1 hd ht (fun h => kt h p l e R s m args below meth c D cy ad H locs lsA C hl hs2 hP hS) (fun h => kf h p l e R s m args below meth c D cy ad H locs lsA C hl hs2 hP hS)
theorem aw_if_eq {x : Int32} {off : Int} {tgt : Nat} (hd : decode M.2.1 pc = .ok (.ifCond .eq off, 3)) (ht : (pc : Int) + off = (tgt : Int)) (hq : pc + 3 = q) (kt : x = 0 → AW d M tgt ls st σ K) (kf : ¬ x = 0 → AW d M q ls st σ K) : AW d M pc ls (.inl x :: st) σ K := by
  subst hq
  intro p l e R s m args below meth c D cy ad H locs lsA C hl hs hP hS
  have hs2 := (List.forall_mem_cons.mp hs).2
  exact lv_if_eq C.1 C.2.1 hd ht (fun h => kt h p l e R s m args below meth c D cy ad H locs lsA C hl hs2 hP hS) (fun h => kf h p l e R s m args below meth c D cy ad H locs lsA C hl hs2 hP hS)
theorem aw_if_ne {x : Int32} {off : Int} {tgt : Nat} (hd : decode M.2.1 pc = .ok (.ifCond .ne off, 3)) (ht : (pc : Int) + off = (tgt : Int)) (hq : pc + 3 = q) (kt : ¬ x = 0 → AW d M tgt ls st σ K) (kf : x = 0 → AW d M q ls st σ K) : AW d M pc ls (.inl x :: st) σ K := by
  subst hq
  intro p l e R s m args below meth c D cy ad H locs lsA C hl hs hP hS
  have hs2 := (List.forall_mem_cons.mp hs).2
  exact lv_if_ne C.1 C.2.1 hd ht (fun h => kt h p l e R s m args below meth c D cy ad H locs lsA C hl hs2 hP hS) (fun h => kf h p l e R s m args below meth c D cy ad H locs lsA C hl hs2 hP hS)
theorem aw_if_lt {x : Int32} {off : Int} {tgt : Nat} (hd : decode M.2.1 pc = .ok (.ifCond .lt off, 3)) (ht : (pc : Int) + off = (tgt : Int)) (hq : pc + 3 = q) (kt : x < 0 → AW d M tgt ls st σ K) (kf : ¬ x < 0 → AW d M q ls st σ K) : AW d M pc ls (.inl x :: st) σ K := by
  subst hq
  intro p l e R s m args below meth c D cy ad H locs lsA C hl hs hP hS
  have hs2 := (List.forall_mem_cons.mp hs).2
  exact lv_if_lt C.1 C.2.1 hd ht (fun h => kt h p l e R s m args below meth c D cy ad H locs lsA C hl hs2 hP hS) (fun h => kf h p l e R s m args below meth c D cy ad H locs lsA C hl hs2 hP hS)
theorem aw_if_ge {x : Int32} {off : Int} {tgt : Nat} (hd : decode M.2.1 pc = .ok (.ifCond .ge off, 3)) (ht : (pc : Int) + off = (tgt : Int)) (hq : pc + 3 = q) (kt : 0 ≤ x → AW d M tgt ls st σ K) (kf : ¬ 0 ≤ x → AW d M q ls st σ K) : AW d M pc ls (.inl x :: st) σ K := by
  subst hq
  intro p l e R s m args below meth c D cy ad H locs lsA C hl hs hP hS
  have hs2 := (List.forall_mem_cons.mp hs).2
  exact lv_if_ge C.1 C.2.1 hd ht (fun h => kt h p l e R s m args below meth c D cy ad H locs lsA C hl hs2 hP hS) (fun h => kf h p l e R s m args below meth c D cy ad H locs lsA C hl hs2 hP hS)
theorem aw_if_gt {x : Int32} {off : Int} {tgt : Nat} (hd : decode M.2.1 pc = .ok (.ifCond .gt off, 3)) (ht : (pc : Int) + off = (tgt : Int)) (hq : pc + 3 = q) (kt : 0 < x → AW d M tgt ls st σ K) (kf : ¬ 0 < x → AW d M q ls st σ K) : AW d M pc ls (.inl x :: st) σ K := by
  subst hq
  intro p l e R s m args below meth c D cy ad H locs lsA C hl hs hP hS
  have hs2 := (List.forall_mem_cons.mp hs).2
  exact lv_if_gt C.1 C.2.1 hd ht (fun h => kt h p l e R s m args below meth c D cy ad H locs lsA C hl hs2 hP hS) (fun h => kf h p l e R s m args below meth c D cy ad H locs lsA C hl hs2 hP hS)
theorem aw_if_le {x : Int32} {off : Int} {tgt : Nat} (hd : decode M.2.1 pc = .ok (.ifCond .le off, 3)) (ht : (pc : Int) + off = (tgt : Int)) (hq : pc + 3 = q) (kt : x ≤ 0 → AW d M tgt ls st σ K) (kf : ¬ x ≤ 0 → AW d M q ls st σ K) : AW d M pc ls (.inl x :: st) σ K := by
  subst hq
  intro p l e R s m args below meth c D cy ad H locs lsA C hl hs hP hS
  have hs2 := (List.forall_mem_cons.mp hs).2
  exact lv_if_le C.1 C.2.1 hd ht (fun h => kt h p l e R s m args below meth c D cy ad H locs lsA C hl hs2 hP hS) (fun h => kf h p l e R s m args below meth c D cy ad H locs lsA C hl hs2 hP hS)
theorem aw_tableIn {dflt lo hi : Int} {offs : Array Int} {len : Nat} {x : Int32} {off : Int} (hd : decode M.2.1 pc = .ok (.tableswitch dflt lo hi offs, len)) (h1 : ¬ x.toInt < lo) (h2 : ¬ hi < x.toInt) (ho : offs[(x.toInt - lo).toNat]? = some off) (ht : (pc : Int) + off = (q : Int)) (kk : AW d M q ls st σ K) : AW d M pc ls (.inl x :: st) σ K := by
  intro p l e R s m args below meth c D cy ad H locs lsA C hl hs hP hS
  exact lv_tableIn C.1 C.2.1 hd h1 h2 ho ht (kk p l e R s m args below meth c D cy ad H locs lsA C hl (List.forall_mem_cons.mp hs).2 hP hS)
theorem aw_tableOut {dflt lo hi : Int} {offs : Array Int} {len : Nat} {x : Int32} (hd : decode M.2.1 pc = .ok (.tableswitch dflt lo hi offs, len)) (h : x.toInt < lo ∨ hi < x.toInt) (ht : (pc : Int) + dflt = (q : Int)) (kk : AW d M q ls st σ K) : AW d M pc ls (.inl x :: st) σ K := by
  intro p l e R s m args below meth c D cy ad H locs lsA C hl hs hP hS
  exact lv_tableOut C.1 C.2.1 hd h ht (kk p l e R s m args below meth c D cy ad H locs lsA C hl (List.forall_mem_cons.mp hs).2 hP hS)
theorem aw_lookup {dflt : Int} {ps : Array (Int × Int)} {len : Nat} {x : Int32} {off : Int} (hd : decode M.2.1 pc = .ok (.lookupswitch dflt ps, len)) (hp : (ps.toList.zip (ps.toList.drop 1)).all (fun (a, next) => a.1 < next.1) = true) (ho : Op.lookupswitch.offset ps.toList dflt x.toInt = off) (ht : (pc : Int) + off = (q : Int)) (kk : AW d M q ls st σ K) : AW d M pc ls (.inl x :: st) σ K := by
  intro p l e R s m args below meth c D cy ad H locs lsA C hl hs hP hS
  exact lv_lookup C.1 C.2.1 hd hp ho ht (kk p l e R s m args below meth c D cy ad H locs lsA C hl (List.forall_mem_cons.mp hs).2 hP hS)
theorem aw_ret {v : Int32} {ty : FieldType} (hd : decode M.2.1 pc = .ok (.ireturn, 1)) (hr : M.2.2.2 = some ty) (hn : narrow ty (.int v) = .int v) (hK : K (some v) σ) : AW d M pc ls [.inl v] σ K := by
  intro p l e R s m args below meth c D cy ad H locs lsA C hl hs hP hS
  exact W.zret (ty := ty) C.1 C.2.1 (C.2.2.1.trans hr) hn (fun t ht hW => ⟨⟨some v, σ, rfl, hK, by rw [ht]; exact hP⟩, hS.F ht⟩) hS.2.2 hd C.2.2.2.2.1
theorem aw_vret (hd : decode M.2.1 pc = .ok (.return_, 1)) (hr : M.2.2.2 = none) (hK : K none σ) : AW d M pc ls [] σ K := by
  intro p l e R s m args below meth c D cy ad H locs lsA C hl hs hP hS
  exact W.vret C.1 C.2.1 (C.2.2.1.trans hr) (fun t ht hW => ⟨⟨none, σ, rfl, hK, by rw [ht]; exact hP⟩, hS.F ht⟩) hS.2.2 hd C.2.2.2.2.1
theorem AW.conv {ls' : List (Option AV)} {st' : List AV} {σ' : SS} (h : AW d M pc ls' st' σ' K) (e1 : ls = ls') (e2 : st = st') (e3 : σ = σ') : AW d M pc ls st σ K := by subst e1; subst e2; subst e3; exact h
theorem AW.forget {ls' : List (Option AV)} (h : AW d M pc ls' st σ K) (e : ∀ (n : Nat) (v : AV), ls'[n]? = some (some v) → ls[n]? = some (some v)) : AW d M pc ls st σ K := by
  intro p l e' R s m args below meth c D cy ad H locs lsA C hl hs hP hS
  refine h p l e' R s m args below meth c D cy ad H locs lsA C ⟨⟨hl.1.1, hl.1.2.1, fun q hq => ?_⟩, fun v hv => ?_⟩ hs hP hS
  · obtain ⟨n, v, hn, rfl⟩ := (ax_lv_mem _ 0).mp hq
    exact hl.1.2.2 _ ((ax_lv_mem _ 0).mpr ⟨n, v, e n v hn, rfl⟩)
  · obtain ⟨n, hn⟩ := List.getElem?_of_mem hv
    exact hl.2 v (List.mem_of_getElem? (e n v hn))
theorem AW.mono {K' : ax_K} (h : AW d M pc ls st σ K') (hK : ∀ r σ', K' r σ' → K r σ') : AW d M pc ls st σ K := by
  intro p l e R s m args below meth c D cy ad H locs lsA C hl hs hP hS T hT X
  obtain ⟨t, h1, o, h2, h3, ⟨⟨r, σ', h4, h5, h6⟩, h7⟩, h8⟩ := h p l e R s m args below meth c D cy ad H locs lsA C hl hs hP hS T hT X
  exact ⟨t, h1, o, h2, h3, ⟨⟨r, σ', h4, hK r σ' h5, h6⟩, h7⟩, h8⟩
theorem AW.up {d' : Nat} (h : AW d M pc ls st σ K) (hd : d ≤ d') : AW d' M pc ls st σ K := by
  intro p l e R s m args below meth c D cy ad H locs lsA C hl hs hP hS
  obtain ⟨c1, c2, c3, c4, c5, c6, c7, c8, c9, c10⟩ := C
  exact h p l e R s m args below meth c D cy ad H locs lsA ⟨c1, c2, c3, c4, c5, c6, c7, c8, by omega, by omega⟩ hl hs hP hS
end AWrows
