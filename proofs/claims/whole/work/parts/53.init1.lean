/-! ===== constructors: a walk in which cells come ===== -/
/-- the surroundings of a constructor: d calls, nc cells and ns slots may come -/
def CC (d nc ns : Nat) (M : ax_M) (p : Program) (R : Room) (s : State) (m : MethodId) (args : Array Value) (meth : Method) (c : Code) (D : va_G) (cy : Nat → ClassId) (A : Nat → Prop) : Prop :=
  p.tables.exec = Jvm.exec ∧ c.code = M.2.1 ∧ meth.sig.returnType = none ∧ c.maxLocals = M.2.2.1 ∧ meth.locks = false ∧ s.vm.findClass M.1.cls = some m.cls ∧ (∀ w ∈ ax_ws M, w.before args s = true) ∧ va_K D ax_cl (ax_ty cy) s ∧ (∀ w ∈ ax_NW, va_Nw w s) ∧ (va_AO RX2 s ∧ va_AO RX0 s) ∧ meth.name = "<init>" ∧ (∀ q, s.heap.size ≤ q → A q) ∧ (d ≤ R.frames ∧ 64 * d ≤ R.locals) ∧ nc ≤ R.cells ∧ ns ≤ R.slots
/-- from here, with these locals, this stack and these cells, the constructor ends, with cells as Post says; cells and slots came so far -/
def CW (d nc ns : Nat) (M : ax_M) (D : va_G) (cy : Nat → ClassId) (Post : va_W → Prop) (pc : Nat) (lv : List (Nat × Value)) (st : List Value) (ws : va_W) (cells slots : Nat) : Prop :=
  ∀ (p : Program) (l : Launch) (e : Env) (R : Room) (s : State) (m : MethodId) (args : Array Value) (below : List Frame) (meth : Method) (c : Code) (H : Heap) (locs : List Loc) (ls : Array Slot) (A : Nat → Prop),
    CC d nc ns M p R s m args meth c D cy A → lv_has ls M.2.2.1 lv → va_P D ax_cl ws H → va_D A ws → va_S A s.heap H locs →
    W p l e R s m args below meth c H locs cells slots (MQ below (va_Qv Post (fun w t => va_P D ax_cl w t.heap ∧ va_D A w) A) args s nc ns A) (F0 m pc ls st)
section CWrows
variable {d nc ns : Nat} {M : ax_M} {D : va_G} {cy : Nat → ClassId} {Post : va_W → Prop} {pc q : Nat} {lv : List (Nat × Value)} {st : List Value} {ws : va_W} {cells slots : Nat}
theorem cw_ald {k : Fin 4} {a : Nat} (j : Nat) (hj : lv[j]? = some (k.val, .ref a)) (hd : decode M.2.1 pc = .ok (.aload_n k, 1)) (hq : pc + 1 = q) (kk : CW d nc ns M D cy Post q lv (.ref a :: st) (ws) (cells) (slots)) : CW d nc ns M D cy Post pc lv (st) (ws) (cells) (slots) := by
  subst hq
  intro p l e R s m args below meth c H locs ls A C hl hP hD hS
  refine lv_aload_n C.1 C.2.1 hd rfl (lv_at hl j hj) ?_
  exact kk p l e R s m args below meth c H locs ls A C hl hP hD hS
theorem cw_ild {k : Fin 4} {x : Int32} (j : Nat) (hj : lv[j]? = some (k.val, .int x)) (hd : decode M.2.1 pc = .ok (.iload_n k, 1)) (hq : pc + 1 = q) (kk : CW d nc ns M D cy Post q lv (.int x :: st) (ws) (cells) (slots)) : CW d nc ns M D cy Post pc lv (st) (ws) (cells) (slots) := by
  subst hq
  intro p l e R s m args below meth c H locs ls A C hl hP hD hS
  refine lv_iload_n C.1 C.2.1 hd rfl (lv_at hl j hj) ?_
  exact kk p l e R s m args below meth c H locs ls A C hl hP hD hS
theorem cw_ico {n : Int} (v : Int32) (hv : Int32.ofInt n = v) (hd : decode M.2.1 pc = .ok (.iconst n, 1)) (hq : pc + 1 = q) (kk : CW d nc ns M D cy Post q lv (.int v :: st) (ws) (cells) (slots)) : CW d nc ns M D cy Post pc lv (st) (ws) (cells) (slots) := by
  subst hq
  intro p l e R s m args below meth c H locs ls A C hl hP hD hS
  refine lv_iconst C.1 C.2.1 hd hv ?_
  exact kk p l e R s m args below meth c H locs ls A C hl hP hD hS
theorem cw_bip {n : Int} (v : Int32) (hv : (Int8.ofInt n).toInt32 = v) (hd : decode M.2.1 pc = .ok (.bipush n, 2)) (hq : pc + 2 = q) (kk : CW d nc ns M D cy Post q lv (.int v :: st) (ws) (cells) (slots)) : CW d nc ns M D cy Post pc lv (st) (ws) (cells) (slots) := by
  subst hq
  intro p l e R s m args below meth c H locs ls A C hl hP hD hS
  refine lv_bipush C.1 C.2.1 hd hv ?_
  exact kk p l e R s m args below meth c H locs ls A C hl hP hD hS
theorem cw_sip {n : Int} (v : Int32) (hv : (Int16.ofInt n).toInt32 = v) (hd : decode M.2.1 pc = .ok (.sipush n, 3)) (hq : pc + 3 = q) (kk : CW d nc ns M D cy Post q lv (.int v :: st) (ws) (cells) (slots)) : CW d nc ns M D cy Post pc lv (st) (ws) (cells) (slots) := by
  subst hq
  intro p l e R s m args below meth c H locs ls A C hl hP hD hS
  refine lv_sipush C.1 C.2.1 hd hv ?_
  exact kk p l e R s m args below meth c H locs ls A C hl hP hD hS
theorem cw_dup {v : Value} (hc : v.category = 1) (hd : decode M.2.1 pc = .ok (.dup, 1)) (hq : pc + 1 = q) (kk : CW d nc ns M D cy Post q lv (v :: v :: st) (ws) (cells) (slots)) : CW d nc ns M D cy Post pc lv (v :: st) (ws) (cells) (slots) := by
  subst hq
  intro p l e R s m args below meth c H locs ls A C hl hP hD hS
  refine lv_dup C.1 C.2.1 hd hc ?_
  exact kk p l e R s m args below meth c H locs ls A C hl hP hD hS
theorem cw_goto {off : Int} (hd : decode M.2.1 pc = .ok (.goto off, 3)) (ht : (pc : Int) + off = (q : Int)) (kk : CW d nc ns M D cy Post q lv (st) (ws) (cells) (slots)) : CW d nc ns M D cy Post pc lv (st) (ws) (cells) (slots) := by
  intro p l e R s m args below meth c H locs ls A C hl hP hD hS
  refine lv_goto C.1 C.2.1 hd ht ?_
  exact kk p l e R s m args below meth c H locs ls A C hl hP hD hS
theorem cw_cge {x y : Int32} {off : Int} {tgt : Nat} (hd : decode M.2.1 pc = .ok (.if_icmp .ge off, 3)) (ht : (pc : Int) + off = (tgt : Int)) (hq : pc + 3 = q) (kt : y ≤ x → CW d nc ns M D cy Post tgt lv (st) (ws) (cells) (slots)) (kf : ¬ y ≤ x → CW d nc ns M D cy Post q lv (st) (ws) (cells) (slots)) : CW d nc ns M D cy Post pc lv (.int y :: .int x :: st) (ws) (cells) (slots) := by
  subst hq
  intro p l e R s m args below meth c H locs ls A C hl hP hD hS
  exact lv_icmp_ge C.1 C.2.1 hd ht (fun h => kt h p l e R s m args below meth c H locs ls A C hl hP hD hS) (fun h => kf h p l e R s m args below meth c H locs ls A C hl hP hD hS)
theorem cw_ist {k : Fin 4} {x : Int32} {lv' : List (Nat × Value)} (hd : decode M.2.1 pc = .ok (.istore_n k, 1)) (hq : pc + 1 = q) (hn : k.val < M.2.2.1) (hl' : (k.val, Value.int x) :: lv.filter (fun q => !(q.1 == k.val) && !(q.1 + 1 == k.val && q.2.category == 2)) = lv') (kk : CW d nc ns M D cy Post q lv' (st) (ws) (cells) (slots)) : CW d nc ns M D cy Post pc lv (.int x :: st) (ws) (cells) (slots) := by
  subst hq
  intro p l e R s m args below meth c H locs ls A C hl hP hD hS
  refine lv_istore_n C.1 C.2.1 hd rfl hl hn hl' (fun lsB hlB => ?_)
  exact kk p l e R s m args below meth c H locs lsB A C hlB hP hD hS
theorem cw_iinc {k : Nat} {n : Int} {x v : Int32} {lv' : List (Nat × Value)} (j : Nat) (hj : lv[j]? = some (k, .int x)) (hd : decode M.2.1 pc = .ok (.iinc k n, 3)) (hq : pc + 3 = q) (hv : x + Int32.ofInt n = v) (hn : k < M.2.2.1) (hl' : (k, Value.int v) :: lv.filter (fun q => !(q.1 == k) && !(q.1 + 1 == k && q.2.category == 2)) = lv') (kk : CW d nc ns M D cy Post q lv' (st) (ws) (cells) (slots)) : CW d nc ns M D cy Post pc lv (st) (ws) (cells) (slots) := by
  subst hq
  intro p l e R s m args below meth c H locs ls A C hl hP hD hS
  refine lv_iinc C.1 C.2.1 hd hl hj hv hn hl' (fun lsB hlB => ?_)
  exact kk p l e R s m args below meth c H locs lsB A C hlB hP hD hS
theorem cw_obj {idx a : Nat} (h1 : Cond.methodLink M.1.cls idx Lib.objectInit ∈ ax_GW) (h2 : Cond.instanceMethod Lib.objectInit ∈ ax_GW) (h3 : Cond.code Lib.objectInit ⟨#[0xb1]⟩ 1 none ∈ ax_GW) (hd : decode M.2.1 pc = .ok (.invokespecial idx, 3)) (hq : pc + 3 = q) (hdd : 1 ≤ d) (kk : CW d nc ns M D cy Post q lv ([]) (ws) (cells) (slots)) : CW d nc ns M D cy Post pc lv ([.ref a]) (ws) (cells) (slots) := by
  subst hq
  intro p l e R s m args below meth c H locs ls A C hl hP hD hS
  have C0 := C
  obtain ⟨c1, c2, c3, c4, c5, c6, c7, c8, c9, c10, c11, c12, c13, c14⟩ := C0
  refine W.objInit c1 c2 c6 (c7 _ (List.mem_cons_of_mem _ h1)) (c7 _ (List.mem_cons_of_mem _ h2)) (c7 _ (List.mem_cons_of_mem _ h3)) rfl (by rw [c4]; exact hl.1) rfl hd (by omega) (by
    have := c13.2
    show 2 * 0 + 0 + 12 ≤ R.locals
    omega) ?_
  exact kk p l e R s m args below meth c H locs ls A C hl hP hD hS
theorem cw_newa {n : Int32} {N : Nat} (h1 : Cond.arrayClass .int ∈ ax_GW) (hd : decode M.2.1 pc = .ok (.newarray .int, 2)) (hq : pc + 2 = q) (hn : ¬ n < 0) (hN : n.toNatClampNeg = N) (hb : N * 4 ≤ 536870912) (hc1 : cells + 1 ≤ nc) (hc2 : slots + N ≤ ns) (kk : ∀ a : Nat, CW d nc ns M D cy Post q lv (.ref a :: st) (ws ++ [(a, .inl (cy 0, N, .inl (fun _ => 0)))]) (cells + 1) (slots + N)) : CW d nc ns M D cy Post pc lv (.int n :: st) (ws) (cells) (slots) := by
  subst hq
  intro p l e R s m args below meth c H locs ls A C hl hP hD hS
  have C0 := C
  obtain ⟨c1, c2, c3, c4, c5, c6, c7, c8, c9, c10, c11, c12, c13, c14, c15⟩ := C0
  refine va_newa (atype := .int) (a0 := (N, .inl (fun _ => 0))) (ty := .int) c1 c2 (c7 _ (List.mem_cons_of_mem _ h1)) rfl c8 hP hD hS c12 (fun cA => rfl) hn hN hb (by omega) (by omega) hd (fun a cA H1 hK1 hP1 hD1 hS1 => ?_)
  have e1 : s.vm.findClass ("[" ++ FieldType.int.toString) = some cA := (hK1.2 3 (cA, .int) rfl).2
  have e2 : s.vm.findClass ("[" ++ FieldType.int.toString) = some (cy 0) := (c8.2 0 (cy 0, .int) rfl).2
  have e3 : cA = cy 0 := Option.some.inj (e1.symm.trans e2)
  subst e3
  exact kk a p l e R s m args below meth c H1 locs ls A C hl hP1 hD1 hS1
theorem cw_iast {a n t : Nat} {f : Nat → Int32} {i x : Int32} (t0 : t = 0) (q0 : Nat) (ha : ws[q0]? = some (a, .inl (cy 0, n, .inl f))) (hin : vp_in i n) (hd : decode M.2.1 pc = .ok (.iastore, 1)) (hq : pc + 1 = q) (kk : CW d nc ns M D cy Post q lv (st) (ws.set q0 (a, .inl (cy 0, n, .inl (upd f i.toNatClampNeg x)))) (cells) (slots)) : CW d nc ns M D cy Post pc lv (.int x :: .int i :: .ref a :: st) (ws) (cells) (slots) := by
  subst hq
  intro p l e R s m args below meth c H locs ls A C hl hP hD hS
  refine va_iast C.1 C.2.1 C.2.2.2.2.2.2.2.1 hP hD hS q0 0 ha rfl hin hd (fun H1 locs1 hP1 hD1 hS1 => ?_)
  exact kk p l e R s m args below meth c H1 locs1 ls A C hl hP1 hD1 hS1
/-- a value that may be put into a field, final or not -/
def cw_PV (ci f : Nat) (b : Bool) (own : String) (v : Value) : Prop := ∀ r : vw_C, ax_cl[ci]? = some r → (r.2.1 f).2.2.2 = b ∧ (r.2.1 f).1 = own ∧ ∃ ty, parseFieldDescriptor (r.2.1 f).2.2.1 = some ty ∧ narrow ty v = v ∧ fits ty v = true
def cw_FL (own : String) (idx ci f : Nat) : Prop := ∀ r : vw_C, ax_cl[ci]? = some r → f < r.2.2 ∧ Cond.fieldLink own idx (r.2.1 f).1 (r.2.1 f).2.1 (r.2.1 f).2.2.1 ∈ ax_GW
theorem cw_put {idx a ci f : Nat} {b : Bool} {v : Value} {fs : List Value} (q0 : Nat) (he : ws[q0]? = some (a, .inr (ci, fs))) (hF : cw_FL M.1.cls idx ci f) (hx : cw_PV ci f b M.1.cls v) (hl0 : f < fs.length) (hd : decode M.2.1 pc = .ok (.putfield idx, 3)) (hq : pc + 3 = q) (kk : CW d nc ns M D cy Post q lv (st) (ws.set q0 (a, .inr (ci, fs.set f v))) (cells) (slots)) : CW d nc ns M D cy Post pc lv (v :: .ref a :: st) (ws) (cells) (slots) := by
  subst hq
  intro p l e R s m args below meth c H locs ls A C hl hP hD hS
  have C0 := C
  obtain ⟨c1, c2, c3, c4, c5, c6, c7, c8, c9, c10, c11, c12, c13, c14, c15⟩ := C0
  obtain ⟨⟨C1, T1, N1⟩, hr, -⟩ := hP q0 _ he
  obtain ⟨hfN, hlk⟩ := hF _ hr
  have hin := (ax_u ci _ hr).1
  obtain ⟨hfin, hown, ty, hty, hnar, hfit⟩ := hx _ hr
  obtain ⟨⟨ty0, hty0⟩, hnm⟩ := (ax_u ci _ hr).2
  have hk := fun H1 locs1 hP1 hD1 hS1 => kk p l e R s m args below meth c H1 locs1 ls A C hl hP1 hD1 hS1
  have h := c7 _ (List.mem_cons_of_mem _ hlk)
  cases b with
  | false => exact va_put (v := v) c1 c2 c7 (fun w hw => List.mem_cons_of_mem _ (hin w hw)) ty0 hty0 hnm c6 c8 hP hD hS q0 he hr f hfN h (fun _ z => z) hfin hty hnar hfit hl0 hd hk
  | true => exact va_putF (v := v) c1 c2 c7 (fun w hw => List.mem_cons_of_mem _ (hin w hw)) ty0 hty0 hnm c6 c8 hP hD hS q0 he hr f hfN h (fun _ z => z) hfin c11 hown hty hnar hfit hl0 hd hk
theorem cw_ret (hd : decode M.2.1 pc = .ok (.return_, 1)) (hc : cells = nc ∧ slots = ns) (hp : Post ws) : CW d nc ns M D cy Post pc lv ([]) (ws) (cells) (slots) := by
  intro p l e R s m args below meth c H locs ls A C hl hP hD hS
  obtain ⟨rfl, rfl⟩ := hc
  exact W.vret C.1 C.2.1 C.2.2.1 (fun t ht hW => ⟨⟨ws, rfl, hp, by rw [ht]; exact hP, hD⟩, hS.F ht⟩) hS.2.2 hd C.2.2.2.2.1
end CWrows
