/-! ===== constructors: new objects, calls ===== -/
def cx_St (D : va_G) (cy : Nat → ClassId) (U : State) : Prop := va_K D ax_cl (ax_ty cy) U ∧ (∀ w ∈ ax_NW, va_Nw w U) ∧ (va_AO RX2 U ∧ va_AO RX0 U)
theorem cx_St.warm {D : va_G} {cy : Nat → ClassId} {s U : State} (h : cx_St D cy s) (hW : s.WarmedH U.vm) : cx_St D cy U := ⟨va_K.moved hW.alike h.1, fun w hw => ax_nw_warm hw hW (h.2.1 w hw), va_AO.moved hW.alike h.2.2.1, va_AO.moved hW.alike h.2.2.2⟩
def cx_B (D : va_G) (cy : Nat → ClassId) (w0 : va_W) (sz : Nat) : State → Prop := fun U => U.heap.size = sz ∧ va_P D ax_cl w0 U.heap ∧ cx_St D cy U ∧ va_D (fun _ => True) w0
theorem cx_B.blind {D : va_G} {cy : Nat → ClassId} {w0 : va_W} {sz : Nat} {av : List Value} : FrameBlind (va_Pc av (cx_B D cy w0 sz)) := by
  intro a U g mk h
  obtain ⟨h1, h2, h3, ⟨h4, h5, h6, h7⟩, h8⟩ := h
  exact ⟨h1, h2, h3, ⟨va_K.moved (u := U) (U := U.calling g mk a) (Vm.Alike.refl U.vm) h4, fun w hw => va_Nw.same (ax_nw_onTables hw) (u := U) (U := U.calling g mk a) rfl (h5 w hw), va_AO.moved (u := U) (U := U.calling g mk a) (Vm.Alike.refl U.vm) h6, va_AO.moved (u := U) (U := U.calling g mk a) (Vm.Alike.refl U.vm) h7⟩, h8⟩
abbrev cx_rm (d nc ns : Nat) : Room := { frames := d, cells := nc, slots := ns, locals := 64 * d }
abbrev cx_Q (D : va_G) (Post : va_W → Prop) (w0 : va_W) (sz : Nat) : Array Value → State → Outcome → State → Prop := va_Qv Post (fun w t => va_P D ax_cl w t.heap ∧ va_D (va_A w0 sz) w) (va_A w0 sz)
theorem cw_met (l : Launch) {d nc ns : Nat} {M : ax_M} {D : va_G} {cy : Nat → ClassId} {Post : va_W → Prop} {a sz : Nat} {e0 : va_E} (hy : plainName M.1.cls = true) (hm : 1 ≤ M.2.2.1) (hr : M.2.2.2 = none) (hi : M.1.name = "<init>") (h : CW d nc ns M D cy Post 0 [(0, .ref a)] [] [(a, e0)] 0 0) : Met l M.1 (ax_ws M) (cx_rm d nc ns) (va_Pc [.ref a] (cx_B D cy [(a, e0)] sz)) (cx_Q D Post [(a, e0)] sz) nc ns (va_A [(a, e0)] sz) := by
  refine Met.ofW (cc := M.2.1) (maxL := M.2.2.1) (ret := M.2.2.2) hy rfl ?_
  intro p e s m args below meth c s₁ B hml hv
  obtain ⟨rfl, hsz, hP, hSt, hD0⟩ := hv
  have hts := atoms_spec (ws := ax_ws M) B.pre
  have hin : meth.name = "<init>" := (name_of_methodNamed B.named B.method).1.trans hi
  subst hsz
  have hl := lv_entry ([.ref a]) (n := M.2.2.1) hm
  rw [lg_entry_eq]
  generalize (lg_sl ([.ref a]) ++ List.replicate (M.2.2.1 - (lg_sl ([.ref a])).length) Slot.unset).toArray = ls at hl ⊢
  exact h p l e _ s m _ below meth c s.heap [] ls _ ⟨B.exec, B.bytes, B.returns.trans hr, hml, B.notSynchronized, findClass_of_methodNamed B.named, hts, hSt.1, hSt.2.1, hSt.2.2, hin, fun q h => Or.inr h, ⟨Nat.le_refl _, Nat.le_refl _⟩, Nat.le_refl _, Nat.le_refl _⟩ hl hP (hD0.self (sz := s.heap.size)) va_S.rf
section CWnew
variable {d nc ns : Nat} {M : ax_M} {D : va_G} {cy : Nat → ClassId} {Post : va_W → Prop} {pc q : Nat} {lv : List (Nat × Value)} {st : List Value} {ws : va_W} {cells slots : Nat}
theorem cw_new {C1 : String} {T : u_T} {N ci idx : Nat} {fs : List Value} (ty : Nat → FieldType) (hty : ∀ k, k < N → parseFieldDescriptor (T k).2.2.1 = some (ty k)) (hc : ax_cl[ci]? = some (C1, T, N)) (h1 : Cond.classLink M.1.cls idx C1 ∈ ax_GW) (h2 : Cond.instantiable C1 N ∈ ax_GW) (h3 : Cond.initialized C1 ∈ ax_GW) (hfs : ∀ j, j < N → defaultValue (ty j) = vp_V fs j) (hd : decode M.2.1 pc = .ok (.new idx, 3)) (hq : pc + 3 = q) (hc1 : cells + 1 ≤ nc) (hc2 : slots + N ≤ ns) (kk : ∀ a : Nat, CW d nc ns M D cy Post q lv (.ref a :: st) (ws ++ [(a, .inr (ci, fs))]) (cells + 1) (slots + N)) : CW d nc ns M D cy Post pc lv (st) (ws) (cells) (slots) := by
  subst hq
  intro p l e R s m args below meth c H locs ls A C hl hP hD hS
  have C0 := C
  obtain ⟨c1, c2, c3, c4, c5, c6, c7, c8, c9, c10, c11, c12, c13, c14, c15⟩ := C0
  refine va_new (fs := fs) (C := C1) (T := T) (N := N) c1 c2 c7 (fun w hw => List.mem_cons_of_mem _ ((ax_u ci _ hc).1 w hw)) ty hty c6 (c7 _ (List.mem_cons_of_mem _ h1)) (c7 _ (List.mem_cons_of_mem _ h2)) (c7 _ (List.mem_cons_of_mem _ h3)) c8 hP hD hS c12 hc hfs (by omega) (by omega) hd (fun a H1 hP1 hD1 hS1 => ?_)
  exact kk a p l e R s m args below meth c H1 locs ls A C hl hP1 hD1 hS1
theorem cw_newq {C1 : String} {idx t N : Nat} {n : Int32} (ht : t = 1 ∧ C1 = RX2 ∨ t = 2 ∧ C1 = RX0) (h1 : Cond.classLink M.1.cls idx C1 ∈ ax_GW) (hd : decode M.2.1 pc = .ok (.anewarray idx, 3)) (hq : pc + 3 = q) (hn : ¬ n < 0) (hN : n.toNatClampNeg = N) (hb : N * 4 ≤ 536870912) (hc1 : cells + 1 ≤ nc) (hc2 : slots + N ≤ ns) (kk : ∀ a : Nat, CW d nc ns M D cy Post q lv (.ref a :: st) (ws ++ [(a, .inl (cy t, N, .inr (.inr (.inr (.inr (fun _ => none))))))]) (cells + 1) (slots + N)) : CW d nc ns M D cy Post pc lv (.int n :: st) (ws) (cells) (slots) := by
  subst hq
  intro p l e R s m args below meth c H locs ls A C hl hP hD hS
  have C0 := C
  obtain ⟨c1, c2, c3, c4, c5, c6, c7, c8, c9, c10, c11, c12, c13, c14, c15⟩ := C0
  have hao : va_AO C1 s := by
    rcases ht with ⟨-, rfl⟩ | ⟨-, rfl⟩
    · exact c10.1
    · exact c10.2
  refine va_newq c1 c2 c6 (c7 _ (List.mem_cons_of_mem _ h1)) hao c8 hP hD hS c12 hn hN hb (by omega) (by omega) hd (fun a cA H1 hK1 hP1 hD1 hS1 => ?_)
  have e1 : s.vm.findClass ("[" ++ (FieldType.object C1).toString) = some cA := by
    obtain ⟨_, _, _, _, _, h⟩ := (hK1.2 3 (cA, .object C1) rfl).2
    exact h
  have e2 : s.vm.findClass ("[" ++ (FieldType.object C1).toString) = some (cy t) := by
    rcases ht with ⟨rfl, rfl⟩ | ⟨rfl, rfl⟩
    · obtain ⟨_, _, _, _, _, h⟩ := (c8.2 1 (cy 1, .object RX2) rfl).2
      exact h
    · obtain ⟨_, _, _, _, _, h⟩ := (c8.2 2 (cy 2, .object RX0) rfl).2
      exact h
  have e3 : cA = cy t := Option.some.inj (e1.symm.trans e2)
  subst e3
  exact kk a p l e R s m args below meth c H1 locs ls A C hl hP1 hD1 hS1
theorem cw_astq {a n v ci t : Nat} {r : vw_C} {vs : List Value} {f : Nat → Option Nat} {i : Int32} (q0 qk t0 : Nat) (ha : ws[q0]? = some (a, .inl (cy t, n, .inr (.inr (.inr (.inr f)))))) (ht : (ax_ty cy)[t0]? = some (cy t, .object r.1)) (hv : ws[qk]? = some (v, .inr (ci, vs))) (hc : ax_cl[ci]? = some r) (hin : vp_in i n) (hd : decode M.2.1 pc = .ok (.aastore, 1)) (hq : pc + 1 = q) (kk : CW d nc ns M D cy Post q lv (st) (ws.set q0 (a, .inl (cy t, n, .inr (.inr (.inr (.inr (va_up f i.toNatClampNeg (some v)))))))) (cells) (slots)) : CW d nc ns M D cy Post pc lv (.ref v :: .int i :: .ref a :: st) (ws) (cells) (slots) := by
  subst hq
  intro p l e R s m args below meth c H locs ls A C hl hP hD hS
  refine va_astq C.1 C.2.1 C.2.2.2.2.2.2.2.1 hP hD hS q0 t0 qk ci ha ht hv hc hin hd (fun H1 locs1 hP1 hD1 hS1 => ?_)
  exact kk p l e R s m args below meth c H1 locs1 ls A C hl hP1 hD1 hS1
theorem cw_call {M' : ax_M} {d' nc' ns' idx b : Nat} {host : String} {e0 : va_E} {Post' : va_W → Prop} {wr : va_W} (isC isR : List Nat) (hC : isC.map (fun i => ws[i]?) = [(b, e0)].map some) (hR : isR.map (fun i => ws[i]?) = wr.map some) (hn : va_nd isR = true) (hdis : ∀ i ∈ isR, i ∉ isC) (hL : Cond.methodLinkNest M.1.cls idx M'.1 host ∈ ax_NW) (hG : ax_cw M' ∈ ax_GW) (h2 : Cond.initialized M'.1.cls ∈ ax_GW) (h3 : Cond.instanceMethod M'.1 ∈ ax_GW) (hnm : M'.1.name = "<init>") (hr' : M'.2.2.2 = none) (hm' : 1 ≤ M'.2.2.1 ∧ M'.2.2.1 ≤ 2) (hy : plainName M'.1.cls = true) (h4 : M'.1.cls ≠ "java/lang/invoke/MethodHandle" ∧ M'.1.cls ≠ "java/lang/invoke/VarHandle" ∧ (parseMethodDescriptor M'.1.desc).map (fun d => d.parameters.length) = some 0) (hdd : d' + 1 ≤ d) (hst : (st.map fun v => v.category).sum ≤ 8) (hd : decode M.2.1 pc = .ok (.invokespecial idx, 3)) (hq : pc + 3 = q) (hc1 : cells + nc' ≤ nc) (hc2 : slots + ns' ≤ ns) (hb : CW d' nc' ns' M' D cy Post' 0 [(0, .ref b)] [] [(b, e0)] 0 0) (kk : ∀ w1, Post' w1 → CW d nc ns M D cy Post q lv (st) (wr ++ w1) (cells + nc') (slots + ns')) : CW d nc ns M D cy Post pc lv (.ref b :: st) (ws) (cells) (slots) := by
  subst hq
  intro p l e R s m args below meth c H locs ls A C hl hP hD hS
  have C0 := C
  obtain ⟨c1, c2, c3, c4, c5, c6, c7, c8, c9, c10, c11, c12, c13, c14, c15⟩ := C0
  have hM := cw_met l (sz := H.size) hy hm'.1 hr' hnm hb
  have hPc := hP.sub (ws' := [(b, e0)]) isC (by
    have : ∀ (L : List Nat) (w0 : va_W), L.map (fun i => ws[i]?) = w0.map some → L.filterMap (fun i => ws[i]?) = w0 := by
      intro L
      induction L with
      | nil => intro w0 h; cases w0 with | nil => rfl | cons x w0 => cases h
      | cons i L ih =>
        intro w0 h
        cases w0 with
        | nil => cases h
        | cons x w0 =>
          rw [List.map_cons, List.map_cons] at h
          obtain ⟨e1, e2⟩ := List.cons.inj h
          rw [List.filterMap_cons_some e1, ih w0 e2]
    exact this isC _ hC)
  have hFc := va_free (wc := [(b, e0)]) hD hS c12 isC hC
  have hDc : va_D (fun _ => True) [(b, e0)] := ⟨fun i j p q h1 h2 _ => by
    have := (List.getElem?_eq_some_iff.mp h1).1
    have := (List.getElem?_eq_some_iff.mp h2).1
    simp only [List.length_singleton] at *
    omega, fun _ _ _ => trivial⟩
  have hRm : (cx_rm d' nc' ns').frames + 1 ≤ R.frames ∧ 8 + (M'.2.2.1 + 11) + (cx_rm d' nc' ns').locals ≤ R.locals := ⟨by show d' + 1 ≤ R.frames; omega, by show 8 + (M'.2.2.1 + 11) + 64 * d' ≤ R.locals; omega⟩
  have hcn := va_cnB (mc := nc') (ms := ns') (rm := cx_rm d' nc' ns') (bytes := M'.2.1) (maxL := M'.2.2.1) (ret := none) 0 c7 (ax_good (M := M) hG) (by show ax_ws M' = _; unfold ax_ws; rw [hr']) rfl rfl (c9 _ hL) (c7 _ (List.mem_cons_of_mem _ h2)) h4 hRm
  refine va_callv (va_runIN (As := []) (rest := st) ⟨c1, c2, c4, c6, c7⟩ hM ⟨hcn, hnm, c7 _ (List.mem_cons_of_mem _ h3)⟩ ⟨cx_B.blind, fun U hU hW => ⟨rfl, by rw [hU], by rw [hU]; exact hPc, cx_St.warm ⟨c8, c9, c10⟩ hW, hDc⟩⟩ rfl rfl hl.1 rfl (lv_room hst) hd ⟨by omega, by omega⟩) hS (fun q _ h => hFc q h) hFc (fun w1 t H1 locs1 ht hvm hp hB hz1 hk1 hS1 => ?_)
  obtain ⟨hP1, hD1⟩ := hB
  rw [ht] at hP1
  obtain ⟨hP2, hD2⟩ := va_join (wr := wr) (w1 := w1) hP hD isC isR hC hR hn hdis hk1 hFc hP1 hD1
  exact kk w1 hp p l e R s m args below meth c H1 locs1 ls A C hl hP2 hD2 hS1
end CWnew
