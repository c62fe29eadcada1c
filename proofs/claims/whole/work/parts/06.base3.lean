/-! ===== rows of AW over the heap, and calls ===== -/
def ax_FL (own : String) (idx ci f : Nat) : Prop := ∀ r : vw_C, ax_cl[ci]? = some r → f < r.2.2 ∧ (Cond.fieldLink own idx (r.2.1 f).1 (r.2.1 f).2.1 (r.2.1 f).2.2.1 ∈ ax_GW ∨ ∃ host, Cond.fieldLinkNest own idx (r.2.1 f).1 (r.2.1 f).2.1 (r.2.1 f).2.2.1 host ∈ ax_NW)
def ax_PF (ci f : Nat) (v : Int32) : Prop := ∀ r : vw_C, ax_cl[ci]? = some r → (r.2.1 f).2.2.2 = false ∧ ∃ ty, parseFieldDescriptor (r.2.1 f).2.2.1 = some ty ∧ narrow ty (.int v) = .int v ∧ fits ty (.int v) = true
theorem ax_u : ∀ (ci : Nat) (r : vw_C), ax_cl[ci]? = some r → (∀ w ∈ u_ws r.1 r.2.1 r.2.2, w ∈ ax_GW) ∧ (∃ ty0 : Nat → FieldType, ∀ k, k < r.2.2 → parseFieldDescriptor (r.2.1 k).2.2.1 = some (ty0 k)) ∧ ∀ a, a < r.2.2 → ∀ b, b < r.2.2 → a ≠ b → (r.2.1 a).2.1 ≠ (r.2.1 b).2.1
  | 0, r, h => by cases h; exact ⟨by decide +kernel, ⟨tyX0, tyX0_ok⟩, nmX0⟩
  | 1, r, h => by cases h; exact ⟨by decide +kernel, ⟨tyX1, tyX1_ok⟩, nmX1⟩
  | 2, r, h => by cases h; exact ⟨by decide +kernel, ⟨tyX2, tyX2_ok⟩, nmX2⟩
  | 3, r, h => by cases h; exact ⟨by decide +kernel, ⟨tyX3, tyX3_ok⟩, nmX3⟩
  | 4, r, h => by cases h; exact ⟨by decide +kernel, ⟨tyX4, tyX4_ok⟩, nmX4⟩
  | n + 5, r, h => by simp [ax_cl] at h
section AWheap
variable {d : Nat} {M : ax_M} {pc q : Nat} {ls : List (Option AV)} {st : List AV} {σ : SS} {K : ax_K}
theorem aw_getI {idx ci k i f : Nat} {fs : List (Option Nat)} (hd : decode M.2.1 pc = .ok (.getfield idx, 3)) (hq : pc + 3 = q) (hsh : ax_sh k = .inl (ci, fs)) (hf : fs[f]? = some none) (hF : ax_FL M.1.cls idx ci f) (kk : AW d M q ls (.inl (σ k i f) :: st) σ K) : AW d M pc ls (.inr (k, i) :: st) σ K := by
  subst hq
  intro p l e R s m args below meth c D cy ad H locs lsA C hl hs hP hS
  have hs2 := List.forall_mem_cons.mp hs
  obtain ⟨n, hn, hw⟩ := ax_w_get (cy := cy) (ad := ad) (σ := σ) (show i < ax_cnt k from hs2.1)
  have he : ax_ce cy ad (σ k i) k i = .inr (ci, ax_fs ad (σ k i) i 0 fs) := by unfold ax_ce; rw [hsh]
  rw [he] at hw
  obtain ⟨⟨C1, T1, N1⟩, hr, -⟩ := hP n _ hw
  obtain ⟨hfN, hlk⟩ := hF _ hr
  have hin := (ax_u ci _ hr).1
  have hv : (ax_fs ad (σ k i) i 0 fs)[f]? = some (.int (σ k i f)) := by rw [ax_fs_get, hf]; simp [ax_f1]
  have hk := kk p l e R s m args below meth c D cy ad H locs lsA C hl (List.forall_mem_cons.mpr ⟨trivial, hs2.2⟩) hP hS
  obtain ⟨c1, c2, c3, c4, c5, c6, c7, c8, c9⟩ := C
  rcases hlk with h | ⟨host, h⟩
  · exact va_get c1 c2 c7 (fun w hw => List.mem_cons_of_mem _ (hin w hw)) c6 c8.1 hP n hw hr f hfN (c7 _ (List.mem_cons_of_mem _ h)) (fun _ z => z) hv hd hk
  · exact va_getN c1 c2 c7 (fun w hw => List.mem_cons_of_mem _ (hin w hw)) c6 c8.1 hP n hw hr f hfN (va_Nw.use (ax_nw_onTables h) (c8.2.1 _ h)) (fun _ z => z) hv hd hk
theorem aw_getR {idx ci k k' i f : Nat} {fs : List (Option Nat)} (hd : decode M.2.1 pc = .ok (.getfield idx, 3)) (hq : pc + 3 = q) (hsh : ax_sh k = .inl (ci, fs)) (hf : fs[f]? = some (some k')) (hcc : ax_cnt k ≤ ax_cnt k') (hF : ax_FL M.1.cls idx ci f) (kk : AW d M q ls (.inr (k', i) :: st) σ K) : AW d M pc ls (.inr (k, i) :: st) σ K := by
  subst hq
  intro p l e R s m args below meth c D cy ad H locs lsA C hl hs hP hS
  have hs2 := List.forall_mem_cons.mp hs
  obtain ⟨n, hn, hw⟩ := ax_w_get (cy := cy) (ad := ad) (σ := σ) (show i < ax_cnt k from hs2.1)
  have he : ax_ce cy ad (σ k i) k i = .inr (ci, ax_fs ad (σ k i) i 0 fs) := by unfold ax_ce; rw [hsh]
  rw [he] at hw
  obtain ⟨⟨C1, T1, N1⟩, hr, -⟩ := hP n _ hw
  obtain ⟨hfN, hlk⟩ := hF _ hr
  have hin := (ax_u ci _ hr).1
  have hv : (ax_fs ad (σ k i) i 0 fs)[f]? = some (.ref (ad k' i)) := by rw [ax_fs_get, hf]; simp [ax_f1]
  have hk := kk p l e R s m args below meth c D cy ad H locs lsA C hl (List.forall_mem_cons.mpr ⟨Nat.lt_of_lt_of_le hs2.1 hcc, hs2.2⟩) hP hS
  obtain ⟨c1, c2, c3, c4, c5, c6, c7, c8, c9⟩ := C
  rcases hlk with h | ⟨host, h⟩
  · exact va_get c1 c2 c7 (fun w hw => List.mem_cons_of_mem _ (hin w hw)) c6 c8.1 hP n hw hr f hfN (c7 _ (List.mem_cons_of_mem _ h)) (fun _ z => z) hv hd hk
  · exact va_getN c1 c2 c7 (fun w hw => List.mem_cons_of_mem _ (hin w hw)) c6 c8.1 hP n hw hr f hfN (va_Nw.use (ax_nw_onTables h) (c8.2.1 _ h)) (fun _ z => z) hv hd hk
theorem aw_putI {idx ci k i f : Nat} {x : Int32} {fs : List (Option Nat)} (hd : decode M.2.1 pc = .ok (.putfield idx, 3)) (hq : pc + 3 = q) (hsh : ax_sh k = .inl (ci, fs)) (hf : fs[f]? = some none) (hF : ax_FL M.1.cls idx ci f) (hx : ax_PF ci f x) (kk : AW d M q ls st (rp σ k i (upd (σ k i) f x)) K) : AW d M pc ls (.inl x :: .inr (k, i) :: st) σ K := by
  subst hq
  intro p l e R s m args below meth c D cy ad H locs lsA C hl hs hP hS
  have hs2 := List.forall_mem_cons.mp (List.forall_mem_cons.mp hs).2
  obtain ⟨n, hn, hw⟩ := ax_w_get (cy := cy) (ad := ad) (σ := σ) (show i < ax_cnt k from hs2.1)
  have he : ax_ce cy ad (σ k i) k i = .inr (ci, ax_fs ad (σ k i) i 0 fs) := by unfold ax_ce; rw [hsh]
  rw [he] at hw
  obtain ⟨⟨C1, T1, N1⟩, hr, -⟩ := hP n _ hw
  obtain ⟨hfN, hlk⟩ := hF _ hr
  have hin := (ax_u ci _ hr).1
  obtain ⟨hfin, ty, hty, hnar, hfit⟩ := hx _ hr
  obtain ⟨⟨ty0, hty0⟩, hnm⟩ := (ax_u ci _ hr).2
  have hlen : f < (ax_fs ad (σ k i) i 0 fs).length := by rw [ax_fs_len]; exact (List.getElem?_eq_some_iff.mp hf).1
  have hset : (ax_w cy ad σ).set n (ad k i, .inr (ci, (ax_fs ad (σ k i) i 0 fs).set f (.int x))) = ax_w cy ad (rp σ k i (upd (σ k i) f x)) := by
    rw [← ax_w_set (cy := cy) (ad := ad) (upd (σ k i) f x) hn, ax_fs_set hf]
    unfold ax_ce
    rw [hsh]
  have hD := ax_D (cy := cy) (σ := σ) C.2.2.2.2.2.2.2.1.2.2
  have hk := fun H1 locs1 hP1 hS1 => kk p l e R s m args below meth c D cy ad H1 locs1 lsA C hl hs2.2 hP1 hS1
  obtain ⟨c1, c2, c3, c4, c5, c6, c7, c8, c9⟩ := C
  rcases hlk with h | ⟨host, h⟩
  · refine va_put (v := .int x) c1 c2 c7 (fun w hw => List.mem_cons_of_mem _ (hin w hw)) ty0 hty0 hnm c6 c8.1 hP hD hS n hw hr f hfN (c7 _ (List.mem_cons_of_mem _ h)) (fun _ z => z) hfin hty hnar hfit hlen hd (fun H1 locs1 hP1 hD1 hS1 => ?_)
    rw [hset] at hP1
    exact hk H1 locs1 hP1 hS1
  · refine va_putN (v := .int x) c1 c2 c7 (fun w hw => List.mem_cons_of_mem _ (hin w hw)) ty0 hty0 hnm c6 c8.1 hP hD hS n hw hr f hfN (va_Nw.use (ax_nw_onTables h) (c8.2.1 _ h)) (fun _ z => z) hfin hty hnar hfit hlen hd (fun H1 locs1 hP1 hD1 hS1 => ?_)
    rw [hset] at hP1
    exact hk H1 locs1 hP1 hS1
theorem aw_iald {k i n0 : Nat} {j : Int32} (hd : decode M.2.1 pc = .ok (.iaload, 1)) (hq : pc + 1 = q) (hsh : ax_sh k = .inr (.inl n0)) (hin : vp_in j n0) (kk : AW d M q ls (.inl (σ k i j.toNatClampNeg) :: st) σ K) : AW d M pc ls (.inl j :: .inr (k, i) :: st) σ K := by
  subst hq
  intro p l e R s m args below meth c D cy ad H locs lsA C hl hs hP hS
  have hs2 := List.forall_mem_cons.mp (List.forall_mem_cons.mp hs).2
  obtain ⟨n, hn, hw⟩ := ax_w_get (cy := cy) (ad := ad) (σ := σ) (show i < ax_cnt k from hs2.1)
  have he : ax_ce cy ad (σ k i) k i = .inl (cy 0, n0, .inl (σ k i)) := by unfold ax_ce; rw [hsh]
  rw [he] at hw
  exact va_iald C.1 C.2.1 C.2.2.2.2.2.2.2.1.1 hP n 0 hw rfl hin hd (kk p l e R s m args below meth c D cy ad H locs lsA C hl (List.forall_mem_cons.mpr ⟨trivial, hs2.2⟩) hP hS)
theorem aw_iast {k i n0 : Nat} {j x : Int32} (hd : decode M.2.1 pc = .ok (.iastore, 1)) (hq : pc + 1 = q) (hsh : ax_sh k = .inr (.inl n0)) (hin : vp_in j n0) (kk : AW d M q ls st (rp σ k i (upd (σ k i) j.toNatClampNeg x)) K) : AW d M pc ls (.inl x :: .inl j :: .inr (k, i) :: st) σ K := by
  subst hq
  intro p l e R s m args below meth c D cy ad H locs lsA C hl hs hP hS
  have hs2 := List.forall_mem_cons.mp (List.forall_mem_cons.mp (List.forall_mem_cons.mp hs).2).2
  obtain ⟨n, hn, hw⟩ := ax_w_get (cy := cy) (ad := ad) (σ := σ) (show i < ax_cnt k from hs2.1)
  have he : ∀ r, ax_ce cy ad r k i = .inl (cy 0, n0, .inl r) := by intro r; unfold ax_ce; rw [hsh]
  rw [he] at hw
  have hD := ax_D (cy := cy) (σ := σ) C.2.2.2.2.2.2.2.1.2.2
  refine va_iast C.1 C.2.1 C.2.2.2.2.2.2.2.1.1 hP hD hS n 0 hw rfl hin hd (fun H1 locs1 hP1 hD1 hS1 => ?_)
  rw [← he, ax_w_set _ hn] at hP1
  exact kk p l e R s m args below meth c D cy ad H1 locs1 lsA C hl hs2.2 hP1 hS1
theorem aw_aald {k k' i t : Nat} {j : Int32} (hd : decode M.2.1 pc = .ok (.aaload, 1)) (hq : pc + 1 = q) (hsh : ax_sh k = .inr (.inr (k', t))) (ht : t = 1 ∨ t = 2) (hin : vp_in j (ax_cnt k')) (kk : AW d M q ls (.inr (k', j.toNatClampNeg) :: st) σ K) : AW d M pc ls (.inl j :: .inr (k, i) :: st) σ K := by
  subst hq
  intro p l e R s m args below meth c D cy ad H locs lsA C hl hs hP hS
  have hs2 := List.forall_mem_cons.mp (List.forall_mem_cons.mp hs).2
  obtain ⟨n, hn, hw⟩ := ax_w_get (cy := cy) (ad := ad) (σ := σ) (show i < ax_cnt k from hs2.1)
  have he : ax_ce cy ad (σ k i) k i = .inl (cy t, ax_cnt k', .inr (.inr (.inr (.inr (fun j => some (ad k' j)))))) := by unfold ax_ce; rw [hsh]
  rw [he] at hw
  have hlt : j.toNatClampNeg < ax_cnt k' := Nat.not_le.mp fun q => hin (Or.inr q)
  have hk := kk p l e R s m args below meth c D cy ad H locs lsA C hl (List.forall_mem_cons.mpr ⟨hlt, hs2.2⟩) hP hS
  rcases ht with rfl | rfl
  · exact va_aldq (C := RX2) C.1 C.2.1 C.2.2.2.2.2.2.2.1.1 hP n 1 hw rfl hin hd hk
  · exact va_aldq (C := RX0) C.1 C.2.1 C.2.2.2.2.2.2.2.1.1 hP n 2 hw rfl hin hd hk
end AWheap
-- calls
theorem ax_lg (ad : AD) : ∀ (avs : List AV), (lg_sl (avs.map (ax_va ad))).length = avs.length
  | [] => rfl
  | v :: avs => by
    have h := ax_lg ad avs
    have hc := ax_va_cat ad v
    simp only [lg_sl, List.map_cons, List.flatMap_cons, hc, List.length_append, List.length_cons] at h ⊢
    simp at h ⊢
    omega
theorem ax_lvargs (ad : AD) : ∀ (avs : List AV) (j : Nat), lv_args j (avs.map (ax_va ad)) = ax_lv ad j (avs.map some)
  | [], _ => rfl
  | v :: avs, j => by
    have hc := ax_va_cat ad v
    simp only [List.map_cons, lv_args, ax_lv, hc]
    rw [if_neg (by decide), ax_lvargs ad avs (j + 1)]
def ax_en (M : ax_M) (avs : List AV) : List (Option AV) := avs.map some ++ List.replicate (M.2.2.1 - avs.length) none
def ax_rm (d : Nat) : Room := { frames := d, cells := 0, slots := 0, locals := 64 * d }
def ax_B (D : va_G) (cy : Nat → ClassId) (ad : AD) (σ : SS) : State → Prop := fun U => va_P D ax_cl (ax_w cy ad σ) U.heap ∧ ax_St D cy ad U
theorem ax_met (l : Launch) (D : va_G) (cy : Nat → ClassId) (ad : AD) {d : Nat} {M : ax_M} {avs : List AV} {σ : SS} {K : ax_K} (hy : plainName M.1.cls = true) (hn : avs.length ≤ M.2.2.1) (hok : ∀ v ∈ avs, ax_ok v) (h : AW d M 0 (ax_en M avs) [] σ K) : Met l M.1 (ax_ws M) (ax_rm d) (va_Pc (avs.map (ax_va ad)) (ax_B D cy ad σ)) (ax_Q D cy ad K) 0 0 (ax_A ad) := by
  refine Met.ofW (cc := M.2.1) (maxL := M.2.2.1) (ret := M.2.2.2) hy rfl ?_
  intro p e s m args below meth c s₁ B hml hv
  obtain ⟨rfl, hP, hSt⟩ := hv
  have hts := atoms_spec (ws := ax_ws M) B.pre
  have hl := lv_entry (avs.map (ax_va ad)) (n := M.2.2.1) (by rw [ax_lg]; exact hn)
  rw [lg_entry_eq]
  generalize (lg_sl (avs.map (ax_va ad)) ++ List.replicate (M.2.2.1 - (lg_sl (avs.map (ax_va ad))).length) Slot.unset).toArray = lsA at hl ⊢
  rw [ax_lvargs] at hl
  refine h p l e _ s m _ below meth c D cy ad s.heap [] lsA ⟨B.exec, B.bytes, B.returns, hml, B.notSynchronized, findClass_of_methodNamed B.named, hts, hSt, Nat.le_refl _, Nat.le_refl _⟩ ⟨⟨hl.1, hl.2.1, fun q hq => hl.2.2 q ?_⟩, fun v hv => ?_⟩ (fun _ h => by cases h) hP va_S.rf
  · obtain ⟨n, v, hn2, rfl⟩ := (ax_lv_mem _ 0).mp hq
    refine (ax_lv_mem _ 0).mpr ⟨n, v, ?_, rfl⟩
    unfold ax_en at hn2
    by_cases hlt : n < (avs.map some).length
    · rwa [List.getElem?_append_left hlt] at hn2
    · rw [List.getElem?_append_right (by omega)] at hn2
      have := List.eq_of_mem_replicate (List.mem_of_getElem? hn2)
      cases this
  · unfold ax_en at hv
    rcases List.mem_append.mp hv with h1 | h1
    · obtain ⟨w, hw, e⟩ := List.mem_map.mp h1
      cases e
      exact hok _ hw
    · have := List.eq_of_mem_replicate h1
      cases this
theorem ax_B.blind {D : va_G} {cy : Nat → ClassId} {ad : AD} {σ : SS} {av : List Value} : FrameBlind (va_Pc av (ax_B D cy ad σ)) := by
  intro a U g mk h
  obtain ⟨h1, h2, h3, h4, h5⟩ := h
  exact ⟨h1, h2, va_K.moved (u := U) (U := U.calling g mk a) (Vm.Alike.refl U.vm) h3, fun w hw => va_Nw.same (ax_nw_onTables hw) (u := U) (U := U.calling g mk a) rfl (h4 w hw), h5⟩
section AWcall
variable {p : Program} {l : Launch} {e : Env} {R : Room} {s : State} {m : MethodId} {args : Array Value} {below : List Frame} {meth : Method} {c : Code} {H : Heap} {locs : List Loc} {Q : State → Prop} {D : va_G} {cy : Nat → ClassId} {ad : AD} {A0 : Nat → Prop} {H0 : Heap} {cells slots : Nat}
theorem ax_call {pc : Nat} {lsA : Array Slot} {st0 rest : List Value} {K' : ax_K} {a : Array Value} (hr : va_Run p l e R s m args below meth c H locs cells slots 0 0 (F0 m pc lsA st0) rest (ax_Q D cy ad K' a) (ax_A ad)) (hA : ∀ q, ax_A ad q → A0 q) (hS : va_S A0 H0 H locs)
    (kk : ∀ (r : Option Int32) (σ' : SS) (H1 : Heap) (locs1 : List Loc), K' r σ' → va_P D ax_cl (ax_w cy ad σ') H1 → va_S A0 H0 H1 locs1 → W p l e R s m args below meth c H1 locs1 cells slots Q (F0 m (pc + 3) lsA ((r.map Value.int).toList ++ rest))) : W p l e R s m args below meth c H locs cells slots Q (F0 m pc lsA st0) := by
  intro T hT X
  obtain ⟨v, st₀, t, T', L, h0, X', hL, e1, e2, ⟨⟨r, σ', hv, hk, hp⟩, hz, hkk⟩, stp⟩ := hr T hT X
  cases hv
  rw [h0] at hz hkk
  obtain ⟨t2, a1, b1⟩ := kk r σ' T'.heap (locs ++ L) hk (by rw [e1]; exact hp)
    ⟨Nat.le_trans hS.1 (by rw [e1]; exact hz), fun q h1 h2 => by rw [e1, hkk q (Nat.lt_of_lt_of_le h1 hS.1) (fun z => h2 (hA q z))]; exact hS.2.1 q h1 h2, fun q hq => by
      rcases List.mem_append.mp hq with h | h
      · exact hS.2.2 q h
      · exact hA _ (hL q h)⟩ T' rfl X'
  exact ⟨t2, stp t2 a1, b1⟩
end AWcall
/-- a link to a method, from its own class or from a nest mate -/
def ax_LK (own : String) (idx : Nat) (y : MethodName) : Prop := Cond.methodLink own idx y ∈ ax_GW ∨ ∃ host, Cond.methodLinkNest own idx y host ∈ ax_NW
/-- a method that may be called, of n arguments -/
def ax_GM (M : ax_M) (n : Nat) : Prop := ax_cw M ∈ ax_GW ∧ Cond.initialized M.1.cls ∈ ax_GW ∧ plainName M.1.cls = true ∧ (M.1.cls ≠ "java/lang/invoke/MethodHandle" ∧ M.1.cls ≠ "java/lang/invoke/VarHandle" ∧ (parseMethodDescriptor M.1.desc).map (fun d => d.parameters.length) = some n) ∧ M.2.2.1 ≤ 44
def ax_GV (M : ax_M) (n : Nat) : Prop := ax_GM M n ∧ Cond.instanceMethod M.1 ∈ ax_GW ∧ Cond.selects M.1.cls M.1 M.1 ∈ ax_GW ∧ n + 1 ≤ M.2.2.1
def ax_GS (M : ax_M) (n : Nat) : Prop := ax_GM M n ∧ Cond.static M.1 ∈ ax_GW ∧ n ≤ M.2.2.1
def ax_k (r : Option Int32) (f : List AV → Prop) (st : List AV) : Prop := match r with
  | some v => f (.inl v :: st)
  | none => f st
theorem ax_sum (ad : AD) : ∀ (st : List AV), ((st.map (ax_va ad)).map fun v => v.category).sum = st.length
  | [] => rfl
  | v :: st => by
    have hc := ax_va_cat ad v
    have h := ax_sum ad st
    simp only [List.map_cons, List.sum_cons, hc, List.length_cons]
    omega
section AWcalls
variable {d : Nat} {M M' : ax_M} {pc q : Nat} {ls : List (Option AV)} {st : List AV} {σ : SS} {K : ax_K}
theorem aw_callV {idx k i ci n : Nat} {T : u_T} {N : Nat} {fs : List (Option Nat)} (as st0 : List AV) (hd : decode M.2.1 pc = .ok (.invokevirtual idx, 3)) (hq : pc + 3 = q) (hL : ax_LK M.1.cls idx M'.1) (hG : ax_GV M' n) (hn : as.length = n) (hsh : ax_sh k = .inl (ci, fs)) (hcl : ax_cl[ci]? = some (M'.1.cls, T, N)) (hst : st0 = as.reverse ++ .inr (k, i) :: st) (h8 : st.length ≤ 8)
    (hb : AW d M' 0 (ax_en M' (.inr (k, i) :: as)) [] σ (fun r σ' => ax_k r (fun st' => AW (d + 1) M q ls st' σ' K) st)) : AW (d + 1) M pc ls st0 σ K := by
  subst hq; subst hst; subst hn
  intro p l e R s m args below meth c D cy ad H locs lsA C hl hs hP hS
  have hsa : ∀ v ∈ as, ax_ok v := fun v hv => hs v (List.mem_append_left _ (List.mem_reverse.mpr hv))
  have hsr := List.forall_mem_cons.mp (fun v hv => hs v (List.mem_append_right _ hv))
  have hmap : (as.reverse ++ Sum.inr (k, i) :: st).map (ax_va ad) = (as.map (ax_va ad)).reverse ++ Value.ref (ad k i) :: st.map (ax_va ad) := by simp [ax_va]
  rw [hmap]
  obtain ⟨⟨g1, g2, g3, g4, g5⟩, g6, g7, g8⟩ := hG
  have hM := ax_met l D cy ad g3 (by simpa using g8) (List.forall_mem_cons.mpr ⟨hsr.1, hsa⟩) hb
  obtain ⟨x, hx, hw⟩ := ax_w_get (cy := cy) (ad := ad) (σ := σ) (show i < ax_cnt k from hsr.1)
  have he : ax_ce cy ad (σ k i) k i = .inr (ci, ax_fs ad (σ k i) i 0 fs) := by unfold ax_ce; rw [hsh]
  rw [he] at hw
  have hrecv := va_recv C.2.2.2.2.2.2.2.1.1 hP hcl hw
  have hC := C
  obtain ⟨c1, c2, c3, c4, c5, c6, c7, c8, c9, c10⟩ := C
  have hpre : PreV s H M'.1.cls (ad k i) (va_Pc ((Sum.inr (k, i) :: as).map (ax_va ad)) (ax_B D cy ad σ)) (as.map (ax_va ad)) := ⟨ax_B.blind, hrecv, fun U hU hW => ⟨rfl, by rw [hU]; exact hP, c8.warm hW⟩⟩
  have hR : (ax_rm d).frames + 1 ≤ R.frames ∧ 8 + (M'.2.2.1 + 11) + (ax_rm d).locals ≤ R.locals := ⟨c9, by show 8 + (M'.2.2.1 + 11) + 64 * d ≤ R.locals; omega⟩
  have hgo : ∀ (hr : va_Run p l e R s m args below meth c H locs 0 0 0 0 (F0 m pc lsA ((as.map (ax_va ad)).reverse ++ Value.ref (ad k i) :: st.map (ax_va ad))) (st.map (ax_va ad)) (ax_Q D cy ad (fun r σ' => ax_k r (fun st' => AW (d + 1) M (pc + 3) ls st' σ' K) st) (Value.ref (ad k i) :: as.map (ax_va ad)).toArray) (ax_A ad)), W p l e R s m args below meth c H locs 0 0 (MQ below (ax_Q D cy ad K) args s 0 0 (ax_A ad)) (F0 m pc lsA ((as.map (ax_va ad)).reverse ++ Value.ref (ad k i) :: st.map (ax_va ad))) := by
    intro hr
    refine ax_call hr (fun _ h => h) hS (fun r σ' H1 locs1 hk hP1 hS1 => ?_)
    cases r with
    | none => exact hk p l e R s m args below meth c D cy ad H1 locs1 lsA hC hl hsr.2 hP1 hS1
    | some v => exact hk p l e R s m args below meth c D cy ad H1 locs1 lsA hC hl (List.forall_mem_cons.mpr ⟨trivial, hsr.2⟩) hP1 hS1
  have hroom : (((st.map (ax_va ad)).map fun v => v.category).sum) ≤ 8 := by rw [ax_sum]; exact h8
  rcases hL with hlk | ⟨host, hlk⟩
  · exact hgo (va_runV ⟨c1, c2, c4, c6, c7⟩ hM ⟨callB_of as.length c7 (ax_good g1) rfl rfl rfl (c7 _ (List.mem_cons_of_mem _ g2)) (c7 _ (List.mem_cons_of_mem _ hlk)) g4 hR, c7 _ (List.mem_cons_of_mem _ g6), c7 _ (List.mem_cons_of_mem _ g7)⟩ hpre rfl (by simp) hl.1.1 rfl (lv_room hroom) hd ⟨Nat.zero_le _, Nat.zero_le _⟩)
  · exact hgo (va_runVN ⟨c1, c2, c4, c6, c7⟩ hM ⟨va_cnB as.length c7 (ax_good g1) rfl rfl rfl (c8.2.1 _ hlk) (c7 _ (List.mem_cons_of_mem _ g2)) g4 hR, c7 _ (List.mem_cons_of_mem _ g6), c7 _ (List.mem_cons_of_mem _ g7)⟩ hpre rfl (by simp) hl.1.1 rfl (lv_room hroom) hd ⟨Nat.zero_le _, Nat.zero_le _⟩)
theorem aw_callS {idx n : Nat} (as st0 : List AV) (hd : decode M.2.1 pc = .ok (.invokestatic idx, 3)) (hq : pc + 3 = q) (hL : ax_LK M.1.cls idx M'.1) (hG : ax_GS M' n) (hn : as.length = n) (hst : st0 = as.reverse ++ st) (h8 : st.length ≤ 8)
    (hb : AW d M' 0 (ax_en M' as) [] σ (fun r σ' => ax_k r (fun st' => AW (d + 1) M q ls st' σ' K) st)) : AW (d + 1) M pc ls st0 σ K := by
  subst hq; subst hst; subst hn
  intro p l e R s m args below meth c D cy ad H locs lsA C hl hs hP hS
  have hsa : ∀ v ∈ as, ax_ok v := fun v hv => hs v (List.mem_append_left _ (List.mem_reverse.mpr hv))
  have hsr : ∀ v ∈ st, ax_ok v := fun v hv => hs v (List.mem_append_right _ hv)
  have hmap : (as.reverse ++ st).map (ax_va ad) = (as.map (ax_va ad)).reverse ++ st.map (ax_va ad) := by simp
  rw [hmap]
  obtain ⟨⟨g1, g2, g3, g4, g5⟩, g6, g8⟩ := hG
  have hM := ax_met l D cy ad g3 g8 hsa hb
  have hC := C
  obtain ⟨c1, c2, c3, c4, c5, c6, c7, c8, c9, c10⟩ := C
  have hpre : PreS s H (va_Pc (as.map (ax_va ad)) (ax_B D cy ad σ)) (as.map (ax_va ad)) := ⟨ax_B.blind, fun U hU hW => ⟨rfl, by rw [hU]; exact hP, c8.warm hW⟩⟩
  have hR : (ax_rm d).frames + 1 ≤ R.frames ∧ 8 + (M'.2.2.1 + 11) + (ax_rm d).locals ≤ R.locals := ⟨c9, by show 8 + (M'.2.2.1 + 11) + 64 * d ≤ R.locals; omega⟩
  have hgo : ∀ (hr : va_Run p l e R s m args below meth c H locs 0 0 0 0 (F0 m pc lsA ((as.map (ax_va ad)).reverse ++ st.map (ax_va ad))) (st.map (ax_va ad)) (ax_Q D cy ad (fun r σ' => ax_k r (fun st' => AW (d + 1) M (pc + 3) ls st' σ' K) st) (as.map (ax_va ad)).toArray) (ax_A ad)), W p l e R s m args below meth c H locs 0 0 (MQ below (ax_Q D cy ad K) args s 0 0 (ax_A ad)) (F0 m pc lsA ((as.map (ax_va ad)).reverse ++ st.map (ax_va ad))) := by
    intro hr
    refine ax_call hr (fun _ h => h) hS (fun r σ' H1 locs1 hk hP1 hS1 => ?_)
    cases r with
    | none => exact hk p l e R s m args below meth c D cy ad H1 locs1 lsA hC hl hsr hP1 hS1
    | some v => exact hk p l e R s m args below meth c D cy ad H1 locs1 lsA hC hl (List.forall_mem_cons.mpr ⟨trivial, hsr⟩) hP1 hS1
  have hroom : (((st.map (ax_va ad)).map fun v => v.category).sum) ≤ 8 := by rw [ax_sum]; exact h8
  rcases hL with hlk | ⟨host, hlk⟩
  · exact hgo (va_runS ⟨c1, c2, c4, c6, c7⟩ hM ⟨callB_of as.length c7 (ax_good g1) rfl rfl rfl (c7 _ (List.mem_cons_of_mem _ g2)) (c7 _ (List.mem_cons_of_mem _ hlk)) g4 hR, c7 _ (List.mem_cons_of_mem _ g6)⟩ hpre rfl (by simp) hl.1.1 rfl (lv_room hroom) hd ⟨Nat.zero_le _, Nat.zero_le _⟩)
  · exact hgo (va_runSN ⟨c1, c2, c4, c6, c7⟩ hM ⟨va_cnB as.length c7 (ax_good g1) rfl rfl rfl (c8.2.1 _ hlk) (c7 _ (List.mem_cons_of_mem _ g2)) g4 hR, c7 _ (List.mem_cons_of_mem _ g6), trivial⟩ hpre rfl (by simp) hl.1.1 rfl (lv_room hroom) hd ⟨Nat.zero_le _, Nat.zero_le _⟩)
theorem aw_V0 {idx k i ci : Nat} {T : u_T} {N : Nat} {fs : List (Option Nat)} (hd : decode M.2.1 pc = .ok (.invokevirtual idx, 3)) (hq : pc + 3 = q) (hL : ax_LK M.1.cls idx M'.1) (hG : ax_GV M' 0) (hsh : ax_sh k = .inl (ci, fs)) (hcl : ax_cl[ci]? = some (M'.1.cls, T, N)) (h8 : st.length ≤ 8)
    (hb : AW d M' 0 (ax_en M' [.inr (k, i)]) [] σ (fun r σ' => ax_k r (fun st' => AW (d + 1) M q ls st' σ' K) st)) : AW (d + 1) M pc ls (.inr (k, i) :: st) σ K := aw_callV [] _ hd hq hL hG rfl hsh hcl rfl h8 hb
theorem aw_V1 {idx k i ci : Nat} {T : u_T} {N : Nat} {fs : List (Option Nat)} {v1 : AV} (hd : decode M.2.1 pc = .ok (.invokevirtual idx, 3)) (hq : pc + 3 = q) (hL : ax_LK M.1.cls idx M'.1) (hG : ax_GV M' 1) (hsh : ax_sh k = .inl (ci, fs)) (hcl : ax_cl[ci]? = some (M'.1.cls, T, N)) (h8 : st.length ≤ 8)
    (hb : AW d M' 0 (ax_en M' [.inr (k, i), v1]) [] σ (fun r σ' => ax_k r (fun st' => AW (d + 1) M q ls st' σ' K) st)) : AW (d + 1) M pc ls (v1 :: .inr (k, i) :: st) σ K := aw_callV [v1] _ hd hq hL hG rfl hsh hcl rfl h8 hb
theorem aw_V2 {idx k i ci : Nat} {T : u_T} {N : Nat} {fs : List (Option Nat)} {v1 v2 : AV} (hd : decode M.2.1 pc = .ok (.invokevirtual idx, 3)) (hq : pc + 3 = q) (hL : ax_LK M.1.cls idx M'.1) (hG : ax_GV M' 2) (hsh : ax_sh k = .inl (ci, fs)) (hcl : ax_cl[ci]? = some (M'.1.cls, T, N)) (h8 : st.length ≤ 8)
    (hb : AW d M' 0 (ax_en M' [.inr (k, i), v1, v2]) [] σ (fun r σ' => ax_k r (fun st' => AW (d + 1) M q ls st' σ' K) st)) : AW (d + 1) M pc ls (v2 :: v1 :: .inr (k, i) :: st) σ K := aw_callV [v1, v2] _ hd hq hL hG rfl hsh hcl rfl h8 hb
theorem aw_V3 {idx k i ci : Nat} {T : u_T} {N : Nat} {fs : List (Option Nat)} {v1 v2 v3 : AV} (hd : decode M.2.1 pc = .ok (.invokevirtual idx, 3)) (hq : pc + 3 = q) (hL : ax_LK M.1.cls idx M'.1) (hG : ax_GV M' 3) (hsh : ax_sh k = .inl (ci, fs)) (hcl : ax_cl[ci]? = some (M'.1.cls, T, N)) (h8 : st.length ≤ 8)
    (hb : AW d M' 0 (ax_en M' [.inr (k, i), v1, v2, v3]) [] σ (fun r σ' => ax_k r (fun st' => AW (d + 1) M q ls st' σ' K) st)) : AW (d + 1) M pc ls (v3 :: v2 :: v1 :: .inr (k, i) :: st) σ K := aw_callV [v1, v2, v3] _ hd hq hL hG rfl hsh hcl rfl h8 hb
theorem aw_S1 {idx : Nat} {v1 : AV} (hd : decode M.2.1 pc = .ok (.invokestatic idx, 3)) (hq : pc + 3 = q) (hL : ax_LK M.1.cls idx M'.1) (hG : ax_GS M' 1) (h8 : st.length ≤ 8)
    (hb : AW d M' 0 (ax_en M' [v1]) [] σ (fun r σ' => ax_k r (fun st' => AW (d + 1) M q ls st' σ' K) st)) : AW (d + 1) M pc ls (v1 :: st) σ K := aw_callS [v1] _ hd hq hL hG rfl rfl h8 hb
theorem aw_S2 {idx : Nat} {v1 v2 : AV} (hd : decode M.2.1 pc = .ok (.invokestatic idx, 3)) (hq : pc + 3 = q) (hL : ax_LK M.1.cls idx M'.1) (hG : ax_GS M' 2) (h8 : st.length ≤ 8)
    (hb : AW d M' 0 (ax_en M' [v1, v2]) [] σ (fun r σ' => ax_k r (fun st' => AW (d + 1) M q ls st' σ' K) st)) : AW (d + 1) M pc ls (v2 :: v1 :: st) σ K := aw_callS [v1, v2] _ hd hq hL hG rfl rfl h8 hb
theorem aw_S3 {idx : Nat} {v1 v2 v3 : AV} (hd : decode M.2.1 pc = .ok (.invokestatic idx, 3)) (hq : pc + 3 = q) (hL : ax_LK M.1.cls idx M'.1) (hG : ax_GS M' 3) (h8 : st.length ≤ 8)
    (hb : AW d M' 0 (ax_en M' [v1, v2, v3]) [] σ (fun r σ' => ax_k r (fun st' => AW (d + 1) M q ls st' σ' K) st)) : AW (d + 1) M pc ls (v3 :: v2 :: v1 :: st) σ K := aw_callS [v1, v2, v3] _ hd hq hL hG rfl rfl h8 hb
theorem aw_S4 {idx : Nat} {v1 v2 v3 v4 : AV} (hd : decode M.2.1 pc = .ok (.invokestatic idx, 3)) (hq : pc + 3 = q) (hL : ax_LK M.1.cls idx M'.1) (hG : ax_GS M' 4) (h8 : st.length ≤ 8)
    (hb : AW d M' 0 (ax_en M' [v1, v2, v3, v4]) [] σ (fun r σ' => ax_k r (fun st' => AW (d + 1) M q ls st' σ' K) st)) : AW (d + 1) M pc ls (v4 :: v3 :: v2 :: v1 :: st) σ K := aw_callS [v1, v2, v3, v4] _ hd hq hL hG rfl rfl h8 hb
end AWcalls
