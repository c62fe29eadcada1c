/-! ===== whole_start ===== -/
theorem lw_init {p : Program} {l : Launch} {e : Env} {s : State} {m : MethodId} {below : List Frame} {meth : Method} {c : Code} {b L : Nat} {xs : Nat → Int32} {D : va_G} {cy : Nat → ClassId} {H : Heap} {locs : List Loc} {cells slots : Nat} {ls : Array Slot} {Q : State → Prop} {A : Nat → Prop} {ws wr : va_W} {M' : ax_M} {d' nc' ns' idx pc bb : Nat} {e0 : va_E} {Post' : va_W → Prop} {st : List Value} (C0 : lw_At p s m meth c b L xs) (hSt : cx_St D cy s) (isC isR : List Nat) (hC : isC.map (fun i => ws[i]?) = [(bb, e0)].map some) (hR : isR.map (fun i => ws[i]?) = wr.map some) (hn : va_nd isR = true) (hdis : ∀ i ∈ isR, i ∉ isC) (hL : Cond.methodLink RL idx M'.1 ∈ ax_GW) (hG : ax_cw M' ∈ ax_GW) (h2 : Cond.initialized M'.1.cls ∈ ax_GW) (h3 : Cond.instanceMethod M'.1 ∈ ax_GW) (hnm : M'.1.name = "<init>") (hr' : M'.2.2.2 = none) (hm' : 1 ≤ M'.2.2.1 ∧ M'.2.2.1 ≤ 2) (hy : plainName M'.1.cls = true) (h4 : M'.1.cls ≠ "java/lang/invoke/MethodHandle" ∧ M'.1.cls ≠ "java/lang/invoke/VarHandle" ∧ (parseMethodDescriptor M'.1.desc).map (fun d => d.parameters.length) = some 0) (hdd : d' ≤ 10) (hst : (st.map fun v => v.category).sum ≤ 8) (hd : decode code pc = .ok (.invokespecial idx, 3)) (hc1 : cells + nc' ≤ 600000) (hc2 : slots + ns' ≤ 7302250) (hb : CW d' nc' ns' M' D cy Post' 0 [(0, .ref bb)] [] [(bb, e0)] 0 0) (hl : ls.size = 4) (hP : va_P D ax_cl ws H) (hD : va_D A ws) (hS : va_S A s.heap H locs) (hA : ∀ q, s.heap.size ≤ q → A q)
    (kk : ∀ (w1 : va_W) (H1 : Heap) (locs1 : List Loc), Post' w1 → va_P D ax_cl (wr ++ w1) H1 → va_D A (wr ++ w1) → va_S A s.heap H1 locs1 → W p l e room_1 s m #[Value.ref b] below meth c H1 locs1 (cells + nc') (slots + ns') Q (F0 m (pc + 3) ls st)) : W p l e room_1 s m #[Value.ref b] below meth c H locs cells slots Q (F0 m pc ls (.ref bb :: st)) := by
  obtain ⟨c1, c2, c3, c4, c5, c6, c7, c8, c9, c10⟩ := C0
  have hgw : ∀ w ∈ ax_GW, w.before #[Value.ref b] s = true := fun w hw => c6 w (List.mem_filter.mp hw).1
  have hM := cw_met l (sz := H.size) hy hm'.1 hr' hnm hb
  have hPc := hP.sub (ws' := [(bb, e0)]) isC (by
    have : ∀ (L : List Nat) (w0 : va_W), L.map (fun i => ws[i]?) = w0.map some → L.filterMap (fun i => ws[i]?) = w0 := by
      intro L
      induction L with
      | nil => intro w0 h; cases w0 with | nil => rfl | cons x w0 => cases h
      | cons i L ih =>
        intro w0 h
        cases w0 with
        | nil => cases h
        | cons x w0 =>
          rw [List.map_cons, List.map_cons] at h
          obtain ⟨e1, e2⟩ := List.cons.inj h
          rw [List.filterMap_cons_some e1, ih w0 e2]
    exact this isC _ hC)
  have hFc := va_free (wc := [(bb, e0)]) hD hS hA isC hC
  have hDc : va_D (fun _ => True) [(bb, e0)] := ⟨fun i j p q h1 h2 _ => by
    have := (List.getElem?_eq_some_iff.mp h1).1
    have := (List.getElem?_eq_some_iff.mp h2).1
    simp only [List.length_singleton] at *
    omega, fun _ _ _ => trivial⟩
  have e1 : 10000 ≤ room_1.locals := by decide
  have hRm : (cx_rm d' nc' ns').frames + 1 ≤ room_1.frames ∧ 8 + (M'.2.2.1 + 11) + (cx_rm d' nc' ns').locals ≤ room_1.locals := ⟨by show d' + 1 ≤ 2048; omega, by show 8 + (M'.2.2.1 + 11) + 64 * d' ≤ room_1.locals; omega⟩
  have hcw := cwI (mc := nc') (ms := ns') (rm := cx_rm d' nc' ns') (bytes := M'.2.1) (maxL := M'.2.2.1) 0 c6 (lw_good hG) (by show ax_ws M' = _; unfold ax_ws; rw [hr']) rfl rfl (hgw _ h2) (hgw _ hL) (hgw _ h3) hnm h4 hRm
  refine va_callv (va_runI (own := RL) (As := []) (rest := st) ⟨c1, c2, c4, c5, c6⟩ hM hcw ⟨cx_B.blind, fun U hU hW => ⟨rfl, by rw [hU], by rw [hU]; exact hPc, hSt.warm hW, hDc⟩⟩ rfl rfl hl rfl (lv_room hst) hd ⟨hc1, hc2⟩) hS (fun q _ h => hFc q h) hFc (fun w1 t H1 locs1 ht hvm hp hB hz1 hk1 hS1 => ?_)
  obtain ⟨hP1, hD1⟩ := hB
  rw [ht] at hP1
  obtain ⟨hP2, hD2⟩ := va_join (wr := wr) (w1 := w1) hP hD isC isR hC hR hn hdis hk1 hFc hP1 hD1
  exact kk w1 H1 locs1 hp hP2 hD2 hS1
set_option maxHeartbeats 4000000 in
set_option maxRecDepth 100000 in
/-- from the entry, for every script of at most 3584 ints, the law comes to its end with true -/
theorem whole_start {p : Program} {e : Env} {s : State} {m : MethodId} {below : List Frame} {meth : Method} {c : Code} (l : Launch) (hflags : l.flags = flags0) {b L : Nat} {xs : Nat → Int32} (hL : L ≤ 3584) (C0 : lw_At p s m meth c b L xs) : W p l e room_1 s m #[Value.ref b] below meth c s.heap [] 0 0 (lw_Z below #[Value.ref b] s) (entryFrame m ([Value.ref b] : List Value).toArray 4) := by
  have C1 := C0
  obtain ⟨c1, c2, c3, c4, c5, c6, c7, c8, c9, c10⟩ := C1
  obtain ⟨D, cy, hSt⟩ := st_known c6
  have hgw : ∀ w ∈ ax_GW, w.before #[Value.ref b] s = true := fun w hw => c6 w (List.mem_filter.mp hw).1
  have hl := lv_entry ([.ref b]) (n := 4) (Nat.le_of_ble_eq_true rfl)
  rw [lg_entry_eq]
  generalize (lg_sl ([.ref b]) ++ List.replicate (4 - (lg_sl ([.ref b])).length) Slot.unset).toArray = ls at hl ⊢
  have hl : lv_has ls 4 [(0, .ref b)] := hl
  have hA : ∀ q : Nat, s.heap.size ≤ q → (fun q => s.heap.size ≤ q) q := fun q h => h
  have hS : va_S (fun q => s.heap.size ≤ q) s.heap s.heap [] := va_S.rf
  have hP : va_P D ax_cl [] s.heap := fun k x h => by simp at h
  have hD : va_D (fun q => s.heap.size ≤ q) [] := ⟨fun i j p q h => by simp at h, fun k x h => by simp at h⟩
  refine va_new (ci := 3) (fs := [.null, .null, .null, .null, .null, .null, .null, .int 0, .int 0, .int 0, .int 0, .int 0]) (own := RL) (C := RX3) (T := TX3) (N := 12) c1 c2 hgw (ax_u 3 _ rfl).1 tyX3 tyX3_ok c5 (st_at c6 67 (by decide +kernel)) (st_at c6 68 (by decide +kernel)) (st_at c6 60 (by decide +kernel)) hSt.1 hP hD hS hA rfl (fun j hj => match j, hj with | 0, _ => rfl | 1, _ => rfl | 2, _ => rfl | 3, _ => rfl | 4, _ => rfl | 5, _ => rfl | 6, _ => rfl | 7, _ => rfl | 8, _ => rfl | 9, _ => rfl | 10, _ => rfl | 11, _ => rfl | n + 12, h => absurd h (by omega)) (by decide) (by decide) dL_law_0 (fun a H hP hD hS => ?_)
  refine lv_dup c1 c2 dL_law_3 rfl ?_
  refine lw_init (M' := mX3_init) (d' := 2) (wr := []) C0 hSt [0] [] rfl rfl (by decide) (by decide) (ax_gw 69 (by decide +kernel) rfl) (ax_gw 71 (by decide +kernel) rfl) (ax_gw 60 (by decide +kernel) rfl) (ax_gw 70 (by decide +kernel) rfl) rfl rfl (by decide) (by decide +kernel) ⟨by decide +kernel, by decide +kernel, by decide +kernel⟩ (by decide) (Nat.le_of_ble_eq_true rfl) dL_law_4 (by decide) (by decide) (iX3 D cy a) hl.1 hP hD hS hA (fun w1 H locs hw hP hD hS => ?_)
  obtain ⟨q0, q1, q2, q3, q4, q5, q6, q7, q8, q9, q10, q11, q12, q13, q14, q15, q16, q17, q18, q19, q20, q21, q22, q23, q24, q25, q26, q27, q28, q29, q30, q31, q32, q33, q34, q35, q36, q37, q38, q39, rfl⟩ := hw
  refine lv_astore_n c1 c2 dL_law_7 rfl hl (by decide) rfl (fun ls hl => ?_)
  refine va_new (ci := 4) (fs := [.int 0, .null, .null, .null, .null, .null, .null, .null, .null, .int 0, .null, .null, .null, .null, .null, .null, .null, .int 0, .null, .null, .int 0, .int 0, .int 0, .null, .null, .int 0]) (own := RL) (C := RX4) (T := TX4) (N := 26) c1 c2 hgw (ax_u 4 _ rfl).1 tyX4 tyX4_ok c5 (st_at c6 504 (by decide +kernel)) (st_at c6 505 (by decide +kernel)) (st_at c6 64 (by decide +kernel)) hSt.1 hP hD hS hA rfl (fun j hj => match j, hj with | 0, _ => rfl | 1, _ => rfl | 2, _ => rfl | 3, _ => rfl | 4, _ => rfl | 5, _ => rfl | 6, _ => rfl | 7, _ => rfl | 8, _ => rfl | 9, _ => rfl | 10, _ => rfl | 11, _ => rfl | 12, _ => rfl | 13, _ => rfl | 14, _ => rfl | 15, _ => rfl | 16, _ => rfl | 17, _ => rfl | 18, _ => rfl | 19, _ => rfl | 20, _ => rfl | 21, _ => rfl | 22, _ => rfl | 23, _ => rfl | 24, _ => rfl | 25, _ => rfl | n + 26, h => absurd h (by omega)) (by decide) (by decide) dL_law_8 (fun am H hP hD hS => ?_)
  refine lv_dup c1 c2 dL_law_11 rfl ?_
  refine lw_init (M' := mX4_init) (d' := 1) (wr := [(a, .inr (3, [.ref q0, .ref q1, .ref q2, .ref q3, .ref q21, .ref q22, .ref q23, .int 0, .int 0, .int 9999, .int 0, .int 0])), (q0, .inl (cy 1, 6, .inr (.inr (.inr (.inr (va_up (va_up (va_up (va_up (va_up (va_up (fun _ => none) 0 (some q24)) 1 (some q26)) 2 (some q28)) 3 (some q30)) 4 (some q32)) 5 (some q34))))))), (q1, .inl (cy 2, 4, .inr (.inr (.inr (.inr (va_up (va_up (va_up (va_up (fun _ => none) 0 (some q36)) 1 (some q37)) 2 (some q38)) 3 (some q39))))))), (q2, .inl (cy 0, 64, .inl (fun _ => 0))), (q3, .inr (1, [.int 0, .int 0, .int 0, .ref q4, .ref q5, .ref q6, .ref q7, .ref q8, .ref q9, .ref q10, .ref q11, .ref q12, .ref q13, .ref q14, .ref q15, .ref q16, .ref q17, .ref q18, .ref q19, .ref q20])), (q4, .inl (cy 0, 6, .inl (fun _ => 0))), (q5, .inl (cy 0, 6, .inl (fun _ => 0))), (q6, .inl (cy 0, 6, .inl (fun _ => 0))), (q7, .inl (cy 0, 6, .inl (fun _ => 0))), (q8, .inl (cy 0, 6, .inl (fun _ => 0))), (q9, .inl (cy 0, 24, .inl (fun _ => 0))), (q10, .inl (cy 0, 4, .inl (fun _ => 0))), (q11, .inl (cy 0, 4, .inl (fun _ => 0))), (q12, .inl (cy 0, 4, .inl (fun _ => 0))), (q13, .inl (cy 0, 6, .inl (fun _ => 0))), (q14, .inl (cy 0, 6, .inl (fun _ => 0))), (q15, .inl (cy 0, 16, .inl (fun _ => 0))), (q16, .inl (cy 0, 16, .inl (fun _ => 0))), (q17, .inl (cy 0, 16, .inl (fun _ => 0))), (q18, .inl (cy 0, 16, .inl (fun _ => 0))), (q19, .inl (cy 0, 96, .inl (fun _ => 0))), (q20, .inl (cy 0, 96, .inl (fun _ => 0))), (q21, .inl (cy 0, 6, .inl (fun _ => -9))), (q22, .inl (cy 0, 6, .inl (fun _ => 0))), (q23, .inl (cy 0, 4, .inl (fun _ => 0))), (q24, .inr (2, [.int 0, .int 0, .int 0, .int 0, .ref q25, .int (-9), .int 0])), (q25, .inl (cy 0, 3, .inl (fun _ => -9))), (q26, .inr (2, [.int 0, .int 0, .int 0, .int 0, .ref q27, .int (-9), .int 0])), (q27, .inl (cy 0, 3, .inl (fun _ => -9))), (q28, .inr (2, [.int 0, .int 0, .int 0, .int 0, .ref q29, .int (-9), .int 0])), (q29, .inl (cy 0, 3, .inl (fun _ => -9))), (q30, .inr (2, [.int 0, .int 0, .int 0, .int 0, .ref q31, .int (-9), .int 0])), (q31, .inl (cy 0, 3, .inl (fun _ => -9))), (q32, .inr (2, [.int 0, .int 0, .int 0, .int 0, .ref q33, .int (-9), .int 0])), (q33, .inl (cy 0, 3, .inl (fun _ => -9))), (q34, .inr (2, [.int 0, .int 0, .int 0, .int 0, .ref q35, .int (-9), .int 0])), (q35, .inl (cy 0, 3, .inl (fun _ => -9))), (q36, .inr (0, [.int 0, .int 0, .int 0, .int 0, .int 0, .int 0])), (q37, .inr (0, [.int 0, .int 0, .int 0, .int 0, .int 0, .int 0])), (q38, .inr (0, [.int 0, .int 0, .int 0, .int 0, .int 0, .int 0])), (q39, .inr (0, [.int 0, .int 0, .int 0, .int 0, .int 0, .int 0]))]) C0 hSt [41] [0, 1, 2, 3, 4, 5, 6, 7, 8, 9, 10, 11, 12, 13, 14, 15, 16, 17, 18, 19, 20, 21, 22, 23, 24, 25, 26, 27, 28, 29, 30, 31, 32, 33, 34, 35, 36, 37, 38, 39, 40] rfl rfl (by decide) (by decide) (ax_gw 506 (by decide +kernel) rfl) (ax_gw 508 (by decide +kernel) rfl) (ax_gw 64 (by decide +kernel) rfl) (ax_gw 507 (by decide +kernel) rfl) rfl rfl (by decide) (by decide +kernel) ⟨by decide +kernel, by decide +kernel, by decide +kernel⟩ (by decide) (Nat.le_of_ble_eq_true rfl) dL_law_12 (by decide) (by decide) (iX4 D cy am) hl.1 hP hD hS hA (fun w1 H locs hw hP hD hS => ?_)
  obtain ⟨m0, m1, m2, m3, m4, m5, m6, m7, m8, m9, m10, m11, m12, m13, m14, m15, m16, m17, m18, rfl⟩ := hw
  obtain ⟨hP, hD⟩ := w_all (D := D) (cy := cy) hP hD
  obtain ⟨hap, had⟩ := ap_of hD
  refine lv_astore_n c1 c2 dL_law_15 rfl hl (by decide) rfl (fun ls hl => ?_)
  refine lv_iconst (v := 0) c1 c2 dL_law_16 (by decide) ?_
  refine lv_istore_n c1 c2 dL_law_17 rfl hl (by decide) rfl (fun ls hl => ?_)
  refine law_loop hL L 0 s00 (by omega) (Nat.zero_le _) J_s00 p l e s m below meth c b D cy (adr a q0 q1 q2 q3 q4 q5 q6 q7 q8 q9 q10 q11 q12 q13 q14 q15 q16 q17 q18 q19 q20 q21 q22 q23 q24 q25 q26 q27 q28 q29 q30 q31 q32 q33 q34 q35 q36 q37 q38 q39 am m0 m1 m2 m3 m4 m5 m6 m7 m8 m9 m10 m11 m12 m13 m14 m15 m16 m17 m18) H locs _ _ ls ⟨C0, ⟨hSt.1, hSt.2.1, hap⟩, had, hL⟩ ?_ hP hS (by decide) (by decide)
  exact lv_sub hl [0, 3, 2, 1] rfl
