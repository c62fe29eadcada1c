/-! ===== the law's start: what stands beside the cells ===== -/
theorem st_at {b : Nat} {s : State} (hts : ∀ w ∈ lw_tbl, w.before #[Value.ref b] s = true) {w : Cond} (n : Nat) (h : lw_tbl[n]? = some w) : w.before #[Value.ref b] s = true := hts w (List.mem_of_getElem? h)
theorem st_known {b : Nat} {s : State} (hts : ∀ w ∈ lw_tbl, w.before #[Value.ref b] s = true) : ∃ (D : va_G) (cy : Nat → ClassId), cx_St D cy s := by
  have hgw : ∀ w ∈ ax_GW, w.before #[Value.ref b] s = true := fun w hw => hts w (List.mem_filter.mp hw).1
  obtain ⟨k0, i0, h0⟩ := u_known (C := RX0) (T := TX0) (N := 6) (n := 6) hgw (ax_u 0 _ rfl).1 (st_at hts 201 (by decide +kernel))
  obtain ⟨k1, i1, h1⟩ := u_known (C := RX1) (T := TX1) (N := 20) (n := 20) hgw (ax_u 1 _ rfl).1 (st_at hts 80 (by decide +kernel))
  obtain ⟨k2, i2, h2⟩ := u_known (C := RX2) (T := TX2) (N := 7) (n := 7) hgw (ax_u 2 _ rfl).1 (st_at hts 167 (by decide +kernel))
  obtain ⟨k3, i3, h3⟩ := u_known (C := RX3) (T := TX3) (N := 12) (n := 12) hgw (ax_u 3 _ rfl).1 (st_at hts 68 (by decide +kernel))
  obtain ⟨k4, i4, h4⟩ := u_known (C := RX4) (T := TX4) (N := 26) (n := 26) hgw (ax_u 4 _ rfl).1 (st_at hts 505 (by decide +kernel))
  have hao2 : va_AO RX2 s := va_AO.of (st_at hts 76 (by decide +kernel))
  have hao0 : va_AO RX0 s := va_AO.of (st_at hts 78 (by decide +kernel))
  have hint : ∃ cA : ClassId, ArrOfT s cA .int ∧ va_RA s cA .int := by
    obtain ⟨cA, kA, comp, e1, e2, e3⟩ := Cond.arrayClass_spec (st_at hts (w := .arrayClass .int) 166 (by decide +kernel))
    exact ⟨cA, fun n z => ⟨fun k h => (by cases h), kA, e2, comp, e3⟩, e1⟩
  have hobj : ∀ C : String, va_AO C s → ∃ cA : ClassId, ArrOfT s cA (.object C) ∧ va_RA s cA (.object C) := by
    intro C h
    obtain ⟨comp, cA, kA, e1, e2, e3, e4, e5⟩ := Cond.arrayOver_spec h
    exact ⟨cA, fun n z => ⟨fun k h => (by cases h), kA, e3, comp, e4⟩, kA, comp, e3, e4, e1, e5⟩
  obtain ⟨cI, hI⟩ := hint
  obtain ⟨cT, hT⟩ := hobj RX2 hao2
  obtain ⟨cC, hC⟩ := hobj RX0 hao0
  refine ⟨(fun c => match c with | 0 => k0 | 1 => k1 | 2 => k2 | 3 => k3 | _ => k4, fun c => match c with | 0 => i0 | 1 => i1 | 2 => i2 | 3 => i3 | _ => i4), fun t => match t with | 0 => cI | 1 => cT | _ => cC, ⟨fun c q hq => ?_, fun k q hq => ?_⟩, fun w hw => ?_, hao2, hao0⟩
  · match c, hq with
    | 0, hq => cases hq; exact h0
    | 1, hq => cases hq; exact h1
    | 2, hq => cases hq; exact h2
    | 3, hq => cases hq; exact h3
    | 4, hq => cases hq; exact h4
    | n + 5, hq => cases hq
  · match k, hq with
    | 0, hq => cases hq; exact hI
    | 1, hq => cases hq; exact hT
    | 2, hq => cases hq; exact hC
    | n + 3, hq => cases hq
  · exact va_Nw.of (ax_nw_onTables hw) (hts w (List.mem_append_right _ (List.mem_filter.mp hw).1))
