/-! ===== the other simple operations ===== -/
theorem cntZ {p : Nat → Prop} [∀ t, Decidable (p t)] : ∀ n, n ≤ 100 → 0 ≤ (cntI n p).toInt ∧ (cntI n p).toInt ≤ n ∧ ((cntI n p).toInt = 0 ↔ ∀ t, t < n → ¬ p t)
  | 0, _ => by
    have e : cntI 0 p = 0 := rfl
    rw [e, Int32.toInt_zero]
    exact ⟨by omega, by omega, fun _ t ht => absurd ht (Nat.not_lt_zero t), fun _ => rfl⟩
  | n + 1, hn => by
    obtain ⟨h1, h2, h3⟩ := cntZ (p := p) n (by omega)
    have e : cntI (n + 1) p = if p n then cntI n p + 1 else cntI n p := rfl
    rw [e]
    by_cases h : p n
    · have e1 : (cntI n p + 1).toInt = (cntI n p).toInt + 1 := by
        rw [i32add (by omega) (by omega) (by decide) (by decide)]
        rfl
      rw [if_pos h, e1]
      exact ⟨by omega, by omega, fun q => absurd q (by omega), fun q => absurd h (q n (by omega))⟩
    · rw [if_neg h]
      refine ⟨h1, by omega, fun q t ht => ?_, fun q => h3.mpr (fun t ht => q t (by omega))⟩
      by_cases e : t = n
      · subst e; exact h
      · exact h3.mp q t (by omega)
theorem cnt_no {p : Nat → Prop} [∀ t, Decidable (p t)] {n : Nat} (hn : n ≤ 100) (h : ¬ 0 < cntI n p) : ∀ t, t < n → ¬ p t := by
  obtain ⟨h1, h2, h3⟩ := cntZ (p := p) n hn
  rw [Int32.lt_iff_toInt_lt, Int32.toInt_zero] at h
  exact h3.mp (by omega)
theorem cnt_0 {p : Nat → Prop} [∀ t, Decidable (p t)] {n : Nat} (hn : n ≤ 100) (h : cntI n p = 0) : ∀ t, t < n → ¬ p t := by
  obtain ⟨h1, h2, h3⟩ := cntZ (p := p) n hn
  exact h3.mp (by rw [h]; decide)
theorem cnt_eq {p q : Nat → Prop} [∀ t, Decidable (p t)] [∀ t, Decidable (q t)] (n : Nat) (h : ∀ t, p t ↔ q t) : cntI n p = cntI n q := lp_congr n (fun t _ x => by
  by_cases z : p t
  · rw [if_pos z, if_pos ((h t).mp z)]
  · rw [if_neg z, if_neg (fun y => z ((h t).mpr y))])
theorem vp_dec {x : Int32} {m : Nat} (hm : m < 100) (h : vp_in x (m + 1)) (hx : ¬ x = nI m) : vp_in x m := by
  obtain ⟨j, hj, ej⟩ := ixn_of (vp_ixn.mp h) (by omega)
  subst ej
  have : j ≠ m := fun z => hx (by rw [z])
  exact vp_ixn.mpr ((ixn_nI (by omega)).mpr (by omega))
theorem i400 {v : Int32} (h : 1 ≤ v ∧ v ≤ 400) : 1 ≤ v.toInt ∧ v.toInt ≤ 400 := by
  rw [Int32.le_iff_toInt_le, Int32.le_iff_toInt_le] at h
  exact h
theorem op_cargo {σ : SS} (h : J σ) (l v c b e r : Int32) : AW 14 mX3_cargo 0 (ax_en mX3_cargo [.inr (0, 0), .inl l, .inl v, .inl c, .inl b, .inl e, .inl r]) [] σ (K1 mX4_cargo [.inr (28, 0), .inl l, .inl v, .inl c, .inl b, .inl e, .inl r]) := by
  obtain ⟨n, cn, hJ⟩ := h
  have hJ0 : J σ := ⟨n, cn, hJ⟩
  obtain ⟨⟨hn, hc, h7, h8⟩, hR, ⟨hb, hC, hL, hQ, hV, hA⟩, ⟨hP, hP9⟩, ⟨hH, hH9, hM⟩, hS⟩ := hJ
  have hm0 : σ 28 0 0 = nI n := hR.1.1.trans h7
  have hm9 : σ 28 0 9 = nI cn := hR.1.2.1.trans h8
  have hmL := mLat hR hL
  have hmQ := mLiq hR hQ
  have hev := hR.ev
  refine sX3_cargo hc h8 (fun z => ⟨_, rfl, ?_⟩) (fun z1 z => ⟨_, rfl, ?_⟩) (fun z1 z q => ⟨_, rfl, ?_⟩) (fun z1 z q => ⟨_, rfl, ?_⟩)
  · exact sX4_cargo hc hm9 (fun _ => ⟨rfl, hJ0⟩) (fun q => absurd q z) (fun q => absurd q z) (fun q => absurd q z)
  · exact sX4_cargo hc hm9 (fun q => absurd z1 q) (fun _ _ => ⟨rfl, hJ0⟩) (fun _ q => absurd q z) (fun _ q => absurd q z)
  · exact sX4_cargo hc hm9 (fun q => absurd z1 q) (fun _ q => absurd z q) (fun _ _ _ => ⟨rfl, hJ0⟩) (fun _ _ y => absurd y (by omega))
  · refine sX4_cargo (cn := cn) hc hm9 (fun q => absurd z1 q) (fun _ q => absurd z q) (fun _ _ y => absurd y (by omega)) (fun _ _ _ => ⟨rfl, n, cn + 1, ?_⟩)
    obtain ⟨⟨r0, r9, r17, r25⟩, r29, r30, r31, r32, r33, r34, r35, r36, r37, r38, r39, r40, r41, r42, r43⟩ := hR
    refine ⟨⟨hn, by omega, h7, rfl⟩, ?_, ⟨hb, hC, hL, fun t ht => ?_, hV, fun t ht => ?_⟩, ⟨okT_up hP (by omega), hP9⟩, ⟨okT_up hH (by omega), hH9, hM⟩, fun q => absurd rfl q⟩
    · exact ⟨⟨r0, rfl, r17, r25⟩, r29, r30, r31, r32, r33, r34, r35, r36, fun t => by
      by_cases e : t = cn
      · simp [rp, upd, e, r37]
      · simp [rp, upd, e, r37], fun t => by
      by_cases e : t = cn
      · simp [rp, upd, e, r38]
      · simp [rp, upd, e, r38], fun t => by
      by_cases e : t = cn
      · simp [rp, upd, e, r39]
      · simp [rp, upd, e, r39], fun t => by
      by_cases e : t = cn
      · simp [rp, upd, e, r40]
      · simp [rp, upd, e, r40], fun t => by
      by_cases e : t = cn
      · simp [rp, upd, e, r41]
      · simp [rp, upd, e, r41], fun t => by
      by_cases e : t = cn
      · simp [rp, upd, e, r42]
      · simp [rp, upd, e, r42], r43⟩
    · by_cases y : t = cn
      · subst y
        obtain ⟨j, h1, h2⟩ := lq_of z1
        exact ⟨j, h1, by simpa [rp, upd] using h2⟩
      · simpa [rp, upd, y] using hQ t ht
    · by_cases y : t = cn
      · subst y
        simpa [rp, upd] using i400 z.1
      · simpa [rp, upd, y] using hA t (by omega)
theorem op_uncargo {σ : SS} (h : J σ) : AW 14 mX3_uncargo 0 (ax_en mX3_uncargo [.inr (0, 0)]) [] σ (K1 mX4_uncargo [.inr (28, 0)]) := by
  obtain ⟨n, cn, hJ⟩ := h
  have hJ0 : J σ := ⟨n, cn, hJ⟩
  obtain ⟨⟨hn, hc, h7, h8⟩, hR, ⟨hb, hC, hL, hQ, hV, hA⟩, ⟨hP, hP9⟩, ⟨hH, hH9, hM⟩, hS⟩ := hJ
  have hm0 : σ 28 0 0 = nI n := hR.1.1.trans h7
  have hm9 : σ 28 0 9 = nI cn := hR.1.2.1.trans h8
  have hmL := mLat hR hL
  have hmQ := mLiq hR hQ
  have hev := hR.ev
  have hcnt : ∀ m, cntI n (fun t => σ 35 0 t = nI m) = cntI n (fun t => σ 8 t 5 = nI m) := fun m => cnt_eq n (fun t => by rw [hR.2.2.2.2.2.2.2.1])
  refine sX3_uncargo hn h7 hc h8 (fun z => ⟨_, rfl, ?_⟩) (fun m em z => ⟨_, rfl, ?_⟩) (fun m em z => ⟨_, rfl, ?_⟩)
  · exact sX4_uncargo hn hm0 hc hm9 (fun _ => ⟨rfl, hJ0⟩) (fun m q => absurd q (by omega)) (fun m q => absurd q (by omega))
  · refine sX4_uncargo hn hm0 hc hm9 (fun q => absurd q (by omega)) (fun m' q _ => ⟨rfl, hJ0⟩) (fun m' q y => absurd ?_ y)
    have : m' = m := by omega
    subst this
    rw [hcnt]; exact z
  · refine sX4_uncargo (cn := cn) hn hm0 hc hm9 (fun q => absurd q (by omega)) (fun m' q y => absurd ?_ z) (fun m' q y => ?_)
    · have : m' = m := by omega
      subst this
      exact hcnt m' ▸ y
    · have : m' = m := by omega
      subst this
      have hno := cnt_no (by omega) z
      obtain ⟨⟨r0, r9, r17, r25⟩, r29, r30, r31, r32, r33, r34, r35, r36, r37, r38, r39, r40, r41, r42, r43⟩ := hR
      refine ⟨rfl, n, m', ⟨hn, by omega, h7, rfl⟩, ?_, ⟨hb, hC, hL, hQ, hV, fun t ht => hA t (by omega)⟩, ⟨fun t ht => ?_, fun t h1 h2 => ?_⟩, ⟨fun t ht => ?_, hH9, hM⟩, fun q => absurd rfl q⟩
      · exact ⟨⟨r0, rfl, r17, r25⟩, r29, r30, r31, r32, r33, fun t => by
        show (if t < n then (if σ 34 0 t = nI m' then -9 else σ 34 0 t) else σ 34 0 t) = if t < 6 then (if σ 5 0 t = nI m' then -9 else σ 5 0 t) else σ 5 0 t
        rw [r34]
        by_cases y1 : t < n
        · rw [if_pos y1, if_pos (show t < 6 by omega)]
        · rw [if_neg y1]
          by_cases y2 : t < 6
          · rw [if_pos y2, hP9 t (by omega) y2, if_neg (fun y => ne9 (by omega) y.symm)]
          · rw [if_neg y2], r35, r36, r37, r38, r39, r40, r41, r42, r43⟩
      · show (if t < 6 then (if σ 5 0 t = nI m' then -9 else σ 5 0 t) else σ 5 0 t) = -9 ∨ vp_in (if t < 6 then (if σ 5 0 t = nI m' then -9 else σ 5 0 t) else σ 5 0 t) m'
        rw [if_pos ht]
        by_cases y1 : σ 5 0 t = nI m'
        · rw [if_pos y1]; exact Or.inl rfl
        · rw [if_neg y1]
          refine (hP t ht).imp id (fun y2 => vp_dec (by omega) (em ▸ y2) y1)
      · show (if t < 6 then (if σ 5 0 t = nI m' then -9 else σ 5 0 t) else σ 5 0 t) = -9
        rw [if_pos h2, hP9 t h1 h2, if_neg (fun y => ne9 (by omega) y.symm)]
      · rcases hH t ht with y1 | y1
        · exact Or.inl y1
        · right
          rcases Nat.lt_or_ge t n with y2 | y2
          · exact vp_dec (by omega) (em ▸ y1) (hno t y2)
          · have y3 : vp_in (σ 8 t 5) cn := y1
            rw [hH9 t y2 ht] at y3
            exact absurd (vp_ixn.mp y3).1 (by decide)
theorem op_amount {σ : SS} (h : J σ) (c v : Int32) : AW 14 mX3_amount 0 (ax_en mX3_amount [.inr (0, 0), .inl c, .inl v]) [] σ (K1 mX4_amount [.inr (28, 0), .inl c, .inl v]) := by
  obtain ⟨n, cn, hJ⟩ := h
  have hJ0 : J σ := ⟨n, cn, hJ⟩
  obtain ⟨⟨hn, hc, h7, h8⟩, hR, ⟨hb, hC, hL, hQ, hV, hA⟩, ⟨hP, hP9⟩, ⟨hH, hH9, hM⟩, hS⟩ := hJ
  have hm0 : σ 28 0 0 = nI n := hR.1.1.trans h7
  have hm9 : σ 28 0 9 = nI cn := hR.1.2.1.trans h8
  have hmL := mLat hR hL
  have hmQ := mLiq hR hQ
  have hev := hR.ev
  have hcnt : cntI n (fun t => σ 35 0 t = c) = cntI n (fun t => σ 8 t 5 = c) := cnt_eq n (fun t => by rw [hR.2.2.2.2.2.2.2.1])
  refine sX3_amount hn h7 hc h8 (fun z => ⟨_, rfl, ?_⟩) (fun z1 z => ⟨_, rfl, ?_⟩) (fun z1 z2 z => ⟨_, rfl, ?_⟩) (fun a ha ea z2 z => ⟨_, rfl, ?_⟩)
  · refine sX4_amount hn hm0 hc hm9 (fun _ => ⟨rfl, hJ0⟩) (fun q => absurd q z) (fun q => absurd q z) (fun a ha ea _ _ => absurd ?_ z)
    subst ea; exact (ixn_nI (by omega)).mpr ha
  · exact sX4_amount hn hm0 hc hm9 (fun q => absurd z1 q) (fun _ _ => ⟨rfl, hJ0⟩) (fun _ q => absurd q z) (fun a ha ea q _ => absurd q z)
  · exact sX4_amount hn hm0 hc hm9 (fun q => absurd z1 q) (fun _ q => absurd z2 q) (fun _ _ _ => ⟨rfl, hJ0⟩) (fun a ha ea _ q => absurd (hcnt ▸ z) q)
  · have hx1 : ixn c cn := by subst ea; exact (ixn_nI (by omega)).mpr ha
    refine sX4_amount (n := n) (cn := cn) hn hm0 hc hm9 (fun q => absurd hx1 q) (fun _ q => absurd z2 q) (fun _ _ q => absurd (show 0 < cntI n (fun t => σ 35 0 t = c) from q) (by rw [hcnt]; exact z)) (fun a' ha' ea' _ _ => ?_)
    have e1 : a' = a := nI_inj (by omega) (by omega) (ea'.symm.trans ea)
    subst e1
    obtain ⟨⟨r0, r9, r17, r25⟩, r29, r30, r31, r32, r33, r34, r35, r36, r37, r38, r39, r40, r41, r42, r43⟩ := hR
    have e5 : ∀ t j, j ≠ 1 → (rp σ 10 a' (upd (σ 10 a') 1 v)) 10 t j = σ 10 t j := by
      intro t j h1
      by_cases q : t = a'
      · rw [q, rp_at, pk_un h1]
      · rw [rp_ne (fun z => q z.2)]
    refine ⟨congrArg some (r38 a'), n, cn, ⟨hn, hc, h7, h8⟩, ?_, ⟨hb, hC, hL, fun t ht => ?_, hV, fun t ht => ?_⟩, ⟨hP, hP9⟩, ⟨hH, hH9, hM⟩, fun q => absurd rfl q⟩
    · exact ⟨⟨r0, r9, r17, r25⟩, r29, r30, r31, r32, r33, r34, r35, r36, fun t => (r37 t).trans (e5 t 0 (by decide)).symm, fun t => by
      by_cases e : t = a'
      · simp [rp, upd, e, r38]
      · simp [rp, upd, e, r38], fun t => (r39 t).trans (e5 t 2 (by decide)).symm, fun t => (r40 t).trans (e5 t 3 (by decide)).symm, fun t => (r41 t).trans (e5 t 4 (by decide)).symm, fun t => (r42 t).trans (e5 t 5 (by decide)).symm, r43⟩
    · obtain ⟨j, h1, h2⟩ := hQ t ht
      exact ⟨j, h1, (e5 t 0 (by decide)).trans h2⟩
    · by_cases y : t = a'
      · subst y
        simpa [rp, upd] using i400 z2
      · simpa [rp, upd, y] using hA t ht
theorem op_washes {σ : SS} (h : J σ) (f t v : Int32) : AW 14 mX3_washes 0 (ax_en mX3_washes [.inr (0, 0), .inl f, .inl t, .inl v]) [] σ (K1 mX4_washes [.inr (28, 0), .inl f, .inl t, .inl v]) := by
  obtain ⟨n, cn, hJ⟩ := h
  have hJ0 : J σ := ⟨n, cn, hJ⟩
  obtain ⟨⟨hn, hc, h7, h8⟩, hR, ⟨hb, hC, hL, hQ, hV, hA⟩, ⟨hP, hP9⟩, ⟨hH, hH9, hM⟩, hS⟩ := hJ
  have hm0 : σ 28 0 0 = nI n := hR.1.1.trans h7
  have hm9 : σ 28 0 9 = nI cn := hR.1.2.1.trans h8
  have hmL := mLat hR hL
  have hmQ := mLiq hR hQ
  have hev := hR.ev
  refine sX3_washes (fun z => ⟨_, rfl, ?_⟩) (fun z1 z2 z => ⟨_, rfl, ?_⟩) (fun a b ha hb' ea eb z => ⟨_, rfl, ?_⟩)
  · refine sX4_washes (fun _ => ⟨rfl, hJ0⟩) (fun q1 q2 => absurd ⟨q1, q2⟩ z) (fun a b ha hb' ea eb _ => absurd ?_ z)
    subst ea; subst eb; exact ⟨lq_nI a ha, lq_nI b hb'⟩
  · exact sX4_washes (fun q => absurd ⟨z1, z2⟩ q) (fun _ _ _ => ⟨rfl, hJ0⟩) (fun a b ha hb' ea eb q => absurd q z)
  · have hx1 : lq f := by subst ea; exact lq_nI a ha
    have hx2 : lq t := by subst eb; exact lq_nI b hb'
    refine sX4_washes (fun q => absurd ⟨hx1, hx2⟩ q) (fun _ _ q => absurd z q) (fun a' b' ha' hb'' ea' eb' _ => ?_)
    have e1 : a' = a := nI_inj (by omega) (by omega) (ea'.symm.trans ea)
    have e2 : b' = b := nI_inj (by omega) (by omega) (eb'.symm.trans eb)
    subst e1; subst e2
    obtain ⟨⟨r0, r9, r17, r25⟩, r29, r30, r31, r32, r33, r34, r35, r36, r37, r38, r39, r40, r41, r42, r43⟩ := hR
    refine ⟨congrArg some (r43 _), n, cn, ⟨hn, hc, h7, h8⟩, ?_, ⟨hb, hC, hL, hQ, hV, hA⟩, ⟨hP, hP9⟩, ⟨hH, hH9, hM⟩, fun q => absurd rfl q⟩
    exact ⟨⟨r0, r9, r17, r25⟩, r29, r30, r31, r32, r33, r34, r35, r36, r37, r38, r39, r40, r41, r42, fun t => by
      by_cases e : t = 8 * a' + b'
      · simp [rp, upd, e, r43]
      · simp [rp, upd, e, r43]⟩
theorem op_bound {σ : SS} (h : J σ) (v : Int32) : AW 14 mX3_bound 0 (ax_en mX3_bound [.inr (0, 0), .inl v]) [] σ (K1 mX4_bound [.inr (28, 0), .inl v]) := by
  obtain ⟨n, cn, hJ⟩ := h
  have hJ0 : J σ := ⟨n, cn, hJ⟩
  obtain ⟨⟨hn, hc, h7, h8⟩, hR, ⟨hb, hC, hL, hQ, hV, hA⟩, ⟨hP, hP9⟩, ⟨hH, hH9, hM⟩, hS⟩ := hJ
  have hm0 : σ 28 0 0 = nI n := hR.1.1.trans h7
  have hm9 : σ 28 0 9 = nI cn := hR.1.2.1.trans h8
  have hmL := mLat hR hL
  have hmQ := mLiq hR hQ
  have hev := hR.ev
  refine sX3_bound (fun z => ⟨_, rfl, ?_⟩) (fun z => ⟨_, rfl, ?_⟩)
  · exact sX4_bound (fun _ => ⟨rfl, hJ0⟩) (fun q => absurd q z)
  · refine sX4_bound (fun q => absurd z q) (fun _ => ?_)
    obtain ⟨⟨r0, r9, r17, r25⟩, r29, r30, r31, r32, r33, r34, r35, r36, r37, r38, r39, r40, r41, r42, r43⟩ := hR
    refine ⟨congrArg some r17, n, cn, ⟨hn, hc, h7, h8⟩, ?_, ⟨z.1, hC, hL, hQ, hV, hA⟩, ⟨hP, hP9⟩, ⟨hH, hH9, hM⟩, fun q => absurd rfl q⟩
    exact ⟨⟨r0, r9, rfl, r25⟩, r29, r30, r31, r32, r33, r34, r35, r36, r37, r38, r39, r40, r41, r42, r43⟩
theorem op_ofTank {σ : SS} (h : J σ) (t w : Int32) : AW 14 mX3_ofTank 0 (ax_en mX3_ofTank [.inr (0, 0), .inl t, .inl w]) [] σ (K1 mX4_ofTank [.inr (28, 0), .inl t, .inl w]) := by
  obtain ⟨n, cn, hJ⟩ := h
  have hJ0 : J σ := ⟨n, cn, hJ⟩
  obtain ⟨⟨hn, hc, h7, h8⟩, hR, ⟨hb, hC, hL, hQ, hV, hA⟩, ⟨hP, hP9⟩, ⟨hH, hH9, hM⟩, hS⟩ := hJ
  have hm0 : σ 28 0 0 = nI n := hR.1.1.trans h7
  have hm9 : σ 28 0 9 = nI cn := hR.1.2.1.trans h8
  have hmL := mLat hR hL
  have hmQ := mLiq hR hQ
  have hev := hR.ev
  refine sX3_ofTank hn h7 (fun z => ⟨_, rfl, ?_⟩) (fun z1 z => ⟨_, rfl, ?_⟩) (fun a ha ea j hj ej => ⟨_, rfl, ?_⟩)
  · refine sX4_ofTank hn hm0 (fun _ => ⟨rfl, hJ0⟩) (fun q => absurd q z) (fun a ha ea j hj ej => absurd ?_ z)
    subst ea; exact (ixn_nI (by omega)).mpr ha
  · exact sX4_ofTank hn hm0 (fun q => absurd z1 q) (fun _ _ => ⟨rfl, hJ0⟩) (fun a ha ea j hj ej => absurd ej (z j hj))
  · have hx1 : ixn t n := by subst ea; exact (ixn_nI (by omega)).mpr ha
    refine sX4_ofTank hn hm0 (fun q => absurd hx1 q) (fun _ q => absurd ej (q j hj)) (fun a' ha' ea' j' hj' ej' => ⟨?_, hJ0⟩)
    have e1 : a' = a := nI_inj (by omega) (by omega) (ea'.symm.trans ea)
    have e2 : j' = j := nI_inj (by omega) (by omega) (ej'.symm.trans ej)
    subst e1; subst e2
    rw [ev_ofTankM hev]
theorem op_ofCargo {σ : SS} (h : J σ) (t w : Int32) : AW 14 mX3_ofCargo 0 (ax_en mX3_ofCargo [.inr (0, 0), .inl t, .inl w]) [] σ (K1 mX4_ofCargo [.inr (28, 0), .inl t, .inl w]) := by
  obtain ⟨n, cn, hJ⟩ := h
  have hJ0 : J σ := ⟨n, cn, hJ⟩
  obtain ⟨⟨hn, hc, h7, h8⟩, hR, ⟨hb, hC, hL, hQ, hV, hA⟩, ⟨hP, hP9⟩, ⟨hH, hH9, hM⟩, hS⟩ := hJ
  have hm0 : σ 28 0 0 = nI n := hR.1.1.trans h7
  have hm9 : σ 28 0 9 = nI cn := hR.1.2.1.trans h8
  have hmL := mLat hR hL
  have hmQ := mLiq hR hQ
  have hev := hR.ev
  refine sX3_ofCargo hn h7 hc h8 hC hL hQ (fun z => ⟨_, rfl, ?_⟩) (fun z1 z => ⟨_, rfl, ?_⟩) (fun a ha ea j hj ej => ⟨_, rfl, ?_⟩)
  · refine sX4_ofCargo hn hm0 hc hm9 (fun _ => ⟨rfl, hJ0⟩) (fun q => absurd q z) (fun a ha ea j hj ej => absurd ?_ z)
    subst ea; exact (ixn_nI (by omega)).mpr ha
  · exact sX4_ofCargo hn hm0 hc hm9 (fun q => absurd z1 q) (fun _ _ => ⟨rfl, hJ0⟩) (fun a ha ea j hj ej => absurd ej (z j hj))
  · have hx1 : ixn t cn := by subst ea; exact (ixn_nI (by omega)).mpr ha
    refine sX4_ofCargo hn hm0 hc hm9 (fun q => absurd hx1 q) (fun _ q => absurd ej (q j hj)) (fun a' ha' ea' j' hj' ej' => ⟨?_, hJ0⟩)
    have e1 : a' = a := nI_inj (by omega) (by omega) (ea'.symm.trans ea)
    have e2 : j' = j := nI_inj (by omega) (by omega) (ej'.symm.trans ej)
    subst e1; subst e2
    rw [ev_ofCargoM hev]
theorem op_needs {σ : SS} (h : J σ) (t c : Int32) : AW 14 mX3_needs 0 (ax_en mX3_needs [.inr (0, 0), .inl t, .inl c]) [] σ (K1 mX4_needs [.inr (28, 0), .inl t, .inl c]) := by
  obtain ⟨n, cn, hJ⟩ := h
  have hJ0 : J σ := ⟨n, cn, hJ⟩
  obtain ⟨⟨hn, hc, h7, h8⟩, hR, ⟨hb, hC, hL, hQ, hV, hA⟩, ⟨hP, hP9⟩, ⟨hH, hH9, hM⟩, hS⟩ := hJ
  have hm0 : σ 28 0 0 = nI n := hR.1.1.trans h7
  have hm9 : σ 28 0 9 = nI cn := hR.1.2.1.trans h8
  have hmL := mLat hR hL
  have hmQ := mLiq hR hQ
  have hev := hR.ev
  refine sX3_needs hn h7 hc h8 hC hL hQ (fun z => ⟨_, rfl, ?_⟩) (fun a b ha hb' ea eb => ⟨_, rfl, ?_⟩)
  · refine sX4_needs hn hm0 hc hm9 hmL hmQ (fun _ => ⟨rfl, hJ0⟩) (fun a b ha hb' ea eb => absurd ?_ z)
    subst ea; subst eb; exact ⟨(ixn_nI (by omega)).mpr ha, (ixn_nI (by omega)).mpr hb'⟩
  · have hx1 : ixn t n ∧ ixn c cn := by subst ea; subst eb; exact ⟨(ixn_nI (by omega)).mpr ha, (ixn_nI (by omega)).mpr hb'⟩
    refine sX4_needs hn hm0 hc hm9 hmL hmQ (fun q => absurd hx1 q) (fun a' b' ha' hb'' ea' eb' => ⟨?_, hJ0⟩)
    have e1 : a' = a := nI_inj (by omega) (by omega) (ea'.symm.trans ea)
    have e2 : b' = b := nI_inj (by omega) (by omega) (eb'.symm.trans eb)
    subst e1; subst e2
    rw [ev_wfS hev]
theorem op_why {σ : SS} (h : J σ) (t c : Int32) : AW 14 mX3_why 0 (ax_en mX3_why [.inr (0, 0), .inl t, .inl c]) [] σ (K1 mX4_why [.inr (28, 0), .inl t, .inl c]) := by
  obtain ⟨n, cn, hJ⟩ := h
  have hJ0 : J σ := ⟨n, cn, hJ⟩
  obtain ⟨⟨hn, hc, h7, h8⟩, hR, ⟨hb, hC, hL, hQ, hV, hA⟩, ⟨hP, hP9⟩, ⟨hH, hH9, hM⟩, hS⟩ := hJ
  have hm0 : σ 28 0 0 = nI n := hR.1.1.trans h7
  have hm9 : σ 28 0 9 = nI cn := hR.1.2.1.trans h8
  have hmL := mLat hR hL
  have hmQ := mLiq hR hQ
  have hev := hR.ev
  refine sX3_why hn h7 hc h8 hC hL hQ (fun z => ⟨_, rfl, ?_⟩) (fun a b ha hb' ea eb => ⟨_, rfl, ?_⟩)
  · refine sX4_why hn hm0 hc hm9 (fun _ => ⟨rfl, hJ0⟩) (fun a b ha hb' ea eb => absurd ?_ z)
    subst ea; subst eb; exact ⟨(ixn_nI (by omega)).mpr ha, (ixn_nI (by omega)).mpr hb'⟩
  · have hx1 : ixn t n ∧ ixn c cn := by subst ea; subst eb; exact ⟨(ixn_nI (by omega)).mpr ha, (ixn_nI (by omega)).mpr hb'⟩
    refine sX4_why hn hm0 hc hm9 (fun q => absurd hx1 q) (fun a' b' ha' hb'' ea' eb' => ⟨?_, hJ0⟩)
    have e1 : a' = a := nI_inj (by omega) (by omega) (ea'.symm.trans ea)
    have e2 : b' = b := nI_inj (by omega) (by omega) (eb'.symm.trans eb)
    subst e1; subst e2
    rw [ev_whyS hev]
theorem op_many {σ : SS} (h : J σ) (w : Int32) : AW 14 mX3_many 0 (ax_en mX3_many [.inr (0, 0), .inl w]) [] σ (K1 mX4_many [.inr (28, 0), .inl w]) := by
  obtain ⟨n, cn, hJ⟩ := h
  have hJ0 : J σ := ⟨n, cn, hJ⟩
  obtain ⟨⟨hn, hc, h7, h8⟩, hR, ⟨hb, hC, hL, hQ, hV, hA⟩, ⟨hP, hP9⟩, ⟨hH, hH9, hM⟩, hS⟩ := hJ
  have hm0 : σ 28 0 0 = nI n := hR.1.1.trans h7
  have hm9 : σ 28 0 9 = nI cn := hR.1.2.1.trans h8
  have hmL := mLat hR hL
  have hmQ := mLiq hR hQ
  have hev := hR.ev
  refine sX3_many hn h7 (fun z => ⟨_, rfl, ?_⟩) (fun j hj ej => ⟨_, rfl, ?_⟩)
  · exact sX4_many hn hm0 (fun _ => ⟨rfl, hJ0⟩) (fun j hj ej => absurd ej (z j hj))
  · refine sX4_many hn hm0 (fun q => absurd ej (q j hj)) (fun j' hj' ej' => ⟨?_, hJ0⟩)
    have e2 : j' = j := nI_inj (by omega) (by omega) (ej'.symm.trans ej)
    subst e2
    rw [ev_manyM hev]
theorem op_plan {σ : SS} (h : J σ) (t c : Int32) : AW 14 mX3_plan 0 (ax_en mX3_plan [.inr (0, 0), .inl t, .inl c]) [] σ (K1 mX4_plan [.inr (28, 0), .inl t, .inl c]) := by
  obtain ⟨n, cn, hJ⟩ := h
  have hJ0 : J σ := ⟨n, cn, hJ⟩
  obtain ⟨⟨hn, hc, h7, h8⟩, hR, ⟨hb, hC, hL, hQ, hV, hA⟩, ⟨hP, hP9⟩, ⟨hH, hH9, hM⟩, hS⟩ := hJ
  have hm0 : σ 28 0 0 = nI n := hR.1.1.trans h7
  have hm9 : σ 28 0 9 = nI cn := hR.1.2.1.trans h8
  have hmL := mLat hR hL
  have hmQ := mLiq hR hQ
  have hev := hR.ev
  refine sX3_plan hn h7 hc h8 (fun z => ⟨_, rfl, ?_⟩) (fun a ha ea z => ⟨_, rfl, ?_⟩)
  · refine sX4_plan hn hm0 hc hm9 (fun _ => ⟨rfl, hJ0⟩) (fun a ha ea q => absurd ⟨?_, q⟩ z)
    subst ea; exact (ixn_nI (by omega)).mpr ha
  · have hx1 : ixn t n := by subst ea; exact (ixn_nI (by omega)).mpr ha
    refine sX4_plan (n := n) (cn := cn) hn hm0 hc hm9 (fun q => absurd ⟨hx1, z⟩ q) (fun a' ha' ea' _ => ?_)
    have e1 : a' = a := nI_inj (by omega) (by omega) (ea'.symm.trans ea)
    subst e1
    obtain ⟨⟨r0, r9, r17, r25⟩, r29, r30, r31, r32, r33, r34, r35, r36, r37, r38, r39, r40, r41, r42, r43⟩ := hR
    refine ⟨congrArg some (r34 a'), n, cn, ⟨hn, hc, h7, h8⟩, ?_, ⟨hb, hC, hL, hQ, hV, hA⟩, ⟨fun t ht => ?_, fun t h1 h2 => ?_⟩, ⟨hH, hH9, hM⟩, fun q s hs => ke_RES (hS q s hs) rfl (fun k h1 h2 => ?_)⟩
    · exact ⟨⟨r0, r9, r17, r25⟩, r29, r30, r31, r32, r33, fun t => by
      by_cases e : t = a'
      · simp [rp, upd, e, r34]
      · simp [rp, upd, e, r34], r35, r36, r37, r38, r39, r40, r41, r42, r43⟩
    · show upd (σ 5 0) a' c t = -9 ∨ vp_in (upd (σ 5 0) a' c t) cn
      by_cases y : t = a'
      · rw [y, pk_us]; exact z.imp id vp_ixn.mpr
      · rw [pk_un y]; exact hP t ht
    · show upd (σ 5 0) a' c t = -9
      rw [pk_un (by omega)]; exact hP9 t h1 h2
    · rw [rp_nk (by omega), rp_nk (by omega)]
theorem op_broken {σ : SS} (h : J σ) (v : Int32) : AW 14 mX3_broken 0 (ax_en mX3_broken [.inr (0, 0), .inl v]) [] σ (K1 mX4_broken [.inr (28, 0), .inl v]) := by
  obtain ⟨n, cn, hJ⟩ := h
  have hJ0 : J σ := ⟨n, cn, hJ⟩
  obtain ⟨⟨hn, hc, h7, h8⟩, hR, ⟨hb, hC, hL, hQ, hV, hA⟩, ⟨hP, hP9⟩, ⟨hH, hH9, hM⟩, hS⟩ := hJ
  have hm0 : σ 28 0 0 = nI n := hR.1.1.trans h7
  have hm9 : σ 28 0 9 = nI cn := hR.1.2.1.trans h8
  have hmL := mLat hR hL
  have hmQ := mLiq hR hQ
  have hev := hR.ev
  have e34 : σ 34 0 = σ 5 0 := funext hR.2.2.2.2.2.2.1
  have hm34 : okT n cn (σ 34 0) := by rw [e34]; exact okT_le hP hn
  refine sX3_broken hn h7 hc h8 (okT_le hP hn) hC hL hQ hV hA hb (fun z => ⟨_, rfl, ?_⟩) (fun z f g => ⟨_, rfl, ?_⟩)
  · exact sX4_broken hn hm0 hc hm9 hm34 (fun _ => ⟨rfl, hJ0⟩) (fun q => absurd q z)
  · refine sX4_broken (n := n) (cn := cn) hn hm0 hc hm9 hm34 (fun q => absurd z q) (fun _ f' => ⟨?_, n, cn, ⟨hn, hc, h7, h8⟩, hR, ⟨hb, hC, hL, hQ, hV, hA⟩, ⟨hP, hP9⟩, ⟨hH, hH9, hM⟩, fun q s hs => ke_RES (hS q s hs) rfl (fun k h1 h2 => ?_)⟩)
    · show some (brS σ (σ 34 0) n cn v) = some (brS (vw σ) (σ 5 0) n cn v)
      rw [ev_brS hev, e34]
    · rw [rp_nk (by omega), rp_nk (by omega), rp_nk (by omega), rp_nk (by omega)]
theorem op_ofPlan {σ : SS} (h : J σ) (w : Int32) : AW 14 mX3_ofPlan 0 (ax_en mX3_ofPlan [.inr (0, 0), .inl w]) [] σ (K1 mX4_ofPlan [.inr (28, 0), .inl w]) := by
  obtain ⟨n, cn, hJ⟩ := h
  have hJ0 : J σ := ⟨n, cn, hJ⟩
  obtain ⟨⟨hn, hc, h7, h8⟩, hR, ⟨hb, hC, hL, hQ, hV, hA⟩, ⟨hP, hP9⟩, ⟨hH, hH9, hM⟩, hS⟩ := hJ
  have hm0 : σ 28 0 0 = nI n := hR.1.1.trans h7
  have hm9 : σ 28 0 9 = nI cn := hR.1.2.1.trans h8
  have hmL := mLat hR hL
  have hmQ := mLiq hR hQ
  have hev := hR.ev
  have e34 : σ 34 0 = σ 5 0 := funext hR.2.2.2.2.2.2.1
  have hm34 : okT n cn (σ 34 0) := by rw [e34]; exact okT_le hP hn
  refine sX3_ofPlan hn h7 hc h8 (okT_le hP hn) hL hQ (fun z => ⟨_, rfl, ?_⟩) (fun z => ⟨_, rfl, ?_⟩) (fun z => ⟨_, rfl, ?_⟩) (fun z f g => ⟨_, rfl, ?_⟩)
  · exact sX4_ofPlan hn hm0 hc hm9 hm34 hmL hmQ (fun _ => ⟨rfl, hJ0⟩) (fun q => absurd q (z 0 (by decide))) (fun q => absurd q (z 1 (by decide))) (fun q => absurd q (z 2 (by decide)))
  · refine sX4_ofPlan (n := n) (cn := cn) hn hm0 hc hm9 hm34 hmL hmQ (fun q => absurd z (q 0 (by decide))) (fun _ f' => ⟨?_, n, cn, ⟨hn, hc, h7, h8⟩, hR, ⟨hb, hC, hL, hQ, hV, hA⟩, ⟨hP, hP9⟩, ⟨hH, hH9, hM⟩, fun q s hs => ke_RES (hS q s hs) rfl (fun k h1 h2 => ?_)⟩) (fun q => absurd (z.symm.trans q) (by decide)) (fun q => absurd (z.symm.trans q) (by decide))
    · rw [ev_coS hev, e34]
    · rw [rp_nk (by omega), rp_nk (by omega)]
  · refine sX4_ofPlan (n := n) (cn := cn) hn hm0 hc hm9 hm34 hmL hmQ (fun q => absurd z (q 1 (by decide))) (fun q => absurd (z.symm.trans q) (by decide)) (fun _ f' => ⟨?_, n, cn, ⟨hn, hc, h7, h8⟩, hR, ⟨hb, hC, hL, hQ, hV, hA⟩, ⟨hP, hP9⟩, ⟨hH, hH9, hM⟩, fun q s hs => ke_RES (hS q s hs) rfl (fun k h1 h2 => ?_)⟩) (fun q => absurd (z.symm.trans q) (by decide))
    · rw [e34]
    · rw [rp_nk (by omega), rp_nk (by omega)]
  · refine sX4_ofPlan (n := n) (cn := cn) hn hm0 hc hm9 hm34 hmL hmQ (fun q => absurd z (q 2 (by decide))) (fun q => absurd (z.symm.trans q) (by decide)) (fun q => absurd (z.symm.trans q) (by decide)) (fun _ f' => ⟨?_, n, cn, ⟨hn, hc, h7, h8⟩, hR, ⟨hb, hC, hL, hQ, hV, hA⟩, ⟨hP, hP9⟩, ⟨hH, hH9, hM⟩, fun q s hs => ke_RES (hS q s hs) rfl (fun k h1 h2 => ?_)⟩)
    · show some (liS σ (σ 34 0) n cn + 100000) = some (liS (vw σ) (σ 5 0) n cn + 100000)
      rw [ev_liS hev, e34]
    · rw [rp_nk (by omega), rp_nk (by omega), rp_nk (by omega), rp_nk (by omega)]
