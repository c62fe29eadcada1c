/-! ===== loading, unloading ===== -/
theorem pj_rows {σ σ1 : SS} (h : ∀ k, 28 ≤ k → σ1 k 0 = σ k 0) : pj σ1 = pj σ := by
  unfold pj
  rw [h 28 (by decide), h 29 (by decide), h 30 (by decide), h 31 (by decide), h 32 (by decide), h 33 (by decide), h 34 (by decide), h 35 (by decide), h 36 (by decide), h 37 (by decide), h 38 (by decide), h 39 (by decide), h 40 (by decide), h 41 (by decide), h 42 (by decide), h 43 (by decide)]
theorem ker_rows {τ τ1 : SS} (h17 : τ1 28 0 17 = τ 28 0 17) (h29 : τ1 29 0 = τ 29 0) (h30 : τ1 30 0 = τ 30 0) (h31 : τ1 31 0 = τ 31 0) (h32 : τ1 32 0 = τ 32 0) (h33 : τ1 33 0 = τ 33 0) (h37 : τ1 37 0 = τ 37 0) (h38 : τ1 38 0 = τ 38 0) (h39 : τ1 39 0 = τ 39 0) (h40 : τ1 40 0 = τ 40 0) (h41 : τ1 41 0 = τ 41 0) (h42 : τ1 42 0 = τ 42 0) (h43 : τ1 43 0 = τ 43 0) : ker τ1 = ker τ := by
  unfold ker
  rw [h17, h29, h30, h31, h32, h33, h37, h38, h39, h40, h41, h42, h43]
theorem lc8 {σ : SS} {n s : Nat} (t : Nat) : ∀ i, lcS σ n s i 8 t = if t < i then upd (upd (σ 8 t) 5 (σ 26 0 (6 * s + t))) 6 (σ 27 0 (6 * s + t)) else σ 8 t
  | 0 => by rw [if_neg (Nat.not_lt_zero t)]; rfl
  | i + 1 => by
    rw [lcS_s]
    by_cases h : t = i
    · subst h
      rw [rp_at, lcS_i t (Nat.le_refl t), if_pos (by omega)]
    · rw [rp_ne (fun z => h z.2), lc8 t i]
      by_cases h2 : t < i
      · rw [if_pos h2, if_pos (by omega)]
      · rw [if_neg h2, if_neg (by omega)]
theorem lc8o {σ : SS} {n s i t j : Nat} (h5 : j ≠ 5) (h6 : j ≠ 6) : lcS σ n s i 8 t j = σ 8 t j := by
  rw [lc8 t i]
  by_cases h : t < i
  · rw [if_pos h, pk_un h6, pk_un h5]
  · rw [if_neg h]
theorem cntF {p : Nat → Prop} [∀ t, Decidable (p t)] : ∀ n, n ≤ 100 → ((cntI n p).toInt = n ↔ ∀ t, t < n → p t)
  | 0, _ => ⟨fun _ t ht => absurd ht (Nat.not_lt_zero t), fun _ => by have e : cntI 0 p = 0 := rfl; rw [e, Int32.toInt_zero]; rfl⟩
  | n + 1, hn => by
    have ih := cntF (p := p) n (by omega)
    obtain ⟨h1, h2, -⟩ := cntZ (p := p) n (by omega)
    have e : cntI (n + 1) p = if p n then cntI n p + 1 else cntI n p := rfl
    rw [e]
    by_cases h : p n
    · have e1 : (cntI n p + 1).toInt = (cntI n p).toInt + 1 := by
        rw [i32add (by omega) (by omega) (by decide) (by decide)]
        rfl
      rw [if_pos h, e1]
      constructor
      · intro q t ht
        by_cases z : t = n
        · subst z; exact h
        · exact ih.mp (by omega) t (by omega)
      · intro q
        have := ih.mpr (fun t ht => q t (by omega))
        omega
    · rw [if_neg h]
      exact ⟨fun q => absurd q (by omega), fun q => absurd (q n (by omega)) h⟩
theorem use_iff {h : Nat → Int32} {n : Nat} (hn : n ≤ 6) : 0 < nI n - cntI n (fun t => h t = -9) ↔ anyB n (hB h) = true := by
  obtain ⟨h1, h2, -⟩ := cntZ (p := fun t => h t = -9) n (by omega)
  have h3 := cntF (p := fun t => h t = -9) n (by omega)
  have e : (nI n - cntI n (fun t => h t = -9)).toInt = (n : Int) - (cntI n (fun t => h t = -9)).toInt := by
    have := nI_toInt (n := n) (by omega)
    rw [i32sub (by omega) (by omega) (by omega) (by omega), this]
  rw [Int32.lt_iff_toInt_lt, e, Int32.toInt_zero]
  constructor
  · intro q
    cases z : anyB n (hB h) with
    | true => rfl
    | false =>
      have : (cntI n (fun t => h t = -9)).toInt = n := h3.mpr (fun t ht => by
        have := anyB_f.mp z t ht
        unfold hB at this
        simpa using this)
      omega
  · intro q
    obtain ⟨t, ht, z⟩ := anyB_iff.mp q
    have : ¬ (cntI n (fun t => h t = -9)).toInt = n := fun y => by
      have y1 := h3.mp y t ht
      unfold hB at z
      simp [y1] at z
    omega
theorem fb_ok {τ : SS} {n cn s : Nat} {y z : Int32} {b : Nat → Int32} (hc : cn < 2 ^ 30) : ∀ k, ¬ (fbS τ n cn s k (0, y, z, b)).1 = 0 → okT n cn (fbS τ n cn s k (0, y, z, b)).2.2.2
  | 0, h => absurd rfl h
  | k + 1, h => by
    have ih := fb_ok (τ := τ) (n := n) (s := s) (y := y) (z := z) (b := b) hc k
    rw [fbS_s] at h ⊢
    unfold stS at h ⊢
    by_cases q : brS τ (rwS s cn n k) n cn (nI s) = 0
    · rw [if_pos q] at h ⊢
      unfold kpS at h ⊢
      by_cases q2 : bet (coS τ (rwS s cn n k) n) (usS (rwS s cn n k) n) (fbS τ n cn s k (0, y, z, b)) = true
      · rw [if_pos q2]
        exact okT_rw hc
      · rw [if_neg q2]
        refine ih (fun y0 => q2 ?_)
        unfold bet
        rw [y0, e01, Bool.true_or]
    · rw [if_neg q] at h ⊢
      exact ih h
theorem tk_pos {τ : SS} {n cn : Nat} : ∀ k, ¬ tkS τ n cn k = 0 → 0 < rtS τ n cn (tkS τ n cn k) (mC (tkS τ n cn k) cn ^ n)
  | 0, h => absurd rfl h
  | k + 1, h => by
    rw [tkS_s] at h ⊢
    by_cases q : btB τ cn (k + 1) (tkS τ n cn k) = true ∧ 0 < rtS τ n cn (k + 1) (mC (k + 1) cn ^ n)
    · rw [if_pos q]
      exact q.2
    · rw [if_neg q] at h ⊢
      exact tk_pos k h
/-- the class has loaded row s, the reference too -/
theorem ld_JJ {σ : SS} {n cn s : Nat} {B : Nat → Int32} {co : Int32} (hJ : JJ σ n cn) (hB : okT n cn B) (hco : σ 23 0 s = co) (h26 : ∀ t, t < n → σ 26 0 (6 * s + t) = B t) (h27 : ∀ t, t < n → σ 27 0 (6 * s + t) = fl ((vw σ) 29 0) ((vw σ) 38 0) B cn t) : JJ (ldS (rp (lcS σ n s n) 0 0 (upd (σ 0 0) 10 (σ 0 0 10 + σ 23 0 s))) n cn B co) n cn := by
  obtain ⟨⟨hn, hc, h7, h8⟩, hR, ⟨hb, hC, hL, hQ, hV, hA⟩, ⟨hP, hP9⟩, ⟨hH, hH9, hM⟩, hS⟩ := hJ
  have e29 : σ 29 0 = (vw σ) 29 0 := funext hR.2.1
  have e38 : σ 38 0 = (vw σ) 38 0 := funext hR.2.2.2.2.2.2.2.2.2.2.1
  obtain ⟨⟨r0, r9, r17, r25⟩, r29, r30, r31, r32, r33, r34, r35, r36, r37, r38, r39, r40, r41, r42, r43⟩ := hR
  have c5 : ∀ t, (lcS σ n s n) 8 t 5 = if t < n then B t else σ 8 t 5 := fun t => by
    rw [lc8 t n]
    by_cases ht : t < n
    · rw [if_pos ht, if_pos ht, pk_un (by decide), pk_us, h26 t ht]
    · rw [if_neg ht, if_neg ht]
  have c6 : ∀ t, (lcS σ n s n) 8 t 6 = if t < n then fl (σ 29 0) (σ 38 0) B cn t else σ 8 t 6 := fun t => by
    rw [lc8 t n]
    by_cases ht : t < n
    · rw [if_pos ht, if_pos ht, pk_us, h27 t ht, e29, e38]
    · rw [if_neg ht, if_neg ht]
  have c8 : ∀ t j, j ≠ 5 → j ≠ 6 → (lcS σ n s n) 8 t j = σ 8 t j := fun t j h5 h6 => lc8o (n := n) h5 h6
  have k9 : ∀ t, (lcS σ n s n) 9 t = σ 9 t := fun t => lcS_k (by decide) n
  have k10 : ∀ t, (lcS σ n s n) 10 t = σ 10 t := fun t => lcS_k (by decide) n
  have kk : ∀ k, k ≠ 8 → (lcS σ n s n) k 0 = σ k 0 := fun k hk => lcS_k hk n
  refine ⟨⟨hn, hc, h7, h8⟩, ?_, ⟨hb, fun t ht => ?_, fun t k ht hk => ?_, fun c hc' => ?_, vOK_of hV (fun t _ => c8 t 0 (by decide) (by decide)), aOK_of hA (fun t _ => congrFun (k10 t) 1)⟩, ⟨?_, fun t h1 h2 => ?_⟩, ⟨fun t ht => ?_, fun t h1 h2 => ?_, fun t ht q => ?_⟩, fun q s' hs' => ?_⟩
  · refine ⟨⟨?_, ?_, ?_, ?_⟩, fun t => ?_, fun t => ?_, fun t => ?_, fun t => ?_, fun t => ?_, fun t => ?_, fun t => ?_, fun t => ?_, fun t => ?_, fun t => ?_, fun t => ?_, fun t => ?_, fun t => ?_, fun t => ?_, fun t => ?_⟩
    · exact (congrFun (kk 28 (by decide)) 0).trans r0
    · exact (congrFun (kk 28 (by decide)) 9).trans r9
    · exact (congrFun (kk 28 (by decide)) 17).trans r17
    · show (lcS σ n s n) 28 0 25 + co = σ 0 0 10 + σ 23 0 s
      rw [kk 28 (by decide), r25, hco]
    · exact (congrFun (kk 29 (by decide)) t).trans ((r29 t).trans (c8 t 0 (by decide) (by decide)).symm)
    · exact (congrFun (kk 30 (by decide)) t).trans ((r30 t).trans (c8 t 1 (by decide) (by decide)).symm)
    · exact (congrFun (kk 31 (by decide)) t).trans ((r31 t).trans (c8 t 2 (by decide) (by decide)).symm)
    · exact (congrFun (kk 32 (by decide)) t).trans ((r32 t).trans (c8 t 3 (by decide) (by decide)).symm)
    · exact (congrFun (kk 33 (by decide)) t).trans ((r33 t).trans (congrFun (k9 _) _).symm)
    · exact (congrFun (kk 34 (by decide)) t).trans ((r34 t).trans (congrFun (kk 5 (by decide)) t).symm)
    · show (if t < n then B t else (lcS σ n s n) 35 0 t) = (lcS σ n s n) 8 t 5
      rw [kk 35 (by decide), c5, r35]
    · show (if t < n then fl ((lcS σ n s n) 29 0) ((lcS σ n s n) 38 0) B cn t else (lcS σ n s n) 36 0 t) = (lcS σ n s n) 8 t 6
      rw [kk 36 (by decide), kk 29 (by decide), kk 38 (by decide), c6, r36]
    · exact (congrFun (kk 37 (by decide)) t).trans ((r37 t).trans (congrFun (k10 t) 0).symm)
    · exact (congrFun (kk 38 (by decide)) t).trans ((r38 t).trans (congrFun (k10 t) 1).symm)
    · exact (congrFun (kk 39 (by decide)) t).trans ((r39 t).trans (congrFun (k10 t) 2).symm)
    · exact (congrFun (kk 40 (by decide)) t).trans ((r40 t).trans (congrFun (k10 t) 3).symm)
    · exact (congrFun (kk 41 (by decide)) t).trans ((r41 t).trans (congrFun (k10 t) 4).symm)
    · exact (congrFun (kk 42 (by decide)) t).trans ((r42 t).trans (congrFun (k10 t) 5).symm)
    · exact (congrFun (kk 43 (by decide)) t).trans ((r43 t).trans (congrFun (kk 3 (by decide)) t).symm)
  · show 0 ≤ (lcS σ n s n) 8 t 1
    rw [c8 t 1 (by decide) (by decide)]; exact hC t ht
  · show lt9 ((lcS σ n s n) 9 t k)
    rw [k9]; exact hL t k ht hk
  · show ∃ j, j < 8 ∧ (lcS σ n s n) 10 c 0 = nI j
    rw [k10]; exact hQ c hc'
  · show okT 6 cn ((lcS σ n s n) 5 0)
    rw [kk 5 (by decide)]; exact hP
  · show (lcS σ n s n) 5 0 t = -9
    rw [kk 5 (by decide)]; exact hP9 t h1 h2
  · show (lcS σ n s n) 8 t 5 = -9 ∨ vp_in ((lcS σ n s n) 8 t 5) cn
    rw [c5]
    by_cases y : t < n
    · rw [if_pos y]; exact hB t y
    · rw [if_neg y]; exact hH t ht
  · show (lcS σ n s n) 8 t 5 = -9
    rw [c5, if_neg (by omega)]; exact hH9 t h1 h2
  · have q' : (lcS σ n s n) 8 t 5 = -9 := q
    show (lcS σ n s n) 8 t 6 = 0
    rw [c5] at q'
    rw [c6]
    by_cases y : t < n
    · rw [if_pos y] at q' ⊢
      exact fl_no (by rw [q']; exact fun z => absurd z.1 (by decide))
    · rw [if_neg y] at q' ⊢
      exact hM t ht q'
  · refine ke_RES (hS q s' hs') ?_ (fun k h1 h2 => ?_)
    · refine (ker_rows (τ := vw σ) (τ1 := vw (ldS (rp (lcS σ n s n) 0 0 (upd (σ 0 0) 10 (σ 0 0 10 + σ 23 0 s))) n cn B co)) rfl (funext fun t => c8 t 0 (by decide) (by decide)) (funext fun t => c8 t 1 (by decide) (by decide)) (funext fun t => c8 t 2 (by decide) (by decide)) (funext fun t => c8 t 3 (by decide) (by decide)) (funext fun t => congrFun (k9 _) _) (funext fun t => congrFun (k10 t) 0) (funext fun t => congrFun (k10 t) 1) (funext fun t => congrFun (k10 t) 2) (funext fun t => congrFun (k10 t) 3) (funext fun t => congrFun (k10 t) 4) (funext fun t => congrFun (k10 t) 5) (kk 3 (by decide))).symm
    · unfold ldS
      rw [rp_nk (by omega), rp_nk (by omega), rp_nk (by omega), rp_nk (by omega), kk k (by omega)]
theorem op_load {σ : SS} (h : J σ) : AW 14 mX3_load 0 (ax_en mX3_load [.inr (0, 0)]) [] σ (K1 mX4_load [.inr (28, 0)]) := by
  obtain ⟨n, cn, hJ⟩ := h
  have hJ0 : J σ := ⟨n, cn, hJ⟩
  obtain ⟨⟨hn, hc, h7, h8⟩, hR, ⟨hb, hC, hL, hQ, hV, hA⟩, ⟨hP, hP9⟩, ⟨hH, hH9, hM⟩, hS⟩ := hJ
  have hm0 : σ 28 0 0 = nI n := hR.1.1.trans h7
  have hm9 : σ 28 0 9 = nI cn := hR.1.2.1.trans h8
  have hmL := mLat hR hL
  have hmQ := mLiq hR hQ
  have hev := hR.ev
  have e35 : σ 35 0 = fun t => σ 8 t 5 := funext hR.2.2.2.2.2.2.2.1
  have hany : 0 < σ 0 0 7 - cntI n (fun t => σ 8 t 5 = -9) ↔ anyB n (hB (σ 35 0)) = true := by
    rw [h7, e35]
    exact use_iff hn
  have hJJ : JJ σ n cn := ⟨⟨hn, hc, h7, h8⟩, hR, ⟨hb, hC, hL, hQ, hV, hA⟩, ⟨hP, hP9⟩, ⟨hH, hH9, hM⟩, hS⟩
  refine sX3_load hn h7 hc h8 hC hL hQ (fun z => ⟨_, rfl, ?_⟩) (fun z σ1 hsr q => ⟨_, rfl, ?_⟩) (fun z σ1 hsr q => ⟨_, rfl, ?_⟩)
  · have y0 := hany.mp z
    exact sX4_load hn hm0 hc hm9 hmL hmQ (fun _ => ⟨rfl, hJ0⟩) (fun y => absurd (y0.symm.trans y) (by decide)) (fun y => absurd (y0.symm.trans y) (by decide))
  · obtain ⟨hJ1, hres⟩ := SR_JJ hJJ hsr
    have hJ1' := hJ1
    obtain ⟨⟨-, -, h71, h81⟩, hR1, ⟨hb1, hC1, hL1, hQ1, hV1, hA1⟩, -⟩ := hJ1'
    have f35 : σ1 35 0 = σ 35 0 := SRn_o hsr (by decide) (by decide) (by decide)
    have ht : tkS σ1 n cn (2 ^ cn - 1) = 0 := by rw [ev_tkS hR1.ev, ← (tc_tk hc hA1 hres (2 ^ cn - 1) (Nat.le_refl _)).1]; exact q
    exact sX4_load (n := n) (cn := cn) hn (hR1.1.1.trans h71) hc (hR1.1.2.1.trans h81) (mLat hR1 hL1) (mLiq hR1 hQ1) (fun y => absurd (hany.mpr (f35 ▸ y)) z) (fun _ _ x y z f g b c => ⟨rfl, n, cn, JJ_mS hJ1 x y z f g b c⟩) (fun _ y => absurd ht y)
  · obtain ⟨hJ1, hres⟩ := SR_JJ hJJ hsr
    have hJ1' := hJ1
    obtain ⟨⟨-, -, h71, h81⟩, hR1, ⟨hb1, hC1, hL1, hQ1, hV1, hA1⟩, -⟩ := hJ1'
    have f35 : σ1 35 0 = σ 35 0 := SRn_o hsr (by decide) (by decide) (by decide)
    have hp : 1 ≤ 2 ^ cn := Nat.one_le_two_pow
    have hle := tcS_le σ1 cn (2 ^ cn - 1)
    have htc := (tc_tk hc hA1 hres (2 ^ cn - 1) (Nat.le_refl _)).1
    have hpos := tk_pos (τ := vw σ1) (n := n) (cn := cn) (2 ^ cn - 1) (by rw [← htc]; exact q)
    rw [← htc] at hpos
    generalize (tcS σ1 cn (2 ^ cn - 1)).1 = s at q hle htc hpos ⊢
    have hs : s < 2 ^ cn := by omega
    have hk : ∀ k, 28 ≤ k → (rp (lcS σ1 n s n) 0 0 (upd (σ1 0 0) 10 (σ1 0 0 10 + σ1 23 0 s))) k 0 = σ1 k 0 := fun k h1 => by rw [rp_nk (by omega), lcS_k (by omega)]
    have hpj := (pj_rows hk).trans hR1.ev
    generalize e2 : rp (lcS σ1 n s n) 0 0 (upd (σ1 0 0) 10 (σ1 0 0 10 + σ1 23 0 s)) = σ2 at hk hpj ⊢
    have ht : tkS σ2 n cn (2 ^ cn - 1) = s := (ev_tkS hpj n cn _).trans htc.symm
    refine sX4_load (n := n) (cn := cn) hn ?_ hc ?_ ?_ ?_ (fun y => absurd (hany.mpr ?_) z) (fun _ y => absurd (ht.symm.trans y) q) (fun _ _ y0 z0 b0 x y z f g b c => ?_)
    · rw [hk 28 (by decide)]; exact hR1.1.1.trans h71
    · rw [hk 28 (by decide)]; exact hR1.1.2.1.trans h81
    · rw [hk 33 (by decide)]; exact mLat hR1 hL1
    · rw [hk 37 (by decide)]; exact mLiq hR1 hQ1
    · rw [hk 35 (by decide), f35] at y; exact y
    · rw [ht, ev_fbS hpj]
      obtain ⟨k0, kk⟩ := hres s hs y0 z0 b0
      have hne : ¬ (fbS (vw σ1) n cn s (mC s cn ^ n) (0, y0, z0, b0)).1 = 0 := by
        rw [fbS_1]
        intro y1
        rw [y1] at hpos
        exact absurd hpos (by decide)
      obtain ⟨k1, k2, k3, k4, k5⟩ := kk hne
      refine ⟨congrArg some k1.symm, n, cn, JJ_mS ?_ x y z f g b c⟩
      rw [← e2]
      exact ld_JJ hJ1 (fb_ok (by omega) _ hne) k1 k4 k5
