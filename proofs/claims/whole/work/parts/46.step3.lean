/-! ===== operations that search ===== -/
theorem SR_RV {σ σ1 : SS} {n cn : Nat} (hR : RV σ) (h : SRn σ σ1 n cn) : RV σ1 := by
  obtain ⟨⟨r0, r9, r17, r25⟩, r29, r30, r31, r32, r33, r34, r35, r36, r37, r38, r39, r40, r41, r42, r43⟩ := hR
  have e28 : σ1 28 0 = σ 28 0 := SRn_o h (by decide) (by decide) (by decide)
  exact ⟨⟨by rw [e28, SRn_0 h (by decide)]; exact r0, by rw [e28, SRn_0 h (by decide)]; exact r9, by rw [e28, SRn_0 h (by decide)]; exact r17, by rw [e28, SRn_0 h (by decide)]; exact r25⟩,
    fun t => by rw [SRn_o (k := 29) (i := 0) h (by decide) (by decide) (by decide), SRn_o (k := 8) h (by decide) (by decide) (by decide)]; exact r29 t,
    fun t => by rw [SRn_o (k := 30) (i := 0) h (by decide) (by decide) (by decide), SRn_o (k := 8) h (by decide) (by decide) (by decide)]; exact r30 t,
    fun t => by rw [SRn_o (k := 31) (i := 0) h (by decide) (by decide) (by decide), SRn_o (k := 8) h (by decide) (by decide) (by decide)]; exact r31 t,
    fun t => by rw [SRn_o (k := 32) (i := 0) h (by decide) (by decide) (by decide), SRn_o (k := 8) h (by decide) (by decide) (by decide)]; exact r32 t,
    fun t => by rw [SRn_o (k := 33) (i := 0) h (by decide) (by decide) (by decide), SRn_o (k := 9) h (by decide) (by decide) (by decide)]; exact r33 t,
    fun t => by rw [SRn_o (k := 34) (i := 0) h (by decide) (by decide) (by decide), SRn_o (k := 5) h (by decide) (by decide) (by decide)]; exact r34 t,
    fun t => by rw [SRn_o (k := 35) (i := 0) h (by decide) (by decide) (by decide), SRn_o (k := 8) h (by decide) (by decide) (by decide)]; exact r35 t,
    fun t => by rw [SRn_o (k := 36) (i := 0) h (by decide) (by decide) (by decide), SRn_o (k := 8) h (by decide) (by decide) (by decide)]; exact r36 t,
    fun t => by rw [SRn_o (k := 37) (i := 0) h (by decide) (by decide) (by decide), SRn_o (k := 10) h (by decide) (by decide) (by decide)]; exact r37 t,
    fun t => by rw [SRn_o (k := 38) (i := 0) h (by decide) (by decide) (by decide), SRn_o (k := 10) h (by decide) (by decide) (by decide)]; exact r38 t,
    fun t => by rw [SRn_o (k := 39) (i := 0) h (by decide) (by decide) (by decide), SRn_o (k := 10) h (by decide) (by decide) (by decide)]; exact r39 t,
    fun t => by rw [SRn_o (k := 40) (i := 0) h (by decide) (by decide) (by decide), SRn_o (k := 10) h (by decide) (by decide) (by decide)]; exact r40 t,
    fun t => by rw [SRn_o (k := 41) (i := 0) h (by decide) (by decide) (by decide), SRn_o (k := 10) h (by decide) (by decide) (by decide)]; exact r41 t,
    fun t => by rw [SRn_o (k := 42) (i := 0) h (by decide) (by decide) (by decide), SRn_o (k := 10) h (by decide) (by decide) (by decide)]; exact r42 t,
    fun t => by rw [SRn_o (k := 43) (i := 0) h (by decide) (by decide) (by decide), SRn_o (k := 3) h (by decide) (by decide) (by decide)]; exact r43 t⟩
theorem SR_JJ {σ σ1 : SS} {n cn : Nat} (hJ : JJ σ n cn) (h : SRn σ σ1 n cn) : JJ σ1 n cn ∧ ∀ s, s < 2 ^ cn → RES σ1 (vw σ1) n cn s := by
  obtain ⟨⟨hn, hc, h7, h8⟩, hR, ⟨hb, hC, hL, hQ, hV, hA⟩, ⟨hP, hP9⟩, ⟨hH, hH9, hM⟩, hS⟩ := hJ
  have hres : ∀ s, s < 2 ^ cn → RES σ1 (vw σ1) n cn s := by
    intro s hs
    rw [SRn_vw h]
    rcases h with ⟨z, rfl⟩ | ⟨_, hd⟩
    · exact hS z s hs
    · exact SD_res hd hn hc hV hA hb hs
  have e8 : ∀ t, σ1 8 t = σ 8 t := fun t => SRn_o h (by decide) (by decide) (by decide)
  have e9 : ∀ t, σ1 9 t = σ 9 t := fun t => SRn_o h (by decide) (by decide) (by decide)
  have e10 : ∀ t, σ1 10 t = σ 10 t := fun t => SRn_o h (by decide) (by decide) (by decide)
  have e5 : σ1 5 0 = σ 5 0 := SRn_o h (by decide) (by decide) (by decide)
  refine ⟨⟨⟨hn, hc, (SRn_0 h (by decide)).trans h7, (SRn_0 h (by decide)).trans h8⟩, SR_RV hR h, ⟨?_, fun t ht => ?_, fun t k ht hk => ?_, fun c hc' => ?_, vOK_of hV (fun t _ => by rw [e8]), aOK_of hA (fun t _ => by rw [e10])⟩, ⟨?_, fun t h1 h2 => ?_⟩, ⟨okT_of hH (fun t _ => by rw [e8]), fun t h1 h2 => ?_, fun t ht => ?_⟩, fun _ => hres⟩, hres⟩
  · rw [SRn_0 h (by decide)]; exact hb
  · rw [e8]; exact hC t ht
  · rw [e9]; exact hL t k ht hk
  · rw [e10]; exact hQ c hc'
  · rw [e5]; exact hP
  · rw [e5]; exact hP9 t h1 h2
  · rw [e8]; exact hH9 t h1 h2
  · rw [e8]; exact hM t ht
theorem JJ_mS {σ : SS} {n cn : Nat} (h : JJ σ n cn) (x y z : Int32) (f g b c : Nat → Int32) : JJ (mS σ x y z f g b c) n cn := by
  obtain ⟨h1, h2, h3, h4, h5, h6⟩ := h
  exact ⟨h1, h2, h3, h4, h5, fun q s hs => ke_RES (h6 q s hs) rfl (fun k _ _ => mS_rk (by omega))⟩
theorem amZ {τ : SS} {v : Int32} {cn : Nat} (ha : aOK cn (τ 38 0)) (hc : cn ≤ 4) : ∀ k, k ≤ cn → 0 ≤ (amS τ v k).toInt ∧ (amS τ v k).toInt ≤ 400 * k
  | 0, _ => by
    have e : amS τ v 0 = 0 := rfl
    rw [e, Int32.toInt_zero]
    omega
  | k + 1, hk => by
    obtain ⟨h1, h2⟩ := amZ (v := v) ha hc k (by omega)
    obtain ⟨a1, a2⟩ := ha k (by omega)
    rw [amS_s]
    by_cases h : hb v (nI k) = true
    · rw [if_pos h, i32add (by omega) (by omega) (by omega) (by omega)]
      omega
    · rw [if_neg h]
      omega
theorem am_0 {τ : SS} : ∀ k, k ≤ 4 → amS τ (nI 0) k = 0
  | 0, _ => rfl
  | k + 1, hk => by rw [amS_s, hb_z k (by omega), if_neg (by decide), am_0 k (by omega)]
/-- the taken set is the reference's -/
theorem tc_tk {σ : SS} {n cn : Nat} (hc : cn ≤ 4) (hA : aOK cn (fun c => σ 10 c 1)) (hres : ∀ s, s < 2 ^ cn → RES σ (vw σ) n cn s) : ∀ k, k ≤ 2 ^ cn - 1 → (tcS σ cn k).1 = tkS (vw σ) n cn k ∧ (tcS σ cn k).2 = amS (vw σ) (nI (tcS σ cn k).1) cn
  | 0, _ => ⟨rfl, (am_0 cn hc).symm⟩
  | k + 1, hk => by
    obtain ⟨h1, h2⟩ := tc_tk hc hA hres k (by omega)
    have hp : 1 ≤ 2 ^ cn := Nat.one_le_two_pow
    have h22 : σ 22 0 (k + 1) = rtS (vw σ) n cn (k + 1) (mC (k + 1) cn ^ n) := (hres (k + 1) (by omega) 0 0 (fun _ => 0)).1.trans (fbS_1 _ _ _ _ _ _ _ _)
    have z1 := amZ (τ := vw σ) (v := nI (k + 1)) hA hc cn (Nat.le_refl cn)
    have z2 := amZ (τ := vw σ) (v := nI (tcS σ cn k).1) hA hc cn (Nat.le_refl cn)
    rw [tcS_s, tkS_s, ← h1, h22, h2]
    have eb : btB (vw σ) cn (k + 1) (tcS σ cn k).1 = true ↔ (amS (vw σ) (nI (tcS σ cn k).1) cn < amS (vw σ) (nI (k + 1)) cn ∨ (amS (vw σ) (nI (k + 1)) cn = amS (vw σ) (nI (tcS σ cn k).1) cn ∧ nI (pc4 (k + 1)) < nI (pc4 (tcS σ cn k).1))) := by
      unfold btB
      have es : (amS (vw σ) (nI (k + 1)) cn - amS (vw σ) (nI (tcS σ cn k).1) cn).toInt = (amS (vw σ) (nI (k + 1)) cn).toInt - (amS (vw σ) (nI (tcS σ cn k).1) cn).toInt := i32sub (by omega) (by omega) (by omega) (by omega)
      rw [Bool.or_eq_true, Bool.and_eq_true, decide_eq_true_iff, decide_eq_true_iff, decide_eq_true_iff, Int32.lt_iff_toInt_lt, es, Int32.toInt_zero, Int32.lt_iff_toInt_lt (x := amS (vw σ) (nI (tcS σ cn k).1) cn), ← Int32.toInt_inj (x := amS (vw σ) (nI (k + 1)) cn - _), es, Int32.toInt_zero, ← Int32.toInt_inj (x := amS (vw σ) (nI (k + 1)) cn)]
      constructor
      · rintro (q | ⟨q, q2⟩)
        · exact Or.inl (by omega)
        · exact Or.inr ⟨by omega, q2⟩
      · rintro (q | ⟨q, q2⟩)
        · exact Or.inl (by omega)
        · exact Or.inr ⟨by omega, q2⟩
    by_cases q : btB (vw σ) cn (k + 1) (tcS σ cn k).1 = true ∧ 0 < rtS (vw σ) n cn (k + 1) (mC (k + 1) cn ^ n)
    · rw [if_pos ⟨q.2, eb.mp q.1⟩, if_pos q]
      exact ⟨rfl, rfl⟩
    · rw [if_neg (fun y => q ⟨eb.mpr y.2, y.1⟩), if_neg q]
      exact ⟨rfl, h2⟩
theorem op_taken {σ : SS} (h : J σ) : AW 14 mX3_taken 0 (ax_en mX3_taken [.inr (0, 0)]) [] σ (K1 mX4_taken [.inr (28, 0)]) := by
  obtain ⟨n, cn, hJ⟩ := h
  have hJ0 : J σ := ⟨n, cn, hJ⟩
  obtain ⟨⟨hn, hc, h7, h8⟩, hR, ⟨hb, hC, hL, hQ, hV, hA⟩, ⟨hP, hP9⟩, ⟨hH, hH9, hM⟩, hS⟩ := hJ
  have hm0 : σ 28 0 0 = nI n := hR.1.1.trans h7
  have hm9 : σ 28 0 9 = nI cn := hR.1.2.1.trans h8
  have hmL := mLat hR hL
  have hmQ := mLiq hR hQ
  have hev := hR.ev
  refine sX3_taken hn h7 hc h8 hC hL hQ (fun σ1 hsr => ⟨_, rfl, ?_⟩)
  obtain ⟨hJ1, hres⟩ := SR_JJ ⟨⟨hn, hc, h7, h8⟩, hR, ⟨hb, hC, hL, hQ, hV, hA⟩, ⟨hP, hP9⟩, ⟨hH, hH9, hM⟩, hS⟩ hsr
  have hJ1' := hJ1
  obtain ⟨⟨-, -, h71, h81⟩, hR1, ⟨hb1, hC1, hL1, hQ1, hV1, hA1⟩, -⟩ := hJ1'
  refine sX4_taken (n := n) (cn := cn) hn (hR1.1.1.trans h71) hc (hR1.1.2.1.trans h81) (mLat hR1 hL1) (mLiq hR1 hQ1) (fun x y z f g b c => ⟨?_, n, cn, JJ_mS hJ1 x y z f g b c⟩)
  rw [ev_tkS hR1.ev, (tc_tk hc hA1 hres (2 ^ cn - 1) (Nat.le_refl _)).1]
/-- what best answers, by what the search has found -/
def bx (σ : SS) (s : Nat) (w : Int32) : Int32 := if w = 3 then σ 22 0 s else if σ 22 0 s = 0 then -9 else if w = 0 then σ 23 0 s else if w = 1 then σ 24 0 s else if w = 2 then σ 25 0 s + 100000 else if ci w < 20 then σ 26 0 (6 * s + (ci w - 10)) else σ 27 0 (6 * s + (ci w - 20))
theorem bw10 : ∀ t, t < 6 → ¬ nI (10 + t) = 3 ∧ ¬ nI (10 + t) = 0 ∧ ¬ nI (10 + t) = 1 ∧ ¬ nI (10 + t) = 2 ∧ ci (nI (10 + t)) = 10 + t := by decide
theorem bw20 : ∀ t, t < 6 → ¬ nI (20 + t) = 3 ∧ ¬ nI (20 + t) = 0 ∧ ¬ nI (20 + t) = 1 ∧ ¬ nI (20 + t) = 2 ∧ ci (nI (20 + t)) = 20 + t := by decide
theorem bx_3 {σ : SS} {s : Nat} {w : Int32} (h : w = 3) : bx σ s w = σ 22 0 s := if_pos h
theorem bx_9 {σ : SS} {s : Nat} {w : Int32} (h : ¬ w = 3) (h0 : σ 22 0 s = 0) : bx σ s w = -9 := by unfold bx; rw [if_neg h, if_pos h0]
theorem bx_0 {σ : SS} {s : Nat} {w : Int32} (h : w = 0) (h0 : ¬ σ 22 0 s = 0) : bx σ s w = σ 23 0 s := by subst h; unfold bx; rw [if_neg (by decide), if_neg h0, if_pos rfl]
theorem bx_1 {σ : SS} {s : Nat} {w : Int32} (h : w = 1) (h0 : ¬ σ 22 0 s = 0) : bx σ s w = σ 24 0 s := by subst h; unfold bx; rw [if_neg (by decide), if_neg h0, if_neg (by decide), if_pos rfl]
theorem bx_2 {σ : SS} {s : Nat} {w : Int32} (h : w = 2) (h0 : ¬ σ 22 0 s = 0) : bx σ s w = σ 25 0 s + 100000 := by subst h; unfold bx; rw [if_neg (by decide), if_neg h0, if_neg (by decide), if_neg (by decide), if_pos rfl]
theorem bx_10 {σ : SS} {s t : Nat} {w : Int32} (ht : t < 6) (h : w = nI (10 + t)) (h0 : ¬ σ 22 0 s = 0) : bx σ s w = σ 26 0 (6 * s + t) := by
  obtain ⟨a1, a2, a3, a4, a5⟩ := bw10 t ht
  subst h; unfold bx
  rw [if_neg a1, if_neg h0, if_neg a2, if_neg a3, if_neg a4, a5, if_pos (by omega), Nat.add_sub_cancel_left]
theorem bx_20 {σ : SS} {s t : Nat} {w : Int32} (ht : t < 6) (h : w = nI (20 + t)) (h0 : ¬ σ 22 0 s = 0) : bx σ s w = σ 27 0 (6 * s + t) := by
  obtain ⟨a1, a2, a3, a4, a5⟩ := bw20 t ht
  subst h; unfold bx
  rw [if_neg a1, if_neg h0, if_neg a2, if_neg a3, if_neg a4, a5, if_neg (by omega), Nat.add_sub_cancel_left]
theorem best_model {σ : SS} {n cn s : Nat} {w : Int32} (hJ : JJ σ n cn) (hres : ∀ s, s < 2 ^ cn → RES σ (vw σ) n cn s) (hs : s < 2 ^ cn) (hw : bwOK w n) : AW 6 mX4_best 0 (ax_en mX4_best [.inr (28, 0), .inl (nI s), .inl w]) [] σ (K2 (bx σ s w)) := by
  have hJ1 := hJ
  obtain ⟨⟨hn, hc, h7, h8⟩, hR, ⟨hb, hC, hL, hQ, hV, hA⟩, -⟩ := hJ1
  have hs16 : s < 16 := Nat.lt_of_lt_of_le hs (Nat.le_trans (Nat.pow_le_pow_right (by decide) hc) (by decide))
  have hp : 2 ^ cn < 2 ^ 31 := two_lt hc
  have hm0 : σ 28 0 0 = nI n := hR.1.1.trans h7
  have hm9 : σ 28 0 9 = nI cn := hR.1.2.1.trans h8
  have hev := hR.ev
  refine sX4_best (n := n) (cn := cn) hn hm0 hc hm9 (mLat hR hL) (mLiq hR hQ) (fun q => absurd ⟨(ixn_nI (by omega)).mpr hs, hw⟩ q) (fun s' hs' es' _ e => ?_)
  have es : s' = s := nI_inj (by omega) (by omega) es'.symm
  subst es
  refine sX4_best_64 (n := n) (cn := cn) hn hm0 hc hm9 (mLat hR hL) (mLiq hR hQ) hs16 hw (fun w3 y0 z0 b0 x y z f g b c => ⟨?_, n, cn, JJ_mS hJ x y z f g b c⟩) (fun w3 y0 z0 b0 q x y z f g b c => ⟨?_, n, cn, JJ_mS hJ x y z f g b c⟩) (fun y0 z0 b0 q x y z f g b c => ?_)
  · rw [bx_3 w3, ev_fbS hev]
    exact congrArg some (hres s' hs y0 z0 b0).1.symm
  · rw [ev_fbS hev] at q
    rw [bx_9 w3 ((hres s' hs y0 z0 b0).1.trans q)]
  · rw [ev_fbS hev] at q ⊢
    obtain ⟨k0, kk⟩ := hres s' hs y0 z0 b0
    obtain ⟨k1, k2, k3, k4, k5⟩ := kk q
    have q0 : ¬ σ 22 0 s' = 0 := fun y => q (k0.symm.trans y)
    refine ⟨fun e => ⟨?_, n, cn, JJ_mS hJ x y z f g b c⟩, fun e => ⟨?_, n, cn, JJ_mS hJ x y z f g b c⟩, fun e => ⟨?_, n, cn, JJ_mS hJ x y z f g b c⟩, fun t ht e => ⟨?_, n, cn, JJ_mS hJ x y z f g b c⟩, fun t ht e => ⟨?_, n, cn, JJ_mS hJ x y z f g b c⟩⟩
    · rw [bx_0 e q0]; exact congrArg some k1.symm
    · rw [bx_1 e q0]; exact congrArg some k2.symm
    · rw [bx_2 e q0, ev_liS hev]; exact congrArg (fun y => some (y + 100000)) k3.symm
    · rw [bx_10 (by omega) e q0]; exact congrArg some (k4 t ht).symm
    · rw [bx_20 (by omega) e q0]
      have e29 : σ 29 0 = (vw σ) 29 0 := funext hR.2.1
      have e38 : σ 38 0 = (vw σ) 38 0 := funext hR.2.2.2.2.2.2.2.2.2.2.1
      rw [e29, e38]
      exact congrArg some (k5 t ht).symm
theorem op_best {σ : SS} (h : J σ) (v w : Int32) : AW 14 mX3_best 0 (ax_en mX3_best [.inr (0, 0), .inl v, .inl w]) [] σ (K1 mX4_best [.inr (28, 0), .inl v, .inl w]) := by
  obtain ⟨n, cn, hJ⟩ := h
  have hJ0 : J σ := ⟨n, cn, hJ⟩
  obtain ⟨⟨hn, hc, h7, h8⟩, hR, ⟨hb, hC, hL, hQ, hV, hA⟩, ⟨hP, hP9⟩, ⟨hH, hH9, hM⟩, hS⟩ := hJ
  have hm0 : σ 28 0 0 = nI n := hR.1.1.trans h7
  have hm9 : σ 28 0 9 = nI cn := hR.1.2.1.trans h8
  have hmL := mLat hR hL
  have hmQ := mLiq hR hQ
  have hev := hR.ev
  refine sX3_best hn h7 hc h8 (fun z => ⟨_, rfl, ?_⟩) (fun s hs es hw e => ?_)
  · exact sX4_best hn hm0 hc hm9 hmL hmQ (fun _ => ⟨rfl, hJ0⟩) (fun s hs es hw e => absurd ⟨by rw [es]; exact (ixn_nI (Nat.lt_trans hs (two_lt hc))).mpr hs, hw⟩ z)
  · have hs16 : s < 16 := Nat.lt_of_lt_of_le hs (Nat.le_trans (Nat.pow_le_pow_right (by decide) hc) (by decide))
    subst es
    refine sX3_best_52 hn h7 hc h8 hC hL hQ hs16 hw (fun σ1 hsr => ?_)
    obtain ⟨hJ1, hres⟩ := SR_JJ ⟨⟨hn, hc, h7, h8⟩, hR, ⟨hb, hC, hL, hQ, hV, hA⟩, ⟨hP, hP9⟩, ⟨hH, hH9, hM⟩, hS⟩ hsr
    have M := best_model hJ1 hres hs hw
    refine ⟨fun e => ⟨_, ?_, M⟩, fun e q => ⟨_, ?_, M⟩, fun q => ⟨fun e => ⟨_, ?_, M⟩, fun e => ⟨_, ?_, M⟩, fun e => ⟨_, ?_, M⟩, fun t ht e => ⟨_, ?_, M⟩, fun t ht e => ⟨_, ?_, M⟩⟩⟩
    · rw [bx_3 e]
    · rw [bx_9 e q]
    · rw [bx_0 e q]
    · rw [bx_1 e q]
    · rw [bx_2 e q]
    · rw [bx_10 (by omega) e q]
    · rw [bx_20 (by omega) e q]
