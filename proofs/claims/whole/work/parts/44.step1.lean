/-! ===== the invariant: the class and the reference hold the same ===== -/
def pjk (a0 a9 a17 a25 : Int32) (f29 f30 f31 f32 f33 f34 f35 f36 f37 f38 f39 f40 f41 f42 f43 : Nat → Int32) : SS := fun k _ => match k with
  | 28 => fun j => if j = 0 then a0 else if j = 9 then a9 else if j = 17 then a17 else if j = 25 then a25 else 0
  | 29 => f29
  | 30 => f30
  | 31 => f31
  | 32 => f32
  | 33 => f33
  | 34 => f34
  | 35 => f35
  | 36 => f36
  | 37 => f37
  | 38 => f38
  | 39 => f39
  | 40 => f40
  | 41 => f41
  | 42 => f42
  | 43 => f43
  | _ => fun _ => 0
/-- the rows that the reference's answers depend on -/
def pj (σ : SS) : SS := pjk (σ 28 0 0) (σ 28 0 9) (σ 28 0 17) (σ 28 0 25) (σ 29 0) (σ 30 0) (σ 31 0) (σ 32 0) (σ 33 0) (σ 34 0) (σ 35 0) (σ 36 0) (σ 37 0) (σ 38 0) (σ 39 0) (σ 40 0) (σ 41 0) (σ 42 0) (σ 43 0)
def kek (a17 : Int32) (f29 f30 f31 f32 f33 f37 f38 f39 f40 f41 f42 f43 : Nat → Int32) : SS := fun k _ => match k with
  | 28 => fun j => if j = 17 then a17 else 0
  | 29 => f29
  | 30 => f30
  | 31 => f31
  | 32 => f32
  | 33 => f33
  | 37 => f37
  | 38 => f38
  | 39 => f39
  | 40 => f40
  | 41 => f41
  | 42 => f42
  | 43 => f43
  | _ => fun _ => 0
/-- the rows that a search depends on -/
def ker (σ : SS) : SS := kek (σ 28 0 17) (σ 29 0) (σ 30 0) (σ 31 0) (σ 32 0) (σ 33 0) (σ 37 0) (σ 38 0) (σ 39 0) (σ 40 0) (σ 41 0) (σ 42 0) (σ 43 0)
/-- the reference's rows are the class's -/
def RV (σ : SS) : Prop := (σ 28 0 0 = σ 0 0 7 ∧ σ 28 0 9 = σ 0 0 8 ∧ σ 28 0 17 = σ 0 0 9 ∧ σ 28 0 25 = σ 0 0 10) ∧ (∀ t, σ 29 0 t = σ 8 t 0) ∧ (∀ t, σ 30 0 t = σ 8 t 1) ∧ (∀ t, σ 31 0 t = σ 8 t 2) ∧ (∀ t, σ 32 0 t = σ 8 t 3) ∧ (∀ t, σ 33 0 t = σ 9 (t / 3) (t % 3)) ∧ (∀ t, σ 34 0 t = σ 5 0 t) ∧ (∀ t, σ 35 0 t = σ 8 t 5) ∧ (∀ t, σ 36 0 t = σ 8 t 6) ∧ (∀ t, σ 37 0 t = σ 10 t 0) ∧ (∀ t, σ 38 0 t = σ 10 t 1) ∧ (∀ t, σ 39 0 t = σ 10 t 2) ∧ (∀ t, σ 40 0 t = σ 10 t 3) ∧ (∀ t, σ 41 0 t = σ 10 t 4) ∧ (∀ t, σ 42 0 t = σ 10 t 5) ∧ (∀ t, σ 43 0 t = σ 3 0 t)
theorem RV.ev {σ : SS} (h : RV σ) : pj σ = pj (vw σ) := by
  obtain ⟨⟨r0, r9, r17, r25⟩, r29, r30, r31, r32, r33, r34, r35, r36, r37, r38, r39, r40, r41, r42, r43⟩ := h
  have e29 : σ 29 0 = (vw σ) 29 0 := funext r29
  have e30 : σ 30 0 = (vw σ) 30 0 := funext r30
  have e31 : σ 31 0 = (vw σ) 31 0 := funext r31
  have e32 : σ 32 0 = (vw σ) 32 0 := funext r32
  have e33 : σ 33 0 = (vw σ) 33 0 := funext r33
  have e34 : σ 34 0 = (vw σ) 34 0 := funext r34
  have e35 : σ 35 0 = (vw σ) 35 0 := funext r35
  have e36 : σ 36 0 = (vw σ) 36 0 := funext r36
  have e37 : σ 37 0 = (vw σ) 37 0 := funext r37
  have e38 : σ 38 0 = (vw σ) 38 0 := funext r38
  have e39 : σ 39 0 = (vw σ) 39 0 := funext r39
  have e40 : σ 40 0 = (vw σ) 40 0 := funext r40
  have e41 : σ 41 0 = (vw σ) 41 0 := funext r41
  have e42 : σ 42 0 = (vw σ) 42 0 := funext r42
  have e43 : σ 43 0 = (vw σ) 43 0 := funext r43
  have q0 : σ 28 0 0 = (vw σ) 28 0 0 := r0
  have q9 : σ 28 0 9 = (vw σ) 28 0 9 := r9
  have q17 : σ 28 0 17 = (vw σ) 28 0 17 := r17
  have q25 : σ 28 0 25 = (vw σ) 28 0 25 := r25
  unfold pj
  rw [q0, q9, q17, q25, e29, e30, e31, e32, e33, e34, e35, e36, e37, e38, e39, e40, e41, e42, e43]
theorem ev_whyS {σ τ : SS} (h : pj σ = pj τ) (t c : Nat) : whyS σ t c = whyS τ t c := by
  have e := congrArg (fun x => whyS x t c) h
  exact e
theorem ev_wfS {σ τ : SS} (h : pj σ = pj τ) (t c : Nat) : wfS σ t c = wfS τ t c := by
  have e := congrArg (fun x => wfS x t c) h
  exact e
theorem ev_ofTankM {σ τ : SS} (h : pj σ = pj τ) (a j : Nat) : ofTankM σ a j = ofTankM τ a j := by
  have e := congrArg (fun x => ofTankM x a j) h
  exact e
theorem ev_ofCargoM {σ τ : SS} (h : pj σ = pj τ) (n cn a j : Nat) : ofCargoM σ n cn a j = ofCargoM τ n cn a j := by
  have e := congrArg (fun x => ofCargoM x n cn a j) h
  exact e
theorem ev_brS {σ τ : SS} (h : pj σ = pj τ) (f : Nat → Int32) (n cn : Nat) (v : Int32) : brS σ f n cn v = brS τ f n cn v := by
  have e := congrArg (fun x => brS x f n cn v) h
  exact e
theorem ev_coS {σ τ : SS} (h : pj σ = pj τ) (f : Nat → Int32) (n : Nat) : coS σ f n = coS τ f n := by
  have e := congrArg (fun x => coS x f n) h
  exact e
theorem ev_liS {σ τ : SS} (h : pj σ = pj τ) (f : Nat → Int32) (n cn : Nat) : liS σ f n cn = liS τ f n cn := by
  have e := congrArg (fun x => liS x f n cn) h
  exact e
theorem ev_manyM {σ τ : SS} (h : pj σ = pj τ) (n j : Nat) : manyM σ n j = manyM τ n j := by
  have e := congrArg (fun x => manyM x n j) h
  exact e
theorem ev_amS {σ τ : SS} (h : pj σ = pj τ) (v : Int32) (n : Nat) : amS σ v n = amS τ v n := by
  have e := congrArg (fun x => amS x v n) h
  exact e
theorem ev_prB {σ τ : SS} (h : pj σ = pj τ) (n a b : Nat) (v : Int32) : prB σ n a b v = prB τ n a b v := by
  have e := congrArg (fun x => prB x n a b v) h
  exact e
theorem ev_btB {σ τ : SS} (h : pj σ = pj τ) (cn s t : Nat) : btB σ cn s t = btB τ cn s t := by
  have e := congrArg (fun x => btB x cn s t) h
  exact e
theorem ev_stS {σ τ : SS} (h : pj σ = pj τ) (n cn : Nat) (v : Int32) (f : Nat → Int32) (a : SA) : stS σ n cn v f a = stS τ n cn v f a := by
  have e := congrArg (fun x => stS x n cn v f a) h
  exact e
theorem ev_fbS {σ τ : SS} (h : pj σ = pj τ) (n cn s k : Nat) (a : SA) : fbS σ n cn s k a = fbS τ n cn s k a := lp_congr k (fun r _ a => ev_stS h n cn (nI s) _ a)
theorem ev_rtS {σ τ : SS} (h : pj σ = pj τ) (n cn s k : Nat) : rtS σ n cn s k = rtS τ n cn s k := lp_congr k (fun r _ a => by rw [ev_brS h])
theorem ev_tkS {σ τ : SS} (h : pj σ = pj τ) (n cn k : Nat) : tkS σ n cn k = tkS τ n cn k := lp_congr k (fun r _ a => by rw [ev_btB h, ev_rtS h])
theorem ke_stS {σ τ : SS} (h : ker σ = ker τ) (n cn : Nat) (v : Int32) (f : Nat → Int32) (a : SA) : stS σ n cn v f a = stS τ n cn v f a := by
  have e := congrArg (fun x => stS x n cn v f a) h
  exact e
theorem ke_fbS {σ τ : SS} (h : ker σ = ker τ) (n cn s k : Nat) (a : SA) : fbS σ n cn s k a = fbS τ n cn s k a := lp_congr k (fun r _ a => ke_stS h n cn (nI s) _ a)
theorem ke_KR {σ τ : SS} (h : ker σ = ker τ) (n cn s : Nat) (R : RR) (a : SA) : KR σ n cn s R a = KR τ n cn s R a := by
  have e := congrArg (fun x => KR x n cn s R a) h
  exact e
theorem ke_RES {σ σ' τ τ' : SS} {n cn s : Nat} (h : RES σ τ n cn s) (hk : ker τ = ker τ') (e : ∀ k, 22 ≤ k → k ≤ 27 → σ' k 0 = σ k 0) : RES σ' τ' n cn s := by
  intro y z b
  have := h y z b
  rw [ke_fbS hk, ke_KR hk, ← e 22 (by decide) (by decide), ← e 23 (by decide) (by decide), ← e 24 (by decide) (by decide), ← e 25 (by decide) (by decide), ← e 26 (by decide) (by decide), ← e 27 (by decide) (by decide)] at this
  exact this
/-- n tanks, cn cargoes: what holds ahead of each operation -/
def JJ (σ : SS) (n cn : Nat) : Prop := (n ≤ 6 ∧ cn ≤ 4 ∧ σ 0 0 7 = nI n ∧ σ 0 0 8 = nI cn) ∧ RV σ ∧
  (0 ≤ σ 0 0 9 ∧ (∀ t, t < 6 → 0 ≤ σ 8 t 1) ∧ (∀ t k, t < 6 → k < 3 → lt9 (σ 9 t k)) ∧ (∀ c, c < 4 → ∃ j, j < 8 ∧ σ 10 c 0 = nI j) ∧ vOK n (fun t => σ 8 t 0) ∧ aOK cn (fun c => σ 10 c 1)) ∧
  (okT 6 cn (σ 5 0) ∧ ∀ t, n ≤ t → t < 6 → σ 5 0 t = -9) ∧
  (okT 6 cn (fun t => σ 8 t 5) ∧ (∀ t, n ≤ t → t < 6 → σ 8 t 5 = -9) ∧ ∀ t, t < 6 → σ 8 t 5 = -9 → σ 8 t 6 = 0) ∧
  (¬ σ 0 0 11 = 0 → ∀ s, s < 2 ^ cn → RES σ (vw σ) n cn s)
def J (σ : SS) : Prop := ∃ n cn, JJ σ n cn
/-- the reference answers x too, and all holds again -/
def K2 (x : Int32) : ax_K := fun r σ => r = some x ∧ J σ
/-- the class answers; then the reference is asked -/
def K1 (m : ax_M) (avs : List AV) : ax_K := fun r σ => ∃ x, r = some x ∧ AW 6 m 0 (ax_en m avs) [] σ (K2 x)
theorem mLat {σ : SS} (hR : RV σ) (hL : ∀ t k, t < 6 → k < 3 → lt9 (σ 9 t k)) : ∀ x, x < 18 → lt9 (σ 33 0 x) := fun x hx => by
  rw [hR.2.2.2.2.2.1 x]
  exact hL _ _ (by omega) (by omega)
theorem mLiq {σ : SS} (hR : RV σ) (hQ : ∀ c, c < 4 → ∃ j, j < 8 ∧ σ 10 c 0 = nI j) : ∀ c, c < 4 → ∃ j, j < 8 ∧ σ 37 0 c = nI j := fun c hc => by
  rw [hR.2.2.2.2.2.2.2.2.2.1 c]
  exact hQ c hc
theorem okT_le {n m cn : Nat} {f : Nat → Int32} (h : okT m cn f) (hn : n ≤ m) : okT n cn f := fun t ht => h t (by omega)
theorem okT_up {n cn cm : Nat} {f : Nat → Int32} (h : okT n cn f) (hc : cn ≤ cm) : okT n cm f := fun t ht => (h t ht).imp id (fun q => vp_mono q hc)
theorem vOK_of {n : Nat} {f g : Nat → Int32} (h : vOK n f) (e : ∀ t, t < n → g t = f t) : vOK n g := fun t ht => by rw [e t ht]; exact h t ht
theorem aOK_of {n : Nat} {f g : Nat → Int32} (h : aOK n f) (e : ∀ t, t < n → g t = f t) : aOK n g := fun t ht => by rw [e t ht]; exact h t ht
theorem okT_of {n cn : Nat} {f g : Nat → Int32} (h : okT n cn f) (e : ∀ t, t < n → g t = f t) : okT n cn g := fun t ht => by rw [e t ht]; exact h t ht
theorem lq_nI : ∀ a, a < 8 → lq (nI a) := by decide
theorem bd3 : ∀ b, b < 3 → nI b ≤ 2 := by decide
theorem le_0_32 {x : Int32} : 0 ≤ x ↔ 0 ≤ x.toInt := by rw [Int32.le_iff_toInt_le, Int32.toInt_zero]
theorem op_tank {σ : SS} (h : J σ) (v c l : Int32) : AW 14 mX3_tank 0 (ax_en mX3_tank [.inr (0, 0), .inl v, .inl c, .inl l]) [] σ (K1 mX4_tank [.inr (28, 0), .inl v, .inl c, .inl l]) := by
  obtain ⟨n, cn, hJ⟩ := h
  have hJ0 : J σ := ⟨n, cn, hJ⟩
  obtain ⟨⟨hn, hc, h7, h8⟩, hR, ⟨hb, hC, hL, hQ, hV, hA⟩, ⟨hP, hP9⟩, ⟨hH, hH9, hM⟩, hS⟩ := hJ
  have hm0 : σ 28 0 0 = nI n := hR.1.1.trans h7
  have hm9 : σ 28 0 9 = nI cn := hR.1.2.1.trans h8
  have hmL := mLat hR hL
  have hmQ := mLiq hR hQ
  have hev := hR.ev
  refine sX3_tank hn h7 (fun z => ⟨_, rfl, ?_⟩) (fun z e => ⟨_, rfl, ?_⟩) (fun z e => ⟨_, rfl, ?_⟩)
  · exact sX4_tank hn hm0 (fun _ => ⟨rfl, hJ0⟩) (fun q => absurd q z) (fun q => absurd q z)
  · exact sX4_tank hn hm0 (fun q => absurd z q) (fun _ _ => ⟨rfl, hJ0⟩) (fun _ q => absurd q (by omega))
  · refine sX4_tank (n := n) hn hm0 (fun q => absurd z q) (fun _ q => absurd q (by omega)) (fun _ _ => ⟨rfl, n + 1, cn, ?_⟩)
    obtain ⟨⟨r0, r9, r17, r25⟩, r29, r30, r31, r32, r33, r34, r35, r36, r37, r38, r39, r40, r41, r42, r43⟩ := hR
    refine ⟨⟨by omega, hc, rfl, h8⟩, ?_, ⟨hb, fun t ht => ?_, hL, hQ, fun t ht => ?_, hA⟩, ⟨hP, fun t h1 => hP9 t (by omega)⟩, ⟨fun t ht => ?_, fun t h1 h2 => ?_, fun t ht => ?_⟩, fun q => absurd rfl q⟩
    · exact ⟨⟨rfl, r9, r17, r25⟩, fun t => by
      by_cases e : t = n
      · simp [rp, upd, e, r29]
      · simp [rp, upd, e, r29], fun t => by
      by_cases e : t = n
      · simp [rp, upd, e, r30]
      · simp [rp, upd, e, r30], fun t => by
      by_cases e : t = n
      · simp [rp, upd, e, r31]
      · simp [rp, upd, e, r31], fun t => by
      by_cases e : t = n
      · simp [rp, upd, e, r32]
      · simp [rp, upd, e, r32], r33, r34, fun t => by
      by_cases e : t = n
      · simp [rp, upd, e, r35]
      · simp [rp, upd, e, r35], fun t => by
      by_cases e : t = n
      · simp [rp, upd, e, r36]
      · simp [rp, upd, e, r36], r37, r38, r39, r40, r41, r42, r43⟩
    · by_cases q : t = n
      · subst q; simpa [rp, upd] using z.2.1.1
      · simpa [rp, upd, q] using hC t ht
    · by_cases q : t = n
      · subst q
        have := z.1
        simp only [Int32.le_iff_toInt_le] at this
        simpa [rp, upd] using this
      · simpa [rp, upd, q] using hV t (by omega)
    · by_cases q : t = n
      · subst q; simpa [rp, upd] using hH t ht
      · simpa [rp, upd, q] using hH t ht
    · by_cases q : t = n
      · omega
      · simpa [rp, upd, q] using hH9 t (by omega) h2
    · by_cases q : t = n
      · subst q; simpa [rp, upd] using hM t ht
      · simpa [rp, upd, q] using hM t ht
theorem op_neighbours {σ : SS} (h : J σ) (i j b3 : Int32) : AW 14 mX3_neighbours 0 (ax_en mX3_neighbours [.inr (0, 0), .inl i, .inl j, .inl b3]) [] σ (K1 mX4_neighbours [.inr (28, 0), .inl i, .inl j, .inl b3]) := by
  obtain ⟨n, cn, hJ⟩ := h
  have hJ0 : J σ := ⟨n, cn, hJ⟩
  obtain ⟨⟨hn, hc, h7, h8⟩, hR, ⟨hb, hC, hL, hQ, hV, hA⟩, ⟨hP, hP9⟩, ⟨hH, hH9, hM⟩, hS⟩ := hJ
  have hm0 : σ 28 0 0 = nI n := hR.1.1.trans h7
  have hm9 : σ 28 0 9 = nI cn := hR.1.2.1.trans h8
  have hmL := mLat hR hL
  have hmQ := mLiq hR hQ
  have hev := hR.ev
  refine sX3_neighbours hn h7 (fun z => ⟨_, rfl, ?_⟩) (fun a b ha hb' hab ei ej z => ⟨_, rfl, ?_⟩) (fun a b ha hb' hab ei ej z => ⟨_, rfl, ?_⟩)
  · refine sX4_neighbours hn hm0 (fun _ => ⟨rfl, hJ0⟩) (fun a b ha hb' hab ei ej _ => absurd ?_ z) (fun a b ha hb' hab ei ej _ => absurd ?_ z)
    all_goals (subst ei; subst ej; exact ⟨(ixn_nI (by omega)).mpr ha, (ixn_nI (by omega)).mpr hb', fun q => hab (nI_inj (by omega) (by omega) q)⟩)
  · refine sX4_neighbours hn hm0 (fun q => absurd ?_ q) (fun _ _ _ _ _ _ _ _ => ⟨rfl, hJ0⟩) (fun a' b' _ _ _ ei' ej' q => absurd ?_ q)
    · subst ei; subst ej; exact ⟨(ixn_nI (by omega)).mpr ha, (ixn_nI (by omega)).mpr hb', fun q => hab (nI_inj (by omega) (by omega) q)⟩
    · have ea : a' = a := nI_inj (by omega) (by omega) (ei'.symm.trans ei)
      have eb : b' = b := nI_inj (by omega) (by omega) (ej'.symm.trans ej)
      subst ea; subst eb
      rw [hR.2.2.2.2.1]
      exact z
  · refine sX4_neighbours (n := n) hn hm0 (fun q => absurd ?_ q) (fun a' b' _ _ _ ei' ej' q => absurd ?_ z) (fun a' b' _ _ _ ei' ej' q => ⟨rfl, n, cn, ?_⟩)
    · subst ei; subst ej; exact ⟨(ixn_nI (by omega)).mpr ha, (ixn_nI (by omega)).mpr hb', fun q => hab (nI_inj (by omega) (by omega) q)⟩
    · have ea : a' = a := nI_inj (by omega) (by omega) (ei'.symm.trans ei)
      have eb : b' = b := nI_inj (by omega) (by omega) (ej'.symm.trans ej)
      subst ea; subst eb
      rw [← hR.2.2.2.2.1]
      exact q
    · have ea : a' = a := nI_inj (by omega) (by omega) (ei'.symm.trans ei)
      have eb : b' = b := nI_inj (by omega) (by omega) (ej'.symm.trans ej)
      subst ea; subst eb
      obtain ⟨⟨r0, r9, r17, r25⟩, r29, r30, r31, r32, r33, r34, r35, r36, r37, r38, r39, r40, r41, r42, r43⟩ := hR
      have e5 : ∀ t j, j ≠ 3 → (rp (rp σ 8 a' (upd (σ 8 a') 3 (σ 8 a' 3 ^^^ bt b'))) 8 b' (upd (σ 8 b') 3 (σ 8 b' 3 ^^^ bt a'))) 8 t j = σ 8 t j := by
        intro t j h1
        by_cases q2 : t = b'
        · rw [q2, rp_at, pk_un h1]
        · rw [rp_ne (fun z => q2 z.2)]
          by_cases q : t = a'
          · rw [q, rp_at, pk_un h1]
          · rw [rp_ne (fun z => q z.2)]
      refine ⟨⟨hn, hc, h7, h8⟩, ?_, ⟨hb, fun t ht => (e5 t 1 (by decide)).symm ▸ hC t ht, hL, hQ, vOK_of hV (fun t _ => e5 t 0 (by decide)), hA⟩, ⟨hP, hP9⟩, ⟨okT_of hH (fun t _ => e5 t 5 (by decide)), fun t h1 h2 => (e5 t 5 (by decide)).trans (hH9 t h1 h2), fun t ht q => (e5 t 6 (by decide)).trans (hM t ht ((e5 t 5 (by decide)).symm.trans q))⟩, fun q => absurd rfl q⟩
      exact ⟨⟨r0, r9, r17, r25⟩, fun t => (r29 t).trans (e5 t 0 (by decide)).symm, fun t => (r30 t).trans (e5 t 1 (by decide)).symm, fun t => (r31 t).trans (e5 t 2 (by decide)).symm, fun t => by
        by_cases q : t = a' <;> by_cases q2 : t = b' <;> simp [rp, upd, q, q2, r32, hab], r33, r34, fun t => (r35 t).trans (e5 t 5 (by decide)).symm, fun t => (r36 t).trans (e5 t 6 (by decide)).symm, r37, r38, r39, r40, r41, r42, r43⟩
theorem op_latest {σ : SS} (h : J σ) (t k l : Int32) : AW 14 mX3_latest 0 (ax_en mX3_latest [.inr (0, 0), .inl t, .inl k, .inl l]) [] σ (K1 mX4_latest [.inr (28, 0), .inl t, .inl k, .inl l]) := by
  obtain ⟨n, cn, hJ⟩ := h
  have hJ0 : J σ := ⟨n, cn, hJ⟩
  obtain ⟨⟨hn, hc, h7, h8⟩, hR, ⟨hb, hC, hL, hQ, hV, hA⟩, ⟨hP, hP9⟩, ⟨hH, hH9, hM⟩, hS⟩ := hJ
  have hm0 : σ 28 0 0 = nI n := hR.1.1.trans h7
  have hm9 : σ 28 0 9 = nI cn := hR.1.2.1.trans h8
  have hmL := mLat hR hL
  have hmQ := mLiq hR hQ
  have hev := hR.ev
  refine sX3_latest hn h7 (fun z => ⟨_, rfl, ?_⟩) (fun z1 z => ⟨_, rfl, ?_⟩) (fun a b ha hb' ei ej z => ⟨_, rfl, ?_⟩)
  · refine sX4_latest hn hm0 (fun _ => ⟨rfl, hJ0⟩) (fun q => absurd q z) (fun a b ha hb' ei ej _ => absurd ?_ z)
    subst ei; exact (ixn_nI (by omega)).mpr ha
  · refine sX4_latest hn hm0 (fun q => absurd z1 q) (fun _ _ => ⟨rfl, hJ0⟩) (fun a b ha hb' ei ej q => absurd ⟨?_, q⟩ z)
    subst ej; exact ⟨nI_pos' (by omega), bd3 b hb'⟩
  · have hx1 : ixn t n := by subst ei; exact (ixn_nI (by omega)).mpr ha
    have hx2 : 0 ≤ k ∧ k ≤ 2 := by subst ej; exact ⟨nI_pos' (by omega), bd3 b hb'⟩
    refine sX4_latest (n := n) hn hm0 (fun q => absurd hx1 q) (fun _ q => absurd ⟨hx2, z⟩ q) (fun a' b' _ _ ei' ej' q => ?_)
    · have ea : a' = a := nI_inj (by omega) (by omega) (ei'.symm.trans ei)
      have eb : b' = b := nI_inj (by omega) (by omega) (ej'.symm.trans ej)
      subst ea; subst eb
      obtain ⟨⟨r0, r9, r17, r25⟩, r29, r30, r31, r32, r33, r34, r35, r36, r37, r38, r39, r40, r41, r42, r43⟩ := hR
      refine ⟨?_, n, cn, ⟨hn, hc, h7, h8⟩, ?_, ⟨hb, hC, fun t k ht hk => ?_, hQ, hV, hA⟩, ⟨hP, hP9⟩, ⟨hH, hH9, hM⟩, fun q => absurd rfl q⟩
      · show some (σ 33 0 (3 * a' + b')) = some (σ 9 a' b')
        rw [r33, show (3 * a' + b') / 3 = a' by omega, show (3 * a' + b') % 3 = b' by omega]
      · exact ⟨⟨r0, r9, r17, r25⟩, r29, r30, r31, r32, fun x => by
        show upd (σ 33 0) (3 * a' + b') l x = (rp σ 9 a' (upd (σ 9 a') b' l)) 9 (x / 3) (x % 3)
        by_cases q : x / 3 = a'
        · by_cases q2 : x % 3 = b'
          · rw [show x = 3 * a' + b' by omega, pk_us, show (3 * a' + b') / 3 = a' by omega, show (3 * a' + b') % 3 = b' by omega, rp_at, pk_us]
          · rw [q, rp_at, pk_un q2, pk_un (show x ≠ 3 * a' + b' by omega), r33, q]
        · rw [rp_ne (fun z => q z.2), pk_un (show x ≠ 3 * a' + b' by omega), r33], r34, r35, r36, r37, r38, r39, r40, r41, r42, r43⟩
      · show lt9 ((rp σ 9 a' (upd (σ 9 a') b' l)) 9 t k)
        by_cases q : t = a'
        · by_cases q2 : k = b'
          · subst q; subst q2
            rw [rp_at, pk_us]
            exact z.imp id lq_of
          · subst q
            rw [rp_at, pk_un q2]
            exact hL _ _ ht hk
        · rw [rp_ne (fun z => q z.2)]
          exact hL _ _ ht hk
