/-! ===== unloading, pouring ===== -/
/-- a tank's last liquids, one more -/
def shL (f : Nat → Int32) (l : Int32) : Nat → Int32 := upd (upd (upd f 2 (f 1)) 1 (f 0)) 0 l
theorem uc8 {σ : SS} {c l : Int32} (t : Nat) : ∀ i, ucS σ c l i 8 t = if t < i ∧ σ 8 t 5 = c then upd (upd (σ 8 t) 5 (-9)) 6 0 else σ 8 t
  | 0 => by rw [if_neg (fun z => Nat.not_lt_zero t z.1)]; rfl
  | i + 1 => by
    rw [ucS_s]
    by_cases h : σ 8 i 5 = c
    · rw [if_pos h]
      by_cases e : t = i
      · subst e
        unfold leS
        rw [rp_nk (by decide), rp_at, ucS_i t (Nat.le_refl t), if_pos ⟨by omega, h⟩]
      · rw [leS_i e, uc8 t i]
        by_cases h2 : t < i ∧ σ 8 t 5 = c
        · rw [if_pos h2, if_pos ⟨by omega, h2.2⟩]
        · rw [if_neg h2, if_neg (fun z => h2 ⟨by omega, z.2⟩)]
    · rw [if_neg h, uc8 t i]
      by_cases h2 : t < i ∧ σ 8 t 5 = c
      · rw [if_pos h2, if_pos ⟨by omega, h2.2⟩]
      · rw [if_neg h2, if_neg (fun z => h2 ⟨by
          have : t ≠ i := fun y => h (y ▸ z.2)
          omega, z.2⟩)]
theorem uc9 {σ : SS} {c l : Int32} (t : Nat) : ∀ i, ucS σ c l i 9 t = if t < i ∧ σ 8 t 5 = c then shL (σ 9 t) l else σ 9 t
  | 0 => by rw [if_neg (fun z => Nat.not_lt_zero t z.1)]; rfl
  | i + 1 => by
    rw [ucS_s]
    by_cases h : σ 8 i 5 = c
    · rw [if_pos h]
      by_cases e : t = i
      · subst e
        unfold leS
        rw [rp_at, ucS_i t (Nat.le_refl t), if_pos ⟨by omega, h⟩]
        rfl
      · rw [leS_i e, uc9 t i]
        by_cases h2 : t < i ∧ σ 8 t 5 = c
        · rw [if_pos h2, if_pos ⟨by omega, h2.2⟩]
        · rw [if_neg h2, if_neg (fun z => h2 ⟨by omega, z.2⟩)]
    · rw [if_neg h, uc9 t i]
      by_cases h2 : t < i ∧ σ 8 t 5 = c
      · rw [if_pos h2, if_pos ⟨by omega, h2.2⟩]
      · rw [if_neg h2, if_neg (fun z => h2 ⟨by
          have : t ≠ i := fun y => h (y ▸ z.2)
          omega, z.2⟩)]
theorem latUp_at {L : Nat → Int32} {a x : Nat} {l : Int32} : latUp L a l x = if x / 3 = a then (if x % 3 = 0 then l else L (x - 1)) else L x := by
  unfold latUp upd
  by_cases h : x / 3 = a
  · rw [if_pos h]
    by_cases h0 : x % 3 = 0
    · rw [if_pos (by omega), if_pos h0]
    · rw [if_neg (by omega), if_neg h0]
      by_cases h1 : x % 3 = 1
      · rw [if_pos (by omega), show x - 1 = 3 * a by omega]
      · rw [if_neg (by omega), if_pos (by omega), show x - 1 = 3 * a + 1 by omega]
  · rw [if_neg h, if_neg (by omega), if_neg (by omega), if_neg (by omega)]
theorem ulL_at {h : Nat → Int32} {c l : Int32} {L : Nat → Int32} : ∀ (i x : Nat), ulL h c l L i x = if x / 3 < i ∧ h (x / 3) = c then (if x % 3 = 0 then l else L (x - 1)) else L x
  | 0, x => by rw [if_neg (fun z => Nat.not_lt_zero _ z.1)]; rfl
  | i + 1, x => by
    rw [ulL_s]
    by_cases hi : h i = c
    · rw [if_pos hi, latUp_at]
      by_cases e : x / 3 = i
      · rw [if_pos e, if_pos (show x / 3 < i + 1 ∧ h (x / 3) = c from ⟨by omega, e.symm ▸ hi⟩)]
        by_cases h0 : x % 3 = 0
        · rw [if_pos h0, if_pos h0]
        · rw [if_neg h0, if_neg h0, ulL_at i (x - 1), if_neg (show ¬ ((x - 1) / 3 < i ∧ h ((x - 1) / 3) = c) from fun z => by have := z.1; omega)]
      · rw [if_neg e, ulL_at i x]
        by_cases h2 : x / 3 < i ∧ h (x / 3) = c
        · rw [if_pos h2, if_pos (show x / 3 < i + 1 ∧ h (x / 3) = c from ⟨by omega, h2.2⟩)]
        · rw [if_neg h2, if_neg (fun z => h2 ⟨by omega, z.2⟩)]
    · rw [if_neg hi, ulL_at i x]
      by_cases h2 : x / 3 < i ∧ h (x / 3) = c
      · rw [if_pos h2, if_pos (show x / 3 < i + 1 ∧ h (x / 3) = c from ⟨by omega, h2.2⟩)]
      · rw [if_neg h2, if_neg (fun z => h2 ⟨by
          have : x / 3 ≠ i := fun y => hi (y ▸ z.2)
          omega, z.2⟩)]
theorem shL_at {f : Nat → Int32} {l : Int32} {x : Nat} : shL f l (x % 3) = if x % 3 = 0 then l else f (x % 3 - 1) := by
  unfold shL upd
  by_cases h0 : x % 3 = 0
  · rw [if_pos h0, if_pos h0]
  · rw [if_neg h0, if_neg h0]
    by_cases h1 : x % 3 = 1
    · rw [if_pos h1, h1]
    · rw [if_neg h1, if_pos (by omega), show x % 3 - 1 = 1 by omega]
theorem shL_ok {f : Nat → Int32} {l : Int32} {k : Nat} (hl : lt9 l) (hf : ∀ j, j < 3 → lt9 (f j)) (hk : k < 3) : lt9 (shL f l k) := by
  have := shL_at (f := f) (l := l) (x := k)
  rw [Nat.mod_eq_of_lt hk] at this
  rw [this]
  by_cases h0 : k = 0
  · rw [if_pos h0]; exact hl
  · rw [if_neg h0]; exact hf _ (by omega)
theorem uc_no {σ : SS} {c l : Int32} : ∀ i, (∀ t, t < i → ¬ σ 8 t 5 = c) → ucS σ c l i = σ
  | 0, _ => rfl
  | i + 1, h => by rw [ucS_s, if_neg (h i (by omega)), uc_no i (fun t ht => h t (by omega))]
theorem op_unload {σ : SS} (h : J σ) (c : Int32) : AW 14 mX3_unload 0 (ax_en mX3_unload [.inr (0, 0), .inl c]) [] σ (K1 mX4_unload [.inr (28, 0), .inl c]) := by
  obtain ⟨n, cn, hJ⟩ := h
  have hJ0 : J σ := ⟨n, cn, hJ⟩
  obtain ⟨⟨hn, hc, h7, h8⟩, hR, ⟨hb, hC, hL, hQ, hV, hA⟩, ⟨hP, hP9⟩, ⟨hH, hH9, hM⟩, hS⟩ := hJ
  have hm0 : σ 28 0 0 = nI n := hR.1.1.trans h7
  have hm9 : σ 28 0 9 = nI cn := hR.1.2.1.trans h8
  have hmL := mLat hR hL
  have hmQ := mLiq hR hQ
  have hev := hR.ev
  have hcnt : cntI n (fun t => σ 35 0 t = c) = cntI n (fun t => σ 8 t 5 = c) := cnt_eq n (fun t => by rw [hR.2.2.2.2.2.2.2.1])
  refine sX3_unload hn h7 hc h8 (fun z => ⟨_, rfl, ?_⟩) (fun z1 z l => ⟨_, rfl, ?_⟩) (fun a ha ea z => ⟨_, rfl, ?_⟩)
  · refine sX4_unload hn hm0 hc hm9 (fun _ => ⟨rfl, hJ0⟩) (fun q => absurd q z) (fun a ha ea _ => absurd ?_ z)
    subst ea; exact (ixn_nI (by omega)).mpr ha
  · rw [uc_no n (cnt_0 (by omega) z)]
    exact sX4_unload hn hm0 hc hm9 (fun q => absurd z1 q) (fun _ _ => ⟨rfl, hJ0⟩) (fun a ha ea q => absurd (hcnt.trans z) q)
  · have hx1 : ixn c cn := by subst ea; exact (ixn_nI (by omega)).mpr ha
    have hck : ∀ k i, k ≠ 8 → k ≠ 9 → ucS σ c (σ 10 a 0) n k i = σ k i := fun k i h1 h2 => ucS_k h1 h2 n
    have hk : ∀ k, 28 ≤ k → (rp (ucS σ c (σ 10 a 0) n) 0 0 (upd (σ 0 0) 11 0)) k 0 = σ k 0 := fun k h1 => by rw [rp_nk (by omega), hck k 0 (by omega) (by omega)]
    generalize e2 : rp (ucS σ c (σ 10 a 0) n) 0 0 (upd (σ 0 0) 11 0) = σ2 at hk ⊢
    have hct2 : cntI n (fun t => σ2 35 0 t = c) = cntI n (fun t => σ 8 t 5 = c) := by rw [hk 35 (by decide)]; exact hcnt
    refine sX4_unload (n := n) (cn := cn) hn (by rw [hk 28 (by decide)]; exact hm0) hc (by rw [hk 28 (by decide)]; exact hm9) (fun q => absurd hx1 q) (fun _ q => absurd (hct2.symm.trans q) z) (fun a' ha' ea' _ => ⟨congrArg some hct2, n, cn, ?_⟩)
    have e1 : a' = a := nI_inj (by omega) (by omega) (ea'.symm.trans ea)
    subst e1
    obtain ⟨⟨r0, r9, r17, r25⟩, r29, r30, r31, r32, r33, r34, r35, r36, r37, r38, r39, r40, r41, r42, r43⟩ := hR
    have o0 : σ2 0 0 = upd (σ 0 0) 11 0 := by rw [← e2, rp_at]
    have ok : ∀ k i, k ≠ 0 → k ≠ 8 → k ≠ 9 → σ2 k i = σ k i := fun k i h1 h2 h3 => by rw [← e2, rp_nk h1, hck k i h2 h3]
    have o8 : ∀ t, σ2 8 t = if t < n ∧ σ 8 t 5 = c then upd (upd (σ 8 t) 5 (-9)) 6 0 else σ 8 t := fun t => by rw [← e2, rp_nk (by decide), uc8 t n]
    have o9 : ∀ t, σ2 9 t = if t < n ∧ σ 8 t 5 = c then shL (σ 9 t) (σ 10 a' 0) else σ 9 t := fun t => by rw [← e2, rp_nk (by decide), uc9 t n]
    have o8o : ∀ t j, j ≠ 5 → j ≠ 6 → σ2 8 t j = σ 8 t j := fun t j h5 h6 => by
      rw [o8]
      by_cases y : t < n ∧ σ 8 t 5 = c
      · rw [if_pos y, pk_un h6, pk_un h5]
      · rw [if_neg y]
    have o85 : ∀ t, σ2 8 t 5 = if t < n ∧ σ 8 t 5 = c then -9 else σ 8 t 5 := fun t => by
      rw [o8]
      by_cases y : t < n ∧ σ 8 t 5 = c
      · rw [if_pos y, if_pos y, pk_un (by decide), pk_us]
      · rw [if_neg y, if_neg y]
    have o86 : ∀ t, σ2 8 t 6 = if t < n ∧ σ 8 t 5 = c then 0 else σ 8 t 6 := fun t => by
      rw [o8]
      by_cases y : t < n ∧ σ 8 t 5 = c
      · rw [if_pos y, if_pos y, pk_us]
      · rw [if_neg y, if_neg y]
    have hl37 : σ2 37 0 a' = σ 10 a' 0 := by rw [hk 37 (by decide), r37]
    have hlq : lt9 (σ 10 a' 0) := by
      obtain ⟨j, h1, h2⟩ := hQ a' (by omega)
      exact Or.inr ⟨j, h1, h2⟩
    rw [hl37]
    refine ⟨⟨hn, hc, ?_, ?_⟩, ⟨⟨?_, ?_, ?_, ?_⟩, fun t => ?_, fun t => ?_, fun t => ?_, fun t => ?_, fun x => ?_, fun t => ?_, fun t => ?_, fun t => ?_, fun t => ?_, fun t => ?_, fun t => ?_, fun t => ?_, fun t => ?_, fun t => ?_, fun t => ?_⟩, ⟨?_, fun t ht => ?_, fun t k ht hk3 => ?_, fun c' hc' => ?_, vOK_of hV (fun t _ => o8o t 0 (by decide) (by decide)), aOK_of hA (fun t _ => congrFun (ok 10 t (by decide) (by decide) (by decide)) 1)⟩, ⟨?_, fun t h1 h2 => ?_⟩, ⟨fun t ht => ?_, fun t h1 h2 => ?_, fun t ht q => ?_⟩, fun q => absurd ?_ q⟩
    · show σ2 0 0 7 = nI n
      rw [o0]; exact h7
    · show σ2 0 0 8 = nI cn
      rw [o0]; exact h8
    · show σ2 28 0 0 = σ2 0 0 7
      rw [o0, hk 28 (by decide)]; exact r0
    · show σ2 28 0 9 = σ2 0 0 8
      rw [o0, hk 28 (by decide)]; exact r9
    · show σ2 28 0 17 = σ2 0 0 9
      rw [o0, hk 28 (by decide)]; exact r17
    · show σ2 28 0 25 = σ2 0 0 10
      rw [o0, hk 28 (by decide)]; exact r25
    · show σ2 29 0 t = σ2 8 t 0
      rw [hk 29 (by decide), o8o t 0 (by decide) (by decide)]; exact r29 t
    · show σ2 30 0 t = σ2 8 t 1
      rw [hk 30 (by decide), o8o t 1 (by decide) (by decide)]; exact r30 t
    · show σ2 31 0 t = σ2 8 t 2
      rw [hk 31 (by decide), o8o t 2 (by decide) (by decide)]; exact r31 t
    · show σ2 32 0 t = σ2 8 t 3
      rw [hk 32 (by decide), o8o t 3 (by decide) (by decide)]; exact r32 t
    · show ulL (σ2 35 0) c (σ 10 a' 0) (σ2 33 0) n x = σ2 9 (x / 3) (x % 3)
      rw [ulL_at, hk 35 (by decide), hk 33 (by decide), o9, r35]
      by_cases y : x / 3 < n ∧ σ 8 (x / 3) 5 = c
      · rw [if_pos y, if_pos y, shL_at]
        by_cases y0 : x % 3 = 0
        · rw [if_pos y0, if_pos y0]
        · rw [if_neg y0, if_neg y0, r33, show (x - 1) / 3 = x / 3 by omega, show (x - 1) % 3 = x % 3 - 1 by omega]
      · rw [if_neg y, if_neg y, r33]
    · show σ2 34 0 t = σ2 5 0 t
      rw [hk 34 (by decide), ok 5 0 (by decide) (by decide) (by decide)]; exact r34 t
    · show ulH (σ2 35 0) c (-9) (σ2 35 0) n t = σ2 8 t 5
      rw [hk 35 (by decide), o85]
      unfold ulH
      rw [r35]
    · show ulH (σ2 35 0) c 0 (σ2 36 0) n t = σ2 8 t 6
      rw [hk 35 (by decide), hk 36 (by decide), o86]
      unfold ulH
      rw [r35, r36]
    · show σ2 37 0 t = σ2 10 t 0
      rw [hk 37 (by decide), ok 10 t (by decide) (by decide) (by decide)]; exact r37 t
    · show σ2 38 0 t = σ2 10 t 1
      rw [hk 38 (by decide), ok 10 t (by decide) (by decide) (by decide)]; exact r38 t
    · show σ2 39 0 t = σ2 10 t 2
      rw [hk 39 (by decide), ok 10 t (by decide) (by decide) (by decide)]; exact r39 t
    · show σ2 40 0 t = σ2 10 t 3
      rw [hk 40 (by decide), ok 10 t (by decide) (by decide) (by decide)]; exact r40 t
    · show σ2 41 0 t = σ2 10 t 4
      rw [hk 41 (by decide), ok 10 t (by decide) (by decide) (by decide)]; exact r41 t
    · show σ2 42 0 t = σ2 10 t 5
      rw [hk 42 (by decide), ok 10 t (by decide) (by decide) (by decide)]; exact r42 t
    · show σ2 43 0 t = σ2 3 0 t
      rw [hk 43 (by decide), ok 3 0 (by decide) (by decide) (by decide)]; exact r43 t
    · show 0 ≤ σ2 0 0 9
      rw [o0]; exact hb
    · show 0 ≤ σ2 8 t 1
      rw [o8o t 1 (by decide) (by decide)]; exact hC t ht
    · show lt9 (σ2 9 t k)
      rw [o9]
      by_cases y : t < n ∧ σ 8 t 5 = c
      · rw [if_pos y]; exact shL_ok hlq (fun j hj => hL t j ht hj) hk3
      · rw [if_neg y]; exact hL t k ht hk3
    · show ∃ j, j < 8 ∧ σ2 10 c' 0 = nI j
      rw [ok 10 c' (by decide) (by decide) (by decide)]; exact hQ c' hc'
    · show okT 6 cn (σ2 5 0)
      rw [ok 5 0 (by decide) (by decide) (by decide)]; exact hP
    · show σ2 5 0 t = -9
      rw [ok 5 0 (by decide) (by decide) (by decide)]; exact hP9 t h1 h2
    · show σ2 8 t 5 = -9 ∨ vp_in (σ2 8 t 5) cn
      rw [o85]
      by_cases y : t < n ∧ σ 8 t 5 = c
      · rw [if_pos y]; exact Or.inl rfl
      · rw [if_neg y]; exact hH t ht
    · show σ2 8 t 5 = -9
      rw [o85, if_neg (fun y => by have := y.1; omega)]; exact hH9 t h1 h2
    · have q' : σ2 8 t 5 = -9 := q
      show σ2 8 t 6 = 0
      rw [o85] at q'
      rw [o86]
      by_cases y : t < n ∧ σ 8 t 5 = c
      · rw [if_pos y]
      · rw [if_neg y] at q' ⊢; exact hM t ht q'
    · show σ2 0 0 11 = 0
      rw [o0]; rfl
