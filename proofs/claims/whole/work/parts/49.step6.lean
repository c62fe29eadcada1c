/-! ===== pouring ===== -/
theorem JJ_pour {σ Z : SS} {n cn a b : Nat} {v w : Int32} (hJ : JJ σ n cn) (ha : a < n) (hbn : b < n) (hab : a ≠ b) (hA5 : ¬ σ 8 a 5 = -9) (k0 : Z 0 0 = upd (σ 0 0) 10 (σ 0 0 10 + w)) (k28 : Z 28 0 = upd (σ 28 0) 25 (σ 28 0 25 + w)) (kk : ∀ k i, k ≠ 0 → k ≠ 8 → k ≠ 28 → k ≠ 35 → k ≠ 36 → Z k i = σ k i) (z5 : ∀ t, Z 8 t 5 = if t = b then σ 8 a 5 else σ 8 t 5) (z6 : ∀ t, Z 8 t 6 = if t = a then σ 8 a 6 - v else if t = b then σ 8 b 6 + v else σ 8 t 6) (zo : ∀ t j, j ≠ 5 → j ≠ 6 → Z 8 t j = σ 8 t j) (z35 : Z 35 0 = upd (σ 35 0) b (σ 35 0 a)) (z36 : Z 36 0 = upd (upd (σ 36 0) b (σ 36 0 b + v)) a (σ 36 0 a - v)) : JJ Z n cn := by
  obtain ⟨⟨hn, hc, h7, h8⟩, hR, ⟨hb, hC, hL, hQ, hV, hA⟩, ⟨hP, hP9⟩, ⟨hH, hH9, hM⟩, hS⟩ := hJ
  obtain ⟨⟨r0, r9, r17, r25⟩, r29, r30, r31, r32, r33, r34, r35, r36, r37, r38, r39, r40, r41, r42, r43⟩ := hR
  refine ⟨⟨hn, hc, by rw [k0]; exact h7, by rw [k0]; exact h8⟩, ⟨⟨by rw [k28, k0]; exact r0, by rw [k28, k0]; exact r9, by rw [k28, k0]; exact r17, ?_⟩, fun t => ?_, fun t => ?_, fun t => ?_, fun t => ?_, fun t => ?_, fun t => ?_, fun t => ?_, fun t => ?_, fun t => ?_, fun t => ?_, fun t => ?_, fun t => ?_, fun t => ?_, fun t => ?_, fun t => ?_⟩, ⟨by rw [k0]; exact hb, fun t ht => ?_, fun t k ht hk3 => ?_, fun c' hc' => ?_, vOK_of hV (fun t _ => zo t 0 (by decide) (by decide)), aOK_of hA (fun t _ => by rw [kk 10 t (by decide) (by decide) (by decide) (by decide) (by decide)])⟩, ⟨?_, fun t h1 h2 => ?_⟩, ⟨fun t ht => ?_, fun t h1 h2 => ?_, fun t ht q => ?_⟩, ?_⟩
  · rw [k28, k0]
    show σ 28 0 25 + w = σ 0 0 10 + w
    rw [r25]
  · rw [kk 29 0 (by decide) (by decide) (by decide) (by decide) (by decide), zo t 0 (by decide) (by decide)]; exact r29 t
  · rw [kk 30 0 (by decide) (by decide) (by decide) (by decide) (by decide), zo t 1 (by decide) (by decide)]; exact r30 t
  · rw [kk 31 0 (by decide) (by decide) (by decide) (by decide) (by decide), zo t 2 (by decide) (by decide)]; exact r31 t
  · rw [kk 32 0 (by decide) (by decide) (by decide) (by decide) (by decide), zo t 3 (by decide) (by decide)]; exact r32 t
  · rw [kk 33 0 (by decide) (by decide) (by decide) (by decide) (by decide), kk 9 _ (by decide) (by decide) (by decide) (by decide) (by decide)]; exact r33 t
  · rw [kk 34 0 (by decide) (by decide) (by decide) (by decide) (by decide), kk 5 0 (by decide) (by decide) (by decide) (by decide) (by decide)]; exact r34 t
  · rw [z35, z5]
    by_cases y : t = b
    · rw [if_pos y, y, pk_us, r35]
    · rw [if_neg y, pk_un y, r35]
  · rw [z36, z6]
    by_cases y1 : t = a
    · rw [if_pos y1, y1, pk_us, r36]
    · rw [if_neg y1, pk_un y1]
      by_cases y : t = b
      · rw [if_pos y, y, pk_us, r36]
      · rw [if_neg y, pk_un y, r36]
  · rw [kk 37 0 (by decide) (by decide) (by decide) (by decide) (by decide), kk 10 t (by decide) (by decide) (by decide) (by decide) (by decide)]; exact r37 t
  · rw [kk 38 0 (by decide) (by decide) (by decide) (by decide) (by decide), kk 10 t (by decide) (by decide) (by decide) (by decide) (by decide)]; exact r38 t
  · rw [kk 39 0 (by decide) (by decide) (by decide) (by decide) (by decide), kk 10 t (by decide) (by decide) (by decide) (by decide) (by decide)]; exact r39 t
  · rw [kk 40 0 (by decide) (by decide) (by decide) (by decide) (by decide), kk 10 t (by decide) (by decide) (by decide) (by decide) (by decide)]; exact r40 t
  · rw [kk 41 0 (by decide) (by decide) (by decide) (by decide) (by decide), kk 10 t (by decide) (by decide) (by decide) (by decide) (by decide)]; exact r41 t
  · rw [kk 42 0 (by decide) (by decide) (by decide) (by decide) (by decide), kk 10 t (by decide) (by decide) (by decide) (by decide) (by decide)]; exact r42 t
  · rw [kk 43 0 (by decide) (by decide) (by decide) (by decide) (by decide), kk 3 0 (by decide) (by decide) (by decide) (by decide) (by decide)]; exact r43 t
  · rw [zo t 1 (by decide) (by decide)]; exact hC t ht
  · rw [kk 9 t (by decide) (by decide) (by decide) (by decide) (by decide)]; exact hL t k ht hk3
  · rw [kk 10 c' (by decide) (by decide) (by decide) (by decide) (by decide)]; exact hQ c' hc'
  · rw [kk 5 0 (by decide) (by decide) (by decide) (by decide) (by decide)]; exact hP
  · rw [kk 5 0 (by decide) (by decide) (by decide) (by decide) (by decide)]; exact hP9 t h1 h2
  · show Z 8 t 5 = -9 ∨ vp_in (Z 8 t 5) cn
    rw [z5]
    by_cases y : t = b
    · rw [if_pos y]; exact hH a (by omega)
    · rw [if_neg y]; exact hH t ht
  · rw [z5, if_neg (by omega)]; exact hH9 t h1 h2
  · rw [z5] at q
    rw [z6]
    by_cases y : t = b
    · rw [if_pos y] at q; exact absurd q hA5
    · rw [if_neg y] at q
      rw [if_neg (show ¬ t = a from fun y1 => hA5 (y1 ▸ q)), if_neg y]; exact hM t ht q
  · rw [k0]
    intro q s hs
    refine ke_RES (hS q s hs) ?_ (fun k h1 h2 => kk k 0 (by omega) (by omega) (by omega) (by omega) (by omega))
    refine (ker_rows (τ := vw σ) (τ1 := vw Z) ?_ (funext fun t => zo t 0 (by decide) (by decide)) (funext fun t => zo t 1 (by decide) (by decide)) (funext fun t => zo t 2 (by decide) (by decide)) (funext fun t => zo t 3 (by decide) (by decide)) (funext fun t => congrFun (kk 9 _ (by decide) (by decide) (by decide) (by decide) (by decide)) _) (funext fun t => congrFun (kk 10 t (by decide) (by decide) (by decide) (by decide) (by decide)) 0) (funext fun t => congrFun (kk 10 t (by decide) (by decide) (by decide) (by decide) (by decide)) 1) (funext fun t => congrFun (kk 10 t (by decide) (by decide) (by decide) (by decide) (by decide)) 2) (funext fun t => congrFun (kk 10 t (by decide) (by decide) (by decide) (by decide) (by decide)) 3) (funext fun t => congrFun (kk 10 t (by decide) (by decide) (by decide) (by decide) (by decide)) 4) (funext fun t => congrFun (kk 10 t (by decide) (by decide) (by decide) (by decide) (by decide)) 5) (kk 3 0 (by decide) (by decide) (by decide) (by decide) (by decide))).symm
    show Z 0 0 9 = σ 0 0 9
    rw [k0]; rfl
theorem JJ_pour0 {σ Z : SS} {n cn a b : Nat} {v w l : Int32} (hJ : JJ σ n cn) (ha : a < n) (hbn : b < n) (hab : a ≠ b) (hA5 : ¬ σ 8 a 5 = -9) (hl : lt9 l) (k0 : Z 0 0 = upd (upd (σ 0 0) 10 (σ 0 0 10 + w)) 11 0) (k28 : Z 28 0 = upd (σ 28 0) 25 (σ 28 0 25 + w)) (kk : ∀ k i, k ≠ 0 → k ≠ 8 → k ≠ 28 → k ≠ 35 → k ≠ 36 → k ≠ 9 → k ≠ 33 → Z k i = σ k i) (z5 : ∀ t, Z 8 t 5 = if t = a then -9 else if t = b then σ 8 a 5 else σ 8 t 5) (z6 : ∀ t, Z 8 t 6 = if t = a then 0 else if t = b then σ 8 b 6 + v else σ 8 t 6) (zo : ∀ t j, j ≠ 5 → j ≠ 6 → Z 8 t j = σ 8 t j) (z9 : ∀ t, Z 9 t = if t = a then shL (σ 9 a) l else σ 9 t) (z33 : Z 33 0 = latUp (σ 33 0) a l) (z35 : Z 35 0 = upd (upd (σ 35 0) b (σ 35 0 a)) a (-9)) (z36 : Z 36 0 = upd (upd (upd (σ 36 0) b (σ 36 0 b + v)) a (σ 36 0 a - v)) a 0) : JJ Z n cn := by
  obtain ⟨⟨hn, hc, h7, h8⟩, hR, ⟨hb, hC, hL, hQ, hV, hA⟩, ⟨hP, hP9⟩, ⟨hH, hH9, hM⟩, hS⟩ := hJ
  obtain ⟨⟨r0, r9, r17, r25⟩, r29, r30, r31, r32, r33, r34, r35, r36, r37, r38, r39, r40, r41, r42, r43⟩ := hR
  refine ⟨⟨hn, hc, by rw [k0]; exact h7, by rw [k0]; exact h8⟩, ⟨⟨by rw [k28, k0]; exact r0, by rw [k28, k0]; exact r9, by rw [k28, k0]; exact r17, ?_⟩, fun t => ?_, fun t => ?_, fun t => ?_, fun t => ?_, fun t => ?_, fun t => ?_, fun t => ?_, fun t => ?_, fun t => ?_, fun t => ?_, fun t => ?_, fun t => ?_, fun t => ?_, fun t => ?_, fun t => ?_⟩, ⟨by rw [k0]; exact hb, fun t ht => ?_, fun t k ht hk3 => ?_, fun c' hc' => ?_, vOK_of hV (fun t _ => zo t 0 (by decide) (by decide)), aOK_of hA (fun t _ => by rw [kk 10 t (by decide) (by decide) (by decide) (by decide) (by decide) (by decide) (by decide)])⟩, ⟨?_, fun t h1 h2 => ?_⟩, ⟨fun t ht => ?_, fun t h1 h2 => ?_, fun t ht q => ?_⟩, ?_⟩
  · rw [k28, k0]
    show σ 28 0 25 + w = σ 0 0 10 + w
    rw [r25]
  · rw [kk 29 0 (by decide) (by decide) (by decide) (by decide) (by decide) (by decide) (by decide), zo t 0 (by decide) (by decide)]; exact r29 t
  · rw [kk 30 0 (by decide) (by decide) (by decide) (by decide) (by decide) (by decide) (by decide), zo t 1 (by decide) (by decide)]; exact r30 t
  · rw [kk 31 0 (by decide) (by decide) (by decide) (by decide) (by decide) (by decide) (by decide), zo t 2 (by decide) (by decide)]; exact r31 t
  · rw [kk 32 0 (by decide) (by decide) (by decide) (by decide) (by decide) (by decide) (by decide), zo t 3 (by decide) (by decide)]; exact r32 t
  · rw [z33, latUp_at, z9]
    by_cases y : t / 3 = a
    · rw [if_pos y, if_pos y, shL_at]
      by_cases y0 : t % 3 = 0
      · rw [if_pos y0, if_pos y0]
      · rw [if_neg y0, if_neg y0, r33, show (t - 1) / 3 = a by omega, show (t - 1) % 3 = t % 3 - 1 by omega]
    · rw [if_neg y, if_neg y, r33]
  · rw [kk 34 0 (by decide) (by decide) (by decide) (by decide) (by decide) (by decide) (by decide), kk 5 0 (by decide) (by decide) (by decide) (by decide) (by decide) (by decide) (by decide)]; exact r34 t
  · rw [z35, z5]
    by_cases y1 : t = a
    · rw [if_pos y1, y1, pk_us]
    · rw [if_neg y1, pk_un y1]
      by_cases y : t = b
      · rw [if_pos y, y, pk_us, r35]
      · rw [if_neg y, pk_un y, r35]
  · rw [z36, z6]
    by_cases y1 : t = a
    · rw [if_pos y1, y1, pk_us]
    · rw [if_neg y1, pk_un y1, pk_un y1]
      by_cases y : t = b
      · rw [if_pos y, y, pk_us, r36]
      · rw [if_neg y, pk_un y, r36]
  · rw [kk 37 0 (by decide) (by decide) (by decide) (by decide) (by decide) (by decide) (by decide), kk 10 t (by decide) (by decide) (by decide) (by decide) (by decide) (by decide) (by decide)]; exact r37 t
  · rw [kk 38 0 (by decide) (by decide) (by decide) (by decide) (by decide) (by decide) (by decide), kk 10 t (by decide) (by decide) (by decide) (by decide) (by decide) (by decide) (by decide)]; exact r38 t
  · rw [kk 39 0 (by decide) (by decide) (by decide) (by decide) (by decide) (by decide) (by decide), kk 10 t (by decide) (by decide) (by decide) (by decide) (by decide) (by decide) (by decide)]; exact r39 t
  · rw [kk 40 0 (by decide) (by decide) (by decide) (by decide) (by decide) (by decide) (by decide), kk 10 t (by decide) (by decide) (by decide) (by decide) (by decide) (by decide) (by decide)]; exact r40 t
  · rw [kk 41 0 (by decide) (by decide) (by decide) (by decide) (by decide) (by decide) (by decide), kk 10 t (by decide) (by decide) (by decide) (by decide) (by decide) (by decide) (by decide)]; exact r41 t
  · rw [kk 42 0 (by decide) (by decide) (by decide) (by decide) (by decide) (by decide) (by decide), kk 10 t (by decide) (by decide) (by decide) (by decide) (by decide) (by decide) (by decide)]; exact r42 t
  · rw [kk 43 0 (by decide) (by decide) (by decide) (by decide) (by decide) (by decide) (by decide), kk 3 0 (by decide) (by decide) (by decide) (by decide) (by decide) (by decide) (by decide)]; exact r43 t
  · rw [zo t 1 (by decide) (by decide)]; exact hC t ht
  · rw [z9]
    by_cases y : t = a
    · rw [if_pos y]; exact shL_ok hl (fun j hj => hL a j (by omega) hj) hk3
    · rw [if_neg y]; exact hL t k ht hk3
  · rw [kk 10 c' (by decide) (by decide) (by decide) (by decide) (by decide) (by decide) (by decide)]; exact hQ c' hc'
  · rw [kk 5 0 (by decide) (by decide) (by decide) (by decide) (by decide) (by decide) (by decide)]; exact hP
  · rw [kk 5 0 (by decide) (by decide) (by decide) (by decide) (by decide) (by decide) (by decide)]; exact hP9 t h1 h2
  · show Z 8 t 5 = -9 ∨ vp_in (Z 8 t 5) cn
    rw [z5]
    by_cases y1 : t = a
    · rw [if_pos y1]; exact Or.inl rfl
    · rw [if_neg y1]
      by_cases y : t = b
      · rw [if_pos y]; exact hH a (by omega)
      · rw [if_neg y]; exact hH t ht
  · rw [z5, if_neg (by omega), if_neg (by omega)]; exact hH9 t h1 h2
  · rw [z5] at q
    rw [z6]
    by_cases y1 : t = a
    · rw [if_pos y1]
    · rw [if_neg y1] at q ⊢
      by_cases y : t = b
      · rw [if_pos y] at q; exact absurd q hA5
      · rw [if_neg y] at q ⊢; exact hM t ht q
  · rw [k0]
    exact fun q => absurd rfl q
theorem upd_self (f : Nat → Int32) (i : Nat) : upd f i (f i) = f := by
  funext t
  unfold upd
  by_cases h : t = i <;> simp [h]
/-- the class's state behind pouring, in one form: the tank poured from isn't left empty yet -/
def ppS (σ : SS) (a b : Nat) (v w : Int32) : SS := rp (rp (rp σ 0 0 (upd (σ 0 0) 10 (σ 0 0 10 + w))) 8 b (upd (upd (σ 8 b) 5 (σ 8 a 5)) 6 (σ 8 b 6 + v))) 8 a (upd (σ 8 a) 6 (σ 8 a 6 - v))
def pqS (σ : SS) (a b : Nat) (v w : Int32) : SS := if σ 8 a 6 - v = 0 then rp (leS (ppS σ a b v w) a (σ 10 (ci (σ 8 a 5)) 0)) 0 0 (upd ((ppS σ a b v w) 0 0) 11 0) else ppS σ a b v w
theorem pcS_eq (σ : SS) (a b : Nat) (v : Int32) : pcS σ a b v = pqS σ a b v (if σ 8 b 5 = σ 8 a 5 then 0 else wfS (vw σ) b (ci (σ 8 a 5))) := by
  by_cases h : σ 8 b 5 = σ 8 a 5
  · have e : ppS σ a b v 0 = rp (rp σ 8 b (upd (σ 8 b) 6 (σ 8 b 6 + v))) 8 a (upd (σ 8 a) 6 (σ 8 a 6 - v)) := by
      unfold ppS
      rw [Int32.add_zero, upd_self, rp_self, ← h, upd_self]
    unfold pcS pqS
    simp only [if_pos h]
    rw [e]
    rfl
  · have e : ∀ w, ppS σ a b v w = rp (rp (rp (rp σ 0 0 (upd (σ 0 0) 10 (σ 0 0 10 + w))) 8 b (upd (σ 8 b) 5 (σ 8 a 5))) 8 b (upd ((rp (rp σ 0 0 (upd (σ 0 0) 10 (σ 0 0 10 + w))) 8 b (upd (σ 8 b) 5 (σ 8 a 5))) 8 b) 6 (σ 8 b 6 + v))) 8 a (upd (σ 8 a) 6 (σ 8 a 6 - v)) := fun w => by
      unfold ppS
      rw [rp_at, rp_rp]
    unfold pcS pqS
    simp only [if_neg h]
    rw [e]
    rfl
theorem pp8 {σ : SS} {a b : Nat} {v w : Int32} (t : Nat) : ppS σ a b v w 8 t = if t = a then upd (σ 8 a) 6 (σ 8 a 6 - v) else if t = b then upd (upd (σ 8 b) 5 (σ 8 a 5)) 6 (σ 8 b 6 + v) else σ 8 t := by
  unfold ppS
  by_cases h : t = a
  · rw [if_pos h, h, rp_at]
  · rw [if_neg h, rp_ne (fun z => h z.2)]
    by_cases h2 : t = b
    · rw [if_pos h2, h2, rp_at]
    · rw [if_neg h2, rp_ne (fun z => h2 z.2), rp_nk (by decide)]
theorem pp85 {σ : SS} {a b : Nat} {v w : Int32} (hab : a ≠ b) (t : Nat) : ppS σ a b v w 8 t 5 = if t = b then σ 8 a 5 else σ 8 t 5 := by
  rw [pp8]
  by_cases h : t = a
  · rw [if_pos h, if_neg (by omega), pk_un (by decide), h]
  · rw [if_neg h]
    by_cases h2 : t = b
    · rw [if_pos h2, if_pos h2, pk_un (by decide), pk_us]
    · rw [if_neg h2, if_neg h2]
theorem pp86 {σ : SS} {a b : Nat} {v w : Int32} (t : Nat) : ppS σ a b v w 8 t 6 = if t = a then σ 8 a 6 - v else if t = b then σ 8 b 6 + v else σ 8 t 6 := by
  rw [pp8]
  by_cases h : t = a
  · rw [if_pos h, if_pos h, pk_us]
  · rw [if_neg h, if_neg h]
    by_cases h2 : t = b
    · rw [if_pos h2, if_pos h2, pk_us]
    · rw [if_neg h2, if_neg h2]
theorem pp8o {σ : SS} {a b : Nat} {v w : Int32} (t j : Nat) (h5 : j ≠ 5) (h6 : j ≠ 6) : ppS σ a b v w 8 t j = σ 8 t j := by
  rw [pp8]
  by_cases h : t = a
  · rw [if_pos h, pk_un h6, h]
  · rw [if_neg h]
    by_cases h2 : t = b
    · rw [if_pos h2, pk_un h6, pk_un h5, h2]
    · rw [if_neg h2]
theorem ppk {σ : SS} {a b k i : Nat} {v w : Int32} (h0 : k ≠ 0) (h8 : k ≠ 8) : ppS σ a b v w k i = σ k i := by
  unfold ppS
  rw [rp_nk h8, rp_nk h8, rp_nk h0]
/-- the class and the reference let the same be poured -/
theorem pc_pr {σ : SS} {n cn a b : Nat} {v : Int32} (hH : okT 6 cn (fun t => σ 8 t 5)) (hM : ∀ t, t < 6 → σ 8 t 5 = -9 → σ 8 t 6 = 0) (ha : a < 6) (hv : 1 ≤ v) : pcB σ n cn a b v = prB (vw σ) n a b v ∧ (pcB σ n cn a b v = true → ¬ σ 8 a 5 = -9 ∧ ixn (σ 8 a 5) cn ∧ (σ 8 b 5 = σ 8 a 5 ∨ σ 8 b 5 = -9)) := by
  have hpr : prB (vw σ) n a b v = ((!decide (σ 8 a 6 < v)) && ((!decide (σ 8 b 0 - σ 8 b 6 < v)) && (if σ 8 b 5 = -9 then (decide (whyS (vw σ) b (ci (σ 8 a 5)) = 0) && !anyB n (tB (vw σ) b (σ 8 a 5))) else decide (σ 8 b 5 = σ 8 a 5)))) := rfl
  rw [hpr]
  unfold pcB
  by_cases h1 : σ 8 a 6 < v
  · rw [decide_eq_true h1]
    exact ⟨rfl, fun z => by cases z⟩
  · have h5 : ¬ σ 8 a 5 = -9 := fun z => h1 (by
      rw [hM a ha z, Int32.lt_iff_toInt_lt, Int32.toInt_zero]
      rw [Int32.le_iff_toInt_le] at hv
      have : (1 : Int32).toInt = 1 := by decide
      omega)
    have hix : ixn (σ 8 a 5) cn := vp_ixn.mp ((hH a ha).resolve_left h5)
    rw [decide_eq_true hix, Bool.true_and]
    by_cases h2 : σ 8 b 5 = -9
    · rw [if_pos h2, decide_eq_false (show ¬ σ 8 b 5 = σ 8 a 5 from fun z => h5 (z.symm.trans h2)), decide_eq_true h2, Bool.false_or, Bool.true_and]
      exact ⟨rfl, fun _ => ⟨h5, hix, Or.inr h2⟩⟩
    · rw [if_neg h2, decide_eq_false h2, Bool.false_and, Bool.or_false]
      refine ⟨rfl, fun z => ⟨h5, hix, Or.inl ?_⟩⟩
      simp only [Bool.and_eq_true, decide_eq_true_iff] at z
      exact z.2.2
theorem op_pour {σ : SS} (h : J σ) (i j v : Int32) : AW 14 mX3_pour 0 (ax_en mX3_pour [.inr (0, 0), .inl i, .inl j, .inl v]) [] σ (K1 mX4_pour [.inr (28, 0), .inl i, .inl j, .inl v]) := by
  obtain ⟨n, cn, hJ⟩ := h
  have hJ0 : J σ := ⟨n, cn, hJ⟩
  obtain ⟨⟨hn, hc, h7, h8⟩, hR, ⟨hb, hC, hL, hQ, hV, hA⟩, ⟨hP, hP9⟩, ⟨hH, hH9, hM⟩, hS⟩ := hJ
  have hm0 : σ 28 0 0 = nI n := hR.1.1.trans h7
  have hm9 : σ 28 0 9 = nI cn := hR.1.2.1.trans h8
  have hmL := mLat hR hL
  have hmQ := mLiq hR hQ
  have hev := hR.ev
  have hJJ : JJ σ n cn := ⟨⟨hn, hc, h7, h8⟩, hR, ⟨hb, hC, hL, hQ, hV, hA⟩, ⟨hP, hP9⟩, ⟨hH, hH9, hM⟩, hS⟩
  have r35 := hR.2.2.2.2.2.2.2.1
  have r36 := hR.2.2.2.2.2.2.2.2.1
  have r37 := hR.2.2.2.2.2.2.2.2.2.1
  have hm35 : okT n cn (σ 35 0) := okT_of (okT_le hH hn) (fun t _ => r35 t)
  have hm36 : ∀ t, t < n → σ 35 0 t = -9 → σ 36 0 t = 0 := fun t ht q => by rw [r36]; exact hM t (by omega) ((r35 t).symm.trans q)
  refine sX3_pour hn h7 hc h8 (okT_le hH hn) hC hL hQ (fun z => ⟨_, rfl, ?_⟩) (fun z1 z => ⟨_, rfl, ?_⟩) (fun a b ha hb' hab ei ej hv z => ⟨_, rfl, ?_⟩) (fun a b ha hb' hab ei ej hv z => ⟨_, rfl, ?_⟩)
  · refine sX4_pour hn hm0 hc hm9 hmL hmQ hm35 hm36 (fun _ => ⟨rfl, hJ0⟩) (fun q => absurd q z) (fun a b ha hb' hab ei ej _ _ => absurd ?_ z) (fun a b ha hb' hab ei ej _ _ => absurd ?_ z)
    all_goals (subst ei; subst ej; exact ⟨(ixn_nI (by omega)).mpr ha, (ixn_nI (by omega)).mpr hb', fun q => hab (nI_inj (by omega) (by omega) q)⟩)
  · exact sX4_pour hn hm0 hc hm9 hmL hmQ hm35 hm36 (fun q => absurd z1 q) (fun _ _ => ⟨rfl, hJ0⟩) (fun a b ha hb' hab ei ej q _ => absurd q z) (fun a b ha hb' hab ei ej q _ => absurd q z)
  · have hx : ixn i n ∧ ixn j n ∧ i ≠ j := by subst ei; subst ej; exact ⟨(ixn_nI (by omega)).mpr ha, (ixn_nI (by omega)).mpr hb', fun q => hab (nI_inj (by omega) (by omega) q)⟩
    refine sX4_pour hn hm0 hc hm9 hmL hmQ hm35 hm36 (fun q => absurd hx q) (fun _ q => absurd hv q) (fun _ _ _ _ _ _ _ _ _ => ⟨rfl, hJ0⟩) (fun a' b' ha' hb'' hab' ei' ej' _ q => ?_)
    have ea : a' = a := nI_inj (by omega) (by omega) (ei'.symm.trans ei)
    have eb : b' = b := nI_inj (by omega) (by omega) (ej'.symm.trans ej)
    subst ea; subst eb
    rw [ev_prB hev, ← (pc_pr (n := n) (b := b') hH hM (show a' < 6 by omega) hv.1).1, z] at q
    cases q
  · have hx : ixn i n ∧ ixn j n ∧ i ≠ j := by subst ei; subst ej; exact ⟨(ixn_nI (by omega)).mpr ha, (ixn_nI (by omega)).mpr hb', fun q => hab (nI_inj (by omega) (by omega) q)⟩
    obtain ⟨pe, pt⟩ := pc_pr (n := n) (b := b) hH hM (show a < 6 by omega) hv.1
    obtain ⟨hA5, hix, hB5⟩ := pt z
    rw [pcS_eq]
    have hww : (if σ 35 0 b = -9 then wfS σ b (ci (σ 35 0 a)) else 0) = if σ 8 b 5 = σ 8 a 5 then 0 else wfS (vw σ) b (ci (σ 8 a 5)) := by
      rw [r35, r35, ev_wfS hev]
      rcases hB5 with y | y
      · rw [if_pos y, if_neg (fun q => hA5 (y.symm.trans q))]
      · rw [if_pos y, if_neg (fun q => hA5 (q.symm.trans y))]
    generalize (if σ 8 b 5 = σ 8 a 5 then 0 else wfS (vw σ) b (ci (σ 8 a 5))) = w at hww ⊢
    have hl : lt9 (σ 10 (ci (σ 8 a 5)) 0) := by
      obtain ⟨q, h1, h2⟩ := hQ (ci (σ 8 a 5)) (Nat.lt_of_lt_of_le (vp_lt (vp_ixn.mpr hix)) hc)
      exact Or.inr ⟨q, h1, h2⟩
    have hk : ∀ k, 28 ≤ k → (pqS σ a b v w) k 0 = σ k 0 := fun k h1 => by
      unfold pqS
      split
      · rw [rp_nk (by omega), leS_k (by omega) (by omega), ppk (by omega) (by omega)]
      · rw [ppk (by omega) (by omega)]
    have hpj := (pj_rows hk).trans hev
    generalize e2 : pqS σ a b v w = X at hk hpj ⊢
    refine sX4_pour (n := n) (cn := cn) hn (by rw [hk 28 (by decide)]; exact hm0) hc (by rw [hk 28 (by decide)]; exact hm9) (by rw [hk 33 (by decide)]; exact hmL) (by rw [hk 37 (by decide)]; exact hmQ) (by rw [hk 35 (by decide)]; exact hm35) (by rw [hk 35 (by decide), hk 36 (by decide)]; exact hm36) (fun q => absurd hx q) (fun _ q => absurd hv q) (fun a' b' ha' hb'' hab' ei' ej' _ q => ?_) (fun a' b' ha' hb'' hab' ei' ej' _ q => ?_)
    · have ea : a' = a := nI_inj (by omega) (by omega) (ei'.symm.trans ei)
      have eb : b' = b := nI_inj (by omega) (by omega) (ej'.symm.trans ej)
      subst ea; subst eb
      rw [ev_prB hpj, ← pe, z] at q
      cases q
    · have ea : a' = a := nI_inj (by omega) (by omega) (ei'.symm.trans ei)
      have eb : b' = b := nI_inj (by omega) (by omega) (ej'.symm.trans ej)
      subst ea; subst eb
      have hwX : (if X 35 0 b' = -9 then wfS X b' (ci (X 35 0 a')) else 0) = w := by
        rw [hk 35 (by decide), ev_wfS hpj, ← ev_wfS hev]; exact hww
      refine ⟨by rw [hk 36 (by decide), r36], n, cn, ?_⟩
      unfold prS
      rw [hwX, hk 28 (by decide), hk 33 (by decide), hk 35 (by decide), hk 36 (by decide), hk 37 (by decide)]
      by_cases e0 : σ 8 a' 6 - v = 0
      · have e0' : σ 36 0 a' - v = 0 := by rw [r36]; exact e0
        simp only [if_pos e0']
        have eX : X = rp (leS (ppS σ a' b' v w) a' (σ 10 (ci (σ 8 a' 5)) 0)) 0 0 (upd ((ppS σ a' b' v w) 0 0) 11 0) := by rw [← e2]; unfold pqS; rw [if_pos e0]
        have x8 : ∀ t, X 8 t = if t = a' then upd (upd (ppS σ a' b' v w 8 a') 5 (-9)) 6 0 else ppS σ a' b' v w 8 t := fun t => by
          rw [eX, rp_nk (by decide)]
          by_cases y : t = a'
          · rw [if_pos y, y]; unfold leS; rw [rp_nk (by decide), rp_at]
          · rw [if_neg y, leS_i y]
        have x9 : ∀ t, X 9 t = if t = a' then shL (σ 9 a') (σ 10 (ci (σ 8 a' 5)) 0) else σ 9 t := fun t => by
          rw [eX, rp_nk (by decide)]
          by_cases y : t = a'
          · rw [if_pos y, y]; unfold leS; rw [rp_at, ppk (by decide) (by decide)]; rfl
          · rw [if_neg y, leS_i y, ppk (by decide) (by decide)]
        have x0 : X 0 0 = upd (upd (σ 0 0) 10 (σ 0 0 10 + w)) 11 0 := by rw [eX, rp_at]; rfl
        have xk : ∀ k i, k ≠ 0 → k ≠ 8 → k ≠ 9 → X k i = σ k i := fun k i h1 h2 h3 => by rw [eX, rp_nk h1, leS_k h2 h3, ppk h1 h2]
        refine JJ_pour0 (v := v) (w := w) (l := σ 10 (ci (σ 8 a' 5)) 0) hJJ ha hb' hab hA5 hl ?_ ?_ (fun k i q1 q2 q3 q4 q5 q6 q7 => ?_) (fun t => ?_) (fun t => ?_) (fun t j h5 h6 => ?_) (fun t => ?_) ?_ ?_ ?_
        · exact x0
        · rfl
        · rw [rp_nk q5, rp_nk q4, rp_nk q7, rp_nk q5, rp_nk q4, rp_nk q3, xk k i q1 q2 q6]
        · show X 8 t 5 = _
          rw [x8]
          by_cases y : t = a'
          · rw [if_pos y, if_pos y, pk_un (by decide), pk_us]
          · rw [if_neg y, if_neg y, pp85 hab]
        · show X 8 t 6 = _
          rw [x8]
          by_cases y : t = a'
          · rw [if_pos y, if_pos y, pk_us]
          · rw [if_neg y, if_neg y, pp86, if_neg y]
        · show X 8 t j = _
          rw [x8]
          by_cases y : t = a'
          · rw [if_pos y, pk_un h6, pk_un h5, pp8o _ _ h5 h6, y]
          · rw [if_neg y, pp8o _ _ h5 h6]
        · show X 9 t = _
          exact x9 t
        · show latUp (σ 33 0) a' (σ 37 0 (ci (σ 35 0 a'))) = _
          rw [r37, r35]
        · rfl
        · rfl
      · have e0' : ¬ σ 36 0 a' - v = 0 := by rw [r36]; exact e0
        simp only [if_neg e0']
        have eX : X = ppS σ a' b' v w := by rw [← e2]; unfold pqS; rw [if_neg e0]
        refine JJ_pour (v := v) (w := w) hJJ ha hb' hab hA5 ?_ ?_ (fun k i q1 q2 q3 q4 q5 => ?_) (fun t => ?_) (fun t => ?_) (fun t j h5 h6 => ?_) ?_ ?_
        · rw [eX]; rfl
        · rfl
        · rw [rp_nk q5, rp_nk q4, rp_nk q3, eX, ppk q1 q2]
        · show X 8 t 5 = _
          rw [eX, pp85 hab]
        · show X 8 t 6 = _
          rw [eX, pp86]
        · show X 8 t j = _
          rw [eX, pp8o _ _ h5 h6]
        · rfl
        · rfl
