/-! ===== small numbers ===== -/
theorem i32add {a b : Int32} (h1 : -1000000 ≤ a.toInt) (h2 : a.toInt ≤ 1000000) (h3 : -1000000 ≤ b.toInt) (h4 : b.toInt ≤ 1000000) : (a + b).toInt = a.toInt + b.toInt := by
  rw [Int32.toInt_add]
  apply Int.bmod_eq_of_le <;> omega
theorem i32sub {a b : Int32} (h1 : -1000000 ≤ a.toInt) (h2 : a.toInt ≤ 1000000) (h3 : -1000000 ≤ b.toInt) (h4 : b.toInt ≤ 1000000) : (a - b).toInt = a.toInt - b.toInt := by
  rw [Int32.toInt_sub]
  apply Int.bmod_eq_of_le <;> omega
theorem mn_toInt (v a : Int32) : (mn v a).toInt = min v.toInt a.toInt := by
  unfold mn
  by_cases h : a < v
  · rw [if_pos h]
    rw [Int32.lt_iff_toInt_lt] at h
    omega
  · rw [if_neg h]
    rw [Int32.lt_iff_toInt_lt] at h
    omega
/-- volumes as they may be -/
abbrev vOK (n : Nat) (vol : Nat → Int32) : Prop := ∀ t, t < n → 1 ≤ (vol t).toInt ∧ (vol t).toInt ≤ 99
abbrev aOK (cn : Nat) (amt : Nat → Int32) : Prop := ∀ c, c < cn → 1 ≤ (amt c).toInt ∧ (amt c).toInt ≤ 400
theorem lf_vS {σ : SS} {tr : Nat → Int32} {a : Int32} {c n : Nat} (hv : vOK n (σ 29 0)) (ha : 0 ≤ a.toInt ∧ a.toInt ≤ 400) (hn : n ≤ 100) : 0 ≤ (vS σ tr c n).toInt ∧ (vS σ tr c n).toInt ≤ 99 * n ∧ (lfI (σ 29 0) tr a (nI c) n).toInt = max 0 (a.toInt - (vS σ tr c n).toInt) := by
  induction n with
  | zero =>
    have e1 : (vS σ tr c 0).toInt = 0 := by rw [vS, lp_0]; decide
    have e2 : lfI (σ 29 0) tr a (nI c) 0 = a := rfl
    rw [e1, e2]
    omega
  | succ n ih =>
    obtain ⟨h1, h2, h3⟩ := ih (fun t ht => hv t (by omega)) (by omega)
    obtain ⟨v1, v2⟩ := hv n (by omega)
    rw [vS_s, lfI_s]
    by_cases h : tr n = nI c
    · rw [if_pos h, if_pos h, i32add (by omega) (by omega) (by omega) (by omega)]
      have hm := mn_toInt (σ 29 0 n) (lfI (σ 29 0) tr a (nI c) n)
      rw [i32sub (by omega) (by omega) (by omega) (by omega), hm, h3]
      omega
    · rw [if_neg h, if_neg h]
      omega
theorem rule4 {σ : SS} {tr : Nat → Int32} {n cn : Nat} {v : Int32} {L : Nat → Int32} (hv : vOK n (σ 29 0)) (ha : aOK cn (σ 38 0)) (hn : n ≤ 100) (hL : ∀ c, c < cn → L c = lfI (σ 29 0) tr (σ 38 0 c) (nI c) n) : anyB cn (sB v L) = anyB cn (mB σ tr n v) := by
  refine anyB_congr (fun c hc => ?_)
  obtain ⟨a1, a2⟩ := ha c hc
  obtain ⟨h1, h2, h3⟩ := lf_vS (σ := σ) (tr := tr) (a := σ 38 0 c) (c := c) hv ⟨by omega, a2⟩ hn
  unfold sB mB
  rw [hL c hc]
  have e : (0 < lfI (σ 29 0) tr (σ 38 0 c) (nI c) n) ↔ (vS σ tr c n < σ 38 0 c) := by
    rw [Int32.lt_iff_toInt_lt, Int32.lt_iff_toInt_lt, h3, Int32.toInt_zero]
    omega
  by_cases z : vS σ tr c n < σ 38 0 c
  · rw [decide_eq_true z, decide_eq_true (e.mpr z)]
  · rw [decide_eq_false z, decide_eq_false (fun q => z (e.mp q))]
theorem toInt_neg_le (L : Int32) (h : 0 ≤ L.toInt) : (-L).toInt ≤ 0 := by
  have h2 := Int32.toInt_lt L
  rw [Int32.toInt_neg]
  have : (-L.toInt).bmod (2 ^ 32) = -L.toInt := by apply Int.bmod_eq_of_le <;> omega
  rw [this]
  omega
theorem rule6 {b L : Int32} (hb : 0 ≤ b) : ((if 0 ≤ L then L else 0 - L) ≤ b) ↔ ¬ (b < L ∨ b < -L) := by
  have hb' : 0 ≤ b.toInt := by rw [Int32.le_iff_toInt_le, Int32.toInt_zero] at hb; exact hb
  by_cases h : 0 ≤ L
  · rw [if_pos h]
    rw [Int32.le_iff_toInt_le, Int32.toInt_zero] at h
    have h2 := toInt_neg_le L h
    rw [Int32.le_iff_toInt_le, Int32.lt_iff_toInt_lt, Int32.lt_iff_toInt_lt]
    omega
  · rw [if_neg h, Int32.zero_sub]
    rw [Int32.le_iff_toInt_le, Int32.toInt_zero] at h
    rw [Int32.le_iff_toInt_le, Int32.lt_iff_toInt_lt, Int32.lt_iff_toInt_lt]
    omega
theorem upd_upd (f : Nat → Int32) (i : Nat) (a b : Int32) : upd (upd f i a) i b = upd f i b := by
  funext t
  unfold upd
  by_cases h : t = i <;> simp [h]
theorem rp_c67 (σ : SS) (a b c : Nat → Int32) : rp (rp (rp σ 7 0 a) 6 0 b) 7 0 c = rp (rp σ 7 0 c) 6 0 b := by
  funext k i
  unfold rp
  by_cases h5 : k = 7 ∧ i = 0 <;> simp [h5]
