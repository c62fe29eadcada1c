/-! ===== words of the class's specs: the class's state seen in the reference's rows ===== -/
def vw (σ : SS) : SS := fun k _ => match k with
  | 28 => fun j => if j = 0 then σ 0 0 7 else if j = 9 then σ 0 0 8 else if j = 17 then σ 0 0 9 else if j = 25 then σ 0 0 10 else 0
  | 29 => fun t => σ 8 t 0
  | 30 => fun t => σ 8 t 1
  | 31 => fun t => σ 8 t 2
  | 32 => fun t => σ 8 t 3
  | 33 => fun x => σ 9 (x / 3) (x % 3)
  | 34 => σ 5 0
  | 35 => fun t => σ 8 t 5
  | 36 => fun t => σ 8 t 6
  | 37 => fun c => σ 10 c 0
  | 38 => fun c => σ 10 c 1
  | 39 => fun c => σ 10 c 2
  | 40 => fun c => σ 10 c 3
  | 41 => fun c => σ 10 c 4
  | 42 => fun c => σ 10 c 5
  | 43 => σ 3 0
  | _ => fun _ => 0
theorem vw33 (σ : SS) (t : Nat) {k : Nat} (hk : k < 3) : (vw σ) 33 0 (3 * t + k) = σ 9 t k := by
  show σ 9 ((3 * t + k) / 3) ((3 * t + k) % 3) = σ 9 t k
  rw [show (3 * t + k) / 3 = t by omega, show (3 * t + k) % 3 = k by omega]
/-- bit k of a set, none if k is below 0 -/
def hc (s k : Int32) : Bool := decide (0 ≤ k) && hb s k
theorem hc_nI (s : Int32) {t : Nat} (h : t < 2 ^ 31) : hc s (nI t) = hb s (nI t) := by
  unfold hc
  rw [decide_eq_true (nI_pos' h), Bool.true_and]
theorem hc_9 (s : Int32) : hc s (-9) = false := by
  unfold hc
  rw [decide_eq_false (by decide), Bool.false_and]
theorem and1 (x : Int32) : x &&& 1 = 0 ∨ x &&& 1 = 1 := by
  rw [pk_and x (m := 1) 1 (by decide)]
  rcases (show x.toBitVec.toNat % 2 ^ 1 = 0 ∨ x.toBitVec.toNat % 2 ^ 1 = 1 by omega) with h | h <;> rw [h]
  · exact Or.inl (by decide)
  · exact Or.inr (by decide)
/-- faults, as the class counts them -/
def whyC (bears behind never coat : Int32) (lat : Nat → Int32) (i : Nat) : Int32 := lp i (fun k a => if hc never (lat k) = true then a ||| 4 else a) (if hc behind (lat 0) = true then (if hc bears coat = true then 0 else 1) ||| 2 else (if hc bears coat = true then 0 else 1))
theorem whyC_s (bears behind never coat : Int32) (lat : Nat → Int32) (i : Nat) : whyC bears behind never coat lat (i + 1) = if hc never (lat i) = true then whyC bears behind never coat lat i ||| 4 else whyC bears behind never coat lat i := rfl
theorem lt9_hc {s v : Int32} (h : lt9 v) : hc s v = if v = -9 then false else hb s v := by
  rcases h with rfl | ⟨j, hj, rfl⟩
  · rw [hc_9, if_pos rfl]
  · rw [hc_nI s (by omega), if_neg]
    intro z
    have := congrArg Int32.toInt z
    rw [nI_toInt (by omega)] at this
    have e : (-9 : Int32).toInt = -9 := by decide
    rw [e] at this
    omega
theorem why_eq {bears behind never coat : Int32} {lat : Nat → Int32} (hcoat : 0 ≤ coat) (h0 : lt9 (lat 0)) (h1 : lt9 (lat 1)) (h2 : lt9 (lat 2)) : whyC bears behind never coat lat 3 = whyM bears behind never coat lat := by
  have hb0 : hc bears coat = hb bears coat := by unfold hc; rw [decide_eq_true hcoat, Bool.true_and]
  unfold whyC whyM whyL
  simp only [lp_s, lp_0, lt9_hc h0, lt9_hc h1, lt9_hc h2, hb0, hs]
  have n0 : nI 0 = 0 := by decide
  have n1 : ¬ nI 1 = 0 := by decide
  have n2 : ¬ nI 2 = 0 := by decide
  have z1 : ∀ x : Int32, x ||| 0 = x := fun x => by simp
  simp only [n0, n1, n2, true_and, false_and]
  generalize hb bears coat = p
  generalize hb behind (lat 0) = q
  generalize hb never (lat 0) = a
  generalize hb never (lat 1) = b
  generalize hb never (lat 2) = e
  by_cases e0 : lat 0 = -9 <;> by_cases e1 : lat 1 = -9 <;> by_cases e2 : lat 2 = -9 <;> simp only [e0, e1, e2, if_true, if_false] <;> cases p <;> cases q <;> cases a <;> cases b <;> cases e <;> decide
theorem anyB_t {n i : Nat} {p : Nat → Bool} (hi : i < n) (h : p i = true) : anyB n p = true := anyB_iff.mpr ⟨i, hi, h⟩
theorem ne9 {j : Nat} (h : j < 2 ^ 31) : ¬ nI j = -9 := by
  intro z
  have := congrArg Int32.toInt z
  rw [nI_toInt h, show (-9 : Int32).toInt = -9 by decide] at this
  omega
theorem ci0 : (0 : Int32).toNatClampNeg = 0 := by decide
theorem ci1 : (1 : Int32).toNatClampNeg = 1 := by decide
theorem ci2 : (2 : Int32).toNatClampNeg = 2 := by decide
theorem hc_vp {s x : Int32} {n : Nat} (h : vp_in x n) : hc s x = hb s x := by
  unfold hc
  rw [decide_eq_true (by rw [Int32.le_iff_toInt_le]; exact (vp_in_iff.mp h).1), Bool.true_and]
theorem okT_9 {n cn t : Nat} {tr : Nat → Int32} (h : okT n cn tr) (ht : t < n) (z : ¬ ixn (tr t) cn) : tr t = -9 := (h t ht).resolve_right (fun q => z (vp_ixn.mp q))
theorem ixn_9 {x : Int32} {cn : Nat} (h : ixn x cn) : ¬ x = -9 := fun z => by rw [z] at h; exact absurd h.1 (by decide)
/-- what is left of cargo c that the set has -/
def sB (v : Int32) (L : Nat → Int32) (c : Nat) : Bool := hb v (nI c) && decide (0 < L c)
theorem clB_comm (σ : SS) (a b : Nat) : clB σ a b = clB σ b a := by unfold clB; rw [Bool.or_comm]
/-- what is left while tanks are stowed up to i -/
def lfR (vol amt tr old : Nat → Int32) (cn i : Nat) : Nat → Int32 := fun c => if c < cn then lfI vol tr (amt c) (nI c) i else old c
theorem lfR_f {vol amt tr old : Nat → Int32} {cn i : Nat} (h : ¬ ixn (tr i) cn) (hc : cn < 2 ^ 30) : lfR vol amt tr old cn (i + 1) = lfR vol amt tr old cn i := by
  funext c
  unfold lfR
  by_cases hcn : c < cn
  · rw [if_pos hcn, if_pos hcn, lfI_s, if_neg (fun z => h (by rw [z]; exact (ixn_nI (by omega)).mpr hcn))]
  · rw [if_neg hcn, if_neg hcn]
theorem lfR_t {vol amt tr old : Nat → Int32} {cn i : Nat} (h : ixn (tr i) cn) (hc : cn < 2 ^ 30) : upd (lfR vol amt tr old cn i) (ci (tr i)) (lfR vol amt tr old cn i (ci (tr i)) - mn (vol i) (lfR vol amt tr old cn i (ci (tr i)))) = lfR vol amt tr old cn (i + 1) := by
  obtain ⟨j, hj, ej⟩ := ixn_of h (by omega)
  have ecj : ci (tr i) = j := by rw [ej]; exact nI_clamp (by omega)
  rw [ecj]
  funext c
  unfold upd lfR
  by_cases e : c = j
  · subst e
    simp [hj, lfI_s, ej]
  · by_cases hcn : c < cn
    · have : ¬ tr i = nI c := fun z => e ((nI_eq (by omega) (by omega)).mp (z.symm.trans ej))
      simp [e, hcn, lfI_s, this]
    · simp [e, hcn]
theorem fl_lfR {vol amt tr old : Nat → Int32} {cn i : Nat} (h : ixn (tr i) cn) (hc : cn < 2 ^ 30) : mn (vol i) (lfR vol amt tr old cn i (ci (tr i))) = fl vol amt tr cn i := by
  obtain ⟨j, hj, ej⟩ := ixn_of h (by omega)
  have ecj : ci (tr i) = j := by rw [ej]; exact nI_clamp (by omega)
  unfold fl lfR
  rw [if_pos h, ecj, if_pos hj, ej]
theorem fl_no {vol amt tr : Nat → Int32} {cn i : Nat} (h : ¬ ixn (tr i) cn) : fl vol amt tr cn i = 0 := by unfold fl; rw [if_neg h]
