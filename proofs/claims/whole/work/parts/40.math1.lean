/-! ===== bits ===== -/
/-- bit i of an int -/
def bq (x : Int32) (i : Nat) : Bool := x.toBitVec.getLsbD i
theorem bq_ext {x y : Int32} (h : ∀ i, i < 32 → bq x i = bq y i) : x = y := Int32.toBitVec_inj.mp (BitVec.eq_of_getLsbD_eq (fun i hi => h i hi))
theorem bq_or (x y : Int32) (i : Nat) : bq (x ||| y) i = (bq x i || bq y i) := by unfold bq; rw [Int32.toBitVec_or, BitVec.getLsbD_or]
theorem bq_and (x y : Int32) (i : Nat) : bq (x &&& y) i = (bq x i && bq y i) := by unfold bq; rw [Int32.toBitVec_and, BitVec.getLsbD_and]
theorem bq_xor (x y : Int32) (i : Nat) : bq (x ^^^ y) i = (bq x i ^^ bq y i) := by unfold bq; rw [Int32.toBitVec_xor, BitVec.getLsbD_xor]
theorem bq_m1 : ∀ i, i < 32 → bq (-1) i = true := by decide +kernel
theorem bq_0 (i : Nat) : bq 0 i = false := BitVec.getLsbD_zero
theorem bq_1 : ∀ i, i < 32 → bq 1 i = decide (i = 0) := by decide +kernel
theorem bq_sl : ∀ n, n < 32 → ((nI n &&& 31).toBitVec.smod 32).toNat = n := by decide +kernel
theorem bq_shr (n : Nat) (hn : n < 32) (x : Int32) {i : Nat} (hi : i < 32) : bq (x >>> (nI n &&& 31)) i = if n + i < 32 then bq x (n + i) else bq x 31 := by
  unfold bq
  rw [Int32.toBitVec_shiftRight]
  show (x.toBitVec.sshiftRight ((nI n &&& 31).toBitVec.smod 32).toNat).getLsbD i = _
  rw [bq_sl n hn, BitVec.getLsbD_sshiftRight, BitVec.msb_eq_getLsbD_last]
  simp [hi]
theorem bq_bt : ∀ c, c < 8 → ∀ k, k < 8 → bq (bt c) k = decide (k = c) := by decide +kernel
theorem hb_bq (x : Int32) {k : Nat} (hk : k < 32) : hb x (nI k) = bq x k := by
  have h0 : bq (x >>> (nI k &&& 31)) 0 = bq x k := by
    rw [bq_shr k hk x (by decide), if_pos (by omega), Nat.add_zero]
  have e : ((x >>> (nI k &&& 31)) &&& 1 = 1) ↔ bq x k = true := by
    rw [← h0]
    constructor
    · intro h
      have := congrArg (fun y => bq y 0) h
      simp only [bq_and, bq_1 0 (by decide)] at this
      simpa using this
    · intro h
      apply bq_ext
      intro i hi
      rw [bq_and, bq_1 i hi]
      by_cases z : i = 0
      · subst z; rw [h]; rfl
      · rw [decide_eq_false z, Bool.and_false]
  unfold hb
  by_cases z : bq x k = true
  · rw [decide_eq_true (e.mpr z), z]
  · rw [decide_eq_false (fun q => z (e.mp q))]
    exact (Bool.not_eq_true _).mp z |>.symm
theorem bq_setI {p : Nat → Prop} [∀ t, Decidable (p t)] {k : Nat} (hk : k < 8) : ∀ n, n ≤ 8 → bq (setI n p) k = (decide (k < n) && decide (p k))
  | 0, _ => by
    rw [show setI 0 p = 0 from rfl, bq_0, decide_eq_false (Nat.not_lt_zero k)]
    rfl
  | n + 1, hn => by
    have ih := bq_setI (p := p) hk n (by omega)
    have e : setI (n + 1) p = if p n then setI n p ||| bt n else setI n p := rfl
    rw [e]
    by_cases hp : p n
    · rw [if_pos hp, bq_or, ih, bq_bt n (by omega) k hk]
      by_cases h1 : k = n
      · subst h1; simp [hp]
      · by_cases h2 : k < n
        · simp [h1, h2, show k < n + 1 by omega]
        · simp [h1, h2, show ¬ k < n + 1 by omega]
    · rw [if_neg hp, ih]
      by_cases h1 : k = n
      · subst h1; simp [hp]
      · by_cases h2 : k < n
        · simp [h2, show k < n + 1 by omega]
        · simp [h2, show ¬ k < n + 1 by omega]
theorem hb_or16 : ∀ s, s < 16 → ∀ c, c < 4 → ∀ k, k < 4 → hb (nI (s ||| 2 ^ c)) (nI k) = (hb (nI s) (nI k) || decide (k = c)) := by decide +kernel
theorem bits16 : ∀ s, s < 16 → ∀ r, r < 16 → (∀ k, k < 4 → hb (nI s) (nI k) = hb (nI r) (nI k)) → s = r := by decide +kernel
theorem hb_z : ∀ k, k < 4 → hb (nI 0) (nI k) = false := by decide +kernel
theorem hb_2 : ∀ cn, cn ≤ 4 → ∀ s, s < 2 ^ cn → ∀ k, k < 4 → cn ≤ k → hb (nI s) (nI k) = false := by decide +kernel
/-! ===== sums over cargoes ===== -/
def sumZ (n : Nat) (f : Nat → Int) : Int := lp n (fun c a => a + f c) 0
theorem sumZ_s (n : Nat) (f : Nat → Int) : sumZ (n + 1) f = sumZ n f + f n := rfl
theorem sumZ_congr {n : Nat} {f g : Nat → Int} (h : ∀ c, c < n → f c = g c) : sumZ n f = sumZ n g := lp_congr n (fun c hc x => by rw [h c hc])
theorem sumZ_one {f g : Nat → Int} {c : Nat} : ∀ n, c < n → (∀ u, u ≠ c → f u = g u) → sumZ n f = sumZ n g + (f c - g c)
  | 0, h, _ => absurd h (Nat.not_lt_zero c)
  | n + 1, h, e => by
    rw [sumZ_s, sumZ_s]
    by_cases hc : c = n
    · subst hc
      rw [sumZ_congr (g := g) (fun u hu => e u (by omega))]
      omega
    · rw [sumZ_one n (by omega) e, e n (fun z => hc z.symm)]
      omega
theorem sumZ_nn {f : Nat → Int} : ∀ n, (∀ c, c < n → 0 ≤ f c) → 0 ≤ sumZ n f
  | 0, _ => Int.le_refl 0
  | n + 1, h => by
    rw [sumZ_s]
    have := sumZ_nn n (fun c hc => h c (by omega))
    have := h n (by omega)
    omega
theorem sumZ_le {f : Nat → Int} {c : Nat} : ∀ n, (∀ c, c < n → 0 ≤ f c) → c < n → f c ≤ sumZ n f
  | 0, _, h => absurd h (Nat.not_lt_zero c)
  | n + 1, h, hc => by
    rw [sumZ_s]
    have h1 := sumZ_nn n (fun c hc => h c (by omega))
    have h2 := h n (by omega)
    by_cases e : c = n
    · subst e; omega
    · have := sumZ_le n (fun c hc => h c (by omega)) (show c < n by omega)
      omega
theorem sumZ_ub {f : Nat → Int} {b : Int} : ∀ n, (∀ c, c < n → f c ≤ b) → sumZ n f ≤ b * n
  | 0, _ => by rw [show sumZ 0 f = 0 from rfl]; simp
  | n + 1, h => by
    rw [sumZ_s]
    have h1 := sumZ_ub n (fun c hc => h c (by omega))
    have h2 := h n (by omega)
    rw [Int.natCast_add, Int.mul_add]
    simp
    omega
theorem sumZ_z {f : Nat → Int} (n : Nat) (h : ∀ c, c < n → f c = 0) : sumZ n f = 0 := by
  rw [sumZ_congr (g := fun _ => 0) h]
  induction n with
  | zero => rfl
  | succ n ih => rw [sumZ_s, ih (fun c hc => h c (by omega))]; rfl
