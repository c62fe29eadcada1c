/-! ===== words of the specs ===== -/
theorem kk_c {K : ax_K} {r r' : Option Int32} {σ σ' : SS} (h : K r σ) (e1 : r = r') (e2 : σ = σ') : K r' σ' := by subst e1; subst e2; exact h
/-- a place of n -/
abbrev ixn (t : Int32) (n : Nat) : Prop := 0 ≤ t.toInt ∧ t.toInt < (n : Int)
theorem ixn_of {t : Int32} {n : Nat} (h : ixn t n) (hn : n < 2 ^ 31) : ∃ j : Nat, j < n ∧ t = nI j := by
  refine ⟨t.toInt.toNat, by omega, ?_⟩
  apply Int32.toInt_inj.mp
  rw [nI_toInt (by omega)]
  omega
theorem ixn_nI {j n : Nat} (hj : j < 2 ^ 31) : ixn (nI j) n ↔ j < n := by
  unfold ixn
  rw [nI_toInt hj]
  omega
theorem ixn_le {t : Int32} {n : Nat} (hn : n < 2 ^ 31) : ixn t n ↔ (0 ≤ t ∧ t ≤ nI n - 1) := by
  have h1 : (nI n - 1).toInt = (n : Int) - 1 := by
    rw [Int32.toInt_sub, nI_toInt hn]
    have : (1 : Int32).toInt = 1 := by decide
    rw [this]
    apply Int.bmod_eq_of_le <;> omega
  rw [Int32.le_iff_toInt_le, Int32.le_iff_toInt_le, h1, Int32.toInt_zero]
  constructor <;> intro h <;> exact ⟨h.1, by omega⟩
theorem ixn_lt {t : Int32} {n : Nat} (hn : n < 2 ^ 31) : ixn t n ↔ (0 ≤ t ∧ t < nI n) := by
  rw [Int32.le_iff_toInt_le, Int32.lt_iff_toInt_lt, nI_toInt hn, Int32.toInt_zero]
theorem ixn_in {t : Int32} {n N : Nat} (h : ixn t n) (hN : n ≤ N) : vp_in t N := vp_in_iff.mpr ⟨h.1, by omega⟩
/-- how many -/
def cntI (n : Nat) (p : Nat → Prop) [∀ t, Decidable (p t)] : Int32 := lp n (fun t a => if p t then a + 1 else a) 0
/-- which ones, as bits -/
def setI (n : Nat) (p : Nat → Prop) [∀ t, Decidable (p t)] : Int32 := lp n (fun t a => if p t then a ||| (1 <<< (nI t &&& 31)) else a) 0
def sumI (n : Nat) (f : Nat → Int32) : Int32 := lp n (fun t a => a + f t) 0
/-- the less of two -/
def mn (v a : Int32) : Int32 := if a < v then a else v
theorem up_lt (f g : Nat → Int32) (i : Nat) : upd (fun t => if t < i then f t else g t) i (f i) = fun t => if t < i + 1 then f t else g t := by
  funext t
  unfold upd
  by_cases h : t = i
  · subst h; simp
  · by_cases h2 : t < i
    · simp [h, h2, show t < i + 1 by omega]
    · simp [h, h2, show ¬ t < i + 1 by omega]
theorem up_0 (f g : Nat → Int32) : (fun t => if t < 0 then f t else g t) = g := by
  funext t; simp
theorem ix3 (a b : Nat) : 3 * nI a + nI b = nI (3 * a + b) := by
  rw [show (3 : Int32) = nI 3 by decide, pk_mul, nI_add]
theorem ix8 (a b : Nat) : 8 * nI a + nI b = nI (8 * a + b) := by
  rw [show (8 : Int32) = nI 8 by decide, pk_mul, nI_add]
theorem ix8r (a b : Nat) : nI a * 8 + nI b = nI (8 * a + b) := by
  rw [show (8 : Int32) = nI 8 by decide, pk_mul, nI_add, Nat.mul_comm]
theorem ix30 (a : Nat) : 3 * nI a = nI (3 * a) := by
  rw [show (3 : Int32) = nI 3 by decide, pk_mul]
/-- a liquid -/
abbrev lq (l : Int32) : Prop := 0 ≤ l ∧ l ≤ 7
theorem bd_of {l : Int32} {M : Int32} (n : Nat) (hM : M.toInt = n) (h : 0 ≤ l ∧ l ≤ M) : ∃ j : Nat, j < n + 1 ∧ l = nI j := by
  obtain ⟨j, h1, h2⟩ := nI_of2 hM (Int32.not_lt.mpr h.1) h.2
  exact ⟨j, by omega, h2⟩
theorem lq_of {l : Int32} (h : lq l) : ∃ j : Nat, j < 8 ∧ l = nI j := bd_of 7 (by decide) h
/-- bit t -/
abbrev bt (t : Nat) : Int32 := 1 <<< (nI t &&& 31)
abbrev tkOK (v c l : Int32) : Prop := (1 ≤ v ∧ v ≤ 99) ∧ (0 ≤ c ∧ c ≤ 3) ∧ (-9 ≤ l ∧ l ≤ 9)
abbrev cgOK (v c b e r : Int32) : Prop := (1 ≤ v ∧ v ≤ 400) ∧ (0 ≤ c ∧ c ≤ 15) ∧ (0 ≤ b ∧ b ≤ 255) ∧ (0 ≤ e ∧ e ≤ 255) ∧ (0 ≤ r ∧ r ≤ 255)
theorem nI_ne {n k : Nat} (hn : n < 2 ^ 31) (hk : k < 2 ^ 31) : nI n = nI k ↔ n = k := nI_eq hn hk
def ofTankM (σ : SS) (a j : Nat) : Int32 := match j with
  | 0 => σ 29 0 a
  | 1 => σ 30 0 a
  | 2 => σ 31 0 a + 10
  | 3 => σ 32 0 a
  | 4 => σ 33 0 (3 * a)
  | 5 => σ 33 0 (3 * a + 1)
  | 6 => σ 33 0 (3 * a + 2)
  | 7 => σ 35 0 a
  | _ => σ 36 0 a
theorem rp_self2 {σ : SS} {k i k' i' : Nat} {f : Nat → Int32} (h : ¬ k' = k) : rp (rp σ k i f) k' i' (σ k' i') = rp σ k i f := by
  funext a b
  by_cases h2 : a = k' ∧ b = i'
  · obtain ⟨rfl, rfl⟩ := h2; simp [rp, h]
  · simp [rp, h2]
theorem ot4 {a j : Nat} (hj : 4 ≤ j) : 3 * nI a + nI j - 4 = nI (3 * a + j - 4) := by
  rw [ix3, show (4 : Int32) = nI 4 by decide, pk_sub (by omega)]
/-- a last liquid: none, or one -/
abbrev lt9 (v : Int32) : Prop := v = -9 ∨ ∃ j, j < 8 ∧ v = nI j
/-- washes from the last to a liquid -/
def wf (wb : Nat → Int32) (last liq : Int32) : Int32 := if last = -9 then 0 else wb (8 * last + liq).toNatClampNeg
def whyL (bears behind never coat : Int32) (lat : Nat → Int32) (k : Nat) : Int32 := lp k (fun i a => if lat i = -9 then a else (a ||| (if nI i = 0 ∧ hs behind (lat i) then 2 else 0)) ||| (if hs never (lat i) then 4 else 0)) (if hs bears coat then 0 else 1)
def whyM (bears behind never coat : Int32) (lat : Nat → Int32) : Int32 := whyL bears behind never coat lat 3
