/-! ===== words of the specs ===== -/
theorem kk_c {K : ax_K} {r r' : Option Int32} {σ σ' : SS} (h : K r σ) (e1 : r = r') (e2 : σ = σ') : K r' σ' := by subst e1; subst e2; exact h
/-- a place of n -/
abbrev ixn (t : Int32) (n : Nat) : Prop := 0 ≤ t.toInt ∧ t.toInt < (n : Int)
theorem ixn_of {t : Int32} {n : Nat} (h : ixn t n) (hn : n < 2 ^ 31) : ∃ j : Nat, j < n ∧ t = nI j := by
  refine ⟨t.toInt.toNat, by omega, ?_⟩
  apply Int32.toInt_inj.mp
  rw [nI_toInt (by omega)]
  omega
theorem ixn_nI {j n : Nat} (hj : j < 2 ^ 31) : ixn (nI j) n ↔ j < n := by
  unfold ixn
  rw [nI_toInt hj]
  omega
theorem ixn_le {t : Int32} {n : Nat} (hn : n < 2 ^ 31) : ixn t n ↔ (0 ≤ t ∧ t ≤ nI n - 1) := by
  have h1 : (nI n - 1).toInt = (n : Int) - 1 := by
    rw [Int32.toInt_sub, nI_toInt hn]
    have : (1 : Int32).toInt = 1 := by decide
    rw [this]
    apply Int.bmod_eq_of_le <;> omega
  rw [Int32.le_iff_toInt_le, Int32.le_iff_toInt_le, h1, Int32.toInt_zero]
  constructor <;> intro h <;> exact ⟨h.1, by omega⟩
theorem ixn_lt {t : Int32} {n : Nat} (hn : n < 2 ^ 31) : ixn t n ↔ (0 ≤ t ∧ t < nI n) := by
  rw [Int32.le_iff_toInt_le, Int32.lt_iff_toInt_lt, nI_toInt hn, Int32.toInt_zero]
theorem ixn_in {t : Int32} {n N : Nat} (h : ixn t n) (hN : n ≤ N) : vp_in t N := vp_in_iff.mpr ⟨h.1, by omega⟩
/-- how many -/
def cntI (n : Nat) (p : Nat → Prop) [∀ t, Decidable (p t)] : Int32 := lp n (fun t a => if p t then a + 1 else a) 0
/-- which ones, as bits -/
def setI (n : Nat) (p : Nat → Prop) [∀ t, Decidable (p t)] : Int32 := lp n (fun t a => if p t then a ||| (1 <<< (nI t &&& 31)) else a) 0
def sumI (n : Nat) (f : Nat → Int32) : Int32 := lp n (fun t a => a + f t) 0
/-- the less of two -/
def mn (v a : Int32) : Int32 := if a < v then a else v
theorem up_lt (f g : Nat → Int32) (i : Nat) : upd (fun t => if t < i then f t else g t) i (f i) = fun t => if t < i + 1 then f t else g t := by
  funext t
  unfold upd
  by_cases h : t = i
  · subst h; simp
  · by_cases h2 : t < i
    · simp [h, h2, show t < i + 1 by omega]
    · simp [h, h2, show ¬ t < i + 1 by omega]
theorem up_0 (f g : Nat → Int32) : (fun t => if t < 0 then f t else g t) = g := by
  funext t; simp
theorem ix3 (a b : Nat) : 3 * nI a + nI b = nI (3 * a + b) := by
  rw [show (3 : Int32) = nI 3 by decide, pk_mul, nI_add]
theorem ix8 (a b : Nat) : 8 * nI a + nI b = nI (8 * a + b) := by
  rw [show (8 : Int32) = nI 8 by decide, pk_mul, nI_add]
theorem ix8r (a b : Nat) : nI a * 8 + nI b = nI (8 * a + b) := by
  rw [show (8 : Int32) = nI 8 by decide, pk_mul, nI_add, Nat.mul_comm]
theorem ix30 (a : Nat) : 3 * nI a = nI (3 * a) := by
  rw [show (3 : Int32) = nI 3 by decide, pk_mul]
/-- a liquid -/
abbrev lq (l : Int32) : Prop := 0 ≤ l ∧ l ≤ 7
theorem bd_of {l : Int32} {M : Int32} (n : Nat) (hM : M.toInt = n) (h : 0 ≤ l ∧ l ≤ M) : ∃ j : Nat, j < n + 1 ∧ l = nI j := by
  obtain ⟨j, h1, h2⟩ := nI_of2 hM (Int32.not_lt.mpr h.1) h.2
  exact ⟨j, by omega, h2⟩
theorem lq_of {l : Int32} (h : lq l) : ∃ j : Nat, j < 8 ∧ l = nI j := bd_of 7 (by decide) h
/-- bit t -/
abbrev bt (t : Nat) : Int32 := 1 <<< (nI t &&& 31)
abbrev tkOK (v c l : Int32) : Prop := (1 ≤ v ∧ v ≤ 99) ∧ (0 ≤ c ∧ c ≤ 3) ∧ (-9 ≤ l ∧ l ≤ 9)
abbrev cgOK (v c b e r : Int32) : Prop := (1 ≤ v ∧ v ≤ 400) ∧ (0 ≤ c ∧ c ≤ 15) ∧ (0 ≤ b ∧ b ≤ 255) ∧ (0 ≤ e ∧ e ≤ 255) ∧ (0 ≤ r ∧ r ≤ 255)
theorem nI_ne {n k : Nat} (hn : n < 2 ^ 31) (hk : k < 2 ^ 31) : nI n = nI k ↔ n = k := nI_eq hn hk
def ofTankM (σ : SS) (a j : Nat) : Int32 := match j with
  | 0 => σ 29 0 a
  | 1 => σ 30 0 a
  | 2 => σ 31 0 a + 10
  | 3 => σ 32 0 a
  | 4 => σ 33 0 (3 * a)
  | 5 => σ 33 0 (3 * a + 1)
  | 6 => σ 33 0 (3 * a + 2)
  | 7 => σ 35 0 a
  | _ => σ 36 0 a
theorem rp_self2 {σ : SS} {k i k' i' : Nat} {f : Nat → Int32} (h : ¬ k' = k) : rp (rp σ k i f) k' i' (σ k' i') = rp σ k i f := by
  funext a b
  by_cases h2 : a = k' ∧ b = i'
  · obtain ⟨rfl, rfl⟩ := h2; simp [rp, h]
  · simp [rp, h2]
theorem ot4 {a j : Nat} (hj : 4 ≤ j) : 3 * nI a + nI j - 4 = nI (3 * a + j - 4) := by
  rw [ix3, show (4 : Int32) = nI 4 by decide, pk_sub (by omega)]
/-- a last liquid: none, or one -/
abbrev lt9 (v : Int32) : Prop := v = -9 ∨ ∃ j, j < 8 ∧ v = nI j
/-- washes from the last to a liquid -/
def wf (wb : Nat → Int32) (last liq : Int32) : Int32 := if last = -9 then 0 else wb (8 * last + liq).toNatClampNeg
def whyL (bears behind never coat : Int32) (lat : Nat → Int32) (k : Nat) : Int32 := lp k (fun i a => if lat i = -9 then a else (a ||| (if nI i = 0 ∧ hs behind (lat i) then 2 else 0)) ||| (if hs never (lat i) then 4 else 0)) (if hs bears coat then 0 else 1)
def whyM (bears behind never coat : Int32) (lat : Nat → Int32) : Int32 := whyL bears behind never coat lat 3
/-- whether some of n -/
def anyB (n : Nat) (p : Nat → Bool) : Bool := lp n (fun t b => b || p t) false
theorem anyB_0 (p : Nat → Bool) : anyB 0 p = false := rfl
theorem anyB_s (n : Nat) (p : Nat → Bool) : anyB (n + 1) p = (anyB n p || p n) := rfl
theorem anyB_iff {n : Nat} {p : Nat → Bool} : anyB n p = true ↔ ∃ t, t < n ∧ p t = true := by
  induction n with
  | zero => simp [anyB_0]
  | succ n ih =>
    rw [anyB_s, Bool.or_eq_true, ih]
    constructor
    · rintro (⟨t, h1, h2⟩ | h)
      · exact ⟨t, by omega, h2⟩
      · exact ⟨n, by omega, h⟩
    · rintro ⟨t, h1, h2⟩
      rcases Nat.lt_or_ge t n with h | h
      · exact Or.inl ⟨t, h, h2⟩
      · have : t = n := by omega
        subst this
        exact Or.inr h2
theorem bI_false : bI (false = true) = 0 := rfl
abbrev ci (x : Int32) : Nat := x.toNatClampNeg
/-- why a tank does not suit a cargo, in the reference's state -/
def whyS (σ : SS) (t c : Nat) : Int32 := whyM (σ 39 0 c) (σ 40 0 c) (σ 41 0 c) (σ 30 0 t) (fun k => σ 33 0 (3 * t + k))
/-- two cargoes clash, in the reference's state -/
def clB (σ : SS) (c e : Nat) : Bool := hb (σ 42 0 c) (σ 37 0 e) || hb (σ 42 0 e) (σ 37 0 c)
/-- washes for a cargo, in the reference's state -/
def wfS (σ : SS) (t c : Nat) : Int32 := wf (σ 43 0) (σ 33 0 (3 * t)) (σ 37 0 c)
abbrev okT (n cn : Nat) (tr : Nat → Int32) : Prop := ∀ t, t < n → tr t = -9 ∨ vp_in (tr t) cn
theorem vp_mono {x : Int32} {n m : Nat} (h : vp_in x n) (hm : n ≤ m) : vp_in x m := vp_in_iff.mpr ⟨(vp_in_iff.mp h).1, by have := (vp_in_iff.mp h).2; omega⟩
theorem vp_ixn {x : Int32} {n : Nat} : vp_in x n ↔ ixn x n := vp_in_iff
/-- what is left of a cargo, ahead of tank t -/
def lfI (vol tr : Nat → Int32) (a c : Int32) (t : Nat) : Int32 := lp t (fun u r => if tr u = c then r - mn (vol u) r else r) a
theorem lfI_s (vol tr : Nat → Int32) (a c : Int32) (t : Nat) : lfI vol tr a c (t + 1) = if tr t = c then lfI vol tr a c t - mn (vol t) (lfI vol tr a c t) else lfI vol tr a c t := rfl
/-- what is filled into tank t -/
def fl (vol amt tr : Nat → Int32) (cn t : Nat) : Int32 := if ixn (tr t) cn then mn (vol t) (lfI vol tr (amt (ci (tr t))) (tr t) t) else 0
theorem fl_s {vol amt tr : Nat → Int32} {c t : Nat} (hc : c < 2 ^ 30) : fl vol amt tr (c + 1) t = if tr t = nI c then mn (vol t) (lfI vol tr (amt c) (nI c) t) else fl vol amt tr c t := by
  unfold fl
  by_cases h : tr t = nI c
  · rw [if_pos h, h, if_pos ((ixn_nI (by omega)).mpr (by omega)), ci, nI_clamp (by omega)]
  · rw [if_neg h]
    have e : ixn (tr t) (c + 1) ↔ ixn (tr t) c := by
      constructor
      · intro z
        obtain ⟨j, hj, ej⟩ := ixn_of z (by omega)
        rw [ej] at h ⊢
        have hne : j ≠ c := fun q => h (by rw [q])
        exact (ixn_nI (by omega)).mpr (by omega)
      · intro z
        exact ⟨z.1, by have := z.2; omega⟩
    by_cases h2 : ixn (tr t) c
    · rw [if_pos h2, if_pos (e.mpr h2)]
    · rw [if_neg h2, if_neg (fun z => h2 (e.mp z))]
theorem fl_0 {vol amt tr : Nat → Int32} {t : Nat} : fl vol amt tr 0 t = 0 := by
  unfold fl
  rw [if_neg]
  intro h
  have := h.1
  have := h.2
  omega
def ofCargoM (σ : SS) (n cn a j : Nat) : Int32 := match j with
  | 0 => σ 37 0 a
  | 1 => σ 38 0 a
  | 2 => σ 39 0 a
  | 3 => σ 40 0 a
  | 4 => σ 41 0 a
  | 5 => σ 42 0 a
  | 6 => setI n (fun t => whyS σ t a = 0)
  | _ => setI cn (fun e => clB σ a e = true)
theorem shl1 {c : Nat} (h : c ≤ 4) : (1 : Int32) <<< (nI c &&& 31) = nI (2 ^ c) := by
  match c, h with
  | 0, _ => decide
  | 1, _ => decide
  | 2, _ => decide
  | 3, _ => decide
  | 4, _ => decide
  | n + 5, h => exact absurd h (by omega)
theorem two_lt {c : Nat} (h : c ≤ 4) : 2 ^ c < 2 ^ 31 := Nat.pow_lt_pow_right (by decide) (by omega)
theorem ii_1 (x : Int32) : x + Int32.ofInt 1 = x + 1 := rfl
theorem ii_m1 (x : Int32) : x + Int32.ofInt (-1) = x - 1 := by
  rw [show Int32.ofInt (-1) = -1 by decide, ← Int32.sub_eq_add_neg]
theorem vp_lt {x : Int32} {n : Nat} (h : vp_in x n) : ci x < n := Nat.not_le.mp fun q => h (Or.inr q)
/-- rule 1 is broken at t: a cargo that is not of the set -/
def oB (v : Int32) (tr : Nat → Int32) (t : Nat) : Bool := decide (tr t ≠ -9) && !hb v (tr t)
/-- rule 2: it does not suit -/
def uB (σ : SS) (tr : Nat → Int32) (t : Nat) : Bool := decide (tr t ≠ -9) && decide (¬ whyS σ t (ci (tr t)) = 0)
/-- rule 3: a and b ahead of it clash -/
def kB (σ : SS) (tr : Nat → Int32) (a b : Nat) : Bool := hb (σ 32 0 a) (nI b) && (decide (tr a ≠ -9) && (decide (tr b ≠ -9) && clB σ (ci (tr a)) (ci (tr b))))
def kA (σ : SS) (tr : Nat → Int32) (a : Nat) : Bool := anyB a (kB σ tr a)
/-- rule 4: cargo c has too little room -/
def vS (σ : SS) (tr : Nat → Int32) (c n : Nat) : Int32 := lp n (fun t a => if tr t = nI c then a + σ 29 0 t else a) 0
theorem vS_s (σ : SS) (tr : Nat → Int32) (c n : Nat) : vS σ tr c (n + 1) = if tr n = nI c then vS σ tr c n + σ 29 0 n else vS σ tr c n := rfl
def mB (σ : SS) (tr : Nat → Int32) (n : Nat) (v : Int32) (c : Nat) : Bool := hb v (nI c) && decide (vS σ tr c n < σ 38 0 c)
/-- rule 5: a tank would stay empty -/
def eB (tr fi : Nat → Int32) (t : Nat) : Bool := decide (tr t ≠ -9) && decide (fi t = 0)
/-- the cost -/
def coS (σ : SS) (tr : Nat → Int32) (n : Nat) : Int32 := lp n (fun t a => if tr t = -9 then a else a + wfS σ t (ci (tr t))) 0
theorem coS_s (σ : SS) (tr : Nat → Int32) (n : Nat) : coS σ tr (n + 1) = if tr n = -9 then coS σ tr n else coS σ tr n + wfS σ n (ci (tr n)) := rfl
/-- amounts of a set -/
def amS (σ : SS) (v : Int32) (n : Nat) : Int32 := lp n (fun c a => if hb v (nI c) = true then a + σ 38 0 c else a) 0
theorem amS_s (σ : SS) (v : Int32) (n : Nat) : amS σ v (n + 1) = if hb v (nI n) = true then amS σ v n + σ 38 0 n else amS σ v n := rfl
/-- how many tanks have a cargo -/
def usS (tr : Nat → Int32) (n : Nat) : Int32 := lp n (fun t a => if tr t = -9 then a else a + 1) 0
theorem usS_s (tr : Nat → Int32) (n : Nat) : usS tr (n + 1) = if tr n = -9 then usS tr n else usS tr n + 1 := rfl
theorem lp_congr {α : Type} {f g : Nat → α → α} {a : α} : ∀ (n : Nat), (∀ t, t < n → ∀ x, f t x = g t x) → lp n f a = lp n g a
  | 0, _ => rfl
  | n + 1, h => by rw [lp_s, lp_s, lp_congr n (fun t ht => h t (by omega)), h n (by omega)]
theorem anyB_congr {n : Nat} {p q : Nat → Bool} (h : ∀ t, t < n → p t = q t) : anyB n p = anyB n q := lp_congr n (fun t ht x => by rw [h t ht])
theorem sumI_congr {n : Nat} {p q : Nat → Int32} (h : ∀ t, t < n → p t = q t) : sumI n p = sumI n q := lp_congr n (fun t ht x => by rw [h t ht])
/-- the filled row while cargo i is filled into tanks ahead of j -/
def frow (vol amt tr old : Nat → Int32) (n i j : Nat) : Nat → Int32 := fun t => if t < n then (if t < j then fl vol amt tr (i + 1) t else fl vol amt tr i t) else old t
theorem frow_0 (vol amt tr old : Nat → Int32) (n i : Nat) : frow vol amt tr old n i 0 = fun t => if t < n then fl vol amt tr i t else old t := by
  funext t; simp [frow]
theorem frow_n (vol amt tr old : Nat → Int32) (n i : Nat) : frow vol amt tr old n i n = fun t => if t < n then fl vol amt tr (i + 1) t else old t := by
  funext t
  unfold frow
  by_cases h : t < n <;> simp [h]
theorem frow_up {vol amt tr old : Nat → Int32} {n i j : Nat} (h : tr j = nI i) (hj : j < n) (hi : i < 2 ^ 30) : upd (frow vol amt tr old n i j) j (mn (vol j) (lfI vol tr (amt i) (nI i) j)) = frow vol amt tr old n i (j + 1) := by
  funext t
  unfold upd frow
  by_cases e : t = j
  · subst e
    simp [hj, fl_s hi, h]
  · by_cases e2 : t < j
    · simp [e, e2, show t < j + 1 by omega]
    · simp [e, e2, show ¬ t < j + 1 by omega]
theorem frow_ne {vol amt tr old : Nat → Int32} {n i j : Nat} (h : ¬ tr j = nI i) (hi : i < 2 ^ 30) : frow vol amt tr old n i j = frow vol amt tr old n i (j + 1) := by
  funext t
  unfold frow
  by_cases e : t = j
  · subst e
    simp [fl_s hi, h]
  · by_cases e2 : t < j
    · simp [e2, show t < j + 1 by omega]
    · simp [e2, show ¬ t < j + 1 by omega]
/-- LIST of a row -/
def liS (σ : SS) (tr : Nat → Int32) (n cn : Nat) : Int32 := sumI n (fun t => fl (σ 29 0) (σ 38 0) tr cn t * σ 31 0 t)
/-- the first rule that is broken -/
def brS (σ : SS) (tr : Nat → Int32) (n cn : Nat) (v : Int32) : Int32 :=
  if anyB n (oB v tr) = true then 1 else if anyB n (uB σ tr) = true then 2 else if anyB n (kA σ tr) = true then 3 else if anyB cn (mB σ tr n v) = true then 4 else
  if anyB n (eB tr (fl (σ 29 0) (σ 38 0) tr cn)) = true then 5 else if σ 28 0 17 < liS σ tr n cn ∨ σ 28 0 17 < -liS σ tr n cn then 6 else 0
def pc4 (m : Nat) : Nat := m % 2 + (m / 2) % 2 + (m / 4) % 2 + (m / 8) % 2
theorem pc4_s : ∀ m, m < 16 → pc4 m = m % 2 + pc4 (m / 2) := by decide
theorem an1 : ∀ m, m < 16 → nI m &&& 1 = nI (m % 2) := by decide
theorem sr1 : ∀ m, m < 16 → nI m >>> ((1 : Int32) &&& 31) = nI (m / 2) := by decide
/-- a set is better than another -/
def btB (σ : SS) (cn s t : Nat) : Bool := decide (0 < amS σ (nI s) cn - amS σ (nI t) cn) || (decide (amS σ (nI s) cn - amS σ (nI t) cn = 0) && decide (nI (pc4 s) < nI (pc4 t)))
/-- tank t forbids cargo c in tank a -/
def tB (σ : SS) (a : Nat) (c : Int32) (t : Nat) : Bool := hb (σ 32 0 a) (nI t) && (decide (σ 35 0 t ≠ -9) && clB σ (ci (σ 35 0 t)) (ci c))
/-- the three last liquids behind emptying -/
def latUp (L : Nat → Int32) (a : Nat) (l : Int32) : Nat → Int32 := upd (upd (upd L (3 * a + 2) (L (3 * a + 1))) (3 * a + 1) (L (3 * a))) (3 * a) l
theorem eB_fr (n : Nat) (tr g h : Nat → Int32) : anyB n (eB tr (fun t => if t < n then g t else h t)) = anyB n (eB tr g) := anyB_congr (fun t ht => by simp [eB, ht])
theorem fl_congr {vol amt tr tr' : Nat → Int32} {cn t : Nat} (h : ∀ u, u ≤ t → tr u = tr' u) : fl vol amt tr cn t = fl vol amt tr' cn t := by
  unfold fl
  rw [h t (Nat.le_refl t)]
  have e : ∀ a c, lfI vol tr a c t = lfI vol tr' a c t := fun a c => lp_congr t (fun u hu x => by rw [h u (by omega)])
  rw [e]
theorem brS_congr {σ : SS} {tr tr' : Nat → Int32} {n cn : Nat} {v : Int32} (h : ∀ t, t < n → tr t = tr' t) : brS σ tr n cn v = brS σ tr' n cn v := by
  have e1 : anyB n (oB v tr) = anyB n (oB v tr') := anyB_congr (fun t ht => by simp [oB, h t ht])
  have e2 : anyB n (uB σ tr) = anyB n (uB σ tr') := anyB_congr (fun t ht => by simp [uB, h t ht])
  have e3 : anyB n (kA σ tr) = anyB n (kA σ tr') := anyB_congr (fun t ht => anyB_congr (fun u hu => by simp [kB, h t ht, h u (by omega)]))
  have e4 : anyB cn (mB σ tr n v) = anyB cn (mB σ tr' n v) := anyB_congr (fun c _ => by
    have : vS σ tr c n = vS σ tr' c n := lp_congr n (fun t ht x => by rw [h t ht])
    simp [mB, this])
  have e5 : anyB n (eB tr (fl (σ 29 0) (σ 38 0) tr cn)) = anyB n (eB tr' (fl (σ 29 0) (σ 38 0) tr' cn)) := anyB_congr (fun t ht => by
    rw [eB, eB, h t ht, fl_congr (fun u hu => h u (by omega))])
  have e6 : liS σ tr n cn = liS σ tr' n cn := sumI_congr (fun t ht => by rw [fl_congr (fun u hu => h u (by omega))])
  unfold brS
  rw [e1, e2, e3, e4, e5, e6]
theorem coS_congr {σ : SS} {tr tr' : Nat → Int32} {n : Nat} (h : ∀ t, t < n → tr t = tr' t) : coS σ tr n = coS σ tr' n := lp_congr n (fun t ht x => by rw [h t ht])
theorem usS_congr {tr tr' : Nat → Int32} {n : Nat} (h : ∀ t, t < n → tr t = tr' t) : usS tr n = usS tr' n := lp_congr n (fun t ht x => by rw [h t ht])
/-- the reference's state with its scratch rows -/
def mS (σ : SS) (x y z : Int32) (f g b c : Nat → Int32) : SS := rp (rp (rp (rp (rp σ 28 0 (upd (upd (upd (σ 28 0) 20 x) 21 y) 22 z)) 44 0 f) 45 0 g) 46 0 b) 47 0 c
theorem mS_self (σ : SS) : mS σ (σ 28 0 20) (σ 28 0 21) (σ 28 0 22) (σ 44 0) (σ 45 0) (σ 46 0) (σ 47 0) = σ := by
  funext k i
  unfold mS rp
  by_cases h28 : k = 28 ∧ i = 0
  · obtain ⟨rfl, rfl⟩ := h28
    funext j
    simp only [Nat.reduceEqDiff, false_and, if_false, and_self, if_true, upd]
    by_cases h1 : j = 22 <;> by_cases h2 : j = 21 <;> by_cases h3 : j = 20 <;> simp [h1, h2, h3]
  · by_cases h4 : k = 44 ∧ i = 0
    · obtain ⟨rfl, rfl⟩ := h4; simp
    · by_cases h5 : k = 45 ∧ i = 0
      · obtain ⟨rfl, rfl⟩ := h5; simp
      · by_cases h6 : k = 46 ∧ i = 0
        · obtain ⟨rfl, rfl⟩ := h6; simp
        · by_cases h7 : k = 47 ∧ i = 0
          · obtain ⟨rfl, rfl⟩ := h7; simp
          · simp [h28, h4, h5, h6, h7]
theorem mS_44 (σ : SS) (x y z : Int32) (f g b c f' : Nat → Int32) : rp (mS σ x y z f g b c) 44 0 f' = mS σ x y z f' g b c := by
  funext k i; unfold mS rp
  by_cases h : k = 44 ∧ i = 0 <;> simp [h]
theorem mS_45 (σ : SS) (x y z : Int32) (f g b c f' : Nat → Int32) : rp (mS σ x y z f g b c) 45 0 f' = mS σ x y z f f' b c := by
  funext k i; unfold mS rp
  by_cases h : k = 45 ∧ i = 0 <;> simp [h]
theorem mS_46 (σ : SS) (x y z : Int32) (f g b c f' : Nat → Int32) : rp (mS σ x y z f g b c) 46 0 f' = mS σ x y z f g f' c := by
  funext k i; unfold mS rp
  by_cases h : k = 46 ∧ i = 0 <;> simp [h]
theorem mS_47 (σ : SS) (x y z : Int32) (f g b c f' : Nat → Int32) : rp (mS σ x y z f g b c) 47 0 f' = mS σ x y z f g b f' := by
  funext k i; unfold mS rp
  by_cases h : k = 47 ∧ i = 0 <;> simp [h]
theorem mS_28 (σ : SS) (x y z x' y' z' : Int32) (f g b c a : Nat → Int32) (ha : a = upd (upd (upd (σ 28 0) 20 x') 21 y') 22 z') : rp (mS σ x y z f g b c) 28 0 a = mS σ x' y' z' f g b c := by
  subst ha
  funext k i; unfold mS rp
  by_cases h : k = 28 ∧ i = 0 <;> simp [h]
theorem mS_r28 (σ : SS) (x y z : Int32) (f g b c : Nat → Int32) : (mS σ x y z f g b c) 28 0 = upd (upd (upd (σ 28 0) 20 x) 21 y) 22 z := rfl
theorem mS_r44 (σ : SS) (x y z : Int32) (f g b c : Nat → Int32) : (mS σ x y z f g b c) 44 0 = f := rfl
theorem mS_r45 (σ : SS) (x y z : Int32) (f g b c : Nat → Int32) : (mS σ x y z f g b c) 45 0 = g := rfl
theorem mS_r46 (σ : SS) (x y z : Int32) (f g b c : Nat → Int32) : (mS σ x y z f g b c) 46 0 = b := rfl
theorem mS_r47 (σ : SS) (x y z : Int32) (f g b c : Nat → Int32) : (mS σ x y z f g b c) 47 0 = c := rfl
theorem mS_rk {σ : SS} {x y z : Int32} {f g b c : Nat → Int32} {k i : Nat} (h : k ≠ 28 ∧ k ≠ 44 ∧ k ≠ 45 ∧ k ≠ 46 ∧ k ≠ 47) : (mS σ x y z f g b c) k i = σ k i := by
  unfold mS rp; simp [h]
theorem mS_r28j {σ : SS} {x y z : Int32} {f g b c : Nat → Int32} {j : Nat} (h : j ≠ 20 ∧ j ≠ 21 ∧ j ≠ 22) : (mS σ x y z f g b c) 28 0 j = σ 28 0 j := by
  rw [mS_r28]; simp [upd, h]
theorem brS_mS (σ : SS) (x y z : Int32) (f g b c tr : Nat → Int32) (n cn : Nat) (v : Int32) : brS (mS σ x y z f g b c) tr n cn v = brS σ tr n cn v := rfl
theorem coS_mS (σ : SS) (x y z : Int32) (f g b c tr : Nat → Int32) (n : Nat) : coS (mS σ x y z f g b c) tr n = coS σ tr n := rfl
theorem brS_44 (σ : SS) (f tr : Nat → Int32) (n cn : Nat) (v : Int32) : brS (rp σ 44 0 f) tr n cn v = brS σ tr n cn v := rfl
/-- the digit of tank t in row r -/
def dg (r m n t : Nat) : Nat := (r / m ^ (n - 1 - t)) % m
/-- keep a right row if it is better: how many, cost, used, the row -/
abbrev SA : Type := Int32 × Int32 × Int32 × (Nat → Int32)
def bet (co us : Int32) (a : SA) : Bool := decide (a.1 + 1 = 1) || (decide (co < a.2.1) || (decide (co = a.2.1) && decide (us < a.2.2.1)))
def kpS (σ : SS) (n : Nat) (tr : Nat → Int32) (a : SA) : SA := if bet (coS σ tr n) (usS tr n) a = true then (a.1 + 1, coS σ tr n, usS tr n, fun t => if t < n then tr t else a.2.2.2 t) else (a.1 + 1, a.2.1, a.2.2.1, a.2.2.2)
def stS (σ : SS) (n cn : Nat) (v : Int32) (tr : Nat → Int32) (a : SA) : SA := if brS σ tr n cn v = 0 then kpS σ n tr a else a
/-- the cargoes of a set, below i -/
def chs (s i : Nat) : List Nat := (List.range i).filter (fun c => hb (nI s) (nI c))
def chr (L : List Nat) (old : Nat → Int32) : Nat → Int32 := fun j => ((L[j]?).map nI).getD (old j)
theorem chs_s (s i : Nat) : chs s (i + 1) = if hb (nI s) (nI i) = true then chs s i ++ [i] else chs s i := by
  unfold chs
  rw [List.range_succ, List.filter_append]
  by_cases h : hb (nI s) (nI i) = true <;> simp [h]
theorem chr_up (L : List Nat) (old : Nat → Int32) (i : Nat) : upd (chr L old) L.length (nI i) = chr (L ++ [i]) old := by
  funext j
  unfold upd chr
  by_cases h : j = L.length
  · subst h; simp
  · rw [if_neg h]
    by_cases h2 : j < L.length
    · rw [List.getElem?_append_left h2]
    · rw [List.getElem?_eq_none (by omega), List.getElem?_eq_none (by simp; omega)]
theorem chs_len (s i : Nat) : (chs s i).length ≤ i := by
  unfold chs
  exact Nat.le_trans (List.length_filter_le _ _) (by simp)
/-- the plan of row r for set s: what tank t has -/
def rwS (s cn n r : Nat) (t : Nat) : Int32 := ((chs s cn)[dg r ((chs s cn).length + 1) n t]?).elim (-9) nI
def fbS (σ : SS) (n cn s : Nat) (k : Nat) (a : SA) : SA := lp k (fun r a => stS σ n cn (nI s) (rwS s cn n r) a) a
/-- the tried row while it is laid from the last tank on -/
def lrow (ch old : Nat → Int32) (r m n i : Nat) : Nat → Int32 := fun t => if n - i ≤ t ∧ t < n then ch (dg r m n t) else old t
theorem lrow_0 (ch old : Nat → Int32) (r m n : Nat) : lrow ch old r m n 0 = old := by
  funext t
  unfold lrow
  rw [if_neg (by omega)]
theorem lrow_n (ch old : Nat → Int32) (r m n : Nat) : lrow ch old r m n n = fun t => if t < n then ch (dg r m n t) else old t := by
  funext t
  unfold lrow
  by_cases h : t < n
  · rw [if_pos ⟨by omega, h⟩, if_pos h]
  · rw [if_neg (by omega), if_neg h]
theorem lrow_s {ch old : Nat → Int32} {r m n i : Nat} (hi : i < n) : upd (lrow ch old r m n i) (n - i - 1) (ch (r / m ^ i % m)) = lrow ch old r m n (i + 1) := by
  funext t
  unfold upd lrow
  by_cases h : t = n - i - 1
  · rw [if_pos h, if_pos (by omega)]
    unfold dg
    rw [show n - 1 - t = i by omega]
  · rw [if_neg h]
    by_cases h2 : n - i ≤ t ∧ t < n
    · rw [if_pos h2, if_pos (by omega)]
    · rw [if_neg h2, if_neg (by omega)]
theorem pow_le6 {m n : Nat} (hm : m ≤ 5) (hn : n ≤ 6) : m ^ n ≤ 15625 := by
  have h1 : m ^ n ≤ 5 ^ n := Nat.pow_le_pow_left hm n
  have h2 : (5 : Nat) ^ n ≤ 5 ^ 6 := Nat.pow_le_pow_right (by decide) hn
  have h3 : (5 : Nat) ^ 6 = 15625 := by decide
  omega
theorem dg_lt {r m n t : Nat} (hm : 0 < m) : dg r m n t < m := Nat.mod_lt _ hm
/-- whether a row would be kept -/
def kpB (σ : SS) (n : Nat) : Bool := decide (σ 28 0 20 = 1) || (decide (coS σ (σ 44 0) n < σ 28 0 21) || (decide (coS σ (σ 44 0) n = σ 28 0 21) && decide (usS (σ 44 0) n < σ 28 0 22)))
theorem fbS_s (σ : SS) (n cn s k : Nat) (a : SA) : fbS σ n cn s (k + 1) a = stS σ n cn (nI s) (rwS s cn n k) (fbS σ n cn s k a) := rfl
theorem chs_lt {s cn c : Nat} (h : c ∈ chs s cn) : c < cn := List.mem_range.mp (List.mem_filter.mp h).1
theorem rw_lay (s cn n r : Nat) (old f : Nat → Int32) : (fun t => if t < n then (upd (chr (chs s cn) old) (chs s cn).length (-9)) (dg r ((chs s cn).length + 1) n t) else f t) = fun t => if t < n then rwS s cn n r t else f t := by
  funext t
  by_cases ht : t < n
  · rw [if_pos ht, if_pos ht]
    unfold rwS upd chr
    by_cases h : dg r ((chs s cn).length + 1) n t = (chs s cn).length
    · rw [if_pos h, List.getElem?_eq_none (by omega)]; rfl
    · have hl : dg r ((chs s cn).length + 1) n t < (chs s cn).length := by
        have := @dg_lt r ((chs s cn).length + 1) n t (by omega)
        omega
      rw [if_neg h, List.getElem?_eq_getElem hl]; rfl
  · rw [if_neg ht, if_neg ht]
theorem okT_rw {s cn n r : Nat} {f : Nat → Int32} (hc : cn < 2 ^ 30) : okT n cn (fun t => if t < n then rwS s cn n r t else f t) := by
  intro t ht
  simp only [if_pos ht]
  unfold rwS
  cases h : (chs s cn)[dg r ((chs s cn).length + 1) n t]? with
  | none => exact Or.inl rfl
  | some c => exact Or.inr (vp_in_nI (chs_lt (List.mem_of_getElem? h)) (by omega))
theorem mS_start (σ : SS) (ch : Nat → Int32) : rp (rp σ 47 0 ch) 28 0 (upd ((rp σ 47 0 ch) 28 0) 20 0) = mS σ 0 (σ 28 0 21) (σ 28 0 22) (σ 44 0) (σ 45 0) (σ 46 0) ch := by
  funext k i
  unfold mS rp
  by_cases h28 : k = 28 ∧ i = 0
  · obtain ⟨rfl, rfl⟩ := h28
    funext j
    simp only [Nat.reduceEqDiff, false_and, if_false, and_self, if_true, upd]
    by_cases h1 : j = 22 <;> by_cases h2 : j = 21 <;> by_cases h3 : j = 20 <;> simp [h1, h2, h3]
  · by_cases h4 : k = 44 ∧ i = 0
    · obtain ⟨rfl, rfl⟩ := h4; simp
    · by_cases h5 : k = 45 ∧ i = 0
      · obtain ⟨rfl, rfl⟩ := h5; simp
      · by_cases h6 : k = 46 ∧ i = 0
        · obtain ⟨rfl, rfl⟩ := h6; simp
        · by_cases h7 : k = 47 ∧ i = 0
          · obtain ⟨rfl, rfl⟩ := h7; simp
          · simp [h28, h4, h5, h6, h7]
theorem mS_right (σ : SS) (x y z : Int32) (f g b c : Nat → Int32) : rp (mS σ x y z f g b c) 28 0 (upd ((mS σ x y z f g b c) 28 0) 20 ((mS σ x y z f g b c) 28 0 20 + 1)) = mS σ (x + 1) y z f g b c := by
  refine mS_28 σ x y z (x + 1) y z f g b c _ ?_
  rw [mS_r28]
  funext j
  by_cases h1 : j = 22 <;> by_cases h2 : j = 21 <;> by_cases h3 : j = 20 <;> simp [upd, h1, h2, h3]
theorem kpB_mS (σ : SS) (x y z : Int32) (f g b c : Nat → Int32) (n : Nat) : kpB (mS σ (x + 1) y z f g b c) n = bet (coS σ f n) (usS f n) (x, y, z, b) := rfl
theorem mS_keep (σ : SS) (x y z co us : Int32) (f g b c b' : Nat → Int32) : rp (rp (mS σ x y z f g b c) 28 0 (upd (upd ((mS σ x y z f g b c) 28 0) 21 co) 22 us)) 46 0 b' = mS σ x co us f g b' c := by
  rw [mS_28 σ x y z x co us f g b c _ ?_, mS_46]
  rw [mS_r28]
  funext j
  by_cases h1 : j = 22 <;> by_cases h2 : j = 21 <;> by_cases h3 : j = 20 <;> simp [upd, h1, h2, h3]
theorem stS_f {σ : SS} {n cn : Nat} {v : Int32} {tr tr' : Nat → Int32} {x y z : Int32} {b : Nat → Int32} (h : ∀ t, t < n → tr' t = tr t) (h0 : brS σ tr n cn v = 0) (hk : bet (coS σ tr' n) (usS tr' n) (x, y, z, b) = false) : stS σ n cn v tr (x, y, z, b) = (x + 1, y, z, b) := by
  rw [coS_congr h, usS_congr h] at hk
  rw [stS, if_pos h0, kpS, if_neg (by rw [hk]; decide)]
theorem stS_t {σ : SS} {n cn : Nat} {v : Int32} {tr tr' : Nat → Int32} {x y z : Int32} {b : Nat → Int32} (h : ∀ t, t < n → tr' t = tr t) (h0 : brS σ tr n cn v = 0) (hk : bet (coS σ tr' n) (usS tr' n) (x, y, z, b) = true) : stS σ n cn v tr (x, y, z, b) = (x + 1, coS σ tr' n, usS tr' n, fun t => if t < n then tr' t else b t) := by
  rw [coS_congr h, usS_congr h] at hk ⊢
  rw [stS, if_pos h0, kpS, if_pos hk]
  have e : (fun t => if t < n then tr t else b t) = fun t => if t < n then tr' t else b t := by
    funext t
    by_cases ht : t < n
    · simp [ht, h t ht]
    · simp [ht]
  simp only [e]
