/-! ===== the class's search: its state, its words ===== -/
/-- the rows of what the search has found -/
abbrev RR : Type := (Nat → Int32) × (Nat → Int32) × (Nat → Int32) × (Nat → Int32) × (Nat → Int32) × (Nat → Int32)
def tS (σ : SS) (l r f : Nat → Int32) (R : RR) : SS := rp (rp (rp (rp (rp (rp (rp (rp (rp σ 19 0 l) 20 0 r) 21 0 f) 22 0 R.1) 23 0 R.2.1) 24 0 R.2.2.1) 25 0 R.2.2.2.1) 26 0 R.2.2.2.2.1) 27 0 R.2.2.2.2.2
theorem tS_19 (σ : SS) (l r f x : Nat → Int32) (R : RR) : rp (tS σ l r f R) 19 0 x = tS σ x r f R := by
  funext k i; unfold tS rp
  by_cases h : k = 19 ∧ i = 0 <;> simp [h]
theorem tS_20 (σ : SS) (l r f x : Nat → Int32) (R : RR) : rp (tS σ l r f R) 20 0 x = tS σ l x f R := by
  funext k i; unfold tS rp
  by_cases h : k = 20 ∧ i = 0 <;> simp [h]
theorem tS_21 (σ : SS) (l r f x : Nat → Int32) (R : RR) : rp (tS σ l r f R) 21 0 x = tS σ l r x R := by
  funext k i; unfold tS rp
  by_cases h : k = 21 ∧ i = 0 <;> simp [h]
theorem tS_22 (σ : SS) (l r f x : Nat → Int32) (R : RR) : rp (tS σ l r f R) 22 0 x = tS σ l r f (x, R.2.1, R.2.2.1, R.2.2.2.1, R.2.2.2.2.1, R.2.2.2.2.2) := by
  funext k i; unfold tS rp
  by_cases h : k = 22 ∧ i = 0 <;> simp [h]
theorem tS_23 (σ : SS) (l r f x : Nat → Int32) (R : RR) : rp (tS σ l r f R) 23 0 x = tS σ l r f (R.1, x, R.2.2.1, R.2.2.2.1, R.2.2.2.2.1, R.2.2.2.2.2) := by
  funext k i; unfold tS rp
  by_cases h : k = 23 ∧ i = 0 <;> simp [h]
theorem tS_24 (σ : SS) (l r f x : Nat → Int32) (R : RR) : rp (tS σ l r f R) 24 0 x = tS σ l r f (R.1, R.2.1, x, R.2.2.2.1, R.2.2.2.2.1, R.2.2.2.2.2) := by
  funext k i; unfold tS rp
  by_cases h : k = 24 ∧ i = 0 <;> simp [h]
theorem tS_25 (σ : SS) (l r f x : Nat → Int32) (R : RR) : rp (tS σ l r f R) 25 0 x = tS σ l r f (R.1, R.2.1, R.2.2.1, x, R.2.2.2.2.1, R.2.2.2.2.2) := by
  funext k i; unfold tS rp
  by_cases h : k = 25 ∧ i = 0 <;> simp [h]
theorem tS_26 (σ : SS) (l r f x : Nat → Int32) (R : RR) : rp (tS σ l r f R) 26 0 x = tS σ l r f (R.1, R.2.1, R.2.2.1, R.2.2.2.1, x, R.2.2.2.2.2) := by
  funext k i; unfold tS rp
  by_cases h : k = 26 ∧ i = 0 <;> simp [h]
theorem tS_27 (σ : SS) (l r f x : Nat → Int32) (R : RR) : rp (tS σ l r f R) 27 0 x = tS σ l r f (R.1, R.2.1, R.2.2.1, R.2.2.2.1, R.2.2.2.2.1, x) := by
  funext k i; unfold tS rp
  by_cases h : k = 27 ∧ i = 0 <;> simp [h]
theorem tS_r19 (σ : SS) (l r f : Nat → Int32) (R : RR) : (tS σ l r f R) 19 0 = l := rfl
theorem tS_r20 (σ : SS) (l r f : Nat → Int32) (R : RR) : (tS σ l r f R) 20 0 = r := rfl
theorem tS_r21 (σ : SS) (l r f : Nat → Int32) (R : RR) : (tS σ l r f R) 21 0 = f := rfl
theorem tS_r22 (σ : SS) (l r f : Nat → Int32) (R : RR) : (tS σ l r f R) 22 0 = R.1 := rfl
theorem tS_r23 (σ : SS) (l r f : Nat → Int32) (R : RR) : (tS σ l r f R) 23 0 = R.2.1 := rfl
theorem tS_r24 (σ : SS) (l r f : Nat → Int32) (R : RR) : (tS σ l r f R) 24 0 = R.2.2.1 := rfl
theorem tS_r25 (σ : SS) (l r f : Nat → Int32) (R : RR) : (tS σ l r f R) 25 0 = R.2.2.2.1 := rfl
theorem tS_r26 (σ : SS) (l r f : Nat → Int32) (R : RR) : (tS σ l r f R) 26 0 = R.2.2.2.2.1 := rfl
theorem tS_r27 (σ : SS) (l r f : Nat → Int32) (R : RR) : (tS σ l r f R) 27 0 = R.2.2.2.2.2 := rfl
theorem tS_o {σ : SS} {l r f : Nat → Int32} {R : RR} {k i : Nat} (h : k < 19 ∨ 27 < k) : (tS σ l r f R) k i = σ k i := by
  unfold tS
  rw [rp_nk (by omega), rp_nk (by omega), rp_nk (by omega), rp_nk (by omega), rp_nk (by omega), rp_nk (by omega), rp_nk (by omega), rp_nk (by omega), rp_nk (by omega)]
theorem tS_self (σ : SS) : tS σ (σ 19 0) (σ 20 0) (σ 21 0) (σ 22 0, σ 23 0, σ 24 0, σ 25 0, σ 26 0, σ 27 0) = σ := by
  unfold tS
  rw [rp_self, rp_self, rp_self, rp_self, rp_self, rp_self, rp_self, rp_self, rp_self]
/-- the cargoes that are open to tank t, by the first i rows -/
def opF (sui bes cla row : Nat → Int32) (t i : Nat) : Int32 := lp i (fun u a => if hb (bes t) (nI u) = true ∧ ¬ row u = -9 then a &&& (cla (ci (row u)) ^^^ (-1)) else a) (sui t)
theorem opF_s (sui bes cla row : Nat → Int32) (t i : Nat) : opF sui bes cla row t (i + 1) = if hb (bes t) (nI i) = true ∧ ¬ row i = -9 then opF sui bes cla row t i &&& (cla (ci (row i)) ^^^ (-1)) else opF sui bes cla row t i := rfl
theorem opF_congr {sui bes cla row row' : Nat → Int32} {t : Nat} : ∀ i, (∀ u, u < i → row u = row' u) → opF sui bes cla row t i = opF sui bes cla row' t i := fun i h => lp_congr i (fun u hu x => by rw [h u hu])
/-- list and cost of a row -/
def klL (fi lev row : Nat → Int32) (n : Nat) : Int32 := lp n (fun t a => if row t = -9 then a else a + fi t * lev t) 0
theorem klL_s (fi lev row : Nat → Int32) (n : Nat) : klL fi lev row (n + 1) = if row n = -9 then klL fi lev row n else klL fi lev row n + fi n * lev n := rfl
def klC (ne row : Nat → Int32) (n : Nat) : Int32 := lp n (fun t a => if row t = -9 then a else a + ne (4 * t + ci (row t))) 0
theorem klC_s (ne row : Nat → Int32) (n : Nat) : klC ne row (n + 1) = if row n = -9 then klC ne row n else klC ne row n + ne (4 * n + ci (row n)) := rfl
/-- a row copied behind 6 s -/
def cpR (row : Nat → Int32) (s i : Nat) (old : Nat → Int32) : Nat → Int32 := fun x => if 6 * s ≤ x ∧ x < 6 * s + i then row (x - 6 * s) else old x
theorem cpR_0 (row : Nat → Int32) (s : Nat) (old : Nat → Int32) : cpR row s 0 old = old := by
  funext x; unfold cpR; rw [if_neg (by omega)]
theorem cpR_s (row : Nat → Int32) (s i : Nat) (old : Nat → Int32) : upd (cpR row s i old) (6 * s + i) (row i) = cpR row s (i + 1) old := by
  funext x
  unfold upd cpR
  by_cases h : x = 6 * s + i
  · subst h
    rw [if_pos rfl, if_pos (by omega), Nat.add_sub_cancel_left]
  · rw [if_neg h]
    by_cases h2 : 6 * s ≤ x ∧ x < 6 * s + i
    · rw [if_pos h2, if_pos (by omega)]
    · rw [if_neg h2, if_neg (by omega)]
theorem cpR_congr {row row' : Nat → Int32} {s n : Nat} {old : Nat → Int32} (h : ∀ t, t < n → row t = row' t) : cpR row s n old = cpR row' s n old := by
  funext x
  unfold cpR
  by_cases h2 : 6 * s ≤ x ∧ x < 6 * s + n
  · rw [if_pos h2, if_pos h2, h _ (by omega)]
  · rw [if_neg h2, if_neg h2]
/-- whether a row is kept -/
def kcB (C U : Int32) (s : Nat) (R : RR) : Bool := decide (R.1 s + 1 = 1) || (decide (C < R.2.1 s) || (decide (C = R.2.1 s) && decide (U < R.2.2.1 s)))
/-- a row is found: what the search holds then -/
def kpC (σ : SS) (n s : Nat) (row fi : Nat → Int32) (R : RR) : RR :=
  if (if 0 ≤ klL fi (σ 12 0) row n then klL fi (σ 12 0) row n else 0 - klL fi (σ 12 0) row n) ≤ σ 4 0 2 then
    if kcB (klC (σ 16 0) row n) (usS row n) s R = true then (upd R.1 s (R.1 s + 1), upd R.2.1 s (klC (σ 16 0) row n), upd R.2.2.1 s (usS row n), upd R.2.2.2.1 s (klL fi (σ 12 0) row n), cpR row s n R.2.2.2.2.1, cpR fi s n R.2.2.2.2.2)
    else (upd R.1 s (R.1 s + 1), R.2.1, R.2.2.1, R.2.2.2.1, R.2.2.2.2.1, R.2.2.2.2.2)
  else R
def nrm (n : Nat) (f : Nat → Int32) : Nat → Int32 := fun t => if t < n then f t else 0
theorem nrm_lt {n t : Nat} {f : Nat → Int32} (h : t < n) : nrm n f t = f t := if_pos h
theorem kpC_nrm (σ : SS) (n s : Nat) (row fi : Nat → Int32) (R : RR) : kpC σ n s (nrm n row) (nrm n fi) R = kpC σ n s row fi R := by
  have e1 : klL (nrm n fi) (σ 12 0) (nrm n row) n = klL fi (σ 12 0) row n := lp_congr n (fun t ht x => by rw [nrm_lt ht, nrm_lt ht])
  have e2 : klC (σ 16 0) (nrm n row) n = klC (σ 16 0) row n := lp_congr n (fun t ht x => by rw [nrm_lt ht])
  have e3 : usS (nrm n row) n = usS row n := usS_congr (fun t ht => nrm_lt ht)
  unfold kpC
  rw [e1, e2, e3, cpR_congr (row := nrm n row) (row' := row) (fun t ht => nrm_lt ht), cpR_congr (row := nrm n fi) (row' := fi) (fun t ht => nrm_lt ht)]
theorem nrm_congr {n : Nat} {f g : Nat → Int32} (h : ∀ u, u < n → f u = g u) : nrm n f = nrm n g := by
  funext t
  unfold nrm
  by_cases ht : t < n
  · rw [if_pos ht, if_pos ht, h t ht]
  · rw [if_neg ht, if_neg ht]
/-- a leaf: the set, the row, what is filled -/
abbrev LF : Type := Nat × (Nat → Int32) × (Nat → Int32)
/-- the rows that the search comes to, from tank t on -/
def tvL (σ : SS) (n cn : Nat) : Nat → Nat → (Nat → Int32) → (Nat → Int32) → (Nat → Int32) → Nat → Int32 → List LF
  | 0, _, _, row, fi, s, ow => if ow = 0 then [(s, nrm n row, nrm n fi)] else []
  | k + 1, t, l, row, fi, s, ow =>
    if σ 14 0 t < ow then [] else
      ((List.range cn).flatMap fun c => if hb (opF (σ 15 0) (σ 13 0) (σ 18 0) row t t) (nI c) = true ∧ 0 < l c then
        tvL σ n cn k (t + 1) (upd l c (l c - mn (σ 11 0 t) (l c))) (upd row t (nI c)) (upd fi t (mn (σ 11 0 t) (l c))) (s ||| 2 ^ c) (ow + (if hb (nI s) (nI c) = true then 0 else σ 17 0 c) - mn (σ 11 0 t) (l c)) else [])
      ++ tvL σ n cn k (t + 1) l (upd row t (-9)) (upd fi t 0) s ow
theorem upd_agree {f g : Nat → Int32} {t : Nat} {x : Int32} (h : ∀ u, u < t → f u = g u) : ∀ u, u < t + 1 → upd f t x u = upd g t x u := by
  intro u hu
  unfold upd
  by_cases e : u = t
  · rw [if_pos e, if_pos e]
  · rw [if_neg e, if_neg e, h u (by omega)]
theorem tvL_congr {σ : SS} {n cn : Nat} : ∀ (k t : Nat), t + k = n → ∀ (l row row' fi fi' : Nat → Int32) (s : Nat) (ow : Int32), (∀ u, u < t → row u = row' u) → (∀ u, u < t → fi u = fi' u) → tvL σ n cn k t l row fi s ow = tvL σ n cn k t l row' fi' s ow
  | 0, t, htk, l, row, row', fi, fi', s, ow, h1, h2 => by
    unfold tvL
    rw [nrm_congr (f := row) (g := row') (fun u hu => h1 u (by omega)), nrm_congr (f := fi) (g := fi') (fun u hu => h2 u (by omega))]
  | k + 1, t, htk, l, row, row', fi, fi', s, ow, h1, h2 => by
    unfold tvL
    rw [opF_congr t h1, tvL_congr k (t + 1) (by omega) l (upd row t (-9)) (upd row' t (-9)) (upd fi t 0) (upd fi' t 0) s ow (upd_agree h1) (upd_agree h2)]
    have e : ∀ c, tvL σ n cn k (t + 1) (upd l c (l c - mn (σ 11 0 t) (l c))) (upd row t (nI c)) (upd fi t (mn (σ 11 0 t) (l c))) (s ||| 2 ^ c) (ow + (if hb (nI s) (nI c) = true then 0 else σ 17 0 c) - mn (σ 11 0 t) (l c)) = tvL σ n cn k (t + 1) (upd l c (l c - mn (σ 11 0 t) (l c))) (upd row' t (nI c)) (upd fi' t (mn (σ 11 0 t) (l c))) (s ||| 2 ^ c) (ow + (if hb (nI s) (nI c) = true then 0 else σ 17 0 c) - mn (σ 11 0 t) (l c)) := fun c => tvL_congr k (t + 1) (by omega) _ _ _ _ _ _ _ (upd_agree h1) (upd_agree h2)
    simp only [e]
def fdC (σ : SS) (n : Nat) (R : RR) (q : List LF) : RR := q.foldl (fun R q => kpC σ n q.1 q.2.1 q.2.2 R) R
theorem fdC_app (σ : SS) (n : Nat) (R : RR) (a b : List LF) : fdC σ n R (a ++ b) = fdC σ n (fdC σ n R a) b := List.foldl_append
theorem or16 : ∀ s, s < 16 → ∀ c, c < 4 → nI s ||| bt c = nI (s ||| 2 ^ c) ∧ s ||| 2 ^ c < 16 := by decide
theorem ix4 (a b : Nat) : nI a * 4 + nI b = nI (4 * a + b) := by
  rw [show (4 : Int32) = nI 4 by decide, pk_mul, nI_add, Nat.mul_comm]
theorem ix6 (a b : Nat) : nI a * 6 + nI b = nI (6 * a + b) := by
  rw [show (6 : Int32) = nI 6 by decide, pk_mul, nI_add, Nat.mul_comm]
/-- the rows behind putting cargo c into tank t -/
def brC (σ : SS) (n cn k t : Nat) (l row fi : Nat → Int32) (s : Nat) (ow : Int32) (c : Nat) : List LF := if hb (opF (σ 15 0) (σ 13 0) (σ 18 0) row t t) (nI c) = true ∧ 0 < l c then
  tvL σ n cn k (t + 1) (upd l c (l c - mn (σ 11 0 t) (l c))) (upd row t (nI c)) (upd fi t (mn (σ 11 0 t) (l c))) (s ||| 2 ^ c) (ow + (if hb (nI s) (nI c) = true then 0 else σ 17 0 c) - mn (σ 11 0 t) (l c)) else []
theorem tvL_s (σ : SS) (n cn k t : Nat) (l row fi : Nat → Int32) (s : Nat) (ow : Int32) : tvL σ n cn (k + 1) t l row fi s ow = if σ 14 0 t < ow then [] else (List.range cn).flatMap (brC σ n cn k t l row fi s ow) ++ tvL σ n cn k (t + 1) l (upd row t (-9)) (upd fi t 0) s ow := rfl
theorem fm_s {α : Type} (f : Nat → List α) (i : Nat) : (List.range (i + 1)).flatMap f = (List.range i).flatMap f ++ f i := by
  rw [List.range_succ, List.flatMap_append, List.flatMap_singleton]
theorem okR_up {r : Nat → Int32} {t : Nat} {x : Int32} (h : ∀ u, u < t → r u = -9 ∨ vp_in (r u) 4) (hx : x = -9 ∨ vp_in x 4) : ∀ u, u < t + 1 → upd r t x u = -9 ∨ vp_in (upd r t x u) 4 := by
  intro u hu
  unfold upd
  by_cases e : u = t
  · rw [if_pos e]; exact hx
  · rw [if_neg e]; exact h u (by omega)
theorem lf_back (l : Nat → Int32) (c : Nat) (p : Int32) : upd (upd l c (l c - p)) c (upd l c (l c - p) c + p) = l := by
  funext u
  unfold upd
  by_cases h : u = c
  · subst h; simp
  · simp [h]
