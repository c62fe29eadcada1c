/-! ===== words of the specs, second part ===== -/
theorem mS_mS (σ : SS) (x y z x' y' z' : Int32) (f g b c f' g' b' c' : Nat → Int32) : mS (mS σ x y z f g b c) x' y' z' f' g' b' c' = mS σ x' y' z' f' g' b' c' := by
  funext k i
  unfold mS rp
  by_cases h28 : k = 28 ∧ i = 0
  · obtain ⟨rfl, rfl⟩ := h28
    funext j
    simp only [Nat.reduceEqDiff, false_and, if_false, and_self, if_true, upd]
    by_cases h1 : j = 22 <;> by_cases h2 : j = 21 <;> by_cases h3 : j = 20 <;> simp [h1, h2, h3]
  · by_cases h4 : k = 44 ∧ i = 0
    · obtain ⟨rfl, rfl⟩ := h4; simp
    · by_cases h5 : k = 45 ∧ i = 0
      · obtain ⟨rfl, rfl⟩ := h5; simp
      · by_cases h6 : k = 46 ∧ i = 0
        · obtain ⟨rfl, rfl⟩ := h6; simp
        · by_cases h7 : k = 47 ∧ i = 0
          · obtain ⟨rfl, rfl⟩ := h7; simp
          · simp [h28, h4, h5, h6, h7]
theorem stS_mS (σ : SS) (x y z : Int32) (f g b c : Nat → Int32) (n cn : Nat) (v : Int32) (tr : Nat → Int32) (a : SA) : stS (mS σ x y z f g b c) n cn v tr a = stS σ n cn v tr a := rfl
theorem fbS_mS (σ : SS) (x y z : Int32) (f g b c : Nat → Int32) (n cn s k : Nat) (a : SA) : fbS (mS σ x y z f g b c) n cn s k a = fbS σ n cn s k a := lp_congr k (fun r _ a => stS_mS σ x y z f g b c n cn (nI s) (rwS s cn n r) a)
/-- how many choices, how many rows -/
abbrev mC (s cn : Nat) : Nat := (chs s cn).length + 1
/-- how many right rows of set s -/
def rtS (σ : SS) (n cn s k : Nat) : Int32 := lp k (fun r a => if brS σ (rwS s cn n r) n cn (nI s) = 0 then a + 1 else a) 0
theorem fbS_1 (σ : SS) (n cn s : Nat) (y z : Int32) (b : Nat → Int32) : ∀ k, (fbS σ n cn s k (0, y, z, b)).1 = rtS σ n cn s k
  | 0 => rfl
  | k + 1 => by
    rw [fbS_s, stS, rtS, lp_s]
    have h := fbS_1 σ n cn s y z b k
    rw [rtS] at h
    by_cases e : brS σ (rwS s cn n k) n cn (nI s) = 0
    · simp only [e, if_true]
      rw [kpS]
      split <;> simp [h]
    · simp only [e, if_false, h]
/-- the taken set, of those up to k -/
def tkS (σ : SS) (n cn k : Nat) : Nat := lp k (fun i its => if btB σ cn (i + 1) its = true ∧ 0 < rtS σ n cn (i + 1) (mC (i + 1) cn ^ n) then i + 1 else its) 0
theorem tkS_s (σ : SS) (n cn k : Nat) : tkS σ n cn (k + 1) = if btB σ cn (k + 1) (tkS σ n cn k) = true ∧ 0 < rtS σ n cn (k + 1) (mC (k + 1) cn ^ n) then k + 1 else tkS σ n cn k := rfl
theorem tkS_le (σ : SS) (n cn : Nat) : ∀ k, tkS σ n cn k ≤ k
  | 0 => Nat.le_refl 0
  | k + 1 => by
    rw [tkS_s]
    have := tkS_le σ n cn k
    split <;> omega
theorem btB_mS (σ : SS) (x y z : Int32) (f g b c : Nat → Int32) (cn s t : Nat) : btB (mS σ x y z f g b c) cn s t = btB σ cn s t := rfl
/-- what may be asked of the best -/
def bwOK (w : Int32) (n : Nat) : Prop := (0 ≤ w ∧ w ≤ 3) ∨ (∃ t, t < n ∧ w = nI (10 + t)) ∨ (∃ t, t < n ∧ w = nI (20 + t))
abbrev bw2 (w : Int32) (n : Nat) : Prop := (∃ t, t < n ∧ w = nI (10 + t)) ∨ (∃ t, t < n ∧ w = nI (20 + t))
theorem bw_sub {w : Int32} {k : Nat} (hk : k < 100) (h : nI k ≤ w) : (w - nI k).toInt = w.toInt - k := by
  rw [Int32.le_iff_toInt_le, nI_toInt (by omega)] at h
  have h2 := Int32.toInt_lt w
  rw [Int32.toInt_sub, nI_toInt (by omega)]
  apply Int.bmod_eq_of_le <;> omega
theorem bw_ix {w : Int32} {n k : Nat} (hk : k < 100) (hn : n ≤ 6) (h : nI k ≤ w) : ixn (w - nI k) n ↔ ∃ t, t < n ∧ w = nI (k + t) := by
  have e := bw_sub hk h
  constructor
  · intro z
    obtain ⟨t, ht, et⟩ := ixn_of z (by omega)
    refine ⟨t, ht, ?_⟩
    apply Int32.toInt_inj.mp
    rw [et, nI_toInt (by omega)] at e
    rw [nI_toInt (by omega)]
    omega
  · rintro ⟨t, ht, rfl⟩
    rw [nI_toInt (by omega)] at e
    exact ⟨by omega, by omega⟩
theorem bw_lt {w : Int32} {n k : Nat} (hk : k < 100) (hn : n ≤ 6) (h : w < nI k) : ¬ ∃ t, t < n ∧ w = nI (k + t) := by
  rintro ⟨t, ht, rfl⟩
  rw [Int32.lt_iff_toInt_lt, nI_toInt (by omega), nI_toInt (by omega)] at h
  omega
theorem bw_ge {w : Int32} {n : Nat} (hn : n ≤ 6) (h : nI 20 ≤ w) : ¬ ∃ t, t < n ∧ w = nI (10 + t) := by
  rintro ⟨t, ht, rfl⟩
  rw [Int32.le_iff_toInt_le, nI_toInt (by omega), nI_toInt (by omega)] at h
  omega
def hB (h : Nat → Int32) (t : Nat) : Bool := decide (h t ≠ -9)
/-- the last liquids while a cargo is unloaded -/
def ulL (h : Nat → Int32) (c l : Int32) (L : Nat → Int32) (i : Nat) : Nat → Int32 := lp i (fun t L => if h t = c then latUp L t l else L) L
theorem ulL_s (h : Nat → Int32) (c l : Int32) (L : Nat → Int32) (i : Nat) : ulL h c l L (i + 1) = if h i = c then latUp (ulL h c l L i) i l else ulL h c l L i := rfl
def ulH (h : Nat → Int32) (c : Int32) (v : Int32) (x : Nat → Int32) (i : Nat) : Nat → Int32 := fun t => if t < i ∧ h t = c then v else x t
theorem ulH_0 (h : Nat → Int32) (c v : Int32) (x : Nat → Int32) : ulH h c v x 0 = x := by funext t; simp [ulH]
theorem ulH_t {h : Nat → Int32} {c v : Int32} {x : Nat → Int32} {i : Nat} (e : h i = c) : upd (ulH h c v x i) i v = ulH h c v x (i + 1) := by
  funext t
  unfold upd ulH
  by_cases h1 : t = i
  · subst h1; simp [e]
  · by_cases h2 : t < i
    · simp [h1, h2, show t < i + 1 by omega]
    · simp [h1, h2, show ¬ t < i + 1 by omega]
theorem ulH_f {h : Nat → Int32} {c v : Int32} {x : Nat → Int32} {i : Nat} (e : ¬ h i = c) : ulH h c v x i = ulH h c v x (i + 1) := by
  funext t
  unfold ulH
  by_cases h1 : t = i
  · subst h1; simp [e]
  · by_cases h2 : t < i
    · simp [h2, show t < i + 1 by omega]
    · simp [h2, show ¬ t < i + 1 by omega]
/-- the state behind unloading -/
def ulS (σ : SS) (c l : Int32) (i : Nat) : SS := rp (rp (rp σ 33 0 (ulL (σ 35 0) c l (σ 33 0) i)) 35 0 (ulH (σ 35 0) c (-9) (σ 35 0) i)) 36 0 (ulH (σ 35 0) c 0 (σ 36 0) i)
theorem ulS_0 (σ : SS) (c l : Int32) : ulS σ c l 0 = σ := by
  unfold ulS
  rw [ulH_0, ulH_0, show ulL (σ 35 0) c l (σ 33 0) 0 = σ 33 0 from rfl, rp_self, rp_self, rp_self]
theorem ulS_t {σ : SS} {c l : Int32} {i : Nat} (e : σ 35 0 i = c) : rp (rp (rp (ulS σ c l i) 33 0 (latUp (ulL (σ 35 0) c l (σ 33 0) i) i l)) 35 0 (upd (ulH (σ 35 0) c (-9) (σ 35 0) i) i (-9))) 36 0 (upd (ulH (σ 35 0) c 0 (σ 36 0) i) i 0) = ulS σ c l (i + 1) := by
  rw [ulH_t e, ulH_t e]
  unfold ulS
  rw [ulL_s, if_pos e]
  funext k j
  unfold rp
  by_cases h3 : k = 33 ∧ j = 0
  · simp [h3]
  · by_cases h5 : k = 35 ∧ j = 0
    · simp [h5]
    · by_cases h6 : k = 36 ∧ j = 0
      · simp [h6]
      · simp [h3, h5, h6]
theorem ulS_f {σ : SS} {c l : Int32} {i : Nat} (e : ¬ σ 35 0 i = c) : ulS σ c l i = ulS σ c l (i + 1) := by
  unfold ulS
  rw [ulL_s, if_neg e, ← ulH_f e, ← ulH_f e]
/-- whether v may be poured from a to b -/
def prB (σ : SS) (n a b : Nat) (v : Int32) : Bool := (!decide (σ 36 0 a < v)) && ((!decide (σ 29 0 b - σ 36 0 b < v)) && (if σ 35 0 b = -9 then (decide (whyS σ b (ci (σ 35 0 a)) = 0) && !anyB n (tB σ b (σ 35 0 a))) else decide (σ 35 0 b = σ 35 0 a)))
/-- the state behind pouring -/
def prS (σ : SS) (a b : Nat) (v : Int32) : SS :=
  let σ1 := rp (rp (rp σ 28 0 (upd (σ 28 0) 25 (σ 28 0 25 + (if σ 35 0 b = -9 then wfS σ b (ci (σ 35 0 a)) else 0)))) 35 0 (upd (σ 35 0) b (σ 35 0 a))) 36 0 (upd (upd (σ 36 0) b (σ 36 0 b + v)) a (σ 36 0 a - v))
  if σ 36 0 a - v = 0 then rp (rp (rp σ1 33 0 (latUp (σ 33 0) a (σ 37 0 (ci (σ 35 0 a))))) 35 0 (upd (upd (σ 35 0) b (σ 35 0 a)) a (-9))) 36 0 (upd (upd (upd (σ 36 0) b (σ 36 0 b + v)) a (σ 36 0 a - v)) a 0) else σ1
def manyM (σ : SS) (n : Nat) (j : Nat) : Int32 := match j with
  | 0 => σ 28 0 0
  | 1 => σ 28 0 9
  | 2 => σ 28 0 0 - cntI n (fun t => σ 35 0 t = -9)
  | 3 => σ 28 0 25
  | _ => sumI n (fun t => σ 36 0 t * σ 31 0 t) + 100000
theorem mS_rp {σ : SS} {x y z : Int32} {f g b c h : Nat → Int32} {k : Nat} (hk : k ≠ 28 ∧ k ≠ 44 ∧ k ≠ 45 ∧ k ≠ 46 ∧ k ≠ 47) : rp (mS σ x y z f g b c) k 0 h = mS (rp σ k 0 h) x y z f g b c := by
  funext k' i
  have e28 : (rp σ k 0 h) 28 0 = σ 28 0 := rp_nk (fun e => hk.1 e.symm)
  unfold mS
  rw [e28]
  unfold rp
  by_cases hh : k' = k ∧ i = 0
  · obtain ⟨rfl, rfl⟩ := hh
    simp [hk]
  · simp [hh]
theorem mS_25 (σ : SS) (x y z v : Int32) (f g b c : Nat → Int32) : rp (mS σ x y z f g b c) 28 0 (upd ((mS σ x y z f g b c) 28 0) 25 v) = mS (rp σ 28 0 (upd (σ 28 0) 25 v)) x y z f g b c := by
  funext k i
  unfold mS rp
  by_cases h28 : k = 28 ∧ i = 0
  · obtain ⟨rfl, rfl⟩ := h28
    funext j
    simp only [Nat.reduceEqDiff, false_and, if_false, and_self, if_true, upd]
    by_cases h1 : j = 22 <;> by_cases h2 : j = 21 <;> by_cases h3 : j = 20 <;> by_cases h4 : j = 25 <;> simp [h1, h2, h3, h4]
  · simp [h28]
/-- the state behind loading the row B -/
def ldS (σ : SS) (n cn : Nat) (B : Nat → Int32) (co : Int32) : SS := rp (rp (rp σ 35 0 (fun t => if t < n then B t else σ 35 0 t)) 36 0 (fun t => if t < n then fl (σ 29 0) (σ 38 0) B cn t else σ 36 0 t)) 28 0 (upd (σ 28 0) 25 (σ 28 0 25 + co))
theorem ldS_eq (σ : SS) (n cn : Nat) (B : Nat → Int32) (x y z co : Int32) (f g b c : Nat → Int32) : rp (rp (rp (mS σ x y z f g b c) 35 0 (fun t => if t < n then B t else σ 35 0 t)) 36 0 (fun t => if t < n then fl (σ 29 0) (σ 38 0) B cn t else σ 36 0 t)) 28 0 (upd ((mS σ x y z f g b c) 28 0) 25 ((mS σ x y z f g b c) 28 0 25 + co)) = mS (ldS σ n cn B co) x y z f g b c := by
  rw [mS_rp (by decide), mS_rp (by decide)]
  have h := mS_25 (rp (rp σ 35 0 (fun t => if t < n then B t else σ 35 0 t)) 36 0 (fun t => if t < n then fl (σ 29 0) (σ 38 0) B cn t else σ 36 0 t)) x y z (σ 28 0 25 + co) f g b c
  exact h
theorem rp_c36 (σ : SS) (a b c : Nat → Int32) : rp (rp (rp σ 35 0 a) 36 0 b) 35 0 c = rp (rp σ 35 0 c) 36 0 b := by
  funext k i
  unfold rp
  by_cases h5 : k = 35 ∧ i = 0
  · simp [h5]
  · simp [h5]
