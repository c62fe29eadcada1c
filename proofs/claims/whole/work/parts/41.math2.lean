/-! ===== the search: its prefixes ===== -/
theorem lfI_congr {vol row row' : Nat → Int32} {a c : Int32} {t : Nat} (h : ∀ u, u < t → row u = row' u) : lfI vol row a c t = lfI vol row' a c t := lp_congr t (fun u hu x => by rw [h u hu])
theorem lfZ {τ : SS} {row : Nat → Int32} {n cn c t : Nat} (hv : vOK n (τ 29 0)) (ha : aOK cn (τ 38 0)) (hn : n ≤ 6) (hc : c < cn) (ht : t ≤ n) : 0 ≤ (lfI (τ 29 0) row (τ 38 0 c) (nI c) t).toInt ∧ (lfI (τ 29 0) row (τ 38 0 c) (nI c) t).toInt ≤ 400 := by
  obtain ⟨a1, a2⟩ := ha c hc
  obtain ⟨h1, h2, h3⟩ := lf_vS (σ := τ) (tr := row) (a := τ 38 0 c) (c := c) (n := t) (fun u hu => hv u (by omega)) ⟨by omega, a2⟩ (by omega)
  omega
theorem lfZ_s {τ : SS} {row : Nat → Int32} {n cn c t : Nat} (hv : vOK n (τ 29 0)) (ha : aOK cn (τ 38 0)) (hn : n ≤ 6) (hc : c < cn) (ht : t < n) : (lfI (τ 29 0) row (τ 38 0 c) (nI c) (t + 1)).toInt = if row t = nI c then (lfI (τ 29 0) row (τ 38 0 c) (nI c) t).toInt - min (τ 29 0 t).toInt (lfI (τ 29 0) row (τ 38 0 c) (nI c) t).toInt else (lfI (τ 29 0) row (τ 38 0 c) (nI c) t).toInt := by
  obtain ⟨b1, b2⟩ := lfZ (row := row) (t := t) hv ha hn hc (by omega)
  obtain ⟨v1, v2⟩ := hv t ht
  rw [lfI_s]
  by_cases h : row t = nI c
  · rw [if_pos h, if_pos h]
    have hm := mn_toInt (τ 29 0 t) (lfI (τ 29 0) row (τ 38 0 c) (nI c) t)
    rw [i32sub (by omega) (by omega) (by omega) (by omega), hm]
  · rw [if_neg h, if_neg h]
/-- rules 1 to 5 hold -/
def ok5 (τ : SS) (n cn s : Nat) (row : Nat → Int32) : Bool := !anyB n (oB (nI s) row) && (!anyB n (uB τ row) && (!anyB n (kA τ row) && (!anyB cn (mB τ row n (nI s)) && !anyB n (eB row (fl (τ 29 0) (τ 38 0) row cn)))))
theorem ok5_congr {τ : SS} {n cn s : Nat} {row row' : Nat → Int32} (h : ∀ t, t < n → row t = row' t) : ok5 τ n cn s row = ok5 τ n cn s row' := by
  have e1 : anyB n (oB (nI s) row) = anyB n (oB (nI s) row') := anyB_congr (fun t ht => by simp [oB, h t ht])
  have e2 : anyB n (uB τ row) = anyB n (uB τ row') := anyB_congr (fun t ht => by simp [uB, h t ht])
  have e3 : anyB n (kA τ row) = anyB n (kA τ row') := anyB_congr (fun t ht => anyB_congr (fun u hu => by simp [kB, h t ht, h u (by omega)]))
  have e4 : anyB cn (mB τ row n (nI s)) = anyB cn (mB τ row' n (nI s)) := anyB_congr (fun c _ => by
    have : vS τ row c n = vS τ row' c n := lp_congr n (fun t ht x => by rw [h t ht])
    simp [mB, this])
  have e5 : anyB n (eB row (fl (τ 29 0) (τ 38 0) row cn)) = anyB n (eB row' (fl (τ 29 0) (τ 38 0) row' cn)) := anyB_congr (fun t ht => by
    rw [eB, eB, h t ht, fl_congr (fun u hu => h u (by omega))])
  unfold ok5
  rw [e1, e2, e3, e4, e5]
theorem brS_ok5 {τ : SS} {n cn s : Nat} {row : Nat → Int32} : brS τ row n cn (nI s) = 0 ↔ (ok5 τ n cn s row = true ∧ ¬ (τ 28 0 17 < liS τ row n cn ∨ τ 28 0 17 < -liS τ row n cn)) := by
  unfold brS ok5
  cases anyB n (oB (nI s) row) <;> cases anyB n (uB τ row) <;> cases anyB n (kA τ row) <;> cases anyB cn (mB τ row n (nI s)) <;> cases anyB n (eB row (fl (τ 29 0) (τ 38 0) row cn)) <;> simp <;> try decide
/-- what holds of a prefix of t tanks -/
def PI (τ : SS) (cn t : Nat) (row l fi : Nat → Int32) (s : Nat) (ow : Int32) : Prop :=
  (∀ u, u < t → row u = -9 ∨ ∃ c, c < cn ∧ row u = nI c ∧ whyS τ u c = 0 ∧ anyB u (kB τ row u) = false ∧ 0 < lfI (τ 29 0) row (τ 38 0 c) (nI c) u) ∧
  (∀ c, c < cn → l c = lfI (τ 29 0) row (τ 38 0 c) (nI c) t) ∧ s < 16 ∧
  (∀ c, c < 4 → (hb (nI s) (nI c) = true ↔ (c < cn ∧ ∃ u, u < t ∧ row u = nI c))) ∧
  ow.toInt = sumZ cn (fun c => if hb (nI s) (nI c) = true then (l c).toInt else 0) ∧
  (∀ u, u < t → fi u = fl (τ 29 0) (τ 38 0) row cn u)
theorem kB_congr {τ : SS} {row row' : Nat → Int32} {u : Nat} (h : ∀ w, w ≤ u → row w = row' w) : anyB u (kB τ row u) = anyB u (kB τ row' u) := anyB_congr (fun w hw => by unfold kB; rw [h u (Nat.le_refl u), h w (by omega)])
theorem upd_lt {f : Nat → Int32} {t u : Nat} {x : Int32} (h : u < t) : upd f t x u = f u := pk_un (by omega)
theorem PI_none {τ : SS} {cn t s : Nat} {row l fi : Nat → Int32} {ow : Int32} (h : PI τ cn t row l fi s ow) (hc : cn ≤ 4) : PI τ cn (t + 1) (upd row t (-9)) l (upd fi t 0) s ow := by
  obtain ⟨p1, p2, p3, p4, p5, p6⟩ := h
  refine ⟨fun u hu => ?_, fun c hcc => ?_, p3, fun c hcc => ?_, p5, fun u hu => ?_⟩
  · by_cases e : u = t
    · subst e; exact Or.inl pk_us
    · rw [upd_lt (by omega)]
      refine (p1 u (by omega)).imp id ?_
      rintro ⟨c, h1, h2, h3, h4, h5⟩
      refine ⟨c, h1, h2, h3, ?_, ?_⟩
      · rw [kB_congr (row' := row) (fun w hw => upd_lt (by omega))]; exact h4
      · rw [lfI_congr (row' := row) (fun w hw => upd_lt (by omega))]; exact h5
  · rw [p2 c hcc, lfI_s, if_neg (by rw [pk_us]; exact fun z => ne9 (by omega) z.symm), lfI_congr (row := upd row t (-9)) (row' := row) (fun w hw => upd_lt hw)]
  · rw [p4 c hcc]
    constructor
    · rintro ⟨h1, u, h2, h3⟩
      exact ⟨h1, u, by omega, by rw [upd_lt h2]; exact h3⟩
    · rintro ⟨h1, u, h2, h3⟩
      by_cases e : u = t
      · subst e; rw [pk_us] at h3; exact absurd h3.symm (ne9 (by omega))
      · exact ⟨h1, u, by omega, by rw [upd_lt (by omega)] at h3; exact h3⟩
  · by_cases e : u = t
    · subst e
      rw [pk_us, fl_no]
      rw [pk_us]
      exact fun z => absurd z.1 (by decide)
    · rw [upd_lt (by omega), p6 u (by omega), fl_congr (tr' := row) (fun w hw => upd_lt (by omega))]
theorem nI_inj {a b : Nat} (ha : a < 2 ^ 31) (hb : b < 2 ^ 31) (h : nI a = nI b) : a = b := (nI_eq ha hb).mp h
theorem PI_some {τ : SS} {n cn t s c : Nat} {row l fi : Nat → Int32} {ow : Int32} (h : PI τ cn t row l fi s ow) (hn : n ≤ 6) (hc : cn ≤ 4) (hv : vOK n (τ 29 0)) (ha : aOK cn (τ 38 0)) (ht : t < n) (hcc : c < cn) (hw : whyS τ t c = 0) (hk : anyB t (kB τ (upd row t (nI c)) t) = false) (hl : 0 < l c) :
    PI τ cn (t + 1) (upd row t (nI c)) (upd l c (l c - mn (τ 29 0 t) (l c))) (upd fi t (mn (τ 29 0 t) (l c))) (s ||| 2 ^ c) (ow + (if hb (nI s) (nI c) = true then 0 else τ 38 0 c) - mn (τ 29 0 t) (l c)) := by
  obtain ⟨p1, p2, p3, p4, p5, p6⟩ := h
  have hlz : ∀ e, e < cn → 0 ≤ (l e).toInt ∧ (l e).toInt ≤ 400 := fun e he => by rw [p2 e he]; exact lfZ hv ha hn he (by omega)
  obtain ⟨v1, v2⟩ := hv t ht
  obtain ⟨a1, a2⟩ := ha c hcc
  obtain ⟨b1, b2⟩ := hlz c hcc
  have hmn := mn_toInt (τ 29 0 t) (l c)
  have hsub : (l c - mn (τ 29 0 t) (l c)).toInt = (l c).toInt - (mn (τ 29 0 t) (l c)).toInt := i32sub (by omega) (by omega) (by omega) (by omega)
  refine ⟨fun u hu => ?_, fun e he => ?_, (or16 s p3 c (by omega)).2, fun e he => ?_, ?_, fun u hu => ?_⟩
  · by_cases e : u = t
    · subst e
      refine Or.inr ⟨c, hcc, pk_us, hw, hk, ?_⟩
      rw [lfI_congr (row' := row) (fun w hw => upd_lt hw), ← p2 c hcc]
      exact hl
    · rw [upd_lt (by omega)]
      refine (p1 u (by omega)).imp id ?_
      rintro ⟨c', h1, h2, h3, h4, h5⟩
      refine ⟨c', h1, h2, h3, ?_, ?_⟩
      · rw [kB_congr (row' := row) (fun w hw => upd_lt (by omega))]; exact h4
      · rw [lfI_congr (row' := row) (fun w hw => upd_lt (by omega))]; exact h5
  · rw [lfI_s, lfI_congr (row := upd row t (nI c)) (row' := row) (fun w hw => upd_lt hw), ← p2 e he, pk_us]
    by_cases q : e = c
    · subst q; rw [pk_us, if_pos rfl]
    · rw [pk_un q, if_neg (fun z => q (nI_inj (by omega) (by omega) z).symm)]
  · rw [hb_or16 s p3 c (by omega) e he, Bool.or_eq_true, p4 e he, decide_eq_true_iff]
    constructor
    · rintro (⟨h1, u, h2, h3⟩ | rfl)
      · exact ⟨h1, u, by omega, by rw [upd_lt h2]; exact h3⟩
      · exact ⟨hcc, t, by omega, pk_us⟩
    · rintro ⟨h1, u, h2, h3⟩
      by_cases q : u = t
      · subst q; rw [pk_us] at h3; exact Or.inr (nI_inj (by omega) (by omega) h3).symm
      · exact Or.inl ⟨h1, u, by omega, by rw [upd_lt (by omega)] at h3; exact h3⟩
  · have hsum : 0 ≤ sumZ cn (fun c => if hb (nI s) (nI c) = true then (l c).toInt else 0) := sumZ_nn cn (fun e he => by split <;> have := hlz e he <;> omega)
    have hsu2 : sumZ cn (fun c => if hb (nI s) (nI c) = true then (l c).toInt else 0) ≤ 400 * cn := sumZ_ub cn (fun e he => by split <;> have := hlz e he <;> omega)
    have hone := sumZ_one (f := fun e => if hb (nI (s ||| 2 ^ c)) (nI e) = true then (upd l c (l c - mn (τ 29 0 t) (l c)) e).toInt else 0) (g := fun e => if e < cn ∧ e ≠ c ∧ hb (nI (s ||| 2 ^ c)) (nI e) = true then (l e).toInt else if e < cn ∧ e = c ∧ hb (nI s) (nI e) = true then (l e).toInt else if e < cn then 0 else if hb (nI (s ||| 2 ^ c)) (nI e) = true then (upd l c (l c - mn (τ 29 0 t) (l c)) e).toInt else 0) (c := c) cn hcc (fun u hu => by
      by_cases q : u < cn
      · simp only [q, hu, pk_un hu, true_and, not_false_eq_true, ne_eq, false_and, if_false, if_true]
      · simp only [q, false_and, if_false])
    have hg : sumZ cn (fun e => if e < cn ∧ e ≠ c ∧ hb (nI (s ||| 2 ^ c)) (nI e) = true then (l e).toInt else if e < cn ∧ e = c ∧ hb (nI s) (nI e) = true then (l e).toInt else if e < cn then 0 else if hb (nI (s ||| 2 ^ c)) (nI e) = true then (upd l c (l c - mn (τ 29 0 t) (l c)) e).toInt else 0) = sumZ cn (fun c => if hb (nI s) (nI c) = true then (l c).toInt else 0) := sumZ_congr (fun e he => by
      by_cases q : e = c
      · subst q; simp [he]
      · rw [hb_or16 s p3 c (by omega) e (by omega)]
        simp [he, q])
    have hbc : hb (nI (s ||| 2 ^ c)) (nI c) = true := by rw [hb_or16 s p3 c (by omega) c (by omega)]; simp
    rw [hone, hg, ← p5]
    simp only [hbc, if_true, pk_us, hsub, ne_eq, not_true_eq_false, false_and, and_false, if_false, hcc, true_and]
    by_cases q : hb (nI s) (nI c) = true
    · simp only [q, if_true]
      have e1 : (ow + 0).toInt = ow.toInt := by rw [Int32.add_zero]
      rw [i32sub (by omega) (by omega) (by omega) (by omega), e1]
      omega
    · simp only [if_neg q]
      have hfresh : l c = τ 38 0 c := by
        rw [p2 c hcc]
        have hno : ∀ u, u < t → ¬ row u = nI c := fun u hu z => q ((p4 c (by omega)).mpr ⟨hcc, u, hu, z⟩)
        have : ∀ k, k ≤ t → lfI (τ 29 0) row (τ 38 0 c) (nI c) k = τ 38 0 c := by
          intro k
          induction k with
          | zero => intro _; rfl
          | succ k ih => intro hk; rw [lfI_s, if_neg (hno k (by omega)), ih (by omega)]
        exact this t (Nat.le_refl t)
      have e1 : (ow + τ 38 0 c).toInt = ow.toInt + (τ 38 0 c).toInt := i32add (by omega) (by omega) (by omega) (by omega)
      rw [i32sub (by omega) (by omega) (by omega) (by omega), e1, hfresh]
      omega
  · by_cases e : u = t
    · subst e
      rw [pk_us]
      have hix : ixn (upd row u (nI c) u) cn := by rw [pk_us]; exact (ixn_nI (by omega)).mpr hcc
      unfold fl
      rw [if_pos hix, pk_us, ci, nI_clamp (by omega), lfI_congr (row := upd row u (nI c)) (row' := row) (fun w hw => upd_lt hw), ← p2 c hcc]
    · rw [upd_lt (by omega), p6 u (by omega), fl_congr (tr' := row) (fun w hw => upd_lt (by omega))]
