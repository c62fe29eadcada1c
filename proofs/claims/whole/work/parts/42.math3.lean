/-! ===== the search finds, for each set, the rows that keep rules 1 to 5, in the reference's order ===== -/
/-- what the search has noted, of the view τ -/
def NT (σT τ : SS) (n cn : Nat) : Prop := (∀ t, t < n → σT 11 0 t = τ 29 0 t ∧ σT 12 0 t = τ 31 0 t ∧ σT 13 0 t = τ 32 0 t ∧ σT 14 0 t = rmS (τ 29 0) n (n - t) ∧ σT 15 0 t = setI cn (fun c => whyS τ t c = 0) ∧ ∀ c, c < cn → σT 16 0 (4 * t + c) = wfS τ t c) ∧ (∀ c, c < cn → σT 17 0 c = τ 38 0 c ∧ σT 18 0 c = setI cn (fun e => clB τ c e = true)) ∧ σT 4 0 2 = τ 28 0 17
theorem op_iff {σT τ : SS} {n cn t c : Nat} {row : Nat → Int32} (hT : NT σT τ n cn) (hn : n ≤ 6) (hc : cn ≤ 4) (ht : t < n) (hcc : c < cn) (hrow : ∀ u, u < t → row u = -9 ∨ ∃ e, e < cn ∧ row u = nI e) : hb (opF (σT 15 0) (σT 13 0) (σT 18 0) row t t) (nI c) = (decide (whyS τ t c = 0) && !anyB t (kB τ (upd row t (nI c)) t)) := by
  obtain ⟨-, -, h13, -, h15, -⟩ := hT.1 t ht
  have key : ∀ i, i ≤ t → bq (opF (σT 15 0) (σT 13 0) (σT 18 0) row t i) c = (decide (whyS τ t c = 0) && !anyB i (kB τ (upd row t (nI c)) t)) := by
    intro i
    induction i with
    | zero =>
      intro _
      rw [show opF (σT 15 0) (σT 13 0) (σT 18 0) row t 0 = σT 15 0 t from rfl, h15, bq_setI (by omega) cn (by omega), decide_eq_true hcc, anyB_0]
      simp
    | succ i ih =>
      intro hi
      have ih := ih (by omega)
      rw [opF_s, anyB_s]
      have hki : kB τ (upd row t (nI c)) t i = (hb (τ 32 0 t) (nI i) && (decide (row i ≠ -9) && clB τ c (ci (row i)))) := by
        unfold kB
        rw [pk_us, upd_lt (show i < t by omega), ci, nI_clamp (by omega), decide_eq_true (show nI c ≠ -9 from ne9 (by omega)), Bool.true_and]
      rw [hki, h13]
      by_cases h1 : hb (τ 32 0 t) (nI i) = true
      · by_cases h2 : row i = -9
        · rw [if_neg (fun z => z.2 h2), ih]
          simp [h2]
        · obtain ⟨e, he, ee⟩ := (hrow i (by omega)).resolve_left h2
          have hce : ci (row i) = e := by rw [ee]; exact nI_clamp (by omega)
          rw [if_pos ⟨h1, h2⟩, bq_and, ih, bq_xor, bq_m1 c (by omega), hce, (hT.2.1 e he).2, bq_setI (by omega) cn (by omega), decide_eq_true hcc, clB_comm τ c e, h1, decide_eq_true h2]
          cases clB τ e c <;> simp
      · rw [if_neg (fun z => h1 z.1), ih]
        simp [h1]
  rw [hb_bq _ (by omega)]
  exact key t (Nat.le_refl t)
/-- the reference's rows, from tank t on, in its order -/
def rowsF (s cn n : Nat) : Nat → Nat → (Nat → Int32) → List (Nat → Int32)
  | 0, _, row => [nrm n row]
  | k + 1, t, row => ((chs s cn).flatMap fun c => rowsF s cn n k (t + 1) (upd row t (nI c))) ++ rowsF s cn n k (t + 1) (upd row t (-9))
theorem rowsF_agree {s cn n : Nat} : ∀ (k t : Nat) (row row' : Nat → Int32), t + k = n → row' ∈ rowsF s cn n k t row → ∀ u, u < t → row' u = row u
  | 0, t, row, row', htk, h, u, hu => by
    rw [rowsF, List.mem_singleton] at h
    rw [h, nrm_lt (by omega)]
  | k + 1, t, row, row', htk, h, u, hu => by
    rw [rowsF, List.mem_append, List.mem_flatMap] at h
    rcases h with ⟨c, -, h⟩ | h
    · rw [rowsF_agree k (t + 1) _ _ (by omega) h u (by omega), upd_lt hu]
    · rw [rowsF_agree k (t + 1) _ _ (by omega) h u (by omega), upd_lt hu]
theorem anyB_f {n : Nat} {p : Nat → Bool} : anyB n p = false ↔ ∀ t, t < n → p t = false := by
  constructor
  · intro h t ht
    cases e : p t with
    | false => rfl
    | true => rw [anyB_t ht e] at h; cases h
  · intro h
    cases e : anyB n p with
    | false => rfl
    | true =>
      obtain ⟨t, ht, q⟩ := anyB_iff.mp e
      rw [h t ht] at q; cases q
theorem ok5_iff {τ : SS} {n cn s : Nat} {row : Nat → Int32} : ok5 τ n cn s row = true ↔ ((∀ u, u < n → oB (nI s) row u = false) ∧ (∀ u, u < n → uB τ row u = false) ∧ (∀ u, u < n → kA τ row u = false) ∧ (∀ c, c < cn → mB τ row n (nI s) c = false) ∧ ∀ u, u < n → eB row (fl (τ 29 0) (τ 38 0) row cn) u = false) := by
  unfold ok5
  simp only [Bool.and_eq_true, Bool.not_eq_true', anyB_f]
theorem vS_0 {τ : SS} {row : Nat → Int32} {c : Nat} : ∀ n, (∀ u, u < n → ¬ row u = nI c) → vS τ row c n = 0
  | 0, _ => rfl
  | n + 1, h => by rw [vS_s, if_neg (h n (by omega)), vS_0 n (fun u hu => h u (by omega))]
/-- rule 4 for a cargo: nothing is left -/
theorem mB_lf {τ : SS} {row : Nat → Int32} {n cn c : Nat} (hv : vOK n (τ 29 0)) (ha : aOK cn (τ 38 0)) (hn : n ≤ 6) (hc : c < cn) : ¬ vS τ row c n < τ 38 0 c ↔ (lfI (τ 29 0) row (τ 38 0 c) (nI c) n).toInt = 0 := by
  obtain ⟨a1, a2⟩ := ha c hc
  obtain ⟨h1, h2, h3⟩ := lf_vS (σ := τ) (tr := row) (a := τ 38 0 c) (c := c) hv ⟨by omega, a2⟩ (by omega)
  rw [h3, Int32.lt_iff_toInt_lt]
  omega
theorem leaf_iff {τ : SS} {n cn s s0 : Nat} {row l fi : Nat → Int32} {ow : Int32} (h : PI τ cn n row l fi s0 ow) (hn : n ≤ 6) (hc : cn ≤ 4) (hv : vOK n (τ 29 0)) (ha : aOK cn (τ 38 0)) (hs : s < 2 ^ cn) : ok5 τ n cn s row = true ↔ (ow = 0 ∧ s0 = s) := by
  obtain ⟨p1, p2, p3, p4, p5, p6⟩ := h
  have hs16 : s < 16 := Nat.lt_of_lt_of_le hs (Nat.le_trans (Nat.pow_le_pow_right (by decide) hc) (by decide))
  have hlz : ∀ e, e < cn → 0 ≤ (l e).toInt ∧ (l e).toInt ≤ 400 := fun e he => by rw [p2 e he]; exact lfZ hv ha hn he (Nat.le_refl n)
  have how : ow = 0 ↔ ow.toInt = 0 := by
    constructor
    · rintro rfl; decide
    · intro z; apply Int32.toInt_inj.mp; rw [z]; decide
  rw [ok5_iff, how, p5]
  constructor
  · rintro ⟨r1, r2, r3, r4, r5⟩
    have hused : ∀ c, c < 4 → hb (nI s0) (nI c) = true → c < cn ∧ hb (nI s) (nI c) = true := by
      intro c hc4 z
      obtain ⟨h1, u, h2, h3⟩ := (p4 c hc4).mp z
      refine ⟨h1, ?_⟩
      have := r1 u h2
      unfold oB at this
      rw [h3, decide_eq_true (show nI c ≠ -9 from ne9 (by omega)), Bool.true_and] at this
      simpa using this
    have hrule : ∀ c, c < cn → hb (nI s) (nI c) = true → ¬ vS τ row c n < τ 38 0 c := by
      intro c hcc z q
      have := r4 c hcc
      unfold mB at this
      rw [z, decide_eq_true q] at this
      cases this
    refine ⟨sumZ_z cn (fun c hcc => ?_), bits16 s0 p3 s hs16 (fun k hk => ?_)⟩
    · by_cases z : hb (nI s0) (nI c) = true
      · rw [if_pos z, p2 c hcc]
        exact (mB_lf hv ha hn hcc).mp (hrule c hcc (hused c (by omega) z).2)
      · rw [if_neg z]
    · cases z : hb (nI s) (nI k) with
      | true =>
        have hkc : k < cn := by
          rcases Nat.lt_or_ge k cn with q | q
          · exact q
          · rw [hb_2 cn hc s hs k hk q] at z; cases z
        refine (p4 k hk).mpr ⟨hkc, ?_⟩
        refine Classical.byContradiction (fun q => ?_)
        have h0 := vS_0 (τ := τ) n (fun u hu w => q ⟨u, hu, w⟩)
        have := hrule k hkc z
        rw [h0, Int32.lt_iff_toInt_lt, Int32.toInt_zero] at this
        have := (ha k hkc).1
        omega
      | false =>
        cases w : hb (nI s0) (nI k) with
        | false => rfl
        | true => rw [(hused k hk w).2] at z; cases z
  · rintro ⟨q1, rfl⟩
    have hone : ∀ u, u < n → row u = -9 ∨ ∃ c, c < cn ∧ row u = nI c ∧ ci (row u) = c ∧ whyS τ u c = 0 ∧ anyB u (kB τ row u) = false ∧ 0 < lfI (τ 29 0) row (τ 38 0 c) (nI c) u := by
      intro u hu
      refine (p1 u hu).imp id ?_
      rintro ⟨c, h1, h2, h3⟩
      exact ⟨c, h1, h2, by rw [h2]; exact nI_clamp (by omega), h3⟩
    refine ⟨fun u hu => ?_, fun u hu => ?_, fun u hu => ?_, fun c hcc => ?_, fun u hu => ?_⟩
    · unfold oB
      rcases hone u hu with z | ⟨c, h1, h2, h3, h4, h5, h6⟩
      · rw [z]; rfl
      · have : hb (nI s0) (nI c) = true := (p4 c (by omega)).mpr ⟨h1, u, hu, h2⟩
        rw [h2, this, Bool.not_true, Bool.and_false]
    · unfold uB
      rcases hone u hu with z | ⟨c, h1, h2, h3, h4, h5, h6⟩
      · rw [z]; rfl
      · rw [h3, decide_eq_false (p := ¬ whyS τ u c = 0) (fun z => z h4), Bool.and_false]
    · rcases hone u hu with z | ⟨c, h1, h2, h3, h4, h5, h6⟩
      · refine anyB_f.mpr (fun w hw => ?_)
        unfold kB
        rw [z]
        simp
      · exact h5
    · unfold mB
      cases z : hb (nI s0) (nI c) with
      | false => rfl
      | true =>
        have hle := sumZ_le (f := fun c => if hb (nI s0) (nI c) = true then (l c).toInt else 0) cn (fun e he => by split <;> have := hlz e he <;> omega) hcc
        simp only [z, if_true] at hle
        have := hlz c hcc
        rw [decide_eq_false ((mB_lf hv ha hn hcc).mpr (by rw [← p2 c hcc]; omega)), Bool.and_false]
    · unfold eB
      rcases hone u hu with z | ⟨c, h1, h2, h3, h4, h5, h6⟩
      · rw [z]; rfl
      · have : ¬ fl (τ 29 0) (τ 38 0) row cn u = 0 := by
          intro z
          unfold fl at z
          rw [if_pos (by rw [h2]; exact (ixn_nI (by omega)).mpr h1), h3, h2] at z
          have hm := mn_toInt (τ 29 0 u) (lfI (τ 29 0) row (τ 38 0 c) (nI c) u)
          rw [z, Int32.toInt_zero] at hm
          have := (hv u hu).1
          rw [Int32.lt_iff_toInt_lt, Int32.toInt_zero] at h6
          omega
        rw [decide_eq_false this, Bool.and_false]
theorem rmZ {τ : SS} {n : Nat} (hv : vOK n (τ 29 0)) (hn : n ≤ 6) : ∀ i, i ≤ n → 0 ≤ (rmS (τ 29 0) n i).toInt ∧ (rmS (τ 29 0) n i).toInt ≤ 99 * i ∧ ∀ j, i = j + 1 → (rmS (τ 29 0) n i).toInt = (rmS (τ 29 0) n j).toInt + (τ 29 0 (n - 1 - j)).toInt
  | 0, _ => by
    have e : rmS (τ 29 0) n 0 = 0 := rfl
    rw [e]
    exact ⟨by decide, by decide, fun j h => absurd h (by omega)⟩
  | i + 1, hi => by
    obtain ⟨h1, h2, -⟩ := rmZ hv hn i (by omega)
    obtain ⟨v1, v2⟩ := hv (n - 1 - i) (by omega)
    have e : (rmS (τ 29 0) n (i + 1)).toInt = (rmS (τ 29 0) n i).toInt + (τ 29 0 (n - 1 - i)).toInt := by
      rw [rmS_s]
      exact i32add (by omega) (by omega) (by omega) (by omega)
    refine ⟨by omega, by omega, fun j h => ?_⟩
    have : j = i := by omega
    subst this
    exact e
/-- a full row that keeps the rules has room for all that is owed -/
theorem prune {τ : SS} {n cn s s0 t k : Nat} {row row' l fi : Nat → Int32} {ow : Int32} (h : PI τ cn t row l fi s0 ow) (hn : n ≤ 6) (hc : cn ≤ 4) (hv : vOK n (τ 29 0)) (ha : aOK cn (τ 38 0)) (htk : t + k = n) (hm : row' ∈ rowsF s cn n k t row) (hok : ok5 τ n cn s row' = true) : ow.toInt ≤ (rmS (τ 29 0) n (n - t)).toInt := by
  obtain ⟨p1, p2, p3, p4, p5, p6⟩ := h
  have hag := rowsF_agree k t row row' htk hm
  obtain ⟨r1, r2, r3, r4, r5⟩ := ok5_iff.mp hok
  have hend : ∀ c, c < cn → hb (nI s0) (nI c) = true → (lfI (τ 29 0) row' (τ 38 0 c) (nI c) n).toInt = 0 := by
    intro c hcc z
    obtain ⟨h1, u, h2, h3⟩ := (p4 c (by omega)).mp z
    have h3' : row' u = nI c := (hag u h2).trans h3
    have hsc : hb (nI s) (nI c) = true := by
      have := r1 u (by omega)
      unfold oB at this
      rw [h3', decide_eq_true (show nI c ≠ -9 from ne9 (by omega)), Bool.true_and] at this
      simpa using this
    refine (mB_lf hv ha hn hcc).mp (fun q => ?_)
    have := r4 c hcc
    unfold mB at this
    rw [hsc, decide_eq_true q] at this
    cases this
  have hstep : ∀ u, u < n → sumZ cn (fun c => if hb (nI s0) (nI c) = true then (lfI (τ 29 0) row' (τ 38 0 c) (nI c) u).toInt else 0) ≤ sumZ cn (fun c => if hb (nI s0) (nI c) = true then (lfI (τ 29 0) row' (τ 38 0 c) (nI c) (u + 1)).toInt else 0) + (τ 29 0 u).toInt := by
    intro u hu
    have hv1 := (hv u hu).1
    by_cases hex : ∃ c, c < cn ∧ row' u = nI c
    · obtain ⟨c, hcc, ec⟩ := hex
      have h1 := sumZ_one (f := fun e => if e < cn then (if hb (nI s0) (nI e) = true then (lfI (τ 29 0) row' (τ 38 0 e) (nI e) u).toInt else 0) else 0) (g := fun e => if e < cn then (if hb (nI s0) (nI e) = true then (lfI (τ 29 0) row' (τ 38 0 e) (nI e) (u + 1)).toInt else 0) else 0) (c := c) cn hcc (fun e he => by
        by_cases q : e < cn
        · simp only [q, if_true]
          rw [lfZ_s hv ha hn q hu, if_neg (show ¬ row' u = nI e from fun z => he (nI_inj (by omega) (by omega) (z.symm.trans ec)))]
        · simp only [q, if_false])
      rw [sumZ_congr (g := fun e => if hb (nI s0) (nI e) = true then (lfI (τ 29 0) row' (τ 38 0 e) (nI e) u).toInt else 0) (fun e he => by simp only [he, if_true])] at h1
      rw [sumZ_congr (f := fun e => if e < cn then (if hb (nI s0) (nI e) = true then (lfI (τ 29 0) row' (τ 38 0 e) (nI e) (u + 1)).toInt else 0) else 0) (g := fun e => if hb (nI s0) (nI e) = true then (lfI (τ 29 0) row' (τ 38 0 e) (nI e) (u + 1)).toInt else 0) (fun e he => by simp only [he, if_true])] at h1
      simp only [hcc, if_true] at h1
      rw [h1, lfZ_s hv ha hn hcc hu, if_pos ec]
      have := lfZ (row := row') (t := u) hv ha hn hcc (by omega)
      split <;> omega
    · rw [sumZ_congr (g := fun c => if hb (nI s0) (nI c) = true then (lfI (τ 29 0) row' (τ 38 0 c) (nI c) (u + 1)).toInt else 0) (fun e he => by
        rw [lfZ_s hv ha hn he hu, if_neg (show ¬ row' u = nI e from fun z => hex ⟨e, he, z⟩)])]
      omega
  have hall : ∀ i, i ≤ n → sumZ cn (fun c => if hb (nI s0) (nI c) = true then (lfI (τ 29 0) row' (τ 38 0 c) (nI c) (n - i)).toInt else 0) ≤ (rmS (τ 29 0) n i).toInt := by
    intro i
    induction i with
    | zero =>
      intro _
      rw [Nat.sub_zero, sumZ_z cn (fun c hcc => by
        by_cases z : hb (nI s0) (nI c) = true
        · rw [if_pos z, hend c hcc z]
        · rw [if_neg z])]
      exact (rmZ hv hn 0 (by omega)).1
    | succ i ih =>
      intro hi
      have h1 := hstep (n - (i + 1)) (by omega)
      rw [show n - (i + 1) + 1 = n - i by omega] at h1
      have h2 := ih (by omega)
      have h3 := (rmZ hv hn (i + 1) hi).2.2 i rfl
      rw [show n - 1 - i = n - (i + 1) by omega] at h3
      omega
  have h1 := hall (n - t) (by omega)
  rw [show n - (n - t) = t by omega] at h1
  rw [p5, sumZ_congr (g := fun c => if hb (nI s0) (nI c) = true then (lfI (τ 29 0) row' (τ 38 0 c) (nI c) t).toInt else 0) (fun c hcc => by
    rw [p2 c hcc, lfI_congr (row' := row') (fun u hu => (hag u hu).symm)])]
  exact h1
