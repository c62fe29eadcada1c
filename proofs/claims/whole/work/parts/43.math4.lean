/-! ===== for each set: the search's rows are the reference's ===== -/
theorem alive {τ : SS} {n cn s s0 t k c : Nat} {row row' l fi : Nat → Int32} {ow : Int32} (h : PI τ cn t row l fi s0 ow) (hn : n ≤ 6) (hc : cn ≤ 4) (hv : vOK n (τ 29 0)) (ha : aOK cn (τ 38 0)) (htk : t + 1 + k = n) (hcc : c < cn) (hm : row' ∈ rowsF s cn n k (t + 1) (upd row t (nI c))) (hok : ok5 τ n cn s row' = true) : hb (nI s) (nI c) = true ∧ whyS τ t c = 0 ∧ anyB t (kB τ (upd row t (nI c)) t) = false ∧ 0 < l c := by
  obtain ⟨p1, p2, p3, p4, p5, p6⟩ := h
  have hag := rowsF_agree k (t + 1) _ row' htk hm
  have ht : row' t = nI c := (hag t (by omega)).trans pk_us
  have hlt : ∀ u, u < t → row' u = row u := fun u hu => (hag u (by omega)).trans (upd_lt hu)
  obtain ⟨r1, r2, r3, r4, r5⟩ := ok5_iff.mp hok
  have h9 : decide (nI c ≠ -9) = true := decide_eq_true (ne9 (by omega))
  have hci : ci (nI c) = c := nI_clamp (by omega)
  refine ⟨?_, ?_, ?_, ?_⟩
  · have := r1 t (by omega)
    unfold oB at this
    rw [ht, h9, Bool.true_and] at this
    simpa using this
  · have := r2 t (by omega)
    unfold uB at this
    rw [ht, h9, Bool.true_and, hci] at this
    simpa using this
  · have := r3 t (by omega)
    unfold kA at this
    rw [kB_congr (row' := row') (fun w hw => (hag w (by omega)).symm)]
    exact this
  · have := r5 t (by omega)
    unfold eB at this
    rw [ht, h9, Bool.true_and] at this
    have h0 : ¬ fl (τ 29 0) (τ 38 0) row' cn t = 0 := by simpa using this
    unfold fl at h0
    rw [if_pos (by rw [ht]; exact (ixn_nI (by omega)).mpr hcc), ht, hci, lfI_congr (row' := row) hlt, ← p2 c hcc] at h0
    have hz := lfZ (row := row) (t := t) hv ha hn hcc (by omega)
    rw [← p2 c hcc] at hz
    rw [Int32.lt_iff_toInt_lt, Int32.toInt_zero]
    rcases Int.lt_or_le 0 (l c).toInt with q | q
    · exact q
    · exfalso
      apply h0
      apply Int32.toInt_inj.mp
      rw [mn_toInt, Int32.toInt_zero]
      have := (hv t (by omega)).1
      omega
theorem fm_filter {α : Type} (p : Nat → Bool) (f : Nat → List α) : ∀ L : List Nat, (L.filter p).flatMap f = L.flatMap (fun c => if p c = true then f c else [])
  | [] => rfl
  | c :: L => by
    rw [List.filter_cons, List.flatMap_cons, ← fm_filter p f L]
    by_cases h : p c = true
    · rw [if_pos h, if_pos h, List.flatMap_cons]
    · rw [if_neg h, if_neg h, List.nil_append]
theorem fm_congr {α : Type} {f g : Nat → List α} : ∀ L : List Nat, (∀ c, c ∈ L → f c = g c) → L.flatMap f = L.flatMap g
  | [], _ => rfl
  | c :: L, h => by rw [List.flatMap_cons, List.flatMap_cons, h c List.mem_cons_self, fm_congr L (fun e he => h e (List.mem_cons_of_mem _ he))]
theorem fm_fm {α β : Type} (p : α → Bool) (g : α → β) (f : Nat → List α) : ∀ L : List Nat, ((L.flatMap f).filter p).map g = L.flatMap (fun c => ((f c).filter p).map g)
  | [] => rfl
  | c :: L => by rw [List.flatMap_cons, List.filter_append, List.map_append, fm_fm p g f L, List.flatMap_cons]
/-- a row and what it fills -/
def fF (τ : SS) (n cn : Nat) (r : Nat → Int32) : (Nat → Int32) × (Nat → Int32) := (r, nrm n (fl (τ 29 0) (τ 38 0) r cn))
theorem tv_rows {σT τ : SS} {n cn s : Nat} (hT : NT σT τ n cn) (hn : n ≤ 6) (hc : cn ≤ 4) (hv : vOK n (τ 29 0)) (ha : aOK cn (τ 38 0)) (hs : s < 2 ^ cn) : ∀ (k t : Nat) (row l fi : Nat → Int32) (s0 : Nat) (ow : Int32), t + k = n → PI τ cn t row l fi s0 ow → ((tvL σT n cn k t l row fi s0 ow).filter (fun q => decide (q.1 = s))).map (fun q => q.2) = ((rowsF s cn n k t row).filter (ok5 τ n cn s)).map (fF τ n cn)
  | 0, t, row, l, fi, s0, ow, htk, h => by
    have ht : t = n := by omega
    rw [ht] at h
    have hl := leaf_iff h hn hc hv ha hs
    have e1 : ok5 τ n cn s (nrm n row) = ok5 τ n cn s row := ok5_congr (fun u hu => nrm_lt hu)
    have e2 : nrm n fi = nrm n (fl (τ 29 0) (τ 38 0) (nrm n row) cn) := nrm_congr (fun u hu => by
      rw [h.2.2.2.2.2 u hu]
      exact fl_congr (fun w hw => (nrm_lt (by omega)).symm))
    show (List.filter _ (if ow = 0 then [(s0, nrm n row, nrm n fi)] else [] : List LF)).map _ = (List.filter _ [nrm n row]).map _
    by_cases q : ow = 0 ∧ s0 = s
    · have e3 := hl.mpr q
      rw [if_pos q.1, List.filter_cons, List.filter_cons, if_pos (by simp [q.2]), if_pos (by rw [e1, e3])]
      simp [fF, e2]
    · have e3 : ¬ ok5 τ n cn s (nrm n row) = true := fun z => q (hl.mp (e1 ▸ z))
      rw [List.filter_cons (x := nrm n row), if_neg e3]
      by_cases q0 : ow = 0
      · rw [if_pos q0, List.filter_cons, if_neg (by simp; exact fun z => q ⟨q0, z⟩)]
        rfl
      · rw [if_neg q0]
        rfl
  | k + 1, t, row, l, fi, s0, ow, htk, h => by
    have htn : t < n := by omega
    obtain ⟨e11, -, -, e14, -, -⟩ := hT.1 t htn
    rw [tvL_s]
    by_cases hp : σT 14 0 t < ow
    · rw [if_pos hp]
      have : (rowsF s cn n (k + 1) t row).filter (ok5 τ n cn s) = [] := by
        rw [List.filter_eq_nil_iff]
        intro row' hm hok
        have := prune h hn hc hv ha htk hm hok
        rw [e14, Int32.lt_iff_toInt_lt] at hp
        omega
      rw [this]
      rfl
    · rw [if_neg hp, rowsF, List.filter_append, List.map_append, List.filter_append, List.map_append, tv_rows hT hn hc hv ha hs k (t + 1) _ l (upd fi t 0) s0 ow (by omega) (PI_none h hc), fm_fm, chs, fm_filter, fm_fm]
      refine congrArg (· ++ _) (fm_congr _ (fun c hcm => ?_))
      have hcc : c < cn := List.mem_range.mp hcm
      have hrow : ∀ u, u < t → row u = -9 ∨ ∃ e, e < cn ∧ row u = nI e := fun u hu => (h.1 u hu).imp id (fun ⟨e, h1, h2, _⟩ => ⟨e, h1, h2⟩)
      have hop := op_iff hT hn hc htn hcc hrow
      have hdead : ¬ (hb (nI s) (nI c) = true ∧ whyS τ t c = 0 ∧ anyB t (kB τ (upd row t (nI c)) t) = false ∧ 0 < l c) → ((rowsF s cn n k (t + 1) (upd row t (nI c))).filter (ok5 τ n cn s)).map (fF τ n cn) = [] := by
        intro z
        rw [List.map_eq_nil_iff, List.filter_eq_nil_iff]
        intro row' hm hok
        exact z (alive h hn hc hv ha (by omega) hcc hm hok)
      unfold brC
      rw [hop, e11, (hT.2.1 c hcc).1]
      by_cases q : (whyS τ t c = 0 ∧ anyB t (kB τ (upd row t (nI c)) t) = false) ∧ 0 < l c
      · rw [if_pos (by simp [q.1.1, q.1.2, q.2]), tv_rows hT hn hc hv ha hs k (t + 1) _ _ _ _ _ (by omega) (PI_some h hn hc hv ha htn hcc q.1.1 q.1.2 q.2)]
        by_cases z : hb (nI s) (nI c) = true
        · simp only [z, if_true]
        · rw [hdead (fun w => z w.1)]
          simp only [z, if_false]
          rfl
      · rw [if_neg (fun w => q ⟨by simpa using w.1, w.2⟩)]
        by_cases z : hb (nI s) (nI c) = true
        · simp only [z, if_true]
          rw [hdead (fun w => q ⟨⟨w.2.1, w.2.2.1⟩, w.2.2.2⟩)]
          rfl
        · simp only [z, if_false]
          rfl
/-! ===== the reference's rows, numbered ===== -/
theorem rng_mul {α : Type} (f : Nat → α) (b : Nat) : ∀ a : Nat, (List.range (a * b)).map f = (List.range a).flatMap (fun d => (List.range b).map (fun r => f (d * b + r)))
  | 0 => by simp
  | a + 1 => by
    rw [Nat.add_mul, Nat.one_mul, List.range_add, List.map_append, rng_mul f b a, List.range_succ, List.flatMap_append, List.flatMap_singleton, List.map_map]
    rfl
theorem fm_ix {α : Type} (g : Nat → List α) (x : List α) (L : List Nat) : L.flatMap g ++ x = (List.range (L.length + 1)).flatMap (fun d => (L[d]?).elim x g) := by
  have key : ∀ i, i ≤ L.length → (L.take i).flatMap g = (List.range i).flatMap (fun d => (L[d]?).elim x g) := by
    intro i
    induction i with
    | zero => intro _; rfl
    | succ i ih =>
      intro hi
      rw [List.range_succ, List.flatMap_append, ← ih (by omega), List.flatMap_singleton, List.take_add_one, List.flatMap_append, List.getElem?_eq_getElem (by omega)]
      simp
  rw [List.range_succ, List.flatMap_append, ← key L.length (Nat.le_refl _), List.take_length, List.flatMap_singleton, List.getElem?_eq_none (Nat.le_refl _)]
  rfl
theorem dg_top {m n t k d r : Nat} (hm : 0 < m) (hk : n - 1 - t = k) (hr : r < m ^ k) (hd : d < m) : dg (d * m ^ k + r) m n t = d := by
  unfold dg
  rw [hk, Nat.add_comm, Nat.add_mul_div_right _ _ (Nat.pow_pos hm), Nat.div_eq_of_lt hr, Nat.zero_add, Nat.mod_eq_of_lt hd]
theorem dg_low {m n u k d r : Nat} (hm : 0 < m) (hk : n - 1 - u < k) : dg (d * m ^ k + r) m n u = dg r m n u := by
  unfold dg
  obtain ⟨e, he⟩ : ∃ e, k = (n - 1 - u) + 1 + e := ⟨k - (n - 1 - u) - 1, by omega⟩
  have h1 : d * m ^ k = (d * m ^ e * m) * m ^ (n - 1 - u) := by
    rw [he, Nat.pow_add, Nat.pow_succ]
    ac_rfl
  rw [h1, Nat.add_comm, Nat.add_mul_div_right _ _ (Nat.pow_pos hm), Nat.add_mul_mod_self_right]
theorem rowsF_rng {s cn n : Nat} : ∀ (k t : Nat) (row : Nat → Int32), t + k = n → rowsF s cn n k t row = (List.range (mC s cn ^ k)).map (fun r => nrm n (fun u => if u < t then row u else rwS s cn n r u))
  | 0, t, row, htk => by
    rw [rowsF, Nat.pow_zero, List.range_one, List.map_singleton]
    congr 1
    exact nrm_congr (fun u hu => by rw [if_pos (by omega)])
  | k + 1, t, row, htk => by
    have ih := fun x => rowsF_rng (s := s) (cn := cn) (n := n) k (t + 1) (upd row t x) (by omega)
    rw [rowsF, fm_ix, Nat.pow_succ, Nat.mul_comm, rng_mul]
    refine fm_congr _ (fun d hd => ?_)
    have hd' : d < mC s cn := List.mem_range.mp hd
    have e : ((chs s cn)[d]?).elim (rowsF s cn n k (t + 1) (upd row t (-9))) (fun c => rowsF s cn n k (t + 1) (upd row t (nI c))) = rowsF s cn n k (t + 1) (upd row t (((chs s cn)[d]?).elim (-9) nI)) := by
      cases (chs s cn)[d]? <;> rfl
    rw [e, ih]
    refine List.map_congr_left (fun r hr => nrm_congr (fun u hu => ?_))
    have hr' : r < mC s cn ^ k := List.mem_range.mp hr
    by_cases h1 : u < t
    · rw [if_pos (by omega), if_pos h1, upd_lt h1]
    · rw [if_neg h1]
      by_cases h2 : u = t
      · subst h2
        rw [if_pos (by omega), pk_us]
        unfold rwS
        rw [dg_top (by omega) (by omega) hr' hd']
      · rw [if_neg (by omega)]
        unfold rwS
        rw [dg_low (by omega) (by omega)]
theorem rows_all {s cn n : Nat} (row : Nat → Int32) : rowsF s cn n n 0 row = (List.range (mC s cn ^ n)).map (fun r => nrm n (rwS s cn n r)) := by
  rw [rowsF_rng n 0 row (by omega)]
  exact List.map_congr_left (fun r _ => nrm_congr (fun u _ => by rw [if_neg (by omega)]))
/-! ===== what is kept, for each set ===== -/
/-- the search's finds for set s are the reference's -/
def KR (τ : SS) (n cn s : Nat) (R : RR) (a : SA) : Prop := R.1 s = a.1 ∧ (¬ a.1 = 0 → R.2.1 s = a.2.1 ∧ R.2.2.1 s = a.2.2.1 ∧ R.2.2.2.1 s = liS τ a.2.2.2 n cn ∧ (∀ t, t < n → R.2.2.2.2.1 (6 * s + t) = a.2.2.2 t) ∧ ∀ t, t < n → R.2.2.2.2.2 (6 * s + t) = fl (τ 29 0) (τ 38 0) a.2.2.2 cn t)
/-- a row that keeps rules 1 to 5 is seen -/
def stP (τ : SS) (n cn : Nat) (a : SA) (row : Nat → Int32) : SA := if ¬ (τ 28 0 17 < liS τ row n cn ∨ τ 28 0 17 < -liS τ row n cn) then kpS τ n row a else a
theorem liS_congr {τ : SS} {row row' : Nat → Int32} {n cn : Nat} (h : ∀ t, t < n → row t = row' t) : liS τ row n cn = liS τ row' n cn := sumI_congr (fun t ht => by rw [fl_congr (fun u hu => h u (by omega))])
theorem kl_li {σT τ : SS} {n cn : Nat} {r : Nat → Int32} (hT : NT σT τ n cn) : klL (nrm n (fl (τ 29 0) (τ 38 0) r cn)) (σT 12 0) r n = liS τ r n cn := by
  unfold klL liS sumI
  refine lp_congr n (fun t ht x => ?_)
  show (if r t = -9 then x else x + nrm n (fl (τ 29 0) (τ 38 0) r cn) t * σT 12 0 t) = x + fl (τ 29 0) (τ 38 0) r cn t * τ 31 0 t
  rw [nrm_lt ht, (hT.1 t ht).2.1]
  by_cases h : r t = -9
  · rw [if_pos h, fl_no (tr := r) (show ¬ ixn (r t) cn by rw [h]; exact fun z => absurd z.1 (by decide)), Int32.zero_mul, Int32.add_zero]
  · rw [if_neg h]
theorem kl_co {σT τ : SS} {n cn : Nat} {r : Nat → Int32} (hT : NT σT τ n cn) (hr : okT n cn r) : klC (σT 16 0) r n = coS τ r n := by
  unfold klC coS
  refine lp_congr n (fun t ht x => ?_)
  by_cases h : r t = -9
  · rw [if_pos h, if_pos h]
  · rw [if_neg h, if_neg h, (hT.1 t ht).2.2.2.2.2 _ (vp_lt ((hr t ht).resolve_left h))]
theorem KR_other {σT τ : SS} {n cn s : Nat} {R : RR} {a : SA} {q : LF} (hn : n ≤ 6) (h : KR τ n cn s R a) (hq : ¬ q.1 = s) : KR τ n cn s (kpC σT n q.1 q.2.1 q.2.2 R) a := by
  have hne : s ≠ q.1 := fun z => hq z.symm
  have hcp : ∀ (x old : Nat → Int32) (t : Nat), t < n → cpR x q.1 n old (6 * s + t) = old (6 * s + t) := fun x old t ht => by
    unfold cpR
    rw [if_neg (by omega)]
  unfold kpC
  generalize klL q.2.2 (σT 12 0) q.2.1 n = L
  generalize (if 0 ≤ L then L else 0 - L) = X
  split
  · split
    · refine ⟨?_, fun z => ?_⟩
      · show upd R.1 q.1 _ s = _
        rw [pk_un hne]
        exact h.1
      · obtain ⟨h1, h2, h3, h4, h5⟩ := h.2 z
        refine ⟨?_, ?_, ?_, fun t ht => ?_, fun t ht => ?_⟩
        · show upd R.2.1 q.1 _ s = _
          rw [pk_un hne]; exact h1
        · show upd R.2.2.1 q.1 _ s = _
          rw [pk_un hne]; exact h2
        · show upd R.2.2.2.1 q.1 _ s = _
          rw [pk_un hne]; exact h3
        · show cpR q.2.1 q.1 n R.2.2.2.2.1 _ = _
          rw [hcp _ _ t ht]; exact h4 t ht
        · show cpR q.2.2 q.1 n R.2.2.2.2.2 _ = _
          rw [hcp _ _ t ht]; exact h5 t ht
    · refine ⟨?_, h.2⟩
      show upd R.1 q.1 _ s = _
      rw [pk_un hne]
      exact h.1
  · exact h
theorem e01 : decide ((0 : Int32) + 1 = 1) = true := by decide
theorem KR_same {σT τ : SS} {n cn s : Nat} {R : RR} {a : SA} {r : Nat → Int32} (hT : NT σT τ n cn) (hb0 : 0 ≤ τ 28 0 17) (h : KR τ n cn s R a) (hr : okT n cn r) : KR τ n cn s (kpC σT n s r (nrm n (fl (τ 29 0) (τ 38 0) r cn)) R) (stP τ n cn a r) := by
  have hcp : ∀ (x old : Nat → Int32) (t : Nat), t < n → cpR x s n old (6 * s + t) = x t := fun x old t ht => by
    unfold cpR
    rw [if_pos (by omega), Nat.add_sub_cancel_left]
  unfold kpC stP
  rw [kl_li hT, kl_co hT hr, hT.2.2]
  by_cases h6 : τ 28 0 17 < liS τ r n cn ∨ τ 28 0 17 < -liS τ r n cn
  · rw [if_neg (fun z => (rule6 hb0).mp z h6), if_neg (fun z => z h6)]
    exact h
  · rw [if_pos ((rule6 hb0).mpr h6), if_pos h6]
    have ek : kcB (coS τ r n) (usS r n) s R = bet (coS τ r n) (usS r n) a := by
      unfold kcB bet
      rw [h.1]
      by_cases z : a.1 = 0
      · rw [z, e01, Bool.true_or, Bool.true_or]
      · obtain ⟨h1, h2, -⟩ := h.2 z
        rw [h1, h2]
    unfold kpS
    rw [ek]
    by_cases hk : bet (coS τ r n) (usS r n) a = true
    · rw [if_pos hk, if_pos hk]
      have hsame : ∀ t, t < n → (fun t => if t < n then r t else a.2.2.2 t) t = r t := fun t ht => if_pos ht
      refine ⟨?_, fun _ => ⟨pk_us, pk_us, ?_, fun t ht => ?_, fun t ht => ?_⟩⟩
      · show upd R.1 s _ s = a.1 + 1
        rw [pk_us, h.1]
      · show upd R.2.2.2.1 s _ s = _
        rw [pk_us]
        exact (liS_congr hsame).symm
      · show cpR r s n _ _ = _
        rw [hcp _ _ t ht]
        exact (hsame t ht).symm
      · show cpR _ s n _ _ = _
        rw [hcp _ _ t ht, nrm_lt ht]
        exact (fl_congr (fun u hu => hsame u (by omega))).symm
    · rw [if_neg hk, if_neg hk]
      refine ⟨?_, fun _ => h.2 (fun z => hk ?_)⟩
      · show upd R.1 s _ s = a.1 + 1
        rw [pk_us, h.1]
      · unfold bet
        rw [z, e01, Bool.true_or]
theorem KR_fold {σT τ : SS} {n cn s : Nat} (hT : NT σT τ n cn) (hn : n ≤ 6) (hb0 : 0 ≤ τ 28 0 17) : ∀ (Q : List LF) (R : RR) (a : SA), KR τ n cn s R a → (∀ q, q ∈ Q → q.1 = s → okT n cn q.2.1 ∧ q.2.2 = nrm n (fl (τ 29 0) (τ 38 0) q.2.1 cn)) → KR τ n cn s (fdC σT n R Q) ((((Q.filter (fun q => decide (q.1 = s))).map (fun q => q.2)).map (fun p => p.1)).foldl (stP τ n cn) a)
  | [], R, a, h, _ => h
  | q :: Q, R, a, h, hg => by
    show KR τ n cn s (fdC σT n (kpC σT n q.1 q.2.1 q.2.2 R) Q) _
    rw [List.filter_cons]
    by_cases z : q.1 = s
    · rw [if_pos (decide_eq_true z), List.map_cons, List.map_cons, List.foldl_cons]
      obtain ⟨g1, g2⟩ := hg q List.mem_cons_self z
      refine KR_fold hT hn hb0 Q _ _ ?_ (fun q' hq' => hg q' (List.mem_cons_of_mem _ hq'))
      rw [z, g2]
      exact KR_same hT hb0 h g1
    · rw [if_neg (by simpa using z)]
      exact KR_fold hT hn hb0 Q _ _ (KR_other hn h z) (fun q' hq' => hg q' (List.mem_cons_of_mem _ hq'))
theorem lp_foldl {α : Type} (f : Nat → α → α) (a : α) : ∀ k, lp k f a = (List.range k).foldl (fun a r => f r a) a
  | 0 => rfl
  | k + 1 => by rw [lp_s, lp_foldl f a k, List.range_succ, List.foldl_append]; rfl
theorem foldl_filt {α β : Type} (p : β → Bool) (f : α → β → α) : ∀ (L : List β) (a : α), L.foldl (fun a x => if p x = true then f a x else a) a = (L.filter p).foldl f a
  | [], a => rfl
  | x :: L, a => by
    rw [List.foldl_cons, List.filter_cons]
    by_cases h : p x = true
    · rw [if_pos h, if_pos h, List.foldl_cons, foldl_filt p f L]
    · rw [if_neg h, if_neg h, foldl_filt p f L]
theorem foldl_map' {α β γ : Type} (g : γ → β) (f : α → β → α) : ∀ (L : List γ) (a : α), L.foldl (fun a x => f a (g x)) a = (L.map g).foldl f a
  | [], a => rfl
  | x :: L, a => by rw [List.foldl_cons, List.map_cons, List.foldl_cons, foldl_map' g f L]
theorem stS_stP {τ : SS} {n cn s : Nat} {row : Nat → Int32} {a : SA} : stS τ n cn (nI s) row a = if ok5 τ n cn s (nrm n row) = true then stP τ n cn a (nrm n row) else a := by
  have e1 : ok5 τ n cn s (nrm n row) = ok5 τ n cn s row := ok5_congr (fun u hu => nrm_lt hu)
  have e2 : liS τ (nrm n row) n cn = liS τ row n cn := liS_congr (fun u hu => nrm_lt hu)
  have e3 : kpS τ n (nrm n row) a = kpS τ n row a := by
    have e4 : coS τ (nrm n row) n = coS τ row n := coS_congr (fun t ht => nrm_lt ht)
    have e5 : usS (nrm n row) n = usS row n := usS_congr (fun t ht => nrm_lt ht)
    have e6 : (fun t => if t < n then nrm n row t else a.2.2.2 t) = fun t => if t < n then row t else a.2.2.2 t := by
      funext t
      by_cases ht : t < n
      · rw [if_pos ht, if_pos ht, nrm_lt ht]
      · rw [if_neg ht, if_neg ht]
    unfold kpS
    rw [e4, e5, e6]
  unfold stS stP
  rw [e1, e2, e3]
  by_cases h : brS τ row n cn (nI s) = 0
  · obtain ⟨h1, h2⟩ := brS_ok5.mp h
    rw [if_pos h, if_pos h1, if_pos h2]
  · rw [if_neg h]
    by_cases h1 : ok5 τ n cn s row = true
    · rw [if_pos h1, if_neg (fun h2 => h (brS_ok5.mpr ⟨h1, h2⟩))]
    · rw [if_neg h1]
theorem fbS_rows {τ : SS} {n cn s : Nat} (a : SA) (row : Nat → Int32) : fbS τ n cn s (mC s cn ^ n) a = ((rowsF s cn n n 0 row).filter (ok5 τ n cn s)).foldl (stP τ n cn) a := by
  unfold fbS
  rw [lp_foldl, rows_all, ← foldl_filt, ← foldl_map']
  simp only [stS_stP]
/-- what the search has found of set s is what the reference finds -/
def RES (σ : SS) (τ : SS) (n cn s : Nat) : Prop := ∀ (y0 z0 : Int32) (b0 : Nat → Int32), KR τ n cn s (σ 22 0, σ 23 0, σ 24 0, σ 25 0, σ 26 0, σ 27 0) (fbS τ n cn s (mC s cn ^ n) (0, y0, z0, b0))
theorem SD_res {σ σ1 : SS} {n cn s : Nat} (h : SDn σ σ1 n cn) (hn : n ≤ 6) (hc : cn ≤ 4) (hv : vOK n ((vw σ) 29 0)) (ha : aOK cn ((vw σ) 38 0)) (hb0 : 0 ≤ (vw σ) 28 0 17) (hs : s < 2 ^ cn) : RES σ1 (vw σ) n cn s := by
  intro y0 z0 b0
  obtain ⟨σT, -, -, -, -, t0, t1, t2, tc, tt, tz, te⟩ := h
  have hT : NT σT (vw σ) n cn := ⟨fun t ht => ⟨(tt t ht).1, (tt t ht).2.1, (tt t ht).2.2.1, (tt t ht).2.2.2.1, (tt t ht).2.2.2.2.1, (tt t ht).2.2.2.2.2⟩, fun c hcc => ⟨(tc c hcc).1, (tc c hcc).2.1⟩, t2⟩
  have hPI : PI (vw σ) cn 0 (σT 20 0) (σT 19 0) (σT 21 0) 0 0 := by
    refine ⟨fun u hu => absurd hu (Nat.not_lt_zero u), fun c hcc => (tc c hcc).2.2, by decide, fun c hcc => ?_, ?_, fun u hu => absurd hu (Nat.not_lt_zero u)⟩
    · rw [hb_z c hcc]
      constructor
      · intro z; cases z
      · rintro ⟨-, u, hu, -⟩; exact absurd hu (Nat.not_lt_zero u)
    · rw [sumZ_z cn (fun c hcc => by rw [hb_z c (by omega)]; rfl)]
      decide
  have hrows := tv_rows hT hn hc hv ha hs n 0 (σT 20 0) (σT 19 0) (σT 21 0) 0 0 (by omega) hPI
  have hs16 : s < 16 := Nat.lt_of_lt_of_le hs (Nat.le_trans (Nat.pow_le_pow_right (by decide) hc) (by decide))
  have hk := KR_fold (s := s) hT hn hb0 (tvL σT n cn n 0 (σT 19 0) (σT 20 0) (σT 21 0) 0 0) (σT 22 0, σT 23 0, σT 24 0, σT 25 0, σT 26 0, σT 27 0) (0, y0, z0, b0) ⟨tz s hs16, fun z => absurd rfl z⟩ (fun q hq z => by
    have hm : q.2 ∈ ((tvL σT n cn n 0 (σT 19 0) (σT 20 0) (σT 21 0) 0 0).filter (fun q => decide (q.1 = s))).map (fun q => q.2) := List.mem_map.mpr ⟨q, List.mem_filter.mpr ⟨hq, decide_eq_true z⟩, rfl⟩
    rw [hrows, rows_all] at hm
    obtain ⟨r, hr, er⟩ := List.mem_map.mp hm
    obtain ⟨r', -, er'⟩ := List.mem_map.mp (List.mem_filter.mp hr).1
    rw [← er]
    refine ⟨?_, rfl⟩
    show okT n cn r
    rw [← er']
    exact okT_rw (by omega))
  rw [te, fbS_rows _ (σT 20 0)]
  rw [hrows, List.map_map] at hk
  have e : ((fun p : (Nat → Int32) × (Nat → Int32) => p.1) ∘ fF (vw σ) n cn) = id := rfl
  rw [e, List.map_id] at hk
  exact hk
