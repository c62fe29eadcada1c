set_option maxRecDepth 4000 in
theorem sX4_brokenBy {d : Nat} {σ : SS} {K : ax_K} {v : Int32} {n cn : Nat} (hn : n ≤ 6) (h0 : σ 28 0 0 = nI n) (hc : cn ≤ 4) (h9 : σ 28 0 9 = nI cn) (hT : okT n cn (σ 44 0)) (hK : ∀ f, K (some (brS σ (σ 44 0) n cn v)) (rp σ 45 0 f)) : AW (d + 3) mX4_brokenBy 0 (ax_en mX4_brokenBy [.inr (28, 0), .inl v]) [] σ K := by
  show AW _ mX4_brokenBy 0 [_, _, _] _ _ _
  refine aw_aload_n dX4_brokenBy_0 rfl rfl ?_
  refine aw_iload_n dX4_brokenBy_1 rfl rfl ?_
  refine aw_V1 (M' := mX4_hasOther) dX4_brokenBy_2 rfl lkX4_121 gX4_hasOther rfl rfl (Nat.le_of_ble_eq_true rfl) (sX4_hasOther hn h0 ?_)
  show AW _ mX4_brokenBy 5 _ (_ :: _) _ _
  refine aw_if_eqB (tgt := 10) dX4_brokenBy_5 rfl rfl (fun c5 => ?_) (fun c5 => ?_)
  · skip
    refine aw_aload_n dX4_brokenBy_10 rfl rfl ?_
    refine aw_V0 (M' := mX4_hasUnfit) dX4_brokenBy_11 rfl lkX4_124 gX4_hasUnfit rfl rfl (Nat.le_of_ble_eq_true rfl) (sX4_hasUnfit hn h0 hc hT ?_)
    show AW _ mX4_brokenBy 14 _ (_ :: _) _ _
    refine aw_if_eqB (tgt := 19) dX4_brokenBy_14 rfl rfl (fun c14 => ?_) (fun c14 => ?_)
    · skip
      refine aw_aload_n dX4_brokenBy_19 rfl rfl ?_
      refine aw_V0 (M' := mX4_hasClash) dX4_brokenBy_20 rfl lkX4_128 gX4_hasClash rfl rfl (Nat.le_of_ble_eq_true rfl) (sX4_hasClash hn h0 hc hT ?_)
      show AW _ mX4_brokenBy 23 _ (_ :: _) _ _
      refine aw_if_eqB (tgt := 28) dX4_brokenBy_23 rfl rfl (fun c23 => ?_) (fun c23 => ?_)
      · skip
        refine aw_aload_n dX4_brokenBy_28 rfl rfl ?_
        refine aw_iload_n dX4_brokenBy_29 rfl rfl ?_
        refine aw_V1 (M' := mX4_hasTooMuch) dX4_brokenBy_30 rfl lkX4_131 gX4_hasTooMuch rfl rfl (Nat.le_of_ble_eq_true rfl) (sX4_hasTooMuch hn h0 hc h9 ?_)
        show AW _ mX4_brokenBy 33 _ (_ :: _) _ _
        refine aw_if_eqB (tgt := 38) dX4_brokenBy_33 rfl rfl (fun c33 => ?_) (fun c33 => ?_)
        · skip
          refine aw_aload_n dX4_brokenBy_38 rfl rfl ?_
          refine aw_V0 (M' := mX4_fills) dX4_brokenBy_39 rfl lkX4_134 gX4_fills rfl rfl (Nat.le_of_ble_eq_true rfl) (sX4_fills hn h0 hc h9 ?_)
          show AW _ mX4_brokenBy 42 _ _ _ _
          refine aw_aload_n dX4_brokenBy_42 rfl rfl ?_
          refine aw_V0 (M' := mX4_hasEmpty) dX4_brokenBy_43 rfl lkX4_137 gX4_hasEmpty rfl rfl (Nat.le_of_ble_eq_true rfl) (sX4_hasEmpty hn (by rw [rp_nk (by decide)]; exact h0) ?_)
          simp only [rp_nk, rp_at, ne_eq, Nat.reduceEqDiff, not_false_eq_true, eB_fr]
          show AW _ mX4_brokenBy 46 _ (_ :: _) _ _
          refine aw_if_eqB (tgt := 51) dX4_brokenBy_46 rfl rfl (fun c46 => ?_) (fun c46 => ?_)
          · skip
            refine aw_aload_n dX4_brokenBy_51 rfl rfl ?_
            refine aw_V0 (M' := mX4_listOf) dX4_brokenBy_52 rfl lkX4_140 gX4_listOf rfl rfl (Nat.le_of_ble_eq_true rfl) (sX4_listOf hn (by rw [rp_nk (by decide)]; exact h0) ?_)
            have hli : sumI n (fun t => (rp σ 45 0 (fun t => if t < n then fl (σ 29 0) (σ 38 0) (σ 44 0) cn t else σ 45 0 t)) 45 0 t * (rp σ 45 0 (fun t => if t < n then fl (σ 29 0) (σ 38 0) (σ 44 0) cn t else σ 45 0 t)) 31 0 t) = liS σ (σ 44 0) n cn := sumI_congr (fun t ht => by rw [rp_at, rp_nk (by decide), if_pos ht])
            rw [hli]
            show AW _ mX4_brokenBy 55 _ (_ :: _) _ _
            refine aw_istore_n dX4_brokenBy_55 rfl (by decide) ?_
            show AW _ mX4_brokenBy 56 [_, _, _] _ _ _
            refine aw_iload_n dX4_brokenBy_56 rfl rfl ?_
            refine aw_aload_n dX4_brokenBy_57 rfl rfl ?_
            refine aw_getI dX4_brokenBy_58 rfl rfl rfl flX4_55 ?_
            try simp only [rp_nk, ne_eq, Nat.reduceEqDiff, not_false_eq_true]
            refine aw_icmp_gt (tgt := 73) dX4_brokenBy_61 rfl rfl (fun c61 => ?_) (fun c61 => ?_)
            · skip
              try replace c70 := Int32.not_le.mp c70
              refine aw_bipush 6 dX4_brokenBy_73 rfl (by decide) ?_
              refine aw_goto (q := 79) dX4_brokenBy_75 rfl ?_
              refine aw_ret dX4_brokenBy_79 rfl rfl ?_
              exact kk_c (hK _) (by simp [brS, c5, c14, c23, c33, c46, c61]) rfl
            · skip
              refine aw_iload_n dX4_brokenBy_64 rfl rfl ?_
              refine aw_ineg dX4_brokenBy_65 rfl ?_
              refine aw_aload_n dX4_brokenBy_66 rfl rfl ?_
              refine aw_getI dX4_brokenBy_67 rfl rfl rfl flX4_55 ?_
              try simp only [rp_nk, ne_eq, Nat.reduceEqDiff, not_false_eq_true]
              refine aw_icmp_le (tgt := 78) dX4_brokenBy_70 rfl rfl (fun c70 => ?_) (fun c70 => ?_)
              · skip
                replace c61 := c61
                replace c70 := Int32.not_lt.mpr c70
                refine aw_iconst 0 dX4_brokenBy_78 rfl (by decide) ?_
                refine aw_ret dX4_brokenBy_79 rfl rfl ?_
                exact kk_c (hK _) (by simp [brS, c5, c14, c23, c33, c46, c61, c70]) rfl
              · skip
                try replace c70 := Int32.not_le.mp c70
                refine aw_bipush 6 dX4_brokenBy_73 rfl (by decide) ?_
                refine aw_goto (q := 79) dX4_brokenBy_75 rfl ?_
                refine aw_ret dX4_brokenBy_79 rfl rfl ?_
                exact kk_c (hK _) (by simp [brS, c5, c14, c23, c33, c46, c61, c70]) rfl
          · skip
            refine aw_iconst 5 dX4_brokenBy_49 rfl (by decide) ?_
            refine aw_ret dX4_brokenBy_50 rfl rfl ?_
            exact kk_c (hK _) (by simp [brS, c5, c14, c23, c33, c46]) rfl
        · skip
          refine aw_iconst 4 dX4_brokenBy_36 rfl (by decide) ?_
          refine aw_ret dX4_brokenBy_37 rfl rfl ?_
          exact kk_c (hK (σ 45 0)) (by simp [brS, c5, c14, c23, c33]) (rp_self _ _ _)
      · skip
        refine aw_iconst 3 dX4_brokenBy_26 rfl (by decide) ?_
        refine aw_ret dX4_brokenBy_27 rfl rfl ?_
        exact kk_c (hK (σ 45 0)) (by simp [brS, c5, c14, c23]) (rp_self _ _ _)
    · skip
      refine aw_iconst 2 dX4_brokenBy_17 rfl (by decide) ?_
      refine aw_ret dX4_brokenBy_18 rfl rfl ?_
      exact kk_c (hK (σ 45 0)) (by simp [brS, c5, c14]) (rp_self _ _ _)
  · skip
    refine aw_iconst 1 dX4_brokenBy_8 rfl (by decide) ?_
    refine aw_ret dX4_brokenBy_9 rfl rfl ?_
    exact kk_c (hK (σ 45 0)) (by simp [brS, c5]) (rp_self _ _ _)
set_option maxRecDepth 4000 in
theorem sX4_broken {d : Nat} {σ : SS} {K : ax_K} {v : Int32} {n cn : Nat} (hn : n ≤ 6) (h0 : σ 28 0 0 = nI n) (hc : cn ≤ 4) (h9 : σ 28 0 9 = nI cn) (hPl : okT n cn (σ 34 0)) (k1 : ¬ ixn v (2 ^ cn) → K (some (-2)) σ) (k2 : ixn v (2 ^ cn) → ∀ f, K (some (brS σ (σ 34 0) n cn v)) (rp (rp σ 44 0 (fun t => if t < n then σ 34 0 t else σ 44 0 t)) 45 0 f)) : AW (d + 4) mX4_broken 0 (ax_en mX4_broken [.inr (28, 0), .inl v]) [] σ K := by
  show AW _ mX4_broken 0 [_, _] _ _ _
  refine aw_aload_n dX4_broken_0 rfl rfl ?_
  refine aw_iload_n dX4_broken_1 rfl rfl ?_
  refine aw_V1 (M' := mX4_isSetOfCargoes) dX4_broken_2 rfl lkX4_144 gX4_isSetOfCargoes rfl rfl (Nat.le_of_ble_eq_true rfl) (sX4_isSetOfCargoes hc h9 ?_)
  show AW _ mX4_broken 5 _ (_ :: _) _ _
  refine aw_if_neb (tgt := 11) dX4_broken_5 rfl rfl (fun c5 => ?_) (fun c5 => ?_)
  · skip
    refine aw_aload_n dX4_broken_11 rfl rfl ?_
    refine aw_V0 (M' := mX4_triesPlan) dX4_broken_12 rfl lkX4_147 gX4_triesPlan rfl rfl (Nat.le_of_ble_eq_true rfl) (sX4_triesPlan hn h0 ?_)
    show AW _ mX4_broken 15 _ _ _ _
    refine aw_aload_n dX4_broken_15 rfl rfl ?_
    refine aw_iload_n dX4_broken_16 rfl rfl ?_
    refine aw_V1 (M' := mX4_brokenBy) dX4_broken_17 rfl lkX4_150 gX4_brokenBy rfl rfl (Nat.le_of_ble_eq_true rfl) (sX4_brokenBy hn (by rw [rp_nk (by decide)]; exact h0) hc (by rw [rp_nk (by decide)]; exact h9) (fun t ht => by rw [rp_at, if_pos ht]; exact hPl t ht) (fun f => ?_))
    show AW _ mX4_broken 20 _ (_ :: _) _ _
    refine aw_ret dX4_broken_20 rfl rfl ?_
    refine kk_c (k2 c5 f) ?_ rfl
    rw [rp_at, brS_44, brS_congr (tr' := σ 34 0) (fun t ht => if_pos ht)]
  · skip
    refine aw_bipush (-2) dX4_broken_8 rfl (by decide) ?_
    refine aw_ret dX4_broken_10 rfl rfl ?_
    exact k1 c5
set_option maxRecDepth 4000 in
theorem sX4_ofPlan {d : Nat} {σ : SS} {K : ax_K} {w : Int32} {n cn : Nat} (hn : n ≤ 6) (h0 : σ 28 0 0 = nI n) (hc : cn ≤ 4) (h9 : σ 28 0 9 = nI cn) (hPl : okT n cn (σ 34 0)) (hLat : ∀ x, x < 18 → lt9 (σ 33 0 x)) (hLiq : ∀ c, c < 4 → ∃ j, j < 8 ∧ σ 37 0 c = nI j) (k1 : (∀ j, j < 3 → w ≠ nI j) → K (some (-2)) σ) (k2 : w = 0 → ∀ f, K (some (coS σ (σ 34 0) n)) (rp (rp σ 44 0 (fun t => if t < n then σ 34 0 t else σ 44 0 t)) 45 0 f)) (k3 : w = 1 → ∀ f, K (some (usS (σ 34 0) n)) (rp (rp σ 44 0 (fun t => if t < n then σ 34 0 t else σ 44 0 t)) 45 0 f)) (k4 : w = 2 → ∀ f, K (some (liS σ (σ 34 0) n cn + 100000)) (rp (rp σ 44 0 (fun t => if t < n then σ 34 0 t else σ 44 0 t)) 45 0 f)) : AW (d + 2) mX4_ofPlan 0 (ax_en mX4_ofPlan [.inr (28, 0), .inl w]) [] σ K := by
  show AW _ mX4_ofPlan 0 [_, _] _ _ _
  refine aw_iload_n dX4_ofPlan_0 rfl rfl ?_
  refine aw_iconst 0 dX4_ofPlan_1 rfl (by decide) ?_
  refine aw_iconst 2 dX4_ofPlan_2 rfl (by decide) ?_
  refine aw_S3 (M' := mX4_within) dX4_ofPlan_3 rfl lkX4_71 gX4_within (Nat.le_of_ble_eq_true rfl) (sX4_within ?_)
  show AW _ mX4_ofPlan 6 _ (_ :: _) _ _
  refine aw_if_neb (tgt := 12) dX4_ofPlan_6 rfl rfl (fun c6 => ?_) (fun c6 => ?_)
  · skip
    refine aw_aload_n dX4_ofPlan_12 rfl rfl ?_
    refine aw_V0 (M' := mX4_triesPlan) dX4_ofPlan_13 rfl lkX4_147 gX4_triesPlan rfl rfl (Nat.le_of_ble_eq_true rfl) (sX4_triesPlan hn h0 ?_)
    show AW _ mX4_ofPlan 16 _ _ _ _
    refine aw_aload_n dX4_ofPlan_16 rfl rfl ?_
    refine aw_V0 (M' := mX4_fills) dX4_ofPlan_17 rfl lkX4_134 gX4_fills rfl rfl (Nat.le_of_ble_eq_true rfl) (sX4_fills hn (by rw [rp_nk (by decide)]; exact h0) hc (by rw [rp_nk (by decide)]; exact h9) ?_)
    show AW _ mX4_ofPlan 20 _ _ _ _
    refine aw_iload_n dX4_ofPlan_20 rfl rfl ?_
    refine aw_if_ne (tgt := 31) dX4_ofPlan_21 rfl rfl (fun c21 => ?_) (fun c21 => ?_)
    · skip
      refine aw_iload_n dX4_ofPlan_31 rfl rfl ?_
      refine aw_iconst 1 dX4_ofPlan_32 rfl (by decide) ?_
      refine aw_icmp_ne (tgt := 43) dX4_ofPlan_33 rfl rfl (fun c33 => ?_) (fun c33 => ?_)
      · skip
        refine aw_aload_n dX4_ofPlan_43 rfl rfl ?_
        refine aw_V0 (M' := mX4_listOf) dX4_ofPlan_44 rfl lkX4_140 gX4_listOf rfl rfl (Nat.le_of_ble_eq_true rfl) (sX4_listOf hn (by rw [rp_nk (by decide), rp_nk (by decide)]; exact h0) ?_)
        show AW _ mX4_ofPlan 47 _ (_ :: _) _ _
        refine aw_ldc dX4_ofPlan_47 rfl kcX4_159 ?_
        refine aw_iadd dX4_ofPlan_49 rfl ?_
        refine aw_ret dX4_ofPlan_50 rfl rfl ?_
        have hw : w = 1 ∨ w = 2 := by
          obtain ⟨j, hj, rfl⟩ := bd_of 2 (by decide) c6
          match j, hj with
          | 0, _ => exact absurd (by decide) c21
          | 1, _ => exact Or.inl (by decide)
          | 2, _ => exact Or.inr (by decide)
          | j + 3, hj => exact absurd hj (by omega)
        first | exact kk_c (k3 c33 _) (by rw [rp_nk (by decide), rp_at]; exact congrArg some (usS_congr (fun t ht => (if_pos ht).symm))) rfl | exact kk_c (k4 (hw.resolve_left c33) _) (congrArg (fun z => some (z + 100000)) (sumI_congr (fun t ht => by simp only [rp_nk, rp_at, ne_eq, Nat.reduceEqDiff, not_false_eq_true, ht, if_true]; rw [fl_congr (fun u hu => (if_pos (show u < n by omega)).symm)]))) rfl
      · skip
        refine aw_aload_n dX4_ofPlan_36 rfl rfl ?_
        refine aw_V0 (M' := mX4_usedOf) dX4_ofPlan_37 rfl lkX4_156 gX4_usedOf rfl rfl (Nat.le_of_ble_eq_true rfl) (sX4_usedOf hn (by rw [rp_nk (by decide), rp_nk (by decide)]; exact h0) ?_)
        show AW _ mX4_ofPlan 40 _ (_ :: _) _ _
        refine aw_goto (q := 50) dX4_ofPlan_40 rfl ?_
        refine aw_ret dX4_ofPlan_50 rfl rfl ?_
        have hw : w = 1 ∨ w = 2 := by
          obtain ⟨j, hj, rfl⟩ := bd_of 2 (by decide) c6
          match j, hj with
          | 0, _ => exact absurd (by decide) c21
          | 1, _ => exact Or.inl (by decide)
          | 2, _ => exact Or.inr (by decide)
          | j + 3, hj => exact absurd hj (by omega)
        first | exact kk_c (k3 c33 _) (by rw [rp_nk (by decide), rp_at]; exact congrArg some (usS_congr (fun t ht => (if_pos ht).symm))) rfl | exact kk_c (k4 (hw.resolve_left c33) _) (congrArg (fun z => some (z + 100000)) (sumI_congr (fun t ht => by simp only [rp_nk, rp_at, ne_eq, Nat.reduceEqDiff, not_false_eq_true, ht, if_true]; rw [fl_congr (fun u hu => (if_pos (show u < n by omega)).symm)]))) rfl
    · skip
      refine aw_aload_n dX4_ofPlan_24 rfl rfl ?_
      refine aw_V0 (M' := mX4_costOf) dX4_ofPlan_25 rfl lkX4_153 gX4_costOf rfl rfl (Nat.le_of_ble_eq_true rfl) (sX4_costOf hn (by rw [rp_nk (by decide), rp_nk (by decide)]; exact h0) hc (fun t ht => by rw [rp_nk (by decide), rp_at, if_pos ht]; exact hPl t ht) hLat hLiq ?_)
      show AW _ mX4_ofPlan 28 _ (_ :: _) _ _
      refine aw_goto (q := 50) dX4_ofPlan_28 rfl ?_
      refine aw_ret dX4_ofPlan_50 rfl rfl ?_
      exact kk_c (k2 c21 _) (by rw [rp_nk (by decide), rp_at]; exact congrArg some (coS_congr (fun t ht => (if_pos ht).symm))) rfl
  · skip
    refine aw_bipush (-2) dX4_ofPlan_9 rfl (by decide) ?_
    refine aw_ret dX4_ofPlan_11 rfl rfl ?_
    exact k1 (fun j hj z => c6 (by subst z; match j, hj with
      | 0, _ => decide
      | 1, _ => decide
      | 2, _ => decide
      | j + 3, hj => exact absurd hj (by omega)))
set_option maxRecDepth 4000 in
theorem sX4_triesBest {d : Nat} {σ : SS} {K : ax_K} {n cn : Nat} (hn : n ≤ 6) (h0 : σ 28 0 0 = nI n) (hc : cn ≤ 4) (h9 : σ 28 0 9 = nI cn) (hK : K none (rp (rp σ 44 0 (fun t => if t < n then σ 46 0 t else σ 44 0 t)) 45 0 (fun t => if t < n then fl (σ 29 0) (σ 38 0) (σ 46 0) cn t else σ 45 0 t))) : AW (d + 1) mX4_triesBest 0 (ax_en mX4_triesBest [.inr (28, 0)]) [] σ K := by
  show AW _ mX4_triesBest 0 [_, _] _ _ _
  refine aw_iconst 0 dX4_triesBest_0 rfl (by decide) ?_
  refine aw_istore_n dX4_triesBest_1 rfl (by decide) ?_
  show AW _ mX4_triesBest 2 [_, _] _ _ _
  refine AW.conv (ax_loop (P := fun i => AW (d + 1) mX4_triesBest 2 [some (.inr (28, 0)), some (.inl (nI i))] [] (rp σ 44 0 (fun t => if t < i then σ 46 0 t else σ 44 0 t)) K) n ?_ ?_ 0 (Nat.zero_le _)) (by first | (simp only [nI_0]; done) | (simp only [nI_0]; rfl)) rfl (by rw [up_0, rp_self])
  · try dsimp only
    refine aw_iload_n dX4_triesBest_2 rfl rfl ?_
    refine aw_aload_n dX4_triesBest_3 rfl rfl ?_
    refine aw_getI dX4_triesBest_4 rfl rfl rfl flX4_75 ?_
    refine aw_icmp_ge (tgt := 28) dX4_triesBest_7 rfl rfl (fun _ => ?_) (fun z => absurd (by rw [rp_nk (by decide), h0]; exact Int32.le_refl _) z)
    refine aw_aload_n dX4_triesBest_28 rfl rfl ?_
    refine aw_V0 (M' := mX4_fills) dX4_triesBest_29 rfl lkX4_134 gX4_fills rfl rfl (Nat.le_of_ble_eq_true rfl) (sX4_fills hn (by rw [rp_nk (by decide)]; exact h0) hc (by rw [rp_nk (by decide)]; exact h9) ?_)
    show AW _ mX4_triesBest 32 _ _ _ _
    refine aw_vret dX4_triesBest_32 rfl ?_
    refine kk_c hK rfl (congrArg (rp _ 45 0) (funext fun t => ?_))
    by_cases ht : t < n
    · simp only [rp_nk, rp_at, ne_eq, Nat.reduceEqDiff, not_false_eq_true, ht, if_true]
      rw [fl_congr (fun u hu => (if_pos (show u < n by omega)).symm)]
    · simp only [rp_nk, ne_eq, Nat.reduceEqDiff, not_false_eq_true, ht, if_false]
  · intro i hi_2 nx_2
    try dsimp only at nx_2 ⊢
    have hci : (nI i).toNatClampNeg = i := nI_clamp (by omega)
    refine aw_iload_n dX4_triesBest_2 rfl rfl ?_
    refine aw_aload_n dX4_triesBest_3 rfl rfl ?_
    refine aw_getI dX4_triesBest_4 rfl rfl rfl flX4_75 ?_
    refine aw_icmp_ge (tgt := 28) dX4_triesBest_7 rfl rfl (fun z => absurd z (by rw [rp_nk (by decide), h0]; exact nI_ge hi_2 (by omega))) (fun _ => ?_)
    refine aw_aload_n dX4_triesBest_10 rfl rfl ?_
    refine aw_getR dX4_triesBest_11 rfl rfl rfl (by decide) flX4_59 ?_
    refine aw_iload_n dX4_triesBest_14 rfl rfl ?_
    refine aw_aload_n dX4_triesBest_15 rfl rfl ?_
    refine aw_getR dX4_triesBest_16 rfl rfl rfl (by decide) flX4_65 ?_
    refine aw_iload_n dX4_triesBest_19 rfl rfl ?_
    refine aw_iald dX4_triesBest_20 rfl rfl (by first | exact vp_in_nI (by omega) (by omega) | decide) ?_
    refine aw_iast dX4_triesBest_21 rfl rfl (by first | exact vp_in_nI (by omega) (by omega) | decide) ?_
    refine aw_iinc dX4_triesBest_22 rfl rfl (ii_1 _) (by decide) ?_
    show AW _ mX4_triesBest 25 [_, _] _ _ _
    refine aw_goto (q := 2) dX4_triesBest_25 rfl ?_
    refine AW.conv nx_2 (by first | (simp only [nI_succ]; done) | (simp only [nI_succ]; rfl)) rfl ?_
    simp only [rp_nk, rp_at, rp_rp, pk_us, ne_eq, Nat.reduceEqDiff, not_false_eq_true, hci, Nat.lt_irrefl, if_false]
    rw [up_lt]
