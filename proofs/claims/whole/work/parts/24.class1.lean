set_option maxRecDepth 4000 in
theorem sX3_within {d : Nat} {σ : SS} {K : ax_K} {v a b : Int32}  (hK : K (some (bI (a ≤ v ∧ v ≤ b))) σ) : AW d mX3_within 0 (ax_en mX3_within [.inl v, .inl a, .inl b]) [] σ K := by
  show AW _ mX3_within 0 [_, _, _] _ _ _
  refine aw_iload_n dX3_within_0 rfl rfl ?_
  refine aw_iload_n dX3_within_1 rfl rfl ?_
  refine aw_icmp_lt (tgt := 14) dX3_within_2 rfl rfl (fun c2 => ?_) (fun c2 => ?_)
  · skip
    refine aw_iconst 0 dX3_within_14 rfl (by decide) ?_
    refine aw_ret dX3_within_15 rfl (by decide) ?_
    first | exact kb_t hK ⟨Int32.not_lt.mp (by assumption), Int32.not_lt.mp (by assumption)⟩ | exact kb_f hK (fun z => absurd (by assumption) (Int32.not_lt.mpr z.1)) | exact kb_f hK (fun z => absurd (by assumption) (Int32.not_lt.mpr z.2))
  · skip
    refine aw_iload_n dX3_within_5 rfl rfl ?_
    refine aw_iload_n dX3_within_6 rfl rfl ?_
    refine aw_icmp_gt (tgt := 14) dX3_within_7 rfl rfl (fun c7 => ?_) (fun c7 => ?_)
    · skip
      refine aw_iconst 0 dX3_within_14 rfl (by decide) ?_
      refine aw_ret dX3_within_15 rfl (by decide) ?_
      first | exact kb_t hK ⟨Int32.not_lt.mp (by assumption), Int32.not_lt.mp (by assumption)⟩ | exact kb_f hK (fun z => absurd (by assumption) (Int32.not_lt.mpr z.1)) | exact kb_f hK (fun z => absurd (by assumption) (Int32.not_lt.mpr z.2))
    · skip
      refine aw_iconst 1 dX3_within_10 rfl (by decide) ?_
      refine aw_goto (q := 15) dX3_within_11 rfl ?_
      refine aw_ret dX3_within_15 rfl (by decide) ?_
      first | exact kb_t hK ⟨Int32.not_lt.mp (by assumption), Int32.not_lt.mp (by assumption)⟩ | exact kb_f hK (fun z => absurd (by assumption) (Int32.not_lt.mpr z.1)) | exact kb_f hK (fun z => absurd (by assumption) (Int32.not_lt.mpr z.2))
set_option maxRecDepth 4000 in
theorem sX3_isLiquid {d : Nat} {σ : SS} {K : ax_K} {v : Int32}  (hK : K (some (bI (0 ≤ v ∧ v ≤ 7))) σ) : AW (d + 1) mX3_isLiquid 0 (ax_en mX3_isLiquid [.inl v]) [] σ K := by
  show AW _ mX3_isLiquid 0 [_] _ _ _
  refine aw_iload_n dX3_isLiquid_0 rfl rfl ?_
  refine aw_iconst 0 dX3_isLiquid_1 rfl (by decide) ?_
  refine aw_bipush 7 dX3_isLiquid_2 rfl (by decide) ?_
  refine aw_S3 (M' := mX3_within) dX3_isLiquid_4 rfl lkX3_60 gX3_within (Nat.le_of_ble_eq_true rfl) (sX3_within ?_)
  show AW _ mX3_isLiquid 7 _ (_ :: _) _ _
  refine aw_ret dX3_isLiquid_7 rfl (by unfold bI; split <;> decide) ?_
  exact hK
set_option maxRecDepth 4000 in
theorem sX3_isLiquidSet {d : Nat} {σ : SS} {K : ax_K} {v : Int32}  (hK : K (some (bI (0 ≤ v ∧ v ≤ 255))) σ) : AW (d + 1) mX3_isLiquidSet 0 (ax_en mX3_isLiquidSet [.inl v]) [] σ K := by
  show AW _ mX3_isLiquidSet 0 [_] _ _ _
  refine aw_iload_n dX3_isLiquidSet_0 rfl rfl ?_
  refine aw_iconst 0 dX3_isLiquidSet_1 rfl (by decide) ?_
  refine aw_sipush 255 dX3_isLiquidSet_2 rfl (by decide) ?_
  refine aw_S3 (M' := mX3_within) dX3_isLiquidSet_5 rfl lkX3_60 gX3_within (Nat.le_of_ble_eq_true rfl) (sX3_within ?_)
  show AW _ mX3_isLiquidSet 8 _ (_ :: _) _ _
  refine aw_ret dX3_isLiquidSet_8 rfl (by unfold bI; split <;> decide) ?_
  exact hK
set_option maxRecDepth 4000 in
theorem sX3_isAmount {d : Nat} {σ : SS} {K : ax_K} {v : Int32}  (hK : K (some (bI (1 ≤ v ∧ v ≤ 400))) σ) : AW (d + 1) mX3_isAmount 0 (ax_en mX3_isAmount [.inl v]) [] σ K := by
  show AW _ mX3_isAmount 0 [_] _ _ _
  refine aw_iload_n dX3_isAmount_0 rfl rfl ?_
  refine aw_iconst 1 dX3_isAmount_1 rfl (by decide) ?_
  refine aw_sipush 400 dX3_isAmount_2 rfl (by decide) ?_
  refine aw_S3 (M' := mX3_within) dX3_isAmount_5 rfl lkX3_60 gX3_within (Nat.le_of_ble_eq_true rfl) (sX3_within ?_)
  show AW _ mX3_isAmount 8 _ (_ :: _) _ _
  refine aw_ret dX3_isAmount_8 rfl (by unfold bI; split <;> decide) ?_
  exact hK
set_option maxRecDepth 4000 in
theorem sX3_has {d : Nat} {σ : SS} {K : ax_K} {v k : Int32}  (hK : K (some (bB (hc v k))) σ) : AW d mX3_has 0 (ax_en mX3_has [.inl v, .inl k]) [] σ K := by
  show AW _ mX3_has 0 [_, _] _ _ _
  refine aw_iload_n dX3_has_0 rfl rfl ?_
  refine aw_if_lt (tgt := 16) dX3_has_1 rfl rfl (fun c1 => ?_) (fun c1 => ?_)
  · skip
    refine aw_iconst 0 dX3_has_16 rfl (by decide) ?_
    refine aw_ret dX3_has_17 rfl (by decide) ?_
    exact kk_c hK (by unfold hc; rw [decide_eq_false (Int32.not_le.mpr c1)]; rfl) rfl
  · skip
    refine aw_iload_n dX3_has_4 rfl rfl ?_
    refine aw_iload_n dX3_has_5 rfl rfl ?_
    refine aw_ishr dX3_has_6 rfl ?_
    refine aw_iconst 1 dX3_has_7 rfl (by decide) ?_
    refine aw_iand dX3_has_8 rfl ?_
    refine aw_if_eq (tgt := 16) dX3_has_9 rfl rfl (fun c9 => ?_) (fun c9 => ?_)
    · skip
      refine aw_iconst 0 dX3_has_16 rfl (by decide) ?_
      refine aw_ret dX3_has_17 rfl (by decide) ?_
      exact kk_c hK (by unfold hc; rw [decide_eq_true (Int32.not_lt.mp c1), Bool.true_and, hb, decide_eq_false (fun z => by rw [c9] at z; exact absurd z (by decide))]; rfl) rfl
    · skip
      refine aw_iconst 1 dX3_has_12 rfl (by decide) ?_
      refine aw_goto (q := 17) dX3_has_13 rfl ?_
      refine aw_ret dX3_has_17 rfl (by decide) ?_
      exact kk_c hK (by unfold hc; rw [decide_eq_true (Int32.not_lt.mp c1), Bool.true_and, hb, decide_eq_true ((and1 _).resolve_left c9)]; rfl) rfl
set_option maxRecDepth 4000 in
theorem sX3_isTank {d : Nat} {σ : SS} {K : ax_K} {t : Int32} {n : Nat} (hn : n ≤ 6) (h0 : σ 0 0 7 = nI n) (hK : K (some (bI (ixn t n))) σ) : AW d mX3_isTank 0 (ax_en mX3_isTank [.inr (0, 0), .inl t]) [] σ K := by
  show AW _ mX3_isTank 0 [_, _] _ _ _
  refine aw_iload_n dX3_isTank_0 rfl rfl ?_
  refine aw_if_lt (tgt := 16) dX3_isTank_1 rfl rfl (fun c1 => ?_) (fun c1 => ?_)
  · skip
    refine aw_iconst 0 dX3_isTank_16 rfl (by decide) ?_
    refine aw_ret dX3_isTank_17 rfl (by decide) ?_
    exact kb_f hK (fun z => absurd c1 (Int32.not_lt.mpr ((ixn_lt (by omega)).mp z).1))
  · skip
    refine aw_iload_n dX3_isTank_4 rfl rfl ?_
    refine aw_aload_n dX3_isTank_5 rfl rfl ?_
    refine aw_getI dX3_isTank_6 rfl rfl rfl flX3_41 ?_
    refine aw_icmp_ge (tgt := 16) dX3_isTank_9 rfl rfl (fun c9 => ?_) (fun c9 => ?_)
    · skip
      refine aw_iconst 0 dX3_isTank_16 rfl (by decide) ?_
      refine aw_ret dX3_isTank_17 rfl (by decide) ?_
      rw [h0] at c9
      exact kb_f hK (fun z => absurd c9 (Int32.not_le.mpr ((ixn_lt (by omega)).mp z).2))
    · skip
      refine aw_iconst 1 dX3_isTank_12 rfl (by decide) ?_
      refine aw_goto (q := 17) dX3_isTank_13 rfl ?_
      refine aw_ret dX3_isTank_17 rfl (by decide) ?_
      rw [h0] at c9
      exact kb_t hK ((ixn_lt (by omega)).mpr ⟨Int32.not_lt.mp c1, Int32.not_le.mp c9⟩)
set_option maxRecDepth 4000 in
theorem sX3_isCargo {d : Nat} {σ : SS} {K : ax_K} {t : Int32} {cn : Nat} (hc : cn ≤ 4) (h9 : σ 0 0 8 = nI cn) (hK : K (some (bI (ixn t cn))) σ) : AW d mX3_isCargo 0 (ax_en mX3_isCargo [.inr (0, 0), .inl t]) [] σ K := by
  show AW _ mX3_isCargo 0 [_, _] _ _ _
  refine aw_iload_n dX3_isCargo_0 rfl rfl ?_
  refine aw_if_lt (tgt := 16) dX3_isCargo_1 rfl rfl (fun c1 => ?_) (fun c1 => ?_)
  · skip
    refine aw_iconst 0 dX3_isCargo_16 rfl (by decide) ?_
    refine aw_ret dX3_isCargo_17 rfl (by decide) ?_
    exact kb_f hK (fun z => absurd c1 (Int32.not_lt.mpr ((ixn_lt (by omega)).mp z).1))
  · skip
    refine aw_iload_n dX3_isCargo_4 rfl rfl ?_
    refine aw_aload_n dX3_isCargo_5 rfl rfl ?_
    refine aw_getI dX3_isCargo_6 rfl rfl rfl flX3_45 ?_
    refine aw_icmp_ge (tgt := 16) dX3_isCargo_9 rfl rfl (fun c9 => ?_) (fun c9 => ?_)
    · skip
      refine aw_iconst 0 dX3_isCargo_16 rfl (by decide) ?_
      refine aw_ret dX3_isCargo_17 rfl (by decide) ?_
      rw [h9] at c9
      exact kb_f hK (fun z => absurd c9 (Int32.not_le.mpr ((ixn_lt (by omega)).mp z).2))
    · skip
      refine aw_iconst 1 dX3_isCargo_12 rfl (by decide) ?_
      refine aw_goto (q := 17) dX3_isCargo_13 rfl ?_
      refine aw_ret dX3_isCargo_17 rfl (by decide) ?_
      rw [h9] at c9
      exact kb_t hK ((ixn_lt (by omega)).mpr ⟨Int32.not_lt.mp c1, Int32.not_le.mp c9⟩)
set_option maxRecDepth 4000 in
theorem sX3_isCargoSet {d : Nat} {σ : SS} {K : ax_K} {t : Int32} {cn : Nat} (hc : cn ≤ 4) (h9 : σ 0 0 8 = nI cn) (hK : K (some (bI (ixn t (2 ^ cn)))) σ) : AW d mX3_isCargoSet 0 (ax_en mX3_isCargoSet [.inr (0, 0), .inl t]) [] σ K := by
  show AW _ mX3_isCargoSet 0 [_, _] _ _ _
  refine aw_iload_n dX3_isCargoSet_0 rfl rfl ?_
  refine aw_if_lt (tgt := 18) dX3_isCargoSet_1 rfl rfl (fun c1 => ?_) (fun c1 => ?_)
  · skip
    refine aw_iconst 0 dX3_isCargoSet_18 rfl (by decide) ?_
    refine aw_ret dX3_isCargoSet_19 rfl (by decide) ?_
    exact kb_f hK (fun z => absurd c1 (Int32.not_lt.mpr ((ixn_lt (two_lt hc)).mp z).1))
  · skip
    refine aw_iload_n dX3_isCargoSet_4 rfl rfl ?_
    refine aw_iconst 1 dX3_isCargoSet_5 rfl (by decide) ?_
    refine aw_aload_n dX3_isCargoSet_6 rfl rfl ?_
    refine aw_getI dX3_isCargoSet_7 rfl rfl rfl flX3_45 ?_
    refine aw_ishl dX3_isCargoSet_10 rfl ?_
    rw [h9, shl1 hc]
    refine aw_icmp_ge (tgt := 18) dX3_isCargoSet_11 rfl rfl (fun c11 => ?_) (fun c11 => ?_)
    · skip
      refine aw_iconst 0 dX3_isCargoSet_18 rfl (by decide) ?_
      refine aw_ret dX3_isCargoSet_19 rfl (by decide) ?_
      exact kb_f hK (fun z => absurd c11 (Int32.not_le.mpr ((ixn_lt (two_lt hc)).mp z).2))
    · skip
      refine aw_iconst 1 dX3_isCargoSet_14 rfl (by decide) ?_
      refine aw_goto (q := 19) dX3_isCargoSet_15 rfl ?_
      refine aw_ret dX3_isCargoSet_19 rfl (by decide) ?_
      exact kb_t hK ((ixn_lt (two_lt hc)).mpr ⟨Int32.not_lt.mp c1, Int32.not_le.mp c11⟩)
set_option maxRecDepth 4000 in
theorem sX3_areTwoTanks {d : Nat} {σ : SS} {K : ax_K} {i j : Int32} {n : Nat} (hn : n ≤ 6) (h0 : σ 0 0 7 = nI n) (hK : K (some (bI (ixn i n ∧ ixn j n ∧ i ≠ j))) σ) : AW (d + 1) mX3_areTwoTanks 0 (ax_en mX3_areTwoTanks [.inr (0, 0), .inl i, .inl j]) [] σ K := by
  show AW _ mX3_areTwoTanks 0 [_, _, _] _ _ _
  refine aw_aload_n dX3_areTwoTanks_0 rfl rfl ?_
  refine aw_iload_n dX3_areTwoTanks_1 rfl rfl ?_
  refine aw_V1 (M' := mX3_isTank) dX3_areTwoTanks_2 rfl lkX3_83 gX3_isTank rfl rfl (Nat.le_of_ble_eq_true rfl) (sX3_isTank hn h0 ?_)
  show AW _ mX3_areTwoTanks 5 _ (_ :: _) _ _
  refine aw_if_eqb (tgt := 25) dX3_areTwoTanks_5 rfl rfl (fun c5 => ?_) (fun c5 => ?_)
  · skip
    refine aw_iconst 0 dX3_areTwoTanks_25 rfl (by decide) ?_
    refine aw_ret dX3_areTwoTanks_26 rfl (by decide) ?_
    first | exact kb_t hK ⟨by assumption, by assumption, by assumption⟩ | exact kb_f hK (fun z => by simp_all)
  · skip
    refine aw_aload_n dX3_areTwoTanks_8 rfl rfl ?_
    refine aw_iload_n dX3_areTwoTanks_9 rfl rfl ?_
    refine aw_V1 (M' := mX3_isTank) dX3_areTwoTanks_10 rfl lkX3_83 gX3_isTank rfl rfl (Nat.le_of_ble_eq_true rfl) (sX3_isTank hn h0 ?_)
    show AW _ mX3_areTwoTanks 13 _ (_ :: _) _ _
    refine aw_if_eqb (tgt := 25) dX3_areTwoTanks_13 rfl rfl (fun c13 => ?_) (fun c13 => ?_)
    · skip
      refine aw_iconst 0 dX3_areTwoTanks_25 rfl (by decide) ?_
      refine aw_ret dX3_areTwoTanks_26 rfl (by decide) ?_
      first | exact kb_t hK ⟨by assumption, by assumption, by assumption⟩ | exact kb_f hK (fun z => by simp_all)
    · skip
      refine aw_iload_n dX3_areTwoTanks_16 rfl rfl ?_
      refine aw_iload_n dX3_areTwoTanks_17 rfl rfl ?_
      refine aw_icmp_eq (tgt := 25) dX3_areTwoTanks_18 rfl rfl (fun c18 => ?_) (fun c18 => ?_)
      · skip
        refine aw_iconst 0 dX3_areTwoTanks_25 rfl (by decide) ?_
        refine aw_ret dX3_areTwoTanks_26 rfl (by decide) ?_
        first | exact kb_t hK ⟨by assumption, by assumption, by assumption⟩ | exact kb_f hK (fun z => by simp_all)
      · skip
        refine aw_iconst 1 dX3_areTwoTanks_21 rfl (by decide) ?_
        refine aw_goto (q := 26) dX3_areTwoTanks_22 rfl ?_
        refine aw_ret dX3_areTwoTanks_26 rfl (by decide) ?_
        first | exact kb_t hK ⟨by assumption, by assumption, by assumption⟩ | exact kb_f hK (fun z => by simp_all)
set_option maxRecDepth 4000 in
theorem sX3_clash {d : Nat} {σ : SS} {K : ax_K} {a b : Nat} (ha : a < 4) (hb4 : b < 4) (hLiq : ∀ c, c < 4 → ∃ j, j < 8 ∧ σ 10 c 0 = nI j) (hK : K (some (bB (clB (vw σ) a b))) σ) : AW (d + 1) mX3_clash 0 (ax_en mX3_clash [.inr (10, a), .inr (10, b)]) [] σ K := by
  obtain ⟨x, hx, ex⟩ := hLiq a ha
  obtain ⟨y, hy, ey⟩ := hLiq b hb4
  have e1 : hc (σ 10 b 5) (σ 10 a 0) = hb (σ 10 b 5) (σ 10 a 0) := by rw [ex]; exact hc_nI _ (by omega)
  have e2 : hc (σ 10 a 5) (σ 10 b 0) = hb (σ 10 a 5) (σ 10 b 0) := by rw [ey]; exact hc_nI _ (by omega)
  have ek : clB (vw σ) a b = (hb (σ 10 a 5) (σ 10 b 0) || hb (σ 10 b 5) (σ 10 a 0)) := rfl
  show AW _ mX3_clash 0 [_, _] _ _ _
  refine aw_aload_n dX3_clash_0 rfl rfl ?_
  refine aw_getI dX3_clash_1 rfl rfl rfl flX3_114 ?_
  refine aw_aload_n dX3_clash_4 rfl rfl ?_
  refine aw_getI dX3_clash_5 rfl rfl rfl flX3_99 ?_
  refine aw_S2 (M' := mX3_has) dX3_clash_8 rfl lkX3_80 gX3_has (Nat.le_of_ble_eq_true rfl) (sX3_has ?_)
  rw [e1]
  show AW _ mX3_clash 11 _ (_ :: _) _ _
  refine aw_if_neB (tgt := 28) dX3_clash_11 rfl rfl (fun c11 => ?_) (fun c11 => ?_)
  · skip
    refine aw_iconst 1 dX3_clash_28 rfl (by decide) ?_
    refine aw_goto (q := 33) dX3_clash_29 rfl ?_
    refine aw_ret dX3_clash_33 rfl (by decide) ?_
    exact kk_c hK (by rw [ek]; simp [bB, c11]) rfl
  · skip
    refine aw_aload_n dX3_clash_14 rfl rfl ?_
    refine aw_getI dX3_clash_15 rfl rfl rfl flX3_114 ?_
    refine aw_aload_n dX3_clash_18 rfl rfl ?_
    refine aw_getI dX3_clash_19 rfl rfl rfl flX3_99 ?_
    refine aw_S2 (M' := mX3_has) dX3_clash_22 rfl lkX3_80 gX3_has (Nat.le_of_ble_eq_true rfl) (sX3_has ?_)
    rw [e2]
    show AW _ mX3_clash 25 _ (_ :: _) _ _
    refine aw_if_eqB (tgt := 32) dX3_clash_25 rfl rfl (fun c25 => ?_) (fun c25 => ?_)
    · skip
      refine aw_iconst 0 dX3_clash_32 rfl (by decide) ?_
      refine aw_ret dX3_clash_33 rfl (by decide) ?_
      exact kk_c hK (by rw [ek]; simp [bB, c11, c25]) rfl
    · skip
      refine aw_iconst 1 dX3_clash_28 rfl (by decide) ?_
      refine aw_goto (q := 33) dX3_clash_29 rfl ?_
      refine aw_ret dX3_clash_33 rfl (by decide) ?_
      exact kk_c hK (by rw [ek]; simp [bB, c11, c25]) rfl
set_option maxRecDepth 4000 in
theorem sX3_faults {d : Nat} {σ : SS} {K : ax_K} {t c : Nat} (ht : t < 6) (hcoat : 0 ≤ σ 8 t 1) (hLat : ∀ t k, t < 6 → k < 3 → lt9 (σ 9 t k)) (hK : K (some (whyS (vw σ) t c)) σ) : AW (d + 1) mX3_faults 0 (ax_en mX3_faults [.inr (0, 0), .inr (8, t), .inr (10, c)]) [] σ K := by
  have hw : whyC (σ 10 c 2) (σ 10 c 3) (σ 10 c 4) (σ 8 t 1) (σ 9 t) 3 = whyS (vw σ) t c := by
    rw [why_eq hcoat (hLat t 0 ht (by decide)) (hLat t 1 ht (by decide)) (hLat t 2 ht (by decide))]
    unfold whyS whyM whyL
    exact lp_congr 3 (fun k hk x => by simp only [vw33 σ t hk]; rfl)
  show AW _ mX3_faults 0 [_, _, _, _, _] _ _ _
  refine aw_aload_n dX3_faults_0 rfl rfl ?_
  refine aw_getI dX3_faults_1 rfl rfl rfl flX3_105 ?_
  refine aw_aload_n dX3_faults_4 rfl rfl ?_
  refine aw_getI dX3_faults_5 rfl rfl rfl flX3_67 ?_
  refine aw_S2 (M' := mX3_has) dX3_faults_8 rfl lkX3_80 gX3_has (Nat.le_of_ble_eq_true rfl) (sX3_has ?_)
  show AW _ mX3_faults 11 _ (_ :: _) _ _
  refine aw_if_eqB (tgt := 18) dX3_faults_11 rfl rfl (fun c11 => ?_) (fun c11 => ?_)
  · skip
    refine aw_iconst 1 dX3_faults_18 rfl (by decide) ?_
    refine aw_istore_n dX3_faults_19 rfl (by decide) ?_
    show AW _ mX3_faults 20 [_, _, _, _, _] _ _ _
    refine aw_aload_n dX3_faults_20 rfl rfl ?_
    refine aw_getI dX3_faults_21 rfl rfl rfl flX3_108 ?_
    refine aw_aload_n dX3_faults_24 rfl rfl ?_
    refine aw_getR dX3_faults_25 rfl rfl rfl (by decide) flX3_90 ?_
    refine aw_iconst 0 dX3_faults_28 rfl (by decide) ?_
    refine aw_iald dX3_faults_29 rfl rfl (by first | exact vp_in_nI (by omega) (by omega) | exact vp_in_iff.mpr (by decide)) ?_
    try simp only [hci]
    try simp only [ci0]
    refine aw_S2 (M' := mX3_has) dX3_faults_30 rfl lkX3_80 gX3_has (Nat.le_of_ble_eq_true rfl) (sX3_has ?_)
    show AW _ mX3_faults 33 _ (_ :: _) _ _
    refine aw_if_eqB (tgt := 40) dX3_faults_33 rfl rfl (fun c33 => ?_) (fun c33 => ?_)
    · skip
      refine aw_iconst 0 dX3_faults_40 rfl (by decide) ?_
      refine aw_istore dX3_faults_41 rfl (by decide) ?_
      show AW _ mX3_faults 43 [_, _, _, _, _] _ _ _
      refine AW.conv (ax_loop (P := fun i => AW (d + 1) mX3_faults 43 [some (.inr (0, 0)), some (.inr (8, t)), some (.inr (10, c)), some (.inl (whyC (σ 10 c 2) (σ 10 c 3) (σ 10 c 4) (σ 8 t 1) (σ 9 t) i)), some (.inl (nI i))] [] σ K) 3 ?_ ?_ 0 (Nat.zero_le _)) (by rw [nI_0, whyC, lp_0]; simp [c11, c33]) rfl rfl
      · try dsimp only
        refine aw_iload dX3_faults_43 rfl rfl ?_
        refine aw_iconst 3 dX3_faults_45 rfl (by decide) ?_
        refine aw_icmp_ge (tgt := 76) dX3_faults_46 rfl rfl (fun _ => ?_) (fun z => absurd (by decide) z)
        refine aw_iload_n dX3_faults_76 rfl rfl ?_
        refine aw_ret dX3_faults_77 rfl rfl ?_
        exact kk_c hK (by rw [hw]) rfl
      · intro i hi_43 nx_43
        try dsimp only at nx_43 ⊢
        have hci : (nI i).toNatClampNeg = i := nI_clamp (by omega)
        refine aw_iload dX3_faults_43 rfl rfl ?_
        refine aw_iconst 3 dX3_faults_45 rfl (by decide) ?_
        refine aw_icmp_ge (tgt := 76) dX3_faults_46 rfl rfl (fun z => absurd z (nI_ge (b := 3) hi_43 (by omega))) (fun _ => ?_)
        refine aw_aload_n dX3_faults_49 rfl rfl ?_
        refine aw_getI dX3_faults_50 rfl rfl rfl flX3_111 ?_
        refine aw_aload_n dX3_faults_53 rfl rfl ?_
        refine aw_getR dX3_faults_54 rfl rfl rfl (by decide) flX3_90 ?_
        refine aw_iload dX3_faults_57 rfl rfl ?_
        refine aw_iald dX3_faults_59 rfl rfl (by first | exact vp_in_nI (by omega) (by omega) | exact vp_in_iff.mpr (by decide)) ?_
        try simp only [hci]
        try simp only [ci0]
        refine aw_S2 (M' := mX3_has) dX3_faults_60 rfl lkX3_80 gX3_has (Nat.le_of_ble_eq_true rfl) (sX3_has ?_)
        show AW _ mX3_faults 63 _ (_ :: _) _ _
        refine aw_if_eqB (tgt := 70) dX3_faults_63 rfl rfl (fun c63 => ?_) (fun c63 => ?_)
        · skip
          refine aw_iinc dX3_faults_70 rfl rfl (ii_1 _) (by decide) ?_
          show AW _ mX3_faults 73 [_, _, _, _, _] _ _ _
          refine aw_goto (q := 43) dX3_faults_73 rfl ?_
          refine AW.conv nx_43 ?_ rfl rfl
          simp only [nI_succ, whyC_s]
          simp [c63]
        · skip
          refine aw_iload_n dX3_faults_66 rfl rfl ?_
          refine aw_iconst 4 dX3_faults_67 rfl (by decide) ?_
          refine aw_ior dX3_faults_68 rfl ?_
          refine aw_istore_n dX3_faults_69 rfl (by decide) ?_
          show AW _ mX3_faults 70 [_, _, _, _, _] _ _ _
          refine aw_iinc dX3_faults_70 rfl rfl (ii_1 _) (by decide) ?_
          show AW _ mX3_faults 73 [_, _, _, _, _] _ _ _
          refine aw_goto (q := 43) dX3_faults_73 rfl ?_
          refine AW.conv nx_43 ?_ rfl rfl
          simp only [nI_succ, whyC_s]
          simp [c63]
    · skip
      refine aw_iload_n dX3_faults_36 rfl rfl ?_
      refine aw_iconst 2 dX3_faults_37 rfl (by decide) ?_
      refine aw_ior dX3_faults_38 rfl ?_
      refine aw_istore_n dX3_faults_39 rfl (by decide) ?_
      show AW _ mX3_faults 40 [_, _, _, _, _] _ _ _
      refine aw_iconst 0 dX3_faults_40 rfl (by decide) ?_
      refine aw_istore dX3_faults_41 rfl (by decide) ?_
      show AW _ mX3_faults 43 [_, _, _, _, _] _ _ _
      refine AW.conv (ax_loop (P := fun i => AW (d + 1) mX3_faults 43 [some (.inr (0, 0)), some (.inr (8, t)), some (.inr (10, c)), some (.inl (whyC (σ 10 c 2) (σ 10 c 3) (σ 10 c 4) (σ 8 t 1) (σ 9 t) i)), some (.inl (nI i))] [] σ K) 3 ?_ ?_ 0 (Nat.zero_le _)) (by rw [nI_0, whyC, lp_0]; simp [c11, c33]) rfl rfl
      · try dsimp only
        refine aw_iload dX3_faults_43 rfl rfl ?_
        refine aw_iconst 3 dX3_faults_45 rfl (by decide) ?_
        refine aw_icmp_ge (tgt := 76) dX3_faults_46 rfl rfl (fun _ => ?_) (fun z => absurd (by decide) z)
        refine aw_iload_n dX3_faults_76 rfl rfl ?_
        refine aw_ret dX3_faults_77 rfl rfl ?_
        exact kk_c hK (by rw [hw]) rfl
      · intro i hi_43 nx_43
        try dsimp only at nx_43 ⊢
        have hci : (nI i).toNatClampNeg = i := nI_clamp (by omega)
        refine aw_iload dX3_faults_43 rfl rfl ?_
        refine aw_iconst 3 dX3_faults_45 rfl (by decide) ?_
        refine aw_icmp_ge (tgt := 76) dX3_faults_46 rfl rfl (fun z => absurd z (nI_ge (b := 3) hi_43 (by omega))) (fun _ => ?_)
        refine aw_aload_n dX3_faults_49 rfl rfl ?_
        refine aw_getI dX3_faults_50 rfl rfl rfl flX3_111 ?_
        refine aw_aload_n dX3_faults_53 rfl rfl ?_
        refine aw_getR dX3_faults_54 rfl rfl rfl (by decide) flX3_90 ?_
        refine aw_iload dX3_faults_57 rfl rfl ?_
        refine aw_iald dX3_faults_59 rfl rfl (by first | exact vp_in_nI (by omega) (by omega) | exact vp_in_iff.mpr (by decide)) ?_
        try simp only [hci]
        try simp only [ci0]
        refine aw_S2 (M' := mX3_has) dX3_faults_60 rfl lkX3_80 gX3_has (Nat.le_of_ble_eq_true rfl) (sX3_has ?_)
        show AW _ mX3_faults 63 _ (_ :: _) _ _
        refine aw_if_eqB (tgt := 70) dX3_faults_63 rfl rfl (fun c63 => ?_) (fun c63 => ?_)
        · skip
          refine aw_iinc dX3_faults_70 rfl rfl (ii_1 _) (by decide) ?_
          show AW _ mX3_faults 73 [_, _, _, _, _] _ _ _
          refine aw_goto (q := 43) dX3_faults_73 rfl ?_
          refine AW.conv nx_43 ?_ rfl rfl
          simp only [nI_succ, whyC_s]
          simp [c63]
        · skip
          refine aw_iload_n dX3_faults_66 rfl rfl ?_
          refine aw_iconst 4 dX3_faults_67 rfl (by decide) ?_
          refine aw_ior dX3_faults_68 rfl ?_
          refine aw_istore_n dX3_faults_69 rfl (by decide) ?_
          show AW _ mX3_faults 70 [_, _, _, _, _] _ _ _
          refine aw_iinc dX3_faults_70 rfl rfl (ii_1 _) (by decide) ?_
          show AW _ mX3_faults 73 [_, _, _, _, _] _ _ _
          refine aw_goto (q := 43) dX3_faults_73 rfl ?_
          refine AW.conv nx_43 ?_ rfl rfl
          simp only [nI_succ, whyC_s]
          simp [c63]
  · skip
    refine aw_iconst 0 dX3_faults_14 rfl (by decide) ?_
    refine aw_goto (q := 19) dX3_faults_15 rfl ?_
    refine aw_istore_n dX3_faults_19 rfl (by decide) ?_
    show AW _ mX3_faults 20 [_, _, _, _, _] _ _ _
    refine aw_aload_n dX3_faults_20 rfl rfl ?_
    refine aw_getI dX3_faults_21 rfl rfl rfl flX3_108 ?_
    refine aw_aload_n dX3_faults_24 rfl rfl ?_
    refine aw_getR dX3_faults_25 rfl rfl rfl (by decide) flX3_90 ?_
    refine aw_iconst 0 dX3_faults_28 rfl (by decide) ?_
    refine aw_iald dX3_faults_29 rfl rfl (by first | exact vp_in_nI (by omega) (by omega) | exact vp_in_iff.mpr (by decide)) ?_
    try simp only [hci]
    try simp only [ci0]
    refine aw_S2 (M' := mX3_has) dX3_faults_30 rfl lkX3_80 gX3_has (Nat.le_of_ble_eq_true rfl) (sX3_has ?_)
    show AW _ mX3_faults 33 _ (_ :: _) _ _
    refine aw_if_eqB (tgt := 40) dX3_faults_33 rfl rfl (fun c33 => ?_) (fun c33 => ?_)
    · skip
      refine aw_iconst 0 dX3_faults_40 rfl (by decide) ?_
      refine aw_istore dX3_faults_41 rfl (by decide) ?_
      show AW _ mX3_faults 43 [_, _, _, _, _] _ _ _
      refine AW.conv (ax_loop (P := fun i => AW (d + 1) mX3_faults 43 [some (.inr (0, 0)), some (.inr (8, t)), some (.inr (10, c)), some (.inl (whyC (σ 10 c 2) (σ 10 c 3) (σ 10 c 4) (σ 8 t 1) (σ 9 t) i)), some (.inl (nI i))] [] σ K) 3 ?_ ?_ 0 (Nat.zero_le _)) (by rw [nI_0, whyC, lp_0]; simp [c11, c33]) rfl rfl
      · try dsimp only
        refine aw_iload dX3_faults_43 rfl rfl ?_
        refine aw_iconst 3 dX3_faults_45 rfl (by decide) ?_
        refine aw_icmp_ge (tgt := 76) dX3_faults_46 rfl rfl (fun _ => ?_) (fun z => absurd (by decide) z)
        refine aw_iload_n dX3_faults_76 rfl rfl ?_
        refine aw_ret dX3_faults_77 rfl rfl ?_
        exact kk_c hK (by rw [hw]) rfl
      · intro i hi_43 nx_43
        try dsimp only at nx_43 ⊢
        have hci : (nI i).toNatClampNeg = i := nI_clamp (by omega)
        refine aw_iload dX3_faults_43 rfl rfl ?_
        refine aw_iconst 3 dX3_faults_45 rfl (by decide) ?_
        refine aw_icmp_ge (tgt := 76) dX3_faults_46 rfl rfl (fun z => absurd z (nI_ge (b := 3) hi_43 (by omega))) (fun _ => ?_)
        refine aw_aload_n dX3_faults_49 rfl rfl ?_
        refine aw_getI dX3_faults_50 rfl rfl rfl flX3_111 ?_
        refine aw_aload_n dX3_faults_53 rfl rfl ?_
        refine aw_getR dX3_faults_54 rfl rfl rfl (by decide) flX3_90 ?_
        refine aw_iload dX3_faults_57 rfl rfl ?_
        refine aw_iald dX3_faults_59 rfl rfl (by first | exact vp_in_nI (by omega) (by omega) | exact vp_in_iff.mpr (by decide)) ?_
        try simp only [hci]
        try simp only [ci0]
        refine aw_S2 (M' := mX3_has) dX3_faults_60 rfl lkX3_80 gX3_has (Nat.le_of_ble_eq_true rfl) (sX3_has ?_)
        show AW _ mX3_faults 63 _ (_ :: _) _ _
        refine aw_if_eqB (tgt := 70) dX3_faults_63 rfl rfl (fun c63 => ?_) (fun c63 => ?_)
        · skip
          refine aw_iinc dX3_faults_70 rfl rfl (ii_1 _) (by decide) ?_
          show AW _ mX3_faults 73 [_, _, _, _, _] _ _ _
          refine aw_goto (q := 43) dX3_faults_73 rfl ?_
          refine AW.conv nx_43 ?_ rfl rfl
          simp only [nI_succ, whyC_s]
          simp [c63]
        · skip
          refine aw_iload_n dX3_faults_66 rfl rfl ?_
          refine aw_iconst 4 dX3_faults_67 rfl (by decide) ?_
          refine aw_ior dX3_faults_68 rfl ?_
          refine aw_istore_n dX3_faults_69 rfl (by decide) ?_
          show AW _ mX3_faults 70 [_, _, _, _, _] _ _ _
          refine aw_iinc dX3_faults_70 rfl rfl (ii_1 _) (by decide) ?_
          show AW _ mX3_faults 73 [_, _, _, _, _] _ _ _
          refine aw_goto (q := 43) dX3_faults_73 rfl ?_
          refine AW.conv nx_43 ?_ rfl rfl
          simp only [nI_succ, whyC_s]
          simp [c63]
    · skip
      refine aw_iload_n dX3_faults_36 rfl rfl ?_
      refine aw_iconst 2 dX3_faults_37 rfl (by decide) ?_
      refine aw_ior dX3_faults_38 rfl ?_
      refine aw_istore_n dX3_faults_39 rfl (by decide) ?_
      show AW _ mX3_faults 40 [_, _, _, _, _] _ _ _
      refine aw_iconst 0 dX3_faults_40 rfl (by decide) ?_
      refine aw_istore dX3_faults_41 rfl (by decide) ?_
      show AW _ mX3_faults 43 [_, _, _, _, _] _ _ _
      refine AW.conv (ax_loop (P := fun i => AW (d + 1) mX3_faults 43 [some (.inr (0, 0)), some (.inr (8, t)), some (.inr (10, c)), some (.inl (whyC (σ 10 c 2) (σ 10 c 3) (σ 10 c 4) (σ 8 t 1) (σ 9 t) i)), some (.inl (nI i))] [] σ K) 3 ?_ ?_ 0 (Nat.zero_le _)) (by rw [nI_0, whyC, lp_0]; simp [c11, c33]) rfl rfl
      · try dsimp only
        refine aw_iload dX3_faults_43 rfl rfl ?_
        refine aw_iconst 3 dX3_faults_45 rfl (by decide) ?_
        refine aw_icmp_ge (tgt := 76) dX3_faults_46 rfl rfl (fun _ => ?_) (fun z => absurd (by decide) z)
        refine aw_iload_n dX3_faults_76 rfl rfl ?_
        refine aw_ret dX3_faults_77 rfl rfl ?_
        exact kk_c hK (by rw [hw]) rfl
      · intro i hi_43 nx_43
        try dsimp only at nx_43 ⊢
        have hci : (nI i).toNatClampNeg = i := nI_clamp (by omega)
        refine aw_iload dX3_faults_43 rfl rfl ?_
        refine aw_iconst 3 dX3_faults_45 rfl (by decide) ?_
        refine aw_icmp_ge (tgt := 76) dX3_faults_46 rfl rfl (fun z => absurd z (nI_ge (b := 3) hi_43 (by omega))) (fun _ => ?_)
        refine aw_aload_n dX3_faults_49 rfl rfl ?_
        refine aw_getI dX3_faults_50 rfl rfl rfl flX3_111 ?_
        refine aw_aload_n dX3_faults_53 rfl rfl ?_
        refine aw_getR dX3_faults_54 rfl rfl rfl (by decide) flX3_90 ?_
        refine aw_iload dX3_faults_57 rfl rfl ?_
        refine aw_iald dX3_faults_59 rfl rfl (by first | exact vp_in_nI (by omega) (by omega) | exact vp_in_iff.mpr (by decide)) ?_
        try simp only [hci]
        try simp only [ci0]
        refine aw_S2 (M' := mX3_has) dX3_faults_60 rfl lkX3_80 gX3_has (Nat.le_of_ble_eq_true rfl) (sX3_has ?_)
        show AW _ mX3_faults 63 _ (_ :: _) _ _
        refine aw_if_eqB (tgt := 70) dX3_faults_63 rfl rfl (fun c63 => ?_) (fun c63 => ?_)
        · skip
          refine aw_iinc dX3_faults_70 rfl rfl (ii_1 _) (by decide) ?_
          show AW _ mX3_faults 73 [_, _, _, _, _] _ _ _
          refine aw_goto (q := 43) dX3_faults_73 rfl ?_
          refine AW.conv nx_43 ?_ rfl rfl
          simp only [nI_succ, whyC_s]
          simp [c63]
        · skip
          refine aw_iload_n dX3_faults_66 rfl rfl ?_
          refine aw_iconst 4 dX3_faults_67 rfl (by decide) ?_
          refine aw_ior dX3_faults_68 rfl ?_
          refine aw_istore_n dX3_faults_69 rfl (by decide) ?_
          show AW _ mX3_faults 70 [_, _, _, _, _] _ _ _
          refine aw_iinc dX3_faults_70 rfl rfl (ii_1 _) (by decide) ?_
          show AW _ mX3_faults 73 [_, _, _, _, _] _ _ _
          refine aw_goto (q := 43) dX3_faults_73 rfl ?_
          refine AW.conv nx_43 ?_ rfl rfl
          simp only [nI_succ, whyC_s]
          simp [c63]
set_option maxRecDepth 4000 in
theorem sX3_washesNeeded {d : Nat} {σ : SS} {K : ax_K} {t c : Nat} (ht : t < 6) (hc4 : c < 4) (hLat : ∀ t k, t < 6 → k < 3 → lt9 (σ 9 t k)) (hLiq : ∀ c, c < 4 → ∃ j, j < 8 ∧ σ 10 c 0 = nI j) (hK : K (some (wfS (vw σ) t c)) σ) : AW (d + 2) mX3_washesNeeded 0 (ax_en mX3_washesNeeded [.inr (0, 0), .inr (8, t), .inr (10, c)]) [] σ K := by
  have e0 : wfS (vw σ) t c = wf (σ 3 0) (σ 9 t 0) (σ 10 c 0) := by
    unfold wfS
    rw [show 3 * t = 3 * t + 0 by omega, vw33 σ t (by decide)]
    rfl
  show AW _ mX3_washesNeeded 0 [_, _, _, _] _ _ _
  refine aw_aload_n dX3_washesNeeded_0 rfl rfl ?_
  refine aw_getR dX3_washesNeeded_1 rfl rfl rfl (by decide) flX3_90 ?_
  refine aw_iconst 0 dX3_washesNeeded_4 rfl (by decide) ?_
  refine aw_iald dX3_washesNeeded_5 rfl rfl (by first | exact vp_in_nI (by omega) (by omega) | exact vp_in_iff.mpr (by decide)) ?_
  try simp only [ci0]
  refine aw_istore_n dX3_washesNeeded_6 rfl (by decide) ?_
  show AW _ mX3_washesNeeded 7 [_, _, _, _] _ _ _
  refine aw_iload_n dX3_washesNeeded_7 rfl rfl ?_
  refine aw_S1 (M' := mX3_isLiquid) dX3_washesNeeded_8 rfl lkX3_87 gX3_isLiquid (Nat.le_of_ble_eq_true rfl) (sX3_isLiquid ?_)
  show AW _ mX3_washesNeeded 11 _ (_ :: _) _ _
  refine aw_if_eqb (tgt := 31) dX3_washesNeeded_11 rfl rfl (fun c11 => ?_) (fun c11 => ?_)
  · skip
    refine aw_iconst 0 dX3_washesNeeded_31 rfl (by decide) ?_
    refine aw_ret dX3_washesNeeded_32 rfl rfl ?_
    refine kk_c hK ?_ rfl
    rw [e0, wf, if_pos ((hLat t 0 ht (by decide)).resolve_right (fun z => by
      obtain ⟨j, hj, ej⟩ := z
      exact c11 (by rw [ej]; exact ⟨nI_pos' (by omega), nI_le (b := 7) (by omega) (by omega)⟩)))]
  · skip
    obtain ⟨a, ha, ea⟩ := lq_of c11
    obtain ⟨b, hb8, eb⟩ := hLiq c hc4
    refine aw_aload_n dX3_washesNeeded_14 rfl rfl ?_
    refine aw_getR dX3_washesNeeded_15 rfl rfl rfl (by decide) flX3_21 ?_
    refine aw_iload_n dX3_washesNeeded_18 rfl rfl ?_
    refine aw_bipush 8 dX3_washesNeeded_19 rfl (by decide) ?_
    refine aw_imul dX3_washesNeeded_21 rfl ?_
    refine aw_aload_n dX3_washesNeeded_22 rfl rfl ?_
    refine aw_getI dX3_washesNeeded_23 rfl rfl rfl flX3_99 ?_
    refine aw_iadd dX3_washesNeeded_26 rfl ?_
    refine aw_iald dX3_washesNeeded_27 rfl rfl (by rw [ea, eb, ix8r]; exact vp_in_nI (by omega) (by omega)) ?_
    try simp only [ci0]
    refine aw_goto (q := 32) dX3_washesNeeded_28 rfl ?_
    refine aw_ret dX3_washesNeeded_32 rfl rfl ?_
    refine kk_c hK ?_ rfl
    rw [e0, wf, if_neg (by rw [ea]; exact ne9 (by omega)), ea, eb, ix8, ix8r]
