set_option maxRecDepth 4000 in
theorem sX4_within {d : Nat} {σ : SS} {K : ax_K} {v a b : Int32}  (hK : K (some (bI (a ≤ v ∧ v ≤ b))) σ) : AW d mX4_within 0 (ax_en mX4_within [.inl v, .inl a, .inl b]) [] σ K := by
  show AW _ mX4_within 0 [_, _, _] _ _ _
  refine aw_iload_n dX4_within_0 rfl rfl ?_
  refine aw_iload_n dX4_within_1 rfl rfl ?_
  refine aw_icmp_lt (tgt := 14) dX4_within_2 rfl rfl (fun c2 => ?_) (fun c2 => ?_)
  · skip
    refine aw_iconst 0 dX4_within_14 rfl (by decide) ?_
    refine aw_ret dX4_within_15 rfl (by decide) ?_
    first | exact kb_t hK ⟨Int32.not_lt.mp (by assumption), Int32.not_lt.mp (by assumption)⟩ | exact kb_f hK (fun z => absurd (by assumption) (Int32.not_lt.mpr z.1)) | exact kb_f hK (fun z => absurd (by assumption) (Int32.not_lt.mpr z.2))
  · skip
    refine aw_iload_n dX4_within_5 rfl rfl ?_
    refine aw_iload_n dX4_within_6 rfl rfl ?_
    refine aw_icmp_gt (tgt := 14) dX4_within_7 rfl rfl (fun c7 => ?_) (fun c7 => ?_)
    · skip
      refine aw_iconst 0 dX4_within_14 rfl (by decide) ?_
      refine aw_ret dX4_within_15 rfl (by decide) ?_
      first | exact kb_t hK ⟨Int32.not_lt.mp (by assumption), Int32.not_lt.mp (by assumption)⟩ | exact kb_f hK (fun z => absurd (by assumption) (Int32.not_lt.mpr z.1)) | exact kb_f hK (fun z => absurd (by assumption) (Int32.not_lt.mpr z.2))
    · skip
      refine aw_iconst 1 dX4_within_10 rfl (by decide) ?_
      refine aw_goto (q := 15) dX4_within_11 rfl ?_
      refine aw_ret dX4_within_15 rfl (by decide) ?_
      first | exact kb_t hK ⟨Int32.not_lt.mp (by assumption), Int32.not_lt.mp (by assumption)⟩ | exact kb_f hK (fun z => absurd (by assumption) (Int32.not_lt.mpr z.1)) | exact kb_f hK (fun z => absurd (by assumption) (Int32.not_lt.mpr z.2))
set_option maxRecDepth 4000 in
theorem sX4_isLiquid {d : Nat} {σ : SS} {K : ax_K} {v : Int32}  (hK : K (some (bI (0 ≤ v ∧ v ≤ 7))) σ) : AW (d + 1) mX4_isLiquid 0 (ax_en mX4_isLiquid [.inl v]) [] σ K := by
  show AW _ mX4_isLiquid 0 [_] _ _ _
  refine aw_iload_n dX4_isLiquid_0 rfl rfl ?_
  refine aw_iconst 0 dX4_isLiquid_1 rfl (by decide) ?_
  refine aw_bipush 7 dX4_isLiquid_2 rfl (by decide) ?_
  refine aw_S3 (M' := mX4_within) dX4_isLiquid_4 rfl lkX4_71 gX4_within (Nat.le_of_ble_eq_true rfl) (sX4_within ?_)
  show AW _ mX4_isLiquid 7 _ (_ :: _) _ _
  refine aw_ret dX4_isLiquid_7 rfl (by unfold bI; split <;> decide) ?_
  exact hK
set_option maxRecDepth 4000 in
theorem sX4_isSet {d : Nat} {σ : SS} {K : ax_K} {v : Int32}  (hK : K (some (bI (0 ≤ v ∧ v ≤ 255))) σ) : AW (d + 1) mX4_isSet 0 (ax_en mX4_isSet [.inl v]) [] σ K := by
  show AW _ mX4_isSet 0 [_] _ _ _
  refine aw_iload_n dX4_isSet_0 rfl rfl ?_
  refine aw_iconst 0 dX4_isSet_1 rfl (by decide) ?_
  refine aw_sipush 255 dX4_isSet_2 rfl (by decide) ?_
  refine aw_S3 (M' := mX4_within) dX4_isSet_5 rfl lkX4_71 gX4_within (Nat.le_of_ble_eq_true rfl) (sX4_within ?_)
  show AW _ mX4_isSet 8 _ (_ :: _) _ _
  refine aw_ret dX4_isSet_8 rfl (by unfold bI; split <;> decide) ?_
  exact hK
set_option maxRecDepth 4000 in
theorem sX4_has {d : Nat} {σ : SS} {K : ax_K} {v k : Int32}  (hK : K (some (bB (hb v k))) σ) : AW d mX4_has 0 (ax_en mX4_has [.inl v, .inl k]) [] σ K := by
  show AW _ mX4_has 0 [_, _] _ _ _
  refine aw_iload_n dX4_has_0 rfl rfl ?_
  refine aw_iload_n dX4_has_1 rfl rfl ?_
  refine aw_ishr dX4_has_2 rfl ?_
  refine aw_iconst 1 dX4_has_3 rfl (by decide) ?_
  refine aw_iand dX4_has_4 rfl ?_
  refine aw_iconst 1 dX4_has_5 rfl (by decide) ?_
  refine aw_icmp_ne (tgt := 13) dX4_has_6 rfl rfl (fun c6 => ?_) (fun c6 => ?_)
  · skip
    refine aw_iconst 0 dX4_has_13 rfl (by decide) ?_
    refine aw_ret dX4_has_14 rfl (by decide) ?_
    rw [bB_eq] at hK
    first | exact kb_t hK (hs_iff.mpr (by assumption)) | exact kb_f hK (fun z => absurd (hs_iff.mp z) (by assumption))
  · skip
    refine aw_iconst 1 dX4_has_9 rfl (by decide) ?_
    refine aw_goto (q := 14) dX4_has_10 rfl ?_
    refine aw_ret dX4_has_14 rfl (by decide) ?_
    rw [bB_eq] at hK
    first | exact kb_t hK (hs_iff.mpr (by assumption)) | exact kb_f hK (fun z => absurd (hs_iff.mp z) (by assumption))
set_option maxRecDepth 4000 in
theorem sX4_isTank {d : Nat} {σ : SS} {K : ax_K} {t : Int32} {n : Nat} (hn : n ≤ 6) (h0 : σ 28 0 0 = nI n) (hK : K (some (bI (ixn t n))) σ) : AW (d + 1) mX4_isTank 0 (ax_en mX4_isTank [.inr (28, 0), .inl t]) [] σ K := by
  show AW _ mX4_isTank 0 [_, _] _ _ _
  refine aw_iload_n dX4_isTank_0 rfl rfl ?_
  refine aw_iconst 0 dX4_isTank_1 rfl (by decide) ?_
  refine aw_aload_n dX4_isTank_2 rfl rfl ?_
  refine aw_getI dX4_isTank_3 rfl rfl rfl flX4_75 ?_
  refine aw_iconst 1 dX4_isTank_6 rfl (by decide) ?_
  refine aw_isub dX4_isTank_7 rfl ?_
  refine aw_S3 (M' := mX4_within) dX4_isTank_8 rfl lkX4_71 gX4_within (Nat.le_of_ble_eq_true rfl) (sX4_within ?_)
  show AW _ mX4_isTank 11 _ (_ :: _) _ _
  refine aw_ret dX4_isTank_11 rfl (by unfold bI; split <;> decide) ?_
  rw [h0]
  exact kk_c hK (by rw [bI_c (ixn_le (by omega))]) rfl
set_option maxRecDepth 4000 in
theorem sX4_isCargo {d : Nat} {σ : SS} {K : ax_K} {t : Int32} {cn : Nat} (hc : cn ≤ 4) (h9 : σ 28 0 9 = nI cn) (hK : K (some (bI (ixn t cn))) σ) : AW (d + 1) mX4_isCargo 0 (ax_en mX4_isCargo [.inr (28, 0), .inl t]) [] σ K := by
  show AW _ mX4_isCargo 0 [_, _] _ _ _
  refine aw_iload_n dX4_isCargo_0 rfl rfl ?_
  refine aw_iconst 0 dX4_isCargo_1 rfl (by decide) ?_
  refine aw_aload_n dX4_isCargo_2 rfl rfl ?_
  refine aw_getI dX4_isCargo_3 rfl rfl rfl flX4_92 ?_
  refine aw_iconst 1 dX4_isCargo_6 rfl (by decide) ?_
  refine aw_isub dX4_isCargo_7 rfl ?_
  refine aw_S3 (M' := mX4_within) dX4_isCargo_8 rfl lkX4_71 gX4_within (Nat.le_of_ble_eq_true rfl) (sX4_within ?_)
  show AW _ mX4_isCargo 11 _ (_ :: _) _ _
  refine aw_ret dX4_isCargo_11 rfl (by unfold bI; split <;> decide) ?_
  rw [h9]
  exact kk_c hK (by rw [bI_c (ixn_le (by omega))]) rfl
set_option maxRecDepth 4000 in
theorem sX4_areTwo {d : Nat} {σ : SS} {K : ax_K} {i j : Int32} {n : Nat} (hn : n ≤ 6) (h0 : σ 28 0 0 = nI n) (hK : K (some (bI (ixn i n ∧ ixn j n ∧ i ≠ j))) σ) : AW (d + 2) mX4_areTwo 0 (ax_en mX4_areTwo [.inr (28, 0), .inl i, .inl j]) [] σ K := by
  show AW _ mX4_areTwo 0 [_, _, _] _ _ _
  refine aw_aload_n dX4_areTwo_0 rfl rfl ?_
  refine aw_iload_n dX4_areTwo_1 rfl rfl ?_
  refine aw_V1 (M' := mX4_isTank) dX4_areTwo_2 rfl lkX4_78 gX4_isTank rfl rfl (Nat.le_of_ble_eq_true rfl) (sX4_isTank hn h0 ?_)
  show AW _ mX4_areTwo 5 _ (_ :: _) _ _
  refine aw_if_eqb (tgt := 25) dX4_areTwo_5 rfl rfl (fun c5 => ?_) (fun c5 => ?_)
  · skip
    refine aw_iconst 0 dX4_areTwo_25 rfl (by decide) ?_
    refine aw_ret dX4_areTwo_26 rfl (by decide) ?_
    first | exact kb_t hK ⟨by assumption, by assumption, by assumption⟩ | exact kb_f hK (fun z => by simp_all)
  · skip
    refine aw_aload_n dX4_areTwo_8 rfl rfl ?_
    refine aw_iload_n dX4_areTwo_9 rfl rfl ?_
    refine aw_V1 (M' := mX4_isTank) dX4_areTwo_10 rfl lkX4_78 gX4_isTank rfl rfl (Nat.le_of_ble_eq_true rfl) (sX4_isTank hn h0 ?_)
    show AW _ mX4_areTwo 13 _ (_ :: _) _ _
    refine aw_if_eqb (tgt := 25) dX4_areTwo_13 rfl rfl (fun c13 => ?_) (fun c13 => ?_)
    · skip
      refine aw_iconst 0 dX4_areTwo_25 rfl (by decide) ?_
      refine aw_ret dX4_areTwo_26 rfl (by decide) ?_
      first | exact kb_t hK ⟨by assumption, by assumption, by assumption⟩ | exact kb_f hK (fun z => by simp_all)
    · skip
      refine aw_iload_n dX4_areTwo_16 rfl rfl ?_
      refine aw_iload_n dX4_areTwo_17 rfl rfl ?_
      refine aw_icmp_eq (tgt := 25) dX4_areTwo_18 rfl rfl (fun c18 => ?_) (fun c18 => ?_)
      · skip
        refine aw_iconst 0 dX4_areTwo_25 rfl (by decide) ?_
        refine aw_ret dX4_areTwo_26 rfl (by decide) ?_
        first | exact kb_t hK ⟨by assumption, by assumption, by assumption⟩ | exact kb_f hK (fun z => by simp_all)
      · skip
        refine aw_iconst 1 dX4_areTwo_21 rfl (by decide) ?_
        refine aw_goto (q := 26) dX4_areTwo_22 rfl ?_
        refine aw_ret dX4_areTwo_26 rfl (by decide) ?_
        first | exact kb_t hK ⟨by assumption, by assumption, by assumption⟩ | exact kb_f hK (fun z => by simp_all)
set_option maxRecDepth 4000 in
theorem sX4_holders {d : Nat} {σ : SS} {K : ax_K} {c : Int32} {n : Nat} (hn : n ≤ 6) (h0 : σ 28 0 0 = nI n) (hK : K (some (cntI n (fun t => σ 35 0 t = c))) σ) : AW d mX4_holders 0 (ax_en mX4_holders [.inr (28, 0), .inl c]) [] σ K := by
  show AW _ mX4_holders 0 [_, _, _, _] _ _ _
  refine aw_iconst 0 dX4_holders_0 rfl (by decide) ?_
  refine aw_istore_n dX4_holders_1 rfl (by decide) ?_
  show AW _ mX4_holders 2 [_, _, _, _] _ _ _
  refine aw_iconst 0 dX4_holders_2 rfl (by decide) ?_
  refine aw_istore_n dX4_holders_3 rfl (by decide) ?_
  show AW _ mX4_holders 4 [_, _, _, _] _ _ _
  refine AW.conv (ax_loop (P := fun i => AW d mX4_holders 4 [some (.inr (28, 0)), some (.inl c), some (.inl (cntI i (fun t => σ 35 0 t = c))), some (.inl (nI i))] [] σ K) n ?_ ?_ 0 (Nat.zero_le _)) (by first | (simp only [nI_0]; done) | (simp only [nI_0]; rfl)) rfl rfl
  · try dsimp only
    refine aw_iload_n dX4_holders_4 rfl rfl ?_
    refine aw_aload_n dX4_holders_5 rfl rfl ?_
    refine aw_getI dX4_holders_6 rfl rfl rfl flX4_75 ?_
    refine aw_icmp_ge (tgt := 36) dX4_holders_9 rfl rfl (fun _ => ?_) (fun z => absurd (by rw [h0]; exact Int32.le_refl _) z)
    refine aw_iload_n dX4_holders_36 rfl rfl ?_
    refine aw_ret dX4_holders_37 rfl rfl ?_
    exact hK
  · intro i hi_4 nx_4
    try dsimp only at nx_4 ⊢
    refine aw_iload_n dX4_holders_4 rfl rfl ?_
    refine aw_aload_n dX4_holders_5 rfl rfl ?_
    refine aw_getI dX4_holders_6 rfl rfl rfl flX4_75 ?_
    refine aw_icmp_ge (tgt := 36) dX4_holders_9 rfl rfl (fun z => absurd z (by rw [h0]; exact nI_ge hi_4 (by omega))) (fun _ => ?_)
    refine aw_iload_n dX4_holders_12 rfl rfl ?_
    refine aw_aload_n dX4_holders_13 rfl rfl ?_
    refine aw_getR dX4_holders_14 rfl rfl rfl (by decide) flX4_28 ?_
    refine aw_iload_n dX4_holders_17 rfl rfl ?_
    refine aw_iald dX4_holders_18 rfl rfl (by first | exact vp_in_nI (by omega) (by omega) | decide) ?_
    refine aw_iload_n dX4_holders_19 rfl rfl ?_
    refine aw_icmp_ne (tgt := 27) dX4_holders_20 rfl rfl (fun c20 => ?_) (fun c20 => ?_)
    · skip
      refine aw_iconst 0 dX4_holders_27 rfl (by decide) ?_
      refine aw_iadd dX4_holders_28 rfl ?_
      refine aw_istore_n dX4_holders_29 rfl (by decide) ?_
      show AW _ mX4_holders 30 [_, _, _, _] _ _ _
      refine aw_iinc dX4_holders_30 rfl rfl (ii_1 _) (by decide) ?_
      show AW _ mX4_holders 33 [_, _, _, _] _ _ _
      refine aw_goto (q := 4) dX4_holders_33 rfl ?_
      refine AW.conv nx_4 ?_ rfl rfl
      simp only [nI_succ, cntI, lp_s]
      rw [nI_clamp (by omega)] at c20
      simp [c20]
    · skip
      refine aw_iconst 1 dX4_holders_23 rfl (by decide) ?_
      refine aw_goto (q := 28) dX4_holders_24 rfl ?_
      refine aw_iadd dX4_holders_28 rfl ?_
      refine aw_istore_n dX4_holders_29 rfl (by decide) ?_
      show AW _ mX4_holders 30 [_, _, _, _] _ _ _
      refine aw_iinc dX4_holders_30 rfl rfl (ii_1 _) (by decide) ?_
      show AW _ mX4_holders 33 [_, _, _, _] _ _ _
      refine aw_goto (q := 4) dX4_holders_33 rfl ?_
      refine AW.conv nx_4 ?_ rfl rfl
      simp only [nI_succ, cntI, lp_s]
      rw [nI_clamp (by omega)] at c20
      simp [c20]
