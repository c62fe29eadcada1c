set_option maxRecDepth 4000 in
theorem sX4_amount {d : Nat} {σ : SS} {K : ax_K} {c v : Int32} {n cn : Nat} (hn : n ≤ 6) (h0 : σ 28 0 0 = nI n) (hc : cn ≤ 4) (h9 : σ 28 0 9 = nI cn) (k1 : ¬ ixn c cn → K (some (-1)) σ) (k2 : ixn c cn → ¬ (1 ≤ v ∧ v ≤ 400) → K (some (-2)) σ) (k3 : ixn c cn → (1 ≤ v ∧ v ≤ 400) → 0 < cntI n (fun t => σ 35 0 t = c) → K (some (-3)) σ) (k4 : ∀ a, a < cn → c = nI a → (1 ≤ v ∧ v ≤ 400) → ¬ 0 < cntI n (fun t => σ 35 0 t = c) → K (some (σ 38 0 a)) (rp σ 38 0 (upd (σ 38 0) a v))) : AW (d + 2) mX4_amount 0 (ax_en mX4_amount [.inr (28, 0), .inl c, .inl v]) [] σ K := by
  show AW _ mX4_amount 0 [_, _, _, _] _ _ _
  refine aw_aload_n dX4_amount_0 rfl rfl ?_
  refine aw_iload_n dX4_amount_1 rfl rfl ?_
  refine aw_V1 (M' := mX4_isCargo) dX4_amount_2 rfl lkX4_102 gX4_isCargo rfl rfl (Nat.le_of_ble_eq_true rfl) (sX4_isCargo hc h9 ?_)
  show AW _ mX4_amount 5 _ (_ :: _) _ _
  refine aw_if_neb (tgt := 10) dX4_amount_5 rfl rfl (fun c5 => ?_) (fun c5 => ?_)
  · skip
    refine aw_iload_n dX4_amount_10 rfl rfl ?_
    refine aw_iconst 1 dX4_amount_11 rfl (by decide) ?_
    refine aw_sipush 400 dX4_amount_12 rfl (by decide) ?_
    refine aw_S3 (M' := mX4_within) dX4_amount_15 rfl lkX4_71 gX4_within (Nat.le_of_ble_eq_true rfl) (sX4_within ?_)
    show AW _ mX4_amount 18 _ (_ :: _) _ _
    refine aw_if_neb (tgt := 24) dX4_amount_18 rfl rfl (fun c18 => ?_) (fun c18 => ?_)
    · skip
      refine aw_aload_n dX4_amount_24 rfl rfl ?_
      refine aw_iload_n dX4_amount_25 rfl rfl ?_
      refine aw_V1 (M' := mX4_holders) dX4_amount_26 rfl lkX4_98 gX4_holders rfl rfl (Nat.le_of_ble_eq_true rfl) (sX4_holders hn h0 ?_)
      show AW _ mX4_amount 29 _ (_ :: _) _ _
      refine aw_if_le (tgt := 35) dX4_amount_29 rfl rfl (fun c29 => ?_) (fun c29 => ?_)
      · skip
        have c29' := Int32.not_lt.mpr c29
        obtain ⟨a, ha, rfl⟩ := ixn_of c5 (by omega)
        have hca : (nI a).toNatClampNeg = a := nI_clamp (by omega)
        refine aw_aload_n dX4_amount_35 rfl rfl ?_
        refine aw_getR dX4_amount_36 rfl rfl rfl (by decide) flX4_37 ?_
        refine aw_iload_n dX4_amount_39 rfl rfl ?_
        refine aw_iald dX4_amount_40 rfl rfl (by first | exact vp_in_nI (by omega) (by omega) | decide) ?_
        refine aw_istore_n dX4_amount_41 rfl (by decide) ?_
        show AW _ mX4_amount 42 [_, _, _, _] _ _ _
        refine aw_aload_n dX4_amount_42 rfl rfl ?_
        refine aw_getR dX4_amount_43 rfl rfl rfl (by decide) flX4_37 ?_
        refine aw_iload_n dX4_amount_46 rfl rfl ?_
        refine aw_iload_n dX4_amount_47 rfl rfl ?_
        refine aw_iast dX4_amount_48 rfl rfl (by first | exact vp_in_nI (by omega) (by omega) | decide) ?_
        refine aw_iload_n dX4_amount_49 rfl rfl ?_
        refine aw_ret dX4_amount_50 rfl rfl ?_
        exact kk_c (k4 a ha rfl c18 c29') (by rw [hca]) (by rw [hca])
      · skip
        refine aw_bipush (-3) dX4_amount_32 rfl (by decide) ?_
        refine aw_ret dX4_amount_34 rfl rfl ?_
        exact k3 c5 c18 (Int32.not_le.mp c29)
    · skip
      refine aw_bipush (-2) dX4_amount_21 rfl (by decide) ?_
      refine aw_ret dX4_amount_23 rfl rfl ?_
      exact k2 c5 c18
  · skip
    refine aw_iconst (-1) dX4_amount_8 rfl (by decide) ?_
    refine aw_ret dX4_amount_9 rfl rfl ?_
    exact k1 c5
set_option maxRecDepth 4000 in
theorem sX4_washes {d : Nat} {σ : SS} {K : ax_K} {f t v : Int32}  (k1 : ¬ (lq f ∧ lq t) → K (some (-1)) σ) (k2 : lq f → lq t → ¬ (0 ≤ v ∧ v ≤ 3) → K (some (-2)) σ) (k3 : ∀ a b, a < 8 → b < 8 → f = nI a → t = nI b → (0 ≤ v ∧ v ≤ 3) → K (some (σ 43 0 (8 * a + b))) (rp σ 43 0 (upd (σ 43 0) (8 * a + b) v))) : AW (d + 2) mX4_washes 0 (ax_en mX4_washes [.inr (28, 0), .inl f, .inl t, .inl v]) [] σ K := by
  show AW _ mX4_washes 0 [_, _, _, _, _] _ _ _
  refine aw_iload_n dX4_washes_0 rfl rfl ?_
  refine aw_S1 (M' := mX4_isLiquid) dX4_washes_1 rfl lkX4_89 gX4_isLiquid (Nat.le_of_ble_eq_true rfl) (sX4_isLiquid ?_)
  show AW _ mX4_washes 4 _ (_ :: _) _ _
  refine aw_if_eqb (tgt := 14) dX4_washes_4 rfl rfl (fun c4 => ?_) (fun c4 => ?_)
  · skip
    refine aw_iconst (-1) dX4_washes_14 rfl (by decide) ?_
    refine aw_ret dX4_washes_15 rfl rfl ?_
    exact k1 (fun z => by first | exact c4 z.1 | exact c11 z.2)
  · skip
    refine aw_iload_n dX4_washes_7 rfl rfl ?_
    refine aw_S1 (M' := mX4_isLiquid) dX4_washes_8 rfl lkX4_89 gX4_isLiquid (Nat.le_of_ble_eq_true rfl) (sX4_isLiquid ?_)
    show AW _ mX4_washes 11 _ (_ :: _) _ _
    refine aw_if_neb (tgt := 16) dX4_washes_11 rfl rfl (fun c11 => ?_) (fun c11 => ?_)
    · skip
      refine aw_iload_n dX4_washes_16 rfl rfl ?_
      refine aw_iconst 0 dX4_washes_17 rfl (by decide) ?_
      refine aw_iconst 3 dX4_washes_18 rfl (by decide) ?_
      refine aw_S3 (M' := mX4_within) dX4_washes_19 rfl lkX4_71 gX4_within (Nat.le_of_ble_eq_true rfl) (sX4_within ?_)
      show AW _ mX4_washes 22 _ (_ :: _) _ _
      refine aw_if_neb (tgt := 28) dX4_washes_22 rfl rfl (fun c22 => ?_) (fun c22 => ?_)
      · skip
        obtain ⟨a, ha, rfl⟩ := lq_of c4
        obtain ⟨b, hb, rfl⟩ := lq_of c11
        have hca : (nI (8 * a + b)).toNatClampNeg = 8 * a + b := nI_clamp (by omega)
        refine aw_aload_n dX4_washes_28 rfl rfl ?_
        refine aw_getR dX4_washes_29 rfl rfl rfl (by decide) flX4_52 ?_
        refine aw_bipush 8 dX4_washes_32 rfl (by decide) ?_
        refine aw_iload_n dX4_washes_34 rfl rfl ?_
        refine aw_imul dX4_washes_35 rfl ?_
        refine aw_iload_n dX4_washes_36 rfl rfl ?_
        refine aw_iadd dX4_washes_37 rfl ?_
        refine aw_iald dX4_washes_38 rfl rfl (by rw [ix8]; exact vp_in_nI (by omega) (by omega)) ?_
        refine aw_istore dX4_washes_39 rfl (by decide) ?_
        show AW _ mX4_washes 41 [_, _, _, _, _] _ _ _
        refine aw_aload_n dX4_washes_41 rfl rfl ?_
        refine aw_getR dX4_washes_42 rfl rfl rfl (by decide) flX4_52 ?_
        refine aw_bipush 8 dX4_washes_45 rfl (by decide) ?_
        refine aw_iload_n dX4_washes_47 rfl rfl ?_
        refine aw_imul dX4_washes_48 rfl ?_
        refine aw_iload_n dX4_washes_49 rfl rfl ?_
        refine aw_iadd dX4_washes_50 rfl ?_
        refine aw_iload_n dX4_washes_51 rfl rfl ?_
        refine aw_iast dX4_washes_52 rfl rfl (by rw [ix8]; exact vp_in_nI (by omega) (by omega)) ?_
        refine aw_iload dX4_washes_53 rfl rfl ?_
        refine aw_ret dX4_washes_55 rfl rfl ?_
        exact kk_c (k3 a b ha hb rfl rfl c22) (by rw [ix8, hca]) (by rw [ix8, hca])
      · skip
        refine aw_bipush (-2) dX4_washes_25 rfl (by decide) ?_
        refine aw_ret dX4_washes_27 rfl rfl ?_
        exact k2 c4 c11 c22
    · skip
      refine aw_iconst (-1) dX4_washes_14 rfl (by decide) ?_
      refine aw_ret dX4_washes_15 rfl rfl ?_
      exact k1 (fun z => by first | exact c4 z.1 | exact c11 z.2)
set_option maxRecDepth 4000 in
theorem sX4_bound {d : Nat} {σ : SS} {K : ax_K} {v : Int32}  (k1 : ¬ (0 ≤ v ∧ v ≤ 9999) → K (some (-2)) σ) (k2 : (0 ≤ v ∧ v ≤ 9999) → K (some (σ 28 0 17)) (rp σ 28 0 (upd (σ 28 0) 17 v))) : AW (d + 1) mX4_bound 0 (ax_en mX4_bound [.inr (28, 0), .inl v]) [] σ K := by
  show AW _ mX4_bound 0 [_, _, _] _ _ _
  refine aw_iload_n dX4_bound_0 rfl rfl ?_
  refine aw_iconst 0 dX4_bound_1 rfl (by decide) ?_
  refine aw_sipush 9999 dX4_bound_2 rfl (by decide) ?_
  refine aw_S3 (M' := mX4_within) dX4_bound_5 rfl lkX4_71 gX4_within (Nat.le_of_ble_eq_true rfl) (sX4_within ?_)
  show AW _ mX4_bound 8 _ (_ :: _) _ _
  refine aw_if_neb (tgt := 14) dX4_bound_8 rfl rfl (fun c8 => ?_) (fun c8 => ?_)
  · skip
    refine aw_aload_n dX4_bound_14 rfl rfl ?_
    refine aw_getI dX4_bound_15 rfl rfl rfl flX4_55 ?_
    refine aw_istore_n dX4_bound_18 rfl (by decide) ?_
    show AW _ mX4_bound 19 [_, _, _] _ _ _
    refine aw_aload_n dX4_bound_19 rfl rfl ?_
    refine aw_iload_n dX4_bound_20 rfl rfl ?_
    refine aw_putI dX4_bound_21 rfl rfl rfl flX4_55 (pf_4_17 _) ?_
    refine aw_iload_n dX4_bound_24 rfl rfl ?_
    refine aw_ret dX4_bound_25 rfl rfl ?_
    exact k2 c8
  · skip
    refine aw_bipush (-2) dX4_bound_11 rfl (by decide) ?_
    refine aw_ret dX4_bound_13 rfl rfl ?_
    exact k1 c8
set_option maxRecDepth 4000 in
theorem sX4_ofTank {d : Nat} {σ : SS} {K : ax_K} {t w : Int32} {n : Nat} (hn : n ≤ 6) (h0 : σ 28 0 0 = nI n) (k1 : ¬ ixn t n → K (some (-1)) σ) (k2 : ixn t n → (∀ j, j < 9 → w ≠ nI j) → K (some (-2)) σ) (k3 : ∀ a, a < n → t = nI a → ∀ j, j < 9 → w = nI j → K (some (ofTankM σ a j)) σ) : AW (d + 2) mX4_ofTank 0 (ax_en mX4_ofTank [.inr (28, 0), .inl t, .inl w]) [] σ K := by
  show AW _ mX4_ofTank 0 [_, _, _] _ _ _
  refine aw_aload_n dX4_ofTank_0 rfl rfl ?_
  refine aw_iload_n dX4_ofTank_1 rfl rfl ?_
  refine aw_V1 (M' := mX4_isTank) dX4_ofTank_2 rfl lkX4_78 gX4_isTank rfl rfl (Nat.le_of_ble_eq_true rfl) (sX4_isTank hn h0 ?_)
  show AW _ mX4_ofTank 5 _ (_ :: _) _ _
  refine aw_if_neb (tgt := 10) dX4_ofTank_5 rfl rfl (fun c5 => ?_) (fun c5 => ?_)
  · skip
    have hin := c5
    obtain ⟨a, ha, rfl⟩ := ixn_of c5 (by omega)
    have hca : (nI a).toNatClampNeg = a := nI_clamp (by omega)
    refine aw_iload_n dX4_ofTank_10 rfl rfl ?_
    refine aw_tsw 9 dX4_ofTank_11 rfl (by decide) (by decide) (fun j hj sx => ?_) (fun sx => ?_)
    · match j, hj with
      | 0, _ =>
        refine AW.conv (pc := 60) ?_ rfl rfl rfl
        refine aw_aload_n dX4_ofTank_60 rfl rfl ?_
        refine aw_getR dX4_ofTank_61 rfl rfl rfl (by decide) flX4_7 ?_
        refine aw_iload_n dX4_ofTank_64 rfl rfl ?_
        refine aw_iald dX4_ofTank_65 rfl rfl (by first | exact vp_in_nI (by omega) (by omega) | decide) ?_
        refine aw_ret dX4_ofTank_66 rfl rfl ?_
        exact kk_c (k3 a ha rfl 0 (by decide) sx) (by simp only [ofTankM, hca]) rfl
      | 1, _ =>
        refine AW.conv (pc := 67) ?_ rfl rfl rfl
        refine aw_aload_n dX4_ofTank_67 rfl rfl ?_
        refine aw_getR dX4_ofTank_68 rfl rfl rfl (by decide) flX4_13 ?_
        refine aw_iload_n dX4_ofTank_71 rfl rfl ?_
        refine aw_iald dX4_ofTank_72 rfl rfl (by first | exact vp_in_nI (by omega) (by omega) | decide) ?_
        refine aw_ret dX4_ofTank_73 rfl rfl ?_
        exact kk_c (k3 a ha rfl 1 (by decide) sx) (by simp only [ofTankM, hca]) rfl
      | 2, _ =>
        refine AW.conv (pc := 74) ?_ rfl rfl rfl
        refine aw_aload_n dX4_ofTank_74 rfl rfl ?_
        refine aw_getR dX4_ofTank_75 rfl rfl rfl (by decide) flX4_16 ?_
        refine aw_iload_n dX4_ofTank_78 rfl rfl ?_
        refine aw_iald dX4_ofTank_79 rfl rfl (by first | exact vp_in_nI (by omega) (by omega) | decide) ?_
        refine aw_bipush 10 dX4_ofTank_80 rfl (by decide) ?_
        refine aw_iadd dX4_ofTank_82 rfl ?_
        refine aw_ret dX4_ofTank_83 rfl rfl ?_
        exact kk_c (k3 a ha rfl 2 (by decide) sx) (by simp only [ofTankM, hca]) rfl
      | 3, _ =>
        refine AW.conv (pc := 84) ?_ rfl rfl rfl
        refine aw_aload_n dX4_ofTank_84 rfl rfl ?_
        refine aw_getR dX4_ofTank_85 rfl rfl rfl (by decide) flX4_19 ?_
        refine aw_iload_n dX4_ofTank_88 rfl rfl ?_
        refine aw_iald dX4_ofTank_89 rfl rfl (by first | exact vp_in_nI (by omega) (by omega) | decide) ?_
        refine aw_ret dX4_ofTank_90 rfl rfl ?_
        exact kk_c (k3 a ha rfl 3 (by decide) sx) (by simp only [ofTankM, hca]) rfl
      | 4, _ =>
        refine AW.conv (pc := 91) ?_ rfl rfl rfl
        refine aw_aload_n dX4_ofTank_91 rfl rfl ?_
        refine aw_getR dX4_ofTank_92 rfl rfl rfl (by decide) flX4_22 ?_
        refine aw_iconst 3 dX4_ofTank_95 rfl (by decide) ?_
        refine aw_iload_n dX4_ofTank_96 rfl rfl ?_
        refine aw_imul dX4_ofTank_97 rfl ?_
        refine aw_iload_n dX4_ofTank_98 rfl rfl ?_
        refine aw_iadd dX4_ofTank_99 rfl ?_
        refine aw_iconst 4 dX4_ofTank_100 rfl (by decide) ?_
        refine aw_isub dX4_ofTank_101 rfl ?_
        refine aw_iald dX4_ofTank_102 rfl rfl (by rw [sx, ot4 (by decide)]; exact vp_in_nI (by omega) (by omega)) ?_
        refine aw_ret dX4_ofTank_103 rfl rfl ?_
        rw [sx, ot4 (by decide), nI_clamp (by omega)]
        first | exact kk_c (k3 a ha rfl 4 (by decide) sx) (by rw [ofTankM, show 3 * a + 4 - 4 = 3 * a by omega]) rfl | exact kk_c (k3 a ha rfl 5 (by decide) sx) (by rw [ofTankM, show 3 * a + 5 - 4 = 3 * a + 1 by omega]) rfl | exact kk_c (k3 a ha rfl 6 (by decide) sx) (by rw [ofTankM, show 3 * a + 6 - 4 = 3 * a + 2 by omega]) rfl
      | 5, _ =>
        refine AW.conv (pc := 91) ?_ rfl rfl rfl
        refine aw_aload_n dX4_ofTank_91 rfl rfl ?_
        refine aw_getR dX4_ofTank_92 rfl rfl rfl (by decide) flX4_22 ?_
        refine aw_iconst 3 dX4_ofTank_95 rfl (by decide) ?_
        refine aw_iload_n dX4_ofTank_96 rfl rfl ?_
        refine aw_imul dX4_ofTank_97 rfl ?_
        refine aw_iload_n dX4_ofTank_98 rfl rfl ?_
        refine aw_iadd dX4_ofTank_99 rfl ?_
        refine aw_iconst 4 dX4_ofTank_100 rfl (by decide) ?_
        refine aw_isub dX4_ofTank_101 rfl ?_
        refine aw_iald dX4_ofTank_102 rfl rfl (by rw [sx, ot4 (by decide)]; exact vp_in_nI (by omega) (by omega)) ?_
        refine aw_ret dX4_ofTank_103 rfl rfl ?_
        rw [sx, ot4 (by decide), nI_clamp (by omega)]
        first | exact kk_c (k3 a ha rfl 4 (by decide) sx) (by rw [ofTankM, show 3 * a + 4 - 4 = 3 * a by omega]) rfl | exact kk_c (k3 a ha rfl 5 (by decide) sx) (by rw [ofTankM, show 3 * a + 5 - 4 = 3 * a + 1 by omega]) rfl | exact kk_c (k3 a ha rfl 6 (by decide) sx) (by rw [ofTankM, show 3 * a + 6 - 4 = 3 * a + 2 by omega]) rfl
      | 6, _ =>
        refine AW.conv (pc := 91) ?_ rfl rfl rfl
        refine aw_aload_n dX4_ofTank_91 rfl rfl ?_
        refine aw_getR dX4_ofTank_92 rfl rfl rfl (by decide) flX4_22 ?_
        refine aw_iconst 3 dX4_ofTank_95 rfl (by decide) ?_
        refine aw_iload_n dX4_ofTank_96 rfl rfl ?_
        refine aw_imul dX4_ofTank_97 rfl ?_
        refine aw_iload_n dX4_ofTank_98 rfl rfl ?_
        refine aw_iadd dX4_ofTank_99 rfl ?_
        refine aw_iconst 4 dX4_ofTank_100 rfl (by decide) ?_
        refine aw_isub dX4_ofTank_101 rfl ?_
        refine aw_iald dX4_ofTank_102 rfl rfl (by rw [sx, ot4 (by decide)]; exact vp_in_nI (by omega) (by omega)) ?_
        refine aw_ret dX4_ofTank_103 rfl rfl ?_
        rw [sx, ot4 (by decide), nI_clamp (by omega)]
        first | exact kk_c (k3 a ha rfl 4 (by decide) sx) (by rw [ofTankM, show 3 * a + 4 - 4 = 3 * a by omega]) rfl | exact kk_c (k3 a ha rfl 5 (by decide) sx) (by rw [ofTankM, show 3 * a + 5 - 4 = 3 * a + 1 by omega]) rfl | exact kk_c (k3 a ha rfl 6 (by decide) sx) (by rw [ofTankM, show 3 * a + 6 - 4 = 3 * a + 2 by omega]) rfl
      | 7, _ =>
        refine AW.conv (pc := 104) ?_ rfl rfl rfl
        refine aw_aload_n dX4_ofTank_104 rfl rfl ?_
        refine aw_getR dX4_ofTank_105 rfl rfl rfl (by decide) flX4_28 ?_
        refine aw_iload_n dX4_ofTank_108 rfl rfl ?_
        refine aw_iald dX4_ofTank_109 rfl rfl (by first | exact vp_in_nI (by omega) (by omega) | decide) ?_
        refine aw_ret dX4_ofTank_110 rfl rfl ?_
        exact kk_c (k3 a ha rfl 7 (by decide) sx) (by simp only [ofTankM, hca]) rfl
      | 8, _ =>
        refine AW.conv (pc := 111) ?_ rfl rfl rfl
        refine aw_aload_n dX4_ofTank_111 rfl rfl ?_
        refine aw_getR dX4_ofTank_112 rfl rfl rfl (by decide) flX4_31 ?_
        refine aw_iload_n dX4_ofTank_115 rfl rfl ?_
        refine aw_iald dX4_ofTank_116 rfl rfl (by first | exact vp_in_nI (by omega) (by omega) | decide) ?_
        refine aw_ret dX4_ofTank_117 rfl rfl ?_
        exact kk_c (k3 a ha rfl 8 (by decide) sx) (by simp only [ofTankM, hca]) rfl
      | j + 9, hj => exact absurd hj (by omega)
    · refine AW.conv (pc := 118) ?_ rfl rfl rfl
      refine aw_bipush (-2) dX4_ofTank_118 rfl (by decide) ?_
      refine aw_ret dX4_ofTank_120 rfl rfl ?_
      exact k2 hin sx
  · skip
    refine aw_iconst (-1) dX4_ofTank_8 rfl (by decide) ?_
    refine aw_ret dX4_ofTank_9 rfl rfl ?_
    exact k1 c5
set_option maxRecDepth 4000 in
theorem sX4_doClash {d : Nat} {σ : SS} {K : ax_K} {c e : Nat} (hc : c < 4) (he : e < 4) (hK : K (some (bB (clB σ c e))) σ) : AW (d + 1) mX4_doClash 0 (ax_en mX4_doClash [.inr (28, 0), .inl (nI c), .inl (nI e)]) [] σ K := by
  have hcc : (nI c).toNatClampNeg = c := nI_clamp (by omega)
  have hce : (nI e).toNatClampNeg = e := nI_clamp (by omega)
  show AW _ mX4_doClash 0 [_, _, _] _ _ _
  refine aw_aload_n dX4_doClash_0 rfl rfl ?_
  refine aw_getR dX4_doClash_1 rfl rfl rfl (by decide) flX4_49 ?_
  refine aw_iload_n dX4_doClash_4 rfl rfl ?_
  refine aw_iald dX4_doClash_5 rfl rfl (by first | exact vp_in_nI (by omega) (by omega) | decide) ?_
  try simp only [hcc]
  try simp only [hce]
  refine aw_aload_n dX4_doClash_6 rfl rfl ?_
  refine aw_getR dX4_doClash_7 rfl rfl rfl (by decide) flX4_34 ?_
  refine aw_iload_n dX4_doClash_10 rfl rfl ?_
  refine aw_iald dX4_doClash_11 rfl rfl (by first | exact vp_in_nI (by omega) (by omega) | decide) ?_
  try simp only [hcc]
  try simp only [hce]
  refine aw_S2 (M' := mX4_has) dX4_doClash_12 rfl lkX4_86 gX4_has (Nat.le_of_ble_eq_true rfl) (sX4_has ?_)
  show AW _ mX4_doClash 15 _ (_ :: _) _ _
  refine aw_if_neB (tgt := 36) dX4_doClash_15 rfl rfl (fun c15 => ?_) (fun c15 => ?_)
  · skip
    refine aw_iconst 1 dX4_doClash_36 rfl (by decide) ?_
    refine aw_goto (q := 41) dX4_doClash_37 rfl ?_
    refine aw_ret dX4_doClash_41 rfl (by decide) ?_
    exact kk_c hK (by simp [clB, bB, c15]) rfl
  · skip
    refine aw_aload_n dX4_doClash_18 rfl rfl ?_
    refine aw_getR dX4_doClash_19 rfl rfl rfl (by decide) flX4_49 ?_
    refine aw_iload_n dX4_doClash_22 rfl rfl ?_
    refine aw_iald dX4_doClash_23 rfl rfl (by first | exact vp_in_nI (by omega) (by omega) | decide) ?_
    try simp only [hcc]
    try simp only [hce]
    refine aw_aload_n dX4_doClash_24 rfl rfl ?_
    refine aw_getR dX4_doClash_25 rfl rfl rfl (by decide) flX4_34 ?_
    refine aw_iload_n dX4_doClash_28 rfl rfl ?_
    refine aw_iald dX4_doClash_29 rfl rfl (by first | exact vp_in_nI (by omega) (by omega) | decide) ?_
    try simp only [hcc]
    try simp only [hce]
    refine aw_S2 (M' := mX4_has) dX4_doClash_30 rfl lkX4_86 gX4_has (Nat.le_of_ble_eq_true rfl) (sX4_has ?_)
    show AW _ mX4_doClash 33 _ (_ :: _) _ _
    refine aw_if_eqB (tgt := 40) dX4_doClash_33 rfl rfl (fun c33 => ?_) (fun c33 => ?_)
    · skip
      refine aw_iconst 0 dX4_doClash_40 rfl (by decide) ?_
      refine aw_ret dX4_doClash_41 rfl (by decide) ?_
      exact kk_c hK (by simp [clB, bB, c15, c33]) rfl
    · skip
      refine aw_iconst 1 dX4_doClash_36 rfl (by decide) ?_
      refine aw_goto (q := 41) dX4_doClash_37 rfl ?_
      refine aw_ret dX4_doClash_41 rfl (by decide) ?_
      exact kk_c hK (by simp [clB, bB, c15, c33]) rfl
set_option maxRecDepth 4000 in
theorem sX4_clashes {d : Nat} {σ : SS} {K : ax_K} {c : Nat} {cn : Nat} (hcc : c < 4) (hc : cn ≤ 4) (h9 : σ 28 0 9 = nI cn) (hK : K (some (setI cn (fun e => clB σ c e = true))) σ) : AW (d + 2) mX4_clashes 0 (ax_en mX4_clashes [.inr (28, 0), .inl (nI c)]) [] σ K := by
  show AW _ mX4_clashes 0 [_, _, _, _] _ _ _
  refine aw_iconst 0 dX4_clashes_0 rfl (by decide) ?_
  refine aw_istore_n dX4_clashes_1 rfl (by decide) ?_
  show AW _ mX4_clashes 2 [_, _, _, _] _ _ _
  refine aw_iconst 0 dX4_clashes_2 rfl (by decide) ?_
  refine aw_istore_n dX4_clashes_3 rfl (by decide) ?_
  show AW _ mX4_clashes 4 [_, _, _, _] _ _ _
  refine AW.conv (ax_loop (P := fun i => AW (d + 2) mX4_clashes 4 [some (.inr (28, 0)), some (.inl (nI c)), some (.inl (setI i (fun e => clB σ c e = true))), some (.inl (nI i))] [] σ K) cn ?_ ?_ 0 (Nat.zero_le _)) (by first | (simp only [nI_0]; done) | (simp only [nI_0]; rfl)) rfl rfl
  · try dsimp only
    refine aw_iload_n dX4_clashes_4 rfl rfl ?_
    refine aw_aload_n dX4_clashes_5 rfl rfl ?_
    refine aw_getI dX4_clashes_6 rfl rfl rfl flX4_92 ?_
    refine aw_icmp_ge (tgt := 37) dX4_clashes_9 rfl rfl (fun _ => ?_) (fun z => absurd (by rw [h9]; exact Int32.le_refl _) z)
    refine aw_iload_n dX4_clashes_37 rfl rfl ?_
    refine aw_ret dX4_clashes_38 rfl rfl ?_
    exact hK
  · intro i hi_4 nx_4
    try dsimp only at nx_4 ⊢
    refine aw_iload_n dX4_clashes_4 rfl rfl ?_
    refine aw_aload_n dX4_clashes_5 rfl rfl ?_
    refine aw_getI dX4_clashes_6 rfl rfl rfl flX4_92 ?_
    refine aw_icmp_ge (tgt := 37) dX4_clashes_9 rfl rfl (fun z => absurd z (by rw [h9]; exact nI_ge hi_4 (by omega))) (fun _ => ?_)
    refine aw_iload_n dX4_clashes_12 rfl rfl ?_
    refine aw_aload_n dX4_clashes_13 rfl rfl ?_
    refine aw_iload_n dX4_clashes_14 rfl rfl ?_
    refine aw_iload_n dX4_clashes_15 rfl rfl ?_
    refine aw_V2 (M' := mX4_doClash) dX4_clashes_16 rfl lkX4_105 gX4_doClash rfl rfl (Nat.le_of_ble_eq_true rfl) (sX4_doClash (by omega) (by omega) ?_)
    show AW _ mX4_clashes 19 _ (_ :: _) _ _
    refine aw_if_eqB (tgt := 28) dX4_clashes_19 rfl rfl (fun c19 => ?_) (fun c19 => ?_)
    · skip
      refine aw_iconst 0 dX4_clashes_28 rfl (by decide) ?_
      refine aw_ior dX4_clashes_29 rfl ?_
      refine aw_istore_n dX4_clashes_30 rfl (by decide) ?_
      show AW _ mX4_clashes 31 [_, _, _, _] _ _ _
      refine aw_iinc dX4_clashes_31 rfl rfl (ii_1 _) (by decide) ?_
      show AW _ mX4_clashes 34 [_, _, _, _] _ _ _
      refine aw_goto (q := 4) dX4_clashes_34 rfl ?_
      refine AW.conv nx_4 ?_ rfl rfl
      simp only [nI_succ, setI, lp_s]
      simp [hs, c19]
    · skip
      refine aw_iconst 1 dX4_clashes_22 rfl (by decide) ?_
      refine aw_iload_n dX4_clashes_23 rfl rfl ?_
      refine aw_ishl dX4_clashes_24 rfl ?_
      refine aw_goto (q := 29) dX4_clashes_25 rfl ?_
      refine aw_ior dX4_clashes_29 rfl ?_
      refine aw_istore_n dX4_clashes_30 rfl (by decide) ?_
      show AW _ mX4_clashes 31 [_, _, _, _] _ _ _
      refine aw_iinc dX4_clashes_31 rfl rfl (ii_1 _) (by decide) ?_
      show AW _ mX4_clashes 34 [_, _, _, _] _ _ _
      refine aw_goto (q := 4) dX4_clashes_34 rfl ?_
      refine AW.conv nx_4 ?_ rfl rfl
      simp only [nI_succ, setI, lp_s]
      simp [hs, c19]
set_option maxRecDepth 4000 in
theorem sX4_washesFor {d : Nat} {σ : SS} {K : ax_K} {t c : Nat} (ht : t < 6) (hc : c < 4) (hl : lt9 (σ 33 0 (3 * t))) (hq : ∃ j, j < 8 ∧ σ 37 0 c = nI j) (hK : K (some (wf (σ 43 0) (σ 33 0 (3 * t)) (σ 37 0 c))) σ) : AW d mX4_washesFor 0 (ax_en mX4_washesFor [.inr (28, 0), .inl (nI t), .inl (nI c)]) [] σ K := by
  have hcc : (nI c).toNatClampNeg = c := nI_clamp (by omega)
  have hct : (nI (3 * t)).toNatClampNeg = 3 * t := nI_clamp (by omega)
  show AW _ mX4_washesFor 0 [_, _, _, _] _ _ _
  refine aw_aload_n dX4_washesFor_0 rfl rfl ?_
  refine aw_getR dX4_washesFor_1 rfl rfl rfl (by decide) flX4_22 ?_
  refine aw_iconst 3 dX4_washesFor_4 rfl (by decide) ?_
  refine aw_iload_n dX4_washesFor_5 rfl rfl ?_
  refine aw_imul dX4_washesFor_6 rfl ?_
  refine aw_iald dX4_washesFor_7 rfl rfl (by rw [ix30]; exact vp_in_nI (by omega) (by omega)) ?_
  try simp only [hcc]
  try simp only [ix30]
  try simp only [hct]
  refine aw_istore_n dX4_washesFor_8 rfl (by decide) ?_
  show AW _ mX4_washesFor 9 [_, _, _, _] _ _ _
  refine aw_iload_n dX4_washesFor_9 rfl rfl ?_
  refine aw_bipush (-9) dX4_washesFor_10 rfl (by decide) ?_
  refine aw_icmp_ne (tgt := 19) dX4_washesFor_12 rfl rfl (fun c12 => ?_) (fun c12 => ?_)
  · skip
    obtain ⟨a, ha, ea⟩ := hl.resolve_left c12
    obtain ⟨b, hb, eb⟩ := hq
    refine aw_aload_n dX4_washesFor_19 rfl rfl ?_
    refine aw_getR dX4_washesFor_20 rfl rfl rfl (by decide) flX4_52 ?_
    refine aw_bipush 8 dX4_washesFor_23 rfl (by decide) ?_
    refine aw_iload_n dX4_washesFor_25 rfl rfl ?_
    refine aw_imul dX4_washesFor_26 rfl ?_
    refine aw_aload_n dX4_washesFor_27 rfl rfl ?_
    refine aw_getR dX4_washesFor_28 rfl rfl rfl (by decide) flX4_34 ?_
    refine aw_iload_n dX4_washesFor_31 rfl rfl ?_
    refine aw_iald dX4_washesFor_32 rfl rfl (by first | exact vp_in_nI (by omega) (by omega) | decide) ?_
    try simp only [hcc]
    try simp only [ix30]
    try simp only [hct]
    refine aw_iadd dX4_washesFor_33 rfl ?_
    refine aw_iald dX4_washesFor_34 rfl rfl (by rw [ea, eb, ix8]; exact vp_in_nI (by omega) (by omega)) ?_
    try simp only [hcc]
    try simp only [ix30]
    try simp only [hct]
    refine aw_ret dX4_washesFor_35 rfl rfl ?_
    first | exact kk_c hK (by rw [wf, if_pos c12]) rfl | exact kk_c hK (by rw [wf, if_neg c12]) rfl
  · skip
    refine aw_iconst 0 dX4_washesFor_15 rfl (by decide) ?_
    refine aw_goto (q := 35) dX4_washesFor_16 rfl ?_
    refine aw_ret dX4_washesFor_35 rfl rfl ?_
    first | exact kk_c hK (by rw [wf, if_pos c12]) rfl | exact kk_c hK (by rw [wf, if_neg c12]) rfl
set_option maxRecDepth 4000 in
theorem sX4_whyNot {d : Nat} {σ : SS} {K : ax_K} {t c : Nat} (ht : t < 6) (hc : c < 4) (hK : K (some (whyM (σ 39 0 c) (σ 40 0 c) (σ 41 0 c) (σ 30 0 t) (fun k => σ 33 0 (3 * t + k)))) σ) : AW (d + 1) mX4_whyNot 0 (ax_en mX4_whyNot [.inr (28, 0), .inl (nI t), .inl (nI c)]) [] σ K := by
  have hcc : (nI c).toNatClampNeg = c := nI_clamp (by omega)
  have hct : (nI t).toNatClampNeg = t := nI_clamp (by omega)
  show AW _ mX4_whyNot 0 [_, _, _, _, _, _] _ _ _
  refine aw_aload_n dX4_whyNot_0 rfl rfl ?_
  refine aw_getR dX4_whyNot_1 rfl rfl rfl (by decide) flX4_40 ?_
  refine aw_iload_n dX4_whyNot_4 rfl rfl ?_
  refine aw_iald dX4_whyNot_5 rfl rfl (by first | exact vp_in_nI (by omega) (by omega) | decide) ?_
  try simp only [hcc]
  try simp only [hct]
  refine aw_aload_n dX4_whyNot_6 rfl rfl ?_
  refine aw_getR dX4_whyNot_7 rfl rfl rfl (by decide) flX4_13 ?_
  refine aw_iload_n dX4_whyNot_10 rfl rfl ?_
  refine aw_iald dX4_whyNot_11 rfl rfl (by first | exact vp_in_nI (by omega) (by omega) | decide) ?_
  try simp only [hcc]
  try simp only [hct]
  refine aw_S2 (M' := mX4_has) dX4_whyNot_12 rfl lkX4_86 gX4_has (Nat.le_of_ble_eq_true rfl) (sX4_has ?_)
  show AW _ mX4_whyNot 15 _ (_ :: _) _ _
  refine aw_if_eqB (tgt := 22) dX4_whyNot_15 rfl rfl (fun c15 => ?_) (fun c15 => ?_)
  · skip
    refine aw_iconst 1 dX4_whyNot_22 rfl (by decide) ?_
    refine aw_istore_n dX4_whyNot_23 rfl (by decide) ?_
    show AW _ mX4_whyNot 24 [_, _, _, _, _, _] _ _ _
    refine aw_iconst 0 dX4_whyNot_24 rfl (by decide) ?_
    refine aw_istore dX4_whyNot_25 rfl (by decide) ?_
    show AW _ mX4_whyNot 27 [_, _, _, _, _, _] _ _ _
    refine AW.conv (ax_loop (P := fun i => AW (d + 1) mX4_whyNot 27 [some (.inr (28, 0)), some (.inl (nI t)), some (.inl (nI c)), some (.inl (whyL (σ 39 0 c) (σ 40 0 c) (σ 41 0 c) (σ 30 0 t) (fun k => σ 33 0 (3 * t + k)) i)), some (.inl (nI i)), none] [] σ K) 3 ?_ ?_ 0 (Nat.zero_le _)) (by simp only [nI_0, whyL, lp_0]; simp [c15]) rfl rfl
    · try dsimp only
      refine aw_iload dX4_whyNot_27 rfl rfl ?_
      refine aw_iconst 3 dX4_whyNot_29 rfl (by decide) ?_
      refine aw_icmp_ge (tgt := 108) dX4_whyNot_30 rfl rfl (fun _ => ?_) (fun z => absurd (by decide) z)
      refine aw_iload_n dX4_whyNot_108 rfl rfl ?_
      refine aw_ret dX4_whyNot_109 rfl rfl ?_
      exact hK
    · intro i hi_27 nx_27
      try dsimp only at nx_27 ⊢
      have hc3 : (nI (3 * t + i)).toNatClampNeg = 3 * t + i := nI_clamp (by omega)
      refine aw_iload dX4_whyNot_27 rfl rfl ?_
      refine aw_iconst 3 dX4_whyNot_29 rfl (by decide) ?_
      refine aw_icmp_ge (tgt := 108) dX4_whyNot_30 rfl rfl (fun z => absurd z (nI_ge (b := 3) hi_27 (by omega))) (fun _ => ?_)
      refine aw_aload_n dX4_whyNot_33 rfl rfl ?_
      refine aw_getR dX4_whyNot_34 rfl rfl rfl (by decide) flX4_22 ?_
      refine aw_iconst 3 dX4_whyNot_37 rfl (by decide) ?_
      refine aw_iload_n dX4_whyNot_38 rfl rfl ?_
      refine aw_imul dX4_whyNot_39 rfl ?_
      refine aw_iload dX4_whyNot_40 rfl rfl ?_
      refine aw_iadd dX4_whyNot_42 rfl ?_
      refine aw_iald dX4_whyNot_43 rfl rfl (by rw [ix3]; exact vp_in_nI (by omega) (by omega)) ?_
      try simp only [hcc]
      try simp only [hct]
      rw [ix3, hc3]
      refine aw_istore dX4_whyNot_44 rfl (by decide) ?_
      show AW _ mX4_whyNot 46 [_, _, _, _, _, _] _ _ _
      refine aw_iload dX4_whyNot_46 rfl rfl ?_
      refine aw_bipush (-9) dX4_whyNot_48 rfl (by decide) ?_
      refine aw_icmp_eq (tgt := 102) dX4_whyNot_50 rfl rfl (fun c50 => ?_) (fun c50 => ?_)
      · skip
        refine aw_iinc dX4_whyNot_102 rfl rfl (ii_1 _) (by decide) ?_
        show AW _ mX4_whyNot 105 [_, _, _, _, _, _] _ _ _
        refine aw_goto (q := 27) dX4_whyNot_105 rfl ?_
        refine AW.conv (AW.forget nx_27 (ls := [some (.inr (28, 0)), some (.inl (nI t)), some (.inl (nI c)), some (.inl (whyL (σ 39 0 c) (σ 40 0 c) (σ 41 0 c) (σ 30 0 t) (fun k => σ 33 0 (3 * t + k)) (i + 1))), some (.inl (nI (i + 1))), some (.inl (σ 33 0 (3 * t + i)))]) (fun n v h => by
          match n, h with
          | 0, h => exact h
          | 1, h => exact h
          | 2, h => exact h
          | 3, h => exact h
          | 4, h => exact h
          | 5, h => cases h
          | n + 6, h => simp at h)) ?_ rfl rfl
        simp only [nI_succ, whyL, lp_s]
        simp [hs, c50]
      · skip
        refine aw_iload_n dX4_whyNot_53 rfl rfl ?_
        refine aw_iload dX4_whyNot_54 rfl rfl ?_
        refine aw_if_ne (tgt := 77) dX4_whyNot_56 rfl rfl (fun c56 => ?_) (fun c56 => ?_)
        · skip
          refine aw_iconst 0 dX4_whyNot_77 rfl (by decide) ?_
          refine aw_ior dX4_whyNot_78 rfl ?_
          refine aw_istore_n dX4_whyNot_79 rfl (by decide) ?_
          show AW _ mX4_whyNot 80 [_, _, _, _, _, _] _ _ _
          refine aw_iload_n dX4_whyNot_80 rfl rfl ?_
          refine aw_aload_n dX4_whyNot_81 rfl rfl ?_
          refine aw_getR dX4_whyNot_82 rfl rfl rfl (by decide) flX4_46 ?_
          refine aw_iload_n dX4_whyNot_85 rfl rfl ?_
          refine aw_iald dX4_whyNot_86 rfl rfl (by first | exact vp_in_nI (by omega) (by omega) | decide) ?_
          try simp only [hcc]
          try simp only [hct]
          refine aw_iload dX4_whyNot_87 rfl rfl ?_
          refine aw_S2 (M' := mX4_has) dX4_whyNot_89 rfl lkX4_86 gX4_has (Nat.le_of_ble_eq_true rfl) (sX4_has ?_)
          show AW _ mX4_whyNot 92 _ (_ :: _) _ _
          refine aw_if_eqB (tgt := 99) dX4_whyNot_92 rfl rfl (fun c92 => ?_) (fun c92 => ?_)
          · skip
            refine aw_iconst 0 dX4_whyNot_99 rfl (by decide) ?_
            refine aw_ior dX4_whyNot_100 rfl ?_
            refine aw_istore_n dX4_whyNot_101 rfl (by decide) ?_
            show AW _ mX4_whyNot 102 [_, _, _, _, _, _] _ _ _
            refine aw_iinc dX4_whyNot_102 rfl rfl (ii_1 _) (by decide) ?_
            show AW _ mX4_whyNot 105 [_, _, _, _, _, _] _ _ _
            refine aw_goto (q := 27) dX4_whyNot_105 rfl ?_
            refine AW.conv (AW.forget nx_27 (ls := [some (.inr (28, 0)), some (.inl (nI t)), some (.inl (nI c)), some (.inl (whyL (σ 39 0 c) (σ 40 0 c) (σ 41 0 c) (σ 30 0 t) (fun k => σ 33 0 (3 * t + k)) (i + 1))), some (.inl (nI (i + 1))), some (.inl (σ 33 0 (3 * t + i)))]) (fun n v h => by
              match n, h with
              | 0, h => exact h
              | 1, h => exact h
              | 2, h => exact h
              | 3, h => exact h
              | 4, h => exact h
              | 5, h => cases h
              | n + 6, h => simp at h)) ?_ rfl rfl
            simp only [nI_succ, whyL, lp_s]
            simp [hs, c50, c56, c92]
          · skip
            refine aw_iconst 4 dX4_whyNot_95 rfl (by decide) ?_
            refine aw_goto (q := 100) dX4_whyNot_96 rfl ?_
            refine aw_ior dX4_whyNot_100 rfl ?_
            refine aw_istore_n dX4_whyNot_101 rfl (by decide) ?_
            show AW _ mX4_whyNot 102 [_, _, _, _, _, _] _ _ _
            refine aw_iinc dX4_whyNot_102 rfl rfl (ii_1 _) (by decide) ?_
            show AW _ mX4_whyNot 105 [_, _, _, _, _, _] _ _ _
            refine aw_goto (q := 27) dX4_whyNot_105 rfl ?_
            refine AW.conv (AW.forget nx_27 (ls := [some (.inr (28, 0)), some (.inl (nI t)), some (.inl (nI c)), some (.inl (whyL (σ 39 0 c) (σ 40 0 c) (σ 41 0 c) (σ 30 0 t) (fun k => σ 33 0 (3 * t + k)) (i + 1))), some (.inl (nI (i + 1))), some (.inl (σ 33 0 (3 * t + i)))]) (fun n v h => by
              match n, h with
              | 0, h => exact h
              | 1, h => exact h
              | 2, h => exact h
              | 3, h => exact h
              | 4, h => exact h
              | 5, h => cases h
              | n + 6, h => simp at h)) ?_ rfl rfl
            simp only [nI_succ, whyL, lp_s]
            simp [hs, c50, c56, c92]
        · skip
          refine aw_aload_n dX4_whyNot_59 rfl rfl ?_
          refine aw_getR dX4_whyNot_60 rfl rfl rfl (by decide) flX4_43 ?_
          refine aw_iload_n dX4_whyNot_63 rfl rfl ?_
          refine aw_iald dX4_whyNot_64 rfl rfl (by first | exact vp_in_nI (by omega) (by omega) | decide) ?_
          try simp only [hcc]
          try simp only [hct]
          refine aw_iload dX4_whyNot_65 rfl rfl ?_
          refine aw_S2 (M' := mX4_has) dX4_whyNot_67 rfl lkX4_86 gX4_has (Nat.le_of_ble_eq_true rfl) (sX4_has ?_)
          show AW _ mX4_whyNot 70 _ (_ :: _) _ _
          refine aw_if_eqB (tgt := 77) dX4_whyNot_70 rfl rfl (fun c70 => ?_) (fun c70 => ?_)
          · skip
            refine aw_iconst 0 dX4_whyNot_77 rfl (by decide) ?_
            refine aw_ior dX4_whyNot_78 rfl ?_
            refine aw_istore_n dX4_whyNot_79 rfl (by decide) ?_
            show AW _ mX4_whyNot 80 [_, _, _, _, _, _] _ _ _
            refine aw_iload_n dX4_whyNot_80 rfl rfl ?_
            refine aw_aload_n dX4_whyNot_81 rfl rfl ?_
            refine aw_getR dX4_whyNot_82 rfl rfl rfl (by decide) flX4_46 ?_
            refine aw_iload_n dX4_whyNot_85 rfl rfl ?_
            refine aw_iald dX4_whyNot_86 rfl rfl (by first | exact vp_in_nI (by omega) (by omega) | decide) ?_
            try simp only [hcc]
            try simp only [hct]
            refine aw_iload dX4_whyNot_87 rfl rfl ?_
            refine aw_S2 (M' := mX4_has) dX4_whyNot_89 rfl lkX4_86 gX4_has (Nat.le_of_ble_eq_true rfl) (sX4_has ?_)
            show AW _ mX4_whyNot 92 _ (_ :: _) _ _
            refine aw_if_eqB (tgt := 99) dX4_whyNot_92 rfl rfl (fun c92 => ?_) (fun c92 => ?_)
            · skip
              refine aw_iconst 0 dX4_whyNot_99 rfl (by decide) ?_
              refine aw_ior dX4_whyNot_100 rfl ?_
              refine aw_istore_n dX4_whyNot_101 rfl (by decide) ?_
              show AW _ mX4_whyNot 102 [_, _, _, _, _, _] _ _ _
              refine aw_iinc dX4_whyNot_102 rfl rfl (ii_1 _) (by decide) ?_
              show AW _ mX4_whyNot 105 [_, _, _, _, _, _] _ _ _
              refine aw_goto (q := 27) dX4_whyNot_105 rfl ?_
              refine AW.conv (AW.forget nx_27 (ls := [some (.inr (28, 0)), some (.inl (nI t)), some (.inl (nI c)), some (.inl (whyL (σ 39 0 c) (σ 40 0 c) (σ 41 0 c) (σ 30 0 t) (fun k => σ 33 0 (3 * t + k)) (i + 1))), some (.inl (nI (i + 1))), some (.inl (σ 33 0 (3 * t + i)))]) (fun n v h => by
                match n, h with
                | 0, h => exact h
                | 1, h => exact h
                | 2, h => exact h
                | 3, h => exact h
                | 4, h => exact h
                | 5, h => cases h
                | n + 6, h => simp at h)) ?_ rfl rfl
              simp only [nI_succ, whyL, lp_s]
              simp [hs, c50, c56, c70, c92]
            · skip
              refine aw_iconst 4 dX4_whyNot_95 rfl (by decide) ?_
              refine aw_goto (q := 100) dX4_whyNot_96 rfl ?_
              refine aw_ior dX4_whyNot_100 rfl ?_
              refine aw_istore_n dX4_whyNot_101 rfl (by decide) ?_
              show AW _ mX4_whyNot 102 [_, _, _, _, _, _] _ _ _
              refine aw_iinc dX4_whyNot_102 rfl rfl (ii_1 _) (by decide) ?_
              show AW _ mX4_whyNot 105 [_, _, _, _, _, _] _ _ _
              refine aw_goto (q := 27) dX4_whyNot_105 rfl ?_
              refine AW.conv (AW.forget nx_27 (ls := [some (.inr (28, 0)), some (.inl (nI t)), some (.inl (nI c)), some (.inl (whyL (σ 39 0 c) (σ 40 0 c) (σ 41 0 c) (σ 30 0 t) (fun k => σ 33 0 (3 * t + k)) (i + 1))), some (.inl (nI (i + 1))), some (.inl (σ 33 0 (3 * t + i)))]) (fun n v h => by
                match n, h with
                | 0, h => exact h
                | 1, h => exact h
                | 2, h => exact h
                | 3, h => exact h
                | 4, h => exact h
                | 5, h => cases h
                | n + 6, h => simp at h)) ?_ rfl rfl
              simp only [nI_succ, whyL, lp_s]
              simp [hs, c50, c56, c70, c92]
          · skip
            refine aw_iconst 2 dX4_whyNot_73 rfl (by decide) ?_
            refine aw_goto (q := 78) dX4_whyNot_74 rfl ?_
            refine aw_ior dX4_whyNot_78 rfl ?_
            refine aw_istore_n dX4_whyNot_79 rfl (by decide) ?_
            show AW _ mX4_whyNot 80 [_, _, _, _, _, _] _ _ _
            refine aw_iload_n dX4_whyNot_80 rfl rfl ?_
            refine aw_aload_n dX4_whyNot_81 rfl rfl ?_
            refine aw_getR dX4_whyNot_82 rfl rfl rfl (by decide) flX4_46 ?_
            refine aw_iload_n dX4_whyNot_85 rfl rfl ?_
            refine aw_iald dX4_whyNot_86 rfl rfl (by first | exact vp_in_nI (by omega) (by omega) | decide) ?_
            try simp only [hcc]
            try simp only [hct]
            refine aw_iload dX4_whyNot_87 rfl rfl ?_
            refine aw_S2 (M' := mX4_has) dX4_whyNot_89 rfl lkX4_86 gX4_has (Nat.le_of_ble_eq_true rfl) (sX4_has ?_)
            show AW _ mX4_whyNot 92 _ (_ :: _) _ _
            refine aw_if_eqB (tgt := 99) dX4_whyNot_92 rfl rfl (fun c92 => ?_) (fun c92 => ?_)
            · skip
              refine aw_iconst 0 dX4_whyNot_99 rfl (by decide) ?_
              refine aw_ior dX4_whyNot_100 rfl ?_
              refine aw_istore_n dX4_whyNot_101 rfl (by decide) ?_
              show AW _ mX4_whyNot 102 [_, _, _, _, _, _] _ _ _
              refine aw_iinc dX4_whyNot_102 rfl rfl (ii_1 _) (by decide) ?_
              show AW _ mX4_whyNot 105 [_, _, _, _, _, _] _ _ _
              refine aw_goto (q := 27) dX4_whyNot_105 rfl ?_
              refine AW.conv (AW.forget nx_27 (ls := [some (.inr (28, 0)), some (.inl (nI t)), some (.inl (nI c)), some (.inl (whyL (σ 39 0 c) (σ 40 0 c) (σ 41 0 c) (σ 30 0 t) (fun k => σ 33 0 (3 * t + k)) (i + 1))), some (.inl (nI (i + 1))), some (.inl (σ 33 0 (3 * t + i)))]) (fun n v h => by
                match n, h with
                | 0, h => exact h
                | 1, h => exact h
                | 2, h => exact h
                | 3, h => exact h
                | 4, h => exact h
                | 5, h => cases h
                | n + 6, h => simp at h)) ?_ rfl rfl
              simp only [nI_succ, whyL, lp_s]
              simp [hs, c50, c56, c70, c92]
            · skip
              refine aw_iconst 4 dX4_whyNot_95 rfl (by decide) ?_
              refine aw_goto (q := 100) dX4_whyNot_96 rfl ?_
              refine aw_ior dX4_whyNot_100 rfl ?_
              refine aw_istore_n dX4_whyNot_101 rfl (by decide) ?_
              show AW _ mX4_whyNot 102 [_, _, _, _, _, _] _ _ _
              refine aw_iinc dX4_whyNot_102 rfl rfl (ii_1 _) (by decide) ?_
              show AW _ mX4_whyNot 105 [_, _, _, _, _, _] _ _ _
              refine aw_goto (q := 27) dX4_whyNot_105 rfl ?_
              refine AW.conv (AW.forget nx_27 (ls := [some (.inr (28, 0)), some (.inl (nI t)), some (.inl (nI c)), some (.inl (whyL (σ 39 0 c) (σ 40 0 c) (σ 41 0 c) (σ 30 0 t) (fun k => σ 33 0 (3 * t + k)) (i + 1))), some (.inl (nI (i + 1))), some (.inl (σ 33 0 (3 * t + i)))]) (fun n v h => by
                match n, h with
                | 0, h => exact h
                | 1, h => exact h
                | 2, h => exact h
                | 3, h => exact h
                | 4, h => exact h
                | 5, h => cases h
                | n + 6, h => simp at h)) ?_ rfl rfl
              simp only [nI_succ, whyL, lp_s]
              simp [hs, c50, c56, c70, c92]
  · skip
    refine aw_iconst 0 dX4_whyNot_18 rfl (by decide) ?_
    refine aw_goto (q := 23) dX4_whyNot_19 rfl ?_
    refine aw_istore_n dX4_whyNot_23 rfl (by decide) ?_
    show AW _ mX4_whyNot 24 [_, _, _, _, _, _] _ _ _
    refine aw_iconst 0 dX4_whyNot_24 rfl (by decide) ?_
    refine aw_istore dX4_whyNot_25 rfl (by decide) ?_
    show AW _ mX4_whyNot 27 [_, _, _, _, _, _] _ _ _
    refine AW.conv (ax_loop (P := fun i => AW (d + 1) mX4_whyNot 27 [some (.inr (28, 0)), some (.inl (nI t)), some (.inl (nI c)), some (.inl (whyL (σ 39 0 c) (σ 40 0 c) (σ 41 0 c) (σ 30 0 t) (fun k => σ 33 0 (3 * t + k)) i)), some (.inl (nI i)), none] [] σ K) 3 ?_ ?_ 0 (Nat.zero_le _)) (by simp only [nI_0, whyL, lp_0]; simp [c15]) rfl rfl
    · try dsimp only
      refine aw_iload dX4_whyNot_27 rfl rfl ?_
      refine aw_iconst 3 dX4_whyNot_29 rfl (by decide) ?_
      refine aw_icmp_ge (tgt := 108) dX4_whyNot_30 rfl rfl (fun _ => ?_) (fun z => absurd (by decide) z)
      refine aw_iload_n dX4_whyNot_108 rfl rfl ?_
      refine aw_ret dX4_whyNot_109 rfl rfl ?_
      exact hK
    · intro i hi_27 nx_27
      try dsimp only at nx_27 ⊢
      have hc3 : (nI (3 * t + i)).toNatClampNeg = 3 * t + i := nI_clamp (by omega)
      refine aw_iload dX4_whyNot_27 rfl rfl ?_
      refine aw_iconst 3 dX4_whyNot_29 rfl (by decide) ?_
      refine aw_icmp_ge (tgt := 108) dX4_whyNot_30 rfl rfl (fun z => absurd z (nI_ge (b := 3) hi_27 (by omega))) (fun _ => ?_)
      refine aw_aload_n dX4_whyNot_33 rfl rfl ?_
      refine aw_getR dX4_whyNot_34 rfl rfl rfl (by decide) flX4_22 ?_
      refine aw_iconst 3 dX4_whyNot_37 rfl (by decide) ?_
      refine aw_iload_n dX4_whyNot_38 rfl rfl ?_
      refine aw_imul dX4_whyNot_39 rfl ?_
      refine aw_iload dX4_whyNot_40 rfl rfl ?_
      refine aw_iadd dX4_whyNot_42 rfl ?_
      refine aw_iald dX4_whyNot_43 rfl rfl (by rw [ix3]; exact vp_in_nI (by omega) (by omega)) ?_
      try simp only [hcc]
      try simp only [hct]
      rw [ix3, hc3]
      refine aw_istore dX4_whyNot_44 rfl (by decide) ?_
      show AW _ mX4_whyNot 46 [_, _, _, _, _, _] _ _ _
      refine aw_iload dX4_whyNot_46 rfl rfl ?_
      refine aw_bipush (-9) dX4_whyNot_48 rfl (by decide) ?_
      refine aw_icmp_eq (tgt := 102) dX4_whyNot_50 rfl rfl (fun c50 => ?_) (fun c50 => ?_)
      · skip
        refine aw_iinc dX4_whyNot_102 rfl rfl (ii_1 _) (by decide) ?_
        show AW _ mX4_whyNot 105 [_, _, _, _, _, _] _ _ _
        refine aw_goto (q := 27) dX4_whyNot_105 rfl ?_
        refine AW.conv (AW.forget nx_27 (ls := [some (.inr (28, 0)), some (.inl (nI t)), some (.inl (nI c)), some (.inl (whyL (σ 39 0 c) (σ 40 0 c) (σ 41 0 c) (σ 30 0 t) (fun k => σ 33 0 (3 * t + k)) (i + 1))), some (.inl (nI (i + 1))), some (.inl (σ 33 0 (3 * t + i)))]) (fun n v h => by
          match n, h with
          | 0, h => exact h
          | 1, h => exact h
          | 2, h => exact h
          | 3, h => exact h
          | 4, h => exact h
          | 5, h => cases h
          | n + 6, h => simp at h)) ?_ rfl rfl
        simp only [nI_succ, whyL, lp_s]
        simp [hs, c50]
      · skip
        refine aw_iload_n dX4_whyNot_53 rfl rfl ?_
        refine aw_iload dX4_whyNot_54 rfl rfl ?_
        refine aw_if_ne (tgt := 77) dX4_whyNot_56 rfl rfl (fun c56 => ?_) (fun c56 => ?_)
        · skip
          refine aw_iconst 0 dX4_whyNot_77 rfl (by decide) ?_
          refine aw_ior dX4_whyNot_78 rfl ?_
          refine aw_istore_n dX4_whyNot_79 rfl (by decide) ?_
          show AW _ mX4_whyNot 80 [_, _, _, _, _, _] _ _ _
          refine aw_iload_n dX4_whyNot_80 rfl rfl ?_
          refine aw_aload_n dX4_whyNot_81 rfl rfl ?_
          refine aw_getR dX4_whyNot_82 rfl rfl rfl (by decide) flX4_46 ?_
          refine aw_iload_n dX4_whyNot_85 rfl rfl ?_
          refine aw_iald dX4_whyNot_86 rfl rfl (by first | exact vp_in_nI (by omega) (by omega) | decide) ?_
          try simp only [hcc]
          try simp only [hct]
          refine aw_iload dX4_whyNot_87 rfl rfl ?_
          refine aw_S2 (M' := mX4_has) dX4_whyNot_89 rfl lkX4_86 gX4_has (Nat.le_of_ble_eq_true rfl) (sX4_has ?_)
          show AW _ mX4_whyNot 92 _ (_ :: _) _ _
          refine aw_if_eqB (tgt := 99) dX4_whyNot_92 rfl rfl (fun c92 => ?_) (fun c92 => ?_)
          · skip
            refine aw_iconst 0 dX4_whyNot_99 rfl (by decide) ?_
            refine aw_ior dX4_whyNot_100 rfl ?_
            refine aw_istore_n dX4_whyNot_101 rfl (by decide) ?_
            show AW _ mX4_whyNot 102 [_, _, _, _, _, _] _ _ _
            refine aw_iinc dX4_whyNot_102 rfl rfl (ii_1 _) (by decide) ?_
            show AW _ mX4_whyNot 105 [_, _, _, _, _, _] _ _ _
            refine aw_goto (q := 27) dX4_whyNot_105 rfl ?_
            refine AW.conv (AW.forget nx_27 (ls := [some (.inr (28, 0)), some (.inl (nI t)), some (.inl (nI c)), some (.inl (whyL (σ 39 0 c) (σ 40 0 c) (σ 41 0 c) (σ 30 0 t) (fun k => σ 33 0 (3 * t + k)) (i + 1))), some (.inl (nI (i + 1))), some (.inl (σ 33 0 (3 * t + i)))]) (fun n v h => by
              match n, h with
              | 0, h => exact h
              | 1, h => exact h
              | 2, h => exact h
              | 3, h => exact h
              | 4, h => exact h
              | 5, h => cases h
              | n + 6, h => simp at h)) ?_ rfl rfl
            simp only [nI_succ, whyL, lp_s]
            simp [hs, c50, c56, c92]
          · skip
            refine aw_iconst 4 dX4_whyNot_95 rfl (by decide) ?_
            refine aw_goto (q := 100) dX4_whyNot_96 rfl ?_
            refine aw_ior dX4_whyNot_100 rfl ?_
            refine aw_istore_n dX4_whyNot_101 rfl (by decide) ?_
            show AW _ mX4_whyNot 102 [_, _, _, _, _, _] _ _ _
            refine aw_iinc dX4_whyNot_102 rfl rfl (ii_1 _) (by decide) ?_
            show AW _ mX4_whyNot 105 [_, _, _, _, _, _] _ _ _
            refine aw_goto (q := 27) dX4_whyNot_105 rfl ?_
            refine AW.conv (AW.forget nx_27 (ls := [some (.inr (28, 0)), some (.inl (nI t)), some (.inl (nI c)), some (.inl (whyL (σ 39 0 c) (σ 40 0 c) (σ 41 0 c) (σ 30 0 t) (fun k => σ 33 0 (3 * t + k)) (i + 1))), some (.inl (nI (i + 1))), some (.inl (σ 33 0 (3 * t + i)))]) (fun n v h => by
              match n, h with
              | 0, h => exact h
              | 1, h => exact h
              | 2, h => exact h
              | 3, h => exact h
              | 4, h => exact h
              | 5, h => cases h
              | n + 6, h => simp at h)) ?_ rfl rfl
            simp only [nI_succ, whyL, lp_s]
            simp [hs, c50, c56, c92]
        · skip
          refine aw_aload_n dX4_whyNot_59 rfl rfl ?_
          refine aw_getR dX4_whyNot_60 rfl rfl rfl (by decide) flX4_43 ?_
          refine aw_iload_n dX4_whyNot_63 rfl rfl ?_
          refine aw_iald dX4_whyNot_64 rfl rfl (by first | exact vp_in_nI (by omega) (by omega) | decide) ?_
          try simp only [hcc]
          try simp only [hct]
          refine aw_iload dX4_whyNot_65 rfl rfl ?_
          refine aw_S2 (M' := mX4_has) dX4_whyNot_67 rfl lkX4_86 gX4_has (Nat.le_of_ble_eq_true rfl) (sX4_has ?_)
          show AW _ mX4_whyNot 70 _ (_ :: _) _ _
          refine aw_if_eqB (tgt := 77) dX4_whyNot_70 rfl rfl (fun c70 => ?_) (fun c70 => ?_)
          · skip
            refine aw_iconst 0 dX4_whyNot_77 rfl (by decide) ?_
            refine aw_ior dX4_whyNot_78 rfl ?_
            refine aw_istore_n dX4_whyNot_79 rfl (by decide) ?_
            show AW _ mX4_whyNot 80 [_, _, _, _, _, _] _ _ _
            refine aw_iload_n dX4_whyNot_80 rfl rfl ?_
            refine aw_aload_n dX4_whyNot_81 rfl rfl ?_
            refine aw_getR dX4_whyNot_82 rfl rfl rfl (by decide) flX4_46 ?_
            refine aw_iload_n dX4_whyNot_85 rfl rfl ?_
            refine aw_iald dX4_whyNot_86 rfl rfl (by first | exact vp_in_nI (by omega) (by omega) | decide) ?_
            try simp only [hcc]
            try simp only [hct]
            refine aw_iload dX4_whyNot_87 rfl rfl ?_
            refine aw_S2 (M' := mX4_has) dX4_whyNot_89 rfl lkX4_86 gX4_has (Nat.le_of_ble_eq_true rfl) (sX4_has ?_)
            show AW _ mX4_whyNot 92 _ (_ :: _) _ _
            refine aw_if_eqB (tgt := 99) dX4_whyNot_92 rfl rfl (fun c92 => ?_) (fun c92 => ?_)
            · skip
              refine aw_iconst 0 dX4_whyNot_99 rfl (by decide) ?_
              refine aw_ior dX4_whyNot_100 rfl ?_
              refine aw_istore_n dX4_whyNot_101 rfl (by decide) ?_
              show AW _ mX4_whyNot 102 [_, _, _, _, _, _] _ _ _
              refine aw_iinc dX4_whyNot_102 rfl rfl (ii_1 _) (by decide) ?_
              show AW _ mX4_whyNot 105 [_, _, _, _, _, _] _ _ _
              refine aw_goto (q := 27) dX4_whyNot_105 rfl ?_
              refine AW.conv (AW.forget nx_27 (ls := [some (.inr (28, 0)), some (.inl (nI t)), some (.inl (nI c)), some (.inl (whyL (σ 39 0 c) (σ 40 0 c) (σ 41 0 c) (σ 30 0 t) (fun k => σ 33 0 (3 * t + k)) (i + 1))), some (.inl (nI (i + 1))), some (.inl (σ 33 0 (3 * t + i)))]) (fun n v h => by
                match n, h with
                | 0, h => exact h
                | 1, h => exact h
                | 2, h => exact h
                | 3, h => exact h
                | 4, h => exact h
                | 5, h => cases h
                | n + 6, h => simp at h)) ?_ rfl rfl
              simp only [nI_succ, whyL, lp_s]
              simp [hs, c50, c56, c70, c92]
            · skip
              refine aw_iconst 4 dX4_whyNot_95 rfl (by decide) ?_
              refine aw_goto (q := 100) dX4_whyNot_96 rfl ?_
              refine aw_ior dX4_whyNot_100 rfl ?_
              refine aw_istore_n dX4_whyNot_101 rfl (by decide) ?_
              show AW _ mX4_whyNot 102 [_, _, _, _, _, _] _ _ _
              refine aw_iinc dX4_whyNot_102 rfl rfl (ii_1 _) (by decide) ?_
              show AW _ mX4_whyNot 105 [_, _, _, _, _, _] _ _ _
              refine aw_goto (q := 27) dX4_whyNot_105 rfl ?_
              refine AW.conv (AW.forget nx_27 (ls := [some (.inr (28, 0)), some (.inl (nI t)), some (.inl (nI c)), some (.inl (whyL (σ 39 0 c) (σ 40 0 c) (σ 41 0 c) (σ 30 0 t) (fun k => σ 33 0 (3 * t + k)) (i + 1))), some (.inl (nI (i + 1))), some (.inl (σ 33 0 (3 * t + i)))]) (fun n v h => by
                match n, h with
                | 0, h => exact h
                | 1, h => exact h
                | 2, h => exact h
                | 3, h => exact h
                | 4, h => exact h
                | 5, h => cases h
                | n + 6, h => simp at h)) ?_ rfl rfl
              simp only [nI_succ, whyL, lp_s]
              simp [hs, c50, c56, c70, c92]
          · skip
            refine aw_iconst 2 dX4_whyNot_73 rfl (by decide) ?_
            refine aw_goto (q := 78) dX4_whyNot_74 rfl ?_
            refine aw_ior dX4_whyNot_78 rfl ?_
            refine aw_istore_n dX4_whyNot_79 rfl (by decide) ?_
            show AW _ mX4_whyNot 80 [_, _, _, _, _, _] _ _ _
            refine aw_iload_n dX4_whyNot_80 rfl rfl ?_
            refine aw_aload_n dX4_whyNot_81 rfl rfl ?_
            refine aw_getR dX4_whyNot_82 rfl rfl rfl (by decide) flX4_46 ?_
            refine aw_iload_n dX4_whyNot_85 rfl rfl ?_
            refine aw_iald dX4_whyNot_86 rfl rfl (by first | exact vp_in_nI (by omega) (by omega) | decide) ?_
            try simp only [hcc]
            try simp only [hct]
            refine aw_iload dX4_whyNot_87 rfl rfl ?_
            refine aw_S2 (M' := mX4_has) dX4_whyNot_89 rfl lkX4_86 gX4_has (Nat.le_of_ble_eq_true rfl) (sX4_has ?_)
            show AW _ mX4_whyNot 92 _ (_ :: _) _ _
            refine aw_if_eqB (tgt := 99) dX4_whyNot_92 rfl rfl (fun c92 => ?_) (fun c92 => ?_)
            · skip
              refine aw_iconst 0 dX4_whyNot_99 rfl (by decide) ?_
              refine aw_ior dX4_whyNot_100 rfl ?_
              refine aw_istore_n dX4_whyNot_101 rfl (by decide) ?_
              show AW _ mX4_whyNot 102 [_, _, _, _, _, _] _ _ _
              refine aw_iinc dX4_whyNot_102 rfl rfl (ii_1 _) (by decide) ?_
              show AW _ mX4_whyNot 105 [_, _, _, _, _, _] _ _ _
              refine aw_goto (q := 27) dX4_whyNot_105 rfl ?_
              refine AW.conv (AW.forget nx_27 (ls := [some (.inr (28, 0)), some (.inl (nI t)), some (.inl (nI c)), some (.inl (whyL (σ 39 0 c) (σ 40 0 c) (σ 41 0 c) (σ 30 0 t) (fun k => σ 33 0 (3 * t + k)) (i + 1))), some (.inl (nI (i + 1))), some (.inl (σ 33 0 (3 * t + i)))]) (fun n v h => by
                match n, h with
                | 0, h => exact h
                | 1, h => exact h
                | 2, h => exact h
                | 3, h => exact h
                | 4, h => exact h
                | 5, h => cases h
                | n + 6, h => simp at h)) ?_ rfl rfl
              simp only [nI_succ, whyL, lp_s]
              simp [hs, c50, c56, c70, c92]
            · skip
              refine aw_iconst 4 dX4_whyNot_95 rfl (by decide) ?_
              refine aw_goto (q := 100) dX4_whyNot_96 rfl ?_
              refine aw_ior dX4_whyNot_100 rfl ?_
              refine aw_istore_n dX4_whyNot_101 rfl (by decide) ?_
              show AW _ mX4_whyNot 102 [_, _, _, _, _, _] _ _ _
              refine aw_iinc dX4_whyNot_102 rfl rfl (ii_1 _) (by decide) ?_
              show AW _ mX4_whyNot 105 [_, _, _, _, _, _] _ _ _
              refine aw_goto (q := 27) dX4_whyNot_105 rfl ?_
              refine AW.conv (AW.forget nx_27 (ls := [some (.inr (28, 0)), some (.inl (nI t)), some (.inl (nI c)), some (.inl (whyL (σ 39 0 c) (σ 40 0 c) (σ 41 0 c) (σ 30 0 t) (fun k => σ 33 0 (3 * t + k)) (i + 1))), some (.inl (nI (i + 1))), some (.inl (σ 33 0 (3 * t + i)))]) (fun n v h => by
                match n, h with
                | 0, h => exact h
                | 1, h => exact h
                | 2, h => exact h
                | 3, h => exact h
                | 4, h => exact h
                | 5, h => cases h
                | n + 6, h => simp at h)) ?_ rfl rfl
              simp only [nI_succ, whyL, lp_s]
              simp [hs, c50, c56, c70, c92]
