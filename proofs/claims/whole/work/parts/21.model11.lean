set_option maxRecDepth 4000 in
theorem sX4_load_68 {d : Nat} {σ : SS} {K : ax_K} {n cn : Nat} (hn : n ≤ 6) (h0 : σ 28 0 0 = nI n) {x y z : Int32} {f g b c : Nat → Int32} {e s : Int32} (hg : ∀ t, t < n → g t = fl (σ 29 0) (σ 38 0) b cn t) (hK : K (some y) (mS (ldS σ n cn b y) x y z f g b c)) : AW d mX4_load 68 [some (.inr (28, 0)), some (.inl e), some (.inl s), none] [] (mS σ x y z f g b c) K := by
  show AW _ mX4_load 68 [_, _, _, _] _ _ _
  refine aw_iconst 0 dX4_load_68 rfl (by decide) ?_
  refine aw_istore_n dX4_load_69 rfl (by decide) ?_
  show AW _ mX4_load 70 [_, _, _, _] _ _ _
  refine AW.conv (ax_loop (P := fun i => AW d mX4_load 70 [some (.inr (28, 0)), some (.inl e), some (.inl s), some (.inl (nI i))] [] (rp (rp (mS σ x y z f g b c) 35 0 (fun t => if t < i then b t else σ 35 0 t)) 36 0 (fun t => if t < i then fl (σ 29 0) (σ 38 0) b cn t else σ 36 0 t)) K) n ?_ ?_ 0 (Nat.zero_le _)) (by first | (simp only [nI_0]; done) | (simp only [nI_0]; rfl)) rfl (by rw [up_0, up_0, show σ 35 0 = (mS σ x y z f g b c) 35 0 from rfl, rp_self, show σ 36 0 = (mS σ x y z f g b c) 36 0 from rfl, rp_self])
  · try dsimp only
    refine aw_iload_n dX4_load_70 rfl rfl ?_
    refine aw_aload_n dX4_load_71 rfl rfl ?_
    refine aw_getI dX4_load_72 rfl rfl rfl flX4_75 ?_
    refine aw_icmp_ge (tgt := 108) dX4_load_75 rfl rfl (fun _ => ?_) (fun z => absurd (by rw [rp_nk (by decide), rp_nk (by decide), mS_r28j (by decide), h0]; exact Int32.le_refl _) z)
    refine aw_aload_n dX4_load_108 rfl rfl ?_
    refine aw_dup dX4_load_109 rfl ?_
    refine aw_getI dX4_load_110 rfl rfl rfl flX4_195 ?_
    refine aw_aload_n dX4_load_113 rfl rfl ?_
    refine aw_getI dX4_load_114 rfl rfl rfl flX4_170 ?_
    refine aw_iadd dX4_load_117 rfl ?_
    refine aw_putI dX4_load_118 rfl rfl rfl flX4_195 (pf_4_25 _) ?_
    refine aw_aload_n dX4_load_121 rfl rfl ?_
    refine aw_getI dX4_load_122 rfl rfl rfl flX4_170 ?_
    refine aw_ret dX4_load_125 rfl rfl ?_
    refine kk_c hK ?_ ?_
    · simp only [rp_at]
      rfl
    · rw [← ldS_eq]
      simp only [rp_nk, ne_eq, Nat.reduceEqDiff, not_false_eq_true]
      rfl
  · intro i hi_70 nx_70
    try dsimp only at nx_70 ⊢
    have hci : (nI i).toNatClampNeg = i := nI_clamp (by omega)
    refine aw_iload_n dX4_load_70 rfl rfl ?_
    refine aw_aload_n dX4_load_71 rfl rfl ?_
    refine aw_getI dX4_load_72 rfl rfl rfl flX4_75 ?_
    refine aw_icmp_ge (tgt := 108) dX4_load_75 rfl rfl (fun z => absurd z (by rw [rp_nk (by decide), rp_nk (by decide), mS_r28j (by decide), h0]; exact nI_ge hi_70 (by omega))) (fun _ => ?_)
    refine aw_aload_n dX4_load_78 rfl rfl ?_
    refine aw_getR dX4_load_79 rfl rfl rfl (by decide) flX4_28 ?_
    refine aw_iload_n dX4_load_82 rfl rfl ?_
    refine aw_aload_n dX4_load_83 rfl rfl ?_
    refine aw_getR dX4_load_84 rfl rfl rfl (by decide) flX4_65 ?_
    refine aw_iload_n dX4_load_87 rfl rfl ?_
    refine aw_iald dX4_load_88 rfl rfl (by first | exact vp_in_nI (by omega) (by omega) | decide) ?_
    refine aw_iast dX4_load_89 rfl rfl (by first | exact vp_in_nI (by omega) (by omega) | decide) ?_
    refine aw_aload_n dX4_load_90 rfl rfl ?_
    refine aw_getR dX4_load_91 rfl rfl rfl (by decide) flX4_31 ?_
    refine aw_iload_n dX4_load_94 rfl rfl ?_
    refine aw_aload_n dX4_load_95 rfl rfl ?_
    refine aw_getR dX4_load_96 rfl rfl rfl (by decide) flX4_62 ?_
    refine aw_iload_n dX4_load_99 rfl rfl ?_
    refine aw_iald dX4_load_100 rfl rfl (by first | exact vp_in_nI (by omega) (by omega) | decide) ?_
    refine aw_iast dX4_load_101 rfl rfl (by first | exact vp_in_nI (by omega) (by omega) | decide) ?_
    refine aw_iinc dX4_load_102 rfl rfl (ii_1 _) (by decide) ?_
    show AW _ mX4_load 105 [_, _, _, _] _ _ _
    refine aw_goto (q := 70) dX4_load_105 rfl ?_
    refine AW.conv nx_70 (by first | (simp only [nI_succ]; done) | (simp only [nI_succ]; rfl)) rfl ?_
    simp only [rp_nk, rp_at, rp_rp, pk_us, ne_eq, Nat.reduceEqDiff, not_false_eq_true, hci, mS_r46, mS_r45]
    rw [rp_c36, rp_rp, up_lt, hg i hi_70]
    exact congrArg (rp _ 36 0) (up_lt (fun t => fl (σ 29 0) (σ 38 0) b cn t) (σ 36 0) i)
set_option maxRecDepth 4000 in
theorem sX4_load {d : Nat} {σ : SS} {K : ax_K} {n cn : Nat} (hn : n ≤ 6) (h0 : σ 28 0 0 = nI n) (hc : cn ≤ 4) (h9 : σ 28 0 9 = nI cn) (hLat : ∀ x, x < 18 → lt9 (σ 33 0 x)) (hLiq : ∀ c, c < 4 → ∃ j, j < 8 ∧ σ 37 0 c = nI j) (k1 : anyB n (hB (σ 35 0)) = true → K (some (-3)) σ) (k2 : anyB n (hB (σ 35 0)) = false → tkS σ n cn (2 ^ cn - 1) = 0 → ∀ (x y z : Int32) (f g b c : Nat → Int32), K (some (-3)) (mS σ x y z f g b c)) (k3 : anyB n (hB (σ 35 0)) = false → ¬ tkS σ n cn (2 ^ cn - 1) = 0 → ∀ (y0 z0 : Int32) (b0 : Nat → Int32), ∀ (x y z : Int32) (f g b c : Nat → Int32), K (some (fbS σ n cn (tkS σ n cn (2 ^ cn - 1)) (mC (tkS σ n cn (2 ^ cn - 1)) cn ^ n) (0, y0, z0, b0)).2.1) (mS (ldS σ n cn (fbS σ n cn (tkS σ n cn (2 ^ cn - 1)) (mC (tkS σ n cn (2 ^ cn - 1)) cn ^ n) (0, y0, z0, b0)).2.2.2 (fbS σ n cn (tkS σ n cn (2 ^ cn - 1)) (mC (tkS σ n cn (2 ^ cn - 1)) cn ^ n) (0, y0, z0, b0)).2.1) x y z f g b c)) : AW (d + 6) mX4_load 0 (ax_en mX4_load [.inr (28, 0)]) [] σ K := by
  have h0s : ∀ x y z f g b c, (mS σ x y z f g b c) 28 0 0 = nI n := fun x y z f g b c => (mS_r28j (by decide)).trans h0
  have h9s : ∀ x y z f g b c, (mS σ x y z f g b c) 28 0 9 = nI cn := fun x y z f g b c => (mS_r28j (by decide)).trans h9
  have hp2 : 2 ^ cn ≤ 16 := Nat.le_trans (Nat.pow_le_pow_right (by decide) hc) (by decide)
  have hle := tkS_le σ n cn (2 ^ cn - 1)
  have hp1 : 1 ≤ 2 ^ cn := Nat.one_le_two_pow
  show AW _ mX4_load 0 [_, _, _, _] _ _ _
  refine aw_iconst 1 dX4_load_0 rfl (by decide) ?_
  refine aw_istore_n dX4_load_1 rfl (by decide) ?_
  show AW _ mX4_load 2 [_, _, _, _] _ _ _
  refine aw_iconst 0 dX4_load_2 rfl (by decide) ?_
  refine aw_istore_n dX4_load_3 rfl (by decide) ?_
  show AW _ mX4_load 4 [_, _, _, _] _ _ _
  refine AW.conv (ax_loop (P := fun i => AW (d + 6) mX4_load 4 [some (.inr (28, 0)), some (.inl (bB (!anyB i (hB (σ 35 0))))), some (.inl (nI i)), none] [] σ K) n ?_ ?_ 0 (Nat.zero_le _)) (by rw [nI_0, anyB_0]; rfl) rfl rfl
  · try dsimp only
    refine aw_iload_n dX4_load_4 rfl rfl ?_
    refine aw_aload_n dX4_load_5 rfl rfl ?_
    refine aw_getI dX4_load_6 rfl rfl rfl flX4_75 ?_
    refine aw_icmp_ge (tgt := 39) dX4_load_9 rfl rfl (fun _ => ?_) (fun z => absurd (by rw [h0]; exact Int32.le_refl _) z)
    refine aw_iload_n dX4_load_39 rfl rfl ?_
    refine aw_if_eqB (tgt := 50) dX4_load_40 rfl rfl (fun c40 => ?_) (fun c40 => ?_)
    · skip
      refine aw_iconst 0 dX4_load_50 rfl (by decide) ?_
      refine aw_istore_n dX4_load_51 rfl (by decide) ?_
      show AW _ mX4_load 52 [_, _, _, _] _ _ _
      refine aw_iload_n dX4_load_52 rfl rfl ?_
      refine aw_if_ne (tgt := 59) dX4_load_53 rfl rfl (fun z => absurd rfl z) (fun _ => ?_)
      refine aw_bipush (-3) dX4_load_56 rfl (by decide) ?_
      refine aw_ret dX4_load_58 rfl rfl ?_
      exact k1 (by simpa using c40)
    · skip
      refine aw_aload_n dX4_load_43 rfl rfl ?_
      refine aw_V0 (M' := mX4_taken) dX4_load_44 rfl lkX4_192 gX4_taken rfl rfl (Nat.le_of_ble_eq_true rfl) (sX4_taken hn h0 hc h9 hLat hLiq (fun x y z f g b c => ?_))
      show AW _ mX4_load 47 _ (_ :: _) _ _
      refine aw_goto (q := 51) dX4_load_47 rfl ?_
      refine aw_istore_n dX4_load_51 rfl (by decide) ?_
      show AW _ mX4_load 52 [_, _, _, _] _ _ _
      refine aw_iload_n dX4_load_52 rfl rfl ?_
      refine aw_if_ne (tgt := 59) dX4_load_53 rfl rfl (fun c53 => ?_) (fun c53 => ?_)
      · skip
        refine aw_aload_n dX4_load_59 rfl rfl ?_
        refine aw_iload_n dX4_load_60 rfl rfl ?_
        refine aw_V1 (M' := mX4_findBest) dX4_load_61 rfl lkX4_176 gX4_findBest rfl rfl (Nat.le_of_ble_eq_true rfl) (sX4_findBest hn (h0s _ _ _ _ _ _ _) hc (h9s _ _ _ _ _ _ _) (by omega) hLat hLiq (fun f2 g2 => ?_))
        rw [mS_mS]
        simp only [fbS_mS]
        show AW _ mX4_load 64 _ _ _ _
        refine aw_aload_n dX4_load_64 rfl rfl ?_
        refine aw_V0 (M' := mX4_triesBest) dX4_load_65 rfl lkX4_180 gX4_triesBest rfl rfl (Nat.le_of_ble_eq_true rfl) (sX4_triesBest hn (h0s _ _ _ _ _ _ _) hc (h9s _ _ _ _ _ _ _) ?_)
        rw [mS_44, mS_45]
        show AW _ mX4_load 68 _ _ _ _
        refine sX4_load_68 hn h0 (fun t ht => if_pos ht) ?_
        exact k3 (by simpa using c40) (fun z => c53 (by rw [z]; decide)) _ _ _ _ _ _ _ _ _ _
      · skip
        refine aw_bipush (-3) dX4_load_56 rfl (by decide) ?_
        refine aw_ret dX4_load_58 rfl rfl ?_
        have hz : tkS σ n cn (2 ^ cn - 1) = 0 := by
          rcases Nat.eq_zero_or_pos (tkS σ n cn (2 ^ cn - 1)) with h | h
          · exact h
          · exact absurd c53 (nI_ne0 h (by omega))
        exact k2 (by simpa using c40) hz _ _ _ _ _ _ _
  · intro i hi_4 nx_4
    try dsimp only at nx_4 ⊢
    have hci : (nI i).toNatClampNeg = i := nI_clamp (by omega)
    refine aw_iload_n dX4_load_4 rfl rfl ?_
    refine aw_aload_n dX4_load_5 rfl rfl ?_
    refine aw_getI dX4_load_6 rfl rfl rfl flX4_75 ?_
    refine aw_icmp_ge (tgt := 39) dX4_load_9 rfl rfl (fun z => absurd z (by rw [h0]; exact nI_ge hi_4 (by omega))) (fun _ => ?_)
    refine aw_iload_n dX4_load_12 rfl rfl ?_
    refine aw_if_eqB (tgt := 31) dX4_load_13 rfl rfl (fun c13 => ?_) (fun c13 => ?_)
    · skip
      refine aw_iconst 0 dX4_load_31 rfl (by decide) ?_
      refine aw_istore_n dX4_load_32 rfl (by decide) ?_
      show AW _ mX4_load 33 [_, _, _, _] _ _ _
      refine aw_iinc dX4_load_33 rfl rfl (ii_1 _) (by decide) ?_
      show AW _ mX4_load 36 [_, _, _, _] _ _ _
      refine aw_goto (q := 4) dX4_load_36 rfl ?_
      refine AW.conv nx_4 ?_ rfl rfl
      simp only [nI_succ, anyB_s, Bool.not_or]
      simp [bB, hB, c13]
    · skip
      refine aw_aload_n dX4_load_16 rfl rfl ?_
      refine aw_getR dX4_load_17 rfl rfl rfl (by decide) flX4_28 ?_
      refine aw_iload_n dX4_load_20 rfl rfl ?_
      refine aw_iald dX4_load_21 rfl rfl (by first | exact vp_in_nI (by omega) (by omega) | decide) ?_
      try simp only [hci]
      refine aw_bipush (-9) dX4_load_22 rfl (by decide) ?_
      refine aw_icmp_ne (tgt := 31) dX4_load_24 rfl rfl (fun c24 => ?_) (fun c24 => ?_)
      · skip
        refine aw_iconst 0 dX4_load_31 rfl (by decide) ?_
        refine aw_istore_n dX4_load_32 rfl (by decide) ?_
        show AW _ mX4_load 33 [_, _, _, _] _ _ _
        refine aw_iinc dX4_load_33 rfl rfl (ii_1 _) (by decide) ?_
        show AW _ mX4_load 36 [_, _, _, _] _ _ _
        refine aw_goto (q := 4) dX4_load_36 rfl ?_
        refine AW.conv nx_4 ?_ rfl rfl
        simp only [nI_succ, anyB_s, Bool.not_or]
        simp [bB, hB, c13, c24]
      · skip
        refine aw_iconst 1 dX4_load_27 rfl (by decide) ?_
        refine aw_goto (q := 32) dX4_load_28 rfl ?_
        refine aw_istore_n dX4_load_32 rfl (by decide) ?_
        show AW _ mX4_load 33 [_, _, _, _] _ _ _
        refine aw_iinc dX4_load_33 rfl rfl (ii_1 _) (by decide) ?_
        show AW _ mX4_load 36 [_, _, _, _] _ _ _
        refine aw_goto (q := 4) dX4_load_36 rfl ?_
        refine AW.conv nx_4 ?_ rfl rfl
        simp only [nI_succ, anyB_s, Bool.not_or]
        simp [bB, hB, c13, c24]
