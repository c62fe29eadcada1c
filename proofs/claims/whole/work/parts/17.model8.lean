set_option maxRecDepth 4000 in
theorem sX4_lays {d : Nat} {σ : SS} {K : ax_K} {n r m : Nat} (hn : n ≤ 6) (h0 : σ 28 0 0 = nI n) (hm0 : 0 < m) (hm : m ≤ 5) (hr : r < 2 ^ 20) (hK : K none (rp σ 44 0 (fun t => if t < n then σ 47 0 (dg r m n t) else σ 44 0 t))) : AW d mX4_lays 0 (ax_en mX4_lays [.inr (28, 0), .inl (nI r), .inl (nI m)]) [] σ K := by
  show AW _ mX4_lays 0 [_, _, _, _, _] _ _ _
  refine aw_iload_n dX4_lays_0 rfl rfl ?_
  refine aw_istore_n dX4_lays_1 rfl (by decide) ?_
  show AW _ mX4_lays 2 [_, _, _, _, _] _ _ _
  refine aw_aload_n dX4_lays_2 rfl rfl ?_
  refine aw_getI dX4_lays_3 rfl rfl rfl flX4_75 ?_
  refine aw_iconst 1 dX4_lays_6 rfl (by decide) ?_
  refine aw_isub dX4_lays_7 rfl ?_
  rw [h0]
  refine aw_istore dX4_lays_8 rfl (by decide) ?_
  show AW _ mX4_lays 10 [_, _, _, _, _] _ _ _
  refine AW.conv (ax_loop (P := fun i => AW d mX4_lays 10 [some (.inr (28, 0)), some (.inl (nI r)), some (.inl (nI m)), some (.inl (nI (r / m ^ i))), some (.inl (nI (n - i) - 1))] [] (rp σ 44 0 (lrow (σ 47 0) (σ 44 0) r m n i)) K) n ?_ ?_ 0 (Nat.zero_le _)) (by simp only [Nat.pow_zero, Nat.div_one, Nat.sub_zero]) rfl (by rw [lrow_0, rp_self])
  · try dsimp only
    rw [Nat.sub_self]
    refine aw_iload dX4_lays_10 rfl rfl ?_
    refine aw_if_lt (tgt := 40) dX4_lays_12 rfl rfl (fun _ => ?_) (fun z => absurd (by decide) z)
    refine aw_vret dX4_lays_40 rfl ?_
    exact kk_c hK rfl (by rw [lrow_n])
  · intro i hi_10 nx_10
    try dsimp only at nx_10 ⊢
    have hk : nI (n - i) - 1 = nI (n - i - 1) := by
      rw [show n - i = (n - i - 1) + 1 by omega, nI_pred, Nat.add_sub_cancel]
    have hdv : r / m ^ i < 2 ^ 20 := Nat.lt_of_le_of_lt (Nat.div_le_self _ _) hr
    have hnz : ¬ nI m = 0 := nI_ne0 hm0 (by omega)
    have hmod : r / m ^ i % m < m := Nat.mod_lt _ hm0
    have hcm : (nI (r / m ^ i % m)).toNatClampNeg = r / m ^ i % m := nI_clamp (by omega)
    have hct : (nI (n - i - 1)).toNatClampNeg = n - i - 1 := nI_clamp (by omega)
    rw [hk]
    refine aw_iload dX4_lays_10 rfl rfl ?_
    refine aw_if_lt (tgt := 40) dX4_lays_12 rfl rfl (fun z => absurd z (nI_pos (by omega))) (fun _ => ?_)
    refine aw_aload_n dX4_lays_15 rfl rfl ?_
    refine aw_getR dX4_lays_16 rfl rfl rfl (by decide) flX4_59 ?_
    refine aw_iload dX4_lays_19 rfl rfl ?_
    refine aw_aload_n dX4_lays_21 rfl rfl ?_
    refine aw_getR dX4_lays_22 rfl rfl rfl (by decide) flX4_68 ?_
    refine aw_iload_n dX4_lays_25 rfl rfl ?_
    refine aw_iload_n dX4_lays_26 rfl rfl ?_
    refine aw_irem dX4_lays_27 rfl hnz ?_
    rw [pk_rem (by omega) hm0 (by omega)]
    refine aw_iald dX4_lays_28 rfl rfl (by exact vp_in_nI (by omega) (by omega)) ?_
    refine aw_iast dX4_lays_29 rfl rfl (by first | exact vp_in_nI (by omega) (by omega) | decide) ?_
    refine aw_iload_n dX4_lays_30 rfl rfl ?_
    refine aw_iload_n dX4_lays_31 rfl rfl ?_
    refine aw_idiv dX4_lays_32 rfl hnz ?_
    rw [pk_div (by omega) hm0 (by omega)]
    refine aw_istore_n dX4_lays_33 rfl (by decide) ?_
    show AW _ mX4_lays 34 [_, _, _, _, _] _ _ _
    refine aw_iinc dX4_lays_34 rfl rfl (ii_m1 _) (by decide) ?_
    show AW _ mX4_lays 37 [_, _, _, _, _] _ _ _
    refine aw_goto (q := 10) dX4_lays_37 rfl ?_
    refine AW.conv nx_10 ?_ rfl ?_
    · rw [Nat.pow_succ, ← Nat.div_div_eq_div_mul, Nat.sub_sub]
    · simp only [rp_nk, rp_at, rp_rp, pk_us, ne_eq, Nat.reduceEqDiff, not_false_eq_true, hcm, hct]
      rw [lrow_s hi_10]
set_option maxRecDepth 4000 in
theorem sX4_keepsBest {d : Nat} {σ : SS} {K : ax_K} {n cn : Nat} (hn : n ≤ 6) (h0 : σ 28 0 0 = nI n) (hc : cn ≤ 4) (hT : okT n cn (σ 44 0)) (hLat : ∀ x, x < 18 → lt9 (σ 33 0 x)) (hLiq : ∀ c, c < 4 → ∃ j, j < 8 ∧ σ 37 0 c = nI j) (k1 : kpB σ n = false → K none σ) (k2 : kpB σ n = true → K none (rp (rp σ 28 0 (upd (upd (σ 28 0) 21 (coS σ (σ 44 0) n)) 22 (usS (σ 44 0) n))) 46 0 (fun t => if t < n then σ 44 0 t else σ 46 0 t))) : AW (d + 2) mX4_keepsBest 0 (ax_en mX4_keepsBest [.inr (28, 0)]) [] σ K := by
  have kj : kpB σ n = true → AW (d + 2) mX4_keepsBest 42 [some (.inr (28, 0)), some (.inl (coS σ (σ 44 0) n)), some (.inl (usS (σ 44 0) n)), none] [] σ K := by
    intro hkp
    replace k2 := k2 hkp
    refine aw_aload_n dX4_keepsBest_42 rfl rfl ?_
    refine aw_iload_n dX4_keepsBest_43 rfl rfl ?_
    refine aw_putI dX4_keepsBest_44 rfl rfl rfl flX4_170 (pf_4_21 _) ?_
    refine aw_aload_n dX4_keepsBest_47 rfl rfl ?_
    refine aw_iload_n dX4_keepsBest_48 rfl rfl ?_
    refine aw_putI dX4_keepsBest_49 rfl rfl rfl flX4_173 (pf_4_22 _) ?_
    refine aw_iconst 0 dX4_keepsBest_52 rfl (by decide) ?_
    refine aw_istore_n dX4_keepsBest_53 rfl (by decide) ?_
    show AW _ mX4_keepsBest 54 [_, _, _, _] _ _ _
    refine AW.conv (ax_loop (P := fun i => AW (d + 2) mX4_keepsBest 54 [some (.inr (28, 0)), some (.inl (coS σ (σ 44 0) n)), some (.inl (usS (σ 44 0) n)), some (.inl (nI i))] [] (rp (rp σ 28 0 (upd (upd (σ 28 0) 21 (coS σ (σ 44 0) n)) 22 (usS (σ 44 0) n))) 46 0 (fun t => if t < i then σ 44 0 t else σ 46 0 t)) K) n ?_ ?_ 0 (Nat.zero_le _)) (by first | (simp only [nI_0]; done) | (simp only [nI_0]; rfl)) rfl (by simp only [rp_nk, rp_at, rp_rp, pk_us, ne_eq, Nat.reduceEqDiff, not_false_eq_true, up_0]; rw [rp_self2 (by decide)])
    · try dsimp only
      refine aw_iload_n dX4_keepsBest_54 rfl rfl ?_
      refine aw_aload_n dX4_keepsBest_55 rfl rfl ?_
      refine aw_getI dX4_keepsBest_56 rfl rfl rfl flX4_75 ?_
      refine aw_icmp_ge (tgt := 80) dX4_keepsBest_59 rfl rfl (fun _ => ?_) (fun z => absurd (by rw [rp_nk (by decide), rp_at, pk_un (by decide), pk_un (by decide), h0]; exact Int32.le_refl _) z)
      refine aw_vret dX4_keepsBest_80 rfl ?_
      exact k2
    · intro i hi_54 nx_54
      try dsimp only at nx_54 ⊢
      have hci : (nI i).toNatClampNeg = i := nI_clamp (by omega)
      refine aw_iload_n dX4_keepsBest_54 rfl rfl ?_
      refine aw_aload_n dX4_keepsBest_55 rfl rfl ?_
      refine aw_getI dX4_keepsBest_56 rfl rfl rfl flX4_75 ?_
      refine aw_icmp_ge (tgt := 80) dX4_keepsBest_59 rfl rfl (fun z => absurd z (by rw [rp_nk (by decide), rp_at, pk_un (by decide), pk_un (by decide), h0]; exact nI_ge hi_54 (by omega))) (fun _ => ?_)
      refine aw_aload_n dX4_keepsBest_62 rfl rfl ?_
      refine aw_getR dX4_keepsBest_63 rfl rfl rfl (by decide) flX4_65 ?_
      refine aw_iload_n dX4_keepsBest_66 rfl rfl ?_
      refine aw_aload_n dX4_keepsBest_67 rfl rfl ?_
      refine aw_getR dX4_keepsBest_68 rfl rfl rfl (by decide) flX4_59 ?_
      refine aw_iload_n dX4_keepsBest_71 rfl rfl ?_
      refine aw_iald dX4_keepsBest_72 rfl rfl (by first | exact vp_in_nI (by omega) (by omega) | decide) ?_
      refine aw_iast dX4_keepsBest_73 rfl rfl (by first | exact vp_in_nI (by omega) (by omega) | decide) ?_
      refine aw_iinc dX4_keepsBest_74 rfl rfl (ii_1 _) (by decide) ?_
      show AW _ mX4_keepsBest 77 [_, _, _, _] _ _ _
      refine aw_goto (q := 54) dX4_keepsBest_77 rfl ?_
      refine AW.conv nx_54 (by first | (simp only [nI_succ]; done) | (simp only [nI_succ]; rfl)) rfl ?_
      simp only [rp_nk, rp_at, rp_rp, pk_us, ne_eq, Nat.reduceEqDiff, not_false_eq_true, hci]
      rw [up_lt]
  show AW _ mX4_keepsBest 0 [_, _, _, _] _ _ _
  refine aw_aload_n dX4_keepsBest_0 rfl rfl ?_
  refine aw_V0 (M' := mX4_costOf) dX4_keepsBest_1 rfl lkX4_153 gX4_costOf rfl rfl (Nat.le_of_ble_eq_true rfl) (sX4_costOf hn h0 hc hT hLat hLiq ?_)
  show AW _ mX4_keepsBest 4 _ (_ :: _) _ _
  refine aw_istore_n dX4_keepsBest_4 rfl (by decide) ?_
  show AW _ mX4_keepsBest 5 [_, _, _, _] _ _ _
  refine aw_aload_n dX4_keepsBest_5 rfl rfl ?_
  refine aw_V0 (M' := mX4_usedOf) dX4_keepsBest_6 rfl lkX4_156 gX4_usedOf rfl rfl (Nat.le_of_ble_eq_true rfl) (sX4_usedOf hn h0 ?_)
  show AW _ mX4_keepsBest 9 _ (_ :: _) _ _
  refine aw_istore_n dX4_keepsBest_9 rfl (by decide) ?_
  show AW _ mX4_keepsBest 10 [_, _, _, _] _ _ _
  refine aw_aload_n dX4_keepsBest_10 rfl rfl ?_
  refine aw_getI dX4_keepsBest_11 rfl rfl rfl flX4_160 ?_
  refine aw_iconst 1 dX4_keepsBest_14 rfl (by decide) ?_
  refine aw_icmp_eq (tgt := 42) dX4_keepsBest_15 rfl rfl (fun c15 => ?_) (fun c15 => ?_)
  · skip
    exact kj (by simp [kpB, c15])
  · skip
    refine aw_iload_n dX4_keepsBest_18 rfl rfl ?_
    refine aw_aload_n dX4_keepsBest_19 rfl rfl ?_
    refine aw_getI dX4_keepsBest_20 rfl rfl rfl flX4_170 ?_
    refine aw_icmp_lt (tgt := 42) dX4_keepsBest_23 rfl rfl (fun c23 => ?_) (fun c23 => ?_)
    · skip
      exact kj (by simp [kpB, c15, c23])
    · skip
      refine aw_iload_n dX4_keepsBest_26 rfl rfl ?_
      refine aw_aload_n dX4_keepsBest_27 rfl rfl ?_
      refine aw_getI dX4_keepsBest_28 rfl rfl rfl flX4_170 ?_
      refine aw_icmp_ne (tgt := 80) dX4_keepsBest_31 rfl rfl (fun c31 => ?_) (fun c31 => ?_)
      · skip
        try replace c39 := Int32.not_lt.mpr c39
        refine aw_vret dX4_keepsBest_80 rfl ?_
        exact k1 (by simp [kpB, c15, c23, c31])
      · skip
        skip
        refine aw_iload_n dX4_keepsBest_34 rfl rfl ?_
        refine aw_aload_n dX4_keepsBest_35 rfl rfl ?_
        refine aw_getI dX4_keepsBest_36 rfl rfl rfl flX4_173 ?_
        refine aw_icmp_ge (tgt := 80) dX4_keepsBest_39 rfl rfl (fun c39 => ?_) (fun c39 => ?_)
        · skip
          try replace c39 := Int32.not_lt.mpr c39
          refine aw_vret dX4_keepsBest_80 rfl ?_
          exact k1 (by simp [kpB, c15, c23, c31, c39])
        · skip
          exact kj (by simp [kpB, c15, c23, c31, Int32.not_le.mp c39])
set_option maxRecDepth 4000 in
theorem sX4_findBest {d : Nat} {σ : SS} {K : ax_K} {s n cn : Nat} (hn : n ≤ 6) (h0 : σ 28 0 0 = nI n) (hc : cn ≤ 4) (h9 : σ 28 0 9 = nI cn) (hs16 : s < 16) (hLat : ∀ x, x < 18 → lt9 (σ 33 0 x)) (hLiq : ∀ c, c < 4 → ∃ j, j < 8 ∧ σ 37 0 c = nI j) (hK : ∀ f g, K none (mS σ (fbS σ n cn s (((chs s cn).length + 1) ^ n) (0, σ 28 0 21, σ 28 0 22, σ 46 0)).1 (fbS σ n cn s (((chs s cn).length + 1) ^ n) (0, σ 28 0 21, σ 28 0 22, σ 46 0)).2.1 (fbS σ n cn s (((chs s cn).length + 1) ^ n) (0, σ 28 0 21, σ 28 0 22, σ 46 0)).2.2.1 f g (fbS σ n cn s (((chs s cn).length + 1) ^ n) (0, σ 28 0 21, σ 28 0 22, σ 46 0)).2.2.2 (upd (chr (chs s cn) (σ 47 0)) (chs s cn).length (-9)))) : AW (d + 4) mX4_findBest 0 (ax_en mX4_findBest [.inr (28, 0), .inl (nI s)]) [] σ K := by
  show AW _ mX4_findBest 0 [_, _, _, _, _] _ _ _
  refine aw_iconst 0 dX4_findBest_0 rfl (by decide) ?_
  refine aw_istore_n dX4_findBest_1 rfl (by decide) ?_
  show AW _ mX4_findBest 2 [_, _, _, _, _] _ _ _
  refine aw_iconst 0 dX4_findBest_2 rfl (by decide) ?_
  refine aw_istore_n dX4_findBest_3 rfl (by decide) ?_
  show AW _ mX4_findBest 4 [_, _, _, _, _] _ _ _
  refine AW.conv (ax_loop (P := fun i => AW (d + 4) mX4_findBest 4 [some (.inr (28, 0)), some (.inl (nI s)), some (.inl (nI (chs s i).length)), some (.inl (nI i)), none] [] (rp σ 47 0 (chr (chs s i) (σ 47 0))) K) cn ?_ ?_ 0 (Nat.zero_le _)) (by simp only [nI_0]; rfl) rfl (by rw [show chr (chs s 0) (σ 47 0) = σ 47 0 from rfl, rp_self])
  · try dsimp only
    refine aw_iload_n dX4_findBest_4 rfl rfl ?_
    refine aw_aload_n dX4_findBest_5 rfl rfl ?_
    refine aw_getI dX4_findBest_6 rfl rfl rfl flX4_92 ?_
    refine aw_icmp_ge (tgt := 36) dX4_findBest_9 rfl rfl (fun _ => ?_) (fun z => absurd (by rw [rp_nk (by decide), h9]; exact Int32.le_refl _) z)
    have hlc := chs_len s cn
    have hcl : (nI (chs s cn).length).toNatClampNeg = (chs s cn).length := nI_clamp (by omega)
    refine aw_aload_n dX4_findBest_36 rfl rfl ?_
    refine aw_getR dX4_findBest_37 rfl rfl rfl (by decide) flX4_68 ?_
    refine aw_iload_n dX4_findBest_40 rfl rfl ?_
    refine aw_bipush (-9) dX4_findBest_41 rfl (by decide) ?_
    refine aw_iast dX4_findBest_43 rfl rfl (by exact vp_in_nI (by omega) (by omega)) ?_
    simp only [rp_nk, rp_at, rp_rp, pk_us, ne_eq, Nat.reduceEqDiff, not_false_eq_true, hcl]
    refine aw_iinc dX4_findBest_44 rfl rfl (ii_1 _) (by decide) ?_
    show AW _ mX4_findBest 47 [_, _, _, _, _] _ _ _
    rw [← nI_succ]
    refine aw_iconst 1 dX4_findBest_47 rfl (by decide) ?_
    refine aw_istore_n dX4_findBest_48 rfl (by decide) ?_
    show AW _ mX4_findBest 49 [_, _, _, _, _] _ _ _
    refine aw_iconst 0 dX4_findBest_49 rfl (by decide) ?_
    refine aw_istore dX4_findBest_50 rfl (by decide) ?_
    show AW _ mX4_findBest 52 [_, _, _, _, _] _ _ _
    refine AW.conv (ax_loop (P := fun i => AW (d + 4) mX4_findBest 52 [some (.inr (28, 0)), some (.inl (nI s)), some (.inl (nI ((chs s cn).length + 1))), some (.inl (nI (((chs s cn).length + 1) ^ i))), some (.inl (nI i))] [] (rp σ 47 0 (upd (chr (chs s cn) (σ 47 0)) (chs s cn).length (-9))) K) n ?_ ?_ 0 (Nat.zero_le _)) (by simp only [nI_0, nI_succ, Nat.pow_zero]; first | done | rfl | decide) rfl rfl
    · try dsimp only
      refine aw_iload dX4_findBest_52 rfl rfl ?_
      refine aw_aload_n dX4_findBest_54 rfl rfl ?_
      refine aw_getI dX4_findBest_55 rfl rfl rfl flX4_75 ?_
      refine aw_icmp_ge (tgt := 71) dX4_findBest_58 rfl rfl (fun _ => ?_) (fun z => absurd (by rw [rp_nk (by decide), h0]; exact Int32.le_refl _) z)
      have hpw := pow_le6 (show (chs s cn).length + 1 ≤ 5 by omega) hn
      refine aw_aload_n dX4_findBest_71 rfl rfl ?_
      refine aw_iconst 0 dX4_findBest_72 rfl (by decide) ?_
      refine aw_putI dX4_findBest_73 rfl rfl rfl flX4_160 (pf_4_20 _) ?_
      refine aw_iconst 0 dX4_findBest_76 rfl (by decide) ?_
      refine aw_istore dX4_findBest_77 rfl (by decide) ?_
      show AW _ mX4_findBest 79 [_, _, _, _, _] _ _ _
      refine AW.conv (ax_loop (P := fun r => ∀ f g : Nat → Int32, AW (d + 4) mX4_findBest 79 [some (.inr (28, 0)), some (.inl (nI s)), some (.inl (nI ((chs s cn).length + 1))), some (.inl (nI (((chs s cn).length + 1) ^ n))), some (.inl (nI r))] [] (mS σ (fbS σ n cn s r (0, σ 28 0 21, σ 28 0 22, σ 46 0)).1 (fbS σ n cn s r (0, σ 28 0 21, σ 28 0 22, σ 46 0)).2.1 (fbS σ n cn s r (0, σ 28 0 21, σ 28 0 22, σ 46 0)).2.2.1 f g (fbS σ n cn s r (0, σ 28 0 21, σ 28 0 22, σ 46 0)).2.2.2 (upd (chr (chs s cn) (σ 47 0)) (chs s cn).length (-9))) K) (((chs s cn).length + 1) ^ n) ?_ ?_ 0 (Nat.zero_le _) (σ 44 0) (σ 45 0)) (by simp only [nI_0]) rfl (by rw [show fbS σ n cn s 0 (0, σ 28 0 21, σ 28 0 22, σ 46 0) = (0, σ 28 0 21, σ 28 0 22, σ 46 0) from rfl]; exact mS_start σ _)
      · try dsimp only
        intro f g
        refine aw_iload dX4_findBest_79 rfl rfl ?_
        refine aw_iload_n dX4_findBest_81 rfl rfl ?_
        refine aw_icmp_ge (tgt := 120) dX4_findBest_82 rfl rfl (fun _ => ?_) (fun z => absurd (Int32.le_refl _) z)
        refine aw_vret dX4_findBest_120 rfl ?_
        exact hK _ _
      · intro r hi_79 nx_79
        try dsimp only at nx_79 ⊢
        intro f g
        have hrlt : r < 2 ^ 20 := by omega
        have h0s : ∀ x y z f g b c, (mS σ x y z f g b c) 28 0 0 = nI n := fun x y z f g b c => (mS_r28j (by decide)).trans h0
        have h9s : ∀ x y z f g b c, (mS σ x y z f g b c) 28 0 9 = nI cn := fun x y z f g b c => (mS_r28j (by decide)).trans h9
        refine aw_iload dX4_findBest_79 rfl rfl ?_
        refine aw_iload_n dX4_findBest_81 rfl rfl ?_
        refine aw_icmp_ge (tgt := 120) dX4_findBest_82 rfl rfl (fun z => absurd z (nI_ge hi_79 (by omega))) (fun _ => ?_)
        refine aw_aload_n dX4_findBest_85 rfl rfl ?_
        refine aw_iload dX4_findBest_86 rfl rfl ?_
        refine aw_iload_n dX4_findBest_88 rfl rfl ?_
        refine aw_V2 (M' := mX4_lays) dX4_findBest_89 rfl lkX4_163 gX4_lays rfl rfl (Nat.le_of_ble_eq_true rfl) (sX4_lays hn (h0s _ _ _ _ _ _ _) (by omega) (by omega) hrlt ?_)
        simp only [mS_44, mS_r44, mS_r47]
        rw [rw_lay]
        show AW _ mX4_findBest 92 _ _ _ _
        refine aw_aload_n dX4_findBest_92 rfl rfl ?_
        refine aw_iload_n dX4_findBest_93 rfl rfl ?_
        refine aw_V1 (M' := mX4_brokenBy) dX4_findBest_94 rfl lkX4_150 gX4_brokenBy rfl rfl (Nat.le_of_ble_eq_true rfl) (sX4_brokenBy hn (h0s _ _ _ _ _ _ _) hc (h9s _ _ _ _ _ _ _) (okT_rw (by omega)) (fun f2 => ?_))
        rw [brS_mS, mS_r44, mS_45, brS_congr (tr' := rwS s cn n r) (fun t ht => if_pos ht)]
        show AW _ mX4_findBest 97 _ (_ :: _) _ _
        refine aw_if_ne (tgt := 114) dX4_findBest_97 rfl rfl (fun c97 => ?_) (fun c97 => ?_)
        · skip
          refine aw_iinc dX4_findBest_114 rfl rfl (ii_1 _) (by decide) ?_
          show AW _ mX4_findBest 117 [_, _, _, _, _] _ _ _
          refine aw_goto (q := 79) dX4_findBest_117 rfl ?_
          exact AW.conv (nx_79 _ _) (by rw [nI_succ r]) rfl (by rw [fbS_s, stS, if_neg c97])
        · skip
          refine aw_aload_n dX4_findBest_100 rfl rfl ?_
          refine aw_dup dX4_findBest_101 rfl ?_
          refine aw_getI dX4_findBest_102 rfl rfl rfl flX4_160 ?_
          refine aw_iconst 1 dX4_findBest_105 rfl (by decide) ?_
          refine aw_iadd dX4_findBest_106 rfl ?_
          refine aw_putI dX4_findBest_107 rfl rfl rfl flX4_160 (pf_4_20 _) ?_
          rw [mS_right]
          refine aw_aload_n dX4_findBest_110 rfl rfl ?_
          refine aw_V0 (M' := mX4_keepsBest) dX4_findBest_111 rfl lkX4_167 gX4_keepsBest rfl rfl (Nat.le_of_ble_eq_true rfl) (sX4_keepsBest hn (h0s _ _ _ _ _ _ _) hc (okT_rw (by omega)) hLat hLiq (fun hkp => ?_) (fun hkp => ?_))
          · rw [kpB_mS] at hkp
            show AW _ mX4_findBest 114 _ _ _ _
            refine aw_iinc dX4_findBest_114 rfl rfl (ii_1 _) (by decide) ?_
            refine aw_goto (q := 79) dX4_findBest_117 rfl ?_
            refine AW.conv (nx_79 (fun t => if t < n then rwS s cn n r t else f t) f2) (by rw [nI_succ r]; rfl) rfl ?_
            rw [fbS_s, stS_f (fun t ht => if_pos ht) c97 hkp]
          · rw [kpB_mS] at hkp
            rw [mS_keep]
            show AW _ mX4_findBest 114 _ _ _ _
            refine aw_iinc dX4_findBest_114 rfl rfl (ii_1 _) (by decide) ?_
            refine aw_goto (q := 79) dX4_findBest_117 rfl ?_
            refine AW.conv (nx_79 (fun t => if t < n then rwS s cn n r t else f t) f2) (by rw [nI_succ r]; rfl) rfl ?_
            rw [fbS_s, stS_t (fun t ht => if_pos ht) c97 hkp]
            rfl
    · intro i hi_52 nx_52
      try dsimp only at nx_52 ⊢
      refine aw_iload dX4_findBest_52 rfl rfl ?_
      refine aw_aload_n dX4_findBest_54 rfl rfl ?_
      refine aw_getI dX4_findBest_55 rfl rfl rfl flX4_75 ?_
      refine aw_icmp_ge (tgt := 71) dX4_findBest_58 rfl rfl (fun z => absurd z (by rw [rp_nk (by decide), h0]; exact nI_ge hi_52 (by omega))) (fun _ => ?_)
      refine aw_iload_n dX4_findBest_61 rfl rfl ?_
      refine aw_iload_n dX4_findBest_62 rfl rfl ?_
      refine aw_imul dX4_findBest_63 rfl ?_
      refine aw_istore_n dX4_findBest_64 rfl (by decide) ?_
      show AW _ mX4_findBest 65 [_, _, _, _, _] _ _ _
      refine aw_iinc dX4_findBest_65 rfl rfl (ii_1 _) (by decide) ?_
      show AW _ mX4_findBest 68 [_, _, _, _, _] _ _ _
      refine aw_goto (q := 52) dX4_findBest_68 rfl ?_
      refine AW.conv nx_52 ?_ rfl rfl
      rw [pk_mul, Nat.pow_succ, nI_succ i]
  · intro i hi_4 nx_4
    try dsimp only at nx_4 ⊢
    have hci : (nI i).toNatClampNeg = i := nI_clamp (by omega)
    have hli := chs_len s i
    have hcl : (nI (chs s i).length).toNatClampNeg = (chs s i).length := nI_clamp (by omega)
    refine aw_iload_n dX4_findBest_4 rfl rfl ?_
    refine aw_aload_n dX4_findBest_5 rfl rfl ?_
    refine aw_getI dX4_findBest_6 rfl rfl rfl flX4_92 ?_
    refine aw_icmp_ge (tgt := 36) dX4_findBest_9 rfl rfl (fun z => absurd z (by rw [rp_nk (by decide), h9]; exact nI_ge hi_4 (by omega))) (fun _ => ?_)
    refine aw_iload_n dX4_findBest_12 rfl rfl ?_
    refine aw_iload_n dX4_findBest_13 rfl rfl ?_
    refine aw_S2 (M' := mX4_has) dX4_findBest_14 rfl lkX4_86 gX4_has (Nat.le_of_ble_eq_true rfl) (sX4_has ?_)
    show AW _ mX4_findBest 17 _ (_ :: _) _ _
    refine aw_if_eqB (tgt := 30) dX4_findBest_17 rfl rfl (fun c17 => ?_) (fun c17 => ?_)
    · skip
      refine aw_iinc dX4_findBest_30 rfl rfl (ii_1 _) (by decide) ?_
      show AW _ mX4_findBest 33 [_, _, _, _, _] _ _ _
      refine aw_goto (q := 4) dX4_findBest_33 rfl ?_
      refine AW.conv nx_4 ?_ rfl ?_
      · simp [chs_s, c17, nI_succ]
      · try simp only [rp_nk, rp_at, rp_rp, pk_us, ne_eq, Nat.reduceEqDiff, not_false_eq_true, hcl, chr_up]
        simp [chs_s, c17]
    · skip
      refine aw_aload_n dX4_findBest_20 rfl rfl ?_
      refine aw_getR dX4_findBest_21 rfl rfl rfl (by decide) flX4_68 ?_
      refine aw_iload_n dX4_findBest_24 rfl rfl ?_
      refine aw_iload_n dX4_findBest_25 rfl rfl ?_
      refine aw_iast dX4_findBest_26 rfl rfl (by exact vp_in_nI (by omega) (by omega)) ?_
      refine aw_iinc dX4_findBest_27 rfl rfl (ii_1 _) (by decide) ?_
      show AW _ mX4_findBest 30 [_, _, _, _, _] _ _ _
      refine aw_iinc dX4_findBest_30 rfl rfl (ii_1 _) (by decide) ?_
      show AW _ mX4_findBest 33 [_, _, _, _, _] _ _ _
      refine aw_goto (q := 4) dX4_findBest_33 rfl ?_
      refine AW.conv nx_4 ?_ rfl ?_
      · simp [chs_s, c17, nI_succ]
      · try simp only [rp_nk, rp_at, rp_rp, pk_us, ne_eq, Nat.reduceEqDiff, not_false_eq_true, hcl, chr_up]
        simp [chs_s, c17]
