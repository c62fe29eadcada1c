set_option maxRecDepth 4000 in
theorem sX4_best_64 {d : Nat} {σ : SS} {K : ax_K} {w e : Int32} {n cn s : Nat} (hn : n ≤ 6) (h0 : σ 28 0 0 = nI n) (hc : cn ≤ 4) (h9 : σ 28 0 9 = nI cn) (hLat : ∀ x, x < 18 → lt9 (σ 33 0 x)) (hLiq : ∀ c, c < 4 → ∃ j, j < 8 ∧ σ 37 0 c = nI j) (hs16 : s < 16) (hw : bwOK w n)
    (k2 : w = 3 → ∀ (y0 z0 : Int32) (b0 : Nat → Int32), ∀ (x y z : Int32) (f g b c : Nat → Int32), K (some (fbS σ n cn s (mC s cn ^ n) (0, y0, z0, b0)).1) (mS σ x y z f g b c)) (k3 : ¬ w = 3 → ∀ (y0 z0 : Int32) (b0 : Nat → Int32), (fbS σ n cn s (mC s cn ^ n) (0, y0, z0, b0)).1 = 0 → ∀ (x y z : Int32) (f g b c : Nat → Int32), K (some (-9)) (mS σ x y z f g b c))
    (k4 : ∀ (y0 z0 : Int32) (b0 : Nat → Int32), ¬ (fbS σ n cn s (mC s cn ^ n) (0, y0, z0, b0)).1 = 0 → ∀ (x y z : Int32) (f g b c : Nat → Int32), (w = 0 → K (some (fbS σ n cn s (mC s cn ^ n) (0, y0, z0, b0)).2.1) (mS σ x y z f g b c)) ∧ (w = 1 → K (some (fbS σ n cn s (mC s cn ^ n) (0, y0, z0, b0)).2.2.1) (mS σ x y z f g b c)) ∧ (w = 2 → K (some (liS σ (fbS σ n cn s (mC s cn ^ n) (0, y0, z0, b0)).2.2.2 n cn + 100000)) (mS σ x y z f g b c)) ∧ (∀ t, t < n → w = nI (10 + t) → K (some ((fbS σ n cn s (mC s cn ^ n) (0, y0, z0, b0)).2.2.2 t)) (mS σ x y z f g b c)) ∧ (∀ t, t < n → w = nI (20 + t) → K (some (fl (σ 29 0) (σ 38 0) (fbS σ n cn s (mC s cn ^ n) (0, y0, z0, b0)).2.2.2 cn t)) (mS σ x y z f g b c))) : AW (d + 5) mX4_best 64 [some (.inr (28, 0)), some (.inl (nI s)), some (.inl w), some (.inl e)] [] σ K := by
  have h0s : ∀ x y z f g b c, (mS σ x y z f g b c) 28 0 0 = nI n := fun x y z f g b c => (mS_r28j (by decide)).trans h0
  have h9s : ∀ x y z f g b c, (mS σ x y z f g b c) 28 0 9 = nI cn := fun x y z f g b c => (mS_r28j (by decide)).trans h9
  show AW _ mX4_best 64 [_, _, _, _] _ _ _
  refine aw_aload_n dX4_best_64 rfl rfl ?_
  refine aw_iload_n dX4_best_65 rfl rfl ?_
  refine aw_V1 (M' := mX4_findBest) dX4_best_66 rfl lkX4_176 gX4_findBest rfl rfl (Nat.le_of_ble_eq_true rfl) (sX4_findBest hn h0 hc h9 hs16 hLat hLiq (fun f2 g2 => ?_))
  show AW _ mX4_best 69 _ _ _ _
  refine aw_iload_n dX4_best_69 rfl rfl ?_
  refine aw_iconst 3 dX4_best_70 rfl (by decide) ?_
  refine aw_icmp_ne (tgt := 79) dX4_best_71 rfl rfl (fun c71 => ?_) (fun c71 => ?_)
  · skip
    refine aw_aload_n dX4_best_79 rfl rfl ?_
    refine aw_getI dX4_best_80 rfl rfl rfl flX4_160 ?_
    refine aw_if_ne (tgt := 89) dX4_best_83 rfl rfl (fun c83 => ?_) (fun c83 => ?_)
    · skip
      have kq := k4 _ _ _ c83
      refine aw_aload_n dX4_best_89 rfl rfl ?_
      refine aw_V0 (M' := mX4_triesBest) dX4_best_90 rfl lkX4_180 gX4_triesBest rfl rfl (Nat.le_of_ble_eq_true rfl) (sX4_triesBest hn (h0s _ _ _ _ _ _ _) hc (h9s _ _ _ _ _ _ _) ?_)
      rw [mS_44, mS_45]
      show AW _ mX4_best 93 _ _ _ _
      refine aw_iload_n dX4_best_93 rfl rfl ?_
      refine aw_tsw 3 dX4_best_94 rfl (by decide) (by decide) (fun j hj sx => ?_) (fun sx => ?_)
      · match j, hj with
        | 0, _ =>
          refine AW.conv (pc := 120) ?_ rfl rfl rfl
          refine aw_aload_n dX4_best_120 rfl rfl ?_
          refine aw_getI dX4_best_121 rfl rfl rfl flX4_170 ?_
          refine aw_ret dX4_best_124 rfl rfl ?_
          exact (kq _ _ _ _ _ _ _).1 (sx.trans nI_0)
        | 1, _ =>
          refine AW.conv (pc := 125) ?_ rfl rfl rfl
          refine aw_aload_n dX4_best_125 rfl rfl ?_
          refine aw_getI dX4_best_126 rfl rfl rfl flX4_173 ?_
          refine aw_ret dX4_best_129 rfl rfl ?_
          exact (kq _ _ _ _ _ _ _).2.1 sx
        | 2, _ =>
          refine AW.conv (pc := 130) ?_ rfl rfl rfl
          refine aw_aload_n dX4_best_130 rfl rfl ?_
          refine aw_V0 (M' := mX4_listOf) dX4_best_131 rfl lkX4_140 gX4_listOf rfl rfl (Nat.le_of_ble_eq_true rfl) (sX4_listOf hn (h0s _ _ _ _ _ _ _) ?_)
          show AW _ mX4_best 134 _ (_ :: _) _ _
          refine aw_ldc dX4_best_134 rfl kcX4_159 ?_
          refine aw_iadd dX4_best_136 rfl ?_
          refine aw_ret dX4_best_137 rfl rfl ?_
          refine kk_c ((kq _ _ _ _ _ _ _).2.2.1 sx) ?_ rfl
          exact congrArg (fun z => some (z + 100000)) (sumI_congr (fun t ht => by rw [mS_r45, if_pos ht]; rfl)).symm
        | j + 3, hj => exact absurd hj (by omega)
      · refine AW.conv (pc := 138) ?_ rfl rfl rfl
        have hw2 : bw2 w n := by
          rcases hw with h | h
          · obtain ⟨j, hj, rfl⟩ := bd_of 3 (by decide) h
            exfalso
            match j, hj with
            | 0, _ => exact sx 0 (by decide) rfl
            | 1, _ => exact sx 1 (by decide) rfl
            | 2, _ => exact sx 2 (by decide) rfl
            | 3, _ => exact c71 (by decide)
            | j + 4, hj => exact absurd hj (by omega)
          · exact h
        refine aw_iload_n dX4_best_138 rfl rfl ?_
        refine aw_bipush 20 dX4_best_139 rfl (by decide) ?_
        refine aw_icmp_ge (tgt := 156) dX4_best_141 rfl rfl (fun c141 => ?_) (fun c141 => ?_)
        · skip
          obtain ⟨t, ht, ew⟩ := hw2.resolve_left (fun z => by
            obtain ⟨t, ht, rfl⟩ := z
            exact absurd (show nI 20 ≤ _ from c141) (nI_ge (by omega) (by omega)))
          have esub : w - 20 = nI t := by rw [ew, show (20 : Int32) = nI 20 by decide, pk_sub (by omega), Nat.add_sub_cancel_left]
          have hct : (nI t).toNatClampNeg = t := nI_clamp (by omega)
          refine aw_aload_n dX4_best_156 rfl rfl ?_
          refine aw_getR dX4_best_157 rfl rfl rfl (by decide) flX4_62 ?_
          refine aw_iload_n dX4_best_160 rfl rfl ?_
          refine aw_bipush 20 dX4_best_161 rfl (by decide) ?_
          refine aw_isub dX4_best_163 rfl ?_
          rw [esub]
          refine aw_iald dX4_best_164 rfl rfl (vp_in_nI (by omega) (by omega)) ?_
          try simp only [hct]
          refine aw_ret dX4_best_165 rfl rfl ?_
          refine kk_c ((kq _ _ _ _ _ _ _).2.2.2.2 t ht ew) ?_ rfl
          rw [mS_r45, if_pos ht]
          rfl
        · skip
          obtain ⟨t, ht, ew⟩ := hw2.resolve_right (fun z => by
            obtain ⟨t, ht, rfl⟩ := z
            exact c141 (show nI 20 ≤ _ from nI_le (by omega) (by omega)))
          have esub : w - 10 = nI t := by rw [ew, show (10 : Int32) = nI 10 by decide, pk_sub (by omega), Nat.add_sub_cancel_left]
          have hct : (nI t).toNatClampNeg = t := nI_clamp (by omega)
          refine aw_aload_n dX4_best_144 rfl rfl ?_
          refine aw_getR dX4_best_145 rfl rfl rfl (by decide) flX4_65 ?_
          refine aw_iload_n dX4_best_148 rfl rfl ?_
          refine aw_bipush 10 dX4_best_149 rfl (by decide) ?_
          refine aw_isub dX4_best_151 rfl ?_
          rw [esub]
          refine aw_iald dX4_best_152 rfl rfl (vp_in_nI (by omega) (by omega)) ?_
          try simp only [hct]
          refine aw_goto (q := 165) dX4_best_153 rfl ?_
          refine aw_ret dX4_best_165 rfl rfl ?_
          exact (kq _ _ _ _ _ _ _).2.2.2.1 t ht ew
    · skip
      refine aw_bipush (-9) dX4_best_86 rfl (by decide) ?_
      refine aw_ret dX4_best_88 rfl rfl ?_
      exact k3 c71 _ _ _ c83 _ _ _ _ _ _ _
  · skip
    refine aw_aload_n dX4_best_74 rfl rfl ?_
    refine aw_getI dX4_best_75 rfl rfl rfl flX4_160 ?_
    refine aw_ret dX4_best_78 rfl rfl ?_
    exact k2 c71 _ _ _ _ _ _ _ _ _ _
set_option maxRecDepth 4000 in
theorem sX4_best_39 {d : Nat} {σ : SS} {K : ax_K} {v w e : Int32} {n cn : Nat} (hn : n ≤ 6) (h0 : σ 28 0 0 = nI n) (hc : cn ≤ 4) (h9 : σ 28 0 9 = nI cn) (hLat : ∀ x, x < 18 → lt9 (σ 33 0 x)) (hLiq : ∀ c, c < 4 → ∃ j, j < 8 ∧ σ 37 0 c = nI j) (he : ¬ e = 0 ↔ bw2 w n)
    (k1 : ¬ (ixn v (2 ^ cn) ∧ bwOK w n) → K (some (-2)) σ) (kk : ∀ s, s < 2 ^ cn → v = nI s → bwOK w n → AW (d + 5) mX4_best 64 [some (.inr (28, 0)), some (.inl (nI s)), some (.inl w), some (.inl e)] [] σ K) : AW (d + 5) mX4_best 39 [some (.inr (28, 0)), some (.inl v), some (.inl w), none] [.inl e] σ K := by
  show AW _ mX4_best 39 [_, _, _, _] _ _ _
  refine aw_istore_n dX4_best_39 rfl (by decide) ?_
  show AW _ mX4_best 40 [_, _, _, _] _ _ _
  refine aw_aload_n dX4_best_40 rfl rfl ?_
  refine aw_iload_n dX4_best_41 rfl rfl ?_
  refine aw_V1 (M' := mX4_isSetOfCargoes) dX4_best_42 rfl lkX4_144 gX4_isSetOfCargoes rfl rfl (Nat.le_of_ble_eq_true rfl) (sX4_isSetOfCargoes hc h9 ?_)
  show AW _ mX4_best 45 _ (_ :: _) _ _
  refine aw_if_eqb (tgt := 61) dX4_best_45 rfl rfl (fun c45 => ?_) (fun c45 => ?_)
  · skip
    refine aw_bipush (-2) dX4_best_61 rfl (by decide) ?_
    refine aw_ret dX4_best_63 rfl rfl ?_
    refine k1 (fun z => ?_)
    first | exact c45 z.1 | exact z.2.elim c54 (fun q => he.mpr q c58)
  · skip
    refine aw_iload_n dX4_best_48 rfl rfl ?_
    refine aw_iconst 0 dX4_best_49 rfl (by decide) ?_
    refine aw_iconst 3 dX4_best_50 rfl (by decide) ?_
    refine aw_S3 (M' := mX4_within) dX4_best_51 rfl lkX4_71 gX4_within (Nat.le_of_ble_eq_true rfl) (sX4_within ?_)
    show AW _ mX4_best 54 _ (_ :: _) _ _
    refine aw_if_neb (tgt := 64) dX4_best_54 rfl rfl (fun c54 => ?_) (fun c54 => ?_)
    · skip
      obtain ⟨s, hs, rfl⟩ := ixn_of c45 (two_lt hc)
      exact kk s hs rfl (Or.inl c54)
    · skip
      refine aw_iload_n dX4_best_57 rfl rfl ?_
      refine aw_if_ne (tgt := 64) dX4_best_58 rfl rfl (fun c58 => ?_) (fun c58 => ?_)
      · skip
        obtain ⟨s, hs, rfl⟩ := ixn_of c45 (two_lt hc)
        exact kk s hs rfl (Or.inr (he.mp c58))
      · skip
        refine aw_bipush (-2) dX4_best_61 rfl (by decide) ?_
        refine aw_ret dX4_best_63 rfl rfl ?_
        refine k1 (fun z => ?_)
        first | exact c45 z.1 | exact z.2.elim c54 (fun q => he.mpr q c58)
set_option maxRecDepth 4000 in
theorem sX4_best {d : Nat} {σ : SS} {K : ax_K} {v w : Int32} {n cn : Nat} (hn : n ≤ 6) (h0 : σ 28 0 0 = nI n) (hc : cn ≤ 4) (h9 : σ 28 0 9 = nI cn) (hLat : ∀ x, x < 18 → lt9 (σ 33 0 x)) (hLiq : ∀ c, c < 4 → ∃ j, j < 8 ∧ σ 37 0 c = nI j) (k1 : ¬ (ixn v (2 ^ cn) ∧ bwOK w n) → K (some (-2)) σ)
    (kk : ∀ s, s < 2 ^ cn → v = nI s → bwOK w n → ∀ e : Int32, AW (d + 5) mX4_best 64 [some (.inr (28, 0)), some (.inl (nI s)), some (.inl w), some (.inl e)] [] σ K) : AW (d + 5) mX4_best 0 (ax_en mX4_best [.inr (28, 0), .inl v, .inl w]) [] σ K := by
  show AW _ mX4_best 0 [_, _, _, _] _ _ _
  refine aw_iload_n dX4_best_0 rfl rfl ?_
  refine aw_bipush 20 dX4_best_1 rfl (by decide) ?_
  refine aw_icmp_lt (tgt := 17) dX4_best_3 rfl rfl (fun c3 => ?_) (fun c3 => ?_)
  · skip
    refine aw_iload_n dX4_best_17 rfl rfl ?_
    refine aw_bipush 10 dX4_best_18 rfl (by decide) ?_
    refine aw_icmp_lt (tgt := 38) dX4_best_20 rfl rfl (fun c20 => ?_) (fun c20 => ?_)
    · skip
      refine aw_iconst 0 dX4_best_38 rfl (by decide) ?_
      refine sX4_best_39 hn h0 hc h9 hLat hLiq ?_ k1 (fun s hs e hw => kk s hs e hw _)
      exact ⟨fun z => absurd rfl z, fun z => absurd z (fun q => q.elim (bw_lt (by decide) hn c20) (bw_lt (by decide) hn c3))⟩
    · skip
      refine aw_aload_n dX4_best_23 rfl rfl ?_
      refine aw_iload_n dX4_best_24 rfl rfl ?_
      refine aw_bipush 10 dX4_best_25 rfl (by decide) ?_
      refine aw_isub dX4_best_27 rfl ?_
      refine aw_V1 (M' := mX4_isTank) dX4_best_28 rfl lkX4_78 gX4_isTank rfl rfl (Nat.le_of_ble_eq_true rfl) (sX4_isTank hn h0 ?_)
      show AW _ mX4_best 31 _ (_ :: _) _ _
      refine aw_if_eqb (tgt := 38) dX4_best_31 rfl rfl (fun c31 => ?_) (fun c31 => ?_)
      · skip
        refine aw_iconst 0 dX4_best_38 rfl (by decide) ?_
        refine sX4_best_39 hn h0 hc h9 hLat hLiq ?_ k1 (fun s hs e hw => kk s hs e hw _)
        rw [show (10 : Int32) = nI 10 by decide, bw_ix (by decide) hn (Int32.not_lt.mp c20)] at c31
        exact ⟨fun z => absurd rfl z, fun z => absurd z (fun q => q.elim c31 (bw_lt (by decide) hn c3))⟩
      · skip
        refine aw_iconst 1 dX4_best_34 rfl (by decide) ?_
        refine aw_goto (q := 39) dX4_best_35 rfl ?_
        refine sX4_best_39 hn h0 hc h9 hLat hLiq ?_ k1 (fun s hs e hw => kk s hs e hw _)
        rw [show (10 : Int32) = nI 10 by decide, bw_ix (by decide) hn (Int32.not_lt.mp c20)] at c31
        exact ⟨fun _ => Or.inl c31, fun _ => by decide⟩
  · skip
    refine aw_aload_n dX4_best_6 rfl rfl ?_
    refine aw_iload_n dX4_best_7 rfl rfl ?_
    refine aw_bipush 20 dX4_best_8 rfl (by decide) ?_
    refine aw_isub dX4_best_10 rfl ?_
    refine aw_V1 (M' := mX4_isTank) dX4_best_11 rfl lkX4_78 gX4_isTank rfl rfl (Nat.le_of_ble_eq_true rfl) (sX4_isTank hn h0 ?_)
    show AW _ mX4_best 14 _ (_ :: _) _ _
    refine aw_goto (q := 39) dX4_best_14 rfl ?_
    refine sX4_best_39 hn h0 hc h9 hLat hLiq ?_ k1 (fun s hs e hw => kk s hs e hw _)
    rw [bI_0, Decidable.not_not, show (20 : Int32) = nI 20 by decide, bw_ix (by decide) hn (Int32.not_lt.mp c3)]
    exact ⟨Or.inr, fun z => z.resolve_left (bw_ge hn (Int32.not_lt.mp c3))⟩
