set_option maxRecDepth 4000 in
theorem sX4_taken {d : Nat} {σ : SS} {K : ax_K} {n cn : Nat} (hn : n ≤ 6) (h0 : σ 28 0 0 = nI n) (hc : cn ≤ 4) (h9 : σ 28 0 9 = nI cn) (hLat : ∀ x, x < 18 → lt9 (σ 33 0 x)) (hLiq : ∀ c, c < 4 → ∃ j, j < 8 ∧ σ 37 0 c = nI j) (hK : ∀ (x y z : Int32) (f g b c : Nat → Int32), K (some (nI (tkS σ n cn (2 ^ cn - 1)))) (mS σ x y z f g b c)) : AW (d + 5) mX4_taken 0 (ax_en mX4_taken [.inr (28, 0)]) [] σ K := by
  have h0s : ∀ x y z f g b c, (mS σ x y z f g b c) 28 0 0 = nI n := fun x y z f g b c => (mS_r28j (by decide)).trans h0
  have h9s : ∀ x y z f g b c, (mS σ x y z f g b c) 28 0 9 = nI cn := fun x y z f g b c => (mS_r28j (by decide)).trans h9
  have hp2 : 2 ^ cn ≤ 16 := Nat.le_trans (Nat.pow_le_pow_right (by decide) hc) (by decide)
  have hp1 : 1 ≤ 2 ^ cn := Nat.one_le_two_pow
  show AW _ mX4_taken 0 [_, _, _] _ _ _
  refine aw_iconst 0 dX4_taken_0 rfl (by decide) ?_
  refine aw_istore_n dX4_taken_1 rfl (by decide) ?_
  show AW _ mX4_taken 2 [_, _, _] _ _ _
  refine aw_iconst 1 dX4_taken_2 rfl (by decide) ?_
  refine aw_istore_n dX4_taken_3 rfl (by decide) ?_
  show AW _ mX4_taken 4 [_, _, _] _ _ _
  refine AW.conv (ax_loop (P := fun i => ∀ (x y z : Int32) (f g b c : Nat → Int32), AW (d + 5) mX4_taken 4 [some (.inr (28, 0)), some (.inl (nI (tkS σ n cn i))), some (.inl (nI (i + 1)))] [] (mS σ x y z f g b c) K) (2 ^ cn - 1) ?_ ?_ 0 (Nat.zero_le _) (σ 28 0 20) (σ 28 0 21) (σ 28 0 22) (σ 44 0) (σ 45 0) (σ 46 0) (σ 47 0)) (by simp only [Nat.zero_add]; rfl) rfl (by rw [mS_self])
  · try dsimp only
    intro x y z f g b c
    refine aw_iload_n dX4_taken_4 rfl rfl ?_
    refine aw_iconst 1 dX4_taken_5 rfl (by decide) ?_
    refine aw_aload_n dX4_taken_6 rfl rfl ?_
    refine aw_getI dX4_taken_7 rfl rfl rfl flX4_92 ?_
    refine aw_ishl dX4_taken_10 rfl ?_
    refine aw_icmp_ge (tgt := 47) dX4_taken_11 rfl rfl (fun _ => ?_) (fun z => absurd (by rw [h9s, shl1 hc, Nat.sub_add_cancel hp1]; exact Int32.le_refl _) z)
    refine aw_iload_n dX4_taken_47 rfl rfl ?_
    refine aw_ret dX4_taken_48 rfl rfl ?_
    exact hK _ _ _ _ _ _ _
  · intro i hi_4 nx_4
    try dsimp only at nx_4 ⊢
    intro x y z f g b c
    have hle := tkS_le σ n cn i
    refine aw_iload_n dX4_taken_4 rfl rfl ?_
    refine aw_iconst 1 dX4_taken_5 rfl (by decide) ?_
    refine aw_aload_n dX4_taken_6 rfl rfl ?_
    refine aw_getI dX4_taken_7 rfl rfl rfl flX4_92 ?_
    refine aw_ishl dX4_taken_10 rfl ?_
    refine aw_icmp_ge (tgt := 47) dX4_taken_11 rfl rfl (fun z => absurd z (by rw [h9s, shl1 hc]; exact nI_ge (by omega) (by omega))) (fun _ => ?_)
    refine aw_aload_n dX4_taken_14 rfl rfl ?_
    refine aw_iload_n dX4_taken_15 rfl rfl ?_
    refine aw_iload_n dX4_taken_16 rfl rfl ?_
    refine aw_V2 (M' := mX4_isBetter) dX4_taken_17 rfl lkX4_189 gX4_isBetter rfl rfl (Nat.le_of_ble_eq_true rfl) (sX4_isBetter hc (h9s _ _ _ _ _ _ _) (by omega) (by omega) ?_)
    rw [btB_mS]
    show AW _ mX4_taken 20 _ (_ :: _) _ _
    refine aw_if_eqB (tgt := 41) dX4_taken_20 rfl rfl (fun c20 => ?_) (fun c20 => ?_)
    · skip
      refine aw_iinc dX4_taken_41 rfl rfl (ii_1 _) (by decide) ?_
      show AW _ mX4_taken 44 [_, _, _] _ _ _
      refine aw_goto (q := 4) dX4_taken_44 rfl ?_
      exact AW.conv (nx_4 _ _ _ _ _ _ _) (by rw [nI_succ (i + 1), tkS_s, if_neg (fun z => absurd z.1 (by rw [c20]; decide))]) rfl rfl
    · skip
      refine aw_aload_n dX4_taken_23 rfl rfl ?_
      refine aw_iload_n dX4_taken_24 rfl rfl ?_
      refine aw_V1 (M' := mX4_findBest) dX4_taken_25 rfl lkX4_176 gX4_findBest rfl rfl (Nat.le_of_ble_eq_true rfl) (sX4_findBest hn (h0s _ _ _ _ _ _ _) hc (h9s _ _ _ _ _ _ _) (by omega) hLat hLiq (fun f2 g2 => ?_))
      rw [mS_mS]
      simp only [fbS_mS]
      show AW _ mX4_taken 28 _ _ _ _
      refine aw_aload_n dX4_taken_28 rfl rfl ?_
      refine aw_getI dX4_taken_29 rfl rfl rfl flX4_160 ?_
      rw [show ∀ (x y z : Int32) (f g b c : Nat → Int32), (mS σ x y z f g b c) 28 0 20 = x from fun _ _ _ _ _ _ _ => rfl, fbS_1]
      refine aw_if_le (tgt := 39) dX4_taken_32 rfl rfl (fun c32 => ?_) (fun c32 => ?_)
      · skip
        refine aw_iload_n dX4_taken_39 rfl rfl ?_
        refine aw_istore_n dX4_taken_40 rfl (by decide) ?_
        show AW _ mX4_taken 41 [_, _, _] _ _ _
        refine aw_iinc dX4_taken_41 rfl rfl (ii_1 _) (by decide) ?_
        show AW _ mX4_taken 44 [_, _, _] _ _ _
        refine aw_goto (q := 4) dX4_taken_44 rfl ?_
        exact AW.conv (nx_4 _ _ _ _ _ _ _) (by rw [nI_succ (i + 1), tkS_s, if_neg (fun z => absurd c32 (Int32.not_le.mpr z.2))]) rfl rfl
      · skip
        refine aw_iload_n dX4_taken_35 rfl rfl ?_
        refine aw_goto (q := 40) dX4_taken_36 rfl ?_
        refine aw_istore_n dX4_taken_40 rfl (by decide) ?_
        show AW _ mX4_taken 41 [_, _, _] _ _ _
        refine aw_iinc dX4_taken_41 rfl rfl (ii_1 _) (by decide) ?_
        show AW _ mX4_taken 44 [_, _, _] _ _ _
        refine aw_goto (q := 4) dX4_taken_44 rfl ?_
        exact AW.conv (nx_4 _ _ _ _ _ _ _) (by rw [nI_succ (i + 1), tkS_s, if_pos ⟨c20, Int32.not_le.mp c32⟩]) rfl rfl
