set_option maxRecDepth 4000 in
theorem sX3_tanksThatSuit {d : Nat} {σ : SS} {K : ax_K} {c n : Nat} (hcc : c < 4) (hn : n ≤ 6) (h0 : σ 0 0 7 = nI n) (hCoat : ∀ t, t < 6 → 0 ≤ σ 8 t 1) (hLat : ∀ t k, t < 6 → k < 3 → lt9 (σ 9 t k)) (hK : K (some (setI n (fun t => whyS (vw σ) t c = 0))) σ) : AW (d + 2) mX3_tanksThatSuit 0 (ax_en mX3_tanksThatSuit [.inr (0, 0), .inr (10, c)]) [] σ K := by
  show AW _ mX3_tanksThatSuit 0 [_, _, _, _] _ _ _
  refine aw_iconst 0 dX3_tanksThatSuit_0 rfl (by decide) ?_
  refine aw_istore_n dX3_tanksThatSuit_1 rfl (by decide) ?_
  show AW _ mX3_tanksThatSuit 2 [_, _, _, _] _ _ _
  refine aw_iconst 0 dX3_tanksThatSuit_2 rfl (by decide) ?_
  refine aw_istore_n dX3_tanksThatSuit_3 rfl (by decide) ?_
  show AW _ mX3_tanksThatSuit 4 [_, _, _, _] _ _ _
  refine AW.conv (ax_loop (P := fun i => AW (d + 2) mX3_tanksThatSuit 4 [some (.inr (0, 0)), some (.inr (10, c)), some (.inl (setI i (fun t => whyS (vw σ) t c = 0))), some (.inl (nI i))] [] σ K) n ?_ ?_ 0 (Nat.zero_le _)) (by first | (simp only [nI_0]; done) | (simp only [nI_0]; rfl)) rfl rfl
  · try dsimp only
    refine aw_iload_n dX3_tanksThatSuit_4 rfl rfl ?_
    refine aw_aload_n dX3_tanksThatSuit_5 rfl rfl ?_
    refine aw_getI dX3_tanksThatSuit_6 rfl rfl rfl flX3_41 ?_
    refine aw_icmp_ge (tgt := 38) dX3_tanksThatSuit_9 rfl rfl (fun _ => ?_) (fun z => absurd (by rw [h0]; exact Int32.le_refl _) z)
    refine aw_iload_n dX3_tanksThatSuit_38 rfl rfl ?_
    refine aw_ret dX3_tanksThatSuit_39 rfl rfl ?_
    exact hK
  · intro i hi_4 nx_4
    try dsimp only at nx_4 ⊢
    have hci : (nI i).toNatClampNeg = i := nI_clamp (by omega)
    refine aw_iload_n dX3_tanksThatSuit_4 rfl rfl ?_
    refine aw_aload_n dX3_tanksThatSuit_5 rfl rfl ?_
    refine aw_getI dX3_tanksThatSuit_6 rfl rfl rfl flX3_41 ?_
    refine aw_icmp_ge (tgt := 38) dX3_tanksThatSuit_9 rfl rfl (fun z => absurd z (by rw [h0]; exact nI_ge hi_4 (by omega))) (fun _ => ?_)
    refine aw_aload_n dX3_tanksThatSuit_12 rfl rfl ?_
    refine aw_aload_n dX3_tanksThatSuit_13 rfl rfl ?_
    refine aw_getR dX3_tanksThatSuit_14 rfl rfl rfl (by decide) flX3_11 ?_
    refine aw_iload_n dX3_tanksThatSuit_17 rfl rfl ?_
    refine aw_aald dX3_tanksThatSuit_18 rfl rfl (by decide) (by first | exact (show vp_in _ 6 from vp_in_nI (by omega) (by omega)) | exact (show vp_in _ 4 from vp_in_nI (by omega) (by omega))) ?_
    try simp only [hci]
    refine aw_aload_n dX3_tanksThatSuit_19 rfl rfl ?_
    refine aw_V2 (M' := mX3_faults) dX3_tanksThatSuit_20 rfl lkX3_141 gX3_faults rfl rfl (Nat.le_of_ble_eq_true rfl) (sX3_faults (by omega) (hCoat _ (by omega)) hLat ?_)
    show AW _ mX3_tanksThatSuit 23 _ (_ :: _) _ _
    refine aw_if_ne (tgt := 32) dX3_tanksThatSuit_23 rfl rfl (fun c23 => ?_) (fun c23 => ?_)
    · skip
      refine aw_iinc dX3_tanksThatSuit_32 rfl rfl (ii_1 _) (by decide) ?_
      show AW _ mX3_tanksThatSuit 35 [_, _, _, _] _ _ _
      refine aw_goto (q := 4) dX3_tanksThatSuit_35 rfl ?_
      refine AW.conv nx_4 ?_ rfl rfl
      simp only [nI_succ, setI, lp_s]
      simp [c23]
    · skip
      refine aw_iload_n dX3_tanksThatSuit_26 rfl rfl ?_
      refine aw_iconst 1 dX3_tanksThatSuit_27 rfl (by decide) ?_
      refine aw_iload_n dX3_tanksThatSuit_28 rfl rfl ?_
      refine aw_ishl dX3_tanksThatSuit_29 rfl ?_
      refine aw_ior dX3_tanksThatSuit_30 rfl ?_
      refine aw_istore_n dX3_tanksThatSuit_31 rfl (by decide) ?_
      show AW _ mX3_tanksThatSuit 32 [_, _, _, _] _ _ _
      refine aw_iinc dX3_tanksThatSuit_32 rfl rfl (ii_1 _) (by decide) ?_
      show AW _ mX3_tanksThatSuit 35 [_, _, _, _] _ _ _
      refine aw_goto (q := 4) dX3_tanksThatSuit_35 rfl ?_
      refine AW.conv nx_4 ?_ rfl rfl
      simp only [nI_succ, setI, lp_s]
      simp [c23]
set_option maxRecDepth 4000 in
theorem sX3_cargoesThatClash {d : Nat} {σ : SS} {K : ax_K} {c cn : Nat} (hcc : c < 4) (hc : cn ≤ 4) (h9 : σ 0 0 8 = nI cn) (hLiq : ∀ c, c < 4 → ∃ j, j < 8 ∧ σ 10 c 0 = nI j) (hK : K (some (setI cn (fun e => clB (vw σ) c e = true))) σ) : AW (d + 2) mX3_cargoesThatClash 0 (ax_en mX3_cargoesThatClash [.inr (0, 0), .inr (10, c)]) [] σ K := by
  show AW _ mX3_cargoesThatClash 0 [_, _, _, _] _ _ _
  refine aw_iconst 0 dX3_cargoesThatClash_0 rfl (by decide) ?_
  refine aw_istore_n dX3_cargoesThatClash_1 rfl (by decide) ?_
  show AW _ mX3_cargoesThatClash 2 [_, _, _, _] _ _ _
  refine aw_iconst 0 dX3_cargoesThatClash_2 rfl (by decide) ?_
  refine aw_istore_n dX3_cargoesThatClash_3 rfl (by decide) ?_
  show AW _ mX3_cargoesThatClash 4 [_, _, _, _] _ _ _
  refine AW.conv (ax_loop (P := fun i => AW (d + 2) mX3_cargoesThatClash 4 [some (.inr (0, 0)), some (.inr (10, c)), some (.inl (setI i (fun e => clB (vw σ) c e = true))), some (.inl (nI i))] [] σ K) cn ?_ ?_ 0 (Nat.zero_le _)) (by first | (simp only [nI_0]; done) | (simp only [nI_0]; rfl)) rfl rfl
  · try dsimp only
    refine aw_iload_n dX3_cargoesThatClash_4 rfl rfl ?_
    refine aw_aload_n dX3_cargoesThatClash_5 rfl rfl ?_
    refine aw_getI dX3_cargoesThatClash_6 rfl rfl rfl flX3_45 ?_
    refine aw_icmp_ge (tgt := 37) dX3_cargoesThatClash_9 rfl rfl (fun _ => ?_) (fun z => absurd (by rw [h9]; exact Int32.le_refl _) z)
    refine aw_iload_n dX3_cargoesThatClash_37 rfl rfl ?_
    refine aw_ret dX3_cargoesThatClash_38 rfl rfl ?_
    exact hK
  · intro i hi_4 nx_4
    try dsimp only at nx_4 ⊢
    have hci : (nI i).toNatClampNeg = i := nI_clamp (by omega)
    refine aw_iload_n dX3_cargoesThatClash_4 rfl rfl ?_
    refine aw_aload_n dX3_cargoesThatClash_5 rfl rfl ?_
    refine aw_getI dX3_cargoesThatClash_6 rfl rfl rfl flX3_45 ?_
    refine aw_icmp_ge (tgt := 37) dX3_cargoesThatClash_9 rfl rfl (fun z => absurd z (by rw [h9]; exact nI_ge hi_4 (by omega))) (fun _ => ?_)
    refine aw_aload_n dX3_cargoesThatClash_12 rfl rfl ?_
    refine aw_aload_n dX3_cargoesThatClash_13 rfl rfl ?_
    refine aw_getR dX3_cargoesThatClash_14 rfl rfl rfl (by decide) flX3_17 ?_
    refine aw_iload_n dX3_cargoesThatClash_17 rfl rfl ?_
    refine aw_aald dX3_cargoesThatClash_18 rfl rfl (by decide) (by first | exact (show vp_in _ 6 from vp_in_nI (by omega) (by omega)) | exact (show vp_in _ 4 from vp_in_nI (by omega) (by omega))) ?_
    try simp only [hci]
    refine aw_S2 (M' := mX3_clash) dX3_cargoesThatClash_19 rfl lkX3_220 gX3_clash (Nat.le_of_ble_eq_true rfl) (sX3_clash (by omega) (by omega) hLiq ?_)
    show AW _ mX3_cargoesThatClash 22 _ (_ :: _) _ _
    refine aw_if_eqB (tgt := 31) dX3_cargoesThatClash_22 rfl rfl (fun c22 => ?_) (fun c22 => ?_)
    · skip
      refine aw_iinc dX3_cargoesThatClash_31 rfl rfl (ii_1 _) (by decide) ?_
      show AW _ mX3_cargoesThatClash 34 [_, _, _, _] _ _ _
      refine aw_goto (q := 4) dX3_cargoesThatClash_34 rfl ?_
      refine AW.conv nx_4 ?_ rfl rfl
      simp only [nI_succ, setI, lp_s]
      simp [c22]
    · skip
      refine aw_iload_n dX3_cargoesThatClash_25 rfl rfl ?_
      refine aw_iconst 1 dX3_cargoesThatClash_26 rfl (by decide) ?_
      refine aw_iload_n dX3_cargoesThatClash_27 rfl rfl ?_
      refine aw_ishl dX3_cargoesThatClash_28 rfl ?_
      refine aw_ior dX3_cargoesThatClash_29 rfl ?_
      refine aw_istore_n dX3_cargoesThatClash_30 rfl (by decide) ?_
      show AW _ mX3_cargoesThatClash 31 [_, _, _, _] _ _ _
      refine aw_iinc dX3_cargoesThatClash_31 rfl rfl (ii_1 _) (by decide) ?_
      show AW _ mX3_cargoesThatClash 34 [_, _, _, _] _ _ _
      refine aw_goto (q := 4) dX3_cargoesThatClash_34 rfl ?_
      refine AW.conv nx_4 ?_ rfl rfl
      simp only [nI_succ, setI, lp_s]
      simp [c22]
set_option maxRecDepth 4000 in
theorem sX3_tanksThatHold {d : Nat} {σ : SS} {K : ax_K} {c : Int32} {n : Nat} (hn : n ≤ 6) (h0 : σ 0 0 7 = nI n) (hK : K (some (cntI n (fun t => σ 8 t 5 = c))) σ) : AW d mX3_tanksThatHold 0 (ax_en mX3_tanksThatHold [.inr (0, 0), .inl c]) [] σ K := by
  show AW _ mX3_tanksThatHold 0 [_, _, _, _] _ _ _
  refine aw_iconst 0 dX3_tanksThatHold_0 rfl (by decide) ?_
  refine aw_istore_n dX3_tanksThatHold_1 rfl (by decide) ?_
  show AW _ mX3_tanksThatHold 2 [_, _, _, _] _ _ _
  refine aw_iconst 0 dX3_tanksThatHold_2 rfl (by decide) ?_
  refine aw_istore_n dX3_tanksThatHold_3 rfl (by decide) ?_
  show AW _ mX3_tanksThatHold 4 [_, _, _, _] _ _ _
  refine AW.conv (ax_loop (P := fun i => AW d mX3_tanksThatHold 4 [some (.inr (0, 0)), some (.inl c), some (.inl (cntI i (fun t => σ 8 t 5 = c))), some (.inl (nI i))] [] σ K) n ?_ ?_ 0 (Nat.zero_le _)) (by first | (simp only [nI_0]; done) | (simp only [nI_0]; rfl)) rfl rfl
  · try dsimp only
    refine aw_iload_n dX3_tanksThatHold_4 rfl rfl ?_
    refine aw_aload_n dX3_tanksThatHold_5 rfl rfl ?_
    refine aw_getI dX3_tanksThatHold_6 rfl rfl rfl flX3_41 ?_
    refine aw_icmp_ge (tgt := 34) dX3_tanksThatHold_9 rfl rfl (fun _ => ?_) (fun z => absurd (by rw [h0]; exact Int32.le_refl _) z)
    refine aw_iload_n dX3_tanksThatHold_34 rfl rfl ?_
    refine aw_ret dX3_tanksThatHold_35 rfl rfl ?_
    exact hK
  · intro i hi_4 nx_4
    try dsimp only at nx_4 ⊢
    have hci : (nI i).toNatClampNeg = i := nI_clamp (by omega)
    refine aw_iload_n dX3_tanksThatHold_4 rfl rfl ?_
    refine aw_aload_n dX3_tanksThatHold_5 rfl rfl ?_
    refine aw_getI dX3_tanksThatHold_6 rfl rfl rfl flX3_41 ?_
    refine aw_icmp_ge (tgt := 34) dX3_tanksThatHold_9 rfl rfl (fun z => absurd z (by rw [h0]; exact nI_ge hi_4 (by omega))) (fun _ => ?_)
    refine aw_aload_n dX3_tanksThatHold_12 rfl rfl ?_
    refine aw_getR dX3_tanksThatHold_13 rfl rfl rfl (by decide) flX3_11 ?_
    refine aw_iload_n dX3_tanksThatHold_16 rfl rfl ?_
    refine aw_aald dX3_tanksThatHold_17 rfl rfl (by decide) (by first | exact (show vp_in _ 6 from vp_in_nI (by omega) (by omega)) | exact (show vp_in _ 4 from vp_in_nI (by omega) (by omega))) ?_
    try simp only [hci]
    refine aw_getI dX3_tanksThatHold_18 rfl rfl rfl flX3_124 ?_
    refine aw_iload_n dX3_tanksThatHold_21 rfl rfl ?_
    refine aw_icmp_ne (tgt := 28) dX3_tanksThatHold_22 rfl rfl (fun c22 => ?_) (fun c22 => ?_)
    · skip
      refine aw_iinc dX3_tanksThatHold_28 rfl rfl (ii_1 _) (by decide) ?_
      show AW _ mX3_tanksThatHold 31 [_, _, _, _] _ _ _
      refine aw_goto (q := 4) dX3_tanksThatHold_31 rfl ?_
      refine AW.conv nx_4 ?_ rfl rfl
      simp only [nI_succ, cntI, lp_s]
      simp [c22]
    · skip
      refine aw_iinc dX3_tanksThatHold_25 rfl rfl (ii_1 _) (by decide) ?_
      show AW _ mX3_tanksThatHold 28 [_, _, _, _] _ _ _
      refine aw_iinc dX3_tanksThatHold_28 rfl rfl (ii_1 _) (by decide) ?_
      show AW _ mX3_tanksThatHold 31 [_, _, _, _] _ _ _
      refine aw_goto (q := 4) dX3_tanksThatHold_31 rfl ?_
      refine AW.conv nx_4 ?_ rfl rfl
      simp only [nI_succ, cntI, lp_s]
      simp [c22]
set_option maxRecDepth 4000 in
theorem sX3_tanksInUse {d : Nat} {σ : SS} {K : ax_K} {n : Nat} (hn : n ≤ 6) (h0 : σ 0 0 7 = nI n) (hK : K (some (σ 0 0 7 - cntI n (fun t => σ 8 t 5 = -9))) σ) : AW (d + 1) mX3_tanksInUse 0 (ax_en mX3_tanksInUse [.inr (0, 0)]) [] σ K := by
  show AW _ mX3_tanksInUse 0 [_] _ _ _
  refine aw_aload_n dX3_tanksInUse_0 rfl rfl ?_
  refine aw_getI dX3_tanksInUse_1 rfl rfl rfl flX3_41 ?_
  refine aw_aload_n dX3_tanksInUse_4 rfl rfl ?_
  refine aw_bipush (-9) dX3_tanksInUse_5 rfl (by decide) ?_
  refine aw_V1 (M' := mX3_tanksThatHold) dX3_tanksInUse_7 rfl lkX3_117 gX3_tanksThatHold rfl rfl (Nat.le_of_ble_eq_true rfl) (sX3_tanksThatHold hn h0 ?_)
  show AW _ mX3_tanksInUse 10 _ (_ :: _) _ _
  refine aw_isub dX3_tanksInUse_10 rfl ?_
  refine aw_ret dX3_tanksInUse_11 rfl rfl ?_
  exact hK
set_option maxRecDepth 4000 in
theorem sX3_heldList {d : Nat} {σ : SS} {K : ax_K} {n : Nat} (hn : n ≤ 6) (h0 : σ 0 0 7 = nI n) (hK : K (some (sumI n (fun t => σ 8 t 6 * σ 8 t 2))) σ) : AW d mX3_heldList 0 (ax_en mX3_heldList [.inr (0, 0)]) [] σ K := by
  show AW _ mX3_heldList 0 [_, _, _] _ _ _
  refine aw_iconst 0 dX3_heldList_0 rfl (by decide) ?_
  refine aw_istore_n dX3_heldList_1 rfl (by decide) ?_
  show AW _ mX3_heldList 2 [_, _, _] _ _ _
  refine aw_iconst 0 dX3_heldList_2 rfl (by decide) ?_
  refine aw_istore_n dX3_heldList_3 rfl (by decide) ?_
  show AW _ mX3_heldList 4 [_, _, _] _ _ _
  refine AW.conv (ax_loop (P := fun i => AW d mX3_heldList 4 [some (.inr (0, 0)), some (.inl (sumI i (fun t => σ 8 t 6 * σ 8 t 2))), some (.inl (nI i))] [] σ K) n ?_ ?_ 0 (Nat.zero_le _)) (by first | (simp only [nI_0]; done) | (simp only [nI_0]; rfl)) rfl rfl
  · try dsimp only
    refine aw_iload_n dX3_heldList_4 rfl rfl ?_
    refine aw_aload_n dX3_heldList_5 rfl rfl ?_
    refine aw_getI dX3_heldList_6 rfl rfl rfl flX3_41 ?_
    refine aw_icmp_ge (tgt := 40) dX3_heldList_9 rfl rfl (fun _ => ?_) (fun z => absurd (by rw [h0]; exact Int32.le_refl _) z)
    refine aw_iload_n dX3_heldList_40 rfl rfl ?_
    refine aw_ret dX3_heldList_41 rfl rfl ?_
    exact hK
  · intro i hi_4 nx_4
    try dsimp only at nx_4 ⊢
    have hci : (nI i).toNatClampNeg = i := nI_clamp (by omega)
    refine aw_iload_n dX3_heldList_4 rfl rfl ?_
    refine aw_aload_n dX3_heldList_5 rfl rfl ?_
    refine aw_getI dX3_heldList_6 rfl rfl rfl flX3_41 ?_
    refine aw_icmp_ge (tgt := 40) dX3_heldList_9 rfl rfl (fun z => absurd z (by rw [h0]; exact nI_ge hi_4 (by omega))) (fun _ => ?_)
    refine aw_iload_n dX3_heldList_12 rfl rfl ?_
    refine aw_aload_n dX3_heldList_13 rfl rfl ?_
    refine aw_getR dX3_heldList_14 rfl rfl rfl (by decide) flX3_11 ?_
    refine aw_iload_n dX3_heldList_17 rfl rfl ?_
    refine aw_aald dX3_heldList_18 rfl rfl (by decide) (by first | exact (show vp_in _ 6 from vp_in_nI (by omega) (by omega)) | exact (show vp_in _ 4 from vp_in_nI (by omega) (by omega))) ?_
    try simp only [hci]
    refine aw_getI dX3_heldList_19 rfl rfl rfl flX3_127 ?_
    refine aw_aload_n dX3_heldList_22 rfl rfl ?_
    refine aw_getR dX3_heldList_23 rfl rfl rfl (by decide) flX3_11 ?_
    refine aw_iload_n dX3_heldList_26 rfl rfl ?_
    refine aw_aald dX3_heldList_27 rfl rfl (by decide) (by first | exact (show vp_in _ 6 from vp_in_nI (by omega) (by omega)) | exact (show vp_in _ 4 from vp_in_nI (by omega) (by omega))) ?_
    try simp only [hci]
    refine aw_getI dX3_heldList_28 rfl rfl rfl flX3_70 ?_
    refine aw_imul dX3_heldList_31 rfl ?_
    refine aw_iadd dX3_heldList_32 rfl ?_
    refine aw_istore_n dX3_heldList_33 rfl (by decide) ?_
    show AW _ mX3_heldList 34 [_, _, _] _ _ _
    refine aw_iinc dX3_heldList_34 rfl rfl (ii_1 _) (by decide) ?_
    show AW _ mX3_heldList 37 [_, _, _] _ _ _
    refine aw_goto (q := 4) dX3_heldList_37 rfl ?_
    refine AW.conv nx_4 ?_ rfl rfl
    simp only [nI_succ, sumI, lp_s]
set_option maxRecDepth 4000 in
theorem sX3_toldList {d : Nat} {σ : SS} {K : ax_K} {n : Nat} (hn : n ≤ 6) (h0 : σ 0 0 7 = nI n) (hK : K (some (sumI n (fun t => σ 6 0 t * σ 8 t 2))) σ) : AW d mX3_toldList 0 (ax_en mX3_toldList [.inr (0, 0)]) [] σ K := by
  show AW _ mX3_toldList 0 [_, _, _] _ _ _
  refine aw_iconst 0 dX3_toldList_0 rfl (by decide) ?_
  refine aw_istore_n dX3_toldList_1 rfl (by decide) ?_
  show AW _ mX3_toldList 2 [_, _, _] _ _ _
  refine aw_iconst 0 dX3_toldList_2 rfl (by decide) ?_
  refine aw_istore_n dX3_toldList_3 rfl (by decide) ?_
  show AW _ mX3_toldList 4 [_, _, _] _ _ _
  refine AW.conv (ax_loop (P := fun i => AW d mX3_toldList 4 [some (.inr (0, 0)), some (.inl (sumI i (fun t => σ 6 0 t * σ 8 t 2))), some (.inl (nI i))] [] σ K) n ?_ ?_ 0 (Nat.zero_le _)) (by first | (simp only [nI_0]; done) | (simp only [nI_0]; rfl)) rfl rfl
  · try dsimp only
    refine aw_iload_n dX3_toldList_4 rfl rfl ?_
    refine aw_aload_n dX3_toldList_5 rfl rfl ?_
    refine aw_getI dX3_toldList_6 rfl rfl rfl flX3_41 ?_
    refine aw_icmp_ge (tgt := 37) dX3_toldList_9 rfl rfl (fun _ => ?_) (fun z => absurd (by rw [h0]; exact Int32.le_refl _) z)
    refine aw_iload_n dX3_toldList_37 rfl rfl ?_
    refine aw_ret dX3_toldList_38 rfl rfl ?_
    exact hK
  · intro i hi_4 nx_4
    try dsimp only at nx_4 ⊢
    have hci : (nI i).toNatClampNeg = i := nI_clamp (by omega)
    refine aw_iload_n dX3_toldList_4 rfl rfl ?_
    refine aw_aload_n dX3_toldList_5 rfl rfl ?_
    refine aw_getI dX3_toldList_6 rfl rfl rfl flX3_41 ?_
    refine aw_icmp_ge (tgt := 37) dX3_toldList_9 rfl rfl (fun z => absurd z (by rw [h0]; exact nI_ge hi_4 (by omega))) (fun _ => ?_)
    refine aw_iload_n dX3_toldList_12 rfl rfl ?_
    refine aw_aload_n dX3_toldList_13 rfl rfl ?_
    refine aw_getR dX3_toldList_14 rfl rfl rfl (by decide) flX3_35 ?_
    refine aw_iload_n dX3_toldList_17 rfl rfl ?_
    refine aw_iald dX3_toldList_18 rfl rfl (by first | exact vp_in_nI (by omega) (by omega) | exact vp_in_iff.mpr (by decide)) ?_
    try simp only [hci]
    refine aw_aload_n dX3_toldList_19 rfl rfl ?_
    refine aw_getR dX3_toldList_20 rfl rfl rfl (by decide) flX3_11 ?_
    refine aw_iload_n dX3_toldList_23 rfl rfl ?_
    refine aw_aald dX3_toldList_24 rfl rfl (by decide) (by first | exact (show vp_in _ 6 from vp_in_nI (by omega) (by omega)) | exact (show vp_in _ 4 from vp_in_nI (by omega) (by omega))) ?_
    try simp only [hci]
    refine aw_getI dX3_toldList_25 rfl rfl rfl flX3_70 ?_
    refine aw_imul dX3_toldList_28 rfl ?_
    refine aw_iadd dX3_toldList_29 rfl ?_
    refine aw_istore_n dX3_toldList_30 rfl (by decide) ?_
    show AW _ mX3_toldList 31 [_, _, _] _ _ _
    refine aw_iinc dX3_toldList_31 rfl rfl (ii_1 _) (by decide) ?_
    show AW _ mX3_toldList 34 [_, _, _] _ _ _
    refine aw_goto (q := 4) dX3_toldList_34 rfl ?_
    refine AW.conv nx_4 ?_ rfl rfl
    simp only [nI_succ, sumI, lp_s]
set_option maxRecDepth 4000 in
theorem sX2_leaveEmpty {d : Nat} {σ : SS} {K : ax_K} {a : Nat} {l : Int32}  (hK : K none (rp (rp σ 8 a (upd (upd (σ 8 a) 5 (-9)) 6 0)) 9 a (upd (upd (upd (σ 9 a) 2 (σ 9 a 1)) 1 (σ 9 a 0)) 0 l))) : AW d mX2_leaveEmpty 0 (ax_en mX2_leaveEmpty [.inr (8, a), .inl l]) [] σ K := by
  show AW _ mX2_leaveEmpty 0 [_, _] _ _ _
  refine aw_aload_n dX2_leaveEmpty_0 rfl rfl ?_
  refine aw_bipush (-9) dX2_leaveEmpty_1 rfl (by decide) ?_
  refine aw_putI dX2_leaveEmpty_3 rfl rfl rfl flX2_28 (pf_2_5 _) ?_
  refine aw_aload_n dX2_leaveEmpty_6 rfl rfl ?_
  refine aw_iconst 0 dX2_leaveEmpty_7 rfl (by decide) ?_
  refine aw_putI dX2_leaveEmpty_8 rfl rfl rfl flX2_31 (pf_2_6 _) ?_
  refine aw_aload_n dX2_leaveEmpty_11 rfl rfl ?_
  refine aw_getR dX2_leaveEmpty_12 rfl rfl rfl (by decide) flX2_24 ?_
  refine aw_iconst 2 dX2_leaveEmpty_15 rfl (by decide) ?_
  refine aw_aload_n dX2_leaveEmpty_16 rfl rfl ?_
  refine aw_getR dX2_leaveEmpty_17 rfl rfl rfl (by decide) flX2_24 ?_
  refine aw_iconst 1 dX2_leaveEmpty_20 rfl (by decide) ?_
  refine aw_iald dX2_leaveEmpty_21 rfl rfl (by first | exact vp_in_nI (by omega) (by omega) | exact vp_in_iff.mpr (by decide)) ?_
  try simp only [ci0]
  try simp only [ci1]
  try simp only [ci2]
  refine aw_iast dX2_leaveEmpty_22 rfl rfl (by first | exact vp_in_nI (by omega) (by omega) | exact vp_in_iff.mpr (by decide)) ?_
  try simp only [ci0]
  try simp only [ci1]
  try simp only [ci2]
  refine aw_aload_n dX2_leaveEmpty_23 rfl rfl ?_
  refine aw_getR dX2_leaveEmpty_24 rfl rfl rfl (by decide) flX2_24 ?_
  refine aw_iconst 1 dX2_leaveEmpty_27 rfl (by decide) ?_
  refine aw_aload_n dX2_leaveEmpty_28 rfl rfl ?_
  refine aw_getR dX2_leaveEmpty_29 rfl rfl rfl (by decide) flX2_24 ?_
  refine aw_iconst 0 dX2_leaveEmpty_32 rfl (by decide) ?_
  refine aw_iald dX2_leaveEmpty_33 rfl rfl (by first | exact vp_in_nI (by omega) (by omega) | exact vp_in_iff.mpr (by decide)) ?_
  try simp only [ci0]
  try simp only [ci1]
  try simp only [ci2]
  refine aw_iast dX2_leaveEmpty_34 rfl rfl (by first | exact vp_in_nI (by omega) (by omega) | exact vp_in_iff.mpr (by decide)) ?_
  try simp only [ci0]
  try simp only [ci1]
  try simp only [ci2]
  refine aw_aload_n dX2_leaveEmpty_35 rfl rfl ?_
  refine aw_getR dX2_leaveEmpty_36 rfl rfl rfl (by decide) flX2_24 ?_
  refine aw_iconst 0 dX2_leaveEmpty_39 rfl (by decide) ?_
  refine aw_iload_n dX2_leaveEmpty_40 rfl rfl ?_
  refine aw_iast dX2_leaveEmpty_41 rfl rfl (by first | exact vp_in_nI (by omega) (by omega) | exact vp_in_iff.mpr (by decide)) ?_
  try simp only [ci0]
  try simp only [ci1]
  try simp only [ci2]
  refine aw_vret dX2_leaveEmpty_42 rfl ?_
  refine kk_c hK rfl ?_
  simp only [rp_nk, rp_at, rp_rp, pk_us, ne_eq, Nat.reduceEqDiff, not_false_eq_true, ci0, ci1, ci2]
  rw [pk_un (show (0 : Nat) ≠ 2 by decide)]
set_option maxRecDepth 4000 in
theorem sX3_toldGoesBeyond {d : Nat} {σ : SS} {K : ax_K} {v : Int32} {n cn : Nat} (hn : n ≤ 6) (h0 : σ 0 0 7 = nI n) (hPl : okT n cn (σ 5 0)) (hK : K (some (bB (anyB n (oB v (σ 5 0))))) σ) : AW (d + 1) mX3_toldGoesBeyond 0 (ax_en mX3_toldGoesBeyond [.inr (0, 0), .inl v]) [] σ K := by
  show AW _ mX3_toldGoesBeyond 0 [_, _, _] _ _ _
  refine aw_iconst 0 dX3_toldGoesBeyond_0 rfl (by decide) ?_
  refine aw_istore_n dX3_toldGoesBeyond_1 rfl (by decide) ?_
  show AW _ mX3_toldGoesBeyond 2 [_, _, _] _ _ _
  refine AW.conv (ax_loop (P := fun i => anyB i (oB v (σ 5 0)) = false → AW (d + 1) mX3_toldGoesBeyond 2 [some (.inr (0, 0)), some (.inl v), some (.inl (nI i))] [] σ K) n ?_ ?_ 0 (Nat.zero_le _) rfl) (by first | (simp only [nI_0]; done) | (simp only [nI_0]; rfl)) rfl rfl
  · try dsimp only
    intro hany
    refine aw_iload_n dX3_toldGoesBeyond_2 rfl rfl ?_
    refine aw_aload_n dX3_toldGoesBeyond_3 rfl rfl ?_
    refine aw_getI dX3_toldGoesBeyond_4 rfl rfl rfl flX3_41 ?_
    refine aw_icmp_ge (tgt := 42) dX3_toldGoesBeyond_7 rfl rfl (fun _ => ?_) (fun z => absurd (by rw [h0]; exact Int32.le_refl _) z)
    refine aw_iconst 0 dX3_toldGoesBeyond_42 rfl (by decide) ?_
    refine aw_ret dX3_toldGoesBeyond_43 rfl (by decide) ?_
    exact kk_c hK (by rw [hany]; rfl) rfl
  · intro i hi_2 nx_2
    try dsimp only at nx_2 ⊢
    intro hany
    have hci : (nI i).toNatClampNeg = i := nI_clamp (by omega)
    refine aw_iload_n dX3_toldGoesBeyond_2 rfl rfl ?_
    refine aw_aload_n dX3_toldGoesBeyond_3 rfl rfl ?_
    refine aw_getI dX3_toldGoesBeyond_4 rfl rfl rfl flX3_41 ?_
    refine aw_icmp_ge (tgt := 42) dX3_toldGoesBeyond_7 rfl rfl (fun z => absurd z (by rw [h0]; exact nI_ge hi_2 (by omega))) (fun _ => ?_)
    refine aw_aload_n dX3_toldGoesBeyond_10 rfl rfl ?_
    refine aw_getR dX3_toldGoesBeyond_11 rfl rfl rfl (by decide) flX3_32 ?_
    refine aw_iload_n dX3_toldGoesBeyond_14 rfl rfl ?_
    refine aw_iald dX3_toldGoesBeyond_15 rfl rfl (by first | exact vp_in_nI (by omega) (by omega) | exact vp_in_iff.mpr (by decide)) ?_
    try simp only [hci]
    refine aw_bipush (-9) dX3_toldGoesBeyond_16 rfl (by decide) ?_
    refine aw_icmp_eq (tgt := 36) dX3_toldGoesBeyond_18 rfl rfl (fun c18 => ?_) (fun c18 => ?_)
    · skip
      refine aw_iinc dX3_toldGoesBeyond_36 rfl rfl (ii_1 _) (by decide) ?_
      show AW _ mX3_toldGoesBeyond 39 [_, _, _] _ _ _
      refine aw_goto (q := 2) dX3_toldGoesBeyond_39 rfl ?_
      refine AW.conv (nx_2 ?_) (by first | (simp only [nI_succ]; done) | (simp only [nI_succ]; rfl)) rfl rfl
      rw [anyB_s, hany, Bool.false_or]
      simp [oB, c18]
    · skip
      refine aw_iload_n dX3_toldGoesBeyond_21 rfl rfl ?_
      refine aw_aload_n dX3_toldGoesBeyond_22 rfl rfl ?_
      refine aw_getR dX3_toldGoesBeyond_23 rfl rfl rfl (by decide) flX3_32 ?_
      refine aw_iload_n dX3_toldGoesBeyond_26 rfl rfl ?_
      refine aw_iald dX3_toldGoesBeyond_27 rfl rfl (by first | exact vp_in_nI (by omega) (by omega) | exact vp_in_iff.mpr (by decide)) ?_
      try simp only [hci]
      refine aw_S2 (M' := mX3_has) dX3_toldGoesBeyond_28 rfl lkX3_80 gX3_has (Nat.le_of_ble_eq_true rfl) (sX3_has ?_)
      rw [hc_vp ((hPl i hi_2).resolve_left c18)]
      show AW _ mX3_toldGoesBeyond 31 _ (_ :: _) _ _
      refine aw_if_neB (tgt := 36) dX3_toldGoesBeyond_31 rfl rfl (fun c31 => ?_) (fun c31 => ?_)
      · skip
        refine aw_iinc dX3_toldGoesBeyond_36 rfl rfl (ii_1 _) (by decide) ?_
        show AW _ mX3_toldGoesBeyond 39 [_, _, _] _ _ _
        refine aw_goto (q := 2) dX3_toldGoesBeyond_39 rfl ?_
        refine AW.conv (nx_2 ?_) (by first | (simp only [nI_succ]; done) | (simp only [nI_succ]; rfl)) rfl rfl
        rw [anyB_s, hany, Bool.false_or]
        simp [oB, c18, c31]
      · skip
        refine aw_iconst 1 dX3_toldGoesBeyond_34 rfl (by decide) ?_
        refine aw_ret dX3_toldGoesBeyond_35 rfl (by decide) ?_
        exact kk_c hK (by rw [anyB_t hi_2 (by simp [oB, c18, c31])]; rfl) rfl
set_option maxRecDepth 4000 in
theorem sX3_toldDoesNotSuit {d : Nat} {σ : SS} {K : ax_K} {n cn : Nat} (hn : n ≤ 6) (h0 : σ 0 0 7 = nI n) (hc : cn ≤ 4) (h9 : σ 0 0 8 = nI cn) (hPl : okT n cn (σ 5 0)) (hCoat : ∀ t, t < 6 → 0 ≤ σ 8 t 1) (hLat : ∀ t k, t < 6 → k < 3 → lt9 (σ 9 t k)) (hK : K (some (bB (anyB n (uB (vw σ) (σ 5 0))))) σ) : AW (d + 2) mX3_toldDoesNotSuit 0 (ax_en mX3_toldDoesNotSuit [.inr (0, 0)]) [] σ K := by
  show AW _ mX3_toldDoesNotSuit 0 [_, _, _] _ _ _
  refine aw_iconst 0 dX3_toldDoesNotSuit_0 rfl (by decide) ?_
  refine aw_istore_n dX3_toldDoesNotSuit_1 rfl (by decide) ?_
  show AW _ mX3_toldDoesNotSuit 2 [_, _, _] _ _ _
  refine AW.conv (ax_loop (P := fun i => anyB i (uB (vw σ) (σ 5 0)) = false → AW (d + 2) mX3_toldDoesNotSuit 2 [some (.inr (0, 0)), some (.inl (nI i)), none] [] σ K) n ?_ ?_ 0 (Nat.zero_le _) rfl) (by first | (simp only [nI_0]; done) | (simp only [nI_0]; rfl)) rfl rfl
  · try dsimp only
    intro hany
    refine aw_iload_n dX3_toldDoesNotSuit_2 rfl rfl ?_
    refine aw_aload_n dX3_toldDoesNotSuit_3 rfl rfl ?_
    refine aw_getI dX3_toldDoesNotSuit_4 rfl rfl rfl flX3_41 ?_
    refine aw_icmp_ge (tgt := 52) dX3_toldDoesNotSuit_7 rfl rfl (fun _ => ?_) (fun z => absurd (by rw [h0]; exact Int32.le_refl _) z)
    refine aw_iconst 0 dX3_toldDoesNotSuit_52 rfl (by decide) ?_
    refine aw_ret dX3_toldDoesNotSuit_53 rfl (by decide) ?_
    exact kk_c hK (by rw [hany]; rfl) rfl
  · intro i hi_2 nx_2
    try dsimp only at nx_2 ⊢
    intro hany
    have hci : (nI i).toNatClampNeg = i := nI_clamp (by omega)
    refine aw_iload_n dX3_toldDoesNotSuit_2 rfl rfl ?_
    refine aw_aload_n dX3_toldDoesNotSuit_3 rfl rfl ?_
    refine aw_getI dX3_toldDoesNotSuit_4 rfl rfl rfl flX3_41 ?_
    refine aw_icmp_ge (tgt := 52) dX3_toldDoesNotSuit_7 rfl rfl (fun z => absurd z (by rw [h0]; exact nI_ge hi_2 (by omega))) (fun _ => ?_)
    refine aw_aload_n dX3_toldDoesNotSuit_10 rfl rfl ?_
    refine aw_getR dX3_toldDoesNotSuit_11 rfl rfl rfl (by decide) flX3_32 ?_
    refine aw_iload_n dX3_toldDoesNotSuit_14 rfl rfl ?_
    refine aw_iald dX3_toldDoesNotSuit_15 rfl rfl (by first | exact vp_in_nI (by omega) (by omega) | exact vp_in_iff.mpr (by decide)) ?_
    try simp only [hci]
    refine aw_istore_n dX3_toldDoesNotSuit_16 rfl (by decide) ?_
    show AW _ mX3_toldDoesNotSuit 17 [_, _, _] _ _ _
    refine aw_aload_n dX3_toldDoesNotSuit_17 rfl rfl ?_
    refine aw_iload_n dX3_toldDoesNotSuit_18 rfl rfl ?_
    refine aw_V1 (M' := mX3_isCargo) dX3_toldDoesNotSuit_19 rfl lkX3_121 gX3_isCargo rfl rfl (Nat.le_of_ble_eq_true rfl) (sX3_isCargo hc h9 ?_)
    show AW _ mX3_toldDoesNotSuit 22 _ (_ :: _) _ _
    refine aw_if_eqb (tgt := 46) dX3_toldDoesNotSuit_22 rfl rfl (fun c22 => ?_) (fun c22 => ?_)
    · skip
      refine aw_iinc dX3_toldDoesNotSuit_46 rfl rfl (ii_1 _) (by decide) ?_
      show AW _ mX3_toldDoesNotSuit 49 [_, _, _] _ _ _
      refine aw_goto (q := 2) dX3_toldDoesNotSuit_49 rfl ?_
      refine AW.conv (AW.forget (nx_2 ?_) (ls := [some (.inr (0, 0)), some (.inl (nI (i + 1))), some (.inl (σ 5 0 i))]) (fun n v h => by
        match n, h with
        | 0, h => exact h
        | 1, h => exact h
        | 2, h => cases h
        | n + 3, h => simp at h)) (by first | (simp only [nI_succ]; done) | (simp only [nI_succ]; rfl)) rfl rfl
      rw [anyB_s, hany, Bool.false_or]
      rw [uB, okT_9 hPl hi_2 c22]; rfl
    · skip
      refine aw_aload_n dX3_toldDoesNotSuit_25 rfl rfl ?_
      refine aw_aload_n dX3_toldDoesNotSuit_26 rfl rfl ?_
      refine aw_getR dX3_toldDoesNotSuit_27 rfl rfl rfl (by decide) flX3_11 ?_
      refine aw_iload_n dX3_toldDoesNotSuit_30 rfl rfl ?_
      refine aw_aald dX3_toldDoesNotSuit_31 rfl rfl (by decide) (by first | exact (show vp_in _ 6 from vp_in_nI (by omega) (by omega)) | exact (show vp_in _ 4 from vp_in_nI (by omega) (by omega))) ?_
      try simp only [hci]
      refine aw_aload_n dX3_toldDoesNotSuit_32 rfl rfl ?_
      refine aw_getR dX3_toldDoesNotSuit_33 rfl rfl rfl (by decide) flX3_17 ?_
      refine aw_iload_n dX3_toldDoesNotSuit_36 rfl rfl ?_
      refine aw_aald dX3_toldDoesNotSuit_37 rfl rfl (by decide) (ixn_in c22 hc) ?_
      try simp only [hci]
      refine aw_V2 (M' := mX3_faults) dX3_toldDoesNotSuit_38 rfl lkX3_141 gX3_faults rfl rfl (Nat.le_of_ble_eq_true rfl) (sX3_faults (by omega) (hCoat _ (by omega)) hLat ?_)
      show AW _ mX3_toldDoesNotSuit 41 _ (_ :: _) _ _
      refine aw_if_eq (tgt := 46) dX3_toldDoesNotSuit_41 rfl rfl (fun c41 => ?_) (fun c41 => ?_)
      · skip
        refine aw_iinc dX3_toldDoesNotSuit_46 rfl rfl (ii_1 _) (by decide) ?_
        show AW _ mX3_toldDoesNotSuit 49 [_, _, _] _ _ _
        refine aw_goto (q := 2) dX3_toldDoesNotSuit_49 rfl ?_
        refine AW.conv (AW.forget (nx_2 ?_) (ls := [some (.inr (0, 0)), some (.inl (nI (i + 1))), some (.inl (σ 5 0 i))]) (fun n v h => by
          match n, h with
          | 0, h => exact h
          | 1, h => exact h
          | 2, h => cases h
          | n + 3, h => simp at h)) (by first | (simp only [nI_succ]; done) | (simp only [nI_succ]; rfl)) rfl rfl
        rw [anyB_s, hany, Bool.false_or]
        rw [uB, decide_eq_false (p := ¬ whyS (vw σ) i (ci (σ 5 0 i)) = 0) (fun z => z c41), Bool.and_false]
      · skip
        refine aw_iconst 1 dX3_toldDoesNotSuit_44 rfl (by decide) ?_
        refine aw_ret dX3_toldDoesNotSuit_45 rfl (by decide) ?_
        exact kk_c hK (by rw [anyB_t hi_2 (by rw [uB, decide_eq_true (ixn_9 c22), decide_eq_true c41]; rfl)]; rfl) rfl
set_option maxRecDepth 4000 in
theorem sX3_toldLeavesSomeOf {d : Nat} {σ : SS} {K : ax_K} {v : Int32} {cn : Nat} (hc : cn ≤ 4) (h9 : σ 0 0 8 = nI cn) (hK : K (some (bB (anyB cn (sB v (σ 7 0))))) σ) : AW (d + 1) mX3_toldLeavesSomeOf 0 (ax_en mX3_toldLeavesSomeOf [.inr (0, 0), .inl v]) [] σ K := by
  show AW _ mX3_toldLeavesSomeOf 0 [_, _, _] _ _ _
  refine aw_iconst 0 dX3_toldLeavesSomeOf_0 rfl (by decide) ?_
  refine aw_istore_n dX3_toldLeavesSomeOf_1 rfl (by decide) ?_
  show AW _ mX3_toldLeavesSomeOf 2 [_, _, _] _ _ _
  refine AW.conv (ax_loop (P := fun i => anyB i (sB v (σ 7 0)) = false → AW (d + 1) mX3_toldLeavesSomeOf 2 [some (.inr (0, 0)), some (.inl v), some (.inl (nI i))] [] σ K) cn ?_ ?_ 0 (Nat.zero_le _) rfl) (by first | (simp only [nI_0]; done) | (simp only [nI_0]; rfl)) rfl rfl
  · try dsimp only
    intro hany
    refine aw_iload_n dX3_toldLeavesSomeOf_2 rfl rfl ?_
    refine aw_aload_n dX3_toldLeavesSomeOf_3 rfl rfl ?_
    refine aw_getI dX3_toldLeavesSomeOf_4 rfl rfl rfl flX3_45 ?_
    refine aw_icmp_ge (tgt := 35) dX3_toldLeavesSomeOf_7 rfl rfl (fun _ => ?_) (fun z => absurd (by rw [h9]; exact Int32.le_refl _) z)
    refine aw_iconst 0 dX3_toldLeavesSomeOf_35 rfl (by decide) ?_
    refine aw_ret dX3_toldLeavesSomeOf_36 rfl (by decide) ?_
    exact kk_c hK (by rw [hany]; rfl) rfl
  · intro i hi_2 nx_2
    try dsimp only at nx_2 ⊢
    intro hany
    have hci : (nI i).toNatClampNeg = i := nI_clamp (by omega)
    refine aw_iload_n dX3_toldLeavesSomeOf_2 rfl rfl ?_
    refine aw_aload_n dX3_toldLeavesSomeOf_3 rfl rfl ?_
    refine aw_getI dX3_toldLeavesSomeOf_4 rfl rfl rfl flX3_45 ?_
    refine aw_icmp_ge (tgt := 35) dX3_toldLeavesSomeOf_7 rfl rfl (fun z => absurd z (by rw [h9]; exact nI_ge hi_2 (by omega))) (fun _ => ?_)
    refine aw_iload_n dX3_toldLeavesSomeOf_10 rfl rfl ?_
    refine aw_iload_n dX3_toldLeavesSomeOf_11 rfl rfl ?_
    refine aw_S2 (M' := mX3_has) dX3_toldLeavesSomeOf_12 rfl lkX3_80 gX3_has (Nat.le_of_ble_eq_true rfl) (sX3_has ?_)
    rw [hc_nI _ (by omega)]
    show AW _ mX3_toldLeavesSomeOf 15 _ (_ :: _) _ _
    refine aw_if_eqB (tgt := 29) dX3_toldLeavesSomeOf_15 rfl rfl (fun c15 => ?_) (fun c15 => ?_)
    · skip
      refine aw_iinc dX3_toldLeavesSomeOf_29 rfl rfl (ii_1 _) (by decide) ?_
      show AW _ mX3_toldLeavesSomeOf 32 [_, _, _] _ _ _
      refine aw_goto (q := 2) dX3_toldLeavesSomeOf_32 rfl ?_
      refine AW.conv (nx_2 ?_) (by first | (simp only [nI_succ]; done) | (simp only [nI_succ]; rfl)) rfl rfl
      rw [anyB_s, hany, Bool.false_or]
      simp only [sB]
      first | rw [c15, Bool.false_and] | rw [decide_eq_false (Int32.not_lt.mpr c24), Bool.and_false]
    · skip
      refine aw_aload_n dX3_toldLeavesSomeOf_18 rfl rfl ?_
      refine aw_getR dX3_toldLeavesSomeOf_19 rfl rfl rfl (by decide) flX3_38 ?_
      refine aw_iload_n dX3_toldLeavesSomeOf_22 rfl rfl ?_
      refine aw_iald dX3_toldLeavesSomeOf_23 rfl rfl (by first | exact vp_in_nI (by omega) (by omega) | exact vp_in_iff.mpr (by decide)) ?_
      try simp only [hci]
      refine aw_if_le (tgt := 29) dX3_toldLeavesSomeOf_24 rfl rfl (fun c24 => ?_) (fun c24 => ?_)
      · skip
        refine aw_iinc dX3_toldLeavesSomeOf_29 rfl rfl (ii_1 _) (by decide) ?_
        show AW _ mX3_toldLeavesSomeOf 32 [_, _, _] _ _ _
        refine aw_goto (q := 2) dX3_toldLeavesSomeOf_32 rfl ?_
        refine AW.conv (nx_2 ?_) (by first | (simp only [nI_succ]; done) | (simp only [nI_succ]; rfl)) rfl rfl
        rw [anyB_s, hany, Bool.false_or]
        simp only [sB]
        first | rw [c15, Bool.false_and] | rw [decide_eq_false (Int32.not_lt.mpr c24), Bool.and_false]
      · skip
        refine aw_iconst 1 dX3_toldLeavesSomeOf_27 rfl (by decide) ?_
        refine aw_ret dX3_toldLeavesSomeOf_28 rfl (by decide) ?_
        exact kk_c hK (by rw [anyB_t hi_2 (by rw [sB, c15, decide_eq_true (Int32.not_le.mp c24)]; rfl)]; rfl) rfl
set_option maxRecDepth 4000 in
theorem sX3_toldLeavesTankEmpty {d : Nat} {σ : SS} {K : ax_K} {n : Nat} (hn : n ≤ 6) (h0 : σ 0 0 7 = nI n) (hK : K (some (bB (anyB n (eB (σ 5 0) (σ 6 0))))) σ) : AW d mX3_toldLeavesTankEmpty 0 (ax_en mX3_toldLeavesTankEmpty [.inr (0, 0)]) [] σ K := by
  show AW _ mX3_toldLeavesTankEmpty 0 [_, _] _ _ _
  refine aw_iconst 0 dX3_toldLeavesTankEmpty_0 rfl (by decide) ?_
  refine aw_istore_n dX3_toldLeavesTankEmpty_1 rfl (by decide) ?_
  show AW _ mX3_toldLeavesTankEmpty 2 [_, _] _ _ _
  refine AW.conv (ax_loop (P := fun i => anyB i (eB (σ 5 0) (σ 6 0)) = false → AW d mX3_toldLeavesTankEmpty 2 [some (.inr (0, 0)), some (.inl (nI i))] [] σ K) n ?_ ?_ 0 (Nat.zero_le _) rfl) (by first | (simp only [nI_0]; done) | (simp only [nI_0]; rfl)) rfl rfl
  · try dsimp only
    intro hany
    refine aw_iload_n dX3_toldLeavesTankEmpty_2 rfl rfl ?_
    refine aw_aload_n dX3_toldLeavesTankEmpty_3 rfl rfl ?_
    refine aw_getI dX3_toldLeavesTankEmpty_4 rfl rfl rfl flX3_41 ?_
    refine aw_icmp_ge (tgt := 38) dX3_toldLeavesTankEmpty_7 rfl rfl (fun _ => ?_) (fun z => absurd (by rw [h0]; exact Int32.le_refl _) z)
    refine aw_iconst 0 dX3_toldLeavesTankEmpty_38 rfl (by decide) ?_
    refine aw_ret dX3_toldLeavesTankEmpty_39 rfl (by decide) ?_
    exact kk_c hK (by rw [hany]; rfl) rfl
  · intro i hi_2 nx_2
    try dsimp only at nx_2 ⊢
    intro hany
    have hci : (nI i).toNatClampNeg = i := nI_clamp (by omega)
    refine aw_iload_n dX3_toldLeavesTankEmpty_2 rfl rfl ?_
    refine aw_aload_n dX3_toldLeavesTankEmpty_3 rfl rfl ?_
    refine aw_getI dX3_toldLeavesTankEmpty_4 rfl rfl rfl flX3_41 ?_
    refine aw_icmp_ge (tgt := 38) dX3_toldLeavesTankEmpty_7 rfl rfl (fun z => absurd z (by rw [h0]; exact nI_ge hi_2 (by omega))) (fun _ => ?_)
    refine aw_aload_n dX3_toldLeavesTankEmpty_10 rfl rfl ?_
    refine aw_getR dX3_toldLeavesTankEmpty_11 rfl rfl rfl (by decide) flX3_32 ?_
    refine aw_iload_n dX3_toldLeavesTankEmpty_14 rfl rfl ?_
    refine aw_iald dX3_toldLeavesTankEmpty_15 rfl rfl (by first | exact vp_in_nI (by omega) (by omega) | exact vp_in_iff.mpr (by decide)) ?_
    try simp only [hci]
    refine aw_bipush (-9) dX3_toldLeavesTankEmpty_16 rfl (by decide) ?_
    refine aw_icmp_eq (tgt := 32) dX3_toldLeavesTankEmpty_18 rfl rfl (fun c18 => ?_) (fun c18 => ?_)
    · skip
      refine aw_iinc dX3_toldLeavesTankEmpty_32 rfl rfl (ii_1 _) (by decide) ?_
      show AW _ mX3_toldLeavesTankEmpty 35 [_, _] _ _ _
      refine aw_goto (q := 2) dX3_toldLeavesTankEmpty_35 rfl ?_
      refine AW.conv (nx_2 ?_) (by first | (simp only [nI_succ]; done) | (simp only [nI_succ]; rfl)) rfl rfl
      rw [anyB_s, hany, Bool.false_or]
      simp [eB, c18]
    · skip
      refine aw_aload_n dX3_toldLeavesTankEmpty_21 rfl rfl ?_
      refine aw_getR dX3_toldLeavesTankEmpty_22 rfl rfl rfl (by decide) flX3_35 ?_
      refine aw_iload_n dX3_toldLeavesTankEmpty_25 rfl rfl ?_
      refine aw_iald dX3_toldLeavesTankEmpty_26 rfl rfl (by first | exact vp_in_nI (by omega) (by omega) | exact vp_in_iff.mpr (by decide)) ?_
      try simp only [hci]
      refine aw_if_ne (tgt := 32) dX3_toldLeavesTankEmpty_27 rfl rfl (fun c27 => ?_) (fun c27 => ?_)
      · skip
        refine aw_iinc dX3_toldLeavesTankEmpty_32 rfl rfl (ii_1 _) (by decide) ?_
        show AW _ mX3_toldLeavesTankEmpty 35 [_, _] _ _ _
        refine aw_goto (q := 2) dX3_toldLeavesTankEmpty_35 rfl ?_
        refine AW.conv (nx_2 ?_) (by first | (simp only [nI_succ]; done) | (simp only [nI_succ]; rfl)) rfl rfl
        rw [anyB_s, hany, Bool.false_or]
        simp [eB, c18, c27]
      · skip
        refine aw_iconst 1 dX3_toldLeavesTankEmpty_30 rfl (by decide) ?_
        refine aw_ret dX3_toldLeavesTankEmpty_31 rfl (by decide) ?_
        exact kk_c hK (by rw [anyB_t hi_2 (by simp [eB, c18, c27])]; rfl) rfl
