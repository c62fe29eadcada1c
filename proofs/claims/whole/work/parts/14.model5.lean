set_option maxRecDepth 4000 in
theorem sX4_hasOther {d : Nat} {σ : SS} {K : ax_K} {v : Int32} {n : Nat} (hn : n ≤ 6) (h0 : σ 28 0 0 = nI n) (hK : K (some (bB (anyB n (oB v (σ 44 0))))) σ) : AW (d + 1) mX4_hasOther 0 (ax_en mX4_hasOther [.inr (28, 0), .inl v]) [] σ K := by
  show AW _ mX4_hasOther 0 [_, _, _, _] _ _ _
  refine aw_iconst 0 dX4_hasOther_0 rfl (by decide) ?_
  refine aw_istore_n dX4_hasOther_1 rfl (by decide) ?_
  show AW _ mX4_hasOther 2 [_, _, _, _] _ _ _
  refine aw_iconst 0 dX4_hasOther_2 rfl (by decide) ?_
  refine aw_istore_n dX4_hasOther_3 rfl (by decide) ?_
  show AW _ mX4_hasOther 4 [_, _, _, _] _ _ _
  refine AW.conv (ax_loop (P := fun i => AW (d + 1) mX4_hasOther 4 [some (.inr (28, 0)), some (.inl v), some (.inl (bB (anyB i (oB v (σ 44 0))))), some (.inl (nI i))] [] σ K) n ?_ ?_ 0 (Nat.zero_le _)) (by rw [nI_0, anyB_0]; rfl) rfl rfl
  · try dsimp only
    refine aw_iload_n dX4_hasOther_4 rfl rfl ?_
    refine aw_aload_n dX4_hasOther_5 rfl rfl ?_
    refine aw_getI dX4_hasOther_6 rfl rfl rfl flX4_75 ?_
    refine aw_icmp_ge (tgt := 52) dX4_hasOther_9 rfl rfl (fun _ => ?_) (fun z => absurd (by rw [h0]; exact Int32.le_refl _) z)
    refine aw_iload_n dX4_hasOther_52 rfl rfl ?_
    refine aw_ret dX4_hasOther_53 rfl (bB_nar _) ?_
    exact hK
  · intro i hi_4 nx_4
    try dsimp only at nx_4 ⊢
    have hci : (nI i).toNatClampNeg = i := nI_clamp (by omega)
    refine aw_iload_n dX4_hasOther_4 rfl rfl ?_
    refine aw_aload_n dX4_hasOther_5 rfl rfl ?_
    refine aw_getI dX4_hasOther_6 rfl rfl rfl flX4_75 ?_
    refine aw_icmp_ge (tgt := 52) dX4_hasOther_9 rfl rfl (fun z => absurd z (by rw [h0]; exact nI_ge hi_4 (by omega))) (fun _ => ?_)
    refine aw_iload_n dX4_hasOther_12 rfl rfl ?_
    refine aw_if_neB (tgt := 40) dX4_hasOther_13 rfl rfl (fun c13 => ?_) (fun c13 => ?_)
    · skip
      refine aw_iconst 1 dX4_hasOther_40 rfl (by decide) ?_
      refine aw_goto (q := 45) dX4_hasOther_41 rfl ?_
      refine aw_istore_n dX4_hasOther_45 rfl (by decide) ?_
      show AW _ mX4_hasOther 46 [_, _, _, _] _ _ _
      refine aw_iinc dX4_hasOther_46 rfl rfl (ii_1 _) (by decide) ?_
      show AW _ mX4_hasOther 49 [_, _, _, _] _ _ _
      refine aw_goto (q := 4) dX4_hasOther_49 rfl ?_
      refine AW.conv nx_4 ?_ rfl rfl
      simp only [nI_succ, anyB_s]
      simp [hs, bB, oB, c13]
    · skip
      refine aw_aload_n dX4_hasOther_16 rfl rfl ?_
      refine aw_getR dX4_hasOther_17 rfl rfl rfl (by decide) flX4_59 ?_
      refine aw_iload_n dX4_hasOther_20 rfl rfl ?_
      refine aw_iald dX4_hasOther_21 rfl rfl (by first | exact vp_in_nI (by omega) (by omega) | decide) ?_
      try simp only [hci]
      refine aw_bipush (-9) dX4_hasOther_22 rfl (by decide) ?_
      refine aw_icmp_eq (tgt := 44) dX4_hasOther_24 rfl rfl (fun c24 => ?_) (fun c24 => ?_)
      · skip
        refine aw_iconst 0 dX4_hasOther_44 rfl (by decide) ?_
        refine aw_istore_n dX4_hasOther_45 rfl (by decide) ?_
        show AW _ mX4_hasOther 46 [_, _, _, _] _ _ _
        refine aw_iinc dX4_hasOther_46 rfl rfl (ii_1 _) (by decide) ?_
        show AW _ mX4_hasOther 49 [_, _, _, _] _ _ _
        refine aw_goto (q := 4) dX4_hasOther_49 rfl ?_
        refine AW.conv nx_4 ?_ rfl rfl
        simp only [nI_succ, anyB_s]
        simp [hs, bB, oB, c13, c24]
      · skip
        refine aw_iload_n dX4_hasOther_27 rfl rfl ?_
        refine aw_aload_n dX4_hasOther_28 rfl rfl ?_
        refine aw_getR dX4_hasOther_29 rfl rfl rfl (by decide) flX4_59 ?_
        refine aw_iload_n dX4_hasOther_32 rfl rfl ?_
        refine aw_iald dX4_hasOther_33 rfl rfl (by first | exact vp_in_nI (by omega) (by omega) | decide) ?_
        try simp only [hci]
        refine aw_S2 (M' := mX4_has) dX4_hasOther_34 rfl lkX4_86 gX4_has (Nat.le_of_ble_eq_true rfl) (sX4_has ?_)
        show AW _ mX4_hasOther 37 _ (_ :: _) _ _
        refine aw_if_neB (tgt := 44) dX4_hasOther_37 rfl rfl (fun c37 => ?_) (fun c37 => ?_)
        · skip
          refine aw_iconst 0 dX4_hasOther_44 rfl (by decide) ?_
          refine aw_istore_n dX4_hasOther_45 rfl (by decide) ?_
          show AW _ mX4_hasOther 46 [_, _, _, _] _ _ _
          refine aw_iinc dX4_hasOther_46 rfl rfl (ii_1 _) (by decide) ?_
          show AW _ mX4_hasOther 49 [_, _, _, _] _ _ _
          refine aw_goto (q := 4) dX4_hasOther_49 rfl ?_
          refine AW.conv nx_4 ?_ rfl rfl
          simp only [nI_succ, anyB_s]
          simp [hs, bB, oB, c13, c24, c37]
        · skip
          refine aw_iconst 1 dX4_hasOther_40 rfl (by decide) ?_
          refine aw_goto (q := 45) dX4_hasOther_41 rfl ?_
          refine aw_istore_n dX4_hasOther_45 rfl (by decide) ?_
          show AW _ mX4_hasOther 46 [_, _, _, _] _ _ _
          refine aw_iinc dX4_hasOther_46 rfl rfl (ii_1 _) (by decide) ?_
          show AW _ mX4_hasOther 49 [_, _, _, _] _ _ _
          refine aw_goto (q := 4) dX4_hasOther_49 rfl ?_
          refine AW.conv nx_4 ?_ rfl rfl
          simp only [nI_succ, anyB_s]
          simp [hs, bB, oB, c13, c24, c37]
set_option maxRecDepth 4000 in
theorem sX4_hasUnfit {d : Nat} {σ : SS} {K : ax_K} {n cn : Nat} (hn : n ≤ 6) (h0 : σ 28 0 0 = nI n) (hc : cn ≤ 4) (hT : okT n cn (σ 44 0)) (hK : K (some (bB (anyB n (uB σ (σ 44 0))))) σ) : AW (d + 2) mX4_hasUnfit 0 (ax_en mX4_hasUnfit [.inr (28, 0)]) [] σ K := by
  show AW _ mX4_hasUnfit 0 [_, _, _] _ _ _
  refine aw_iconst 0 dX4_hasUnfit_0 rfl (by decide) ?_
  refine aw_istore_n dX4_hasUnfit_1 rfl (by decide) ?_
  show AW _ mX4_hasUnfit 2 [_, _, _] _ _ _
  refine aw_iconst 0 dX4_hasUnfit_2 rfl (by decide) ?_
  refine aw_istore_n dX4_hasUnfit_3 rfl (by decide) ?_
  show AW _ mX4_hasUnfit 4 [_, _, _] _ _ _
  refine AW.conv (ax_loop (P := fun i => AW (d + 2) mX4_hasUnfit 4 [some (.inr (28, 0)), some (.inl (bB (anyB i (uB σ (σ 44 0))))), some (.inl (nI i))] [] σ K) n ?_ ?_ 0 (Nat.zero_le _)) (by rw [nI_0, anyB_0]; rfl) rfl rfl
  · try dsimp only
    refine aw_iload_n dX4_hasUnfit_4 rfl rfl ?_
    refine aw_aload_n dX4_hasUnfit_5 rfl rfl ?_
    refine aw_getI dX4_hasUnfit_6 rfl rfl rfl flX4_75 ?_
    refine aw_icmp_ge (tgt := 53) dX4_hasUnfit_9 rfl rfl (fun _ => ?_) (fun z => absurd (by rw [h0]; exact Int32.le_refl _) z)
    refine aw_iload_n dX4_hasUnfit_53 rfl rfl ?_
    refine aw_ret dX4_hasUnfit_54 rfl (bB_nar _) ?_
    exact hK
  · intro i hi_4 nx_4
    try dsimp only at nx_4 ⊢
    have hci : (nI i).toNatClampNeg = i := nI_clamp (by omega)
    refine aw_iload_n dX4_hasUnfit_4 rfl rfl ?_
    refine aw_aload_n dX4_hasUnfit_5 rfl rfl ?_
    refine aw_getI dX4_hasUnfit_6 rfl rfl rfl flX4_75 ?_
    refine aw_icmp_ge (tgt := 53) dX4_hasUnfit_9 rfl rfl (fun z => absurd z (by rw [h0]; exact nI_ge hi_4 (by omega))) (fun _ => ?_)
    refine aw_iload_n dX4_hasUnfit_12 rfl rfl ?_
    refine aw_if_neB (tgt := 41) dX4_hasUnfit_13 rfl rfl (fun c13 => ?_) (fun c13 => ?_)
    · skip
      refine aw_iconst 1 dX4_hasUnfit_41 rfl (by decide) ?_
      refine aw_goto (q := 46) dX4_hasUnfit_42 rfl ?_
      refine aw_istore_n dX4_hasUnfit_46 rfl (by decide) ?_
      show AW _ mX4_hasUnfit 47 [_, _, _] _ _ _
      refine aw_iinc dX4_hasUnfit_47 rfl rfl (ii_1 _) (by decide) ?_
      show AW _ mX4_hasUnfit 50 [_, _, _] _ _ _
      refine aw_goto (q := 4) dX4_hasUnfit_50 rfl ?_
      refine AW.conv nx_4 ?_ rfl rfl
      simp only [nI_succ, anyB_s]
      simp [hs, bB, uB, c13]
    · skip
      refine aw_aload_n dX4_hasUnfit_16 rfl rfl ?_
      refine aw_getR dX4_hasUnfit_17 rfl rfl rfl (by decide) flX4_59 ?_
      refine aw_iload_n dX4_hasUnfit_20 rfl rfl ?_
      refine aw_iald dX4_hasUnfit_21 rfl rfl (by first | exact vp_in_nI (by omega) (by omega) | decide) ?_
      try simp only [hci]
      refine aw_bipush (-9) dX4_hasUnfit_22 rfl (by decide) ?_
      refine aw_icmp_eq (tgt := 45) dX4_hasUnfit_24 rfl rfl (fun c24 => ?_) (fun c24 => ?_)
      · skip
        refine aw_iconst 0 dX4_hasUnfit_45 rfl (by decide) ?_
        refine aw_istore_n dX4_hasUnfit_46 rfl (by decide) ?_
        show AW _ mX4_hasUnfit 47 [_, _, _] _ _ _
        refine aw_iinc dX4_hasUnfit_47 rfl rfl (ii_1 _) (by decide) ?_
        show AW _ mX4_hasUnfit 50 [_, _, _] _ _ _
        refine aw_goto (q := 4) dX4_hasUnfit_50 rfl ?_
        refine AW.conv nx_4 ?_ rfl rfl
        simp only [nI_succ, anyB_s]
        simp [hs, bB, uB, c13, c24]
      · skip
        refine aw_aload_n dX4_hasUnfit_27 rfl rfl ?_
        refine aw_iload_n dX4_hasUnfit_28 rfl rfl ?_
        refine aw_aload_n dX4_hasUnfit_29 rfl rfl ?_
        refine aw_getR dX4_hasUnfit_30 rfl rfl rfl (by decide) flX4_59 ?_
        refine aw_iload_n dX4_hasUnfit_33 rfl rfl ?_
        refine aw_iald dX4_hasUnfit_34 rfl rfl (by first | exact vp_in_nI (by omega) (by omega) | decide) ?_
        try simp only [hci]
        refine aw_V2 (M' := mX4_whyNot) dX4_hasUnfit_35 rfl lkX4_108 gX4_whyNot rfl rfl (Nat.le_of_ble_eq_true rfl) (sX4_whyNotI (vp_in_nI (by omega) (by omega)) (vp_mono ((hT i hi_4).resolve_left c24) hc) ?_)
        rw [ci, hci]
        show AW _ mX4_hasUnfit 38 _ (_ :: _) _ _
        refine aw_if_eq (tgt := 45) dX4_hasUnfit_38 rfl rfl (fun c38 => ?_) (fun c38 => ?_)
        · skip
          refine aw_iconst 0 dX4_hasUnfit_45 rfl (by decide) ?_
          refine aw_istore_n dX4_hasUnfit_46 rfl (by decide) ?_
          show AW _ mX4_hasUnfit 47 [_, _, _] _ _ _
          refine aw_iinc dX4_hasUnfit_47 rfl rfl (ii_1 _) (by decide) ?_
          show AW _ mX4_hasUnfit 50 [_, _, _] _ _ _
          refine aw_goto (q := 4) dX4_hasUnfit_50 rfl ?_
          refine AW.conv nx_4 ?_ rfl rfl
          simp only [nI_succ, anyB_s]
          simp [hs, bB, uB, c13, c24, c38]
        · skip
          refine aw_iconst 1 dX4_hasUnfit_41 rfl (by decide) ?_
          refine aw_goto (q := 46) dX4_hasUnfit_42 rfl ?_
          refine aw_istore_n dX4_hasUnfit_46 rfl (by decide) ?_
          show AW _ mX4_hasUnfit 47 [_, _, _] _ _ _
          refine aw_iinc dX4_hasUnfit_47 rfl rfl (ii_1 _) (by decide) ?_
          show AW _ mX4_hasUnfit 50 [_, _, _] _ _ _
          refine aw_goto (q := 4) dX4_hasUnfit_50 rfl ?_
          refine AW.conv nx_4 ?_ rfl rfl
          simp only [nI_succ, anyB_s]
          simp [hs, bB, uB, c13, c24, c38]
set_option maxRecDepth 4000 in
theorem sX4_hasEmpty {d : Nat} {σ : SS} {K : ax_K} {n : Nat} (hn : n ≤ 6) (h0 : σ 28 0 0 = nI n) (hK : K (some (bB (anyB n (eB (σ 44 0) (σ 45 0))))) σ) : AW d mX4_hasEmpty 0 (ax_en mX4_hasEmpty [.inr (28, 0)]) [] σ K := by
  show AW _ mX4_hasEmpty 0 [_, _, _] _ _ _
  refine aw_iconst 0 dX4_hasEmpty_0 rfl (by decide) ?_
  refine aw_istore_n dX4_hasEmpty_1 rfl (by decide) ?_
  show AW _ mX4_hasEmpty 2 [_, _, _] _ _ _
  refine aw_iconst 0 dX4_hasEmpty_2 rfl (by decide) ?_
  refine aw_istore_n dX4_hasEmpty_3 rfl (by decide) ?_
  show AW _ mX4_hasEmpty 4 [_, _, _] _ _ _
  refine AW.conv (ax_loop (P := fun i => AW d mX4_hasEmpty 4 [some (.inr (28, 0)), some (.inl (bB (anyB i (eB (σ 44 0) (σ 45 0))))), some (.inl (nI i))] [] σ K) n ?_ ?_ 0 (Nat.zero_le _)) (by rw [nI_0, anyB_0]; rfl) rfl rfl
  · try dsimp only
    refine aw_iload_n dX4_hasEmpty_4 rfl rfl ?_
    refine aw_aload_n dX4_hasEmpty_5 rfl rfl ?_
    refine aw_getI dX4_hasEmpty_6 rfl rfl rfl flX4_75 ?_
    refine aw_icmp_ge (tgt := 48) dX4_hasEmpty_9 rfl rfl (fun _ => ?_) (fun z => absurd (by rw [h0]; exact Int32.le_refl _) z)
    refine aw_iload_n dX4_hasEmpty_48 rfl rfl ?_
    refine aw_ret dX4_hasEmpty_49 rfl (bB_nar _) ?_
    exact hK
  · intro i hi_4 nx_4
    try dsimp only at nx_4 ⊢
    have hci : (nI i).toNatClampNeg = i := nI_clamp (by omega)
    refine aw_iload_n dX4_hasEmpty_4 rfl rfl ?_
    refine aw_aload_n dX4_hasEmpty_5 rfl rfl ?_
    refine aw_getI dX4_hasEmpty_6 rfl rfl rfl flX4_75 ?_
    refine aw_icmp_ge (tgt := 48) dX4_hasEmpty_9 rfl rfl (fun z => absurd z (by rw [h0]; exact nI_ge hi_4 (by omega))) (fun _ => ?_)
    refine aw_iload_n dX4_hasEmpty_12 rfl rfl ?_
    refine aw_if_neB (tgt := 36) dX4_hasEmpty_13 rfl rfl (fun c13 => ?_) (fun c13 => ?_)
    · skip
      refine aw_iconst 1 dX4_hasEmpty_36 rfl (by decide) ?_
      refine aw_goto (q := 41) dX4_hasEmpty_37 rfl ?_
      refine aw_istore_n dX4_hasEmpty_41 rfl (by decide) ?_
      show AW _ mX4_hasEmpty 42 [_, _, _] _ _ _
      refine aw_iinc dX4_hasEmpty_42 rfl rfl (ii_1 _) (by decide) ?_
      show AW _ mX4_hasEmpty 45 [_, _, _] _ _ _
      refine aw_goto (q := 4) dX4_hasEmpty_45 rfl ?_
      refine AW.conv nx_4 ?_ rfl rfl
      simp only [nI_succ, anyB_s]
      simp [hs, bB, eB, c13]
    · skip
      refine aw_aload_n dX4_hasEmpty_16 rfl rfl ?_
      refine aw_getR dX4_hasEmpty_17 rfl rfl rfl (by decide) flX4_59 ?_
      refine aw_iload_n dX4_hasEmpty_20 rfl rfl ?_
      refine aw_iald dX4_hasEmpty_21 rfl rfl (by first | exact vp_in_nI (by omega) (by omega) | decide) ?_
      try simp only [hci]
      refine aw_bipush (-9) dX4_hasEmpty_22 rfl (by decide) ?_
      refine aw_icmp_eq (tgt := 40) dX4_hasEmpty_24 rfl rfl (fun c24 => ?_) (fun c24 => ?_)
      · skip
        refine aw_iconst 0 dX4_hasEmpty_40 rfl (by decide) ?_
        refine aw_istore_n dX4_hasEmpty_41 rfl (by decide) ?_
        show AW _ mX4_hasEmpty 42 [_, _, _] _ _ _
        refine aw_iinc dX4_hasEmpty_42 rfl rfl (ii_1 _) (by decide) ?_
        show AW _ mX4_hasEmpty 45 [_, _, _] _ _ _
        refine aw_goto (q := 4) dX4_hasEmpty_45 rfl ?_
        refine AW.conv nx_4 ?_ rfl rfl
        simp only [nI_succ, anyB_s]
        simp [hs, bB, eB, c13, c24]
      · skip
        refine aw_aload_n dX4_hasEmpty_27 rfl rfl ?_
        refine aw_getR dX4_hasEmpty_28 rfl rfl rfl (by decide) flX4_62 ?_
        refine aw_iload_n dX4_hasEmpty_31 rfl rfl ?_
        refine aw_iald dX4_hasEmpty_32 rfl rfl (by first | exact vp_in_nI (by omega) (by omega) | decide) ?_
        try simp only [hci]
        refine aw_if_ne (tgt := 40) dX4_hasEmpty_33 rfl rfl (fun c33 => ?_) (fun c33 => ?_)
        · skip
          refine aw_iconst 0 dX4_hasEmpty_40 rfl (by decide) ?_
          refine aw_istore_n dX4_hasEmpty_41 rfl (by decide) ?_
          show AW _ mX4_hasEmpty 42 [_, _, _] _ _ _
          refine aw_iinc dX4_hasEmpty_42 rfl rfl (ii_1 _) (by decide) ?_
          show AW _ mX4_hasEmpty 45 [_, _, _] _ _ _
          refine aw_goto (q := 4) dX4_hasEmpty_45 rfl ?_
          refine AW.conv nx_4 ?_ rfl rfl
          simp only [nI_succ, anyB_s]
          simp [hs, bB, eB, c13, c24, c33]
        · skip
          refine aw_iconst 1 dX4_hasEmpty_36 rfl (by decide) ?_
          refine aw_goto (q := 41) dX4_hasEmpty_37 rfl ?_
          refine aw_istore_n dX4_hasEmpty_41 rfl (by decide) ?_
          show AW _ mX4_hasEmpty 42 [_, _, _] _ _ _
          refine aw_iinc dX4_hasEmpty_42 rfl rfl (ii_1 _) (by decide) ?_
          show AW _ mX4_hasEmpty 45 [_, _, _] _ _ _
          refine aw_goto (q := 4) dX4_hasEmpty_45 rfl ?_
          refine AW.conv nx_4 ?_ rfl rfl
          simp only [nI_succ, anyB_s]
          simp [hs, bB, eB, c13, c24, c33]
set_option maxRecDepth 4000 in
theorem sX4_hasClash {d : Nat} {σ : SS} {K : ax_K} {n cn : Nat} (hn : n ≤ 6) (h0 : σ 28 0 0 = nI n) (hc : cn ≤ 4) (hT : okT n cn (σ 44 0)) (hK : K (some (bB (anyB n (kA σ (σ 44 0))))) σ) : AW (d + 2) mX4_hasClash 0 (ax_en mX4_hasClash [.inr (28, 0)]) [] σ K := by
  show AW _ mX4_hasClash 0 [_, _, _, _] _ _ _
  refine aw_iconst 0 dX4_hasClash_0 rfl (by decide) ?_
  refine aw_istore_n dX4_hasClash_1 rfl (by decide) ?_
  show AW _ mX4_hasClash 2 [_, _, _, _] _ _ _
  refine aw_iconst 0 dX4_hasClash_2 rfl (by decide) ?_
  refine aw_istore_n dX4_hasClash_3 rfl (by decide) ?_
  show AW _ mX4_hasClash 4 [_, _, _, _] _ _ _
  refine AW.conv (ax_loop (P := fun i => AW (d + 2) mX4_hasClash 4 [some (.inr (28, 0)), some (.inl (bB (anyB i (kA σ (σ 44 0))))), some (.inl (nI i)), none] [] σ K) n ?_ ?_ 0 (Nat.zero_le _)) (by rw [nI_0, anyB_0]; rfl) rfl rfl
  · try dsimp only
    refine aw_iload_n dX4_hasClash_4 rfl rfl ?_
    refine aw_aload_n dX4_hasClash_5 rfl rfl ?_
    refine aw_getI dX4_hasClash_6 rfl rfl rfl flX4_75 ?_
    refine aw_icmp_ge (tgt := 95) dX4_hasClash_9 rfl rfl (fun _ => ?_) (fun z => absurd (by rw [h0]; exact Int32.le_refl _) z)
    refine aw_iload_n dX4_hasClash_95 rfl rfl ?_
    refine aw_ret dX4_hasClash_96 rfl (bB_nar _) ?_
    exact hK
  · intro i hi_4 nx_4
    try dsimp only at nx_4 ⊢
    have hci : (nI i).toNatClampNeg = i := nI_clamp (by omega)
    refine aw_iload_n dX4_hasClash_4 rfl rfl ?_
    refine aw_aload_n dX4_hasClash_5 rfl rfl ?_
    refine aw_getI dX4_hasClash_6 rfl rfl rfl flX4_75 ?_
    refine aw_icmp_ge (tgt := 95) dX4_hasClash_9 rfl rfl (fun z => absurd z (by rw [h0]; exact nI_ge hi_4 (by omega))) (fun _ => ?_)
    refine aw_iconst 0 dX4_hasClash_12 rfl (by decide) ?_
    refine aw_istore_n dX4_hasClash_13 rfl (by decide) ?_
    show AW _ mX4_hasClash 14 [_, _, _, _] _ _ _
    refine AW.conv (ax_loop (P := fun j => AW (d + 2) mX4_hasClash 14 [some (.inr (28, 0)), some (.inl (bB (anyB i (kA σ (σ 44 0)) || anyB j (kB σ (σ 44 0) i)))), some (.inl (nI i)), some (.inl (nI j))] [] σ K) i ?_ ?_ 0 (Nat.zero_le _)) (by simp only [nI_0, anyB_0, Bool.or_false]) rfl rfl
    · try dsimp only
      refine aw_iload_n dX4_hasClash_14 rfl rfl ?_
      refine aw_iload_n dX4_hasClash_15 rfl rfl ?_
      refine aw_icmp_ge (tgt := 89) dX4_hasClash_16 rfl rfl (fun _ => ?_) (fun z => absurd (Int32.le_refl _) z)
      refine aw_iinc dX4_hasClash_89 rfl rfl (ii_1 _) (by decide) ?_
      show AW _ mX4_hasClash 92 [_, _, _, _] _ _ _
      refine aw_goto (q := 4) dX4_hasClash_92 rfl ?_
      refine AW.conv (AW.forget nx_4 (ls := [some (.inr (28, 0)), some (.inl (bB (anyB (i + 1) (kA σ (σ 44 0))))), some (.inl (nI (i + 1))), some (.inl (nI i))]) (fun n v h => by
        match n, h with
        | 0, h => exact h
        | 1, h => exact h
        | 2, h => exact h
        | 3, h => cases h
        | n + 4, h => simp at h)) ?_ rfl rfl
      simp only [nI_succ, anyB_s, kA]
    · intro j hi_14 nx_14
      try dsimp only at nx_14 ⊢
      have hcj : (nI j).toNatClampNeg = j := nI_clamp (by omega)
      refine aw_iload_n dX4_hasClash_14 rfl rfl ?_
      refine aw_iload_n dX4_hasClash_15 rfl rfl ?_
      refine aw_icmp_ge (tgt := 89) dX4_hasClash_16 rfl rfl (fun z => absurd z (nI_ge hi_14 (by omega))) (fun _ => ?_)
      refine aw_iload_n dX4_hasClash_19 rfl rfl ?_
      refine aw_if_neB (tgt := 77) dX4_hasClash_20 rfl rfl (fun c20 => ?_) (fun c20 => ?_)
      · skip
        refine aw_iconst 1 dX4_hasClash_77 rfl (by decide) ?_
        refine aw_goto (q := 82) dX4_hasClash_78 rfl ?_
        refine aw_istore_n dX4_hasClash_82 rfl (by decide) ?_
        show AW _ mX4_hasClash 83 [_, _, _, _] _ _ _
        refine aw_iinc dX4_hasClash_83 rfl rfl (ii_1 _) (by decide) ?_
        show AW _ mX4_hasClash 86 [_, _, _, _] _ _ _
        refine aw_goto (q := 14) dX4_hasClash_86 rfl ?_
        refine AW.conv nx_14 ?_ rfl rfl
        simp only [nI_succ, anyB_s]
        rw [← Bool.or_assoc]
        simp [hs, bB, kB, c20]
      · skip
        refine aw_aload_n dX4_hasClash_23 rfl rfl ?_
        refine aw_getR dX4_hasClash_24 rfl rfl rfl (by decide) flX4_19 ?_
        refine aw_iload_n dX4_hasClash_27 rfl rfl ?_
        refine aw_iald dX4_hasClash_28 rfl rfl (by first | exact vp_in_nI (by omega) (by omega) | decide) ?_
        try simp only [hci]
        try simp only [hcj]
        refine aw_iload_n dX4_hasClash_29 rfl rfl ?_
        refine aw_S2 (M' := mX4_has) dX4_hasClash_30 rfl lkX4_86 gX4_has (Nat.le_of_ble_eq_true rfl) (sX4_has ?_)
        show AW _ mX4_hasClash 33 _ (_ :: _) _ _
        refine aw_if_eqB (tgt := 81) dX4_hasClash_33 rfl rfl (fun c33 => ?_) (fun c33 => ?_)
        · skip
          refine aw_iconst 0 dX4_hasClash_81 rfl (by decide) ?_
          refine aw_istore_n dX4_hasClash_82 rfl (by decide) ?_
          show AW _ mX4_hasClash 83 [_, _, _, _] _ _ _
          refine aw_iinc dX4_hasClash_83 rfl rfl (ii_1 _) (by decide) ?_
          show AW _ mX4_hasClash 86 [_, _, _, _] _ _ _
          refine aw_goto (q := 14) dX4_hasClash_86 rfl ?_
          refine AW.conv nx_14 ?_ rfl rfl
          simp only [nI_succ, anyB_s]
          rw [← Bool.or_assoc]
          simp [hs, bB, kB, c20, c33]
        · skip
          refine aw_aload_n dX4_hasClash_36 rfl rfl ?_
          refine aw_getR dX4_hasClash_37 rfl rfl rfl (by decide) flX4_59 ?_
          refine aw_iload_n dX4_hasClash_40 rfl rfl ?_
          refine aw_iald dX4_hasClash_41 rfl rfl (by first | exact vp_in_nI (by omega) (by omega) | decide) ?_
          try simp only [hci]
          try simp only [hcj]
          refine aw_bipush (-9) dX4_hasClash_42 rfl (by decide) ?_
          refine aw_icmp_eq (tgt := 81) dX4_hasClash_44 rfl rfl (fun c44 => ?_) (fun c44 => ?_)
          · skip
            refine aw_iconst 0 dX4_hasClash_81 rfl (by decide) ?_
            refine aw_istore_n dX4_hasClash_82 rfl (by decide) ?_
            show AW _ mX4_hasClash 83 [_, _, _, _] _ _ _
            refine aw_iinc dX4_hasClash_83 rfl rfl (ii_1 _) (by decide) ?_
            show AW _ mX4_hasClash 86 [_, _, _, _] _ _ _
            refine aw_goto (q := 14) dX4_hasClash_86 rfl ?_
            refine AW.conv nx_14 ?_ rfl rfl
            simp only [nI_succ, anyB_s]
            rw [← Bool.or_assoc]
            simp [hs, bB, kB, c20, c33, c44]
          · skip
            refine aw_aload_n dX4_hasClash_47 rfl rfl ?_
            refine aw_getR dX4_hasClash_48 rfl rfl rfl (by decide) flX4_59 ?_
            refine aw_iload_n dX4_hasClash_51 rfl rfl ?_
            refine aw_iald dX4_hasClash_52 rfl rfl (by first | exact vp_in_nI (by omega) (by omega) | decide) ?_
            try simp only [hci]
            try simp only [hcj]
            refine aw_bipush (-9) dX4_hasClash_53 rfl (by decide) ?_
            refine aw_icmp_eq (tgt := 81) dX4_hasClash_55 rfl rfl (fun c55 => ?_) (fun c55 => ?_)
            · skip
              refine aw_iconst 0 dX4_hasClash_81 rfl (by decide) ?_
              refine aw_istore_n dX4_hasClash_82 rfl (by decide) ?_
              show AW _ mX4_hasClash 83 [_, _, _, _] _ _ _
              refine aw_iinc dX4_hasClash_83 rfl rfl (ii_1 _) (by decide) ?_
              show AW _ mX4_hasClash 86 [_, _, _, _] _ _ _
              refine aw_goto (q := 14) dX4_hasClash_86 rfl ?_
              refine AW.conv nx_14 ?_ rfl rfl
              simp only [nI_succ, anyB_s]
              rw [← Bool.or_assoc]
              simp [hs, bB, kB, c20, c33, c44, c55]
            · skip
              refine aw_aload_n dX4_hasClash_58 rfl rfl ?_
              refine aw_aload_n dX4_hasClash_59 rfl rfl ?_
              refine aw_getR dX4_hasClash_60 rfl rfl rfl (by decide) flX4_59 ?_
              refine aw_iload_n dX4_hasClash_63 rfl rfl ?_
              refine aw_iald dX4_hasClash_64 rfl rfl (by first | exact vp_in_nI (by omega) (by omega) | decide) ?_
              try simp only [hci]
              try simp only [hcj]
              refine aw_aload_n dX4_hasClash_65 rfl rfl ?_
              refine aw_getR dX4_hasClash_66 rfl rfl rfl (by decide) flX4_59 ?_
              refine aw_iload_n dX4_hasClash_69 rfl rfl ?_
              refine aw_iald dX4_hasClash_70 rfl rfl (by first | exact vp_in_nI (by omega) (by omega) | decide) ?_
              try simp only [hci]
              try simp only [hcj]
              refine aw_V2 (M' := mX4_doClash) dX4_hasClash_71 rfl lkX4_105 gX4_doClash rfl rfl (Nat.le_of_ble_eq_true rfl) (sX4_doClashI (vp_mono ((hT i hi_4).resolve_left c44) hc) (vp_mono ((hT j (by omega)).resolve_left c55) hc) ?_)
              show AW _ mX4_hasClash 74 _ (_ :: _) _ _
              refine aw_if_eqB (tgt := 81) dX4_hasClash_74 rfl rfl (fun c74 => ?_) (fun c74 => ?_)
              · skip
                refine aw_iconst 0 dX4_hasClash_81 rfl (by decide) ?_
                refine aw_istore_n dX4_hasClash_82 rfl (by decide) ?_
                show AW _ mX4_hasClash 83 [_, _, _, _] _ _ _
                refine aw_iinc dX4_hasClash_83 rfl rfl (ii_1 _) (by decide) ?_
                show AW _ mX4_hasClash 86 [_, _, _, _] _ _ _
                refine aw_goto (q := 14) dX4_hasClash_86 rfl ?_
                refine AW.conv nx_14 ?_ rfl rfl
                simp only [nI_succ, anyB_s]
                rw [← Bool.or_assoc]
                simp [hs, bB, kB, c20, c33, c44, c55, c74]
              · skip
                refine aw_iconst 1 dX4_hasClash_77 rfl (by decide) ?_
                refine aw_goto (q := 82) dX4_hasClash_78 rfl ?_
                refine aw_istore_n dX4_hasClash_82 rfl (by decide) ?_
                show AW _ mX4_hasClash 83 [_, _, _, _] _ _ _
                refine aw_iinc dX4_hasClash_83 rfl rfl (ii_1 _) (by decide) ?_
                show AW _ mX4_hasClash 86 [_, _, _, _] _ _ _
                refine aw_goto (q := 14) dX4_hasClash_86 rfl ?_
                refine AW.conv nx_14 ?_ rfl rfl
                simp only [nI_succ, anyB_s]
                rw [← Bool.or_assoc]
                simp [hs, bB, kB, c20, c33, c44, c55, c74]
set_option maxRecDepth 4000 in
theorem sX4_hasTooMuch {d : Nat} {σ : SS} {K : ax_K} {v : Int32} {n cn : Nat} (hn : n ≤ 6) (h0 : σ 28 0 0 = nI n) (hc : cn ≤ 4) (h9 : σ 28 0 9 = nI cn) (hK : K (some (bB (anyB cn (mB σ (σ 44 0) n v)))) σ) : AW (d + 1) mX4_hasTooMuch 0 (ax_en mX4_hasTooMuch [.inr (28, 0), .inl v]) [] σ K := by
  show AW _ mX4_hasTooMuch 0 [_, _, _, _, _, _] _ _ _
  refine aw_iconst 0 dX4_hasTooMuch_0 rfl (by decide) ?_
  refine aw_istore_n dX4_hasTooMuch_1 rfl (by decide) ?_
  show AW _ mX4_hasTooMuch 2 [_, _, _, _, _, _] _ _ _
  refine aw_iconst 0 dX4_hasTooMuch_2 rfl (by decide) ?_
  refine aw_istore_n dX4_hasTooMuch_3 rfl (by decide) ?_
  show AW _ mX4_hasTooMuch 4 [_, _, _, _, _, _] _ _ _
  refine AW.conv (ax_loop (P := fun i => AW (d + 1) mX4_hasTooMuch 4 [some (.inr (28, 0)), some (.inl v), some (.inl (bB (anyB i (mB σ (σ 44 0) n v)))), some (.inl (nI i)), none, none] [] σ K) cn ?_ ?_ 0 (Nat.zero_le _)) (by rw [nI_0, anyB_0]; rfl) rfl rfl
  · try dsimp only
    refine aw_iload_n dX4_hasTooMuch_4 rfl rfl ?_
    refine aw_aload_n dX4_hasTooMuch_5 rfl rfl ?_
    refine aw_getI dX4_hasTooMuch_6 rfl rfl rfl flX4_92 ?_
    refine aw_icmp_ge (tgt := 95) dX4_hasTooMuch_9 rfl rfl (fun _ => ?_) (fun z => absurd (by rw [h9]; exact Int32.le_refl _) z)
    refine aw_iload_n dX4_hasTooMuch_95 rfl rfl ?_
    refine aw_ret dX4_hasTooMuch_96 rfl (bB_nar _) ?_
    exact hK
  · intro i hi_4 nx_4
    try dsimp only at nx_4 ⊢
    have hci : (nI i).toNatClampNeg = i := nI_clamp (by omega)
    refine aw_iload_n dX4_hasTooMuch_4 rfl rfl ?_
    refine aw_aload_n dX4_hasTooMuch_5 rfl rfl ?_
    refine aw_getI dX4_hasTooMuch_6 rfl rfl rfl flX4_92 ?_
    refine aw_icmp_ge (tgt := 95) dX4_hasTooMuch_9 rfl rfl (fun z => absurd z (by rw [h9]; exact nI_ge hi_4 (by omega))) (fun _ => ?_)
    refine aw_iconst 0 dX4_hasTooMuch_12 rfl (by decide) ?_
    refine aw_istore dX4_hasTooMuch_13 rfl (by decide) ?_
    show AW _ mX4_hasTooMuch 15 [_, _, _, _, _, _] _ _ _
    refine aw_iconst 0 dX4_hasTooMuch_15 rfl (by decide) ?_
    refine aw_istore dX4_hasTooMuch_16 rfl (by decide) ?_
    show AW _ mX4_hasTooMuch 18 [_, _, _, _, _, _] _ _ _
    refine AW.conv (ax_loop (P := fun j => AW (d + 1) mX4_hasTooMuch 18 [some (.inr (28, 0)), some (.inl v), some (.inl (bB (anyB i (mB σ (σ 44 0) n v)))), some (.inl (nI i)), some (.inl (vS σ (σ 44 0) i j)), some (.inl (nI j))] [] σ K) n ?_ ?_ 0 (Nat.zero_le _)) (by simp only [nI_0, vS, lp_0]) rfl rfl
    · try dsimp only
      refine aw_iload dX4_hasTooMuch_18 rfl rfl ?_
      refine aw_aload_n dX4_hasTooMuch_20 rfl rfl ?_
      refine aw_getI dX4_hasTooMuch_21 rfl rfl rfl flX4_75 ?_
      refine aw_icmp_ge (tgt := 60) dX4_hasTooMuch_24 rfl rfl (fun _ => ?_) (fun z => absurd (by rw [h0]; exact Int32.le_refl _) z)
      refine aw_iload_n dX4_hasTooMuch_60 rfl rfl ?_
      refine aw_if_neB (tgt := 83) dX4_hasTooMuch_61 rfl rfl (fun c61 => ?_) (fun c61 => ?_)
      · skip
        try replace c80 := Int32.not_le.mp c80
        refine aw_iconst 1 dX4_hasTooMuch_83 rfl (by decide) ?_
        refine aw_goto (q := 88) dX4_hasTooMuch_84 rfl ?_
        refine aw_istore_n dX4_hasTooMuch_88 rfl (by decide) ?_
        show AW _ mX4_hasTooMuch 89 [_, _, _, _, _, _] _ _ _
        refine aw_iinc dX4_hasTooMuch_89 rfl rfl (ii_1 _) (by decide) ?_
        show AW _ mX4_hasTooMuch 92 [_, _, _, _, _, _] _ _ _
        refine aw_goto (q := 4) dX4_hasTooMuch_92 rfl ?_
        refine AW.conv (AW.forget nx_4 (ls := [some (.inr (28, 0)), some (.inl v), some (.inl (bB (anyB (i + 1) (mB σ (σ 44 0) n v)))), some (.inl (nI (i + 1))), some (.inl (vS σ (σ 44 0) i n)), some (.inl (nI n))]) (fun n v h => by
          match n, h with
          | 0, h => exact h
          | 1, h => exact h
          | 2, h => exact h
          | 3, h => exact h
          | 4, h => cases h
          | 5, h => cases h
          | n + 6, h => simp at h)) ?_ rfl rfl
        simp only [nI_succ, anyB_s]
        simp [hs, bB, mB, c61]
      · skip
        refine aw_iload_n dX4_hasTooMuch_64 rfl rfl ?_
        refine aw_iload_n dX4_hasTooMuch_65 rfl rfl ?_
        refine aw_S2 (M' := mX4_has) dX4_hasTooMuch_66 rfl lkX4_86 gX4_has (Nat.le_of_ble_eq_true rfl) (sX4_has ?_)
        show AW _ mX4_hasTooMuch 69 _ (_ :: _) _ _
        refine aw_if_eqB (tgt := 87) dX4_hasTooMuch_69 rfl rfl (fun c69 => ?_) (fun c69 => ?_)
        · skip
          try replace c80 := Int32.not_lt.mpr c80
          refine aw_iconst 0 dX4_hasTooMuch_87 rfl (by decide) ?_
          refine aw_istore_n dX4_hasTooMuch_88 rfl (by decide) ?_
          show AW _ mX4_hasTooMuch 89 [_, _, _, _, _, _] _ _ _
          refine aw_iinc dX4_hasTooMuch_89 rfl rfl (ii_1 _) (by decide) ?_
          show AW _ mX4_hasTooMuch 92 [_, _, _, _, _, _] _ _ _
          refine aw_goto (q := 4) dX4_hasTooMuch_92 rfl ?_
          refine AW.conv (AW.forget nx_4 (ls := [some (.inr (28, 0)), some (.inl v), some (.inl (bB (anyB (i + 1) (mB σ (σ 44 0) n v)))), some (.inl (nI (i + 1))), some (.inl (vS σ (σ 44 0) i n)), some (.inl (nI n))]) (fun n v h => by
            match n, h with
            | 0, h => exact h
            | 1, h => exact h
            | 2, h => exact h
            | 3, h => exact h
            | 4, h => cases h
            | 5, h => cases h
            | n + 6, h => simp at h)) ?_ rfl rfl
          simp only [nI_succ, anyB_s]
          simp [hs, bB, mB, c61, c69]
        · skip
          refine aw_iload dX4_hasTooMuch_72 rfl rfl ?_
          refine aw_aload_n dX4_hasTooMuch_74 rfl rfl ?_
          refine aw_getR dX4_hasTooMuch_75 rfl rfl rfl (by decide) flX4_37 ?_
          refine aw_iload_n dX4_hasTooMuch_78 rfl rfl ?_
          refine aw_iald dX4_hasTooMuch_79 rfl rfl (by first | exact vp_in_nI (by omega) (by omega) | decide) ?_
          try simp only [hci]
          try simp only [hcj]
          refine aw_icmp_ge (tgt := 87) dX4_hasTooMuch_80 rfl rfl (fun c80 => ?_) (fun c80 => ?_)
          · skip
            try replace c80 := Int32.not_lt.mpr c80
            refine aw_iconst 0 dX4_hasTooMuch_87 rfl (by decide) ?_
            refine aw_istore_n dX4_hasTooMuch_88 rfl (by decide) ?_
            show AW _ mX4_hasTooMuch 89 [_, _, _, _, _, _] _ _ _
            refine aw_iinc dX4_hasTooMuch_89 rfl rfl (ii_1 _) (by decide) ?_
            show AW _ mX4_hasTooMuch 92 [_, _, _, _, _, _] _ _ _
            refine aw_goto (q := 4) dX4_hasTooMuch_92 rfl ?_
            refine AW.conv (AW.forget nx_4 (ls := [some (.inr (28, 0)), some (.inl v), some (.inl (bB (anyB (i + 1) (mB σ (σ 44 0) n v)))), some (.inl (nI (i + 1))), some (.inl (vS σ (σ 44 0) i n)), some (.inl (nI n))]) (fun n v h => by
              match n, h with
              | 0, h => exact h
              | 1, h => exact h
              | 2, h => exact h
              | 3, h => exact h
              | 4, h => cases h
              | 5, h => cases h
              | n + 6, h => simp at h)) ?_ rfl rfl
            simp only [nI_succ, anyB_s]
            simp [hs, bB, mB, c61, c69, c80]
          · skip
            try replace c80 := Int32.not_le.mp c80
            refine aw_iconst 1 dX4_hasTooMuch_83 rfl (by decide) ?_
            refine aw_goto (q := 88) dX4_hasTooMuch_84 rfl ?_
            refine aw_istore_n dX4_hasTooMuch_88 rfl (by decide) ?_
            show AW _ mX4_hasTooMuch 89 [_, _, _, _, _, _] _ _ _
            refine aw_iinc dX4_hasTooMuch_89 rfl rfl (ii_1 _) (by decide) ?_
            show AW _ mX4_hasTooMuch 92 [_, _, _, _, _, _] _ _ _
            refine aw_goto (q := 4) dX4_hasTooMuch_92 rfl ?_
            refine AW.conv (AW.forget nx_4 (ls := [some (.inr (28, 0)), some (.inl v), some (.inl (bB (anyB (i + 1) (mB σ (σ 44 0) n v)))), some (.inl (nI (i + 1))), some (.inl (vS σ (σ 44 0) i n)), some (.inl (nI n))]) (fun n v h => by
              match n, h with
              | 0, h => exact h
              | 1, h => exact h
              | 2, h => exact h
              | 3, h => exact h
              | 4, h => cases h
              | 5, h => cases h
              | n + 6, h => simp at h)) ?_ rfl rfl
            simp only [nI_succ, anyB_s]
            simp [hs, bB, mB, c61, c69, c80]
    · intro j hi_18 nx_18
      try dsimp only at nx_18 ⊢
      have hcj : (nI j).toNatClampNeg = j := nI_clamp (by omega)
      refine aw_iload dX4_hasTooMuch_18 rfl rfl ?_
      refine aw_aload_n dX4_hasTooMuch_20 rfl rfl ?_
      refine aw_getI dX4_hasTooMuch_21 rfl rfl rfl flX4_75 ?_
      refine aw_icmp_ge (tgt := 60) dX4_hasTooMuch_24 rfl rfl (fun z => absurd z (by rw [h0]; exact nI_ge hi_18 (by omega))) (fun _ => ?_)
      refine aw_iload dX4_hasTooMuch_27 rfl rfl ?_
      refine aw_aload_n dX4_hasTooMuch_29 rfl rfl ?_
      refine aw_getR dX4_hasTooMuch_30 rfl rfl rfl (by decide) flX4_59 ?_
      refine aw_iload dX4_hasTooMuch_33 rfl rfl ?_
      refine aw_iald dX4_hasTooMuch_35 rfl rfl (by first | exact vp_in_nI (by omega) (by omega) | decide) ?_
      try simp only [hci]
      try simp only [hcj]
      refine aw_iload_n dX4_hasTooMuch_36 rfl rfl ?_
      refine aw_icmp_ne (tgt := 50) dX4_hasTooMuch_37 rfl rfl (fun c37 => ?_) (fun c37 => ?_)
      · skip
        refine aw_iconst 0 dX4_hasTooMuch_50 rfl (by decide) ?_
        refine aw_iadd dX4_hasTooMuch_51 rfl ?_
        refine aw_istore dX4_hasTooMuch_52 rfl (by decide) ?_
        show AW _ mX4_hasTooMuch 54 [_, _, _, _, _, _] _ _ _
        refine aw_iinc dX4_hasTooMuch_54 rfl rfl (ii_1 _) (by decide) ?_
        show AW _ mX4_hasTooMuch 57 [_, _, _, _, _, _] _ _ _
        refine aw_goto (q := 18) dX4_hasTooMuch_57 rfl ?_
        refine AW.conv nx_18 ?_ rfl rfl
        simp only [nI_succ, vS_s]
        simp [hs, c37]
      · skip
        refine aw_aload_n dX4_hasTooMuch_40 rfl rfl ?_
        refine aw_getR dX4_hasTooMuch_41 rfl rfl rfl (by decide) flX4_7 ?_
        refine aw_iload dX4_hasTooMuch_44 rfl rfl ?_
        refine aw_iald dX4_hasTooMuch_46 rfl rfl (by first | exact vp_in_nI (by omega) (by omega) | decide) ?_
        try simp only [hci]
        try simp only [hcj]
        refine aw_goto (q := 51) dX4_hasTooMuch_47 rfl ?_
        refine aw_iadd dX4_hasTooMuch_51 rfl ?_
        refine aw_istore dX4_hasTooMuch_52 rfl (by decide) ?_
        show AW _ mX4_hasTooMuch 54 [_, _, _, _, _, _] _ _ _
        refine aw_iinc dX4_hasTooMuch_54 rfl rfl (ii_1 _) (by decide) ?_
        show AW _ mX4_hasTooMuch 57 [_, _, _, _, _, _] _ _ _
        refine aw_goto (q := 18) dX4_hasTooMuch_57 rfl ?_
        refine AW.conv nx_18 ?_ rfl rfl
        simp only [nI_succ, vS_s]
        simp [hs, c37]
set_option maxRecDepth 4000 in
theorem sX4_usedOf {d : Nat} {σ : SS} {K : ax_K} {n : Nat} (hn : n ≤ 6) (h0 : σ 28 0 0 = nI n) (hK : K (some (usS (σ 44 0) n)) σ) : AW d mX4_usedOf 0 (ax_en mX4_usedOf [.inr (28, 0)]) [] σ K := by
  show AW _ mX4_usedOf 0 [_, _, _] _ _ _
  refine aw_iconst 0 dX4_usedOf_0 rfl (by decide) ?_
  refine aw_istore_n dX4_usedOf_1 rfl (by decide) ?_
  show AW _ mX4_usedOf 2 [_, _, _] _ _ _
  refine aw_iconst 0 dX4_usedOf_2 rfl (by decide) ?_
  refine aw_istore_n dX4_usedOf_3 rfl (by decide) ?_
  show AW _ mX4_usedOf 4 [_, _, _] _ _ _
  refine AW.conv (ax_loop (P := fun i => AW d mX4_usedOf 4 [some (.inr (28, 0)), some (.inl (usS (σ 44 0) i)), some (.inl (nI i))] [] σ K) n ?_ ?_ 0 (Nat.zero_le _)) (by first | (simp only [nI_0]; done) | (simp only [nI_0]; rfl)) rfl rfl
  · try dsimp only
    refine aw_iload_n dX4_usedOf_4 rfl rfl ?_
    refine aw_aload_n dX4_usedOf_5 rfl rfl ?_
    refine aw_getI dX4_usedOf_6 rfl rfl rfl flX4_75 ?_
    refine aw_icmp_ge (tgt := 37) dX4_usedOf_9 rfl rfl (fun _ => ?_) (fun z => absurd (by rw [h0]; exact Int32.le_refl _) z)
    refine aw_iload_n dX4_usedOf_37 rfl rfl ?_
    refine aw_ret dX4_usedOf_38 rfl rfl ?_
    exact hK
  · intro i hi_4 nx_4
    try dsimp only at nx_4 ⊢
    have hci : (nI i).toNatClampNeg = i := nI_clamp (by omega)
    refine aw_iload_n dX4_usedOf_4 rfl rfl ?_
    refine aw_aload_n dX4_usedOf_5 rfl rfl ?_
    refine aw_getI dX4_usedOf_6 rfl rfl rfl flX4_75 ?_
    refine aw_icmp_ge (tgt := 37) dX4_usedOf_9 rfl rfl (fun z => absurd z (by rw [h0]; exact nI_ge hi_4 (by omega))) (fun _ => ?_)
    refine aw_iload_n dX4_usedOf_12 rfl rfl ?_
    refine aw_aload_n dX4_usedOf_13 rfl rfl ?_
    refine aw_getR dX4_usedOf_14 rfl rfl rfl (by decide) flX4_59 ?_
    refine aw_iload_n dX4_usedOf_17 rfl rfl ?_
    refine aw_iald dX4_usedOf_18 rfl rfl (by first | exact vp_in_nI (by omega) (by omega) | decide) ?_
    try simp only [hci]
    refine aw_bipush (-9) dX4_usedOf_19 rfl (by decide) ?_
    refine aw_icmp_ne (tgt := 28) dX4_usedOf_21 rfl rfl (fun c21 => ?_) (fun c21 => ?_)
    · skip
      refine aw_iconst 1 dX4_usedOf_28 rfl (by decide) ?_
      refine aw_iadd dX4_usedOf_29 rfl ?_
      refine aw_istore_n dX4_usedOf_30 rfl (by decide) ?_
      show AW _ mX4_usedOf 31 [_, _, _] _ _ _
      refine aw_iinc dX4_usedOf_31 rfl rfl (ii_1 _) (by decide) ?_
      show AW _ mX4_usedOf 34 [_, _, _] _ _ _
      refine aw_goto (q := 4) dX4_usedOf_34 rfl ?_
      refine AW.conv nx_4 ?_ rfl rfl
      simp only [nI_succ, usS_s]
      simp [c21]
    · skip
      refine aw_iconst 0 dX4_usedOf_24 rfl (by decide) ?_
      refine aw_goto (q := 29) dX4_usedOf_25 rfl ?_
      refine aw_iadd dX4_usedOf_29 rfl ?_
      refine aw_istore_n dX4_usedOf_30 rfl (by decide) ?_
      show AW _ mX4_usedOf 31 [_, _, _] _ _ _
      refine aw_iinc dX4_usedOf_31 rfl rfl (ii_1 _) (by decide) ?_
      show AW _ mX4_usedOf 34 [_, _, _] _ _ _
      refine aw_goto (q := 4) dX4_usedOf_34 rfl ?_
      refine AW.conv nx_4 ?_ rfl rfl
      simp only [nI_succ, usS_s]
      simp [c21]
set_option maxRecDepth 4000 in
theorem sX4_costOf {d : Nat} {σ : SS} {K : ax_K} {n cn : Nat} (hn : n ≤ 6) (h0 : σ 28 0 0 = nI n) (hc : cn ≤ 4) (hT : okT n cn (σ 44 0)) (hLat : ∀ x, x < 18 → lt9 (σ 33 0 x)) (hLiq : ∀ c, c < 4 → ∃ j, j < 8 ∧ σ 37 0 c = nI j) (hK : K (some (coS σ (σ 44 0) n)) σ) : AW (d + 1) mX4_costOf 0 (ax_en mX4_costOf [.inr (28, 0)]) [] σ K := by
  show AW _ mX4_costOf 0 [_, _, _] _ _ _
  refine aw_iconst 0 dX4_costOf_0 rfl (by decide) ?_
  refine aw_istore_n dX4_costOf_1 rfl (by decide) ?_
  show AW _ mX4_costOf 2 [_, _, _] _ _ _
  refine aw_iconst 0 dX4_costOf_2 rfl (by decide) ?_
  refine aw_istore_n dX4_costOf_3 rfl (by decide) ?_
  show AW _ mX4_costOf 4 [_, _, _] _ _ _
  refine AW.conv (ax_loop (P := fun i => AW (d + 1) mX4_costOf 4 [some (.inr (28, 0)), some (.inl (coS σ (σ 44 0) i)), some (.inl (nI i))] [] σ K) n ?_ ?_ 0 (Nat.zero_le _)) (by first | (simp only [nI_0]; done) | (simp only [nI_0]; rfl)) rfl rfl
  · try dsimp only
    refine aw_iload_n dX4_costOf_4 rfl rfl ?_
    refine aw_aload_n dX4_costOf_5 rfl rfl ?_
    refine aw_getI dX4_costOf_6 rfl rfl rfl flX4_75 ?_
    refine aw_icmp_ge (tgt := 47) dX4_costOf_9 rfl rfl (fun _ => ?_) (fun z => absurd (by rw [h0]; exact Int32.le_refl _) z)
    refine aw_iload_n dX4_costOf_47 rfl rfl ?_
    refine aw_ret dX4_costOf_48 rfl rfl ?_
    exact hK
  · intro i hi_4 nx_4
    try dsimp only at nx_4 ⊢
    have hci : (nI i).toNatClampNeg = i := nI_clamp (by omega)
    refine aw_iload_n dX4_costOf_4 rfl rfl ?_
    refine aw_aload_n dX4_costOf_5 rfl rfl ?_
    refine aw_getI dX4_costOf_6 rfl rfl rfl flX4_75 ?_
    refine aw_icmp_ge (tgt := 47) dX4_costOf_9 rfl rfl (fun z => absurd z (by rw [h0]; exact nI_ge hi_4 (by omega))) (fun _ => ?_)
    refine aw_iload_n dX4_costOf_12 rfl rfl ?_
    refine aw_aload_n dX4_costOf_13 rfl rfl ?_
    refine aw_getR dX4_costOf_14 rfl rfl rfl (by decide) flX4_59 ?_
    refine aw_iload_n dX4_costOf_17 rfl rfl ?_
    refine aw_iald dX4_costOf_18 rfl rfl (by first | exact vp_in_nI (by omega) (by omega) | decide) ?_
    try simp only [hci]
    refine aw_bipush (-9) dX4_costOf_19 rfl (by decide) ?_
    refine aw_icmp_ne (tgt := 28) dX4_costOf_21 rfl rfl (fun c21 => ?_) (fun c21 => ?_)
    · skip
      refine aw_aload_n dX4_costOf_28 rfl rfl ?_
      refine aw_iload_n dX4_costOf_29 rfl rfl ?_
      refine aw_aload_n dX4_costOf_30 rfl rfl ?_
      refine aw_getR dX4_costOf_31 rfl rfl rfl (by decide) flX4_59 ?_
      refine aw_iload_n dX4_costOf_34 rfl rfl ?_
      refine aw_iald dX4_costOf_35 rfl rfl (by first | exact vp_in_nI (by omega) (by omega) | decide) ?_
      try simp only [hci]
      refine aw_V2 (M' := mX4_washesFor) dX4_costOf_36 rfl lkX4_118 gX4_washesFor rfl rfl (Nat.le_of_ble_eq_true rfl) (sX4_washesForI (vp_in_nI (by omega) (by omega)) (vp_mono ((hT i hi_4).resolve_left c21) hc) (hLat _ (by rw [ci, hci]; omega)) (hLiq _ (vp_lt (vp_mono ((hT i hi_4).resolve_left c21) hc))) ?_)
      rw [ci, hci]
      show AW _ mX4_costOf 39 _ (_ :: _) _ _
      refine aw_iadd dX4_costOf_39 rfl ?_
      refine aw_istore_n dX4_costOf_40 rfl (by decide) ?_
      show AW _ mX4_costOf 41 [_, _, _] _ _ _
      refine aw_iinc dX4_costOf_41 rfl rfl (ii_1 _) (by decide) ?_
      show AW _ mX4_costOf 44 [_, _, _] _ _ _
      refine aw_goto (q := 4) dX4_costOf_44 rfl ?_
      refine AW.conv nx_4 ?_ rfl rfl
      simp only [nI_succ, coS_s]
      simp [c21]
    · skip
      refine aw_iconst 0 dX4_costOf_24 rfl (by decide) ?_
      refine aw_goto (q := 39) dX4_costOf_25 rfl ?_
      refine aw_iadd dX4_costOf_39 rfl ?_
      refine aw_istore_n dX4_costOf_40 rfl (by decide) ?_
      show AW _ mX4_costOf 41 [_, _, _] _ _ _
      refine aw_iinc dX4_costOf_41 rfl rfl (ii_1 _) (by decide) ?_
      show AW _ mX4_costOf 44 [_, _, _] _ _ _
      refine aw_goto (q := 4) dX4_costOf_44 rfl ?_
      refine AW.conv nx_4 ?_ rfl rfl
      simp only [nI_succ, coS_s]
      simp [c21]
set_option maxRecDepth 4000 in
theorem sX4_amountsOf {d : Nat} {σ : SS} {K : ax_K} {v : Int32} {cn : Nat} (hc : cn ≤ 4) (h9 : σ 28 0 9 = nI cn) (hK : K (some (amS σ v cn)) σ) : AW (d + 1) mX4_amountsOf 0 (ax_en mX4_amountsOf [.inr (28, 0), .inl v]) [] σ K := by
  show AW _ mX4_amountsOf 0 [_, _, _, _] _ _ _
  refine aw_iconst 0 dX4_amountsOf_0 rfl (by decide) ?_
  refine aw_istore_n dX4_amountsOf_1 rfl (by decide) ?_
  show AW _ mX4_amountsOf 2 [_, _, _, _] _ _ _
  refine aw_iconst 0 dX4_amountsOf_2 rfl (by decide) ?_
  refine aw_istore_n dX4_amountsOf_3 rfl (by decide) ?_
  show AW _ mX4_amountsOf 4 [_, _, _, _] _ _ _
  refine AW.conv (ax_loop (P := fun i => AW (d + 1) mX4_amountsOf 4 [some (.inr (28, 0)), some (.inl v), some (.inl (amS σ v i)), some (.inl (nI i))] [] σ K) cn ?_ ?_ 0 (Nat.zero_le _)) (by first | (simp only [nI_0]; done) | (simp only [nI_0]; rfl)) rfl rfl
  · try dsimp only
    refine aw_iload_n dX4_amountsOf_4 rfl rfl ?_
    refine aw_aload_n dX4_amountsOf_5 rfl rfl ?_
    refine aw_getI dX4_amountsOf_6 rfl rfl rfl flX4_92 ?_
    refine aw_icmp_ge (tgt := 39) dX4_amountsOf_9 rfl rfl (fun _ => ?_) (fun z => absurd (by rw [h9]; exact Int32.le_refl _) z)
    refine aw_iload_n dX4_amountsOf_39 rfl rfl ?_
    refine aw_ret dX4_amountsOf_40 rfl rfl ?_
    exact hK
  · intro i hi_4 nx_4
    try dsimp only at nx_4 ⊢
    have hci : (nI i).toNatClampNeg = i := nI_clamp (by omega)
    refine aw_iload_n dX4_amountsOf_4 rfl rfl ?_
    refine aw_aload_n dX4_amountsOf_5 rfl rfl ?_
    refine aw_getI dX4_amountsOf_6 rfl rfl rfl flX4_92 ?_
    refine aw_icmp_ge (tgt := 39) dX4_amountsOf_9 rfl rfl (fun z => absurd z (by rw [h9]; exact nI_ge hi_4 (by omega))) (fun _ => ?_)
    refine aw_iload_n dX4_amountsOf_12 rfl rfl ?_
    refine aw_iload_n dX4_amountsOf_13 rfl rfl ?_
    refine aw_iload_n dX4_amountsOf_14 rfl rfl ?_
    refine aw_S2 (M' := mX4_has) dX4_amountsOf_15 rfl lkX4_86 gX4_has (Nat.le_of_ble_eq_true rfl) (sX4_has ?_)
    show AW _ mX4_amountsOf 18 _ (_ :: _) _ _
    refine aw_if_eqB (tgt := 30) dX4_amountsOf_18 rfl rfl (fun c18 => ?_) (fun c18 => ?_)
    · skip
      refine aw_iconst 0 dX4_amountsOf_30 rfl (by decide) ?_
      refine aw_iadd dX4_amountsOf_31 rfl ?_
      refine aw_istore_n dX4_amountsOf_32 rfl (by decide) ?_
      show AW _ mX4_amountsOf 33 [_, _, _, _] _ _ _
      refine aw_iinc dX4_amountsOf_33 rfl rfl (ii_1 _) (by decide) ?_
      show AW _ mX4_amountsOf 36 [_, _, _, _] _ _ _
      refine aw_goto (q := 4) dX4_amountsOf_36 rfl ?_
      refine AW.conv nx_4 ?_ rfl rfl
      simp only [nI_succ, amS_s]
      simp [hs, c18]
    · skip
      refine aw_aload_n dX4_amountsOf_21 rfl rfl ?_
      refine aw_getR dX4_amountsOf_22 rfl rfl rfl (by decide) flX4_37 ?_
      refine aw_iload_n dX4_amountsOf_25 rfl rfl ?_
      refine aw_iald dX4_amountsOf_26 rfl rfl (by first | exact vp_in_nI (by omega) (by omega) | decide) ?_
      try simp only [hci]
      refine aw_goto (q := 31) dX4_amountsOf_27 rfl ?_
      refine aw_iadd dX4_amountsOf_31 rfl ?_
      refine aw_istore_n dX4_amountsOf_32 rfl (by decide) ?_
      show AW _ mX4_amountsOf 33 [_, _, _, _] _ _ _
      refine aw_iinc dX4_amountsOf_33 rfl rfl (ii_1 _) (by decide) ?_
      show AW _ mX4_amountsOf 36 [_, _, _, _] _ _ _
      refine aw_goto (q := 4) dX4_amountsOf_36 rfl ?_
      refine AW.conv nx_4 ?_ rfl rfl
      simp only [nI_succ, amS_s]
      simp [hs, c18]
