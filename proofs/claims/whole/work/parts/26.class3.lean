set_option maxRecDepth 4000 in
theorem sX3_toldClashes {d : Nat} {σ : SS} {K : ax_K} {n cn : Nat} (hn : n ≤ 6) (h0 : σ 0 0 7 = nI n) (hc : cn ≤ 4) (h9 : σ 0 0 8 = nI cn) (hPl : okT n cn (σ 5 0)) (hLiq : ∀ c, c < 4 → ∃ j, j < 8 ∧ σ 10 c 0 = nI j) (hK : K (some (bB (anyB n (kA (vw σ) (σ 5 0))))) σ) : AW (d + 2) mX3_toldClashes 0 (ax_en mX3_toldClashes [.inr (0, 0)]) [] σ K := by
  show AW _ mX3_toldClashes 0 [_, _, _, _, _] _ _ _
  refine aw_iconst 0 dX3_toldClashes_0 rfl (by decide) ?_
  refine aw_istore_n dX3_toldClashes_1 rfl (by decide) ?_
  show AW _ mX3_toldClashes 2 [_, _, _, _, _] _ _ _
  refine AW.conv (ax_loop (P := fun i => anyB i (kA (vw σ) (σ 5 0)) = false → AW (d + 2) mX3_toldClashes 2 [some (.inr (0, 0)), some (.inl (nI i)), none, none, none] [] σ K) n ?_ ?_ 0 (Nat.zero_le _) rfl) (by first | (simp only [nI_0]; done) | (simp only [nI_0]; rfl)) rfl rfl
  · try dsimp only
    intro hany
    refine aw_iload_n dX3_toldClashes_2 rfl rfl ?_
    refine aw_aload_n dX3_toldClashes_3 rfl rfl ?_
    refine aw_getI dX3_toldClashes_4 rfl rfl rfl flX3_41 ?_
    refine aw_icmp_ge (tgt := 98) dX3_toldClashes_7 rfl rfl (fun _ => ?_) (fun z => absurd (by rw [h0]; exact Int32.le_refl _) z)
    refine aw_iconst 0 dX3_toldClashes_98 rfl (by decide) ?_
    refine aw_ret dX3_toldClashes_99 rfl (by decide) ?_
    exact kk_c hK (by rw [hany]; rfl) rfl
  · intro i hi_2 nx_2
    try dsimp only at nx_2 ⊢
    intro hany
    have hci : (nI i).toNatClampNeg = i := nI_clamp (by omega)
    refine aw_iload_n dX3_toldClashes_2 rfl rfl ?_
    refine aw_aload_n dX3_toldClashes_3 rfl rfl ?_
    refine aw_getI dX3_toldClashes_4 rfl rfl rfl flX3_41 ?_
    refine aw_icmp_ge (tgt := 98) dX3_toldClashes_7 rfl rfl (fun z => absurd z (by rw [h0]; exact nI_ge hi_2 (by omega))) (fun _ => ?_)
    refine aw_iconst 0 dX3_toldClashes_10 rfl (by decide) ?_
    refine aw_istore_n dX3_toldClashes_11 rfl (by decide) ?_
    show AW _ mX3_toldClashes 12 [_, _, _, _, _] _ _ _
    refine AW.conv (ax_loop (P := fun j => anyB j (kB (vw σ) (σ 5 0) i) = false → AW (d + 2) mX3_toldClashes 12 [some (.inr (0, 0)), some (.inl (nI i)), some (.inl (nI j)), none, none] [] σ K) i ?_ ?_ 0 (Nat.zero_le _) rfl) (by first | (simp only [nI_0]; done) | (simp only [nI_0]; rfl)) rfl rfl
    · try dsimp only
      intro hanyj
      refine aw_iload_n dX3_toldClashes_12 rfl rfl ?_
      refine aw_iload_n dX3_toldClashes_13 rfl rfl ?_
      refine aw_icmp_ge (tgt := 92) dX3_toldClashes_14 rfl rfl (fun _ => ?_) (fun z => absurd (Int32.le_refl _) z)
      refine aw_iinc dX3_toldClashes_92 rfl rfl (ii_1 _) (by decide) ?_
      show AW _ mX3_toldClashes 95 [_, _, _, _, _] _ _ _
      refine aw_goto (q := 2) dX3_toldClashes_95 rfl ?_
      refine AW.conv (AW.forget (nx_2 ?_) (ls := [some (.inr (0, 0)), some (.inl (nI (i + 1))), some (.inl (nI i)), none, none]) (fun n v h => by
        match n, h with
        | 0, h => exact h
        | 1, h => exact h
        | 2, h => cases h
        | 3, h => cases h
        | 4, h => cases h
        | n + 5, h => simp at h)) (by first | (simp only [nI_succ i]; done) | (simp only [nI_succ i]; rfl)) rfl rfl
      rw [anyB_s, hany, Bool.false_or, kA, hanyj]
    · intro j hi_12 nx_12
      try dsimp only at nx_12 ⊢
      intro hanyj
      have hcj : (nI j).toNatClampNeg = j := nI_clamp (by omega)
      refine aw_iload_n dX3_toldClashes_12 rfl rfl ?_
      refine aw_iload_n dX3_toldClashes_13 rfl rfl ?_
      refine aw_icmp_ge (tgt := 92) dX3_toldClashes_14 rfl rfl (fun z => absurd z (nI_ge hi_12 (by omega))) (fun _ => ?_)
      refine aw_aload_n dX3_toldClashes_17 rfl rfl ?_
      refine aw_getR dX3_toldClashes_18 rfl rfl rfl (by decide) flX3_32 ?_
      refine aw_iload_n dX3_toldClashes_21 rfl rfl ?_
      refine aw_iald dX3_toldClashes_22 rfl rfl (by first | exact vp_in_nI (by omega) (by omega) | exact vp_in_iff.mpr (by decide)) ?_
      try simp only [hci]
      try simp only [hcj]
      refine aw_istore_n dX3_toldClashes_23 rfl (by decide) ?_
      show AW _ mX3_toldClashes 24 [_, _, _, _, _] _ _ _
      refine aw_aload_n dX3_toldClashes_24 rfl rfl ?_
      refine aw_getR dX3_toldClashes_25 rfl rfl rfl (by decide) flX3_32 ?_
      refine aw_iload_n dX3_toldClashes_28 rfl rfl ?_
      refine aw_iald dX3_toldClashes_29 rfl rfl (by first | exact vp_in_nI (by omega) (by omega) | exact vp_in_iff.mpr (by decide)) ?_
      try simp only [hci]
      try simp only [hcj]
      refine aw_istore dX3_toldClashes_30 rfl (by decide) ?_
      show AW _ mX3_toldClashes 32 [_, _, _, _, _] _ _ _
      refine aw_aload_n dX3_toldClashes_32 rfl rfl ?_
      refine aw_getR dX3_toldClashes_33 rfl rfl rfl (by decide) flX3_11 ?_
      refine aw_iload_n dX3_toldClashes_36 rfl rfl ?_
      refine aw_aald dX3_toldClashes_37 rfl rfl (by decide) (by first | exact (show vp_in _ 6 from vp_in_nI (by omega) (by omega)) | exact (show vp_in _ 4 from vp_in_nI (by omega) (by omega))) ?_
      try simp only [hci]
      try simp only [hcj]
      refine aw_getI dX3_toldClashes_38 rfl rfl rfl flX3_77 ?_
      refine aw_iload_n dX3_toldClashes_41 rfl rfl ?_
      refine aw_S2 (M' := mX3_has) dX3_toldClashes_42 rfl lkX3_80 gX3_has (Nat.le_of_ble_eq_true rfl) (sX3_has ?_)
      rw [hc_nI _ (by omega)]
      show AW _ mX3_toldClashes 45 _ (_ :: _) _ _
      refine aw_if_eqB (tgt := 86) dX3_toldClashes_45 rfl rfl (fun c45 => ?_) (fun c45 => ?_)
      · skip
        refine aw_iinc dX3_toldClashes_86 rfl rfl (ii_1 _) (by decide) ?_
        show AW _ mX3_toldClashes 89 [_, _, _, _, _] _ _ _
        refine aw_goto (q := 12) dX3_toldClashes_89 rfl ?_
        refine AW.conv (AW.forget (nx_12 ?_) (ls := [some (.inr (0, 0)), some (.inl (nI i)), some (.inl (nI (j + 1))), some (.inl (σ 5 0 i)), some (.inl (σ 5 0 j))]) (fun n v h => by
          match n, h with
          | 0, h => exact h
          | 1, h => exact h
          | 2, h => exact h
          | 3, h => cases h
          | 4, h => cases h
          | n + 5, h => simp at h)) (by first | (simp only [nI_succ j]; done) | (simp only [nI_succ j]; rfl)) rfl rfl
        rw [anyB_s, hanyj, Bool.false_or]
        rw [kB, show hb ((vw σ) 32 0 i) (nI j) = false from c45, Bool.false_and]
      · skip
        refine aw_aload_n dX3_toldClashes_48 rfl rfl ?_
        refine aw_iload_n dX3_toldClashes_49 rfl rfl ?_
        refine aw_V1 (M' := mX3_isCargo) dX3_toldClashes_50 rfl lkX3_121 gX3_isCargo rfl rfl (Nat.le_of_ble_eq_true rfl) (sX3_isCargo hc h9 ?_)
        show AW _ mX3_toldClashes 53 _ (_ :: _) _ _
        refine aw_if_eqb (tgt := 86) dX3_toldClashes_53 rfl rfl (fun c53 => ?_) (fun c53 => ?_)
        · skip
          refine aw_iinc dX3_toldClashes_86 rfl rfl (ii_1 _) (by decide) ?_
          show AW _ mX3_toldClashes 89 [_, _, _, _, _] _ _ _
          refine aw_goto (q := 12) dX3_toldClashes_89 rfl ?_
          refine AW.conv (AW.forget (nx_12 ?_) (ls := [some (.inr (0, 0)), some (.inl (nI i)), some (.inl (nI (j + 1))), some (.inl (σ 5 0 i)), some (.inl (σ 5 0 j))]) (fun n v h => by
            match n, h with
            | 0, h => exact h
            | 1, h => exact h
            | 2, h => exact h
            | 3, h => cases h
            | 4, h => cases h
            | n + 5, h => simp at h)) (by first | (simp only [nI_succ j]; done) | (simp only [nI_succ j]; rfl)) rfl rfl
          rw [anyB_s, hanyj, Bool.false_or]
          rw [kB, okT_9 hPl hi_2 c53]; simp
        · skip
          refine aw_aload_n dX3_toldClashes_56 rfl rfl ?_
          refine aw_iload dX3_toldClashes_57 rfl rfl ?_
          refine aw_V1 (M' := mX3_isCargo) dX3_toldClashes_59 rfl lkX3_121 gX3_isCargo rfl rfl (Nat.le_of_ble_eq_true rfl) (sX3_isCargo hc h9 ?_)
          show AW _ mX3_toldClashes 62 _ (_ :: _) _ _
          refine aw_if_eqb (tgt := 86) dX3_toldClashes_62 rfl rfl (fun c62 => ?_) (fun c62 => ?_)
          · skip
            refine aw_iinc dX3_toldClashes_86 rfl rfl (ii_1 _) (by decide) ?_
            show AW _ mX3_toldClashes 89 [_, _, _, _, _] _ _ _
            refine aw_goto (q := 12) dX3_toldClashes_89 rfl ?_
            refine AW.conv (AW.forget (nx_12 ?_) (ls := [some (.inr (0, 0)), some (.inl (nI i)), some (.inl (nI (j + 1))), some (.inl (σ 5 0 i)), some (.inl (σ 5 0 j))]) (fun n v h => by
              match n, h with
              | 0, h => exact h
              | 1, h => exact h
              | 2, h => exact h
              | 3, h => cases h
              | 4, h => cases h
              | n + 5, h => simp at h)) (by first | (simp only [nI_succ j]; done) | (simp only [nI_succ j]; rfl)) rfl rfl
            rw [anyB_s, hanyj, Bool.false_or]
            rw [kB, okT_9 hPl (show j < n by omega) c62]; simp
          · skip
            refine aw_aload_n dX3_toldClashes_65 rfl rfl ?_
            refine aw_getR dX3_toldClashes_66 rfl rfl rfl (by decide) flX3_17 ?_
            refine aw_iload_n dX3_toldClashes_69 rfl rfl ?_
            refine aw_aald dX3_toldClashes_70 rfl rfl (by decide) (ixn_in c53 hc) ?_
            try simp only [hci]
            try simp only [hcj]
            refine aw_aload_n dX3_toldClashes_71 rfl rfl ?_
            refine aw_getR dX3_toldClashes_72 rfl rfl rfl (by decide) flX3_17 ?_
            refine aw_iload dX3_toldClashes_75 rfl rfl ?_
            refine aw_aald dX3_toldClashes_77 rfl rfl (by decide) (ixn_in c62 hc) ?_
            try simp only [hci]
            try simp only [hcj]
            refine aw_S2 (M' := mX3_clash) dX3_toldClashes_78 rfl lkX3_220 gX3_clash (Nat.le_of_ble_eq_true rfl) (sX3_clash (vp_lt (ixn_in c53 hc)) (vp_lt (ixn_in c62 hc)) hLiq ?_)
            show AW _ mX3_toldClashes 81 _ (_ :: _) _ _
            refine aw_if_eqB (tgt := 86) dX3_toldClashes_81 rfl rfl (fun c81 => ?_) (fun c81 => ?_)
            · skip
              refine aw_iinc dX3_toldClashes_86 rfl rfl (ii_1 _) (by decide) ?_
              show AW _ mX3_toldClashes 89 [_, _, _, _, _] _ _ _
              refine aw_goto (q := 12) dX3_toldClashes_89 rfl ?_
              refine AW.conv (AW.forget (nx_12 ?_) (ls := [some (.inr (0, 0)), some (.inl (nI i)), some (.inl (nI (j + 1))), some (.inl (σ 5 0 i)), some (.inl (σ 5 0 j))]) (fun n v h => by
                match n, h with
                | 0, h => exact h
                | 1, h => exact h
                | 2, h => exact h
                | 3, h => cases h
                | 4, h => cases h
                | n + 5, h => simp at h)) (by first | (simp only [nI_succ j]; done) | (simp only [nI_succ j]; rfl)) rfl rfl
              rw [anyB_s, hanyj, Bool.false_or]
              rw [kB, show clB (vw σ) (ci (σ 5 0 i)) (ci (σ 5 0 j)) = false from c81]; simp
            · skip
              refine aw_iconst 1 dX3_toldClashes_84 rfl (by decide) ?_
              refine aw_ret dX3_toldClashes_85 rfl (by decide) ?_
              refine kk_c hK ?_ rfl
              rw [anyB_t hi_2 (p := kA (vw σ) (σ 5 0)) (anyB_t hi_12 (p := kB (vw σ) (σ 5 0) i) (by rw [kB, show hb ((vw σ) 32 0 i) (nI j) = true from c45, decide_eq_true (ixn_9 c53), decide_eq_true (ixn_9 c62), show clB (vw σ) (ci (σ 5 0 i)) (ci (σ 5 0 j)) = true from c81]; rfl))]
              rfl
set_option maxRecDepth 4000 in
theorem sX3_toldTanks {d : Nat} {σ : SS} {K : ax_K} {n : Nat} (hn : n ≤ 6) (h0 : σ 0 0 7 = nI n) (hK : K (some (usS (σ 5 0) n)) σ) : AW d mX3_toldTanks 0 (ax_en mX3_toldTanks [.inr (0, 0)]) [] σ K := by
  show AW _ mX3_toldTanks 0 [_, _, _] _ _ _
  refine aw_iconst 0 dX3_toldTanks_0 rfl (by decide) ?_
  refine aw_istore_n dX3_toldTanks_1 rfl (by decide) ?_
  show AW _ mX3_toldTanks 2 [_, _, _] _ _ _
  refine aw_iconst 0 dX3_toldTanks_2 rfl (by decide) ?_
  refine aw_istore_n dX3_toldTanks_3 rfl (by decide) ?_
  show AW _ mX3_toldTanks 4 [_, _, _] _ _ _
  refine AW.conv (ax_loop (P := fun i => AW d mX3_toldTanks 4 [some (.inr (0, 0)), some (.inl (usS (σ 5 0) i)), some (.inl (nI i))] [] σ K) n ?_ ?_ 0 (Nat.zero_le _)) (by first | (simp only [nI_0]; done) | (simp only [nI_0]; rfl)) rfl rfl
  · try dsimp only
    refine aw_iload_n dX3_toldTanks_4 rfl rfl ?_
    refine aw_aload_n dX3_toldTanks_5 rfl rfl ?_
    refine aw_getI dX3_toldTanks_6 rfl rfl rfl flX3_41 ?_
    refine aw_icmp_ge (tgt := 32) dX3_toldTanks_9 rfl rfl (fun _ => ?_) (fun z => absurd (by rw [h0]; exact Int32.le_refl _) z)
    refine aw_iload_n dX3_toldTanks_32 rfl rfl ?_
    refine aw_ret dX3_toldTanks_33 rfl rfl ?_
    exact hK
  · intro i hi_4 nx_4
    try dsimp only at nx_4 ⊢
    have hci : (nI i).toNatClampNeg = i := nI_clamp (by omega)
    refine aw_iload_n dX3_toldTanks_4 rfl rfl ?_
    refine aw_aload_n dX3_toldTanks_5 rfl rfl ?_
    refine aw_getI dX3_toldTanks_6 rfl rfl rfl flX3_41 ?_
    refine aw_icmp_ge (tgt := 32) dX3_toldTanks_9 rfl rfl (fun z => absurd z (by rw [h0]; exact nI_ge hi_4 (by omega))) (fun _ => ?_)
    refine aw_aload_n dX3_toldTanks_12 rfl rfl ?_
    refine aw_getR dX3_toldTanks_13 rfl rfl rfl (by decide) flX3_32 ?_
    refine aw_iload_n dX3_toldTanks_16 rfl rfl ?_
    refine aw_iald dX3_toldTanks_17 rfl rfl (by first | exact vp_in_nI (by omega) (by omega) | exact vp_in_iff.mpr (by decide)) ?_
    try simp only [hci]
    refine aw_bipush (-9) dX3_toldTanks_18 rfl (by decide) ?_
    refine aw_icmp_eq (tgt := 26) dX3_toldTanks_20 rfl rfl (fun c20 => ?_) (fun c20 => ?_)
    · skip
      refine aw_iinc dX3_toldTanks_26 rfl rfl (ii_1 _) (by decide) ?_
      show AW _ mX3_toldTanks 29 [_, _, _] _ _ _
      refine aw_goto (q := 4) dX3_toldTanks_29 rfl ?_
      refine AW.conv nx_4 ?_ rfl rfl
      simp only [nI_succ, usS_s]
      simp [c20]
    · skip
      refine aw_iinc dX3_toldTanks_23 rfl rfl (ii_1 _) (by decide) ?_
      show AW _ mX3_toldTanks 26 [_, _, _] _ _ _
      refine aw_iinc dX3_toldTanks_26 rfl rfl (ii_1 _) (by decide) ?_
      show AW _ mX3_toldTanks 29 [_, _, _] _ _ _
      refine aw_goto (q := 4) dX3_toldTanks_29 rfl ?_
      refine AW.conv nx_4 ?_ rfl rfl
      simp only [nI_succ, usS_s]
      simp [c20]
set_option maxRecDepth 4000 in
theorem sX3_toldCost {d : Nat} {σ : SS} {K : ax_K} {n cn : Nat} (hn : n ≤ 6) (h0 : σ 0 0 7 = nI n) (hc : cn ≤ 4) (h9 : σ 0 0 8 = nI cn) (hPl : okT n cn (σ 5 0)) (hLat : ∀ t k, t < 6 → k < 3 → lt9 (σ 9 t k)) (hLiq : ∀ c, c < 4 → ∃ j, j < 8 ∧ σ 10 c 0 = nI j) (hK : K (some (coS (vw σ) (σ 5 0) n)) σ) : AW (d + 3) mX3_toldCost 0 (ax_en mX3_toldCost [.inr (0, 0)]) [] σ K := by
  show AW _ mX3_toldCost 0 [_, _, _, _] _ _ _
  refine aw_iconst 0 dX3_toldCost_0 rfl (by decide) ?_
  refine aw_istore_n dX3_toldCost_1 rfl (by decide) ?_
  show AW _ mX3_toldCost 2 [_, _, _, _] _ _ _
  refine aw_iconst 0 dX3_toldCost_2 rfl (by decide) ?_
  refine aw_istore_n dX3_toldCost_3 rfl (by decide) ?_
  show AW _ mX3_toldCost 4 [_, _, _, _] _ _ _
  refine AW.conv (ax_loop (P := fun i => AW (d + 3) mX3_toldCost 4 [some (.inr (0, 0)), some (.inl (coS (vw σ) (σ 5 0) i)), some (.inl (nI i)), none] [] σ K) n ?_ ?_ 0 (Nat.zero_le _)) (by first | (simp only [nI_0]; done) | (simp only [nI_0]; rfl)) rfl rfl
  · try dsimp only
    refine aw_iload_n dX3_toldCost_4 rfl rfl ?_
    refine aw_aload_n dX3_toldCost_5 rfl rfl ?_
    refine aw_getI dX3_toldCost_6 rfl rfl rfl flX3_41 ?_
    refine aw_icmp_ge (tgt := 52) dX3_toldCost_9 rfl rfl (fun _ => ?_) (fun z => absurd (by rw [h0]; exact Int32.le_refl _) z)
    refine aw_iload_n dX3_toldCost_52 rfl rfl ?_
    refine aw_ret dX3_toldCost_53 rfl rfl ?_
    exact hK
  · intro i hi_4 nx_4
    try dsimp only at nx_4 ⊢
    have hci : (nI i).toNatClampNeg = i := nI_clamp (by omega)
    refine aw_iload_n dX3_toldCost_4 rfl rfl ?_
    refine aw_aload_n dX3_toldCost_5 rfl rfl ?_
    refine aw_getI dX3_toldCost_6 rfl rfl rfl flX3_41 ?_
    refine aw_icmp_ge (tgt := 52) dX3_toldCost_9 rfl rfl (fun z => absurd z (by rw [h0]; exact nI_ge hi_4 (by omega))) (fun _ => ?_)
    refine aw_aload_n dX3_toldCost_12 rfl rfl ?_
    refine aw_getR dX3_toldCost_13 rfl rfl rfl (by decide) flX3_32 ?_
    refine aw_iload_n dX3_toldCost_16 rfl rfl ?_
    refine aw_iald dX3_toldCost_17 rfl rfl (by first | exact vp_in_nI (by omega) (by omega) | exact vp_in_iff.mpr (by decide)) ?_
    try simp only [hci]
    refine aw_istore_n dX3_toldCost_18 rfl (by decide) ?_
    show AW _ mX3_toldCost 19 [_, _, _, _] _ _ _
    refine aw_aload_n dX3_toldCost_19 rfl rfl ?_
    refine aw_iload_n dX3_toldCost_20 rfl rfl ?_
    refine aw_V1 (M' := mX3_isCargo) dX3_toldCost_21 rfl lkX3_121 gX3_isCargo rfl rfl (Nat.le_of_ble_eq_true rfl) (sX3_isCargo hc h9 ?_)
    show AW _ mX3_toldCost 24 _ (_ :: _) _ _
    refine aw_if_eqb (tgt := 46) dX3_toldCost_24 rfl rfl (fun c24 => ?_) (fun c24 => ?_)
    · skip
      refine aw_iinc dX3_toldCost_46 rfl rfl (ii_1 _) (by decide) ?_
      show AW _ mX3_toldCost 49 [_, _, _, _] _ _ _
      refine aw_goto (q := 4) dX3_toldCost_49 rfl ?_
      refine AW.conv (AW.forget nx_4 (ls := [some (.inr (0, 0)), some (.inl (coS (vw σ) (σ 5 0) (i + 1))), some (.inl (nI (i + 1))), some (.inl (σ 5 0 i))]) (fun n v h => by
        match n, h with
        | 0, h => exact h
        | 1, h => exact h
        | 2, h => exact h
        | 3, h => cases h
        | n + 4, h => simp at h)) ?_ rfl rfl
      rw [coS_s, if_pos (okT_9 hPl hi_4 c24), nI_succ i]
    · skip
      refine aw_iload_n dX3_toldCost_27 rfl rfl ?_
      refine aw_aload_n dX3_toldCost_28 rfl rfl ?_
      refine aw_aload_n dX3_toldCost_29 rfl rfl ?_
      refine aw_getR dX3_toldCost_30 rfl rfl rfl (by decide) flX3_11 ?_
      refine aw_iload_n dX3_toldCost_33 rfl rfl ?_
      refine aw_aald dX3_toldCost_34 rfl rfl (by decide) (by first | exact (show vp_in _ 6 from vp_in_nI (by omega) (by omega)) | exact (show vp_in _ 4 from vp_in_nI (by omega) (by omega))) ?_
      try simp only [hci]
      refine aw_aload_n dX3_toldCost_35 rfl rfl ?_
      refine aw_getR dX3_toldCost_36 rfl rfl rfl (by decide) flX3_17 ?_
      refine aw_iload_n dX3_toldCost_39 rfl rfl ?_
      refine aw_aald dX3_toldCost_40 rfl rfl (by decide) (ixn_in c24 hc) ?_
      try simp only [hci]
      refine aw_V2 (M' := mX3_washesNeeded) dX3_toldCost_41 rfl lkX3_137 gX3_washesNeeded rfl rfl (Nat.le_of_ble_eq_true rfl) (sX3_washesNeeded (by omega) (vp_lt (ixn_in c24 hc)) hLat hLiq ?_)
      show AW _ mX3_toldCost 44 _ (_ :: _) _ _
      refine aw_iadd dX3_toldCost_44 rfl ?_
      refine aw_istore_n dX3_toldCost_45 rfl (by decide) ?_
      show AW _ mX3_toldCost 46 [_, _, _, _] _ _ _
      refine aw_iinc dX3_toldCost_46 rfl rfl (ii_1 _) (by decide) ?_
      show AW _ mX3_toldCost 49 [_, _, _, _] _ _ _
      refine aw_goto (q := 4) dX3_toldCost_49 rfl ?_
      refine AW.conv (AW.forget nx_4 (ls := [some (.inr (0, 0)), some (.inl (coS (vw σ) (σ 5 0) (i + 1))), some (.inl (nI (i + 1))), some (.inl (σ 5 0 i))]) (fun n v h => by
        match n, h with
        | 0, h => exact h
        | 1, h => exact h
        | 2, h => exact h
        | 3, h => cases h
        | n + 4, h => simp at h)) ?_ rfl rfl
      rw [coS_s, if_neg (ixn_9 c24), nI_succ i]
set_option maxRecDepth 4000 in
theorem sX3_amountsOf {d : Nat} {σ : SS} {K : ax_K} {v : Int32} {cn : Nat} (hc : cn ≤ 4) (h9 : σ 0 0 8 = nI cn) (hK : K (some (amS (vw σ) v cn)) σ) : AW (d + 1) mX3_amountsOf 0 (ax_en mX3_amountsOf [.inr (0, 0), .inl v]) [] σ K := by
  show AW _ mX3_amountsOf 0 [_, _, _, _] _ _ _
  refine aw_iconst 0 dX3_amountsOf_0 rfl (by decide) ?_
  refine aw_istore_n dX3_amountsOf_1 rfl (by decide) ?_
  show AW _ mX3_amountsOf 2 [_, _, _, _] _ _ _
  refine aw_iconst 0 dX3_amountsOf_2 rfl (by decide) ?_
  refine aw_istore_n dX3_amountsOf_3 rfl (by decide) ?_
  show AW _ mX3_amountsOf 4 [_, _, _, _] _ _ _
  refine AW.conv (ax_loop (P := fun i => AW (d + 1) mX3_amountsOf 4 [some (.inr (0, 0)), some (.inl v), some (.inl (amS (vw σ) v i)), some (.inl (nI i))] [] σ K) cn ?_ ?_ 0 (Nat.zero_le _)) (by first | (simp only [nI_0]; done) | (simp only [nI_0]; rfl)) rfl rfl
  · try dsimp only
    refine aw_iload_n dX3_amountsOf_4 rfl rfl ?_
    refine aw_aload_n dX3_amountsOf_5 rfl rfl ?_
    refine aw_getI dX3_amountsOf_6 rfl rfl rfl flX3_45 ?_
    refine aw_icmp_ge (tgt := 38) dX3_amountsOf_9 rfl rfl (fun _ => ?_) (fun z => absurd (by rw [h9]; exact Int32.le_refl _) z)
    refine aw_iload_n dX3_amountsOf_38 rfl rfl ?_
    refine aw_ret dX3_amountsOf_39 rfl rfl ?_
    exact hK
  · intro i hi_4 nx_4
    try dsimp only at nx_4 ⊢
    have hci : (nI i).toNatClampNeg = i := nI_clamp (by omega)
    refine aw_iload_n dX3_amountsOf_4 rfl rfl ?_
    refine aw_aload_n dX3_amountsOf_5 rfl rfl ?_
    refine aw_getI dX3_amountsOf_6 rfl rfl rfl flX3_45 ?_
    refine aw_icmp_ge (tgt := 38) dX3_amountsOf_9 rfl rfl (fun z => absurd z (by rw [h9]; exact nI_ge hi_4 (by omega))) (fun _ => ?_)
    refine aw_iload_n dX3_amountsOf_12 rfl rfl ?_
    refine aw_iload_n dX3_amountsOf_13 rfl rfl ?_
    refine aw_S2 (M' := mX3_has) dX3_amountsOf_14 rfl lkX3_80 gX3_has (Nat.le_of_ble_eq_true rfl) (sX3_has ?_)
    rw [hc_nI _ (by omega)]
    show AW _ mX3_amountsOf 17 _ (_ :: _) _ _
    refine aw_if_eqB (tgt := 32) dX3_amountsOf_17 rfl rfl (fun c17 => ?_) (fun c17 => ?_)
    · skip
      refine aw_iinc dX3_amountsOf_32 rfl rfl (ii_1 _) (by decide) ?_
      show AW _ mX3_amountsOf 35 [_, _, _, _] _ _ _
      refine aw_goto (q := 4) dX3_amountsOf_35 rfl ?_
      refine AW.conv nx_4 ?_ rfl rfl
      rw [amS_s, if_neg (by rw [c17]; decide), nI_succ i]
    · skip
      refine aw_iload_n dX3_amountsOf_20 rfl rfl ?_
      refine aw_aload_n dX3_amountsOf_21 rfl rfl ?_
      refine aw_getR dX3_amountsOf_22 rfl rfl rfl (by decide) flX3_17 ?_
      refine aw_iload_n dX3_amountsOf_25 rfl rfl ?_
      refine aw_aald dX3_amountsOf_26 rfl rfl (by decide) (by first | exact (show vp_in _ 6 from vp_in_nI (by omega) (by omega)) | exact (show vp_in _ 4 from vp_in_nI (by omega) (by omega))) ?_
      try simp only [hci]
      refine aw_getI dX3_amountsOf_27 rfl rfl rfl flX3_102 ?_
      refine aw_iadd dX3_amountsOf_30 rfl ?_
      refine aw_istore_n dX3_amountsOf_31 rfl (by decide) ?_
      show AW _ mX3_amountsOf 32 [_, _, _, _] _ _ _
      refine aw_iinc dX3_amountsOf_32 rfl rfl (ii_1 _) (by decide) ?_
      show AW _ mX3_amountsOf 35 [_, _, _, _] _ _ _
      refine aw_goto (q := 4) dX3_amountsOf_35 rfl ?_
      refine AW.conv nx_4 ?_ rfl rfl
      rw [amS_s, if_pos c17, nI_succ i]
      rfl
set_option maxRecDepth 4000 in
theorem sJ6_bitCount_0f7a4 {d : Nat} {σ : SS} {K : ax_K} {s : Nat} (hs16 : s < 16) (hK : K (some (nI (pc4 s))) σ) : AW d mJ6_bitCount_0f7a4 0 (ax_en mJ6_bitCount_0f7a4 [.inl (nI s)]) [] σ K := by
  show AW _ mJ6_bitCount_0f7a4 0 [_] _ _ _
  refine aw_iload_n dJ6_bitCount_0f7a4_0 rfl rfl ?_
  refine aw_iload_n dJ6_bitCount_0f7a4_1 rfl rfl ?_
  refine aw_iconst 1 dJ6_bitCount_0f7a4_2 rfl (by decide) ?_
  refine aw_iushr dJ6_bitCount_0f7a4_3 rfl ?_
  refine aw_ldc_w dJ6_bitCount_0f7a4_4 rfl kcJ6_265 ?_
  refine aw_iand dJ6_bitCount_0f7a4_7 rfl ?_
  refine aw_isub dJ6_bitCount_0f7a4_8 rfl ?_
  refine aw_istore_n dJ6_bitCount_0f7a4_9 rfl (by decide) ?_
  show AW _ mJ6_bitCount_0f7a4 10 [_] _ _ _
  refine aw_iload_n dJ6_bitCount_0f7a4_10 rfl rfl ?_
  refine aw_ldc_w dJ6_bitCount_0f7a4_11 rfl kcJ6_266 ?_
  refine aw_iand dJ6_bitCount_0f7a4_14 rfl ?_
  refine aw_iload_n dJ6_bitCount_0f7a4_15 rfl rfl ?_
  refine aw_iconst 2 dJ6_bitCount_0f7a4_16 rfl (by decide) ?_
  refine aw_iushr dJ6_bitCount_0f7a4_17 rfl ?_
  refine aw_ldc_w dJ6_bitCount_0f7a4_18 rfl kcJ6_266 ?_
  refine aw_iand dJ6_bitCount_0f7a4_21 rfl ?_
  refine aw_iadd dJ6_bitCount_0f7a4_22 rfl ?_
  refine aw_istore_n dJ6_bitCount_0f7a4_23 rfl (by decide) ?_
  show AW _ mJ6_bitCount_0f7a4 24 [_] _ _ _
  refine aw_iload_n dJ6_bitCount_0f7a4_24 rfl rfl ?_
  refine aw_iload_n dJ6_bitCount_0f7a4_25 rfl rfl ?_
  refine aw_iconst 4 dJ6_bitCount_0f7a4_26 rfl (by decide) ?_
  refine aw_iushr dJ6_bitCount_0f7a4_27 rfl ?_
  refine aw_iadd dJ6_bitCount_0f7a4_28 rfl ?_
  refine aw_ldc_w dJ6_bitCount_0f7a4_29 rfl kcJ6_267 ?_
  refine aw_iand dJ6_bitCount_0f7a4_32 rfl ?_
  refine aw_istore_n dJ6_bitCount_0f7a4_33 rfl (by decide) ?_
  show AW _ mJ6_bitCount_0f7a4 34 [_] _ _ _
  refine aw_iload_n dJ6_bitCount_0f7a4_34 rfl rfl ?_
  refine aw_iload_n dJ6_bitCount_0f7a4_35 rfl rfl ?_
  refine aw_bipush 8 dJ6_bitCount_0f7a4_36 rfl (by decide) ?_
  refine aw_iushr dJ6_bitCount_0f7a4_38 rfl ?_
  refine aw_iadd dJ6_bitCount_0f7a4_39 rfl ?_
  refine aw_istore_n dJ6_bitCount_0f7a4_40 rfl (by decide) ?_
  show AW _ mJ6_bitCount_0f7a4 41 [_] _ _ _
  refine aw_iload_n dJ6_bitCount_0f7a4_41 rfl rfl ?_
  refine aw_iload_n dJ6_bitCount_0f7a4_42 rfl rfl ?_
  refine aw_bipush 16 dJ6_bitCount_0f7a4_43 rfl (by decide) ?_
  refine aw_iushr dJ6_bitCount_0f7a4_45 rfl ?_
  refine aw_iadd dJ6_bitCount_0f7a4_46 rfl ?_
  refine aw_istore_n dJ6_bitCount_0f7a4_47 rfl (by decide) ?_
  show AW _ mJ6_bitCount_0f7a4 48 [_] _ _ _
  refine aw_iload_n dJ6_bitCount_0f7a4_48 rfl rfl ?_
  refine aw_bipush 63 dJ6_bitCount_0f7a4_49 rfl (by decide) ?_
  refine aw_iand dJ6_bitCount_0f7a4_51 rfl ?_
  refine aw_ret dJ6_bitCount_0f7a4_52 rfl rfl ?_
  refine kk_c hK ?_ rfl
  clear hK
  revert s
  decide
set_option maxRecDepth 4000 in
theorem sX3_mayComeInto {d : Nat} {σ : SS} {K : ax_K} {b c n cn : Nat} (hn : n ≤ 6) (h0 : σ 0 0 7 = nI n) (hc : cn ≤ 4) (h9 : σ 0 0 8 = nI cn) (hbn : b < n) (hcc4 : c < 4) (hH : okT n cn (fun t => σ 8 t 5)) (hCoat : ∀ t, t < 6 → 0 ≤ σ 8 t 1) (hLat : ∀ t k, t < 6 → k < 3 → lt9 (σ 9 t k)) (hLiq : ∀ c, c < 4 → ∃ j, j < 8 ∧ σ 10 c 0 = nI j) (hK : K (some (bB (decide (σ 8 b 5 = -9) && (decide (whyS (vw σ) b c = 0) && !anyB n (tB (vw σ) b (nI c)))))) σ) : AW (d + 2) mX3_mayComeInto 0 (ax_en mX3_mayComeInto [.inr (0, 0), .inr (8, b), .inr (10, c)]) [] σ K := by
  have hcc : (nI c).toNatClampNeg = c := nI_clamp (by omega)
  show AW _ mX3_mayComeInto 0 [_, _, _, _, _] _ _ _
  refine aw_aload_n dX3_mayComeInto_0 rfl rfl ?_
  refine aw_getI dX3_mayComeInto_1 rfl rfl rfl flX3_124 ?_
  refine aw_bipush (-9) dX3_mayComeInto_4 rfl (by decide) ?_
  refine aw_icmp_ne (tgt := 18) dX3_mayComeInto_6 rfl rfl (fun c6 => ?_) (fun c6 => ?_)
  · skip
    refine aw_iconst 0 dX3_mayComeInto_18 rfl (by decide) ?_
    refine aw_ret dX3_mayComeInto_19 rfl (by decide) ?_
    exact kk_c hK (by rw [decide_eq_false c6]; rfl) rfl
  · skip
    refine aw_aload_n dX3_mayComeInto_9 rfl rfl ?_
    refine aw_aload_n dX3_mayComeInto_10 rfl rfl ?_
    refine aw_aload_n dX3_mayComeInto_11 rfl rfl ?_
    refine aw_V2 (M' := mX3_faults) dX3_mayComeInto_12 rfl lkX3_141 gX3_faults rfl rfl (Nat.le_of_ble_eq_true rfl) (sX3_faults (by omega) (hCoat _ (by omega)) hLat ?_)
    show AW _ mX3_mayComeInto 15 _ (_ :: _) _ _
    refine aw_if_eq (tgt := 20) dX3_mayComeInto_15 rfl rfl (fun c15 => ?_) (fun c15 => ?_)
    · skip
      refine aw_iconst 0 dX3_mayComeInto_20 rfl (by decide) ?_
      refine aw_istore_n dX3_mayComeInto_21 rfl (by decide) ?_
      show AW _ mX3_mayComeInto 22 [_, _, _, _, _] _ _ _
      refine AW.conv (ax_loop (P := fun i => anyB i (tB (vw σ) b (nI c)) = false → AW (d + 2) mX3_mayComeInto 22 [some (.inr (0, 0)), some (.inr (8, b)), some (.inr (10, c)), some (.inl (nI i)), none] [] σ K) n ?_ ?_ 0 (Nat.zero_le _) rfl) (by first | (simp only [nI_0]; done) | (simp only [nI_0]; rfl)) rfl rfl
      · try dsimp only
        intro hany
        refine aw_iload_n dX3_mayComeInto_22 rfl rfl ?_
        refine aw_aload_n dX3_mayComeInto_23 rfl rfl ?_
        refine aw_getI dX3_mayComeInto_24 rfl rfl rfl flX3_41 ?_
        refine aw_icmp_ge (tgt := 83) dX3_mayComeInto_27 rfl rfl (fun _ => ?_) (fun z => absurd (by rw [h0]; exact Int32.le_refl _) z)
        refine aw_iconst 1 dX3_mayComeInto_83 rfl (by decide) ?_
        refine aw_ret dX3_mayComeInto_84 rfl (by decide) ?_
        exact kk_c hK (by rw [decide_eq_true c6, decide_eq_true c15, hany]; rfl) rfl
      · intro i hi_22 nx_22
        try dsimp only at nx_22 ⊢
        intro hany
        have hci : (nI i).toNatClampNeg = i := nI_clamp (by omega)
        refine aw_iload_n dX3_mayComeInto_22 rfl rfl ?_
        refine aw_aload_n dX3_mayComeInto_23 rfl rfl ?_
        refine aw_getI dX3_mayComeInto_24 rfl rfl rfl flX3_41 ?_
        refine aw_icmp_ge (tgt := 83) dX3_mayComeInto_27 rfl rfl (fun z => absurd z (by rw [h0]; exact nI_ge hi_22 (by omega))) (fun _ => ?_)
        refine aw_aload_n dX3_mayComeInto_30 rfl rfl ?_
        refine aw_getR dX3_mayComeInto_31 rfl rfl rfl (by decide) flX3_11 ?_
        refine aw_iload_n dX3_mayComeInto_34 rfl rfl ?_
        refine aw_aald dX3_mayComeInto_35 rfl rfl (by decide) (by first | exact (show vp_in _ 6 from vp_in_nI (by omega) (by omega)) | exact (show vp_in _ 4 from vp_in_nI (by omega) (by omega))) ?_
        try simp only [hci]
        refine aw_getI dX3_mayComeInto_36 rfl rfl rfl flX3_124 ?_
        refine aw_istore dX3_mayComeInto_39 rfl (by decide) ?_
        show AW _ mX3_mayComeInto 41 [_, _, _, _, _] _ _ _
        refine aw_aload_n dX3_mayComeInto_41 rfl rfl ?_
        refine aw_getI dX3_mayComeInto_42 rfl rfl rfl flX3_77 ?_
        refine aw_iload_n dX3_mayComeInto_45 rfl rfl ?_
        refine aw_S2 (M' := mX3_has) dX3_mayComeInto_46 rfl lkX3_80 gX3_has (Nat.le_of_ble_eq_true rfl) (sX3_has ?_)
        rw [hc_nI _ (by omega)]
        show AW _ mX3_mayComeInto 49 _ (_ :: _) _ _
        refine aw_if_eqB (tgt := 77) dX3_mayComeInto_49 rfl rfl (fun c49 => ?_) (fun c49 => ?_)
        · skip
          refine aw_iinc dX3_mayComeInto_77 rfl rfl (ii_1 _) (by decide) ?_
          show AW _ mX3_mayComeInto 80 [_, _, _, _, _] _ _ _
          refine aw_goto (q := 22) dX3_mayComeInto_80 rfl ?_
          refine AW.conv (AW.forget (nx_22 ?_) (ls := [some (.inr (0, 0)), some (.inr (8, b)), some (.inr (10, c)), some (.inl (nI (i + 1))), some (.inl (σ 8 i 5))]) (fun n v h => by
            match n, h with
            | 0, h => exact h
            | 1, h => exact h
            | 2, h => exact h
            | 3, h => exact h
            | 4, h => cases h
            | n + 5, h => simp at h)) (by first | (simp only [nI_succ i]; done) | (simp only [nI_succ i]; rfl)) rfl rfl
          rw [anyB_s, hany, Bool.false_or]
          rw [tB, show hb ((vw σ) 32 0 b) (nI i) = false from c49, Bool.false_and]
        · skip
          refine aw_aload_n dX3_mayComeInto_52 rfl rfl ?_
          refine aw_iload dX3_mayComeInto_53 rfl rfl ?_
          refine aw_V1 (M' := mX3_isCargo) dX3_mayComeInto_55 rfl lkX3_121 gX3_isCargo rfl rfl (Nat.le_of_ble_eq_true rfl) (sX3_isCargo hc h9 ?_)
          show AW _ mX3_mayComeInto 58 _ (_ :: _) _ _
          refine aw_if_eqb (tgt := 77) dX3_mayComeInto_58 rfl rfl (fun c58 => ?_) (fun c58 => ?_)
          · skip
            refine aw_iinc dX3_mayComeInto_77 rfl rfl (ii_1 _) (by decide) ?_
            show AW _ mX3_mayComeInto 80 [_, _, _, _, _] _ _ _
            refine aw_goto (q := 22) dX3_mayComeInto_80 rfl ?_
            refine AW.conv (AW.forget (nx_22 ?_) (ls := [some (.inr (0, 0)), some (.inr (8, b)), some (.inr (10, c)), some (.inl (nI (i + 1))), some (.inl (σ 8 i 5))]) (fun n v h => by
              match n, h with
              | 0, h => exact h
              | 1, h => exact h
              | 2, h => exact h
              | 3, h => exact h
              | 4, h => cases h
              | n + 5, h => simp at h)) (by first | (simp only [nI_succ i]; done) | (simp only [nI_succ i]; rfl)) rfl rfl
            rw [anyB_s, hany, Bool.false_or]
            rw [tB, show (vw σ) 35 0 i = -9 from okT_9 hH hi_22 c58]; simp
          · skip
            refine aw_aload_n dX3_mayComeInto_61 rfl rfl ?_
            refine aw_aload_n dX3_mayComeInto_62 rfl rfl ?_
            refine aw_getR dX3_mayComeInto_63 rfl rfl rfl (by decide) flX3_17 ?_
            refine aw_iload dX3_mayComeInto_66 rfl rfl ?_
            refine aw_aald dX3_mayComeInto_68 rfl rfl (by decide) (ixn_in c58 hc) ?_
            try simp only [hci]
            refine aw_S2 (M' := mX3_clash) dX3_mayComeInto_69 rfl lkX3_220 gX3_clash (Nat.le_of_ble_eq_true rfl) (sX3_clash hcc4 (vp_lt (ixn_in c58 hc)) hLiq ?_)
            show AW _ mX3_mayComeInto 72 _ (_ :: _) _ _
            refine aw_if_eqB (tgt := 77) dX3_mayComeInto_72 rfl rfl (fun c72 => ?_) (fun c72 => ?_)
            · skip
              refine aw_iinc dX3_mayComeInto_77 rfl rfl (ii_1 _) (by decide) ?_
              show AW _ mX3_mayComeInto 80 [_, _, _, _, _] _ _ _
              refine aw_goto (q := 22) dX3_mayComeInto_80 rfl ?_
              refine AW.conv (AW.forget (nx_22 ?_) (ls := [some (.inr (0, 0)), some (.inr (8, b)), some (.inr (10, c)), some (.inl (nI (i + 1))), some (.inl (σ 8 i 5))]) (fun n v h => by
                match n, h with
                | 0, h => exact h
                | 1, h => exact h
                | 2, h => exact h
                | 3, h => exact h
                | 4, h => cases h
                | n + 5, h => simp at h)) (by first | (simp only [nI_succ i]; done) | (simp only [nI_succ i]; rfl)) rfl rfl
              rw [anyB_s, hany, Bool.false_or]
              rw [tB, clB_comm, ci, hcc, show clB (vw σ) c (ci ((vw σ) 35 0 i)) = false from c72]; simp
            · skip
              refine aw_iconst 0 dX3_mayComeInto_75 rfl (by decide) ?_
              refine aw_ret dX3_mayComeInto_76 rfl (by decide) ?_
              refine kk_c hK ?_ rfl
              rw [anyB_t hi_22 (p := tB (vw σ) b (nI c)) (by rw [tB, clB_comm, ci, hcc, show hb ((vw σ) 32 0 b) (nI i) = true from c49, decide_eq_true (show (vw σ) 35 0 i ≠ -9 from ixn_9 c58), show clB (vw σ) c (ci ((vw σ) 35 0 i)) = true from c72]; rfl)]
              simp [bB]
    · skip
      refine aw_iconst 0 dX3_mayComeInto_18 rfl (by decide) ?_
      refine aw_ret dX3_mayComeInto_19 rfl (by decide) ?_
      exact kk_c hK (by rw [decide_eq_false c15]; simp [bB]) rfl
