set_option maxRecDepth 4000 in
theorem sX4_fills {d : Nat} {σ : SS} {K : ax_K} {n cn : Nat} (hn : n ≤ 6) (h0 : σ 28 0 0 = nI n) (hc : cn ≤ 4) (h9 : σ 28 0 9 = nI cn) (hK : K none (rp σ 45 0 (fun t => if t < n then fl (σ 29 0) (σ 38 0) (σ 44 0) cn t else σ 45 0 t))) : AW d mX4_fills 0 (ax_en mX4_fills [.inr (28, 0)]) [] σ K := by
  show AW _ mX4_fills 0 [_, _, _, _] _ _ _
  refine aw_iconst 0 dX4_fills_0 rfl (by decide) ?_
  refine aw_istore_n dX4_fills_1 rfl (by decide) ?_
  show AW _ mX4_fills 2 [_, _, _, _] _ _ _
  refine AW.conv (ax_loop (P := fun i => AW d mX4_fills 2 [some (.inr (28, 0)), some (.inl (nI i)), none, none] [] (rp σ 45 0 (fun t => if t < i then 0 else σ 45 0 t)) K) n ?_ ?_ 0 (Nat.zero_le _)) (by first | (simp only [nI_0]; done) | (simp only [nI_0]; rfl)) rfl (by rw [up_0 (fun _ => 0), rp_self])
  · try dsimp only
    refine aw_iload_n dX4_fills_2 rfl rfl ?_
    refine aw_aload_n dX4_fills_3 rfl rfl ?_
    refine aw_getI dX4_fills_4 rfl rfl rfl flX4_75 ?_
    refine aw_icmp_ge (tgt := 23) dX4_fills_7 rfl rfl (fun _ => ?_) (fun z => absurd (by rw [rp_nk (by decide), h0]; exact Int32.le_refl _) z)
    refine aw_iconst 0 dX4_fills_23 rfl (by decide) ?_
    refine aw_istore_n dX4_fills_24 rfl (by decide) ?_
    show AW _ mX4_fills 25 [_, _, _, _] _ _ _
    refine AW.conv (ax_loop (P := fun i => AW d mX4_fills 25 [some (.inr (28, 0)), some (.inl (nI i)), none, none] [] (rp σ 45 0 (fun t => if t < n then fl (σ 29 0) (σ 38 0) (σ 44 0) i t else σ 45 0 t)) K) cn ?_ ?_ 0 (Nat.zero_le _)) (by rw [nI_0]) rfl (by simp only [fl_0])
    · try dsimp only
      refine aw_iload_n dX4_fills_25 rfl rfl ?_
      refine aw_aload_n dX4_fills_26 rfl rfl ?_
      refine aw_getI dX4_fills_27 rfl rfl rfl flX4_92 ?_
      refine aw_icmp_ge (tgt := 107) dX4_fills_30 rfl rfl (fun _ => ?_) (fun z => absurd (by rw [rp_nk (by decide), h9]; exact Int32.le_refl _) z)
      refine aw_vret dX4_fills_107 rfl ?_
      exact hK
    · intro i hi_25 nx_25
      try dsimp only at nx_25 ⊢
      have hci : (nI i).toNatClampNeg = i := nI_clamp (by omega)
      refine aw_iload_n dX4_fills_25 rfl rfl ?_
      refine aw_aload_n dX4_fills_26 rfl rfl ?_
      refine aw_getI dX4_fills_27 rfl rfl rfl flX4_92 ?_
      refine aw_icmp_ge (tgt := 107) dX4_fills_30 rfl rfl (fun z => absurd z (by rw [rp_nk (by decide), h9]; exact nI_ge hi_25 (by omega))) (fun _ => ?_)
      refine aw_aload_n dX4_fills_33 rfl rfl ?_
      refine aw_getR dX4_fills_34 rfl rfl rfl (by decide) flX4_37 ?_
      refine aw_iload_n dX4_fills_37 rfl rfl ?_
      refine aw_iald dX4_fills_38 rfl rfl (by first | exact vp_in_nI (by omega) (by omega) | decide) ?_
      try simp only [hci]
      try simp only [hcj]
      try simp only [rp_nk (show ¬ 44 = 45 by decide)]
      try simp only [rp_nk (show ¬ 29 = 45 by decide)]
      try simp only [rp_nk (show ¬ 38 = 45 by decide)]
      refine aw_istore_n dX4_fills_39 rfl (by decide) ?_
      show AW _ mX4_fills 40 [_, _, _, _] _ _ _
      refine aw_iconst 0 dX4_fills_40 rfl (by decide) ?_
      refine aw_istore_n dX4_fills_41 rfl (by decide) ?_
      show AW _ mX4_fills 42 [_, _, _, _] _ _ _
      refine AW.conv (ax_loop (P := fun j => AW d mX4_fills 42 [some (.inr (28, 0)), some (.inl (nI i)), some (.inl (lfI (σ 29 0) (σ 44 0) (σ 38 0 i) (nI i) j)), some (.inl (nI j))] [] (rp σ 45 0 (frow (σ 29 0) (σ 38 0) (σ 44 0) (σ 45 0) n i j)) K) n ?_ ?_ 0 (Nat.zero_le _)) (by simp only [nI_0, lfI, lp_0]) rfl (by rw [frow_0])
      · try dsimp only
        refine aw_iload_n dX4_fills_42 rfl rfl ?_
        refine aw_aload_n dX4_fills_43 rfl rfl ?_
        refine aw_getI dX4_fills_44 rfl rfl rfl flX4_75 ?_
        refine aw_icmp_ge (tgt := 101) dX4_fills_47 rfl rfl (fun _ => ?_) (fun z => absurd (by rw [rp_nk (by decide), h0]; exact Int32.le_refl _) z)
        refine aw_iinc dX4_fills_101 rfl rfl (ii_1 _) (by decide) ?_
        show AW _ mX4_fills 104 [_, _, _, _] _ _ _
        refine aw_goto (q := 25) dX4_fills_104 rfl ?_
        refine AW.conv (AW.forget nx_25 (ls := [some (.inr (28, 0)), some (.inl (nI (i + 1))), some (.inl (lfI (σ 29 0) (σ 44 0) (σ 38 0 i) (nI i) n)), some (.inl (nI n))]) (fun n v h => by
          match n, h with
          | 0, h => exact h
          | 1, h => exact h
          | 2, h => cases h
          | 3, h => cases h
          | n + 4, h => simp at h)) (by first | (simp only [nI_succ]; done) | (simp only [nI_succ]; rfl)) rfl ?_
        rw [frow_n]
      · intro j hi_42 nx_42
        try dsimp only at nx_42 ⊢
        have hcj : (nI j).toNatClampNeg = j := nI_clamp (by omega)
        refine aw_iload_n dX4_fills_42 rfl rfl ?_
        refine aw_aload_n dX4_fills_43 rfl rfl ?_
        refine aw_getI dX4_fills_44 rfl rfl rfl flX4_75 ?_
        refine aw_icmp_ge (tgt := 101) dX4_fills_47 rfl rfl (fun z => absurd z (by rw [rp_nk (by decide), h0]; exact nI_ge hi_42 (by omega))) (fun _ => ?_)
        refine aw_aload_n dX4_fills_50 rfl rfl ?_
        refine aw_getR dX4_fills_51 rfl rfl rfl (by decide) flX4_59 ?_
        refine aw_iload_n dX4_fills_54 rfl rfl ?_
        refine aw_iald dX4_fills_55 rfl rfl (by first | exact vp_in_nI (by omega) (by omega) | decide) ?_
        try simp only [hci]
        try simp only [hcj]
        try simp only [rp_nk (show ¬ 44 = 45 by decide)]
        try simp only [rp_nk (show ¬ 29 = 45 by decide)]
        try simp only [rp_nk (show ¬ 38 = 45 by decide)]
        refine aw_iload_n dX4_fills_56 rfl rfl ?_
        refine aw_icmp_ne (tgt := 95) dX4_fills_57 rfl rfl (fun c57 => ?_) (fun c57 => ?_)
        · skip
          refine aw_iinc dX4_fills_95 rfl rfl (ii_1 _) (by decide) ?_
          show AW _ mX4_fills 98 [_, _, _, _] _ _ _
          refine aw_goto (q := 42) dX4_fills_98 rfl ?_
          refine AW.conv nx_42 ?_ rfl ?_
          · simp only [nI_succ, lfI_s, rp_nk, rp_at, rp_rp, pk_us, ne_eq, Nat.reduceEqDiff, not_false_eq_true]
            simp [c57]
          · rw [frow_ne c57 (by omega)]
        · skip
          refine aw_aload_n dX4_fills_60 rfl rfl ?_
          refine aw_getR dX4_fills_61 rfl rfl rfl (by decide) flX4_62 ?_
          refine aw_iload_n dX4_fills_64 rfl rfl ?_
          refine aw_iload_n dX4_fills_65 rfl rfl ?_
          refine aw_aload_n dX4_fills_66 rfl rfl ?_
          refine aw_getR dX4_fills_67 rfl rfl rfl (by decide) flX4_7 ?_
          refine aw_iload_n dX4_fills_70 rfl rfl ?_
          refine aw_iald dX4_fills_71 rfl rfl (by first | exact vp_in_nI (by omega) (by omega) | decide) ?_
          try simp only [hci]
          try simp only [hcj]
          try simp only [rp_nk (show ¬ 44 = 45 by decide)]
          try simp only [rp_nk (show ¬ 29 = 45 by decide)]
          try simp only [rp_nk (show ¬ 38 = 45 by decide)]
          refine aw_icmp_ge (tgt := 79) dX4_fills_72 rfl rfl (fun c72 => ?_) (fun c72 => ?_)
          · skip
            replace c72 := Int32.not_lt.mpr c72
            refine aw_aload_n dX4_fills_79 rfl rfl ?_
            refine aw_getR dX4_fills_80 rfl rfl rfl (by decide) flX4_7 ?_
            refine aw_iload_n dX4_fills_83 rfl rfl ?_
            refine aw_iald dX4_fills_84 rfl rfl (by first | exact vp_in_nI (by omega) (by omega) | decide) ?_
            try simp only [hci]
            try simp only [hcj]
            try simp only [rp_nk (show ¬ 44 = 45 by decide)]
            try simp only [rp_nk (show ¬ 29 = 45 by decide)]
            try simp only [rp_nk (show ¬ 38 = 45 by decide)]
            refine aw_iast dX4_fills_85 rfl rfl (by first | exact vp_in_nI (by omega) (by omega) | decide) ?_
            try simp only [hci]
            try simp only [hcj]
            try simp only [rp_nk (show ¬ 44 = 45 by decide)]
            try simp only [rp_nk (show ¬ 29 = 45 by decide)]
            try simp only [rp_nk (show ¬ 38 = 45 by decide)]
            refine aw_iload_n dX4_fills_86 rfl rfl ?_
            refine aw_aload_n dX4_fills_87 rfl rfl ?_
            refine aw_getR dX4_fills_88 rfl rfl rfl (by decide) flX4_62 ?_
            refine aw_iload_n dX4_fills_91 rfl rfl ?_
            refine aw_iald dX4_fills_92 rfl rfl (by first | exact vp_in_nI (by omega) (by omega) | decide) ?_
            try simp only [hci]
            try simp only [hcj]
            try simp only [rp_nk (show ¬ 44 = 45 by decide)]
            try simp only [rp_nk (show ¬ 29 = 45 by decide)]
            try simp only [rp_nk (show ¬ 38 = 45 by decide)]
            refine aw_isub dX4_fills_93 rfl ?_
            refine aw_istore_n dX4_fills_94 rfl (by decide) ?_
            show AW _ mX4_fills 95 [_, _, _, _] _ _ _
            refine aw_iinc dX4_fills_95 rfl rfl (ii_1 _) (by decide) ?_
            show AW _ mX4_fills 98 [_, _, _, _] _ _ _
            refine aw_goto (q := 42) dX4_fills_98 rfl ?_
            refine AW.conv nx_42 ?_ rfl ?_
            · simp only [nI_succ, lfI_s, rp_nk, rp_at, rp_rp, pk_us, ne_eq, Nat.reduceEqDiff, not_false_eq_true]
              simp [c57, mn, c72]
            · simp only [rp_nk, rp_at, rp_rp, pk_us, ne_eq, Nat.reduceEqDiff, not_false_eq_true]
              rw [← frow_up c57 hi_42 (by omega)]
              simp [mn, c72]
          · skip
            replace c72 := Int32.not_le.mp c72
            refine aw_iload_n dX4_fills_75 rfl rfl ?_
            refine aw_goto (q := 85) dX4_fills_76 rfl ?_
            refine aw_iast dX4_fills_85 rfl rfl (by first | exact vp_in_nI (by omega) (by omega) | decide) ?_
            try simp only [hci]
            try simp only [hcj]
            try simp only [rp_nk (show ¬ 44 = 45 by decide)]
            try simp only [rp_nk (show ¬ 29 = 45 by decide)]
            try simp only [rp_nk (show ¬ 38 = 45 by decide)]
            refine aw_iload_n dX4_fills_86 rfl rfl ?_
            refine aw_aload_n dX4_fills_87 rfl rfl ?_
            refine aw_getR dX4_fills_88 rfl rfl rfl (by decide) flX4_62 ?_
            refine aw_iload_n dX4_fills_91 rfl rfl ?_
            refine aw_iald dX4_fills_92 rfl rfl (by first | exact vp_in_nI (by omega) (by omega) | decide) ?_
            try simp only [hci]
            try simp only [hcj]
            try simp only [rp_nk (show ¬ 44 = 45 by decide)]
            try simp only [rp_nk (show ¬ 29 = 45 by decide)]
            try simp only [rp_nk (show ¬ 38 = 45 by decide)]
            refine aw_isub dX4_fills_93 rfl ?_
            refine aw_istore_n dX4_fills_94 rfl (by decide) ?_
            show AW _ mX4_fills 95 [_, _, _, _] _ _ _
            refine aw_iinc dX4_fills_95 rfl rfl (ii_1 _) (by decide) ?_
            show AW _ mX4_fills 98 [_, _, _, _] _ _ _
            refine aw_goto (q := 42) dX4_fills_98 rfl ?_
            refine AW.conv nx_42 ?_ rfl ?_
            · simp only [nI_succ, lfI_s, rp_nk, rp_at, rp_rp, pk_us, ne_eq, Nat.reduceEqDiff, not_false_eq_true]
              simp [c57, mn, c72]
            · simp only [rp_nk, rp_at, rp_rp, pk_us, ne_eq, Nat.reduceEqDiff, not_false_eq_true]
              rw [← frow_up c57 hi_42 (by omega)]
              simp [mn, c72]
  · intro i hi_2 nx_2
    try dsimp only at nx_2 ⊢
    have hci : (nI i).toNatClampNeg = i := nI_clamp (by omega)
    refine aw_iload_n dX4_fills_2 rfl rfl ?_
    refine aw_aload_n dX4_fills_3 rfl rfl ?_
    refine aw_getI dX4_fills_4 rfl rfl rfl flX4_75 ?_
    refine aw_icmp_ge (tgt := 23) dX4_fills_7 rfl rfl (fun z => absurd z (by rw [rp_nk (by decide), h0]; exact nI_ge hi_2 (by omega))) (fun _ => ?_)
    refine aw_aload_n dX4_fills_10 rfl rfl ?_
    refine aw_getR dX4_fills_11 rfl rfl rfl (by decide) flX4_62 ?_
    refine aw_iload_n dX4_fills_14 rfl rfl ?_
    refine aw_iconst 0 dX4_fills_15 rfl (by decide) ?_
    refine aw_iast dX4_fills_16 rfl rfl (by first | exact vp_in_nI (by omega) (by omega) | decide) ?_
    try simp only [hci]
    try simp only [hcj]
    try simp only [rp_nk (show ¬ 44 = 45 by decide)]
    try simp only [rp_nk (show ¬ 29 = 45 by decide)]
    try simp only [rp_nk (show ¬ 38 = 45 by decide)]
    refine aw_iinc dX4_fills_17 rfl rfl (ii_1 _) (by decide) ?_
    show AW _ mX4_fills 20 [_, _, _, _] _ _ _
    refine aw_goto (q := 2) dX4_fills_20 rfl ?_
    refine AW.conv nx_2 (by first | (simp only [nI_succ]; done) | (simp only [nI_succ]; rfl)) rfl ?_
    simp only [rp_nk, rp_at, rp_rp, pk_us, ne_eq, Nat.reduceEqDiff, not_false_eq_true, hci]
    exact congrArg (rp σ 45 0) (up_lt (fun _ => 0) (σ 45 0) i)
set_option maxRecDepth 4000 in
theorem sX4_sizeOf_l {d : Nat} {σ : SS} {K : ax_K} {v : Int32} : ∀ (m : Nat), m < 16 → ∀ (a : Nat), K (some (nI (a + pc4 m))) σ → AW d mX4_sizeOf 4 [some (.inl v), some (.inl (nI a)), some (.inl (nI m))] [] σ K := by
  intro m
  induction m using Nat.strongRecOn with
  | _ m ih =>
  intro hm a hK
  show AW _ mX4_sizeOf 4 [_, _, _] _ _ _
  refine aw_iload_n dX4_sizeOf_4 rfl rfl ?_
  refine aw_if_le (tgt := 21) dX4_sizeOf_5 rfl rfl (fun c5 => ?_) (fun c5 => ?_)
  · skip
    refine aw_iload_n dX4_sizeOf_21 rfl rfl ?_
    refine aw_ret dX4_sizeOf_22 rfl rfl ?_
    have h0 : m = 0 := by
      rcases Nat.eq_zero_or_pos m with h | h
      · exact h
      · exact absurd c5 (nI_nle h (by omega))
    subst h0
    exact hK
  · skip
    refine aw_iload_n dX4_sizeOf_8 rfl rfl ?_
    refine aw_iload_n dX4_sizeOf_9 rfl rfl ?_
    refine aw_iconst 1 dX4_sizeOf_10 rfl (by decide) ?_
    refine aw_iand dX4_sizeOf_11 rfl ?_
    refine aw_iadd dX4_sizeOf_12 rfl ?_
    refine aw_istore_n dX4_sizeOf_13 rfl (by decide) ?_
    show AW _ mX4_sizeOf 14 [_, _, _] _ _ _
    refine aw_iload_n dX4_sizeOf_14 rfl rfl ?_
    refine aw_iconst 1 dX4_sizeOf_15 rfl (by decide) ?_
    refine aw_ishr dX4_sizeOf_16 rfl ?_
    refine aw_istore_n dX4_sizeOf_17 rfl (by decide) ?_
    show AW _ mX4_sizeOf 18 [_, _, _] _ _ _
    refine aw_goto (q := 4) dX4_sizeOf_18 rfl ?_
    rw [an1 m hm, sr1 m hm, nI_add]
    have h0 : m ≠ 0 := fun z => c5 (by rw [z]; decide)
    exact ih (m / 2) (by omega) (by omega) (a + m % 2) (by rw [Nat.add_assoc, ← pc4_s m hm]; exact hK)
set_option maxRecDepth 4000 in
theorem sX4_sizeOf {d : Nat} {σ : SS} {K : ax_K} {m : Nat} (hm : m < 16) (hK : K (some (nI (pc4 m))) σ) : AW d mX4_sizeOf 0 (ax_en mX4_sizeOf [.inl (nI m)]) [] σ K := by
  show AW _ mX4_sizeOf 0 [_, _, _] _ _ _
  refine aw_iconst 0 dX4_sizeOf_0 rfl (by decide) ?_
  refine aw_istore_n dX4_sizeOf_1 rfl (by decide) ?_
  show AW _ mX4_sizeOf 2 [_, _, _] _ _ _
  refine aw_iload_n dX4_sizeOf_2 rfl rfl ?_
  refine aw_istore_n dX4_sizeOf_3 rfl (by decide) ?_
  show AW _ mX4_sizeOf 4 [_, _, _] _ _ _
  exact AW.conv (sX4_sizeOf_l m hm 0 (by rw [Nat.zero_add]; exact hK)) (by rw [nI_0]) rfl rfl
set_option maxRecDepth 4000 in
theorem sX4_isBetter {d : Nat} {σ : SS} {K : ax_K} {s t cn : Nat} (hc : cn ≤ 4) (h9 : σ 28 0 9 = nI cn) (hs16 : s < 16) (ht16 : t < 16) (hK : K (some (bB (btB σ cn s t))) σ) : AW (d + 2) mX4_isBetter 0 (ax_en mX4_isBetter [.inr (28, 0), .inl (nI s), .inl (nI t)]) [] σ K := by
  show AW _ mX4_isBetter 0 [_, _, _, _] _ _ _
  refine aw_aload_n dX4_isBetter_0 rfl rfl ?_
  refine aw_iload_n dX4_isBetter_1 rfl rfl ?_
  refine aw_V1 (M' := mX4_amountsOf) dX4_isBetter_2 rfl lkX4_183 gX4_amountsOf rfl rfl (Nat.le_of_ble_eq_true rfl) (sX4_amountsOf hc h9 ?_)
  show AW _ mX4_isBetter 5 _ (_ :: _) _ _
  refine aw_aload_n dX4_isBetter_5 rfl rfl ?_
  refine aw_iload_n dX4_isBetter_6 rfl rfl ?_
  refine aw_V1 (M' := mX4_amountsOf) dX4_isBetter_7 rfl lkX4_183 gX4_amountsOf rfl rfl (Nat.le_of_ble_eq_true rfl) (sX4_amountsOf hc h9 ?_)
  show AW _ mX4_isBetter 10 _ (_ :: _) _ _
  refine aw_isub dX4_isBetter_10 rfl ?_
  refine aw_istore_n dX4_isBetter_11 rfl (by decide) ?_
  show AW _ mX4_isBetter 12 [_, _, _, _] _ _ _
  refine aw_iload_n dX4_isBetter_12 rfl rfl ?_
  refine aw_if_gt (tgt := 31) dX4_isBetter_13 rfl rfl (fun c13 => ?_) (fun c13 => ?_)
  · skip
    try replace c28 := Int32.not_le.mp c28
    refine aw_iconst 1 dX4_isBetter_31 rfl (by decide) ?_
    refine aw_goto (q := 36) dX4_isBetter_32 rfl ?_
    refine aw_ret dX4_isBetter_36 rfl (by decide) ?_
    exact kk_c hK (by simp [btB, bB, c13]) rfl
  · skip
    refine aw_iload_n dX4_isBetter_16 rfl rfl ?_
    refine aw_if_ne (tgt := 35) dX4_isBetter_17 rfl rfl (fun c17 => ?_) (fun c17 => ?_)
    · skip
      try replace c28 := Int32.not_lt.mpr c28
      refine aw_iconst 0 dX4_isBetter_35 rfl (by decide) ?_
      refine aw_ret dX4_isBetter_36 rfl (by decide) ?_
      exact kk_c hK (by simp [btB, bB, c13, c17]) rfl
    · skip
      refine aw_iload_n dX4_isBetter_20 rfl rfl ?_
      refine aw_S1 (M' := mX4_sizeOf) dX4_isBetter_21 rfl lkX4_186 gX4_sizeOf (Nat.le_of_ble_eq_true rfl) (sX4_sizeOf (by omega) ?_)
      show AW _ mX4_isBetter 24 _ (_ :: _) _ _
      refine aw_iload_n dX4_isBetter_24 rfl rfl ?_
      refine aw_S1 (M' := mX4_sizeOf) dX4_isBetter_25 rfl lkX4_186 gX4_sizeOf (Nat.le_of_ble_eq_true rfl) (sX4_sizeOf (by omega) ?_)
      show AW _ mX4_isBetter 28 _ (_ :: _) _ _
      refine aw_icmp_ge (tgt := 35) dX4_isBetter_28 rfl rfl (fun c28 => ?_) (fun c28 => ?_)
      · skip
        try replace c28 := Int32.not_lt.mpr c28
        refine aw_iconst 0 dX4_isBetter_35 rfl (by decide) ?_
        refine aw_ret dX4_isBetter_36 rfl (by decide) ?_
        exact kk_c hK (by simp [btB, bB, c13, c17, c28]) rfl
      · skip
        try replace c28 := Int32.not_le.mp c28
        refine aw_iconst 1 dX4_isBetter_31 rfl (by decide) ?_
        refine aw_goto (q := 36) dX4_isBetter_32 rfl ?_
        refine aw_ret dX4_isBetter_36 rfl (by decide) ?_
        exact kk_c hK (by simp [btB, bB, c13, c17, c28]) rfl
set_option maxRecDepth 4000 in
theorem sX4_empties {d : Nat} {σ : SS} {K : ax_K} {a : Nat} (ha : a < 6) (hh : vp_in (σ 35 0 a) 4) (hK : K none (rp (rp (rp σ 33 0 (latUp (σ 33 0) a (σ 37 0 (ci (σ 35 0 a))))) 35 0 (upd (σ 35 0) a (-9))) 36 0 (upd (σ 36 0) a 0))) : AW d mX4_empties 0 (ax_en mX4_empties [.inr (28, 0), .inl (nI a)]) [] σ K := by
  have hca : (nI a).toNatClampNeg = a := nI_clamp (by omega)
  have hc0 : (nI (3 * a)).toNatClampNeg = 3 * a := nI_clamp (by omega)
  have hc1 : (nI (3 * a + 1)).toNatClampNeg = 3 * a + 1 := nI_clamp (by omega)
  have hc2 : (nI (3 * a + 2)).toNatClampNeg = 3 * a + 2 := nI_clamp (by omega)
  have e1 : 3 * nI a + 1 = nI (3 * a + 1) := by rw [ix30, nI_succ]
  have e2 : 3 * nI a + 2 = nI (3 * a + 2) := by rw [ix30, show (2 : Int32) = nI 2 by decide, nI_add]
  show AW _ mX4_empties 0 [_, _] _ _ _
  refine aw_aload_n dX4_empties_0 rfl rfl ?_
  refine aw_getR dX4_empties_1 rfl rfl rfl (by decide) flX4_22 ?_
  refine aw_iconst 3 dX4_empties_4 rfl (by decide) ?_
  refine aw_iload_n dX4_empties_5 rfl rfl ?_
  refine aw_imul dX4_empties_6 rfl ?_
  refine aw_iconst 2 dX4_empties_7 rfl (by decide) ?_
  refine aw_iadd dX4_empties_8 rfl ?_
  rw [e2]
  refine aw_aload_n dX4_empties_9 rfl rfl ?_
  refine aw_getR dX4_empties_10 rfl rfl rfl (by decide) flX4_22 ?_
  refine aw_iconst 3 dX4_empties_13 rfl (by decide) ?_
  refine aw_iload_n dX4_empties_14 rfl rfl ?_
  refine aw_imul dX4_empties_15 rfl ?_
  refine aw_iconst 1 dX4_empties_16 rfl (by decide) ?_
  refine aw_iadd dX4_empties_17 rfl ?_
  rw [e1]
  refine aw_iald dX4_empties_18 rfl rfl (by first | exact vp_in_nI (by omega) (by omega) | decide) ?_
  refine aw_iast dX4_empties_19 rfl rfl (by first | exact vp_in_nI (by omega) (by omega) | decide) ?_
  refine aw_aload_n dX4_empties_20 rfl rfl ?_
  refine aw_getR dX4_empties_21 rfl rfl rfl (by decide) flX4_22 ?_
  refine aw_iconst 3 dX4_empties_24 rfl (by decide) ?_
  refine aw_iload_n dX4_empties_25 rfl rfl ?_
  refine aw_imul dX4_empties_26 rfl ?_
  refine aw_iconst 1 dX4_empties_27 rfl (by decide) ?_
  refine aw_iadd dX4_empties_28 rfl ?_
  rw [e1]
  refine aw_aload_n dX4_empties_29 rfl rfl ?_
  refine aw_getR dX4_empties_30 rfl rfl rfl (by decide) flX4_22 ?_
  refine aw_iconst 3 dX4_empties_33 rfl (by decide) ?_
  refine aw_iload_n dX4_empties_34 rfl rfl ?_
  refine aw_imul dX4_empties_35 rfl ?_
  rw [ix30]
  refine aw_iald dX4_empties_36 rfl rfl (by first | exact vp_in_nI (by omega) (by omega) | decide) ?_
  refine aw_iast dX4_empties_37 rfl rfl (by first | exact vp_in_nI (by omega) (by omega) | decide) ?_
  refine aw_aload_n dX4_empties_38 rfl rfl ?_
  refine aw_getR dX4_empties_39 rfl rfl rfl (by decide) flX4_22 ?_
  refine aw_iconst 3 dX4_empties_42 rfl (by decide) ?_
  refine aw_iload_n dX4_empties_43 rfl rfl ?_
  refine aw_imul dX4_empties_44 rfl ?_
  rw [ix30]
  refine aw_aload_n dX4_empties_45 rfl rfl ?_
  refine aw_getR dX4_empties_46 rfl rfl rfl (by decide) flX4_34 ?_
  refine aw_aload_n dX4_empties_49 rfl rfl ?_
  refine aw_getR dX4_empties_50 rfl rfl rfl (by decide) flX4_28 ?_
  refine aw_iload_n dX4_empties_53 rfl rfl ?_
  refine aw_iald dX4_empties_54 rfl rfl (by first | exact vp_in_nI (by omega) (by omega) | decide) ?_
  refine aw_iald dX4_empties_55 rfl rfl (by simpa only [rp_nk, ne_eq, Nat.reduceEqDiff, not_false_eq_true, hca] using hh) ?_
  refine aw_iast dX4_empties_56 rfl rfl (by first | exact vp_in_nI (by omega) (by omega) | decide) ?_
  refine aw_aload_n dX4_empties_57 rfl rfl ?_
  refine aw_getR dX4_empties_58 rfl rfl rfl (by decide) flX4_28 ?_
  refine aw_iload_n dX4_empties_61 rfl rfl ?_
  refine aw_bipush (-9) dX4_empties_62 rfl (by decide) ?_
  refine aw_iast dX4_empties_64 rfl rfl (by first | exact vp_in_nI (by omega) (by omega) | decide) ?_
  refine aw_aload_n dX4_empties_65 rfl rfl ?_
  refine aw_getR dX4_empties_66 rfl rfl rfl (by decide) flX4_31 ?_
  refine aw_iload_n dX4_empties_69 rfl rfl ?_
  refine aw_iconst 0 dX4_empties_70 rfl (by decide) ?_
  refine aw_iast dX4_empties_71 rfl rfl (by first | exact vp_in_nI (by omega) (by omega) | decide) ?_
  refine aw_vret dX4_empties_72 rfl ?_
  refine kk_c hK rfl ?_
  simp only [rp_nk, rp_at, rp_rp, pk_us, ne_eq, Nat.reduceEqDiff, not_false_eq_true, hca, hc0, hc1, hc2, latUp, ci]
  rw [pk_un (show 3 * a ≠ 3 * a + 2 by omega)]
set_option maxRecDepth 4000 in
theorem sX4_mayTake {d : Nat} {σ : SS} {K : ax_K} {a n cn : Nat} {c : Int32} (hn : n ≤ 6) (h0 : σ 28 0 0 = nI n) (hc : cn ≤ 4) (ha : a < n) (hcv : vp_in c 4) (hH : okT n cn (σ 35 0)) (hK : K (some (bB (decide (whyS σ a (ci c) = 0) && !anyB n (tB σ a c)))) σ) : AW (d + 2) mX4_mayTake 0 (ax_en mX4_mayTake [.inr (28, 0), .inl (nI a), .inl c]) [] σ K := by
  have hca : (nI a).toNatClampNeg = a := nI_clamp (by omega)
  show AW _ mX4_mayTake 0 [_, _, _, _, _] _ _ _
  refine aw_aload_n dX4_mayTake_0 rfl rfl ?_
  refine aw_iload_n dX4_mayTake_1 rfl rfl ?_
  refine aw_iload_n dX4_mayTake_2 rfl rfl ?_
  refine aw_V2 (M' := mX4_whyNot) dX4_mayTake_3 rfl lkX4_108 gX4_whyNot rfl rfl (Nat.le_of_ble_eq_true rfl) (sX4_whyNotI (vp_in_nI (by omega) (by omega)) hcv ?_)
  rw [ci, hca]
  show AW _ mX4_mayTake 6 _ (_ :: _) _ _
  refine aw_if_ne (tgt := 13) dX4_mayTake_6 rfl rfl (fun c6 => ?_) (fun c6 => ?_)
  · skip
    refine aw_iconst 0 dX4_mayTake_13 rfl (by decide) ?_
    refine aw_istore_n dX4_mayTake_14 rfl (by decide) ?_
    show AW _ mX4_mayTake 15 [_, _, _, _, _] _ _ _
    refine aw_iconst 0 dX4_mayTake_15 rfl (by decide) ?_
    refine aw_istore dX4_mayTake_16 rfl (by decide) ?_
    show AW _ mX4_mayTake 18 [_, _, _, _, _] _ _ _
    refine AW.conv (ax_loop (P := fun i => AW (d + 2) mX4_mayTake 18 [some (.inr (28, 0)), some (.inl (nI a)), some (.inl c), some (.inl (bB (decide (whyS σ a (ci c) = 0) && !anyB i (tB σ a c)))), some (.inl (nI i))] [] σ K) n ?_ ?_ 0 (Nat.zero_le _)) (by rw [nI_0, anyB_0]; simp [bB, c6]) rfl rfl
    · try dsimp only
      refine aw_iload dX4_mayTake_18 rfl rfl ?_
      refine aw_aload_n dX4_mayTake_20 rfl rfl ?_
      refine aw_getI dX4_mayTake_21 rfl rfl rfl flX4_75 ?_
      refine aw_icmp_ge (tgt := 84) dX4_mayTake_24 rfl rfl (fun _ => ?_) (fun z => absurd (by rw [h0]; exact Int32.le_refl _) z)
      refine aw_iload_n dX4_mayTake_84 rfl rfl ?_
      refine aw_ret dX4_mayTake_85 rfl (bB_nar _) ?_
      exact hK
    · intro i hi_18 nx_18
      try dsimp only at nx_18 ⊢
      have hci : (nI i).toNatClampNeg = i := nI_clamp (by omega)
      refine aw_iload dX4_mayTake_18 rfl rfl ?_
      refine aw_aload_n dX4_mayTake_20 rfl rfl ?_
      refine aw_getI dX4_mayTake_21 rfl rfl rfl flX4_75 ?_
      refine aw_icmp_ge (tgt := 84) dX4_mayTake_24 rfl rfl (fun z => absurd z (by rw [h0]; exact nI_ge hi_18 (by omega))) (fun _ => ?_)
      refine aw_iload_n dX4_mayTake_27 rfl rfl ?_
      refine aw_if_eqB (tgt := 76) dX4_mayTake_28 rfl rfl (fun c28 => ?_) (fun c28 => ?_)
      · skip
        refine aw_iconst 0 dX4_mayTake_76 rfl (by decide) ?_
        refine aw_istore_n dX4_mayTake_77 rfl (by decide) ?_
        show AW _ mX4_mayTake 78 [_, _, _, _, _] _ _ _
        refine aw_iinc dX4_mayTake_78 rfl rfl (ii_1 _) (by decide) ?_
        show AW _ mX4_mayTake 81 [_, _, _, _, _] _ _ _
        refine aw_goto (q := 18) dX4_mayTake_81 rfl ?_
        refine AW.conv nx_18 ?_ rfl rfl
        simp only [nI_succ, anyB_s, Bool.not_or]
        rw [← Bool.and_assoc]
        simp [bB, tB, c28]
      · skip
        refine aw_aload_n dX4_mayTake_31 rfl rfl ?_
        refine aw_getR dX4_mayTake_32 rfl rfl rfl (by decide) flX4_19 ?_
        refine aw_iload_n dX4_mayTake_35 rfl rfl ?_
        refine aw_iald dX4_mayTake_36 rfl rfl (by first | exact vp_in_nI (by omega) (by omega) | decide) ?_
        try simp only [hci]
        try simp only [hca]
        refine aw_iload dX4_mayTake_37 rfl rfl ?_
        refine aw_S2 (M' := mX4_has) dX4_mayTake_39 rfl lkX4_86 gX4_has (Nat.le_of_ble_eq_true rfl) (sX4_has ?_)
        show AW _ mX4_mayTake 42 _ (_ :: _) _ _
        refine aw_if_eqB (tgt := 72) dX4_mayTake_42 rfl rfl (fun c42 => ?_) (fun c42 => ?_)
        · skip
          refine aw_iconst 1 dX4_mayTake_72 rfl (by decide) ?_
          refine aw_goto (q := 77) dX4_mayTake_73 rfl ?_
          refine aw_istore_n dX4_mayTake_77 rfl (by decide) ?_
          show AW _ mX4_mayTake 78 [_, _, _, _, _] _ _ _
          refine aw_iinc dX4_mayTake_78 rfl rfl (ii_1 _) (by decide) ?_
          show AW _ mX4_mayTake 81 [_, _, _, _, _] _ _ _
          refine aw_goto (q := 18) dX4_mayTake_81 rfl ?_
          refine AW.conv nx_18 ?_ rfl rfl
          simp only [nI_succ, anyB_s, Bool.not_or]
          rw [← Bool.and_assoc]
          simp [bB, tB, c28, c42]
        · skip
          refine aw_aload_n dX4_mayTake_45 rfl rfl ?_
          refine aw_getR dX4_mayTake_46 rfl rfl rfl (by decide) flX4_28 ?_
          refine aw_iload dX4_mayTake_49 rfl rfl ?_
          refine aw_iald dX4_mayTake_51 rfl rfl (by first | exact vp_in_nI (by omega) (by omega) | decide) ?_
          try simp only [hci]
          try simp only [hca]
          refine aw_bipush (-9) dX4_mayTake_52 rfl (by decide) ?_
          refine aw_icmp_eq (tgt := 72) dX4_mayTake_54 rfl rfl (fun c54 => ?_) (fun c54 => ?_)
          · skip
            refine aw_iconst 1 dX4_mayTake_72 rfl (by decide) ?_
            refine aw_goto (q := 77) dX4_mayTake_73 rfl ?_
            refine aw_istore_n dX4_mayTake_77 rfl (by decide) ?_
            show AW _ mX4_mayTake 78 [_, _, _, _, _] _ _ _
            refine aw_iinc dX4_mayTake_78 rfl rfl (ii_1 _) (by decide) ?_
            show AW _ mX4_mayTake 81 [_, _, _, _, _] _ _ _
            refine aw_goto (q := 18) dX4_mayTake_81 rfl ?_
            refine AW.conv nx_18 ?_ rfl rfl
            simp only [nI_succ, anyB_s, Bool.not_or]
            rw [← Bool.and_assoc]
            simp [bB, tB, c28, c42, c54]
          · skip
            refine aw_aload_n dX4_mayTake_57 rfl rfl ?_
            refine aw_aload_n dX4_mayTake_58 rfl rfl ?_
            refine aw_getR dX4_mayTake_59 rfl rfl rfl (by decide) flX4_28 ?_
            refine aw_iload dX4_mayTake_62 rfl rfl ?_
            refine aw_iald dX4_mayTake_64 rfl rfl (by first | exact vp_in_nI (by omega) (by omega) | decide) ?_
            try simp only [hci]
            try simp only [hca]
            refine aw_iload_n dX4_mayTake_65 rfl rfl ?_
            refine aw_V2 (M' := mX4_doClash) dX4_mayTake_66 rfl lkX4_105 gX4_doClash rfl rfl (Nat.le_of_ble_eq_true rfl) (sX4_doClashI (vp_mono ((hH i hi_18).resolve_left c54) hc) hcv ?_)
            show AW _ mX4_mayTake 69 _ (_ :: _) _ _
            refine aw_if_neB (tgt := 76) dX4_mayTake_69 rfl rfl (fun c69 => ?_) (fun c69 => ?_)
            · skip
              refine aw_iconst 0 dX4_mayTake_76 rfl (by decide) ?_
              refine aw_istore_n dX4_mayTake_77 rfl (by decide) ?_
              show AW _ mX4_mayTake 78 [_, _, _, _, _] _ _ _
              refine aw_iinc dX4_mayTake_78 rfl rfl (ii_1 _) (by decide) ?_
              show AW _ mX4_mayTake 81 [_, _, _, _, _] _ _ _
              refine aw_goto (q := 18) dX4_mayTake_81 rfl ?_
              refine AW.conv nx_18 ?_ rfl rfl
              simp only [nI_succ, anyB_s, Bool.not_or]
              rw [← Bool.and_assoc]
              simp [bB, tB, c28, c42, c54, c69]
            · skip
              refine aw_iconst 1 dX4_mayTake_72 rfl (by decide) ?_
              refine aw_goto (q := 77) dX4_mayTake_73 rfl ?_
              refine aw_istore_n dX4_mayTake_77 rfl (by decide) ?_
              show AW _ mX4_mayTake 78 [_, _, _, _, _] _ _ _
              refine aw_iinc dX4_mayTake_78 rfl rfl (ii_1 _) (by decide) ?_
              show AW _ mX4_mayTake 81 [_, _, _, _, _] _ _ _
              refine aw_goto (q := 18) dX4_mayTake_81 rfl ?_
              refine AW.conv nx_18 ?_ rfl rfl
              simp only [nI_succ, anyB_s, Bool.not_or]
              rw [← Bool.and_assoc]
              simp [bB, tB, c28, c42, c54, c69]
  · skip
    refine aw_iconst 1 dX4_mayTake_9 rfl (by decide) ?_
    refine aw_goto (q := 14) dX4_mayTake_10 rfl ?_
    refine aw_istore_n dX4_mayTake_14 rfl (by decide) ?_
    show AW _ mX4_mayTake 15 [_, _, _, _, _] _ _ _
    refine aw_iconst 0 dX4_mayTake_15 rfl (by decide) ?_
    refine aw_istore dX4_mayTake_16 rfl (by decide) ?_
    show AW _ mX4_mayTake 18 [_, _, _, _, _] _ _ _
    refine AW.conv (ax_loop (P := fun i => AW (d + 2) mX4_mayTake 18 [some (.inr (28, 0)), some (.inl (nI a)), some (.inl c), some (.inl (bB (decide (whyS σ a (ci c) = 0) && !anyB i (tB σ a c)))), some (.inl (nI i))] [] σ K) n ?_ ?_ 0 (Nat.zero_le _)) (by rw [nI_0, anyB_0]; simp [bB, c6]) rfl rfl
    · try dsimp only
      refine aw_iload dX4_mayTake_18 rfl rfl ?_
      refine aw_aload_n dX4_mayTake_20 rfl rfl ?_
      refine aw_getI dX4_mayTake_21 rfl rfl rfl flX4_75 ?_
      refine aw_icmp_ge (tgt := 84) dX4_mayTake_24 rfl rfl (fun _ => ?_) (fun z => absurd (by rw [h0]; exact Int32.le_refl _) z)
      refine aw_iload_n dX4_mayTake_84 rfl rfl ?_
      refine aw_ret dX4_mayTake_85 rfl (bB_nar _) ?_
      exact hK
    · intro i hi_18 nx_18
      try dsimp only at nx_18 ⊢
      have hci : (nI i).toNatClampNeg = i := nI_clamp (by omega)
      refine aw_iload dX4_mayTake_18 rfl rfl ?_
      refine aw_aload_n dX4_mayTake_20 rfl rfl ?_
      refine aw_getI dX4_mayTake_21 rfl rfl rfl flX4_75 ?_
      refine aw_icmp_ge (tgt := 84) dX4_mayTake_24 rfl rfl (fun z => absurd z (by rw [h0]; exact nI_ge hi_18 (by omega))) (fun _ => ?_)
      refine aw_iload_n dX4_mayTake_27 rfl rfl ?_
      refine aw_if_eqB (tgt := 76) dX4_mayTake_28 rfl rfl (fun c28 => ?_) (fun c28 => ?_)
      · skip
        refine aw_iconst 0 dX4_mayTake_76 rfl (by decide) ?_
        refine aw_istore_n dX4_mayTake_77 rfl (by decide) ?_
        show AW _ mX4_mayTake 78 [_, _, _, _, _] _ _ _
        refine aw_iinc dX4_mayTake_78 rfl rfl (ii_1 _) (by decide) ?_
        show AW _ mX4_mayTake 81 [_, _, _, _, _] _ _ _
        refine aw_goto (q := 18) dX4_mayTake_81 rfl ?_
        refine AW.conv nx_18 ?_ rfl rfl
        simp only [nI_succ, anyB_s, Bool.not_or]
        rw [← Bool.and_assoc]
        simp [bB, tB, c28]
      · skip
        refine aw_aload_n dX4_mayTake_31 rfl rfl ?_
        refine aw_getR dX4_mayTake_32 rfl rfl rfl (by decide) flX4_19 ?_
        refine aw_iload_n dX4_mayTake_35 rfl rfl ?_
        refine aw_iald dX4_mayTake_36 rfl rfl (by first | exact vp_in_nI (by omega) (by omega) | decide) ?_
        try simp only [hci]
        try simp only [hca]
        refine aw_iload dX4_mayTake_37 rfl rfl ?_
        refine aw_S2 (M' := mX4_has) dX4_mayTake_39 rfl lkX4_86 gX4_has (Nat.le_of_ble_eq_true rfl) (sX4_has ?_)
        show AW _ mX4_mayTake 42 _ (_ :: _) _ _
        refine aw_if_eqB (tgt := 72) dX4_mayTake_42 rfl rfl (fun c42 => ?_) (fun c42 => ?_)
        · skip
          refine aw_iconst 1 dX4_mayTake_72 rfl (by decide) ?_
          refine aw_goto (q := 77) dX4_mayTake_73 rfl ?_
          refine aw_istore_n dX4_mayTake_77 rfl (by decide) ?_
          show AW _ mX4_mayTake 78 [_, _, _, _, _] _ _ _
          refine aw_iinc dX4_mayTake_78 rfl rfl (ii_1 _) (by decide) ?_
          show AW _ mX4_mayTake 81 [_, _, _, _, _] _ _ _
          refine aw_goto (q := 18) dX4_mayTake_81 rfl ?_
          refine AW.conv nx_18 ?_ rfl rfl
          simp only [nI_succ, anyB_s, Bool.not_or]
          rw [← Bool.and_assoc]
          simp [bB, tB, c28, c42]
        · skip
          refine aw_aload_n dX4_mayTake_45 rfl rfl ?_
          refine aw_getR dX4_mayTake_46 rfl rfl rfl (by decide) flX4_28 ?_
          refine aw_iload dX4_mayTake_49 rfl rfl ?_
          refine aw_iald dX4_mayTake_51 rfl rfl (by first | exact vp_in_nI (by omega) (by omega) | decide) ?_
          try simp only [hci]
          try simp only [hca]
          refine aw_bipush (-9) dX4_mayTake_52 rfl (by decide) ?_
          refine aw_icmp_eq (tgt := 72) dX4_mayTake_54 rfl rfl (fun c54 => ?_) (fun c54 => ?_)
          · skip
            refine aw_iconst 1 dX4_mayTake_72 rfl (by decide) ?_
            refine aw_goto (q := 77) dX4_mayTake_73 rfl ?_
            refine aw_istore_n dX4_mayTake_77 rfl (by decide) ?_
            show AW _ mX4_mayTake 78 [_, _, _, _, _] _ _ _
            refine aw_iinc dX4_mayTake_78 rfl rfl (ii_1 _) (by decide) ?_
            show AW _ mX4_mayTake 81 [_, _, _, _, _] _ _ _
            refine aw_goto (q := 18) dX4_mayTake_81 rfl ?_
            refine AW.conv nx_18 ?_ rfl rfl
            simp only [nI_succ, anyB_s, Bool.not_or]
            rw [← Bool.and_assoc]
            simp [bB, tB, c28, c42, c54]
          · skip
            refine aw_aload_n dX4_mayTake_57 rfl rfl ?_
            refine aw_aload_n dX4_mayTake_58 rfl rfl ?_
            refine aw_getR dX4_mayTake_59 rfl rfl rfl (by decide) flX4_28 ?_
            refine aw_iload dX4_mayTake_62 rfl rfl ?_
            refine aw_iald dX4_mayTake_64 rfl rfl (by first | exact vp_in_nI (by omega) (by omega) | decide) ?_
            try simp only [hci]
            try simp only [hca]
            refine aw_iload_n dX4_mayTake_65 rfl rfl ?_
            refine aw_V2 (M' := mX4_doClash) dX4_mayTake_66 rfl lkX4_105 gX4_doClash rfl rfl (Nat.le_of_ble_eq_true rfl) (sX4_doClashI (vp_mono ((hH i hi_18).resolve_left c54) hc) hcv ?_)
            show AW _ mX4_mayTake 69 _ (_ :: _) _ _
            refine aw_if_neB (tgt := 76) dX4_mayTake_69 rfl rfl (fun c69 => ?_) (fun c69 => ?_)
            · skip
              refine aw_iconst 0 dX4_mayTake_76 rfl (by decide) ?_
              refine aw_istore_n dX4_mayTake_77 rfl (by decide) ?_
              show AW _ mX4_mayTake 78 [_, _, _, _, _] _ _ _
              refine aw_iinc dX4_mayTake_78 rfl rfl (ii_1 _) (by decide) ?_
              show AW _ mX4_mayTake 81 [_, _, _, _, _] _ _ _
              refine aw_goto (q := 18) dX4_mayTake_81 rfl ?_
              refine AW.conv nx_18 ?_ rfl rfl
              simp only [nI_succ, anyB_s, Bool.not_or]
              rw [← Bool.and_assoc]
              simp [bB, tB, c28, c42, c54, c69]
            · skip
              refine aw_iconst 1 dX4_mayTake_72 rfl (by decide) ?_
              refine aw_goto (q := 77) dX4_mayTake_73 rfl ?_
              refine aw_istore_n dX4_mayTake_77 rfl (by decide) ?_
              show AW _ mX4_mayTake 78 [_, _, _, _, _] _ _ _
              refine aw_iinc dX4_mayTake_78 rfl rfl (ii_1 _) (by decide) ?_
              show AW _ mX4_mayTake 81 [_, _, _, _, _] _ _ _
              refine aw_goto (q := 18) dX4_mayTake_81 rfl ?_
              refine AW.conv nx_18 ?_ rfl rfl
              simp only [nI_succ, anyB_s, Bool.not_or]
              rw [← Bool.and_assoc]
              simp [bB, tB, c28, c42, c54, c69]
