set_option maxRecDepth 4000 in
theorem sX3_tank {d : Nat} {σ : SS} {K : ax_K} {v c l : Int32} {n : Nat} (hn : n ≤ 6) (h0 : σ 0 0 7 = nI n) (k1 : ¬ tkOK v c l → K (some (-2)) σ) (k2 : tkOK v c l → n = 6 → K (some (-4)) σ) (k3 : tkOK v c l → n < 6 → K (some (nI n)) (rp (rp σ 8 n (upd (upd (upd (σ 8 n) 0 v) 1 c) 2 l)) 0 0 (upd (upd (σ 0 0) 7 (nI (n + 1))) 11 0))) : AW (d + 1) mX3_tank 0 (ax_en mX3_tank [.inr (0, 0), .inl v, .inl c, .inl l]) [] σ K := by
  show AW _ mX3_tank 0 [_, _, _, _, _, _] _ _ _
  refine aw_iload_n dX3_tank_0 rfl rfl ?_
  refine aw_iconst 1 dX3_tank_1 rfl (by decide) ?_
  refine aw_bipush 99 dX3_tank_2 rfl (by decide) ?_
  refine aw_S3 (M' := mX3_within) dX3_tank_4 rfl lkX3_60 gX3_within (Nat.le_of_ble_eq_true rfl) (sX3_within ?_)
  show AW _ mX3_tank 7 _ (_ :: _) _ _
  refine aw_if_eqb (tgt := 30) dX3_tank_7 rfl rfl (fun c7 => ?_) (fun c7 => ?_)
  · skip
    refine aw_bipush (-2) dX3_tank_30 rfl (by decide) ?_
    refine aw_ret dX3_tank_32 rfl rfl ?_
    exact k1 (fun z => by simp_all)
  · skip
    refine aw_iload_n dX3_tank_10 rfl rfl ?_
    refine aw_iconst 0 dX3_tank_11 rfl (by decide) ?_
    refine aw_iconst 3 dX3_tank_12 rfl (by decide) ?_
    refine aw_S3 (M' := mX3_within) dX3_tank_13 rfl lkX3_60 gX3_within (Nat.le_of_ble_eq_true rfl) (sX3_within ?_)
    show AW _ mX3_tank 16 _ (_ :: _) _ _
    refine aw_if_eqb (tgt := 30) dX3_tank_16 rfl rfl (fun c16 => ?_) (fun c16 => ?_)
    · skip
      refine aw_bipush (-2) dX3_tank_30 rfl (by decide) ?_
      refine aw_ret dX3_tank_32 rfl rfl ?_
      exact k1 (fun z => by simp_all)
    · skip
      refine aw_iload_n dX3_tank_19 rfl rfl ?_
      refine aw_bipush (-9) dX3_tank_20 rfl (by decide) ?_
      refine aw_bipush 9 dX3_tank_22 rfl (by decide) ?_
      refine aw_S3 (M' := mX3_within) dX3_tank_24 rfl lkX3_60 gX3_within (Nat.le_of_ble_eq_true rfl) (sX3_within ?_)
      show AW _ mX3_tank 27 _ (_ :: _) _ _
      refine aw_if_neb (tgt := 33) dX3_tank_27 rfl rfl (fun c27 => ?_) (fun c27 => ?_)
      · skip
        refine aw_aload_n dX3_tank_33 rfl rfl ?_
        refine aw_getI dX3_tank_34 rfl rfl rfl flX3_41 ?_
        refine aw_bipush 6 dX3_tank_37 rfl (by decide) ?_
        refine aw_icmp_lt (tgt := 45) dX3_tank_39 rfl rfl (fun c39 => ?_) (fun c39 => ?_)
        · skip
          rw [h0] at c39
          have hn6 : n < 6 := (nI_ltI (by omega) (by decide)).mp c39
          have hcl : (nI n).toNatClampNeg = n := nI_clamp (by omega)
          refine aw_aload_n dX3_tank_45 rfl rfl ?_
          refine aw_getI dX3_tank_46 rfl rfl rfl flX3_41 ?_
          rw [h0]
          refine aw_istore dX3_tank_49 rfl (by decide) ?_
          show AW _ mX3_tank 51 [_, _, _, _, _, _] _ _ _
          refine aw_aload_n dX3_tank_51 rfl rfl ?_
          refine aw_getR dX3_tank_52 rfl rfl rfl (by decide) flX3_11 ?_
          refine aw_iload dX3_tank_55 rfl rfl ?_
          refine aw_aald dX3_tank_57 rfl rfl (by decide) (by first | exact (show vp_in _ 6 from vp_in_nI (by omega) (by omega)) | exact (show vp_in _ 4 from vp_in_nI (by omega) (by omega))) ?_
          try simp only [hcl]
          refine aw_astore dX3_tank_58 rfl (by decide) ?_
          show AW _ mX3_tank 60 [_, _, _, _, _, _] _ _ _
          refine aw_aload dX3_tank_60 rfl rfl ?_
          refine aw_iload_n dX3_tank_62 rfl rfl ?_
          refine aw_putI dX3_tank_63 rfl rfl rfl flX3_64 (pf_2_0 _) ?_
          refine aw_aload dX3_tank_66 rfl rfl ?_
          refine aw_iload_n dX3_tank_68 rfl rfl ?_
          refine aw_putI dX3_tank_69 rfl rfl rfl flX3_67 (pf_2_1 _) ?_
          refine aw_aload dX3_tank_72 rfl rfl ?_
          refine aw_iload_n dX3_tank_74 rfl rfl ?_
          refine aw_putI dX3_tank_75 rfl rfl rfl flX3_70 (pf_2_2 _) ?_
          refine aw_aload_n dX3_tank_78 rfl rfl ?_
          refine aw_iload dX3_tank_79 rfl rfl ?_
          refine aw_iconst 1 dX3_tank_81 rfl (by decide) ?_
          refine aw_iadd dX3_tank_82 rfl ?_
          refine aw_putI dX3_tank_83 rfl rfl rfl flX3_41 (pf_3_7 _) ?_
          refine aw_aload_n dX3_tank_86 rfl rfl ?_
          refine aw_iconst 0 dX3_tank_87 rfl (by decide) ?_
          refine aw_putI dX3_tank_88 rfl rfl rfl flX3_54 pf_3_11_0 ?_
          refine aw_iload dX3_tank_91 rfl rfl ?_
          refine aw_ret dX3_tank_93 rfl rfl ?_
          refine kk_c (k3 ⟨by assumption, by assumption, by assumption⟩ hn6) rfl ?_
          simp only [rp_nk, rp_at, rp_rp, pk_us, ne_eq, Nat.reduceEqDiff, not_false_eq_true, nI_succ]
        · skip
          refine aw_bipush (-4) dX3_tank_42 rfl (by decide) ?_
          refine aw_ret dX3_tank_44 rfl rfl ?_
          rw [h0] at c39
          exact k2 ⟨by assumption, by assumption, by assumption⟩ (by
            rcases Nat.lt_or_ge n 6 with h | h
            · exact absurd (nI_lt h (by decide)) c39
            · omega)
      · skip
        refine aw_bipush (-2) dX3_tank_30 rfl (by decide) ?_
        refine aw_ret dX3_tank_32 rfl rfl ?_
        exact k1 (fun z => by simp_all)
set_option maxRecDepth 4000 in
theorem sX3_neighbours {d : Nat} {σ : SS} {K : ax_K} {i j b3 : Int32} {n : Nat} (hn : n ≤ 6) (h0 : σ 0 0 7 = nI n) (k1 : ¬ (ixn i n ∧ ixn j n ∧ i ≠ j) → K (some (-1)) σ) (k2 : ∀ a b, a < n → b < n → a ≠ b → i = nI a → j = nI b → bB (hb (σ 8 a 3) (nI b)) = b3 → K (some 0) σ) (k3 : ∀ a b, a < n → b < n → a ≠ b → i = nI a → j = nI b → ¬ bB (hb (σ 8 a 3) (nI b)) = b3 → K (some 1) (rp (rp (rp σ 8 a (upd (σ 8 a) 3 (σ 8 a 3 ^^^ bt b))) 8 b (upd (σ 8 b) 3 (σ 8 b 3 ^^^ bt a))) 0 0 (upd (σ 0 0) 11 0))) : AW (d + 2) mX3_neighbours 0 (ax_en mX3_neighbours [.inr (0, 0), .inl i, .inl j, .inl b3]) [] σ K := by
  show AW _ mX3_neighbours 0 [_, _, _, _] _ _ _
  refine aw_aload_n dX3_neighbours_0 rfl rfl ?_
  refine aw_iload_n dX3_neighbours_1 rfl rfl ?_
  refine aw_iload_n dX3_neighbours_2 rfl rfl ?_
  refine aw_V2 (M' := mX3_areTwoTanks) dX3_neighbours_3 rfl lkX3_73 gX3_areTwoTanks rfl rfl (Nat.le_of_ble_eq_true rfl) (sX3_areTwoTanks hn h0 ?_)
  show AW _ mX3_neighbours 6 _ (_ :: _) _ _
  refine aw_if_neb (tgt := 11) dX3_neighbours_6 rfl rfl (fun c6 => ?_) (fun c6 => ?_)
  · skip
    obtain ⟨hi1, hj1, hij⟩ := c6
    obtain ⟨a, ha, rfl⟩ := ixn_of hi1 (by omega)
    obtain ⟨b, hb, rfl⟩ := ixn_of hj1 (by omega)
    have hab : a ≠ b := fun z => hij (by rw [z])
    have hca : (nI a).toNatClampNeg = a := nI_clamp (by omega)
    have hcb : (nI b).toNatClampNeg = b := nI_clamp (by omega)
    refine aw_aload_n dX3_neighbours_11 rfl rfl ?_
    refine aw_getR dX3_neighbours_12 rfl rfl rfl (by decide) flX3_11 ?_
    refine aw_iload_n dX3_neighbours_15 rfl rfl ?_
    refine aw_aald dX3_neighbours_16 rfl rfl (by decide) (by first | exact (show vp_in _ 6 from vp_in_nI (by omega) (by omega)) | exact (show vp_in _ 4 from vp_in_nI (by omega) (by omega))) ?_
    try simp only [hca]
    try simp only [hcb]
    refine aw_getI dX3_neighbours_17 rfl rfl rfl flX3_77 ?_
    refine aw_iload_n dX3_neighbours_20 rfl rfl ?_
    refine aw_S2 (M' := mX3_has) dX3_neighbours_21 rfl lkX3_80 gX3_has (Nat.le_of_ble_eq_true rfl) (sX3_has ?_)
    rw [hc_nI _ (by omega)]
    show AW _ mX3_neighbours 24 _ (_ :: _) _ _
    refine aw_iload_n dX3_neighbours_24 rfl rfl ?_
    refine aw_icmp_ne (tgt := 30) dX3_neighbours_25 rfl rfl (fun c25 => ?_) (fun c25 => ?_)
    · skip
      refine aw_aload_n dX3_neighbours_30 rfl rfl ?_
      refine aw_getR dX3_neighbours_31 rfl rfl rfl (by decide) flX3_11 ?_
      refine aw_iload_n dX3_neighbours_34 rfl rfl ?_
      refine aw_aald dX3_neighbours_35 rfl rfl (by decide) (by first | exact (show vp_in _ 6 from vp_in_nI (by omega) (by omega)) | exact (show vp_in _ 4 from vp_in_nI (by omega) (by omega))) ?_
      try simp only [hca]
      try simp only [hcb]
      refine aw_dup dX3_neighbours_36 rfl ?_
      refine aw_getI dX3_neighbours_37 rfl rfl rfl flX3_77 ?_
      refine aw_iconst 1 dX3_neighbours_40 rfl (by decide) ?_
      refine aw_iload_n dX3_neighbours_41 rfl rfl ?_
      refine aw_ishl dX3_neighbours_42 rfl ?_
      refine aw_ixor dX3_neighbours_43 rfl ?_
      refine aw_putI dX3_neighbours_44 rfl rfl rfl flX3_77 (pf_2_3 _) ?_
      refine aw_aload_n dX3_neighbours_47 rfl rfl ?_
      refine aw_getR dX3_neighbours_48 rfl rfl rfl (by decide) flX3_11 ?_
      refine aw_iload_n dX3_neighbours_51 rfl rfl ?_
      refine aw_aald dX3_neighbours_52 rfl rfl (by decide) (by first | exact (show vp_in _ 6 from vp_in_nI (by omega) (by omega)) | exact (show vp_in _ 4 from vp_in_nI (by omega) (by omega))) ?_
      try simp only [hca]
      try simp only [hcb]
      refine aw_dup dX3_neighbours_53 rfl ?_
      refine aw_getI dX3_neighbours_54 rfl rfl rfl flX3_77 ?_
      refine aw_iconst 1 dX3_neighbours_57 rfl (by decide) ?_
      refine aw_iload_n dX3_neighbours_58 rfl rfl ?_
      refine aw_ishl dX3_neighbours_59 rfl ?_
      refine aw_ixor dX3_neighbours_60 rfl ?_
      refine aw_putI dX3_neighbours_61 rfl rfl rfl flX3_77 (pf_2_3 _) ?_
      refine aw_aload_n dX3_neighbours_64 rfl rfl ?_
      refine aw_iconst 0 dX3_neighbours_65 rfl (by decide) ?_
      refine aw_putI dX3_neighbours_66 rfl rfl rfl flX3_54 pf_3_11_0 ?_
      refine aw_iconst 1 dX3_neighbours_69 rfl (by decide) ?_
      refine aw_ret dX3_neighbours_70 rfl rfl ?_
      refine kk_c (k3 a b ha hb hab rfl rfl c25) rfl ?_
      simp only [rp_ne (show ¬ (8 = 8 ∧ b = a) from fun z => hab z.2.symm), rp_nk, rp_at, rp_rp, pk_us, ne_eq, Nat.reduceEqDiff, not_false_eq_true]
    · skip
      refine aw_iconst 0 dX3_neighbours_28 rfl (by decide) ?_
      refine aw_ret dX3_neighbours_29 rfl rfl ?_
      exact k2 a b ha hb hab rfl rfl c25
  · skip
    refine aw_iconst (-1) dX3_neighbours_9 rfl (by decide) ?_
    refine aw_ret dX3_neighbours_10 rfl rfl ?_
    exact k1 c6
set_option maxRecDepth 4000 in
theorem sX3_latest {d : Nat} {σ : SS} {K : ax_K} {t k l : Int32} {n : Nat} (hn : n ≤ 6) (h0 : σ 0 0 7 = nI n) (k1 : ¬ ixn t n → K (some (-1)) σ) (k2 : ixn t n → ¬ ((0 ≤ k ∧ k ≤ 2) ∧ (l = -9 ∨ lq l)) → K (some (-2)) σ) (k3 : ∀ a b, a < n → b < 3 → t = nI a → k = nI b → (l = -9 ∨ lq l) → K (some (σ 9 a b)) (rp (rp σ 9 a (upd (σ 9 a) b l)) 0 0 (upd (σ 0 0) 11 0))) : AW (d + 2) mX3_latest 0 (ax_en mX3_latest [.inr (0, 0), .inl t, .inl k, .inl l]) [] σ K := by
  show AW _ mX3_latest 0 [_, _, _, _, _] _ _ _
  refine aw_aload_n dX3_latest_0 rfl rfl ?_
  refine aw_iload_n dX3_latest_1 rfl rfl ?_
  refine aw_V1 (M' := mX3_isTank) dX3_latest_2 rfl lkX3_83 gX3_isTank rfl rfl (Nat.le_of_ble_eq_true rfl) (sX3_isTank hn h0 ?_)
  show AW _ mX3_latest 5 _ (_ :: _) _ _
  refine aw_if_neb (tgt := 10) dX3_latest_5 rfl rfl (fun c5 => ?_) (fun c5 => ?_)
  · skip
    refine aw_iload_n dX3_latest_10 rfl rfl ?_
    refine aw_iconst 0 dX3_latest_11 rfl (by decide) ?_
    refine aw_iconst 2 dX3_latest_12 rfl (by decide) ?_
    refine aw_S3 (M' := mX3_within) dX3_latest_13 rfl lkX3_60 gX3_within (Nat.le_of_ble_eq_true rfl) (sX3_within ?_)
    show AW _ mX3_latest 16 _ (_ :: _) _ _
    refine aw_if_eqb (tgt := 32) dX3_latest_16 rfl rfl (fun c16 => ?_) (fun c16 => ?_)
    · skip
      refine aw_bipush (-2) dX3_latest_32 rfl (by decide) ?_
      refine aw_ret dX3_latest_34 rfl rfl ?_
      exact k2 c5 (fun z => by first | exact c16 z.1 | exact z.2.elim c22 c29)
    · skip
      refine aw_iload_n dX3_latest_19 rfl rfl ?_
      refine aw_bipush (-9) dX3_latest_20 rfl (by decide) ?_
      refine aw_icmp_eq (tgt := 35) dX3_latest_22 rfl rfl (fun c22 => ?_) (fun c22 => ?_)
      · skip
        obtain ⟨a, ha, rfl⟩ := ixn_of c5 (by omega)
        obtain ⟨b, hb, rfl⟩ := bd_of 2 (by decide) c16
        have hca : (nI a).toNatClampNeg = a := nI_clamp (by omega)
        have hcb : (nI b).toNatClampNeg = b := nI_clamp (by omega)
        refine aw_aload_n dX3_latest_35 rfl rfl ?_
        refine aw_getR dX3_latest_36 rfl rfl rfl (by decide) flX3_11 ?_
        refine aw_iload_n dX3_latest_39 rfl rfl ?_
        refine aw_aald dX3_latest_40 rfl rfl (by decide) (by first | exact (show vp_in _ 6 from vp_in_nI (by omega) (by omega)) | exact (show vp_in _ 4 from vp_in_nI (by omega) (by omega))) ?_
        try simp only [hca]
        try simp only [hcb]
        refine aw_getR dX3_latest_41 rfl rfl rfl (by decide) flX3_90 ?_
        refine aw_iload_n dX3_latest_44 rfl rfl ?_
        refine aw_iald dX3_latest_45 rfl rfl (by first | exact vp_in_nI (by omega) (by omega) | exact vp_in_iff.mpr (by decide)) ?_
        try simp only [hca]
        try simp only [hcb]
        refine aw_istore dX3_latest_46 rfl (by decide) ?_
        show AW _ mX3_latest 48 [_, _, _, _, _] _ _ _
        refine aw_aload_n dX3_latest_48 rfl rfl ?_
        refine aw_getR dX3_latest_49 rfl rfl rfl (by decide) flX3_11 ?_
        refine aw_iload_n dX3_latest_52 rfl rfl ?_
        refine aw_aald dX3_latest_53 rfl rfl (by decide) (by first | exact (show vp_in _ 6 from vp_in_nI (by omega) (by omega)) | exact (show vp_in _ 4 from vp_in_nI (by omega) (by omega))) ?_
        try simp only [hca]
        try simp only [hcb]
        refine aw_getR dX3_latest_54 rfl rfl rfl (by decide) flX3_90 ?_
        refine aw_iload_n dX3_latest_57 rfl rfl ?_
        refine aw_iload_n dX3_latest_58 rfl rfl ?_
        refine aw_iast dX3_latest_59 rfl rfl (by first | exact vp_in_nI (by omega) (by omega) | exact vp_in_iff.mpr (by decide)) ?_
        try simp only [hca]
        try simp only [hcb]
        refine aw_aload_n dX3_latest_60 rfl rfl ?_
        refine aw_iconst 0 dX3_latest_61 rfl (by decide) ?_
        refine aw_putI dX3_latest_62 rfl rfl rfl flX3_54 pf_3_11_0 ?_
        refine aw_iload dX3_latest_65 rfl rfl ?_
        refine aw_ret dX3_latest_67 rfl rfl ?_
        have hl : l = -9 ∨ lq l := by first | exact Or.inl (by assumption) | exact Or.inr (by assumption)
        refine kk_c (k3 a b ha (by omega) rfl rfl hl) rfl ?_
        simp only [rp_nk, rp_at, rp_rp, pk_us, ne_eq, Nat.reduceEqDiff, not_false_eq_true]
      · skip
        refine aw_iload_n dX3_latest_25 rfl rfl ?_
        refine aw_S1 (M' := mX3_isLiquid) dX3_latest_26 rfl lkX3_87 gX3_isLiquid (Nat.le_of_ble_eq_true rfl) (sX3_isLiquid ?_)
        show AW _ mX3_latest 29 _ (_ :: _) _ _
        refine aw_if_neb (tgt := 35) dX3_latest_29 rfl rfl (fun c29 => ?_) (fun c29 => ?_)
        · skip
          obtain ⟨a, ha, rfl⟩ := ixn_of c5 (by omega)
          obtain ⟨b, hb, rfl⟩ := bd_of 2 (by decide) c16
          have hca : (nI a).toNatClampNeg = a := nI_clamp (by omega)
          have hcb : (nI b).toNatClampNeg = b := nI_clamp (by omega)
          refine aw_aload_n dX3_latest_35 rfl rfl ?_
          refine aw_getR dX3_latest_36 rfl rfl rfl (by decide) flX3_11 ?_
          refine aw_iload_n dX3_latest_39 rfl rfl ?_
          refine aw_aald dX3_latest_40 rfl rfl (by decide) (by first | exact (show vp_in _ 6 from vp_in_nI (by omega) (by omega)) | exact (show vp_in _ 4 from vp_in_nI (by omega) (by omega))) ?_
          try simp only [hca]
          try simp only [hcb]
          refine aw_getR dX3_latest_41 rfl rfl rfl (by decide) flX3_90 ?_
          refine aw_iload_n dX3_latest_44 rfl rfl ?_
          refine aw_iald dX3_latest_45 rfl rfl (by first | exact vp_in_nI (by omega) (by omega) | exact vp_in_iff.mpr (by decide)) ?_
          try simp only [hca]
          try simp only [hcb]
          refine aw_istore dX3_latest_46 rfl (by decide) ?_
          show AW _ mX3_latest 48 [_, _, _, _, _] _ _ _
          refine aw_aload_n dX3_latest_48 rfl rfl ?_
          refine aw_getR dX3_latest_49 rfl rfl rfl (by decide) flX3_11 ?_
          refine aw_iload_n dX3_latest_52 rfl rfl ?_
          refine aw_aald dX3_latest_53 rfl rfl (by decide) (by first | exact (show vp_in _ 6 from vp_in_nI (by omega) (by omega)) | exact (show vp_in _ 4 from vp_in_nI (by omega) (by omega))) ?_
          try simp only [hca]
          try simp only [hcb]
          refine aw_getR dX3_latest_54 rfl rfl rfl (by decide) flX3_90 ?_
          refine aw_iload_n dX3_latest_57 rfl rfl ?_
          refine aw_iload_n dX3_latest_58 rfl rfl ?_
          refine aw_iast dX3_latest_59 rfl rfl (by first | exact vp_in_nI (by omega) (by omega) | exact vp_in_iff.mpr (by decide)) ?_
          try simp only [hca]
          try simp only [hcb]
          refine aw_aload_n dX3_latest_60 rfl rfl ?_
          refine aw_iconst 0 dX3_latest_61 rfl (by decide) ?_
          refine aw_putI dX3_latest_62 rfl rfl rfl flX3_54 pf_3_11_0 ?_
          refine aw_iload dX3_latest_65 rfl rfl ?_
          refine aw_ret dX3_latest_67 rfl rfl ?_
          have hl : l = -9 ∨ lq l := by first | exact Or.inl (by assumption) | exact Or.inr (by assumption)
          refine kk_c (k3 a b ha (by omega) rfl rfl hl) rfl ?_
          simp only [rp_nk, rp_at, rp_rp, pk_us, ne_eq, Nat.reduceEqDiff, not_false_eq_true]
        · skip
          refine aw_bipush (-2) dX3_latest_32 rfl (by decide) ?_
          refine aw_ret dX3_latest_34 rfl rfl ?_
          exact k2 c5 (fun z => by first | exact c16 z.1 | exact z.2.elim c22 c29)
  · skip
    refine aw_iconst (-1) dX3_latest_8 rfl (by decide) ?_
    refine aw_ret dX3_latest_9 rfl rfl ?_
    exact k1 c5
set_option maxRecDepth 4000 in
theorem sX3_cargo {d : Nat} {σ : SS} {K : ax_K} {l v c b e r : Int32} {cn : Nat} (hc : cn ≤ 4) (h9 : σ 0 0 8 = nI cn) (k1 : ¬ lq l → K (some (-1)) σ) (k2 : lq l → ¬ cgOK v c b e r → K (some (-2)) σ) (k3 : lq l → cgOK v c b e r → cn = 4 → K (some (-4)) σ) (k4 : lq l → cgOK v c b e r → cn < 4 → K (some (nI cn)) (rp (rp σ 10 cn (upd (upd (upd (upd (upd (upd (σ 10 cn) 0 l) 1 v) 2 c) 3 b) 4 e) 5 r)) 0 0 (upd (upd (σ 0 0) 8 (nI (cn + 1))) 11 0))) : AW (d + 2) mX3_cargo 0 (ax_en mX3_cargo [.inr (0, 0), .inl l, .inl v, .inl c, .inl b, .inl e, .inl r]) [] σ K := by
  show AW _ mX3_cargo 0 [_, _, _, _, _, _, _, _, _] _ _ _
  refine aw_iload_n dX3_cargo_0 rfl rfl ?_
  refine aw_S1 (M' := mX3_isLiquid) dX3_cargo_1 rfl lkX3_87 gX3_isLiquid (Nat.le_of_ble_eq_true rfl) (sX3_isLiquid ?_)
  show AW _ mX3_cargo 4 _ (_ :: _) _ _
  refine aw_if_neb (tgt := 9) dX3_cargo_4 rfl rfl (fun c4 => ?_) (fun c4 => ?_)
  · skip
    refine aw_iload_n dX3_cargo_9 rfl rfl ?_
    refine aw_S1 (M' := mX3_isAmount) dX3_cargo_10 rfl lkX3_93 gX3_isAmount (Nat.le_of_ble_eq_true rfl) (sX3_isAmount ?_)
    show AW _ mX3_cargo 13 _ (_ :: _) _ _
    refine aw_if_eqb (tgt := 50) dX3_cargo_13 rfl rfl (fun c13 => ?_) (fun c13 => ?_)
    · skip
      refine aw_bipush (-2) dX3_cargo_50 rfl (by decide) ?_
      refine aw_ret dX3_cargo_52 rfl rfl ?_
      exact k2 c4 (fun z => by simp_all)
    · skip
      refine aw_iload_n dX3_cargo_16 rfl rfl ?_
      refine aw_iconst 0 dX3_cargo_17 rfl (by decide) ?_
      refine aw_bipush 15 dX3_cargo_18 rfl (by decide) ?_
      refine aw_S3 (M' := mX3_within) dX3_cargo_20 rfl lkX3_60 gX3_within (Nat.le_of_ble_eq_true rfl) (sX3_within ?_)
      show AW _ mX3_cargo 23 _ (_ :: _) _ _
      refine aw_if_eqb (tgt := 50) dX3_cargo_23 rfl rfl (fun c23 => ?_) (fun c23 => ?_)
      · skip
        refine aw_bipush (-2) dX3_cargo_50 rfl (by decide) ?_
        refine aw_ret dX3_cargo_52 rfl rfl ?_
        exact k2 c4 (fun z => by simp_all)
      · skip
        refine aw_iload dX3_cargo_26 rfl rfl ?_
        refine aw_S1 (M' := mX3_isLiquidSet) dX3_cargo_28 rfl lkX3_96 gX3_isLiquidSet (Nat.le_of_ble_eq_true rfl) (sX3_isLiquidSet ?_)
        show AW _ mX3_cargo 31 _ (_ :: _) _ _
        refine aw_if_eqb (tgt := 50) dX3_cargo_31 rfl rfl (fun c31 => ?_) (fun c31 => ?_)
        · skip
          refine aw_bipush (-2) dX3_cargo_50 rfl (by decide) ?_
          refine aw_ret dX3_cargo_52 rfl rfl ?_
          exact k2 c4 (fun z => by simp_all)
        · skip
          refine aw_iload dX3_cargo_34 rfl rfl ?_
          refine aw_S1 (M' := mX3_isLiquidSet) dX3_cargo_36 rfl lkX3_96 gX3_isLiquidSet (Nat.le_of_ble_eq_true rfl) (sX3_isLiquidSet ?_)
          show AW _ mX3_cargo 39 _ (_ :: _) _ _
          refine aw_if_eqb (tgt := 50) dX3_cargo_39 rfl rfl (fun c39 => ?_) (fun c39 => ?_)
          · skip
            refine aw_bipush (-2) dX3_cargo_50 rfl (by decide) ?_
            refine aw_ret dX3_cargo_52 rfl rfl ?_
            exact k2 c4 (fun z => by simp_all)
          · skip
            refine aw_iload dX3_cargo_42 rfl rfl ?_
            refine aw_S1 (M' := mX3_isLiquidSet) dX3_cargo_44 rfl lkX3_96 gX3_isLiquidSet (Nat.le_of_ble_eq_true rfl) (sX3_isLiquidSet ?_)
            show AW _ mX3_cargo 47 _ (_ :: _) _ _
            refine aw_if_neb (tgt := 53) dX3_cargo_47 rfl rfl (fun c47 => ?_) (fun c47 => ?_)
            · skip
              refine aw_aload_n dX3_cargo_53 rfl rfl ?_
              refine aw_getI dX3_cargo_54 rfl rfl rfl flX3_45 ?_
              refine aw_iconst 4 dX3_cargo_57 rfl (by decide) ?_
              refine aw_icmp_lt (tgt := 64) dX3_cargo_58 rfl rfl (fun c58 => ?_) (fun c58 => ?_)
              · skip
                rw [h9] at c58
                have hn4 : cn < 4 := (nI_ltI (by omega) (by decide)).mp c58
                have hcl : (nI cn).toNatClampNeg = cn := nI_clamp (by omega)
                refine aw_aload_n dX3_cargo_64 rfl rfl ?_
                refine aw_getI dX3_cargo_65 rfl rfl rfl flX3_45 ?_
                rw [h9]
                refine aw_istore dX3_cargo_68 rfl (by decide) ?_
                show AW _ mX3_cargo 70 [_, _, _, _, _, _, _, _, _] _ _ _
                refine aw_aload_n dX3_cargo_70 rfl rfl ?_
                refine aw_getR dX3_cargo_71 rfl rfl rfl (by decide) flX3_17 ?_
                refine aw_iload dX3_cargo_74 rfl rfl ?_
                refine aw_aald dX3_cargo_76 rfl rfl (by decide) (by first | exact (show vp_in _ 6 from vp_in_nI (by omega) (by omega)) | exact (show vp_in _ 4 from vp_in_nI (by omega) (by omega))) ?_
                try simp only [hcl]
                refine aw_astore dX3_cargo_77 rfl (by decide) ?_
                show AW _ mX3_cargo 79 [_, _, _, _, _, _, _, _, _] _ _ _
                refine aw_aload dX3_cargo_79 rfl rfl ?_
                refine aw_iload_n dX3_cargo_81 rfl rfl ?_
                refine aw_putI dX3_cargo_82 rfl rfl rfl flX3_99 (pf_0_0 _) ?_
                refine aw_aload dX3_cargo_85 rfl rfl ?_
                refine aw_iload_n dX3_cargo_87 rfl rfl ?_
                refine aw_putI dX3_cargo_88 rfl rfl rfl flX3_102 (pf_0_1 _) ?_
                refine aw_aload dX3_cargo_91 rfl rfl ?_
                refine aw_iload_n dX3_cargo_93 rfl rfl ?_
                refine aw_putI dX3_cargo_94 rfl rfl rfl flX3_105 (pf_0_2 _) ?_
                refine aw_aload dX3_cargo_97 rfl rfl ?_
                refine aw_iload dX3_cargo_99 rfl rfl ?_
                refine aw_putI dX3_cargo_101 rfl rfl rfl flX3_108 (pf_0_3 _) ?_
                refine aw_aload dX3_cargo_104 rfl rfl ?_
                refine aw_iload dX3_cargo_106 rfl rfl ?_
                refine aw_putI dX3_cargo_108 rfl rfl rfl flX3_111 (pf_0_4 _) ?_
                refine aw_aload dX3_cargo_111 rfl rfl ?_
                refine aw_iload dX3_cargo_113 rfl rfl ?_
                refine aw_putI dX3_cargo_115 rfl rfl rfl flX3_114 (pf_0_5 _) ?_
                refine aw_aload_n dX3_cargo_118 rfl rfl ?_
                refine aw_iload dX3_cargo_119 rfl rfl ?_
                refine aw_iconst 1 dX3_cargo_121 rfl (by decide) ?_
                refine aw_iadd dX3_cargo_122 rfl ?_
                refine aw_putI dX3_cargo_123 rfl rfl rfl flX3_45 (pf_3_8 _) ?_
                refine aw_aload_n dX3_cargo_126 rfl rfl ?_
                refine aw_iconst 0 dX3_cargo_127 rfl (by decide) ?_
                refine aw_putI dX3_cargo_128 rfl rfl rfl flX3_54 pf_3_11_0 ?_
                refine aw_iload dX3_cargo_131 rfl rfl ?_
                refine aw_ret dX3_cargo_133 rfl rfl ?_
                refine kk_c (k4 c4 ⟨by assumption, by assumption, by assumption, by assumption, by assumption⟩ hn4) rfl ?_
                simp only [rp_nk, rp_at, rp_rp, pk_us, ne_eq, Nat.reduceEqDiff, not_false_eq_true, nI_succ]
              · skip
                refine aw_bipush (-4) dX3_cargo_61 rfl (by decide) ?_
                refine aw_ret dX3_cargo_63 rfl rfl ?_
                rw [h9] at c58
                exact k3 c4 ⟨by assumption, by assumption, by assumption, by assumption, by assumption⟩ (by
                  rcases Nat.lt_or_ge cn 4 with h | h
                  · exact absurd (nI_lt h (by decide)) c58
                  · omega)
            · skip
              refine aw_bipush (-2) dX3_cargo_50 rfl (by decide) ?_
              refine aw_ret dX3_cargo_52 rfl rfl ?_
              exact k2 c4 (fun z => by simp_all)
  · skip
    refine aw_iconst (-1) dX3_cargo_7 rfl (by decide) ?_
    refine aw_ret dX3_cargo_8 rfl rfl ?_
    exact k1 c4
set_option maxRecDepth 4000 in
theorem sX3_uncargo {d : Nat} {σ : SS} {K : ax_K} {n cn : Nat} (hn : n ≤ 6) (h0 : σ 0 0 7 = nI n) (hc : cn ≤ 4) (h9 : σ 0 0 8 = nI cn) (k1 : cn = 0 → K (some (-3)) σ) (k2 : ∀ m, cn = m + 1 → 0 < cntI n (fun t => σ 8 t 5 = nI m) → K (some (-3)) σ) (k3 : ∀ m, cn = m + 1 → ¬ 0 < cntI n (fun t => σ 8 t 5 = nI m) → K (some (nI m)) (rp (rp σ 5 0 (fun t => if t < 6 then (if σ 5 0 t = nI m then -9 else σ 5 0 t) else σ 5 0 t)) 0 0 (upd (upd (σ 0 0) 8 (nI m)) 11 0))) : AW (d + 1) mX3_uncargo 0 (ax_en mX3_uncargo [.inr (0, 0)]) [] σ K := by
  show AW _ mX3_uncargo 0 [_, _, _] _ _ _
  refine aw_aload_n dX3_uncargo_0 rfl rfl ?_
  refine aw_getI dX3_uncargo_1 rfl rfl rfl flX3_45 ?_
  refine aw_iconst 1 dX3_uncargo_4 rfl (by decide) ?_
  refine aw_isub dX3_uncargo_5 rfl ?_
  rw [h9]
  refine aw_istore_n dX3_uncargo_6 rfl (by decide) ?_
  show AW _ mX3_uncargo 7 [_, _, _] _ _ _
  refine aw_iload_n dX3_uncargo_7 rfl rfl ?_
  refine aw_if_lt (tgt := 19) dX3_uncargo_8 rfl rfl (fun c8 => ?_) (fun c8 => ?_)
  · skip
    refine aw_bipush (-3) dX3_uncargo_19 rfl (by decide) ?_
    refine aw_ret dX3_uncargo_21 rfl rfl ?_
    refine k1 ?_
    cases cn with
    | zero => rfl
    | succ m => rw [nI_pred] at c8; exact absurd c8 (nI_pos (by omega))
  · skip
    obtain ⟨mm, rfl⟩ : ∃ m, cn = m + 1 := by
      cases cn with
      | zero => exact absurd (show nI 0 - 1 < 0 by decide) c8
      | succ m => exact ⟨m, rfl⟩
    rw [nI_pred]
    refine aw_aload_n dX3_uncargo_11 rfl rfl ?_
    refine aw_iload_n dX3_uncargo_12 rfl rfl ?_
    refine aw_V1 (M' := mX3_tanksThatHold) dX3_uncargo_13 rfl lkX3_117 gX3_tanksThatHold rfl rfl (Nat.le_of_ble_eq_true rfl) (sX3_tanksThatHold hn h0 ?_)
    show AW _ mX3_uncargo 16 _ (_ :: _) _ _
    refine aw_if_le (tgt := 22) dX3_uncargo_16 rfl rfl (fun c16 => ?_) (fun c16 => ?_)
    · skip
      have c16' := Int32.not_lt.mpr c16
      refine aw_iconst 0 dX3_uncargo_22 rfl (by decide) ?_
      refine aw_istore_n dX3_uncargo_23 rfl (by decide) ?_
      show AW _ mX3_uncargo 24 [_, _, _] _ _ _
      refine AW.conv (ax_loop (P := fun i => AW (d + 1) mX3_uncargo 24 [some (.inr (0, 0)), some (.inl (nI mm)), some (.inl (nI i))] [] (rp σ 5 0 (fun t => if t < i then (if σ 5 0 t = nI mm then -9 else σ 5 0 t) else σ 5 0 t)) K) 6 ?_ ?_ 0 (Nat.zero_le _)) (by first | (simp only [nI_0]; done) | (simp only [nI_0]; rfl)) rfl (by rw [up_0, rp_self])
      · try dsimp only
        refine aw_iload_n dX3_uncargo_24 rfl rfl ?_
        refine aw_bipush 6 dX3_uncargo_25 rfl (by decide) ?_
        refine aw_icmp_ge (tgt := 54) dX3_uncargo_27 rfl rfl (fun _ => ?_) (fun z => absurd (by decide) z)
        refine aw_aload_n dX3_uncargo_54 rfl rfl ?_
        refine aw_iload_n dX3_uncargo_55 rfl rfl ?_
        refine aw_putI dX3_uncargo_56 rfl rfl rfl flX3_45 (pf_3_8 _) ?_
        refine aw_aload_n dX3_uncargo_59 rfl rfl ?_
        refine aw_iconst 0 dX3_uncargo_60 rfl (by decide) ?_
        refine aw_putI dX3_uncargo_61 rfl rfl rfl flX3_54 pf_3_11_0 ?_
        refine aw_iload_n dX3_uncargo_64 rfl rfl ?_
        refine aw_ret dX3_uncargo_65 rfl rfl ?_
        refine kk_c (k3 mm rfl c16') rfl ?_
        simp only [rp_nk, rp_at, rp_rp, pk_us, ne_eq, Nat.reduceEqDiff, not_false_eq_true]
      · intro i hi_24 nx_24
        try dsimp only at nx_24 ⊢
        have hci : (nI i).toNatClampNeg = i := nI_clamp (by omega)
        refine aw_iload_n dX3_uncargo_24 rfl rfl ?_
        refine aw_bipush 6 dX3_uncargo_25 rfl (by decide) ?_
        refine aw_icmp_ge (tgt := 54) dX3_uncargo_27 rfl rfl (fun z => absurd z (nI_ge (b := 6) hi_24 (by omega))) (fun _ => ?_)
        refine aw_aload_n dX3_uncargo_30 rfl rfl ?_
        refine aw_getR dX3_uncargo_31 rfl rfl rfl (by decide) flX3_32 ?_
        refine aw_iload_n dX3_uncargo_34 rfl rfl ?_
        refine aw_iald dX3_uncargo_35 rfl rfl (by first | exact vp_in_nI (by omega) (by omega) | exact vp_in_iff.mpr (by decide)) ?_
        refine aw_iload_n dX3_uncargo_36 rfl rfl ?_
        refine aw_icmp_ne (tgt := 48) dX3_uncargo_37 rfl rfl (fun c37 => ?_) (fun c37 => ?_)
        · skip
          refine aw_iinc dX3_uncargo_48 rfl rfl (ii_1 _) (by decide) ?_
          show AW _ mX3_uncargo 51 [_, _, _] _ _ _
          refine aw_goto (q := 24) dX3_uncargo_51 rfl ?_
          refine AW.conv nx_24 (by first | (simp only [nI_succ i]; done) | (simp only [nI_succ i]; rfl)) rfl ?_
          simp only [rp_nk, rp_at, rp_rp, pk_us, ne_eq, Nat.reduceEqDiff, not_false_eq_true, hci, Nat.lt_irrefl, if_false] at c37 ⊢
          first | (rw [← up_lt (fun t => if σ 5 0 t = nI mm then -9 else σ 5 0 t)]; simp [c37]; done) | (refine congrArg (rp σ 5 0) ?_; rw [← up_lt (fun t => if σ 5 0 t = nI mm then -9 else σ 5 0 t)]; simp only [c37, if_false]; funext t; by_cases ht : t = i <;> simp [upd, ht])
        · skip
          refine aw_aload_n dX3_uncargo_40 rfl rfl ?_
          refine aw_getR dX3_uncargo_41 rfl rfl rfl (by decide) flX3_32 ?_
          refine aw_iload_n dX3_uncargo_44 rfl rfl ?_
          refine aw_bipush (-9) dX3_uncargo_45 rfl (by decide) ?_
          refine aw_iast dX3_uncargo_47 rfl rfl (by first | exact vp_in_nI (by omega) (by omega) | exact vp_in_iff.mpr (by decide)) ?_
          refine aw_iinc dX3_uncargo_48 rfl rfl (ii_1 _) (by decide) ?_
          show AW _ mX3_uncargo 51 [_, _, _] _ _ _
          refine aw_goto (q := 24) dX3_uncargo_51 rfl ?_
          refine AW.conv nx_24 (by first | (simp only [nI_succ i]; done) | (simp only [nI_succ i]; rfl)) rfl ?_
          simp only [rp_nk, rp_at, rp_rp, pk_us, ne_eq, Nat.reduceEqDiff, not_false_eq_true, hci, Nat.lt_irrefl, if_false] at c37 ⊢
          first | (rw [← up_lt (fun t => if σ 5 0 t = nI mm then -9 else σ 5 0 t)]; simp [c37]; done) | (refine congrArg (rp σ 5 0) ?_; rw [← up_lt (fun t => if σ 5 0 t = nI mm then -9 else σ 5 0 t)]; simp only [c37, if_false]; funext t; by_cases ht : t = i <;> simp [upd, ht])
    · skip
      refine aw_bipush (-3) dX3_uncargo_19 rfl (by decide) ?_
      refine aw_ret dX3_uncargo_21 rfl rfl ?_
      exact k2 mm rfl (Int32.not_le.mp c16)
set_option maxRecDepth 4000 in
theorem sX3_amount {d : Nat} {σ : SS} {K : ax_K} {c v : Int32} {n cn : Nat} (hn : n ≤ 6) (h0 : σ 0 0 7 = nI n) (hc : cn ≤ 4) (h9 : σ 0 0 8 = nI cn) (k1 : ¬ ixn c cn → K (some (-1)) σ) (k2 : ixn c cn → ¬ (1 ≤ v ∧ v ≤ 400) → K (some (-2)) σ) (k3 : ixn c cn → (1 ≤ v ∧ v ≤ 400) → 0 < cntI n (fun t => σ 8 t 5 = c) → K (some (-3)) σ) (k4 : ∀ a, a < cn → c = nI a → (1 ≤ v ∧ v ≤ 400) → ¬ 0 < cntI n (fun t => σ 8 t 5 = c) → K (some (σ 10 a 1)) (rp (rp σ 10 a (upd (σ 10 a) 1 v)) 0 0 (upd (σ 0 0) 11 0))) : AW (d + 2) mX3_amount 0 (ax_en mX3_amount [.inr (0, 0), .inl c, .inl v]) [] σ K := by
  show AW _ mX3_amount 0 [_, _, _, _] _ _ _
  refine aw_aload_n dX3_amount_0 rfl rfl ?_
  refine aw_iload_n dX3_amount_1 rfl rfl ?_
  refine aw_V1 (M' := mX3_isCargo) dX3_amount_2 rfl lkX3_121 gX3_isCargo rfl rfl (Nat.le_of_ble_eq_true rfl) (sX3_isCargo hc h9 ?_)
  show AW _ mX3_amount 5 _ (_ :: _) _ _
  refine aw_if_neb (tgt := 10) dX3_amount_5 rfl rfl (fun c5 => ?_) (fun c5 => ?_)
  · skip
    refine aw_iload_n dX3_amount_10 rfl rfl ?_
    refine aw_S1 (M' := mX3_isAmount) dX3_amount_11 rfl lkX3_93 gX3_isAmount (Nat.le_of_ble_eq_true rfl) (sX3_isAmount ?_)
    show AW _ mX3_amount 14 _ (_ :: _) _ _
    refine aw_if_neb (tgt := 20) dX3_amount_14 rfl rfl (fun c14 => ?_) (fun c14 => ?_)
    · skip
      refine aw_aload_n dX3_amount_20 rfl rfl ?_
      refine aw_iload_n dX3_amount_21 rfl rfl ?_
      refine aw_V1 (M' := mX3_tanksThatHold) dX3_amount_22 rfl lkX3_117 gX3_tanksThatHold rfl rfl (Nat.le_of_ble_eq_true rfl) (sX3_tanksThatHold hn h0 ?_)
      show AW _ mX3_amount 25 _ (_ :: _) _ _
      refine aw_if_le (tgt := 31) dX3_amount_25 rfl rfl (fun c25 => ?_) (fun c25 => ?_)
      · skip
        have c25' := Int32.not_lt.mpr c25
        obtain ⟨a, ha, rfl⟩ := ixn_of c5 (by omega)
        have hca : (nI a).toNatClampNeg = a := nI_clamp (by omega)
        refine aw_aload_n dX3_amount_31 rfl rfl ?_
        refine aw_getR dX3_amount_32 rfl rfl rfl (by decide) flX3_17 ?_
        refine aw_iload_n dX3_amount_35 rfl rfl ?_
        refine aw_aald dX3_amount_36 rfl rfl (by decide) (by first | exact (show vp_in _ 6 from vp_in_nI (by omega) (by omega)) | exact (show vp_in _ 4 from vp_in_nI (by omega) (by omega))) ?_
        try simp only [hca]
        refine aw_getI dX3_amount_37 rfl rfl rfl flX3_102 ?_
        refine aw_istore_n dX3_amount_40 rfl (by decide) ?_
        show AW _ mX3_amount 41 [_, _, _, _] _ _ _
        refine aw_aload_n dX3_amount_41 rfl rfl ?_
        refine aw_getR dX3_amount_42 rfl rfl rfl (by decide) flX3_17 ?_
        refine aw_iload_n dX3_amount_45 rfl rfl ?_
        refine aw_aald dX3_amount_46 rfl rfl (by decide) (by first | exact (show vp_in _ 6 from vp_in_nI (by omega) (by omega)) | exact (show vp_in _ 4 from vp_in_nI (by omega) (by omega))) ?_
        try simp only [hca]
        refine aw_iload_n dX3_amount_47 rfl rfl ?_
        refine aw_putI dX3_amount_48 rfl rfl rfl flX3_102 (pf_0_1 _) ?_
        refine aw_aload_n dX3_amount_51 rfl rfl ?_
        refine aw_iconst 0 dX3_amount_52 rfl (by decide) ?_
        refine aw_putI dX3_amount_53 rfl rfl rfl flX3_54 pf_3_11_0 ?_
        refine aw_iload_n dX3_amount_56 rfl rfl ?_
        refine aw_ret dX3_amount_57 rfl rfl ?_
        refine kk_c (k4 a ha rfl c14 c25') rfl ?_
        simp only [rp_nk, rp_at, rp_rp, pk_us, ne_eq, Nat.reduceEqDiff, not_false_eq_true]
      · skip
        refine aw_bipush (-3) dX3_amount_28 rfl (by decide) ?_
        refine aw_ret dX3_amount_30 rfl rfl ?_
        exact k3 c5 c14 (Int32.not_le.mp c25)
    · skip
      refine aw_bipush (-2) dX3_amount_17 rfl (by decide) ?_
      refine aw_ret dX3_amount_19 rfl rfl ?_
      exact k2 c5 c14
  · skip
    refine aw_iconst (-1) dX3_amount_8 rfl (by decide) ?_
    refine aw_ret dX3_amount_9 rfl rfl ?_
    exact k1 c5
set_option maxRecDepth 4000 in
theorem sX3_washes {d : Nat} {σ : SS} {K : ax_K} {f t v : Int32}  (k1 : ¬ (lq f ∧ lq t) → K (some (-1)) σ) (k2 : lq f → lq t → ¬ (0 ≤ v ∧ v ≤ 3) → K (some (-2)) σ) (k3 : ∀ a b, a < 8 → b < 8 → f = nI a → t = nI b → (0 ≤ v ∧ v ≤ 3) → K (some (σ 3 0 (8 * a + b))) (rp (rp σ 3 0 (upd (σ 3 0) (8 * a + b) v)) 0 0 (upd (σ 0 0) 11 0))) : AW (d + 2) mX3_washes 0 (ax_en mX3_washes [.inr (0, 0), .inl f, .inl t, .inl v]) [] σ K := by
  show AW _ mX3_washes 0 [_, _, _, _, _, _] _ _ _
  refine aw_iload_n dX3_washes_0 rfl rfl ?_
  refine aw_S1 (M' := mX3_isLiquid) dX3_washes_1 rfl lkX3_87 gX3_isLiquid (Nat.le_of_ble_eq_true rfl) (sX3_isLiquid ?_)
  show AW _ mX3_washes 4 _ (_ :: _) _ _
  refine aw_if_eqb (tgt := 14) dX3_washes_4 rfl rfl (fun c4 => ?_) (fun c4 => ?_)
  · skip
    refine aw_iconst (-1) dX3_washes_14 rfl (by decide) ?_
    refine aw_ret dX3_washes_15 rfl rfl ?_
    exact k1 (fun z => by first | exact c4 z.1 | exact c11 z.2)
  · skip
    refine aw_iload_n dX3_washes_7 rfl rfl ?_
    refine aw_S1 (M' := mX3_isLiquid) dX3_washes_8 rfl lkX3_87 gX3_isLiquid (Nat.le_of_ble_eq_true rfl) (sX3_isLiquid ?_)
    show AW _ mX3_washes 11 _ (_ :: _) _ _
    refine aw_if_neb (tgt := 16) dX3_washes_11 rfl rfl (fun c11 => ?_) (fun c11 => ?_)
    · skip
      refine aw_iload_n dX3_washes_16 rfl rfl ?_
      refine aw_iconst 0 dX3_washes_17 rfl (by decide) ?_
      refine aw_iconst 3 dX3_washes_18 rfl (by decide) ?_
      refine aw_S3 (M' := mX3_within) dX3_washes_19 rfl lkX3_60 gX3_within (Nat.le_of_ble_eq_true rfl) (sX3_within ?_)
      show AW _ mX3_washes 22 _ (_ :: _) _ _
      refine aw_if_neb (tgt := 28) dX3_washes_22 rfl rfl (fun c22 => ?_) (fun c22 => ?_)
      · skip
        obtain ⟨a, ha, rfl⟩ := lq_of c4
        obtain ⟨b, hb, rfl⟩ := lq_of c11
        have hca : (nI (8 * a + b)).toNatClampNeg = 8 * a + b := nI_clamp (by omega)
        refine aw_iload_n dX3_washes_28 rfl rfl ?_
        refine aw_bipush 8 dX3_washes_29 rfl (by decide) ?_
        refine aw_imul dX3_washes_31 rfl ?_
        refine aw_iload_n dX3_washes_32 rfl rfl ?_
        refine aw_iadd dX3_washes_33 rfl ?_
        rw [ix8r]
        refine aw_istore dX3_washes_34 rfl (by decide) ?_
        show AW _ mX3_washes 36 [_, _, _, _, _, _] _ _ _
        refine aw_aload_n dX3_washes_36 rfl rfl ?_
        refine aw_getR dX3_washes_37 rfl rfl rfl (by decide) flX3_21 ?_
        refine aw_iload dX3_washes_40 rfl rfl ?_
        refine aw_iald dX3_washes_42 rfl rfl (by first | exact vp_in_nI (by omega) (by omega) | exact vp_in_iff.mpr (by decide)) ?_
        try simp only [hca]
        refine aw_istore dX3_washes_43 rfl (by decide) ?_
        show AW _ mX3_washes 45 [_, _, _, _, _, _] _ _ _
        refine aw_aload_n dX3_washes_45 rfl rfl ?_
        refine aw_getR dX3_washes_46 rfl rfl rfl (by decide) flX3_21 ?_
        refine aw_iload dX3_washes_49 rfl rfl ?_
        refine aw_iload_n dX3_washes_51 rfl rfl ?_
        refine aw_iast dX3_washes_52 rfl rfl (by first | exact vp_in_nI (by omega) (by omega) | exact vp_in_iff.mpr (by decide)) ?_
        try simp only [hca]
        refine aw_aload_n dX3_washes_53 rfl rfl ?_
        refine aw_iconst 0 dX3_washes_54 rfl (by decide) ?_
        refine aw_putI dX3_washes_55 rfl rfl rfl flX3_54 pf_3_11_0 ?_
        refine aw_iload dX3_washes_58 rfl rfl ?_
        refine aw_ret dX3_washes_60 rfl rfl ?_
        refine kk_c (k3 a b ha hb rfl rfl c22) rfl ?_
        simp only [rp_nk, rp_at, rp_rp, pk_us, ne_eq, Nat.reduceEqDiff, not_false_eq_true]
      · skip
        refine aw_bipush (-2) dX3_washes_25 rfl (by decide) ?_
        refine aw_ret dX3_washes_27 rfl rfl ?_
        exact k2 c4 c11 c22
    · skip
      refine aw_iconst (-1) dX3_washes_14 rfl (by decide) ?_
      refine aw_ret dX3_washes_15 rfl rfl ?_
      exact k1 (fun z => by first | exact c4 z.1 | exact c11 z.2)
set_option maxRecDepth 4000 in
theorem sX3_bound {d : Nat} {σ : SS} {K : ax_K} {v : Int32}  (k1 : ¬ (0 ≤ v ∧ v ≤ 9999) → K (some (-2)) σ) (k2 : (0 ≤ v ∧ v ≤ 9999) → K (some (σ 0 0 9)) (rp σ 0 0 (upd (upd (σ 0 0) 9 v) 11 0))) : AW (d + 1) mX3_bound 0 (ax_en mX3_bound [.inr (0, 0), .inl v]) [] σ K := by
  show AW _ mX3_bound 0 [_, _, _] _ _ _
  refine aw_iload_n dX3_bound_0 rfl rfl ?_
  refine aw_iconst 0 dX3_bound_1 rfl (by decide) ?_
  refine aw_sipush 9999 dX3_bound_2 rfl (by decide) ?_
  refine aw_S3 (M' := mX3_within) dX3_bound_5 rfl lkX3_60 gX3_within (Nat.le_of_ble_eq_true rfl) (sX3_within ?_)
  show AW _ mX3_bound 8 _ (_ :: _) _ _
  refine aw_if_neb (tgt := 14) dX3_bound_8 rfl rfl (fun c8 => ?_) (fun c8 => ?_)
  · skip
    refine aw_aload_n dX3_bound_14 rfl rfl ?_
    refine aw_getI dX3_bound_15 rfl rfl rfl flX3_48 ?_
    refine aw_istore_n dX3_bound_18 rfl (by decide) ?_
    show AW _ mX3_bound 19 [_, _, _] _ _ _
    refine aw_aload_n dX3_bound_19 rfl rfl ?_
    refine aw_iload_n dX3_bound_20 rfl rfl ?_
    refine aw_putI dX3_bound_21 rfl rfl rfl flX3_48 (pf_3_9 _) ?_
    refine aw_aload_n dX3_bound_24 rfl rfl ?_
    refine aw_iconst 0 dX3_bound_25 rfl (by decide) ?_
    refine aw_putI dX3_bound_26 rfl rfl rfl flX3_54 pf_3_11_0 ?_
    refine aw_iload_n dX3_bound_29 rfl rfl ?_
    refine aw_ret dX3_bound_30 rfl rfl ?_
    refine kk_c (k2 c8) rfl ?_
    simp only [rp_nk, rp_at, rp_rp, pk_us, ne_eq, Nat.reduceEqDiff, not_false_eq_true]
  · skip
    refine aw_bipush (-2) dX3_bound_11 rfl (by decide) ?_
    refine aw_ret dX3_bound_13 rfl rfl ?_
    exact k1 c8
set_option maxRecDepth 4000 in
theorem sX3_ofTank {d : Nat} {σ : SS} {K : ax_K} {t w : Int32} {n : Nat} (hn : n ≤ 6) (h0 : σ 0 0 7 = nI n) (k1 : ¬ ixn t n → K (some (-1)) σ) (k2 : ixn t n → (∀ j, j < 9 → w ≠ nI j) → K (some (-2)) σ) (k3 : ∀ a, a < n → t = nI a → ∀ j, j < 9 → w = nI j → K (some (ofTankM (vw σ) a j)) σ) : AW (d + 1) mX3_ofTank 0 (ax_en mX3_ofTank [.inr (0, 0), .inl t, .inl w]) [] σ K := by
  show AW _ mX3_ofTank 0 [_, _, _, _] _ _ _
  refine aw_aload_n dX3_ofTank_0 rfl rfl ?_
  refine aw_iload_n dX3_ofTank_1 rfl rfl ?_
  refine aw_V1 (M' := mX3_isTank) dX3_ofTank_2 rfl lkX3_83 gX3_isTank rfl rfl (Nat.le_of_ble_eq_true rfl) (sX3_isTank hn h0 ?_)
  show AW _ mX3_ofTank 5 _ (_ :: _) _ _
  refine aw_if_neb (tgt := 10) dX3_ofTank_5 rfl rfl (fun c5 => ?_) (fun c5 => ?_)
  · skip
    have hin := c5
    obtain ⟨a, ha, rfl⟩ := ixn_of c5 (by omega)
    have hca : (nI a).toNatClampNeg = a := nI_clamp (by omega)
    refine aw_aload_n dX3_ofTank_10 rfl rfl ?_
    refine aw_getR dX3_ofTank_11 rfl rfl rfl (by decide) flX3_11 ?_
    refine aw_iload_n dX3_ofTank_14 rfl rfl ?_
    refine aw_aald dX3_ofTank_15 rfl rfl (by decide) (by first | exact (show vp_in _ 6 from vp_in_nI (by omega) (by omega)) | exact (show vp_in _ 4 from vp_in_nI (by omega) (by omega))) ?_
    try simp only [hca]
    try simp only [ci0]
    try simp only [ci1]
    try simp only [ci2]
    refine aw_astore_n dX3_ofTank_16 rfl (by decide) ?_
    show AW _ mX3_ofTank 17 [_, _, _, _] _ _ _
    refine aw_iload_n dX3_ofTank_17 rfl rfl ?_
    refine aw_tsw 9 dX3_ofTank_18 rfl (by decide) (by decide) (fun j hj sx => ?_) (fun sx => ?_)
    · match j, hj with
      | 0, _ =>
        refine AW.conv (pc := 68) ?_ rfl rfl rfl
        refine aw_aload_n dX3_ofTank_68 rfl rfl ?_
        refine aw_getI dX3_ofTank_69 rfl rfl rfl flX3_64 ?_
        refine aw_ret dX3_ofTank_72 rfl rfl ?_
        exact kk_c (k3 a ha rfl 0 (by decide) sx) rfl rfl
      | 1, _ =>
        refine AW.conv (pc := 73) ?_ rfl rfl rfl
        refine aw_aload_n dX3_ofTank_73 rfl rfl ?_
        refine aw_getI dX3_ofTank_74 rfl rfl rfl flX3_67 ?_
        refine aw_ret dX3_ofTank_77 rfl rfl ?_
        exact kk_c (k3 a ha rfl 1 (by decide) sx) rfl rfl
      | 2, _ =>
        refine AW.conv (pc := 78) ?_ rfl rfl rfl
        refine aw_aload_n dX3_ofTank_78 rfl rfl ?_
        refine aw_getI dX3_ofTank_79 rfl rfl rfl flX3_70 ?_
        refine aw_bipush 10 dX3_ofTank_82 rfl (by decide) ?_
        refine aw_iadd dX3_ofTank_84 rfl ?_
        refine aw_ret dX3_ofTank_85 rfl rfl ?_
        exact kk_c (k3 a ha rfl 2 (by decide) sx) rfl rfl
      | 3, _ =>
        refine AW.conv (pc := 86) ?_ rfl rfl rfl
        refine aw_aload_n dX3_ofTank_86 rfl rfl ?_
        refine aw_getI dX3_ofTank_87 rfl rfl rfl flX3_77 ?_
        refine aw_ret dX3_ofTank_90 rfl rfl ?_
        exact kk_c (k3 a ha rfl 3 (by decide) sx) rfl rfl
      | 4, _ =>
        refine AW.conv (pc := 91) ?_ rfl rfl rfl
        refine aw_aload_n dX3_ofTank_91 rfl rfl ?_
        refine aw_getR dX3_ofTank_92 rfl rfl rfl (by decide) flX3_90 ?_
        refine aw_iconst 0 dX3_ofTank_95 rfl (by decide) ?_
        refine aw_iald dX3_ofTank_96 rfl rfl (by first | exact vp_in_nI (by omega) (by omega) | exact vp_in_iff.mpr (by decide)) ?_
        try simp only [hca]
        try simp only [ci0]
        try simp only [ci1]
        try simp only [ci2]
        refine aw_ret dX3_ofTank_97 rfl rfl ?_
        exact kk_c (k3 a ha rfl 4 (by decide) sx) (by rw [ofTankM, show 3 * a = 3 * a + 0 by omega, vw33 σ a (by decide)]) rfl
      | 5, _ =>
        refine AW.conv (pc := 98) ?_ rfl rfl rfl
        refine aw_aload_n dX3_ofTank_98 rfl rfl ?_
        refine aw_getR dX3_ofTank_99 rfl rfl rfl (by decide) flX3_90 ?_
        refine aw_iconst 1 dX3_ofTank_102 rfl (by decide) ?_
        refine aw_iald dX3_ofTank_103 rfl rfl (by first | exact vp_in_nI (by omega) (by omega) | exact vp_in_iff.mpr (by decide)) ?_
        try simp only [hca]
        try simp only [ci0]
        try simp only [ci1]
        try simp only [ci2]
        refine aw_ret dX3_ofTank_104 rfl rfl ?_
        exact kk_c (k3 a ha rfl 5 (by decide) sx) (by rw [ofTankM, vw33 σ a (by decide)]) rfl
      | 6, _ =>
        refine AW.conv (pc := 105) ?_ rfl rfl rfl
        refine aw_aload_n dX3_ofTank_105 rfl rfl ?_
        refine aw_getR dX3_ofTank_106 rfl rfl rfl (by decide) flX3_90 ?_
        refine aw_iconst 2 dX3_ofTank_109 rfl (by decide) ?_
        refine aw_iald dX3_ofTank_110 rfl rfl (by first | exact vp_in_nI (by omega) (by omega) | exact vp_in_iff.mpr (by decide)) ?_
        try simp only [hca]
        try simp only [ci0]
        try simp only [ci1]
        try simp only [ci2]
        refine aw_ret dX3_ofTank_111 rfl rfl ?_
        exact kk_c (k3 a ha rfl 6 (by decide) sx) (by rw [ofTankM, vw33 σ a (by decide)]) rfl
      | 7, _ =>
        refine AW.conv (pc := 112) ?_ rfl rfl rfl
        refine aw_aload_n dX3_ofTank_112 rfl rfl ?_
        refine aw_getI dX3_ofTank_113 rfl rfl rfl flX3_124 ?_
        refine aw_ret dX3_ofTank_116 rfl rfl ?_
        exact kk_c (k3 a ha rfl 7 (by decide) sx) rfl rfl
      | 8, _ =>
        refine AW.conv (pc := 117) ?_ rfl rfl rfl
        refine aw_aload_n dX3_ofTank_117 rfl rfl ?_
        refine aw_getI dX3_ofTank_118 rfl rfl rfl flX3_127 ?_
        refine aw_ret dX3_ofTank_121 rfl rfl ?_
        exact kk_c (k3 a ha rfl 8 (by decide) sx) rfl rfl
      | j + 9, hj => exact absurd hj (by omega)
    · refine AW.conv (pc := 122) ?_ rfl rfl rfl
      refine aw_bipush (-2) dX3_ofTank_122 rfl (by decide) ?_
      refine aw_ret dX3_ofTank_124 rfl rfl ?_
      exact k2 hin sx
  · skip
    refine aw_iconst (-1) dX3_ofTank_8 rfl (by decide) ?_
    refine aw_ret dX3_ofTank_9 rfl rfl ?_
    exact k1 c5
set_option maxRecDepth 4000 in
theorem sX3_ofCargo {d : Nat} {σ : SS} {K : ax_K} {t w : Int32} {n cn : Nat} (hn : n ≤ 6) (h0 : σ 0 0 7 = nI n) (hc : cn ≤ 4) (h9 : σ 0 0 8 = nI cn) (hCoat : ∀ t, t < 6 → 0 ≤ σ 8 t 1) (hLat : ∀ t k, t < 6 → k < 3 → lt9 (σ 9 t k)) (hLiq : ∀ c, c < 4 → ∃ j, j < 8 ∧ σ 10 c 0 = nI j) (k1 : ¬ ixn t cn → K (some (-1)) σ) (k2 : ixn t cn → (∀ j, j < 8 → w ≠ nI j) → K (some (-2)) σ) (k3 : ∀ a, a < cn → t = nI a → ∀ j, j < 8 → w = nI j → K (some (ofCargoM (vw σ) n cn a j)) σ) : AW (d + 3) mX3_ofCargo 0 (ax_en mX3_ofCargo [.inr (0, 0), .inl t, .inl w]) [] σ K := by
  show AW _ mX3_ofCargo 0 [_, _, _, _] _ _ _
  refine aw_aload_n dX3_ofCargo_0 rfl rfl ?_
  refine aw_iload_n dX3_ofCargo_1 rfl rfl ?_
  refine aw_V1 (M' := mX3_isCargo) dX3_ofCargo_2 rfl lkX3_121 gX3_isCargo rfl rfl (Nat.le_of_ble_eq_true rfl) (sX3_isCargo hc h9 ?_)
  show AW _ mX3_ofCargo 5 _ (_ :: _) _ _
  refine aw_if_neb (tgt := 10) dX3_ofCargo_5 rfl rfl (fun c5 => ?_) (fun c5 => ?_)
  · skip
    have hin := c5
    obtain ⟨a, ha, rfl⟩ := ixn_of c5 (by omega)
    have hca : (nI a).toNatClampNeg = a := nI_clamp (by omega)
    refine aw_aload_n dX3_ofCargo_10 rfl rfl ?_
    refine aw_getR dX3_ofCargo_11 rfl rfl rfl (by decide) flX3_17 ?_
    refine aw_iload_n dX3_ofCargo_14 rfl rfl ?_
    refine aw_aald dX3_ofCargo_15 rfl rfl (by decide) (by first | exact (show vp_in _ 6 from vp_in_nI (by omega) (by omega)) | exact (show vp_in _ 4 from vp_in_nI (by omega) (by omega))) ?_
    try simp only [hca]
    refine aw_astore_n dX3_ofCargo_16 rfl (by decide) ?_
    show AW _ mX3_ofCargo 17 [_, _, _, _] _ _ _
    refine aw_iload_n dX3_ofCargo_17 rfl rfl ?_
    refine aw_tsw 8 dX3_ofCargo_18 rfl (by decide) (by decide) (fun j hj sx => ?_) (fun sx => ?_)
    · match j, hj with
      | 0, _ =>
        refine AW.conv (pc := 64) ?_ rfl rfl rfl
        refine aw_aload_n dX3_ofCargo_64 rfl rfl ?_
        refine aw_getI dX3_ofCargo_65 rfl rfl rfl flX3_99 ?_
        refine aw_ret dX3_ofCargo_68 rfl rfl ?_
        exact kk_c (k3 a ha rfl 0 (by decide) sx) rfl rfl
      | 1, _ =>
        refine AW.conv (pc := 69) ?_ rfl rfl rfl
        refine aw_aload_n dX3_ofCargo_69 rfl rfl ?_
        refine aw_getI dX3_ofCargo_70 rfl rfl rfl flX3_102 ?_
        refine aw_ret dX3_ofCargo_73 rfl rfl ?_
        exact kk_c (k3 a ha rfl 1 (by decide) sx) rfl rfl
      | 2, _ =>
        refine AW.conv (pc := 74) ?_ rfl rfl rfl
        refine aw_aload_n dX3_ofCargo_74 rfl rfl ?_
        refine aw_getI dX3_ofCargo_75 rfl rfl rfl flX3_105 ?_
        refine aw_ret dX3_ofCargo_78 rfl rfl ?_
        exact kk_c (k3 a ha rfl 2 (by decide) sx) rfl rfl
      | 3, _ =>
        refine AW.conv (pc := 79) ?_ rfl rfl rfl
        refine aw_aload_n dX3_ofCargo_79 rfl rfl ?_
        refine aw_getI dX3_ofCargo_80 rfl rfl rfl flX3_108 ?_
        refine aw_ret dX3_ofCargo_83 rfl rfl ?_
        exact kk_c (k3 a ha rfl 3 (by decide) sx) rfl rfl
      | 4, _ =>
        refine AW.conv (pc := 84) ?_ rfl rfl rfl
        refine aw_aload_n dX3_ofCargo_84 rfl rfl ?_
        refine aw_getI dX3_ofCargo_85 rfl rfl rfl flX3_111 ?_
        refine aw_ret dX3_ofCargo_88 rfl rfl ?_
        exact kk_c (k3 a ha rfl 4 (by decide) sx) rfl rfl
      | 5, _ =>
        refine AW.conv (pc := 89) ?_ rfl rfl rfl
        refine aw_aload_n dX3_ofCargo_89 rfl rfl ?_
        refine aw_getI dX3_ofCargo_90 rfl rfl rfl flX3_114 ?_
        refine aw_ret dX3_ofCargo_93 rfl rfl ?_
        exact kk_c (k3 a ha rfl 5 (by decide) sx) rfl rfl
      | 6, _ =>
        refine AW.conv (pc := 94) ?_ rfl rfl rfl
        refine aw_aload_n dX3_ofCargo_94 rfl rfl ?_
        refine aw_aload_n dX3_ofCargo_95 rfl rfl ?_
        refine aw_V1 (M' := mX3_tanksThatSuit) dX3_ofCargo_96 rfl lkX3_130 gX3_tanksThatSuit rfl rfl (Nat.le_of_ble_eq_true rfl) (sX3_tanksThatSuit (by omega) hn h0 hCoat hLat ?_)
        show AW _ mX3_ofCargo 99 _ (_ :: _) _ _
        refine aw_ret dX3_ofCargo_99 rfl rfl ?_
        exact kk_c (k3 a ha rfl 6 (by decide) sx) rfl rfl
      | 7, _ =>
        refine AW.conv (pc := 100) ?_ rfl rfl rfl
        refine aw_aload_n dX3_ofCargo_100 rfl rfl ?_
        refine aw_aload_n dX3_ofCargo_101 rfl rfl ?_
        refine aw_V1 (M' := mX3_cargoesThatClash) dX3_ofCargo_102 rfl lkX3_134 gX3_cargoesThatClash rfl rfl (Nat.le_of_ble_eq_true rfl) (sX3_cargoesThatClash (by omega) hc h9 hLiq ?_)
        show AW _ mX3_ofCargo 105 _ (_ :: _) _ _
        refine aw_ret dX3_ofCargo_105 rfl rfl ?_
        exact kk_c (k3 a ha rfl 7 (by decide) sx) rfl rfl
      | j + 8, hj => exact absurd hj (by omega)
    · refine AW.conv (pc := 106) ?_ rfl rfl rfl
      refine aw_bipush (-2) dX3_ofCargo_106 rfl (by decide) ?_
      refine aw_ret dX3_ofCargo_108 rfl rfl ?_
      exact k2 hin sx
  · skip
    refine aw_iconst (-1) dX3_ofCargo_8 rfl (by decide) ?_
    refine aw_ret dX3_ofCargo_9 rfl rfl ?_
    exact k1 c5
set_option maxRecDepth 4000 in
theorem sX3_needs {d : Nat} {σ : SS} {K : ax_K} {t c : Int32} {n cn : Nat} (hn : n ≤ 6) (h0 : σ 0 0 7 = nI n) (hc : cn ≤ 4) (h9 : σ 0 0 8 = nI cn) (hCoat : ∀ t, t < 6 → 0 ≤ σ 8 t 1) (hLat : ∀ t k, t < 6 → k < 3 → lt9 (σ 9 t k)) (hLiq : ∀ c, c < 4 → ∃ j, j < 8 ∧ σ 10 c 0 = nI j) (k1 : ¬ (ixn t n ∧ ixn c cn) → K (some (-1)) σ) (k2 : ∀ a b, a < n → b < cn → t = nI a → c = nI b → K (some (wfS (vw σ) a b)) σ) : AW (d + 3) mX3_needs 0 (ax_en mX3_needs [.inr (0, 0), .inl t, .inl c]) [] σ K := by
  show AW _ mX3_needs 0 [_, _, _] _ _ _
  refine aw_aload_n dX3_needs_0 rfl rfl ?_
  refine aw_iload_n dX3_needs_1 rfl rfl ?_
  refine aw_V1 (M' := mX3_isTank) dX3_needs_2 rfl lkX3_83 gX3_isTank rfl rfl (Nat.le_of_ble_eq_true rfl) (sX3_isTank hn h0 ?_)
  show AW _ mX3_needs 5 _ (_ :: _) _ _
  refine aw_if_eqb (tgt := 16) dX3_needs_5 rfl rfl (fun c5 => ?_) (fun c5 => ?_)
  · skip
    refine aw_iconst (-1) dX3_needs_16 rfl (by decide) ?_
    refine aw_ret dX3_needs_17 rfl rfl ?_
    exact k1 (fun z => by first | exact c5 z.1 | exact c13 z.2)
  · skip
    refine aw_aload_n dX3_needs_8 rfl rfl ?_
    refine aw_iload_n dX3_needs_9 rfl rfl ?_
    refine aw_V1 (M' := mX3_isCargo) dX3_needs_10 rfl lkX3_121 gX3_isCargo rfl rfl (Nat.le_of_ble_eq_true rfl) (sX3_isCargo hc h9 ?_)
    show AW _ mX3_needs 13 _ (_ :: _) _ _
    refine aw_if_neb (tgt := 18) dX3_needs_13 rfl rfl (fun c13 => ?_) (fun c13 => ?_)
    · skip
      obtain ⟨a, ha, rfl⟩ := ixn_of c5 (by omega)
      obtain ⟨b, hb, rfl⟩ := ixn_of c13 (by omega)
      have hca : (nI a).toNatClampNeg = a := nI_clamp (by omega)
      have hcb : (nI b).toNatClampNeg = b := nI_clamp (by omega)
      refine aw_aload_n dX3_needs_18 rfl rfl ?_
      refine aw_aload_n dX3_needs_19 rfl rfl ?_
      refine aw_getR dX3_needs_20 rfl rfl rfl (by decide) flX3_11 ?_
      refine aw_iload_n dX3_needs_23 rfl rfl ?_
      refine aw_aald dX3_needs_24 rfl rfl (by decide) (by first | exact (show vp_in _ 6 from vp_in_nI (by omega) (by omega)) | exact (show vp_in _ 4 from vp_in_nI (by omega) (by omega))) ?_
      try simp only [hca]
      try simp only [hcb]
      refine aw_aload_n dX3_needs_25 rfl rfl ?_
      refine aw_getR dX3_needs_26 rfl rfl rfl (by decide) flX3_17 ?_
      refine aw_iload_n dX3_needs_29 rfl rfl ?_
      refine aw_aald dX3_needs_30 rfl rfl (by decide) (by first | exact (show vp_in _ 6 from vp_in_nI (by omega) (by omega)) | exact (show vp_in _ 4 from vp_in_nI (by omega) (by omega))) ?_
      try simp only [hca]
      try simp only [hcb]
      refine aw_V2 (M' := mX3_washesNeeded) dX3_needs_31 rfl lkX3_137 gX3_washesNeeded rfl rfl (Nat.le_of_ble_eq_true rfl) (sX3_washesNeeded (by omega) (by omega) hLat hLiq ?_)
      show AW _ mX3_needs 34 _ (_ :: _) _ _
      refine aw_ret dX3_needs_34 rfl rfl ?_
      exact k2 a b ha hb rfl rfl
    · skip
      refine aw_iconst (-1) dX3_needs_16 rfl (by decide) ?_
      refine aw_ret dX3_needs_17 rfl rfl ?_
      exact k1 (fun z => by first | exact c5 z.1 | exact c13 z.2)
set_option maxRecDepth 4000 in
theorem sX3_why {d : Nat} {σ : SS} {K : ax_K} {t c : Int32} {n cn : Nat} (hn : n ≤ 6) (h0 : σ 0 0 7 = nI n) (hc : cn ≤ 4) (h9 : σ 0 0 8 = nI cn) (hCoat : ∀ t, t < 6 → 0 ≤ σ 8 t 1) (hLat : ∀ t k, t < 6 → k < 3 → lt9 (σ 9 t k)) (hLiq : ∀ c, c < 4 → ∃ j, j < 8 ∧ σ 10 c 0 = nI j) (k1 : ¬ (ixn t n ∧ ixn c cn) → K (some (-1)) σ) (k2 : ∀ a b, a < n → b < cn → t = nI a → c = nI b → K (some (whyS (vw σ) a b)) σ) : AW (d + 2) mX3_why 0 (ax_en mX3_why [.inr (0, 0), .inl t, .inl c]) [] σ K := by
  show AW _ mX3_why 0 [_, _, _] _ _ _
  refine aw_aload_n dX3_why_0 rfl rfl ?_
  refine aw_iload_n dX3_why_1 rfl rfl ?_
  refine aw_V1 (M' := mX3_isTank) dX3_why_2 rfl lkX3_83 gX3_isTank rfl rfl (Nat.le_of_ble_eq_true rfl) (sX3_isTank hn h0 ?_)
  show AW _ mX3_why 5 _ (_ :: _) _ _
  refine aw_if_eqb (tgt := 16) dX3_why_5 rfl rfl (fun c5 => ?_) (fun c5 => ?_)
  · skip
    refine aw_iconst (-1) dX3_why_16 rfl (by decide) ?_
    refine aw_ret dX3_why_17 rfl rfl ?_
    exact k1 (fun z => by first | exact c5 z.1 | exact c13 z.2)
  · skip
    refine aw_aload_n dX3_why_8 rfl rfl ?_
    refine aw_iload_n dX3_why_9 rfl rfl ?_
    refine aw_V1 (M' := mX3_isCargo) dX3_why_10 rfl lkX3_121 gX3_isCargo rfl rfl (Nat.le_of_ble_eq_true rfl) (sX3_isCargo hc h9 ?_)
    show AW _ mX3_why 13 _ (_ :: _) _ _
    refine aw_if_neb (tgt := 18) dX3_why_13 rfl rfl (fun c13 => ?_) (fun c13 => ?_)
    · skip
      obtain ⟨a, ha, rfl⟩ := ixn_of c5 (by omega)
      obtain ⟨b, hb, rfl⟩ := ixn_of c13 (by omega)
      have hca : (nI a).toNatClampNeg = a := nI_clamp (by omega)
      have hcb : (nI b).toNatClampNeg = b := nI_clamp (by omega)
      refine aw_aload_n dX3_why_18 rfl rfl ?_
      refine aw_aload_n dX3_why_19 rfl rfl ?_
      refine aw_getR dX3_why_20 rfl rfl rfl (by decide) flX3_11 ?_
      refine aw_iload_n dX3_why_23 rfl rfl ?_
      refine aw_aald dX3_why_24 rfl rfl (by decide) (by first | exact (show vp_in _ 6 from vp_in_nI (by omega) (by omega)) | exact (show vp_in _ 4 from vp_in_nI (by omega) (by omega))) ?_
      try simp only [hca]
      try simp only [hcb]
      refine aw_aload_n dX3_why_25 rfl rfl ?_
      refine aw_getR dX3_why_26 rfl rfl rfl (by decide) flX3_17 ?_
      refine aw_iload_n dX3_why_29 rfl rfl ?_
      refine aw_aald dX3_why_30 rfl rfl (by decide) (by first | exact (show vp_in _ 6 from vp_in_nI (by omega) (by omega)) | exact (show vp_in _ 4 from vp_in_nI (by omega) (by omega))) ?_
      try simp only [hca]
      try simp only [hcb]
      refine aw_V2 (M' := mX3_faults) dX3_why_31 rfl lkX3_141 gX3_faults rfl rfl (Nat.le_of_ble_eq_true rfl) (sX3_faults (by omega) (hCoat _ (by omega)) hLat ?_)
      show AW _ mX3_why 34 _ (_ :: _) _ _
      refine aw_ret dX3_why_34 rfl rfl ?_
      exact k2 a b ha hb rfl rfl
    · skip
      refine aw_iconst (-1) dX3_why_16 rfl (by decide) ?_
      refine aw_ret dX3_why_17 rfl rfl ?_
      exact k1 (fun z => by first | exact c5 z.1 | exact c13 z.2)
set_option maxRecDepth 4000 in
theorem sX3_plan {d : Nat} {σ : SS} {K : ax_K} {t c : Int32} {n cn : Nat} (hn : n ≤ 6) (h0 : σ 0 0 7 = nI n) (hc : cn ≤ 4) (h9 : σ 0 0 8 = nI cn) (k1 : ¬ (ixn t n ∧ (c = -9 ∨ ixn c cn)) → K (some (-1)) σ) (k2 : ∀ a, a < n → t = nI a → (c = -9 ∨ ixn c cn) → K (some (σ 5 0 a)) (rp σ 5 0 (upd (σ 5 0) a c))) : AW (d + 1) mX3_plan 0 (ax_en mX3_plan [.inr (0, 0), .inl t, .inl c]) [] σ K := by
  show AW _ mX3_plan 0 [_, _, _, _] _ _ _
  refine aw_aload_n dX3_plan_0 rfl rfl ?_
  refine aw_iload_n dX3_plan_1 rfl rfl ?_
  refine aw_V1 (M' := mX3_isTank) dX3_plan_2 rfl lkX3_83 gX3_isTank rfl rfl (Nat.le_of_ble_eq_true rfl) (sX3_isTank hn h0 ?_)
  show AW _ mX3_plan 5 _ (_ :: _) _ _
  refine aw_if_eqb (tgt := 22) dX3_plan_5 rfl rfl (fun c5 => ?_) (fun c5 => ?_)
  · skip
    refine aw_iconst (-1) dX3_plan_22 rfl (by decide) ?_
    refine aw_ret dX3_plan_23 rfl rfl ?_
    exact k1 (fun z => by first | exact c5 z.1 | exact z.2.elim c11 c19)
  · skip
    refine aw_iload_n dX3_plan_8 rfl rfl ?_
    refine aw_bipush (-9) dX3_plan_9 rfl (by decide) ?_
    refine aw_icmp_eq (tgt := 24) dX3_plan_11 rfl rfl (fun c11 => ?_) (fun c11 => ?_)
    · skip
      obtain ⟨a, ha, rfl⟩ := ixn_of c5 (by omega)
      have hca : (nI a).toNatClampNeg = a := nI_clamp (by omega)
      refine aw_aload_n dX3_plan_24 rfl rfl ?_
      refine aw_getR dX3_plan_25 rfl rfl rfl (by decide) flX3_32 ?_
      refine aw_iload_n dX3_plan_28 rfl rfl ?_
      refine aw_iald dX3_plan_29 rfl rfl (by first | exact vp_in_nI (by omega) (by omega) | exact vp_in_iff.mpr (by decide)) ?_
      refine aw_istore_n dX3_plan_30 rfl (by decide) ?_
      show AW _ mX3_plan 31 [_, _, _, _] _ _ _
      refine aw_aload_n dX3_plan_31 rfl rfl ?_
      refine aw_getR dX3_plan_32 rfl rfl rfl (by decide) flX3_32 ?_
      refine aw_iload_n dX3_plan_35 rfl rfl ?_
      refine aw_iload_n dX3_plan_36 rfl rfl ?_
      refine aw_iast dX3_plan_37 rfl rfl (by first | exact vp_in_nI (by omega) (by omega) | exact vp_in_iff.mpr (by decide)) ?_
      refine aw_iload_n dX3_plan_38 rfl rfl ?_
      refine aw_ret dX3_plan_39 rfl rfl ?_
      exact kk_c (k2 a ha rfl (by first | exact Or.inl (by assumption) | exact Or.inr (by assumption))) (by rw [hca]) (by rw [hca])
    · skip
      refine aw_aload_n dX3_plan_14 rfl rfl ?_
      refine aw_iload_n dX3_plan_15 rfl rfl ?_
      refine aw_V1 (M' := mX3_isCargo) dX3_plan_16 rfl lkX3_121 gX3_isCargo rfl rfl (Nat.le_of_ble_eq_true rfl) (sX3_isCargo hc h9 ?_)
      show AW _ mX3_plan 19 _ (_ :: _) _ _
      refine aw_if_neb (tgt := 24) dX3_plan_19 rfl rfl (fun c19 => ?_) (fun c19 => ?_)
      · skip
        obtain ⟨a, ha, rfl⟩ := ixn_of c5 (by omega)
        have hca : (nI a).toNatClampNeg = a := nI_clamp (by omega)
        refine aw_aload_n dX3_plan_24 rfl rfl ?_
        refine aw_getR dX3_plan_25 rfl rfl rfl (by decide) flX3_32 ?_
        refine aw_iload_n dX3_plan_28 rfl rfl ?_
        refine aw_iald dX3_plan_29 rfl rfl (by first | exact vp_in_nI (by omega) (by omega) | exact vp_in_iff.mpr (by decide)) ?_
        refine aw_istore_n dX3_plan_30 rfl (by decide) ?_
        show AW _ mX3_plan 31 [_, _, _, _] _ _ _
        refine aw_aload_n dX3_plan_31 rfl rfl ?_
        refine aw_getR dX3_plan_32 rfl rfl rfl (by decide) flX3_32 ?_
        refine aw_iload_n dX3_plan_35 rfl rfl ?_
        refine aw_iload_n dX3_plan_36 rfl rfl ?_
        refine aw_iast dX3_plan_37 rfl rfl (by first | exact vp_in_nI (by omega) (by omega) | exact vp_in_iff.mpr (by decide)) ?_
        refine aw_iload_n dX3_plan_38 rfl rfl ?_
        refine aw_ret dX3_plan_39 rfl rfl ?_
        exact kk_c (k2 a ha rfl (by first | exact Or.inl (by assumption) | exact Or.inr (by assumption))) (by rw [hca]) (by rw [hca])
      · skip
        refine aw_iconst (-1) dX3_plan_22 rfl (by decide) ?_
        refine aw_ret dX3_plan_23 rfl rfl ?_
        exact k1 (fun z => by first | exact c5 z.1 | exact z.2.elim c11 c19)
set_option maxRecDepth 4000 in
theorem sX3_many {d : Nat} {σ : SS} {K : ax_K} {w : Int32} {n : Nat} (hn : n ≤ 6) (h0 : σ 0 0 7 = nI n) (k1 : (∀ j, j < 5 → w ≠ nI j) → K (some (-2)) σ) (k2 : ∀ j, j < 5 → w = nI j → K (some (manyM (vw σ) n j)) σ) : AW (d + 2) mX3_many 0 (ax_en mX3_many [.inr (0, 0), .inl w]) [] σ K := by
  show AW _ mX3_many 0 [_, _] _ _ _
  refine aw_iload_n dX3_many_0 rfl rfl ?_
  refine aw_tsw 5 dX3_many_1 rfl (by decide) (by decide) (fun j hj sx => ?_) (fun sx => ?_)
  · match j, hj with
    | 0, _ =>
      refine AW.conv (pc := 36) ?_ rfl rfl rfl
      refine aw_aload_n dX3_many_36 rfl rfl ?_
      refine aw_getI dX3_many_37 rfl rfl rfl flX3_41 ?_
      refine aw_ret dX3_many_40 rfl rfl ?_
      exact k2 0 (by decide) sx
    | 1, _ =>
      refine AW.conv (pc := 41) ?_ rfl rfl rfl
      refine aw_aload_n dX3_many_41 rfl rfl ?_
      refine aw_getI dX3_many_42 rfl rfl rfl flX3_45 ?_
      refine aw_ret dX3_many_45 rfl rfl ?_
      exact k2 1 (by decide) sx
    | 2, _ =>
      refine AW.conv (pc := 46) ?_ rfl rfl rfl
      refine aw_aload_n dX3_many_46 rfl rfl ?_
      refine aw_V0 (M' := mX3_tanksInUse) dX3_many_47 rfl lkX3_206 gX3_tanksInUse rfl rfl (Nat.le_of_ble_eq_true rfl) (sX3_tanksInUse hn h0 ?_)
      show AW _ mX3_many 50 _ (_ :: _) _ _
      refine aw_ret dX3_many_50 rfl rfl ?_
      exact k2 2 (by decide) sx
    | 3, _ =>
      refine AW.conv (pc := 51) ?_ rfl rfl rfl
      refine aw_aload_n dX3_many_51 rfl rfl ?_
      refine aw_getI dX3_many_52 rfl rfl rfl flX3_51 ?_
      refine aw_ret dX3_many_55 rfl rfl ?_
      exact k2 3 (by decide) sx
    | 4, _ =>
      refine AW.conv (pc := 56) ?_ rfl rfl rfl
      refine aw_aload_n dX3_many_56 rfl rfl ?_
      refine aw_V0 (M' := mX3_heldList) dX3_many_57 rfl lkX3_217 gX3_heldList rfl rfl (Nat.le_of_ble_eq_true rfl) (sX3_heldList hn h0 ?_)
      show AW _ mX3_many 60 _ (_ :: _) _ _
      refine aw_ldc dX3_many_60 rfl kcX3_181 ?_
      refine aw_iadd dX3_many_62 rfl ?_
      refine aw_ret dX3_many_63 rfl rfl ?_
      exact k2 4 (by decide) sx
    | j + 5, hj => exact absurd hj (by omega)
  · refine AW.conv (pc := 64) ?_ rfl rfl rfl
    refine aw_bipush (-2) dX3_many_64 rfl (by decide) ?_
    refine aw_ret dX3_many_66 rfl rfl ?_
    exact k1 sx
