set_option maxRecDepth 4000 in
theorem sX3_load_22 {d : Nat} {σ1 : SS} {K : ax_K} {n s : Nat} (hn : n ≤ 6) (h01 : σ1 0 0 7 = nI n) (hs16 : s < 16) (hK : K (some (σ1 23 0 s)) (rp (lcS σ1 n s n) 0 0 (upd (σ1 0 0) 10 (σ1 0 0 10 + σ1 23 0 s)))) : AW d mX3_load 22 [some (.inr (0, 0)), some (.inl (nI s)), none] [] σ1 K := by
  have hcs : (nI s).toNatClampNeg = s := nI_clamp (by omega)
  show AW _ mX3_load 22 [_, _, _] _ _ _
  refine aw_iconst 0 dX3_load_22 rfl (by decide) ?_
  refine aw_istore_n dX3_load_23 rfl (by decide) ?_
  show AW _ mX3_load 24 [_, _, _] _ _ _
  refine AW.conv (ax_loop (P := fun i => AW d mX3_load 24 [some (.inr (0, 0)), some (.inl (nI s)), some (.inl (nI i))] [] (lcS σ1 n s i) K) n ?_ ?_ 0 (Nat.zero_le _)) (by first | (simp only [nI_0]; done) | (simp only [nI_0]; rfl)) rfl rfl
  · try dsimp only
    refine aw_iload_n dX3_load_24 rfl rfl ?_
    refine aw_aload_n dX3_load_25 rfl rfl ?_
    refine aw_getI dX3_load_26 rfl rfl rfl flX3_41 ?_
    refine aw_icmp_ge (tgt := 84) dX3_load_29 rfl rfl (fun _ => ?_) (fun z => absurd (by rw [lcS_k (by decide), h01]; exact Int32.le_refl _) z)
    refine aw_aload_n dX3_load_84 rfl rfl ?_
    refine aw_dup dX3_load_85 rfl ?_
    refine aw_getI dX3_load_86 rfl rfl rfl flX3_51 ?_
    refine aw_aload_n dX3_load_89 rfl rfl ?_
    refine aw_getR dX3_load_90 rfl rfl rfl (by decide) flX3_28 ?_
    refine aw_getR dX3_load_93 rfl rfl rfl (by decide) flX3_194 ?_
    refine aw_iload_n dX3_load_96 rfl rfl ?_
    refine aw_iald dX3_load_97 rfl rfl (by first | exact vp_in_nI (by omega) (by omega) | exact vp_in_iff.mpr (by decide)) ?_
    try simp only [hci]
    try simp only [hcs]
    try simp only [hc6]
    refine aw_iadd dX3_load_98 rfl ?_
    refine aw_putI dX3_load_99 rfl rfl rfl flX3_51 (pf_3_10 _) ?_
    refine aw_aload_n dX3_load_102 rfl rfl ?_
    refine aw_getR dX3_load_103 rfl rfl rfl (by decide) flX3_28 ?_
    refine aw_getR dX3_load_106 rfl rfl rfl (by decide) flX3_194 ?_
    refine aw_iload_n dX3_load_109 rfl rfl ?_
    refine aw_iald dX3_load_110 rfl rfl (by first | exact vp_in_nI (by omega) (by omega) | exact vp_in_iff.mpr (by decide)) ?_
    try simp only [hci]
    try simp only [hcs]
    try simp only [hc6]
    refine aw_ret dX3_load_111 rfl rfl ?_
    refine kk_c hK ?_ ?_
    · rw [rp_nk (by decide), lcS_k (by decide)]
    · rw [lcS_k (by decide), lcS_k (by decide)]
  · intro i hi_24 nx_24
    try dsimp only at nx_24 ⊢
    have hci : (nI i).toNatClampNeg = i := nI_clamp (by omega)
    have hc6 : (nI (6 * s + i)).toNatClampNeg = 6 * s + i := nI_clamp (by omega)
    refine aw_iload_n dX3_load_24 rfl rfl ?_
    refine aw_aload_n dX3_load_25 rfl rfl ?_
    refine aw_getI dX3_load_26 rfl rfl rfl flX3_41 ?_
    refine aw_icmp_ge (tgt := 84) dX3_load_29 rfl rfl (fun z => absurd z (by rw [lcS_k (by decide), h01]; exact nI_ge hi_24 (by omega))) (fun _ => ?_)
    refine aw_aload_n dX3_load_32 rfl rfl ?_
    refine aw_getR dX3_load_33 rfl rfl rfl (by decide) flX3_11 ?_
    refine aw_iload_n dX3_load_36 rfl rfl ?_
    refine aw_aald dX3_load_37 rfl rfl (by decide) (by first | exact (show vp_in _ 6 from vp_in_nI (by omega) (by omega)) | exact (show vp_in _ 4 from vp_in_nI (by omega) (by omega))) ?_
    try simp only [hci]
    try simp only [hcs]
    try simp only [hc6]
    refine aw_aload_n dX3_load_38 rfl rfl ?_
    refine aw_getR dX3_load_39 rfl rfl rfl (by decide) flX3_28 ?_
    refine aw_getR dX3_load_42 rfl rfl rfl (by decide) flX3_191 ?_
    refine aw_iload_n dX3_load_45 rfl rfl ?_
    refine aw_bipush 6 dX3_load_46 rfl (by decide) ?_
    refine aw_imul dX3_load_48 rfl ?_
    refine aw_iload_n dX3_load_49 rfl rfl ?_
    refine aw_iadd dX3_load_50 rfl ?_
    rw [ix6]
    refine aw_iald dX3_load_51 rfl rfl (by first | exact vp_in_nI (by omega) (by omega) | exact vp_in_iff.mpr (by decide)) ?_
    try simp only [hci]
    try simp only [hcs]
    try simp only [hc6]
    refine aw_putI dX3_load_52 rfl rfl rfl flX3_124 (pf_2_5 _) ?_
    refine aw_aload_n dX3_load_55 rfl rfl ?_
    refine aw_getR dX3_load_56 rfl rfl rfl (by decide) flX3_11 ?_
    refine aw_iload_n dX3_load_59 rfl rfl ?_
    refine aw_aald dX3_load_60 rfl rfl (by decide) (by first | exact (show vp_in _ 6 from vp_in_nI (by omega) (by omega)) | exact (show vp_in _ 4 from vp_in_nI (by omega) (by omega))) ?_
    try simp only [hci]
    try simp only [hcs]
    try simp only [hc6]
    refine aw_aload_n dX3_load_61 rfl rfl ?_
    refine aw_getR dX3_load_62 rfl rfl rfl (by decide) flX3_28 ?_
    refine aw_getR dX3_load_65 rfl rfl rfl (by decide) flX3_188 ?_
    refine aw_iload_n dX3_load_68 rfl rfl ?_
    refine aw_bipush 6 dX3_load_69 rfl (by decide) ?_
    refine aw_imul dX3_load_71 rfl ?_
    refine aw_iload_n dX3_load_72 rfl rfl ?_
    refine aw_iadd dX3_load_73 rfl ?_
    rw [ix6]
    refine aw_iald dX3_load_74 rfl rfl (by first | exact vp_in_nI (by omega) (by omega) | exact vp_in_iff.mpr (by decide)) ?_
    try simp only [hci]
    try simp only [hcs]
    try simp only [hc6]
    refine aw_putI dX3_load_75 rfl rfl rfl flX3_127 (pf_2_6 _) ?_
    refine aw_iinc dX3_load_78 rfl rfl (ii_1 _) (by decide) ?_
    show AW _ mX3_load 81 [_, _, _] _ _ _
    refine aw_goto (q := 24) dX3_load_81 rfl ?_
    refine AW.conv nx_24 (by first | (simp only [nI_succ i]; done) | (simp only [nI_succ i]; rfl)) rfl ?_
    rw [lcS_s]
    simp only [rp_nk, rp_at, rp_rp, pk_us, ne_eq, Nat.reduceEqDiff, not_false_eq_true, lcS_k (show (26 : Nat) ≠ 8 by decide), lcS_k (show (27 : Nat) ≠ 8 by decide)]
set_option maxRecDepth 4000 in
theorem sX3_load {d : Nat} {σ : SS} {K : ax_K} {n cn : Nat} (hn : n ≤ 6) (h0 : σ 0 0 7 = nI n) (hc : cn ≤ 4) (h9 : σ 0 0 8 = nI cn) (hCoat : ∀ t, t < 6 → 0 ≤ σ 8 t 1) (hLat : ∀ t k, t < 6 → k < 3 → lt9 (σ 9 t k)) (hLiq : ∀ c, c < 4 → ∃ j, j < 8 ∧ σ 10 c 0 = nI j) (k1 : 0 < σ 0 0 7 - cntI n (fun t => σ 8 t 5 = -9) → K (some (-3)) σ) (k2 : ¬ 0 < σ 0 0 7 - cntI n (fun t => σ 8 t 5 = -9) → ∀ σ1, SRn σ σ1 n cn → (tcS σ1 cn (2 ^ cn - 1)).1 = 0 → K (some (-3)) σ1) (k3 : ¬ 0 < σ 0 0 7 - cntI n (fun t => σ 8 t 5 = -9) → ∀ σ1, SRn σ σ1 n cn → ¬ (tcS σ1 cn (2 ^ cn - 1)).1 = 0 → K (some (σ1 23 0 (tcS σ1 cn (2 ^ cn - 1)).1)) (rp (lcS σ1 n (tcS σ1 cn (2 ^ cn - 1)).1 n) 0 0 (upd (σ1 0 0) 10 (σ1 0 0 10 + σ1 23 0 (tcS σ1 cn (2 ^ cn - 1)).1)))) : AW (d + 14) mX3_load 0 (ax_en mX3_load [.inr (0, 0)]) [] σ K := by
  have hp2 : 2 ^ cn ≤ 16 := Nat.le_trans (Nat.pow_le_pow_right (by decide) hc) (by decide)
  have hp1 : 1 ≤ 2 ^ cn := Nat.one_le_two_pow
  show AW _ mX3_load 0 [_, _, _] _ _ _
  refine aw_aload_n dX3_load_0 rfl rfl ?_
  refine aw_V0 (M' := mX3_tanksInUse) dX3_load_1 rfl lkX3_206 gX3_tanksInUse rfl rfl (Nat.le_of_ble_eq_true rfl) (AW.up (sX3_tanksInUse (d := 0) hn h0 ?_) (by omega))
  show AW _ mX3_load 4 _ (_ :: _) _ _
  refine aw_if_le (tgt := 10) dX3_load_4 rfl rfl (fun c4 => ?_) (fun c4 => ?_)
  · skip
    refine aw_aload_n dX3_load_10 rfl rfl ?_
    refine aw_V0 (M' := mX3_takenSet) dX3_load_11 rfl lkX3_203 gX3_takenSet rfl rfl (Nat.le_of_ble_eq_true rfl) (sX3_takenSet hn h0 hc h9 hCoat hLat hLiq (fun σ1 hsr => ?_))
    show AW _ mX3_load 14 _ (_ :: _) _ _
    refine aw_istore_n dX3_load_14 rfl (by decide) ?_
    show AW _ mX3_load 15 [_, _, _] _ _ _
    refine aw_iload_n dX3_load_15 rfl rfl ?_
    refine aw_if_ne (tgt := 22) dX3_load_16 rfl rfl (fun c16 => ?_) (fun c16 => ?_)
    · skip
      have hle := tcS_le σ1 cn (2 ^ cn - 1)
      exact sX3_load_22 hn ((SRn_0 hsr (by decide)).trans h0) (by omega) (k3 (Int32.not_lt.mpr c4) σ1 hsr (fun z => c16 (by rw [z]; decide)))
    · skip
      refine aw_bipush (-3) dX3_load_19 rfl (by decide) ?_
      refine aw_ret dX3_load_21 rfl rfl ?_
      have hle := tcS_le σ1 cn (2 ^ cn - 1)
      have hz : (tcS σ1 cn (2 ^ cn - 1)).1 = 0 := by
        rcases Nat.eq_zero_or_pos (tcS σ1 cn (2 ^ cn - 1)).1 with h | h
        · exact h
        · exact absurd c16 (nI_ne0 h (by omega))
      exact k2 (Int32.not_lt.mpr c4) σ1 hsr hz
  · skip
    refine aw_bipush (-3) dX3_load_7 rfl (by decide) ?_
    refine aw_ret dX3_load_9 rfl rfl ?_
    exact k1 (Int32.not_le.mp c4)
set_option maxRecDepth 4000 in
theorem sX3_best_52 {d : Nat} {σ : SS} {K : ax_K} {w e : Int32} {n cn s : Nat} (hn : n ≤ 6) (h0 : σ 0 0 7 = nI n) (hc : cn ≤ 4) (h9 : σ 0 0 8 = nI cn) (hCoat : ∀ t, t < 6 → 0 ≤ σ 8 t 1) (hLat : ∀ t k, t < 6 → k < 3 → lt9 (σ 9 t k)) (hLiq : ∀ c, c < 4 → ∃ j, j < 8 ∧ σ 10 c 0 = nI j) (hs16 : s < 16) (hw : bwOK w n) (kk : ∀ σ1, SRn σ σ1 n cn → (w = 3 → K (some (σ1 22 0 s)) σ1) ∧ (¬ w = 3 → σ1 22 0 s = 0 → K (some (-9)) σ1) ∧ (¬ σ1 22 0 s = 0 → (w = 0 → K (some (σ1 23 0 s)) σ1) ∧ (w = 1 → K (some (σ1 24 0 s)) σ1) ∧ (w = 2 → K (some (σ1 25 0 s + 100000)) σ1) ∧ (∀ t, t < n → w = nI (10 + t) → K (some (σ1 26 0 (6 * s + t))) σ1) ∧ (∀ t, t < n → w = nI (20 + t) → K (some (σ1 27 0 (6 * s + t))) σ1))) : AW (d + 13) mX3_best 52 [some (.inr (0, 0)), some (.inl (nI s)), some (.inl w), some (.inl e)] [] σ K := by
  have hcs : (nI s).toNatClampNeg = s := nI_clamp (by omega)
  show AW _ mX3_best 52 [_, _, _, _] _ _ _
  refine aw_aload_n dX3_best_52 rfl rfl ?_
  refine aw_V0 (M' := mX3_searchIfStale) dX3_best_53 rfl lkX3_182 gX3_searchIfStale rfl rfl (Nat.le_of_ble_eq_true rfl) (sX3_searchI hn h0 hc h9 hCoat hLat hLiq (fun σ1 hsr => ?_))
  show AW _ mX3_best 56 _ _ _ _
  have h01 : σ1 0 0 7 = nI n := (SRn_0 hsr (by decide)).trans h0
  have kq0 := kk σ1 hsr
  refine aw_iload_n dX3_best_56 rfl rfl ?_
  refine aw_iconst 3 dX3_best_57 rfl (by decide) ?_
  refine aw_icmp_ne (tgt := 71) dX3_best_58 rfl rfl (fun c58 => ?_) (fun c58 => ?_)
  · skip
    refine aw_aload_n dX3_best_71 rfl rfl ?_
    refine aw_getR dX3_best_72 rfl rfl rfl (by decide) flX3_28 ?_
    refine aw_getR dX3_best_75 rfl rfl rfl (by decide) flX3_185 ?_
    refine aw_iload_n dX3_best_78 rfl rfl ?_
    refine aw_iald dX3_best_79 rfl rfl (by first | exact vp_in_nI (by omega) (by omega) | exact vp_in_iff.mpr (by decide)) ?_
    try simp only [hcs]
    try simp only [hct]
    refine aw_if_ne (tgt := 86) dX3_best_80 rfl rfl (fun c80 => ?_) (fun c80 => ?_)
    · skip
      have kq := kq0.2.2 c80
      refine aw_aload_n dX3_best_86 rfl rfl ?_
      refine aw_iload_n dX3_best_87 rfl rfl ?_
      refine aw_bipush 20 dX3_best_88 rfl (by decide) ?_
      refine aw_isub dX3_best_90 rfl ?_
      refine aw_V1 (M' := mX3_isTank) dX3_best_91 rfl lkX3_83 gX3_isTank rfl rfl (Nat.le_of_ble_eq_true rfl) (AW.up (sX3_isTank (d := 0) hn h01 ?_) (by omega))
      rw [(show (20 : Int32) = nI 20 by decide)]
      show AW _ mX3_best 94 _ (_ :: _) _ _
      refine aw_if_eqb (tgt := 115) dX3_best_94 rfl rfl (fun c94 => ?_) (fun c94 => ?_)
      · skip
        rw [bw_ix2 (by decide) hn] at c94
        refine aw_aload_n dX3_best_115 rfl rfl ?_
        refine aw_iload_n dX3_best_116 rfl rfl ?_
        refine aw_bipush 10 dX3_best_117 rfl (by decide) ?_
        refine aw_isub dX3_best_119 rfl ?_
        refine aw_V1 (M' := mX3_isTank) dX3_best_120 rfl lkX3_83 gX3_isTank rfl rfl (Nat.le_of_ble_eq_true rfl) (AW.up (sX3_isTank (d := 0) hn h01 ?_) (by omega))
        rw [(show (10 : Int32) = nI 10 by decide)]
        show AW _ mX3_best 123 _ (_ :: _) _ _
        refine aw_if_eqb (tgt := 144) dX3_best_123 rfl rfl (fun c123 => ?_) (fun c123 => ?_)
        · skip
          rw [bw_ix2 (by decide) hn] at c123
          refine aw_iload_n dX3_best_144 rfl rfl ?_
          have hw3 : w = 0 ∨ w = 1 ∨ w = 2 := by
            rcases hw with h | h | h
            · obtain ⟨j, hj, rfl⟩ := bd_of 3 (by decide) h
              match j, hj with
              | 0, _ => exact Or.inl (by decide)
              | 1, _ => exact Or.inr (Or.inl (by decide))
              | 2, _ => exact Or.inr (Or.inr (by decide))
              | 3, _ => exact absurd (by decide) c58
              | j + 4, hj => exact absurd hj (by omega)
            · exact absurd h c123
            · exact absurd h c94
          rcases hw3 with e0 | e1 | e2
          · subst e0
            refine aw_lookup (off := 27) (q := 172) dX3_best_145 (by decide) (by decide) (by decide) ?_
            refine aw_aload_n dX3_best_172 rfl rfl ?_
            refine aw_getR dX3_best_173 rfl rfl rfl (by decide) flX3_28 ?_
            refine aw_getR dX3_best_176 rfl rfl rfl (by decide) flX3_194 ?_
            refine aw_iload_n dX3_best_179 rfl rfl ?_
            refine aw_iald dX3_best_180 rfl rfl (by first | exact vp_in_nI (by omega) (by omega) | exact vp_in_iff.mpr (by decide)) ?_
            try simp only [hcs]
            refine aw_ret dX3_best_181 rfl rfl ?_
            exact kq.1 rfl
          · subst e1
            refine aw_lookup (off := 37) (q := 182) dX3_best_145 (by decide) (by decide) (by decide) ?_
            refine aw_aload_n dX3_best_182 rfl rfl ?_
            refine aw_getR dX3_best_183 rfl rfl rfl (by decide) flX3_28 ?_
            refine aw_getR dX3_best_186 rfl rfl rfl (by decide) flX3_197 ?_
            refine aw_iload_n dX3_best_189 rfl rfl ?_
            refine aw_iald dX3_best_190 rfl rfl (by first | exact vp_in_nI (by omega) (by omega) | exact vp_in_iff.mpr (by decide)) ?_
            try simp only [hcs]
            refine aw_ret dX3_best_191 rfl rfl ?_
            exact kq.2.1 rfl
          · subst e2
            refine aw_lookup (off := 47) (q := 192) dX3_best_145 (by decide) (by decide) (by decide) ?_
            refine aw_aload_n dX3_best_192 rfl rfl ?_
            refine aw_getR dX3_best_193 rfl rfl rfl (by decide) flX3_28 ?_
            refine aw_getR dX3_best_196 rfl rfl rfl (by decide) flX3_200 ?_
            refine aw_iload_n dX3_best_199 rfl rfl ?_
            refine aw_iald dX3_best_200 rfl rfl (by first | exact vp_in_nI (by omega) (by omega) | exact vp_in_iff.mpr (by decide)) ?_
            try simp only [hcs]
            refine aw_ldc dX3_best_201 rfl kcX3_181 ?_
            refine aw_iadd dX3_best_203 rfl ?_
            refine aw_ret dX3_best_204 rfl rfl ?_
            exact kq.2.2.1 rfl
        · skip
          rw [bw_ix2 (by decide) hn] at c123
          obtain ⟨t, ht, ew⟩ := c123
          have eix : nI s * 6 + w - 10 = nI (6 * s + t) := by rw [ew, ix6, show (10 : Int32) = nI 10 by decide, pk_sub (by omega)]; congr 1; omega
          have hct : (nI (6 * s + t)).toNatClampNeg = 6 * s + t := nI_clamp (by omega)
          refine aw_aload_n dX3_best_126 rfl rfl ?_
          refine aw_getR dX3_best_127 rfl rfl rfl (by decide) flX3_28 ?_
          refine aw_getR dX3_best_130 rfl rfl rfl (by decide) flX3_191 ?_
          refine aw_iload_n dX3_best_133 rfl rfl ?_
          refine aw_bipush 6 dX3_best_134 rfl (by decide) ?_
          refine aw_imul dX3_best_136 rfl ?_
          refine aw_iload_n dX3_best_137 rfl rfl ?_
          refine aw_iadd dX3_best_138 rfl ?_
          refine aw_bipush 10 dX3_best_139 rfl (by decide) ?_
          refine aw_isub dX3_best_141 rfl ?_
          rw [eix]
          refine aw_iald dX3_best_142 rfl rfl (by first | exact vp_in_nI (by omega) (by omega) | exact vp_in_iff.mpr (by decide)) ?_
          try simp only [hcs]
          try simp only [hct]
          refine aw_ret dX3_best_143 rfl rfl ?_
          exact kq.2.2.2.1 t ht ew
      · skip
        rw [bw_ix2 (by decide) hn] at c94
        obtain ⟨t, ht, ew⟩ := c94
        have eix : nI s * 6 + w - 20 = nI (6 * s + t) := by rw [ew, ix6, show (20 : Int32) = nI 20 by decide, pk_sub (by omega)]; congr 1; omega
        have hct : (nI (6 * s + t)).toNatClampNeg = 6 * s + t := nI_clamp (by omega)
        refine aw_aload_n dX3_best_97 rfl rfl ?_
        refine aw_getR dX3_best_98 rfl rfl rfl (by decide) flX3_28 ?_
        refine aw_getR dX3_best_101 rfl rfl rfl (by decide) flX3_188 ?_
        refine aw_iload_n dX3_best_104 rfl rfl ?_
        refine aw_bipush 6 dX3_best_105 rfl (by decide) ?_
        refine aw_imul dX3_best_107 rfl ?_
        refine aw_iload_n dX3_best_108 rfl rfl ?_
        refine aw_iadd dX3_best_109 rfl ?_
        refine aw_bipush 20 dX3_best_110 rfl (by decide) ?_
        refine aw_isub dX3_best_112 rfl ?_
        rw [eix]
        refine aw_iald dX3_best_113 rfl rfl (by first | exact vp_in_nI (by omega) (by omega) | exact vp_in_iff.mpr (by decide)) ?_
        try simp only [hcs]
        try simp only [hct]
        refine aw_ret dX3_best_114 rfl rfl ?_
        exact kq.2.2.2.2 t ht ew
    · skip
      refine aw_bipush (-9) dX3_best_83 rfl (by decide) ?_
      refine aw_ret dX3_best_85 rfl rfl ?_
      exact kq0.2.1 c58 c80
  · skip
    refine aw_aload_n dX3_best_61 rfl rfl ?_
    refine aw_getR dX3_best_62 rfl rfl rfl (by decide) flX3_28 ?_
    refine aw_getR dX3_best_65 rfl rfl rfl (by decide) flX3_185 ?_
    refine aw_iload_n dX3_best_68 rfl rfl ?_
    refine aw_iald dX3_best_69 rfl rfl (by first | exact vp_in_nI (by omega) (by omega) | exact vp_in_iff.mpr (by decide)) ?_
    try simp only [hcs]
    try simp only [hct]
    refine aw_ret dX3_best_70 rfl rfl ?_
    exact kq0.1 c58
set_option maxRecDepth 4000 in
theorem sX3_best_27 {d : Nat} {σ : SS} {K : ax_K} {v w e : Int32} {n cn : Nat} (hn : n ≤ 6) (h0 : σ 0 0 7 = nI n) (hc : cn ≤ 4) (h9 : σ 0 0 8 = nI cn) (he : ¬ e = 0 ↔ bw2 w n)
    (k1 : ¬ (ixn v (2 ^ cn) ∧ bwOK w n) → K (some (-2)) σ) (kk : ∀ s, s < 2 ^ cn → v = nI s → bwOK w n → AW (d + 13) mX3_best 52 [some (.inr (0, 0)), some (.inl (nI s)), some (.inl w), some (.inl e)] [] σ K) : AW (d + 13) mX3_best 27 [some (.inr (0, 0)), some (.inl v), some (.inl w), none] [.inl e] σ K := by
  show AW _ mX3_best 27 [_, _, _, _] _ _ _
  refine aw_istore_n dX3_best_27 rfl (by decide) ?_
  show AW _ mX3_best 28 [_, _, _, _] _ _ _
  refine aw_aload_n dX3_best_28 rfl rfl ?_
  refine aw_iload_n dX3_best_29 rfl rfl ?_
  refine aw_V1 (M' := mX3_isCargoSet) dX3_best_30 rfl lkX3_144 gX3_isCargoSet rfl rfl (Nat.le_of_ble_eq_true rfl) (AW.up (sX3_isCargoSet (d := 0) hc h9 ?_) (by omega))
  show AW _ mX3_best 33 _ (_ :: _) _ _
  refine aw_if_eqb (tgt := 49) dX3_best_33 rfl rfl (fun c33 => ?_) (fun c33 => ?_)
  · skip
    refine aw_bipush (-2) dX3_best_49 rfl (by decide) ?_
    refine aw_ret dX3_best_51 rfl rfl ?_
    refine k1 (fun z => ?_)
    first | exact c33 z.1 | exact z.2.elim c42 (fun q => he.mpr q c46)
  · skip
    refine aw_iload_n dX3_best_36 rfl rfl ?_
    refine aw_iconst 0 dX3_best_37 rfl (by decide) ?_
    refine aw_iconst 3 dX3_best_38 rfl (by decide) ?_
    refine aw_S3 (M' := mX3_within) dX3_best_39 rfl lkX3_60 gX3_within (Nat.le_of_ble_eq_true rfl) (AW.up (sX3_within (d := 0) ?_) (by omega))
    show AW _ mX3_best 42 _ (_ :: _) _ _
    refine aw_if_neb (tgt := 52) dX3_best_42 rfl rfl (fun c42 => ?_) (fun c42 => ?_)
    · skip
      obtain ⟨s, hs, rfl⟩ := ixn_of c33 (two_lt hc)
      exact kk s hs rfl (Or.inl c42)
    · skip
      refine aw_iload_n dX3_best_45 rfl rfl ?_
      refine aw_if_ne (tgt := 52) dX3_best_46 rfl rfl (fun c46 => ?_) (fun c46 => ?_)
      · skip
        obtain ⟨s, hs, rfl⟩ := ixn_of c33 (two_lt hc)
        exact kk s hs rfl (Or.inr (he.mp c46))
      · skip
        refine aw_bipush (-2) dX3_best_49 rfl (by decide) ?_
        refine aw_ret dX3_best_51 rfl rfl ?_
        refine k1 (fun z => ?_)
        first | exact c33 z.1 | exact z.2.elim c42 (fun q => he.mpr q c46)
set_option maxRecDepth 4000 in
theorem sX3_best {d : Nat} {σ : SS} {K : ax_K} {v w : Int32} {n cn : Nat} (hn : n ≤ 6) (h0 : σ 0 0 7 = nI n) (hc : cn ≤ 4) (h9 : σ 0 0 8 = nI cn) (k1 : ¬ (ixn v (2 ^ cn) ∧ bwOK w n) → K (some (-2)) σ)
    (kk : ∀ s, s < 2 ^ cn → v = nI s → bwOK w n → ∀ e : Int32, AW (d + 13) mX3_best 52 [some (.inr (0, 0)), some (.inl (nI s)), some (.inl w), some (.inl e)] [] σ K) : AW (d + 13) mX3_best 0 (ax_en mX3_best [.inr (0, 0), .inl v, .inl w]) [] σ K := by
  show AW _ mX3_best 0 [_, _, _, _] _ _ _
  refine aw_aload_n dX3_best_0 rfl rfl ?_
  refine aw_iload_n dX3_best_1 rfl rfl ?_
  refine aw_bipush 10 dX3_best_2 rfl (by decide) ?_
  refine aw_isub dX3_best_4 rfl ?_
  refine aw_V1 (M' := mX3_isTank) dX3_best_5 rfl lkX3_83 gX3_isTank rfl rfl (Nat.le_of_ble_eq_true rfl) (AW.up (sX3_isTank (d := 0) hn h0 ?_) (by omega))
  rw [(show (10 : Int32) = nI 10 by decide)]
  show AW _ mX3_best 8 _ (_ :: _) _ _
  refine aw_if_neb (tgt := 22) dX3_best_8 rfl rfl (fun c8 => ?_) (fun c8 => ?_)
  · skip
    refine aw_iconst 1 dX3_best_22 rfl (by decide) ?_
    refine aw_goto (q := 27) dX3_best_23 rfl ?_
    refine sX3_best_27 hn h0 hc h9 ?_ k1 (fun s hs e hw => kk s hs e hw _)
    rw [bw_ix2 (by decide) hn] at c8
    exact ⟨fun _ => Or.inl c8, fun _ => by decide⟩
  · skip
    refine aw_aload_n dX3_best_11 rfl rfl ?_
    refine aw_iload_n dX3_best_12 rfl rfl ?_
    refine aw_bipush 20 dX3_best_13 rfl (by decide) ?_
    refine aw_isub dX3_best_15 rfl ?_
    refine aw_V1 (M' := mX3_isTank) dX3_best_16 rfl lkX3_83 gX3_isTank rfl rfl (Nat.le_of_ble_eq_true rfl) (AW.up (sX3_isTank (d := 0) hn h0 ?_) (by omega))
    rw [(show (20 : Int32) = nI 20 by decide)]
    show AW _ mX3_best 19 _ (_ :: _) _ _
    refine aw_if_eqb (tgt := 26) dX3_best_19 rfl rfl (fun c19 => ?_) (fun c19 => ?_)
    · skip
      refine aw_iconst 0 dX3_best_26 rfl (by decide) ?_
      refine sX3_best_27 hn h0 hc h9 ?_ k1 (fun s hs e hw => kk s hs e hw _)
      rw [bw_ix2 (by decide) hn] at c8 c19
      exact ⟨fun z => absurd rfl z, fun z => absurd z (fun q => q.elim c8 c19)⟩
    · skip
      refine aw_iconst 1 dX3_best_22 rfl (by decide) ?_
      refine aw_goto (q := 27) dX3_best_23 rfl ?_
      refine sX3_best_27 hn h0 hc h9 ?_ k1 (fun s hs e hw => kk s hs e hw _)
      rw [bw_ix2 (by decide) hn] at c8 c19
      exact ⟨fun _ => Or.inr c19, fun _ => by decide⟩
