set_option maxRecDepth 4000 in
theorem sX4_many {d : Nat} {σ : SS} {K : ax_K} {w : Int32} {n : Nat} (hn : n ≤ 6) (h0 : σ 28 0 0 = nI n) (k1 : (∀ j, j < 5 → w ≠ nI j) → K (some (-2)) σ) (k2 : ∀ j, j < 5 → w = nI j → K (some (manyM σ n j)) σ) : AW (d + 1) mX4_many 0 (ax_en mX4_many [.inr (28, 0), .inl w]) [] σ K := by
  show AW _ mX4_many 0 [_, _] _ _ _
  refine aw_iload_n dX4_many_0 rfl rfl ?_
  refine aw_tsw 5 dX4_many_1 rfl (by decide) (by decide) (fun j hj sx => ?_) (fun sx => ?_)
  · match j, hj with
    | 0, _ =>
      refine AW.conv (pc := 36) ?_ rfl rfl rfl
      refine aw_aload_n dX4_many_36 rfl rfl ?_
      refine aw_getI dX4_many_37 rfl rfl rfl flX4_75 ?_
      refine aw_ret dX4_many_40 rfl rfl ?_
      exact k2 0 (by decide) sx
    | 1, _ =>
      refine AW.conv (pc := 41) ?_ rfl rfl rfl
      refine aw_aload_n dX4_many_41 rfl rfl ?_
      refine aw_getI dX4_many_42 rfl rfl rfl flX4_92 ?_
      refine aw_ret dX4_many_45 rfl rfl ?_
      exact k2 1 (by decide) sx
    | 2, _ =>
      refine AW.conv (pc := 46) ?_ rfl rfl rfl
      refine aw_aload_n dX4_many_46 rfl rfl ?_
      refine aw_getI dX4_many_47 rfl rfl rfl flX4_75 ?_
      refine aw_aload_n dX4_many_50 rfl rfl ?_
      refine aw_bipush (-9) dX4_many_51 rfl (by decide) ?_
      refine aw_V1 (M' := mX4_holders) dX4_many_53 rfl lkX4_98 gX4_holders rfl rfl (Nat.le_of_ble_eq_true rfl) (sX4_holders hn h0 ?_)
      show AW _ mX4_many 56 _ (_ :: _) _ _
      refine aw_isub dX4_many_56 rfl ?_
      refine aw_ret dX4_many_57 rfl rfl ?_
      exact k2 2 (by decide) sx
    | 3, _ =>
      refine AW.conv (pc := 58) ?_ rfl rfl rfl
      refine aw_aload_n dX4_many_58 rfl rfl ?_
      refine aw_getI dX4_many_59 rfl rfl rfl flX4_195 ?_
      refine aw_ret dX4_many_62 rfl rfl ?_
      exact k2 3 (by decide) sx
    | 4, _ =>
      refine AW.conv (pc := 63) ?_ rfl rfl rfl
      refine aw_aload_n dX4_many_63 rfl rfl ?_
      refine aw_V0 (M' := mX4_heldList) dX4_many_64 rfl lkX4_204 gX4_heldList rfl rfl (Nat.le_of_ble_eq_true rfl) (sX4_heldList hn h0 ?_)
      show AW _ mX4_many 67 _ (_ :: _) _ _
      refine aw_ldc dX4_many_67 rfl kcX4_159 ?_
      refine aw_iadd dX4_many_69 rfl ?_
      refine aw_ret dX4_many_70 rfl rfl ?_
      exact k2 4 (by decide) sx
    | j + 5, hj => exact absurd hj (by omega)
  · refine AW.conv (pc := 71) ?_ rfl rfl rfl
    refine aw_bipush (-2) dX4_many_71 rfl (by decide) ?_
    refine aw_ret dX4_many_73 rfl rfl ?_
    exact k1 sx
set_option maxRecDepth 4000 in
theorem sX4_unload {d : Nat} {σ : SS} {K : ax_K} {c : Int32} {n cn : Nat} (hn : n ≤ 6) (h0 : σ 28 0 0 = nI n) (hc : cn ≤ 4) (h9 : σ 28 0 9 = nI cn) (k1 : ¬ ixn c cn → K (some (-1)) σ) (k2 : ixn c cn → cntI n (fun t => σ 35 0 t = c) = 0 → K (some (-3)) σ) (k3 : ∀ a, a < cn → c = nI a → ¬ cntI n (fun t => σ 35 0 t = c) = 0 → K (some (cntI n (fun t => σ 35 0 t = c))) (ulS σ c (σ 37 0 a) n)) : AW (d + 2) mX4_unload 0 (ax_en mX4_unload [.inr (28, 0), .inl c]) [] σ K := by
  show AW _ mX4_unload 0 [_, _, _, _] _ _ _
  refine aw_aload_n dX4_unload_0 rfl rfl ?_
  refine aw_iload_n dX4_unload_1 rfl rfl ?_
  refine aw_V1 (M' := mX4_isCargo) dX4_unload_2 rfl lkX4_102 gX4_isCargo rfl rfl (Nat.le_of_ble_eq_true rfl) (sX4_isCargo hc h9 ?_)
  show AW _ mX4_unload 5 _ (_ :: _) _ _
  refine aw_if_neb (tgt := 10) dX4_unload_5 rfl rfl (fun c5 => ?_) (fun c5 => ?_)
  · skip
    refine aw_aload_n dX4_unload_10 rfl rfl ?_
    refine aw_iload_n dX4_unload_11 rfl rfl ?_
    refine aw_V1 (M' := mX4_holders) dX4_unload_12 rfl lkX4_98 gX4_holders rfl rfl (Nat.le_of_ble_eq_true rfl) (sX4_holders hn h0 ?_)
    show AW _ mX4_unload 15 _ (_ :: _) _ _
    refine aw_istore_n dX4_unload_15 rfl (by decide) ?_
    show AW _ mX4_unload 16 [_, _, _, _] _ _ _
    refine aw_iload_n dX4_unload_16 rfl rfl ?_
    refine aw_if_ne (tgt := 23) dX4_unload_17 rfl rfl (fun c17 => ?_) (fun c17 => ?_)
    · skip
      obtain ⟨a, ha, rfl⟩ := ixn_of c5 (by omega)
      have hca : (nI a).toNatClampNeg = a := nI_clamp (by omega)
      refine aw_iconst 0 dX4_unload_23 rfl (by decide) ?_
      refine aw_istore_n dX4_unload_24 rfl (by decide) ?_
      show AW _ mX4_unload 25 [_, _, _, _] _ _ _
      refine AW.conv (ax_loop (P := fun i => AW (d + 2) mX4_unload 25 [some (.inr (28, 0)), some (.inl (nI a)), some (.inl (cntI n (fun t => σ 35 0 t = nI a))), some (.inl (nI i))] [] (ulS σ (nI a) (σ 37 0 a) i) K) n ?_ ?_ 0 (Nat.zero_le _)) (by first | (simp only [nI_0]; done) | (simp only [nI_0]; rfl)) rfl (by rw [ulS_0])
      · try dsimp only
        refine aw_iload_n dX4_unload_25 rfl rfl ?_
        refine aw_aload_n dX4_unload_26 rfl rfl ?_
        refine aw_getI dX4_unload_27 rfl rfl rfl flX4_75 ?_
        refine aw_icmp_ge (tgt := 54) dX4_unload_30 rfl rfl (fun _ => ?_) (fun z => absurd (by rw [show (ulS σ (nI a) (σ 37 0 a) n) 28 0 0 = σ 28 0 0 from rfl, h0]; exact Int32.le_refl _) z)
        refine aw_iload_n dX4_unload_54 rfl rfl ?_
        refine aw_ret dX4_unload_55 rfl rfl ?_
        exact k3 a ha rfl c17
      · intro i hi_25 nx_25
        try dsimp only at nx_25 ⊢
        have hci : (nI i).toNatClampNeg = i := nI_clamp (by omega)
        have hh35 : (ulS σ (nI a) (σ 37 0 a) i) 35 0 = ulH (σ 35 0) (nI a) (-9) (σ 35 0) i := rfl
        have hl33 : (ulS σ (nI a) (σ 37 0 a) i) 33 0 = ulL (σ 35 0) (nI a) (σ 37 0 a) (σ 33 0) i := rfl
        have h36 : (ulS σ (nI a) (σ 37 0 a) i) 36 0 = ulH (σ 35 0) (nI a) 0 (σ 36 0) i := rfl
        have h37 : (ulS σ (nI a) (σ 37 0 a) i) 37 0 a = σ 37 0 a := rfl
        have hh0 : (ulS σ (nI a) (σ 37 0 a) i) 35 0 i = σ 35 0 i := by rw [hh35, ulH, if_neg (fun z => absurd z.1 (Nat.lt_irrefl i))]
        refine aw_iload_n dX4_unload_25 rfl rfl ?_
        refine aw_aload_n dX4_unload_26 rfl rfl ?_
        refine aw_getI dX4_unload_27 rfl rfl rfl flX4_75 ?_
        refine aw_icmp_ge (tgt := 54) dX4_unload_30 rfl rfl (fun z => absurd z (by rw [show (ulS σ (nI a) (σ 37 0 a) i) 28 0 0 = σ 28 0 0 from rfl, h0]; exact nI_ge hi_25 (by omega))) (fun _ => ?_)
        refine aw_aload_n dX4_unload_33 rfl rfl ?_
        refine aw_getR dX4_unload_34 rfl rfl rfl (by decide) flX4_28 ?_
        refine aw_iload_n dX4_unload_37 rfl rfl ?_
        refine aw_iald dX4_unload_38 rfl rfl (by first | exact vp_in_nI (by omega) (by omega) | decide) ?_
        try simp only [hci]
        try simp only [hh0]
        refine aw_iload_n dX4_unload_39 rfl rfl ?_
        refine aw_icmp_ne (tgt := 48) dX4_unload_40 rfl rfl (fun c40 => ?_) (fun c40 => ?_)
        · skip
          refine aw_iinc dX4_unload_48 rfl rfl (ii_1 _) (by decide) ?_
          show AW _ mX4_unload 51 [_, _, _, _] _ _ _
          refine aw_goto (q := 25) dX4_unload_51 rfl ?_
          first | exact AW.conv nx_25 (by first | (simp only [nI_succ]; done) | (simp only [nI_succ]; rfl)) rfl rfl | exact AW.conv nx_25 (by first | (simp only [nI_succ]; done) | (simp only [nI_succ]; rfl)) rfl (ulS_f c40)
        · skip
          refine aw_aload_n dX4_unload_43 rfl rfl ?_
          refine aw_iload_n dX4_unload_44 rfl rfl ?_
          refine aw_V1 (M' := mX4_empties) dX4_unload_45 rfl lkX4_198 gX4_empties rfl rfl (Nat.le_of_ble_eq_true rfl) (sX4_empties (by omega) (by rw [hh0, c40]; exact vp_in_nI (by omega) (by omega)) ?_)
          rw [hh0, c40, hl33, h36, ci, hca, h37, hh35, ulS_t c40]
          show AW _ mX4_unload 48 _ _ _ _
          refine aw_iinc dX4_unload_48 rfl rfl (ii_1 _) (by decide) ?_
          show AW _ mX4_unload 51 [_, _, _, _] _ _ _
          refine aw_goto (q := 25) dX4_unload_51 rfl ?_
          first | exact AW.conv nx_25 (by first | (simp only [nI_succ]; done) | (simp only [nI_succ]; rfl)) rfl rfl | exact AW.conv nx_25 (by first | (simp only [nI_succ]; done) | (simp only [nI_succ]; rfl)) rfl (ulS_f c40)
    · skip
      refine aw_bipush (-3) dX4_unload_20 rfl (by decide) ?_
      refine aw_ret dX4_unload_22 rfl rfl ?_
      exact k2 c5 c17
  · skip
    refine aw_iconst (-1) dX4_unload_8 rfl (by decide) ?_
    refine aw_ret dX4_unload_9 rfl rfl ?_
    exact k1 c5
set_option maxRecDepth 4000 in
theorem sX4_pour {d : Nat} {σ : SS} {K : ax_K} {i j v : Int32} {n cn : Nat} (hn : n ≤ 6) (h0 : σ 28 0 0 = nI n) (hc : cn ≤ 4) (h9 : σ 28 0 9 = nI cn) (hLat : ∀ x, x < 18 → lt9 (σ 33 0 x)) (hLiq : ∀ c, c < 4 → ∃ j, j < 8 ∧ σ 37 0 c = nI j) (hH : okT n cn (σ 35 0)) (hM : ∀ t, t < n → σ 35 0 t = -9 → σ 36 0 t = 0) (k1 : ¬ (ixn i n ∧ ixn j n ∧ i ≠ j) → K (some (-1)) σ) (k2 : (ixn i n ∧ ixn j n ∧ i ≠ j) → ¬ (1 ≤ v ∧ v ≤ 99) → K (some (-2)) σ) (k3 : ∀ a b, a < n → b < n → a ≠ b → i = nI a → j = nI b → (1 ≤ v ∧ v ≤ 99) → prB σ n a b v = false → K (some (-3)) σ) (k4 : ∀ a b, a < n → b < n → a ≠ b → i = nI a → j = nI b → (1 ≤ v ∧ v ≤ 99) → prB σ n a b v = true → K (some (σ 36 0 b + v)) (prS σ a b v)) : AW (d + 3) mX4_pour 0 (ax_en mX4_pour [.inr (28, 0), .inl i, .inl j, .inl v]) [] σ K := by
  show AW _ mX4_pour 0 [_, _, _, _, _, _] _ _ _
  refine aw_aload_n dX4_pour_0 rfl rfl ?_
  refine aw_iload_n dX4_pour_1 rfl rfl ?_
  refine aw_iload_n dX4_pour_2 rfl rfl ?_
  refine aw_V2 (M' := mX4_areTwo) dX4_pour_3 rfl lkX4_82 gX4_areTwo rfl rfl (Nat.le_of_ble_eq_true rfl) (sX4_areTwo hn h0 ?_)
  show AW _ mX4_pour 6 _ (_ :: _) _ _
  refine aw_if_neb (tgt := 11) dX4_pour_6 rfl rfl (fun c6 => ?_) (fun c6 => ?_)
  · skip
    have c6o := c6
    obtain ⟨hi1, hj1, hij⟩ := c6
    obtain ⟨a, ha, rfl⟩ := ixn_of hi1 (by omega)
    obtain ⟨b, hb, rfl⟩ := ixn_of hj1 (by omega)
    have hab : a ≠ b := fun z => hij (by rw [z])
    have hca : (nI a).toNatClampNeg = a := nI_clamp (by omega)
    have hcb : (nI b).toNatClampNeg = b := nI_clamp (by omega)
    refine aw_iload_n dX4_pour_11 rfl rfl ?_
    refine aw_iconst 1 dX4_pour_12 rfl (by decide) ?_
    refine aw_bipush 99 dX4_pour_13 rfl (by decide) ?_
    refine aw_S3 (M' := mX4_within) dX4_pour_15 rfl lkX4_71 gX4_within (Nat.le_of_ble_eq_true rfl) (sX4_within ?_)
    show AW _ mX4_pour 18 _ (_ :: _) _ _
    refine aw_if_neb (tgt := 24) dX4_pour_18 rfl rfl (fun c18 => ?_) (fun c18 => ?_)
    · skip
      refine aw_aload_n dX4_pour_24 rfl rfl ?_
      refine aw_getR dX4_pour_25 rfl rfl rfl (by decide) flX4_28 ?_
      refine aw_iload_n dX4_pour_28 rfl rfl ?_
      refine aw_iald dX4_pour_29 rfl rfl (by first | exact vp_in_nI (by omega) (by omega) | decide) ?_
      try simp only [hca]
      try simp only [hcb]
      refine aw_istore dX4_pour_30 rfl (by decide) ?_
      show AW _ mX4_pour 32 [_, _, _, _, _, _] _ _ _
      refine aw_aload_n dX4_pour_32 rfl rfl ?_
      refine aw_getR dX4_pour_33 rfl rfl rfl (by decide) flX4_28 ?_
      refine aw_iload_n dX4_pour_36 rfl rfl ?_
      refine aw_iald dX4_pour_37 rfl rfl (by first | exact vp_in_nI (by omega) (by omega) | decide) ?_
      try simp only [hca]
      try simp only [hcb]
      refine aw_bipush (-9) dX4_pour_38 rfl (by decide) ?_
      refine aw_icmp_ne (tgt := 47) dX4_pour_40 rfl rfl (fun c40 => ?_) (fun c40 => ?_)
      · skip
        refine aw_iconst 0 dX4_pour_47 rfl (by decide) ?_
        refine aw_istore dX4_pour_48 rfl (by decide) ?_
        show AW _ mX4_pour 50 [_, _, _, _, _, _] _ _ _
        refine aw_aload_n dX4_pour_50 rfl rfl ?_
        refine aw_getR dX4_pour_51 rfl rfl rfl (by decide) flX4_31 ?_
        refine aw_iload_n dX4_pour_54 rfl rfl ?_
        refine aw_iald dX4_pour_55 rfl rfl (by first | exact vp_in_nI (by omega) (by omega) | decide) ?_
        try simp only [hca]
        try simp only [hcb]
        refine aw_iload_n dX4_pour_56 rfl rfl ?_
        refine aw_icmp_lt (tgt := 106) dX4_pour_57 rfl rfl (fun c57 => ?_) (fun c57 => ?_)
        · skip
          refine aw_bipush (-3) dX4_pour_106 rfl (by decide) ?_
          refine aw_ret dX4_pour_108 rfl rfl ?_
          exact k3 a b ha hb hab rfl rfl c18 (by rw [prB, decide_eq_true c57]; rfl)
        · skip
          refine aw_aload_n dX4_pour_60 rfl rfl ?_
          refine aw_getR dX4_pour_61 rfl rfl rfl (by decide) flX4_7 ?_
          refine aw_iload_n dX4_pour_64 rfl rfl ?_
          refine aw_iald dX4_pour_65 rfl rfl (by first | exact vp_in_nI (by omega) (by omega) | decide) ?_
          try simp only [hca]
          try simp only [hcb]
          refine aw_aload_n dX4_pour_66 rfl rfl ?_
          refine aw_getR dX4_pour_67 rfl rfl rfl (by decide) flX4_31 ?_
          refine aw_iload_n dX4_pour_70 rfl rfl ?_
          refine aw_iald dX4_pour_71 rfl rfl (by first | exact vp_in_nI (by omega) (by omega) | decide) ?_
          try simp only [hca]
          try simp only [hcb]
          refine aw_isub dX4_pour_72 rfl ?_
          refine aw_iload_n dX4_pour_73 rfl rfl ?_
          refine aw_icmp_lt (tgt := 106) dX4_pour_74 rfl rfl (fun c74 => ?_) (fun c74 => ?_)
          · skip
            refine aw_bipush (-3) dX4_pour_106 rfl (by decide) ?_
            refine aw_ret dX4_pour_108 rfl rfl ?_
            exact k3 a b ha hb hab rfl rfl c18 (by rw [prB, decide_eq_true c74]; simp)
          · skip
            have hcv : vp_in (σ 35 0 a) cn := (hH a ha).resolve_left (fun z => absurd (hM a ha z) (fun q => c57 (by rw [q]; exact Int32.lt_of_lt_of_le (by decide) c18.1)))
            refine aw_iload dX4_pour_77 rfl rfl ?_
            refine aw_if_eq (tgt := 95) dX4_pour_79 rfl rfl (fun _ => ?_) (fun z => absurd rfl z)
            refine aw_aload_n dX4_pour_95 rfl rfl ?_
            refine aw_getR dX4_pour_96 rfl rfl rfl (by decide) flX4_28 ?_
            refine aw_iload_n dX4_pour_99 rfl rfl ?_
            refine aw_iald dX4_pour_100 rfl rfl (by first | exact vp_in_nI (by omega) (by omega) | decide) ?_
            try simp only [hca]
            try simp only [hcb]
            refine aw_iload dX4_pour_101 rfl rfl ?_
            refine aw_icmp_eq (tgt := 109) dX4_pour_103 rfl rfl (fun c103 => ?_) (fun c103 => ?_)
            · skip
              refine aw_aload_n dX4_pour_109 rfl rfl ?_
              refine aw_dup dX4_pour_110 rfl ?_
              refine aw_getI dX4_pour_111 rfl rfl rfl flX4_195 ?_
              refine aw_iload dX4_pour_114 rfl rfl ?_
              refine aw_if_eq (tgt := 129) dX4_pour_116 rfl rfl (fun _ => ?_) (fun z => absurd rfl z)
              refine aw_iconst 0 dX4_pour_129 rfl (by decide) ?_
              refine aw_iadd dX4_pour_130 rfl ?_
              refine aw_putI dX4_pour_131 rfl rfl rfl flX4_195 (pf_4_25 _) ?_
              refine aw_aload_n dX4_pour_134 rfl rfl ?_
              refine aw_getR dX4_pour_135 rfl rfl rfl (by decide) flX4_28 ?_
              refine aw_iload_n dX4_pour_138 rfl rfl ?_
              refine aw_iload dX4_pour_139 rfl rfl ?_
              refine aw_iast dX4_pour_141 rfl rfl (by first | exact vp_in_nI (by omega) (by omega) | decide) ?_
              try simp only [hca]
              try simp only [hcb]
              refine aw_aload_n dX4_pour_142 rfl rfl ?_
              refine aw_getR dX4_pour_143 rfl rfl rfl (by decide) flX4_31 ?_
              refine aw_iload_n dX4_pour_146 rfl rfl ?_
              refine aw_dup2 dX4_pour_147 rfl ?_
              refine aw_iald dX4_pour_148 rfl rfl (by first | exact vp_in_nI (by omega) (by omega) | decide) ?_
              try simp only [hca]
              try simp only [hcb]
              refine aw_iload_n dX4_pour_149 rfl rfl ?_
              refine aw_iadd dX4_pour_150 rfl ?_
              refine aw_iast dX4_pour_151 rfl rfl (by first | exact vp_in_nI (by omega) (by omega) | decide) ?_
              try simp only [hca]
              try simp only [hcb]
              refine aw_aload_n dX4_pour_152 rfl rfl ?_
              refine aw_getR dX4_pour_153 rfl rfl rfl (by decide) flX4_31 ?_
              refine aw_iload_n dX4_pour_156 rfl rfl ?_
              refine aw_dup2 dX4_pour_157 rfl ?_
              refine aw_iald dX4_pour_158 rfl rfl (by first | exact vp_in_nI (by omega) (by omega) | decide) ?_
              try simp only [hca]
              try simp only [hcb]
              refine aw_iload_n dX4_pour_159 rfl rfl ?_
              refine aw_isub dX4_pour_160 rfl ?_
              refine aw_iast dX4_pour_161 rfl rfl (by first | exact vp_in_nI (by omega) (by omega) | decide) ?_
              try simp only [hca]
              try simp only [hcb]
              simp only [rp_nk, rp_at, rp_rp, pk_us, ne_eq, Nat.reduceEqDiff, not_false_eq_true, hca, hcb, pk_un (Ne.symm hab), pk_un hab]
              refine aw_aload_n dX4_pour_162 rfl rfl ?_
              refine aw_getR dX4_pour_163 rfl rfl rfl (by decide) flX4_31 ?_
              refine aw_iload_n dX4_pour_166 rfl rfl ?_
              refine aw_iald dX4_pour_167 rfl rfl (by first | exact vp_in_nI (by omega) (by omega) | decide) ?_
              try simp only [hca]
              try simp only [hcb]
              simp only [rp_nk, rp_at, rp_rp, pk_us, ne_eq, Nat.reduceEqDiff, not_false_eq_true, hca, hcb, pk_un (Ne.symm hab), pk_un hab]
              refine aw_if_ne (tgt := 176) dX4_pour_168 rfl rfl (fun c168 => ?_) (fun c168 => ?_)
              · skip
                refine aw_aload_n dX4_pour_176 rfl rfl ?_
                refine aw_getR dX4_pour_177 rfl rfl rfl (by decide) flX4_31 ?_
                refine aw_iload_n dX4_pour_180 rfl rfl ?_
                refine aw_iald dX4_pour_181 rfl rfl (by first | exact vp_in_nI (by omega) (by omega) | decide) ?_
                try simp only [hca]
                try simp only [hcb]
                refine aw_ret dX4_pour_182 rfl rfl ?_
                refine kk_c (k4 a b ha hb hab rfl rfl c18 (by rw [prB, decide_eq_false c57, decide_eq_false c74, if_neg c40, decide_eq_true c103]; rfl)) ?_ ?_
                · simp only [rp_nk, rp_at, rp_rp, pk_us, ne_eq, Nat.reduceEqDiff, not_false_eq_true, hca, hcb, pk_un (Ne.symm hab), pk_un hab]
                · simp only [prS, if_neg c40, if_neg c168]
                  try simp only [rp_nk, rp_at, rp_rp, pk_us, ne_eq, Nat.reduceEqDiff, not_false_eq_true, hca, hcb, pk_un (Ne.symm hab), pk_un hab]
              · skip
                refine aw_aload_n dX4_pour_171 rfl rfl ?_
                refine aw_iload_n dX4_pour_172 rfl rfl ?_
                refine aw_V1 (M' := mX4_empties) dX4_pour_173 rfl lkX4_198 gX4_empties rfl rfl (Nat.le_of_ble_eq_true rfl) (sX4_empties (by omega) (by simp only [rp_nk, rp_at, ne_eq, Nat.reduceEqDiff, not_false_eq_true, pk_un hab]; exact vp_mono hcv hc) ?_)
                show AW _ mX4_pour 176 _ _ _ _
                refine aw_aload_n dX4_pour_176 rfl rfl ?_
                refine aw_getR dX4_pour_177 rfl rfl rfl (by decide) flX4_31 ?_
                refine aw_iload_n dX4_pour_180 rfl rfl ?_
                refine aw_iald dX4_pour_181 rfl rfl (by first | exact vp_in_nI (by omega) (by omega) | decide) ?_
                try simp only [hca]
                try simp only [hcb]
                refine aw_ret dX4_pour_182 rfl rfl ?_
                refine kk_c (k4 a b ha hb hab rfl rfl c18 (by rw [prB, decide_eq_false c57, decide_eq_false c74, if_neg c40, decide_eq_true c103]; rfl)) ?_ ?_
                · simp only [rp_nk, rp_at, rp_rp, pk_us, ne_eq, Nat.reduceEqDiff, not_false_eq_true, hca, hcb, pk_un (Ne.symm hab), pk_un hab]
                · simp only [prS, if_neg c40, if_pos c168]
                  try simp only [rp_nk, rp_at, rp_rp, pk_us, ne_eq, Nat.reduceEqDiff, not_false_eq_true, hca, hcb, pk_un (Ne.symm hab), pk_un hab]
            · skip
              refine aw_bipush (-3) dX4_pour_106 rfl (by decide) ?_
              refine aw_ret dX4_pour_108 rfl rfl ?_
              exact k3 a b ha hb hab rfl rfl c18 (by rw [prB, if_neg c40, decide_eq_false c103]; simp)
      · skip
        refine aw_iconst 1 dX4_pour_43 rfl (by decide) ?_
        refine aw_goto (q := 48) dX4_pour_44 rfl ?_
        refine aw_istore dX4_pour_48 rfl (by decide) ?_
        show AW _ mX4_pour 50 [_, _, _, _, _, _] _ _ _
        refine aw_aload_n dX4_pour_50 rfl rfl ?_
        refine aw_getR dX4_pour_51 rfl rfl rfl (by decide) flX4_31 ?_
        refine aw_iload_n dX4_pour_54 rfl rfl ?_
        refine aw_iald dX4_pour_55 rfl rfl (by first | exact vp_in_nI (by omega) (by omega) | decide) ?_
        try simp only [hca]
        try simp only [hcb]
        refine aw_iload_n dX4_pour_56 rfl rfl ?_
        refine aw_icmp_lt (tgt := 106) dX4_pour_57 rfl rfl (fun c57 => ?_) (fun c57 => ?_)
        · skip
          refine aw_bipush (-3) dX4_pour_106 rfl (by decide) ?_
          refine aw_ret dX4_pour_108 rfl rfl ?_
          exact k3 a b ha hb hab rfl rfl c18 (by rw [prB, decide_eq_true c57]; rfl)
        · skip
          refine aw_aload_n dX4_pour_60 rfl rfl ?_
          refine aw_getR dX4_pour_61 rfl rfl rfl (by decide) flX4_7 ?_
          refine aw_iload_n dX4_pour_64 rfl rfl ?_
          refine aw_iald dX4_pour_65 rfl rfl (by first | exact vp_in_nI (by omega) (by omega) | decide) ?_
          try simp only [hca]
          try simp only [hcb]
          refine aw_aload_n dX4_pour_66 rfl rfl ?_
          refine aw_getR dX4_pour_67 rfl rfl rfl (by decide) flX4_31 ?_
          refine aw_iload_n dX4_pour_70 rfl rfl ?_
          refine aw_iald dX4_pour_71 rfl rfl (by first | exact vp_in_nI (by omega) (by omega) | decide) ?_
          try simp only [hca]
          try simp only [hcb]
          refine aw_isub dX4_pour_72 rfl ?_
          refine aw_iload_n dX4_pour_73 rfl rfl ?_
          refine aw_icmp_lt (tgt := 106) dX4_pour_74 rfl rfl (fun c74 => ?_) (fun c74 => ?_)
          · skip
            refine aw_bipush (-3) dX4_pour_106 rfl (by decide) ?_
            refine aw_ret dX4_pour_108 rfl rfl ?_
            exact k3 a b ha hb hab rfl rfl c18 (by rw [prB, decide_eq_true c74]; simp)
          · skip
            have hcv : vp_in (σ 35 0 a) cn := (hH a ha).resolve_left (fun z => absurd (hM a ha z) (fun q => c57 (by rw [q]; exact Int32.lt_of_lt_of_le (by decide) c18.1)))
            refine aw_iload dX4_pour_77 rfl rfl ?_
            refine aw_if_eq (tgt := 95) dX4_pour_79 rfl rfl (fun z => absurd z (by decide)) (fun _ => ?_)
            refine aw_aload_n dX4_pour_82 rfl rfl ?_
            refine aw_iload_n dX4_pour_83 rfl rfl ?_
            refine aw_iload dX4_pour_84 rfl rfl ?_
            refine aw_V2 (M' := mX4_mayTake) dX4_pour_86 rfl lkX4_201 gX4_mayTake rfl rfl (Nat.le_of_ble_eq_true rfl) (sX4_mayTake hn h0 hc hb (vp_mono hcv hc) hH ?_)
            show AW _ mX4_pour 89 _ (_ :: _) _ _
            refine aw_if_neB (tgt := 109) dX4_pour_89 rfl rfl (fun c89 => ?_) (fun c89 => ?_)
            · skip
              refine aw_aload_n dX4_pour_109 rfl rfl ?_
              refine aw_dup dX4_pour_110 rfl ?_
              refine aw_getI dX4_pour_111 rfl rfl rfl flX4_195 ?_
              refine aw_iload dX4_pour_114 rfl rfl ?_
              refine aw_if_eq (tgt := 129) dX4_pour_116 rfl rfl (fun z => absurd z (by decide)) (fun _ => ?_)
              refine aw_aload_n dX4_pour_119 rfl rfl ?_
              refine aw_iload_n dX4_pour_120 rfl rfl ?_
              refine aw_iload dX4_pour_121 rfl rfl ?_
              refine aw_V2 (M' := mX4_washesFor) dX4_pour_123 rfl lkX4_118 gX4_washesFor rfl rfl (Nat.le_of_ble_eq_true rfl) (sX4_washesForI (vp_in_nI (by omega) (by omega)) (vp_mono hcv hc) (hLat _ (by rw [ci, hcb]; omega)) (hLiq _ (vp_lt (vp_mono hcv hc))) ?_)
              rw [ci, hcb]
              show AW _ mX4_pour 126 _ (_ :: _) _ _
              refine aw_goto (q := 130) dX4_pour_126 rfl ?_
              refine aw_iadd dX4_pour_130 rfl ?_
              refine aw_putI dX4_pour_131 rfl rfl rfl flX4_195 (pf_4_25 _) ?_
              refine aw_aload_n dX4_pour_134 rfl rfl ?_
              refine aw_getR dX4_pour_135 rfl rfl rfl (by decide) flX4_28 ?_
              refine aw_iload_n dX4_pour_138 rfl rfl ?_
              refine aw_iload dX4_pour_139 rfl rfl ?_
              refine aw_iast dX4_pour_141 rfl rfl (by first | exact vp_in_nI (by omega) (by omega) | decide) ?_
              try simp only [hca]
              try simp only [hcb]
              refine aw_aload_n dX4_pour_142 rfl rfl ?_
              refine aw_getR dX4_pour_143 rfl rfl rfl (by decide) flX4_31 ?_
              refine aw_iload_n dX4_pour_146 rfl rfl ?_
              refine aw_dup2 dX4_pour_147 rfl ?_
              refine aw_iald dX4_pour_148 rfl rfl (by first | exact vp_in_nI (by omega) (by omega) | decide) ?_
              try simp only [hca]
              try simp only [hcb]
              refine aw_iload_n dX4_pour_149 rfl rfl ?_
              refine aw_iadd dX4_pour_150 rfl ?_
              refine aw_iast dX4_pour_151 rfl rfl (by first | exact vp_in_nI (by omega) (by omega) | decide) ?_
              try simp only [hca]
              try simp only [hcb]
              refine aw_aload_n dX4_pour_152 rfl rfl ?_
              refine aw_getR dX4_pour_153 rfl rfl rfl (by decide) flX4_31 ?_
              refine aw_iload_n dX4_pour_156 rfl rfl ?_
              refine aw_dup2 dX4_pour_157 rfl ?_
              refine aw_iald dX4_pour_158 rfl rfl (by first | exact vp_in_nI (by omega) (by omega) | decide) ?_
              try simp only [hca]
              try simp only [hcb]
              refine aw_iload_n dX4_pour_159 rfl rfl ?_
              refine aw_isub dX4_pour_160 rfl ?_
              refine aw_iast dX4_pour_161 rfl rfl (by first | exact vp_in_nI (by omega) (by omega) | decide) ?_
              try simp only [hca]
              try simp only [hcb]
              simp only [rp_nk, rp_at, rp_rp, pk_us, ne_eq, Nat.reduceEqDiff, not_false_eq_true, hca, hcb, pk_un (Ne.symm hab), pk_un hab]
              refine aw_aload_n dX4_pour_162 rfl rfl ?_
              refine aw_getR dX4_pour_163 rfl rfl rfl (by decide) flX4_31 ?_
              refine aw_iload_n dX4_pour_166 rfl rfl ?_
              refine aw_iald dX4_pour_167 rfl rfl (by first | exact vp_in_nI (by omega) (by omega) | decide) ?_
              try simp only [hca]
              try simp only [hcb]
              simp only [rp_nk, rp_at, rp_rp, pk_us, ne_eq, Nat.reduceEqDiff, not_false_eq_true, hca, hcb, pk_un (Ne.symm hab), pk_un hab]
              refine aw_if_ne (tgt := 176) dX4_pour_168 rfl rfl (fun c168 => ?_) (fun c168 => ?_)
              · skip
                refine aw_aload_n dX4_pour_176 rfl rfl ?_
                refine aw_getR dX4_pour_177 rfl rfl rfl (by decide) flX4_31 ?_
                refine aw_iload_n dX4_pour_180 rfl rfl ?_
                refine aw_iald dX4_pour_181 rfl rfl (by first | exact vp_in_nI (by omega) (by omega) | decide) ?_
                try simp only [hca]
                try simp only [hcb]
                refine aw_ret dX4_pour_182 rfl rfl ?_
                refine kk_c (k4 a b ha hb hab rfl rfl c18 (by rw [prB, decide_eq_false c57, decide_eq_false c74, if_pos c40, c89]; rfl)) ?_ ?_
                · simp only [rp_nk, rp_at, rp_rp, pk_us, ne_eq, Nat.reduceEqDiff, not_false_eq_true, hca, hcb, pk_un (Ne.symm hab), pk_un hab]
                · simp only [prS, if_pos c40, if_neg c168]
                  try simp only [rp_nk, rp_at, rp_rp, pk_us, ne_eq, Nat.reduceEqDiff, not_false_eq_true, hca, hcb, pk_un (Ne.symm hab), pk_un hab]
              · skip
                refine aw_aload_n dX4_pour_171 rfl rfl ?_
                refine aw_iload_n dX4_pour_172 rfl rfl ?_
                refine aw_V1 (M' := mX4_empties) dX4_pour_173 rfl lkX4_198 gX4_empties rfl rfl (Nat.le_of_ble_eq_true rfl) (sX4_empties (by omega) (by simp only [rp_nk, rp_at, ne_eq, Nat.reduceEqDiff, not_false_eq_true, pk_un hab]; exact vp_mono hcv hc) ?_)
                show AW _ mX4_pour 176 _ _ _ _
                refine aw_aload_n dX4_pour_176 rfl rfl ?_
                refine aw_getR dX4_pour_177 rfl rfl rfl (by decide) flX4_31 ?_
                refine aw_iload_n dX4_pour_180 rfl rfl ?_
                refine aw_iald dX4_pour_181 rfl rfl (by first | exact vp_in_nI (by omega) (by omega) | decide) ?_
                try simp only [hca]
                try simp only [hcb]
                refine aw_ret dX4_pour_182 rfl rfl ?_
                refine kk_c (k4 a b ha hb hab rfl rfl c18 (by rw [prB, decide_eq_false c57, decide_eq_false c74, if_pos c40, c89]; rfl)) ?_ ?_
                · simp only [rp_nk, rp_at, rp_rp, pk_us, ne_eq, Nat.reduceEqDiff, not_false_eq_true, hca, hcb, pk_un (Ne.symm hab), pk_un hab]
                · simp only [prS, if_pos c40, if_pos c168]
                  try simp only [rp_nk, rp_at, rp_rp, pk_us, ne_eq, Nat.reduceEqDiff, not_false_eq_true, hca, hcb, pk_un (Ne.symm hab), pk_un hab]
            · skip
              refine aw_goto (q := 106) dX4_pour_92 rfl ?_
              refine aw_bipush (-3) dX4_pour_106 rfl (by decide) ?_
              refine aw_ret dX4_pour_108 rfl rfl ?_
              exact k3 a b ha hb hab rfl rfl c18 (by rw [prB, if_pos c40, c89]; simp)
    · skip
      refine aw_bipush (-2) dX4_pour_21 rfl (by decide) ?_
      refine aw_ret dX4_pour_23 rfl rfl ?_
      exact k2 c6o c18
  · skip
    refine aw_iconst (-1) dX4_pour_9 rfl (by decide) ?_
    refine aw_ret dX4_pour_10 rfl rfl ?_
    exact k1 c6
