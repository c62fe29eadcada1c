set_option maxRecDepth 4000 in
theorem sX3_unload {d : Nat} {σ : SS} {K : ax_K} {c : Int32} {n cn : Nat} (hn : n ≤ 6) (h0 : σ 0 0 7 = nI n) (hc : cn ≤ 4) (h9 : σ 0 0 8 = nI cn) (k1 : ¬ ixn c cn → K (some (-1)) σ) (k2 : ixn c cn → cntI n (fun t => σ 8 t 5 = c) = 0 → ∀ l, K (some (-3)) (ucS σ c l n)) (k3 : ∀ a, a < cn → c = nI a → ¬ cntI n (fun t => σ 8 t 5 = c) = 0 → K (some (cntI n (fun t => σ 8 t 5 = c))) (rp (ucS σ c (σ 10 a 0) n) 0 0 (upd (σ 0 0) 11 0))) : AW (d + 1) mX3_unload 0 (ax_en mX3_unload [.inr (0, 0), .inl c]) [] σ K := by
  show AW _ mX3_unload 0 [_, _, _, _] _ _ _
  refine aw_aload_n dX3_unload_0 rfl rfl ?_
  refine aw_iload_n dX3_unload_1 rfl rfl ?_
  refine aw_V1 (M' := mX3_isCargo) dX3_unload_2 rfl lkX3_121 gX3_isCargo rfl rfl (Nat.le_of_ble_eq_true rfl) (sX3_isCargo hc h9 ?_)
  show AW _ mX3_unload 5 _ (_ :: _) _ _
  refine aw_if_neb (tgt := 10) dX3_unload_5 rfl rfl (fun c5 => ?_) (fun c5 => ?_)
  · skip
    have c5o := c5
    obtain ⟨a, ha, rfl⟩ := ixn_of c5 (by omega)
    have hca : (nI a).toNatClampNeg = a := nI_clamp (by omega)
    refine aw_iconst 0 dX3_unload_10 rfl (by decide) ?_
    refine aw_istore_n dX3_unload_11 rfl (by decide) ?_
    show AW _ mX3_unload 12 [_, _, _, _] _ _ _
    refine aw_iconst 0 dX3_unload_12 rfl (by decide) ?_
    refine aw_istore_n dX3_unload_13 rfl (by decide) ?_
    show AW _ mX3_unload 14 [_, _, _, _] _ _ _
    refine AW.conv (ax_loop (P := fun i => AW (d + 1) mX3_unload 14 [some (.inr (0, 0)), some (.inl (nI a)), some (.inl (cntI i (fun t => σ 8 t 5 = nI a))), some (.inl (nI i))] [] (ucS σ (nI a) (σ 10 a 0) i) K) n ?_ ?_ 0 (Nat.zero_le _)) (by first | (simp only [nI_0]; done) | (simp only [nI_0]; rfl)) rfl rfl
    · try dsimp only
      refine aw_iload_n dX3_unload_14 rfl rfl ?_
      refine aw_aload_n dX3_unload_15 rfl rfl ?_
      refine aw_getI dX3_unload_16 rfl rfl rfl flX3_41 ?_
      refine aw_icmp_ge (tgt := 62) dX3_unload_19 rfl rfl (fun _ => ?_) (fun z => absurd (by rw [ucS_k (by decide) (by decide), h0]; exact Int32.le_refl _) z)
      refine aw_iload_n dX3_unload_62 rfl rfl ?_
      refine aw_if_ne (tgt := 69) dX3_unload_63 rfl rfl (fun c63 => ?_) (fun c63 => ?_)
      · skip
        refine aw_aload_n dX3_unload_69 rfl rfl ?_
        refine aw_iconst 0 dX3_unload_70 rfl (by decide) ?_
        refine aw_putI dX3_unload_71 rfl rfl rfl flX3_54 pf_3_11_0 ?_
        refine aw_iload_n dX3_unload_74 rfl rfl ?_
        refine aw_ret dX3_unload_75 rfl rfl ?_
        refine kk_c (k3 a ha rfl c63) rfl ?_
        rw [ucS_k (by decide) (by decide)]
      · skip
        refine aw_bipush (-3) dX3_unload_66 rfl (by decide) ?_
        refine aw_ret dX3_unload_68 rfl rfl ?_
        exact k2 c5o c63 _
    · intro i hi_14 nx_14
      try dsimp only at nx_14 ⊢
      have hci : (nI i).toNatClampNeg = i := nI_clamp (by omega)
      have hh : (ucS σ (nI a) (σ 10 a 0) i) 8 i 5 = σ 8 i 5 := by rw [ucS_i i (Nat.le_refl i)]
      have h10 : (ucS σ (nI a) (σ 10 a 0) i) 10 a 0 = σ 10 a 0 := by rw [ucS_k (by decide) (by decide)]
      refine aw_iload_n dX3_unload_14 rfl rfl ?_
      refine aw_aload_n dX3_unload_15 rfl rfl ?_
      refine aw_getI dX3_unload_16 rfl rfl rfl flX3_41 ?_
      refine aw_icmp_ge (tgt := 62) dX3_unload_19 rfl rfl (fun z => absurd z (by rw [ucS_k (by decide) (by decide), h0]; exact nI_ge hi_14 (by omega))) (fun _ => ?_)
      refine aw_aload_n dX3_unload_22 rfl rfl ?_
      refine aw_getR dX3_unload_23 rfl rfl rfl (by decide) flX3_11 ?_
      refine aw_iload_n dX3_unload_26 rfl rfl ?_
      refine aw_aald dX3_unload_27 rfl rfl (by decide) (by first | exact (show vp_in _ 6 from vp_in_nI (by omega) (by omega)) | exact (show vp_in _ 4 from vp_in_nI (by omega) (by omega))) ?_
      try simp only [hci]
      try simp only [hca]
      refine aw_getI dX3_unload_28 rfl rfl rfl flX3_124 ?_
      refine aw_iload_n dX3_unload_31 rfl rfl ?_
      refine aw_icmp_ne (tgt := 56) dX3_unload_32 rfl rfl (fun c32 => ?_) (fun c32 => ?_)
      · skip
        refine aw_iinc dX3_unload_56 rfl rfl (ii_1 _) (by decide) ?_
        show AW _ mX3_unload 59 [_, _, _, _] _ _ _
        refine aw_goto (q := 14) dX3_unload_59 rfl ?_
        refine AW.conv nx_14 ?_ rfl ?_
        · rw [hh] at c32
          simp only [nI_succ i, cntI, lp_s]
          simp [c32]
        · rw [hh] at c32
          rw [ucS_s, if_neg c32]
      · skip
        refine aw_aload_n dX3_unload_35 rfl rfl ?_
        refine aw_getR dX3_unload_36 rfl rfl rfl (by decide) flX3_11 ?_
        refine aw_iload_n dX3_unload_39 rfl rfl ?_
        refine aw_aald dX3_unload_40 rfl rfl (by decide) (by first | exact (show vp_in _ 6 from vp_in_nI (by omega) (by omega)) | exact (show vp_in _ 4 from vp_in_nI (by omega) (by omega))) ?_
        try simp only [hci]
        try simp only [hca]
        refine aw_aload_n dX3_unload_41 rfl rfl ?_
        refine aw_getR dX3_unload_42 rfl rfl rfl (by decide) flX3_17 ?_
        refine aw_iload_n dX3_unload_45 rfl rfl ?_
        refine aw_aald dX3_unload_46 rfl rfl (by decide) (by first | exact (show vp_in _ 6 from vp_in_nI (by omega) (by omega)) | exact (show vp_in _ 4 from vp_in_nI (by omega) (by omega))) ?_
        try simp only [hci]
        try simp only [hca]
        refine aw_getI dX3_unload_47 rfl rfl rfl flX3_99 ?_
        refine aw_V1 (M' := mX2_leaveEmpty) dX3_unload_50 rfl lkX3_209 gX2_leaveEmpty rfl rfl (Nat.le_of_ble_eq_true rfl) (sX2_leaveEmpty ?_)
        rw [show ∀ s : SS, rp (rp s 8 i (upd (upd (s 8 i) 5 (-9)) 6 0)) 9 i (upd (upd (upd (s 9 i) 2 (s 9 i 1)) 1 (s 9 i 0)) 0 ((ucS σ (nI a) (σ 10 a 0) i) 10 a 0)) = leS s i ((ucS σ (nI a) (σ 10 a 0) i) 10 a 0) from fun _ => rfl, h10]
        show AW _ mX3_unload 53 _ _ _ _
        refine aw_iinc dX3_unload_53 rfl rfl (ii_1 _) (by decide) ?_
        show AW _ mX3_unload 56 [_, _, _, _] _ _ _
        refine aw_iinc dX3_unload_56 rfl rfl (ii_1 _) (by decide) ?_
        show AW _ mX3_unload 59 [_, _, _, _] _ _ _
        refine aw_goto (q := 14) dX3_unload_59 rfl ?_
        refine AW.conv nx_14 ?_ rfl ?_
        · rw [hh] at c32
          simp only [nI_succ i, cntI, lp_s]
          simp [c32]
        · rw [hh] at c32
          rw [ucS_s, if_pos c32]
  · skip
    refine aw_iconst (-1) dX3_unload_8 rfl (by decide) ?_
    refine aw_ret dX3_unload_9 rfl rfl ?_
    exact k1 c5
set_option maxRecDepth 4000 in
theorem sX3_pour {d : Nat} {σ : SS} {K : ax_K} {i j v : Int32} {n cn : Nat} (hn : n ≤ 6) (h0 : σ 0 0 7 = nI n) (hc : cn ≤ 4) (h9 : σ 0 0 8 = nI cn) (hH : okT n cn (fun t => σ 8 t 5)) (hCoat : ∀ t, t < 6 → 0 ≤ σ 8 t 1) (hLat : ∀ t k, t < 6 → k < 3 → lt9 (σ 9 t k)) (hLiq : ∀ c, c < 4 → ∃ j, j < 8 ∧ σ 10 c 0 = nI j) (k1 : ¬ (ixn i n ∧ ixn j n ∧ i ≠ j) → K (some (-1)) σ) (k2 : (ixn i n ∧ ixn j n ∧ i ≠ j) → ¬ (1 ≤ v ∧ v ≤ 99) → K (some (-2)) σ) (k3 : ∀ a b, a < n → b < n → a ≠ b → i = nI a → j = nI b → (1 ≤ v ∧ v ≤ 99) → pcB σ n cn a b v = false → K (some (-3)) σ) (k4 : ∀ a b, a < n → b < n → a ≠ b → i = nI a → j = nI b → (1 ≤ v ∧ v ≤ 99) → pcB σ n cn a b v = true → K (some (σ 8 b 6 + v)) (pcS σ a b v)) : AW (d + 3) mX3_pour 0 (ax_en mX3_pour [.inr (0, 0), .inl i, .inl j, .inl v]) [] σ K := by
  show AW _ mX3_pour 0 [_, _, _, _, _, _, _] _ _ _
  refine aw_aload_n dX3_pour_0 rfl rfl ?_
  refine aw_iload_n dX3_pour_1 rfl rfl ?_
  refine aw_iload_n dX3_pour_2 rfl rfl ?_
  refine aw_V2 (M' := mX3_areTwoTanks) dX3_pour_3 rfl lkX3_73 gX3_areTwoTanks rfl rfl (Nat.le_of_ble_eq_true rfl) (sX3_areTwoTanks hn h0 ?_)
  show AW _ mX3_pour 6 _ (_ :: _) _ _
  refine aw_if_neb (tgt := 11) dX3_pour_6 rfl rfl (fun c6 => ?_) (fun c6 => ?_)
  · skip
    have c6o := c6
    obtain ⟨hi1, hj1, hij⟩ := c6
    obtain ⟨a, ha, rfl⟩ := ixn_of hi1 (by omega)
    obtain ⟨b, hb, rfl⟩ := ixn_of hj1 (by omega)
    have hab : a ≠ b := fun z => hij (by rw [z])
    have hca : (nI a).toNatClampNeg = a := nI_clamp (by omega)
    have hcb : (nI b).toNatClampNeg = b := nI_clamp (by omega)
    have nab : ∀ (s : SS) (f : Nat → Int32), rp s 8 b f 8 a = s 8 a := fun s f => rp_ne (fun z => hab z.2)
    have nba : ∀ (s : SS) (f : Nat → Int32), rp s 8 a f 8 b = s 8 b := fun s f => rp_ne (fun z => hab z.2.symm)
    refine aw_iload_n dX3_pour_11 rfl rfl ?_
    refine aw_iconst 1 dX3_pour_12 rfl (by decide) ?_
    refine aw_bipush 99 dX3_pour_13 rfl (by decide) ?_
    refine aw_S3 (M' := mX3_within) dX3_pour_15 rfl lkX3_60 gX3_within (Nat.le_of_ble_eq_true rfl) (sX3_within ?_)
    show AW _ mX3_pour 18 _ (_ :: _) _ _
    refine aw_if_neb (tgt := 24) dX3_pour_18 rfl rfl (fun c18 => ?_) (fun c18 => ?_)
    · skip
      refine aw_aload_n dX3_pour_24 rfl rfl ?_
      refine aw_getR dX3_pour_25 rfl rfl rfl (by decide) flX3_11 ?_
      refine aw_iload_n dX3_pour_28 rfl rfl ?_
      refine aw_aald dX3_pour_29 rfl rfl (by decide) (by first | exact (show vp_in _ 6 from vp_in_nI (by omega) (by omega)) | exact (show vp_in _ 4 from vp_in_nI (by omega) (by omega))) ?_
      try simp only [hca]
      try simp only [hcb]
      refine aw_astore dX3_pour_30 rfl (by decide) ?_
      show AW _ mX3_pour 32 [_, _, _, _, _, _, _] _ _ _
      refine aw_aload_n dX3_pour_32 rfl rfl ?_
      refine aw_getR dX3_pour_33 rfl rfl rfl (by decide) flX3_11 ?_
      refine aw_iload_n dX3_pour_36 rfl rfl ?_
      refine aw_aald dX3_pour_37 rfl rfl (by decide) (by first | exact (show vp_in _ 6 from vp_in_nI (by omega) (by omega)) | exact (show vp_in _ 4 from vp_in_nI (by omega) (by omega))) ?_
      try simp only [hca]
      try simp only [hcb]
      refine aw_astore dX3_pour_38 rfl (by decide) ?_
      show AW _ mX3_pour 40 [_, _, _, _, _, _, _] _ _ _
      refine aw_aload dX3_pour_40 rfl rfl ?_
      refine aw_getI dX3_pour_42 rfl rfl rfl flX3_124 ?_
      refine aw_istore dX3_pour_45 rfl (by decide) ?_
      show AW _ mX3_pour 47 [_, _, _, _, _, _, _] _ _ _
      refine aw_aload dX3_pour_47 rfl rfl ?_
      refine aw_getI dX3_pour_49 rfl rfl rfl flX3_127 ?_
      refine aw_iload_n dX3_pour_52 rfl rfl ?_
      refine aw_icmp_lt (tgt := 80) dX3_pour_53 rfl rfl (fun c53 => ?_) (fun c53 => ?_)
      · skip
        refine aw_bipush (-3) dX3_pour_80 rfl (by decide) ?_
        refine aw_ret dX3_pour_82 rfl rfl ?_
        exact k3 a b ha hb hab rfl rfl c18 (by rw [pcB, decide_eq_true c53]; rfl)
      · skip
        refine aw_aload dX3_pour_56 rfl rfl ?_
        refine aw_getI dX3_pour_58 rfl rfl rfl flX3_64 ?_
        refine aw_aload dX3_pour_61 rfl rfl ?_
        refine aw_getI dX3_pour_63 rfl rfl rfl flX3_127 ?_
        refine aw_isub dX3_pour_66 rfl ?_
        refine aw_iload_n dX3_pour_67 rfl rfl ?_
        refine aw_icmp_lt (tgt := 80) dX3_pour_68 rfl rfl (fun c68 => ?_) (fun c68 => ?_)
        · skip
          refine aw_bipush (-3) dX3_pour_80 rfl (by decide) ?_
          refine aw_ret dX3_pour_82 rfl rfl ?_
          exact k3 a b ha hb hab rfl rfl c18 (by rw [pcB, decide_eq_true c68]; simp)
        · skip
          refine aw_aload_n dX3_pour_71 rfl rfl ?_
          refine aw_iload dX3_pour_72 rfl rfl ?_
          refine aw_V1 (M' := mX3_isCargo) dX3_pour_74 rfl lkX3_121 gX3_isCargo rfl rfl (Nat.le_of_ble_eq_true rfl) (sX3_isCargo hc h9 ?_)
          show AW _ mX3_pour 77 _ (_ :: _) _ _
          refine aw_if_neb (tgt := 83) dX3_pour_77 rfl rfl (fun c77 => ?_) (fun c77 => ?_)
          · skip
            have hcl : (nI (ci (σ 8 a 5))).toNatClampNeg = ci (σ 8 a 5) := nI_clamp (by have := vp_lt (ixn_in c77 (Nat.le_refl cn)); omega)
            have hce : nI (ci (σ 8 a 5)) = σ 8 a 5 := by
              obtain ⟨x, hx, ex⟩ := ixn_of c77 (by omega)
              rw [ex, ci, nI_clamp (by omega)]
            refine aw_aload dX3_pour_83 rfl rfl ?_
            refine aw_getI dX3_pour_85 rfl rfl rfl flX3_124 ?_
            refine aw_iload dX3_pour_88 rfl rfl ?_
            refine aw_icmp_eq (tgt := 141) dX3_pour_90 rfl rfl (fun c90 => ?_) (fun c90 => ?_)
            · skip
              try simp only [nab, nba, rp_nk, rp_at, rp_rp, pk_us, ne_eq, Nat.reduceEqDiff, not_false_eq_true, pk_un (show (6 : Nat) ≠ 5 by decide), pk_un (show (5 : Nat) ≠ 6 by decide)]
              refine aw_aload dX3_pour_141 rfl rfl ?_
              refine aw_dup dX3_pour_143 rfl ?_
              refine aw_getI dX3_pour_144 rfl rfl rfl flX3_127 ?_
              refine aw_iload_n dX3_pour_147 rfl rfl ?_
              refine aw_iadd dX3_pour_148 rfl ?_
              refine aw_putI dX3_pour_149 rfl rfl rfl flX3_127 (pf_2_6 _) ?_
              try simp only [nab, nba, rp_nk, rp_at, rp_rp, pk_us, ne_eq, Nat.reduceEqDiff, not_false_eq_true, pk_un (show (6 : Nat) ≠ 5 by decide), pk_un (show (5 : Nat) ≠ 6 by decide)]
              refine aw_aload dX3_pour_152 rfl rfl ?_
              refine aw_dup dX3_pour_154 rfl ?_
              refine aw_getI dX3_pour_155 rfl rfl rfl flX3_127 ?_
              refine aw_iload_n dX3_pour_158 rfl rfl ?_
              refine aw_isub dX3_pour_159 rfl ?_
              refine aw_putI dX3_pour_160 rfl rfl rfl flX3_127 (pf_2_6 _) ?_
              try simp only [nab, nba, rp_nk, rp_at, rp_rp, pk_us, ne_eq, Nat.reduceEqDiff, not_false_eq_true, pk_un (show (6 : Nat) ≠ 5 by decide), pk_un (show (5 : Nat) ≠ 6 by decide)]
              refine aw_aload dX3_pour_163 rfl rfl ?_
              refine aw_getI dX3_pour_165 rfl rfl rfl flX3_127 ?_
              try simp only [nab, nba, rp_nk, rp_at, rp_rp, pk_us, ne_eq, Nat.reduceEqDiff, not_false_eq_true, pk_un (show (6 : Nat) ≠ 5 by decide), pk_un (show (5 : Nat) ≠ 6 by decide)]
              refine aw_if_ne (tgt := 191) dX3_pour_168 rfl rfl (fun c168 => ?_) (fun c168 => ?_)
              · skip
                refine aw_aload dX3_pour_191 rfl rfl ?_
                refine aw_getI dX3_pour_193 rfl rfl rfl flX3_127 ?_
                refine aw_ret dX3_pour_196 rfl rfl ?_
                refine kk_c (k4 a b ha hb hab rfl rfl c18 (by rw [pcB, decide_eq_false c53, decide_eq_false c68, decide_eq_true c77, decide_eq_true c90]; rfl)) ?_ ?_
                · simp only [nab, nba, rp_nk, rp_at, rp_rp, pk_us, ne_eq, Nat.reduceEqDiff, not_false_eq_true, leS_i (show b ≠ a from Ne.symm hab), pk_un (show (6 : Nat) ≠ 5 by decide), pk_un (show (5 : Nat) ≠ 6 by decide)]
                · simp only [pcS, if_pos c90, if_neg c168]
                  try simp only [nab, nba, rp_nk, rp_at, rp_rp, pk_us, ne_eq, Nat.reduceEqDiff, not_false_eq_true, pk_un (show (6 : Nat) ≠ 5 by decide)]
              · skip
                refine aw_aload dX3_pour_171 rfl rfl ?_
                refine aw_aload_n dX3_pour_173 rfl rfl ?_
                refine aw_getR dX3_pour_174 rfl rfl rfl (by decide) flX3_17 ?_
                refine aw_iload dX3_pour_177 rfl rfl ?_
                refine aw_aald dX3_pour_179 rfl rfl (by decide) (ixn_in c77 hc) ?_
                try simp only [hca]
                try simp only [hcb]
                refine aw_getI dX3_pour_180 rfl rfl rfl flX3_99 ?_
                try simp only [nab, nba, rp_nk, rp_at, rp_rp, pk_us, ne_eq, Nat.reduceEqDiff, not_false_eq_true, pk_un (show (6 : Nat) ≠ 5 by decide), pk_un (show (5 : Nat) ≠ 6 by decide)]
                refine aw_V1 (M' := mX2_leaveEmpty) dX3_pour_183 rfl lkX3_209 gX2_leaveEmpty rfl rfl (Nat.le_of_ble_eq_true rfl) (sX2_leaveEmpty ?_)
                rw [show ∀ (s : SS) (l : Int32), rp (rp s 8 a (upd (upd (s 8 a) 5 (-9)) 6 0)) 9 a (upd (upd (upd (s 9 a) 2 (s 9 a 1)) 1 (s 9 a 0)) 0 l) = leS s a l from fun _ _ => rfl]
                show AW _ mX3_pour 186 _ _ _ _
                refine aw_aload_n dX3_pour_186 rfl rfl ?_
                refine aw_iconst 0 dX3_pour_187 rfl (by decide) ?_
                refine aw_putI dX3_pour_188 rfl rfl rfl flX3_54 pf_3_11_0 ?_
                refine aw_aload dX3_pour_191 rfl rfl ?_
                refine aw_getI dX3_pour_193 rfl rfl rfl flX3_127 ?_
                refine aw_ret dX3_pour_196 rfl rfl ?_
                refine kk_c (k4 a b ha hb hab rfl rfl c18 (by rw [pcB, decide_eq_false c53, decide_eq_false c68, decide_eq_true c77, decide_eq_true c90]; rfl)) ?_ ?_
                · simp only [nab, nba, rp_nk, rp_at, rp_rp, pk_us, ne_eq, Nat.reduceEqDiff, not_false_eq_true, leS_i (show b ≠ a from Ne.symm hab), pk_un (show (6 : Nat) ≠ 5 by decide), pk_un (show (5 : Nat) ≠ 6 by decide)]
                · simp only [pcS, if_pos c90, if_pos c168]
                  try simp only [nab, nba, rp_nk, rp_at, rp_rp, pk_us, ne_eq, Nat.reduceEqDiff, not_false_eq_true, pk_un (show (6 : Nat) ≠ 5 by decide)]
                  rw [leS_k (k := 0) (by decide) (by decide)]
                  try simp only [nab, nba, rp_nk, rp_at, rp_rp, pk_us, ne_eq, Nat.reduceEqDiff, not_false_eq_true]
                  try rfl
            · skip
              refine aw_aload_n dX3_pour_93 rfl rfl ?_
              refine aw_aload dX3_pour_94 rfl rfl ?_
              refine aw_aload_n dX3_pour_96 rfl rfl ?_
              refine aw_getR dX3_pour_97 rfl rfl rfl (by decide) flX3_17 ?_
              refine aw_iload dX3_pour_100 rfl rfl ?_
              refine aw_aald dX3_pour_102 rfl rfl (by decide) (ixn_in c77 hc) ?_
              try simp only [hca]
              try simp only [hcb]
              refine aw_V2 (M' := mX3_mayComeInto) dX3_pour_103 rfl lkX3_213 gX3_mayComeInto rfl rfl (Nat.le_of_ble_eq_true rfl) (sX3_mayComeInto hn h0 hc h9 hb (vp_lt (ixn_in c77 hc)) hH hCoat hLat hLiq ?_)
              rw [show (σ 8 a 5).toNatClampNeg = ci (σ 8 a 5) from rfl, hce]
              show AW _ mX3_pour 106 _ (_ :: _) _ _
              refine aw_if_neB (tgt := 112) dX3_pour_106 rfl rfl (fun c106 => ?_) (fun c106 => ?_)
              · skip
                refine aw_aload_n dX3_pour_112 rfl rfl ?_
                refine aw_dup dX3_pour_113 rfl ?_
                refine aw_getI dX3_pour_114 rfl rfl rfl flX3_51 ?_
                refine aw_aload_n dX3_pour_117 rfl rfl ?_
                refine aw_aload dX3_pour_118 rfl rfl ?_
                refine aw_aload_n dX3_pour_120 rfl rfl ?_
                refine aw_getR dX3_pour_121 rfl rfl rfl (by decide) flX3_17 ?_
                refine aw_iload dX3_pour_124 rfl rfl ?_
                refine aw_aald dX3_pour_126 rfl rfl (by decide) (ixn_in c77 hc) ?_
                try simp only [hca]
                try simp only [hcb]
                refine aw_V2 (M' := mX3_washesNeeded) dX3_pour_127 rfl lkX3_137 gX3_washesNeeded rfl rfl (Nat.le_of_ble_eq_true rfl) (sX3_washesNeeded (by omega) (vp_lt (ixn_in c77 hc)) hLat hLiq ?_)
                show AW _ mX3_pour 130 _ (_ :: _) _ _
                refine aw_iadd dX3_pour_130 rfl ?_
                refine aw_putI dX3_pour_131 rfl rfl rfl flX3_51 (pf_3_10 _) ?_
                refine aw_aload dX3_pour_134 rfl rfl ?_
                refine aw_iload dX3_pour_136 rfl rfl ?_
                refine aw_putI dX3_pour_138 rfl rfl rfl flX3_124 (pf_2_5 _) ?_
                try simp only [nab, nba, rp_nk, rp_at, rp_rp, pk_us, ne_eq, Nat.reduceEqDiff, not_false_eq_true, pk_un (show (6 : Nat) ≠ 5 by decide), pk_un (show (5 : Nat) ≠ 6 by decide)]
                refine aw_aload dX3_pour_141 rfl rfl ?_
                refine aw_dup dX3_pour_143 rfl ?_
                refine aw_getI dX3_pour_144 rfl rfl rfl flX3_127 ?_
                refine aw_iload_n dX3_pour_147 rfl rfl ?_
                refine aw_iadd dX3_pour_148 rfl ?_
                refine aw_putI dX3_pour_149 rfl rfl rfl flX3_127 (pf_2_6 _) ?_
                try simp only [nab, nba, rp_nk, rp_at, rp_rp, pk_us, ne_eq, Nat.reduceEqDiff, not_false_eq_true, pk_un (show (6 : Nat) ≠ 5 by decide), pk_un (show (5 : Nat) ≠ 6 by decide)]
                refine aw_aload dX3_pour_152 rfl rfl ?_
                refine aw_dup dX3_pour_154 rfl ?_
                refine aw_getI dX3_pour_155 rfl rfl rfl flX3_127 ?_
                refine aw_iload_n dX3_pour_158 rfl rfl ?_
                refine aw_isub dX3_pour_159 rfl ?_
                refine aw_putI dX3_pour_160 rfl rfl rfl flX3_127 (pf_2_6 _) ?_
                try simp only [nab, nba, rp_nk, rp_at, rp_rp, pk_us, ne_eq, Nat.reduceEqDiff, not_false_eq_true, pk_un (show (6 : Nat) ≠ 5 by decide), pk_un (show (5 : Nat) ≠ 6 by decide)]
                refine aw_aload dX3_pour_163 rfl rfl ?_
                refine aw_getI dX3_pour_165 rfl rfl rfl flX3_127 ?_
                try simp only [nab, nba, rp_nk, rp_at, rp_rp, pk_us, ne_eq, Nat.reduceEqDiff, not_false_eq_true, pk_un (show (6 : Nat) ≠ 5 by decide), pk_un (show (5 : Nat) ≠ 6 by decide)]
                refine aw_if_ne (tgt := 191) dX3_pour_168 rfl rfl (fun c168 => ?_) (fun c168 => ?_)
                · skip
                  refine aw_aload dX3_pour_191 rfl rfl ?_
                  refine aw_getI dX3_pour_193 rfl rfl rfl flX3_127 ?_
                  refine aw_ret dX3_pour_196 rfl rfl ?_
                  refine kk_c (k4 a b ha hb hab rfl rfl c18 (by rw [pcB, decide_eq_false c53, decide_eq_false c68, decide_eq_true c77, decide_eq_false c90, Bool.false_or, c106]; rfl)) ?_ ?_
                  · simp only [nab, nba, rp_nk, rp_at, rp_rp, pk_us, ne_eq, Nat.reduceEqDiff, not_false_eq_true, leS_i (show b ≠ a from Ne.symm hab), pk_un (show (6 : Nat) ≠ 5 by decide), pk_un (show (5 : Nat) ≠ 6 by decide)]
                  · simp only [pcS, if_neg c90, if_neg c168]
                    try simp only [nab, nba, rp_nk, rp_at, rp_rp, pk_us, ne_eq, Nat.reduceEqDiff, not_false_eq_true, pk_un (show (6 : Nat) ≠ 5 by decide)]
                · skip
                  refine aw_aload dX3_pour_171 rfl rfl ?_
                  refine aw_aload_n dX3_pour_173 rfl rfl ?_
                  refine aw_getR dX3_pour_174 rfl rfl rfl (by decide) flX3_17 ?_
                  refine aw_iload dX3_pour_177 rfl rfl ?_
                  refine aw_aald dX3_pour_179 rfl rfl (by decide) (ixn_in c77 hc) ?_
                  try simp only [hca]
                  try simp only [hcb]
                  refine aw_getI dX3_pour_180 rfl rfl rfl flX3_99 ?_
                  try simp only [nab, nba, rp_nk, rp_at, rp_rp, pk_us, ne_eq, Nat.reduceEqDiff, not_false_eq_true, pk_un (show (6 : Nat) ≠ 5 by decide), pk_un (show (5 : Nat) ≠ 6 by decide)]
                  refine aw_V1 (M' := mX2_leaveEmpty) dX3_pour_183 rfl lkX3_209 gX2_leaveEmpty rfl rfl (Nat.le_of_ble_eq_true rfl) (sX2_leaveEmpty ?_)
                  rw [show ∀ (s : SS) (l : Int32), rp (rp s 8 a (upd (upd (s 8 a) 5 (-9)) 6 0)) 9 a (upd (upd (upd (s 9 a) 2 (s 9 a 1)) 1 (s 9 a 0)) 0 l) = leS s a l from fun _ _ => rfl]
                  show AW _ mX3_pour 186 _ _ _ _
                  refine aw_aload_n dX3_pour_186 rfl rfl ?_
                  refine aw_iconst 0 dX3_pour_187 rfl (by decide) ?_
                  refine aw_putI dX3_pour_188 rfl rfl rfl flX3_54 pf_3_11_0 ?_
                  refine aw_aload dX3_pour_191 rfl rfl ?_
                  refine aw_getI dX3_pour_193 rfl rfl rfl flX3_127 ?_
                  refine aw_ret dX3_pour_196 rfl rfl ?_
                  refine kk_c (k4 a b ha hb hab rfl rfl c18 (by rw [pcB, decide_eq_false c53, decide_eq_false c68, decide_eq_true c77, decide_eq_false c90, Bool.false_or, c106]; rfl)) ?_ ?_
                  · simp only [nab, nba, rp_nk, rp_at, rp_rp, pk_us, ne_eq, Nat.reduceEqDiff, not_false_eq_true, leS_i (show b ≠ a from Ne.symm hab), pk_un (show (6 : Nat) ≠ 5 by decide), pk_un (show (5 : Nat) ≠ 6 by decide)]
                  · simp only [pcS, if_neg c90, if_pos c168]
                    try simp only [nab, nba, rp_nk, rp_at, rp_rp, pk_us, ne_eq, Nat.reduceEqDiff, not_false_eq_true, pk_un (show (6 : Nat) ≠ 5 by decide)]
                    rw [leS_k (k := 0) (by decide) (by decide)]
                    try simp only [nab, nba, rp_nk, rp_at, rp_rp, pk_us, ne_eq, Nat.reduceEqDiff, not_false_eq_true]
                    try rfl
              · skip
                refine aw_bipush (-3) dX3_pour_109 rfl (by decide) ?_
                refine aw_ret dX3_pour_111 rfl rfl ?_
                exact k3 a b ha hb hab rfl rfl c18 (by
                  rw [pcB, decide_eq_false c90, Bool.false_or, c106]
                  simp)
          · skip
            refine aw_bipush (-3) dX3_pour_80 rfl (by decide) ?_
            refine aw_ret dX3_pour_82 rfl rfl ?_
            exact k3 a b ha hb hab rfl rfl c18 (by rw [pcB, decide_eq_false c77]; simp)
    · skip
      refine aw_bipush (-2) dX3_pour_21 rfl (by decide) ?_
      refine aw_ret dX3_pour_23 rfl rfl ?_
      exact k2 c6o c18
  · skip
    refine aw_iconst (-1) dX3_pour_9 rfl (by decide) ?_
    refine aw_ret dX3_pour_10 rfl rfl ?_
    exact k1 c6
