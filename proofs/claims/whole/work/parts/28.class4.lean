set_option maxRecDepth 4000 in
theorem sX3_stowTold {d : Nat} {σ : SS} {K : ax_K} {n cn : Nat} (hn : n ≤ 6) (h0 : σ 0 0 7 = nI n) (hc : cn ≤ 4) (h9 : σ 0 0 8 = nI cn) (hK : K none (rp (rp σ 7 0 (lfR (fun t => σ 8 t 0) (fun c => σ 10 c 1) (σ 5 0) (σ 7 0) cn n)) 6 0 (fun t => if t < n then fl (fun t => σ 8 t 0) (fun c => σ 10 c 1) (σ 5 0) cn t else σ 6 0 t))) : AW (d + 1) mX3_stowTold 0 (ax_en mX3_stowTold [.inr (0, 0)]) [] σ K := by
  show AW _ mX3_stowTold 0 [_, _, _] _ _ _
  refine aw_iconst 0 dX3_stowTold_0 rfl (by decide) ?_
  refine aw_istore_n dX3_stowTold_1 rfl (by decide) ?_
  show AW _ mX3_stowTold 2 [_, _, _] _ _ _
  refine AW.conv (ax_loop (P := fun i => AW (d + 1) mX3_stowTold 2 [some (.inr (0, 0)), some (.inl (nI i)), none] [] (rp σ 7 0 (fun c => if c < i then σ 10 c 1 else σ 7 0 c)) K) cn ?_ ?_ 0 (Nat.zero_le _)) (by first | (simp only [nI_0]; done) | (simp only [nI_0]; rfl)) rfl (by rw [up_0, rp_self])
  · try dsimp only
    refine aw_iload_n dX3_stowTold_2 rfl rfl ?_
    refine aw_aload_n dX3_stowTold_3 rfl rfl ?_
    refine aw_getI dX3_stowTold_4 rfl rfl rfl flX3_45 ?_
    refine aw_icmp_ge (tgt := 31) dX3_stowTold_7 rfl rfl (fun _ => ?_) (fun z => absurd (by rw [rp_nk (by decide), h9]; exact Int32.le_refl _) z)
    refine aw_iconst 0 dX3_stowTold_31 rfl (by decide) ?_
    refine aw_istore_n dX3_stowTold_32 rfl (by decide) ?_
    show AW _ mX3_stowTold 33 [_, _, _] _ _ _
    refine AW.conv (ax_loop (P := fun i => AW (d + 1) mX3_stowTold 33 [some (.inr (0, 0)), some (.inl (nI i)), none] [] (rp (rp σ 7 0 (lfR (fun t => σ 8 t 0) (fun c => σ 10 c 1) (σ 5 0) (σ 7 0) cn i)) 6 0 (fun t => if t < i then fl (fun t => σ 8 t 0) (fun c => σ 10 c 1) (σ 5 0) cn t else σ 6 0 t)) K) n ?_ ?_ 0 (Nat.zero_le _)) (by rw [nI_0]) rfl (by rw [up_0, rp_self2 (by decide)]; rfl)
    · try dsimp only
      refine aw_iload_n dX3_stowTold_33 rfl rfl ?_
      refine aw_aload_n dX3_stowTold_34 rfl rfl ?_
      refine aw_getI dX3_stowTold_35 rfl rfl rfl flX3_41 ?_
      refine aw_icmp_ge (tgt := 108) dX3_stowTold_38 rfl rfl (fun _ => ?_) (fun z => absurd (by rw [rp_nk (by decide), rp_nk (by decide), h0]; exact Int32.le_refl _) z)
      refine aw_vret dX3_stowTold_108 rfl ?_
      exact hK
    · intro i hi_33 nx_33
      try dsimp only at nx_33 ⊢
      have hci : (nI i).toNatClampNeg = i := nI_clamp (by omega)
      refine aw_iload_n dX3_stowTold_33 rfl rfl ?_
      refine aw_aload_n dX3_stowTold_34 rfl rfl ?_
      refine aw_getI dX3_stowTold_35 rfl rfl rfl flX3_41 ?_
      refine aw_icmp_ge (tgt := 108) dX3_stowTold_38 rfl rfl (fun z => absurd z (by rw [rp_nk (by decide), rp_nk (by decide), h0]; exact nI_ge hi_33 (by omega))) (fun _ => ?_)
      refine aw_aload_n dX3_stowTold_41 rfl rfl ?_
      refine aw_getR dX3_stowTold_42 rfl rfl rfl (by decide) flX3_32 ?_
      refine aw_iload_n dX3_stowTold_45 rfl rfl ?_
      refine aw_iald dX3_stowTold_46 rfl rfl (by first | exact vp_in_nI (by omega) (by omega) | exact vp_in_iff.mpr (by decide)) ?_
      try simp only [hci]
      try simp only [rp_nk (show ¬ 5 = 6 by decide)]
      try simp only [rp_nk (show ¬ 5 = 7 by decide)]
      try simp only [rp_nk (show ¬ 8 = 6 by decide)]
      try simp only [rp_nk (show ¬ 8 = 7 by decide)]
      refine aw_istore_n dX3_stowTold_47 rfl (by decide) ?_
      show AW _ mX3_stowTold 48 [_, _, _] _ _ _
      refine aw_aload_n dX3_stowTold_48 rfl rfl ?_
      refine aw_getR dX3_stowTold_49 rfl rfl rfl (by decide) flX3_35 ?_
      refine aw_iload_n dX3_stowTold_52 rfl rfl ?_
      refine aw_iconst 0 dX3_stowTold_53 rfl (by decide) ?_
      refine aw_iast dX3_stowTold_54 rfl rfl (by first | exact vp_in_nI (by omega) (by omega) | exact vp_in_iff.mpr (by decide)) ?_
      try simp only [hci]
      try simp only [rp_nk (show ¬ 5 = 6 by decide)]
      try simp only [rp_nk (show ¬ 5 = 7 by decide)]
      try simp only [rp_nk (show ¬ 8 = 6 by decide)]
      try simp only [rp_nk (show ¬ 8 = 7 by decide)]
      refine aw_aload_n dX3_stowTold_55 rfl rfl ?_
      refine aw_iload_n dX3_stowTold_56 rfl rfl ?_
      refine aw_V1 (M' := mX3_isCargo) dX3_stowTold_57 rfl lkX3_121 gX3_isCargo rfl rfl (Nat.le_of_ble_eq_true rfl) (sX3_isCargo hc h9 ?_)
      show AW _ mX3_stowTold 60 _ (_ :: _) _ _
      refine aw_if_eqb (tgt := 102) dX3_stowTold_60 rfl rfl (fun c60 => ?_) (fun c60 => ?_)
      · skip
        refine aw_iinc dX3_stowTold_102 rfl rfl (ii_1 _) (by decide) ?_
        show AW _ mX3_stowTold 105 [_, _, _] _ _ _
        refine aw_goto (q := 33) dX3_stowTold_105 rfl ?_
        refine AW.conv (AW.forget nx_33 (ls := [some (.inr (0, 0)), some (.inl (nI (i + 1))), some (.inl (σ 5 0 i))]) (fun n v h => by
          match n, h with
          | 0, h => exact h
          | 1, h => exact h
          | 2, h => cases h
          | n + 3, h => simp at h)) (by first | (simp only [nI_succ i]; done) | (simp only [nI_succ i]; rfl)) rfl ?_
        rw [lfR_f c60 (by omega)]
        simp only [rp_nk, rp_at, rp_rp, pk_us, ne_eq, Nat.reduceEqDiff, not_false_eq_true]
        have hz : (0 : Int32) = fl (fun t => σ 8 t 0) (fun c => σ 10 c 1) (σ 5 0) cn i := (fl_no c60).symm
        rw [hz]
        exact congrArg (rp _ 6 0) (up_lt (fun t => fl (fun t => σ 8 t 0) (fun c => σ 10 c 1) (σ 5 0) cn t) (σ 6 0) i)
      · skip
        refine aw_aload_n dX3_stowTold_63 rfl rfl ?_
        refine aw_getR dX3_stowTold_64 rfl rfl rfl (by decide) flX3_35 ?_
        refine aw_iload_n dX3_stowTold_67 rfl rfl ?_
        refine aw_aload_n dX3_stowTold_68 rfl rfl ?_
        refine aw_getR dX3_stowTold_69 rfl rfl rfl (by decide) flX3_11 ?_
        refine aw_iload_n dX3_stowTold_72 rfl rfl ?_
        refine aw_aald dX3_stowTold_73 rfl rfl (by decide) (by first | exact (show vp_in _ 6 from vp_in_nI (by omega) (by omega)) | exact (show vp_in _ 4 from vp_in_nI (by omega) (by omega))) ?_
        try simp only [hci]
        try simp only [rp_nk (show ¬ 5 = 6 by decide)]
        try simp only [rp_nk (show ¬ 5 = 7 by decide)]
        try simp only [rp_nk (show ¬ 8 = 6 by decide)]
        try simp only [rp_nk (show ¬ 8 = 7 by decide)]
        refine aw_getI dX3_stowTold_74 rfl rfl rfl flX3_64 ?_
        refine aw_aload_n dX3_stowTold_77 rfl rfl ?_
        refine aw_getR dX3_stowTold_78 rfl rfl rfl (by decide) flX3_38 ?_
        refine aw_iload_n dX3_stowTold_81 rfl rfl ?_
        refine aw_iald dX3_stowTold_82 rfl rfl (ixn_in c60 hc) ?_
        try simp only [hci]
        try simp only [rp_nk (show ¬ 5 = 6 by decide)]
        try simp only [rp_nk (show ¬ 5 = 7 by decide)]
        try simp only [rp_nk (show ¬ 8 = 6 by decide)]
        try simp only [rp_nk (show ¬ 8 = 7 by decide)]
        refine aw_mmin dX3_stowTold_83 rfl lkX3_224 (Nat.le_of_ble_eq_true rfl) ?_
        refine aw_iast dX3_stowTold_86 rfl rfl (by first | exact vp_in_nI (by omega) (by omega) | exact vp_in_iff.mpr (by decide)) ?_
        try simp only [hci]
        try simp only [rp_nk (show ¬ 5 = 6 by decide)]
        try simp only [rp_nk (show ¬ 5 = 7 by decide)]
        try simp only [rp_nk (show ¬ 8 = 6 by decide)]
        try simp only [rp_nk (show ¬ 8 = 7 by decide)]
        refine aw_aload_n dX3_stowTold_87 rfl rfl ?_
        refine aw_getR dX3_stowTold_88 rfl rfl rfl (by decide) flX3_38 ?_
        refine aw_iload_n dX3_stowTold_91 rfl rfl ?_
        refine aw_dup2 dX3_stowTold_92 rfl ?_
        refine aw_iald dX3_stowTold_93 rfl rfl (ixn_in c60 hc) ?_
        try simp only [hci]
        try simp only [rp_nk (show ¬ 5 = 6 by decide)]
        try simp only [rp_nk (show ¬ 5 = 7 by decide)]
        try simp only [rp_nk (show ¬ 8 = 6 by decide)]
        try simp only [rp_nk (show ¬ 8 = 7 by decide)]
        refine aw_aload_n dX3_stowTold_94 rfl rfl ?_
        refine aw_getR dX3_stowTold_95 rfl rfl rfl (by decide) flX3_35 ?_
        refine aw_iload_n dX3_stowTold_98 rfl rfl ?_
        refine aw_iald dX3_stowTold_99 rfl rfl (by first | exact vp_in_nI (by omega) (by omega) | exact vp_in_iff.mpr (by decide)) ?_
        try simp only [hci]
        try simp only [rp_nk (show ¬ 5 = 6 by decide)]
        try simp only [rp_nk (show ¬ 5 = 7 by decide)]
        try simp only [rp_nk (show ¬ 8 = 6 by decide)]
        try simp only [rp_nk (show ¬ 8 = 7 by decide)]
        refine aw_isub dX3_stowTold_100 rfl ?_
        refine aw_iast dX3_stowTold_101 rfl rfl (ixn_in c60 hc) ?_
        try simp only [hci]
        try simp only [rp_nk (show ¬ 5 = 6 by decide)]
        try simp only [rp_nk (show ¬ 5 = 7 by decide)]
        try simp only [rp_nk (show ¬ 8 = 6 by decide)]
        try simp only [rp_nk (show ¬ 8 = 7 by decide)]
        refine aw_iinc dX3_stowTold_102 rfl rfl (ii_1 _) (by decide) ?_
        show AW _ mX3_stowTold 105 [_, _, _] _ _ _
        refine aw_goto (q := 33) dX3_stowTold_105 rfl ?_
        refine AW.conv (AW.forget nx_33 (ls := [some (.inr (0, 0)), some (.inl (nI (i + 1))), some (.inl (σ 5 0 i))]) (fun n v h => by
          match n, h with
          | 0, h => exact h
          | 1, h => exact h
          | 2, h => cases h
          | n + 3, h => simp at h)) (by first | (simp only [nI_succ i]; done) | (simp only [nI_succ i]; rfl)) rfl ?_
        simp only [rp_nk, rp_at, rp_rp, pk_us, ne_eq, Nat.reduceEqDiff, not_false_eq_true, upd_upd, rp_c67]
        rw [show (if (lfR (fun t => σ 8 t 0) (fun c => σ 10 c 1) (σ 5 0) (σ 7 0) cn i) (ci (σ 5 0 i)) < σ 8 i 0 then (lfR (fun t => σ 8 t 0) (fun c => σ 10 c 1) (σ 5 0) (σ 7 0) cn i) (ci (σ 5 0 i)) else σ 8 i 0) = mn (σ 8 i 0) ((lfR (fun t => σ 8 t 0) (fun c => σ 10 c 1) (σ 5 0) (σ 7 0) cn i) (ci (σ 5 0 i))) from rfl]
        rw [lfR_t c60 (vol := (fun t => σ 8 t 0)) (by omega), fl_lfR c60 (vol := (fun t => σ 8 t 0)) (by omega)]
        exact congrArg (rp _ 6 0) (up_lt (fun t => fl (fun t => σ 8 t 0) (fun c => σ 10 c 1) (σ 5 0) cn t) (σ 6 0) i)
  · intro i hi_2 nx_2
    try dsimp only at nx_2 ⊢
    have hci : (nI i).toNatClampNeg = i := nI_clamp (by omega)
    refine aw_iload_n dX3_stowTold_2 rfl rfl ?_
    refine aw_aload_n dX3_stowTold_3 rfl rfl ?_
    refine aw_getI dX3_stowTold_4 rfl rfl rfl flX3_45 ?_
    refine aw_icmp_ge (tgt := 31) dX3_stowTold_7 rfl rfl (fun z => absurd z (by rw [rp_nk (by decide), h9]; exact nI_ge hi_2 (by omega))) (fun _ => ?_)
    refine aw_aload_n dX3_stowTold_10 rfl rfl ?_
    refine aw_getR dX3_stowTold_11 rfl rfl rfl (by decide) flX3_38 ?_
    refine aw_iload_n dX3_stowTold_14 rfl rfl ?_
    refine aw_aload_n dX3_stowTold_15 rfl rfl ?_
    refine aw_getR dX3_stowTold_16 rfl rfl rfl (by decide) flX3_17 ?_
    refine aw_iload_n dX3_stowTold_19 rfl rfl ?_
    refine aw_aald dX3_stowTold_20 rfl rfl (by decide) (by first | exact (show vp_in _ 6 from vp_in_nI (by omega) (by omega)) | exact (show vp_in _ 4 from vp_in_nI (by omega) (by omega))) ?_
    try simp only [hci]
    try simp only [rp_nk (show ¬ 5 = 6 by decide)]
    try simp only [rp_nk (show ¬ 5 = 7 by decide)]
    try simp only [rp_nk (show ¬ 8 = 6 by decide)]
    try simp only [rp_nk (show ¬ 8 = 7 by decide)]
    refine aw_getI dX3_stowTold_21 rfl rfl rfl flX3_102 ?_
    refine aw_iast dX3_stowTold_24 rfl rfl (by first | exact vp_in_nI (by omega) (by omega) | exact vp_in_iff.mpr (by decide)) ?_
    try simp only [hci]
    try simp only [rp_nk (show ¬ 5 = 6 by decide)]
    try simp only [rp_nk (show ¬ 5 = 7 by decide)]
    try simp only [rp_nk (show ¬ 8 = 6 by decide)]
    try simp only [rp_nk (show ¬ 8 = 7 by decide)]
    refine aw_iinc dX3_stowTold_25 rfl rfl (ii_1 _) (by decide) ?_
    show AW _ mX3_stowTold 28 [_, _, _] _ _ _
    refine aw_goto (q := 2) dX3_stowTold_28 rfl ?_
    refine AW.conv nx_2 (by first | (simp only [nI_succ]; done) | (simp only [nI_succ]; rfl)) rfl ?_
    simp only [rp_nk, rp_at, rp_rp, pk_us, ne_eq, Nat.reduceEqDiff, not_false_eq_true, hci]
    exact congrArg (rp σ 7 0) (up_lt (fun c => σ 10 c 1) (σ 7 0) i)
set_option maxRecDepth 4000 in
theorem sX3_broken {d : Nat} {σ : SS} {K : ax_K} {v : Int32} {n cn : Nat} (hn : n ≤ 6) (h0 : σ 0 0 7 = nI n) (hc : cn ≤ 4) (h9 : σ 0 0 8 = nI cn) (hPl : okT n cn (σ 5 0)) (hCoat : ∀ t, t < 6 → 0 ≤ σ 8 t 1) (hLat : ∀ t k, t < 6 → k < 3 → lt9 (σ 9 t k)) (hLiq : ∀ c, c < 4 → ∃ j, j < 8 ∧ σ 10 c 0 = nI j) (hVol : vOK n (fun t => σ 8 t 0)) (hAmt : aOK cn (fun c => σ 10 c 1)) (hBd : 0 ≤ σ 0 0 9) (k1 : ¬ ixn v (2 ^ cn) → K (some (-2)) σ) (k2 : ixn v (2 ^ cn) → ∀ f g, K (some (brS (vw σ) (σ 5 0) n cn v)) (rp (rp σ 7 0 f) 6 0 g)) : AW (d + 3) mX3_broken 0 (ax_en mX3_broken [.inr (0, 0), .inl v]) [] σ K := by
  have e4 : anyB cn (sB v (lfR (fun t => σ 8 t 0) (fun c => σ 10 c 1) (σ 5 0) (σ 7 0) cn n)) = anyB cn (mB (vw σ) (σ 5 0) n v) := rule4 (σ := vw σ) hVol hAmt (by omega) (fun c hcc => by unfold lfR; rw [if_pos hcc]; rfl)
  have e5 : anyB n (eB (σ 5 0) (fun t => if t < n then fl (fun t => σ 8 t 0) (fun c => σ 10 c 1) (σ 5 0) cn t else σ 6 0 t)) = anyB n (eB (σ 5 0) (fl ((vw σ) 29 0) ((vw σ) 38 0) (σ 5 0) cn)) := eB_fr n _ _ _
  have e6 : sumI n (fun t => (fun t => if t < n then fl (fun t => σ 8 t 0) (fun c => σ 10 c 1) (σ 5 0) cn t else σ 6 0 t) t * σ 8 t 2) = liS (vw σ) (σ 5 0) n cn := sumI_congr (fun t ht => by simp only [if_pos ht]; rfl)
  show AW _ mX3_broken 0 [_, _] _ _ _
  refine aw_aload_n dX3_broken_0 rfl rfl ?_
  refine aw_iload_n dX3_broken_1 rfl rfl ?_
  refine aw_V1 (M' := mX3_isCargoSet) dX3_broken_2 rfl lkX3_144 gX3_isCargoSet rfl rfl (Nat.le_of_ble_eq_true rfl) (sX3_isCargoSet hc h9 ?_)
  show AW _ mX3_broken 5 _ (_ :: _) _ _
  refine aw_if_neb (tgt := 11) dX3_broken_5 rfl rfl (fun c5 => ?_) (fun c5 => ?_)
  · skip
    refine aw_aload_n dX3_broken_11 rfl rfl ?_
    refine aw_iload_n dX3_broken_12 rfl rfl ?_
    refine aw_V1 (M' := mX3_toldGoesBeyond) dX3_broken_13 rfl lkX3_147 gX3_toldGoesBeyond rfl rfl (Nat.le_of_ble_eq_true rfl) (sX3_toldGoesBeyond hn h0 hPl ?_)
    show AW _ mX3_broken 16 _ (_ :: _) _ _
    refine aw_if_eqB (tgt := 21) dX3_broken_16 rfl rfl (fun c16 => ?_) (fun c16 => ?_)
    · skip
      refine aw_aload_n dX3_broken_21 rfl rfl ?_
      refine aw_V0 (M' := mX3_toldDoesNotSuit) dX3_broken_22 rfl lkX3_150 gX3_toldDoesNotSuit rfl rfl (Nat.le_of_ble_eq_true rfl) (sX3_toldDoesNotSuit hn h0 hc h9 hPl hCoat hLat ?_)
      show AW _ mX3_broken 25 _ (_ :: _) _ _
      refine aw_if_eqB (tgt := 30) dX3_broken_25 rfl rfl (fun c25 => ?_) (fun c25 => ?_)
      · skip
        refine aw_aload_n dX3_broken_30 rfl rfl ?_
        refine aw_V0 (M' := mX3_toldClashes) dX3_broken_31 rfl lkX3_154 gX3_toldClashes rfl rfl (Nat.le_of_ble_eq_true rfl) (sX3_toldClashes hn h0 hc h9 hPl hLiq ?_)
        show AW _ mX3_broken 34 _ (_ :: _) _ _
        refine aw_if_eqB (tgt := 39) dX3_broken_34 rfl rfl (fun c34 => ?_) (fun c34 => ?_)
        · skip
          refine aw_aload_n dX3_broken_39 rfl rfl ?_
          refine aw_V0 (M' := mX3_stowTold) dX3_broken_40 rfl lkX3_157 gX3_stowTold rfl rfl (Nat.le_of_ble_eq_true rfl) (sX3_stowTold hn h0 hc h9 ?_)
          show AW _ mX3_broken 43 _ _ _ _
          refine aw_aload_n dX3_broken_43 rfl rfl ?_
          refine aw_iload_n dX3_broken_44 rfl rfl ?_
          refine aw_V1 (M' := mX3_toldLeavesSomeOf) dX3_broken_45 rfl lkX3_160 gX3_toldLeavesSomeOf rfl rfl (Nat.le_of_ble_eq_true rfl) (sX3_toldLeavesSomeOf hc h9 ?_)
          rw [show (rp (rp σ 7 0 (lfR (fun t => σ 8 t 0) (fun c => σ 10 c 1) (σ 5 0) (σ 7 0) cn n)) 6 0 (fun t => if t < n then fl (fun t => σ 8 t 0) (fun c => σ 10 c 1) (σ 5 0) cn t else σ 6 0 t)) 7 0 = (lfR (fun t => σ 8 t 0) (fun c => σ 10 c 1) (σ 5 0) (σ 7 0) cn n) from rfl, e4]
          show AW _ mX3_broken 48 _ (_ :: _) _ _
          refine aw_if_eqB (tgt := 53) dX3_broken_48 rfl rfl (fun c48 => ?_) (fun c48 => ?_)
          · skip
            refine aw_aload_n dX3_broken_53 rfl rfl ?_
            refine aw_V0 (M' := mX3_toldLeavesTankEmpty) dX3_broken_54 rfl lkX3_163 gX3_toldLeavesTankEmpty rfl rfl (Nat.le_of_ble_eq_true rfl) (sX3_toldLeavesTankEmpty hn h0 ?_)
            rw [show (rp (rp σ 7 0 (lfR (fun t => σ 8 t 0) (fun c => σ 10 c 1) (σ 5 0) (σ 7 0) cn n)) 6 0 (fun t => if t < n then fl (fun t => σ 8 t 0) (fun c => σ 10 c 1) (σ 5 0) cn t else σ 6 0 t)) 5 0 = σ 5 0 from rfl, show (rp (rp σ 7 0 (lfR (fun t => σ 8 t 0) (fun c => σ 10 c 1) (σ 5 0) (σ 7 0) cn n)) 6 0 (fun t => if t < n then fl (fun t => σ 8 t 0) (fun c => σ 10 c 1) (σ 5 0) cn t else σ 6 0 t)) 6 0 = (fun t => if t < n then fl (fun t => σ 8 t 0) (fun c => σ 10 c 1) (σ 5 0) cn t else σ 6 0 t) from rfl, e5]
            show AW _ mX3_broken 57 _ (_ :: _) _ _
            refine aw_if_eqB (tgt := 62) dX3_broken_57 rfl rfl (fun c57 => ?_) (fun c57 => ?_)
            · skip
              refine aw_aload_n dX3_broken_62 rfl rfl ?_
              refine aw_V0 (M' := mX3_toldList) dX3_broken_63 rfl lkX3_166 gX3_toldList rfl rfl (Nat.le_of_ble_eq_true rfl) (sX3_toldList hn h0 ?_)
              rw [show (fun t => (rp (rp σ 7 0 (lfR (fun t => σ 8 t 0) (fun c => σ 10 c 1) (σ 5 0) (σ 7 0) cn n)) 6 0 (fun t => if t < n then fl (fun t => σ 8 t 0) (fun c => σ 10 c 1) (σ 5 0) cn t else σ 6 0 t)) 6 0 t * (rp (rp σ 7 0 (lfR (fun t => σ 8 t 0) (fun c => σ 10 c 1) (σ 5 0) (σ 7 0) cn n)) 6 0 (fun t => if t < n then fl (fun t => σ 8 t 0) (fun c => σ 10 c 1) (σ 5 0) cn t else σ 6 0 t)) 8 t 2) = (fun t => (fun t => if t < n then fl (fun t => σ 8 t 0) (fun c => σ 10 c 1) (σ 5 0) cn t else σ 6 0 t) t * σ 8 t 2) from rfl, e6]
              show AW _ mX3_broken 66 _ (_ :: _) _ _
              refine aw_mabs dX3_broken_66 rfl lkX3_170 (Nat.le_of_ble_eq_true rfl) ?_
              refine aw_aload_n dX3_broken_69 rfl rfl ?_
              refine aw_getI dX3_broken_70 rfl rfl rfl flX3_48 ?_
              refine aw_icmp_le (tgt := 81) dX3_broken_73 rfl rfl (fun c73 => ?_) (fun c73 => ?_)
              · skip
                refine aw_iconst 0 dX3_broken_81 rfl (by decide) ?_
                refine aw_ret dX3_broken_82 rfl rfl ?_
                refine kk_c (k2 c5 _ _) ?_ rfl
                rw [brS, if_neg (by rw [c16]; decide), if_neg (by rw [c25]; decide), if_neg (by rw [c34]; decide), if_neg (by rw [c48]; decide), if_neg (by rw [c57]; decide)]
                exact congrArg some (if_neg ((rule6 (b := (vw σ) 28 0 17) hBd).mp c73))
              · skip
                refine aw_bipush 6 dX3_broken_76 rfl (by decide) ?_
                refine aw_goto (q := 82) dX3_broken_78 rfl ?_
                refine aw_ret dX3_broken_82 rfl rfl ?_
                refine kk_c (k2 c5 _ _) ?_ rfl
                rw [brS, if_neg (by rw [c16]; decide), if_neg (by rw [c25]; decide), if_neg (by rw [c34]; decide), if_neg (by rw [c48]; decide), if_neg (by rw [c57]; decide)]
                exact congrArg some (if_pos (Decidable.not_not.mp (fun z => c73 ((rule6 (b := (vw σ) 28 0 17) hBd).mpr z))))
            · skip
              refine aw_iconst 5 dX3_broken_60 rfl (by decide) ?_
              refine aw_ret dX3_broken_61 rfl rfl ?_
              exact kk_c (k2 c5 _ _) (by rw [brS, if_neg (by rw [c16]; decide), if_neg (by rw [c25]; decide), if_neg (by rw [c34]; decide), if_neg (by rw [c48]; decide), if_pos c57]) rfl
          · skip
            refine aw_iconst 4 dX3_broken_51 rfl (by decide) ?_
            refine aw_ret dX3_broken_52 rfl rfl ?_
            exact kk_c (k2 c5 _ _) (by rw [brS, if_neg (by rw [c16]; decide), if_neg (by rw [c25]; decide), if_neg (by rw [c34]; decide), if_pos c48]) rfl
        · skip
          refine aw_iconst 3 dX3_broken_37 rfl (by decide) ?_
          refine aw_ret dX3_broken_38 rfl rfl ?_
          exact kk_c (k2 c5 (σ 7 0) (σ 6 0)) (by rw [brS, if_neg (by rw [c16]; decide), if_neg (by rw [c25]; decide), if_pos c34]) (by rw [rp_self, rp_self])
      · skip
        refine aw_iconst 2 dX3_broken_28 rfl (by decide) ?_
        refine aw_ret dX3_broken_29 rfl rfl ?_
        exact kk_c (k2 c5 (σ 7 0) (σ 6 0)) (by rw [brS, if_neg (by rw [c16]; decide), if_pos c25]) (by rw [rp_self, rp_self])
    · skip
      refine aw_iconst 1 dX3_broken_19 rfl (by decide) ?_
      refine aw_ret dX3_broken_20 rfl rfl ?_
      exact kk_c (k2 c5 (σ 7 0) (σ 6 0)) (by rw [brS, if_pos c16]) (by rw [rp_self, rp_self])
  · skip
    refine aw_bipush (-2) dX3_broken_8 rfl (by decide) ?_
    refine aw_ret dX3_broken_10 rfl rfl ?_
    exact k1 c5
set_option maxRecDepth 4000 in
theorem sX3_ofPlan {d : Nat} {σ : SS} {K : ax_K} {w : Int32} {n cn : Nat} (hn : n ≤ 6) (h0 : σ 0 0 7 = nI n) (hc : cn ≤ 4) (h9 : σ 0 0 8 = nI cn) (hPl : okT n cn (σ 5 0)) (hLat : ∀ t k, t < 6 → k < 3 → lt9 (σ 9 t k)) (hLiq : ∀ c, c < 4 → ∃ j, j < 8 ∧ σ 10 c 0 = nI j) (k1 : (∀ j, j < 3 → w ≠ nI j) → K (some (-2)) σ) (k2 : w = 0 → K (some (coS (vw σ) (σ 5 0) n)) σ) (k3 : w = 1 → K (some (usS (σ 5 0) n)) σ) (k4 : w = 2 → ∀ f g, K (some (liS (vw σ) (σ 5 0) n cn + 100000)) (rp (rp σ 7 0 f) 6 0 g)) : AW (d + 4) mX3_ofPlan 0 (ax_en mX3_ofPlan [.inr (0, 0), .inl w]) [] σ K := by
  have e6 : sumI n (fun t => (fun t => if t < n then fl (fun t => σ 8 t 0) (fun c => σ 10 c 1) (σ 5 0) cn t else σ 6 0 t) t * σ 8 t 2) = liS (vw σ) (σ 5 0) n cn := sumI_congr (fun t ht => by simp only [if_pos ht]; rfl)
  show AW _ mX3_ofPlan 0 [_, _] _ _ _
  refine aw_iload_n dX3_ofPlan_0 rfl rfl ?_
  refine aw_tsw 3 dX3_ofPlan_1 rfl (by decide) (by decide) (fun j hj sx => ?_) (fun sx => ?_)
  · match j, hj with
    | 0, _ =>
      refine AW.conv (pc := 28) ?_ rfl rfl rfl
      refine aw_aload_n dX3_ofPlan_28 rfl rfl ?_
      refine aw_V0 (M' := mX3_toldCost) dX3_ofPlan_29 rfl lkX3_175 gX3_toldCost rfl rfl (Nat.le_of_ble_eq_true rfl) (sX3_toldCost hn h0 hc h9 hPl hLat hLiq ?_)
      show AW _ mX3_ofPlan 32 _ (_ :: _) _ _
      refine aw_ret dX3_ofPlan_32 rfl rfl ?_
      exact k2 (sx.trans nI_0)
    | 1, _ =>
      refine AW.conv (pc := 33) ?_ rfl rfl rfl
      refine aw_aload_n dX3_ofPlan_33 rfl rfl ?_
      refine aw_V0 (M' := mX3_toldTanks) dX3_ofPlan_34 rfl lkX3_178 gX3_toldTanks rfl rfl (Nat.le_of_ble_eq_true rfl) (sX3_toldTanks hn h0 ?_)
      show AW _ mX3_ofPlan 37 _ (_ :: _) _ _
      refine aw_ret dX3_ofPlan_37 rfl rfl ?_
      exact k3 sx
    | 2, _ =>
      refine AW.conv (pc := 38) ?_ rfl rfl rfl
      refine aw_aload_n dX3_ofPlan_38 rfl rfl ?_
      refine aw_V0 (M' := mX3_stowTold) dX3_ofPlan_39 rfl lkX3_157 gX3_stowTold rfl rfl (Nat.le_of_ble_eq_true rfl) (sX3_stowTold hn h0 hc h9 ?_)
      show AW _ mX3_ofPlan 42 _ _ _ _
      refine aw_aload_n dX3_ofPlan_42 rfl rfl ?_
      refine aw_V0 (M' := mX3_toldList) dX3_ofPlan_43 rfl lkX3_166 gX3_toldList rfl rfl (Nat.le_of_ble_eq_true rfl) (sX3_toldList hn h0 ?_)
      rw [show (fun t => (rp (rp σ 7 0 (lfR (fun t => σ 8 t 0) (fun c => σ 10 c 1) (σ 5 0) (σ 7 0) cn n)) 6 0 (fun t => if t < n then fl (fun t => σ 8 t 0) (fun c => σ 10 c 1) (σ 5 0) cn t else σ 6 0 t)) 6 0 t * (rp (rp σ 7 0 (lfR (fun t => σ 8 t 0) (fun c => σ 10 c 1) (σ 5 0) (σ 7 0) cn n)) 6 0 (fun t => if t < n then fl (fun t => σ 8 t 0) (fun c => σ 10 c 1) (σ 5 0) cn t else σ 6 0 t)) 8 t 2) = (fun t => (fun t => if t < n then fl (fun t => σ 8 t 0) (fun c => σ 10 c 1) (σ 5 0) cn t else σ 6 0 t) t * σ 8 t 2) from rfl, e6]
      show AW _ mX3_ofPlan 46 _ (_ :: _) _ _
      refine aw_ldc dX3_ofPlan_46 rfl kcX3_181 ?_
      refine aw_iadd dX3_ofPlan_48 rfl ?_
      refine aw_ret dX3_ofPlan_49 rfl rfl ?_
      exact k4 sx _ _
    | j + 3, hj => exact absurd hj (by omega)
  · refine AW.conv (pc := 50) ?_ rfl rfl rfl
    refine aw_bipush (-2) dX3_ofPlan_50 rfl (by decide) ?_
    refine aw_ret dX3_ofPlan_52 rfl rfl ?_
    exact k1 sx
