set_option maxRecDepth 4000 in
theorem sX1_openTo {d : Nat} {σ : SS} {K : ax_K} {t : Nat} (ht : t < 6) (hR : ∀ u, u < t → σ 20 0 u = -9 ∨ vp_in (σ 20 0 u) 4) (hK : K (some (opF (σ 15 0) (σ 13 0) (σ 18 0) (σ 20 0) t t)) σ) : AW (d + 1) mX1_openTo 0 (ax_en mX1_openTo [.inr (4, 0), .inl (nI t)]) [] σ K := by
  have hct : (nI t).toNatClampNeg = t := nI_clamp (by omega)
  show AW _ mX1_openTo 0 [_, _, _, _] _ _ _
  refine aw_aload_n dX1_openTo_0 rfl rfl ?_
  refine aw_getR dX1_openTo_1 rfl rfl rfl (by decide) flX1_34 ?_
  refine aw_iload_n dX1_openTo_4 rfl rfl ?_
  refine aw_iald dX1_openTo_5 rfl rfl (by first | exact vp_in_nI (by omega) (by omega) | exact vp_in_iff.mpr (by decide)) ?_
  try simp only [hci]
  try simp only [hct]
  refine aw_istore_n dX1_openTo_6 rfl (by decide) ?_
  show AW _ mX1_openTo 7 [_, _, _, _] _ _ _
  refine aw_iconst 0 dX1_openTo_7 rfl (by decide) ?_
  refine aw_istore_n dX1_openTo_8 rfl (by decide) ?_
  show AW _ mX1_openTo 9 [_, _, _, _] _ _ _
  refine AW.conv (ax_loop (P := fun i => AW (d + 1) mX1_openTo 9 [some (.inr (4, 0)), some (.inl (nI t)), some (.inl (opF (σ 15 0) (σ 13 0) (σ 18 0) (σ 20 0) t i)), some (.inl (nI i))] [] σ K) t ?_ ?_ 0 (Nat.zero_le _)) (by first | (simp only [nI_0]; done) | (simp only [nI_0]; rfl)) rfl rfl
  · try dsimp only
    refine aw_iload_n dX1_openTo_9 rfl rfl ?_
    refine aw_iload_n dX1_openTo_10 rfl rfl ?_
    refine aw_icmp_ge (tgt := 60) dX1_openTo_11 rfl rfl (fun _ => ?_) (fun z => absurd (Int32.le_refl _) z)
    refine aw_iload_n dX1_openTo_60 rfl rfl ?_
    refine aw_ret dX1_openTo_61 rfl rfl ?_
    exact hK
  · intro i hi_9 nx_9
    try dsimp only at nx_9 ⊢
    have hci : (nI i).toNatClampNeg = i := nI_clamp (by omega)
    refine aw_iload_n dX1_openTo_9 rfl rfl ?_
    refine aw_iload_n dX1_openTo_10 rfl rfl ?_
    refine aw_icmp_ge (tgt := 60) dX1_openTo_11 rfl rfl (fun z => absurd z (nI_ge hi_9 (by omega))) (fun _ => ?_)
    refine aw_aload_n dX1_openTo_14 rfl rfl ?_
    refine aw_getR dX1_openTo_15 rfl rfl rfl (by decide) flX1_28 ?_
    refine aw_iload_n dX1_openTo_18 rfl rfl ?_
    refine aw_iald dX1_openTo_19 rfl rfl (by first | exact vp_in_nI (by omega) (by omega) | exact vp_in_iff.mpr (by decide)) ?_
    try simp only [hci]
    try simp only [hct]
    refine aw_iload_n dX1_openTo_20 rfl rfl ?_
    refine aw_S2 (M' := mX3_has) dX1_openTo_21 rfl lkX1_73 gX3_has (Nat.le_of_ble_eq_true rfl) (sX3_has ?_)
    rw [hc_nI _ (by omega)]
    show AW _ mX1_openTo 24 _ (_ :: _) _ _
    refine aw_if_eqB (tgt := 54) dX1_openTo_24 rfl rfl (fun c24 => ?_) (fun c24 => ?_)
    · skip
      refine aw_iinc dX1_openTo_54 rfl rfl (ii_1 _) (by decide) ?_
      show AW _ mX1_openTo 57 [_, _, _, _] _ _ _
      refine aw_goto (q := 9) dX1_openTo_57 rfl ?_
      refine AW.conv nx_9 ?_ rfl rfl
      simp only [nI_succ i, opF_s]
      simp [c24]
    · skip
      refine aw_aload_n dX1_openTo_27 rfl rfl ?_
      refine aw_getR dX1_openTo_28 rfl rfl rfl (by decide) flX1_49 ?_
      refine aw_iload_n dX1_openTo_31 rfl rfl ?_
      refine aw_iald dX1_openTo_32 rfl rfl (by first | exact vp_in_nI (by omega) (by omega) | exact vp_in_iff.mpr (by decide)) ?_
      try simp only [hci]
      try simp only [hct]
      refine aw_bipush (-9) dX1_openTo_33 rfl (by decide) ?_
      refine aw_icmp_eq (tgt := 54) dX1_openTo_35 rfl rfl (fun c35 => ?_) (fun c35 => ?_)
      · skip
        refine aw_iinc dX1_openTo_54 rfl rfl (ii_1 _) (by decide) ?_
        show AW _ mX1_openTo 57 [_, _, _, _] _ _ _
        refine aw_goto (q := 9) dX1_openTo_57 rfl ?_
        refine AW.conv nx_9 ?_ rfl rfl
        simp only [nI_succ i, opF_s]
        simp [c24, c35]
      · skip
        refine aw_iload_n dX1_openTo_38 rfl rfl ?_
        refine aw_aload_n dX1_openTo_39 rfl rfl ?_
        refine aw_getR dX1_openTo_40 rfl rfl rfl (by decide) flX1_43 ?_
        refine aw_aload_n dX1_openTo_43 rfl rfl ?_
        refine aw_getR dX1_openTo_44 rfl rfl rfl (by decide) flX1_49 ?_
        refine aw_iload_n dX1_openTo_47 rfl rfl ?_
        refine aw_iald dX1_openTo_48 rfl rfl (by first | exact vp_in_nI (by omega) (by omega) | exact vp_in_iff.mpr (by decide)) ?_
        try simp only [hci]
        try simp only [hct]
        refine aw_iald dX1_openTo_49 rfl rfl ((hR i hi_9).resolve_left c35) ?_
        try simp only [hci]
        try simp only [hct]
        refine aw_iconst (-1) dX1_openTo_50 rfl (by decide) ?_
        refine aw_ixor dX1_openTo_51 rfl ?_
        refine aw_iand dX1_openTo_52 rfl ?_
        refine aw_istore_n dX1_openTo_53 rfl (by decide) ?_
        show AW _ mX1_openTo 54 [_, _, _, _] _ _ _
        refine aw_iinc dX1_openTo_54 rfl rfl (ii_1 _) (by decide) ?_
        show AW _ mX1_openTo 57 [_, _, _, _] _ _ _
        refine aw_goto (q := 9) dX1_openTo_57 rfl ?_
        refine AW.conv nx_9 ?_ rfl rfl
        simp only [nI_succ i, opF_s]
        simp [c24, c35]
set_option maxRecDepth 4000 in
theorem sX1_keep_153 {d : Nat} {σ : SS} {K : ax_K} {n s : Nat} {L C U : Int32} {l r f : Nat → Int32} {R : RR} (hn : n ≤ 6) (hN : σ 4 0 0 = nI n) (hs16 : s < 16) (hK : K none (tS σ l r f (R.1, upd R.2.1 s C, upd R.2.2.1 s U, upd R.2.2.2.1 s L, cpR r s n R.2.2.2.2.1, cpR f s n R.2.2.2.2.2))) : AW d mX1_keepIfBetter 153 [some (.inr (4, 0)), some (.inl (nI s)), some (.inl L), some (.inl C), some (.inl U), none, none] [] (tS σ l r f R) K := by
  have hcs : (nI s).toNatClampNeg = s := nI_clamp (by omega)
  have hNN : ∀ R, (tS σ l r f R) 4 0 0 = nI n := fun R => (congrFun (tS_o (Or.inl (by decide))) 0).trans hN
  show AW _ mX1_keepIfBetter 153 [_, _, _, _, _, _, _] _ _ _
  refine aw_aload_n dX1_keepIfBetter_153 rfl rfl ?_
  refine aw_getR dX1_keepIfBetter_154 rfl rfl rfl (by decide) flX1_58 ?_
  refine aw_iload_n dX1_keepIfBetter_157 rfl rfl ?_
  refine aw_iload_n dX1_keepIfBetter_158 rfl rfl ?_
  refine aw_iast dX1_keepIfBetter_159 rfl rfl (vp_in_nI (by omega) (by omega)) ?_
  simp only [tS_r19, tS_r20, tS_r21, tS_r22, tS_r23, tS_r24, tS_r25, tS_r26, tS_r27, tS_19, tS_20, tS_21, tS_22, tS_23, tS_24, tS_25, tS_26, tS_27, hcs]
  refine aw_aload_n dX1_keepIfBetter_160 rfl rfl ?_
  refine aw_getR dX1_keepIfBetter_161 rfl rfl rfl (by decide) flX1_61 ?_
  refine aw_iload_n dX1_keepIfBetter_164 rfl rfl ?_
  refine aw_iload dX1_keepIfBetter_165 rfl rfl ?_
  refine aw_iast dX1_keepIfBetter_167 rfl rfl (vp_in_nI (by omega) (by omega)) ?_
  simp only [tS_r19, tS_r20, tS_r21, tS_r22, tS_r23, tS_r24, tS_r25, tS_r26, tS_r27, tS_19, tS_20, tS_21, tS_22, tS_23, tS_24, tS_25, tS_26, tS_27, hcs]
  refine aw_aload_n dX1_keepIfBetter_168 rfl rfl ?_
  refine aw_getR dX1_keepIfBetter_169 rfl rfl rfl (by decide) flX1_64 ?_
  refine aw_iload_n dX1_keepIfBetter_172 rfl rfl ?_
  refine aw_iload_n dX1_keepIfBetter_173 rfl rfl ?_
  refine aw_iast dX1_keepIfBetter_174 rfl rfl (vp_in_nI (by omega) (by omega)) ?_
  simp only [tS_r19, tS_r20, tS_r21, tS_r22, tS_r23, tS_r24, tS_r25, tS_r26, tS_r27, tS_19, tS_20, tS_21, tS_22, tS_23, tS_24, tS_25, tS_26, tS_27, hcs]
  refine aw_iconst 0 dX1_keepIfBetter_175 rfl (by decide) ?_
  refine aw_istore dX1_keepIfBetter_176 rfl (by decide) ?_
  show AW _ mX1_keepIfBetter 178 [_, _, _, _, _, _, _] _ _ _
  refine AW.conv (ax_loop (P := fun i => AW d mX1_keepIfBetter 178 [some (.inr (4, 0)), some (.inl (nI s)), some (.inl L), some (.inl C), some (.inl U), none, some (.inl (nI i))] [] (tS σ l r f (R.1, upd R.2.1 s C, upd R.2.2.1 s U, upd R.2.2.2.1 s L, cpR r s i R.2.2.2.2.1, cpR f s i R.2.2.2.2.2)) K) n ?_ ?_ 0 (Nat.zero_le _)) (by first | (simp only [nI_0]; done) | (simp only [nI_0]; rfl)) rfl (by simp only [tS_r19, tS_r20, tS_r21, tS_r22, tS_r23, tS_r24, tS_r25, tS_r26, tS_r27, tS_19, tS_20, tS_21, tS_22, tS_23, tS_24, tS_25, tS_26, tS_27, cpR_0])
  · try dsimp only
    refine aw_iload dX1_keepIfBetter_178 rfl rfl ?_
    refine aw_aload_n dX1_keepIfBetter_180 rfl rfl ?_
    refine aw_getI dX1_keepIfBetter_181 rfl rfl rfl flX1_9 ?_
    refine aw_icmp_ge (tgt := 231) dX1_keepIfBetter_184 rfl rfl (fun _ => ?_) (fun z => absurd (by rw [hNN]; exact Int32.le_refl _) z)
    refine aw_vret dX1_keepIfBetter_231 rfl ?_
    exact hK
  · intro i hi_178 nx_178
    try dsimp only at nx_178 ⊢
    have hci : (nI i).toNatClampNeg = i := nI_clamp (by omega)
    have hc6 : (nI (6 * s + i)).toNatClampNeg = 6 * s + i := nI_clamp (by omega)
    refine aw_iload dX1_keepIfBetter_178 rfl rfl ?_
    refine aw_aload_n dX1_keepIfBetter_180 rfl rfl ?_
    refine aw_getI dX1_keepIfBetter_181 rfl rfl rfl flX1_9 ?_
    refine aw_icmp_ge (tgt := 231) dX1_keepIfBetter_184 rfl rfl (fun z => absurd z (by rw [hNN]; exact nI_ge hi_178 (by omega))) (fun _ => ?_)
    refine aw_aload_n dX1_keepIfBetter_187 rfl rfl ?_
    refine aw_getR dX1_keepIfBetter_188 rfl rfl rfl (by decide) flX1_67 ?_
    refine aw_iload_n dX1_keepIfBetter_191 rfl rfl ?_
    refine aw_bipush 6 dX1_keepIfBetter_192 rfl (by decide) ?_
    refine aw_imul dX1_keepIfBetter_194 rfl ?_
    refine aw_iload dX1_keepIfBetter_195 rfl rfl ?_
    refine aw_iadd dX1_keepIfBetter_197 rfl ?_
    rw [ix6]
    refine aw_aload_n dX1_keepIfBetter_198 rfl rfl ?_
    refine aw_getR dX1_keepIfBetter_199 rfl rfl rfl (by decide) flX1_49 ?_
    refine aw_iload dX1_keepIfBetter_202 rfl rfl ?_
    refine aw_iald dX1_keepIfBetter_204 rfl rfl (by first | exact vp_in_nI (by omega) (by omega) | exact vp_in_iff.mpr (by decide)) ?_
    refine aw_iast dX1_keepIfBetter_205 rfl rfl (by first | exact vp_in_nI (by omega) (by omega) | exact vp_in_iff.mpr (by decide)) ?_
    refine aw_aload_n dX1_keepIfBetter_206 rfl rfl ?_
    refine aw_getR dX1_keepIfBetter_207 rfl rfl rfl (by decide) flX1_70 ?_
    refine aw_iload_n dX1_keepIfBetter_210 rfl rfl ?_
    refine aw_bipush 6 dX1_keepIfBetter_211 rfl (by decide) ?_
    refine aw_imul dX1_keepIfBetter_213 rfl ?_
    refine aw_iload dX1_keepIfBetter_214 rfl rfl ?_
    refine aw_iadd dX1_keepIfBetter_216 rfl ?_
    rw [ix6]
    refine aw_aload_n dX1_keepIfBetter_217 rfl rfl ?_
    refine aw_getR dX1_keepIfBetter_218 rfl rfl rfl (by decide) flX1_52 ?_
    refine aw_iload dX1_keepIfBetter_221 rfl rfl ?_
    refine aw_iald dX1_keepIfBetter_223 rfl rfl (by first | exact vp_in_nI (by omega) (by omega) | exact vp_in_iff.mpr (by decide)) ?_
    refine aw_iast dX1_keepIfBetter_224 rfl rfl (by first | exact vp_in_nI (by omega) (by omega) | exact vp_in_iff.mpr (by decide)) ?_
    refine aw_iinc dX1_keepIfBetter_225 rfl rfl (ii_1 _) (by decide) ?_
    show AW _ mX1_keepIfBetter 228 [_, _, _, _, _, _, _] _ _ _
    refine aw_goto (q := 178) dX1_keepIfBetter_228 rfl ?_
    refine AW.conv nx_178 (by first | (simp only [nI_succ i]; done) | (simp only [nI_succ i]; rfl)) rfl ?_
    simp only [tS_r19, tS_r20, tS_r21, tS_r22, tS_r23, tS_r24, tS_r25, tS_r26, tS_r27, tS_19, tS_20, tS_21, tS_22, tS_23, tS_24, tS_25, tS_26, tS_27, hc6, hci, cpR_s]
set_option maxRecDepth 4000 in
theorem sX1_keepIfBetter {d : Nat} {σ : SS} {K : ax_K} {n s : Nat} {l r f : Nat → Int32} {R : RR} (hn : n ≤ 6) (hN : σ 4 0 0 = nI n) (hs16 : s < 16) (hR : ∀ u, u < n → r u = -9 ∨ vp_in (r u) 4) (hK : K none (tS σ l r f (kpC σ n s r f R))) : AW (d + 1) mX1_keepIfBetter 0 (ax_en mX1_keepIfBetter [.inr (4, 0), .inl (nI s)]) [] (tS σ l r f R) K := by
  have hcs : (nI s).toNatClampNeg = s := nI_clamp (by omega)
  have hNN : ∀ R, (tS σ l r f R) 4 0 0 = nI n := fun R => (congrFun (tS_o (Or.inl (by decide))) 0).trans hN
  show AW _ mX1_keepIfBetter 0 [_, _, _, _, _, _, _] _ _ _
  refine aw_iconst 0 dX1_keepIfBetter_0 rfl (by decide) ?_
  refine aw_istore_n dX1_keepIfBetter_1 rfl (by decide) ?_
  show AW _ mX1_keepIfBetter 2 [_, _, _, _, _, _, _] _ _ _
  refine aw_iconst 0 dX1_keepIfBetter_2 rfl (by decide) ?_
  refine aw_istore_n dX1_keepIfBetter_3 rfl (by decide) ?_
  show AW _ mX1_keepIfBetter 4 [_, _, _, _, _, _, _] _ _ _
  refine aw_iconst 0 dX1_keepIfBetter_4 rfl (by decide) ?_
  refine aw_istore dX1_keepIfBetter_5 rfl (by decide) ?_
  show AW _ mX1_keepIfBetter 7 [_, _, _, _, _, _, _] _ _ _
  refine aw_iconst 0 dX1_keepIfBetter_7 rfl (by decide) ?_
  refine aw_istore dX1_keepIfBetter_8 rfl (by decide) ?_
  show AW _ mX1_keepIfBetter 10 [_, _, _, _, _, _, _] _ _ _
  refine AW.conv (ax_loop (P := fun i => AW (d + 1) mX1_keepIfBetter 10 [some (.inr (4, 0)), some (.inl (nI s)), some (.inl (klL f (σ 12 0) r i)), some (.inl (klC (σ 16 0) r i)), some (.inl (usS r i)), some (.inl (nI i)), none] [] (tS σ l r f R) K) n ?_ ?_ 0 (Nat.zero_le _)) (by rw [nI_0]; rfl) rfl rfl
  · try dsimp only
    refine aw_iload dX1_keepIfBetter_10 rfl rfl ?_
    refine aw_aload_n dX1_keepIfBetter_12 rfl rfl ?_
    refine aw_getI dX1_keepIfBetter_13 rfl rfl rfl flX1_9 ?_
    refine aw_icmp_ge (tgt := 78) dX1_keepIfBetter_16 rfl rfl (fun _ => ?_) (fun z => absurd (by rw [hNN]; exact Int32.le_refl _) z)
    refine aw_iload_n dX1_keepIfBetter_78 rfl rfl ?_
    refine aw_mabs dX1_keepIfBetter_79 rfl lkX1_77 (Nat.le_of_ble_eq_true rfl) ?_
    refine aw_aload_n dX1_keepIfBetter_82 rfl rfl ?_
    refine aw_getI dX1_keepIfBetter_83 rfl rfl rfl flX1_18 ?_
    rw [show (tS σ l r f R) 4 0 2 = σ 4 0 2 from rfl]
    refine aw_icmp_le (tgt := 90) dX1_keepIfBetter_86 rfl rfl (fun c86 => ?_) (fun c86 => ?_)
    · skip
      refine aw_aload_n dX1_keepIfBetter_90 rfl rfl ?_
      refine aw_getR dX1_keepIfBetter_91 rfl rfl rfl (by decide) flX1_55 ?_
      refine aw_iload_n dX1_keepIfBetter_94 rfl rfl ?_
      refine aw_dup2 dX1_keepIfBetter_95 rfl ?_
      refine aw_iald dX1_keepIfBetter_96 rfl rfl (by first | exact vp_in_nI (by omega) (by omega) | exact vp_in_iff.mpr (by decide)) ?_
      try simp only [hci]
      try simp only [hcs]
      try simp only [tS_r20]
      try simp only [tS_r21]
      try simp only [tS_r22]
      try simp only [tS_r23]
      try simp only [tS_r24]
      try simp only [pk_us]
      refine aw_iconst 1 dX1_keepIfBetter_97 rfl (by decide) ?_
      refine aw_iadd dX1_keepIfBetter_98 rfl ?_
      refine aw_iast dX1_keepIfBetter_99 rfl rfl (by first | exact vp_in_nI (by omega) (by omega) | exact vp_in_iff.mpr (by decide)) ?_
      try simp only [hci]
      try simp only [hcs]
      try simp only [tS_r20]
      try simp only [tS_r21]
      try simp only [tS_r22]
      try simp only [tS_r23]
      try simp only [tS_r24]
      try simp only [pk_us]
      simp only [tS_r19, tS_r20, tS_r21, tS_r22, tS_r23, tS_r24, tS_r25, tS_r26, tS_r27, tS_19, tS_20, tS_21, tS_22, tS_23, tS_24, tS_25, tS_26, tS_27, hcs]
      refine aw_iload_n dX1_keepIfBetter_100 rfl rfl ?_
      refine aw_aload_n dX1_keepIfBetter_101 rfl rfl ?_
      refine aw_getR dX1_keepIfBetter_102 rfl rfl rfl (by decide) flX1_58 ?_
      refine aw_iload_n dX1_keepIfBetter_105 rfl rfl ?_
      refine aw_iald dX1_keepIfBetter_106 rfl rfl (by first | exact vp_in_nI (by omega) (by omega) | exact vp_in_iff.mpr (by decide)) ?_
      try simp only [hci]
      try simp only [hcs]
      try simp only [tS_r20]
      try simp only [tS_r21]
      try simp only [tS_r22]
      try simp only [tS_r23]
      try simp only [tS_r24]
      try simp only [pk_us]
      refine aw_icmp_lt (tgt := 131) dX1_keepIfBetter_107 rfl rfl (fun c107 => ?_) (fun c107 => ?_)
      · skip
        refine aw_iconst 1 dX1_keepIfBetter_131 rfl (by decide) ?_
        refine aw_goto (q := 136) dX1_keepIfBetter_132 rfl ?_
        refine aw_istore dX1_keepIfBetter_136 rfl (by decide) ?_
        show AW _ mX1_keepIfBetter 138 [_, _, _, _, _, _, _] _ _ _
        refine aw_aload_n dX1_keepIfBetter_138 rfl rfl ?_
        refine aw_getR dX1_keepIfBetter_139 rfl rfl rfl (by decide) flX1_55 ?_
        refine aw_iload_n dX1_keepIfBetter_142 rfl rfl ?_
        refine aw_iald dX1_keepIfBetter_143 rfl rfl (by first | exact vp_in_nI (by omega) (by omega) | exact vp_in_iff.mpr (by decide)) ?_
        try simp only [hci]
        try simp only [hcs]
        try simp only [tS_r20]
        try simp only [tS_r21]
        try simp only [tS_r22]
        try simp only [tS_r23]
        try simp only [tS_r24]
        try simp only [pk_us]
        refine aw_iconst 1 dX1_keepIfBetter_144 rfl (by decide) ?_
        refine aw_icmp_eq (tgt := 153) dX1_keepIfBetter_145 rfl rfl (fun c145 => ?_) (fun c145 => ?_)
        · skip
          refine AW.forget (ls' := [some (.inr (4, 0)), some (.inl (nI s)), some (.inl (klL f (σ 12 0) r n)), some (.inl (klC (σ 16 0) r n)), some (.inl (usS r n)), none, none]) (sX1_keep_153 hn hN hs16 (kk_c hK rfl ?_)) (fun n v h => by
            match n, h with
            | 0, h => exact h
            | 1, h => exact h
            | 2, h => exact h
            | 3, h => exact h
            | 4, h => exact h
            | 5, h => cases h
            | 6, h => cases h
            | n + 7, h => simp at h)
          rw [kpC, if_pos c86, if_pos (by simp [kcB, c107, c145])]
        · skip
          refine aw_iload dX1_keepIfBetter_148 rfl rfl ?_
          refine aw_if_eq (tgt := 231) dX1_keepIfBetter_150 rfl rfl (fun z => absurd z (by decide)) (fun _ => ?_)
          refine AW.forget (ls' := [some (.inr (4, 0)), some (.inl (nI s)), some (.inl (klL f (σ 12 0) r n)), some (.inl (klC (σ 16 0) r n)), some (.inl (usS r n)), none, none]) (sX1_keep_153 hn hN hs16 (kk_c hK rfl ?_)) (fun n v h => by
            match n, h with
            | 0, h => exact h
            | 1, h => exact h
            | 2, h => exact h
            | 3, h => exact h
            | 4, h => exact h
            | 5, h => cases h
            | 6, h => cases h
            | n + 7, h => simp at h)
          rw [kpC, if_pos c86, if_pos (by simp [kcB, c107, c145])]
      · skip
        refine aw_iload_n dX1_keepIfBetter_110 rfl rfl ?_
        refine aw_aload_n dX1_keepIfBetter_111 rfl rfl ?_
        refine aw_getR dX1_keepIfBetter_112 rfl rfl rfl (by decide) flX1_58 ?_
        refine aw_iload_n dX1_keepIfBetter_115 rfl rfl ?_
        refine aw_iald dX1_keepIfBetter_116 rfl rfl (by first | exact vp_in_nI (by omega) (by omega) | exact vp_in_iff.mpr (by decide)) ?_
        try simp only [hci]
        try simp only [hcs]
        try simp only [tS_r20]
        try simp only [tS_r21]
        try simp only [tS_r22]
        try simp only [tS_r23]
        try simp only [tS_r24]
        try simp only [pk_us]
        refine aw_icmp_ne (tgt := 135) dX1_keepIfBetter_117 rfl rfl (fun c117 => ?_) (fun c117 => ?_)
        · skip
          refine aw_iconst 0 dX1_keepIfBetter_135 rfl (by decide) ?_
          refine aw_istore dX1_keepIfBetter_136 rfl (by decide) ?_
          show AW _ mX1_keepIfBetter 138 [_, _, _, _, _, _, _] _ _ _
          refine aw_aload_n dX1_keepIfBetter_138 rfl rfl ?_
          refine aw_getR dX1_keepIfBetter_139 rfl rfl rfl (by decide) flX1_55 ?_
          refine aw_iload_n dX1_keepIfBetter_142 rfl rfl ?_
          refine aw_iald dX1_keepIfBetter_143 rfl rfl (by first | exact vp_in_nI (by omega) (by omega) | exact vp_in_iff.mpr (by decide)) ?_
          try simp only [hci]
          try simp only [hcs]
          try simp only [tS_r20]
          try simp only [tS_r21]
          try simp only [tS_r22]
          try simp only [tS_r23]
          try simp only [tS_r24]
          try simp only [pk_us]
          refine aw_iconst 1 dX1_keepIfBetter_144 rfl (by decide) ?_
          refine aw_icmp_eq (tgt := 153) dX1_keepIfBetter_145 rfl rfl (fun c145 => ?_) (fun c145 => ?_)
          · skip
            refine AW.forget (ls' := [some (.inr (4, 0)), some (.inl (nI s)), some (.inl (klL f (σ 12 0) r n)), some (.inl (klC (σ 16 0) r n)), some (.inl (usS r n)), none, none]) (sX1_keep_153 hn hN hs16 (kk_c hK rfl ?_)) (fun n v h => by
              match n, h with
              | 0, h => exact h
              | 1, h => exact h
              | 2, h => exact h
              | 3, h => exact h
              | 4, h => exact h
              | 5, h => cases h
              | 6, h => cases h
              | n + 7, h => simp at h)
            rw [kpC, if_pos c86, if_pos (by simp [kcB, c107, c117, c145])]
          · skip
            refine aw_iload dX1_keepIfBetter_148 rfl rfl ?_
            refine aw_if_eq (tgt := 231) dX1_keepIfBetter_150 rfl rfl (fun _ => ?_) (fun z => absurd rfl z)
            refine aw_vret dX1_keepIfBetter_231 rfl ?_
            refine kk_c hK rfl ?_
            rw [kpC, if_pos c86, if_neg (by simp [kcB, c107, c117, c145])]
        · skip
          refine aw_iload dX1_keepIfBetter_120 rfl rfl ?_
          refine aw_aload_n dX1_keepIfBetter_122 rfl rfl ?_
          refine aw_getR dX1_keepIfBetter_123 rfl rfl rfl (by decide) flX1_61 ?_
          refine aw_iload_n dX1_keepIfBetter_126 rfl rfl ?_
          refine aw_iald dX1_keepIfBetter_127 rfl rfl (by first | exact vp_in_nI (by omega) (by omega) | exact vp_in_iff.mpr (by decide)) ?_
          try simp only [hci]
          try simp only [hcs]
          try simp only [tS_r20]
          try simp only [tS_r21]
          try simp only [tS_r22]
          try simp only [tS_r23]
          try simp only [tS_r24]
          try simp only [pk_us]
          refine aw_icmp_ge (tgt := 135) dX1_keepIfBetter_128 rfl rfl (fun c128 => ?_) (fun c128 => ?_)
          · skip
            refine aw_iconst 0 dX1_keepIfBetter_135 rfl (by decide) ?_
            refine aw_istore dX1_keepIfBetter_136 rfl (by decide) ?_
            show AW _ mX1_keepIfBetter 138 [_, _, _, _, _, _, _] _ _ _
            refine aw_aload_n dX1_keepIfBetter_138 rfl rfl ?_
            refine aw_getR dX1_keepIfBetter_139 rfl rfl rfl (by decide) flX1_55 ?_
            refine aw_iload_n dX1_keepIfBetter_142 rfl rfl ?_
            refine aw_iald dX1_keepIfBetter_143 rfl rfl (by first | exact vp_in_nI (by omega) (by omega) | exact vp_in_iff.mpr (by decide)) ?_
            try simp only [hci]
            try simp only [hcs]
            try simp only [tS_r20]
            try simp only [tS_r21]
            try simp only [tS_r22]
            try simp only [tS_r23]
            try simp only [tS_r24]
            try simp only [pk_us]
            refine aw_iconst 1 dX1_keepIfBetter_144 rfl (by decide) ?_
            refine aw_icmp_eq (tgt := 153) dX1_keepIfBetter_145 rfl rfl (fun c145 => ?_) (fun c145 => ?_)
            · skip
              refine AW.forget (ls' := [some (.inr (4, 0)), some (.inl (nI s)), some (.inl (klL f (σ 12 0) r n)), some (.inl (klC (σ 16 0) r n)), some (.inl (usS r n)), none, none]) (sX1_keep_153 hn hN hs16 (kk_c hK rfl ?_)) (fun n v h => by
                match n, h with
                | 0, h => exact h
                | 1, h => exact h
                | 2, h => exact h
                | 3, h => exact h
                | 4, h => exact h
                | 5, h => cases h
                | 6, h => cases h
                | n + 7, h => simp at h)
              rw [kpC, if_pos c86, if_pos (by simp [kcB, c107, c117, c128, c145])]
            · skip
              refine aw_iload dX1_keepIfBetter_148 rfl rfl ?_
              refine aw_if_eq (tgt := 231) dX1_keepIfBetter_150 rfl rfl (fun _ => ?_) (fun z => absurd rfl z)
              refine aw_vret dX1_keepIfBetter_231 rfl ?_
              refine kk_c hK rfl ?_
              rw [kpC, if_pos c86, if_neg (by simp [kcB, c107, c117, Int32.not_lt.mpr c128, c145])]
          · skip
            refine aw_iconst 1 dX1_keepIfBetter_131 rfl (by decide) ?_
            refine aw_goto (q := 136) dX1_keepIfBetter_132 rfl ?_
            refine aw_istore dX1_keepIfBetter_136 rfl (by decide) ?_
            show AW _ mX1_keepIfBetter 138 [_, _, _, _, _, _, _] _ _ _
            refine aw_aload_n dX1_keepIfBetter_138 rfl rfl ?_
            refine aw_getR dX1_keepIfBetter_139 rfl rfl rfl (by decide) flX1_55 ?_
            refine aw_iload_n dX1_keepIfBetter_142 rfl rfl ?_
            refine aw_iald dX1_keepIfBetter_143 rfl rfl (by first | exact vp_in_nI (by omega) (by omega) | exact vp_in_iff.mpr (by decide)) ?_
            try simp only [hci]
            try simp only [hcs]
            try simp only [tS_r20]
            try simp only [tS_r21]
            try simp only [tS_r22]
            try simp only [tS_r23]
            try simp only [tS_r24]
            try simp only [pk_us]
            refine aw_iconst 1 dX1_keepIfBetter_144 rfl (by decide) ?_
            refine aw_icmp_eq (tgt := 153) dX1_keepIfBetter_145 rfl rfl (fun c145 => ?_) (fun c145 => ?_)
            · skip
              refine AW.forget (ls' := [some (.inr (4, 0)), some (.inl (nI s)), some (.inl (klL f (σ 12 0) r n)), some (.inl (klC (σ 16 0) r n)), some (.inl (usS r n)), none, none]) (sX1_keep_153 hn hN hs16 (kk_c hK rfl ?_)) (fun n v h => by
                match n, h with
                | 0, h => exact h
                | 1, h => exact h
                | 2, h => exact h
                | 3, h => exact h
                | 4, h => exact h
                | 5, h => cases h
                | 6, h => cases h
                | n + 7, h => simp at h)
              rw [kpC, if_pos c86, if_pos (by simp [kcB, c107, c117, Int32.not_le.mp c128, c145])]
            · skip
              refine aw_iload dX1_keepIfBetter_148 rfl rfl ?_
              refine aw_if_eq (tgt := 231) dX1_keepIfBetter_150 rfl rfl (fun z => absurd z (by decide)) (fun _ => ?_)
              refine AW.forget (ls' := [some (.inr (4, 0)), some (.inl (nI s)), some (.inl (klL f (σ 12 0) r n)), some (.inl (klC (σ 16 0) r n)), some (.inl (usS r n)), none, none]) (sX1_keep_153 hn hN hs16 (kk_c hK rfl ?_)) (fun n v h => by
                match n, h with
                | 0, h => exact h
                | 1, h => exact h
                | 2, h => exact h
                | 3, h => exact h
                | 4, h => exact h
                | 5, h => cases h
                | 6, h => cases h
                | n + 7, h => simp at h)
              rw [kpC, if_pos c86, if_pos (by simp [kcB, c107, c117, Int32.not_le.mp c128, c145])]
    · skip
      refine aw_vret dX1_keepIfBetter_89 rfl ?_
      exact kk_c hK rfl (by rw [kpC, if_neg c86])
  · intro i hi_10 nx_10
    try dsimp only at nx_10 ⊢
    have hci : (nI i).toNatClampNeg = i := nI_clamp (by omega)
    refine aw_iload dX1_keepIfBetter_10 rfl rfl ?_
    refine aw_aload_n dX1_keepIfBetter_12 rfl rfl ?_
    refine aw_getI dX1_keepIfBetter_13 rfl rfl rfl flX1_9 ?_
    refine aw_icmp_ge (tgt := 78) dX1_keepIfBetter_16 rfl rfl (fun z => absurd z (by rw [hNN]; exact nI_ge hi_10 (by omega))) (fun _ => ?_)
    refine aw_aload_n dX1_keepIfBetter_19 rfl rfl ?_
    refine aw_getR dX1_keepIfBetter_20 rfl rfl rfl (by decide) flX1_49 ?_
    refine aw_iload dX1_keepIfBetter_23 rfl rfl ?_
    refine aw_iald dX1_keepIfBetter_25 rfl rfl (by first | exact vp_in_nI (by omega) (by omega) | exact vp_in_iff.mpr (by decide)) ?_
    try simp only [hci]
    try simp only [hcs]
    try simp only [tS_r20]
    try simp only [tS_r21]
    try simp only [tS_r22]
    try simp only [tS_r23]
    try simp only [tS_r24]
    try simp only [pk_us]
    refine aw_bipush (-9) dX1_keepIfBetter_26 rfl (by decide) ?_
    refine aw_icmp_eq (tgt := 72) dX1_keepIfBetter_28 rfl rfl (fun c28 => ?_) (fun c28 => ?_)
    · skip
      refine aw_iinc dX1_keepIfBetter_72 rfl rfl (ii_1 _) (by decide) ?_
      show AW _ mX1_keepIfBetter 75 [_, _, _, _, _, _, _] _ _ _
      refine aw_goto (q := 10) dX1_keepIfBetter_75 rfl ?_
      refine AW.conv nx_10 ?_ rfl rfl
      simp only [nI_succ i, klL_s, klC_s, usS_s]
      simp only [c28, if_true, if_false]
    · skip
      obtain ⟨j, hj, ej⟩ := vp_in_of ((hR i hi_10).resolve_left c28) (by decide)
      have ecj : ci (r i) = j := by rw [ej]; exact nI_clamp (by omega)
      have eix : nI i * 4 + r i = nI (4 * i + ci (r i)) := by rw [ej, ix4, ci, nI_clamp (by omega)]
      have hcx : (nI (4 * i + ci (r i))).toNatClampNeg = 4 * i + ci (r i) := nI_clamp (by omega)
      refine aw_iload_n dX1_keepIfBetter_31 rfl rfl ?_
      refine aw_aload_n dX1_keepIfBetter_32 rfl rfl ?_
      refine aw_getR dX1_keepIfBetter_33 rfl rfl rfl (by decide) flX1_52 ?_
      refine aw_iload dX1_keepIfBetter_36 rfl rfl ?_
      refine aw_iald dX1_keepIfBetter_38 rfl rfl (by first | exact vp_in_nI (by omega) (by omega) | exact vp_in_iff.mpr (by decide)) ?_
      try simp only [hci]
      try simp only [hcs]
      try simp only [tS_r20]
      try simp only [tS_r21]
      try simp only [tS_r22]
      try simp only [tS_r23]
      try simp only [tS_r24]
      try simp only [pk_us]
      refine aw_aload_n dX1_keepIfBetter_39 rfl rfl ?_
      refine aw_getR dX1_keepIfBetter_40 rfl rfl rfl (by decide) flX1_25 ?_
      refine aw_iload dX1_keepIfBetter_43 rfl rfl ?_
      refine aw_iald dX1_keepIfBetter_45 rfl rfl (by first | exact vp_in_nI (by omega) (by omega) | exact vp_in_iff.mpr (by decide)) ?_
      try simp only [hci]
      try simp only [hcs]
      try simp only [tS_r20]
      try simp only [tS_r21]
      try simp only [tS_r22]
      try simp only [tS_r23]
      try simp only [tS_r24]
      try simp only [pk_us]
      refine aw_imul dX1_keepIfBetter_46 rfl ?_
      refine aw_iadd dX1_keepIfBetter_47 rfl ?_
      refine aw_istore_n dX1_keepIfBetter_48 rfl (by decide) ?_
      show AW _ mX1_keepIfBetter 49 [_, _, _, _, _, _, _] _ _ _
      refine aw_iload_n dX1_keepIfBetter_49 rfl rfl ?_
      refine aw_aload_n dX1_keepIfBetter_50 rfl rfl ?_
      refine aw_getR dX1_keepIfBetter_51 rfl rfl rfl (by decide) flX1_37 ?_
      refine aw_iload dX1_keepIfBetter_54 rfl rfl ?_
      refine aw_iconst 4 dX1_keepIfBetter_56 rfl (by decide) ?_
      refine aw_imul dX1_keepIfBetter_57 rfl ?_
      refine aw_aload_n dX1_keepIfBetter_58 rfl rfl ?_
      refine aw_getR dX1_keepIfBetter_59 rfl rfl rfl (by decide) flX1_49 ?_
      refine aw_iload dX1_keepIfBetter_62 rfl rfl ?_
      refine aw_iald dX1_keepIfBetter_64 rfl rfl (by first | exact vp_in_nI (by omega) (by omega) | exact vp_in_iff.mpr (by decide)) ?_
      try simp only [hci]
      try simp only [hcs]
      try simp only [tS_r20]
      try simp only [tS_r21]
      try simp only [tS_r22]
      try simp only [tS_r23]
      try simp only [tS_r24]
      try simp only [pk_us]
      refine aw_iadd dX1_keepIfBetter_65 rfl ?_
      rw [eix]
      refine aw_iald dX1_keepIfBetter_66 rfl rfl (vp_in_nI (by omega) (by omega)) ?_
      try simp only [hci]
      try simp only [hcs]
      try simp only [tS_r20]
      try simp only [tS_r21]
      try simp only [tS_r22]
      try simp only [tS_r23]
      try simp only [tS_r24]
      try simp only [pk_us]
      rw [hcx]
      refine aw_iadd dX1_keepIfBetter_67 rfl ?_
      refine aw_istore_n dX1_keepIfBetter_68 rfl (by decide) ?_
      show AW _ mX1_keepIfBetter 69 [_, _, _, _, _, _, _] _ _ _
      refine aw_iinc dX1_keepIfBetter_69 rfl rfl (ii_1 _) (by decide) ?_
      show AW _ mX1_keepIfBetter 72 [_, _, _, _, _, _, _] _ _ _
      refine aw_iinc dX1_keepIfBetter_72 rfl rfl (ii_1 _) (by decide) ?_
      show AW _ mX1_keepIfBetter 75 [_, _, _, _, _, _, _] _ _ _
      refine aw_goto (q := 10) dX1_keepIfBetter_75 rfl ?_
      refine AW.conv nx_10 ?_ rfl rfl
      rw [nI_succ i, klL_s, klC_s, usS_s, if_neg c28, if_neg c28, if_neg c28]
      rfl
