set_option maxRecDepth 4000 in
theorem sX3_tryTank {σ : SS} {n cn : Nat} (hn : n ≤ 6) (hN : σ 4 0 0 = nI n) (hc : cn ≤ 4) (hC : σ 4 0 1 = nI cn) : ∀ (k t : Nat), t + k = n → ∀ (d : Nat) (K : ax_K) (l r f : Nat → Int32) (R : RR) (s : Nat) (ow : Int32), s < 16 → (∀ u, u < t → r u = -9 ∨ vp_in (r u) 4) →
    (∀ r' f', (∀ u, u < t → r' u = r u) → (∀ u, u < t → f' u = f u) → K none (tS σ l r' f' (fdC σ n R (tvL σ n cn k t l r f s ow)))) → AW (d + k + 2) mX3_tryTank 0 (ax_en mX3_tryTank [.inr (4, 0), .inl (nI t), .inl (nI s), .inl ow]) [] (tS σ l r f R) K := by
  intro k
  induction k with
  | zero =>
    intro t htk d K l r f R s ow hs16 hR hK
    have htn : t = n := by omega
    subst htn
    have hNN : (tS σ l r f R) 4 0 0 = nI t := (congrFun (tS_o (Or.inl (by decide))) 0).trans hN
    show AW _ mX3_tryTank 0 [_, _, _, _, _, _, _, _] _ _ _
    refine aw_iload_n dX3_tryTank_0 rfl rfl ?_
    refine aw_aload_n dX3_tryTank_1 rfl rfl ?_
    refine aw_getI dX3_tryTank_2 rfl rfl rfl flX3_255 ?_
    refine aw_icmp_lt (tgt := 18) dX3_tryTank_5 rfl rfl (fun z => absurd z (by rw [hNN]; exact fun z => Int32.lt_irrefl z)) (fun _ => ?_)
    refine aw_iload_n dX3_tryTank_8 rfl rfl ?_
    refine aw_if_ne (tgt := 17) dX3_tryTank_9 rfl rfl (fun c9 => ?_) (fun c9 => ?_)
    · skip
      refine aw_vret dX3_tryTank_17 rfl ?_
      exact kk_c (hK r f (fun _ _ => rfl) (fun _ _ => rfl)) rfl (by rw [tvL, if_neg c9]; rfl)
    · skip
      refine aw_aload_n dX3_tryTank_12 rfl rfl ?_
      refine aw_iload_n dX3_tryTank_13 rfl rfl ?_
      refine aw_V1 (M' := mX1_keepIfBetter) dX3_tryTank_14 rfl lkX3_272 gX1_keepIfBetter rfl rfl (Nat.le_of_ble_eq_true rfl) (sX1_keepIfBetter hn hN hs16 hR ?_)
      show AW _ mX3_tryTank 17 _ _ _ _
      refine aw_vret dX3_tryTank_17 rfl ?_
      exact kk_c (hK r f (fun _ _ => rfl) (fun _ _ => rfl)) rfl (by rw [tvL, if_pos c9]; exact congrArg (tS σ l r f) (kpC_nrm σ t s r f R))
  | succ k ih =>
    intro t htk d K l r f R s ow hs16 hR hK
    have hNN : ∀ l r f R, (tS σ l r f R) 4 0 0 = nI n := fun l r f R => (congrFun (tS_o (Or.inl (by decide))) 0).trans hN
    have hCC : ∀ l r f R, (tS σ l r f R) 4 0 1 = nI cn := fun l r f R => (congrFun (tS_o (Or.inl (by decide))) 1).trans hC
    have hct : (nI t).toNatClampNeg = t := nI_clamp (by omega)
    have htn : t < n := by omega
    show AW ((d + k + 2) + 1) _ _ _ _ _ _
    show AW _ mX3_tryTank 0 [_, _, _, _, _, _, _, _] _ _ _
    refine aw_iload_n dX3_tryTank_0 rfl rfl ?_
    refine aw_aload_n dX3_tryTank_1 rfl rfl ?_
    refine aw_getI dX3_tryTank_2 rfl rfl rfl flX3_255 ?_
    refine aw_icmp_lt (tgt := 18) dX3_tryTank_5 rfl rfl (fun _ => ?_) (fun z => absurd (by rw [hNN]; exact nI_lt htn (by omega)) z)
    refine aw_iload_n dX3_tryTank_18 rfl rfl ?_
    refine aw_aload_n dX3_tryTank_19 rfl rfl ?_
    refine aw_getR dX3_tryTank_20 rfl rfl rfl (by decide) flX3_257 ?_
    refine aw_iload_n dX3_tryTank_23 rfl rfl ?_
    refine aw_iald dX3_tryTank_24 rfl rfl (by first | exact vp_in_nI (by omega) (by omega) | exact vp_in_iff.mpr (by decide)) ?_
    try simp only [hci]
    try simp only [hct]
    try simp only [tS_r19]
    rw [show (tS σ l r f R) 14 0 t = σ 14 0 t from rfl]
    refine aw_icmp_le (tgt := 29) dX3_tryTank_25 rfl rfl (fun c25 => ?_) (fun c25 => ?_)
    · skip
      refine aw_aload_n dX3_tryTank_29 rfl rfl ?_
      refine aw_iload_n dX3_tryTank_30 rfl rfl ?_
      refine aw_V1 (M' := mX1_openTo) dX3_tryTank_31 rfl lkX3_275 gX1_openTo rfl rfl (Nat.le_of_ble_eq_true rfl) (sX1_openTo (by omega) hR ?_)
      show AW _ mX3_tryTank 34 _ (.inl (opF (σ 15 0) (σ 13 0) (σ 18 0) r t t) :: _) _ _
      show AW _ mX3_tryTank 34 _ (_ :: _) _ _
      refine aw_istore dX3_tryTank_34 rfl (by decide) ?_
      show AW _ mX3_tryTank 36 [_, _, _, _, _, _, _, _] _ _ _
      refine aw_iconst 0 dX3_tryTank_36 rfl (by decide) ?_
      refine aw_istore dX3_tryTank_37 rfl (by decide) ?_
      show AW _ mX3_tryTank 39 [_, _, _, _, _, _, _, _] _ _ _
      refine AW.conv (ax_loop (P := fun i => ∀ r1 f1 : Nat → Int32, (∀ u, u < t → r1 u = r u) → (∀ u, u < t → f1 u = f u) → AW (d + k + 2 + 1) mX3_tryTank 39 [some (.inr (4, 0)), some (.inl (nI t)), some (.inl (nI s)), some (.inl ow), some (.inl (opF (σ 15 0) (σ 13 0) (σ 18 0) r t t)), some (.inl (nI i)), none, none] [] (tS σ l r1 f1 (fdC σ n R ((List.range i).flatMap (brC σ n cn k t l r f s ow)))) K) cn ?_ ?_ 0 (Nat.zero_le _) r f (fun _ _ => rfl) (fun _ _ => rfl)) (by rw [nI_0]) rfl rfl
      · try dsimp only
        intro r1 f1 hr1 hf1
        refine aw_iload dX3_tryTank_39 rfl rfl ?_
        refine aw_aload_n dX3_tryTank_41 rfl rfl ?_
        refine aw_getI dX3_tryTank_42 rfl rfl rfl flX3_246 ?_
        refine aw_icmp_ge (tgt := 174) dX3_tryTank_45 rfl rfl (fun _ => ?_) (fun z => absurd (by rw [hCC]; exact Int32.le_refl _) z)
        refine aw_aload_n dX3_tryTank_174 rfl rfl ?_
        refine aw_getR dX3_tryTank_175 rfl rfl rfl (by decide) flX3_278 ?_
        refine aw_iload_n dX3_tryTank_178 rfl rfl ?_
        refine aw_bipush (-9) dX3_tryTank_179 rfl (by decide) ?_
        refine aw_iast dX3_tryTank_181 rfl rfl (by first | exact vp_in_nI (by omega) (by omega) | exact vp_in_iff.mpr (by decide)) ?_
        try simp only [hci]
        try simp only [hct]
        try simp only [tS_r19]
        refine aw_aload_n dX3_tryTank_182 rfl rfl ?_
        refine aw_getR dX3_tryTank_183 rfl rfl rfl (by decide) flX3_281 ?_
        refine aw_iload_n dX3_tryTank_186 rfl rfl ?_
        refine aw_iconst 0 dX3_tryTank_187 rfl (by decide) ?_
        refine aw_iast dX3_tryTank_188 rfl rfl (by first | exact vp_in_nI (by omega) (by omega) | exact vp_in_iff.mpr (by decide)) ?_
        try simp only [hci]
        try simp only [hct]
        try simp only [tS_r19]
        simp only [tS_r19, tS_r20, tS_r21, tS_r22, tS_r23, tS_r24, tS_r25, tS_r26, tS_r27, tS_19, tS_20, tS_21, tS_22, tS_23, tS_24, tS_25, tS_26, tS_27, hct]
        refine aw_aload_n dX3_tryTank_189 rfl rfl ?_
        refine aw_iload_n dX3_tryTank_190 rfl rfl ?_
        refine aw_iconst 1 dX3_tryTank_191 rfl (by decide) ?_
        refine aw_iadd dX3_tryTank_192 rfl ?_
        rw [← nI_succ t]
        refine aw_iload_n dX3_tryTank_193 rfl rfl ?_
        refine aw_iload_n dX3_tryTank_194 rfl rfl ?_
        refine aw_S4 (M' := mX3_tryTank) dX3_tryTank_195 rfl lkX3_242 gX3_tryTank (Nat.le_of_ble_eq_true rfl) (ih (t + 1) (by omega) d _ _ _ _ _ _ _ hs16 (okR_up (fun u hu => by rw [hr1 u hu]; exact hR u hu) (Or.inl rfl)) (fun r2 f2 h1 h2 => ?_))
        show AW _ mX3_tryTank 198 _ _ _ _
        refine aw_vret dX3_tryTank_198 rfl ?_
        refine kk_c (hK r2 f2 (fun u hu => (h1 u (by omega)).trans ((pk_un (by omega)).trans (hr1 u hu))) (fun u hu => (h2 u (by omega)).trans ((pk_un (by omega)).trans (hf1 u hu)))) rfl ?_
        rw [tvL_s, if_neg (Int32.not_lt.mpr c25), fdC_app, tvL_congr k (t + 1) (by omega) l (upd r1 t (-9)) (upd r t (-9)) (upd f1 t 0) (upd f t 0) s ow (upd_agree hr1) (upd_agree hf1)]
      · intro i hi_39 nx_39
        try dsimp only at nx_39 ⊢
        intro r1 f1 hr1 hf1
        have hci : (nI i).toNatClampNeg = i := nI_clamp (by omega)
        refine aw_iload dX3_tryTank_39 rfl rfl ?_
        refine aw_aload_n dX3_tryTank_41 rfl rfl ?_
        refine aw_getI dX3_tryTank_42 rfl rfl rfl flX3_246 ?_
        refine aw_icmp_ge (tgt := 174) dX3_tryTank_45 rfl rfl (fun z => absurd z (by rw [hCC]; exact nI_ge hi_39 (by omega))) (fun _ => ?_)
        refine aw_iload dX3_tryTank_48 rfl rfl ?_
        refine aw_iload dX3_tryTank_50 rfl rfl ?_
        refine aw_S2 (M' := mX3_has) dX3_tryTank_52 rfl lkX3_80 gX3_has (Nat.le_of_ble_eq_true rfl) (sX3_has ?_)
        rw [hc_nI _ (by omega)]
        show AW _ mX3_tryTank 55 _ (_ :: _) _ _
        refine aw_if_eqB (tgt := 168) dX3_tryTank_55 rfl rfl (fun c55 => ?_) (fun c55 => ?_)
        · skip
          refine aw_iinc dX3_tryTank_168 rfl rfl (ii_1 _) (by decide) ?_
          show AW _ mX3_tryTank 171 [_, _, _, _, _, _, _, _] _ _ _
          refine aw_goto (q := 39) dX3_tryTank_171 rfl ?_
          refine AW.conv (nx_39 r1 f1 hr1 hf1) (by rw [nI_succ i]) rfl ?_
          rw [fm_s, show (brC σ n cn k t l r f s ow) i = [] by rw [brC, if_neg (fun z => absurd z.1 (by rw [c55]; decide))], List.append_nil]
        · skip
          refine aw_aload_n dX3_tryTank_58 rfl rfl ?_
          refine aw_getR dX3_tryTank_59 rfl rfl rfl (by decide) flX3_249 ?_
          refine aw_iload dX3_tryTank_62 rfl rfl ?_
          refine aw_iald dX3_tryTank_64 rfl rfl (by first | exact vp_in_nI (by omega) (by omega) | exact vp_in_iff.mpr (by decide)) ?_
          try simp only [hci]
          try simp only [hct]
          try simp only [tS_r19]
          refine aw_if_le (tgt := 168) dX3_tryTank_65 rfl rfl (fun c65 => ?_) (fun c65 => ?_)
          · skip
            refine aw_iinc dX3_tryTank_168 rfl rfl (ii_1 _) (by decide) ?_
            show AW _ mX3_tryTank 171 [_, _, _, _, _, _, _, _] _ _ _
            refine aw_goto (q := 39) dX3_tryTank_171 rfl ?_
            refine AW.conv (nx_39 r1 f1 hr1 hf1) (by rw [nI_succ i]) rfl ?_
            rw [fm_s, show (brC σ n cn k t l r f s ow) i = [] by rw [brC, if_neg (fun z => absurd z.2 (Int32.not_lt.mpr c65))], List.append_nil]
          · skip
            refine aw_aload_n dX3_tryTank_68 rfl rfl ?_
            refine aw_getR dX3_tryTank_69 rfl rfl rfl (by decide) flX3_260 ?_
            refine aw_iload_n dX3_tryTank_72 rfl rfl ?_
            refine aw_iald dX3_tryTank_73 rfl rfl (by first | exact vp_in_nI (by omega) (by omega) | exact vp_in_iff.mpr (by decide)) ?_
            try simp only [hci]
            try simp only [hct]
            try simp only [tS_r19]
            refine aw_aload_n dX3_tryTank_74 rfl rfl ?_
            refine aw_getR dX3_tryTank_75 rfl rfl rfl (by decide) flX3_249 ?_
            refine aw_iload dX3_tryTank_78 rfl rfl ?_
            refine aw_iald dX3_tryTank_80 rfl rfl (by first | exact vp_in_nI (by omega) (by omega) | exact vp_in_iff.mpr (by decide)) ?_
            try simp only [hci]
            try simp only [hct]
            try simp only [tS_r19]
            refine aw_mmin dX3_tryTank_81 rfl lkX3_224 (Nat.le_of_ble_eq_true rfl) ?_
            refine aw_istore dX3_tryTank_84 rfl (by decide) ?_
            show AW _ mX3_tryTank 86 [_, _, _, _, _, _, _, _] _ _ _
            try simp only [tS_r19, tS_r20, tS_r21, tS_r22, tS_r23, tS_r24, tS_r25, tS_r26, tS_r27, hci, hct]
            rw [show (tS σ l r1 f1 (fdC σ n R ((List.range i).flatMap (brC σ n cn k t l r f s ow)))) 11 0 t = σ 11 0 t from rfl, show (if l i < σ 11 0 t then l i else σ 11 0 t) = mn (σ 11 0 t) (l i) from rfl]
            refine aw_iload_n dX3_tryTank_86 rfl rfl ?_
            refine aw_iload dX3_tryTank_87 rfl rfl ?_
            refine aw_S2 (M' := mX3_has) dX3_tryTank_89 rfl lkX3_80 gX3_has (Nat.le_of_ble_eq_true rfl) (sX3_has ?_)
            rw [hc_nI _ (by omega)]
            show AW _ mX3_tryTank 92 _ (_ :: _) _ _
            refine aw_if_eqB (tgt := 99) dX3_tryTank_92 rfl rfl (fun c92 => ?_) (fun c92 => ?_)
            · skip
              refine aw_aload_n dX3_tryTank_99 rfl rfl ?_
              refine aw_getR dX3_tryTank_100 rfl rfl rfl (by decide) flX3_247 ?_
              refine aw_iload dX3_tryTank_103 rfl rfl ?_
              refine aw_iald dX3_tryTank_105 rfl rfl (by first | exact vp_in_nI (by omega) (by omega) | exact vp_in_iff.mpr (by decide)) ?_
              try simp only [hci]
              try simp only [hct]
              try simp only [tS_r19]
              try simp only [hci]
              try rw [show (tS σ l r1 f1 (fdC σ n R ((List.range i).flatMap (brC σ n cn k t l r f s ow)))) 17 0 i = σ 17 0 i from rfl]
              refine aw_istore dX3_tryTank_106 rfl (by decide) ?_
              show AW _ mX3_tryTank 108 [_, _, _, _, _, _, _, _] _ _ _
              refine aw_aload_n dX3_tryTank_108 rfl rfl ?_
              refine aw_getR dX3_tryTank_109 rfl rfl rfl (by decide) flX3_278 ?_
              refine aw_iload_n dX3_tryTank_112 rfl rfl ?_
              refine aw_iload dX3_tryTank_113 rfl rfl ?_
              refine aw_iast dX3_tryTank_115 rfl rfl (by first | exact vp_in_nI (by omega) (by omega) | exact vp_in_iff.mpr (by decide)) ?_
              try simp only [hci]
              try simp only [hct]
              try simp only [tS_r19]
              refine aw_aload_n dX3_tryTank_116 rfl rfl ?_
              refine aw_getR dX3_tryTank_117 rfl rfl rfl (by decide) flX3_281 ?_
              refine aw_iload_n dX3_tryTank_120 rfl rfl ?_
              refine aw_iload dX3_tryTank_121 rfl rfl ?_
              refine aw_iast dX3_tryTank_123 rfl rfl (by first | exact vp_in_nI (by omega) (by omega) | exact vp_in_iff.mpr (by decide)) ?_
              try simp only [hci]
              try simp only [hct]
              try simp only [tS_r19]
              refine aw_aload_n dX3_tryTank_124 rfl rfl ?_
              refine aw_getR dX3_tryTank_125 rfl rfl rfl (by decide) flX3_249 ?_
              refine aw_iload dX3_tryTank_128 rfl rfl ?_
              refine aw_dup2 dX3_tryTank_130 rfl ?_
              refine aw_iald dX3_tryTank_131 rfl rfl (by first | exact vp_in_nI (by omega) (by omega) | exact vp_in_iff.mpr (by decide)) ?_
              try simp only [hci]
              try simp only [hct]
              try simp only [tS_r19]
              refine aw_iload dX3_tryTank_132 rfl rfl ?_
              refine aw_isub dX3_tryTank_134 rfl ?_
              refine aw_iast dX3_tryTank_135 rfl rfl (by first | exact vp_in_nI (by omega) (by omega) | exact vp_in_iff.mpr (by decide)) ?_
              try simp only [hci]
              try simp only [hct]
              try simp only [tS_r19]
              simp only [tS_r19, tS_r20, tS_r21, tS_r22, tS_r23, tS_r24, tS_r25, tS_r26, tS_r27, tS_19, tS_20, tS_21, tS_22, tS_23, tS_24, tS_25, tS_26, tS_27, hci, hct]
              refine aw_aload_n dX3_tryTank_136 rfl rfl ?_
              refine aw_iload_n dX3_tryTank_137 rfl rfl ?_
              refine aw_iconst 1 dX3_tryTank_138 rfl (by decide) ?_
              refine aw_iadd dX3_tryTank_139 rfl ?_
              rw [← nI_succ t]
              refine aw_iload_n dX3_tryTank_140 rfl rfl ?_
              refine aw_iconst 1 dX3_tryTank_141 rfl (by decide) ?_
              refine aw_iload dX3_tryTank_142 rfl rfl ?_
              refine aw_ishl dX3_tryTank_144 rfl ?_
              refine aw_ior dX3_tryTank_145 rfl ?_
              rw [(or16 s hs16 i (by omega)).1]
              refine aw_iload_n dX3_tryTank_146 rfl rfl ?_
              refine aw_iload dX3_tryTank_147 rfl rfl ?_
              refine aw_iadd dX3_tryTank_149 rfl ?_
              refine aw_iload dX3_tryTank_150 rfl rfl ?_
              refine aw_isub dX3_tryTank_152 rfl ?_
              refine aw_S4 (M' := mX3_tryTank) dX3_tryTank_153 rfl lkX3_242 gX3_tryTank (Nat.le_of_ble_eq_true rfl) (ih (t + 1) (by omega) d _ _ _ _ _ _ _ (or16 s hs16 i (by omega)).2 (okR_up (fun u hu => by rw [hr1 u hu]; exact hR u hu) (Or.inr (vp_in_nI (by omega) (by omega)))) (fun r2 f2 h1 h2 => ?_))
              show AW _ mX3_tryTank 156 _ _ _ _
              refine aw_aload_n dX3_tryTank_156 rfl rfl ?_
              refine aw_getR dX3_tryTank_157 rfl rfl rfl (by decide) flX3_249 ?_
              refine aw_iload dX3_tryTank_160 rfl rfl ?_
              refine aw_dup2 dX3_tryTank_162 rfl ?_
              refine aw_iald dX3_tryTank_163 rfl rfl (by first | exact vp_in_nI (by omega) (by omega) | exact vp_in_iff.mpr (by decide)) ?_
              try simp only [hci]
              try simp only [hct]
              try simp only [tS_r19]
              refine aw_iload dX3_tryTank_164 rfl rfl ?_
              refine aw_iadd dX3_tryTank_166 rfl ?_
              refine aw_iast dX3_tryTank_167 rfl rfl (by first | exact vp_in_nI (by omega) (by omega) | exact vp_in_iff.mpr (by decide)) ?_
              try simp only [hci]
              try simp only [hct]
              try simp only [tS_r19]
              refine aw_iinc dX3_tryTank_168 rfl rfl (ii_1 _) (by decide) ?_
              show AW _ mX3_tryTank 171 [_, _, _, _, _, _, _, _] _ _ _
              refine aw_goto (q := 39) dX3_tryTank_171 rfl ?_
              refine AW.conv (AW.forget (nx_39 r2 f2 (fun u hu => (h1 u (by omega)).trans ((pk_un (by omega)).trans (hr1 u hu))) (fun u hu => (h2 u (by omega)).trans ((pk_un (by omega)).trans (hf1 u hu)))) (ls := [some (.inr (4, 0)), some (.inl (nI t)), some (.inl (nI s)), some (.inl ow), some (.inl (opF (σ 15 0) (σ 13 0) (σ 18 0) r t t)), some (.inl (nI (i + 1))), some (.inl (mn (σ 11 0 t) (l i))), some (.inl (σ 17 0 i))]) (fun n v h => by
                match n, h with
                | 0, h => exact h
                | 1, h => exact h
                | 2, h => exact h
                | 3, h => exact h
                | 4, h => exact h
                | 5, h => exact h
                | 6, h => cases h
                | 7, h => cases h
                | n + 8, h => simp at h)) (by rw [nI_succ i]) rfl ?_
              simp only [tS_r19, tS_r20, tS_r21, tS_r22, tS_r23, tS_r24, tS_r25, tS_r26, tS_r27, tS_19, tS_20, tS_21, tS_22, tS_23, tS_24, tS_25, tS_26, tS_27, hci, lf_back]
              rw [fm_s, fdC_app, show (brC σ n cn k t l r f s ow) i = tvL σ n cn k (t + 1) (upd l i (l i - mn (σ 11 0 t) (l i))) (upd r t (nI i)) (upd f t (mn (σ 11 0 t) (l i))) (s ||| 2 ^ i) (ow + (σ 17 0 i) - mn (σ 11 0 t) (l i)) by rw [brC, if_pos ⟨c55, Int32.not_le.mp c65⟩, if_neg (show ¬ hb (nI s) (nI i) = true by rw [c92]; decide)]]
              rw [tvL_congr k (t + 1) (by omega) (upd l i (l i - mn (σ 11 0 t) (l i))) (upd r1 t (nI i)) (upd r t (nI i)) (upd f1 t (mn (σ 11 0 t) (l i))) (upd f t (mn (σ 11 0 t) (l i))) (s ||| 2 ^ i) _ (upd_agree hr1) (upd_agree hf1)]
            · skip
              refine aw_iconst 0 dX3_tryTank_95 rfl (by decide) ?_
              refine aw_goto (q := 106) dX3_tryTank_96 rfl ?_
              try simp only [hci]
              try rw [show (tS σ l r1 f1 (fdC σ n R ((List.range i).flatMap (brC σ n cn k t l r f s ow)))) 17 0 i = σ 17 0 i from rfl]
              refine aw_istore dX3_tryTank_106 rfl (by decide) ?_
              show AW _ mX3_tryTank 108 [_, _, _, _, _, _, _, _] _ _ _
              refine aw_aload_n dX3_tryTank_108 rfl rfl ?_
              refine aw_getR dX3_tryTank_109 rfl rfl rfl (by decide) flX3_278 ?_
              refine aw_iload_n dX3_tryTank_112 rfl rfl ?_
              refine aw_iload dX3_tryTank_113 rfl rfl ?_
              refine aw_iast dX3_tryTank_115 rfl rfl (by first | exact vp_in_nI (by omega) (by omega) | exact vp_in_iff.mpr (by decide)) ?_
              try simp only [hci]
              try simp only [hct]
              try simp only [tS_r19]
              refine aw_aload_n dX3_tryTank_116 rfl rfl ?_
              refine aw_getR dX3_tryTank_117 rfl rfl rfl (by decide) flX3_281 ?_
              refine aw_iload_n dX3_tryTank_120 rfl rfl ?_
              refine aw_iload dX3_tryTank_121 rfl rfl ?_
              refine aw_iast dX3_tryTank_123 rfl rfl (by first | exact vp_in_nI (by omega) (by omega) | exact vp_in_iff.mpr (by decide)) ?_
              try simp only [hci]
              try simp only [hct]
              try simp only [tS_r19]
              refine aw_aload_n dX3_tryTank_124 rfl rfl ?_
              refine aw_getR dX3_tryTank_125 rfl rfl rfl (by decide) flX3_249 ?_
              refine aw_iload dX3_tryTank_128 rfl rfl ?_
              refine aw_dup2 dX3_tryTank_130 rfl ?_
              refine aw_iald dX3_tryTank_131 rfl rfl (by first | exact vp_in_nI (by omega) (by omega) | exact vp_in_iff.mpr (by decide)) ?_
              try simp only [hci]
              try simp only [hct]
              try simp only [tS_r19]
              refine aw_iload dX3_tryTank_132 rfl rfl ?_
              refine aw_isub dX3_tryTank_134 rfl ?_
              refine aw_iast dX3_tryTank_135 rfl rfl (by first | exact vp_in_nI (by omega) (by omega) | exact vp_in_iff.mpr (by decide)) ?_
              try simp only [hci]
              try simp only [hct]
              try simp only [tS_r19]
              simp only [tS_r19, tS_r20, tS_r21, tS_r22, tS_r23, tS_r24, tS_r25, tS_r26, tS_r27, tS_19, tS_20, tS_21, tS_22, tS_23, tS_24, tS_25, tS_26, tS_27, hci, hct]
              refine aw_aload_n dX3_tryTank_136 rfl rfl ?_
              refine aw_iload_n dX3_tryTank_137 rfl rfl ?_
              refine aw_iconst 1 dX3_tryTank_138 rfl (by decide) ?_
              refine aw_iadd dX3_tryTank_139 rfl ?_
              rw [← nI_succ t]
              refine aw_iload_n dX3_tryTank_140 rfl rfl ?_
              refine aw_iconst 1 dX3_tryTank_141 rfl (by decide) ?_
              refine aw_iload dX3_tryTank_142 rfl rfl ?_
              refine aw_ishl dX3_tryTank_144 rfl ?_
              refine aw_ior dX3_tryTank_145 rfl ?_
              rw [(or16 s hs16 i (by omega)).1]
              refine aw_iload_n dX3_tryTank_146 rfl rfl ?_
              refine aw_iload dX3_tryTank_147 rfl rfl ?_
              refine aw_iadd dX3_tryTank_149 rfl ?_
              refine aw_iload dX3_tryTank_150 rfl rfl ?_
              refine aw_isub dX3_tryTank_152 rfl ?_
              refine aw_S4 (M' := mX3_tryTank) dX3_tryTank_153 rfl lkX3_242 gX3_tryTank (Nat.le_of_ble_eq_true rfl) (ih (t + 1) (by omega) d _ _ _ _ _ _ _ (or16 s hs16 i (by omega)).2 (okR_up (fun u hu => by rw [hr1 u hu]; exact hR u hu) (Or.inr (vp_in_nI (by omega) (by omega)))) (fun r2 f2 h1 h2 => ?_))
              show AW _ mX3_tryTank 156 _ _ _ _
              refine aw_aload_n dX3_tryTank_156 rfl rfl ?_
              refine aw_getR dX3_tryTank_157 rfl rfl rfl (by decide) flX3_249 ?_
              refine aw_iload dX3_tryTank_160 rfl rfl ?_
              refine aw_dup2 dX3_tryTank_162 rfl ?_
              refine aw_iald dX3_tryTank_163 rfl rfl (by first | exact vp_in_nI (by omega) (by omega) | exact vp_in_iff.mpr (by decide)) ?_
              try simp only [hci]
              try simp only [hct]
              try simp only [tS_r19]
              refine aw_iload dX3_tryTank_164 rfl rfl ?_
              refine aw_iadd dX3_tryTank_166 rfl ?_
              refine aw_iast dX3_tryTank_167 rfl rfl (by first | exact vp_in_nI (by omega) (by omega) | exact vp_in_iff.mpr (by decide)) ?_
              try simp only [hci]
              try simp only [hct]
              try simp only [tS_r19]
              refine aw_iinc dX3_tryTank_168 rfl rfl (ii_1 _) (by decide) ?_
              show AW _ mX3_tryTank 171 [_, _, _, _, _, _, _, _] _ _ _
              refine aw_goto (q := 39) dX3_tryTank_171 rfl ?_
              refine AW.conv (AW.forget (nx_39 r2 f2 (fun u hu => (h1 u (by omega)).trans ((pk_un (by omega)).trans (hr1 u hu))) (fun u hu => (h2 u (by omega)).trans ((pk_un (by omega)).trans (hf1 u hu)))) (ls := [some (.inr (4, 0)), some (.inl (nI t)), some (.inl (nI s)), some (.inl ow), some (.inl (opF (σ 15 0) (σ 13 0) (σ 18 0) r t t)), some (.inl (nI (i + 1))), some (.inl (mn (σ 11 0 t) (l i))), some (.inl (0))]) (fun n v h => by
                match n, h with
                | 0, h => exact h
                | 1, h => exact h
                | 2, h => exact h
                | 3, h => exact h
                | 4, h => exact h
                | 5, h => exact h
                | 6, h => cases h
                | 7, h => cases h
                | n + 8, h => simp at h)) (by rw [nI_succ i]) rfl ?_
              simp only [tS_r19, tS_r20, tS_r21, tS_r22, tS_r23, tS_r24, tS_r25, tS_r26, tS_r27, tS_19, tS_20, tS_21, tS_22, tS_23, tS_24, tS_25, tS_26, tS_27, hci, lf_back]
              rw [fm_s, fdC_app, show (brC σ n cn k t l r f s ow) i = tvL σ n cn k (t + 1) (upd l i (l i - mn (σ 11 0 t) (l i))) (upd r t (nI i)) (upd f t (mn (σ 11 0 t) (l i))) (s ||| 2 ^ i) (ow + (0) - mn (σ 11 0 t) (l i)) by rw [brC, if_pos ⟨c55, Int32.not_le.mp c65⟩, if_pos c92]]
              rw [tvL_congr k (t + 1) (by omega) (upd l i (l i - mn (σ 11 0 t) (l i))) (upd r1 t (nI i)) (upd r t (nI i)) (upd f1 t (mn (σ 11 0 t) (l i))) (upd f t (mn (σ 11 0 t) (l i))) (s ||| 2 ^ i) _ (upd_agree hr1) (upd_agree hf1)]
    · skip
      refine aw_vret dX3_tryTank_28 rfl ?_
      exact kk_c (hK r f (fun _ _ => rfl) (fun _ _ => rfl)) rfl (by rw [tvL_s, if_pos (Int32.not_le.mp c25)]; rfl)
