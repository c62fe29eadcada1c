set_option maxRecDepth 4000 in
theorem sX3_noteCargoes {d : Nat} {σ : SS} {K : ax_K} {cn : Nat} (hc : cn ≤ 4) (h9 : σ 0 0 8 = nI cn) (hLiq : ∀ c, c < 4 → ∃ j, j < 8 ∧ σ 10 c 0 = nI j) (hK : ∀ a c l, (∀ j, j < cn → ncP σ cn a c l j) → K none (nc σ (upd (σ 4 0) 1 (nI cn)) a c l)) : AW (d + 3) mX3_noteCargoes 0 (ax_en mX3_noteCargoes [.inr (0, 0)]) [] σ K := by
  show AW _ mX3_noteCargoes 0 [_, _] _ _ _
  refine aw_aload_n dX3_noteCargoes_0 rfl rfl ?_
  refine aw_getR dX3_noteCargoes_1 rfl rfl rfl (by decide) flX3_28 ?_
  refine aw_aload_n dX3_noteCargoes_4 rfl rfl ?_
  refine aw_getI dX3_noteCargoes_5 rfl rfl rfl flX3_45 ?_
  refine aw_putI dX3_noteCargoes_8 rfl rfl rfl flX3_246 (pf_1_1 _) ?_
  refine aw_iconst 0 dX3_noteCargoes_11 rfl (by decide) ?_
  refine aw_istore_n dX3_noteCargoes_12 rfl (by decide) ?_
  show AW _ mX3_noteCargoes 13 [_, _] _ _ _
  refine AW.conv (ax_loop (P := fun i => ∀ a c l : Nat → Int32, (∀ j, j < i → ncP σ cn a c l j) → AW (d + 3) mX3_noteCargoes 13 [some (.inr (0, 0)), some (.inl (nI i))] [] (nc σ (upd (σ 4 0) 1 (nI cn)) a c l) K) cn ?_ ?_ 0 (Nat.zero_le _) (σ 17 0) (σ 18 0) (σ 19 0) (fun j h => absurd h (Nat.not_lt_zero j))) (by first | (simp only [nI_0]; done) | (simp only [nI_0]; rfl)) rfl (by rw [h9]; unfold nc; rw [rp_self2 (by decide), rp_self2 (by decide), rp_self2 (by decide)])
  · try dsimp only
    intro a c l hp
    refine aw_iload_n dX3_noteCargoes_13 rfl rfl ?_
    refine aw_aload_n dX3_noteCargoes_14 rfl rfl ?_
    refine aw_getI dX3_noteCargoes_15 rfl rfl rfl flX3_45 ?_
    refine aw_icmp_ge (tgt := 82) dX3_noteCargoes_18 rfl rfl (fun _ => ?_) (fun z => absurd (by rw [show ∀ a c l, (nc σ (upd (σ 4 0) 1 (nI cn)) a c l) 0 0 8 = σ 0 0 8 from fun _ _ _ => rfl, h9]; exact Int32.le_refl _) z)
    refine aw_vret dX3_noteCargoes_82 rfl ?_
    exact hK a c l hp
  · intro i hi_13 nx_13
    try dsimp only at nx_13 ⊢
    intro a c l hp
    have hci : (nI i).toNatClampNeg = i := nI_clamp (by omega)
    refine aw_iload_n dX3_noteCargoes_13 rfl rfl ?_
    refine aw_aload_n dX3_noteCargoes_14 rfl rfl ?_
    refine aw_getI dX3_noteCargoes_15 rfl rfl rfl flX3_45 ?_
    refine aw_icmp_ge (tgt := 82) dX3_noteCargoes_18 rfl rfl (fun z => absurd z (by rw [show ∀ a c l, (nc σ (upd (σ 4 0) 1 (nI cn)) a c l) 0 0 8 = σ 0 0 8 from fun _ _ _ => rfl, h9]; exact nI_ge hi_13 (by omega))) (fun _ => ?_)
    refine aw_aload_n dX3_noteCargoes_21 rfl rfl ?_
    refine aw_getR dX3_noteCargoes_22 rfl rfl rfl (by decide) flX3_28 ?_
    refine aw_getR dX3_noteCargoes_25 rfl rfl rfl (by decide) flX3_247 ?_
    refine aw_iload_n dX3_noteCargoes_28 rfl rfl ?_
    refine aw_aload_n dX3_noteCargoes_29 rfl rfl ?_
    refine aw_getR dX3_noteCargoes_30 rfl rfl rfl (by decide) flX3_17 ?_
    refine aw_iload_n dX3_noteCargoes_33 rfl rfl ?_
    refine aw_aald dX3_noteCargoes_34 rfl rfl (by decide) (by first | exact (show vp_in _ 6 from vp_in_nI (by omega) (by omega)) | exact (show vp_in _ 4 from vp_in_nI (by omega) (by omega))) ?_
    try simp only [hci]
    refine aw_getI dX3_noteCargoes_35 rfl rfl rfl flX3_102 ?_
    refine aw_iast dX3_noteCargoes_38 rfl rfl (by first | exact vp_in_nI (by omega) (by omega) | exact vp_in_iff.mpr (by decide)) ?_
    try simp only [hci]
    refine aw_aload_n dX3_noteCargoes_39 rfl rfl ?_
    refine aw_getR dX3_noteCargoes_40 rfl rfl rfl (by decide) flX3_28 ?_
    refine aw_getR dX3_noteCargoes_43 rfl rfl rfl (by decide) flX3_249 ?_
    refine aw_iload_n dX3_noteCargoes_46 rfl rfl ?_
    refine aw_aload_n dX3_noteCargoes_47 rfl rfl ?_
    refine aw_getR dX3_noteCargoes_48 rfl rfl rfl (by decide) flX3_17 ?_
    refine aw_iload_n dX3_noteCargoes_51 rfl rfl ?_
    refine aw_aald dX3_noteCargoes_52 rfl rfl (by decide) (by first | exact (show vp_in _ 6 from vp_in_nI (by omega) (by omega)) | exact (show vp_in _ 4 from vp_in_nI (by omega) (by omega))) ?_
    try simp only [hci]
    refine aw_getI dX3_noteCargoes_53 rfl rfl rfl flX3_102 ?_
    refine aw_iast dX3_noteCargoes_56 rfl rfl (by first | exact vp_in_nI (by omega) (by omega) | exact vp_in_iff.mpr (by decide)) ?_
    try simp only [hci]
    refine aw_aload_n dX3_noteCargoes_57 rfl rfl ?_
    refine aw_getR dX3_noteCargoes_58 rfl rfl rfl (by decide) flX3_28 ?_
    refine aw_getR dX3_noteCargoes_61 rfl rfl rfl (by decide) flX3_252 ?_
    refine aw_iload_n dX3_noteCargoes_64 rfl rfl ?_
    refine aw_aload_n dX3_noteCargoes_65 rfl rfl ?_
    refine aw_aload_n dX3_noteCargoes_66 rfl rfl ?_
    refine aw_getR dX3_noteCargoes_67 rfl rfl rfl (by decide) flX3_17 ?_
    refine aw_iload_n dX3_noteCargoes_70 rfl rfl ?_
    refine aw_aald dX3_noteCargoes_71 rfl rfl (by decide) (by first | exact (show vp_in _ 6 from vp_in_nI (by omega) (by omega)) | exact (show vp_in _ 4 from vp_in_nI (by omega) (by omega))) ?_
    try simp only [hci]
    refine aw_V1 (M' := mX3_cargoesThatClash) dX3_noteCargoes_72 rfl lkX3_134 gX3_cargoesThatClash rfl rfl (Nat.le_of_ble_eq_true rfl) (sX3_cargoesThatClash (by omega) hc h9 hLiq ?_)
    show AW _ mX3_noteCargoes 75 _ (_ :: _) _ _
    refine aw_iast dX3_noteCargoes_75 rfl rfl (by first | exact vp_in_nI (by omega) (by omega) | exact vp_in_iff.mpr (by decide)) ?_
    try simp only [hci]
    refine aw_iinc dX3_noteCargoes_76 rfl rfl (ii_1 _) (by decide) ?_
    show AW _ mX3_noteCargoes 79 [_, _] _ _ _
    refine aw_goto (q := 13) dX3_noteCargoes_79 rfl ?_
    simp only [nc_17, nc_18, nc_19, nc_r17, nc_r18, nc_r19, hci]
    refine AW.conv (nx_13 _ _ _ ?_) (by first | (simp only [nI_succ i]; done) | (simp only [nI_succ i]; rfl)) rfl rfl
    refine lt_s (fun j hj => ?_) ⟨pk_us, pk_us, pk_us⟩
    obtain ⟨p1, p2, p3⟩ := hp j hj
    exact ⟨(pk_un (by omega)).trans p1, (pk_un (by omega)).trans p2, (pk_un (by omega)).trans p3⟩
set_option maxRecDepth 4000 in
theorem sX3_noteTanks {d : Nat} {σ : SS} {K : ax_K} {n cn : Nat} (hn : n ≤ 6) (h0 : σ 0 0 7 = nI n) (hc : cn ≤ 4) (h9 : σ 0 0 8 = nI cn) (hCoat : ∀ t, t < 6 → 0 ≤ σ 8 t 1) (hLat : ∀ t k, t < 6 → k < 3 → lt9 (σ 9 t k)) (hLiq : ∀ c, c < 4 → ∃ j, j < 8 ∧ σ 10 c 0 = nI j) (hK : ∀ v l e r s w, (∀ t, t < n → ntP σ n cn v l e r s w t) → K none (nt σ (upd (upd (σ 4 0) 0 (nI n)) 2 (σ 0 0 9)) v l e r s w)) : AW (d + 3) mX3_noteTanks 0 (ax_en mX3_noteTanks [.inr (0, 0)]) [] σ K := by
  show AW _ mX3_noteTanks 0 [_, _, _, _, _] _ _ _
  refine aw_aload_n dX3_noteTanks_0 rfl rfl ?_
  refine aw_getR dX3_noteTanks_1 rfl rfl rfl (by decide) flX3_28 ?_
  refine aw_aload_n dX3_noteTanks_4 rfl rfl ?_
  refine aw_getI dX3_noteTanks_5 rfl rfl rfl flX3_41 ?_
  rw [h0]
  refine aw_putI dX3_noteTanks_8 rfl rfl rfl flX3_255 (pf_1_0 _) ?_
  refine aw_aload_n dX3_noteTanks_11 rfl rfl ?_
  refine aw_getR dX3_noteTanks_12 rfl rfl rfl (by decide) flX3_28 ?_
  refine aw_aload_n dX3_noteTanks_15 rfl rfl ?_
  refine aw_getI dX3_noteTanks_16 rfl rfl rfl flX3_48 ?_
  refine aw_putI dX3_noteTanks_19 rfl rfl rfl flX3_256 (pf_1_2 _) ?_
  refine aw_iconst 0 dX3_noteTanks_22 rfl (by decide) ?_
  refine aw_istore_n dX3_noteTanks_23 rfl (by decide) ?_
  show AW _ mX3_noteTanks 24 [_, _, _, _, _] _ _ _
  refine aw_aload_n dX3_noteTanks_24 rfl rfl ?_
  refine aw_getI dX3_noteTanks_25 rfl rfl rfl flX3_41 ?_
  refine aw_iconst 1 dX3_noteTanks_28 rfl (by decide) ?_
  refine aw_isub dX3_noteTanks_29 rfl ?_
  refine aw_istore_n dX3_noteTanks_30 rfl (by decide) ?_
  show AW _ mX3_noteTanks 31 [_, _, _, _, _] _ _ _
  refine AW.conv (ax_loop (P := fun i => ∀ v l e r s w : Nat → Int32, (∀ t, n - i ≤ t → t < n → ntP σ n cn v l e r s w t) → AW (d + 3) mX3_noteTanks 31 [some (.inr (0, 0)), some (.inl (rmS (fun u => σ 8 u 0) n i)), some (.inl (nI (n - i) - 1)), none, none] [] (nt σ (upd (upd (σ 4 0) 0 (nI n)) 2 (σ 0 0 9)) v l e r s w) K) n ?_ ?_ 0 (Nat.zero_le _) (σ 11 0) (σ 12 0) (σ 13 0) (σ 14 0) (σ 15 0) (σ 16 0) (fun t h1 h2 => by omega)) (by simp only [rp_nk, ne_eq, Nat.reduceEqDiff, not_false_eq_true, h0, Nat.sub_zero]; rfl) rfl (by simp only [rp_nk, rp_at, rp_rp, ne_eq, Nat.reduceEqDiff, not_false_eq_true, h0]; exact nt_start σ _)
  · try dsimp only
    intro v l e r s w hp
    rw [Nat.sub_self]
    refine aw_iload_n dX3_noteTanks_31 rfl rfl ?_
    refine aw_if_lt (tgt := 189) dX3_noteTanks_32 rfl rfl (fun _ => ?_) (fun z => absurd (by decide) z)
    refine aw_vret dX3_noteTanks_189 rfl ?_
    exact hK _ _ _ _ _ _ (fun t ht => hp t (by omega) ht)
  · intro i hi_31 nx_31
    try dsimp only at nx_31 ⊢
    intro v l e r s w hp
    obtain ⟨t0, ht0⟩ : ∃ t0, t0 = n - i - 1 := ⟨_, rfl⟩
    have hk : nI (n - i) - 1 = nI t0 := by
      rw [show n - i = t0 + 1 by omega, nI_pred]
    have hct : (nI t0).toNatClampNeg = t0 := nI_clamp (by omega)
    rw [hk]
    refine aw_iload_n dX3_noteTanks_31 rfl rfl ?_
    refine aw_if_lt (tgt := 189) dX3_noteTanks_32 rfl rfl (fun z => absurd z (nI_pos (by omega))) (fun _ => ?_)
    refine aw_aload_n dX3_noteTanks_35 rfl rfl ?_
    refine aw_getR dX3_noteTanks_36 rfl rfl rfl (by decide) flX3_11 ?_
    refine aw_iload_n dX3_noteTanks_39 rfl rfl ?_
    refine aw_aald dX3_noteTanks_40 rfl rfl (by decide) (by first | exact (show vp_in _ 6 from vp_in_nI (by omega) (by omega)) | exact (show vp_in _ 4 from vp_in_nI (by omega) (by omega))) ?_
    try simp only [hct]
    try simp only [hcj]
    refine aw_astore_n dX3_noteTanks_41 rfl (by decide) ?_
    show AW _ mX3_noteTanks 42 [_, _, _, _, _] _ _ _
    refine aw_iload_n dX3_noteTanks_42 rfl rfl ?_
    refine aw_aload_n dX3_noteTanks_43 rfl rfl ?_
    refine aw_getI dX3_noteTanks_44 rfl rfl rfl flX3_64 ?_
    refine aw_iadd dX3_noteTanks_47 rfl ?_
    refine aw_istore_n dX3_noteTanks_48 rfl (by decide) ?_
    show AW _ mX3_noteTanks 49 [_, _, _, _, _] _ _ _
    refine aw_aload_n dX3_noteTanks_49 rfl rfl ?_
    refine aw_getR dX3_noteTanks_50 rfl rfl rfl (by decide) flX3_28 ?_
    refine aw_getR dX3_noteTanks_53 rfl rfl rfl (by decide) flX3_257 ?_
    refine aw_iload_n dX3_noteTanks_56 rfl rfl ?_
    refine aw_iload_n dX3_noteTanks_57 rfl rfl ?_
    refine aw_iast dX3_noteTanks_58 rfl rfl (by first | exact vp_in_nI (by omega) (by omega) | exact vp_in_iff.mpr (by decide)) ?_
    try simp only [hct]
    try simp only [hcj]
    refine aw_aload_n dX3_noteTanks_59 rfl rfl ?_
    refine aw_getR dX3_noteTanks_60 rfl rfl rfl (by decide) flX3_28 ?_
    refine aw_getR dX3_noteTanks_63 rfl rfl rfl (by decide) flX3_260 ?_
    refine aw_iload_n dX3_noteTanks_66 rfl rfl ?_
    refine aw_aload_n dX3_noteTanks_67 rfl rfl ?_
    refine aw_getI dX3_noteTanks_68 rfl rfl rfl flX3_64 ?_
    refine aw_iast dX3_noteTanks_71 rfl rfl (by first | exact vp_in_nI (by omega) (by omega) | exact vp_in_iff.mpr (by decide)) ?_
    try simp only [hct]
    try simp only [hcj]
    refine aw_aload_n dX3_noteTanks_72 rfl rfl ?_
    refine aw_getR dX3_noteTanks_73 rfl rfl rfl (by decide) flX3_28 ?_
    refine aw_getR dX3_noteTanks_76 rfl rfl rfl (by decide) flX3_262 ?_
    refine aw_iload_n dX3_noteTanks_79 rfl rfl ?_
    refine aw_aload_n dX3_noteTanks_80 rfl rfl ?_
    refine aw_getI dX3_noteTanks_81 rfl rfl rfl flX3_70 ?_
    refine aw_iast dX3_noteTanks_84 rfl rfl (by first | exact vp_in_nI (by omega) (by omega) | exact vp_in_iff.mpr (by decide)) ?_
    try simp only [hct]
    try simp only [hcj]
    refine aw_aload_n dX3_noteTanks_85 rfl rfl ?_
    refine aw_getR dX3_noteTanks_86 rfl rfl rfl (by decide) flX3_28 ?_
    refine aw_getR dX3_noteTanks_89 rfl rfl rfl (by decide) flX3_264 ?_
    refine aw_iload_n dX3_noteTanks_92 rfl rfl ?_
    refine aw_aload_n dX3_noteTanks_93 rfl rfl ?_
    refine aw_getI dX3_noteTanks_94 rfl rfl rfl flX3_77 ?_
    refine aw_iast dX3_noteTanks_97 rfl rfl (by first | exact vp_in_nI (by omega) (by omega) | exact vp_in_iff.mpr (by decide)) ?_
    try simp only [hct]
    try simp only [hcj]
    refine aw_aload_n dX3_noteTanks_98 rfl rfl ?_
    refine aw_getR dX3_noteTanks_99 rfl rfl rfl (by decide) flX3_28 ?_
    refine aw_getR dX3_noteTanks_102 rfl rfl rfl (by decide) flX3_266 ?_
    refine aw_iload_n dX3_noteTanks_105 rfl rfl ?_
    refine aw_iconst 0 dX3_noteTanks_106 rfl (by decide) ?_
    refine aw_iast dX3_noteTanks_107 rfl rfl (by first | exact vp_in_nI (by omega) (by omega) | exact vp_in_iff.mpr (by decide)) ?_
    try simp only [hct]
    try simp only [hcj]
    refine aw_iconst 0 dX3_noteTanks_108 rfl (by decide) ?_
    refine aw_istore dX3_noteTanks_109 rfl (by decide) ?_
    show AW _ mX3_noteTanks 111 [_, _, _, _, _] _ _ _
    simp only [nt_11, nt_r11, nt_12, nt_r12, nt_13, nt_r13, nt_14, nt_r14, nt_15, nt_r15, nt_16, nt_r16, hct]
    obtain ⟨v1, ev1⟩ : ∃ x, x = upd v t0 (σ 8 t0 0) := ⟨_, rfl⟩
    obtain ⟨l1, el1⟩ : ∃ x, x = upd l t0 (σ 8 t0 2) := ⟨_, rfl⟩
    obtain ⟨e1, ee1⟩ : ∃ x, x = upd e t0 (σ 8 t0 3) := ⟨_, rfl⟩
    obtain ⟨r1, er1⟩ : ∃ x, x = upd r t0 (rmS (fun u => σ 8 u 0) n i + σ 8 t0 0) := ⟨_, rfl⟩
    have hv1 : v1 t0 = σ 8 t0 0 ∧ ∀ u, u ≠ t0 → v1 u = v u := by rw [ev1]; exact ⟨pk_us, fun u hu => pk_un hu⟩
    have hl1 : l1 t0 = σ 8 t0 2 ∧ ∀ u, u ≠ t0 → l1 u = l u := by rw [el1]; exact ⟨pk_us, fun u hu => pk_un hu⟩
    have he1 : e1 t0 = σ 8 t0 3 ∧ ∀ u, u ≠ t0 → e1 u = e u := by rw [ee1]; exact ⟨pk_us, fun u hu => pk_un hu⟩
    have hr1 : r1 t0 = rmS (fun u => σ 8 u 0) n (n - t0) ∧ ∀ u, u ≠ t0 → r1 u = r u := by
      rw [er1, show n - t0 = i + 1 by omega, rmS_s, show n - 1 - i = t0 by omega]
      exact ⟨pk_us, fun u hu => pk_un hu⟩
    show AW _ mX3_noteTanks 111 _ _ (nt σ (upd (upd (σ 4 0) 0 (nI n)) 2 (σ 0 0 9)) (upd v t0 (σ 8 t0 0)) (upd l t0 (σ 8 t0 2)) (upd e t0 (σ 8 t0 3)) (upd r t0 (rmS (fun u => σ 8 u 0) n i + σ 8 t0 0)) (upd s t0 0) w) _
    rw [← ev1, ← el1, ← ee1, ← er1]
    refine AW.conv (ax_loop (P := fun j => ∀ s1 w1 : Nat → Int32, (s1 t0 = setI j (fun c => whyS (vw σ) t0 c = 0) ∧ ∀ u, u ≠ t0 → s1 u = s u) → ((∀ c, c < j → w1 (4 * t0 + c) = wfS (vw σ) t0 c) ∧ ∀ u c, u ≠ t0 → c < 4 → w1 (4 * u + c) = w (4 * u + c)) → AW (d + 3) mX3_noteTanks 111 [some (.inr (0, 0)), some (.inl (rmS (fun u => σ 8 u 0) n i + σ 8 t0 0)), some (.inl (nI t0)), some (.inr (8, t0)), some (.inl (nI j))] [] (nt σ (upd (upd (σ 4 0) 0 (nI n)) 2 (σ 0 0 9)) v1 l1 e1 r1 s1 w1) K) cn ?_ ?_ 0 (Nat.zero_le _) (upd s t0 0) w ⟨pk_us, fun u hu => pk_un hu⟩ ⟨fun c h => absurd h (Nat.not_lt_zero c), fun _ _ _ _ => rfl⟩) (by rw [nI_0]; rfl) rfl rfl
    · try dsimp only
      intro s1 w1 hs1 hw1
      refine aw_iload dX3_noteTanks_111 rfl rfl ?_
      refine aw_aload_n dX3_noteTanks_113 rfl rfl ?_
      refine aw_getI dX3_noteTanks_114 rfl rfl rfl flX3_45 ?_
      refine aw_icmp_ge (tgt := 183) dX3_noteTanks_117 rfl rfl (fun _ => ?_) (fun z => absurd (by rw [show ∀ b v l e r s w, (nt σ b v l e r s w) 0 0 8 = σ 0 0 8 from fun _ _ _ _ _ _ _ => rfl, h9]; exact Int32.le_refl _) z)
      refine aw_iinc dX3_noteTanks_183 rfl rfl (ii_m1 _) (by decide) ?_
      show AW _ mX3_noteTanks 186 [_, _, _, _, _] _ _ _
      refine aw_goto (q := 31) dX3_noteTanks_186 rfl ?_
      refine AW.conv (AW.forget (nx_31 v1 l1 e1 r1 s1 w1 ?_) (ls := [some (.inr (0, 0)), some (.inl (rmS (fun u => σ 8 u 0) n (i + 1))), some (.inl (nI (n - (i + 1)) - 1)), some (.inr (8, t0)), some (.inl (nI cn))]) (fun n v h => by
        match n, h with
        | 0, h => exact h
        | 1, h => exact h
        | 2, h => exact h
        | 3, h => cases h
        | 4, h => cases h
        | n + 5, h => simp at h)) ?_ rfl rfl
      · intro t h1 h2
        rcases Nat.eq_or_lt_of_le (show t0 ≤ t by omega) with h | h
        · subst h
          refine ⟨hv1.1, hl1.1, he1.1, hr1.1, hs1.1, fun c hcc => hw1.1 c hcc⟩
        · obtain ⟨p1, p2, p3, p4, p5, p6⟩ := hp t (by omega) h2
          exact ⟨(hv1.2 t (by omega)).trans p1, (hl1.2 t (by omega)).trans p2, (he1.2 t (by omega)).trans p3, (hr1.2 t (by omega)).trans p4, (hs1.2 t (by omega)).trans p5, fun c hcc => (hw1.2 t c (by omega) (by omega)).trans (p6 c hcc)⟩
      · rw [show n - (i + 1) = t0 by omega, rmS_s, show n - 1 - i = t0 by omega]
    · intro j hi_111 nx_111
      try dsimp only at nx_111 ⊢
      intro s1 w1 hs1 hw1
      have hcj : (nI j).toNatClampNeg = j := nI_clamp (by omega)
      have hcx : (nI (4 * t0 + j)).toNatClampNeg = 4 * t0 + j := nI_clamp (by omega)
      refine aw_iload dX3_noteTanks_111 rfl rfl ?_
      refine aw_aload_n dX3_noteTanks_113 rfl rfl ?_
      refine aw_getI dX3_noteTanks_114 rfl rfl rfl flX3_45 ?_
      refine aw_icmp_ge (tgt := 183) dX3_noteTanks_117 rfl rfl (fun z => absurd z (by rw [show ∀ b v l e r s w, (nt σ b v l e r s w) 0 0 8 = σ 0 0 8 from fun _ _ _ _ _ _ _ => rfl, h9]; exact nI_ge hi_111 (by omega))) (fun _ => ?_)
      refine aw_aload_n dX3_noteTanks_120 rfl rfl ?_
      refine aw_getR dX3_noteTanks_121 rfl rfl rfl (by decide) flX3_28 ?_
      refine aw_getR dX3_noteTanks_124 rfl rfl rfl (by decide) flX3_269 ?_
      refine aw_iload_n dX3_noteTanks_127 rfl rfl ?_
      refine aw_iconst 4 dX3_noteTanks_128 rfl (by decide) ?_
      refine aw_imul dX3_noteTanks_129 rfl ?_
      refine aw_iload dX3_noteTanks_130 rfl rfl ?_
      refine aw_iadd dX3_noteTanks_132 rfl ?_
      rw [ix4]
      refine aw_aload_n dX3_noteTanks_133 rfl rfl ?_
      refine aw_aload_n dX3_noteTanks_134 rfl rfl ?_
      refine aw_aload_n dX3_noteTanks_135 rfl rfl ?_
      refine aw_getR dX3_noteTanks_136 rfl rfl rfl (by decide) flX3_17 ?_
      refine aw_iload dX3_noteTanks_139 rfl rfl ?_
      refine aw_aald dX3_noteTanks_141 rfl rfl (by decide) (by first | exact (show vp_in _ 6 from vp_in_nI (by omega) (by omega)) | exact (show vp_in _ 4 from vp_in_nI (by omega) (by omega))) ?_
      try simp only [hct]
      try simp only [hcj]
      refine aw_V2 (M' := mX3_washesNeeded) dX3_noteTanks_142 rfl lkX3_137 gX3_washesNeeded rfl rfl (Nat.le_of_ble_eq_true rfl) (sX3_washesNeeded (by omega) (by omega) hLat hLiq ?_)
      show AW _ mX3_noteTanks 145 _ (_ :: _) _ _
      refine aw_iast dX3_noteTanks_145 rfl rfl (by first | exact vp_in_nI (by omega) (by omega) | exact vp_in_iff.mpr (by decide)) ?_
      try simp only [hct]
      try simp only [hcj]
      refine aw_aload_n dX3_noteTanks_146 rfl rfl ?_
      refine aw_aload_n dX3_noteTanks_147 rfl rfl ?_
      refine aw_aload_n dX3_noteTanks_148 rfl rfl ?_
      refine aw_getR dX3_noteTanks_149 rfl rfl rfl (by decide) flX3_17 ?_
      refine aw_iload dX3_noteTanks_152 rfl rfl ?_
      refine aw_aald dX3_noteTanks_154 rfl rfl (by decide) (by first | exact (show vp_in _ 6 from vp_in_nI (by omega) (by omega)) | exact (show vp_in _ 4 from vp_in_nI (by omega) (by omega))) ?_
      try simp only [hct]
      try simp only [hcj]
      refine aw_V2 (M' := mX3_faults) dX3_noteTanks_155 rfl lkX3_141 gX3_faults rfl rfl (Nat.le_of_ble_eq_true rfl) (sX3_faults (by omega) (hCoat _ (by omega)) hLat ?_)
      show AW _ mX3_noteTanks 158 _ (_ :: _) _ _
      refine aw_if_ne (tgt := 177) dX3_noteTanks_158 rfl rfl (fun c158 => ?_) (fun c158 => ?_)
      · skip
        refine aw_iinc dX3_noteTanks_177 rfl rfl (ii_1 _) (by decide) ?_
        show AW _ mX3_noteTanks 180 [_, _, _, _, _] _ _ _
        refine aw_goto (q := 111) dX3_noteTanks_180 rfl ?_
        try simp only [nt_11, nt_r11, nt_12, nt_r12, nt_13, nt_r13, nt_14, nt_r14, nt_15, nt_r15, nt_16, nt_r16, hct, hcx, hcj]
        refine AW.conv (nx_111 _ _ ?_ ?_) (by first | (simp only [nI_succ j]; done) | (simp only [nI_succ j]; rfl)) rfl rfl
        · refine ⟨?_, hs1.2⟩
          rw [hs1.1, setI, setI, lp_s, if_neg (show ¬ whyS (vw σ) t0 j = 0 from c158)]
        · refine ⟨lt_s (fun c hcc => (pk_un (by omega)).trans (hw1.1 c hcc)) pk_us, fun u c hu hcc => (pk_un (by omega)).trans (hw1.2 u c hu hcc)⟩
      · skip
        refine aw_aload_n dX3_noteTanks_161 rfl rfl ?_
        refine aw_getR dX3_noteTanks_162 rfl rfl rfl (by decide) flX3_28 ?_
        refine aw_getR dX3_noteTanks_165 rfl rfl rfl (by decide) flX3_266 ?_
        refine aw_iload_n dX3_noteTanks_168 rfl rfl ?_
        refine aw_dup2 dX3_noteTanks_169 rfl ?_
        refine aw_iald dX3_noteTanks_170 rfl rfl (by first | exact vp_in_nI (by omega) (by omega) | exact vp_in_iff.mpr (by decide)) ?_
        try simp only [hct]
        try simp only [hcj]
        refine aw_iconst 1 dX3_noteTanks_171 rfl (by decide) ?_
        refine aw_iload dX3_noteTanks_172 rfl rfl ?_
        refine aw_ishl dX3_noteTanks_174 rfl ?_
        refine aw_ior dX3_noteTanks_175 rfl ?_
        refine aw_iast dX3_noteTanks_176 rfl rfl (by first | exact vp_in_nI (by omega) (by omega) | exact vp_in_iff.mpr (by decide)) ?_
        try simp only [hct]
        try simp only [hcj]
        refine aw_iinc dX3_noteTanks_177 rfl rfl (ii_1 _) (by decide) ?_
        show AW _ mX3_noteTanks 180 [_, _, _, _, _] _ _ _
        refine aw_goto (q := 111) dX3_noteTanks_180 rfl ?_
        try simp only [nt_11, nt_r11, nt_12, nt_r12, nt_13, nt_r13, nt_14, nt_r14, nt_15, nt_r15, nt_16, nt_r16, hct, hcx, hcj]
        refine AW.conv (nx_111 _ _ ?_ ?_) (by first | (simp only [nI_succ j]; done) | (simp only [nI_succ j]; rfl)) rfl rfl
        · refine ⟨?_, fun u hu => (pk_un hu).trans (hs1.2 u hu)⟩
          rw [pk_us, hs1.1, setI, setI, lp_s, if_pos (show whyS (vw σ) t0 j = 0 from c158)]
        · refine ⟨lt_s (fun c hcc => (pk_un (by omega)).trans (hw1.1 c hcc)) pk_us, fun u c hu hcc => (pk_un (by omega)).trans (hw1.2 u c hu hcc)⟩
