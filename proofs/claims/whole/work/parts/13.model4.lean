theorem sX4_whyNotI {d : Nat} {σ : SS} {K : ax_K} {t c : Int32} (ht : vp_in t 6) (hc : vp_in c 4) (hK : K (some (whyS σ (ci t) (ci c))) σ) : AW (d + 1) mX4_whyNot 0 (ax_en mX4_whyNot [.inr (28, 0), .inl t, .inl c]) [] σ K := by
  obtain ⟨t, h1, rfl⟩ := vp_in_of ht (by decide)
  obtain ⟨c, h2, rfl⟩ := vp_in_of hc (by decide)
  simp only [ci, nI_clamp (show t < 2 ^ 31 by omega), nI_clamp (show c < 2 ^ 31 by omega)] at hK
  exact sX4_whyNot h1 h2 hK
theorem sX4_doClashI {d : Nat} {σ : SS} {K : ax_K} {t c : Int32} (ht : vp_in t 4) (hc : vp_in c 4) (hK : K (some (bB (clB σ (ci t) (ci c)))) σ) : AW (d + 1) mX4_doClash 0 (ax_en mX4_doClash [.inr (28, 0), .inl t, .inl c]) [] σ K := by
  obtain ⟨t, h1, rfl⟩ := vp_in_of ht (by decide)
  obtain ⟨c, h2, rfl⟩ := vp_in_of hc (by decide)
  simp only [ci, nI_clamp (show t < 2 ^ 31 by omega), nI_clamp (show c < 2 ^ 31 by omega)] at hK
  exact sX4_doClash h1 h2 hK
theorem sX4_washesForI {d : Nat} {σ : SS} {K : ax_K} {t c : Int32} (ht : vp_in t 6) (hc : vp_in c 4) (hl : lt9 (σ 33 0 (3 * ci t))) (hq : ∃ j, j < 8 ∧ σ 37 0 (ci c) = nI j) (hK : K (some (wfS σ (ci t) (ci c))) σ) : AW d mX4_washesFor 0 (ax_en mX4_washesFor [.inr (28, 0), .inl t, .inl c]) [] σ K := by
  obtain ⟨t, h1, rfl⟩ := vp_in_of ht (by decide)
  obtain ⟨c, h2, rfl⟩ := vp_in_of hc (by decide)
  simp only [ci, nI_clamp (show t < 2 ^ 31 by omega), nI_clamp (show c < 2 ^ 31 by omega)] at hK hl hq
  exact sX4_washesFor h1 h2 hl hq hK
set_option maxRecDepth 4000 in
theorem sX4_suited {d : Nat} {σ : SS} {K : ax_K} {c : Nat} {n : Nat} (hcc : c < 4) (hn : n ≤ 6) (h0 : σ 28 0 0 = nI n) (hK : K (some (setI n (fun t => whyS σ t c = 0))) σ) : AW (d + 2) mX4_suited 0 (ax_en mX4_suited [.inr (28, 0), .inl (nI c)]) [] σ K := by
  show AW _ mX4_suited 0 [_, _, _, _] _ _ _
  refine aw_iconst 0 dX4_suited_0 rfl (by decide) ?_
  refine aw_istore_n dX4_suited_1 rfl (by decide) ?_
  show AW _ mX4_suited 2 [_, _, _, _] _ _ _
  refine aw_iconst 0 dX4_suited_2 rfl (by decide) ?_
  refine aw_istore_n dX4_suited_3 rfl (by decide) ?_
  show AW _ mX4_suited 4 [_, _, _, _] _ _ _
  refine AW.conv (ax_loop (P := fun i => AW (d + 2) mX4_suited 4 [some (.inr (28, 0)), some (.inl (nI c)), some (.inl (setI i (fun t => whyS σ t c = 0))), some (.inl (nI i))] [] σ K) n ?_ ?_ 0 (Nat.zero_le _)) (by first | (simp only [nI_0]; done) | (simp only [nI_0]; rfl)) rfl rfl
  · try dsimp only
    refine aw_iload_n dX4_suited_4 rfl rfl ?_
    refine aw_aload_n dX4_suited_5 rfl rfl ?_
    refine aw_getI dX4_suited_6 rfl rfl rfl flX4_75 ?_
    refine aw_icmp_ge (tgt := 37) dX4_suited_9 rfl rfl (fun _ => ?_) (fun z => absurd (by rw [h0]; exact Int32.le_refl _) z)
    refine aw_iload_n dX4_suited_37 rfl rfl ?_
    refine aw_ret dX4_suited_38 rfl rfl ?_
    exact hK
  · intro i hi_4 nx_4
    try dsimp only at nx_4 ⊢
    refine aw_iload_n dX4_suited_4 rfl rfl ?_
    refine aw_aload_n dX4_suited_5 rfl rfl ?_
    refine aw_getI dX4_suited_6 rfl rfl rfl flX4_75 ?_
    refine aw_icmp_ge (tgt := 37) dX4_suited_9 rfl rfl (fun z => absurd z (by rw [h0]; exact nI_ge hi_4 (by omega))) (fun _ => ?_)
    refine aw_iload_n dX4_suited_12 rfl rfl ?_
    refine aw_aload_n dX4_suited_13 rfl rfl ?_
    refine aw_iload_n dX4_suited_14 rfl rfl ?_
    refine aw_iload_n dX4_suited_15 rfl rfl ?_
    refine aw_V2 (M' := mX4_whyNot) dX4_suited_16 rfl lkX4_108 gX4_whyNot rfl rfl (Nat.le_of_ble_eq_true rfl) (sX4_whyNot (by omega) hcc ?_)
    show AW _ mX4_suited 19 _ (_ :: _) _ _
    refine aw_if_ne (tgt := 28) dX4_suited_19 rfl rfl (fun c19 => ?_) (fun c19 => ?_)
    · skip
      refine aw_iconst 0 dX4_suited_28 rfl (by decide) ?_
      refine aw_ior dX4_suited_29 rfl ?_
      refine aw_istore_n dX4_suited_30 rfl (by decide) ?_
      show AW _ mX4_suited 31 [_, _, _, _] _ _ _
      refine aw_iinc dX4_suited_31 rfl rfl (ii_1 _) (by decide) ?_
      show AW _ mX4_suited 34 [_, _, _, _] _ _ _
      refine aw_goto (q := 4) dX4_suited_34 rfl ?_
      refine AW.conv nx_4 ?_ rfl rfl
      have c19b := c19
      first | change ¬ whyS σ i c = 0 at c19b | change whyS σ i c = 0 at c19b
      simp only [nI_succ, setI, lp_s]
      simp [c19b]
    · skip
      refine aw_iconst 1 dX4_suited_22 rfl (by decide) ?_
      refine aw_iload_n dX4_suited_23 rfl rfl ?_
      refine aw_ishl dX4_suited_24 rfl ?_
      refine aw_goto (q := 29) dX4_suited_25 rfl ?_
      refine aw_ior dX4_suited_29 rfl ?_
      refine aw_istore_n dX4_suited_30 rfl (by decide) ?_
      show AW _ mX4_suited 31 [_, _, _, _] _ _ _
      refine aw_iinc dX4_suited_31 rfl rfl (ii_1 _) (by decide) ?_
      show AW _ mX4_suited 34 [_, _, _, _] _ _ _
      refine aw_goto (q := 4) dX4_suited_34 rfl ?_
      refine AW.conv nx_4 ?_ rfl rfl
      have c19b := c19
      first | change ¬ whyS σ i c = 0 at c19b | change whyS σ i c = 0 at c19b
      simp only [nI_succ, setI, lp_s]
      simp [c19b]
set_option maxRecDepth 4000 in
theorem sX4_ofCargo {d : Nat} {σ : SS} {K : ax_K} {t w : Int32} {n cn : Nat} (hn : n ≤ 6) (h0 : σ 28 0 0 = nI n) (hc : cn ≤ 4) (h9 : σ 28 0 9 = nI cn) (k1 : ¬ ixn t cn → K (some (-1)) σ) (k2 : ixn t cn → (∀ j, j < 8 → w ≠ nI j) → K (some (-2)) σ) (k3 : ∀ a, a < cn → t = nI a → ∀ j, j < 8 → w = nI j → K (some (ofCargoM σ n cn a j)) σ) : AW (d + 3) mX4_ofCargo 0 (ax_en mX4_ofCargo [.inr (28, 0), .inl t, .inl w]) [] σ K := by
  show AW _ mX4_ofCargo 0 [_, _, _] _ _ _
  refine aw_aload_n dX4_ofCargo_0 rfl rfl ?_
  refine aw_iload_n dX4_ofCargo_1 rfl rfl ?_
  refine aw_V1 (M' := mX4_isCargo) dX4_ofCargo_2 rfl lkX4_102 gX4_isCargo rfl rfl (Nat.le_of_ble_eq_true rfl) (sX4_isCargo hc h9 ?_)
  show AW _ mX4_ofCargo 5 _ (_ :: _) _ _
  refine aw_if_neb (tgt := 10) dX4_ofCargo_5 rfl rfl (fun c5 => ?_) (fun c5 => ?_)
  · skip
    have hin := c5
    obtain ⟨a, ha, rfl⟩ := ixn_of c5 (by omega)
    have hca : (nI a).toNatClampNeg = a := nI_clamp (by omega)
    refine aw_iload_n dX4_ofCargo_10 rfl rfl ?_
    refine aw_tsw 8 dX4_ofCargo_11 rfl (by decide) (by decide) (fun j hj sx => ?_) (fun sx => ?_)
    · match j, hj with
      | 0, _ =>
        refine AW.conv (pc := 56) ?_ rfl rfl rfl
        refine aw_aload_n dX4_ofCargo_56 rfl rfl ?_
        refine aw_getR dX4_ofCargo_57 rfl rfl rfl (by decide) flX4_34 ?_
        refine aw_iload_n dX4_ofCargo_60 rfl rfl ?_
        refine aw_iald dX4_ofCargo_61 rfl rfl (by first | exact vp_in_nI (by omega) (by omega) | decide) ?_
        refine aw_ret dX4_ofCargo_62 rfl rfl ?_
        exact kk_c (k3 a ha rfl 0 (by decide) sx) (by simp only [ofCargoM, hca]) rfl
      | 1, _ =>
        refine AW.conv (pc := 63) ?_ rfl rfl rfl
        refine aw_aload_n dX4_ofCargo_63 rfl rfl ?_
        refine aw_getR dX4_ofCargo_64 rfl rfl rfl (by decide) flX4_37 ?_
        refine aw_iload_n dX4_ofCargo_67 rfl rfl ?_
        refine aw_iald dX4_ofCargo_68 rfl rfl (by first | exact vp_in_nI (by omega) (by omega) | decide) ?_
        refine aw_ret dX4_ofCargo_69 rfl rfl ?_
        exact kk_c (k3 a ha rfl 1 (by decide) sx) (by simp only [ofCargoM, hca]) rfl
      | 2, _ =>
        refine AW.conv (pc := 70) ?_ rfl rfl rfl
        refine aw_aload_n dX4_ofCargo_70 rfl rfl ?_
        refine aw_getR dX4_ofCargo_71 rfl rfl rfl (by decide) flX4_40 ?_
        refine aw_iload_n dX4_ofCargo_74 rfl rfl ?_
        refine aw_iald dX4_ofCargo_75 rfl rfl (by first | exact vp_in_nI (by omega) (by omega) | decide) ?_
        refine aw_ret dX4_ofCargo_76 rfl rfl ?_
        exact kk_c (k3 a ha rfl 2 (by decide) sx) (by simp only [ofCargoM, hca]) rfl
      | 3, _ =>
        refine AW.conv (pc := 77) ?_ rfl rfl rfl
        refine aw_aload_n dX4_ofCargo_77 rfl rfl ?_
        refine aw_getR dX4_ofCargo_78 rfl rfl rfl (by decide) flX4_43 ?_
        refine aw_iload_n dX4_ofCargo_81 rfl rfl ?_
        refine aw_iald dX4_ofCargo_82 rfl rfl (by first | exact vp_in_nI (by omega) (by omega) | decide) ?_
        refine aw_ret dX4_ofCargo_83 rfl rfl ?_
        exact kk_c (k3 a ha rfl 3 (by decide) sx) (by simp only [ofCargoM, hca]) rfl
      | 4, _ =>
        refine AW.conv (pc := 84) ?_ rfl rfl rfl
        refine aw_aload_n dX4_ofCargo_84 rfl rfl ?_
        refine aw_getR dX4_ofCargo_85 rfl rfl rfl (by decide) flX4_46 ?_
        refine aw_iload_n dX4_ofCargo_88 rfl rfl ?_
        refine aw_iald dX4_ofCargo_89 rfl rfl (by first | exact vp_in_nI (by omega) (by omega) | decide) ?_
        refine aw_ret dX4_ofCargo_90 rfl rfl ?_
        exact kk_c (k3 a ha rfl 4 (by decide) sx) (by simp only [ofCargoM, hca]) rfl
      | 5, _ =>
        refine AW.conv (pc := 91) ?_ rfl rfl rfl
        refine aw_aload_n dX4_ofCargo_91 rfl rfl ?_
        refine aw_getR dX4_ofCargo_92 rfl rfl rfl (by decide) flX4_49 ?_
        refine aw_iload_n dX4_ofCargo_95 rfl rfl ?_
        refine aw_iald dX4_ofCargo_96 rfl rfl (by first | exact vp_in_nI (by omega) (by omega) | decide) ?_
        refine aw_ret dX4_ofCargo_97 rfl rfl ?_
        exact kk_c (k3 a ha rfl 5 (by decide) sx) (by simp only [ofCargoM, hca]) rfl
      | 6, _ =>
        refine AW.conv (pc := 98) ?_ rfl rfl rfl
        refine aw_aload_n dX4_ofCargo_98 rfl rfl ?_
        refine aw_iload_n dX4_ofCargo_99 rfl rfl ?_
        refine aw_V1 (M' := mX4_suited) dX4_ofCargo_100 rfl lkX4_112 gX4_suited rfl rfl (Nat.le_of_ble_eq_true rfl) (sX4_suited (by omega) hn h0 ?_)
        show AW _ mX4_ofCargo 103 _ (_ :: _) _ _
        refine aw_ret dX4_ofCargo_103 rfl rfl ?_
        exact k3 a ha rfl 6 (by decide) sx
      | 7, _ =>
        refine AW.conv (pc := 104) ?_ rfl rfl rfl
        refine aw_aload_n dX4_ofCargo_104 rfl rfl ?_
        refine aw_iload_n dX4_ofCargo_105 rfl rfl ?_
        refine aw_V1 (M' := mX4_clashes) dX4_ofCargo_106 rfl lkX4_115 gX4_clashes rfl rfl (Nat.le_of_ble_eq_true rfl) (sX4_clashes (by omega) hc h9 ?_)
        show AW _ mX4_ofCargo 109 _ (_ :: _) _ _
        refine aw_ret dX4_ofCargo_109 rfl rfl ?_
        exact k3 a ha rfl 7 (by decide) sx
      | j + 8, hj => exact absurd hj (by omega)
    · refine AW.conv (pc := 110) ?_ rfl rfl rfl
      refine aw_bipush (-2) dX4_ofCargo_110 rfl (by decide) ?_
      refine aw_ret dX4_ofCargo_112 rfl rfl ?_
      exact k2 hin sx
  · skip
    refine aw_iconst (-1) dX4_ofCargo_8 rfl (by decide) ?_
    refine aw_ret dX4_ofCargo_9 rfl rfl ?_
    exact k1 c5
set_option maxRecDepth 4000 in
theorem sX4_needs {d : Nat} {σ : SS} {K : ax_K} {t c : Int32} {n cn : Nat} (hn : n ≤ 6) (h0 : σ 28 0 0 = nI n) (hc : cn ≤ 4) (h9 : σ 28 0 9 = nI cn) (hLat : ∀ x, x < 18 → lt9 (σ 33 0 x)) (hLiq : ∀ c, c < 4 → ∃ j, j < 8 ∧ σ 37 0 c = nI j) (k1 : ¬ (ixn t n ∧ ixn c cn) → K (some (-1)) σ) (k2 : ∀ a b, a < n → b < cn → t = nI a → c = nI b → K (some (wfS σ a b)) σ) : AW (d + 2) mX4_needs 0 (ax_en mX4_needs [.inr (28, 0), .inl t, .inl c]) [] σ K := by
  show AW _ mX4_needs 0 [_, _, _] _ _ _
  refine aw_aload_n dX4_needs_0 rfl rfl ?_
  refine aw_iload_n dX4_needs_1 rfl rfl ?_
  refine aw_V1 (M' := mX4_isTank) dX4_needs_2 rfl lkX4_78 gX4_isTank rfl rfl (Nat.le_of_ble_eq_true rfl) (sX4_isTank hn h0 ?_)
  show AW _ mX4_needs 5 _ (_ :: _) _ _
  refine aw_if_eqb (tgt := 25) dX4_needs_5 rfl rfl (fun c5 => ?_) (fun c5 => ?_)
  · skip
    refine aw_iconst (-1) dX4_needs_25 rfl (by decide) ?_
    refine aw_ret dX4_needs_26 rfl rfl ?_
    first | exact k2 a b ha hb rfl rfl | exact k1 (fun z => by first | exact c5 z.1 | exact c13 z.2)
  · skip
    refine aw_aload_n dX4_needs_8 rfl rfl ?_
    refine aw_iload_n dX4_needs_9 rfl rfl ?_
    refine aw_V1 (M' := mX4_isCargo) dX4_needs_10 rfl lkX4_102 gX4_isCargo rfl rfl (Nat.le_of_ble_eq_true rfl) (sX4_isCargo hc h9 ?_)
    show AW _ mX4_needs 13 _ (_ :: _) _ _
    refine aw_if_eqb (tgt := 25) dX4_needs_13 rfl rfl (fun c13 => ?_) (fun c13 => ?_)
    · skip
      refine aw_iconst (-1) dX4_needs_25 rfl (by decide) ?_
      refine aw_ret dX4_needs_26 rfl rfl ?_
      first | exact k2 a b ha hb rfl rfl | exact k1 (fun z => by first | exact c5 z.1 | exact c13 z.2)
    · skip
      obtain ⟨a, ha, rfl⟩ := ixn_of c5 (by omega)
      obtain ⟨b, hb, rfl⟩ := ixn_of c13 (by omega)
      refine aw_aload_n dX4_needs_16 rfl rfl ?_
      refine aw_iload_n dX4_needs_17 rfl rfl ?_
      refine aw_iload_n dX4_needs_18 rfl rfl ?_
      refine aw_V2 (M' := mX4_washesFor) dX4_needs_19 rfl lkX4_118 gX4_washesFor rfl rfl (Nat.le_of_ble_eq_true rfl) (sX4_washesFor (by omega) (by omega) (hLat _ (by omega)) (hLiq _ (by omega)) ?_)
      show AW _ mX4_needs 22 _ (_ :: _) _ _
      refine aw_goto (q := 26) dX4_needs_22 rfl ?_
      refine aw_ret dX4_needs_26 rfl rfl ?_
      first | exact k2 a b ha hb rfl rfl | exact k1 (fun z => by first | exact c5 z.1 | exact c13 z.2)
set_option maxRecDepth 4000 in
theorem sX4_why {d : Nat} {σ : SS} {K : ax_K} {t c : Int32} {n cn : Nat} (hn : n ≤ 6) (h0 : σ 28 0 0 = nI n) (hc : cn ≤ 4) (h9 : σ 28 0 9 = nI cn) (k1 : ¬ (ixn t n ∧ ixn c cn) → K (some (-1)) σ) (k2 : ∀ a b, a < n → b < cn → t = nI a → c = nI b → K (some (whyS σ a b)) σ) : AW (d + 2) mX4_why 0 (ax_en mX4_why [.inr (28, 0), .inl t, .inl c]) [] σ K := by
  show AW _ mX4_why 0 [_, _, _] _ _ _
  refine aw_aload_n dX4_why_0 rfl rfl ?_
  refine aw_iload_n dX4_why_1 rfl rfl ?_
  refine aw_V1 (M' := mX4_isTank) dX4_why_2 rfl lkX4_78 gX4_isTank rfl rfl (Nat.le_of_ble_eq_true rfl) (sX4_isTank hn h0 ?_)
  show AW _ mX4_why 5 _ (_ :: _) _ _
  refine aw_if_eqb (tgt := 25) dX4_why_5 rfl rfl (fun c5 => ?_) (fun c5 => ?_)
  · skip
    refine aw_iconst (-1) dX4_why_25 rfl (by decide) ?_
    refine aw_ret dX4_why_26 rfl rfl ?_
    first | exact k2 a b ha hb rfl rfl | exact k1 (fun z => by first | exact c5 z.1 | exact c13 z.2)
  · skip
    refine aw_aload_n dX4_why_8 rfl rfl ?_
    refine aw_iload_n dX4_why_9 rfl rfl ?_
    refine aw_V1 (M' := mX4_isCargo) dX4_why_10 rfl lkX4_102 gX4_isCargo rfl rfl (Nat.le_of_ble_eq_true rfl) (sX4_isCargo hc h9 ?_)
    show AW _ mX4_why 13 _ (_ :: _) _ _
    refine aw_if_eqb (tgt := 25) dX4_why_13 rfl rfl (fun c13 => ?_) (fun c13 => ?_)
    · skip
      refine aw_iconst (-1) dX4_why_25 rfl (by decide) ?_
      refine aw_ret dX4_why_26 rfl rfl ?_
      first | exact k2 a b ha hb rfl rfl | exact k1 (fun z => by first | exact c5 z.1 | exact c13 z.2)
    · skip
      obtain ⟨a, ha, rfl⟩ := ixn_of c5 (by omega)
      obtain ⟨b, hb, rfl⟩ := ixn_of c13 (by omega)
      refine aw_aload_n dX4_why_16 rfl rfl ?_
      refine aw_iload_n dX4_why_17 rfl rfl ?_
      refine aw_iload_n dX4_why_18 rfl rfl ?_
      refine aw_V2 (M' := mX4_whyNot) dX4_why_19 rfl lkX4_108 gX4_whyNot rfl rfl (Nat.le_of_ble_eq_true rfl) (sX4_whyNot (by omega) (by omega) ?_)
      show AW _ mX4_why 22 _ (_ :: _) _ _
      refine aw_goto (q := 26) dX4_why_22 rfl ?_
      refine aw_ret dX4_why_26 rfl rfl ?_
      first | exact k2 a b ha hb rfl rfl | exact k1 (fun z => by first | exact c5 z.1 | exact c13 z.2)
set_option maxRecDepth 4000 in
theorem sX4_isSetOfCargoes {d : Nat} {σ : SS} {K : ax_K} {v : Int32} {cn : Nat} (hc : cn ≤ 4) (h9 : σ 28 0 9 = nI cn) (hK : K (some (bI (ixn v (2 ^ cn)))) σ) : AW (d + 1) mX4_isSetOfCargoes 0 (ax_en mX4_isSetOfCargoes [.inr (28, 0), .inl v]) [] σ K := by
  show AW _ mX4_isSetOfCargoes 0 [_, _] _ _ _
  refine aw_iload_n dX4_isSetOfCargoes_0 rfl rfl ?_
  refine aw_iconst 0 dX4_isSetOfCargoes_1 rfl (by decide) ?_
  refine aw_iconst 1 dX4_isSetOfCargoes_2 rfl (by decide) ?_
  refine aw_aload_n dX4_isSetOfCargoes_3 rfl rfl ?_
  refine aw_getI dX4_isSetOfCargoes_4 rfl rfl rfl flX4_92 ?_
  refine aw_ishl dX4_isSetOfCargoes_7 rfl ?_
  refine aw_iconst 1 dX4_isSetOfCargoes_8 rfl (by decide) ?_
  refine aw_isub dX4_isSetOfCargoes_9 rfl ?_
  refine aw_S3 (M' := mX4_within) dX4_isSetOfCargoes_10 rfl lkX4_71 gX4_within (Nat.le_of_ble_eq_true rfl) (sX4_within ?_)
  show AW _ mX4_isSetOfCargoes 13 _ (_ :: _) _ _
  refine aw_ret dX4_isSetOfCargoes_13 rfl (by unfold bI; split <;> decide) ?_
  rw [h9, shl1 (by omega)]
  exact kk_c hK (by rw [bI_c (ixn_le (two_lt hc))]) rfl
set_option maxRecDepth 4000 in
theorem sX4_plan {d : Nat} {σ : SS} {K : ax_K} {t c : Int32} {n cn : Nat} (hn : n ≤ 6) (h0 : σ 28 0 0 = nI n) (hc : cn ≤ 4) (h9 : σ 28 0 9 = nI cn) (k1 : ¬ (ixn t n ∧ (c = -9 ∨ ixn c cn)) → K (some (-1)) σ) (k2 : ∀ a, a < n → t = nI a → (c = -9 ∨ ixn c cn) → K (some (σ 34 0 a)) (rp σ 34 0 (upd (σ 34 0) a c))) : AW (d + 2) mX4_plan 0 (ax_en mX4_plan [.inr (28, 0), .inl t, .inl c]) [] σ K := by
  show AW _ mX4_plan 0 [_, _, _, _] _ _ _
  refine aw_aload_n dX4_plan_0 rfl rfl ?_
  refine aw_iload_n dX4_plan_1 rfl rfl ?_
  refine aw_V1 (M' := mX4_isTank) dX4_plan_2 rfl lkX4_78 gX4_isTank rfl rfl (Nat.le_of_ble_eq_true rfl) (sX4_isTank hn h0 ?_)
  show AW _ mX4_plan 5 _ (_ :: _) _ _
  refine aw_if_eqb (tgt := 22) dX4_plan_5 rfl rfl (fun c5 => ?_) (fun c5 => ?_)
  · skip
    refine aw_iconst (-1) dX4_plan_22 rfl (by decide) ?_
    refine aw_ret dX4_plan_23 rfl rfl ?_
    exact k1 (fun z => by first | exact c5 z.1 | exact z.2.elim c11 c19)
  · skip
    refine aw_iload_n dX4_plan_8 rfl rfl ?_
    refine aw_bipush (-9) dX4_plan_9 rfl (by decide) ?_
    refine aw_icmp_eq (tgt := 24) dX4_plan_11 rfl rfl (fun c11 => ?_) (fun c11 => ?_)
    · skip
      obtain ⟨a, ha, rfl⟩ := ixn_of c5 (by omega)
      have hca : (nI a).toNatClampNeg = a := nI_clamp (by omega)
      refine aw_aload_n dX4_plan_24 rfl rfl ?_
      refine aw_getR dX4_plan_25 rfl rfl rfl (by decide) flX4_25 ?_
      refine aw_iload_n dX4_plan_28 rfl rfl ?_
      refine aw_iald dX4_plan_29 rfl rfl (by first | exact vp_in_nI (by omega) (by omega) | decide) ?_
      refine aw_istore_n dX4_plan_30 rfl (by decide) ?_
      show AW _ mX4_plan 31 [_, _, _, _] _ _ _
      refine aw_aload_n dX4_plan_31 rfl rfl ?_
      refine aw_getR dX4_plan_32 rfl rfl rfl (by decide) flX4_25 ?_
      refine aw_iload_n dX4_plan_35 rfl rfl ?_
      refine aw_iload_n dX4_plan_36 rfl rfl ?_
      refine aw_iast dX4_plan_37 rfl rfl (by first | exact vp_in_nI (by omega) (by omega) | decide) ?_
      refine aw_iload_n dX4_plan_38 rfl rfl ?_
      refine aw_ret dX4_plan_39 rfl rfl ?_
      exact kk_c (k2 a ha rfl (by first | exact Or.inl (by assumption) | exact Or.inr (by assumption))) (by rw [hca]) (by rw [hca])
    · skip
      refine aw_aload_n dX4_plan_14 rfl rfl ?_
      refine aw_iload_n dX4_plan_15 rfl rfl ?_
      refine aw_V1 (M' := mX4_isCargo) dX4_plan_16 rfl lkX4_102 gX4_isCargo rfl rfl (Nat.le_of_ble_eq_true rfl) (sX4_isCargo hc h9 ?_)
      show AW _ mX4_plan 19 _ (_ :: _) _ _
      refine aw_if_neb (tgt := 24) dX4_plan_19 rfl rfl (fun c19 => ?_) (fun c19 => ?_)
      · skip
        obtain ⟨a, ha, rfl⟩ := ixn_of c5 (by omega)
        have hca : (nI a).toNatClampNeg = a := nI_clamp (by omega)
        refine aw_aload_n dX4_plan_24 rfl rfl ?_
        refine aw_getR dX4_plan_25 rfl rfl rfl (by decide) flX4_25 ?_
        refine aw_iload_n dX4_plan_28 rfl rfl ?_
        refine aw_iald dX4_plan_29 rfl rfl (by first | exact vp_in_nI (by omega) (by omega) | decide) ?_
        refine aw_istore_n dX4_plan_30 rfl (by decide) ?_
        show AW _ mX4_plan 31 [_, _, _, _] _ _ _
        refine aw_aload_n dX4_plan_31 rfl rfl ?_
        refine aw_getR dX4_plan_32 rfl rfl rfl (by decide) flX4_25 ?_
        refine aw_iload_n dX4_plan_35 rfl rfl ?_
        refine aw_iload_n dX4_plan_36 rfl rfl ?_
        refine aw_iast dX4_plan_37 rfl rfl (by first | exact vp_in_nI (by omega) (by omega) | decide) ?_
        refine aw_iload_n dX4_plan_38 rfl rfl ?_
        refine aw_ret dX4_plan_39 rfl rfl ?_
        exact kk_c (k2 a ha rfl (by first | exact Or.inl (by assumption) | exact Or.inr (by assumption))) (by rw [hca]) (by rw [hca])
      · skip
        refine aw_iconst (-1) dX4_plan_22 rfl (by decide) ?_
        refine aw_ret dX4_plan_23 rfl rfl ?_
        exact k1 (fun z => by first | exact c5 z.1 | exact z.2.elim c11 c19)
set_option maxRecDepth 4000 in
theorem sX4_triesPlan {d : Nat} {σ : SS} {K : ax_K} {n : Nat} (hn : n ≤ 6) (h0 : σ 28 0 0 = nI n) (hK : K none (rp σ 44 0 (fun t => if t < n then σ 34 0 t else σ 44 0 t))) : AW d mX4_triesPlan 0 (ax_en mX4_triesPlan [.inr (28, 0)]) [] σ K := by
  show AW _ mX4_triesPlan 0 [_, _] _ _ _
  refine aw_iconst 0 dX4_triesPlan_0 rfl (by decide) ?_
  refine aw_istore_n dX4_triesPlan_1 rfl (by decide) ?_
  show AW _ mX4_triesPlan 2 [_, _] _ _ _
  refine AW.conv (ax_loop (P := fun i => AW d mX4_triesPlan 2 [some (.inr (28, 0)), some (.inl (nI i))] [] (rp σ 44 0 (fun t => if t < i then σ 34 0 t else σ 44 0 t)) K) n ?_ ?_ 0 (Nat.zero_le _)) (by first | (simp only [nI_0]; done) | (simp only [nI_0]; rfl)) rfl (by rw [up_0, rp_self])
  · try dsimp only
    refine aw_iload_n dX4_triesPlan_2 rfl rfl ?_
    refine aw_aload_n dX4_triesPlan_3 rfl rfl ?_
    refine aw_getI dX4_triesPlan_4 rfl rfl rfl flX4_75 ?_
    refine aw_icmp_ge (tgt := 28) dX4_triesPlan_7 rfl rfl (fun _ => ?_) (fun z => absurd (by rw [rp_nk (by decide), h0]; exact Int32.le_refl _) z)
    refine aw_vret dX4_triesPlan_28 rfl ?_
    exact hK
  · intro i hi_2 nx_2
    try dsimp only at nx_2 ⊢
    have hci : (nI i).toNatClampNeg = i := nI_clamp (by omega)
    refine aw_iload_n dX4_triesPlan_2 rfl rfl ?_
    refine aw_aload_n dX4_triesPlan_3 rfl rfl ?_
    refine aw_getI dX4_triesPlan_4 rfl rfl rfl flX4_75 ?_
    refine aw_icmp_ge (tgt := 28) dX4_triesPlan_7 rfl rfl (fun z => absurd z (by rw [rp_nk (by decide), h0]; exact nI_ge hi_2 (by omega))) (fun _ => ?_)
    refine aw_aload_n dX4_triesPlan_10 rfl rfl ?_
    refine aw_getR dX4_triesPlan_11 rfl rfl rfl (by decide) flX4_59 ?_
    refine aw_iload_n dX4_triesPlan_14 rfl rfl ?_
    refine aw_aload_n dX4_triesPlan_15 rfl rfl ?_
    refine aw_getR dX4_triesPlan_16 rfl rfl rfl (by decide) flX4_25 ?_
    refine aw_iload_n dX4_triesPlan_19 rfl rfl ?_
    refine aw_iald dX4_triesPlan_20 rfl rfl (by first | exact vp_in_nI (by omega) (by omega) | decide) ?_
    refine aw_iast dX4_triesPlan_21 rfl rfl (by first | exact vp_in_nI (by omega) (by omega) | decide) ?_
    refine aw_iinc dX4_triesPlan_22 rfl rfl (ii_1 _) (by decide) ?_
    show AW _ mX4_triesPlan 25 [_, _] _ _ _
    refine aw_goto (q := 2) dX4_triesPlan_25 rfl ?_
    refine AW.conv nx_2 (by first | (simp only [nI_succ]; done) | (simp only [nI_succ]; rfl)) rfl ?_
    simp only [rp_nk, rp_at, rp_rp, pk_us, ne_eq, Nat.reduceEqDiff, not_false_eq_true, hci, Nat.lt_irrefl, if_false]
    rw [up_lt]
set_option maxRecDepth 4000 in
theorem sX4_listOf {d : Nat} {σ : SS} {K : ax_K} {n : Nat} (hn : n ≤ 6) (h0 : σ 28 0 0 = nI n) (hK : K (some (sumI n (fun t => σ 45 0 t * σ 31 0 t))) σ) : AW d mX4_listOf 0 (ax_en mX4_listOf [.inr (28, 0)]) [] σ K := by
  show AW _ mX4_listOf 0 [_, _, _] _ _ _
  refine aw_iconst 0 dX4_listOf_0 rfl (by decide) ?_
  refine aw_istore_n dX4_listOf_1 rfl (by decide) ?_
  show AW _ mX4_listOf 2 [_, _, _] _ _ _
  refine aw_iconst 0 dX4_listOf_2 rfl (by decide) ?_
  refine aw_istore_n dX4_listOf_3 rfl (by decide) ?_
  show AW _ mX4_listOf 4 [_, _, _] _ _ _
  refine AW.conv (ax_loop (P := fun i => AW d mX4_listOf 4 [some (.inr (28, 0)), some (.inl (sumI i (fun t => σ 45 0 t * σ 31 0 t))), some (.inl (nI i))] [] σ K) n ?_ ?_ 0 (Nat.zero_le _)) (by first | (simp only [nI_0]; done) | (simp only [nI_0]; rfl)) rfl rfl
  · try dsimp only
    refine aw_iload_n dX4_listOf_4 rfl rfl ?_
    refine aw_aload_n dX4_listOf_5 rfl rfl ?_
    refine aw_getI dX4_listOf_6 rfl rfl rfl flX4_75 ?_
    refine aw_icmp_ge (tgt := 34) dX4_listOf_9 rfl rfl (fun _ => ?_) (fun z => absurd (by rw [h0]; exact Int32.le_refl _) z)
    refine aw_iload_n dX4_listOf_34 rfl rfl ?_
    refine aw_ret dX4_listOf_35 rfl rfl ?_
    exact hK
  · intro i hi_4 nx_4
    try dsimp only at nx_4 ⊢
    have hci : (nI i).toNatClampNeg = i := nI_clamp (by omega)
    refine aw_iload_n dX4_listOf_4 rfl rfl ?_
    refine aw_aload_n dX4_listOf_5 rfl rfl ?_
    refine aw_getI dX4_listOf_6 rfl rfl rfl flX4_75 ?_
    refine aw_icmp_ge (tgt := 34) dX4_listOf_9 rfl rfl (fun z => absurd z (by rw [h0]; exact nI_ge hi_4 (by omega))) (fun _ => ?_)
    refine aw_iload_n dX4_listOf_12 rfl rfl ?_
    refine aw_aload_n dX4_listOf_13 rfl rfl ?_
    refine aw_getR dX4_listOf_14 rfl rfl rfl (by decide) flX4_62 ?_
    refine aw_iload_n dX4_listOf_17 rfl rfl ?_
    refine aw_iald dX4_listOf_18 rfl rfl (by first | exact vp_in_nI (by omega) (by omega) | decide) ?_
    refine aw_aload_n dX4_listOf_19 rfl rfl ?_
    refine aw_getR dX4_listOf_20 rfl rfl rfl (by decide) flX4_16 ?_
    refine aw_iload_n dX4_listOf_23 rfl rfl ?_
    refine aw_iald dX4_listOf_24 rfl rfl (by first | exact vp_in_nI (by omega) (by omega) | decide) ?_
    refine aw_imul dX4_listOf_25 rfl ?_
    refine aw_iadd dX4_listOf_26 rfl ?_
    refine aw_istore_n dX4_listOf_27 rfl (by decide) ?_
    show AW _ mX4_listOf 28 [_, _, _] _ _ _
    refine aw_iinc dX4_listOf_28 rfl rfl (ii_1 _) (by decide) ?_
    show AW _ mX4_listOf 31 [_, _, _] _ _ _
    refine aw_goto (q := 4) dX4_listOf_31 rfl ?_
    refine AW.conv nx_4 ?_ rfl rfl
    simp only [nI_succ, sumI, lp_s, hci]
set_option maxRecDepth 4000 in
theorem sX4_heldList {d : Nat} {σ : SS} {K : ax_K} {n : Nat} (hn : n ≤ 6) (h0 : σ 28 0 0 = nI n) (hK : K (some (sumI n (fun t => σ 36 0 t * σ 31 0 t))) σ) : AW d mX4_heldList 0 (ax_en mX4_heldList [.inr (28, 0)]) [] σ K := by
  show AW _ mX4_heldList 0 [_, _, _] _ _ _
  refine aw_iconst 0 dX4_heldList_0 rfl (by decide) ?_
  refine aw_istore_n dX4_heldList_1 rfl (by decide) ?_
  show AW _ mX4_heldList 2 [_, _, _] _ _ _
  refine aw_iconst 0 dX4_heldList_2 rfl (by decide) ?_
  refine aw_istore_n dX4_heldList_3 rfl (by decide) ?_
  show AW _ mX4_heldList 4 [_, _, _] _ _ _
  refine AW.conv (ax_loop (P := fun i => AW d mX4_heldList 4 [some (.inr (28, 0)), some (.inl (sumI i (fun t => σ 36 0 t * σ 31 0 t))), some (.inl (nI i))] [] σ K) n ?_ ?_ 0 (Nat.zero_le _)) (by first | (simp only [nI_0]; done) | (simp only [nI_0]; rfl)) rfl rfl
  · try dsimp only
    refine aw_iload_n dX4_heldList_4 rfl rfl ?_
    refine aw_aload_n dX4_heldList_5 rfl rfl ?_
    refine aw_getI dX4_heldList_6 rfl rfl rfl flX4_75 ?_
    refine aw_icmp_ge (tgt := 34) dX4_heldList_9 rfl rfl (fun _ => ?_) (fun z => absurd (by rw [h0]; exact Int32.le_refl _) z)
    refine aw_iload_n dX4_heldList_34 rfl rfl ?_
    refine aw_ret dX4_heldList_35 rfl rfl ?_
    exact hK
  · intro i hi_4 nx_4
    try dsimp only at nx_4 ⊢
    have hci : (nI i).toNatClampNeg = i := nI_clamp (by omega)
    refine aw_iload_n dX4_heldList_4 rfl rfl ?_
    refine aw_aload_n dX4_heldList_5 rfl rfl ?_
    refine aw_getI dX4_heldList_6 rfl rfl rfl flX4_75 ?_
    refine aw_icmp_ge (tgt := 34) dX4_heldList_9 rfl rfl (fun z => absurd z (by rw [h0]; exact nI_ge hi_4 (by omega))) (fun _ => ?_)
    refine aw_iload_n dX4_heldList_12 rfl rfl ?_
    refine aw_aload_n dX4_heldList_13 rfl rfl ?_
    refine aw_getR dX4_heldList_14 rfl rfl rfl (by decide) flX4_31 ?_
    refine aw_iload_n dX4_heldList_17 rfl rfl ?_
    refine aw_iald dX4_heldList_18 rfl rfl (by first | exact vp_in_nI (by omega) (by omega) | decide) ?_
    refine aw_aload_n dX4_heldList_19 rfl rfl ?_
    refine aw_getR dX4_heldList_20 rfl rfl rfl (by decide) flX4_16 ?_
    refine aw_iload_n dX4_heldList_23 rfl rfl ?_
    refine aw_iald dX4_heldList_24 rfl rfl (by first | exact vp_in_nI (by omega) (by omega) | decide) ?_
    refine aw_imul dX4_heldList_25 rfl ?_
    refine aw_iadd dX4_heldList_26 rfl ?_
    refine aw_istore_n dX4_heldList_27 rfl (by decide) ?_
    show AW _ mX4_heldList 28 [_, _, _] _ _ _
    refine aw_iinc dX4_heldList_28 rfl rfl (ii_1 _) (by decide) ?_
    show AW _ mX4_heldList 31 [_, _, _] _ _ _
    refine aw_goto (q := 4) dX4_heldList_31 rfl ?_
    refine AW.conv nx_4 ?_ rfl rfl
    simp only [nI_succ, sumI, lp_s, hci]
