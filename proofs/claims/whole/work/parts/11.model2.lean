set_option maxRecDepth 4000 in
theorem sX4_tank {d : Nat} {σ : SS} {K : ax_K} {v c l : Int32} {n : Nat} (hn : n ≤ 6) (h0 : σ 28 0 0 = nI n) (k1 : ¬ tkOK v c l → K (some (-2)) σ) (k2 : tkOK v c l → n = 6 → K (some (-4)) σ) (k3 : tkOK v c l → n < 6 → K (some (nI n)) (rp (rp (rp (rp σ 29 0 (upd (σ 29 0) n v)) 30 0 (upd (σ 30 0) n c)) 31 0 (upd (σ 31 0) n l)) 28 0 (upd (σ 28 0) 0 (nI (n + 1))))) : AW (d + 1) mX4_tank 0 (ax_en mX4_tank [.inr (28, 0), .inl v, .inl c, .inl l]) [] σ K := by
  show AW _ mX4_tank 0 [_, _, _, _] _ _ _
  refine aw_iload_n dX4_tank_0 rfl rfl ?_
  refine aw_iconst 1 dX4_tank_1 rfl (by decide) ?_
  refine aw_bipush 99 dX4_tank_2 rfl (by decide) ?_
  refine aw_S3 (M' := mX4_within) dX4_tank_4 rfl lkX4_71 gX4_within (Nat.le_of_ble_eq_true rfl) (sX4_within ?_)
  show AW _ mX4_tank 7 _ (_ :: _) _ _
  refine aw_if_eqb (tgt := 30) dX4_tank_7 rfl rfl (fun c7 => ?_) (fun c7 => ?_)
  · skip
    refine aw_bipush (-2) dX4_tank_30 rfl (by decide) ?_
    refine aw_ret dX4_tank_32 rfl rfl ?_
    exact k1 (fun z => by simp_all)
  · skip
    refine aw_iload_n dX4_tank_10 rfl rfl ?_
    refine aw_iconst 0 dX4_tank_11 rfl (by decide) ?_
    refine aw_iconst 3 dX4_tank_12 rfl (by decide) ?_
    refine aw_S3 (M' := mX4_within) dX4_tank_13 rfl lkX4_71 gX4_within (Nat.le_of_ble_eq_true rfl) (sX4_within ?_)
    show AW _ mX4_tank 16 _ (_ :: _) _ _
    refine aw_if_eqb (tgt := 30) dX4_tank_16 rfl rfl (fun c16 => ?_) (fun c16 => ?_)
    · skip
      refine aw_bipush (-2) dX4_tank_30 rfl (by decide) ?_
      refine aw_ret dX4_tank_32 rfl rfl ?_
      exact k1 (fun z => by simp_all)
    · skip
      refine aw_iload_n dX4_tank_19 rfl rfl ?_
      refine aw_bipush (-9) dX4_tank_20 rfl (by decide) ?_
      refine aw_bipush 9 dX4_tank_22 rfl (by decide) ?_
      refine aw_S3 (M' := mX4_within) dX4_tank_24 rfl lkX4_71 gX4_within (Nat.le_of_ble_eq_true rfl) (sX4_within ?_)
      show AW _ mX4_tank 27 _ (_ :: _) _ _
      refine aw_if_neb (tgt := 33) dX4_tank_27 rfl rfl (fun c27 => ?_) (fun c27 => ?_)
      · skip
        refine aw_aload_n dX4_tank_33 rfl rfl ?_
        refine aw_getI dX4_tank_34 rfl rfl rfl flX4_75 ?_
        refine aw_bipush 6 dX4_tank_37 rfl (by decide) ?_
        refine aw_icmp_ne (tgt := 45) dX4_tank_39 rfl rfl (fun c39 => ?_) (fun c39 => ?_)
        · skip
          have hn6 : n < 6 := by
            rcases Nat.lt_or_ge n 6 with h | h
            · exact h
            · exact absurd (by rw [h0, show n = 6 by omega]; decide) c39
          have hcl : (nI n).toNatClampNeg = n := nI_clamp (by omega)
          refine aw_aload_n dX4_tank_45 rfl rfl ?_
          refine aw_getR dX4_tank_46 rfl rfl rfl (by decide) flX4_7 ?_
          refine aw_aload_n dX4_tank_49 rfl rfl ?_
          refine aw_getI dX4_tank_50 rfl rfl rfl flX4_75 ?_
          refine aw_iload_n dX4_tank_53 rfl rfl ?_
          refine aw_iast dX4_tank_54 rfl rfl (by simp only [rp_nk, ne_eq, Nat.reduceEqDiff, not_false_eq_true, h0]; exact vp_in_nI (by omega) (by omega)) ?_
          refine aw_aload_n dX4_tank_55 rfl rfl ?_
          refine aw_getR dX4_tank_56 rfl rfl rfl (by decide) flX4_13 ?_
          refine aw_aload_n dX4_tank_59 rfl rfl ?_
          refine aw_getI dX4_tank_60 rfl rfl rfl flX4_75 ?_
          refine aw_iload_n dX4_tank_63 rfl rfl ?_
          refine aw_iast dX4_tank_64 rfl rfl (by simp only [rp_nk, ne_eq, Nat.reduceEqDiff, not_false_eq_true, h0]; exact vp_in_nI (by omega) (by omega)) ?_
          refine aw_aload_n dX4_tank_65 rfl rfl ?_
          refine aw_getR dX4_tank_66 rfl rfl rfl (by decide) flX4_16 ?_
          refine aw_aload_n dX4_tank_69 rfl rfl ?_
          refine aw_getI dX4_tank_70 rfl rfl rfl flX4_75 ?_
          refine aw_iload_n dX4_tank_73 rfl rfl ?_
          refine aw_iast dX4_tank_74 rfl rfl (by simp only [rp_nk, ne_eq, Nat.reduceEqDiff, not_false_eq_true, h0]; exact vp_in_nI (by omega) (by omega)) ?_
          refine aw_aload_n dX4_tank_75 rfl rfl ?_
          refine aw_dup dX4_tank_76 rfl ?_
          refine aw_getI dX4_tank_77 rfl rfl rfl flX4_75 ?_
          refine aw_iconst 1 dX4_tank_80 rfl (by decide) ?_
          refine aw_iadd dX4_tank_81 rfl ?_
          refine aw_putI dX4_tank_82 rfl rfl rfl flX4_75 (pf_4_0 _) ?_
          refine aw_aload_n dX4_tank_85 rfl rfl ?_
          refine aw_getI dX4_tank_86 rfl rfl rfl flX4_75 ?_
          refine aw_iconst 1 dX4_tank_89 rfl (by decide) ?_
          refine aw_isub dX4_tank_90 rfl ?_
          refine aw_ret dX4_tank_91 rfl rfl ?_
          refine kk_c (k3 ⟨by assumption, by assumption, by assumption⟩ hn6) ?_ ?_
          · simp only [rp_nk, rp_at, rp_rp, pk_us, ne_eq, Nat.reduceEqDiff, not_false_eq_true, h0, hcl]
            rw [← nI_succ, nI_pred]
          · simp only [rp_nk, rp_at, rp_rp, pk_us, ne_eq, Nat.reduceEqDiff, not_false_eq_true, h0, hcl, nI_succ]
        · skip
          refine aw_bipush (-4) dX4_tank_42 rfl (by decide) ?_
          refine aw_ret dX4_tank_44 rfl rfl ?_
          exact k2 ⟨by assumption, by assumption, by assumption⟩ ((nI_eq (by omega) (by decide)).mp (h0.symm.trans c39))
      · skip
        refine aw_bipush (-2) dX4_tank_30 rfl (by decide) ?_
        refine aw_ret dX4_tank_32 rfl rfl ?_
        exact k1 (fun z => by simp_all)
set_option maxRecDepth 4000 in
theorem sX4_neighbours {d : Nat} {σ : SS} {K : ax_K} {i j b3 : Int32} {n : Nat} (hn : n ≤ 6) (h0 : σ 28 0 0 = nI n) (k1 : ¬ (ixn i n ∧ ixn j n ∧ i ≠ j) → K (some (-1)) σ) (k2 : ∀ a b, a < n → b < n → a ≠ b → i = nI a → j = nI b → bB (hb (σ 32 0 a) (nI b)) = b3 → K (some 0) σ) (k3 : ∀ a b, a < n → b < n → a ≠ b → i = nI a → j = nI b → ¬ bB (hb (σ 32 0 a) (nI b)) = b3 → K (some 1) (rp σ 32 0 (upd (upd (σ 32 0) a (σ 32 0 a ^^^ bt b)) b (σ 32 0 b ^^^ bt a)))) : AW (d + 3) mX4_neighbours 0 (ax_en mX4_neighbours [.inr (28, 0), .inl i, .inl j, .inl b3]) [] σ K := by
  show AW _ mX4_neighbours 0 [_, _, _, _] _ _ _
  refine aw_aload_n dX4_neighbours_0 rfl rfl ?_
  refine aw_iload_n dX4_neighbours_1 rfl rfl ?_
  refine aw_iload_n dX4_neighbours_2 rfl rfl ?_
  refine aw_V2 (M' := mX4_areTwo) dX4_neighbours_3 rfl lkX4_82 gX4_areTwo rfl rfl (Nat.le_of_ble_eq_true rfl) (sX4_areTwo hn h0 ?_)
  show AW _ mX4_neighbours 6 _ (_ :: _) _ _
  refine aw_if_neb (tgt := 11) dX4_neighbours_6 rfl rfl (fun c6 => ?_) (fun c6 => ?_)
  · skip
    obtain ⟨hi1, hj1, hij⟩ := c6
    obtain ⟨a, ha, rfl⟩ := ixn_of hi1 (by omega)
    obtain ⟨b, hb, rfl⟩ := ixn_of hj1 (by omega)
    have hab : a ≠ b := fun z => hij (by rw [z])
    have hca : (nI a).toNatClampNeg = a := nI_clamp (by omega)
    have hcb : (nI b).toNatClampNeg = b := nI_clamp (by omega)
    refine aw_aload_n dX4_neighbours_11 rfl rfl ?_
    refine aw_getR dX4_neighbours_12 rfl rfl rfl (by decide) flX4_19 ?_
    refine aw_iload_n dX4_neighbours_15 rfl rfl ?_
    refine aw_iald dX4_neighbours_16 rfl rfl (by first | exact vp_in_nI (by omega) (by omega) | decide) ?_
    refine aw_iload_n dX4_neighbours_17 rfl rfl ?_
    refine aw_S2 (M' := mX4_has) dX4_neighbours_18 rfl lkX4_86 gX4_has (Nat.le_of_ble_eq_true rfl) (sX4_has ?_)
    show AW _ mX4_neighbours 21 _ (_ :: _) _ _
    refine aw_iload_n dX4_neighbours_21 rfl rfl ?_
    refine aw_icmp_ne (tgt := 27) dX4_neighbours_22 rfl rfl (fun c22 => ?_) (fun c22 => ?_)
    · skip
      refine aw_aload_n dX4_neighbours_27 rfl rfl ?_
      refine aw_getR dX4_neighbours_28 rfl rfl rfl (by decide) flX4_19 ?_
      refine aw_iload_n dX4_neighbours_31 rfl rfl ?_
      refine aw_dup2 dX4_neighbours_32 rfl ?_
      refine aw_iald dX4_neighbours_33 rfl rfl (by first | exact vp_in_nI (by omega) (by omega) | decide) ?_
      refine aw_iconst 1 dX4_neighbours_34 rfl (by decide) ?_
      refine aw_iload_n dX4_neighbours_35 rfl rfl ?_
      refine aw_ishl dX4_neighbours_36 rfl ?_
      refine aw_ixor dX4_neighbours_37 rfl ?_
      refine aw_iast dX4_neighbours_38 rfl rfl (by first | exact vp_in_nI (by omega) (by omega) | decide) ?_
      refine aw_aload_n dX4_neighbours_39 rfl rfl ?_
      refine aw_getR dX4_neighbours_40 rfl rfl rfl (by decide) flX4_19 ?_
      refine aw_iload_n dX4_neighbours_43 rfl rfl ?_
      refine aw_dup2 dX4_neighbours_44 rfl ?_
      refine aw_iald dX4_neighbours_45 rfl rfl (by first | exact vp_in_nI (by omega) (by omega) | decide) ?_
      refine aw_iconst 1 dX4_neighbours_46 rfl (by decide) ?_
      refine aw_iload_n dX4_neighbours_47 rfl rfl ?_
      refine aw_ishl dX4_neighbours_48 rfl ?_
      refine aw_ixor dX4_neighbours_49 rfl ?_
      refine aw_iast dX4_neighbours_50 rfl rfl (by first | exact vp_in_nI (by omega) (by omega) | decide) ?_
      refine aw_iconst 1 dX4_neighbours_51 rfl (by decide) ?_
      refine aw_ret dX4_neighbours_52 rfl rfl ?_
      rw [hca] at c22
      refine kk_c (k3 a b ha hb hab rfl rfl c22) rfl ?_
      simp only [rp_nk, rp_at, rp_rp, pk_us, ne_eq, Nat.reduceEqDiff, not_false_eq_true, hca, hcb]
      rw [pk_un (Ne.symm hab)]
    · skip
      refine aw_iconst 0 dX4_neighbours_25 rfl (by decide) ?_
      refine aw_ret dX4_neighbours_26 rfl rfl ?_
      rw [hca] at c22
      exact k2 a b ha hb hab rfl rfl c22
  · skip
    refine aw_iconst (-1) dX4_neighbours_9 rfl (by decide) ?_
    refine aw_ret dX4_neighbours_10 rfl rfl ?_
    exact k1 c6
set_option maxRecDepth 4000 in
theorem sX4_latest {d : Nat} {σ : SS} {K : ax_K} {t k l : Int32} {n : Nat} (hn : n ≤ 6) (h0 : σ 28 0 0 = nI n) (k1 : ¬ ixn t n → K (some (-1)) σ) (k2 : ixn t n → ¬ ((0 ≤ k ∧ k ≤ 2) ∧ (l = -9 ∨ lq l)) → K (some (-2)) σ) (k3 : ∀ a b, a < n → b < 3 → t = nI a → k = nI b → (l = -9 ∨ lq l) → K (some (σ 33 0 (3 * a + b))) (rp σ 33 0 (upd (σ 33 0) (3 * a + b) l))) : AW (d + 2) mX4_latest 0 (ax_en mX4_latest [.inr (28, 0), .inl t, .inl k, .inl l]) [] σ K := by
  show AW _ mX4_latest 0 [_, _, _, _, _] _ _ _
  refine aw_aload_n dX4_latest_0 rfl rfl ?_
  refine aw_iload_n dX4_latest_1 rfl rfl ?_
  refine aw_V1 (M' := mX4_isTank) dX4_latest_2 rfl lkX4_78 gX4_isTank rfl rfl (Nat.le_of_ble_eq_true rfl) (sX4_isTank hn h0 ?_)
  show AW _ mX4_latest 5 _ (_ :: _) _ _
  refine aw_if_neb (tgt := 10) dX4_latest_5 rfl rfl (fun c5 => ?_) (fun c5 => ?_)
  · skip
    refine aw_iload_n dX4_latest_10 rfl rfl ?_
    refine aw_iconst 0 dX4_latest_11 rfl (by decide) ?_
    refine aw_iconst 2 dX4_latest_12 rfl (by decide) ?_
    refine aw_S3 (M' := mX4_within) dX4_latest_13 rfl lkX4_71 gX4_within (Nat.le_of_ble_eq_true rfl) (sX4_within ?_)
    show AW _ mX4_latest 16 _ (_ :: _) _ _
    refine aw_if_eqb (tgt := 32) dX4_latest_16 rfl rfl (fun c16 => ?_) (fun c16 => ?_)
    · skip
      refine aw_bipush (-2) dX4_latest_32 rfl (by decide) ?_
      refine aw_ret dX4_latest_34 rfl rfl ?_
      exact k2 c5 (fun z => by first | exact c16 z.1 | exact z.2.elim c22 c29)
    · skip
      refine aw_iload_n dX4_latest_19 rfl rfl ?_
      refine aw_bipush (-9) dX4_latest_20 rfl (by decide) ?_
      refine aw_icmp_eq (tgt := 35) dX4_latest_22 rfl rfl (fun c22 => ?_) (fun c22 => ?_)
      · skip
        obtain ⟨a, ha, rfl⟩ := ixn_of c5 (by omega)
        obtain ⟨b, hb, rfl⟩ := bd_of 2 (by decide) c16
        have hca : (nI (3 * a + b)).toNatClampNeg = 3 * a + b := nI_clamp (by omega)
        refine aw_aload_n dX4_latest_35 rfl rfl ?_
        refine aw_getR dX4_latest_36 rfl rfl rfl (by decide) flX4_22 ?_
        refine aw_iconst 3 dX4_latest_39 rfl (by decide) ?_
        refine aw_iload_n dX4_latest_40 rfl rfl ?_
        refine aw_imul dX4_latest_41 rfl ?_
        refine aw_iload_n dX4_latest_42 rfl rfl ?_
        refine aw_iadd dX4_latest_43 rfl ?_
        refine aw_iald dX4_latest_44 rfl rfl (by rw [ix3]; exact vp_in_nI (by omega) (by omega)) ?_
        refine aw_istore dX4_latest_45 rfl (by decide) ?_
        show AW _ mX4_latest 47 [_, _, _, _, _] _ _ _
        refine aw_aload_n dX4_latest_47 rfl rfl ?_
        refine aw_getR dX4_latest_48 rfl rfl rfl (by decide) flX4_22 ?_
        refine aw_iconst 3 dX4_latest_51 rfl (by decide) ?_
        refine aw_iload_n dX4_latest_52 rfl rfl ?_
        refine aw_imul dX4_latest_53 rfl ?_
        refine aw_iload_n dX4_latest_54 rfl rfl ?_
        refine aw_iadd dX4_latest_55 rfl ?_
        refine aw_iload_n dX4_latest_56 rfl rfl ?_
        refine aw_iast dX4_latest_57 rfl rfl (by rw [ix3]; exact vp_in_nI (by omega) (by omega)) ?_
        refine aw_iload dX4_latest_58 rfl rfl ?_
        refine aw_ret dX4_latest_60 rfl rfl ?_
        have hl : l = -9 ∨ lq l := by first | exact Or.inl (by assumption) | exact Or.inr (by assumption)
        exact kk_c (k3 a b ha (by omega) rfl rfl hl) (by rw [ix3, hca]) (by rw [ix3, hca])
      · skip
        refine aw_iload_n dX4_latest_25 rfl rfl ?_
        refine aw_S1 (M' := mX4_isLiquid) dX4_latest_26 rfl lkX4_89 gX4_isLiquid (Nat.le_of_ble_eq_true rfl) (sX4_isLiquid ?_)
        show AW _ mX4_latest 29 _ (_ :: _) _ _
        refine aw_if_neb (tgt := 35) dX4_latest_29 rfl rfl (fun c29 => ?_) (fun c29 => ?_)
        · skip
          obtain ⟨a, ha, rfl⟩ := ixn_of c5 (by omega)
          obtain ⟨b, hb, rfl⟩ := bd_of 2 (by decide) c16
          have hca : (nI (3 * a + b)).toNatClampNeg = 3 * a + b := nI_clamp (by omega)
          refine aw_aload_n dX4_latest_35 rfl rfl ?_
          refine aw_getR dX4_latest_36 rfl rfl rfl (by decide) flX4_22 ?_
          refine aw_iconst 3 dX4_latest_39 rfl (by decide) ?_
          refine aw_iload_n dX4_latest_40 rfl rfl ?_
          refine aw_imul dX4_latest_41 rfl ?_
          refine aw_iload_n dX4_latest_42 rfl rfl ?_
          refine aw_iadd dX4_latest_43 rfl ?_
          refine aw_iald dX4_latest_44 rfl rfl (by rw [ix3]; exact vp_in_nI (by omega) (by omega)) ?_
          refine aw_istore dX4_latest_45 rfl (by decide) ?_
          show AW _ mX4_latest 47 [_, _, _, _, _] _ _ _
          refine aw_aload_n dX4_latest_47 rfl rfl ?_
          refine aw_getR dX4_latest_48 rfl rfl rfl (by decide) flX4_22 ?_
          refine aw_iconst 3 dX4_latest_51 rfl (by decide) ?_
          refine aw_iload_n dX4_latest_52 rfl rfl ?_
          refine aw_imul dX4_latest_53 rfl ?_
          refine aw_iload_n dX4_latest_54 rfl rfl ?_
          refine aw_iadd dX4_latest_55 rfl ?_
          refine aw_iload_n dX4_latest_56 rfl rfl ?_
          refine aw_iast dX4_latest_57 rfl rfl (by rw [ix3]; exact vp_in_nI (by omega) (by omega)) ?_
          refine aw_iload dX4_latest_58 rfl rfl ?_
          refine aw_ret dX4_latest_60 rfl rfl ?_
          have hl : l = -9 ∨ lq l := by first | exact Or.inl (by assumption) | exact Or.inr (by assumption)
          exact kk_c (k3 a b ha (by omega) rfl rfl hl) (by rw [ix3, hca]) (by rw [ix3, hca])
        · skip
          refine aw_bipush (-2) dX4_latest_32 rfl (by decide) ?_
          refine aw_ret dX4_latest_34 rfl rfl ?_
          exact k2 c5 (fun z => by first | exact c16 z.1 | exact z.2.elim c22 c29)
  · skip
    refine aw_iconst (-1) dX4_latest_8 rfl (by decide) ?_
    refine aw_ret dX4_latest_9 rfl rfl ?_
    exact k1 c5
set_option maxRecDepth 4000 in
theorem sX4_cargo {d : Nat} {σ : SS} {K : ax_K} {l v c b e r : Int32} {cn : Nat} (hc : cn ≤ 4) (h9 : σ 28 0 9 = nI cn) (k1 : ¬ lq l → K (some (-1)) σ) (k2 : lq l → ¬ cgOK v c b e r → K (some (-2)) σ) (k3 : lq l → cgOK v c b e r → cn = 4 → K (some (-4)) σ) (k4 : lq l → cgOK v c b e r → cn < 4 → K (some (nI cn)) (rp (rp (rp (rp (rp (rp (rp σ 37 0 (upd (σ 37 0) cn l)) 38 0 (upd (σ 38 0) cn v)) 39 0 (upd (σ 39 0) cn c)) 40 0 (upd (σ 40 0) cn b)) 41 0 (upd (σ 41 0) cn e)) 42 0 (upd (σ 42 0) cn r)) 28 0 (upd (σ 28 0) 9 (nI (cn + 1))))) : AW (d + 2) mX4_cargo 0 (ax_en mX4_cargo [.inr (28, 0), .inl l, .inl v, .inl c, .inl b, .inl e, .inl r]) [] σ K := by
  show AW _ mX4_cargo 0 [_, _, _, _, _, _, _] _ _ _
  refine aw_iload_n dX4_cargo_0 rfl rfl ?_
  refine aw_S1 (M' := mX4_isLiquid) dX4_cargo_1 rfl lkX4_89 gX4_isLiquid (Nat.le_of_ble_eq_true rfl) (sX4_isLiquid ?_)
  show AW _ mX4_cargo 4 _ (_ :: _) _ _
  refine aw_if_neb (tgt := 9) dX4_cargo_4 rfl rfl (fun c4 => ?_) (fun c4 => ?_)
  · skip
    refine aw_iload_n dX4_cargo_9 rfl rfl ?_
    refine aw_iconst 1 dX4_cargo_10 rfl (by decide) ?_
    refine aw_sipush 400 dX4_cargo_11 rfl (by decide) ?_
    refine aw_S3 (M' := mX4_within) dX4_cargo_14 rfl lkX4_71 gX4_within (Nat.le_of_ble_eq_true rfl) (sX4_within ?_)
    show AW _ mX4_cargo 17 _ (_ :: _) _ _
    refine aw_if_eqb (tgt := 54) dX4_cargo_17 rfl rfl (fun c17 => ?_) (fun c17 => ?_)
    · skip
      refine aw_bipush (-2) dX4_cargo_54 rfl (by decide) ?_
      refine aw_ret dX4_cargo_56 rfl rfl ?_
      exact k2 c4 (fun z => by simp_all)
    · skip
      refine aw_iload_n dX4_cargo_20 rfl rfl ?_
      refine aw_iconst 0 dX4_cargo_21 rfl (by decide) ?_
      refine aw_bipush 15 dX4_cargo_22 rfl (by decide) ?_
      refine aw_S3 (M' := mX4_within) dX4_cargo_24 rfl lkX4_71 gX4_within (Nat.le_of_ble_eq_true rfl) (sX4_within ?_)
      show AW _ mX4_cargo 27 _ (_ :: _) _ _
      refine aw_if_eqb (tgt := 54) dX4_cargo_27 rfl rfl (fun c27 => ?_) (fun c27 => ?_)
      · skip
        refine aw_bipush (-2) dX4_cargo_54 rfl (by decide) ?_
        refine aw_ret dX4_cargo_56 rfl rfl ?_
        exact k2 c4 (fun z => by simp_all)
      · skip
        refine aw_iload dX4_cargo_30 rfl rfl ?_
        refine aw_S1 (M' := mX4_isSet) dX4_cargo_32 rfl lkX4_95 gX4_isSet (Nat.le_of_ble_eq_true rfl) (sX4_isSet ?_)
        show AW _ mX4_cargo 35 _ (_ :: _) _ _
        refine aw_if_eqb (tgt := 54) dX4_cargo_35 rfl rfl (fun c35 => ?_) (fun c35 => ?_)
        · skip
          refine aw_bipush (-2) dX4_cargo_54 rfl (by decide) ?_
          refine aw_ret dX4_cargo_56 rfl rfl ?_
          exact k2 c4 (fun z => by simp_all)
        · skip
          refine aw_iload dX4_cargo_38 rfl rfl ?_
          refine aw_S1 (M' := mX4_isSet) dX4_cargo_40 rfl lkX4_95 gX4_isSet (Nat.le_of_ble_eq_true rfl) (sX4_isSet ?_)
          show AW _ mX4_cargo 43 _ (_ :: _) _ _
          refine aw_if_eqb (tgt := 54) dX4_cargo_43 rfl rfl (fun c43 => ?_) (fun c43 => ?_)
          · skip
            refine aw_bipush (-2) dX4_cargo_54 rfl (by decide) ?_
            refine aw_ret dX4_cargo_56 rfl rfl ?_
            exact k2 c4 (fun z => by simp_all)
          · skip
            refine aw_iload dX4_cargo_46 rfl rfl ?_
            refine aw_S1 (M' := mX4_isSet) dX4_cargo_48 rfl lkX4_95 gX4_isSet (Nat.le_of_ble_eq_true rfl) (sX4_isSet ?_)
            show AW _ mX4_cargo 51 _ (_ :: _) _ _
            refine aw_if_neb (tgt := 57) dX4_cargo_51 rfl rfl (fun c51 => ?_) (fun c51 => ?_)
            · skip
              refine aw_aload_n dX4_cargo_57 rfl rfl ?_
              refine aw_getI dX4_cargo_58 rfl rfl rfl flX4_92 ?_
              refine aw_iconst 4 dX4_cargo_61 rfl (by decide) ?_
              refine aw_icmp_ne (tgt := 68) dX4_cargo_62 rfl rfl (fun c62 => ?_) (fun c62 => ?_)
              · skip
                have hn4 : cn < 4 := by
                  rcases Nat.lt_or_ge cn 4 with h | h
                  · exact h
                  · exact absurd (by rw [h9, show cn = 4 by omega]; decide) c62
                have hcl : (nI cn).toNatClampNeg = cn := nI_clamp (by omega)
                refine aw_aload_n dX4_cargo_68 rfl rfl ?_
                refine aw_getR dX4_cargo_69 rfl rfl rfl (by decide) flX4_34 ?_
                refine aw_aload_n dX4_cargo_72 rfl rfl ?_
                refine aw_getI dX4_cargo_73 rfl rfl rfl flX4_92 ?_
                refine aw_iload_n dX4_cargo_76 rfl rfl ?_
                refine aw_iast dX4_cargo_77 rfl rfl (by simp only [rp_nk, ne_eq, Nat.reduceEqDiff, not_false_eq_true, h9]; exact vp_in_nI (by omega) (by omega)) ?_
                refine aw_aload_n dX4_cargo_78 rfl rfl ?_
                refine aw_getR dX4_cargo_79 rfl rfl rfl (by decide) flX4_37 ?_
                refine aw_aload_n dX4_cargo_82 rfl rfl ?_
                refine aw_getI dX4_cargo_83 rfl rfl rfl flX4_92 ?_
                refine aw_iload_n dX4_cargo_86 rfl rfl ?_
                refine aw_iast dX4_cargo_87 rfl rfl (by simp only [rp_nk, ne_eq, Nat.reduceEqDiff, not_false_eq_true, h9]; exact vp_in_nI (by omega) (by omega)) ?_
                refine aw_aload_n dX4_cargo_88 rfl rfl ?_
                refine aw_getR dX4_cargo_89 rfl rfl rfl (by decide) flX4_40 ?_
                refine aw_aload_n dX4_cargo_92 rfl rfl ?_
                refine aw_getI dX4_cargo_93 rfl rfl rfl flX4_92 ?_
                refine aw_iload_n dX4_cargo_96 rfl rfl ?_
                refine aw_iast dX4_cargo_97 rfl rfl (by simp only [rp_nk, ne_eq, Nat.reduceEqDiff, not_false_eq_true, h9]; exact vp_in_nI (by omega) (by omega)) ?_
                refine aw_aload_n dX4_cargo_98 rfl rfl ?_
                refine aw_getR dX4_cargo_99 rfl rfl rfl (by decide) flX4_43 ?_
                refine aw_aload_n dX4_cargo_102 rfl rfl ?_
                refine aw_getI dX4_cargo_103 rfl rfl rfl flX4_92 ?_
                refine aw_iload dX4_cargo_106 rfl rfl ?_
                refine aw_iast dX4_cargo_108 rfl rfl (by simp only [rp_nk, ne_eq, Nat.reduceEqDiff, not_false_eq_true, h9]; exact vp_in_nI (by omega) (by omega)) ?_
                refine aw_aload_n dX4_cargo_109 rfl rfl ?_
                refine aw_getR dX4_cargo_110 rfl rfl rfl (by decide) flX4_46 ?_
                refine aw_aload_n dX4_cargo_113 rfl rfl ?_
                refine aw_getI dX4_cargo_114 rfl rfl rfl flX4_92 ?_
                refine aw_iload dX4_cargo_117 rfl rfl ?_
                refine aw_iast dX4_cargo_119 rfl rfl (by simp only [rp_nk, ne_eq, Nat.reduceEqDiff, not_false_eq_true, h9]; exact vp_in_nI (by omega) (by omega)) ?_
                refine aw_aload_n dX4_cargo_120 rfl rfl ?_
                refine aw_getR dX4_cargo_121 rfl rfl rfl (by decide) flX4_49 ?_
                refine aw_aload_n dX4_cargo_124 rfl rfl ?_
                refine aw_getI dX4_cargo_125 rfl rfl rfl flX4_92 ?_
                refine aw_iload dX4_cargo_128 rfl rfl ?_
                refine aw_iast dX4_cargo_130 rfl rfl (by simp only [rp_nk, ne_eq, Nat.reduceEqDiff, not_false_eq_true, h9]; exact vp_in_nI (by omega) (by omega)) ?_
                refine aw_aload_n dX4_cargo_131 rfl rfl ?_
                refine aw_dup dX4_cargo_132 rfl ?_
                refine aw_getI dX4_cargo_133 rfl rfl rfl flX4_92 ?_
                refine aw_iconst 1 dX4_cargo_136 rfl (by decide) ?_
                refine aw_iadd dX4_cargo_137 rfl ?_
                refine aw_putI dX4_cargo_138 rfl rfl rfl flX4_92 (pf_4_9 _) ?_
                refine aw_aload_n dX4_cargo_141 rfl rfl ?_
                refine aw_getI dX4_cargo_142 rfl rfl rfl flX4_92 ?_
                refine aw_iconst 1 dX4_cargo_145 rfl (by decide) ?_
                refine aw_isub dX4_cargo_146 rfl ?_
                refine aw_ret dX4_cargo_147 rfl rfl ?_
                refine kk_c (k4 c4 ⟨by assumption, by assumption, by assumption, by assumption, by assumption⟩ hn4) ?_ ?_
                · simp only [rp_nk, rp_at, rp_rp, pk_us, ne_eq, Nat.reduceEqDiff, not_false_eq_true, h9, hcl]
                  rw [← nI_succ, nI_pred]
                · simp only [rp_nk, rp_at, rp_rp, pk_us, ne_eq, Nat.reduceEqDiff, not_false_eq_true, h9, hcl, nI_succ]
              · skip
                refine aw_bipush (-4) dX4_cargo_65 rfl (by decide) ?_
                refine aw_ret dX4_cargo_67 rfl rfl ?_
                exact k3 c4 ⟨by assumption, by assumption, by assumption, by assumption, by assumption⟩ ((nI_eq (by omega) (by decide)).mp (h9.symm.trans c62))
            · skip
              refine aw_bipush (-2) dX4_cargo_54 rfl (by decide) ?_
              refine aw_ret dX4_cargo_56 rfl rfl ?_
              exact k2 c4 (fun z => by simp_all)
  · skip
    refine aw_iconst (-1) dX4_cargo_7 rfl (by decide) ?_
    refine aw_ret dX4_cargo_8 rfl rfl ?_
    exact k1 c4
set_option maxRecDepth 4000 in
theorem sX4_uncargo {d : Nat} {σ : SS} {K : ax_K} {n cn : Nat} (hn : n ≤ 6) (h0 : σ 28 0 0 = nI n) (hc : cn ≤ 4) (h9 : σ 28 0 9 = nI cn) (k1 : cn = 0 → K (some (-3)) σ) (k2 : ∀ m, cn = m + 1 → 0 < cntI n (fun t => σ 35 0 t = nI m) → K (some (-3)) σ) (k3 : ∀ m, cn = m + 1 → ¬ 0 < cntI n (fun t => σ 35 0 t = nI m) → K (some (nI m)) (rp (rp σ 28 0 (upd (σ 28 0) 9 (nI m))) 34 0 (fun t => if t < n then (if σ 34 0 t = nI m then -9 else σ 34 0 t) else σ 34 0 t))) : AW (d + 1) mX4_uncargo 0 (ax_en mX4_uncargo [.inr (28, 0)]) [] σ K := by
  show AW _ mX4_uncargo 0 [_, _] _ _ _
  refine aw_aload_n dX4_uncargo_0 rfl rfl ?_
  refine aw_getI dX4_uncargo_1 rfl rfl rfl flX4_92 ?_
  refine aw_if_eq (tgt := 20) dX4_uncargo_4 rfl rfl (fun c4 => ?_) (fun c4 => ?_)
  · skip
    refine aw_bipush (-3) dX4_uncargo_20 rfl (by decide) ?_
    refine aw_ret dX4_uncargo_22 rfl rfl ?_
    exact k1 ((nI_eq (by omega) (by decide)).mp ((h9.symm.trans c4).trans nI_0.symm))
  · skip
    obtain ⟨mm, rfl⟩ : ∃ m, cn = m + 1 := by
      cases cn with
      | zero => exact absurd (h9.trans nI_0) c4
      | succ m => exact ⟨m, rfl⟩
    refine aw_aload_n dX4_uncargo_7 rfl rfl ?_
    refine aw_aload_n dX4_uncargo_8 rfl rfl ?_
    refine aw_getI dX4_uncargo_9 rfl rfl rfl flX4_92 ?_
    refine aw_iconst 1 dX4_uncargo_12 rfl (by decide) ?_
    refine aw_isub dX4_uncargo_13 rfl ?_
    rw [h9, nI_pred]
    refine aw_V1 (M' := mX4_holders) dX4_uncargo_14 rfl lkX4_98 gX4_holders rfl rfl (Nat.le_of_ble_eq_true rfl) (sX4_holders hn h0 ?_)
    show AW _ mX4_uncargo 17 _ (_ :: _) _ _
    refine aw_if_le (tgt := 23) dX4_uncargo_17 rfl rfl (fun c17 => ?_) (fun c17 => ?_)
    · skip
      have c17' := Int32.not_lt.mpr c17
      refine aw_aload_n dX4_uncargo_23 rfl rfl ?_
      refine aw_dup dX4_uncargo_24 rfl ?_
      refine aw_getI dX4_uncargo_25 rfl rfl rfl flX4_92 ?_
      refine aw_iconst 1 dX4_uncargo_28 rfl (by decide) ?_
      refine aw_isub dX4_uncargo_29 rfl ?_
      refine aw_putI dX4_uncargo_30 rfl rfl rfl flX4_92 (pf_4_9 _) ?_
      rw [h9, nI_pred]
      have h0b : (rp σ 28 0 (upd (σ 28 0) 9 (nI mm))) 28 0 0 = nI n := by rw [rp_at]; exact (pk_un (by decide)).trans h0
      refine aw_iconst 0 dX4_uncargo_33 rfl (by decide) ?_
      refine aw_istore_n dX4_uncargo_34 rfl (by decide) ?_
      show AW _ mX4_uncargo 35 [_, _] _ _ _
      refine AW.conv (ax_loop (P := fun i => AW (d + 1) mX4_uncargo 35 [some (.inr (28, 0)), some (.inl (nI i))] [] (rp (rp σ 28 0 (upd (σ 28 0) 9 (nI mm))) 34 0 (fun t => if t < i then (if σ 34 0 t = nI mm then -9 else σ 34 0 t) else σ 34 0 t)) K) n ?_ ?_ 0 (Nat.zero_le _)) (by first | (simp only [nI_0]; done) | (simp only [nI_0]; rfl)) rfl (by rw [up_0, rp_self2 (by decide)])
      · try dsimp only
        refine aw_iload_n dX4_uncargo_35 rfl rfl ?_
        refine aw_aload_n dX4_uncargo_36 rfl rfl ?_
        refine aw_getI dX4_uncargo_37 rfl rfl rfl flX4_75 ?_
        refine aw_icmp_ge (tgt := 79) dX4_uncargo_40 rfl rfl (fun _ => ?_) (fun z => absurd (by rw [rp_nk (by decide), h0b]; exact Int32.le_refl _) z)
        refine aw_aload_n dX4_uncargo_79 rfl rfl ?_
        refine aw_getI dX4_uncargo_80 rfl rfl rfl flX4_92 ?_
        refine aw_ret dX4_uncargo_83 rfl rfl ?_
        refine kk_c (k3 mm rfl c17') ?_ rfl
        simp only [rp_nk, rp_at, pk_us, ne_eq, Nat.reduceEqDiff, not_false_eq_true]
      · intro i hi_35 nx_35
        try dsimp only at nx_35 ⊢
        have hci : (nI i).toNatClampNeg = i := nI_clamp (by omega)
        refine aw_iload_n dX4_uncargo_35 rfl rfl ?_
        refine aw_aload_n dX4_uncargo_36 rfl rfl ?_
        refine aw_getI dX4_uncargo_37 rfl rfl rfl flX4_75 ?_
        refine aw_icmp_ge (tgt := 79) dX4_uncargo_40 rfl rfl (fun z => absurd z (by rw [rp_nk (by decide), h0b]; exact nI_ge hi_35 (by omega))) (fun _ => ?_)
        refine aw_aload_n dX4_uncargo_43 rfl rfl ?_
        refine aw_getR dX4_uncargo_44 rfl rfl rfl (by decide) flX4_25 ?_
        refine aw_iload_n dX4_uncargo_47 rfl rfl ?_
        refine aw_aload_n dX4_uncargo_48 rfl rfl ?_
        refine aw_getR dX4_uncargo_49 rfl rfl rfl (by decide) flX4_25 ?_
        refine aw_iload_n dX4_uncargo_52 rfl rfl ?_
        refine aw_iald dX4_uncargo_53 rfl rfl (by first | exact vp_in_nI (by omega) (by omega) | decide) ?_
        refine aw_aload_n dX4_uncargo_54 rfl rfl ?_
        refine aw_getI dX4_uncargo_55 rfl rfl rfl flX4_92 ?_
        refine aw_icmp_ne (tgt := 66) dX4_uncargo_58 rfl rfl (fun c58 => ?_) (fun c58 => ?_)
        · skip
          refine aw_aload_n dX4_uncargo_66 rfl rfl ?_
          refine aw_getR dX4_uncargo_67 rfl rfl rfl (by decide) flX4_25 ?_
          refine aw_iload_n dX4_uncargo_70 rfl rfl ?_
          refine aw_iald dX4_uncargo_71 rfl rfl (by first | exact vp_in_nI (by omega) (by omega) | decide) ?_
          refine aw_iast dX4_uncargo_72 rfl rfl (by first | exact vp_in_nI (by omega) (by omega) | decide) ?_
          refine aw_iinc dX4_uncargo_73 rfl rfl (ii_1 _) (by decide) ?_
          show AW _ mX4_uncargo 76 [_, _] _ _ _
          refine aw_goto (q := 35) dX4_uncargo_76 rfl ?_
          refine AW.conv nx_35 (by first | (simp only [nI_succ]; done) | (simp only [nI_succ]; rfl)) rfl ?_
          simp only [rp_nk, rp_at, rp_rp, pk_us, ne_eq, Nat.reduceEqDiff, not_false_eq_true, hci, Nat.lt_irrefl, if_false] at c58 ⊢
          rw [← up_lt]
          simp [c58]
        · skip
          refine aw_bipush (-9) dX4_uncargo_61 rfl (by decide) ?_
          refine aw_goto (q := 72) dX4_uncargo_63 rfl ?_
          refine aw_iast dX4_uncargo_72 rfl rfl (by first | exact vp_in_nI (by omega) (by omega) | decide) ?_
          refine aw_iinc dX4_uncargo_73 rfl rfl (ii_1 _) (by decide) ?_
          show AW _ mX4_uncargo 76 [_, _] _ _ _
          refine aw_goto (q := 35) dX4_uncargo_76 rfl ?_
          refine AW.conv nx_35 (by first | (simp only [nI_succ]; done) | (simp only [nI_succ]; rfl)) rfl ?_
          simp only [rp_nk, rp_at, rp_rp, pk_us, ne_eq, Nat.reduceEqDiff, not_false_eq_true, hci, Nat.lt_irrefl, if_false] at c58 ⊢
          rw [← up_lt]
          simp [c58]
    · skip
      refine aw_bipush (-3) dX4_uncargo_20 rfl (by decide) ?_
      refine aw_ret dX4_uncargo_22 rfl rfl ?_
      exact k2 mm rfl (Int32.not_le.mp c17)
