set_option maxRecDepth 4000 in
theorem sX3_searchIfStale {d : Nat} {σ : SS} {K : ax_K} {n cn : Nat} (hn : n ≤ 6) (h0 : σ 0 0 7 = nI n) (hc : cn ≤ 4) (h9 : σ 0 0 8 = nI cn) (hCoat : ∀ t, t < 6 → 0 ≤ σ 8 t 1) (hLat : ∀ t k, t < 6 → k < 3 → lt9 (σ 9 t k)) (hLiq : ∀ c, c < 4 → ∃ j, j < 8 ∧ σ 10 c 0 = nI j) (k1 : ¬ σ 0 0 11 = 0 → K none σ) (k2 : σ 0 0 11 = 0 → ∀ σ1, SDn σ σ1 n cn → K none σ1) : AW (d + 12) mX3_searchIfStale 0 (ax_en mX3_searchIfStale [.inr (0, 0)]) [] σ K := by
  show AW _ mX3_searchIfStale 0 [_, _] _ _ _
  refine aw_aload_n dX3_searchIfStale_0 rfl rfl ?_
  refine aw_getI dX3_searchIfStale_1 rfl rfl rfl flX3_54 ?_
  refine aw_if_eq (tgt := 8) dX3_searchIfStale_4 rfl rfl (fun c4 => ?_) (fun c4 => ?_)
  · skip
    refine aw_iconst 0 dX3_searchIfStale_8 rfl (by decide) ?_
    refine aw_istore_n dX3_searchIfStale_9 rfl (by decide) ?_
    show AW _ mX3_searchIfStale 10 [_, _] _ _ _
    refine AW.conv (ax_loop (P := fun i => AW (d + 12) mX3_searchIfStale 10 [some (.inr (0, 0)), some (.inl (nI i))] [] (rp σ 22 0 (fun s => if s < i then 0 else σ 22 0 s)) K) 16 ?_ ?_ 0 (Nat.zero_le _)) (by first | (simp only [nI_0]; done) | (simp only [nI_0]; rfl)) rfl (by rw [up_0 (fun _ => 0), rp_self])
    · try dsimp only
      refine aw_iload_n dX3_searchIfStale_10 rfl rfl ?_
      refine aw_bipush 16 dX3_searchIfStale_11 rfl (by decide) ?_
      refine aw_icmp_ge (tgt := 32) dX3_searchIfStale_13 rfl rfl (fun _ => ?_) (fun z => absurd (by decide) z)
      refine aw_aload_n dX3_searchIfStale_32 rfl rfl ?_
      refine aw_V0 (M' := mX3_noteCargoes) dX3_searchIfStale_33 rfl lkX3_236 gX3_noteCargoes rfl rfl (Nat.le_of_ble_eq_true rfl) (AW.up (sX3_noteCargoes (d := 0) hc h9 hLiq (fun a c l hpc => ?_)) (by omega))
      show AW _ mX3_searchIfStale 36 _ _ _ _
      refine aw_aload_n dX3_searchIfStale_36 rfl rfl ?_
      refine aw_V0 (M' := mX3_noteTanks) dX3_searchIfStale_37 rfl lkX3_239 gX3_noteTanks rfl rfl (Nat.le_of_ble_eq_true rfl) (AW.up (sX3_noteTanks (d := 0) hn h0 hc h9 hCoat hLat hLiq (fun v l2 e r s w hpt => ?_)) (by omega))
      show AW _ mX3_searchIfStale 40 _ _ _ _
      refine aw_aload_n dX3_searchIfStale_40 rfl rfl ?_
      refine aw_getR dX3_searchIfStale_41 rfl rfl rfl (by decide) flX3_28 ?_
      refine aw_iconst 0 dX3_searchIfStale_44 rfl (by decide) ?_
      refine aw_iconst 0 dX3_searchIfStale_45 rfl (by decide) ?_
      refine aw_iconst 0 dX3_searchIfStale_46 rfl (by decide) ?_
      obtain ⟨σT, eT⟩ : ∃ x : SS, x = nt (nc (rp σ 22 0 (fun s => if s < 16 then 0 else σ 22 0 s)) (upd ((rp σ 22 0 (fun s => if s < 16 then 0 else σ 22 0 s)) 4 0) 1 (nI cn)) a c l) (upd (upd ((nc (rp σ 22 0 (fun s => if s < 16 then 0 else σ 22 0 s)) (upd ((rp σ 22 0 (fun s => if s < 16 then 0 else σ 22 0 s)) 4 0) 1 (nI cn)) a c l) 4 0) 0 (nI n)) 2 ((nc (rp σ 22 0 (fun s => if s < 16 then 0 else σ 22 0 s)) (upd ((rp σ 22 0 (fun s => if s < 16 then 0 else σ 22 0 s)) 4 0) 1 (nI cn)) a c l) 0 0 9)) v l2 e r s w := ⟨_, rfl⟩
      rw [← eT]
      have hT0 : ∀ k i, k ≠ 4 → ¬ (11 ≤ k ∧ k ≤ 27) → σT k i = σ k i := by
        intro k i h4 hk
        rw [eT, nt_o (by omega), nc_o (by omega), rp_nk (by omega)]
      have hN : σT 4 0 0 = nI n := by rw [eT]; rfl
      have hC : σT 4 0 1 = nI cn := by rw [eT]; rfl
      have hB : σT 4 0 2 = σ 0 0 9 := by rw [eT]; rfl
      have hpc' : ∀ j, j < cn → ncP σ cn (σT 17 0) (σT 18 0) (σT 19 0) j := by rw [eT]; exact hpc
      have hpt' : ∀ t, t < n → ntP σ n cn (σT 11 0) (σT 12 0) (σT 13 0) (σT 14 0) (σT 15 0) (σT 16 0) t := by rw [eT]; exact hpt
      have h22 : ∀ s, s < 16 → σT 22 0 s = 0 := by
        intro s hs
        rw [eT]
        show (if s < 16 then (0 : Int32) else σ 22 0 s) = 0
        rw [if_pos hs]
      refine AW.conv (ls' := [some (.inr (0, 0)), some (.inl (nI 16))]) (st' := [.inl 0, .inl (nI 0), .inl (nI 0), .inr (4, 0)]) (σ' := tS σT (σT 19 0) (σT 20 0) (σT 21 0) (σT 22 0, σT 23 0, σT 24 0, σT 25 0, σT 26 0, σT 27 0)) ?_ rfl (by rw [nI_0]) (tS_self σT).symm
      refine aw_S4 (d := d + 11) (M' := mX3_tryTank) dX3_searchIfStale_47 rfl lkX3_242 gX3_tryTank (Nat.le_of_ble_eq_true rfl) (AW.up (sX3_tryTank (σ := σT) hn hN hc hC n 0 (by omega) 0 _ _ _ _ _ _ _ (by decide) (fun u hu => absurd hu (Nat.not_lt_zero u)) (fun r2 f2 _ _ => ?_)) (by omega))
      show AW _ mX3_searchIfStale 50 _ _ _ _
      refine aw_aload_n dX3_searchIfStale_50 rfl rfl ?_
      refine aw_iconst 1 dX3_searchIfStale_51 rfl (by decide) ?_
      refine aw_putI dX3_searchIfStale_52 rfl rfl rfl flX3_54 pf_3_11_1 ?_
      refine aw_vret dX3_searchIfStale_55 rfl ?_
      refine k2 c4 _ ⟨σT, hT0, ?_, ?_, ?_, hN, hC, hB, hpc', hpt', h22, rfl⟩
      · intro k i h1 h2 h3
        rw [rp_nk h1, tS_o (by omega), hT0 k i h2 h3]
      · rw [rp_at, tS_o (by omega), hT0 0 0 (by decide) (by omega)]
      · intro i hi
        rw [rp_ne (fun z => hi z.2), tS_o (by omega), hT0 0 i (by decide) (by omega)]
    · intro i hi_10 nx_10
      try dsimp only at nx_10 ⊢
      have hci : (nI i).toNatClampNeg = i := nI_clamp (by omega)
      refine aw_iload_n dX3_searchIfStale_10 rfl rfl ?_
      refine aw_bipush 16 dX3_searchIfStale_11 rfl (by decide) ?_
      refine aw_icmp_ge (tgt := 32) dX3_searchIfStale_13 rfl rfl (fun z => absurd z (nI_ge (b := 16) hi_10 (by omega))) (fun _ => ?_)
      refine aw_aload_n dX3_searchIfStale_16 rfl rfl ?_
      refine aw_getR dX3_searchIfStale_17 rfl rfl rfl (by decide) flX3_28 ?_
      refine aw_getR dX3_searchIfStale_20 rfl rfl rfl (by decide) flX3_185 ?_
      refine aw_iload_n dX3_searchIfStale_23 rfl rfl ?_
      refine aw_iconst 0 dX3_searchIfStale_24 rfl (by decide) ?_
      refine aw_iast dX3_searchIfStale_25 rfl rfl (by first | exact vp_in_nI (by omega) (by omega) | exact vp_in_iff.mpr (by decide)) ?_
      refine aw_iinc dX3_searchIfStale_26 rfl rfl (ii_1 _) (by decide) ?_
      show AW _ mX3_searchIfStale 29 [_, _] _ _ _
      refine aw_goto (q := 10) dX3_searchIfStale_29 rfl ?_
      refine AW.conv nx_10 (by first | (simp only [nI_succ i]; done) | (simp only [nI_succ i]; rfl)) rfl ?_
      simp only [rp_nk, rp_at, rp_rp, pk_us, ne_eq, Nat.reduceEqDiff, not_false_eq_true, hci]
      exact congrArg (rp σ 22 0) (up_lt (fun _ => 0) (σ 22 0) i)
  · skip
    refine aw_vret dX3_searchIfStale_7 rfl ?_
    exact k1 c4
theorem sX3_searchI {d : Nat} {σ : SS} {K : ax_K} {n cn : Nat} (hn : n ≤ 6) (h0 : σ 0 0 7 = nI n) (hc : cn ≤ 4) (h9 : σ 0 0 8 = nI cn) (hCoat : ∀ t, t < 6 → 0 ≤ σ 8 t 1) (hLat : ∀ t k, t < 6 → k < 3 → lt9 (σ 9 t k)) (hLiq : ∀ c, c < 4 → ∃ j, j < 8 ∧ σ 10 c 0 = nI j) (hK : ∀ σ1, SRn σ σ1 n cn → K none σ1) : AW (d + 12) mX3_searchIfStale 0 (ax_en mX3_searchIfStale [.inr (0, 0)]) [] σ K :=
  sX3_searchIfStale hn h0 hc h9 hCoat hLat hLiq (fun h => hK σ (Or.inl ⟨h, rfl⟩)) (fun h σ1 q => hK σ1 (Or.inr ⟨h, q⟩))
theorem SRn_o {σ σ1 : SS} {n cn k i : Nat} (h : SRn σ σ1 n cn) (h0 : k ≠ 0) (h4 : k ≠ 4) (hk : ¬ (11 ≤ k ∧ k ≤ 27)) : σ1 k i = σ k i := by
  rcases h with ⟨_, rfl⟩ | ⟨_, σT, _, q, _⟩
  · rfl
  · exact q k i h0 h4 hk
theorem SRn_0 {σ σ1 : SS} {n cn j : Nat} (h : SRn σ σ1 n cn) (hj : j ≠ 11) : σ1 0 0 j = σ 0 0 j := by
  rcases h with ⟨_, rfl⟩ | ⟨_, σT, _, _, q, _⟩
  · rfl
  · rw [q, pk_un hj]
theorem SRn_vw {σ σ1 : SS} {n cn : Nat} (h : SRn σ σ1 n cn) : vw σ1 = vw σ := by
  have e : ∀ k i, k ≠ 0 → k ≠ 4 → ¬ (11 ≤ k ∧ k ≤ 27) → σ1 k i = σ k i := fun k i => SRn_o h
  funext k i
  unfold vw
  rw [SRn_0 h (by decide), SRn_0 h (by decide), SRn_0 h (by decide), SRn_0 h (by decide)]
  simp only [e 3 _ (by decide) (by decide) (by decide), e 5 _ (by decide) (by decide) (by decide), e 8 _ (by decide) (by decide) (by decide), e 9 _ (by decide) (by decide) (by decide), e 10 _ (by decide) (by decide) (by decide)]
set_option maxRecDepth 4000 in
theorem sX3_takenSet {d : Nat} {σ : SS} {K : ax_K} {n cn : Nat} (hn : n ≤ 6) (h0 : σ 0 0 7 = nI n) (hc : cn ≤ 4) (h9 : σ 0 0 8 = nI cn) (hCoat : ∀ t, t < 6 → 0 ≤ σ 8 t 1) (hLat : ∀ t k, t < 6 → k < 3 → lt9 (σ 9 t k)) (hLiq : ∀ c, c < 4 → ∃ j, j < 8 ∧ σ 10 c 0 = nI j) (hK : ∀ σ1, SRn σ σ1 n cn → K (some (nI (tcS σ1 cn (2 ^ cn - 1)).1)) σ1) : AW (d + 13) mX3_takenSet 0 (ax_en mX3_takenSet [.inr (0, 0)]) [] σ K := by
  have hp2 : 2 ^ cn ≤ 16 := Nat.le_trans (Nat.pow_le_pow_right (by decide) hc) (by decide)
  have hp1 : 1 ≤ 2 ^ cn := Nat.one_le_two_pow
  show AW _ mX3_takenSet 0 [_, _, _, _, _, _, _] _ _ _
  refine aw_aload_n dX3_takenSet_0 rfl rfl ?_
  refine aw_V0 (M' := mX3_searchIfStale) dX3_takenSet_1 rfl lkX3_182 gX3_searchIfStale rfl rfl (Nat.le_of_ble_eq_true rfl) (sX3_searchI hn h0 hc h9 hCoat hLat hLiq (fun σ1 hsr => ?_))
  show AW _ mX3_takenSet 4 _ _ _ _
  have h91 : σ1 0 0 8 = nI cn := (SRn_0 hsr (by decide)).trans h9
  refine aw_iconst 0 dX3_takenSet_4 rfl (by decide) ?_
  refine aw_istore_n dX3_takenSet_5 rfl (by decide) ?_
  show AW _ mX3_takenSet 6 [_, _, _, _, _, _, _] _ _ _
  refine aw_iconst 0 dX3_takenSet_6 rfl (by decide) ?_
  refine aw_istore_n dX3_takenSet_7 rfl (by decide) ?_
  show AW _ mX3_takenSet 8 [_, _, _, _, _, _, _] _ _ _
  refine aw_iconst 1 dX3_takenSet_8 rfl (by decide) ?_
  refine aw_aload_n dX3_takenSet_9 rfl rfl ?_
  refine aw_getI dX3_takenSet_10 rfl rfl rfl flX3_45 ?_
  refine aw_ishl dX3_takenSet_13 rfl ?_
  rw [h91, shl1 hc]
  refine aw_istore_n dX3_takenSet_14 rfl (by decide) ?_
  show AW _ mX3_takenSet 15 [_, _, _, _, _, _, _] _ _ _
  refine aw_iconst 1 dX3_takenSet_15 rfl (by decide) ?_
  refine aw_istore dX3_takenSet_16 rfl (by decide) ?_
  show AW _ mX3_takenSet 18 [_, _, _, _, _, _, _] _ _ _
  refine AW.conv (ax_loop (P := fun i => AW (d + 13) mX3_takenSet 18 [some (.inr (0, 0)), some (.inl (nI (tcS σ1 cn i).1)), some (.inl (tcS σ1 cn i).2), some (.inl (nI (2 ^ cn))), some (.inl (nI (i + 1))), none, none] [] σ1 K) (2 ^ cn - 1) ?_ ?_ 0 (Nat.zero_le _)) (by simp only [Nat.zero_add]; rfl) rfl rfl
  · try dsimp only
    refine aw_iload dX3_takenSet_18 rfl rfl ?_
    refine aw_iload_n dX3_takenSet_20 rfl rfl ?_
    refine aw_icmp_ge (tgt := 93) dX3_takenSet_21 rfl rfl (fun _ => ?_) (fun z => absurd (by rw [Nat.sub_add_cancel hp1]; exact Int32.le_refl _) z)
    refine aw_iload_n dX3_takenSet_93 rfl rfl ?_
    refine aw_ret dX3_takenSet_94 rfl rfl ?_
    exact hK σ1 hsr
  · intro i hi_18 nx_18
    try dsimp only at nx_18 ⊢
    have hle := tcS_le σ1 cn i
    have hci : (nI (i + 1)).toNatClampNeg = i + 1 := nI_clamp (by omega)
    refine aw_iload dX3_takenSet_18 rfl rfl ?_
    refine aw_iload_n dX3_takenSet_20 rfl rfl ?_
    refine aw_icmp_ge (tgt := 93) dX3_takenSet_21 rfl rfl (fun z => absurd z (nI_ge (by omega) (by omega))) (fun _ => ?_)
    refine aw_aload_n dX3_takenSet_24 rfl rfl ?_
    refine aw_iload dX3_takenSet_25 rfl rfl ?_
    refine aw_V1 (M' := mX3_amountsOf) dX3_takenSet_27 rfl lkX3_228 gX3_amountsOf rfl rfl (Nat.le_of_ble_eq_true rfl) (AW.up (sX3_amountsOf (d := 0) hc h91 ?_) (by omega))
    show AW _ mX3_takenSet 30 _ (_ :: _) _ _
    refine aw_istore dX3_takenSet_30 rfl (by decide) ?_
    show AW _ mX3_takenSet 32 [_, _, _, _, _, _, _] _ _ _
    refine aw_iload dX3_takenSet_32 rfl rfl ?_
    refine aw_S1 (M' := mJ6_bitCount_0f7a4) dX3_takenSet_34 rfl lkX3_231 gJ6_bitCount_0f7a4 (Nat.le_of_ble_eq_true rfl) (AW.up (sJ6_bitCount_0f7a4 (d := 0) (by omega) ?_) (by omega))
    show AW _ mX3_takenSet 37 _ (_ :: _) _ _
    refine aw_iload_n dX3_takenSet_37 rfl rfl ?_
    refine aw_S1 (M' := mJ6_bitCount_0f7a4) dX3_takenSet_38 rfl lkX3_231 gJ6_bitCount_0f7a4 (Nat.le_of_ble_eq_true rfl) (AW.up (sJ6_bitCount_0f7a4 (d := 0) (by omega) ?_) (by omega))
    show AW _ mX3_takenSet 41 _ (_ :: _) _ _
    refine aw_icmp_ge (tgt := 48) dX3_takenSet_41 rfl rfl (fun c41 => ?_) (fun c41 => ?_)
    · skip
      refine aw_iconst 0 dX3_takenSet_48 rfl (by decide) ?_
      refine aw_istore dX3_takenSet_49 rfl (by decide) ?_
      show AW _ mX3_takenSet 51 [_, _, _, _, _, _, _] _ _ _
      refine aw_aload_n dX3_takenSet_51 rfl rfl ?_
      refine aw_getR dX3_takenSet_52 rfl rfl rfl (by decide) flX3_28 ?_
      refine aw_getR dX3_takenSet_55 rfl rfl rfl (by decide) flX3_185 ?_
      refine aw_iload dX3_takenSet_58 rfl rfl ?_
      refine aw_iald dX3_takenSet_60 rfl rfl (by first | exact vp_in_nI (by omega) (by omega) | exact vp_in_iff.mpr (by decide)) ?_
      try simp only [hci]
      refine aw_if_le (tgt := 87) dX3_takenSet_61 rfl rfl (fun c61 => ?_) (fun c61 => ?_)
      · skip
        refine aw_iinc dX3_takenSet_87 rfl rfl (ii_1 _) (by decide) ?_
        show AW _ mX3_takenSet 90 [_, _, _, _, _, _, _] _ _ _
        refine aw_goto (q := 18) dX3_takenSet_90 rfl ?_
        refine AW.conv (AW.forget nx_18 (ls := [some (.inr (0, 0)), some (.inl (nI (tcS σ1 cn (i + 1)).1)), some (.inl (tcS σ1 cn (i + 1)).2), some (.inl (nI (2 ^ cn))), some (.inl (nI (i + 1 + 1))), some (.inl (amS (vw σ1) (nI (i + 1)) cn)), some (.inl 0)]) (fun n v h => by
          match n, h with
          | 0, h => exact h
          | 1, h => exact h
          | 2, h => exact h
          | 3, h => exact h
          | 4, h => exact h
          | 5, h => cases h
          | 6, h => cases h
          | n + 7, h => simp at h)) (by rw [tcS_s, if_neg (fun z => absurd z.1 (Int32.not_lt.mpr c61)), nI_succ (i + 1)]) rfl rfl
      · skip
        refine aw_iload dX3_takenSet_64 rfl rfl ?_
        refine aw_iload_n dX3_takenSet_66 rfl rfl ?_
        refine aw_icmp_gt (tgt := 81) dX3_takenSet_67 rfl rfl (fun c67 => ?_) (fun c67 => ?_)
        · skip
          refine aw_iload dX3_takenSet_81 rfl rfl ?_
          refine aw_istore_n dX3_takenSet_83 rfl (by decide) ?_
          show AW _ mX3_takenSet 84 [_, _, _, _, _, _, _] _ _ _
          refine aw_iload dX3_takenSet_84 rfl rfl ?_
          refine aw_istore_n dX3_takenSet_86 rfl (by decide) ?_
          show AW _ mX3_takenSet 87 [_, _, _, _, _, _, _] _ _ _
          refine aw_iinc dX3_takenSet_87 rfl rfl (ii_1 _) (by decide) ?_
          show AW _ mX3_takenSet 90 [_, _, _, _, _, _, _] _ _ _
          refine aw_goto (q := 18) dX3_takenSet_90 rfl ?_
          refine AW.conv (AW.forget nx_18 (ls := [some (.inr (0, 0)), some (.inl (nI (tcS σ1 cn (i + 1)).1)), some (.inl (tcS σ1 cn (i + 1)).2), some (.inl (nI (2 ^ cn))), some (.inl (nI (i + 1 + 1))), some (.inl (amS (vw σ1) (nI (i + 1)) cn)), some (.inl 0)]) (fun n v h => by
            match n, h with
            | 0, h => exact h
            | 1, h => exact h
            | 2, h => exact h
            | 3, h => exact h
            | 4, h => exact h
            | 5, h => cases h
            | 6, h => cases h
            | n + 7, h => simp at h)) (by rw [tcS_s, if_pos ⟨Int32.not_le.mp c61, Or.inl c67⟩, nI_succ (i + 1)]) rfl rfl
        · skip
          refine aw_iload dX3_takenSet_70 rfl rfl ?_
          refine aw_iload_n dX3_takenSet_72 rfl rfl ?_
          refine aw_icmp_ne (tgt := 87) dX3_takenSet_73 rfl rfl (fun c73 => ?_) (fun c73 => ?_)
          · skip
            refine aw_iinc dX3_takenSet_87 rfl rfl (ii_1 _) (by decide) ?_
            show AW _ mX3_takenSet 90 [_, _, _, _, _, _, _] _ _ _
            refine aw_goto (q := 18) dX3_takenSet_90 rfl ?_
            refine AW.conv (AW.forget nx_18 (ls := [some (.inr (0, 0)), some (.inl (nI (tcS σ1 cn (i + 1)).1)), some (.inl (tcS σ1 cn (i + 1)).2), some (.inl (nI (2 ^ cn))), some (.inl (nI (i + 1 + 1))), some (.inl (amS (vw σ1) (nI (i + 1)) cn)), some (.inl 0)]) (fun n v h => by
              match n, h with
              | 0, h => exact h
              | 1, h => exact h
              | 2, h => exact h
              | 3, h => exact h
              | 4, h => exact h
              | 5, h => cases h
              | 6, h => cases h
              | n + 7, h => simp at h)) (by rw [tcS_s, if_neg (fun z => z.2.elim c67 (fun q => c73 q.1)), nI_succ (i + 1)]) rfl rfl
          · skip
            refine aw_iload dX3_takenSet_76 rfl rfl ?_
            refine aw_if_eq (tgt := 87) dX3_takenSet_78 rfl rfl (fun _ => ?_) (fun z => absurd rfl z)
            refine aw_iinc dX3_takenSet_87 rfl rfl (ii_1 _) (by decide) ?_
            show AW _ mX3_takenSet 90 [_, _, _, _, _, _, _] _ _ _
            refine aw_goto (q := 18) dX3_takenSet_90 rfl ?_
            refine AW.conv (AW.forget nx_18 (ls := [some (.inr (0, 0)), some (.inl (nI (tcS σ1 cn (i + 1)).1)), some (.inl (tcS σ1 cn (i + 1)).2), some (.inl (nI (2 ^ cn))), some (.inl (nI (i + 1 + 1))), some (.inl (amS (vw σ1) (nI (i + 1)) cn)), some (.inl 0)]) (fun n v h => by
              match n, h with
              | 0, h => exact h
              | 1, h => exact h
              | 2, h => exact h
              | 3, h => exact h
              | 4, h => exact h
              | 5, h => cases h
              | 6, h => cases h
              | n + 7, h => simp at h)) (by rw [tcS_s, if_neg (fun z => z.2.elim c67 (fun q => absurd q.2 (Int32.not_lt.mpr c41))), nI_succ (i + 1)]) rfl rfl
    · skip
      refine aw_iconst 1 dX3_takenSet_44 rfl (by decide) ?_
      refine aw_goto (q := 49) dX3_takenSet_45 rfl ?_
      refine aw_istore dX3_takenSet_49 rfl (by decide) ?_
      show AW _ mX3_takenSet 51 [_, _, _, _, _, _, _] _ _ _
      refine aw_aload_n dX3_takenSet_51 rfl rfl ?_
      refine aw_getR dX3_takenSet_52 rfl rfl rfl (by decide) flX3_28 ?_
      refine aw_getR dX3_takenSet_55 rfl rfl rfl (by decide) flX3_185 ?_
      refine aw_iload dX3_takenSet_58 rfl rfl ?_
      refine aw_iald dX3_takenSet_60 rfl rfl (by first | exact vp_in_nI (by omega) (by omega) | exact vp_in_iff.mpr (by decide)) ?_
      try simp only [hci]
      refine aw_if_le (tgt := 87) dX3_takenSet_61 rfl rfl (fun c61 => ?_) (fun c61 => ?_)
      · skip
        refine aw_iinc dX3_takenSet_87 rfl rfl (ii_1 _) (by decide) ?_
        show AW _ mX3_takenSet 90 [_, _, _, _, _, _, _] _ _ _
        refine aw_goto (q := 18) dX3_takenSet_90 rfl ?_
        refine AW.conv (AW.forget nx_18 (ls := [some (.inr (0, 0)), some (.inl (nI (tcS σ1 cn (i + 1)).1)), some (.inl (tcS σ1 cn (i + 1)).2), some (.inl (nI (2 ^ cn))), some (.inl (nI (i + 1 + 1))), some (.inl (amS (vw σ1) (nI (i + 1)) cn)), some (.inl 1)]) (fun n v h => by
          match n, h with
          | 0, h => exact h
          | 1, h => exact h
          | 2, h => exact h
          | 3, h => exact h
          | 4, h => exact h
          | 5, h => cases h
          | 6, h => cases h
          | n + 7, h => simp at h)) (by rw [tcS_s, if_neg (fun z => absurd z.1 (Int32.not_lt.mpr c61)), nI_succ (i + 1)]) rfl rfl
      · skip
        refine aw_iload dX3_takenSet_64 rfl rfl ?_
        refine aw_iload_n dX3_takenSet_66 rfl rfl ?_
        refine aw_icmp_gt (tgt := 81) dX3_takenSet_67 rfl rfl (fun c67 => ?_) (fun c67 => ?_)
        · skip
          refine aw_iload dX3_takenSet_81 rfl rfl ?_
          refine aw_istore_n dX3_takenSet_83 rfl (by decide) ?_
          show AW _ mX3_takenSet 84 [_, _, _, _, _, _, _] _ _ _
          refine aw_iload dX3_takenSet_84 rfl rfl ?_
          refine aw_istore_n dX3_takenSet_86 rfl (by decide) ?_
          show AW _ mX3_takenSet 87 [_, _, _, _, _, _, _] _ _ _
          refine aw_iinc dX3_takenSet_87 rfl rfl (ii_1 _) (by decide) ?_
          show AW _ mX3_takenSet 90 [_, _, _, _, _, _, _] _ _ _
          refine aw_goto (q := 18) dX3_takenSet_90 rfl ?_
          refine AW.conv (AW.forget nx_18 (ls := [some (.inr (0, 0)), some (.inl (nI (tcS σ1 cn (i + 1)).1)), some (.inl (tcS σ1 cn (i + 1)).2), some (.inl (nI (2 ^ cn))), some (.inl (nI (i + 1 + 1))), some (.inl (amS (vw σ1) (nI (i + 1)) cn)), some (.inl 1)]) (fun n v h => by
            match n, h with
            | 0, h => exact h
            | 1, h => exact h
            | 2, h => exact h
            | 3, h => exact h
            | 4, h => exact h
            | 5, h => cases h
            | 6, h => cases h
            | n + 7, h => simp at h)) (by rw [tcS_s, if_pos ⟨Int32.not_le.mp c61, Or.inl c67⟩, nI_succ (i + 1)]) rfl rfl
        · skip
          refine aw_iload dX3_takenSet_70 rfl rfl ?_
          refine aw_iload_n dX3_takenSet_72 rfl rfl ?_
          refine aw_icmp_ne (tgt := 87) dX3_takenSet_73 rfl rfl (fun c73 => ?_) (fun c73 => ?_)
          · skip
            refine aw_iinc dX3_takenSet_87 rfl rfl (ii_1 _) (by decide) ?_
            show AW _ mX3_takenSet 90 [_, _, _, _, _, _, _] _ _ _
            refine aw_goto (q := 18) dX3_takenSet_90 rfl ?_
            refine AW.conv (AW.forget nx_18 (ls := [some (.inr (0, 0)), some (.inl (nI (tcS σ1 cn (i + 1)).1)), some (.inl (tcS σ1 cn (i + 1)).2), some (.inl (nI (2 ^ cn))), some (.inl (nI (i + 1 + 1))), some (.inl (amS (vw σ1) (nI (i + 1)) cn)), some (.inl 1)]) (fun n v h => by
              match n, h with
              | 0, h => exact h
              | 1, h => exact h
              | 2, h => exact h
              | 3, h => exact h
              | 4, h => exact h
              | 5, h => cases h
              | 6, h => cases h
              | n + 7, h => simp at h)) (by rw [tcS_s, if_neg (fun z => z.2.elim c67 (fun q => c73 q.1)), nI_succ (i + 1)]) rfl rfl
          · skip
            refine aw_iload dX3_takenSet_76 rfl rfl ?_
            refine aw_if_eq (tgt := 87) dX3_takenSet_78 rfl rfl (fun z => absurd z (by decide)) (fun _ => ?_)
            refine aw_iload dX3_takenSet_81 rfl rfl ?_
            refine aw_istore_n dX3_takenSet_83 rfl (by decide) ?_
            show AW _ mX3_takenSet 84 [_, _, _, _, _, _, _] _ _ _
            refine aw_iload dX3_takenSet_84 rfl rfl ?_
            refine aw_istore_n dX3_takenSet_86 rfl (by decide) ?_
            show AW _ mX3_takenSet 87 [_, _, _, _, _, _, _] _ _ _
            refine aw_iinc dX3_takenSet_87 rfl rfl (ii_1 _) (by decide) ?_
            show AW _ mX3_takenSet 90 [_, _, _, _, _, _, _] _ _ _
            refine aw_goto (q := 18) dX3_takenSet_90 rfl ?_
            refine AW.conv (AW.forget nx_18 (ls := [some (.inr (0, 0)), some (.inl (nI (tcS σ1 cn (i + 1)).1)), some (.inl (tcS σ1 cn (i + 1)).2), some (.inl (nI (2 ^ cn))), some (.inl (nI (i + 1 + 1))), some (.inl (amS (vw σ1) (nI (i + 1)) cn)), some (.inl 1)]) (fun n v h => by
              match n, h with
              | 0, h => exact h
              | 1, h => exact h
              | 2, h => exact h
              | 3, h => exact h
              | 4, h => exact h
              | 5, h => cases h
              | 6, h => cases h
              | n + 7, h => simp at h)) (by rw [tcS_s, if_pos ⟨Int32.not_le.mp c61, Or.inr ⟨c73, Int32.not_le.mp c41⟩⟩, nI_succ (i + 1)]) rfl rfl
set_option maxRecDepth 4000 in
theorem sX3_taken {d : Nat} {σ : SS} {K : ax_K} {n cn : Nat} (hn : n ≤ 6) (h0 : σ 0 0 7 = nI n) (hc : cn ≤ 4) (h9 : σ 0 0 8 = nI cn) (hCoat : ∀ t, t < 6 → 0 ≤ σ 8 t 1) (hLat : ∀ t k, t < 6 → k < 3 → lt9 (σ 9 t k)) (hLiq : ∀ c, c < 4 → ∃ j, j < 8 ∧ σ 10 c 0 = nI j) (hK : ∀ σ1, SRn σ σ1 n cn → K (some (nI (tcS σ1 cn (2 ^ cn - 1)).1)) σ1) : AW (d + 14) mX3_taken 0 (ax_en mX3_taken [.inr (0, 0)]) [] σ K := by
  show AW _ mX3_taken 0 [_] _ _ _
  refine aw_aload_n dX3_taken_0 rfl rfl ?_
  refine aw_V0 (M' := mX3_takenSet) dX3_taken_1 rfl lkX3_203 gX3_takenSet rfl rfl (Nat.le_of_ble_eq_true rfl) (sX3_takenSet hn h0 hc h9 hCoat hLat hLiq (fun σ1 hsr => ?_))
  show AW _ mX3_taken 4 _ (_ :: _) _ _
  refine aw_ret dX3_taken_4 rfl rfl ?_
  exact hK σ1 hsr
