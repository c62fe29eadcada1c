/-! ===== the law's own walk ===== -/
def lw_v (b : Nat) (ad : AD) (v : Option AV) : Value := match v with
  | none => .ref b
  | some v => ax_va ad v
def LC (L : Nat) (xs : Nat → Int32) (p : Program) (s : State) (m : MethodId) (meth : Method) (c : Code) (b : Nat) (D : va_G) (cy : Nat → ClassId) (ad : AD) : Prop := lw_At p s m meth c b L xs ∧ ax_St D cy ad s ∧ (∀ k i, i < ax_cnt k → s.heap.size ≤ ad k i) ∧ L ≤ 3584
/-- from here, with i in local 3, this stack and this state, the law ends with 1 -/
def LW (L : Nat) (xs : Nat → Int32) (pc : Nat) (i : Int32) (st : List (Option AV)) (σ : SS) : Prop :=
  ∀ (p : Program) (l : Launch) (e : Env) (s : State) (m : MethodId) (below : List Frame) (meth : Method) (c : Code) (b : Nat) (D : va_G) (cy : Nat → ClassId) (ad : AD) (H : Heap) (locs : List Loc) (cells slots : Nat) (lsA : Array Slot),
    LC L xs p s m meth c b D cy ad → lv_has lsA 4 [(3, .int i), (0, .ref b), (1, .ref (ad 0 0)), (2, .ref (ad 28 0))] → va_P D ax_cl (ax_w cy ad σ) H → va_S (fun q => s.heap.size ≤ q) s.heap H locs → cells ≤ 600000 → slots ≤ 7302250 →
    W p l e room_1 s m #[Value.ref b] below meth c H locs cells slots (lw_Z below #[Value.ref b] s) (F0 m pc lsA (st.map (lw_v b ad)))
section LWrows
variable {L : Nat} {xs : Nat → Int32} {pc q : Nat} {i : Int32} {st : List (Option AV)} {σ : SS}
theorem lw_ald0 (hd : decode code pc = .ok (.aload_n 0, 1)) (hq : pc + 1 = q) (kk : LW L xs q i (none :: st) σ) : LW L xs pc i (st) σ := by
  subst hq
  intro p l e s m below meth c b D cy ad H locs cells slots lsA C hl hP hS hc1 hc2
  refine lv_aload_n C.1.1 C.1.2.1 hd rfl (lv_at hl 1 rfl) ?_
  exact kk p l e s m below meth c b D cy ad H locs cells slots lsA C hl hP hS hc1 hc2
theorem lw_ald1 (hd : decode code pc = .ok (.aload_n 1, 1)) (hq : pc + 1 = q) (kk : LW L xs q i (some (.inr (0, 0)) :: st) σ) : LW L xs pc i (st) σ := by
  subst hq
  intro p l e s m below meth c b D cy ad H locs cells slots lsA C hl hP hS hc1 hc2
  refine lv_aload_n C.1.1 C.1.2.1 hd rfl (lv_at hl 2 rfl) ?_
  exact kk p l e s m below meth c b D cy ad H locs cells slots lsA C hl hP hS hc1 hc2
theorem lw_ald2 (hd : decode code pc = .ok (.aload_n 2, 1)) (hq : pc + 1 = q) (kk : LW L xs q i (some (.inr (28, 0)) :: st) σ) : LW L xs pc i (st) σ := by
  subst hq
  intro p l e s m below meth c b D cy ad H locs cells slots lsA C hl hP hS hc1 hc2
  refine lv_aload_n C.1.1 C.1.2.1 hd rfl (lv_at hl 3 rfl) ?_
  exact kk p l e s m below meth c b D cy ad H locs cells slots lsA C hl hP hS hc1 hc2
theorem lw_ild3 (hd : decode code pc = .ok (.iload_n 3, 1)) (hq : pc + 1 = q) (kk : LW L xs q i (some (.inl i) :: st) σ) : LW L xs pc i (st) σ := by
  subst hq
  intro p l e s m below meth c b D cy ad H locs cells slots lsA C hl hP hS hc1 hc2
  refine lv_iload_n C.1.1 C.1.2.1 hd rfl (lv_at hl 0 rfl) ?_
  exact kk p l e s m below meth c b D cy ad H locs cells slots lsA C hl hP hS hc1 hc2
theorem lw_ico {n : Int} (v : Int32) (hv : Int32.ofInt n = v) (hd : decode code pc = .ok (.iconst n, 1)) (hq : pc + 1 = q) (kk : LW L xs q i (some (.inl v) :: st) σ) : LW L xs pc i (st) σ := by
  subst hq
  intro p l e s m below meth c b D cy ad H locs cells slots lsA C hl hP hS hc1 hc2
  refine lv_iconst C.1.1 C.1.2.1 hd hv ?_
  exact kk p l e s m below meth c b D cy ad H locs cells slots lsA C hl hP hS hc1 hc2
theorem lw_bip {n : Int} (v : Int32) (hv : (Int8.ofInt n).toInt32 = v) (hd : decode code pc = .ok (.bipush n, 2)) (hq : pc + 2 = q) (kk : LW L xs q i (some (.inl v) :: st) σ) : LW L xs pc i (st) σ := by
  subst hq
  intro p l e s m below meth c b D cy ad H locs cells slots lsA C hl hP hS hc1 hc2
  refine lv_bipush C.1.1 C.1.2.1 hd hv ?_
  exact kk p l e s m below meth c b D cy ad H locs cells slots lsA C hl hP hS hc1 hc2
theorem lw_iadd {x y : Int32} (hd : decode code pc = .ok (.iadd, 1)) (hq : pc + 1 = q) (kk : LW L xs q i (some (.inl (x + y)) :: st) σ) : LW L xs pc i (some (.inl y) :: some (.inl x) :: st) σ := by
  subst hq
  intro p l e s m below meth c b D cy ad H locs cells slots lsA C hl hP hS hc1 hc2
  refine lv_iadd C.1.1 C.1.2.1 hd ?_
  exact kk p l e s m below meth c b D cy ad H locs cells slots lsA C hl hP hS hc1 hc2
theorem lw_isub {x y : Int32} (hd : decode code pc = .ok (.isub, 1)) (hq : pc + 1 = q) (kk : LW L xs q i (some (.inl (x - y)) :: st) σ) : LW L xs pc i (some (.inl y) :: some (.inl x) :: st) σ := by
  subst hq
  intro p l e s m below meth c b D cy ad H locs cells slots lsA C hl hP hS hc1 hc2
  refine lv_isub C.1.1 C.1.2.1 hd ?_
  exact kk p l e s m below meth c b D cy ad H locs cells slots lsA C hl hP hS hc1 hc2
theorem lw_iand {x y : Int32} (hd : decode code pc = .ok (.iand, 1)) (hq : pc + 1 = q) (kk : LW L xs q i (some (.inl (x &&& y)) :: st) σ) : LW L xs pc i (some (.inl y) :: some (.inl x) :: st) σ := by
  subst hq
  intro p l e s m below meth c b D cy ad H locs cells slots lsA C hl hP hS hc1 hc2
  refine lv_iand C.1.1 C.1.2.1 hd ?_
  exact kk p l e s m below meth c b D cy ad H locs cells slots lsA C hl hP hS hc1 hc2
theorem lw_iald {j : Int32} (hin : vp_in j L) (hd : decode code pc = .ok (.iaload, 1)) (hq : pc + 1 = q) (kk : LW L xs q i (some (.inl (xs j.toNatClampNeg)) :: st) σ) : LW L xs pc i (some (.inl j) :: none :: st) σ := by
  subst hq
  intro p l e s m below meth c b D cy ad H locs cells slots lsA C hl hP hS hc1 hc2
  refine va_sld C.1.1 C.1.2.1 C.1.2.2.2.2.2.2.1 C.1.2.2.2.2.2.2.2.1 (fun z => Nat.not_le.mpr C.1.2.2.2.2.2.2.2.1 z) hS hin hd ?_
  exact kk p l e s m below meth c b D cy ad H locs cells slots lsA C hl hP hS hc1 hc2
theorem lw_len (hd : decode code pc = .ok (.arraylength, 1)) (hq : pc + 1 = q) (kk : LW L xs q i (some (.inl (Int32.ofNat L)) :: st) σ) : LW L xs pc i (none :: st) σ := by
  subst hq
  intro p l e s m below meth c b D cy ad H locs cells slots lsA C hl hP hS hc1 hc2
  refine va_slen C.1.1 C.1.2.1 C.1.2.2.2.2.2.2.1 C.1.2.2.2.2.2.2.2.1 (fun z => Nat.not_le.mpr C.1.2.2.2.2.2.2.2.1 z) hS hd ?_
  exact kk p l e s m below meth c b D cy ad H locs cells slots lsA C hl hP hS hc1 hc2
theorem lw_goto {off : Int} (hd : decode code pc = .ok (.goto off, 3)) (ht : (pc : Int) + off = (q : Int)) (kk : LW L xs q i st σ) : LW L xs pc i st σ := by
  intro p l e s m below meth c b D cy ad H locs cells slots lsA C hl hP hS hc1 hc2
  refine lv_goto C.1.1 C.1.2.1 hd ht ?_
  exact kk p l e s m below meth c b D cy ad H locs cells slots lsA C hl hP hS hc1 hc2
theorem lw_ifeq {x : Int32} {off : Int} {tgt : Nat} (hd : decode code pc = .ok (.ifCond .eq off, 3)) (ht : (pc : Int) + off = (tgt : Int)) (hq : pc + 3 = q) (kt : x = 0 → LW L xs tgt i st σ) (kf : ¬ x = 0 → LW L xs q i st σ) : LW L xs pc i (some (.inl x) :: st) σ := by
  subst hq
  intro p l e s m below meth c b D cy ad H locs cells slots lsA C hl hP hS hc1 hc2
  exact lv_if_eq C.1.1 C.1.2.1 hd ht (fun h => kt h p l e s m below meth c b D cy ad H locs cells slots lsA C hl hP hS hc1 hc2) (fun h => kf h p l e s m below meth c b D cy ad H locs cells slots lsA C hl hP hS hc1 hc2)
theorem lw_ceq {x y : Int32} {off : Int} {tgt : Nat} (hd : decode code pc = .ok (.if_icmp .eq off, 3)) (ht : (pc : Int) + off = (tgt : Int)) (hq : pc + 3 = q) (kt : x = y → LW L xs tgt i st σ) (kf : ¬ x = y → LW L xs q i st σ) : LW L xs pc i (some (.inl y) :: some (.inl x) :: st) σ := by
  subst hq
  intro p l e s m below meth c b D cy ad H locs cells slots lsA C hl hP hS hc1 hc2
  exact lv_icmp_eq C.1.1 C.1.2.1 hd ht (fun h => kt h p l e s m below meth c b D cy ad H locs cells slots lsA C hl hP hS hc1 hc2) (fun h => kf h p l e s m below meth c b D cy ad H locs cells slots lsA C hl hP hS hc1 hc2)
theorem lw_cgt {x y : Int32} {off : Int} {tgt : Nat} (hd : decode code pc = .ok (.if_icmp .gt off, 3)) (ht : (pc : Int) + off = (tgt : Int)) (hq : pc + 3 = q) (kt : y < x → LW L xs tgt i st σ) (kf : ¬ y < x → LW L xs q i st σ) : LW L xs pc i (some (.inl y) :: some (.inl x) :: st) σ := by
  subst hq
  intro p l e s m below meth c b D cy ad H locs cells slots lsA C hl hP hS hc1 hc2
  exact lv_icmp_gt C.1.1 C.1.2.1 hd ht (fun h => kt h p l e s m below meth c b D cy ad H locs cells slots lsA C hl hP hS hc1 hc2) (fun h => kf h p l e s m below meth c b D cy ad H locs cells slots lsA C hl hP hS hc1 hc2)
theorem lw_iinc {n : Int} {v : Int32} (hd : decode code pc = .ok (.iinc 3 n, 3)) (hq : pc + 3 = q) (hv : i + Int32.ofInt n = v) (kk : LW L xs q v st σ) : LW L xs pc i st σ := by
  subst hq
  intro p l e s m below meth c b D cy ad H locs cells slots lsA C hl hP hS hc1 hc2
  refine lv_iinc C.1.1 C.1.2.1 hd hl (k := 0) rfl hv (by decide) rfl (fun lsB hlB => ?_)
  exact kk p l e s m below meth c b D cy ad H locs cells slots lsB C hlB hP hS hc1 hc2
theorem lw_tIn {dflt lo hi : Int} {offs : Array Int} {len : Nat} {x : Int32} {off : Int} (hd : decode code pc = .ok (.tableswitch dflt lo hi offs, len)) (h1 : ¬ x.toInt < lo) (h2 : ¬ hi < x.toInt) (ho : offs[(x.toInt - lo).toNat]? = some off) (ht : (pc : Int) + off = (q : Int)) (kk : LW L xs q i st σ) : LW L xs pc i (some (.inl x) :: st) σ := by
  intro p l e s m below meth c b D cy ad H locs cells slots lsA C hl hP hS hc1 hc2
  exact lv_tableIn C.1.1 C.1.2.1 hd h1 h2 ho ht (kk p l e s m below meth c b D cy ad H locs cells slots lsA C hl hP hS hc1 hc2)
theorem lw_tOut {dflt lo hi : Int} {offs : Array Int} {len : Nat} {x : Int32} (hd : decode code pc = .ok (.tableswitch dflt lo hi offs, len)) (h : x.toInt < lo ∨ hi < x.toInt) (ht : (pc : Int) + dflt = (q : Int)) (kk : LW L xs q i st σ) : LW L xs pc i (some (.inl x) :: st) σ := by
  intro p l e s m below meth c b D cy ad H locs cells slots lsA C hl hP hS hc1 hc2
  exact lv_tableOut C.1.1 C.1.2.1 hd h ht (kk p l e s m below meth c b D cy ad H locs cells slots lsA C hl hP hS hc1 hc2)
theorem lw_tsw (n : Nat) {dflt hi : Int} {offs : Array Int} {len : Nat} {x : Int32} (hd : decode code pc = .ok (.tableswitch dflt 0 hi offs, len)) (hn : (offs.size, hi + 1) = (n, (n : Int))) (hnn : (dflt :: offs.toList).all (fun o => decide (0 ≤ o)) = true) (h100 : n ≤ 100)
    (kk : ∀ j, j < n → LW L xs ((pc : Int) + offs[j]!).toNat i st σ) (kd : LW L xs ((pc : Int) + dflt).toNat i st σ) : LW L xs pc i (some (.inl x) :: st) σ := by
  obtain ⟨hn1, hn2⟩ := Prod.mk.inj hn
  have hall := List.all_eq_true.mp hnn
  have hx2 := Int32.toInt_lt x
  by_cases h1 : x.toInt < 0 ∨ hi < x.toInt
  · have h0 : 0 ≤ dflt := of_decide_eq_true (hall _ List.mem_cons_self)
    refine lw_tOut hd h1 ?_ kd
    rw [Int.toNat_of_nonneg (by omega)]
  · have hj : (x.toInt - 0).toNat < n := by omega
    have hsz : (x.toInt - 0).toNat < offs.size := by omega
    have hget : offs[(x.toInt - 0).toNat]? = some offs[(x.toInt - 0).toNat]! := by
      rw [Array.getElem?_eq_getElem hsz, getElem!_pos offs _ hsz]
    have h0 : 0 ≤ offs[(x.toInt - 0).toNat]! := by
      refine of_decide_eq_true (hall _ (List.mem_cons_of_mem _ ?_))
      rw [getElem!_pos offs _ hsz]
      exact Array.getElem_mem_toList hsz
    refine lw_tIn hd (fun z => h1 (Or.inl z)) (fun z => h1 (Or.inr z)) hget ?_ (kk _ hj)
    rw [Int.toNat_of_nonneg (by omega)]
theorem lw_good {M' : ax_M} (h : ax_cw M' ∈ ax_GW) : GoodIn lw_tbl (ax_ws M') := by
  have key : ∀ w ∈ ax_GW, w ∈ lw_tbl ∧ ((w.onTables && w.keeps) = true ∨ ∃ ty, w = .arrayClass ty) := fun w hw => ⟨(List.mem_filter.mp hw).1, good_of_word (List.mem_filter.mp hw).2⟩
  intro w hw
  rcases List.mem_cons.mp hw with rfl | hw
  · exact key _ h
  · exact key w hw
theorem lw_call {M' : ax_M} {d idx k ci n : Nat} {T : u_T} {N : Nat} {fs : List (Option Nat)} {K' : ax_K} (as : List Int32) (st0 : List (Option AV)) (hd : decode code pc = .ok (.invokevirtual idx, 3)) (hq : pc + 3 = q) (hL : Cond.methodLink RL idx M'.1 ∈ ax_GW) (hG : ax_GV M' n) (hn : as.length = n) (hk0 : 0 < ax_cnt k) (hsh : ax_sh k = .inl (ci, fs)) (hcl : ax_cl[ci]? = some (M'.1.cls, T, N)) (hst : st0 = (as.map (fun x => some (.inl x))).reverse ++ some (.inr (k, 0)) :: st) (h8 : (st.map (fun _ => 1)).sum ≤ 8) (hst1 : ∀ v ∈ st, ∃ x : Int32, v = some (.inl x)) (hdd : d ≤ 100)
    (hb : AW d M' 0 (ax_en M' (.inr (k, 0) :: as.map Sum.inl)) [] σ K') (kk : ∀ r σ', K' r σ' → ∃ v, r = some v ∧ LW L xs q i (some (.inl v) :: st) σ') : LW L xs pc i st0 σ := by
  subst hq; subst hst; subst hn
  intro p l e s m below meth c b D cy ad H locs cells slots lsA C hl hP hS hc1 hc2
  have C0 := C
  obtain ⟨⟨c1, c2, c3, c4, c5, c6, c7, c8, c9, c10⟩, cSt, cAd, cL⟩ := C0
  have hmap : ((as.map (fun x => some (Sum.inl x))).reverse ++ some (Sum.inr (k, 0)) :: st).map (lw_v b ad) = ((as.map Sum.inl).map (ax_va ad)).reverse ++ Value.ref (ad k 0) :: st.map (lw_v b ad) := by
    simp [lw_v, ax_va]
  rw [hmap]
  obtain ⟨⟨g1, g2, g3, g4, g5⟩, g6, g7, g8⟩ := hG
  have hM := ax_met l D cy ad g3 (by simpa using g8) (List.forall_mem_cons.mpr ⟨(show ax_ok (.inr (k, 0)) from hk0), fun v hv => by
    obtain ⟨x, -, rfl⟩ := List.mem_map.mp hv
    trivial⟩) hb
  obtain ⟨x, hx, hw⟩ := ax_w_get (cy := cy) (ad := ad) (σ := σ) hk0
  have he : ax_ce cy ad (σ k 0) k 0 = .inr (ci, ax_fs ad (σ k 0) 0 0 fs) := by unfold ax_ce; rw [hsh]
  rw [he] at hw
  have hrecv := va_recv cSt.1 hP hcl hw
  have hpre : PreV s H M'.1.cls (ad k 0) (va_Pc ((Sum.inr (k, 0) :: as.map Sum.inl).map (ax_va ad)) (ax_B D cy ad σ)) ((as.map Sum.inl).map (ax_va ad)) := ⟨ax_B.blind, hrecv, fun U hU hW => ⟨rfl, by rw [hU]; exact hP, cSt.warm hW⟩⟩
  have hR : (ax_rm d).frames + 1 ≤ room_1.frames ∧ 8 + (M'.2.2.1 + 11) + (ax_rm d).locals ≤ room_1.locals := ⟨by show d + 1 ≤ 2048; omega, by
    have e1 : 10000 ≤ room_1.locals := by decide
    show 8 + (M'.2.2.1 + 11) + 64 * d ≤ room_1.locals
    omega⟩
  have hgw : ∀ w ∈ ax_GW, w.before #[Value.ref b] s = true := fun w hw => c6 w (List.mem_filter.mp hw).1
  have hroom : (((st.map (lw_v b ad)).map fun v => v.category).sum) ≤ 8 := by
    have : (st.map (lw_v b ad)).map (fun v => v.category) = st.map (fun _ => 1) := by
      rw [List.map_map]
      refine List.map_congr_left (fun v hv => ?_)
      obtain ⟨x, rfl⟩ := hst1 v hv
      rfl
    rw [this]; exact h8
  refine ax_call (va_runV (own := RL) ⟨c1, c2, c4, c5, c6⟩ hM ⟨callB_of as.length c6 (lw_good g1) rfl rfl rfl (hgw _ g2) (hgw _ hL) g4 hR, hgw _ g6, hgw _ g7⟩ hpre rfl (by simp) hl.1 rfl (lv_room hroom) hd ⟨hc1, hc2⟩) (fun q hq => ?_) hS (fun r σ' H1 locs1 hk hP1 hS1 => ?_)
  · obtain ⟨k', i', h1, rfl⟩ := hq
    exact cAd k' i' h1
  · obtain ⟨v, rfl, hv⟩ := kk r σ' hk
    exact hv p l e s m below meth c b D cy ad H1 locs1 cells slots lsA C hl hP1 hS1 hc1 hc2
theorem lw_end (h1 : decode code pc = .ok (.iconst 1, 1)) (h2 : decode code (pc + 1) = .ok (.ireturn, 1)) : LW L xs pc i [] σ := by
  intro p l e s m below meth c b D cy ad H locs cells slots lsA C hl hP hS hc1 hc2
  refine lv_iconst C.1.1 C.1.2.1 h1 (show Int32.ofInt 1 = 1 by decide) ?_
  refine va_forget hS.2.2 (W.widen (k := 600000) (n := 7302250) hc1 hc2 ?_)
  exact lw_ret C.1.1 C.1.2.1 C.1.2.2.1 C.1.2.2.2.2.2.2.2.2.1 h2
end LWrows
