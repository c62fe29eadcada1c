/-! ===== loops, booleans, switches ===== -/
theorem ax_loop {P : Nat → Prop} (n : Nat) (hx : P n) (hs : ∀ i, i < n → P (i + 1) → P i) : ∀ i, i ≤ n → P i := by
  have key : ∀ k i, n - i = k → i ≤ n → P i := by
    intro k
    induction k with
    | zero =>
      intro i h1 h2
      have : i = n := by omega
      subst this
      exact hx
    | succ k ih =>
      intro i h1 h2
      exact hs i (by omega) (ih (i + 1) (by omega) (by omega))
  exact fun i h => key _ i rfl h
/-- i-th power of a loop's body -/
def lp {α : Type} (n : Nat) (f : Nat → α → α) (a : α) : α := match n with
  | 0 => a
  | n + 1 => f n (lp n f a)
theorem lp_0 {α : Type} (f : Nat → α → α) (a : α) : lp 0 f a = a := rfl
theorem lp_s {α : Type} (n : Nat) (f : Nat → α → α) (a : α) : lp (n + 1) f a = f n (lp n f a) := rfl
def bI (p : Prop) [Decidable p] : Int32 := if p then 1 else 0
theorem bI_t {p : Prop} [Decidable p] (h : p) : bI p = 1 := if_pos h
theorem bI_f {p : Prop} [Decidable p] (h : ¬ p) : bI p = 0 := if_neg h
theorem bI_0 {p : Prop} [Decidable p] : bI p = 0 ↔ ¬ p := by
  unfold bI
  split
  · rename_i h; exact ⟨fun e => absurd e (by decide), fun z => absurd h z⟩
  · rename_i h; exact ⟨fun _ => h, fun _ => rfl⟩
theorem bI_1 {p : Prop} [Decidable p] : bI p = 1 ↔ p := by
  unfold bI
  split
  · rename_i h; exact ⟨fun _ => h, fun _ => rfl⟩
  · rename_i h; exact ⟨fun e => absurd e (by decide), fun z => absurd z h⟩
theorem bI_c {p q : Prop} [Decidable p] [Decidable q] (h : p ↔ q) : bI p = bI q := by
  unfold bI
  split
  · rename_i a; rw [if_pos (h.mp a)]
  · rename_i a; rw [if_neg (fun z => a (h.mpr z))]
theorem kb_t {P : Prop} [Decidable P] {K : ax_K} {σ : SS} (hK : K (some (bI P)) σ) (h : P) : K (some 1) σ := by rw [← bI_t h]; exact hK
theorem kb_f {P : Prop} [Decidable P] {K : ax_K} {σ : SS} (hK : K (some (bI P)) σ) (h : ¬ P) : K (some 0) σ := by rw [← bI_f h]; exact hK
section AWb
variable {d : Nat} {M : ax_M} {pc q : Nat} {ls : List (Option AV)} {st : List AV} {σ : SS} {K : ax_K}
theorem aw_if_eqb {P : Prop} [Decidable P] {off : Int} {tgt : Nat} (hd : decode M.2.1 pc = .ok (.ifCond .eq off, 3)) (ht : (pc : Int) + off = (tgt : Int)) (hq : pc + 3 = q) (kt : ¬ P → AW d M tgt ls st σ K) (kf : P → AW d M q ls st σ K) : AW d M pc ls (.inl (bI P) :: st) σ K :=
  aw_if_eq hd ht hq (fun h => kt (bI_0.mp h)) (fun h => kf (Decidable.not_not.mp (fun z => h (bI_0.mpr z))))
theorem aw_if_neb {P : Prop} [Decidable P] {off : Int} {tgt : Nat} (hd : decode M.2.1 pc = .ok (.ifCond .ne off, 3)) (ht : (pc : Int) + off = (tgt : Int)) (hq : pc + 3 = q) (kt : P → AW d M tgt ls st σ K) (kf : ¬ P → AW d M q ls st σ K) : AW d M pc ls (.inl (bI P) :: st) σ K :=
  aw_if_ne hd ht hq (fun h => kt (Decidable.not_not.mp (fun z => h (bI_0.mpr z)))) (fun h => kf (bI_0.mp h))
theorem aw_tsw (n : Nat) {dflt hi : Int} {offs : Array Int} {len : Nat} {x : Int32} (hd : decode M.2.1 pc = .ok (.tableswitch dflt 0 hi offs, len)) (hn : (offs.size, hi + 1) = (n, (n : Int))) (hnn : (dflt :: offs.toList).all (fun o => decide (0 ≤ o)) = true) (h100 : n ≤ 100)
    (kk : ∀ j, j < n → x = nI j → AW d M ((pc : Int) + offs[j]!).toNat ls st σ K) (kd : (∀ j, j < n → x ≠ nI j) → AW d M ((pc : Int) + dflt).toNat ls st σ K) : AW d M pc ls (.inl x :: st) σ K := by
  obtain ⟨hn1, hn2⟩ := Prod.mk.inj hn
  have hall := List.all_eq_true.mp hnn
  have hx2 := Int32.toInt_lt x
  by_cases h1 : x.toInt < 0 ∨ hi < x.toInt
  · have h0 : 0 ≤ dflt := of_decide_eq_true (hall _ List.mem_cons_self)
    refine aw_tableOut hd h1 ?_ (kd fun j hj hx => ?_)
    · rw [Int.toNat_of_nonneg (by omega)]
    · subst hx
      rw [nI_toInt (by omega)] at h1
      omega
  · have hj : (x.toInt - 0).toNat < n := by omega
    have hsz : (x.toInt - 0).toNat < offs.size := by omega
    have hxx : x = nI (x.toInt - 0).toNat := by
      apply Int32.toInt_inj.mp
      rw [nI_toInt (by omega)]
      omega
    have hget : offs[(x.toInt - 0).toNat]? = some offs[(x.toInt - 0).toNat]! := by
      rw [Array.getElem?_eq_getElem hsz, getElem!_pos offs _ hsz]
    have h0 : 0 ≤ offs[(x.toInt - 0).toNat]! := by
      refine of_decide_eq_true (hall _ (List.mem_cons_of_mem _ ?_))
      rw [getElem!_pos offs _ hsz]
      exact Array.getElem_mem_toList hsz
    refine aw_tableIn hd (fun z => h1 (Or.inl z)) (fun z => h1 (Or.inr z)) hget ?_ (kk _ hj hxx)
    rw [Int.toNat_of_nonneg (by omega)]
end AWb
/-- bit k of a set -/
def hb (s k : Int32) : Bool := decide ((s >>> (k &&& 31)) &&& 1 = 1)
abbrev hs (s k : Int32) : Prop := hb s k = true
theorem hs_iff {s k : Int32} : hs s k ↔ (s >>> (k &&& 31)) &&& 1 = 1 := by
  unfold hs hb
  exact decide_eq_true_iff
/-- a boolean as an int -/
def bB (b : Bool) : Int32 := match b with
  | true => 1
  | false => 0
theorem bB_eq (b : Bool) : bB b = bI (b = true) := by cases b <;> rfl
theorem bB_nar (b : Bool) : narrow .boolean (.int (bB b)) = .int (bB b) := by cases b <;> decide
theorem aw_if_eqB {d : Nat} {M : ax_M} {pc q : Nat} {ls : List (Option AV)} {st : List AV} {σ : SS} {K : ax_K} {b : Bool} {off : Int} {tgt : Nat} (hd : decode M.2.1 pc = .ok (.ifCond .eq off, 3)) (ht : (pc : Int) + off = (tgt : Int)) (hq : pc + 3 = q) (kt : b = false → AW d M tgt ls st σ K) (kf : b = true → AW d M q ls st σ K) : AW d M pc ls (.inl (bB b) :: st) σ K := by
  refine aw_if_eq hd ht hq (fun h => kt ?_) (fun h => kf ?_) <;> cases b <;> first | rfl | exact absurd h (by decide) | exact absurd rfl h
theorem aw_if_neB {d : Nat} {M : ax_M} {pc q : Nat} {ls : List (Option AV)} {st : List AV} {σ : SS} {K : ax_K} {b : Bool} {off : Int} {tgt : Nat} (hd : decode M.2.1 pc = .ok (.ifCond .ne off, 3)) (ht : (pc : Int) + off = (tgt : Int)) (hq : pc + 3 = q) (kt : b = true → AW d M tgt ls st σ K) (kf : b = false → AW d M q ls st σ K) : AW d M pc ls (.inl (bB b) :: st) σ K := by
  refine aw_if_ne hd ht hq (fun h => kt ?_) (fun h => kf ?_) <;> cases b <;> first | rfl | exact absurd h (by decide) | exact absurd rfl h
