/-! ===== the class's unloading and pouring ===== -/
/-- a tank that is left empty -/
def leS (σ : SS) (a : Nat) (l : Int32) : SS := rp (rp σ 8 a (upd (upd (σ 8 a) 5 (-9)) 6 0)) 9 a (upd (upd (upd (σ 9 a) 2 (σ 9 a 1)) 1 (σ 9 a 0)) 0 l)
/-- unloading cargo c, of liquid l, of the first i tanks -/
def ucS (σ : SS) (c l : Int32) (i : Nat) : SS := lp i (fun t s => if σ 8 t 5 = c then leS s t l else s) σ
theorem ucS_s (σ : SS) (c l : Int32) (i : Nat) : ucS σ c l (i + 1) = if σ 8 i 5 = c then leS (ucS σ c l i) i l else ucS σ c l i := rfl
theorem leS_k {σ : SS} {a k i : Nat} {l : Int32} (h1 : k ≠ 8) (h2 : k ≠ 9) : leS σ a l k i = σ k i := by
  unfold leS
  rw [rp_nk h2, rp_nk h1]
theorem leS_i {σ : SS} {a k i : Nat} {l : Int32} (h : i ≠ a) : leS σ a l k i = σ k i := by
  unfold leS
  rw [rp_ne (fun z => h z.2), rp_ne (fun z => h z.2)]
theorem ucS_k {σ : SS} {c l : Int32} {k j : Nat} (h1 : k ≠ 8) (h2 : k ≠ 9) : ∀ i, ucS σ c l i k j = σ k j
  | 0 => rfl
  | i + 1 => by
    rw [ucS_s]
    split
    · rw [leS_k h1 h2, ucS_k h1 h2 i]
    · exact ucS_k h1 h2 i
theorem ucS_i {σ : SS} {c l : Int32} {k j : Nat} : ∀ i, i ≤ j → ucS σ c l i k j = σ k j
  | 0, _ => rfl
  | i + 1, h => by
    rw [ucS_s]
    split
    · rw [leS_i (by omega), ucS_i i (by omega)]
    · exact ucS_i i (by omega)
/-- the state behind the class's pouring -/
def pcS (σ : SS) (a b : Nat) (v : Int32) : SS :=
  let σ1 := if σ 8 b 5 = σ 8 a 5 then σ else rp (rp σ 0 0 (upd (σ 0 0) 10 (σ 0 0 10 + wfS (vw σ) b (ci (σ 8 a 5))))) 8 b (upd (σ 8 b) 5 (σ 8 a 5))
  let σ2 := rp (rp σ1 8 b (upd (σ1 8 b) 6 (σ 8 b 6 + v))) 8 a (upd (σ 8 a) 6 (σ 8 a 6 - v))
  if σ 8 a 6 - v = 0 then rp (leS σ2 a (σ 10 (ci (σ 8 a 5)) 0)) 0 0 (upd (σ1 0 0) 11 0) else σ2
/-- whether v may be poured, in the class's view -/
def pcB (σ : SS) (n cn a b : Nat) (v : Int32) : Bool := (!decide (σ 8 a 6 < v)) && ((!decide (σ 8 b 0 - σ 8 b 6 < v)) && (decide (ixn (σ 8 a 5) cn) && (decide (σ 8 b 5 = σ 8 a 5) || (decide (σ 8 b 5 = -9) && (decide (whyS (vw σ) b (ci (σ 8 a 5)) = 0) && !anyB n (tB (vw σ) b (σ 8 a 5)))))))
