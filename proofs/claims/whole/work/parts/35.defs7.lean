/-! ===== what the search notes ===== -/
def nc (σ : SS) (b a c l : Nat → Int32) : SS := rp (rp (rp (rp σ 4 0 b) 17 0 a) 18 0 c) 19 0 l
theorem nc_4 (σ : SS) (b a c l x : Nat → Int32) : rp (nc σ b a c l) 4 0 x = nc σ x a c l := by
  funext k i; unfold nc rp
  by_cases h : k = 4 ∧ i = 0 <;> simp [h]
theorem nc_r4 (σ : SS) (b a c l : Nat → Int32) : (nc σ b a c l) 4 0 = b := rfl
theorem nc_17 (σ : SS) (b a c l x : Nat → Int32) : rp (nc σ b a c l) 17 0 x = nc σ b x c l := by
  funext k i; unfold nc rp
  by_cases h : k = 17 ∧ i = 0 <;> simp [h]
theorem nc_r17 (σ : SS) (b a c l : Nat → Int32) : (nc σ b a c l) 17 0 = a := rfl
theorem nc_18 (σ : SS) (b a c l x : Nat → Int32) : rp (nc σ b a c l) 18 0 x = nc σ b a x l := by
  funext k i; unfold nc rp
  by_cases h : k = 18 ∧ i = 0 <;> simp [h]
theorem nc_r18 (σ : SS) (b a c l : Nat → Int32) : (nc σ b a c l) 18 0 = c := rfl
theorem nc_19 (σ : SS) (b a c l x : Nat → Int32) : rp (nc σ b a c l) 19 0 x = nc σ b a c x := by
  funext k i; unfold nc rp
  by_cases h : k = 19 ∧ i = 0 <;> simp [h]
theorem nc_r19 (σ : SS) (b a c l : Nat → Int32) : (nc σ b a c l) 19 0 = l := rfl
theorem nc_o {σ : SS} {b a c l : Nat → Int32} {k i : Nat} (h : k ≠ 4 ∧ k ≠ 17 ∧ k ≠ 18 ∧ k ≠ 19) : (nc σ b a c l) k i = σ k i := by
  unfold nc rp; simp [h]
theorem nc_self (σ : SS) : nc σ (σ 4 0) (σ 17 0) (σ 18 0) (σ 19 0) = σ := by
  unfold nc
  rw [rp_self, rp_self, rp_self, rp_self]
def nt (σ : SS) (b v l e r s w : Nat → Int32) : SS := rp (rp (rp (rp (rp (rp (rp σ 4 0 b) 11 0 v) 12 0 l) 13 0 e) 14 0 r) 15 0 s) 16 0 w
theorem nt_4 (σ : SS) (b v l e r s w x : Nat → Int32) : rp (nt σ b v l e r s w) 4 0 x = nt σ x v l e r s w := by
  funext k i; unfold nt rp
  by_cases h : k = 4 ∧ i = 0 <;> simp [h]
theorem nt_r4 (σ : SS) (b v l e r s w : Nat → Int32) : (nt σ b v l e r s w) 4 0 = b := rfl
theorem nt_11 (σ : SS) (b v l e r s w x : Nat → Int32) : rp (nt σ b v l e r s w) 11 0 x = nt σ b x l e r s w := by
  funext k i; unfold nt rp
  by_cases h : k = 11 ∧ i = 0 <;> simp [h]
theorem nt_r11 (σ : SS) (b v l e r s w : Nat → Int32) : (nt σ b v l e r s w) 11 0 = v := rfl
theorem nt_12 (σ : SS) (b v l e r s w x : Nat → Int32) : rp (nt σ b v l e r s w) 12 0 x = nt σ b v x e r s w := by
  funext k i; unfold nt rp
  by_cases h : k = 12 ∧ i = 0 <;> simp [h]
theorem nt_r12 (σ : SS) (b v l e r s w : Nat → Int32) : (nt σ b v l e r s w) 12 0 = l := rfl
theorem nt_13 (σ : SS) (b v l e r s w x : Nat → Int32) : rp (nt σ b v l e r s w) 13 0 x = nt σ b v l x r s w := by
  funext k i; unfold nt rp
  by_cases h : k = 13 ∧ i = 0 <;> simp [h]
theorem nt_r13 (σ : SS) (b v l e r s w : Nat → Int32) : (nt σ b v l e r s w) 13 0 = e := rfl
theorem nt_14 (σ : SS) (b v l e r s w x : Nat → Int32) : rp (nt σ b v l e r s w) 14 0 x = nt σ b v l e x s w := by
  funext k i; unfold nt rp
  by_cases h : k = 14 ∧ i = 0 <;> simp [h]
theorem nt_r14 (σ : SS) (b v l e r s w : Nat → Int32) : (nt σ b v l e r s w) 14 0 = r := rfl
theorem nt_15 (σ : SS) (b v l e r s w x : Nat → Int32) : rp (nt σ b v l e r s w) 15 0 x = nt σ b v l e r x w := by
  funext k i; unfold nt rp
  by_cases h : k = 15 ∧ i = 0 <;> simp [h]
theorem nt_r15 (σ : SS) (b v l e r s w : Nat → Int32) : (nt σ b v l e r s w) 15 0 = s := rfl
theorem nt_16 (σ : SS) (b v l e r s w x : Nat → Int32) : rp (nt σ b v l e r s w) 16 0 x = nt σ b v l e r s x := by
  funext k i; unfold nt rp
  by_cases h : k = 16 ∧ i = 0 <;> simp [h]
theorem nt_r16 (σ : SS) (b v l e r s w : Nat → Int32) : (nt σ b v l e r s w) 16 0 = w := rfl
theorem nt_o {σ : SS} {b v l e r s w : Nat → Int32} {k i : Nat} (h : k ≠ 4 ∧ k ≠ 11 ∧ k ≠ 12 ∧ k ≠ 13 ∧ k ≠ 14 ∧ k ≠ 15 ∧ k ≠ 16) : (nt σ b v l e r s w) k i = σ k i := by
  unfold nt rp; simp [h]
theorem nt_self (σ : SS) : nt σ (σ 4 0) (σ 11 0) (σ 12 0) (σ 13 0) (σ 14 0) (σ 15 0) (σ 16 0) = σ := by
  unfold nt
  rw [rp_self, rp_self, rp_self, rp_self, rp_self, rp_self, rp_self]
/-- room of the last i tanks -/
def rmS (vol : Nat → Int32) (n i : Nat) : Int32 := lp i (fun j a => a + vol (n - 1 - j)) 0
theorem rmS_s (vol : Nat → Int32) (n i : Nat) : rmS vol n (i + 1) = rmS vol n i + vol (n - 1 - i) := rfl
/-- cargo j is noted -/
abbrev ncP (σ : SS) (cn : Nat) (a c l : Nat → Int32) (j : Nat) : Prop := a j = σ 10 j 1 ∧ c j = setI cn (fun e => clB (vw σ) j e = true) ∧ l j = σ 10 j 1
/-- tank t is noted -/
abbrev ntP (σ : SS) (n cn : Nat) (v l e r s w : Nat → Int32) (t : Nat) : Prop := v t = σ 8 t 0 ∧ l t = σ 8 t 2 ∧ e t = σ 8 t 3 ∧ r t = rmS (fun u => σ 8 u 0) n (n - t) ∧ s t = setI cn (fun c => whyS (vw σ) t c = 0) ∧ ∀ c, c < cn → w (4 * t + c) = wfS (vw σ) t c
/-- the search is done: σ was the state, σ1 is -/
def SDn (σ σ1 : SS) (n cn : Nat) : Prop := ∃ σT : SS, (∀ k i, k ≠ 4 → ¬ (11 ≤ k ∧ k ≤ 27) → σT k i = σ k i) ∧ (∀ k i, k ≠ 0 → k ≠ 4 → ¬ (11 ≤ k ∧ k ≤ 27) → σ1 k i = σ k i) ∧ σ1 0 0 = upd (σ 0 0) 11 1 ∧ (∀ i, i ≠ 0 → σ1 0 i = σ 0 i) ∧
  σT 4 0 0 = nI n ∧ σT 4 0 1 = nI cn ∧ σT 4 0 2 = σ 0 0 9 ∧ (∀ j, j < cn → ncP σ cn (σT 17 0) (σT 18 0) (σT 19 0) j) ∧ (∀ t, t < n → ntP σ n cn (σT 11 0) (σT 12 0) (σT 13 0) (σT 14 0) (σT 15 0) (σT 16 0) t) ∧ (∀ s, s < 16 → σT 22 0 s = 0) ∧
  (σ1 22 0, σ1 23 0, σ1 24 0, σ1 25 0, σ1 26 0, σ1 27 0) = fdC σT n (σT 22 0, σT 23 0, σT 24 0, σT 25 0, σT 26 0, σT 27 0) (tvL σT n cn n 0 (σT 19 0) (σT 20 0) (σT 21 0) 0 0)
def SRn (σ σ1 : SS) (n cn : Nat) : Prop := (¬ σ 0 0 11 = 0 ∧ σ1 = σ) ∨ (σ 0 0 11 = 0 ∧ SDn σ σ1 n cn)
theorem upd_i {f : Nat → Int32} {i : Nat} {x y : Int32} (h : x = y) : upd f i x i = y := by rw [pk_us, h]
theorem rp_self2b {σ : SS} {k1 k2 k : Nat} {f g : Nat → Int32} (h1 : ¬ k = k1) (h2 : ¬ k = k2) : rp (rp (rp σ k1 0 f) k2 0 g) k 0 (σ k 0) = rp (rp σ k1 0 f) k2 0 g := by
  funext a b
  by_cases h : a = k ∧ b = 0
  · obtain ⟨rfl, rfl⟩ := h; simp [rp, h1, h2]
  · simp [rp, h]
theorem rp_self2c {σ : SS} {k1 k2 k3 k : Nat} {f g e : Nat → Int32} (h1 : ¬ k = k1) (h2 : ¬ k = k2) (h3 : ¬ k = k3) : rp (rp (rp (rp σ k1 0 f) k2 0 g) k3 0 e) k 0 (σ k 0) = rp (rp (rp σ k1 0 f) k2 0 g) k3 0 e := by
  funext a b
  by_cases h : a = k ∧ b = 0
  · obtain ⟨rfl, rfl⟩ := h; simp [rp, h1, h2, h3]
  · simp [rp, h]
theorem nt_start (σ : SS) (b : Nat → Int32) : rp σ 4 0 b = nt σ b (σ 11 0) (σ 12 0) (σ 13 0) (σ 14 0) (σ 15 0) (σ 16 0) := by
  have h := nt_self (rp σ 4 0 b)
  have e : ∀ k, ¬ k = 4 → (rp σ 4 0 b) k 0 = σ k 0 := fun k hk => rp_nk hk
  rw [rp_at, e 11 (by decide), e 12 (by decide), e 13 (by decide), e 14 (by decide), e 15 (by decide), e 16 (by decide)] at h
  rw [← h]
  unfold nt
  rw [rp_rp]
/-- the taken set, as the class finds it: the set, and its amounts -/
def tcS (σ : SS) (cn k : Nat) : Nat × Int32 := lp k (fun i b => if 0 < σ 22 0 (i + 1) ∧ (b.2 < amS (vw σ) (nI (i + 1)) cn ∨ (amS (vw σ) (nI (i + 1)) cn = b.2 ∧ nI (pc4 (i + 1)) < nI (pc4 b.1))) then (i + 1, amS (vw σ) (nI (i + 1)) cn) else b) (0, 0)
theorem tcS_s (σ : SS) (cn k : Nat) : tcS σ cn (k + 1) = if 0 < σ 22 0 (k + 1) ∧ ((tcS σ cn k).2 < amS (vw σ) (nI (k + 1)) cn ∨ (amS (vw σ) (nI (k + 1)) cn = (tcS σ cn k).2 ∧ nI (pc4 (k + 1)) < nI (pc4 (tcS σ cn k).1))) then (k + 1, amS (vw σ) (nI (k + 1)) cn) else tcS σ cn k := rfl
theorem tcS_le (σ : SS) (cn : Nat) : ∀ k, (tcS σ cn k).1 ≤ k
  | 0 => Nat.le_refl 0
  | k + 1 => by
    rw [tcS_s]
    have := tcS_le σ cn k
    split
    · exact Nat.le_refl _
    · omega
/-- what the class holds after loading row s -/
def lcS (σ : SS) (n s : Nat) (i : Nat) : SS := lp i (fun t x => rp x 8 t (upd (upd (x 8 t) 5 (σ 26 0 (6 * s + t))) 6 (σ 27 0 (6 * s + t)))) σ
theorem lcS_s (σ : SS) (n s i : Nat) : lcS σ n s (i + 1) = rp (lcS σ n s i) 8 i (upd (upd ((lcS σ n s i) 8 i) 5 (σ 26 0 (6 * s + i))) 6 (σ 27 0 (6 * s + i))) := rfl
theorem lcS_k {σ : SS} {n s k j : Nat} (h : k ≠ 8) : ∀ i, lcS σ n s i k j = σ k j
  | 0 => rfl
  | i + 1 => by rw [lcS_s, rp_nk h, lcS_k h i]
theorem lcS_i {σ : SS} {n s j : Nat} : ∀ i, i ≤ j → lcS σ n s i 8 j = σ 8 j
  | 0, _ => rfl
  | i + 1, h => by rw [lcS_s, rp_ne (fun z => by omega), lcS_i i (by omega)]
theorem bw_ix2 {w : Int32} {n k : Nat} (hk : k < 100) (hn : n ≤ 6) : ixn (w - nI k) n ↔ ∃ t, t < n ∧ w = nI (k + t) := by
  constructor
  · intro z
    obtain ⟨t, ht, et⟩ := ixn_of z (by omega)
    refine ⟨t, ht, ?_⟩
    rw [← nI_add, ← et, Int32.add_comm, Int32.sub_add_cancel]
  · rintro ⟨t, ht, rfl⟩
    rw [pk_sub (by omega), Nat.add_sub_cancel_left]
    exact (ixn_nI (by omega)).mpr ht
