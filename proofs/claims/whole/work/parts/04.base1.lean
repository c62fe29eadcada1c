/-! ===== worlds by kinds: a state is a row of ints for each object; AW: the walk of a method over such a state ===== -/
abbrev AV : Type := Int32 ⊕ (Nat × Nat)
abbrev SS : Type := Nat → Nat → Nat → Int32
abbrev AD : Type := Nat → Nat → Nat
/-- a kind: objects of a class (a field: none an int, some k the object of kind k of the same number), int rows of a length, or a row of all objects of a kind -/
abbrev ax_Sh : Type := (Nat × List (Option Nat)) ⊕ (Nat ⊕ (Nat × Nat))
def ax_va (ad : AD) (v : AV) : Value := match v with
  | .inl x => .int x
  | .inr q => .ref (ad q.1 q.2)
def ax_sh : Nat → ax_Sh := fun k => match k with
  | 0 => .inl (3, [some 1, some 2, some 3, some 4, some 5, some 6, some 7, none, none, none, none, none])
  | 1 => .inr (.inr (8, 1))
  | 2 => .inr (.inr (10, 2))
  | 3 => .inr (.inl 64)
  | 4 => .inl (1, [none, none, none, some 11, some 12, some 13, some 14, some 15, some 16, some 17, some 18, some 19, some 20, some 21, some 22, some 23, some 24, some 25, some 26, some 27])
  | 5 => .inr (.inl 6)
  | 6 => .inr (.inl 6)
  | 7 => .inr (.inl 4)
  | 8 => .inl (2, [none, none, none, none, some 9, none, none])
  | 9 => .inr (.inl 3)
  | 10 => .inl (0, [none, none, none, none, none, none])
  | 11 => .inr (.inl 6)
  | 12 => .inr (.inl 6)
  | 13 => .inr (.inl 6)
  | 14 => .inr (.inl 6)
  | 15 => .inr (.inl 6)
  | 16 => .inr (.inl 24)
  | 17 => .inr (.inl 4)
  | 18 => .inr (.inl 4)
  | 19 => .inr (.inl 4)
  | 20 => .inr (.inl 6)
  | 21 => .inr (.inl 6)
  | 22 => .inr (.inl 16)
  | 23 => .inr (.inl 16)
  | 24 => .inr (.inl 16)
  | 25 => .inr (.inl 16)
  | 26 => .inr (.inl 96)
  | 27 => .inr (.inl 96)
  | 28 => .inl (4, [none, some 29, some 30, some 31, some 32, some 33, some 34, some 35, some 36, none, some 37, some 38, some 39, some 40, some 41, some 42, some 43, none, some 44, some 45, none, none, none, some 46, some 47, none])
  | 29 => .inr (.inl 6)
  | 30 => .inr (.inl 6)
  | 31 => .inr (.inl 6)
  | 32 => .inr (.inl 6)
  | 33 => .inr (.inl 18)
  | 34 => .inr (.inl 6)
  | 35 => .inr (.inl 6)
  | 36 => .inr (.inl 6)
  | 37 => .inr (.inl 4)
  | 38 => .inr (.inl 4)
  | 39 => .inr (.inl 4)
  | 40 => .inr (.inl 4)
  | 41 => .inr (.inl 4)
  | 42 => .inr (.inl 4)
  | 43 => .inr (.inl 64)
  | 44 => .inr (.inl 6)
  | 45 => .inr (.inl 6)
  | 46 => .inr (.inl 6)
  | 47 => .inr (.inl 5)
  | _ => .inr (.inl 0)
def ax_cnt : Nat → Nat := fun k => match k with
  | 8 => 6
  | 9 => 6
  | 10 => 4
  | k => if k < 48 then 1 else 0
theorem ax_cnt48 {k i : Nat} (h : i < ax_cnt k) : k < 48 := by
  rcases Nat.lt_or_ge k 48 with q | q
  · exact q
  · have e : ax_cnt k = 0 := by
      unfold ax_cnt
      split
      · omega
      · omega
      · omega
      · rw [if_neg (by omega)]
    omega
def ax_wl : List (Nat × Nat) := (List.range 48).flatMap (fun k => (List.range (ax_cnt k)).map (fun i => (k, i)))
theorem ax_wl_mem {k i : Nat} : (k, i) ∈ ax_wl ↔ i < ax_cnt k := by
  unfold ax_wl
  constructor
  · intro h
    obtain ⟨a, ha, hb⟩ := List.mem_flatMap.mp h
    obtain ⟨b, hb, e⟩ := List.mem_map.mp hb
    cases e
    exact List.mem_range.mp hb
  · intro h
    exact List.mem_flatMap.mpr ⟨k, List.mem_range.mpr (ax_cnt48 h), List.mem_map.mpr ⟨i, List.mem_range.mpr h, rfl⟩⟩
theorem ax_wl_nd : ax_wl.Nodup := by decide +kernel
theorem ax_wl_inj {n m : Nat} {q : Nat × Nat} (h : ax_wl[n]? = some q) (h2 : ax_wl[m]? = some q) : n = m := by
  exact (List.getElem?_inj (List.getElem?_eq_some_iff.mp h).1 ax_wl_nd).mp (h.trans h2.symm)
def ax_f1 (ad : AD) (r : Nat → Int32) (i : Nat) (f : Option Nat) (j : Nat) : Value := match f with
  | none => .int (r j)
  | some k => .ref (ad k i)
def ax_fs (ad : AD) (r : Nat → Int32) (i : Nat) : Nat → List (Option Nat) → List Value
  | _, [] => []
  | j, f :: fs => ax_f1 ad r i f j :: ax_fs ad r i (j + 1) fs
theorem ax_fs_get (ad : AD) (r : Nat → Int32) (i : Nat) : ∀ (fs : List (Option Nat)) (j0 j : Nat), (ax_fs ad r i j0 fs)[j]? = fs[j]?.map (fun f => ax_f1 ad r i f (j0 + j))
  | [], j0, j => by simp [ax_fs]
  | f :: fs, j0, 0 => by simp [ax_fs]
  | f :: fs, j0, j + 1 => by
    have := ax_fs_get ad r i fs (j0 + 1) j
    simp only [ax_fs, List.getElem?_cons_succ]
    rw [this, show j0 + 1 + j = j0 + (j + 1) by omega]
theorem ax_fs_len (ad : AD) (r : Nat → Int32) (i : Nat) : ∀ (fs : List (Option Nat)) (j0 : Nat), (ax_fs ad r i j0 fs).length = fs.length
  | [], _ => rfl
  | _ :: fs, j0 => by simp [ax_fs, ax_fs_len ad r i fs (j0 + 1)]
theorem ax_fs_set {ad : AD} {r : Nat → Int32} {i j : Nat} {fs : List (Option Nat)} {v : Int32} (h : fs[j]? = some none) : (ax_fs ad r i 0 fs).set j (.int v) = ax_fs ad (upd r j v) i 0 fs := by
  have hl : j < fs.length := (List.getElem?_eq_some_iff.mp h).1
  apply List.ext_getElem?
  intro m
  by_cases hm : m = j
  · subst hm
    rw [List.getElem?_set_self (by rw [ax_fs_len]; exact hl), ax_fs_get, h]
    simp [ax_f1, upd]
  · rw [List.getElem?_set_ne (Ne.symm hm), ax_fs_get, ax_fs_get]
    cases fs[m]? with
    | none => rfl
    | some f => cases f <;> simp [ax_f1, upd, hm]
def ax_ce (cy : Nat → ClassId) (ad : AD) (r : Nat → Int32) (k i : Nat) : va_E := match ax_sh k with
  | .inl o => .inr (o.1, ax_fs ad r i 0 o.2)
  | .inr (.inl n) => .inl (cy 0, n, .inl r)
  | .inr (.inr q) => .inl (cy q.2, ax_cnt q.1, .inr (.inr (.inr (.inr (fun j => some (ad q.1 j))))))
/-- the cells of a state -/
def ax_w (cy : Nat → ClassId) (ad : AD) (σ : SS) : va_W := ax_wl.map (fun q => (ad q.1 q.2, ax_ce cy ad (σ q.1 q.2) q.1 q.2))
def rp (σ : SS) (k i : Nat) (f : Nat → Int32) : SS := fun k' i' => if k' = k ∧ i' = i then f else σ k' i'
theorem rp_at (σ : SS) (k i : Nat) (f : Nat → Int32) : rp σ k i f k i = f := by simp [rp]
theorem rp_ne {σ : SS} {k i k' i' : Nat} {f : Nat → Int32} (h : ¬ (k' = k ∧ i' = i)) : rp σ k i f k' i' = σ k' i' := by simp [rp, h]
theorem rp_nk {σ : SS} {k i k' i' : Nat} {f : Nat → Int32} (h : ¬ k' = k) : rp σ k i f k' i' = σ k' i' := by simp [rp, h]
theorem rp_rp (σ : SS) (k i : Nat) (f g : Nat → Int32) : rp (rp σ k i f) k i g = rp σ k i g := by
  funext a b
  by_cases h : a = k ∧ b = i <;> simp [rp, h]
theorem rp_self (σ : SS) (k i : Nat) : rp σ k i (σ k i) = σ := by
  funext a b
  by_cases h : a = k ∧ b = i
  · obtain ⟨rfl, rfl⟩ := h; simp [rp]
  · simp [rp, h]
theorem ax_w_get {cy : Nat → ClassId} {ad : AD} {σ : SS} {k i : Nat} (h : i < ax_cnt k) : ∃ n : Nat, ax_wl[n]? = some (k, i) ∧ (ax_w cy ad σ)[n]? = some (ad k i, ax_ce cy ad (σ k i) k i) := by
  obtain ⟨n, hn⟩ := List.getElem?_of_mem (ax_wl_mem.mpr h)
  exact ⟨n, hn, by rw [ax_w, List.getElem?_map, hn]; rfl⟩
theorem ax_w_set {cy : Nat → ClassId} {ad : AD} {σ : SS} {k i n : Nat} (f : Nat → Int32) (h : ax_wl[n]? = some (k, i)) : (ax_w cy ad σ).set n (ad k i, ax_ce cy ad f k i) = ax_w cy ad (rp σ k i f) := by
  have hl : n < ax_wl.length := (List.getElem?_eq_some_iff.mp h).1
  apply List.ext_getElem?
  intro m
  by_cases hm : m = n
  · subst hm
    rw [List.getElem?_set_self (by rw [ax_w, List.length_map]; exact hl), ax_w, List.getElem?_map, h]
    simp [rp_at]
  · rw [List.getElem?_set_ne (Ne.symm hm), ax_w, ax_w, List.getElem?_map, List.getElem?_map]
    cases hq : ax_wl[m]? with
    | none => rfl
    | some q =>
      have hne : ¬ (q.1 = k ∧ q.2 = i) := fun z => hm (ax_wl_inj hq (by rw [h, ← z.1, ← z.2]))
      simp [rp_ne hne]
def ax_ap (ad : AD) : Prop := ∀ k i k' i', i < ax_cnt k → i' < ax_cnt k' → ad k i = ad k' i' → k = k' ∧ i = i'
def ax_A (ad : AD) : Nat → Prop := fun q => ∃ k i, i < ax_cnt k ∧ q = ad k i
theorem ax_D {cy : Nat → ClassId} {ad : AD} {σ : SS} (h : ax_ap ad) : va_D (ax_A ad) (ax_w cy ad σ) := by
  have key : ∀ (n : Nat) (q : Nat × va_E), (ax_w cy ad σ)[n]? = some q → ∃ k i, ax_wl[n]? = some (k, i) ∧ q.1 = ad k i := by
    intro n q hq
    rw [ax_w, List.getElem?_map] at hq
    cases hz : ax_wl[n]? with
    | none => rw [hz] at hq; cases hq
    | some z => rw [hz] at hq; cases hq; exact ⟨z.1, z.2, rfl, rfl⟩
  refine ⟨fun a b x y hx hy hxy => ?_, fun n q hq => ?_⟩
  · obtain ⟨k, i, h1, h2⟩ := key a x hx
    obtain ⟨k', i', h3, h4⟩ := key b y hy
    obtain ⟨rfl, rfl⟩ := h k i k' i' (ax_wl_mem.mp (List.mem_of_getElem? h1)) (ax_wl_mem.mp (List.mem_of_getElem? h3)) (h2.symm.trans (hxy.trans h4))
    exact ax_wl_inj h1 h3
  · obtain ⟨k, i, h1, h2⟩ := key n q hq
    exact ⟨k, i, ax_wl_mem.mp (List.mem_of_getElem? h1), h2⟩
-- the words
def ax_GW : List Cond := lw_tbl.filter goodWord
def ax_isN (w : Cond) : Bool := match w with
  | .fieldLinkNest .. => true
  | .methodLinkNest .. => true
  | _ => false
def ax_NW : List Cond := tables_1.filter ax_isN
theorem ax_nw_onTables {w : Cond} (h : w ∈ ax_NW) : w.onTables = true := by
  have h1 := (List.mem_filter.mp h).2
  cases w <;> first | rfl | simp [ax_isN] at h1
theorem ax_nw_warm {w : Cond} (h : w ∈ ax_NW) {s U : State} (hW : s.WarmedH U.vm) (hZ : va_Nw w s) : va_Nw w U := by
  have h1 := (List.mem_filter.mp h).2
  cases w <;> first | exact va_Nw.warmF hW hZ | exact va_Nw.warmM hW hZ | simp [ax_isN] at h1
abbrev ax_M : Type := MethodName × ByteArray × Nat × Option FieldType
abbrev ax_cw (M : ax_M) : Cond := .code M.1 M.2.1 M.2.2.1 M.2.2.2
def ax_ws (M : ax_M) : List Cond := .code M.1 M.2.1 M.2.2.1 M.2.2.2 :: ax_GW
theorem ax_good {M M' : ax_M} (h : ax_cw M' ∈ ax_GW) : GoodIn (ax_ws M) (ax_ws M') := by
  have key : ∀ w ∈ ax_GW, w ∈ ax_ws M ∧ ((w.onTables && w.keeps) = true ∨ ∃ ty, w = .arrayClass ty) := fun w hw => ⟨List.mem_cons_of_mem _ hw, good_of_word (List.mem_filter.mp hw).2⟩
  intro w hw
  rcases List.mem_cons.mp hw with rfl | hw
  · exact key _ h
  · exact key w hw
theorem ax_gw {w : Cond} (n : Nat) (h : lw_tbl[n]? = some w) (hg : goodWord w = true) : w ∈ ax_GW := List.mem_filter.mpr ⟨List.mem_of_getElem? h, hg⟩
theorem ax_nw {w : Cond} (n : Nat) (h : tables_1[n]? = some w) (hg : ax_isN w = true) : w ∈ ax_NW := List.mem_filter.mpr ⟨List.mem_of_getElem? h, hg⟩
abbrev ax_cl : List vw_C := [(RX0, TX0, 6), (RX1, TX1, 20), (RX2, TX2, 7), (RX3, TX3, 12), (RX4, TX4, 26)]
def ax_ty (cy : Nat → ClassId) : List (ClassId × FieldType) := [(cy 0, .int), (cy 1, .object RX2), (cy 2, .object RX0)]
/-- what a state of the machine must have beside the cells -/
def ax_St (D : va_G) (cy : Nat → ClassId) (ad : AD) (U : State) : Prop := va_K D ax_cl (ax_ty cy) U ∧ (∀ w ∈ ax_NW, va_Nw w U) ∧ ax_ap ad
theorem ax_St.warm {D : va_G} {cy : Nat → ClassId} {ad : AD} {s U : State} (h : ax_St D cy ad s) (hW : s.WarmedH U.vm) : ax_St D cy ad U := ⟨va_K.moved hW.alike h.1, fun w hw => ax_nw_warm hw hW (h.2.1 w hw), h.2.2⟩
def ax_ok (v : AV) : Prop := match v with
  | .inl _ => True
  | .inr q => q.2 < ax_cnt q.1
def ax_lv (ad : AD) : Nat → List (Option AV) → List (Nat × Value)
  | _, [] => []
  | j, none :: l => ax_lv ad (j + 1) l
  | j, some v :: l => (j, ax_va ad v) :: ax_lv ad (j + 1) l
theorem ax_lv_mem {ad : AD} {q : Nat × Value} : ∀ (l : List (Option AV)) (j : Nat), q ∈ ax_lv ad j l ↔ ∃ n v, l[n]? = some (some v) ∧ q = (j + n, ax_va ad v)
  | [], j => by simp [ax_lv]
  | none :: l, j => by
    rw [ax_lv, ax_lv_mem l (j + 1)]
    constructor
    · rintro ⟨n, v, h, e⟩
      exact ⟨n + 1, v, by simpa using h, by rw [e, show j + 1 + n = j + (n + 1) by omega]⟩
    · rintro ⟨n, v, h, e⟩
      cases n with
      | zero => simp at h
      | succ n => exact ⟨n, v, by simpa using h, by rw [e, show j + (n + 1) = j + 1 + n by omega]⟩
  | some w :: l, j => by
    rw [ax_lv, List.mem_cons, ax_lv_mem l (j + 1)]
    constructor
    · rintro (e | ⟨n, v, h, e⟩)
      · exact ⟨0, w, by simp, by simpa using e⟩
      · exact ⟨n + 1, v, by simpa using h, by rw [e, show j + 1 + n = j + (n + 1) by omega]⟩
    · rintro ⟨n, v, h, e⟩
      cases n with
      | zero =>
        simp only [List.getElem?_cons_zero, Option.some.injEq] at h
        subst h
        exact Or.inl (by simpa using e)
      | succ n => exact Or.inr ⟨n, v, by simpa using h, by rw [e, show j + (n + 1) = j + 1 + n by omega]⟩
/-- the locals -/
def ax_L (ad : AD) (nL : Nat) (lsA : Array Slot) (ls : List (Option AV)) : Prop := lv_has lsA nL (ax_lv ad 0 ls) ∧ ∀ v, some v ∈ ls → ax_ok v
theorem ax_va_cat (ad : AD) (v : AV) : (ax_va ad v).category = 1 := by
  cases v <;> rfl
theorem ax_L.get {ad : AD} {nL : Nat} {lsA : Array Slot} {ls : List (Option AV)} (h : ax_L ad nL lsA ls) {n : Nat} {v : AV} (hv : ls[n]? = some (some v)) : lsA[n]? = some (.val (ax_va ad v)) ∧ ax_ok v :=
  ⟨h.1.2.2 (n, ax_va ad v) ((ax_lv_mem ls 0).mpr ⟨n, v, hv, by simp⟩), h.2 v (List.mem_of_getElem? hv)⟩
theorem ax_L.set {ad : AD} {nL : Nat} {lsA : Array Slot} {ls : List (Option AV)} (i : Nat) (v : AV) (hv : ax_ok v) (hls : ∀ v, some v ∈ ls → ax_ok v) (h : lv_has lsA nL ((i, ax_va ad v) :: (ax_lv ad 0 ls).filter (fun q => !(q.1 == i) && !(q.1 + 1 == i && q.2.category == 2)))) : ax_L ad nL lsA (ls.set i (some v)) := by
  refine ⟨⟨h.1, h.2.1, fun q hq => h.2.2 q ?_⟩, fun w hw => ?_⟩
  · obtain ⟨n, w, hn, rfl⟩ := (ax_lv_mem _ 0).mp hq
    by_cases hi : i = n
    · subst hi
      have hlt : i < (ls.set i (some v)).length := (List.getElem?_eq_some_iff.mp hn).1
      rw [List.length_set] at hlt
      rw [List.getElem?_set_self hlt] at hn
      cases hn
      exact List.mem_cons.mpr (Or.inl (by simp))
    · rw [List.getElem?_set_ne hi] at hn
      refine List.mem_cons_of_mem _ (List.mem_filter.mpr ⟨(ax_lv_mem ls 0).mpr ⟨n, w, hn, rfl⟩, ?_⟩)
      have hc := ax_va_cat ad w
      simp [hc]
      omega
  · rcases List.mem_or_eq_of_mem_set hw with h1 | h1
    · exact hls w h1
    · cases h1; exact hv
abbrev ax_K : Type := Option Int32 → SS → Prop
/-- a method's end -/
def ax_Q (D : va_G) (cy : Nat → ClassId) (ad : AD) (K : ax_K) : Array Value → State → Outcome → State → Prop := fun _ st o t => (∃ (r : Option Int32) (σ : SS), o = .returned (r.map Value.int) ∧ K r σ ∧ va_P D ax_cl (ax_w cy ad σ) t.heap) ∧ va_F (ax_A ad) st t
/-- the surroundings of a walk -/
def ax_C (d : Nat) (M : ax_M) (p : Program) (R : Room) (s : State) (m : MethodId) (args : Array Value) (meth : Method) (c : Code) (D : va_G) (cy : Nat → ClassId) (ad : AD) : Prop :=
  p.tables.exec = Jvm.exec ∧ c.code = M.2.1 ∧ meth.sig.returnType = M.2.2.2 ∧ c.maxLocals = M.2.2.1 ∧ meth.locks = false ∧ s.vm.findClass M.1.cls = some m.cls ∧ (∀ w ∈ ax_ws M, w.before args s = true) ∧ ax_St D cy ad s ∧ d ≤ R.frames ∧ 64 * d ≤ R.locals
/-- THE WALK: from here, with these locals, this stack and this state, the method comes to its end, its answer and the state then being as K says; d calls may stand open above it -/
def AW (d : Nat) (M : ax_M) (pc : Nat) (ls : List (Option AV)) (st : List AV) (σ : SS) (K : ax_K) : Prop :=
  ∀ (p : Program) (l : Launch) (e : Env) (R : Room) (s : State) (m : MethodId) (args : Array Value) (below : List Frame) (meth : Method) (c : Code) (D : va_G) (cy : Nat → ClassId) (ad : AD) (H : Heap) (locs : List Loc) (lsA : Array Slot),
    ax_C d M p R s m args meth c D cy ad → ax_L ad M.2.2.1 lsA ls → (∀ v ∈ st, ax_ok v) → va_P D ax_cl (ax_w cy ad σ) H → va_S (ax_A ad) s.heap H locs →
    W p l e R s m args below meth c H locs 0 0 (MQ below (ax_Q D cy ad K) args s 0 0 (ax_A ad)) (F0 m pc lsA (st.map (ax_va ad)))
