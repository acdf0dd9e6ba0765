/-! THE ABSTRACT MACHINE. A value: a cell of the world by its number, an int, a long; none: nothing known. A heap: all ints by (cell, place), all longs by (cell, place); what refers to what is fixed (ksh). -/
abbrev kV : Type := Option (Nat ⊕ (Int32 ⊕ Int64))
abbrev ku : kV := none
abbrev kr (n : Nat) : kV := some (.inl n)
abbrev ki (x : Int32) : kV := some (.inr (.inl x))
abbrev kl (x : Int64) : kV := some (.inr (.inr x))
abbrev kH : Type := (Nat → Nat → Int32) × (Nat → Nat → Int64)
abbrev kM : Type := MethodName × ByteArray × Nat × Option FieldType × Nat × Nat
def cv (a : Nat → Nat) : kV → Value
  | some (.inl n) => .ref (a n)
  | some (.inr (.inl x)) => .int x
  | some (.inr (.inr x)) => .long x
  | none => .null
def kcat : kV → Nat
  | some (.inr (.inr _)) => 2
  | _ => 1
theorem kcat_cv (a : Nat → Nat) (v : kV) : (cv a v).category = kcat v := by
  rcases v with _ | n | x | x <;> rfl
/-- locals by their places -/
def lvl (a : Nat → Nat) : Nat → List kV → List (Nat × Value)
  | _, [] => []
  | i, none :: r => lvl a (i + 1) r
  | i, some v :: r => (i, cv a (some v)) :: lvl a (i + 1) r
theorem lvl_mem {a : Nat → Nat} {q : Nat × Value} : ∀ {ls : List kV} {i : Nat}, q ∈ lvl a i ls ↔ ∃ (k : Nat) (v : Nat ⊕ (Int32 ⊕ Int64)), ls[k]? = some (some v) ∧ q = (i + k, cv a (some v))
  | [], i => by simp [lvl]
  | none :: r, i => by
    rw [lvl, lvl_mem (ls := r)]
    constructor
    · rintro ⟨k, v, h1, h2⟩
      exact ⟨k + 1, v, by simpa using h1, by rw [h2, Nat.add_assoc, Nat.add_comm 1 k]⟩
    · rintro ⟨k, v, h1, h2⟩
      cases k with
      | zero => simp at h1
      | succ k => exact ⟨k, v, by simpa using h1, by rw [h2, Nat.add_assoc, Nat.add_comm 1 k]⟩
  | some x :: r, i => by
    rw [lvl, List.mem_cons, lvl_mem (ls := r)]
    constructor
    · rintro (h | ⟨k, v, h1, h2⟩)
      · exact ⟨0, x, by simp, by rw [h, Nat.add_zero]⟩
      · exact ⟨k + 1, v, by simpa using h1, by rw [h2, Nat.add_assoc, Nat.add_comm 1 k]⟩
    · rintro ⟨k, v, h1, h2⟩
      cases k with
      | zero => simp at h1; subst h1; exact Or.inl (by rw [h2, Nat.add_zero])
      | succ k => exact Or.inr ⟨k, v, by simpa using h1, by rw [h2, Nat.add_assoc, Nat.add_comm 1 k]⟩
theorem lvl_get {a : Nat → Nat} {lsA : Array Slot} {n k : Nat} {ls : List kV} {v : Nat ⊕ (Int32 ⊕ Int64)} (h : lv_has lsA n (lvl a 0 ls)) (hk : ls[k]? = some (some v)) : lsA[k]? = some (.val (cv a (some v))) :=
  h.2.2 (k, cv a (some v)) (lvl_mem.mpr ⟨k, v, hk, by rw [Nat.zero_add]⟩)
def kunl : kV → kV
  | some (.inr (.inr _)) => none
  | v => v
def kset1 : List kV → Nat → kV → List kV
  | [], _, _ => []
  | _ :: r, 0, v => v :: r
  | w :: r, 1, v => kunl w :: kset1 r 0 v
  | w :: r, i + 2, v => w :: kset1 r (i + 1) v
def kset2 : List kV → Nat → kV → List kV
  | [], _, _ => []
  | [_], 0, _ => []
  | _ :: _ :: r, 0, v => v :: none :: r
  | w :: r, 1, v => kunl w :: kset2 r 0 v
  | w :: r, i + 2, v => w :: kset2 r (i + 1) v
theorem kset1_mem {v : kV} : ∀ {ls : List kV} {i k : Nat} {w : Nat ⊕ (Int32 ⊕ Int64)}, (kset1 ls i v)[k]? = some (some w) → (k = i ∧ v = some w) ∨ (ls[k]? = some (some w) ∧ k ≠ i ∧ ¬ (k + 1 = i ∧ kcat (some w) = 2))
  | [], i, k, w, h => by simp [kset1] at h
  | x :: r, 0, k, w, h => by
    cases k with
    | zero => simp [kset1] at h; exact Or.inl ⟨rfl, h⟩
    | succ k => simp [kset1] at h; exact Or.inr ⟨by simpa using h, by omega, by omega⟩
  | x :: r, 1, k, w, h => by
    cases k with
    | zero =>
      simp [kset1] at h
      refine Or.inr ⟨?_, by omega, ?_⟩
      · rcases x with _ | n | y | y <;> simp_all [kunl]
      · rintro ⟨-, h2⟩
        rcases x with _ | n | y | y <;> simp_all [kunl] <;> subst h <;> simp [kcat] at h2
    | succ k =>
      simp only [kset1, List.getElem?_cons_succ] at h
      rcases kset1_mem h with ⟨h1, h2⟩ | ⟨h1, h2, h3⟩
      · exact Or.inl ⟨by omega, h2⟩
      · exact Or.inr ⟨by simpa using h1, by omega, by omega⟩
  | x :: r, i + 2, k, w, h => by
    cases k with
    | zero => simp [kset1] at h; exact Or.inr ⟨by simpa using h, by omega, by omega⟩
    | succ k =>
      simp only [kset1, List.getElem?_cons_succ] at h
      rcases kset1_mem h with ⟨h1, h2⟩ | ⟨h1, h2, h3⟩
      · exact Or.inl ⟨by omega, h2⟩
      · exact Or.inr ⟨by simpa using h1, by omega, fun h9 => h3 ⟨by omega, h9.2⟩⟩
theorem kset2_mem {v : kV} : ∀ {ls : List kV} {i k : Nat} {w : Nat ⊕ (Int32 ⊕ Int64)}, (kset2 ls i v)[k]? = some (some w) → (k = i ∧ v = some w) ∨ (ls[k]? = some (some w) ∧ k ≠ i ∧ k ≠ i + 1 ∧ ¬ (k + 1 = i ∧ kcat (some w) = 2))
  | [], i, k, w, h => by simp [kset2] at h
  | [x], 0, k, w, h => by simp [kset2] at h
  | x :: z :: r, 0, k, w, h => by
    cases k with
    | zero => simp [kset2] at h; exact Or.inl ⟨rfl, h⟩
    | succ k =>
      cases k with
      | zero => simp [kset2] at h
      | succ k => simp [kset2] at h; exact Or.inr ⟨by simpa using h, by omega, by omega, by omega⟩
  | x :: r, 1, k, w, h => by
    cases k with
    | zero =>
      simp [kset2] at h
      refine Or.inr ⟨?_, by omega, by omega, ?_⟩
      · rcases x with _ | n | y | y <;> simp_all [kunl]
      · rintro ⟨-, h2⟩
        rcases x with _ | n | y | y <;> simp_all [kunl] <;> subst h <;> simp [kcat] at h2
    | succ k =>
      simp only [kset2, List.getElem?_cons_succ] at h
      rcases kset2_mem h with ⟨h1, h2⟩ | ⟨h1, h2, h3, h4⟩
      · exact Or.inl ⟨by omega, h2⟩
      · exact Or.inr ⟨by simpa using h1, by omega, by omega, by omega⟩
  | x :: r, i + 2, k, w, h => by
    cases k with
    | zero => simp [kset2] at h; exact Or.inr ⟨by simpa using h, by omega, by omega, by omega⟩
    | succ k =>
      simp only [kset2, List.getElem?_cons_succ] at h
      rcases kset2_mem h with ⟨h1, h2⟩ | ⟨h1, h2, h3, h4⟩
      · exact Or.inl ⟨by omega, h2⟩
      · exact Or.inr ⟨by simpa using h1, by omega, by omega, fun h9 => h4 ⟨by omega, h9.2⟩⟩
theorem lv_less {lsA : Array Slot} {n : Nat} {l l' : List (Nat × Value)} (h : lv_has lsA n l) (hs : ∀ q ∈ l', q ∈ l) : lv_has lsA n l' := ⟨h.1, h.2.1, fun q hq => h.2.2 q (hs q hq)⟩
theorem kset1_has {a : Nat → Nat} {lsA : Array Slot} {n i : Nat} {ls : List kV} {v : kV} {x : Value} (hv : cv a v = x) (h : lv_has lsA n ((i, x) :: (lvl a 0 ls).filter (fun q => !(q.1 == i) && !(q.1 + 1 == i && q.2.category == 2)))) : lv_has lsA n (lvl a 0 (kset1 ls i v)) := by
  refine lv_less h (fun q hq => ?_)
  obtain ⟨k, w, h1, rfl⟩ := lvl_mem.mp hq
  rcases kset1_mem h1 with ⟨h2, h3⟩ | ⟨h2, h3, h4⟩
  · subst h2; rw [h3] at hv; rw [Nat.zero_add, hv]; exact List.mem_cons_self
  · refine List.mem_cons_of_mem _ (List.mem_filter.mpr ⟨lvl_mem.mpr ⟨k, w, h2, rfl⟩, ?_⟩)
    simp only [Nat.zero_add, kcat_cv]
    simp only [Bool.and_eq_true, Bool.not_eq_true', beq_eq_false_iff_ne, Bool.and_eq_false_iff, ne_eq]
    refine ⟨h3, ?_⟩
    by_cases h5 : k + 1 = i
    · exact Or.inr (fun h6 => h4 ⟨h5, h6⟩)
    · exact Or.inl h5
theorem kset2_has {a : Nat → Nat} {lsA : Array Slot} {n i : Nat} {ls : List kV} {v : kV} {x : Value} (hv : cv a v = x) (h : lv_has lsA n ((i, x) :: (lvl a 0 ls).filter (fun q => !(q.1 == i) && (!(q.1 == i + 1) && !(q.1 + 1 == i && q.2.category == 2))))) : lv_has lsA n (lvl a 0 (kset2 ls i v)) := by
  refine lv_less h (fun q hq => ?_)
  obtain ⟨k, w, h1, rfl⟩ := lvl_mem.mp hq
  rcases kset2_mem h1 with ⟨h2, h3⟩ | ⟨h2, h3, h3b, h4⟩
  · subst h2; rw [h3] at hv; rw [Nat.zero_add, hv]; exact List.mem_cons_self
  · refine List.mem_cons_of_mem _ (List.mem_filter.mpr ⟨lvl_mem.mpr ⟨k, w, h2, rfl⟩, ?_⟩)
    simp only [Nat.zero_add, kcat_cv]
    simp only [Bool.and_eq_true, Bool.not_eq_true', beq_eq_false_iff_ne, Bool.and_eq_false_iff, ne_eq]
    refine ⟨h3, h3b, ?_⟩
    by_cases h5 : k + 1 = i
    · exact Or.inr (fun h6 => h4 ⟨h5, h6⟩)
    · exact Or.inl h5

/-! the classes, the words, the shape of the world -/
abbrev kcl : List vw_C := [(RX0, TX0, 7), (RX1, TX1, 3), (RX2, TX2, 3), (RX3, TX3, 5), (RX4, TX4, 6), (RX5, TX5, 9), (RX6, TX6, 5), (RX7, TX7, 2), (RX8, TX8, 8), (RX9, TX9, 5), (RX10, TX10, 12), (RX11, TX11, 50)]
def knst : Cond → Bool
  | .fieldLinkNest .. => true
  | .methodLinkNest .. => true
  | _ => false
def kTbl : List Cond := lw_tbl.filter goodWord
def kNest : List Cond := lw_tbl.filter knst
theorem kw {w : Cond} (i : Nat) (h : lw_tbl[i]? = some w) (hg : goodWord w = true) : w ∈ kTbl := List.mem_filter.mpr ⟨List.mem_of_getElem? h, hg⟩
theorem kwn {w : Cond} (i : Nat) (h : lw_tbl[i]? = some w) (hg : knst w = true) : w ∈ kNest := List.mem_filter.mpr ⟨List.mem_of_getElem? h, hg⟩
theorem kGood : GoodIn kTbl kTbl := fun w h => ⟨h, good_of_word (List.mem_filter.mp h).2⟩

def ksh : List (Nat × Nat × List Nat) := [(0, 10, [4, 6, 11, 14, 17, 19, 24, 33, 39, 43, 0, 0]), (0, 2, [5, 0, 0]), (1, 25, []), (0, 6, [7, 8, 9, 10, 0]), (1, 300, []), (1, 300, []), (1, 300, []), (1, 300, []), (0, 4, [12, 13, 6, 0, 0, 0]), (1, 4, []), (1, 4, []), (0, 1, [15, 16, 0]), (1, 12, []), (1, 12, []), (0, 7, [18, 0]), (1, 200, []), (0, 9, [20, 21, 22, 23, 0]), (1, 20, []), (1, 20, []), (1, 20, []), (1, 20, []), (0, 8, [25, 0, 17, 30, 31, 32, 0, 0]), (0, 9, [26, 27, 28, 29, 0]), (1, 20, []), (1, 20, []), (1, 20, []), (1, 20, []), (1, 200, []), (1, 200, []), (1, 200, []), (0, 5, [34, 0, 35, 36, 37, 38, 4, 11, 19]), (1, 20, []), (1, 520, []), (2, 26, []), (2, 26, []), (2, 26, []), (0, 3, [40, 41, 42, 0, 0]), (1, 468, []), (1, 468, []), (1, 468, []), (0, 0, [44, 45, 46, 47, 48, 0, 0]), (1, 60, []), (1, 60, []), (1, 60, []), (1, 60, []), (1, 720, []), (0, 11, [0, 0, 0, 50, 51, 0, 0, 0, 52, 53, 54, 55, 56, 0, 57, 58, 0, 0, 0, 0, 59, 60, 61, 62, 0, 63, 64, 0, 0, 0, 0, 1, 0, 2, 65, 66, 0, 0, 67, 68, 69, 0, 0, 0, 70, 71, 72, 73, 74, 75]), (1, 25, []), (1, 4, []), (1, 300, []), (1, 300, []), (1, 300, []), (1, 300, []), (1, 160, []), (1, 12, []), (1, 12, []), (1, 20, []), (1, 20, []), (1, 20, []), (1, 20, []), (1, 80, []), (1, 200, []), (2, 546, []), (1, 20, []), (1, 480, []), (1, 480, []), (1, 480, []), (1, 60, []), (1, 60, []), (1, 60, []), (1, 60, []), (1, 60, []), (1, 720, [])]
/-- an object's fields from place j on -/
def kF (a : Nat → Nat) (h : kH) (k : Nat) : Nat → List Nat → List Value
  | _, [] => []
  | j, 0 :: ts => .int (h.1 k j) :: kF a h k (j + 1) ts
  | j, 1 :: ts => .long (h.2 k j) :: kF a h k (j + 1) ts
  | j, 2 :: ts => .int (h.1 k j) :: kF a h k (j + 1) ts
  | j, (c + 3) :: ts => .ref (a c) :: kF a h k (j + 1) ts
def kE (a : Nat → Nat) (cI cL : ClassId) (h : kH) (k : Nat) (q : Nat × Nat × List Nat) : va_E := match q.1 with
  | 0 => .inr (q.2.1, kF a h k 0 q.2.2)
  | 1 => .inl (cI, q.2.1, .inl (h.1 k))
  | _ => .inl (cL, q.2.1, .inr (.inl (h.2 k)))
def kW (a : Nat → Nat) (cI cL : ClassId) (h : kH) : va_W := ksh.mapIdx (fun k q => (a k, kE a cI cL h k q))
theorem kW_at {a : Nat → Nat} {cI cL : ClassId} {h : kH} {k : Nat} {q : Nat × Nat × List Nat} (hk : ksh[k]? = some q) : (kW a cI cL h)[k]? = some (a k, kE a cI cL h k q) := by
  rw [kW, List.getElem?_mapIdx, hk]; rfl
theorem kW_len {a : Nat → Nat} {cI cL : ClassId} {h : kH} : (kW a cI cL h).length = ksh.length := by rw [kW, List.length_mapIdx]
theorem kW_of {a : Nat → Nat} {cI cL : ClassId} {h : kH} {k : Nat} {x : Nat × va_E} (hk : (kW a cI cL h)[k]? = some x) : k < ksh.length ∧ x.1 = a k := by
  rw [kW, List.getElem?_mapIdx] at hk
  cases hs : ksh[k]? with
  | none => rw [hs] at hk; cases hk
  | some q => rw [hs] at hk; cases hk; exact ⟨(List.getElem?_eq_some_iff.mp hs).1, rfl⟩
def kIn (a : Nat → Nat) : Prop := ∀ i j, i < ksh.length → j < ksh.length → a i = a j → i = j
def kA (a : Nat → Nat) (sz : Nat) : Nat → Prop := fun q => (∃ k, k < ksh.length ∧ q = a k) ∨ sz ≤ q
theorem kW_D {a : Nat → Nat} {cI cL : ClassId} {h : kH} {A : Nat → Prop} (hi : kIn a) (hA : ∀ k, k < ksh.length → A (a k)) : va_D A (kW a cI cL h) := by
  refine ⟨fun i j x y hx hy hxy => ?_, fun k q hk => ?_⟩
  · obtain ⟨h1, h2⟩ := kW_of hx
    obtain ⟨h3, h4⟩ := kW_of hy
    exact hi i j h1 h3 (by rw [← h2, ← h4]; exact hxy)
  · obtain ⟨h1, h2⟩ := kW_of hk
    rw [h2]; exact hA k h1
theorem kF_at {a : Nat → Nat} {h : kH} {k : Nat} : ∀ {ts : List Nat} {i j c : Nat}, ts[j]? = some c → (kF a h k i ts)[j]? = some (match c with | 0 => .int (h.1 k (i + j)) | 1 => .long (h.2 k (i + j)) | 2 => .int (h.1 k (i + j)) | c + 3 => .ref (a c))
  | [], i, j, c, hj => by simp at hj
  | t :: ts, i, 0, c, hj => by
    simp at hj; subst hj
    match t with
    | 0 => rfl
    | 1 => rfl
    | 2 => rfl
    | c + 3 => rfl
  | t :: ts, i, j + 1, c, hj => by
    simp at hj
    have ih := kF_at (a := a) (h := h) (k := k) (i := i + 1) hj
    rw [show i + (j + 1) = i + 1 + j by omega]
    match t with
    | 0 => exact ih
    | 1 => exact ih
    | 2 => exact ih
    | c + 3 => exact ih
theorem kF_len {a : Nat → Nat} {h : kH} {k : Nat} : ∀ {ts : List Nat} {i : Nat}, (kF a h k i ts).length = ts.length
  | [], i => rfl
  | t :: ts, i => by
    have ih := kF_len (a := a) (h := h) (k := k) (ts := ts) (i := i + 1)
    match t with
    | 0 => simp [kF, ih]
    | 1 => simp [kF, ih]
    | 2 => simp [kF, ih]
    | c + 3 => simp [kF, ih]
/-- a row of the heap set anew -/
def hs {α : Type} (f : Nat → Nat → α) (k : Nat) (g : Nat → α) : Nat → Nat → α := fun k' => if k' = k then g else f k'
theorem hs_self {α : Type} (f : Nat → Nat → α) (k : Nat) (g : Nat → α) : hs f k g k = g := by simp [hs]
theorem hs_ne {α : Type} (f : Nat → Nat → α) {k k' : Nat} (g : Nat → α) (h : k' ≠ k) : hs f k g k' = f k' := by simp [hs, h]
/-- an int is written at a place; a long -/
def hI (h : kH) (k j : Nat) (v : Int32) : kH := (hs h.1 k (upd (h.1 k) j v), h.2)
def hL (h : kH) (k j : Nat) (v : Int64) : kH := (h.1, hs h.2 k (vp_updL (h.2 k) j v))
theorem kF_other {a : Nat → Nat} {h h' : kH} {k : Nat} (h1 : h'.1 k = h.1 k) (h2 : h'.2 k = h.2 k) : ∀ {ts : List Nat} {i : Nat}, kF a h' k i ts = kF a h k i ts
  | [], i => rfl
  | t :: ts, i => by
    have ih := kF_other (a := a) h1 h2 (ts := ts) (i := i + 1)
    match t with
    | 0 => simp only [kF, h1, ih]
    | 1 => simp only [kF, h2, ih]
    | 2 => simp only [kF, h1, ih]
    | c + 3 => simp only [kF, ih]
theorem kE_other {a : Nat → Nat} {cI cL : ClassId} {h h' : kH} {k : Nat} {q : Nat × Nat × List Nat} (h1 : h'.1 k = h.1 k) (h2 : h'.2 k = h.2 k) : kE a cI cL h' k q = kE a cI cL h k q := by
  unfold kE
  rw [kF_other h1 h2, h1, h2]
theorem kW_set {a : Nat → Nat} {cI cL : ClassId} {h h' : kH} {k : Nat} {q : Nat × Nat × List Nat} {e : va_E} (hk : ksh[k]? = some q) (h1 : ∀ j, j ≠ k → h'.1 j = h.1 j) (h2 : ∀ j, j ≠ k → h'.2 j = h.2 j) (he : kE a cI cL h' k q = e) : (kW a cI cL h).set k (a k, e) = kW a cI cL h' := by
  have hl : k < (kW a cI cL h).length := by rw [kW_len]; exact (List.getElem?_eq_some_iff.mp hk).1
  refine List.ext_getElem? (fun j => ?_)
  by_cases hj : j = k
  · subst hj
    rw [List.getElem?_set_self hl, kW_at hk, he]
  · rw [List.getElem?_set_ne (Ne.symm hj)]
    simp only [kW, List.getElem?_mapIdx]
    cases hs' : ksh[j]? with
    | none => rfl
    | some q' => simp only [Option.map_some]; rw [kE_other (h1 j hj) (h2 j hj)]
theorem kF_setI {a : Nat → Nat} {h : kH} {k : Nat} {v : Int32} : ∀ {ts : List Nat} {i j c : Nat}, ts[j]? = some c → (c = 0 ∨ c = 2) → (kF a h k i ts).set j (.int v) = kF a (hI h k (i + j) v) k i ts
  | [], i, j, c, hj, _ => by simp at hj
  | t :: ts, i, 0, c, hj, hc => by
    simp at hj; subst hj
    have ho : ∀ (ts : List Nat) (i' : Nat), i < i' → kF a (hI h k (i + 0) v) k i' ts = kF a h k i' ts := by
      intro ts
      induction ts with
      | nil => intro i' _; rfl
      | cons t ts ih =>
        intro i' hi'
        have e1 : (hI h k (i + 0) v).1 k i' = h.1 k i' := by
          show hs h.1 k (upd (h.1 k) (i + 0) v) k i' = _
          rw [hs_self]; simp [upd]; omega
        match t with
        | 0 => simp only [kF, e1, ih (i' + 1) (by omega)]
        | 1 => simp only [kF, ih (i' + 1) (by omega)]; rfl
        | 2 => simp only [kF, e1, ih (i' + 1) (by omega)]
        | c + 3 => simp only [kF, ih (i' + 1) (by omega)]
    have e0 : (hI h k (i + 0) v).1 k i = v := by
      show hs h.1 k (upd (h.1 k) (i + 0) v) k i = _
      rw [hs_self]; simp [upd]
    rcases hc with rfl | rfl
    · simp only [kF, List.set_cons_zero, ho ts (i + 1) (by omega), e0]
    · simp only [kF, List.set_cons_zero, ho ts (i + 1) (by omega), e0]
  | t :: ts, i, j + 1, c, hj, hc => by
    simp at hj
    have ih := kF_setI (a := a) (h := h) (k := k) (v := v) (i := i + 1) hj hc
    rw [show i + (j + 1) = i + 1 + j by omega]
    have e1 : (hI h k (i + 1 + j) v).1 k i = h.1 k i := by
      show hs h.1 k (upd (h.1 k) (i + 1 + j) v) k i = _
      rw [hs_self]; simp [upd]; omega
    match t with
    | 0 => simp only [kF, List.set_cons_succ, ih, e1]
    | 1 => simp only [kF, List.set_cons_succ, ih]; rfl
    | 2 => simp only [kF, List.set_cons_succ, ih, e1]
    | c + 3 => simp only [kF, List.set_cons_succ, ih]
theorem kF_setL {a : Nat → Nat} {h : kH} {k : Nat} {v : Int64} : ∀ {ts : List Nat} {i j : Nat}, ts[j]? = some 1 → (kF a h k i ts).set j (.long v) = kF a (hL h k (i + j) v) k i ts
  | [], i, j, hj => by simp at hj
  | t :: ts, i, 0, hj => by
    simp at hj; subst hj
    have ho : ∀ (ts : List Nat) (i' : Nat), i < i' → kF a (hL h k (i + 0) v) k i' ts = kF a h k i' ts := by
      intro ts
      induction ts with
      | nil => intro i' _; rfl
      | cons t ts ih =>
        intro i' hi'
        have e1 : (hL h k (i + 0) v).2 k i' = h.2 k i' := by
          show hs h.2 k (vp_updL (h.2 k) (i + 0) v) k i' = _
          rw [hs_self]; simp [vp_updL]; omega
        match t with
        | 0 => simp only [kF, ih (i' + 1) (by omega)]; rfl
        | 1 => simp only [kF, e1, ih (i' + 1) (by omega)]
        | 2 => simp only [kF, ih (i' + 1) (by omega)]; rfl
        | c + 3 => simp only [kF, ih (i' + 1) (by omega)]
    have e0 : (hL h k (i + 0) v).2 k i = v := by
      show hs h.2 k (vp_updL (h.2 k) (i + 0) v) k i = _
      rw [hs_self]; simp [vp_updL]
    simp only [kF, List.set_cons_zero, ho ts (i + 1) (by omega), e0]
  | t :: ts, i, j + 1, hj => by
    simp at hj
    have ih := kF_setL (a := a) (h := h) (k := k) (v := v) (i := i + 1) hj
    rw [show i + (j + 1) = i + 1 + j by omega]
    have e1 : (hL h k (i + 1 + j) v).2 k i = h.2 k i := by
      show hs h.2 k (vp_updL (h.2 k) (i + 1 + j) v) k i = _
      rw [hs_self]; simp [vp_updL]; omega
    match t with
    | 0 => simp only [kF, List.set_cons_succ, ih]; rfl
    | 1 => simp only [kF, List.set_cons_succ, ih, e1]
    | 2 => simp only [kF, List.set_cons_succ, ih]; rfl
    | c + 3 => simp only [kF, List.set_cons_succ, ih]

