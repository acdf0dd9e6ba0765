theorem kin0 : ∀ w ∈ u_ws RX0 TX0 7, w ∈ kTbl := by
  have h : u_ws RX0 TX0 7 = ([308, 310, 312, 314, 316, 318, 320] : List Nat).filterMap (fun i => lw_tbl[i]?) := by decide +kernel
  have hg : (u_ws RX0 TX0 7).all goodWord = true := by decide +kernel
  intro w hw
  have h1 := List.all_eq_true.mp hg w hw
  rw [h] at hw
  obtain ⟨i, -, hi⟩ := List.mem_filterMap.mp hw
  exact kw i hi h1
theorem kin1 : ∀ w ∈ u_ws RX1 TX1 3, w ∈ kTbl := by
  have h : u_ws RX1 TX1 3 = ([147, 149, 151] : List Nat).filterMap (fun i => lw_tbl[i]?) := by decide +kernel
  have hg : (u_ws RX1 TX1 3).all goodWord = true := by decide +kernel
  intro w hw
  have h1 := List.all_eq_true.mp hg w hw
  rw [h] at hw
  obtain ⟨i, -, hi⟩ := List.mem_filterMap.mp hw
  exact kw i hi h1
theorem kin2 : ∀ w ∈ u_ws RX2 TX2 3, w ∈ kTbl := by
  have h : u_ws RX2 TX2 3 = ([74, 76, 78] : List Nat).filterMap (fun i => lw_tbl[i]?) := by decide +kernel
  have hg : (u_ws RX2 TX2 3).all goodWord = true := by decide +kernel
  intro w hw
  have h1 := List.all_eq_true.mp hg w hw
  rw [h] at hw
  obtain ⟨i, -, hi⟩ := List.mem_filterMap.mp hw
  exact kw i hi h1
theorem kin3 : ∀ w ∈ u_ws RX3 TX3 5, w ∈ kTbl := by
  have h : u_ws RX3 TX3 5 = ([282, 284, 286, 288, 290] : List Nat).filterMap (fun i => lw_tbl[i]?) := by decide +kernel
  have hg : (u_ws RX3 TX3 5).all goodWord = true := by decide +kernel
  intro w hw
  have h1 := List.all_eq_true.mp hg w hw
  rw [h] at hw
  obtain ⟨i, -, hi⟩ := List.mem_filterMap.mp hw
  exact kw i hi h1
theorem kin4 : ∀ w ∈ u_ws RX4 TX4 6, w ∈ kTbl := by
  have h : u_ws RX4 TX4 6 = ([122, 124, 126, 128, 130, 132] : List Nat).filterMap (fun i => lw_tbl[i]?) := by decide +kernel
  have hg : (u_ws RX4 TX4 6).all goodWord = true := by decide +kernel
  intro w hw
  have h1 := List.all_eq_true.mp hg w hw
  rw [h] at hw
  obtain ⟨i, -, hi⟩ := List.mem_filterMap.mp hw
  exact kw i hi h1
theorem kin5 : ∀ w ∈ u_ws RX5 TX5 9, w ∈ kTbl := by
  have h : u_ws RX5 TX5 9 = ([245, 247, 249, 251, 253, 255, 257, 259, 261] : List Nat).filterMap (fun i => lw_tbl[i]?) := by decide +kernel
  have hg : (u_ws RX5 TX5 9).all goodWord = true := by decide +kernel
  intro w hw
  have h1 := List.all_eq_true.mp hg w hw
  rw [h] at hw
  obtain ⟨i, -, hi⟩ := List.mem_filterMap.mp hw
  exact kw i hi h1
theorem kin6 : ∀ w ∈ u_ws RX6 TX6 5, w ∈ kTbl := by
  have h : u_ws RX6 TX6 5 = ([94, 96, 98, 100, 102] : List Nat).filterMap (fun i => lw_tbl[i]?) := by decide +kernel
  have hg : (u_ws RX6 TX6 5).all goodWord = true := by decide +kernel
  intro w hw
  have h1 := List.all_eq_true.mp hg w hw
  rw [h] at hw
  obtain ⟨i, -, hi⟩ := List.mem_filterMap.mp hw
  exact kw i hi h1
theorem kin7 : ∀ w ∈ u_ws RX7 TX7 2, w ∈ kTbl := by
  have h : u_ws RX7 TX7 2 = ([164, 166] : List Nat).filterMap (fun i => lw_tbl[i]?) := by decide +kernel
  have hg : (u_ws RX7 TX7 2).all goodWord = true := by decide +kernel
  intro w hw
  have h1 := List.all_eq_true.mp hg w hw
  rw [h] at hw
  obtain ⟨i, -, hi⟩ := List.mem_filterMap.mp hw
  exact kw i hi h1
theorem kin8 : ∀ w ∈ u_ws RX8 TX8 8, w ∈ kTbl := by
  have h : u_ws RX8 TX8 8 = ([211, 213, 215, 217, 219, 221, 223, 225] : List Nat).filterMap (fun i => lw_tbl[i]?) := by decide +kernel
  have hg : (u_ws RX8 TX8 8).all goodWord = true := by decide +kernel
  intro w hw
  have h1 := List.all_eq_true.mp hg w hw
  rw [h] at hw
  obtain ⟨i, -, hi⟩ := List.mem_filterMap.mp hw
  exact kw i hi h1
theorem kin9 : ∀ w ∈ u_ws RX9 TX9 5, w ∈ kTbl := by
  have h : u_ws RX9 TX9 5 = ([182, 184, 186, 188, 190] : List Nat).filterMap (fun i => lw_tbl[i]?) := by decide +kernel
  have hg : (u_ws RX9 TX9 5).all goodWord = true := by decide +kernel
  intro w hw
  have h1 := List.all_eq_true.mp hg w hw
  rw [h] at hw
  obtain ⟨i, -, hi⟩ := List.mem_filterMap.mp hw
  exact kw i hi h1
theorem kin10 : ∀ w ∈ u_ws RX10 TX10 12, w ∈ kTbl := by
  have h : u_ws RX10 TX10 12 = ([335, 337, 339, 341, 343, 345, 347, 349, 351, 353, 355, 357] : List Nat).filterMap (fun i => lw_tbl[i]?) := by decide +kernel
  have hg : (u_ws RX10 TX10 12).all goodWord = true := by decide +kernel
  intro w hw
  have h1 := List.all_eq_true.mp hg w hw
  rw [h] at hw
  obtain ⟨i, -, hi⟩ := List.mem_filterMap.mp hw
  exact kw i hi h1
theorem kin11 : ∀ w ∈ u_ws RX11 TX11 50, w ∈ kTbl := by
  have h : u_ws RX11 TX11 50 = ([815, 817, 819, 821, 823, 825, 827, 829, 831, 833, 835, 837, 839, 841, 843, 845, 847, 849, 851, 853, 855, 857, 859, 861, 863, 865, 867, 869, 871, 873, 875, 877, 879, 881, 883, 885, 887, 889, 891, 893, 895, 897, 899, 901, 903, 905, 907, 909, 911, 913] : List Nat).filterMap (fun i => lw_tbl[i]?) := by decide +kernel
  have hg : (u_ws RX11 TX11 50).all goodWord = true := by decide +kernel
  intro w hw
  have h1 := List.all_eq_true.mp hg w hw
  rw [h] at hw
  obtain ⟨i, -, hi⟩ := List.mem_filterMap.mp hw
  exact kw i hi h1
theorem kcl_ok {ci : Nat} {C : String} {T : u_T} {N : Nat} (h : kcl[ci]? = some (C, T, N)) : (∀ w ∈ u_ws C T N, w ∈ kTbl) ∧ (∀ a, a < N → ∀ b, b < N → a ≠ b → (T a).2.1 ≠ (T b).2.1) ∧ ∃ ty0 : Nat → FieldType, ∀ k, k < N → parseFieldDescriptor (T k).2.2.1 = some (ty0 k) := by
  have hc : ci < 12 := (List.getElem?_eq_some_iff.mp h).1
  match ci, hc with
  | 0, _ => cases h; exact ⟨kin0, nmX0, tyX0, tyX0_ok⟩
  | 1, _ => cases h; exact ⟨kin1, nmX1, tyX1, tyX1_ok⟩
  | 2, _ => cases h; exact ⟨kin2, nmX2, tyX2, tyX2_ok⟩
  | 3, _ => cases h; exact ⟨kin3, nmX3, tyX3, tyX3_ok⟩
  | 4, _ => cases h; exact ⟨kin4, nmX4, tyX4, tyX4_ok⟩
  | 5, _ => cases h; exact ⟨kin5, nmX5, tyX5, tyX5_ok⟩
  | 6, _ => cases h; exact ⟨kin6, nmX6, tyX6, tyX6_ok⟩
  | 7, _ => cases h; exact ⟨kin7, nmX7, tyX7, tyX7_ok⟩
  | 8, _ => cases h; exact ⟨kin8, nmX8, tyX8, tyX8_ok⟩
  | 9, _ => cases h; exact ⟨kin9, nmX9, tyX9, tyX9_ok⟩
  | 10, _ => cases h; exact ⟨kin10, nmX10, tyX10, tyX10_ok⟩
  | 11, _ => cases h; exact ⟨kin11, nmX11, tyX11, tyX11_ok⟩
/-! what stays as it is: nest mates, texts, statics of the library -/
def kStr : List (Nat × String) := [(70, "part"), (101, "of"), (79, "vines"), (112, "each"), (114, "from"), (84, "free"), (90, "most"), (92, ";")]
def kLen : List Nat := [4, 2, 5, 4, 4, 4, 4, 1]
def kByt : List (List Int32) := [[112, 97, 114, 116], [111, 102], [118, 105, 110, 101, 115], [101, 97, 99, 104], [102, 114, 111, 109], [102, 114, 101, 101], [109, 111, 115, 116], [59]]
def kEnv (a : Nat → Nat) (A : Nat → Prop) (U : State) (H : Heap) : Prop := (∀ w ∈ kNest, va_Nw w U) ∧ vk_S 8 kLen kByt (fun i => a (1000 + i)) (fun i => a (2000 + i)) A U H ∧ (∀ (i : Nat) (q : Nat × String), kStr[i]? = some q → vk_R RX8 q.1 q.2 (a (1000 + i)) U) ∧ va_Z "java/lang/String" "COMPACT_STRINGS" "Z" (.int 1) A U H ∧ (va_Z "jdk/internal/util/Preconditions" "SIOOBE_FORMATTER" "Ljava/util/function/BiFunction;" .null A U H ∨ va_Z "jdk/internal/util/Preconditions" "SIOOBE_FORMATTER" "Ljava/util/function/BiFunction;" (.ref (a 3000)) A U H)
theorem kNw_warm {w : Cond} {s U : State} (hn : w ∈ kNest) (hW : s.WarmedH U.vm) (h : va_Nw w s) : va_Nw w U := by
  have h1 := (List.mem_filter.mp hn).2
  cases w <;> first | exact va_Nw.warmF hW h | exact va_Nw.warmM hW h | exact absurd h1 (by simp [knst])
theorem kEnv.warm {a : Nat → Nat} {A : Nat → Prop} {s U : State} {H : Heap} (hW : s.WarmedH U.vm) (h : kEnv a A s H) : kEnv a A U H := by
  obtain ⟨h1, h2, h3, h4, h5⟩ := h
  exact ⟨fun w hw => kNw_warm hw hW (h1 w hw), h2.moved hW.alike, fun i q hq => (h3 i q hq).warm hW, h4.moved hW.alike, h5.imp (fun z => z.moved hW.alike) (fun z => z.moved hW.alike)⟩
theorem kEnv.kept {a : Nat → Nat} {A : Nat → Prop} {U : State} {H H1 : Heap} (h : kEnv a A U H) (hq : ∀ q : Nat, q < H.size → ¬ A q → H1[q]? = H[q]?) : kEnv a A U H1 := by
  obtain ⟨h1, h2, h3, h4, h5⟩ := h
  exact ⟨h1, h2.kept hq, h3, h4.kept hq, h5.imp (fun z => z.kept hq) (fun z => z.kept hq)⟩
theorem kEnv.narrow {a : Nat → Nat} {A B : Nat → Prop} {U : State} {H : Heap} (h : kEnv a A U H) (hAB : ∀ q, B q → A q) : kEnv a B U H := by
  obtain ⟨h1, h2, h3, h4, h5⟩ := h
  exact ⟨h1, h2.narrow hAB, h3, h4.narrow hAB, h5.imp (fun z => z.narrow hAB) (fun z => z.narrow hAB)⟩
/-! THE JUDGEMENTS -/
abbrev kcode (t : kM) : Cond := .code t.1 t.2.1 t.2.2.1 t.2.2.2.1
abbrev krm (t : kM) : Room := { frames := t.2.2.2.2.1, cells := 0, slots := 0, locals := t.2.2.2.2.2 }
abbrev kty (cI cL : ClassId) : List (ClassId × FieldType) := [(cI, .int), (cL, .long)]
def kret (a : Nat → Nat) : kV → Option Value
  | none => none
  | some v => some (cv a (some v))
def kP (a : Nat → Nat) (dC : Nat → ClassId) (dI : Nat → Nat → Nat) (cI cL : ClassId) (sz : Nat) (as : List kV) (h : kH) : Array Value → State → Prop := va_Pc (as.map (cv a)) (fun U => U.heap.size = sz ∧ va_P (dC, dI) kcl (kW a cI cL h) U.heap ∧ va_K (dC, dI) kcl (kty cI cL) U ∧ kIn a ∧ kEnv a (kA a sz) U U.heap)
def kQ (a : Nat → Nat) (dC : Nat → ClassId) (dI : Nat → Nat → Nat) (cI cL : ClassId) (sz : Nat) (Q : kV → kH → Prop) : Array Value → State → Outcome → State → Prop := fun _ st oc t => ∃ (r : kV) (h' : kH), Q r h' ∧ oc = .returned (kret a r) ∧ va_P (dC, dI) kcl (kW a cI cL h') t.heap ∧ st.heap.size ≤ t.heap.size ∧ ∀ q : Nat, q < st.heap.size → ¬ kA a sz q → t.heap[q]? = st.heap[q]?
/-- method t, called with as in the heap h, returns; its answer and the heap behind it satisfy Q -/
def Ev (t : kM) (as : List kV) (h : kH) (Q : kV → kH → Prop) : Prop := ∀ (l : Launch) (dC : Nat → ClassId) (dI : Nat → Nat → Nat) (a : Nat → Nat) (cI cL : ClassId) (sz : Nat), Met l t.1 (kcode t :: kTbl) (krm t) (kP a dC dI cI cL sz as h) (kQ a dC dI cI cL sz Q) 0 0 (kA a sz)
def kC (t : kM) (p : Program) (R : Room) (s : State) (m : MethodId) (args : Array Value) (c : Code) (cells slots : Nat) (dC : Nat → ClassId) (dI : Nat → Nat → Nat) (a : Nat → Nat) (cI cL : ClassId) (A : Nat → Prop) : Prop :=
  p.tables.exec = Jvm.exec ∧ c.code = t.2.1 ∧ c.maxLocals = t.2.2.1 ∧ s.vm.findClass t.1.cls = some m.cls ∧ (∀ w ∈ kTbl, w.before args s = true) ∧ va_K (dC, dI) kcl (kty cI cL) s ∧ kIn a ∧ (∀ k, k < ksh.length → A (a k)) ∧ (∀ q, s.heap.size ≤ q → A q) ∧ kEnv a A s s.heap ∧ t.2.2.2.2.1 ≤ R.frames ∧ t.2.2.2.2.2 ≤ R.locals ∧ cells ≤ R.cells ∧ slots ≤ R.slots
def kWt (t : kM) (p : Program) (l : Launch) (e : Env) (R : Room) (s : State) (m : MethodId) (args : Array Value) (below : List Frame) (meth : Method) (c : Code) (cells slots : Nat) (Qw : State → Prop) (dC : Nat → ClassId) (dI : Nat → Nat → Nat) (a : Nat → Nat) (cI cL : ClassId) (A : Nat → Prop) (pc : Nat) (ls st : List kV) (h : kH) : Prop := ∀ (H : Heap) (locs : List Loc) (lsA : Array Slot), lv_has lsA t.2.2.1 (lvl a 0 ls) → va_P (dC, dI) kcl (kW a cI cL h) H → va_S A s.heap H locs → W p l e R s m args below meth c H locs cells slots Qw (F0 m pc lsA (st.map (cv a)))
/-- from pc with locals ls, stack st, heap h, method t comes to a point of Φ -/
def At (t : kM) (pc : Nat) (ls st : List kV) (h : kH) (Φ : Nat → List kV → List kV → kH → Prop) : Prop := ∀ (p : Program) (l : Launch) (e : Env) (R : Room) (s : State) (m : MethodId) (args : Array Value) (below : List Frame) (meth : Method) (c : Code) (cells slots : Nat) (Qw : State → Prop) (dC : Nat → ClassId) (dI : Nat → Nat → Nat) (a : Nat → Nat) (cI cL : ClassId) (A : Nat → Prop), kC t p R s m args c cells slots dC dI a cI cL A → (∀ pc' ls' st' h', Φ pc' ls' st' h' → kWt t p l e R s m args below meth c cells slots Qw dC dI a cI cL A pc' ls' st' h') → kWt t p l e R s m args below meth c cells slots Qw dC dI a cI cL A pc ls st h
theorem k_done {t : kM} {pc : Nat} {ls st : List kV} {h : kH} {Φ : Nat → List kV → List kV → kH → Prop} (hq : Φ pc ls st h) : At t pc ls st h Φ := fun p l e R s m args below meth c cells slots Qw dC dI a cI cL A C K => K pc ls st h hq
theorem k_seq {t : kM} {pc : Nat} {ls st : List kV} {h : kH} {Φ Ψ : Nat → List kV → List kV → kH → Prop} (h1 : At t pc ls st h Φ) (h2 : ∀ pc' ls' st' h', Φ pc' ls' st' h' → At t pc' ls' st' h' Ψ) : At t pc ls st h Ψ := fun p l e R s m args below meth c cells slots Qw dC dI a cI cL A C K => h1 p l e R s m args below meth c cells slots Qw dC dI a cI cL A C (fun pc' ls' st' h' hq => h2 pc' ls' st' h' hq p l e R s m args below meth c cells slots Qw dC dI a cI cL A C K)
section RULES
variable {t : kM} {pc pc' : Nat} {ls st : List kV} {h : kH} {Φ : Nat → List kV → List kV → kH → Prop}
theorem k_iconst {n : Int} {v : Int32} (hd : decode t.2.1 pc = .ok (.iconst n, 1)) (hp : pc + 1 = pc') (hv : Int32.ofInt n = v) (kk : At t pc' ls (ki v :: st) h Φ) : At t pc ls (st) h Φ := by
  subst hp
  intro p l e R s m args below meth c cells slots Qw dC dI a cI cL A C K H locs lsA hl hP hS
  exact lv_iconst C.1 C.2.1 hd hv (kk p l e R s m args below meth c cells slots Qw dC dI a cI cL A C K H locs lsA hl hP hS)
theorem k_bipush {n : Int} {v : Int32} (hd : decode t.2.1 pc = .ok (.bipush n, 2)) (hp : pc + 2 = pc') (hv : (Int8.ofInt n).toInt32 = v) (kk : At t pc' ls (ki v :: st) h Φ) : At t pc ls (st) h Φ := by
  subst hp
  intro p l e R s m args below meth c cells slots Qw dC dI a cI cL A C K H locs lsA hl hP hS
  exact lv_bipush C.1 C.2.1 hd hv (kk p l e R s m args below meth c cells slots Qw dC dI a cI cL A C K H locs lsA hl hP hS)
theorem k_sipush {n : Int} {v : Int32} (hd : decode t.2.1 pc = .ok (.sipush n, 3)) (hp : pc + 3 = pc') (hv : (Int16.ofInt n).toInt32 = v) (kk : At t pc' ls (ki v :: st) h Φ) : At t pc ls (st) h Φ := by
  subst hp
  intro p l e R s m args below meth c cells slots Qw dC dI a cI cL A C K H locs lsA hl hP hS
  exact lv_sipush C.1 C.2.1 hd hv (kk p l e R s m args below meth c cells slots Qw dC dI a cI cL A C K H locs lsA hl hP hS)
theorem k_lconst {n : Fin 2} {v : Int64} (hd : decode t.2.1 pc = .ok (.lconst n, 1)) (hp : pc + 1 = pc') (hv : Int64.ofNat (n : Nat) = v) (kk : At t pc' ls (kl v :: st) h Φ) : At t pc ls (st) h Φ := by
  subst hp
  intro p l e R s m args below meth c cells slots Qw dC dI a cI cL A C K H locs lsA hl hP hS
  exact lv_lconst C.1 C.2.1 hd hv (kk p l e R s m args below meth c cells slots Qw dC dI a cI cL A C K H locs lsA hl hP hS)
theorem k_iload_n {k : Fin 4} {x : Int32} (hd : decode t.2.1 pc = .ok (.iload_n k, 1)) (hp : pc + 1 = pc') (hk : ls[(k : Nat)]? = some (ki x)) (kk : At t pc' ls (ki x :: st) h Φ) : At t pc ls (st) h Φ := by
  subst hp
  intro p l e R s m args below meth c cells slots Qw dC dI a cI cL A C K H locs lsA hl hP hS
  exact lv_iload_n C.1 C.2.1 hd rfl (lvl_get hl hk) (kk p l e R s m args below meth c cells slots Qw dC dI a cI cL A C K H locs lsA hl hP hS)
theorem k_iload {k : Nat} {x : Int32} (hd : decode t.2.1 pc = .ok (.iload k, 2)) (hp : pc + 2 = pc') (hk : ls[k]? = some (ki x)) (kk : At t pc' ls (ki x :: st) h Φ) : At t pc ls (st) h Φ := by
  subst hp
  intro p l e R s m args below meth c cells slots Qw dC dI a cI cL A C K H locs lsA hl hP hS
  exact lv_iload C.1 C.2.1 hd (lvl_get hl hk) (kk p l e R s m args below meth c cells slots Qw dC dI a cI cL A C K H locs lsA hl hP hS)
theorem k_lload_n {k : Fin 4} {x : Int64} (hd : decode t.2.1 pc = .ok (.lload_n k, 1)) (hp : pc + 1 = pc') (hk : ls[(k : Nat)]? = some (kl x)) (kk : At t pc' ls (kl x :: st) h Φ) : At t pc ls (st) h Φ := by
  subst hp
  intro p l e R s m args below meth c cells slots Qw dC dI a cI cL A C K H locs lsA hl hP hS
  exact lv_lload_n C.1 C.2.1 hd rfl (lvl_get hl hk) (kk p l e R s m args below meth c cells slots Qw dC dI a cI cL A C K H locs lsA hl hP hS)
theorem k_lload {k : Nat} {x : Int64} (hd : decode t.2.1 pc = .ok (.lload k, 2)) (hp : pc + 2 = pc') (hk : ls[k]? = some (kl x)) (kk : At t pc' ls (kl x :: st) h Φ) : At t pc ls (st) h Φ := by
  subst hp
  intro p l e R s m args below meth c cells slots Qw dC dI a cI cL A C K H locs lsA hl hP hS
  exact lv_lload C.1 C.2.1 hd (lvl_get hl hk) (kk p l e R s m args below meth c cells slots Qw dC dI a cI cL A C K H locs lsA hl hP hS)
theorem k_aload_n {k : Fin 4} {x : Nat} (hd : decode t.2.1 pc = .ok (.aload_n k, 1)) (hp : pc + 1 = pc') (hk : ls[(k : Nat)]? = some (kr x)) (kk : At t pc' ls (kr x :: st) h Φ) : At t pc ls (st) h Φ := by
  subst hp
  intro p l e R s m args below meth c cells slots Qw dC dI a cI cL A C K H locs lsA hl hP hS
  exact lv_aload_n C.1 C.2.1 hd rfl (lvl_get hl hk) (kk p l e R s m args below meth c cells slots Qw dC dI a cI cL A C K H locs lsA hl hP hS)
theorem k_aload {k : Nat} {x : Nat} (hd : decode t.2.1 pc = .ok (.aload k, 2)) (hp : pc + 2 = pc') (hk : ls[k]? = some (kr x)) (kk : At t pc' ls (kr x :: st) h Φ) : At t pc ls (st) h Φ := by
  subst hp
  intro p l e R s m args below meth c cells slots Qw dC dI a cI cL A C K H locs lsA hl hP hS
  exact lv_aload C.1 C.2.1 hd (lvl_get hl hk) (kk p l e R s m args below meth c cells slots Qw dC dI a cI cL A C K H locs lsA hl hP hS)
theorem k_istore_n {k0 : Nat} {k : Fin 4} {x : Int32} {ls' : List kV} (hd : decode t.2.1 pc = .ok (.istore_n k, 1)) (hp : pc + 1 = pc') (hn : (k : Nat) < t.2.2.1) (hls : kset1 ls (k : Nat) (ki x) = ls') (kk : At t pc' ls' st h Φ) : At t pc ls (ki x :: st) h Φ := by
  subst hp; subst hls
  intro p l e R s m args below meth c cells slots Qw dC dI a cI cL A C K H locs lsA hl hP hS
  exact lv_istore_n C.1 C.2.1 hd rfl hl hn rfl (fun lsB hB => kk p l e R s m args below meth c cells slots Qw dC dI a cI cL A C K H locs lsB (kset1_has rfl hB) hP hS)
theorem k_istore {k0 : Nat} {k : Nat} {x : Int32} {ls' : List kV} (hd : decode t.2.1 pc = .ok (.istore k, 2)) (hp : pc + 2 = pc') (hn : k < t.2.2.1) (hls : kset1 ls k (ki x) = ls') (kk : At t pc' ls' st h Φ) : At t pc ls (ki x :: st) h Φ := by
  subst hp; subst hls
  intro p l e R s m args below meth c cells slots Qw dC dI a cI cL A C K H locs lsA hl hP hS
  exact lv_istore C.1 C.2.1 hd hl hn rfl (fun lsB hB => kk p l e R s m args below meth c cells slots Qw dC dI a cI cL A C K H locs lsB (kset1_has rfl hB) hP hS)
theorem k_lstore_n {k0 : Nat} {k : Fin 4} {x : Int64} {ls' : List kV} (hd : decode t.2.1 pc = .ok (.lstore_n k, 1)) (hp : pc + 1 = pc') (hn : (k : Nat) + 1 < t.2.2.1) (hls : kset2 ls (k : Nat) (kl x) = ls') (kk : At t pc' ls' st h Φ) : At t pc ls (kl x :: st) h Φ := by
  subst hp; subst hls
  intro p l e R s m args below meth c cells slots Qw dC dI a cI cL A C K H locs lsA hl hP hS
  exact lv_lstore_n C.1 C.2.1 hd rfl hl hn rfl (fun lsB hB => kk p l e R s m args below meth c cells slots Qw dC dI a cI cL A C K H locs lsB (kset2_has rfl hB) hP hS)
theorem k_lstore {k0 : Nat} {k : Nat} {x : Int64} {ls' : List kV} (hd : decode t.2.1 pc = .ok (.lstore k, 2)) (hp : pc + 2 = pc') (hn : k + 1 < t.2.2.1) (hls : kset2 ls k (kl x) = ls') (kk : At t pc' ls' st h Φ) : At t pc ls (kl x :: st) h Φ := by
  subst hp; subst hls
  intro p l e R s m args below meth c cells slots Qw dC dI a cI cL A C K H locs lsA hl hP hS
  exact lv_lstore C.1 C.2.1 hd hl hn rfl (fun lsB hB => kk p l e R s m args below meth c cells slots Qw dC dI a cI cL A C K H locs lsB (kset2_has rfl hB) hP hS)
theorem k_astore_n {k0 : Nat} {k : Fin 4} {x : Nat} {ls' : List kV} (hd : decode t.2.1 pc = .ok (.astore_n k, 1)) (hp : pc + 1 = pc') (hn : (k : Nat) < t.2.2.1) (hls : kset1 ls (k : Nat) (kr x) = ls') (kk : At t pc' ls' st h Φ) : At t pc ls (kr x :: st) h Φ := by
  subst hp; subst hls
  intro p l e R s m args below meth c cells slots Qw dC dI a cI cL A C K H locs lsA hl hP hS
  exact lv_astore_n C.1 C.2.1 hd rfl hl hn rfl (fun lsB hB => kk p l e R s m args below meth c cells slots Qw dC dI a cI cL A C K H locs lsB (kset1_has rfl hB) hP hS)
theorem k_astore {k0 : Nat} {k : Nat} {x : Nat} {ls' : List kV} (hd : decode t.2.1 pc = .ok (.astore k, 2)) (hp : pc + 2 = pc') (hn : k < t.2.2.1) (hls : kset1 ls k (kr x) = ls') (kk : At t pc' ls' st h Φ) : At t pc ls (kr x :: st) h Φ := by
  subst hp; subst hls
  intro p l e R s m args below meth c cells slots Qw dC dI a cI cL A C K H locs lsA hl hP hS
  exact lv_astore C.1 C.2.1 hd hl hn rfl (fun lsB hB => kk p l e R s m args below meth c cells slots Qw dC dI a cI cL A C K H locs lsB (kset1_has rfl hB) hP hS)
theorem k_iinc {k : Nat} {n : Int} {x v : Int32} {ls' : List kV} (hd : decode t.2.1 pc = .ok (.iinc k n, 3)) (hp : pc + 3 = pc') (hk : ls[k]? = some (ki x)) (hv : x + Int32.ofInt n = v) (hn : k < t.2.2.1) (hls : kset1 ls k (ki v) = ls') (kk : At t pc' ls' st h Φ) : At t pc ls st h Φ := by
  subst hp; subst hls
  intro p l e R s m args below meth c cells slots Qw dC dI a cI cL A C K H locs lsA hl hP hS
  obtain ⟨j, hj⟩ := List.getElem?_of_mem (lvl_mem.mpr ⟨k, _, hk, rfl⟩ : (0 + k, cv a (ki x)) ∈ lvl a 0 ls)
  rw [Nat.zero_add] at hj
  exact lv_iinc C.1 C.2.1 hd hl hj hv hn rfl (fun lsB hB => kk p l e R s m args below meth c cells slots Qw dC dI a cI cL A C K H locs lsB (kset1_has rfl hB) hP hS)
theorem k_iadd {x y : Int32} (hd : decode t.2.1 pc = .ok (.iadd, 1)) (hp : pc + 1 = pc') (kk : At t pc' ls (ki (x + y) :: st) h Φ) : At t pc ls (ki y :: ki x :: st) h Φ := by
  subst hp
  intro p l e R s m args below meth c cells slots Qw dC dI a cI cL A C K H locs lsA hl hP hS
  exact lv_iadd C.1 C.2.1 hd (kk p l e R s m args below meth c cells slots Qw dC dI a cI cL A C K H locs lsA hl hP hS)
theorem k_isub {x y : Int32} (hd : decode t.2.1 pc = .ok (.isub, 1)) (hp : pc + 1 = pc') (kk : At t pc' ls (ki (x - y) :: st) h Φ) : At t pc ls (ki y :: ki x :: st) h Φ := by
  subst hp
  intro p l e R s m args below meth c cells slots Qw dC dI a cI cL A C K H locs lsA hl hP hS
  exact lv_isub C.1 C.2.1 hd (kk p l e R s m args below meth c cells slots Qw dC dI a cI cL A C K H locs lsA hl hP hS)
theorem k_imul {x y : Int32} (hd : decode t.2.1 pc = .ok (.imul, 1)) (hp : pc + 1 = pc') (kk : At t pc' ls (ki (x * y) :: st) h Φ) : At t pc ls (ki y :: ki x :: st) h Φ := by
  subst hp
  intro p l e R s m args below meth c cells slots Qw dC dI a cI cL A C K H locs lsA hl hP hS
  exact lv_imul C.1 C.2.1 hd (kk p l e R s m args below meth c cells slots Qw dC dI a cI cL A C K H locs lsA hl hP hS)
theorem k_iand {x y : Int32} (hd : decode t.2.1 pc = .ok (.iand, 1)) (hp : pc + 1 = pc') (kk : At t pc' ls (ki (x &&& y) :: st) h Φ) : At t pc ls (ki y :: ki x :: st) h Φ := by
  subst hp
  intro p l e R s m args below meth c cells slots Qw dC dI a cI cL A C K H locs lsA hl hP hS
  exact lv_iand C.1 C.2.1 hd (kk p l e R s m args below meth c cells slots Qw dC dI a cI cL A C K H locs lsA hl hP hS)
theorem k_ishr {x y : Int32} (hd : decode t.2.1 pc = .ok (.ishr, 1)) (hp : pc + 1 = pc') (kk : At t pc' ls (ki (x >>> (y &&& 31)) :: st) h Φ) : At t pc ls (ki y :: ki x :: st) h Φ := by
  subst hp
  intro p l e R s m args below meth c cells slots Qw dC dI a cI cL A C K H locs lsA hl hP hS
  exact lv_ishr C.1 C.2.1 hd (kk p l e R s m args below meth c cells slots Qw dC dI a cI cL A C K H locs lsA hl hP hS)
theorem k_idiv {x y : Int32} (hd : decode t.2.1 pc = .ok (.idiv, 1)) (hp : pc + 1 = pc') (hne : ¬ y = 0) (kk : At t pc' ls (ki (x / y) :: st) h Φ) : At t pc ls (ki y :: ki x :: st) h Φ := by
  subst hp
  intro p l e R s m args below meth c cells slots Qw dC dI a cI cL A C K H locs lsA hl hP hS
  exact lv_idiv C.1 C.2.1 hd hne (kk p l e R s m args below meth c cells slots Qw dC dI a cI cL A C K H locs lsA hl hP hS)
theorem k_iushr {x y : Int32} (hd : decode t.2.1 pc = .ok (.iushr, 1)) (hp : pc + 1 = pc') (kk : At t pc' ls (ki ((x.toUInt32 >>> (y.toUInt32 &&& Int32.toUInt32 31)).toInt32) :: st) h Φ) : At t pc ls (ki y :: ki x :: st) h Φ := by
  subst hp
  intro p l e R s m args below meth c cells slots Qw dC dI a cI cL A C K H locs lsA hl hP hS
  exact lv_iushr C.1 C.2.1 hd rfl (kk p l e R s m args below meth c cells slots Qw dC dI a cI cL A C K H locs lsA hl hP hS)
theorem k_ladd {x y : Int64} (hd : decode t.2.1 pc = .ok (.ladd, 1)) (hp : pc + 1 = pc') (kk : At t pc' ls (kl (x + y) :: st) h Φ) : At t pc ls (kl y :: kl x :: st) h Φ := by
  subst hp
  intro p l e R s m args below meth c cells slots Qw dC dI a cI cL A C K H locs lsA hl hP hS
  exact lv_ladd C.1 C.2.1 hd (kk p l e R s m args below meth c cells slots Qw dC dI a cI cL A C K H locs lsA hl hP hS)
theorem k_lsub {x y : Int64} (hd : decode t.2.1 pc = .ok (.lsub, 1)) (hp : pc + 1 = pc') (kk : At t pc' ls (kl (x - y) :: st) h Φ) : At t pc ls (kl y :: kl x :: st) h Φ := by
  subst hp
  intro p l e R s m args below meth c cells slots Qw dC dI a cI cL A C K H locs lsA hl hP hS
  exact lv_lsub C.1 C.2.1 hd (kk p l e R s m args below meth c cells slots Qw dC dI a cI cL A C K H locs lsA hl hP hS)
theorem k_lmul {x y : Int64} (hd : decode t.2.1 pc = .ok (.lmul, 1)) (hp : pc + 1 = pc') (kk : At t pc' ls (kl (x * y) :: st) h Φ) : At t pc ls (kl y :: kl x :: st) h Φ := by
  subst hp
  intro p l e R s m args below meth c cells slots Qw dC dI a cI cL A C K H locs lsA hl hP hS
  exact lv_lmul C.1 C.2.1 hd (kk p l e R s m args below meth c cells slots Qw dC dI a cI cL A C K H locs lsA hl hP hS)
theorem k_ldiv {x y : Int64} (hd : decode t.2.1 pc = .ok (.ldiv, 1)) (hp : pc + 1 = pc') (hne : ¬ y = 0) (kk : At t pc' ls (kl (x / y) :: st) h Φ) : At t pc ls (kl y :: kl x :: st) h Φ := by
  subst hp
  intro p l e R s m args below meth c cells slots Qw dC dI a cI cL A C K H locs lsA hl hP hS
  exact lv_ldiv C.1 C.2.1 hd hne (kk p l e R s m args below meth c cells slots Qw dC dI a cI cL A C K H locs lsA hl hP hS)
theorem k_lcmp {x y : Int64} (hd : decode t.2.1 pc = .ok (.lcmp, 1)) (hp : pc + 1 = pc') (kk : At t pc' ls (ki (lg_cmp x y) :: st) h Φ) : At t pc ls (kl y :: kl x :: st) h Φ := by
  subst hp
  intro p l e R s m args below meth c cells slots Qw dC dI a cI cL A C K H locs lsA hl hP hS
  exact W.lcmp C.1 C.2.1 hd (kk p l e R s m args below meth c cells slots Qw dC dI a cI cL A C K H locs lsA hl hP hS)
theorem k_i2l {x : Int32} (hd : decode t.2.1 pc = .ok (.i2l, 1)) (hp : pc + 1 = pc') (kk : At t pc' ls (kl x.toInt64 :: st) h Φ) : At t pc ls (ki x :: st) h Φ := by
  subst hp
  intro p l e R s m args below meth c cells slots Qw dC dI a cI cL A C K H locs lsA hl hP hS
  exact lv_i2l C.1 C.2.1 hd rfl (kk p l e R s m args below meth c cells slots Qw dC dI a cI cL A C K H locs lsA hl hP hS)
theorem k_l2i {x : Int64} (hd : decode t.2.1 pc = .ok (.l2i, 1)) (hp : pc + 1 = pc') (kk : At t pc' ls (ki x.toInt32 :: st) h Φ) : At t pc ls (kl x :: st) h Φ := by
  subst hp
  intro p l e R s m args below meth c cells slots Qw dC dI a cI cL A C K H locs lsA hl hP hS
  exact lv_l2i C.1 C.2.1 hd rfl (kk p l e R s m args below meth c cells slots Qw dC dI a cI cL A C K H locs lsA hl hP hS)
theorem k_dup {u : kV} (hd : decode t.2.1 pc = .ok (.dup, 1)) (hp : pc + 1 = pc') (hu : kcat u = 1) (kk : At t pc' ls (u :: u :: st) h Φ) : At t pc ls (u :: st) h Φ := by
  subst hp
  intro p l e R s m args below meth c cells slots Qw dC dI a cI cL A C K H locs lsA hl hP hS
  exact lv_dup C.1 C.2.1 hd (by rw [kcat_cv]; exact hu) (kk p l e R s m args below meth c cells slots Qw dC dI a cI cL A C K H locs lsA hl hP hS)
theorem k_pop {u : kV} (hd : decode t.2.1 pc = .ok (.pop, 1)) (hp : pc + 1 = pc') (hu : kcat u = 1) (kk : At t pc' ls (st) h Φ) : At t pc ls (u :: st) h Φ := by
  subst hp
  intro p l e R s m args below meth c cells slots Qw dC dI a cI cL A C K H locs lsA hl hP hS
  exact lv_pop C.1 C.2.1 hd (by rw [kcat_cv]; exact hu) (kk p l e R s m args below meth c cells slots Qw dC dI a cI cL A C K H locs lsA hl hP hS)
theorem k_dup_x1 {u v : kV} (hd : decode t.2.1 pc = .ok (.dup_x1, 1)) (hp : pc + 1 = pc') (hu : kcat u = 1) (hv : kcat v = 1) (kk : At t pc' ls (u :: v :: u :: st) h Φ) : At t pc ls (u :: v :: st) h Φ := by
  subst hp
  intro p l e R s m args below meth c cells slots Qw dC dI a cI cL A C K H locs lsA hl hP hS
  exact lv_dup_x1 C.1 C.2.1 hd (by rw [kcat_cv]; exact hu) (by rw [kcat_cv]; exact hv) (kk p l e R s m args below meth c cells slots Qw dC dI a cI cL A C K H locs lsA hl hP hS)
theorem k_dup2 {u v : kV} (hd : decode t.2.1 pc = .ok (.dup2, 1)) (hp : pc + 1 = pc') (hu : kcat u = 1) (hv : kcat v = 1) (kk : At t pc' ls (u :: v :: u :: v :: st) h Φ) : At t pc ls (u :: v :: st) h Φ := by
  subst hp
  intro p l e R s m args below meth c cells slots Qw dC dI a cI cL A C K H locs lsA hl hP hS
  exact lv_dup2_11 C.1 C.2.1 hd (by rw [kcat_cv]; exact hu) (by rw [kcat_cv]; exact hv) (kk p l e R s m args below meth c cells slots Qw dC dI a cI cL A C K H locs lsA hl hP hS)
theorem k_if_eq {off : Int} {tg : Nat} {x : Int32} (hd : decode t.2.1 pc = .ok (.ifCond .eq off, 3)) (hp : pc + 3 = pc') (ht : (pc : Int) + off = (tg : Int)) (kt : x = 0 → At t tg ls st h Φ) (kf : ¬ x = 0 → At t pc' ls st h Φ) : At t pc ls (ki x :: st) h Φ := by
  subst hp
  intro p l e R s m args below meth c cells slots Qw dC dI a cI cL A C K H locs lsA hl hP hS
  exact lv_if_eq C.1 C.2.1 hd ht (fun z => kt z p l e R s m args below meth c cells slots Qw dC dI a cI cL A C K H locs lsA hl hP hS) (fun z => kf z p l e R s m args below meth c cells slots Qw dC dI a cI cL A C K H locs lsA hl hP hS)
theorem k_icmp_eq {off : Int} {tg : Nat} {x y : Int32} (hd : decode t.2.1 pc = .ok (.if_icmp .eq off, 3)) (hp : pc + 3 = pc') (ht : (pc : Int) + off = (tg : Int)) (kt : x = y → At t tg ls st h Φ) (kf : ¬ x = y → At t pc' ls st h Φ) : At t pc ls (ki y :: ki x :: st) h Φ := by
  subst hp
  intro p l e R s m args below meth c cells slots Qw dC dI a cI cL A C K H locs lsA hl hP hS
  exact lv_icmp_eq C.1 C.2.1 hd ht (fun z => kt z p l e R s m args below meth c cells slots Qw dC dI a cI cL A C K H locs lsA hl hP hS) (fun z => kf z p l e R s m args below meth c cells slots Qw dC dI a cI cL A C K H locs lsA hl hP hS)
theorem k_if_ne {off : Int} {tg : Nat} {x : Int32} (hd : decode t.2.1 pc = .ok (.ifCond .ne off, 3)) (hp : pc + 3 = pc') (ht : (pc : Int) + off = (tg : Int)) (kt : ¬ x = 0 → At t tg ls st h Φ) (kf : x = 0 → At t pc' ls st h Φ) : At t pc ls (ki x :: st) h Φ := by
  subst hp
  intro p l e R s m args below meth c cells slots Qw dC dI a cI cL A C K H locs lsA hl hP hS
  exact lv_if_ne C.1 C.2.1 hd ht (fun z => kt z p l e R s m args below meth c cells slots Qw dC dI a cI cL A C K H locs lsA hl hP hS) (fun z => kf z p l e R s m args below meth c cells slots Qw dC dI a cI cL A C K H locs lsA hl hP hS)
theorem k_icmp_ne {off : Int} {tg : Nat} {x y : Int32} (hd : decode t.2.1 pc = .ok (.if_icmp .ne off, 3)) (hp : pc + 3 = pc') (ht : (pc : Int) + off = (tg : Int)) (kt : ¬ x = y → At t tg ls st h Φ) (kf : x = y → At t pc' ls st h Φ) : At t pc ls (ki y :: ki x :: st) h Φ := by
  subst hp
  intro p l e R s m args below meth c cells slots Qw dC dI a cI cL A C K H locs lsA hl hP hS
  exact lv_icmp_ne C.1 C.2.1 hd ht (fun z => kt z p l e R s m args below meth c cells slots Qw dC dI a cI cL A C K H locs lsA hl hP hS) (fun z => kf z p l e R s m args below meth c cells slots Qw dC dI a cI cL A C K H locs lsA hl hP hS)
theorem k_if_lt {off : Int} {tg : Nat} {x : Int32} (hd : decode t.2.1 pc = .ok (.ifCond .lt off, 3)) (hp : pc + 3 = pc') (ht : (pc : Int) + off = (tg : Int)) (kt : x < 0 → At t tg ls st h Φ) (kf : ¬ x < 0 → At t pc' ls st h Φ) : At t pc ls (ki x :: st) h Φ := by
  subst hp
  intro p l e R s m args below meth c cells slots Qw dC dI a cI cL A C K H locs lsA hl hP hS
  exact lv_if_lt C.1 C.2.1 hd ht (fun z => kt z p l e R s m args below meth c cells slots Qw dC dI a cI cL A C K H locs lsA hl hP hS) (fun z => kf z p l e R s m args below meth c cells slots Qw dC dI a cI cL A C K H locs lsA hl hP hS)
theorem k_icmp_lt {off : Int} {tg : Nat} {x y : Int32} (hd : decode t.2.1 pc = .ok (.if_icmp .lt off, 3)) (hp : pc + 3 = pc') (ht : (pc : Int) + off = (tg : Int)) (kt : x < y → At t tg ls st h Φ) (kf : ¬ x < y → At t pc' ls st h Φ) : At t pc ls (ki y :: ki x :: st) h Φ := by
  subst hp
  intro p l e R s m args below meth c cells slots Qw dC dI a cI cL A C K H locs lsA hl hP hS
  exact lv_icmp_lt C.1 C.2.1 hd ht (fun z => kt z p l e R s m args below meth c cells slots Qw dC dI a cI cL A C K H locs lsA hl hP hS) (fun z => kf z p l e R s m args below meth c cells slots Qw dC dI a cI cL A C K H locs lsA hl hP hS)
theorem k_if_ge {off : Int} {tg : Nat} {x : Int32} (hd : decode t.2.1 pc = .ok (.ifCond .ge off, 3)) (hp : pc + 3 = pc') (ht : (pc : Int) + off = (tg : Int)) (kt : 0 ≤ x → At t tg ls st h Φ) (kf : ¬ 0 ≤ x → At t pc' ls st h Φ) : At t pc ls (ki x :: st) h Φ := by
  subst hp
  intro p l e R s m args below meth c cells slots Qw dC dI a cI cL A C K H locs lsA hl hP hS
  exact lv_if_ge C.1 C.2.1 hd ht (fun z => kt z p l e R s m args below meth c cells slots Qw dC dI a cI cL A C K H locs lsA hl hP hS) (fun z => kf z p l e R s m args below meth c cells slots Qw dC dI a cI cL A C K H locs lsA hl hP hS)
theorem k_icmp_ge {off : Int} {tg : Nat} {x y : Int32} (hd : decode t.2.1 pc = .ok (.if_icmp .ge off, 3)) (hp : pc + 3 = pc') (ht : (pc : Int) + off = (tg : Int)) (kt : y ≤ x → At t tg ls st h Φ) (kf : ¬ y ≤ x → At t pc' ls st h Φ) : At t pc ls (ki y :: ki x :: st) h Φ := by
  subst hp
  intro p l e R s m args below meth c cells slots Qw dC dI a cI cL A C K H locs lsA hl hP hS
  exact lv_icmp_ge C.1 C.2.1 hd ht (fun z => kt z p l e R s m args below meth c cells slots Qw dC dI a cI cL A C K H locs lsA hl hP hS) (fun z => kf z p l e R s m args below meth c cells slots Qw dC dI a cI cL A C K H locs lsA hl hP hS)
theorem k_if_gt {off : Int} {tg : Nat} {x : Int32} (hd : decode t.2.1 pc = .ok (.ifCond .gt off, 3)) (hp : pc + 3 = pc') (ht : (pc : Int) + off = (tg : Int)) (kt : 0 < x → At t tg ls st h Φ) (kf : ¬ 0 < x → At t pc' ls st h Φ) : At t pc ls (ki x :: st) h Φ := by
  subst hp
  intro p l e R s m args below meth c cells slots Qw dC dI a cI cL A C K H locs lsA hl hP hS
  exact lv_if_gt C.1 C.2.1 hd ht (fun z => kt z p l e R s m args below meth c cells slots Qw dC dI a cI cL A C K H locs lsA hl hP hS) (fun z => kf z p l e R s m args below meth c cells slots Qw dC dI a cI cL A C K H locs lsA hl hP hS)
theorem k_icmp_gt {off : Int} {tg : Nat} {x y : Int32} (hd : decode t.2.1 pc = .ok (.if_icmp .gt off, 3)) (hp : pc + 3 = pc') (ht : (pc : Int) + off = (tg : Int)) (kt : y < x → At t tg ls st h Φ) (kf : ¬ y < x → At t pc' ls st h Φ) : At t pc ls (ki y :: ki x :: st) h Φ := by
  subst hp
  intro p l e R s m args below meth c cells slots Qw dC dI a cI cL A C K H locs lsA hl hP hS
  exact lv_icmp_gt C.1 C.2.1 hd ht (fun z => kt z p l e R s m args below meth c cells slots Qw dC dI a cI cL A C K H locs lsA hl hP hS) (fun z => kf z p l e R s m args below meth c cells slots Qw dC dI a cI cL A C K H locs lsA hl hP hS)
theorem k_if_le {off : Int} {tg : Nat} {x : Int32} (hd : decode t.2.1 pc = .ok (.ifCond .le off, 3)) (hp : pc + 3 = pc') (ht : (pc : Int) + off = (tg : Int)) (kt : x ≤ 0 → At t tg ls st h Φ) (kf : ¬ x ≤ 0 → At t pc' ls st h Φ) : At t pc ls (ki x :: st) h Φ := by
  subst hp
  intro p l e R s m args below meth c cells slots Qw dC dI a cI cL A C K H locs lsA hl hP hS
  exact lv_if_le C.1 C.2.1 hd ht (fun z => kt z p l e R s m args below meth c cells slots Qw dC dI a cI cL A C K H locs lsA hl hP hS) (fun z => kf z p l e R s m args below meth c cells slots Qw dC dI a cI cL A C K H locs lsA hl hP hS)
theorem k_icmp_le {off : Int} {tg : Nat} {x y : Int32} (hd : decode t.2.1 pc = .ok (.if_icmp .le off, 3)) (hp : pc + 3 = pc') (ht : (pc : Int) + off = (tg : Int)) (kt : x ≤ y → At t tg ls st h Φ) (kf : ¬ x ≤ y → At t pc' ls st h Φ) : At t pc ls (ki y :: ki x :: st) h Φ := by
  subst hp
  intro p l e R s m args below meth c cells slots Qw dC dI a cI cL A C K H locs lsA hl hP hS
  exact lv_icmp_le C.1 C.2.1 hd ht (fun z => kt z p l e R s m args below meth c cells slots Qw dC dI a cI cL A C K H locs lsA hl hP hS) (fun z => kf z p l e R s m args below meth c cells slots Qw dC dI a cI cL A C K H locs lsA hl hP hS)
theorem k_goto {off : Int} {tg : Nat} (hd : decode t.2.1 pc = .ok (.goto off, 3)) (ht : (pc : Int) + off = (tg : Int)) (kk : At t tg ls st h Φ) : At t pc ls st h Φ := by
  intro p l e R s m args below meth c cells slots Qw dC dI a cI cL A C K H locs lsA hl hP hS
  exact lv_goto C.1 C.2.1 hd ht (kk p l e R s m args below meth c cells slots Qw dC dI a cI cL A C K H locs lsA hl hP hS)
theorem k_tableIn {dflt lo hi off : Int} {offs : Array Int} {len tg : Nat} {x : Int32} (hd : decode t.2.1 pc = .ok (.tableswitch dflt lo hi offs, len)) (h1 : ¬ x.toInt < lo) (h2 : ¬ hi < x.toInt) (ho : offs[(x.toInt - lo).toNat]? = some off) (ht : (pc : Int) + off = (tg : Int)) (kk : At t tg ls st h Φ) : At t pc ls (ki x :: st) h Φ := by
  intro p l e R s m args below meth c cells slots Qw dC dI a cI cL A C K H locs lsA hl hP hS
  exact lv_tableIn C.1 C.2.1 hd h1 h2 ho ht (kk p l e R s m args below meth c cells slots Qw dC dI a cI cL A C K H locs lsA hl hP hS)
theorem k_tableOut {dflt lo hi : Int} {offs : Array Int} {len tg : Nat} {x : Int32} (hd : decode t.2.1 pc = .ok (.tableswitch dflt lo hi offs, len)) (h1 : x.toInt < lo ∨ hi < x.toInt) (ht : (pc : Int) + dflt = (tg : Int)) (kk : At t tg ls st h Φ) : At t pc ls (ki x :: st) h Φ := by
  intro p l e R s m args below meth c cells slots Qw dC dI a cI cL A C K H locs lsA hl hP hS
  exact lv_tableOut C.1 C.2.1 hd h1 ht (kk p l e R s m args below meth c cells slots Qw dC dI a cI cL A C K H locs lsA hl hP hS)
theorem k_lookup {dflt off : Int} {ps : Array (Int × Int)} {len tg : Nat} {x : Int32} (hd : decode t.2.1 pc = .ok (.lookupswitch dflt ps, len)) (hs : (ps.toList.zip (ps.toList.drop 1)).all (fun (a, next) => a.1 < next.1) = true) (ho : Op.lookupswitch.offset ps.toList dflt x.toInt = off) (ht : (pc : Int) + off = (tg : Int)) (kk : At t tg ls st h Φ) : At t pc ls (ki x :: st) h Φ := by
  intro p l e R s m args below meth c cells slots Qw dC dI a cI cL A C K H locs lsA hl hP hS
  exact lv_lookup C.1 C.2.1 hd hs ho ht (kk p l e R s m args below meth c cells slots Qw dC dI a cI cL A C K H locs lsA hl hP hS)
theorem k_ldc {idx : Nat} {v : Int32} (hd : decode t.2.1 pc = .ok (.ldc idx, 2)) (hp : pc + 2 = pc') (hw : Cond.constant t.1.cls idx v ∈ kTbl) (kk : At t pc' ls (ki v :: st) h Φ) : At t pc ls st h Φ := by
  subst hp
  intro p l e R s m args below meth c cells slots Qw dC dI a cI cL A C K H locs lsA hl hP hS
  exact lv_ldc C.1 C.2.1 C.2.2.2.1 (C.2.2.2.2.1 _ hw) hd (kk p l e R s m args below meth c cells slots Qw dC dI a cI cL A C K H locs lsA hl hP hS)
theorem k_ldc2 {idx : Nat} {v : Int64} (hd : decode t.2.1 pc = .ok (.ldc2_w idx, 3)) (hp : pc + 3 = pc') (hw : Cond.constantLong t.1.cls idx v ∈ kTbl) (kk : At t pc' ls (kl v :: st) h Φ) : At t pc ls st h Φ := by
  subst hp
  intro p l e R s m args below meth c cells slots Qw dC dI a cI cL A C K H locs lsA hl hP hS
  exact lv_ldc2 C.1 C.2.1 C.2.2.2.1 (C.2.2.2.2.1 _ hw) hd (kk p l e R s m args below meth c cells slots Qw dC dI a cI cL A C K H locs lsA hl hP hS)
theorem k_ldcS {idx i : Nat} {tx : String} (hd : decode t.2.1 pc = .ok (.ldc idx, 2)) (hp : pc + 2 = pc') (ho : t.1.cls = RX8) (hi : kStr[i]? = some (idx, tx)) (kk : At t pc' ls (kr (1000 + i) :: st) h Φ) : At t pc ls st h Φ := by
  subst hp
  intro p l e R s m args below meth c cells slots Qw dC dI a cI cL A C K H locs lsA hl hP hS
  have hR := C.2.2.2.2.2.2.2.2.2.1.2.2.1 i _ hi
  rw [← ho] at hR
  exact va_ldcS C.1 C.2.1 C.2.2.2.1 hR hd (kk p l e R s m args below meth c cells slots Qw dC dI a cI cL A C K H locs lsA hl hP hS)
def kFl (own : String) (idx ci j : Nat) : Prop := ∃ (C : String) (T : u_T) (N : Nat), kcl[ci]? = some (C, T, N) ∧ j < N ∧ (Cond.fieldLink own idx (T j).1 (T j).2.1 (T j).2.2.1 ∈ kTbl ∨ ∃ host, Cond.fieldLinkNest own idx (T j).1 (T j).2.1 (T j).2.2.1 host ∈ kNest)
def kFw (own : String) (idx ci j : Nat) (ty : FieldType) : Prop := ∃ (C : String) (T : u_T) (N : Nat), kcl[ci]? = some (C, T, N) ∧ j < N ∧ Cond.fieldLink own idx (T j).1 (T j).2.1 (T j).2.2.1 ∈ kTbl ∧ (T j).2.2.2 = false ∧ parseFieldDescriptor (T j).2.2.1 = some ty
theorem k_get {idx ci j k : Nat} {ts : List Nat} {v : kV} (hf : kFl t.1.cls idx ci j) (hd : decode t.2.1 pc = .ok (.getfield idx, 3)) (hp : pc + 3 = pc') (hs : ksh[k]? = some (0, ci, ts)) (hv : ∀ (a : Nat → Nat), (kF a h k 0 ts)[j]? = some (cv a v)) (kk : At t pc' ls (v :: st) h Φ) : At t pc ls (kr k :: st) h Φ := by
  subst hp
  intro p l e R s m args below meth c cells slots Qw dC dI a cI cL A C K H locs lsA hl hP hS
  obtain ⟨Cc, T, N, hc, hj, hl1 | ⟨host, hl1⟩⟩ := hf
  · exact va_get (ci := ci) (k := j) C.1 C.2.1 C.2.2.2.2.1 (kcl_ok hc).1 C.2.2.2.1 C.2.2.2.2.2.1 hP k (kW_at hs) hc hj (C.2.2.2.2.1 _ hl1) (fun _ z => z) (hv a) hd (kk p l e R s m args below meth c cells slots Qw dC dI a cI cL A C K H locs lsA hl hP hS)
  · exact va_getN (ci := ci) (k := j) C.1 C.2.1 C.2.2.2.2.1 (kcl_ok hc).1 C.2.2.2.1 C.2.2.2.2.2.1 hP k (kW_at hs) hc hj ((C.2.2.2.2.2.2.2.2.2.1.1 _ hl1).use rfl) (fun _ z => z) (hv a) hd (kk p l e R s m args below meth c cells slots Qw dC dI a cI cL A C K H locs lsA hl hP hS)
theorem k_getI {idx ci j k : Nat} {ts : List Nat} (hf : kFl t.1.cls idx ci j) (hd : decode t.2.1 pc = .ok (.getfield idx, 3)) (hp : pc + 3 = pc') (hs : ksh[k]? = some (0, ci, ts)) (ht : ts[j]? = some 0) (kk : At t pc' ls (ki (h.1 k j) :: st) h Φ) : At t pc ls (kr k :: st) h Φ := k_get hf hd hp hs (fun a => by rw [kF_at ht]; simp [cv]) kk
theorem k_getZ {idx ci j k : Nat} {ts : List Nat} (hf : kFl t.1.cls idx ci j) (hd : decode t.2.1 pc = .ok (.getfield idx, 3)) (hp : pc + 3 = pc') (hs : ksh[k]? = some (0, ci, ts)) (ht : ts[j]? = some 2) (kk : At t pc' ls (ki (h.1 k j) :: st) h Φ) : At t pc ls (kr k :: st) h Φ := k_get hf hd hp hs (fun a => by rw [kF_at ht]; simp [cv]) kk
theorem k_getL {idx ci j k : Nat} {ts : List Nat} (hf : kFl t.1.cls idx ci j) (hd : decode t.2.1 pc = .ok (.getfield idx, 3)) (hp : pc + 3 = pc') (hs : ksh[k]? = some (0, ci, ts)) (ht : ts[j]? = some 1) (kk : At t pc' ls (kl (h.2 k j) :: st) h Φ) : At t pc ls (kr k :: st) h Φ := k_get hf hd hp hs (fun a => by rw [kF_at ht]; simp [cv]) kk
theorem k_getR {idx ci j k q : Nat} {ts : List Nat} (hf : kFl t.1.cls idx ci j) (hd : decode t.2.1 pc = .ok (.getfield idx, 3)) (hp : pc + 3 = pc') (hs : ksh[k]? = some (0, ci, ts)) (ht : ts[j]? = some (q + 3)) (kk : At t pc' ls (kr q :: st) h Φ) : At t pc ls (kr k :: st) h Φ := k_get hf hd hp hs (fun a => by rw [kF_at ht]; rfl) kk
theorem k_putI {idx ci j k : Nat} {ts : List Nat} {v : Int32} (hf : kFw t.1.cls idx ci j .int) (hd : decode t.2.1 pc = .ok (.putfield idx, 3)) (hp : pc + 3 = pc') (hs : ksh[k]? = some (0, ci, ts)) (ht : ts[j]? = some 0) (kk : At t pc' ls st (hI h k j v) Φ) : At t pc ls (ki v :: kr k :: st) h Φ := by
  subst hp
  intro p l e R s m args below meth c cells slots Qw dC dI a cI cL A C K H locs lsA hl hP hS
  obtain ⟨Cc, T, N, hc, hj, hl1, hfin, hdes⟩ := hf
  obtain ⟨ty0, hty⟩ := (kcl_ok hc).2.2
  have hset := kW_set (a := a) (cI := cI) (cL := cL) (h := h) (h' := hI h k j v) (e := .inr (ci, (kF a h k 0 ts).set j (.int v))) hs (fun q hq => hs_ne _ _ hq) (fun q hq => rfl) (by show Sum.inr _ = Sum.inr _; rw [kF_setI ht (Or.inl rfl), Nat.zero_add])
  refine va_put (ci := ci) (k := j) C.1 C.2.1 C.2.2.2.2.1 (kcl_ok hc).1 ty0 hty (kcl_ok hc).2.1 C.2.2.2.1 C.2.2.2.2.2.1 hP (kW_D C.2.2.2.2.2.2.1 C.2.2.2.2.2.2.2.1) hS k (kW_at hs) hc hj (C.2.2.2.2.1 _ hl1) (fun _ z => z) hfin hdes rfl rfl (by show _ < (kF a h k 0 ts).length; rw [kF_len]; exact (List.getElem?_eq_some_iff.mp ht).1) hd (fun H1 locs1 hP1 hD1 hS1 => ?_)
  have hP2 : va_P (dC, dI) kcl ((kW a cI cL h).set k (a k, .inr (ci, (kF a h k 0 ts).set j (.int v)))) H1 := hP1
  rw [hset] at hP2
  exact kk p l e R s m args below meth c cells slots Qw dC dI a cI cL A C K H1 locs1 lsA hl hP2 hS1
theorem k_putZ {idx ci j k : Nat} {ts : List Nat} {v : Int32} (hn : narrow .boolean (.int v) = .int v) (hft : fits .boolean (.int v) = true) (hf : kFw t.1.cls idx ci j .boolean) (hd : decode t.2.1 pc = .ok (.putfield idx, 3)) (hp : pc + 3 = pc') (hs : ksh[k]? = some (0, ci, ts)) (ht : ts[j]? = some 2) (kk : At t pc' ls st (hI h k j v) Φ) : At t pc ls (ki v :: kr k :: st) h Φ := by
  subst hp
  intro p l e R s m args below meth c cells slots Qw dC dI a cI cL A C K H locs lsA hl hP hS
  obtain ⟨Cc, T, N, hc, hj, hl1, hfin, hdes⟩ := hf
  obtain ⟨ty0, hty⟩ := (kcl_ok hc).2.2
  have hset := kW_set (a := a) (cI := cI) (cL := cL) (h := h) (h' := hI h k j v) (e := .inr (ci, (kF a h k 0 ts).set j (.int v))) hs (fun q hq => hs_ne _ _ hq) (fun q hq => rfl) (by show Sum.inr _ = Sum.inr _; rw [kF_setI ht (Or.inr rfl), Nat.zero_add])
  refine va_put (ci := ci) (k := j) C.1 C.2.1 C.2.2.2.2.1 (kcl_ok hc).1 ty0 hty (kcl_ok hc).2.1 C.2.2.2.1 C.2.2.2.2.2.1 hP (kW_D C.2.2.2.2.2.2.1 C.2.2.2.2.2.2.2.1) hS k (kW_at hs) hc hj (C.2.2.2.2.1 _ hl1) (fun _ z => z) hfin hdes hn hft (by show _ < (kF a h k 0 ts).length; rw [kF_len]; exact (List.getElem?_eq_some_iff.mp ht).1) hd (fun H1 locs1 hP1 hD1 hS1 => ?_)
  have hP2 : va_P (dC, dI) kcl ((kW a cI cL h).set k (a k, .inr (ci, (kF a h k 0 ts).set j (.int v)))) H1 := hP1
  rw [hset] at hP2
  exact kk p l e R s m args below meth c cells slots Qw dC dI a cI cL A C K H1 locs1 lsA hl hP2 hS1
theorem k_putL {idx ci j k : Nat} {ts : List Nat} {v : Int64} (hf : kFw t.1.cls idx ci j .long) (hd : decode t.2.1 pc = .ok (.putfield idx, 3)) (hp : pc + 3 = pc') (hs : ksh[k]? = some (0, ci, ts)) (ht : ts[j]? = some 1) (kk : At t pc' ls st (hL h k j v) Φ) : At t pc ls (kl v :: kr k :: st) h Φ := by
  subst hp
  intro p l e R s m args below meth c cells slots Qw dC dI a cI cL A C K H locs lsA hl hP hS
  obtain ⟨Cc, T, N, hc, hj, hl1, hfin, hdes⟩ := hf
  obtain ⟨ty0, hty⟩ := (kcl_ok hc).2.2
  have hset := kW_set (a := a) (cI := cI) (cL := cL) (h := h) (h' := hL h k j v) (e := .inr (ci, (kF a h k 0 ts).set j (.long v))) hs (fun q hq => rfl) (fun q hq => hs_ne _ _ hq) (by show Sum.inr _ = Sum.inr _; rw [kF_setL ht, Nat.zero_add])
  refine va_put (ci := ci) (k := j) C.1 C.2.1 C.2.2.2.2.1 (kcl_ok hc).1 ty0 hty (kcl_ok hc).2.1 C.2.2.2.1 C.2.2.2.2.2.1 hP (kW_D C.2.2.2.2.2.2.1 C.2.2.2.2.2.2.2.1) hS k (kW_at hs) hc hj (C.2.2.2.2.1 _ hl1) (fun _ z => z) hfin hdes rfl rfl (by show _ < (kF a h k 0 ts).length; rw [kF_len]; exact (List.getElem?_eq_some_iff.mp ht).1) hd (fun H1 locs1 hP1 hD1 hS1 => ?_)
  have hP2 : va_P (dC, dI) kcl ((kW a cI cL h).set k (a k, .inr (ci, (kF a h k 0 ts).set j (.long v)))) H1 := hP1
  rw [hset] at hP2
  exact kk p l e R s m args below meth c cells slots Qw dC dI a cI cL A C K H1 locs1 lsA hl hP2 hS1
theorem k_iald {k n : Nat} {ts : List Nat} {i : Int32} (hd : decode t.2.1 pc = .ok (.iaload, 1)) (hp : pc + 1 = pc') (hs : ksh[k]? = some (1, n, ts)) (hin : vp_in i n) (kk : At t pc' ls (ki (h.1 k i.toNatClampNeg) :: st) h Φ) : At t pc ls (ki i :: kr k :: st) h Φ := by
  subst hp
  intro p l e R s m args below meth c cells slots Qw dC dI a cI cL A C K H locs lsA hl hP hS
  exact va_iald (n := n) (f := h.1 k) C.1 C.2.1 C.2.2.2.2.2.1 hP k 0 (kW_at hs) rfl hin hd (kk p l e R s m args below meth c cells slots Qw dC dI a cI cL A C K H locs lsA hl hP hS)
theorem k_iast {k n : Nat} {ts : List Nat} {i : Int32} {x : Int32} (hd : decode t.2.1 pc = .ok (.iastore, 1)) (hp : pc + 1 = pc') (hs : ksh[k]? = some (1, n, ts)) (hin : vp_in i n) (kk : At t pc' ls st (hI h k i.toNatClampNeg x) Φ) : At t pc ls (ki x :: ki i :: kr k :: st) h Φ := by
  subst hp
  intro p l e R s m args below meth c cells slots Qw dC dI a cI cL A C K H locs lsA hl hP hS
  have hset := kW_set (a := a) (cI := cI) (cL := cL) (h := h) (h' := hI h k i.toNatClampNeg x) (e := .inl (cI, n, .inl (upd (h.1 k) i.toNatClampNeg x))) hs (fun q hq => hs_ne _ _ hq) (fun q hq => rfl) (by simp only [kE, hI, hs_self])
  refine va_iast (n := n) (f := h.1 k) C.1 C.2.1 C.2.2.2.2.2.1 hP (kW_D C.2.2.2.2.2.2.1 C.2.2.2.2.2.2.2.1) hS k 0 (kW_at hs) rfl hin hd (fun H1 locs1 hP1 hD1 hS1 => ?_)
  rw [hset] at hP1
  exact kk p l e R s m args below meth c cells slots Qw dC dI a cI cL A C K H1 locs1 lsA hl hP1 hS1
theorem k_lald {k n : Nat} {ts : List Nat} {i : Int32} (hd : decode t.2.1 pc = .ok (.laload, 1)) (hp : pc + 1 = pc') (hs : ksh[k]? = some (2, n, ts)) (hin : vp_in i n) (kk : At t pc' ls (kl (h.2 k i.toNatClampNeg) :: st) h Φ) : At t pc ls (ki i :: kr k :: st) h Φ := by
  subst hp
  intro p l e R s m args below meth c cells slots Qw dC dI a cI cL A C K H locs lsA hl hP hS
  exact va_lald (n := n) (f := h.2 k) C.1 C.2.1 C.2.2.2.2.2.1 hP k 1 (kW_at hs) rfl hin hd (kk p l e R s m args below meth c cells slots Qw dC dI a cI cL A C K H locs lsA hl hP hS)
theorem k_last {k n : Nat} {ts : List Nat} {i : Int32} {x : Int64} (hd : decode t.2.1 pc = .ok (.lastore, 1)) (hp : pc + 1 = pc') (hs : ksh[k]? = some (2, n, ts)) (hin : vp_in i n) (kk : At t pc' ls st (hL h k i.toNatClampNeg x) Φ) : At t pc ls (kl x :: ki i :: kr k :: st) h Φ := by
  subst hp
  intro p l e R s m args below meth c cells slots Qw dC dI a cI cL A C K H locs lsA hl hP hS
  have hset := kW_set (a := a) (cI := cI) (cL := cL) (h := h) (h' := hL h k i.toNatClampNeg x) (e := .inl (cL, n, .inr (.inl (vp_updL (h.2 k) i.toNatClampNeg x)))) hs (fun q hq => rfl) (fun q hq => hs_ne _ _ hq) (by simp only [kE, hL, hs_self])
  refine va_last (n := n) (f := h.2 k) C.1 C.2.1 C.2.2.2.2.2.1 hP (kW_D C.2.2.2.2.2.2.1 C.2.2.2.2.2.2.2.1) hS k 1 (kW_at hs) rfl hin hd (fun H1 locs1 hP1 hD1 hS1 => ?_)
  rw [hset] at hP1
  exact kk p l e R s m args below meth c cells slots Qw dC dI a cI cL A C K H1 locs1 lsA hl hP1 hS1
theorem k_alenI {k n : Nat} {ts : List Nat} (hd : decode t.2.1 pc = .ok (.arraylength, 1)) (hp : pc + 1 = pc') (hs : ksh[k]? = some (1, n, ts)) (kk : At t pc' ls (ki (nI n) :: st) h Φ) : At t pc ls (kr k :: st) h Φ := by
  subst hp
  intro p l e R s m args below meth c cells slots Qw dC dI a cI cL A C K H locs lsA hl hP hS
  exact va_alen C.1 C.2.1 C.2.2.2.2.2.1 hP k 0 (kW_at hs) rfl rfl hd (kk p l e R s m args below meth c cells slots Qw dC dI a cI cL A C K H locs lsA hl hP hS)
theorem k_alenL {k n : Nat} {ts : List Nat} (hd : decode t.2.1 pc = .ok (.arraylength, 1)) (hp : pc + 1 = pc') (hs : ksh[k]? = some (2, n, ts)) (kk : At t pc' ls (ki (nI n) :: st) h Φ) : At t pc ls (kr k :: st) h Φ := by
  subst hp
  intro p l e R s m args below meth c cells slots Qw dC dI a cI cL A C K H locs lsA hl hP hS
  exact va_alen C.1 C.2.1 C.2.2.2.2.2.1 hP k 1 (kW_at hs) rfl rfl hd (kk p l e R s m args below meth c cells slots Qw dC dI a cI cL A C K H locs lsA hl hP hS)
end RULES
def kRet (t : kM) (Q : kV → kH → Prop) : Nat → List kV → List kV → kH → Prop := fun pc _ st h =>
  (∃ v : Int32, st = [ki v] ∧ decode t.2.1 pc = .ok (.ireturn, 1) ∧ (∃ ty, t.2.2.2.1 = some ty ∧ narrow ty (.int v) = .int v) ∧ Q (ki v) h) ∨ (∃ v : Int64, st = [kl v] ∧ decode t.2.1 pc = .ok (.lreturn, 1) ∧ t.2.2.2.1 = some .long ∧ Q (kl v) h) ∨ (st = [] ∧ decode t.2.1 pc = .ok (.return_, 1) ∧ t.2.2.2.1 = none ∧ Q ku h)
theorem k_iret {t : kM} {pc : Nat} {ls : List kV} {h : kH} {Q : kV → kH → Prop} {v : Int32} (hd : decode t.2.1 pc = .ok (.ireturn, 1)) (hr : t.2.2.2.1 = some .int) (hq : Q (ki v) h) : At t pc ls [ki v] h (kRet t Q) := k_done (Or.inl ⟨v, rfl, hd, ⟨.int, hr, rfl⟩, hq⟩)
theorem k_zret {t : kM} {pc : Nat} {ls : List kV} {h : kH} {Q : kV → kH → Prop} {v : Int32} (hd : decode t.2.1 pc = .ok (.ireturn, 1)) (hr : t.2.2.2.1 = some .boolean) (hn : narrow .boolean (.int v) = .int v) (hq : Q (ki v) h) : At t pc ls [ki v] h (kRet t Q) := k_done (Or.inl ⟨v, rfl, hd, ⟨.boolean, hr, hn⟩, hq⟩)
theorem k_lret {t : kM} {pc : Nat} {ls : List kV} {h : kH} {Q : kV → kH → Prop} {v : Int64} (hd : decode t.2.1 pc = .ok (.lreturn, 1)) (hr : t.2.2.2.1 = some .long) (hq : Q (kl v) h) : At t pc ls [kl v] h (kRet t Q) := k_done (Or.inr (Or.inl ⟨v, rfl, hd, hr, hq⟩))
theorem k_vret {t : kM} {pc : Nat} {ls : List kV} {h : kH} {Q : kV → kH → Prop} (hd : decode t.2.1 pc = .ok (.return_, 1)) (hr : t.2.2.2.1 = none) (hq : Q ku h) : At t pc ls [] h (kRet t Q) := k_done (Or.inr (Or.inr ⟨rfl, hd, hr, hq⟩))
def kents : List kV → List kV
  | [] => []
  | some (.inr (.inr x)) :: r => kl x :: none :: kents r
  | v :: r => v :: kents r
def kent (n : Nat) (as : List kV) : List kV := kents as ++ List.replicate (n - (kents as).length) none
theorem lvl_none (a : Nat → Nat) (n i : Nat) : lvl a i (List.replicate n none) = [] := by
  induction n generalizing i with
  | zero => rfl
  | succ n ih => rw [List.replicate_succ, lvl, ih]
theorem lvl_ents (a : Nat → Nat) (n : Nat) : ∀ (as : List kV) (i : Nat) (q : Nat × Value), q ∈ lvl a i (kents as ++ List.replicate n none) → q ∈ lv_args i (as.map (cv a))
  | [], i, q, h => by rw [kents, List.nil_append, lvl_none] at h; cases h
  | none :: r, i, q, h => by
    rw [kents, List.cons_append, lvl] at h
    · exact List.mem_cons_of_mem _ (by simpa [cv, Value.category] using lvl_ents a n r (i + 1) q h)
    · intro x hx; cases hx
  | some (.inl x) :: r, i, q, h => by
    rw [kents, List.cons_append, lvl] at h
    · rcases List.mem_cons.mp h with h | h
      · exact List.mem_cons.mpr (Or.inl h)
      · exact List.mem_cons_of_mem _ (by simpa [cv, Value.category] using lvl_ents a n r (i + 1) q h)
    · intro x hx; cases hx
  | some (.inr (.inl x)) :: r, i, q, h => by
    rw [kents, List.cons_append, lvl] at h
    · rcases List.mem_cons.mp h with h | h
      · exact List.mem_cons.mpr (Or.inl h)
      · exact List.mem_cons_of_mem _ (by simpa [cv, Value.category] using lvl_ents a n r (i + 1) q h)
    · intro x hx; cases hx
  | some (.inr (.inr x)) :: r, i, q, h => by
    rw [kents, List.cons_append, lvl, List.cons_append, lvl] at h
    rcases List.mem_cons.mp h with h | h
    · exact List.mem_cons.mpr (Or.inl h)
    · exact List.mem_cons_of_mem _ (by simpa [cv, Value.category] using lvl_ents a n r (i + 1 + 1) q h)
theorem kents_len (a : Nat → Nat) : ∀ (as : List kV), (lg_sl (as.map (cv a))).length = (kents as).length
  | [] => rfl
  | none :: r => by
    have ih := kents_len a r
    rw [kents, List.map_cons, lg_sl, List.flatMap_cons, List.length_append]
    · rw [← lg_sl, ih]; simp [cv, Value.category]; omega
    · intro x hx; cases hx
  | some (.inl x) :: r => by
    have ih := kents_len a r
    rw [kents, List.map_cons, lg_sl, List.flatMap_cons, List.length_append]
    · rw [← lg_sl, ih]; simp [cv, Value.category]; omega
    · intro x hx; cases hx
  | some (.inr (.inl x)) :: r => by
    have ih := kents_len a r
    rw [kents, List.map_cons, lg_sl, List.flatMap_cons, List.length_append]
    · rw [← lg_sl, ih]; simp [cv, Value.category]; omega
    · intro x hx; cases hx
  | some (.inr (.inr x)) :: r => by
    have ih := kents_len a r
    rw [kents, List.map_cons, lg_sl, List.flatMap_cons, List.length_append, ← lg_sl, ih]
    simp [cv, Value.category]; omega
theorem k_ev {t : kM} {as ls : List kV} {h : kH} {Q : kV → kH → Prop} (hy : plainName t.1.cls = true) (hn : (kents as).length ≤ t.2.2.1) (hls : kent t.2.2.1 as = ls) (at0 : At t 0 ls [] h (kRet t Q)) : Ev t as h Q := by
  subst hls
  intro l dC dI a cI cL sz
  refine Met.ofW (cc := t.2.1) (maxL := t.2.2.1) (ret := t.2.2.2.1) hy rfl ?_
  intro p e s m args below meth c s₁ B hml hv
  obtain ⟨rfl, hsz, hP, hK, hin, hE⟩ := hv
  subst hsz
  have hx := B.exec
  have hb := B.bytes
  have hr := B.returns
  have hlocks := B.notSynchronized
  have hts := atoms_spec (ws := kcode t :: kTbl) B.pre
  have Cx : kC t p (krm t) s m (List.map (cv a) as).toArray c 0 0 dC dI a cI cL (kA a s.heap.size) := ⟨hx, hb, hml, findClass_of_methodNamed B.named, fun w hw => hts w (List.mem_cons_of_mem _ hw), hK, hin, fun k hk => Or.inl ⟨k, hk, rfl⟩, fun q hq => Or.inr hq, hE, Nat.le_refl _, Nat.le_refl _, Nat.le_refl _, Nat.le_refl _⟩
  rw [lg_entry_eq]
  have hl := lv_entry (as.map (cv a)) (n := t.2.2.1) (by rw [kents_len]; exact hn)
  refine at0 p l e (krm t) s m _ below meth c 0 0 _ dC dI a cI cL (kA a s.heap.size) Cx ?_ s.heap [] _ (lv_less hl (fun q hq => lvl_ents a _ as 0 q hq)) hP va_S.rf
  intro pc' ls' st' h' hΦ H locs lsA hl' hP' hS'
  rcases hΦ with ⟨v, rfl, hd, ⟨ty, hty, hnr⟩, hq⟩ | ⟨v, rfl, hd, hty, hq⟩ | ⟨rfl, hd, hty, hq⟩
  · exact W.zret hx hb (by rw [hr]; exact hty) hnr (fun t1 ht1 hW1 => ⟨ki v, h', hq, rfl, by rw [ht1]; exact hP', (hS'.F ht1).1, (hS'.F ht1).2⟩) hS'.2.2 hd hlocks
  · exact W.lret hx hb (by rw [hr]; exact hty) (fun t1 ht1 hW1 => ⟨kl v, h', hq, rfl, by rw [ht1]; exact hP', (hS'.F ht1).1, (hS'.F ht1).2⟩) hS'.2.2 hd hlocks
  · exact W.vret hx hb (by rw [hr]; exact hty) (fun t1 ht1 hW1 => ⟨ku, h', hq, rfl, by rw [ht1]; exact hP', (hS'.F ht1).1, (hS'.F ht1).2⟩) hS'.2.2 hd hlocks
theorem k_evm {t : kM} {as : List kV} {h : kH} {Q Q' : kV → kH → Prop} (ev : Ev t as h Q) (hq : ∀ r h', Q r h' → Q' r h') : Ev t as h Q' := by
  intro l dC dI a cI cL sz p e ha hc hk s m args below hf happ hPc hT
  obtain ⟨k, o, h1, h2, h3, ⟨⟨r, h', hQ, hrest⟩, h5⟩⟩ := ev l dC dI a cI cL sz p e ha hc hk s m args below hf happ hPc hT
  exact ⟨k, o, h1, h2, h3, ⟨⟨r, h', hq r h' hQ, hrest⟩, h5⟩⟩
abbrev kpush (r : kV) (st : List kV) : List kV := match r with
  | none => st
  | some v => some v :: st
theorem kpush_ret (a : Nat → Nat) (r : kV) (st : List kV) : (kret a r).toList ++ st.map (cv a) = (kpush r st).map (cv a) := by
  cases r <;> rfl
theorem k_goodIn {t t2 : kM} (hc : kcode t2 ∈ kTbl) : GoodIn kTbl (kcode t2 :: kTbl) := fun w hw => by
  rcases List.mem_cons.mp hw with rfl | hw
  · exact kGood _ hc
  · exact kGood _ hw
def kMd (t2 : kM) (n : Nat) : Prop := (t2.1.cls ≠ "java/lang/invoke/MethodHandle" ∧ t2.1.cls ≠ "java/lang/invoke/VarHandle" ∧ (parseMethodDescriptor t2.1.desc).map (fun d => d.parameters.length) = some n) ∧ kcode t2 ∈ kTbl ∧ Cond.initialized t2.1.cls ∈ kTbl
/-- a link to an instance method; to a static one; to a nest mate's static one -/
def kMV (own : String) (idx : Nat) (t2 : kM) (n : Nat) : Prop := kMd t2 n ∧ Cond.methodLink own idx t2.1 ∈ kTbl ∧ Cond.instanceMethod t2.1 ∈ kTbl ∧ Cond.selects t2.1.cls t2.1 t2.1 ∈ kTbl
def kMS (own : String) (idx : Nat) (t2 : kM) (n : Nat) : Prop := kMd t2 n ∧ Cond.static t2.1 ∈ kTbl ∧ (Cond.methodLink own idx t2.1 ∈ kTbl ∨ ∃ host, Cond.methodLinkNest own idx t2.1 host ∈ kNest)
theorem k_Pblind {a : Nat → Nat} {dC : Nat → ClassId} {dI : Nat → Nat → Nat} {cI cL : ClassId} {sz : Nat} {as : List kV} {h : kH} : FrameBlind (kP a dC dI cI cL sz as h) := fun a0 U g mk q => by
  obtain ⟨q0, q1, qP, qK, qI, qE⟩ := q
  exact ⟨q0, q1, qP, va_K.moved (u := U) (U := U.calling g mk a0) (Vm.Alike.refl U.vm) qK, qI, kEnv.warm (s := U) (U := U.calling g mk a0) (State.WarmedH.refl U) qE⟩
theorem k_run {p : Program} {l : Launch} {e : Env} {R : Room} {s : State} {m : MethodId} {args : Array Value} {below : List Frame} {meth : Method} {c : Code} {H : Heap} {locs : List Loc} {cells slots : Nat} {Qw : State → Prop} {dC : Nat → ClassId} {dI : Nat → Nat → Nat} {a : Nat → Nat} {cI cL : ClassId} {A : Nat → Prop} {lsA : Array Slot} {pc : Nat} {st0 rest : List Value} {av : Array Value} {Q : kV → kH → Prop} (hr : va_Run p l e R s m args below meth c H locs cells slots 0 0 (F0 m pc lsA st0) rest (kQ a dC dI cI cL H.size Q av) (kA a H.size)) (hS : va_S A s.heap H locs) (hA : ∀ q, kA a H.size q → A q) (kk : ∀ (r : kV) (h' : kH) (H1 : Heap) (locs1 : List Loc), Q r h' → va_P (dC, dI) kcl (kW a cI cL h') H1 → va_S A s.heap H1 locs1 → W p l e R s m args below meth c H1 locs1 cells slots Qw (F0 m (pc + 3) lsA ((kret a r).toList ++ rest))) : W p l e R s m args below meth c H locs cells slots Qw (F0 m pc lsA st0) := by
  intro T hT X
  obtain ⟨v, st₀, t, T', L, h0, X', hL, e1, e2, ⟨r, h', hQ, hv, hP', hz, hk⟩, st⟩ := hr T hT X
  cases hv
  rw [h0] at hz hk
  obtain ⟨t2, a1, b1⟩ := kk r h' T'.heap (locs ++ L) hQ (by rw [e1]; exact hP') ⟨Nat.le_trans hS.1 (by rw [e1]; exact hz), fun q h1 h2 => by rw [e1, hk q (Nat.lt_of_lt_of_le h1 hS.1) (fun z => h2 (hA q z))]; exact hS.2.1 q h1 h2, fun q hq => by
      rcases List.mem_append.mp hq with z | z
      · exact hS.2.2 q z
      · exact hA _ (hL q z)⟩ T' rfl X'
  exact ⟨t2, st t2 a1, b1⟩
theorem k_callV {t t2 : kM} {pc pc' : Nat} {ls st as : List kV} {h : kH} {Φ : Nat → List kV → List kV → kH → Prop} {idx n k ci N : Nat} {T : u_T} {ts : List Nat} {Q : kV → kH → Prop} (hd : decode t.2.1 pc = .ok (.invokevirtual idx, 3)) (hp : pc + 3 = pc') (hm : kMV t.1.cls idx t2 n) (hs : ksh[k]? = some (0, ci, ts)) (hc : kcl[ci]? = some (t2.1.cls, T, N)) (hn : as.length = n) (hroom : t2.2.2.2.2.1 + 1 ≤ t.2.2.2.2.1 ∧ 8 + (t2.2.2.1 + 11) + t2.2.2.2.2.2 ≤ t.2.2.2.2.2) (hst : (st.map kcat).sum ≤ 8) (ev : Ev t2 (kr k :: as) h Q) (kk : ∀ r h', Q r h' → At t pc' ls (kpush r st) h' Φ) : At t pc ls (as.reverse ++ kr k :: st) h Φ := by
  subst hp
  intro p l e R s m args below meth c cells slots Qw dC dI a cI cL A C K H locs lsA hl hP hS
  have hA : ∀ q, kA a H.size q → A q := fun q hq => by
    rcases hq with ⟨k', hk', rfl⟩ | hq
    · exact C.2.2.2.2.2.2.2.1 k' hk'
    · exact C.2.2.2.2.2.2.2.2.1 q (Nat.le_trans hS.1 hq)
  have hE : ∀ U : State, U.heap = H → s.WarmedH U.vm → kEnv a (kA a H.size) U U.heap := fun U hU hW => by
    rw [hU]
    exact (kEnv.warm hW (C.2.2.2.2.2.2.2.2.2.1.kept hS.2.1)).narrow hA
  obtain ⟨⟨hdd, hcd, hini⟩, hlk, hinst, hsel⟩ := hm
  have ht := C.2.2.2.2.1
  have hfr := C.2.2.2.2.2.2.2.2.2.2
  have cw : CallW R s args t.1.cls t2.1.cls idx t2.1 t2.2.1 t2.2.2.1 t2.2.2.2.1 (kcode t2 :: kTbl) (krm t2) 0 0 n := ⟨callB_of n ht (k_goodIn (t := t) hcd) rfl rfl rfl (ht _ hini) (ht _ hlk) hdd ⟨Nat.le_trans hroom.1 hfr.1, Nat.le_trans hroom.2 hfr.2.1⟩, ht _ hinst, ht _ hsel⟩
  refine k_run (va_runV (As := as.map (cv a)) (rest := st.map (cv a)) ⟨C.1, C.2.1, C.2.2.1, C.2.2.2.1, ht⟩ (ev l dC dI a cI cL H.size) cw ⟨k_Pblind, va_recv C.2.2.2.2.2.1 hP hc (kW_at hs), fun U hU hW => ⟨rfl, by rw [hU], by rw [hU]; exact hP, va_K.moved hW.alike C.2.2.2.2.2.1, C.2.2.2.2.2.2.1, hE U hU hW⟩⟩ rfl (by rw [List.length_map]; exact hn) hl.1 (by simp [cv]) (lv_room (by rw [List.map_map]; exact (by simpa [Function.comp_def, kcat_cv] using hst))) hd ⟨hfr.2.2.1, hfr.2.2.2⟩) hS hA (fun r h' H1 locs1 hQ hP1 hS1 => ?_)
  rw [kpush_ret]
  exact kk r h' hQ p l e R s m args below meth c cells slots Qw dC dI a cI cL A C K H1 locs1 lsA hl hP1 hS1
theorem k_callS {t t2 : kM} {pc pc' : Nat} {ls st as : List kV} {h : kH} {Φ : Nat → List kV → List kV → kH → Prop} {idx n : Nat} {Q : kV → kH → Prop} (hd : decode t.2.1 pc = .ok (.invokestatic idx, 3)) (hp : pc + 3 = pc') (hm : kMS t.1.cls idx t2 n) (hn : as.length = n) (hroom : t2.2.2.2.2.1 + 1 ≤ t.2.2.2.2.1 ∧ 8 + (t2.2.2.1 + 11) + t2.2.2.2.2.2 ≤ t.2.2.2.2.2) (hst : (st.map kcat).sum ≤ 8) (ev : Ev t2 as h Q) (kk : ∀ r h', Q r h' → At t pc' ls (kpush r st) h' Φ) : At t pc ls (as.reverse ++ st) h Φ := by
  subst hp
  intro p l e R s m args below meth c cells slots Qw dC dI a cI cL A C K H locs lsA hl hP hS
  have hA : ∀ q, kA a H.size q → A q := fun q hq => by
    rcases hq with ⟨k', hk', rfl⟩ | hq
    · exact C.2.2.2.2.2.2.2.1 k' hk'
    · exact C.2.2.2.2.2.2.2.2.1 q (Nat.le_trans hS.1 hq)
  have hE : ∀ U : State, U.heap = H → s.WarmedH U.vm → kEnv a (kA a H.size) U U.heap := fun U hU hW => by
    rw [hU]
    exact (kEnv.warm hW (C.2.2.2.2.2.2.2.2.2.1.kept hS.2.1)).narrow hA
  obtain ⟨⟨hdd, hcd, hini⟩, hstt, hlk⟩ := hm
  have ht := C.2.2.2.2.1
  have hfr := C.2.2.2.2.2.2.2.2.2.2
  have hpre : PreS s H (kP a dC dI cI cL H.size as h) (as.map (cv a)) := ⟨k_Pblind, fun U hU hW => ⟨rfl, by rw [hU], by rw [hU]; exact hP, va_K.moved hW.alike C.2.2.2.2.2.1, C.2.2.2.2.2.2.1, hE U hU hW⟩⟩
  have hroom' : (krm t2).frames + 1 ≤ R.frames ∧ 8 + (t2.2.2.1 + 11) + (krm t2).locals ≤ R.locals := ⟨Nat.le_trans hroom.1 hfr.1, Nat.le_trans hroom.2 hfr.2.1⟩
  have hwr : 2 * (F0 m pc lsA (List.map (cv a) (as.reverse ++ st))).monitorRoom + ((st.map (cv a)).map fun v => v.category).sum ≤ 8 := lv_room (by rw [List.map_map]; exact (by simpa [Function.comp_def, kcat_cv] using hst))
  rcases hlk with hlk | ⟨host, hlk⟩
  · refine k_run (va_runS (As := as.map (cv a)) (rest := st.map (cv a)) ⟨C.1, C.2.1, C.2.2.1, C.2.2.2.1, ht⟩ (ev l dC dI a cI cL H.size) ⟨callB_of n ht (k_goodIn (t := t) hcd) rfl rfl rfl (ht _ hini) (ht _ hlk) hdd hroom', ht _ hstt⟩ hpre rfl (by rw [List.length_map]; exact hn) hl.1 (by simp [cv]) hwr hd ⟨hfr.2.2.1, hfr.2.2.2⟩) hS hA (fun r h' H1 locs1 hQ hP1 hS1 => ?_)
    rw [kpush_ret]
    exact kk r h' hQ p l e R s m args below meth c cells slots Qw dC dI a cI cL A C K H1 locs1 lsA hl hP1 hS1
  · refine k_run (va_runSN (As := as.map (cv a)) (rest := st.map (cv a)) ⟨C.1, C.2.1, C.2.2.1, C.2.2.2.1, ht⟩ (ev l dC dI a cI cL H.size) ⟨va_cnB n ht (k_goodIn (t := t) hcd) rfl rfl rfl (C.2.2.2.2.2.2.2.2.2.1.1 _ hlk) (ht _ hini) hdd hroom', ht _ hstt, trivial⟩ hpre rfl (by rw [List.length_map]; exact hn) hl.1 (by simp [cv]) hwr hd ⟨hfr.2.2.1, hfr.2.2.2⟩) hS hA (fun r h' H1 locs1 hQ hP1 hS1 => ?_)
    rw [kpush_ret]
    exact kk r h' hQ p l e R s m args below meth c cells slots Qw dC dI a cI cL A C K H1 locs1 lsA hl hP1 hS1
theorem k_callV0 {t t2 : kM} {pc pc' : Nat} {ls st : List kV} {h : kH} {Φ : Nat → List kV → List kV → kH → Prop} {idx k ci N : Nat} {T : u_T} {ts : List Nat} {Q : kV → kH → Prop} (hd : decode t.2.1 pc = .ok (.invokevirtual idx, 3)) (hp : pc + 3 = pc') (hm : kMV t.1.cls idx t2 0) (hs : ksh[k]? = some (0, ci, ts)) (hc : kcl[ci]? = some (t2.1.cls, T, N)) (hroom : t2.2.2.2.2.1 + 1 ≤ t.2.2.2.2.1 ∧ 8 + (t2.2.2.1 + 11) + t2.2.2.2.2.2 ≤ t.2.2.2.2.2) (hst : (st.map kcat).sum ≤ 8) (ev : Ev t2 (kr k :: []) h Q) (kk : ∀ r h', Q r h' → At t pc' ls (kpush r st) h' Φ) : At t pc ls (kr k :: st) h Φ := k_callV (as := []) hd hp hm hs hc rfl hroom hst ev kk
theorem k_callS0 {t t2 : kM} {pc pc' : Nat} {ls st : List kV} {h : kH} {Φ : Nat → List kV → List kV → kH → Prop} {idx : Nat} {Q : kV → kH → Prop} (hd : decode t.2.1 pc = .ok (.invokestatic idx, 3)) (hp : pc + 3 = pc') (hm : kMS t.1.cls idx t2 0) (hroom : t2.2.2.2.2.1 + 1 ≤ t.2.2.2.2.1 ∧ 8 + (t2.2.2.1 + 11) + t2.2.2.2.2.2 ≤ t.2.2.2.2.2) (hst : (st.map kcat).sum ≤ 8) (ev : Ev t2 [] h Q) (kk : ∀ r h', Q r h' → At t pc' ls (kpush r st) h' Φ) : At t pc ls (st) h Φ := k_callS (as := []) hd hp hm rfl hroom hst ev kk
theorem k_callV1 {t t2 : kM} {pc pc' : Nat} {ls st : List kV} {x1 : kV} {h : kH} {Φ : Nat → List kV → List kV → kH → Prop} {idx k ci N : Nat} {T : u_T} {ts : List Nat} {Q : kV → kH → Prop} (hd : decode t.2.1 pc = .ok (.invokevirtual idx, 3)) (hp : pc + 3 = pc') (hm : kMV t.1.cls idx t2 1) (hs : ksh[k]? = some (0, ci, ts)) (hc : kcl[ci]? = some (t2.1.cls, T, N)) (hroom : t2.2.2.2.2.1 + 1 ≤ t.2.2.2.2.1 ∧ 8 + (t2.2.2.1 + 11) + t2.2.2.2.2.2 ≤ t.2.2.2.2.2) (hst : (st.map kcat).sum ≤ 8) (ev : Ev t2 (kr k :: [x1]) h Q) (kk : ∀ r h', Q r h' → At t pc' ls (kpush r st) h' Φ) : At t pc ls (x1 :: kr k :: st) h Φ := k_callV (as := [x1]) hd hp hm hs hc rfl hroom hst ev kk
theorem k_callS1 {t t2 : kM} {pc pc' : Nat} {ls st : List kV} {x1 : kV} {h : kH} {Φ : Nat → List kV → List kV → kH → Prop} {idx : Nat} {Q : kV → kH → Prop} (hd : decode t.2.1 pc = .ok (.invokestatic idx, 3)) (hp : pc + 3 = pc') (hm : kMS t.1.cls idx t2 1) (hroom : t2.2.2.2.2.1 + 1 ≤ t.2.2.2.2.1 ∧ 8 + (t2.2.2.1 + 11) + t2.2.2.2.2.2 ≤ t.2.2.2.2.2) (hst : (st.map kcat).sum ≤ 8) (ev : Ev t2 [x1] h Q) (kk : ∀ r h', Q r h' → At t pc' ls (kpush r st) h' Φ) : At t pc ls (x1 :: st) h Φ := k_callS (as := [x1]) hd hp hm rfl hroom hst ev kk
theorem k_callV2 {t t2 : kM} {pc pc' : Nat} {ls st : List kV} {x1 x2 : kV} {h : kH} {Φ : Nat → List kV → List kV → kH → Prop} {idx k ci N : Nat} {T : u_T} {ts : List Nat} {Q : kV → kH → Prop} (hd : decode t.2.1 pc = .ok (.invokevirtual idx, 3)) (hp : pc + 3 = pc') (hm : kMV t.1.cls idx t2 2) (hs : ksh[k]? = some (0, ci, ts)) (hc : kcl[ci]? = some (t2.1.cls, T, N)) (hroom : t2.2.2.2.2.1 + 1 ≤ t.2.2.2.2.1 ∧ 8 + (t2.2.2.1 + 11) + t2.2.2.2.2.2 ≤ t.2.2.2.2.2) (hst : (st.map kcat).sum ≤ 8) (ev : Ev t2 (kr k :: [x1, x2]) h Q) (kk : ∀ r h', Q r h' → At t pc' ls (kpush r st) h' Φ) : At t pc ls (x2 :: x1 :: kr k :: st) h Φ := k_callV (as := [x1, x2]) hd hp hm hs hc rfl hroom hst ev kk
theorem k_callS2 {t t2 : kM} {pc pc' : Nat} {ls st : List kV} {x1 x2 : kV} {h : kH} {Φ : Nat → List kV → List kV → kH → Prop} {idx : Nat} {Q : kV → kH → Prop} (hd : decode t.2.1 pc = .ok (.invokestatic idx, 3)) (hp : pc + 3 = pc') (hm : kMS t.1.cls idx t2 2) (hroom : t2.2.2.2.2.1 + 1 ≤ t.2.2.2.2.1 ∧ 8 + (t2.2.2.1 + 11) + t2.2.2.2.2.2 ≤ t.2.2.2.2.2) (hst : (st.map kcat).sum ≤ 8) (ev : Ev t2 [x1, x2] h Q) (kk : ∀ r h', Q r h' → At t pc' ls (kpush r st) h' Φ) : At t pc ls (x2 :: x1 :: st) h Φ := k_callS (as := [x1, x2]) hd hp hm rfl hroom hst ev kk
theorem k_callV3 {t t2 : kM} {pc pc' : Nat} {ls st : List kV} {x1 x2 x3 : kV} {h : kH} {Φ : Nat → List kV → List kV → kH → Prop} {idx k ci N : Nat} {T : u_T} {ts : List Nat} {Q : kV → kH → Prop} (hd : decode t.2.1 pc = .ok (.invokevirtual idx, 3)) (hp : pc + 3 = pc') (hm : kMV t.1.cls idx t2 3) (hs : ksh[k]? = some (0, ci, ts)) (hc : kcl[ci]? = some (t2.1.cls, T, N)) (hroom : t2.2.2.2.2.1 + 1 ≤ t.2.2.2.2.1 ∧ 8 + (t2.2.2.1 + 11) + t2.2.2.2.2.2 ≤ t.2.2.2.2.2) (hst : (st.map kcat).sum ≤ 8) (ev : Ev t2 (kr k :: [x1, x2, x3]) h Q) (kk : ∀ r h', Q r h' → At t pc' ls (kpush r st) h' Φ) : At t pc ls (x3 :: x2 :: x1 :: kr k :: st) h Φ := k_callV (as := [x1, x2, x3]) hd hp hm hs hc rfl hroom hst ev kk
theorem k_callS3 {t t2 : kM} {pc pc' : Nat} {ls st : List kV} {x1 x2 x3 : kV} {h : kH} {Φ : Nat → List kV → List kV → kH → Prop} {idx : Nat} {Q : kV → kH → Prop} (hd : decode t.2.1 pc = .ok (.invokestatic idx, 3)) (hp : pc + 3 = pc') (hm : kMS t.1.cls idx t2 3) (hroom : t2.2.2.2.2.1 + 1 ≤ t.2.2.2.2.1 ∧ 8 + (t2.2.2.1 + 11) + t2.2.2.2.2.2 ≤ t.2.2.2.2.2) (hst : (st.map kcat).sum ≤ 8) (ev : Ev t2 [x1, x2, x3] h Q) (kk : ∀ r h', Q r h' → At t pc' ls (kpush r st) h' Φ) : At t pc ls (x3 :: x2 :: x1 :: st) h Φ := k_callS (as := [x1, x2, x3]) hd hp hm rfl hroom hst ev kk
theorem k_callV4 {t t2 : kM} {pc pc' : Nat} {ls st : List kV} {x1 x2 x3 x4 : kV} {h : kH} {Φ : Nat → List kV → List kV → kH → Prop} {idx k ci N : Nat} {T : u_T} {ts : List Nat} {Q : kV → kH → Prop} (hd : decode t.2.1 pc = .ok (.invokevirtual idx, 3)) (hp : pc + 3 = pc') (hm : kMV t.1.cls idx t2 4) (hs : ksh[k]? = some (0, ci, ts)) (hc : kcl[ci]? = some (t2.1.cls, T, N)) (hroom : t2.2.2.2.2.1 + 1 ≤ t.2.2.2.2.1 ∧ 8 + (t2.2.2.1 + 11) + t2.2.2.2.2.2 ≤ t.2.2.2.2.2) (hst : (st.map kcat).sum ≤ 8) (ev : Ev t2 (kr k :: [x1, x2, x3, x4]) h Q) (kk : ∀ r h', Q r h' → At t pc' ls (kpush r st) h' Φ) : At t pc ls (x4 :: x3 :: x2 :: x1 :: kr k :: st) h Φ := k_callV (as := [x1, x2, x3, x4]) hd hp hm hs hc rfl hroom hst ev kk
theorem k_callS4 {t t2 : kM} {pc pc' : Nat} {ls st : List kV} {x1 x2 x3 x4 : kV} {h : kH} {Φ : Nat → List kV → List kV → kH → Prop} {idx : Nat} {Q : kV → kH → Prop} (hd : decode t.2.1 pc = .ok (.invokestatic idx, 3)) (hp : pc + 3 = pc') (hm : kMS t.1.cls idx t2 4) (hroom : t2.2.2.2.2.1 + 1 ≤ t.2.2.2.2.1 ∧ 8 + (t2.2.2.1 + 11) + t2.2.2.2.2.2 ≤ t.2.2.2.2.2) (hst : (st.map kcat).sum ≤ 8) (ev : Ev t2 [x1, x2, x3, x4] h Q) (kk : ∀ r h', Q r h' → At t pc' ls (kpush r st) h' Φ) : At t pc ls (x4 :: x3 :: x2 :: x1 :: st) h Φ := k_callS (as := [x1, x2, x3, x4]) hd hp hm rfl hroom hst ev kk
theorem k_callV5 {t t2 : kM} {pc pc' : Nat} {ls st : List kV} {x1 x2 x3 x4 x5 : kV} {h : kH} {Φ : Nat → List kV → List kV → kH → Prop} {idx k ci N : Nat} {T : u_T} {ts : List Nat} {Q : kV → kH → Prop} (hd : decode t.2.1 pc = .ok (.invokevirtual idx, 3)) (hp : pc + 3 = pc') (hm : kMV t.1.cls idx t2 5) (hs : ksh[k]? = some (0, ci, ts)) (hc : kcl[ci]? = some (t2.1.cls, T, N)) (hroom : t2.2.2.2.2.1 + 1 ≤ t.2.2.2.2.1 ∧ 8 + (t2.2.2.1 + 11) + t2.2.2.2.2.2 ≤ t.2.2.2.2.2) (hst : (st.map kcat).sum ≤ 8) (ev : Ev t2 (kr k :: [x1, x2, x3, x4, x5]) h Q) (kk : ∀ r h', Q r h' → At t pc' ls (kpush r st) h' Φ) : At t pc ls (x5 :: x4 :: x3 :: x2 :: x1 :: kr k :: st) h Φ := k_callV (as := [x1, x2, x3, x4, x5]) hd hp hm hs hc rfl hroom hst ev kk
theorem k_callS5 {t t2 : kM} {pc pc' : Nat} {ls st : List kV} {x1 x2 x3 x4 x5 : kV} {h : kH} {Φ : Nat → List kV → List kV → kH → Prop} {idx : Nat} {Q : kV → kH → Prop} (hd : decode t.2.1 pc = .ok (.invokestatic idx, 3)) (hp : pc + 3 = pc') (hm : kMS t.1.cls idx t2 5) (hroom : t2.2.2.2.2.1 + 1 ≤ t.2.2.2.2.1 ∧ 8 + (t2.2.2.1 + 11) + t2.2.2.2.2.2 ≤ t.2.2.2.2.2) (hst : (st.map kcat).sum ≤ 8) (ev : Ev t2 [x1, x2, x3, x4, x5] h Q) (kk : ∀ r h', Q r h' → At t pc' ls (kpush r st) h' Φ) : At t pc ls (x5 :: x4 :: x3 :: x2 :: x1 :: st) h Φ := k_callS (as := [x1, x2, x3, x4, x5]) hd hp hm rfl hroom hst ev kk
