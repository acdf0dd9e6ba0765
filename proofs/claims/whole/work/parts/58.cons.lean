/-! CONSTRUCTORS: worlds that grow -/
abbrev cV : Type := List (Nat × Value)
def cC (own : String) (cd : ByteArray) (nL : Nat) (p : Program) (s : State) (m : MethodId) (args : Array Value) (c : Code) (dC : Nat → ClassId) (dI : Nat → Nat → Nat) (cI cL : ClassId) (A : Nat → Prop) : Prop := p.tables.exec = Jvm.exec ∧ c.code = cd ∧ c.maxLocals = nL ∧ s.vm.findClass own = some m.cls ∧ (∀ w ∈ kTbl, w.before args s = true) ∧ va_K (dC, dI) kcl (kty cI cL) s ∧ (∀ w ∈ kNest, va_Nw w s) ∧ ∀ q, s.heap.size ≤ q → A q
def CW (p : Program) (l : Launch) (e : Env) (R : Room) (s : State) (m : MethodId) (args : Array Value) (below : List Frame) (meth : Method) (c : Code) (Qw : State → Prop) (dC : Nat → ClassId) (dI : Nat → Nat → Nat) (A : Nat → Prop) (nL pc : Nat) (lv : cV) (st : List Value) (ws : va_W) (cells slots : Nat) : Prop := ∀ (H : Heap) (locs : List Loc) (ls : Array Slot), lv_has ls nL lv → va_P (dC, dI) kcl ws H → va_D A ws → va_S A s.heap H locs → W p l e R s m args below meth c H locs cells slots Qw (F0 m pc ls st)
/-- the contract of a constructor: h0 is the object, new, of class ci; g the addresses of what it makes -/
def cPre (dC : Nat → ClassId) (dI : Nat → Nat → Nat) (cI cL : ClassId) (ci : Nat) (fs0 : List Value) (As : List Value) (h0 sz : Nat) : Array Value → State → Prop := va_Pc (.ref h0 :: As) (fun U => U.heap.size = sz ∧ va_P (dC, dI) kcl [(h0, .inr (ci, fs0))] U.heap ∧ va_K (dC, dI) kcl (kty cI cL) U ∧ ∀ w ∈ kNest, va_Nw w U)
def cPost (dC : Nat → ClassId) (dI : Nat → Nat → Nat) (w1 : (Nat → Nat) → va_W) (A : Nat → Prop) : Array Value → State → Outcome → State → Prop := va_Qv (fun _ : Nat → Nat => True) (fun g t => va_P (dC, dI) kcl (w1 g) t.heap ∧ va_D A (w1 g)) A
abbrev cRm (fr lo mc ms : Nat) : Room := { frames := fr, cells := mc, slots := ms, locals := lo }
def Con (y : MethodName) (bytes : ByteArray) (maxL fr lo mc ms ci : Nat) (fs0 As : List Value) (cI cL : ClassId) (h0 : Nat) (w1 : (Nat → Nat) → va_W) : Prop := ∀ (l : Launch) (dC : Nat → ClassId) (dI : Nat → Nat → Nat) (sz : Nat), Met l y (.code y bytes maxL none :: kTbl) (cRm fr lo mc ms) (cPre dC dI cI cL ci fs0 As h0 sz) (cPost dC dI w1 (va_A [(h0, .inr (ci, fs0))] sz)) mc ms (va_A [(h0, .inr (ci, fs0))] sz)
theorem c_blind {dC : Nat → ClassId} {dI : Nat → Nat → Nat} {cI cL : ClassId} {ci : Nat} {fs0 As : List Value} {h0 sz : Nat} : FrameBlind (cPre dC dI cI cL ci fs0 As h0 sz) := fun a0 U g mk q => by
  obtain ⟨q0, q1, qP, qK, qN⟩ := q
  exact ⟨q0, q1, qP, va_K.moved (u := U) (U := U.calling g mk a0) (Vm.Alike.refl U.vm) qK, fun w hw => kNw_warm (s := U) (U := U.calling g mk a0) hw (State.WarmedH.refl U) (qN w hw)⟩
theorem con_of {y : MethodName} {bytes : ByteArray} {maxL fr lo mc ms ci : Nat} {fs0 As : List Value} {cI cL : ClassId} {h0 : Nat} {w1 : (Nat → Nat) → va_W} (hy : plainName y.cls = true) (hyn : y.name = "<init>") (hn : (lg_sl (.ref h0 :: As)).length ≤ maxL) (body : ∀ (p : Program) (l : Launch) (e : Env) (s : State) (m : MethodId) (args : Array Value) (below : List Frame) (meth : Method) (c : Code) (dC : Nat → ClassId) (dI : Nat → Nat → Nat), cC y.cls bytes maxL p s m args c dC dI cI cL (va_A [(h0, .inr (ci, fs0))] s.heap.size) → meth.name = "<init>" → meth.locks = false → meth.sig.returnType = none → CW p l e (cRm fr lo mc ms) s m args below meth c (MQ below (cPost dC dI w1 (va_A [(h0, .inr (ci, fs0))] s.heap.size)) args s mc ms (va_A [(h0, .inr (ci, fs0))] s.heap.size)) dC dI (va_A [(h0, .inr (ci, fs0))] s.heap.size) maxL 0 (lv_args 0 (.ref h0 :: As)) [] [(h0, .inr (ci, fs0))] 0 0) : Con y bytes maxL fr lo mc ms ci fs0 As cI cL h0 w1 := by
  intro l dC dI sz
  refine Met.ofW (cc := bytes) (maxL := maxL) (ret := none) hy rfl ?_
  intro p e s m args below meth c s₁ B hml hv
  obtain ⟨rfl, hsz, hP, hK, hN⟩ := hv
  subst hsz
  have hts := atoms_spec (ws := .code y bytes maxL none :: kTbl) B.pre
  have hin : meth.name = "<init>" := (name_of_methodNamed B.named B.method).1.trans hyn
  have hl := lv_entry (.ref h0 :: As) (n := maxL) hn
  rw [lg_entry_eq]
  have hD : va_D (va_A [(h0, .inr (ci, fs0))] s.heap.size) [(h0, .inr (ci, fs0))] := ⟨fun i j x z h1 h2 _ => by
    have h3 := (List.getElem?_eq_some_iff.mp h1).1
    have h4 := (List.getElem?_eq_some_iff.mp h2).1
    simp only [List.length_cons, List.length_nil] at h3 h4
    omega, fun k x hx => va_A.in hx⟩
  exact body p l e s m _ below meth c dC dI ⟨B.exec, B.bytes, hml, findClass_of_methodNamed B.named, fun w hw => hts w (List.mem_cons_of_mem _ hw), hK, hN, fun q h => Or.inr h⟩ hin B.notSynchronized B.returns s.heap [] _ hl hP hD va_S.rf
section CRULES
variable {own : String} {cd : ByteArray} {nL : Nat} {p : Program} {l : Launch} {e : Env} {R : Room} {s : State} {m : MethodId} {args : Array Value} {below : List Frame} {meth : Method} {c : Code} {Qw : State → Prop} {dC : Nat → ClassId} {dI : Nat → Nat → Nat} {cI cL : ClassId} {A : Nat → Prop} {pc pc' : Nat} {lv : cV} {st : List Value} {ws ws' : va_W} {cells slots : Nat}
theorem c_al (C : cC own cd nL p s m args c dC dI cI cL A) {k : Fin 4} {i x : Nat} (j : Nat) (hd : decode cd pc = .ok (.aload_n k, 1)) (hp : pc + 1 = pc') (hi : (k : Nat) = i) (hl : lv[j]? = some (i, .ref x)) (kk : CW p l e R s m args below meth c Qw dC dI A nL pc' lv (.ref x :: st) ws cells slots) : CW p l e R s m args below meth c Qw dC dI A nL pc lv st ws cells slots := by
  subst hp
  exact fun H locs ls h hP hD hS => lv_aload_n C.1 C.2.1 hd hi (lv_at h j hl) (kk H locs ls h hP hD hS)
theorem c_ic (C : cC own cd nL p s m args c dC dI cI cL A) {n : Int} {v : Int32} (hd : decode cd pc = .ok (.iconst n, 1)) (hp : pc + 1 = pc') (hv : Int32.ofInt n = v) (kk : CW p l e R s m args below meth c Qw dC dI A nL pc' lv (.int v :: st) ws cells slots) : CW p l e R s m args below meth c Qw dC dI A nL pc lv st ws cells slots := by
  subst hp
  exact fun H locs ls h hP hD hS => lv_iconst C.1 C.2.1 hd hv (kk H locs ls h hP hD hS)
theorem c_bi (C : cC own cd nL p s m args c dC dI cI cL A) {n : Int} {v : Int32} (hd : decode cd pc = .ok (.bipush n, 2)) (hp : pc + 2 = pc') (hv : (Int8.ofInt n).toInt32 = v) (kk : CW p l e R s m args below meth c Qw dC dI A nL pc' lv (.int v :: st) ws cells slots) : CW p l e R s m args below meth c Qw dC dI A nL pc lv st ws cells slots := by
  subst hp
  exact fun H locs ls h hP hD hS => lv_bipush C.1 C.2.1 hd hv (kk H locs ls h hP hD hS)
theorem c_si (C : cC own cd nL p s m args c dC dI cI cL A) {n : Int} {v : Int32} (hd : decode cd pc = .ok (.sipush n, 3)) (hp : pc + 3 = pc') (hv : (Int16.ofInt n).toInt32 = v) (kk : CW p l e R s m args below meth c Qw dC dI A nL pc' lv (.int v :: st) ws cells slots) : CW p l e R s m args below meth c Qw dC dI A nL pc lv st ws cells slots := by
  subst hp
  exact fun H locs ls h hP hD hS => lv_sipush C.1 C.2.1 hd hv (kk H locs ls h hP hD hS)
theorem c_du (C : cC own cd nL p s m args c dC dI cI cL A) {x : Nat} (hd : decode cd pc = .ok (.dup, 1)) (hp : pc + 1 = pc') (kk : CW p l e R s m args below meth c Qw dC dI A nL pc' lv (.ref x :: .ref x :: st) ws cells slots) : CW p l e R s m args below meth c Qw dC dI A nL pc lv (.ref x :: st) ws cells slots := by
  subst hp
  exact fun H locs ls h hP hD hS => lv_dup C.1 C.2.1 hd rfl (kk H locs ls h hP hD hS)
theorem c_nI (C : cC own cd nL p s m args c dC dI cI cL A) {n : Int32} (N : Nat) (harr : Cond.arrayClass .int ∈ kTbl) (hd : decode cd pc = .ok (.newarray .int, 2)) (hp : pc + 2 = pc') (hn : ¬ n < 0) (hN : n.toNatClampNeg = N) (hby : N * componentBytes .int ≤ 536870912) (hcl : cells + 1 ≤ R.cells) (hsl : slots + N ≤ R.slots) (kk : ∀ q : Nat, CW p l e R s m args below meth c Qw dC dI A nL pc' lv (.ref q :: st) (ws ++ [(q, .inl (cI, N, .inl (fun _ => 0)))]) (cells + 1) (slots + N)) : CW p l e R s m args below meth c Qw dC dI A nL pc lv (.int n :: st) ws cells slots := by
  subst hp
  intro H locs ls h hP hD hS
  refine va_newa (atype := .int) (ty := .int) (a0 := (N, .inl (fun _ => 0))) C.1 C.2.1 (C.2.2.2.2.1 _ harr) rfl C.2.2.2.2.2.1 hP hD hS C.2.2.2.2.2.2.2 (fun cA => rfl) hn hN hby hcl hsl hd (fun q cA H1 hK1 hP1 hD1 hS1 => ?_)
  have e1 : va_RA s cA .int := (hK1.2 2 (cA, .int) rfl).2
  have e2 : va_RA s cI .int := (C.2.2.2.2.2.1.2 0 (cI, .int) rfl).2
  have e3 : cA = cI := Option.some.inj (e1.symm.trans e2)
  subst e3
  exact kk q H1 locs ls h hP1 hD1 hS1
theorem c_nL (C : cC own cd nL p s m args c dC dI cI cL A) {n : Int32} (N : Nat) (harr : Cond.arrayClass .long ∈ kTbl) (hd : decode cd pc = .ok (.newarray .long, 2)) (hp : pc + 2 = pc') (hn : ¬ n < 0) (hN : n.toNatClampNeg = N) (hby : N * componentBytes .long ≤ 536870912) (hcl : cells + 1 ≤ R.cells) (hsl : slots + N ≤ R.slots) (kk : ∀ q : Nat, CW p l e R s m args below meth c Qw dC dI A nL pc' lv (.ref q :: st) (ws ++ [(q, .inl (cL, N, .inr (.inl (fun _ => 0))))]) (cells + 1) (slots + N)) : CW p l e R s m args below meth c Qw dC dI A nL pc lv (.int n :: st) ws cells slots := by
  subst hp
  intro H locs ls h hP hD hS
  refine va_newa (atype := .long) (ty := .long) (a0 := (N, .inr (.inl (fun _ => 0)))) C.1 C.2.1 (C.2.2.2.2.1 _ harr) rfl C.2.2.2.2.2.1 hP hD hS C.2.2.2.2.2.2.2 (fun cA => rfl) hn hN hby hcl hsl hd (fun q cA H1 hK1 hP1 hD1 hS1 => ?_)
  have e1 : va_RA s cA .long := (hK1.2 2 (cA, .long) rfl).2
  have e2 : va_RA s cL .long := (C.2.2.2.2.2.1.2 1 (cL, .long) rfl).2
  have e3 : cA = cL := Option.some.inj (e1.symm.trans e2)
  subst e3
  exact kk q H1 locs ls h hP1 hD1 hS1
/-- a field of a class: a link that is final, or not -/
def cFl (own : String) (idx ci k : Nat) (ty : FieldType) (fin : Bool) : Prop := ∃ (C : String) (T : u_T) (N : Nat), kcl[ci]? = some (C, T, N) ∧ k < N ∧ Cond.fieldLink own idx (T k).1 (T k).2.1 (T k).2.2.1 ∈ kTbl ∧ (T k).2.2.2 = fin ∧ (T k).1 = own ∧ parseFieldDescriptor (T k).2.2.1 = some ty
theorem c_pF (C : cC own cd nL p s m args c dC dI cI cL A) (hin : meth.name = "<init>") {idx ci k a : Nat} {fs : List Value} {v : Value} {ty : FieldType} (q0 : Nat) (hf : cFl own idx ci k ty true) (hd : decode cd pc = .ok (.putfield idx, 3)) (hp : pc + 3 = pc') (he : ws[q0]? = some (a, .inr (ci, fs))) (hn : narrow ty v = v) (hfit : fits ty v = true) (hl : k < fs.length) (hw : ws.set q0 (a, .inr (ci, fs.set k v)) = ws') (kk : CW p l e R s m args below meth c Qw dC dI A nL pc' lv st ws' cells slots) : CW p l e R s m args below meth c Qw dC dI A nL pc lv (v :: .ref a :: st) ws cells slots := by
  subst hp hw
  intro H locs ls h hP hD hS
  obtain ⟨Cc, T, N, hc, hk, hlk, hfn, hdl, hty⟩ := hf
  obtain ⟨ty0, hty0⟩ := (kcl_ok hc).2.2
  exact va_putF C.1 C.2.1 C.2.2.2.2.1 (kcl_ok hc).1 ty0 hty0 (kcl_ok hc).2.1 C.2.2.2.1 C.2.2.2.2.2.1 hP hD hS q0 he hc k hk (C.2.2.2.2.1 _ hlk) (fun _ z => z) hfn hin hdl hty hn hfit hl hd (fun H1 locs1 hP1 hD1 hS1 => kk H1 locs1 ls h hP1 hD1 hS1)
theorem c_pU (C : cC own cd nL p s m args c dC dI cI cL A) {idx ci k a : Nat} {fs : List Value} {v : Value} {ty : FieldType} (q0 : Nat) (hf : cFl own idx ci k ty false) (hd : decode cd pc = .ok (.putfield idx, 3)) (hp : pc + 3 = pc') (he : ws[q0]? = some (a, .inr (ci, fs))) (hn : narrow ty v = v) (hfit : fits ty v = true) (hl : k < fs.length) (hw : ws.set q0 (a, .inr (ci, fs.set k v)) = ws') (kk : CW p l e R s m args below meth c Qw dC dI A nL pc' lv st ws' cells slots) : CW p l e R s m args below meth c Qw dC dI A nL pc lv (v :: .ref a :: st) ws cells slots := by
  subst hp hw
  intro H locs ls h hP hD hS
  obtain ⟨Cc, T, N, hc, hk, hlk, hfn, hdl, hty⟩ := hf
  obtain ⟨ty0, hty0⟩ := (kcl_ok hc).2.2
  exact va_put C.1 C.2.1 C.2.2.2.2.1 (kcl_ok hc).1 ty0 hty0 (kcl_ok hc).2.1 C.2.2.2.1 C.2.2.2.2.2.1 hP hD hS q0 he hc k hk (C.2.2.2.2.1 _ hlk) (fun _ z => z) hfn hty hn hfit hl hd (fun H1 locs1 hP1 hD1 hS1 => kk H1 locs1 ls h hP1 hD1 hS1)
theorem c_gt (C : cC own cd nL p s m args c dC dI cI cL A) {idx ci k a : Nat} {fs : List Value} {v : Value} {ty : FieldType} {fin : Bool} (q0 : Nat) (hf : cFl own idx ci k ty fin) (hd : decode cd pc = .ok (.getfield idx, 3)) (hp : pc + 3 = pc') (he : ws[q0]? = some (a, .inr (ci, fs))) (hv : fs[k]? = some v) (kk : CW p l e R s m args below meth c Qw dC dI A nL pc' lv (v :: st) ws cells slots) : CW p l e R s m args below meth c Qw dC dI A nL pc lv (.ref a :: st) ws cells slots := by
  subst hp
  intro H locs ls h hP hD hS
  obtain ⟨Cc, T, N, hc, hk, hlk, hfn, hdl, hty⟩ := hf
  exact va_get C.1 C.2.1 C.2.2.2.2.1 (kcl_ok hc).1 C.2.2.2.1 C.2.2.2.2.2.1 hP q0 he hc k hk (C.2.2.2.2.1 _ hlk) (fun _ z => z) hv hd (kk H locs ls h hP hD hS)
theorem c_ia (C : cC own cd nL p s m args c dC dI cI cL A) {a n : Nat} {f : Nat → Int32} {i x : Int32} (q0 : Nat) (hd : decode cd pc = .ok (.iastore, 1)) (hp : pc + 1 = pc') (he : ws[q0]? = some (a, .inl (cI, n, .inl f))) (hin : vp_in i n) (hw : ws.set q0 (a, .inl (cI, n, .inl (upd f i.toNatClampNeg x))) = ws') (kk : CW p l e R s m args below meth c Qw dC dI A nL pc' lv st ws' cells slots) : CW p l e R s m args below meth c Qw dC dI A nL pc lv (.int x :: .int i :: .ref a :: st) ws cells slots := by
  subst hp hw
  intro H locs ls h hP hD hS
  exact va_iast C.1 C.2.1 C.2.2.2.2.2.1 hP hD hS q0 0 he rfl hin hd (fun H1 locs1 hP1 hD1 hS1 => kk H1 locs1 ls h hP1 hD1 hS1)
/-- a class that is made: its link, its words -/
def cNw (own : String) (idx ci N : Nat) (fs : List Value) : Prop := ∃ (C : String) (T : u_T), kcl[ci]? = some (C, T, N) ∧ Cond.classLink own idx C ∈ kTbl ∧ Cond.instantiable C N ∈ kTbl ∧ Cond.initialized C ∈ kTbl ∧ ∃ ty : Nat → FieldType, (∀ k, k < N → parseFieldDescriptor (T k).2.2.1 = some (ty k)) ∧ ∀ j, j < N → defaultValue (ty j) = vp_V fs j
theorem c_nw (C : cC own cd nL p s m args c dC dI cI cL A) {idx ci N : Nat} {fs : List Value} (hn : cNw own idx ci N fs) (hd : decode cd pc = .ok (.new idx, 3)) (hp : pc + 3 = pc') (hcl : cells + 1 ≤ R.cells) (hsl : slots + N ≤ R.slots) (kk : ∀ q : Nat, CW p l e R s m args below meth c Qw dC dI A nL pc' lv (.ref q :: st) (ws ++ [(q, .inr (ci, fs))]) (cells + 1) (slots + N)) : CW p l e R s m args below meth c Qw dC dI A nL pc lv st ws cells slots := by
  subst hp
  intro H locs ls h hP hD hS
  obtain ⟨Cc, T, hc, h1, h2, h3, ty, hty, hfs⟩ := hn
  exact va_new C.1 C.2.1 C.2.2.2.2.1 (kcl_ok hc).1 ty hty C.2.2.2.1 (C.2.2.2.2.1 _ h1) (C.2.2.2.2.1 _ h2) (C.2.2.2.2.1 _ h3) C.2.2.2.2.2.1 hP hD hS C.2.2.2.2.2.2.2 hc hfs hcl hsl hd (fun q H1 hP1 hD1 hS1 => kk q H1 locs ls h hP1 hD1 hS1)
theorem c_ob (C : cC own cd nL p s m args c dC dI cI cL A) {idx x : Nat} (hlk : Cond.methodLink own idx Lib.objectInit ∈ kTbl) (hi : Cond.instanceMethod Lib.objectInit ∈ kTbl) (hcd : Cond.code Lib.objectInit ⟨#[0xb1]⟩ 1 none ∈ kTbl) (hd : decode cd pc = .ok (.invokespecial idx, 3)) (hp : pc + 3 = pc') (hfr : 1 ≤ R.frames) (hlo : 12 ≤ R.locals) (kk : CW p l e R s m args below meth c Qw dC dI A nL pc' lv [] ws cells slots) : CW p l e R s m args below meth c Qw dC dI A nL pc lv [.ref x] ws cells slots := by
  subst hp
  intro H locs ls h hP hD hS
  refine W.objInit C.1 C.2.1 C.2.2.2.1 (C.2.2.2.2.1 _ hlk) (C.2.2.2.2.1 _ hi) (C.2.2.2.2.1 _ hcd) rfl (by rw [C.2.2.1]; exact h.1) rfl hd hfr hlo ?_
  exact kk H locs ls h hP hD hS
/-- a call of a constructor -/
def cMk (own : String) (idx : Nat) (y : MethodName) (bytes : ByteArray) (maxL n : Nat) : Prop := (y.cls ≠ "java/lang/invoke/MethodHandle" ∧ y.cls ≠ "java/lang/invoke/VarHandle" ∧ (parseMethodDescriptor y.desc).map (fun d => d.parameters.length) = some n) ∧ y.name = "<init>" ∧ Cond.code y bytes maxL none ∈ kTbl ∧ Cond.initialized y.cls ∈ kTbl ∧ Cond.instanceMethod y ∈ kTbl ∧ (Cond.methodLink own idx y ∈ kTbl ∨ ∃ host, Cond.methodLinkNest own idx y host ∈ kNest)
theorem c_ca (C : cC own cd nL p s m args c dC dI cI cL A) {y : MethodName} {bytes : ByteArray} {maxL fr lo mc ms ci n idx q0 : Nat} {fs0 As : List Value} {w1 : (Nat → Nat) → va_W} {wr : va_W} (i : Nat) (isR : List Nat) (con : Con y bytes maxL fr lo mc ms ci fs0 As cI cL q0 w1) (hm : cMk own idx y bytes maxL n) (hd : decode cd pc = .ok (.invokespecial idx, 3)) (hp : pc + 3 = pc') (hn : As.length = n) (hC : [i].map (fun i => ws[i]?) = [((q0, .inr (ci, fs0)) : Nat × va_E)].map some) (hR : isR.map (fun i => ws[i]?) = wr.map some) (hnd : va_nd isR = true) (hdis : ∀ j ∈ isR, j ∉ [i]) (hroom : fr + 1 ≤ R.frames ∧ 8 + (maxL + 11) + lo ≤ R.locals) (hcs : cells + mc ≤ R.cells ∧ slots + ms ≤ R.slots) (hst : (st.map fun v => v.category).sum ≤ 8) (kk : ∀ g : Nat → Nat, CW p l e R s m args below meth c Qw dC dI A nL pc' lv st (wr ++ w1 g) (cells + mc) (slots + ms)) : CW p l e R s m args below meth c Qw dC dI A nL pc lv (As.reverse ++ .ref q0 :: st) ws cells slots := by
  subst hp
  intro H locs ls h hP hD hS
  obtain ⟨hdd, hyn, hcd, hini, hins, hlk⟩ := hm
  have ht := C.2.2.2.2.1
  have hPc : va_P (dC, dI) kcl [(q0, .inr (ci, fs0))] H := fun k x hx => by
    have hz : k < 1 := (List.getElem?_eq_some_iff.mp hx).1
    rw [show k = 0 by omega] at hx
    cases hx
    have e1 : ws[i]? = some (q0, .inr (ci, fs0)) := by
      have := congrArg (fun z : List (Option (Nat × va_E)) => z[0]?) hC
      simpa using this
    exact hP i _ e1
  have hFc := va_free (wc := [(q0, .inr (ci, fs0))]) hD hS C.2.2.2.2.2.2.2 [i] hC
  have hG : GoodIn kTbl (Cond.code y bytes maxL none :: kTbl) := fun w hw => by
    rcases List.mem_cons.mp hw with rfl | hw
    · exact kGood _ hcd
    · exact kGood _ hw
  have hpre : PreS s H (cPre dC dI cI cL ci fs0 As q0 H.size) (.ref q0 :: As) := ⟨c_blind, fun U hU hW => ⟨rfl, by rw [hU], by rw [hU]; exact hPc, va_K.moved hW.alike C.2.2.2.2.2.1, fun w hw => kNw_warm hw hW (C.2.2.2.2.2.2.1 w hw)⟩⟩
  have hrun : va_Run p l e R s m args below meth c H locs cells slots mc ms (F0 m pc ls (As.reverse ++ .ref q0 :: st)) st (cPost dC dI w1 (va_A [(q0, .inr (ci, fs0))] H.size) (Value.ref q0 :: As).toArray) (va_A [(q0, .inr (ci, fs0))] H.size) := by
    rcases hlk with hlk | ⟨host, hlk⟩
    · exact va_runI (As := As) (rest := st) ⟨C.1, C.2.1, C.2.2.1, C.2.2.2.1, ht⟩ (con l dC dI H.size) (cwI n ht hG rfl rfl rfl (ht _ hini) (ht _ hlk) (ht _ hins) hyn hdd hroom) hpre rfl hn h.1 rfl (lv_room hst) hd hcs
    · exact va_runIN (As := As) (rest := st) ⟨C.1, C.2.1, C.2.2.1, C.2.2.2.1, ht⟩ (con l dC dI H.size) ⟨va_cnB n ht hG rfl rfl rfl (C.2.2.2.2.2.2.1 _ hlk) (ht _ hini) hdd hroom, hyn, ht _ hins⟩ hpre rfl hn h.1 rfl (lv_room hst) hd hcs
  refine va_callv hrun hS (fun q _ h0 => hFc q h0) hFc (fun g t H1 locs1 ht1 hvm _ hB hz1 hk1 hS1 => ?_)
  obtain ⟨hP1, hD1⟩ := hB
  rw [ht1] at hP1
  obtain ⟨hP2, hD2⟩ := va_join (wr := wr) (w1 := w1 g) hP hD [i] isR hC hR hnd hdis hk1 hFc hP1 hD1
  exact kk g H1 locs1 ls h hP2 hD2 hS1
theorem c_rt (C : cC own cd nL p s m args c dC dI cI cL A) {w1 : (Nat → Nat) → va_W} (hrt : meth.sig.returnType = none) (hlocks : meth.locks = false) (g : Nat → Nat) (hw : ws = w1 g) (hd : decode cd pc = .ok (.return_, 1)) : CW p l e R s m args below meth c (MQ below (cPost dC dI w1 A) args s cells slots A) dC dI A nL pc lv [] ws cells slots := by
  subst hw
  intro H locs ls h hP hD hS
  exact W.vret C.1 C.2.1 hrt (fun t ht hW => ⟨⟨g, rfl, trivial, by rw [ht]; exact hP, hD⟩, hS.F ht⟩) hS.2.2 hd hlocks
end CRULES
