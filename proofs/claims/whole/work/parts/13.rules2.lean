theorem ks_Math : Cond.initialized "java/lang/Math" ∈ kTbl := kw 50 (by decide +kernel) (by decide +kernel)
theorem ks_min1 : Cond.static Lib.Math.min.name ∈ kTbl := kw 576 (by decide +kernel) (by decide +kernel)
theorem ks_min2 : Cond.code Lib.Math.min.name Lib.Math.min.code 2 (some .int) ∈ kTbl := kw 577 (by decide +kernel) (by decide +kernel)
theorem ks_min_RX10_255 : Cond.methodLink RX10 255 Lib.Math.min.name ∈ kTbl := kw 677 (by decide +kernel) (by decide +kernel)
theorem ks_min_RX0_42 : Cond.methodLink RX0 42 Lib.Math.min.name ∈ kTbl := kw 734 (by decide +kernel) (by decide +kernel)
theorem ks_min_RX5_44 : Cond.methodLink RX5 44 Lib.Math.min.name ∈ kTbl := kw 649 (by decide +kernel) (by decide +kernel)
theorem ks_min_RX8_123 : Cond.methodLink RX8 123 Lib.Math.min.name ∈ kTbl := kw 575 (by decide +kernel) (by decide +kernel)
theorem k_mmin {t : kM} {pc pc' idx : Nat} {ls st : List kV} {h : kH} {Φ : Nat → List kV → List kV → kH → Prop} {x y : Int32} (hd : decode t.2.1 pc = .ok (.invokestatic idx, 3)) (hp : pc + 3 = pc') (hlk : Cond.methodLink t.1.cls idx Lib.Math.min.name ∈ kTbl) (hroom : 1 ≤ t.2.2.2.2.1 ∧ 8 + 13 ≤ t.2.2.2.2.2) (hst : (st.map kcat).sum ≤ 8) (kk : At t pc' ls (ki (if y < x then y else x) :: st) h Φ) : At t pc ls (ki y :: ki x :: st) h Φ := by
  subst hp
  intro p l e R s m args below meth c cells slots Qw dC dI a cI cL A C K H locs lsA hl hP hS
  have ht := C.2.2.2.2.1
  have hfr := C.2.2.2.2.2.2.2.2.2.2
  have hst' : ((st.map (cv a)).map fun v => v.category).sum ≤ 8 := by rw [List.map_map]; exact (by simpa [Function.comp_def, kcat_cv] using hst)
  exact va_mmin C.1 C.2.1 (C.2.2.1.trans hl.1.symm) C.2.2.2.1 (ht _ hlk) (ht _ ks_min1) (ht _ ks_Math) (ht _ ks_min2) (Nat.le_trans hroom.1 hfr.1) (Nat.le_trans (by omega) (Nat.le_trans hroom.2 hfr.2.1)) hfr.2.2.1 hfr.2.2.2 hd (kk p l e R s m args below meth c cells slots Qw dC dI a cI cL A C K H locs lsA hl hP hS)
theorem ks_max1 : Cond.static Lib.Math.max.name ∈ kTbl := kw 584 (by decide +kernel) (by decide +kernel)
theorem ks_max2 : Cond.code Lib.Math.max.name Lib.Math.max.code 2 (some .int) ∈ kTbl := kw 585 (by decide +kernel) (by decide +kernel)
theorem ks_max_RX8_103 : Cond.methodLink RX8 103 Lib.Math.max.name ∈ kTbl := kw 583 (by decide +kernel) (by decide +kernel)
theorem k_mmax {t : kM} {pc pc' idx : Nat} {ls st : List kV} {h : kH} {Φ : Nat → List kV → List kV → kH → Prop} {x y : Int32} (hd : decode t.2.1 pc = .ok (.invokestatic idx, 3)) (hp : pc + 3 = pc') (hlk : Cond.methodLink t.1.cls idx Lib.Math.max.name ∈ kTbl) (hroom : 1 ≤ t.2.2.2.2.1 ∧ 8 + 13 ≤ t.2.2.2.2.2) (hst : (st.map kcat).sum ≤ 8) (kk : At t pc' ls (ki (if x < y then y else x) :: st) h Φ) : At t pc ls (ki y :: ki x :: st) h Φ := by
  subst hp
  intro p l e R s m args below meth c cells slots Qw dC dI a cI cL A C K H locs lsA hl hP hS
  have ht := C.2.2.2.2.1
  have hfr := C.2.2.2.2.2.2.2.2.2.2
  have hst' : ((st.map (cv a)).map fun v => v.category).sum ≤ 8 := by rw [List.map_map]; exact (by simpa [Function.comp_def, kcat_cv] using hst)
  exact va_mmax C.1 C.2.1 (C.2.2.1.trans hl.1.symm) C.2.2.2.1 (ht _ hlk) (ht _ ks_max1) (ht _ ks_Math) (ht _ ks_max2) (Nat.le_trans hroom.1 hfr.1) (Nat.le_trans (by omega) (Nat.le_trans hroom.2 hfr.2.1)) hfr.2.2.1 hfr.2.2.2 hd (kk p l e R s m args below meth c cells slots Qw dC dI a cI cL A C K H locs lsA hl hP hS)
theorem ks_minL1 : Cond.static Lib.MathLoose.min_long.x ∈ kTbl := kw 638 (by decide +kernel) (by decide +kernel)
theorem ks_minL2 : Cond.code Lib.MathLoose.min_long.x Lib.MathLoose.min_long.code 4 (some .long) ∈ kTbl := kw 639 (by decide +kernel) (by decide +kernel)
theorem ks_minL_RX9_45 : Cond.methodLink RX9 45 Lib.MathLoose.min_long.x ∈ kTbl := kw 637 (by decide +kernel) (by decide +kernel)
theorem k_mminL {t : kM} {pc pc' idx : Nat} {ls st : List kV} {h : kH} {Φ : Nat → List kV → List kV → kH → Prop} {x y : Int64} (hd : decode t.2.1 pc = .ok (.invokestatic idx, 3)) (hp : pc + 3 = pc') (hlk : Cond.methodLink t.1.cls idx Lib.MathLoose.min_long.x ∈ kTbl) (hroom : 1 ≤ t.2.2.2.2.1 ∧ 8 + 15 ≤ t.2.2.2.2.2) (hst : (st.map kcat).sum ≤ 8) (kk : At t pc' ls (kl (if y < x then y else x) :: st) h Φ) : At t pc ls (kl y :: kl x :: st) h Φ := by
  subst hp
  intro p l e R s m args below meth c cells slots Qw dC dI a cI cL A C K H locs lsA hl hP hS
  have ht := C.2.2.2.2.1
  have hfr := C.2.2.2.2.2.2.2.2.2.2
  have hst' : ((st.map (cv a)).map fun v => v.category).sum ≤ 8 := by rw [List.map_map]; exact (by simpa [Function.comp_def, kcat_cv] using hst)
  exact va_mmin_long C.1 C.2.1 (C.2.2.1.trans hl.1.symm) C.2.2.2.1 (ht _ hlk) (ht _ ks_minL1) (ht _ ks_Math) (ht _ ks_minL2) (Nat.le_trans hroom.1 hfr.1) (Nat.le_trans (by omega) (Nat.le_trans hroom.2 hfr.2.1)) hfr.2.2.1 hfr.2.2.2 hd (kk p l e R s m args below meth c cells slots Qw dC dI a cI cL A C K H locs lsA hl hP hS)
theorem ks_cp1 : Cond.native arraycopyName ∈ kTbl := kw 615 (by decide +kernel) (by decide +kernel)
theorem ks_cp2 : Cond.static arraycopyName ∈ kTbl := kw 614 (by decide +kernel) (by decide +kernel)
theorem ks_cp3 : Cond.initialized "java/lang/System" ∈ kTbl := kw 51 (by decide +kernel) (by decide +kernel)
theorem ks_cp_RX5_56 : Cond.methodLink RX5 56 arraycopyName ∈ kTbl := kw 653 (by decide +kernel) (by decide +kernel)
theorem ks_cp_RX9_32 : Cond.methodLink RX9 32 arraycopyName ∈ kTbl := kw 613 (by decide +kernel) (by decide +kernel)
theorem k_copyI {t : kM} {pc pc' idx k0 k1 n0 n1 : Nat} {t0 t1 : List Nat} {sp dp n : Int32} {ls st : List kV} {h : kH} {Φ : Nat → List kV → List kV → kH → Prop} (hd : decode t.2.1 pc = .ok (.invokestatic idx, 3)) (hp : pc + 3 = pc') (hlk : Cond.methodLink t.1.cls idx arraycopyName ∈ kTbl) (hs0 : ksh[k0]? = some (1, n0, t0)) (hs1 : ksh[k1]? = some (1, n1, t1)) (h1 : ¬ sp < 0) (h2 : ¬ dp < 0) (h3 : ¬ n < 0) (h4 : sp.toNatClampNeg + n.toNatClampNeg ≤ n0) (h5 : dp.toNatClampNeg + n.toNatClampNeg ≤ n1) (hroom : 1 ≤ t.2.2.2.2.1 ∧ 8 + 18 ≤ t.2.2.2.2.2) (hst : (st.map kcat).sum ≤ 8) (kk : At t pc' ls st (hs h.1 k1 (va_cpy (h.1 k0) (h.1 k1) sp.toNatClampNeg dp.toNatClampNeg n.toNatClampNeg), h.2) Φ) : At t pc ls (ki n :: ki dp :: kr k1 :: ki sp :: kr k0 :: st) h Φ := by
  subst hp
  intro p l e R s m args below meth c cells slots Qw dC dI a cI cL A C K H locs lsA hl hP hS
  have ht := C.2.2.2.2.1
  have hfr := C.2.2.2.2.2.2.2.2.2.2
  have hst' : ((st.map (cv a)).map fun v => v.category).sum ≤ 8 := by rw [List.map_map]; exact (by simpa [Function.comp_def, kcat_cv] using hst)
  have hnw : nativeFrameWords "java/lang/System" "arraycopy" 5 = 7 := by decide
  have hset := kW_set (a := a) (cI := cI) (cL := cL) (h := h) (h' := (hs h.1 k1 (va_cpy (h.1 k0) (h.1 k1) sp.toNatClampNeg dp.toNatClampNeg n.toNatClampNeg), h.2)) (e := .inl (cI, n1, .inl (va_cpy (h.1 k0) (h.1 k1) sp.toNatClampNeg dp.toNatClampNeg n.toNatClampNeg))) hs1 (fun q hq => hs_ne _ _ hq) (fun q hq => rfl) (by simp only [kE, hs_self])
  refine va_copyi (n0 := n0) (n1 := n1) (f := h.1 k0) (g := h.1 k1) C.1 C.2.1 (C.2.2.1.trans hl.1.symm) C.2.2.2.1 (ht _ hlk) (ht _ ks_cp1) (ht _ ks_cp2) (ht _ ks_cp3) C.2.2.2.2.2.1 hP (kW_D C.2.2.2.2.2.2.1 C.2.2.2.2.2.2.2.1) hS k0 k1 0 0 (kW_at hs0) (kW_at hs1) rfl rfl rfl h1 h2 h3 h4 h5 (fun _ _ => rfl) (Nat.le_trans hroom.1 hfr.1) (Nat.le_trans (by rw [hnw]; omega) (Nat.le_trans hroom.2 hfr.2.1)) hd (fun H1 locs1 hP1 hD1 hS1 => ?_)
  rw [hset] at hP1
  exact kk p l e R s m args below meth c cells slots Qw dC dI a cI cL A C K H1 locs1 lsA hl hP1 hS1
theorem k_copyL {t : kM} {pc pc' idx k0 k1 n0 n1 : Nat} {t0 t1 : List Nat} {sp dp n : Int32} {ls st : List kV} {h : kH} {Φ : Nat → List kV → List kV → kH → Prop} (hd : decode t.2.1 pc = .ok (.invokestatic idx, 3)) (hp : pc + 3 = pc') (hlk : Cond.methodLink t.1.cls idx arraycopyName ∈ kTbl) (hs0 : ksh[k0]? = some (2, n0, t0)) (hs1 : ksh[k1]? = some (2, n1, t1)) (h1 : ¬ sp < 0) (h2 : ¬ dp < 0) (h3 : ¬ n < 0) (h4 : sp.toNatClampNeg + n.toNatClampNeg ≤ n0) (h5 : dp.toNatClampNeg + n.toNatClampNeg ≤ n1) (hroom : 1 ≤ t.2.2.2.2.1 ∧ 8 + 18 ≤ t.2.2.2.2.2) (hst : (st.map kcat).sum ≤ 8) (kk : At t pc' ls st (h.1, hs h.2 k1 (va_cpy (h.2 k0) (h.2 k1) sp.toNatClampNeg dp.toNatClampNeg n.toNatClampNeg)) Φ) : At t pc ls (ki n :: ki dp :: kr k1 :: ki sp :: kr k0 :: st) h Φ := by
  subst hp
  intro p l e R s m args below meth c cells slots Qw dC dI a cI cL A C K H locs lsA hl hP hS
  have ht := C.2.2.2.2.1
  have hfr := C.2.2.2.2.2.2.2.2.2.2
  have hst' : ((st.map (cv a)).map fun v => v.category).sum ≤ 8 := by rw [List.map_map]; exact (by simpa [Function.comp_def, kcat_cv] using hst)
  have hnw : nativeFrameWords "java/lang/System" "arraycopy" 5 = 7 := by decide
  have hset := kW_set (a := a) (cI := cI) (cL := cL) (h := h) (h' := (h.1, hs h.2 k1 (va_cpy (h.2 k0) (h.2 k1) sp.toNatClampNeg dp.toNatClampNeg n.toNatClampNeg))) (e := .inl (cL, n1, .inr (.inl (va_cpy (h.2 k0) (h.2 k1) sp.toNatClampNeg dp.toNatClampNeg n.toNatClampNeg)))) hs1 (fun q hq => rfl) (fun q hq => hs_ne _ _ hq) (by simp only [kE, hs_self])
  refine va_copyl (n0 := n0) (n1 := n1) (f := h.2 k0) (g := h.2 k1) C.1 C.2.1 (C.2.2.1.trans hl.1.symm) C.2.2.2.1 (ht _ hlk) (ht _ ks_cp1) (ht _ ks_cp2) (ht _ ks_cp3) C.2.2.2.2.2.1 hP (kW_D C.2.2.2.2.2.2.1 C.2.2.2.2.2.2.2.1) hS k0 k1 1 1 (kW_at hs0) (kW_at hs1) rfl rfl rfl h1 h2 h3 h4 h5 (fun _ _ => rfl) (Nat.le_trans hroom.1 hfr.1) (Nat.le_trans (by rw [hnw]; omega) (Nat.le_trans hroom.2 hfr.2.1)) hd (fun H1 locs1 hP1 hD1 hS1 => ?_)
  rw [hset] at hP1
  exact kk p l e R s m args below meth c cells slots Qw dC dI a cI cL A C K H1 locs1 lsA hl hP1 hS1
