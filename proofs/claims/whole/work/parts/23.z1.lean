/-- three rows of the heap -/
def c3 (μ : kH) (k1 k2 k3 : Nat) (f1 f2 f3 : Nat → Int32) : kH := (hs (hs (hs μ.1 k1 f1) k2 f2) k3 f3, μ.2)
theorem c3_1 (μ : kH) {k1 k2 k3 : Nat} (f1 f2 f3 : Nat → Int32) (j : Nat) (v : Int32) (h12 : k1 ≠ k2) (h13 : k1 ≠ k3) : hI (c3 μ k1 k2 k3 f1 f2 f3) k1 j v = c3 μ k1 k2 k3 (upd f1 j v) f2 f3 := by
  have e : (c3 μ k1 k2 k3 f1 f2 f3).1 k1 = f1 := by simp [c3, hs, h12, h13]
  rw [hI_eq, e]
  refine Prod.ext ?_ rfl
  funext q
  by_cases e1 : q = k1
  · subst e1; simp [c3, hs, h12, h13]
  · simp [c3, hs, e1]
theorem c3_2 (μ : kH) {k1 k2 k3 : Nat} (f1 f2 f3 : Nat → Int32) (j : Nat) (v : Int32) (h23 : k2 ≠ k3) : hI (c3 μ k1 k2 k3 f1 f2 f3) k2 j v = c3 μ k1 k2 k3 f1 (upd f2 j v) f3 := by
  have e : (c3 μ k1 k2 k3 f1 f2 f3).1 k2 = f2 := by simp [c3, hs, h23]
  rw [hI_eq, e]
  refine Prod.ext ?_ rfl
  funext q
  by_cases e1 : q = k2
  · subst e1; simp [c3, hs, h23]
  · simp [c3, hs, e1]
theorem c3_3 (μ : kH) {k1 k2 k3 : Nat} (f1 f2 f3 : Nat → Int32) (j : Nat) (v : Int32) : hI (c3 μ k1 k2 k3 f1 f2 f3) k3 j v = c3 μ k1 k2 k3 f1 f2 (upd f3 j v) := hI_row _ _ _ _ _ _
theorem c3_id (μ : kH) (k1 k2 k3 : Nat) : c3 μ k1 k2 k3 (μ.1 k1) (μ.1 k2) (μ.1 k3) = μ := by simp only [c3, hs_id]
theorem upd_at (f : Nat → Int32) (j : Nat) (v : Int32) : upd f j v j = v := by simp [upd]
theorem upd_sub0 (f : Nat → Int32) (j : Nat) : upd f j (f j - 0) = f := by rw [Int32.sub_zero, upd_id]
theorem upd_add0 (f : Nat → Int32) (j : Nat) : upd f j (f j + 0) = f := by rw [Int32.add_zero, upd_id]
theorem fr_37 (μ : kH) (L M O : Nat → Int32) : (c3 μ 39 42 45 L M O).1 37 = μ.1 37 := rfl
theorem fr_38 (μ : kH) (L M O : Nat → Int32) : (c3 μ 39 42 45 L M O).1 38 = μ.1 38 := rfl
theorem fr_41 (μ : kH) (L M O : Nat → Int32) : (c3 μ 39 42 45 L M O).1 41 = μ.1 41 := rfl
theorem fr_39 (μ : kH) (L M O : Nat → Int32) : (c3 μ 39 42 45 L M O).1 39 = L := rfl
theorem fr_42 (μ : kH) (L M O : Nat → Int32) : (c3 μ 39 42 45 L M O).1 42 = M := rfl
theorem fr_45 (μ : kH) (L M O : Nat → Int32) : (c3 μ 39 42 45 L M O).1 45 = O := rfl
def fD (x y : Int32) : Int32 := if x < y then x else y
def fB (so ga : Nat → Int32) (s : Int32) (bs : Nat) (L0 : Nat → Int32) (m0 : Int32) (O0 : Nat → Int32) : Nat → (Nat → Int32) × Int32 × (Nat → Int32) × Int32
  | 0 => (L0, m0, O0, 0)
  | i + 1 => if so i = s then (upd (fB so ga s bs L0 m0 O0 i).1 i ((fB so ga s bs L0 m0 O0 i).1 i - fD ((fB so ga s bs L0 m0 O0 i).1 i) (fB so ga s bs L0 m0 O0 i).2.1), (fB so ga s bs L0 m0 O0 i).2.1 - fD ((fB so ga s bs L0 m0 O0 i).1 i) (fB so ga s bs L0 m0 O0 i).2.1, upd (fB so ga s bs L0 m0 O0 i).2.2.1 (bs + (ga i).toNatClampNeg) ((fB so ga s bs L0 m0 O0 i).2.2.1 (bs + (ga i).toNatClampNeg) + fD ((fB so ga s bs L0 m0 O0 i).1 i) (fB so ga s bs L0 m0 O0 i).2.1), (fB so ga s bs L0 m0 O0 i).2.2.2 + fD ((fB so ga s bs L0 m0 O0 i).1 i) (fB so ga s bs L0 m0 O0 i).2.1) else fB so ga s bs L0 m0 O0 i
theorem k_idx12 {a : Nat} {g : Int32} (ha : a < 60) (hg : 0 ≤ g.toInt ∧ g.toInt < 12) : (nI a * 12 + g).toNatClampNeg = 12 * a + g.toNatClampNeg ∧ vp_in (nI a * 12 + g) 720 ∧ (12 * nI a + g).toNatClampNeg = 12 * a + g.toNatClampNeg ∧ vp_in (12 * nI a + g) 720 := by
  have e0 := nI_toInt (n := a) (by omega)
  have e1 : (nI a * 12).toInt = a * 12 := by rw [k_mul (by rw [li_12, e0]; omega), li_12, e0]
  have e2 : (12 * nI a).toInt = 12 * a := by rw [k_mul (by rw [li_12, e0]; omega), li_12, e0]
  have e3 : (nI a * 12 + g).toInt = a * 12 + g.toInt := by rw [k_add (by rw [e1]; omega), e1]
  have e4 : (12 * nI a + g).toInt = 12 * a + g.toInt := by rw [k_add (by rw [e2]; omega), e2]
  have e5 := k_clamp (a := g) (by omega)
  refine ⟨?_, vp_in_iff.mpr (by rw [e3]; omega), ?_, vp_in_iff.mpr (by rw [e4]; omega)⟩
  · have e6 := k_clamp (a := nI a * 12 + g) (by rw [e3]; omega)
    rw [e3] at e6; omega
  · have e6 := k_clamp (a := 12 * nI a + g) (by rw [e4]; omega)
    rw [e4] at e6; omega
/-- the class stops when nothing is missing: the rest would change nothing -/
theorem fB_nn {so ga : Nat → Int32} {s : Int32} {bs : Nat} {L0 : Nat → Int32} {m0 : Int32} {O0 : Nat → Int32} (hm : 0 ≤ m0.toInt) {N : Nat} (hL : ∀ j, j < N → 0 ≤ (L0 j).toInt) : ∀ i, i ≤ N → 0 ≤ ((fB so ga s bs L0 m0 O0 i).2.1).toInt ∧ (∀ j, j < N → 0 ≤ ((fB so ga s bs L0 m0 O0 i).1 j).toInt) ∧ ((fB so ga s bs L0 m0 O0 i).2.1).toInt ≤ m0.toInt := by
  intro i
  induction i with
  | zero => intro _; exact ⟨hm, hL, Int.le_refl _⟩
  | succ i ih =>
    intro hi
    obtain ⟨h1, h2, h3⟩ := ih (by omega)
    have h4 := h2 i (by omega)
    have hd : 0 ≤ (fD ((fB so ga s bs L0 m0 O0 i).1 i) (fB so ga s bs L0 m0 O0 i).2.1).toInt ∧ (fD ((fB so ga s bs L0 m0 O0 i).1 i) (fB so ga s bs L0 m0 O0 i).2.1).toInt ≤ ((fB so ga s bs L0 m0 O0 i).1 i).toInt ∧ (fD ((fB so ga s bs L0 m0 O0 i).1 i) (fB so ga s bs L0 m0 O0 i).2.1).toInt ≤ ((fB so ga s bs L0 m0 O0 i).2.1).toInt := by
      unfold fD; split <;> simp only [k_lt] at * <;> omega
    rw [fB]
    split
    · have u1 := k_ub ((fB so ga s bs L0 m0 O0 i).1 i)
      have u2 := k_ub ((fB so ga s bs L0 m0 O0 i).2.1)
      refine ⟨?_, fun j hj => ?_, ?_⟩
      · dsimp only; rw [k_sub (by omega)]; omega
      · dsimp only; simp only [upd]
        split
        · rw [k_sub (by omega)]; omega
        · exact h2 j hj
      · dsimp only; rw [k_sub (by omega)]; omega
    · exact ⟨h1, h2, h3⟩
theorem fB_stop {so ga : Nat → Int32} {s : Int32} {bs : Nat} {L0 : Nat → Int32} {m0 : Int32} {O0 : Nat → Int32} {N i : Nat} (hL : ∀ j, j < N → 0 ≤ ((fB so ga s bs L0 m0 O0 i).1 j).toInt) (hz : (fB so ga s bs L0 m0 O0 i).2.1 = 0) : ∀ n, i + n ≤ N → fB so ga s bs L0 m0 O0 (i + n) = fB so ga s bs L0 m0 O0 i := by
  intro n
  induction n with
  | zero => intro _; rfl
  | succ n ih =>
    intro hn
    have e := ih (by omega)
    rw [show i + (n + 1) = i + n + 1 by omega, fB, e]
    have h4 := hL (i + n) (by omega)
    have hd : fD ((fB so ga s bs L0 m0 O0 i).1 (i + n)) (fB so ga s bs L0 m0 O0 i).2.1 = 0 := by
      rw [hz]; unfold fD
      split
      · next z => simp only [k_lt, li_0] at z; omega
      · rfl
    rw [hd, upd_sub0, upd_add0, Int32.sub_zero, Int32.add_zero]
    split <;> rfl

set_option maxHeartbeats 400000 in
set_option maxRecDepth 100000 in
theorem lp_X0_fillFrom {a : Nat} {μ : kH} {N : Nat} (ha : a < 60) (hN : N ≤ 468) (hsz : μ.1 36 3 = nI N) (hga : ∀ j, j < N → 0 ≤ (μ.1 38 j).toInt ∧ (μ.1 38 j).toInt < 12) (hle : ∀ j, j < N → 0 ≤ (μ.1 39 j).toInt) (hmi : 0 ≤ (μ.1 42 a).toInt) : ∀ (n i : Nat) (L : Nat → Int32) (m : Int32) (O : Nat → Int32) (sum : Int32), i + n = N → (L, m, O, sum) = fB (μ.1 37) (μ.1 38) (μ.1 41 a) (12 * a) (μ.1 39) (μ.1 42 a) (μ.1 45) i → At kX0_fillFrom 5 [kr 40, kr 36, ki (nI a), ki sum, ki (nI i), ku] [] (c3 μ 39 42 45 L (upd (μ.1 42) a m) O) (kRet kX0_fillFrom (fun r h' => r = ki (fB (μ.1 37) (μ.1 38) (μ.1 41 a) (12 * a) (μ.1 39) (μ.1 42 a) (μ.1 45) N).2.2.2 ∧ h' = hI (c3 μ 39 42 45 (fB (μ.1 37) (μ.1 38) (μ.1 41 a) (12 * a) (μ.1 39) (μ.1 42 a) (μ.1 45) N).1 (upd (μ.1 42) a (fB (μ.1 37) (μ.1 38) (μ.1 41 a) (12 * a) (μ.1 39) (μ.1 42 a) (μ.1 45) N).2.1) (fB (μ.1 37) (μ.1 38) (μ.1 41 a) (12 * a) (μ.1 39) (μ.1 42 a) (μ.1 45) N).2.2.1) 40 6 (μ.1 40 6 + (fB (μ.1 37) (μ.1 38) (μ.1 41 a) (12 * a) (μ.1 39) (μ.1 42 a) (μ.1 45) N).2.2.2))) := by
  intro n
  induction n with
  | zero =>
    intro i L m O sum hi hS
    have hS : (L, m, O, sum) = fB (μ.1 37) (μ.1 38) (μ.1 41 a) (12 * a) (μ.1 39) (μ.1 42 a) (μ.1 45) N := by rw [hS, show i = N from by omega]
    refine k_iload (pc' := 7) dX0_fillFrom_5 rfl rfl ?_
    refine k_aload_n (pc' := 8) dX0_fillFrom_7 rfl rfl ?_
    refine k_getI (pc' := 11) fl_RX0_35 dX0_fillFrom_8 rfl rfl rfl ?_
    refine k_icmp_ge (pc' := 14) (tg := 113) dX0_fillFrom_11 rfl (by decide) (fun c_11 => ?_) (fun c_11 => ?_)
    · skip
      refine k_aload_n (pc' := 114) dX0_fillFrom_113 rfl rfl ?_
      refine k_dup (pc' := 115) dX0_fillFrom_114 rfl rfl ?_
      refine k_getI (pc' := 118) fl_RX0_49 dX0_fillFrom_115 rfl rfl rfl ?_
      refine k_iload_n (pc' := 119) dX0_fillFrom_118 rfl rfl ?_
      refine k_iadd (pc' := 120) dX0_fillFrom_119 rfl ?_
      refine k_putI (pc' := 123) fw_RX0_49 dX0_fillFrom_120 rfl rfl rfl ?_
      refine k_iload_n (pc' := 124) dX0_fillFrom_123 rfl rfl ?_
      exact k_iret dX0_fillFrom_124 rfl ⟨by rw [← hS], by rw [← hS]; rfl⟩
    · exfalso
      exact c_11 (show μ.1 36 3 ≤ nI i by rw [hsz, show i = N from by omega]; exact Int32.le_refl _)
  | succ n ih =>
    intro i L m O sum hi hS
    have hlt : i < N := by omega
    refine k_iload (pc' := 7) dX0_fillFrom_5 rfl rfl ?_
    refine k_aload_n (pc' := 8) dX0_fillFrom_7 rfl rfl ?_
    refine k_getI (pc' := 11) fl_RX0_35 dX0_fillFrom_8 rfl rfl rfl ?_
    refine k_icmp_ge (pc' := 14) (tg := 113) dX0_fillFrom_11 rfl (by decide) (fun c_11 => ?_) (fun c_11 => ?_)
    · exfalso
      have c9 : μ.1 36 3 ≤ nI i := c_11
      rw [hsz] at c9
      exact nI_ge hlt (by omega) c9
    · skip
      refine k_aload_n (pc' := 15) dX0_fillFrom_14 rfl rfl ?_
      refine k_getR (pc' := 18) fl_RX0_15 dX0_fillFrom_15 rfl rfl rfl ?_
      refine k_iload_n (pc' := 19) dX0_fillFrom_18 rfl rfl ?_
      refine k_ialdN (pc' := 20) dX0_fillFrom_19 rfl rfl ha (by decide) ?_
      simp only [fr_37, fr_38, fr_39, fr_41, fr_42, fr_45, upd_at]
      refine k_if_le (pc' := 23) (tg := 113) dX0_fillFrom_20 rfl (by decide) (fun c_20 => ?_) (fun c_20 => ?_)
      · skip
        have hz0 : m = 0 := by
          have e := (fB_nn (so := μ.1 37) (ga := μ.1 38) (s := μ.1 41 a) (bs := 12 * a) (O0 := μ.1 45) hmi hle i (by omega)).1
          rw [← hS] at e
          simp only [k_le, k_eq, li_0] at *
          omega
        have hS : (L, m, O, sum) = fB (μ.1 37) (μ.1 38) (μ.1 41 a) (12 * a) (μ.1 39) (μ.1 42 a) (μ.1 45) N := by
          have e := fB_stop (so := μ.1 37) (ga := μ.1 38) (s := μ.1 41 a) (bs := 12 * a) (O0 := μ.1 45) (m0 := μ.1 42 a) (L0 := μ.1 39) (i := i) (fB_nn hmi hle i (by omega)).2.1 (by rw [← hS]; exact hz0) (n + 1) (by omega)
          rw [show N = i + (n + 1) from by omega, e, hS]
        refine k_aload_n (pc' := 114) dX0_fillFrom_113 rfl rfl ?_
        refine k_dup (pc' := 115) dX0_fillFrom_114 rfl rfl ?_
        refine k_getI (pc' := 118) fl_RX0_49 dX0_fillFrom_115 rfl rfl rfl ?_
        refine k_iload_n (pc' := 119) dX0_fillFrom_118 rfl rfl ?_
        refine k_iadd (pc' := 120) dX0_fillFrom_119 rfl ?_
        refine k_putI (pc' := 123) fw_RX0_49 dX0_fillFrom_120 rfl rfl rfl ?_
        refine k_iload_n (pc' := 124) dX0_fillFrom_123 rfl rfl ?_
        exact k_iret dX0_fillFrom_124 rfl ⟨by rw [← hS], by rw [← hS]; rfl⟩
      · skip
        refine k_aload_n (pc' := 24) dX0_fillFrom_23 rfl rfl ?_
        refine k_getR (pc' := 27) fl_RX0_38 dX0_fillFrom_24 rfl rfl rfl ?_
        refine k_iload (pc' := 29) dX0_fillFrom_27 rfl rfl ?_
        refine k_ialdN (pc' := 30) dX0_fillFrom_29 rfl rfl (by omega) (by decide) ?_
        refine k_aload_n (pc' := 31) dX0_fillFrom_30 rfl rfl ?_
        refine k_getR (pc' := 34) fl_RX0_9 dX0_fillFrom_31 rfl rfl rfl ?_
        refine k_iload_n (pc' := 35) dX0_fillFrom_34 rfl rfl ?_
        refine k_ialdN (pc' := 36) dX0_fillFrom_35 rfl rfl ha (by decide) ?_
        simp only [fr_37, fr_38, fr_39, fr_41, fr_42, fr_45, upd_at]
        refine k_icmp_ne (pc' := 39) (tg := 107) dX0_fillFrom_36 rfl (by decide) (fun c_36 => ?_) (fun c_36 => ?_)
        · skip
          refine k_iinc (pc' := 110) (v := nI (_ + 1)) (ls' := [_, _, _, _, _, _]) dX0_fillFrom_107 rfl rfl (nI_1 _) (by decide) rfl ?_
          refine k_goto (tg := 5) dX0_fillFrom_110 (by decide) ?_
          exact k_wk (by repeat' (first | exact trivial | exact rfl | apply And.intro)) (ih (i + 1) L m O sum (by omega) (by rw [fB, if_neg c_36]; exact hS))
        · skip
          refine k_aload_n (pc' := 40) dX0_fillFrom_39 rfl rfl ?_
          refine k_getR (pc' := 43) fl_RX0_15 dX0_fillFrom_40 rfl rfl rfl ?_
          refine k_iload_n (pc' := 44) dX0_fillFrom_43 rfl rfl ?_
          refine k_ialdN (pc' := 45) dX0_fillFrom_44 rfl rfl ha (by decide) ?_
          simp only [fr_37, fr_38, fr_39, fr_41, fr_42, fr_45, upd_at]
          refine k_aload_n (pc' := 46) dX0_fillFrom_45 rfl rfl ?_
          refine k_getR (pc' := 49) fl_RX0_39 dX0_fillFrom_46 rfl rfl rfl ?_
          refine k_iload (pc' := 51) dX0_fillFrom_49 rfl rfl ?_
          refine k_ialdN (pc' := 52) dX0_fillFrom_51 rfl rfl (by omega) (by decide) ?_
          simp only [fr_37, fr_38, fr_39, fr_41, fr_42, fr_45, upd_at]
          refine k_mmin (pc' := 55) dX0_fillFrom_52 rfl ks_min_RX0_42 ⟨(Nat.le_of_ble_eq_true rfl), (Nat.le_of_ble_eq_true rfl)⟩ (Nat.le_of_ble_eq_true rfl) ?_
          refine k_istore (pc' := 57) (k0 := 0) (ls' := [_, _, _, _, _, _]) dX0_fillFrom_55 rfl (by decide) rfl ?_
          refine k_aload_n (pc' := 58) dX0_fillFrom_57 rfl rfl ?_
          refine k_getR (pc' := 61) fl_RX0_39 dX0_fillFrom_58 rfl rfl rfl ?_
          refine k_iload (pc' := 63) dX0_fillFrom_61 rfl rfl ?_
          refine k_dup2 (pc' := 64) dX0_fillFrom_63 rfl rfl rfl ?_
          refine k_ialdN (pc' := 65) dX0_fillFrom_64 rfl rfl (by omega) (by decide) ?_
          simp only [fr_37, fr_38, fr_39, fr_41, fr_42, fr_45, upd_at]
          refine k_iload (pc' := 67) dX0_fillFrom_65 rfl rfl ?_
          refine k_isub (pc' := 68) dX0_fillFrom_67 rfl ?_
          refine k_iastN (pc' := 69) dX0_fillFrom_68 rfl rfl (by omega) (by decide) ?_
          rw [c3_1 μ L _ O i _ (by decide) (by decide)]
          refine k_aload_n (pc' := 70) dX0_fillFrom_69 rfl rfl ?_
          refine k_getR (pc' := 73) fl_RX0_15 dX0_fillFrom_70 rfl rfl rfl ?_
          refine k_iload_n (pc' := 74) dX0_fillFrom_73 rfl rfl ?_
          refine k_dup2 (pc' := 75) dX0_fillFrom_74 rfl rfl rfl ?_
          refine k_ialdN (pc' := 76) dX0_fillFrom_75 rfl rfl ha (by decide) ?_
          simp only [fr_37, fr_38, fr_39, fr_41, fr_42, fr_45, upd_at]
          refine k_iload (pc' := 78) dX0_fillFrom_76 rfl rfl ?_
          refine k_isub (pc' := 79) dX0_fillFrom_78 rfl ?_
          refine k_iastN (pc' := 80) dX0_fillFrom_79 rfl rfl ha (by decide) ?_
          rw [c3_2 μ _ _ O a _ (by decide)]
          refine k_aload_n (pc' := 81) dX0_fillFrom_80 rfl rfl ?_
          refine k_getR (pc' := 84) fl_RX0_24 dX0_fillFrom_81 rfl rfl rfl ?_
          refine k_iload_n (pc' := 85) dX0_fillFrom_84 rfl rfl ?_
          refine k_bipush (pc' := 87) (v := 12) dX0_fillFrom_85 rfl (by decide) ?_
          refine k_imul (pc' := 88) dX0_fillFrom_87 rfl ?_
          refine k_aload_n (pc' := 89) dX0_fillFrom_88 rfl rfl ?_
          refine k_getR (pc' := 92) fl_RX0_48 dX0_fillFrom_89 rfl rfl rfl ?_
          refine k_iload (pc' := 94) dX0_fillFrom_92 rfl rfl ?_
          refine k_ialdN (pc' := 95) dX0_fillFrom_94 rfl rfl (by omega) (by decide) ?_
          simp only [fr_37, fr_38, fr_39, fr_41, fr_42, fr_45, upd_at]
          refine k_iadd (pc' := 96) dX0_fillFrom_95 rfl ?_
          refine k_dup2 (pc' := 97) dX0_fillFrom_96 rfl rfl rfl ?_
          refine k_iald (pc' := 98) dX0_fillFrom_97 rfl rfl (show vp_in (nI a * 12 + μ.1 38 i) 720 from (k_idx12 ha (hga i (by omega))).2.1) ?_
          simp only [fr_37, fr_38, fr_39, fr_41, fr_42, fr_45, upd_at]
          refine k_iload (pc' := 100) dX0_fillFrom_98 rfl rfl ?_
          refine k_iadd (pc' := 101) dX0_fillFrom_100 rfl ?_
          refine k_iast (pc' := 102) dX0_fillFrom_101 rfl rfl (show vp_in (nI a * 12 + μ.1 38 i) 720 from (k_idx12 ha (hga i (by omega))).2.1) ?_
          rw [c3_3]
          refine k_iload_n (pc' := 103) dX0_fillFrom_102 rfl rfl ?_
          refine k_iload (pc' := 105) dX0_fillFrom_103 rfl rfl ?_
          refine k_iadd (pc' := 106) dX0_fillFrom_105 rfl ?_
          refine k_istore_n (pc' := 107) (k0 := 0) (ls' := [_, _, _, _, _, _]) dX0_fillFrom_106 rfl (by decide) rfl ?_
          refine k_iinc (pc' := 110) (v := nI (_ + 1)) (ls' := [_, _, _, _, _, _]) dX0_fillFrom_107 rfl rfl (nI_1 _) (by decide) rfl ?_
          refine k_goto (tg := 5) dX0_fillFrom_110 (by decide) ?_
          rw [(k_idx12 ha (hga i (by omega))).1]
          rw [upd_upd]
          refine k_wk (by repeat' (first | exact trivial | exact rfl | apply And.intro)) (ih (i + 1) _ _ _ _ (by omega) ?_)
          rw [fB, if_pos c_36, ← hS]
          rfl

set_option maxHeartbeats 400000 in
set_option maxRecDepth 100000 in
theorem ev_X0_fillFrom {a : Nat} {μ : kH} {N : Nat} (ha : a < 60) (hN : N ≤ 468) (hsz : μ.1 36 3 = nI N) (hga : ∀ j, j < N → 0 ≤ (μ.1 38 j).toInt ∧ (μ.1 38 j).toInt < 12) (hle : ∀ j, j < N → 0 ≤ (μ.1 39 j).toInt) (hmi : 0 ≤ (μ.1 42 a).toInt) : Ev kX0_fillFrom [kr 40, kr 36, ki (nI a)] μ (fun r h' => r = ki (fB (μ.1 37) (μ.1 38) (μ.1 41 a) (12 * a) (μ.1 39) (μ.1 42 a) (μ.1 45) N).2.2.2 ∧ h' = hI (c3 μ 39 42 45 (fB (μ.1 37) (μ.1 38) (μ.1 41 a) (12 * a) (μ.1 39) (μ.1 42 a) (μ.1 45) N).1 (upd (μ.1 42) a (fB (μ.1 37) (μ.1 38) (μ.1 41 a) (12 * a) (μ.1 39) (μ.1 42 a) (μ.1 45) N).2.1) (fB (μ.1 37) (μ.1 38) (μ.1 41 a) (12 * a) (μ.1 39) (μ.1 42 a) (μ.1 45) N).2.2.1) 40 6 (μ.1 40 6 + (fB (μ.1 37) (μ.1 38) (μ.1 41 a) (12 * a) (μ.1 39) (μ.1 42 a) (μ.1 45) N).2.2.2)) := by
  refine k_ev (ls := [_, _, _, _, _, _]) (by decide) (Nat.le_of_ble_eq_true rfl) rfl ?_
  refine k_iconst (pc' := 1) (v := 0) dX0_fillFrom_0 rfl (by decide) ?_
  refine k_istore_n (pc' := 2) (k0 := 0) (ls' := [_, _, _, _, _, _]) dX0_fillFrom_1 rfl (by decide) rfl ?_
  refine k_iconst (pc' := 3) (v := 0) dX0_fillFrom_2 rfl (by decide) ?_
  refine k_istore (pc' := 5) (k0 := 0) (ls' := [_, _, _, _, _, _]) dX0_fillFrom_3 rfl (by decide) rfl ?_
  exact k_heq (show μ = c3 μ 39 42 45 (μ.1 39) (upd (μ.1 42) a (μ.1 42 a)) (μ.1 45) by rw [upd_id, c3_id]) (lp_X0_fillFrom ha hN hsz hga hle hmi N 0 _ _ _ _ (by omega) rfl)

