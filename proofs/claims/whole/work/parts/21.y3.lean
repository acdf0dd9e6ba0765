theorem hI_at (h : kH) (k j : Nat) (v : Int32) : (hI h k j v).1 k j = v := by simp [hI, hs, upd]
def fTab (so ye am kn : Nat → Int32) (k : Int32) : Nat → Nat → Int32
  | 0 => fun _ => -1
  | i + 1 => if kn i ≤ k then upd (fTab so ye am kn k i) (40 * so i + ye i).toNatClampNeg (am i) else fTab so ye am kn k i
def fFill (T : Nat → Int32) (s : Nat) : Nat → Int32
  | 0 => 0
  | y + 1 => if T (40 * s + y) < 0 then fFill T s y else T (40 * s + y)
def kG (T : Nat → Int32) (s y : Nat) (g : Nat → Int32) : Prop := ∀ j, j < 160 → g j = if j < 40 * s + y then fFill T (j / 40) (j % 40 + 1) else T j
theorem kG_step {T : Nat → Int32} {s y : Nat} {g : Nat → Int32} {v : Int32} (hs4 : s < 4) (hy : y < 40) (hg : kG T s y g) (hv : v = fFill T s (y + 1)) : kG T s (y + 1) (upd g (40 * s + y) v) := by
  intro j hj
  simp only [upd]
  by_cases e : j = 40 * s + y
  · rw [if_pos e, if_pos (by omega), hv, show j / 40 = s by omega, show j % 40 = y by omega]
  · rw [if_neg e, hg j hj]
    by_cases e2 : j < 40 * s + y
    · rw [if_pos e2, if_pos (by omega)]
    · rw [if_neg e2, if_neg (by omega)]
theorem kG_at {T : Nat → Int32} {s y : Nat} {g : Nat → Int32} (hs4 : s < 4) (hy : y < 40) (hg : kG T s y g) : g (40 * s + y) = T (40 * s + y) := by
  rw [hg _ (by omega), if_neg (by omega)]

set_option maxHeartbeats 400000 in
set_option maxRecDepth 100000 in
theorem lp_FPa {k : Int32} {μ : kH} {N : Nat} {Φ : Nat → List kV → List kV → kH → Prop} (hN : N = 160) (hsz : (160 : Int32) = nI N) (K : ∀ g : Nat → Int32, (∀ j, j < N → g j = -1) → At kX11_findPrices 22 [kr 46, ki k, ku, ku, ku] [] (hs μ.1 53 g, μ.2) Φ) : ∀ (n i : Nat) (g : Nat → Int32), i + n = N → (∀ j, j < i → g j = -1) → At kX11_findPrices 2 [kr 46, ki k, ki (nI i), ku, ku] [] (hs μ.1 53 g, μ.2) Φ := by
  intro n
  induction n with
  | zero =>
    intro i g hi hg
    refine k_iload_n (pc' := 3) dX11_findPrices_2 rfl rfl ?_
    refine k_sipush (pc' := 6) (v := 160) dX11_findPrices_3 rfl (by decide) ?_
    refine k_icmp_ge (pc' := 9) (tg := 22) dX11_findPrices_6 rfl (by decide) (fun c_6 => ?_) (fun c_6 => ?_)
    · skip
      exact k_wk (by repeat' (first | exact trivial | exact rfl | apply And.intro)) (K g (by rw [show N = i from by omega]; exact hg))
    · exfalso
      exact c_6 (show (160 : Int32) ≤ nI i by rw [hsz, show i = N from by omega]; exact Int32.le_refl _)
  | succ n ih =>
    intro i g hi hg
    have hlt : i < N := by omega
    refine k_iload_n (pc' := 3) dX11_findPrices_2 rfl rfl ?_
    refine k_sipush (pc' := 6) (v := 160) dX11_findPrices_3 rfl (by decide) ?_
    refine k_icmp_ge (pc' := 9) (tg := 22) dX11_findPrices_6 rfl (by decide) (fun c_6 => ?_) (fun c_6 => ?_)
    · exfalso
      have c9 : (160 : Int32) ≤ nI i := c_6
      rw [hsz] at c9
      exact nI_ge hlt (by omega) c9
    · skip
      refine k_aload_n (pc' := 10) dX11_findPrices_9 rfl rfl ?_
      refine k_getR (pc' := 13) fl_RX11_35 dX11_findPrices_10 rfl rfl rfl ?_
      refine k_iload_n (pc' := 14) dX11_findPrices_13 rfl rfl ?_
      refine k_iconst (pc' := 15) (v := (-1)) dX11_findPrices_14 rfl (by decide) ?_
      refine k_iastN (pc' := 16) dX11_findPrices_15 rfl rfl (by omega) (by decide) ?_
      refine k_iinc (pc' := 19) (v := nI (_ + 1)) (ls' := [_, _, _, _, _]) dX11_findPrices_16 rfl rfl (nI_1 _) (by decide) rfl ?_
      refine k_goto (tg := 2) dX11_findPrices_19 (by decide) ?_
      exact k_heq (hI_row μ.1 μ.2 53 g i (-1)) (ih (i + 1) _ (by omega) (fun j hj => by
        simp only [upd]
        split
        · rfl
        · exact hg j (by omega)))

set_option maxHeartbeats 400000 in
set_option maxRecDepth 100000 in
theorem lp_FPb {k : Int32} {μ : kH} {N : Nat} {Φ : Nat → List kV → List kV → kH → Prop} (hN : N ≤ 300) (hsz : μ.1 46 7 = nI N) (hr : ∀ j, j < N → 0 ≤ (μ.1 49 j).toInt ∧ (μ.1 49 j).toInt ≤ 3 ∧ 0 ≤ (μ.1 50 j).toInt ∧ (μ.1 50 j).toInt ≤ 39) (K : ∀ g : Nat → Int32, (∀ j, j < 160 → g j = fTab (μ.1 49) (μ.1 50) (μ.1 51) (μ.1 52) k N j) → At kX11_findPrices 75 [kr 46, ki k, ku, ku, ku] [] (hs μ.1 53 g, μ.2) Φ) : ∀ (n i : Nat) (g : Nat → Int32), i + n = N → (∀ j, j < 160 → g j = fTab (μ.1 49) (μ.1 50) (μ.1 51) (μ.1 52) k i j) → At kX11_findPrices 24 [kr 46, ki k, ki (nI i), ku, ku] [] (hs μ.1 53 g, μ.2) Φ := by
  intro n
  induction n with
  | zero =>
    intro i g hi hg
    refine k_iload_n (pc' := 25) dX11_findPrices_24 rfl rfl ?_
    refine k_aload_n (pc' := 26) dX11_findPrices_25 rfl rfl ?_
    refine k_getI (pc' := 29) fl_RX11_135 dX11_findPrices_26 rfl rfl rfl ?_
    refine k_icmp_ge (pc' := 32) (tg := 75) dX11_findPrices_29 rfl (by decide) (fun c_29 => ?_) (fun c_29 => ?_)
    · skip
      exact k_wk (by repeat' (first | exact trivial | exact rfl | apply And.intro)) (K g (by rw [show N = i from by omega]; exact hg))
    · exfalso
      exact c_29 (show μ.1 46 7 ≤ nI i by rw [hsz, show i = N from by omega]; exact Int32.le_refl _)
  | succ n ih =>
    intro i g hi hg
    have hlt : i < N := by omega
    refine k_iload_n (pc' := 25) dX11_findPrices_24 rfl rfl ?_
    refine k_aload_n (pc' := 26) dX11_findPrices_25 rfl rfl ?_
    refine k_getI (pc' := 29) fl_RX11_135 dX11_findPrices_26 rfl rfl rfl ?_
    refine k_icmp_ge (pc' := 32) (tg := 75) dX11_findPrices_29 rfl (by decide) (fun c_29 => ?_) (fun c_29 => ?_)
    · exfalso
      have c9 : μ.1 46 7 ≤ nI i := c_29
      rw [hsz] at c9
      exact nI_ge hlt (by omega) c9
    · skip
      refine k_aload_n (pc' := 33) dX11_findPrices_32 rfl rfl ?_
      refine k_getR (pc' := 36) fl_RX11_32 dX11_findPrices_33 rfl rfl rfl ?_
      refine k_iload_n (pc' := 37) dX11_findPrices_36 rfl rfl ?_
      refine k_ialdN (pc' := 38) dX11_findPrices_37 rfl rfl (by omega) (by decide) ?_
      refine k_iload_n (pc' := 39) dX11_findPrices_38 rfl rfl ?_
      refine k_icmp_gt (pc' := 42) (tg := 69) dX11_findPrices_39 rfl (by decide) (fun c_39 => ?_) (fun c_39 => ?_)
      · skip
        refine k_iinc (pc' := 72) (v := nI (_ + 1)) (ls' := [_, _, _, _, _]) dX11_findPrices_69 rfl rfl (nI_1 _) (by decide) rfl ?_
        refine k_goto (tg := 24) dX11_findPrices_72 (by decide) ?_
        exact ih (i + 1) g (by omega) (fun j hj => by rw [fTab, if_neg (show ¬ μ.1 52 i ≤ k from fun z => k_len z c_39)]; exact hg j hj)
      · skip
        refine k_aload_n (pc' := 43) dX11_findPrices_42 rfl rfl ?_
        refine k_getR (pc' := 46) fl_RX11_35 dX11_findPrices_43 rfl rfl rfl ?_
        refine k_bipush (pc' := 48) (v := 40) dX11_findPrices_46 rfl (by decide) ?_
        refine k_aload_n (pc' := 49) dX11_findPrices_48 rfl rfl ?_
        refine k_getR (pc' := 52) fl_RX11_23 dX11_findPrices_49 rfl rfl rfl ?_
        refine k_iload_n (pc' := 53) dX11_findPrices_52 rfl rfl ?_
        refine k_ialdN (pc' := 54) dX11_findPrices_53 rfl rfl (by omega) (by decide) ?_
        refine k_imul (pc' := 55) dX11_findPrices_54 rfl ?_
        refine k_aload_n (pc' := 56) dX11_findPrices_55 rfl rfl ?_
        refine k_getR (pc' := 59) fl_RX11_26 dX11_findPrices_56 rfl rfl rfl ?_
        refine k_iload_n (pc' := 60) dX11_findPrices_59 rfl rfl ?_
        refine k_ialdN (pc' := 61) dX11_findPrices_60 rfl rfl (by omega) (by decide) ?_
        refine k_iadd (pc' := 62) dX11_findPrices_61 rfl ?_
        refine k_aload_n (pc' := 63) dX11_findPrices_62 rfl rfl ?_
        refine k_getR (pc' := 66) fl_RX11_29 dX11_findPrices_63 rfl rfl rfl ?_
        refine k_iload_n (pc' := 67) dX11_findPrices_66 rfl rfl ?_
        refine k_ialdN (pc' := 68) dX11_findPrices_67 rfl rfl (by omega) (by decide) ?_
        refine k_iast (pc' := 69) dX11_findPrices_68 rfl rfl (vp_in_iff.mpr (by
      show 0 ≤ ((40 : Int32) * μ.1 49 i + μ.1 50 i).toInt ∧ ((40 : Int32) * μ.1 49 i + μ.1 50 i).toInt < 160
      have b1 := hr i (by omega)
      have e1 : ((40 : Int32) * μ.1 49 i).toInt = 40 * (μ.1 49 i).toInt := by rw [k_mul (by rw [li_40]; omega), li_40]
      rw [k_add (by rw [e1]; omega), e1]; omega)) ?_
        refine k_iinc (pc' := 72) (v := nI (_ + 1)) (ls' := [_, _, _, _, _]) dX11_findPrices_69 rfl rfl (nI_1 _) (by decide) rfl ?_
        refine k_goto (tg := 24) dX11_findPrices_72 (by decide) ?_
        exact k_heq (hI_row μ.1 μ.2 53 g _ _) (ih (i + 1) _ (by omega) (fun j hj => by
          rw [fTab, if_pos (show μ.1 52 i ≤ k from k_nlt c_39)]
          show upd g (40 * μ.1 49 i + μ.1 50 i).toNatClampNeg (μ.1 51 i) j = _
          simp only [upd]
          split
          · rfl
          · exact hg j hj))

set_option maxHeartbeats 400000 in
set_option maxRecDepth 100000 in
theorem lp_FPc {k : Int32} {μ : kH} {N q : Nat} {T : Nat → Int32} {Φ : Nat → List kV → List kV → kH → Prop} (hq : q < 4) (hN : N = 40) (hsz : (40 : Int32) = nI N) (K : ∀ g : Nat → Int32, kG T q N g → At kX11_findPrices 156 [kr 46, ki k, ki (nI q), ku, ku] [] (hs μ.1 53 g, μ.2) Φ) : ∀ (n i : Nat) (g : Nat → Int32) (w : Int32), i + n = N → w = fFill T q i → kG T q i g → At kX11_findPrices 87 [kr 46, ki k, ki (nI q), ki w, ki (nI i)] [] (hs μ.1 53 g, μ.2) Φ := by
  intro n
  induction n with
  | zero =>
    intro i g w hi hw hg
    refine k_iload (pc' := 89) dX11_findPrices_87 rfl rfl ?_
    refine k_bipush (pc' := 91) (v := 40) dX11_findPrices_89 rfl (by decide) ?_
    refine k_icmp_ge (pc' := 94) (tg := 156) dX11_findPrices_91 rfl (by decide) (fun c_91 => ?_) (fun c_91 => ?_)
    · skip
      exact k_wk (by repeat' (first | exact trivial | exact rfl | apply And.intro)) (K g (by rw [show N = i from by omega]; exact hg))
    · exfalso
      exact c_91 (show (40 : Int32) ≤ nI i by rw [hsz, show i = N from by omega]; exact Int32.le_refl _)
  | succ n ih =>
    intro i g w hi hw hg
    have hlt : i < N := by omega
    refine k_iload (pc' := 89) dX11_findPrices_87 rfl rfl ?_
    refine k_bipush (pc' := 91) (v := 40) dX11_findPrices_89 rfl (by decide) ?_
    refine k_icmp_ge (pc' := 94) (tg := 156) dX11_findPrices_91 rfl (by decide) (fun c_91 => ?_) (fun c_91 => ?_)
    · exfalso
      have c9 : (40 : Int32) ≤ nI i := c_91
      rw [hsz] at c9
      exact nI_ge hlt (by omega) c9
    · skip
      refine k_aload_n (pc' := 95) dX11_findPrices_94 rfl rfl ?_
      refine k_getR (pc' := 98) fl_RX11_35 dX11_findPrices_95 rfl rfl rfl ?_
      refine k_bipush (pc' := 100) (v := 40) dX11_findPrices_98 rfl (by decide) ?_
      refine k_iload_n (pc' := 101) dX11_findPrices_100 rfl rfl ?_
      refine k_imul (pc' := 102) dX11_findPrices_101 rfl ?_
      refine k_iload (pc' := 104) dX11_findPrices_102 rfl rfl ?_
      refine k_iadd (pc' := 105) dX11_findPrices_104 rfl ?_
      rw [k_40 q i]
      refine k_aload_n (pc' := 106) dX11_findPrices_105 rfl rfl ?_
      refine k_getR (pc' := 109) fl_RX11_35 dX11_findPrices_106 rfl rfl rfl ?_
      refine k_bipush (pc' := 111) (v := 40) dX11_findPrices_109 rfl (by decide) ?_
      refine k_iload_n (pc' := 112) dX11_findPrices_111 rfl rfl ?_
      refine k_imul (pc' := 113) dX11_findPrices_112 rfl ?_
      refine k_iload (pc' := 115) dX11_findPrices_113 rfl rfl ?_
      refine k_iadd (pc' := 116) dX11_findPrices_115 rfl ?_
      rw [k_40 q i]
      refine k_ialdN (pc' := 117) dX11_findPrices_116 rfl rfl (by omega) (by decide) ?_
      refine k_if_ge (pc' := 120) (tg := 124) dX11_findPrices_117 rfl (by decide) (fun c_117 => ?_) (fun c_117 => ?_)
      · skip
        refine k_aload_n (pc' := 125) dX11_findPrices_124 rfl rfl ?_
        refine k_getR (pc' := 128) fl_RX11_35 dX11_findPrices_125 rfl rfl rfl ?_
        refine k_bipush (pc' := 130) (v := 40) dX11_findPrices_128 rfl (by decide) ?_
        refine k_iload_n (pc' := 131) dX11_findPrices_130 rfl rfl ?_
        refine k_imul (pc' := 132) dX11_findPrices_131 rfl ?_
        refine k_iload (pc' := 134) dX11_findPrices_132 rfl rfl ?_
        refine k_iadd (pc' := 135) dX11_findPrices_134 rfl ?_
        rw [k_40 q i]
        refine k_ialdN (pc' := 136) dX11_findPrices_135 rfl rfl (by omega) (by decide) ?_
        refine k_iastN (pc' := 137) dX11_findPrices_136 rfl rfl (by omega) (by decide) ?_
        refine k_aload_n (pc' := 138) dX11_findPrices_137 rfl rfl ?_
        refine k_getR (pc' := 141) fl_RX11_35 dX11_findPrices_138 rfl rfl rfl ?_
        refine k_bipush (pc' := 143) (v := 40) dX11_findPrices_141 rfl (by decide) ?_
        refine k_iload_n (pc' := 144) dX11_findPrices_143 rfl rfl ?_
        refine k_imul (pc' := 145) dX11_findPrices_144 rfl ?_
        refine k_iload (pc' := 147) dX11_findPrices_145 rfl rfl ?_
        refine k_iadd (pc' := 148) dX11_findPrices_147 rfl ?_
        rw [k_40 q i]
        refine k_ialdN (pc' := 149) dX11_findPrices_148 rfl rfl (by omega) (by decide) ?_
        rw [hI_at]
        refine k_istore_n (pc' := 150) (k0 := 0) (ls' := [_, _, _, _, _]) dX11_findPrices_149 rfl (by decide) rfl ?_
        refine k_iinc (pc' := 153) (v := nI (_ + 1)) (ls' := [_, _, _, _, _]) dX11_findPrices_150 rfl rfl (nI_1 _) (by decide) rfl ?_
        refine k_goto (tg := 87) dX11_findPrices_153 (by decide) ?_
        exact k_heq (hI_row μ.1 μ.2 53 g _ _) (ih (i + 1) _ _ (by omega) (by rw [fFill, if_neg (by rw [← kG_at hq (by omega) hg]; exact k_len c_117)]; exact kG_at hq (by omega) hg) (kG_step hq (by omega) hg (by rw [fFill, if_neg (by rw [← kG_at hq (by omega) hg]; exact k_len c_117)]; exact kG_at hq (by omega) hg)))
      · skip
        refine k_iload_n (pc' := 121) dX11_findPrices_120 rfl rfl ?_
        refine k_goto (tg := 136) dX11_findPrices_121 (by decide) ?_
        refine k_iastN (pc' := 137) dX11_findPrices_136 rfl rfl (by omega) (by decide) ?_
        refine k_aload_n (pc' := 138) dX11_findPrices_137 rfl rfl ?_
        refine k_getR (pc' := 141) fl_RX11_35 dX11_findPrices_138 rfl rfl rfl ?_
        refine k_bipush (pc' := 143) (v := 40) dX11_findPrices_141 rfl (by decide) ?_
        refine k_iload_n (pc' := 144) dX11_findPrices_143 rfl rfl ?_
        refine k_imul (pc' := 145) dX11_findPrices_144 rfl ?_
        refine k_iload (pc' := 147) dX11_findPrices_145 rfl rfl ?_
        refine k_iadd (pc' := 148) dX11_findPrices_147 rfl ?_
        rw [k_40 q i]
        refine k_ialdN (pc' := 149) dX11_findPrices_148 rfl rfl (by omega) (by decide) ?_
        rw [hI_at]
        refine k_istore_n (pc' := 150) (k0 := 0) (ls' := [_, _, _, _, _]) dX11_findPrices_149 rfl (by decide) rfl ?_
        refine k_iinc (pc' := 153) (v := nI (_ + 1)) (ls' := [_, _, _, _, _]) dX11_findPrices_150 rfl rfl (nI_1 _) (by decide) rfl ?_
        refine k_goto (tg := 87) dX11_findPrices_153 (by decide) ?_
        exact k_heq (hI_row μ.1 μ.2 53 g _ _) (ih (i + 1) _ _ (by omega) (by rw [fFill, if_pos (by rw [← kG_at hq (by omega) hg]; exact k_nle c_117)]; exact hw) (kG_step hq (by omega) hg (by rw [fFill, if_pos (by rw [← kG_at hq (by omega) hg]; exact k_nle c_117)]; exact hw)))

set_option maxHeartbeats 400000 in
set_option maxRecDepth 100000 in
theorem lp_FPd {k : Int32} {μ : kH} {N : Nat} {T : Nat → Int32} (hN : N = 4) (hsz : (4 : Int32) = nI N) : ∀ (n i : Nat) (g : Nat → Int32), i + n = N → kG T i 0 g → At kX11_findPrices 77 [kr 46, ki k, ki (nI i), ku, ku] [] (hs μ.1 53 g, μ.2) (kRet kX11_findPrices (fun r h' => r = ku ∧ ∃ tb : Nat → Int32, h' = (hs μ.1 53 tb, μ.2) ∧ ∀ s, s < 4 → ∀ y, y < 40 → tb (40 * s + y) = fFill T s (y + 1))) := by
  intro n
  induction n with
  | zero =>
    intro i g hi hg
    refine k_iload_n (pc' := 78) dX11_findPrices_77 rfl rfl ?_
    refine k_iconst (pc' := 79) (v := 4) dX11_findPrices_78 rfl (by decide) ?_
    refine k_icmp_ge (pc' := 82) (tg := 162) dX11_findPrices_79 rfl (by decide) (fun c_79 => ?_) (fun c_79 => ?_)
    · skip
      exact k_vret dX11_findPrices_162 rfl ⟨rfl, g, rfl, fun s hs4 y hy => by rw [hg _ (by omega), if_pos (by omega), show (40 * s + y) / 40 = s by omega, show (40 * s + y) % 40 = y by omega]⟩
    · exfalso
      exact c_79 (by rw [hsz, show i = N from by omega]; exact Int32.le_refl _)
  | succ n ih =>
    intro i g hi hg
    have hlt : i < N := by omega
    refine k_iload_n (pc' := 78) dX11_findPrices_77 rfl rfl ?_
    refine k_iconst (pc' := 79) (v := 4) dX11_findPrices_78 rfl (by decide) ?_
    refine k_icmp_ge (pc' := 82) (tg := 162) dX11_findPrices_79 rfl (by decide) (fun c_79 => ?_) (fun c_79 => ?_)
    · exfalso
      rw [hsz] at c_79
      exact nI_ge hlt (by omega) c_79
    · skip
      refine k_iconst (pc' := 83) (v := 0) dX11_findPrices_82 rfl (by decide) ?_
      refine k_istore_n (pc' := 84) (k0 := 0) (ls' := [_, _, _, _, _]) dX11_findPrices_83 rfl (by decide) rfl ?_
      refine k_iconst (pc' := 85) (v := 0) dX11_findPrices_84 rfl (by decide) ?_
      refine k_istore (pc' := 87) (k0 := 0) (ls' := [_, _, _, _, _]) dX11_findPrices_85 rfl (by decide) rfl ?_
      refine lp_FPc (T := T) (q := i) (N := 40) (by omega) rfl rfl (fun g' hg' => ?_) 40 0 g 0 (by omega) rfl hg
      refine k_iinc (pc' := 159) (v := nI (_ + 1)) (ls' := [_, _, _, _, _]) dX11_findPrices_156 rfl rfl (nI_1 _) (by decide) rfl ?_
      refine k_goto (tg := 77) dX11_findPrices_159 (by decide) ?_
      exact k_wk (by repeat' (first | exact trivial | exact rfl | apply And.intro)) (ih (i + 1) g' (by omega) (by intro j hj; rw [hg' j hj, show 40 * i + 40 = 40 * (i + 1) + 0 by omega]))

set_option maxHeartbeats 400000 in
set_option maxRecDepth 100000 in
theorem ev_X11_findPrices {k : Int32} {μ : kH} {N : Nat} (hN : N ≤ 300) (hsz : μ.1 46 7 = nI N) (hr : ∀ j, j < N → 0 ≤ (μ.1 49 j).toInt ∧ (μ.1 49 j).toInt ≤ 3 ∧ 0 ≤ (μ.1 50 j).toInt ∧ (μ.1 50 j).toInt ≤ 39) : Ev kX11_findPrices [kr 46, ki k] μ (fun r h' => r = ku ∧ ∃ tb : Nat → Int32, h' = (hs μ.1 53 tb, μ.2) ∧ ∀ s, s < 4 → ∀ y, y < 40 → tb (40 * s + y) = fFill (fTab (μ.1 49) (μ.1 50) (μ.1 51) (μ.1 52) k N) s (y + 1)) := by
  refine k_ev (ls := [_, _, _, _, _]) (by decide) (Nat.le_of_ble_eq_true rfl) rfl ?_
  refine k_iconst (pc' := 1) (v := 0) dX11_findPrices_0 rfl (by decide) ?_
  refine k_istore_n (pc' := 2) (k0 := 0) (ls' := [_, _, _, _, _]) dX11_findPrices_1 rfl (by decide) rfl ?_
  refine k_heq (show μ = (hs μ.1 53 (μ.1 53), μ.2) by rw [hs_id]) (lp_FPa (N := 160) rfl rfl (fun g hg => ?_) 160 0 (μ.1 53) (by omega) (fun j hj => absurd hj (by omega)))
  refine k_iconst (pc' := 23) (v := 0) dX11_findPrices_22 rfl (by decide) ?_
  refine k_istore_n (pc' := 24) (k0 := 0) (ls' := [_, _, _, _, _]) dX11_findPrices_23 rfl (by decide) rfl ?_
  refine lp_FPb (N := N) hN hsz hr (fun g2 hg2 => ?_) N 0 g (by omega) (fun j hj => hg j hj)
  refine k_iconst (pc' := 76) (v := 0) dX11_findPrices_75 rfl (by decide) ?_
  refine k_istore_n (pc' := 77) (k0 := 0) (ls' := [_, _, _, _, _]) dX11_findPrices_76 rfl (by decide) rfl ?_
  exact lp_FPd (T := fTab (μ.1 49) (μ.1 50) (μ.1 51) (μ.1 52) k N) (N := 4) rfl rfl 4 0 g2 (by omega) (fun j hj => by rw [hg2 j hj, if_neg (by omega)])

