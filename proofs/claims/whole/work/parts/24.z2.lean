theorem gr_64 (μ : kH) (L M O : Nat → Int32) : (c3 μ 66 71 72 L M O).1 64 = μ.1 64 := rfl
theorem gr_65 (μ : kH) (L M O : Nat → Int32) : (c3 μ 66 71 72 L M O).1 65 = μ.1 65 := rfl
theorem gr_67 (μ : kH) (L M O : Nat → Int32) : (c3 μ 66 71 72 L M O).1 67 = μ.1 67 := rfl
theorem gr_68 (μ : kH) (L M O : Nat → Int32) : (c3 μ 66 71 72 L M O).1 68 = μ.1 68 := rfl
theorem gr_66 (μ : kH) (L M O : Nat → Int32) : (c3 μ 66 71 72 L M O).1 66 = L := rfl
theorem gr_71 (μ : kH) (L M O : Nat → Int32) : (c3 μ 66 71 72 L M O).1 71 = M := rfl
theorem gr_72 (μ : kH) (L M O : Nat → Int32) : (c3 μ 66 71 72 L M O).1 72 = O := rfl
theorem k_suba (a b c : Int32) : a - (b + c) = a - b - c := by grind

set_option maxHeartbeats 400000 in
set_option maxRecDepth 100000 in
theorem ev_X10_bring_ok {a : Nat} {μ : kH} {N B : Nat} (ha : a < B) (hB : B ≤ 60) (hbs : μ.1 40 5 = nI B) (hN : N ≤ 468) (hsz : μ.1 36 3 = nI N) (hga : ∀ j, j < N → 0 ≤ (μ.1 38 j).toInt ∧ (μ.1 38 j).toInt < 12) (hle : ∀ j, j < N → 0 ≤ (μ.1 39 j).toInt) (hmi : 0 ≤ (μ.1 42 a).toInt) : Ev kX10_bring [kr 0, ki (nI a)] μ (fun r h' => r = ki (fB (μ.1 37) (μ.1 38) (μ.1 41 a) (12 * a) (μ.1 39) (μ.1 42 a) (μ.1 45) N).2.2.2 ∧ h' = hI (hI (c3 μ 39 42 45 (fB (μ.1 37) (μ.1 38) (μ.1 41 a) (12 * a) (μ.1 39) (μ.1 42 a) (μ.1 45) N).1 (upd (μ.1 42) a (fB (μ.1 37) (μ.1 38) (μ.1 41 a) (12 * a) (μ.1 39) (μ.1 42 a) (μ.1 45) N).2.1) (fB (μ.1 37) (μ.1 38) (μ.1 41 a) (12 * a) (μ.1 39) (μ.1 42 a) (μ.1 45) N).2.2.1) 40 6 (μ.1 40 6 + (fB (μ.1 37) (μ.1 38) (μ.1 41 a) (12 * a) (μ.1 39) (μ.1 42 a) (μ.1 45) N).2.2.2)) 0 11 0) := by
  have eB : (μ.1 40 5).toInt = B := by rw [hbs, nI_toInt (by omega)]
  have eA : (nI a).toInt = a := nI_toInt (by omega)
  refine k_ev (ls := [_, _]) (by decide) (Nat.le_of_ble_eq_true rfl) rfl ?_
  refine k_aload_n (pc' := 1) dX10_bring_0 rfl rfl ?_
  refine k_getR (pc' := 4) fl_RX10_81 dX10_bring_1 rfl rfl rfl ?_
  refine k_iload_n (pc' := 5) dX10_bring_4 rfl rfl ?_
  refine k_callV1 (pc' := 8) dX10_bring_5 rfl ml_RX10_224 rfl rfl ⟨(Nat.le_of_ble_eq_true rfl), (Nat.le_of_ble_eq_true rfl)⟩ (Nat.le_of_ble_eq_true rfl) (ev_X0_has2 (by rw [eB]; omega)) (fun r_5 h_5 q_5 => ?_)
  obtain ⟨e_5, g_5⟩ := q_5
  rw [e_5, g_5]
  refine k_if_ne (pc' := 11) (tg := 18) dX10_bring_8 rfl (by decide) (fun c_8 => ?_) (fun c_8 => ?_)
  · skip
    refine k_aload_n (pc' := 19) dX10_bring_18 rfl rfl ?_
    refine k_aload_n (pc' := 20) dX10_bring_19 rfl rfl ?_
    refine k_getR (pc' := 23) fl_RX10_81 dX10_bring_20 rfl rfl rfl ?_
    refine k_aload_n (pc' := 24) dX10_bring_23 rfl rfl ?_
    refine k_getR (pc' := 27) fl_RX10_74 dX10_bring_24 rfl rfl rfl ?_
    refine k_iload_n (pc' := 28) dX10_bring_27 rfl rfl ?_
    refine k_callV2 (pc' := 31) dX10_bring_28 rfl ml_RX10_225 rfl rfl ⟨(Nat.le_of_ble_eq_true rfl), (Nat.le_of_ble_eq_true rfl)⟩ (Nat.le_of_ble_eq_true rfl) (ev_X0_fillFrom (by omega) hN hsz hga hle hmi) (fun r_28 h_28 q_28 => ?_)
    obtain ⟨e_28, g_28⟩ := q_28
    rw [e_28, g_28]
    refine k_callV1 (pc' := 34) dX10_bring_31 rfl ml_RX10_97 rfl rfl ⟨(Nat.le_of_ble_eq_true rfl), (Nat.le_of_ble_eq_true rfl)⟩ (Nat.le_of_ble_eq_true rfl) ev_X10_done (fun r_31 h_31 q_31 => ?_)
    obtain ⟨e_31, g_31⟩ := q_31
    rw [e_31, g_31]
    exact k_iret dX10_bring_34 rfl ⟨rfl, rfl⟩
  · exfalso
    clear hga hle; (try simp only [eq_self, not_true_eq_false, not_false_eq_true, k_b0, k_b1, k_c0, k_cl, k_cg, k_cle, k_cge] at *) <;> (try simp only [eB, eA, eq_self, not_true_eq_false, not_false_eq_true, k_le, k_lt, k_eq, k_leL, k_ltL, k_eqL, k_il, li_m6, li_m5, li_m3, li_m2, li_m1, li_0, li_1, li_2, li_3, li_4, li_5, li_6, li_7, li_8, li_10, li_11, li_12, li_20, li_24, li_25, li_26, li_32, li_39, li_40, li_48, li_57, li_59, li_60, li_96, li_97, li_100, li_122, li_180, li_200, li_255, li_300, li_468, li_480, li_500, li_1000, li_2000, li_10000, li_10001, li_100000, li_1000000, li_100000000, lj_m1, lj_0, lj_1, lj_2, lj_3, lj_24, lj_39, lj_100, lj_500, lj_1000, lj_2000, lj_10000, lj_100000, lj_1000000, lj_100000000, lj_10, lj_20, lj_12, lj_32, lj_96] at *) <;> omega

set_option maxHeartbeats 400000 in
set_option maxRecDepth 100000 in
theorem ev_X10_bring_bad {a : Int32} {μ : kH} (ha : 0 ≤ (μ.1 40 5).toInt) (hb : ¬ (0 ≤ a ∧ a < μ.1 40 5)) : Ev kX10_bring [kr 0, ki a] μ (fun r h' => r = ki (-2) ∧ h' = hI μ 0 11 (-2)) := by
  refine k_ev (ls := [_, _]) (by decide) (Nat.le_of_ble_eq_true rfl) rfl ?_
  refine k_aload_n (pc' := 1) dX10_bring_0 rfl rfl ?_
  refine k_getR (pc' := 4) fl_RX10_81 dX10_bring_1 rfl rfl rfl ?_
  refine k_iload_n (pc' := 5) dX10_bring_4 rfl rfl ?_
  refine k_callV1 (pc' := 8) dX10_bring_5 rfl ml_RX10_224 rfl rfl ⟨(Nat.le_of_ble_eq_true rfl), (Nat.le_of_ble_eq_true rfl)⟩ (Nat.le_of_ble_eq_true rfl) (ev_X0_has2 ha) (fun r_5 h_5 q_5 => ?_)
  obtain ⟨e_5, g_5⟩ := q_5
  rw [e_5, g_5]
  refine k_if_ne (pc' := 11) (tg := 18) dX10_bring_8 rfl (by decide) (fun c_8 => ?_) (fun c_8 => ?_)
  · exfalso
    (try simp only [eq_self, not_true_eq_false, not_false_eq_true, k_b0, k_b1, k_c0, k_cl, k_cg, k_cle, k_cge] at *) <;> (try simp only [eq_self, not_true_eq_false, not_false_eq_true, k_le, k_lt, k_eq, k_leL, k_ltL, k_eqL, k_il, li_m6, li_m5, li_m3, li_m2, li_m1, li_0, li_1, li_2, li_3, li_4, li_5, li_6, li_7, li_8, li_10, li_11, li_12, li_20, li_24, li_25, li_26, li_32, li_39, li_40, li_48, li_57, li_59, li_60, li_96, li_97, li_100, li_122, li_180, li_200, li_255, li_300, li_468, li_480, li_500, li_1000, li_2000, li_10000, li_10001, li_100000, li_1000000, li_100000000, lj_m1, lj_0, lj_1, lj_2, lj_3, lj_24, lj_39, lj_100, lj_500, lj_1000, lj_2000, lj_10000, lj_100000, lj_1000000, lj_100000000, lj_10, lj_20, lj_12, lj_32, lj_96] at *) <;> omega
  · skip
    refine k_aload_n (pc' := 12) dX10_bring_11 rfl rfl ?_
    refine k_bipush (pc' := 14) (v := (-2)) dX10_bring_12 rfl (by decide) ?_
    refine k_callV1 (pc' := 17) dX10_bring_14 rfl ml_RX10_89 rfl rfl ⟨(Nat.le_of_ble_eq_true rfl), (Nat.le_of_ble_eq_true rfl)⟩ (Nat.le_of_ble_eq_true rfl) ev_X10_refused (fun r_14 h_14 q_14 => ?_)
    obtain ⟨e_14, g_14⟩ := q_14
    rw [e_14, g_14]
    exact k_iret dX10_bring_17 rfl ⟨rfl, rfl⟩

set_option maxHeartbeats 400000 in
set_option maxRecDepth 100000 in
theorem lp_X11_bring {a : Nat} {μ : kH} {N : Nat} (ha : a < 60) (hN : N ≤ 480) (hsz : μ.1 46 37 = nI N) (hga : ∀ j, j < N → 0 ≤ (μ.1 65 j).toInt ∧ (μ.1 65 j).toInt < 12) : ∀ (n i : Nat) (L : Nat → Int32) (g : Int32) (O : Nat → Int32) (sum : Int32), i + n = N → (L, μ.1 68 a - g, O, sum) = fB (μ.1 64) (μ.1 65) (μ.1 67 a) (12 * a) (μ.1 66) (μ.1 68 a - μ.1 71 a) (μ.1 72) i → At kX11_bring 32 [kr 46, ki (nI a), ki sum, ki (nI i), ku, ku] [] (c3 μ 66 71 72 L (upd (μ.1 71) a g) O) (kRet kX11_bring (fun r h' => ∃ g : Int32, μ.1 68 a - g = (fB (μ.1 64) (μ.1 65) (μ.1 67 a) (12 * a) (μ.1 66) (μ.1 68 a - μ.1 71 a) (μ.1 72) N).2.1 ∧ r = ki (fB (μ.1 64) (μ.1 65) (μ.1 67 a) (12 * a) (μ.1 66) (μ.1 68 a - μ.1 71 a) (μ.1 72) N).2.2.2 ∧ h' = hI (hI (c3 μ 66 71 72 (fB (μ.1 64) (μ.1 65) (μ.1 67 a) (12 * a) (μ.1 66) (μ.1 68 a - μ.1 71 a) (μ.1 72) N).1 (upd (μ.1 71) a g) (fB (μ.1 64) (μ.1 65) (μ.1 67 a) (12 * a) (μ.1 66) (μ.1 68 a - μ.1 71 a) (μ.1 72) N).2.2.1) 46 42 (μ.1 46 42 + (fB (μ.1 64) (μ.1 65) (μ.1 67 a) (12 * a) (μ.1 66) (μ.1 68 a - μ.1 71 a) (μ.1 72) N).2.2.2)) 46 1 (kst (fB (μ.1 64) (μ.1 65) (μ.1 67 a) (12 * a) (μ.1 66) (μ.1 68 a - μ.1 71 a) (μ.1 72) N).2.2.2))) := by
  intro n
  induction n with
  | zero =>
    intro i L g O sum hi hS
    have hS : (L, μ.1 68 a - g, O, sum) = fB (μ.1 64) (μ.1 65) (μ.1 67 a) (12 * a) (μ.1 66) (μ.1 68 a - μ.1 71 a) (μ.1 72) N := by rw [hS, show i = N from by omega]
    refine k_iload_n (pc' := 33) dX11_bring_32 rfl rfl ?_
    refine k_aload_n (pc' := 34) dX11_bring_33 rfl rfl ?_
    refine k_getI (pc' := 37) fl_RX11_268 dX11_bring_34 rfl rfl rfl ?_
    refine k_icmp_ge (pc' := 40) (tg := 152) dX11_bring_37 rfl (by decide) (fun c_37 => ?_) (fun c_37 => ?_)
    · skip
      refine k_aload_n (pc' := 153) dX11_bring_152 rfl rfl ?_
      refine k_dup (pc' := 154) dX11_bring_153 rfl rfl ?_
      refine k_getI (pc' := 157) fl_RX11_279 dX11_bring_154 rfl rfl rfl ?_
      refine k_iload_n (pc' := 158) dX11_bring_157 rfl rfl ?_
      refine k_iadd (pc' := 159) dX11_bring_158 rfl ?_
      refine k_putI (pc' := 162) fw_RX11_279 dX11_bring_159 rfl rfl rfl ?_
      refine k_aload_n (pc' := 163) dX11_bring_162 rfl rfl ?_
      refine k_iload_n (pc' := 164) dX11_bring_163 rfl rfl ?_
      refine k_callV1 (pc' := 167) dX11_bring_164 rfl ml_RX11_120 rfl rfl ⟨(Nat.le_of_ble_eq_true rfl), (Nat.le_of_ble_eq_true rfl)⟩ (Nat.le_of_ble_eq_true rfl) ev_X11_told2 (fun r_164 h_164 q_164 => ?_)
      obtain ⟨e_164, g_164⟩ := q_164
      rw [e_164, g_164]
      exact k_iret dX11_bring_167 rfl ⟨g, by rw [← hS], by rw [← hS], by rw [← hS]; rfl⟩
    · exfalso
      exact c_37 (show μ.1 46 37 ≤ nI i by rw [hsz, show i = N from by omega]; exact Int32.le_refl _)
  | succ n ih =>
    intro i L g O sum hi hS
    have hlt : i < N := by omega
    refine k_iload_n (pc' := 33) dX11_bring_32 rfl rfl ?_
    refine k_aload_n (pc' := 34) dX11_bring_33 rfl rfl ?_
    refine k_getI (pc' := 37) fl_RX11_268 dX11_bring_34 rfl rfl rfl ?_
    refine k_icmp_ge (pc' := 40) (tg := 152) dX11_bring_37 rfl (by decide) (fun c_37 => ?_) (fun c_37 => ?_)
    · exfalso
      have c9 : μ.1 46 37 ≤ nI i := c_37
      rw [hsz] at c9
      exact nI_ge hlt (by omega) c9
    · skip
      refine k_aload_n (pc' := 41) dX11_bring_40 rfl rfl ?_
      refine k_getR (pc' := 44) fl_RX11_87 dX11_bring_41 rfl rfl rfl ?_
      refine k_iload_n (pc' := 45) dX11_bring_44 rfl rfl ?_
      refine k_ialdN (pc' := 46) dX11_bring_45 rfl rfl ha (by decide) ?_
      refine k_aload_n (pc' := 47) dX11_bring_46 rfl rfl ?_
      refine k_getR (pc' := 50) fl_RX11_96 dX11_bring_47 rfl rfl rfl ?_
      refine k_iload_n (pc' := 51) dX11_bring_50 rfl rfl ?_
      refine k_ialdN (pc' := 52) dX11_bring_51 rfl rfl ha (by decide) ?_
      simp only [gr_64, gr_65, gr_66, gr_67, gr_68, gr_71, gr_72, upd_at]
      refine k_isub (pc' := 53) dX11_bring_52 rfl ?_
      refine k_istore (pc' := 55) (k0 := 0) (ls' := [_, _, _, _, _, _]) dX11_bring_53 rfl (by decide) rfl ?_
      refine k_aload_n (pc' := 56) dX11_bring_55 rfl rfl ?_
      refine k_getR (pc' := 59) fl_RX11_75 dX11_bring_56 rfl rfl rfl ?_
      refine k_iload_n (pc' := 60) dX11_bring_59 rfl rfl ?_
      refine k_ialdN (pc' := 61) dX11_bring_60 rfl rfl (by omega) (by decide) ?_
      refine k_aload_n (pc' := 62) dX11_bring_61 rfl rfl ?_
      refine k_getR (pc' := 65) fl_RX11_84 dX11_bring_62 rfl rfl rfl ?_
      refine k_iload_n (pc' := 66) dX11_bring_65 rfl rfl ?_
      refine k_ialdN (pc' := 67) dX11_bring_66 rfl rfl ha (by decide) ?_
      simp only [gr_64, gr_65, gr_66, gr_67, gr_68, gr_71, gr_72, upd_at]
      refine k_icmp_eq (pc' := 70) (tg := 74) dX11_bring_67 rfl (by decide) (fun c_67 => ?_) (fun c_67 => ?_)
      · skip
        refine k_aload_n (pc' := 75) dX11_bring_74 rfl rfl ?_
        refine k_getR (pc' := 78) fl_RX11_81 dX11_bring_75 rfl rfl rfl ?_
        refine k_iload_n (pc' := 79) dX11_bring_78 rfl rfl ?_
        refine k_ialdN (pc' := 80) dX11_bring_79 rfl rfl (by omega) (by decide) ?_
        simp only [gr_64, gr_65, gr_66, gr_67, gr_68, gr_71, gr_72, upd_at]
        refine k_iload (pc' := 82) dX11_bring_80 rfl rfl ?_
        refine k_icmp_ge (pc' := 85) (tg := 94) dX11_bring_82 rfl (by decide) (fun c_82 => ?_) (fun c_82 => ?_)
        · skip
          refine k_iload (pc' := 96) dX11_bring_94 rfl rfl ?_
          refine k_istore (pc' := 98) (k0 := 0) (ls' := [_, _, _, _, _, _]) dX11_bring_96 rfl (by decide) rfl ?_
          refine k_aload_n (pc' := 99) dX11_bring_98 rfl rfl ?_
          refine k_getR (pc' := 102) fl_RX11_81 dX11_bring_99 rfl rfl rfl ?_
          refine k_iload_n (pc' := 103) dX11_bring_102 rfl rfl ?_
          refine k_dup2 (pc' := 104) dX11_bring_103 rfl rfl rfl ?_
          refine k_ialdN (pc' := 105) dX11_bring_104 rfl rfl (by omega) (by decide) ?_
          simp only [gr_64, gr_65, gr_66, gr_67, gr_68, gr_71, gr_72, upd_at]
          refine k_iload (pc' := 107) dX11_bring_105 rfl rfl ?_
          refine k_isub (pc' := 108) dX11_bring_107 rfl ?_
          refine k_iastN (pc' := 109) dX11_bring_108 rfl rfl (by omega) (by decide) ?_
          rw [c3_1 μ L _ O i _ (by decide) (by decide)]
          refine k_aload_n (pc' := 110) dX11_bring_109 rfl rfl ?_
          refine k_getR (pc' := 113) fl_RX11_96 dX11_bring_110 rfl rfl rfl ?_
          refine k_iload_n (pc' := 114) dX11_bring_113 rfl rfl ?_
          refine k_dup2 (pc' := 115) dX11_bring_114 rfl rfl rfl ?_
          refine k_ialdN (pc' := 116) dX11_bring_115 rfl rfl ha (by decide) ?_
          simp only [gr_64, gr_65, gr_66, gr_67, gr_68, gr_71, gr_72, upd_at]
          refine k_iload (pc' := 118) dX11_bring_116 rfl rfl ?_
          refine k_iadd (pc' := 119) dX11_bring_118 rfl ?_
          refine k_iastN (pc' := 120) dX11_bring_119 rfl rfl ha (by decide) ?_
          rw [c3_2 μ _ _ O a _ (by decide)]
          refine k_aload_n (pc' := 121) dX11_bring_120 rfl rfl ?_
          refine k_getR (pc' := 124) fl_RX11_99 dX11_bring_121 rfl rfl rfl ?_
          refine k_bipush (pc' := 126) (v := 12) dX11_bring_124 rfl (by decide) ?_
          refine k_iload_n (pc' := 127) dX11_bring_126 rfl rfl ?_
          refine k_imul (pc' := 128) dX11_bring_127 rfl ?_
          refine k_aload_n (pc' := 129) dX11_bring_128 rfl rfl ?_
          refine k_getR (pc' := 132) fl_RX11_78 dX11_bring_129 rfl rfl rfl ?_
          refine k_iload_n (pc' := 133) dX11_bring_132 rfl rfl ?_
          refine k_ialdN (pc' := 134) dX11_bring_133 rfl rfl (by omega) (by decide) ?_
          simp only [gr_64, gr_65, gr_66, gr_67, gr_68, gr_71, gr_72, upd_at]
          refine k_iadd (pc' := 135) dX11_bring_134 rfl ?_
          refine k_dup2 (pc' := 136) dX11_bring_135 rfl rfl rfl ?_
          refine k_iald (pc' := 137) dX11_bring_136 rfl rfl (show vp_in (12 * nI a + μ.1 65 i) 720 from (k_idx12 ha (hga i (by omega))).2.2.2) ?_
          simp only [gr_64, gr_65, gr_66, gr_67, gr_68, gr_71, gr_72, upd_at]
          refine k_iload (pc' := 139) dX11_bring_137 rfl rfl ?_
          refine k_iadd (pc' := 140) dX11_bring_139 rfl ?_
          refine k_iast (pc' := 141) dX11_bring_140 rfl rfl (show vp_in (12 * nI a + μ.1 65 i) 720 from (k_idx12 ha (hga i (by omega))).2.2.2) ?_
          rw [c3_3]
          refine k_iload_n (pc' := 142) dX11_bring_141 rfl rfl ?_
          refine k_iload (pc' := 144) dX11_bring_142 rfl rfl ?_
          refine k_iadd (pc' := 145) dX11_bring_144 rfl ?_
          refine k_istore_n (pc' := 146) (k0 := 0) (ls' := [_, _, _, _, _, _]) dX11_bring_145 rfl (by decide) rfl ?_
          refine k_iinc (pc' := 149) (v := nI (_ + 1)) (ls' := [_, _, _, _, _, _]) dX11_bring_146 rfl rfl (nI_1 _) (by decide) rfl ?_
          refine k_goto (tg := 32) dX11_bring_149 (by decide) ?_
          rw [(k_idx12 ha (hga i (by omega))).2.2.1]
          rw [upd_upd]
          refine k_wk (by repeat' (first | exact trivial | exact rfl | apply And.intro)) (ih (i + 1) _ _ _ _ (by omega) ?_)
          rw [fB, if_pos c_67, ← hS, k_suba]
          have ed : fD (L i) (μ.1 68 a - g) = μ.1 68 a - g := by unfold fD; exact if_neg (k_len c_82)
          dsimp only
          rw [ed]
        · skip
          refine k_aload_n (pc' := 86) dX11_bring_85 rfl rfl ?_
          refine k_getR (pc' := 89) fl_RX11_81 dX11_bring_86 rfl rfl rfl ?_
          refine k_iload_n (pc' := 90) dX11_bring_89 rfl rfl ?_
          refine k_ialdN (pc' := 91) dX11_bring_90 rfl rfl (by omega) (by decide) ?_
          simp only [gr_64, gr_65, gr_66, gr_67, gr_68, gr_71, gr_72, upd_at]
          refine k_goto (tg := 96) dX11_bring_91 (by decide) ?_
          refine k_istore (pc' := 98) (k0 := 0) (ls' := [_, _, _, _, _, _]) dX11_bring_96 rfl (by decide) rfl ?_
          refine k_aload_n (pc' := 99) dX11_bring_98 rfl rfl ?_
          refine k_getR (pc' := 102) fl_RX11_81 dX11_bring_99 rfl rfl rfl ?_
          refine k_iload_n (pc' := 103) dX11_bring_102 rfl rfl ?_
          refine k_dup2 (pc' := 104) dX11_bring_103 rfl rfl rfl ?_
          refine k_ialdN (pc' := 105) dX11_bring_104 rfl rfl (by omega) (by decide) ?_
          simp only [gr_64, gr_65, gr_66, gr_67, gr_68, gr_71, gr_72, upd_at]
          refine k_iload (pc' := 107) dX11_bring_105 rfl rfl ?_
          refine k_isub (pc' := 108) dX11_bring_107 rfl ?_
          refine k_iastN (pc' := 109) dX11_bring_108 rfl rfl (by omega) (by decide) ?_
          rw [c3_1 μ L _ O i _ (by decide) (by decide)]
          refine k_aload_n (pc' := 110) dX11_bring_109 rfl rfl ?_
          refine k_getR (pc' := 113) fl_RX11_96 dX11_bring_110 rfl rfl rfl ?_
          refine k_iload_n (pc' := 114) dX11_bring_113 rfl rfl ?_
          refine k_dup2 (pc' := 115) dX11_bring_114 rfl rfl rfl ?_
          refine k_ialdN (pc' := 116) dX11_bring_115 rfl rfl ha (by decide) ?_
          simp only [gr_64, gr_65, gr_66, gr_67, gr_68, gr_71, gr_72, upd_at]
          refine k_iload (pc' := 118) dX11_bring_116 rfl rfl ?_
          refine k_iadd (pc' := 119) dX11_bring_118 rfl ?_
          refine k_iastN (pc' := 120) dX11_bring_119 rfl rfl ha (by decide) ?_
          rw [c3_2 μ _ _ O a _ (by decide)]
          refine k_aload_n (pc' := 121) dX11_bring_120 rfl rfl ?_
          refine k_getR (pc' := 124) fl_RX11_99 dX11_bring_121 rfl rfl rfl ?_
          refine k_bipush (pc' := 126) (v := 12) dX11_bring_124 rfl (by decide) ?_
          refine k_iload_n (pc' := 127) dX11_bring_126 rfl rfl ?_
          refine k_imul (pc' := 128) dX11_bring_127 rfl ?_
          refine k_aload_n (pc' := 129) dX11_bring_128 rfl rfl ?_
          refine k_getR (pc' := 132) fl_RX11_78 dX11_bring_129 rfl rfl rfl ?_
          refine k_iload_n (pc' := 133) dX11_bring_132 rfl rfl ?_
          refine k_ialdN (pc' := 134) dX11_bring_133 rfl rfl (by omega) (by decide) ?_
          simp only [gr_64, gr_65, gr_66, gr_67, gr_68, gr_71, gr_72, upd_at]
          refine k_iadd (pc' := 135) dX11_bring_134 rfl ?_
          refine k_dup2 (pc' := 136) dX11_bring_135 rfl rfl rfl ?_
          refine k_iald (pc' := 137) dX11_bring_136 rfl rfl (show vp_in (12 * nI a + μ.1 65 i) 720 from (k_idx12 ha (hga i (by omega))).2.2.2) ?_
          simp only [gr_64, gr_65, gr_66, gr_67, gr_68, gr_71, gr_72, upd_at]
          refine k_iload (pc' := 139) dX11_bring_137 rfl rfl ?_
          refine k_iadd (pc' := 140) dX11_bring_139 rfl ?_
          refine k_iast (pc' := 141) dX11_bring_140 rfl rfl (show vp_in (12 * nI a + μ.1 65 i) 720 from (k_idx12 ha (hga i (by omega))).2.2.2) ?_
          rw [c3_3]
          refine k_iload_n (pc' := 142) dX11_bring_141 rfl rfl ?_
          refine k_iload (pc' := 144) dX11_bring_142 rfl rfl ?_
          refine k_iadd (pc' := 145) dX11_bring_144 rfl ?_
          refine k_istore_n (pc' := 146) (k0 := 0) (ls' := [_, _, _, _, _, _]) dX11_bring_145 rfl (by decide) rfl ?_
          refine k_iinc (pc' := 149) (v := nI (_ + 1)) (ls' := [_, _, _, _, _, _]) dX11_bring_146 rfl rfl (nI_1 _) (by decide) rfl ?_
          refine k_goto (tg := 32) dX11_bring_149 (by decide) ?_
          rw [(k_idx12 ha (hga i (by omega))).2.2.1]
          rw [upd_upd]
          refine k_wk (by repeat' (first | exact trivial | exact rfl | apply And.intro)) (ih (i + 1) _ _ _ _ (by omega) ?_)
          rw [fB, if_pos c_67, ← hS, k_suba]
          have ed : fD (L i) (μ.1 68 a - g) = L i := by unfold fD; exact if_pos (k_nle c_82)
          dsimp only
          rw [ed]
      · skip
        refine k_iconst (pc' := 71) (v := 0) dX11_bring_70 rfl (by decide) ?_
        refine k_goto (tg := 96) dX11_bring_71 (by decide) ?_
        refine k_istore (pc' := 98) (k0 := 0) (ls' := [_, _, _, _, _, _]) dX11_bring_96 rfl (by decide) rfl ?_
        refine k_aload_n (pc' := 99) dX11_bring_98 rfl rfl ?_
        refine k_getR (pc' := 102) fl_RX11_81 dX11_bring_99 rfl rfl rfl ?_
        refine k_iload_n (pc' := 103) dX11_bring_102 rfl rfl ?_
        refine k_dup2 (pc' := 104) dX11_bring_103 rfl rfl rfl ?_
        refine k_ialdN (pc' := 105) dX11_bring_104 rfl rfl (by omega) (by decide) ?_
        simp only [gr_64, gr_65, gr_66, gr_67, gr_68, gr_71, gr_72, upd_at]
        refine k_iload (pc' := 107) dX11_bring_105 rfl rfl ?_
        refine k_isub (pc' := 108) dX11_bring_107 rfl ?_
        refine k_iastN (pc' := 109) dX11_bring_108 rfl rfl (by omega) (by decide) ?_
        rw [c3_1 μ L _ O i _ (by decide) (by decide)]
        refine k_aload_n (pc' := 110) dX11_bring_109 rfl rfl ?_
        refine k_getR (pc' := 113) fl_RX11_96 dX11_bring_110 rfl rfl rfl ?_
        refine k_iload_n (pc' := 114) dX11_bring_113 rfl rfl ?_
        refine k_dup2 (pc' := 115) dX11_bring_114 rfl rfl rfl ?_
        refine k_ialdN (pc' := 116) dX11_bring_115 rfl rfl ha (by decide) ?_
        simp only [gr_64, gr_65, gr_66, gr_67, gr_68, gr_71, gr_72, upd_at]
        refine k_iload (pc' := 118) dX11_bring_116 rfl rfl ?_
        refine k_iadd (pc' := 119) dX11_bring_118 rfl ?_
        refine k_iastN (pc' := 120) dX11_bring_119 rfl rfl ha (by decide) ?_
        rw [c3_2 μ _ _ O a _ (by decide)]
        refine k_aload_n (pc' := 121) dX11_bring_120 rfl rfl ?_
        refine k_getR (pc' := 124) fl_RX11_99 dX11_bring_121 rfl rfl rfl ?_
        refine k_bipush (pc' := 126) (v := 12) dX11_bring_124 rfl (by decide) ?_
        refine k_iload_n (pc' := 127) dX11_bring_126 rfl rfl ?_
        refine k_imul (pc' := 128) dX11_bring_127 rfl ?_
        refine k_aload_n (pc' := 129) dX11_bring_128 rfl rfl ?_
        refine k_getR (pc' := 132) fl_RX11_78 dX11_bring_129 rfl rfl rfl ?_
        refine k_iload_n (pc' := 133) dX11_bring_132 rfl rfl ?_
        refine k_ialdN (pc' := 134) dX11_bring_133 rfl rfl (by omega) (by decide) ?_
        simp only [gr_64, gr_65, gr_66, gr_67, gr_68, gr_71, gr_72, upd_at]
        refine k_iadd (pc' := 135) dX11_bring_134 rfl ?_
        refine k_dup2 (pc' := 136) dX11_bring_135 rfl rfl rfl ?_
        refine k_iald (pc' := 137) dX11_bring_136 rfl rfl (show vp_in (12 * nI a + μ.1 65 i) 720 from (k_idx12 ha (hga i (by omega))).2.2.2) ?_
        simp only [gr_64, gr_65, gr_66, gr_67, gr_68, gr_71, gr_72, upd_at]
        refine k_iload (pc' := 139) dX11_bring_137 rfl rfl ?_
        refine k_iadd (pc' := 140) dX11_bring_139 rfl ?_
        refine k_iast (pc' := 141) dX11_bring_140 rfl rfl (show vp_in (12 * nI a + μ.1 65 i) 720 from (k_idx12 ha (hga i (by omega))).2.2.2) ?_
        rw [c3_3]
        refine k_iload_n (pc' := 142) dX11_bring_141 rfl rfl ?_
        refine k_iload (pc' := 144) dX11_bring_142 rfl rfl ?_
        refine k_iadd (pc' := 145) dX11_bring_144 rfl ?_
        refine k_istore_n (pc' := 146) (k0 := 0) (ls' := [_, _, _, _, _, _]) dX11_bring_145 rfl (by decide) rfl ?_
        refine k_iinc (pc' := 149) (v := nI (_ + 1)) (ls' := [_, _, _, _, _, _]) dX11_bring_146 rfl rfl (nI_1 _) (by decide) rfl ?_
        refine k_goto (tg := 32) dX11_bring_149 (by decide) ?_
        simp only [upd_upd, Int32.add_zero, Int32.sub_zero, upd_id]
        exact k_wk (by repeat' (first | exact trivial | exact rfl | apply And.intro)) (ih (i + 1) L g O sum (by omega) (by rw [fB, if_neg c_67]; exact hS))

set_option maxHeartbeats 400000 in
set_option maxRecDepth 100000 in
theorem ev_X11_bring_ok {a B : Nat} {μ ν : kH} (hν : hI μ 46 0 0 = ν) (ha : a < B) (hB : B ≤ 60) (hbs : ν.1 46 43 = nI B) {N : Nat} (hN : N ≤ 480) (hsz : ν.1 46 37 = nI N) (hga : ∀ j, j < N → 0 ≤ (ν.1 65 j).toInt ∧ (ν.1 65 j).toInt < 12) : Ev kX11_bring [kr 46, ki (nI a)] μ (fun r h' => ∃ g : Int32, ν.1 68 a - g = (fB (ν.1 64) (ν.1 65) (ν.1 67 a) (12 * a) (ν.1 66) (ν.1 68 a - ν.1 71 a) (ν.1 72) N).2.1 ∧ r = ki (fB (ν.1 64) (ν.1 65) (ν.1 67 a) (12 * a) (ν.1 66) (ν.1 68 a - ν.1 71 a) (ν.1 72) N).2.2.2 ∧ h' = hI (hI (c3 ν 66 71 72 (fB (ν.1 64) (ν.1 65) (ν.1 67 a) (12 * a) (ν.1 66) (ν.1 68 a - ν.1 71 a) (ν.1 72) N).1 (upd (ν.1 71) a g) (fB (ν.1 64) (ν.1 65) (ν.1 67 a) (12 * a) (ν.1 66) (ν.1 68 a - ν.1 71 a) (ν.1 72) N).2.2.1) 46 42 (ν.1 46 42 + (fB (ν.1 64) (ν.1 65) (ν.1 67 a) (12 * a) (ν.1 66) (ν.1 68 a - ν.1 71 a) (ν.1 72) N).2.2.2)) 46 1 (kst (fB (ν.1 64) (ν.1 65) (ν.1 67 a) (12 * a) (ν.1 66) (ν.1 68 a - ν.1 71 a) (ν.1 72) N).2.2.2)) := by
  have ey := k_il1 (ν.1 46 43)
  have eB : (ν.1 46 43).toInt = B := by rw [hbs, nI_toInt (by omega)]
  have eA : (nI a).toInt = a := nI_toInt (by omega)
  refine k_ev (ls := [_, _, _, _, _, _]) (by decide) (Nat.le_of_ble_eq_true rfl) rfl ?_
  refine k_aload_n (pc' := 1) dX11_bring_0 rfl rfl ?_
  refine k_iconst (pc' := 2) (v := 0) dX11_bring_1 rfl (by decide) ?_
  refine k_putI (pc' := 5) fw_RX11_102 dX11_bring_2 rfl rfl rfl ?_
  rw [hν]
  refine k_iload_n (pc' := 6) dX11_bring_5 rfl rfl ?_
  refine k_i2l (pc' := 7) dX11_bring_6 rfl ?_
  refine k_lconst (pc' := 8) (v := 0) dX11_bring_7 rfl (by decide) ?_
  refine k_aload_n (pc' := 9) dX11_bring_8 rfl rfl ?_
  refine k_getI (pc' := 12) fl_RX11_276 dX11_bring_9 rfl rfl rfl ?_
  refine k_i2l (pc' := 13) dX11_bring_12 rfl ?_
  refine k_lconst (pc' := 14) (v := 1) dX11_bring_13 rfl (by decide) ?_
  refine k_lsub (pc' := 15) dX11_bring_14 rfl ?_
  refine k_callS3 (pc' := 18) dX11_bring_15 rfl ml_RX11_110 ⟨(Nat.le_of_ble_eq_true rfl), (Nat.le_of_ble_eq_true rfl)⟩ (Nat.le_of_ble_eq_true rfl) ev_X11_in (fun r_15 h_15 q_15 => ?_)
  obtain ⟨e_15, g_15⟩ := q_15
  rw [e_15, g_15]
  refine k_if_ne (pc' := 21) (tg := 28) dX11_bring_18 rfl (by decide) (fun c_18 => ?_) (fun c_18 => ?_)
  · skip
    refine k_iconst (pc' := 29) (v := 0) dX11_bring_28 rfl (by decide) ?_
    refine k_istore_n (pc' := 30) (k0 := 0) (ls' := [_, _, _, _, _, _]) dX11_bring_29 rfl (by decide) rfl ?_
    refine k_iconst (pc' := 31) (v := 0) dX11_bring_30 rfl (by decide) ?_
    refine k_istore_n (pc' := 32) (k0 := 0) (ls' := [_, _, _, _, _, _]) dX11_bring_31 rfl (by decide) rfl ?_
    exact k_heq (show ν = c3 ν 66 71 72 (ν.1 66) (upd (ν.1 71) a (ν.1 71 a)) (ν.1 72) by rw [upd_id, c3_id]) (lp_X11_bring (by omega) hN hsz hga N 0 _ _ _ _ (by omega) rfl)
  · exfalso
    clear hga; (try simp only [eq_self, not_true_eq_false, not_false_eq_true, k_b0, k_b1, k_c0, k_cl, k_cg, k_cle, k_cge] at *) <;> (try simp only [ey, eB, eA, eq_self, not_true_eq_false, not_false_eq_true, k_le, k_lt, k_eq, k_leL, k_ltL, k_eqL, k_il, li_m6, li_m5, li_m3, li_m2, li_m1, li_0, li_1, li_2, li_3, li_4, li_5, li_6, li_7, li_8, li_10, li_11, li_12, li_20, li_24, li_25, li_26, li_32, li_39, li_40, li_48, li_57, li_59, li_60, li_96, li_97, li_100, li_122, li_180, li_200, li_255, li_300, li_468, li_480, li_500, li_1000, li_2000, li_10000, li_10001, li_100000, li_1000000, li_100000000, lj_m1, lj_0, lj_1, lj_2, lj_3, lj_24, lj_39, lj_100, lj_500, lj_1000, lj_2000, lj_10000, lj_100000, lj_1000000, lj_100000000, lj_10, lj_20, lj_12, lj_32, lj_96] at *) <;> omega

set_option maxHeartbeats 400000 in
set_option maxRecDepth 100000 in
theorem ev_X11_bring_bad {a : Int32} {μ ν : kH} (hν : hI μ 46 0 0 = ν) (hb : ¬ (0 ≤ a ∧ a < ν.1 46 43)) : Ev kX11_bring [kr 46, ki a] μ (fun r h' => r = ki (-2) ∧ h' = hI ν 46 1 (kst (-2))) := by
  have ey := k_il1 (ν.1 46 43)
  refine k_ev (ls := [_, _, _, _, _, _]) (by decide) (Nat.le_of_ble_eq_true rfl) rfl ?_
  refine k_aload_n (pc' := 1) dX11_bring_0 rfl rfl ?_
  refine k_iconst (pc' := 2) (v := 0) dX11_bring_1 rfl (by decide) ?_
  refine k_putI (pc' := 5) fw_RX11_102 dX11_bring_2 rfl rfl rfl ?_
  rw [hν]
  refine k_iload_n (pc' := 6) dX11_bring_5 rfl rfl ?_
  refine k_i2l (pc' := 7) dX11_bring_6 rfl ?_
  refine k_lconst (pc' := 8) (v := 0) dX11_bring_7 rfl (by decide) ?_
  refine k_aload_n (pc' := 9) dX11_bring_8 rfl rfl ?_
  refine k_getI (pc' := 12) fl_RX11_276 dX11_bring_9 rfl rfl rfl ?_
  refine k_i2l (pc' := 13) dX11_bring_12 rfl ?_
  refine k_lconst (pc' := 14) (v := 1) dX11_bring_13 rfl (by decide) ?_
  refine k_lsub (pc' := 15) dX11_bring_14 rfl ?_
  refine k_callS3 (pc' := 18) dX11_bring_15 rfl ml_RX11_110 ⟨(Nat.le_of_ble_eq_true rfl), (Nat.le_of_ble_eq_true rfl)⟩ (Nat.le_of_ble_eq_true rfl) ev_X11_in (fun r_15 h_15 q_15 => ?_)
  obtain ⟨e_15, g_15⟩ := q_15
  rw [e_15, g_15]
  refine k_if_ne (pc' := 21) (tg := 28) dX11_bring_18 rfl (by decide) (fun c_18 => ?_) (fun c_18 => ?_)
  · exfalso
    (try simp only [eq_self, not_true_eq_false, not_false_eq_true, k_b0, k_b1, k_c0, k_cl, k_cg, k_cle, k_cge] at *) <;> (try simp only [ey, eq_self, not_true_eq_false, not_false_eq_true, k_le, k_lt, k_eq, k_leL, k_ltL, k_eqL, k_il, li_m6, li_m5, li_m3, li_m2, li_m1, li_0, li_1, li_2, li_3, li_4, li_5, li_6, li_7, li_8, li_10, li_11, li_12, li_20, li_24, li_25, li_26, li_32, li_39, li_40, li_48, li_57, li_59, li_60, li_96, li_97, li_100, li_122, li_180, li_200, li_255, li_300, li_468, li_480, li_500, li_1000, li_2000, li_10000, li_10001, li_100000, li_1000000, li_100000000, lj_m1, lj_0, lj_1, lj_2, lj_3, lj_24, lj_39, lj_100, lj_500, lj_1000, lj_2000, lj_10000, lj_100000, lj_1000000, lj_100000000, lj_10, lj_20, lj_12, lj_32, lj_96] at *) <;> omega
  · skip
    refine k_aload_n (pc' := 22) dX11_bring_21 rfl rfl ?_
    refine k_bipush (pc' := 24) (v := (-2)) dX11_bring_22 rfl (by decide) ?_
    refine k_callV1 (pc' := 27) dX11_bring_24 rfl ml_RX11_120 rfl rfl ⟨(Nat.le_of_ble_eq_true rfl), (Nat.le_of_ble_eq_true rfl)⟩ (Nat.le_of_ble_eq_true rfl) ev_X11_told2 (fun r_24 h_24 q_24 => ?_)
    obtain ⟨e_24, g_24⟩ := q_24
    rw [e_24, g_24]
    exact k_iret dX11_bring_27 rfl ⟨rfl, rfl⟩

