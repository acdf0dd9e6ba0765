theorem k_nle {a b : Int32} (z : ¬ a ≤ b) : b < a := by simp only [k_le, k_lt] at *; omega
theorem k_nlt {a b : Int32} (z : ¬ a < b) : b ≤ a := by simp only [k_le, k_lt] at *; omega
theorem k_len {a b : Int32} (z : a ≤ b) : ¬ b < a := by simp only [k_le, k_lt] at *; omega
theorem k_heq {t : kM} {pc : Nat} {ls st : List kV} {h h' : kH} {Φ : Nat → List kV → List kV → kH → Prop} (e : h = h') (k : At t pc ls st h' Φ) : At t pc ls st h Φ := e ▸ k
theorem h3_one (μ : kH) (k j1 j2 j3 : Nat) (v : Int32) (h12 : j1 ≠ j2) (h13 : j1 ≠ j3) (h23 : j2 ≠ j3) : hI μ k j3 v = h3 μ k j1 j2 j3 (μ.1 k j1, μ.1 k j2, v) := by
  rw [h3_eq, hI_eq, upd_id, upd_id]
theorem h3_first (μ : kH) (k j1 j2 j3 : Nat) (v : Int32) (h12 : j2 ≠ j1) (h13 : j3 ≠ j1) (h23 : j3 ≠ j2) : hI μ k j1 v = h3 μ k j1 j2 j3 (v, μ.1 k j2, μ.1 k j3) := by
  rw [h3_eq, hI_eq]
  congr 2
  funext q; simp only [upd]; (repeat' split) <;> simp_all

set_option maxHeartbeats 400000 in
set_option maxRecDepth 100000 in
theorem lp_X9_dueFrom {v ag m : Int32} {μ : kH} {N : Nat} (hN : N ≤ 20) (hsz : μ.1 16 4 = nI N) : ∀ (n i : Nat) (due : Int64) (fr : Int32), i + n = N → (due, fr) = fT (μ.1 17) (μ.1 18) (μ.1 19) (μ.1 20) v ag m i → At kX9_dueFrom 9 [kr 16, ki v, ki ag, ki m, kl due, ku, ki fr, ki (nI i)] [] μ (kRet kX9_dueFrom (fun r h' => r = kl (if v < (fT (μ.1 17) (μ.1 18) (μ.1 19) (μ.1 20) v ag m N).2 then 0 else (fT (μ.1 17) (μ.1 18) (μ.1 19) (μ.1 20) v ag m N).1) ∧ h' = μ)) := by
  intro n
  induction n with
  | zero =>
    intro i due fr hi hsum
    refine k_iload (pc' := 11) dX9_dueFrom_9 rfl rfl ?_
    refine k_aload_n (pc' := 12) dX9_dueFrom_11 rfl rfl ?_
    refine k_getI (pc' := 15) fl_RX9_24 dX9_dueFrom_12 rfl rfl rfl ?_
    refine k_icmp_ge (pc' := 18) (tg := 152) dX9_dueFrom_15 rfl (by decide) (fun c_15 => ?_) (fun c_15 => ?_)
    · skip
      refine k_iload_n (pc' := 153) dX9_dueFrom_152 rfl rfl ?_
      refine k_iload (pc' := 155) dX9_dueFrom_153 rfl rfl ?_
      refine k_icmp_ge (pc' := 158) (tg := 162) dX9_dueFrom_155 rfl (by decide) (fun c_155 => ?_) (fun c_155 => ?_)
      · skip
        refine k_lload (pc' := 164) dX9_dueFrom_162 rfl rfl ?_
        exact k_lret dX9_dueFrom_164 rfl (by rw [show i = N from by omega] at hsum; rw [← hsum]; dsimp only; (repeat' split) <;> first | exact ⟨rfl, rfl⟩ | (exfalso; (try simp only [eq_self, not_true_eq_false, not_false_eq_true, k_b0, k_b1, k_c0, k_cl, k_cg, k_cle, k_cge] at *) <;> (try simp only [eq_self, not_true_eq_false, not_false_eq_true, k_le, k_lt, k_eq, k_leL, k_ltL, k_eqL, k_il, li_m6, li_m5, li_m3, li_m2, li_m1, li_0, li_1, li_2, li_3, li_4, li_5, li_6, li_7, li_8, li_10, li_11, li_12, li_20, li_24, li_25, li_26, li_32, li_39, li_40, li_48, li_57, li_59, li_60, li_96, li_97, li_100, li_122, li_180, li_200, li_255, li_300, li_468, li_480, li_500, li_1000, li_2000, li_10000, li_10001, li_100000, li_1000000, li_100000000, lj_m1, lj_0, lj_1, lj_2, lj_3, lj_24, lj_39, lj_100, lj_500, lj_1000, lj_2000, lj_10000, lj_100000, lj_1000000, lj_100000000, lj_10, lj_20, lj_12, lj_32, lj_96] at *) <;> omega))
      · skip
        refine k_lconst (pc' := 159) (v := 0) dX9_dueFrom_158 rfl (by decide) ?_
        refine k_goto (tg := 164) dX9_dueFrom_159 (by decide) ?_
        exact k_lret dX9_dueFrom_164 rfl (by rw [show i = N from by omega] at hsum; rw [← hsum]; dsimp only; (repeat' split) <;> first | exact ⟨rfl, rfl⟩ | (exfalso; (try simp only [eq_self, not_true_eq_false, not_false_eq_true, k_b0, k_b1, k_c0, k_cl, k_cg, k_cle, k_cge] at *) <;> (try simp only [eq_self, not_true_eq_false, not_false_eq_true, k_le, k_lt, k_eq, k_leL, k_ltL, k_eqL, k_il, li_m6, li_m5, li_m3, li_m2, li_m1, li_0, li_1, li_2, li_3, li_4, li_5, li_6, li_7, li_8, li_10, li_11, li_12, li_20, li_24, li_25, li_26, li_32, li_39, li_40, li_48, li_57, li_59, li_60, li_96, li_97, li_100, li_122, li_180, li_200, li_255, li_300, li_468, li_480, li_500, li_1000, li_2000, li_10000, li_10001, li_100000, li_1000000, li_100000000, lj_m1, lj_0, lj_1, lj_2, lj_3, lj_24, lj_39, lj_100, lj_500, lj_1000, lj_2000, lj_10000, lj_100000, lj_1000000, lj_100000000, lj_10, lj_20, lj_12, lj_32, lj_96] at *) <;> omega))
    · exfalso
      exact c_15 (by rw [hsz]; first | exact Int32.le_refl _ | (rw [show i = N from by omega]; exact Int32.le_refl _))
  | succ n ih =>
    intro i due fr hi hsum
    have hlt : i < N := by omega
    refine k_iload (pc' := 11) dX9_dueFrom_9 rfl rfl ?_
    refine k_aload_n (pc' := 12) dX9_dueFrom_11 rfl rfl ?_
    refine k_getI (pc' := 15) fl_RX9_24 dX9_dueFrom_12 rfl rfl rfl ?_
    refine k_icmp_ge (pc' := 18) (tg := 152) dX9_dueFrom_15 rfl (by decide) (fun c_15 => ?_) (fun c_15 => ?_)
    · exfalso
      rw [hsz] at c_15
      exact nI_ge hlt (by omega) c_15
    · skip
      refine k_aload_n (pc' := 19) dX9_dueFrom_18 rfl rfl ?_
      refine k_getR (pc' := 22) fl_RX9_9 dX9_dueFrom_19 rfl rfl rfl ?_
      refine k_iload (pc' := 24) dX9_dueFrom_22 rfl rfl ?_
      refine k_ialdN (pc' := 25) dX9_dueFrom_24 rfl rfl (by omega) (by decide) ?_
      refine k_topi (fun y_25 e_25 => ?_)
      by_cases s_25_0 : y_25 = 0
      · rw [s_25_0] at e_25
        rw [s_25_0]
        refine k_tableIn (tg := 52) (off := 27) dX9_dueFrom_25 (by decide) (by decide) (by decide) (by decide) ?_
        refine k_lload (pc' := 54) dX9_dueFrom_52 rfl rfl ?_
        refine k_iload_n (pc' := 55) dX9_dueFrom_54 rfl rfl ?_
        refine k_aload_n (pc' := 56) dX9_dueFrom_55 rfl rfl ?_
        refine k_getR (pc' := 59) fl_RX9_15 dX9_dueFrom_56 rfl rfl rfl ?_
        refine k_iload (pc' := 61) dX9_dueFrom_59 rfl rfl ?_
        refine k_ialdN (pc' := 62) dX9_dueFrom_61 rfl rfl (by omega) (by decide) ?_
        refine k_aload_n (pc' := 63) dX9_dueFrom_62 rfl rfl ?_
        refine k_getR (pc' := 66) fl_RX9_18 dX9_dueFrom_63 rfl rfl rfl ?_
        refine k_iload (pc' := 68) dX9_dueFrom_66 rfl rfl ?_
        refine k_ialdN (pc' := 69) dX9_dueFrom_68 rfl rfl (by omega) (by decide) ?_
        refine k_callS3 (pc' := 72) dX9_dueFrom_69 rfl ml_RX9_38 ⟨(Nat.le_of_ble_eq_true rfl), (Nat.le_of_ble_eq_true rfl)⟩ (Nat.le_of_ble_eq_true rfl) ev_X9_partOf (fun r_69 h_69 q_69 => ?_)
        obtain ⟨e_69, g_69⟩ := q_69
        rw [e_69, g_69]
        refine k_ladd (pc' := 73) dX9_dueFrom_72 rfl ?_
        refine k_lstore (pc' := 75) (k0 := 0) (ls' := [_, _, _, _, _, _, _, _]) dX9_dueFrom_73 rfl (by decide) rfl ?_
        refine k_goto (tg := 146) dX9_dueFrom_75 (by decide) ?_
        refine k_iinc (pc' := 149) (v := nI (_ + 1)) (ls' := [_, _, _, _, _, _, _, _]) dX9_dueFrom_146 rfl rfl (nI_1 _) (by decide) rfl ?_
        refine k_goto (tg := 9) dX9_dueFrom_149 (by decide) ?_
        exact ih (i + 1) _ _ (by omega) (by rw [fT, ← hsum]; dsimp only; (repeat' split) <;> first | rfl | (exfalso; (try simp only [eq_self, not_true_eq_false, not_false_eq_true, k_b0, k_b1, k_c0, k_cl, k_cg, k_cle, k_cge] at *) <;> (try simp only [eq_self, not_true_eq_false, not_false_eq_true, k_le, k_lt, k_eq, k_leL, k_ltL, k_eqL, k_il, li_m6, li_m5, li_m3, li_m2, li_m1, li_0, li_1, li_2, li_3, li_4, li_5, li_6, li_7, li_8, li_10, li_11, li_12, li_20, li_24, li_25, li_26, li_32, li_39, li_40, li_48, li_57, li_59, li_60, li_96, li_97, li_100, li_122, li_180, li_200, li_255, li_300, li_468, li_480, li_500, li_1000, li_2000, li_10000, li_10001, li_100000, li_1000000, li_100000000, lj_m1, lj_0, lj_1, lj_2, lj_3, lj_24, lj_39, lj_100, lj_500, lj_1000, lj_2000, lj_10000, lj_100000, lj_1000000, lj_100000000, lj_10, lj_20, lj_12, lj_32, lj_96] at *) <;> omega))
      by_cases s_25_1 : y_25 = 1
      · rw [s_25_1] at e_25
        rw [s_25_1]
        refine k_tableIn (tg := 78) (off := 53) dX9_dueFrom_25 (by decide) (by decide) (by decide) (by decide) ?_
        refine k_lload (pc' := 80) dX9_dueFrom_78 rfl rfl ?_
        refine k_iload_n (pc' := 81) dX9_dueFrom_80 rfl rfl ?_
        refine k_aload_n (pc' := 82) dX9_dueFrom_81 rfl rfl ?_
        refine k_getR (pc' := 85) fl_RX9_21 dX9_dueFrom_82 rfl rfl rfl ?_
        refine k_iload (pc' := 87) dX9_dueFrom_85 rfl rfl ?_
        refine k_ialdN (pc' := 88) dX9_dueFrom_87 rfl rfl (by omega) (by decide) ?_
        refine k_icmp_lt (pc' := 91) (tg := 112) dX9_dueFrom_88 rfl (by decide) (fun c_88 => ?_) (fun c_88 => ?_)
        · skip
          refine k_lconst (pc' := 113) (v := 0) dX9_dueFrom_112 rfl (by decide) ?_
          refine k_ladd (pc' := 114) dX9_dueFrom_113 rfl ?_
          refine k_lstore (pc' := 116) (k0 := 0) (ls' := [_, _, _, _, _, _, _, _]) dX9_dueFrom_114 rfl (by decide) rfl ?_
          refine k_goto (tg := 146) dX9_dueFrom_116 (by decide) ?_
          refine k_iinc (pc' := 149) (v := nI (_ + 1)) (ls' := [_, _, _, _, _, _, _, _]) dX9_dueFrom_146 rfl rfl (nI_1 _) (by decide) rfl ?_
          refine k_goto (tg := 9) dX9_dueFrom_149 (by decide) ?_
          exact ih (i + 1) _ _ (by omega) (by rw [fT, ← hsum]; dsimp only; (repeat' split) <;> first | rfl | (exfalso; (try simp only [eq_self, not_true_eq_false, not_false_eq_true, k_b0, k_b1, k_c0, k_cl, k_cg, k_cle, k_cge] at *) <;> (try simp only [eq_self, not_true_eq_false, not_false_eq_true, k_le, k_lt, k_eq, k_leL, k_ltL, k_eqL, k_il, li_m6, li_m5, li_m3, li_m2, li_m1, li_0, li_1, li_2, li_3, li_4, li_5, li_6, li_7, li_8, li_10, li_11, li_12, li_20, li_24, li_25, li_26, li_32, li_39, li_40, li_48, li_57, li_59, li_60, li_96, li_97, li_100, li_122, li_180, li_200, li_255, li_300, li_468, li_480, li_500, li_1000, li_2000, li_10000, li_10001, li_100000, li_1000000, li_100000000, lj_m1, lj_0, lj_1, lj_2, lj_3, lj_24, lj_39, lj_100, lj_500, lj_1000, lj_2000, lj_10000, lj_100000, lj_1000000, lj_100000000, lj_10, lj_20, lj_12, lj_32, lj_96] at *) <;> omega))
        · skip
          refine k_iload_n (pc' := 92) dX9_dueFrom_91 rfl rfl ?_
          refine k_aload_n (pc' := 93) dX9_dueFrom_92 rfl rfl ?_
          refine k_getR (pc' := 96) fl_RX9_15 dX9_dueFrom_93 rfl rfl rfl ?_
          refine k_iload (pc' := 98) dX9_dueFrom_96 rfl rfl ?_
          refine k_ialdN (pc' := 99) dX9_dueFrom_98 rfl rfl (by omega) (by decide) ?_
          refine k_aload_n (pc' := 100) dX9_dueFrom_99 rfl rfl ?_
          refine k_getR (pc' := 103) fl_RX9_18 dX9_dueFrom_100 rfl rfl rfl ?_
          refine k_iload (pc' := 105) dX9_dueFrom_103 rfl rfl ?_
          refine k_ialdN (pc' := 106) dX9_dueFrom_105 rfl rfl (by omega) (by decide) ?_
          refine k_callS3 (pc' := 109) dX9_dueFrom_106 rfl ml_RX9_42 ⟨(Nat.le_of_ble_eq_true rfl), (Nat.le_of_ble_eq_true rfl)⟩ (Nat.le_of_ble_eq_true rfl) ev_X9_eachOf (fun r_106 h_106 q_106 => ?_)
          obtain ⟨e_106, g_106⟩ := q_106
          rw [e_106, g_106]
          refine k_goto (tg := 113) dX9_dueFrom_109 (by decide) ?_
          refine k_ladd (pc' := 114) dX9_dueFrom_113 rfl ?_
          refine k_lstore (pc' := 116) (k0 := 0) (ls' := [_, _, _, _, _, _, _, _]) dX9_dueFrom_114 rfl (by decide) rfl ?_
          refine k_goto (tg := 146) dX9_dueFrom_116 (by decide) ?_
          refine k_iinc (pc' := 149) (v := nI (_ + 1)) (ls' := [_, _, _, _, _, _, _, _]) dX9_dueFrom_146 rfl rfl (nI_1 _) (by decide) rfl ?_
          refine k_goto (tg := 9) dX9_dueFrom_149 (by decide) ?_
          exact ih (i + 1) _ _ (by omega) (by rw [fT, ← hsum]; dsimp only; (repeat' split) <;> first | rfl | (exfalso; (try simp only [eq_self, not_true_eq_false, not_false_eq_true, k_b0, k_b1, k_c0, k_cl, k_cg, k_cle, k_cge] at *) <;> (try simp only [eq_self, not_true_eq_false, not_false_eq_true, k_le, k_lt, k_eq, k_leL, k_ltL, k_eqL, k_il, li_m6, li_m5, li_m3, li_m2, li_m1, li_0, li_1, li_2, li_3, li_4, li_5, li_6, li_7, li_8, li_10, li_11, li_12, li_20, li_24, li_25, li_26, li_32, li_39, li_40, li_48, li_57, li_59, li_60, li_96, li_97, li_100, li_122, li_180, li_200, li_255, li_300, li_468, li_480, li_500, li_1000, li_2000, li_10000, li_10001, li_100000, li_1000000, li_100000000, lj_m1, lj_0, lj_1, lj_2, lj_3, lj_24, lj_39, lj_100, lj_500, lj_1000, lj_2000, lj_10000, lj_100000, lj_1000000, lj_100000000, lj_10, lj_20, lj_12, lj_32, lj_96] at *) <;> omega))
      by_cases s_25_2 : y_25 = 2
      · rw [s_25_2] at e_25
        rw [s_25_2]
        refine k_tableIn (tg := 119) (off := 94) dX9_dueFrom_25 (by decide) (by decide) (by decide) (by decide) ?_
        refine k_aload_n (pc' := 120) dX9_dueFrom_119 rfl rfl ?_
        refine k_getR (pc' := 123) fl_RX9_15 dX9_dueFrom_120 rfl rfl rfl ?_
        refine k_iload (pc' := 125) dX9_dueFrom_123 rfl rfl ?_
        refine k_ialdN (pc' := 126) dX9_dueFrom_125 rfl rfl (by omega) (by decide) ?_
        refine k_istore (pc' := 128) (k0 := 0) (ls' := [_, _, _, _, _, _, _, _]) dX9_dueFrom_126 rfl (by decide) rfl ?_
        refine k_goto (tg := 146) dX9_dueFrom_128 (by decide) ?_
        refine k_iinc (pc' := 149) (v := nI (_ + 1)) (ls' := [_, _, _, _, _, _, _, _]) dX9_dueFrom_146 rfl rfl (nI_1 _) (by decide) rfl ?_
        refine k_goto (tg := 9) dX9_dueFrom_149 (by decide) ?_
        exact ih (i + 1) _ _ (by omega) (by rw [fT, ← hsum]; dsimp only; (repeat' split) <;> first | rfl | (exfalso; (try simp only [eq_self, not_true_eq_false, not_false_eq_true, k_b0, k_b1, k_c0, k_cl, k_cg, k_cle, k_cge] at *) <;> (try simp only [eq_self, not_true_eq_false, not_false_eq_true, k_le, k_lt, k_eq, k_leL, k_ltL, k_eqL, k_il, li_m6, li_m5, li_m3, li_m2, li_m1, li_0, li_1, li_2, li_3, li_4, li_5, li_6, li_7, li_8, li_10, li_11, li_12, li_20, li_24, li_25, li_26, li_32, li_39, li_40, li_48, li_57, li_59, li_60, li_96, li_97, li_100, li_122, li_180, li_200, li_255, li_300, li_468, li_480, li_500, li_1000, li_2000, li_10000, li_10001, li_100000, li_1000000, li_100000000, lj_m1, lj_0, lj_1, lj_2, lj_3, lj_24, lj_39, lj_100, lj_500, lj_1000, lj_2000, lj_10000, lj_100000, lj_1000000, lj_100000000, lj_10, lj_20, lj_12, lj_32, lj_96] at *) <;> omega))
      refine k_tableOut (tg := 131) dX9_dueFrom_25 (by simp only [eq_self, not_true_eq_false, not_false_eq_true, k_le, k_lt, k_eq, k_leL, k_ltL, k_eqL, k_il, li_m6, li_m5, li_m3, li_m2, li_m1, li_0, li_1, li_2, li_3, li_4, li_5, li_6, li_7, li_8, li_10, li_11, li_12, li_20, li_24, li_25, li_26, li_32, li_39, li_40, li_48, li_57, li_59, li_60, li_96, li_97, li_100, li_122, li_180, li_200, li_255, li_300, li_468, li_480, li_500, li_1000, li_2000, li_10000, li_10001, li_100000, li_1000000, li_100000000, lj_m1, lj_0, lj_1, lj_2, lj_3, lj_24, lj_39, lj_100, lj_500, lj_1000, lj_2000, lj_10000, lj_100000, lj_1000000, lj_100000000, lj_10, lj_20, lj_12, lj_32, lj_96] at *; omega) (by decide) ?_
      refine k_lload (pc' := 133) dX9_dueFrom_131 rfl rfl ?_
      refine k_aload_n (pc' := 134) dX9_dueFrom_133 rfl rfl ?_
      refine k_getR (pc' := 137) fl_RX9_15 dX9_dueFrom_134 rfl rfl rfl ?_
      refine k_iload (pc' := 139) dX9_dueFrom_137 rfl rfl ?_
      refine k_ialdN (pc' := 140) dX9_dueFrom_139 rfl rfl (by omega) (by decide) ?_
      refine k_i2l (pc' := 141) dX9_dueFrom_140 rfl ?_
      refine k_mminL (pc' := 144) dX9_dueFrom_141 rfl ks_minL_RX9_45 ⟨(Nat.le_of_ble_eq_true rfl), (Nat.le_of_ble_eq_true rfl)⟩ (Nat.le_of_ble_eq_true rfl) ?_
      refine k_lstore (pc' := 146) (k0 := 0) (ls' := [_, _, _, _, _, _, _, _]) dX9_dueFrom_144 rfl (by decide) rfl ?_
      refine k_iinc (pc' := 149) (v := nI (_ + 1)) (ls' := [_, _, _, _, _, _, _, _]) dX9_dueFrom_146 rfl rfl (nI_1 _) (by decide) rfl ?_
      refine k_goto (tg := 9) dX9_dueFrom_149 (by decide) ?_
      exact ih (i + 1) _ _ (by omega) (by rw [fT, ← hsum]; dsimp only; (repeat' split) <;> first | rfl | (exfalso; (try simp only [eq_self, not_true_eq_false, not_false_eq_true, k_b0, k_b1, k_c0, k_cl, k_cg, k_cle, k_cge] at *) <;> (try simp only [eq_self, not_true_eq_false, not_false_eq_true, k_le, k_lt, k_eq, k_leL, k_ltL, k_eqL, k_il, li_m6, li_m5, li_m3, li_m2, li_m1, li_0, li_1, li_2, li_3, li_4, li_5, li_6, li_7, li_8, li_10, li_11, li_12, li_20, li_24, li_25, li_26, li_32, li_39, li_40, li_48, li_57, li_59, li_60, li_96, li_97, li_100, li_122, li_180, li_200, li_255, li_300, li_468, li_480, li_500, li_1000, li_2000, li_10000, li_10001, li_100000, li_1000000, li_100000000, lj_m1, lj_0, lj_1, lj_2, lj_3, lj_24, lj_39, lj_100, lj_500, lj_1000, lj_2000, lj_10000, lj_100000, lj_1000000, lj_100000000, lj_10, lj_20, lj_12, lj_32, lj_96] at *) <;> omega))

set_option maxHeartbeats 400000 in
set_option maxRecDepth 100000 in
theorem ev_X9_dueFrom {v ag m : Int32} {μ : kH} {N : Nat} (hN : N ≤ 20) (hsz : μ.1 16 4 = nI N) : Ev kX9_dueFrom [kr 16, ki v, ki ag, ki m] μ (fun r h' => r = kl (if v < (fT (μ.1 17) (μ.1 18) (μ.1 19) (μ.1 20) v ag m N).2 then 0 else (fT (μ.1 17) (μ.1 18) (μ.1 19) (μ.1 20) v ag m N).1) ∧ h' = μ) := by
  refine k_ev (ls := [_, _, _, _, _, _, _, _]) (by decide) (Nat.le_of_ble_eq_true rfl) rfl ?_
  refine k_lconst (pc' := 1) (v := 0) dX9_dueFrom_0 rfl (by decide) ?_
  refine k_lstore (pc' := 3) (k0 := 0) (ls' := [_, _, _, _, _, _, _, _]) dX9_dueFrom_1 rfl (by decide) rfl ?_
  refine k_iconst (pc' := 4) (v := 0) dX9_dueFrom_3 rfl (by decide) ?_
  refine k_istore (pc' := 6) (k0 := 0) (ls' := [_, _, _, _, _, _, _, _]) dX9_dueFrom_4 rfl (by decide) rfl ?_
  refine k_iconst (pc' := 7) (v := 0) dX9_dueFrom_6 rfl (by decide) ?_
  refine k_istore (pc' := 9) (k0 := 0) (ls' := [_, _, _, _, _, _, _, _]) dX9_dueFrom_7 rfl (by decide) rfl ?_
  exact lp_X9_dueFrom hN hsz N 0 0 0 (by omega) rfl

set_option maxHeartbeats 400000 in
set_option maxRecDepth 100000 in
theorem lp_X11_titheOf {v ag m : Int32} {μ : kH} {N : Nat} (hN : N ≤ 20) (hsz : μ.1 46 19 = nI N) (hq : ∀ j, j < N → (μ.1 56 j = 0 → 1 ≤ μ.1 58 j) ∧ (μ.1 56 j = 1 → 1 ≤ μ.1 57 j)) : ∀ (n i : Nat) (due : Int64) (fr : Int32), i + n = N → (due, fr) = fT (μ.1 56) (μ.1 57) (μ.1 58) (μ.1 59) v ag m i → At kX11_titheOf 9 [kr 46, ki v, ki ag, ki m, kl due, ku, ki fr, ki (nI i)] [] μ (kRet kX11_titheOf (fun r h' => r = kl (if v < (fT (μ.1 56) (μ.1 57) (μ.1 58) (μ.1 59) v ag m N).2 then 0 else (fT (μ.1 56) (μ.1 57) (μ.1 58) (μ.1 59) v ag m N).1) ∧ h' = μ)) := by
  intro n
  induction n with
  | zero =>
    intro i due fr hi hsum
    refine k_iload (pc' := 11) dX11_titheOf_9 rfl rfl ?_
    refine k_aload_n (pc' := 12) dX11_titheOf_11 rfl rfl ?_
    refine k_getI (pc' := 15) fl_RX11_235 dX11_titheOf_12 rfl rfl rfl ?_
    refine k_icmp_ge (pc' := 18) (tg := 169) dX11_titheOf_15 rfl (by decide) (fun c_15 => ?_) (fun c_15 => ?_)
    · skip
      refine k_iload_n (pc' := 170) dX11_titheOf_169 rfl rfl ?_
      refine k_iload (pc' := 172) dX11_titheOf_170 rfl rfl ?_
      refine k_icmp_ge (pc' := 175) (tg := 179) dX11_titheOf_172 rfl (by decide) (fun c_172 => ?_) (fun c_172 => ?_)
      · skip
        refine k_lload (pc' := 181) dX11_titheOf_179 rfl rfl ?_
        exact k_lret dX11_titheOf_181 rfl (by rw [show i = N from by omega] at hsum; rw [← hsum]; dsimp only; (repeat' split) <;> first | exact ⟨rfl, rfl⟩ | (exfalso; (try simp only [eq_self, not_true_eq_false, not_false_eq_true, k_b0, k_b1, k_c0, k_cl, k_cg, k_cle, k_cge] at *) <;> (try simp only [eq_self, not_true_eq_false, not_false_eq_true, k_le, k_lt, k_eq, k_leL, k_ltL, k_eqL, k_il, li_m6, li_m5, li_m3, li_m2, li_m1, li_0, li_1, li_2, li_3, li_4, li_5, li_6, li_7, li_8, li_10, li_11, li_12, li_20, li_24, li_25, li_26, li_32, li_39, li_40, li_48, li_57, li_59, li_60, li_96, li_97, li_100, li_122, li_180, li_200, li_255, li_300, li_468, li_480, li_500, li_1000, li_2000, li_10000, li_10001, li_100000, li_1000000, li_100000000, lj_m1, lj_0, lj_1, lj_2, lj_3, lj_24, lj_39, lj_100, lj_500, lj_1000, lj_2000, lj_10000, lj_100000, lj_1000000, lj_100000000, lj_10, lj_20, lj_12, lj_32, lj_96] at *) <;> omega))
      · skip
        refine k_lconst (pc' := 176) (v := 0) dX11_titheOf_175 rfl (by decide) ?_
        refine k_goto (tg := 181) dX11_titheOf_176 (by decide) ?_
        exact k_lret dX11_titheOf_181 rfl (by rw [show i = N from by omega] at hsum; rw [← hsum]; dsimp only; (repeat' split) <;> first | exact ⟨rfl, rfl⟩ | (exfalso; (try simp only [eq_self, not_true_eq_false, not_false_eq_true, k_b0, k_b1, k_c0, k_cl, k_cg, k_cle, k_cge] at *) <;> (try simp only [eq_self, not_true_eq_false, not_false_eq_true, k_le, k_lt, k_eq, k_leL, k_ltL, k_eqL, k_il, li_m6, li_m5, li_m3, li_m2, li_m1, li_0, li_1, li_2, li_3, li_4, li_5, li_6, li_7, li_8, li_10, li_11, li_12, li_20, li_24, li_25, li_26, li_32, li_39, li_40, li_48, li_57, li_59, li_60, li_96, li_97, li_100, li_122, li_180, li_200, li_255, li_300, li_468, li_480, li_500, li_1000, li_2000, li_10000, li_10001, li_100000, li_1000000, li_100000000, lj_m1, lj_0, lj_1, lj_2, lj_3, lj_24, lj_39, lj_100, lj_500, lj_1000, lj_2000, lj_10000, lj_100000, lj_1000000, lj_100000000, lj_10, lj_20, lj_12, lj_32, lj_96] at *) <;> omega))
    · exfalso
      exact c_15 (by rw [hsz]; first | exact Int32.le_refl _ | (rw [show i = N from by omega]; exact Int32.le_refl _))
  | succ n ih =>
    intro i due fr hi hsum
    have hlt : i < N := by omega
    refine k_iload (pc' := 11) dX11_titheOf_9 rfl rfl ?_
    refine k_aload_n (pc' := 12) dX11_titheOf_11 rfl rfl ?_
    refine k_getI (pc' := 15) fl_RX11_235 dX11_titheOf_12 rfl rfl rfl ?_
    refine k_icmp_ge (pc' := 18) (tg := 169) dX11_titheOf_15 rfl (by decide) (fun c_15 => ?_) (fun c_15 => ?_)
    · exfalso
      rw [hsz] at c_15
      exact nI_ge hlt (by omega) c_15
    · skip
      refine k_aload_n (pc' := 19) dX11_titheOf_18 rfl rfl ?_
      refine k_getR (pc' := 22) fl_RX11_44 dX11_titheOf_19 rfl rfl rfl ?_
      refine k_iload (pc' := 24) dX11_titheOf_22 rfl rfl ?_
      refine k_ialdN (pc' := 25) dX11_titheOf_24 rfl rfl (by omega) (by decide) ?_
      refine k_topi (fun y_25 e_25 => ?_)
      by_cases s_25_0 : y_25 = 0
      · rw [s_25_0] at e_25
        rw [s_25_0]
        refine k_tableIn (tg := 52) (off := 27) dX11_titheOf_25 (by decide) (by decide) (by decide) (by decide) ?_
        refine k_lload (pc' := 54) dX11_titheOf_52 rfl rfl ?_
        refine k_iload_n (pc' := 55) dX11_titheOf_54 rfl rfl ?_
        refine k_i2l (pc' := 56) dX11_titheOf_55 rfl ?_
        refine k_aload_n (pc' := 57) dX11_titheOf_56 rfl rfl ?_
        refine k_getR (pc' := 60) fl_RX11_47 dX11_titheOf_57 rfl rfl rfl ?_
        refine k_iload (pc' := 62) dX11_titheOf_60 rfl rfl ?_
        refine k_ialdN (pc' := 63) dX11_titheOf_62 rfl rfl (by omega) (by decide) ?_
        refine k_i2l (pc' := 64) dX11_titheOf_63 rfl ?_
        refine k_lmul (pc' := 65) dX11_titheOf_64 rfl ?_
        refine k_aload_n (pc' := 66) dX11_titheOf_65 rfl rfl ?_
        refine k_getR (pc' := 69) fl_RX11_50 dX11_titheOf_66 rfl rfl rfl ?_
        refine k_iload (pc' := 71) dX11_titheOf_69 rfl rfl ?_
        refine k_ialdN (pc' := 72) dX11_titheOf_71 rfl rfl (by omega) (by decide) ?_
        refine k_i2l (pc' := 73) dX11_titheOf_72 rfl ?_
        refine k_ldiv (pc' := 74) dX11_titheOf_73 rfl (by have q1 := (hq i (by omega)).1 e_25.symm; clear hq; (try simp only [eq_self, not_true_eq_false, not_false_eq_true, k_b0, k_b1, k_c0, k_cl, k_cg, k_cle, k_cge] at *) <;> (try simp only [eq_self, not_true_eq_false, not_false_eq_true, k_le, k_lt, k_eq, k_leL, k_ltL, k_eqL, k_il, li_m6, li_m5, li_m3, li_m2, li_m1, li_0, li_1, li_2, li_3, li_4, li_5, li_6, li_7, li_8, li_10, li_11, li_12, li_20, li_24, li_25, li_26, li_32, li_39, li_40, li_48, li_57, li_59, li_60, li_96, li_97, li_100, li_122, li_180, li_200, li_255, li_300, li_468, li_480, li_500, li_1000, li_2000, li_10000, li_10001, li_100000, li_1000000, li_100000000, lj_m1, lj_0, lj_1, lj_2, lj_3, lj_24, lj_39, lj_100, lj_500, lj_1000, lj_2000, lj_10000, lj_100000, lj_1000000, lj_100000000, lj_10, lj_20, lj_12, lj_32, lj_96] at *) <;> omega) ?_
        refine k_ladd (pc' := 75) dX11_titheOf_74 rfl ?_
        refine k_lstore (pc' := 77) (k0 := 0) (ls' := [_, _, _, _, _, _, _, _]) dX11_titheOf_75 rfl (by decide) rfl ?_
        refine k_goto (tg := 163) dX11_titheOf_77 (by decide) ?_
        refine k_iinc (pc' := 166) (v := nI (_ + 1)) (ls' := [_, _, _, _, _, _, _, _]) dX11_titheOf_163 rfl rfl (nI_1 _) (by decide) rfl ?_
        refine k_goto (tg := 9) dX11_titheOf_166 (by decide) ?_
        have q1 := hq i hlt
        exact ih (i + 1) _ _ (by omega) (by rw [fT, ← hsum]; clear hq ih; dsimp only; (repeat' split) <;> first | rfl | (exfalso; (try simp only [eq_self, not_true_eq_false, not_false_eq_true, k_b0, k_b1, k_c0, k_cl, k_cg, k_cle, k_cge] at *) <;> (try simp only [eq_self, not_true_eq_false, not_false_eq_true, k_le, k_lt, k_eq, k_leL, k_ltL, k_eqL, k_il, li_m6, li_m5, li_m3, li_m2, li_m1, li_0, li_1, li_2, li_3, li_4, li_5, li_6, li_7, li_8, li_10, li_11, li_12, li_20, li_24, li_25, li_26, li_32, li_39, li_40, li_48, li_57, li_59, li_60, li_96, li_97, li_100, li_122, li_180, li_200, li_255, li_300, li_468, li_480, li_500, li_1000, li_2000, li_10000, li_10001, li_100000, li_1000000, li_100000000, lj_m1, lj_0, lj_1, lj_2, lj_3, lj_24, lj_39, lj_100, lj_500, lj_1000, lj_2000, lj_10000, lj_100000, lj_1000000, lj_100000000, lj_10, lj_20, lj_12, lj_32, lj_96] at *) <;> omega))
      by_cases s_25_1 : y_25 = 1
      · rw [s_25_1] at e_25
        rw [s_25_1]
        refine k_tableIn (tg := 80) (off := 55) dX11_titheOf_25 (by decide) (by decide) (by decide) (by decide) ?_
        refine k_lload (pc' := 82) dX11_titheOf_80 rfl rfl ?_
        refine k_iload_n (pc' := 83) dX11_titheOf_82 rfl rfl ?_
        refine k_aload_n (pc' := 84) dX11_titheOf_83 rfl rfl ?_
        refine k_getR (pc' := 87) fl_RX11_53 dX11_titheOf_84 rfl rfl rfl ?_
        refine k_iload (pc' := 89) dX11_titheOf_87 rfl rfl ?_
        refine k_ialdN (pc' := 90) dX11_titheOf_89 rfl rfl (by omega) (by decide) ?_
        refine k_icmp_ge (pc' := 93) (tg := 97) dX11_titheOf_90 rfl (by decide) (fun c_90 => ?_) (fun c_90 => ?_)
        · skip
          refine k_iload_n (pc' := 98) dX11_titheOf_97 rfl rfl ?_
          refine k_aload_n (pc' := 99) dX11_titheOf_98 rfl rfl ?_
          refine k_getR (pc' := 102) fl_RX11_47 dX11_titheOf_99 rfl rfl rfl ?_
          refine k_iload (pc' := 104) dX11_titheOf_102 rfl rfl ?_
          refine k_ialdN (pc' := 105) dX11_titheOf_104 rfl rfl (by omega) (by decide) ?_
          refine k_idiv (pc' := 106) dX11_titheOf_105 rfl (by have q1 := (hq i (by omega)).2 e_25.symm; clear hq; (try simp only [eq_self, not_true_eq_false, not_false_eq_true, k_b0, k_b1, k_c0, k_cl, k_cg, k_cle, k_cge] at *) <;> (try simp only [eq_self, not_true_eq_false, not_false_eq_true, k_le, k_lt, k_eq, k_leL, k_ltL, k_eqL, k_il, li_m6, li_m5, li_m3, li_m2, li_m1, li_0, li_1, li_2, li_3, li_4, li_5, li_6, li_7, li_8, li_10, li_11, li_12, li_20, li_24, li_25, li_26, li_32, li_39, li_40, li_48, li_57, li_59, li_60, li_96, li_97, li_100, li_122, li_180, li_200, li_255, li_300, li_468, li_480, li_500, li_1000, li_2000, li_10000, li_10001, li_100000, li_1000000, li_100000000, lj_m1, lj_0, lj_1, lj_2, lj_3, lj_24, lj_39, lj_100, lj_500, lj_1000, lj_2000, lj_10000, lj_100000, lj_1000000, lj_100000000, lj_10, lj_20, lj_12, lj_32, lj_96] at *) <;> omega) ?_
          refine k_i2l (pc' := 107) dX11_titheOf_106 rfl ?_
          refine k_aload_n (pc' := 108) dX11_titheOf_107 rfl rfl ?_
          refine k_getR (pc' := 111) fl_RX11_50 dX11_titheOf_108 rfl rfl rfl ?_
          refine k_iload (pc' := 113) dX11_titheOf_111 rfl rfl ?_
          refine k_ialdN (pc' := 114) dX11_titheOf_113 rfl rfl (by omega) (by decide) ?_
          refine k_i2l (pc' := 115) dX11_titheOf_114 rfl ?_
          refine k_lmul (pc' := 116) dX11_titheOf_115 rfl ?_
          refine k_ladd (pc' := 117) dX11_titheOf_116 rfl ?_
          refine k_lstore (pc' := 119) (k0 := 0) (ls' := [_, _, _, _, _, _, _, _]) dX11_titheOf_117 rfl (by decide) rfl ?_
          refine k_goto (tg := 163) dX11_titheOf_119 (by decide) ?_
          refine k_iinc (pc' := 166) (v := nI (_ + 1)) (ls' := [_, _, _, _, _, _, _, _]) dX11_titheOf_163 rfl rfl (nI_1 _) (by decide) rfl ?_
          refine k_goto (tg := 9) dX11_titheOf_166 (by decide) ?_
          have q1 := hq i hlt
          exact ih (i + 1) _ _ (by omega) (by rw [fT, ← hsum]; clear hq ih; dsimp only; (repeat' split) <;> first | rfl | (exfalso; (try simp only [eq_self, not_true_eq_false, not_false_eq_true, k_b0, k_b1, k_c0, k_cl, k_cg, k_cle, k_cge] at *) <;> (try simp only [eq_self, not_true_eq_false, not_false_eq_true, k_le, k_lt, k_eq, k_leL, k_ltL, k_eqL, k_il, li_m6, li_m5, li_m3, li_m2, li_m1, li_0, li_1, li_2, li_3, li_4, li_5, li_6, li_7, li_8, li_10, li_11, li_12, li_20, li_24, li_25, li_26, li_32, li_39, li_40, li_48, li_57, li_59, li_60, li_96, li_97, li_100, li_122, li_180, li_200, li_255, li_300, li_468, li_480, li_500, li_1000, li_2000, li_10000, li_10001, li_100000, li_1000000, li_100000000, lj_m1, lj_0, lj_1, lj_2, lj_3, lj_24, lj_39, lj_100, lj_500, lj_1000, lj_2000, lj_10000, lj_100000, lj_1000000, lj_100000000, lj_10, lj_20, lj_12, lj_32, lj_96] at *) <;> omega))
        · skip
          refine k_lconst (pc' := 94) (v := 0) dX11_titheOf_93 rfl (by decide) ?_
          refine k_goto (tg := 116) dX11_titheOf_94 (by decide) ?_
          refine k_ladd (pc' := 117) dX11_titheOf_116 rfl ?_
          refine k_lstore (pc' := 119) (k0 := 0) (ls' := [_, _, _, _, _, _, _, _]) dX11_titheOf_117 rfl (by decide) rfl ?_
          refine k_goto (tg := 163) dX11_titheOf_119 (by decide) ?_
          refine k_iinc (pc' := 166) (v := nI (_ + 1)) (ls' := [_, _, _, _, _, _, _, _]) dX11_titheOf_163 rfl rfl (nI_1 _) (by decide) rfl ?_
          refine k_goto (tg := 9) dX11_titheOf_166 (by decide) ?_
          have q1 := hq i hlt
          exact ih (i + 1) _ _ (by omega) (by rw [fT, ← hsum]; clear hq ih; dsimp only; (repeat' split) <;> first | rfl | (exfalso; (try simp only [eq_self, not_true_eq_false, not_false_eq_true, k_b0, k_b1, k_c0, k_cl, k_cg, k_cle, k_cge] at *) <;> (try simp only [eq_self, not_true_eq_false, not_false_eq_true, k_le, k_lt, k_eq, k_leL, k_ltL, k_eqL, k_il, li_m6, li_m5, li_m3, li_m2, li_m1, li_0, li_1, li_2, li_3, li_4, li_5, li_6, li_7, li_8, li_10, li_11, li_12, li_20, li_24, li_25, li_26, li_32, li_39, li_40, li_48, li_57, li_59, li_60, li_96, li_97, li_100, li_122, li_180, li_200, li_255, li_300, li_468, li_480, li_500, li_1000, li_2000, li_10000, li_10001, li_100000, li_1000000, li_100000000, lj_m1, lj_0, lj_1, lj_2, lj_3, lj_24, lj_39, lj_100, lj_500, lj_1000, lj_2000, lj_10000, lj_100000, lj_1000000, lj_100000000, lj_10, lj_20, lj_12, lj_32, lj_96] at *) <;> omega))
      by_cases s_25_2 : y_25 = 2
      · rw [s_25_2] at e_25
        rw [s_25_2]
        refine k_tableIn (tg := 122) (off := 97) dX11_titheOf_25 (by decide) (by decide) (by decide) (by decide) ?_
        refine k_aload_n (pc' := 123) dX11_titheOf_122 rfl rfl ?_
        refine k_getR (pc' := 126) fl_RX11_47 dX11_titheOf_123 rfl rfl rfl ?_
        refine k_iload (pc' := 128) dX11_titheOf_126 rfl rfl ?_
        refine k_ialdN (pc' := 129) dX11_titheOf_128 rfl rfl (by omega) (by decide) ?_
        refine k_istore (pc' := 131) (k0 := 0) (ls' := [_, _, _, _, _, _, _, _]) dX11_titheOf_129 rfl (by decide) rfl ?_
        refine k_goto (tg := 163) dX11_titheOf_131 (by decide) ?_
        refine k_iinc (pc' := 166) (v := nI (_ + 1)) (ls' := [_, _, _, _, _, _, _, _]) dX11_titheOf_163 rfl rfl (nI_1 _) (by decide) rfl ?_
        refine k_goto (tg := 9) dX11_titheOf_166 (by decide) ?_
        have q1 := hq i hlt
        exact ih (i + 1) _ _ (by omega) (by rw [fT, ← hsum]; clear hq ih; dsimp only; (repeat' split) <;> first | rfl | (exfalso; (try simp only [eq_self, not_true_eq_false, not_false_eq_true, k_b0, k_b1, k_c0, k_cl, k_cg, k_cle, k_cge] at *) <;> (try simp only [eq_self, not_true_eq_false, not_false_eq_true, k_le, k_lt, k_eq, k_leL, k_ltL, k_eqL, k_il, li_m6, li_m5, li_m3, li_m2, li_m1, li_0, li_1, li_2, li_3, li_4, li_5, li_6, li_7, li_8, li_10, li_11, li_12, li_20, li_24, li_25, li_26, li_32, li_39, li_40, li_48, li_57, li_59, li_60, li_96, li_97, li_100, li_122, li_180, li_200, li_255, li_300, li_468, li_480, li_500, li_1000, li_2000, li_10000, li_10001, li_100000, li_1000000, li_100000000, lj_m1, lj_0, lj_1, lj_2, lj_3, lj_24, lj_39, lj_100, lj_500, lj_1000, lj_2000, lj_10000, lj_100000, lj_1000000, lj_100000000, lj_10, lj_20, lj_12, lj_32, lj_96] at *) <;> omega))
      refine k_tableOut (tg := 134) dX11_titheOf_25 (by simp only [eq_self, not_true_eq_false, not_false_eq_true, k_le, k_lt, k_eq, k_leL, k_ltL, k_eqL, k_il, li_m6, li_m5, li_m3, li_m2, li_m1, li_0, li_1, li_2, li_3, li_4, li_5, li_6, li_7, li_8, li_10, li_11, li_12, li_20, li_24, li_25, li_26, li_32, li_39, li_40, li_48, li_57, li_59, li_60, li_96, li_97, li_100, li_122, li_180, li_200, li_255, li_300, li_468, li_480, li_500, li_1000, li_2000, li_10000, li_10001, li_100000, li_1000000, li_100000000, lj_m1, lj_0, lj_1, lj_2, lj_3, lj_24, lj_39, lj_100, lj_500, lj_1000, lj_2000, lj_10000, lj_100000, lj_1000000, lj_100000000, lj_10, lj_20, lj_12, lj_32, lj_96] at *; omega) (by decide) ?_
      refine k_lload (pc' := 136) dX11_titheOf_134 rfl rfl ?_
      refine k_aload_n (pc' := 137) dX11_titheOf_136 rfl rfl ?_
      refine k_getR (pc' := 140) fl_RX11_47 dX11_titheOf_137 rfl rfl rfl ?_
      refine k_iload (pc' := 142) dX11_titheOf_140 rfl rfl ?_
      refine k_ialdN (pc' := 143) dX11_titheOf_142 rfl rfl (by omega) (by decide) ?_
      refine k_i2l (pc' := 144) dX11_titheOf_143 rfl ?_
      refine k_lcmp (pc' := 145) dX11_titheOf_144 rfl ?_
      refine k_if_le (pc' := 148) (tg := 159) dX11_titheOf_145 rfl (by decide) (fun c_145 => ?_) (fun c_145 => ?_)
      · skip
        refine k_lload (pc' := 161) dX11_titheOf_159 rfl rfl ?_
        refine k_lstore (pc' := 163) (k0 := 0) (ls' := [_, _, _, _, _, _, _, _]) dX11_titheOf_161 rfl (by decide) rfl ?_
        refine k_iinc (pc' := 166) (v := nI (_ + 1)) (ls' := [_, _, _, _, _, _, _, _]) dX11_titheOf_163 rfl rfl (nI_1 _) (by decide) rfl ?_
        refine k_goto (tg := 9) dX11_titheOf_166 (by decide) ?_
        have q1 := hq i hlt
        exact ih (i + 1) _ _ (by omega) (by rw [fT, ← hsum]; clear hq ih; dsimp only; (repeat' split) <;> first | rfl | (exfalso; (try simp only [eq_self, not_true_eq_false, not_false_eq_true, k_b0, k_b1, k_c0, k_cl, k_cg, k_cle, k_cge] at *) <;> (try simp only [eq_self, not_true_eq_false, not_false_eq_true, k_le, k_lt, k_eq, k_leL, k_ltL, k_eqL, k_il, li_m6, li_m5, li_m3, li_m2, li_m1, li_0, li_1, li_2, li_3, li_4, li_5, li_6, li_7, li_8, li_10, li_11, li_12, li_20, li_24, li_25, li_26, li_32, li_39, li_40, li_48, li_57, li_59, li_60, li_96, li_97, li_100, li_122, li_180, li_200, li_255, li_300, li_468, li_480, li_500, li_1000, li_2000, li_10000, li_10001, li_100000, li_1000000, li_100000000, lj_m1, lj_0, lj_1, lj_2, lj_3, lj_24, lj_39, lj_100, lj_500, lj_1000, lj_2000, lj_10000, lj_100000, lj_1000000, lj_100000000, lj_10, lj_20, lj_12, lj_32, lj_96] at *) <;> omega))
      · skip
        refine k_aload_n (pc' := 149) dX11_titheOf_148 rfl rfl ?_
        refine k_getR (pc' := 152) fl_RX11_47 dX11_titheOf_149 rfl rfl rfl ?_
        refine k_iload (pc' := 154) dX11_titheOf_152 rfl rfl ?_
        refine k_ialdN (pc' := 155) dX11_titheOf_154 rfl rfl (by omega) (by decide) ?_
        refine k_i2l (pc' := 156) dX11_titheOf_155 rfl ?_
        refine k_goto (tg := 161) dX11_titheOf_156 (by decide) ?_
        refine k_lstore (pc' := 163) (k0 := 0) (ls' := [_, _, _, _, _, _, _, _]) dX11_titheOf_161 rfl (by decide) rfl ?_
        refine k_iinc (pc' := 166) (v := nI (_ + 1)) (ls' := [_, _, _, _, _, _, _, _]) dX11_titheOf_163 rfl rfl (nI_1 _) (by decide) rfl ?_
        refine k_goto (tg := 9) dX11_titheOf_166 (by decide) ?_
        have q1 := hq i hlt
        exact ih (i + 1) _ _ (by omega) (by rw [fT, ← hsum]; clear hq ih; dsimp only; (repeat' split) <;> first | rfl | (exfalso; (try simp only [eq_self, not_true_eq_false, not_false_eq_true, k_b0, k_b1, k_c0, k_cl, k_cg, k_cle, k_cge] at *) <;> (try simp only [eq_self, not_true_eq_false, not_false_eq_true, k_le, k_lt, k_eq, k_leL, k_ltL, k_eqL, k_il, li_m6, li_m5, li_m3, li_m2, li_m1, li_0, li_1, li_2, li_3, li_4, li_5, li_6, li_7, li_8, li_10, li_11, li_12, li_20, li_24, li_25, li_26, li_32, li_39, li_40, li_48, li_57, li_59, li_60, li_96, li_97, li_100, li_122, li_180, li_200, li_255, li_300, li_468, li_480, li_500, li_1000, li_2000, li_10000, li_10001, li_100000, li_1000000, li_100000000, lj_m1, lj_0, lj_1, lj_2, lj_3, lj_24, lj_39, lj_100, lj_500, lj_1000, lj_2000, lj_10000, lj_100000, lj_1000000, lj_100000000, lj_10, lj_20, lj_12, lj_32, lj_96] at *) <;> omega))

set_option maxHeartbeats 400000 in
set_option maxRecDepth 100000 in
theorem ev_X11_titheOf {v ag m : Int32} {μ : kH} {N : Nat} (hN : N ≤ 20) (hsz : μ.1 46 19 = nI N) (hq : ∀ j, j < N → (μ.1 56 j = 0 → 1 ≤ μ.1 58 j) ∧ (μ.1 56 j = 1 → 1 ≤ μ.1 57 j)) : Ev kX11_titheOf [kr 46, ki v, ki ag, ki m] μ (fun r h' => r = kl (if v < (fT (μ.1 56) (μ.1 57) (μ.1 58) (μ.1 59) v ag m N).2 then 0 else (fT (μ.1 56) (μ.1 57) (μ.1 58) (μ.1 59) v ag m N).1) ∧ h' = μ) := by
  refine k_ev (ls := [_, _, _, _, _, _, _, _]) (by decide) (Nat.le_of_ble_eq_true rfl) rfl ?_
  refine k_lconst (pc' := 1) (v := 0) dX11_titheOf_0 rfl (by decide) ?_
  refine k_lstore (pc' := 3) (k0 := 0) (ls' := [_, _, _, _, _, _, _, _]) dX11_titheOf_1 rfl (by decide) rfl ?_
  refine k_iconst (pc' := 4) (v := 0) dX11_titheOf_3 rfl (by decide) ?_
  refine k_istore (pc' := 6) (k0 := 0) (ls' := [_, _, _, _, _, _, _, _]) dX11_titheOf_4 rfl (by decide) rfl ?_
  refine k_iconst (pc' := 7) (v := 0) dX11_titheOf_6 rfl (by decide) ?_
  refine k_istore (pc' := 9) (k0 := 0) (ls' := [_, _, _, _, _, _, _, _]) dX11_titheOf_7 rfl (by decide) rfl ?_
  exact lp_X11_titheOf hN hsz hq N 0 0 0 (by omega) rfl

set_option maxHeartbeats 400000 in
set_option maxRecDepth 100000 in
theorem lp_X4_choose {f : Int32} {μ : kH} {N : Nat} (hN : N = 4) (hsz : (4 : Int32) = nI N) : ∀ (n i : Nat) (x : Int32 × Int32 × Int32), i + n = N → x = fCh (μ.1 9) (μ.1 10) f (μ.1 8 3) (μ.1 8 4) i → At kX4_choose 7 [kr 8, ki f, ki (nI i), ku, ku] [] (h3 μ 8 3 4 5 x) (kRet kX4_choose (fun r h' => r = ku ∧ h' = h3 μ 8 3 4 5 (fCh (μ.1 9) (μ.1 10) f (μ.1 8 3) (μ.1 8 4) N))) := by
  intro n
  induction n with
  | zero =>
    intro i x hi hsum
    refine k_iload_n (pc' := 8) dX4_choose_7 rfl rfl ?_
    refine k_iconst (pc' := 9) (v := 4) dX4_choose_8 rfl (by decide) ?_
    refine k_icmp_ge (pc' := 12) (tg := 65) dX4_choose_9 rfl (by decide) (fun c_9 => ?_) (fun c_9 => ?_)
    · skip
      exact k_vret dX4_choose_65 rfl ⟨rfl, by rw [hsum, show i = N from by omega]⟩
    · exfalso
      exact c_9 (by rw [hsz]; first | exact Int32.le_refl _ | (rw [show i = N from by omega]; exact Int32.le_refl _))
  | succ n ih =>
    intro i x hi hsum
    have hlt : i < N := by omega
    refine k_iload_n (pc' := 8) dX4_choose_7 rfl rfl ?_
    refine k_iconst (pc' := 9) (v := 4) dX4_choose_8 rfl (by decide) ?_
    refine k_icmp_ge (pc' := 12) (tg := 65) dX4_choose_9 rfl (by decide) (fun c_9 => ?_) (fun c_9 => ?_)
    · exfalso
      rw [hsz] at c_9
      exact nI_ge hlt (by omega) c_9
    · skip
      refine k_iload_n (pc' := 13) dX4_choose_12 rfl rfl ?_
      refine k_aload_n (pc' := 14) dX4_choose_13 rfl rfl ?_
      refine k_getR (pc' := 17) fl_RX4_9 dX4_choose_14 rfl rfl rfl ?_
      refine k_iload_n (pc' := 18) dX4_choose_17 rfl rfl ?_
      refine k_ialdN (pc' := 19) dX4_choose_18 rfl rfl (by omega) (by decide) ?_
      refine k_imul (pc' := 20) dX4_choose_19 rfl ?_
      refine k_bipush (pc' := 22) (v := 100) dX4_choose_20 rfl (by decide) ?_
      refine k_idiv (pc' := 23) dX4_choose_22 rfl (by first | decide | ((try simp only [eq_self, not_true_eq_false, not_false_eq_true, k_b0, k_b1, k_c0, k_cl, k_cg, k_cle, k_cge] at *) <;> (try simp only [eq_self, not_true_eq_false, not_false_eq_true, k_le, k_lt, k_eq, k_leL, k_ltL, k_eqL, k_il, li_m6, li_m5, li_m3, li_m2, li_m1, li_0, li_1, li_2, li_3, li_4, li_5, li_6, li_7, li_8, li_10, li_11, li_12, li_20, li_24, li_25, li_26, li_32, li_39, li_40, li_48, li_57, li_59, li_60, li_96, li_97, li_100, li_122, li_180, li_200, li_255, li_300, li_468, li_480, li_500, li_1000, li_2000, li_10000, li_10001, li_100000, li_1000000, li_100000000, lj_m1, lj_0, lj_1, lj_2, lj_3, lj_24, lj_39, lj_100, lj_500, lj_1000, lj_2000, lj_10000, lj_100000, lj_1000000, lj_100000000, lj_10, lj_20, lj_12, lj_32, lj_96] at *) <;> omega)) ?_
      refine k_istore_n (pc' := 24) (k0 := 0) (ls' := [_, _, _, _, _]) dX4_choose_23 rfl (by decide) rfl ?_
      refine k_iload_n (pc' := 25) dX4_choose_24 rfl rfl ?_
      refine k_aload_n (pc' := 26) dX4_choose_25 rfl rfl ?_
      refine k_getR (pc' := 29) fl_RX4_15 dX4_choose_26 rfl rfl rfl ?_
      refine k_iload_n (pc' := 30) dX4_choose_29 rfl rfl ?_
      refine k_ialdN (pc' := 31) dX4_choose_30 rfl rfl (by omega) (by decide) ?_
      refine k_imul (pc' := 32) dX4_choose_31 rfl ?_
      refine k_istore (pc' := 34) (k0 := 0) (ls' := [_, _, _, _, _]) dX4_choose_32 rfl (by decide) rfl ?_
      refine k_iload (pc' := 36) dX4_choose_34 rfl rfl ?_
      refine k_aload_n (pc' := 37) dX4_choose_36 rfl rfl ?_
      refine k_getI (pc' := 40) fl_RX4_28 dX4_choose_37 rfl rfl rfl ?_
      refine k_icmp_le (pc' := 43) (tg := 59) dX4_choose_40 rfl (by decide) (fun c_40 => ?_) (fun c_40 => ?_)
      · skip
        refine k_iinc (pc' := 62) (v := nI (_ + 1)) (ls' := [_, _, _, _, _]) dX4_choose_59 rfl rfl (nI_1 _) (by decide) rfl ?_
        refine k_goto (tg := 7) dX4_choose_62 (by decide) ?_
        exact k_wk (by repeat' (first | exact trivial | exact rfl | apply And.intro)) (ih (i + 1) x (by omega) (by rw [fCh, ← hsum]; exact (if_neg (k_len c_40)).symm))
      · skip
        refine k_aload_n (pc' := 44) dX4_choose_43 rfl rfl ?_
        refine k_iload_n (pc' := 45) dX4_choose_44 rfl rfl ?_
        refine k_putI (pc' := 48) fw_RX4_32 dX4_choose_45 rfl rfl rfl ?_
        refine k_aload_n (pc' := 49) dX4_choose_48 rfl rfl ?_
        refine k_iload_n (pc' := 50) dX4_choose_49 rfl rfl ?_
        refine k_putI (pc' := 53) fw_RX4_35 dX4_choose_50 rfl rfl rfl ?_
        refine k_aload_n (pc' := 54) dX4_choose_53 rfl rfl ?_
        refine k_iload (pc' := 56) dX4_choose_54 rfl rfl ?_
        refine k_putI (pc' := 59) fw_RX4_28 dX4_choose_56 rfl rfl rfl ?_
        refine k_iinc (pc' := 62) (v := nI (_ + 1)) (ls' := [_, _, _, _, _]) dX4_choose_59 rfl rfl (nI_1 _) (by decide) rfl ?_
        refine k_goto (tg := 7) dX4_choose_62 (by decide) ?_
        exact k_heq (h3_h3 μ 8 3 4 5 x (nI i, _, _)) (k_wk (by repeat' (first | exact trivial | exact rfl | apply And.intro)) (ih (i + 1) _ (by omega) (by rw [fCh, ← hsum]; exact (if_pos (k_nle c_40)).symm)))

set_option maxHeartbeats 400000 in
set_option maxRecDepth 100000 in
theorem ev_X4_choose {f : Int32} {μ : kH} : Ev kX4_choose [kr 8, ki f] μ (fun r h' => r = ku ∧ h' = h3 μ 8 3 4 5 (fCh (μ.1 9) (μ.1 10) f (μ.1 8 3) (μ.1 8 4) 4)) := by
  refine k_ev (ls := [_, _, _, _, _]) (by decide) (Nat.le_of_ble_eq_true rfl) rfl ?_
  refine k_aload_n (pc' := 1) dX4_choose_0 rfl rfl ?_
  refine k_iconst (pc' := 2) (v := (-1)) dX4_choose_1 rfl (by decide) ?_
  refine k_putI (pc' := 5) fw_RX4_28 dX4_choose_2 rfl rfl rfl ?_
  refine k_iconst (pc' := 6) (v := 0) dX4_choose_5 rfl (by decide) ?_
  refine k_istore_n (pc' := 7) (k0 := 0) (ls' := [_, _, _, _, _]) dX4_choose_6 rfl (by decide) rfl ?_
  exact k_heq (h3_one μ 8 3 4 5 (-1) (by decide) (by decide) (by decide)) (lp_X4_choose rfl rfl 4 0 _ (by omega) rfl)

set_option maxHeartbeats 400000 in
set_option maxRecDepth 100000 in
theorem lp_X11_findBest {f : Int32} {μ : kH} {N Y : Nat} (hY : Y < 40) (hN : N = 4) (hsz : (4 : Int32) = nI N) : ∀ (n i : Nat) (x : Int32 × Int32 × Int32), i + n = N → x = fFb (μ.1 48) (μ.1 53) f Y (μ.1 46 17) (μ.1 46 18) i → At kX11_findBest 7 [kr 46, ki f, ki (nI Y), ki (nI i), ku, ku] [] (h3 μ 46 16 17 18 x) (kRet kX11_findBest (fun r h' => r = ku ∧ h' = h3 μ 46 16 17 18 (fFb (μ.1 48) (μ.1 53) f Y (μ.1 46 17) (μ.1 46 18) N))) := by
  intro n
  induction n with
  | zero =>
    intro i x hi hsum
    refine k_iload_n (pc' := 8) dX11_findBest_7 rfl rfl ?_
    refine k_iconst (pc' := 9) (v := 4) dX11_findBest_8 rfl (by decide) ?_
    refine k_icmp_ge (pc' := 12) (tg := 84) dX11_findBest_9 rfl (by decide) (fun c_9 => ?_) (fun c_9 => ?_)
    · skip
      exact k_vret dX11_findBest_84 rfl ⟨rfl, by rw [hsum, show i = N from by omega]⟩
    · exfalso
      exact c_9 (by rw [hsz]; first | exact Int32.le_refl _ | (rw [show i = N from by omega]; exact Int32.le_refl _))
  | succ n ih =>
    intro i x hi hsum
    have hlt : i < N := by omega
    refine k_iload_n (pc' := 8) dX11_findBest_7 rfl rfl ?_
    refine k_iconst (pc' := 9) (v := 4) dX11_findBest_8 rfl (by decide) ?_
    refine k_icmp_ge (pc' := 12) (tg := 84) dX11_findBest_9 rfl (by decide) (fun c_9 => ?_) (fun c_9 => ?_)
    · exfalso
      rw [hsz] at c_9
      exact nI_ge hlt (by omega) c_9
    · skip
      refine k_iload_n (pc' := 13) dX11_findBest_12 rfl rfl ?_
      refine k_i2l (pc' := 14) dX11_findBest_13 rfl ?_
      refine k_aload_n (pc' := 15) dX11_findBest_14 rfl rfl ?_
      refine k_getR (pc' := 18) fl_RX11_13 dX11_findBest_15 rfl rfl rfl ?_
      refine k_iload_n (pc' := 19) dX11_findBest_18 rfl rfl ?_
      refine k_ialdN (pc' := 20) dX11_findBest_19 rfl rfl (by omega) (by decide) ?_
      refine k_i2l (pc' := 21) dX11_findBest_20 rfl ?_
      refine k_lmul (pc' := 22) dX11_findBest_21 rfl ?_
      refine k_ldc2 (pc' := 25) dX11_findBest_22 rfl kc_RX11_128 ?_
      refine k_ldiv (pc' := 26) dX11_findBest_25 rfl (by first | decide | ((try simp only [eq_self, not_true_eq_false, not_false_eq_true, k_b0, k_b1, k_c0, k_cl, k_cg, k_cle, k_cge] at *) <;> (try simp only [eq_self, not_true_eq_false, not_false_eq_true, k_le, k_lt, k_eq, k_leL, k_ltL, k_eqL, k_il, li_m6, li_m5, li_m3, li_m2, li_m1, li_0, li_1, li_2, li_3, li_4, li_5, li_6, li_7, li_8, li_10, li_11, li_12, li_20, li_24, li_25, li_26, li_32, li_39, li_40, li_48, li_57, li_59, li_60, li_96, li_97, li_100, li_122, li_180, li_200, li_255, li_300, li_468, li_480, li_500, li_1000, li_2000, li_10000, li_10001, li_100000, li_1000000, li_100000000, lj_m1, lj_0, lj_1, lj_2, lj_3, lj_24, lj_39, lj_100, lj_500, lj_1000, lj_2000, lj_10000, lj_100000, lj_1000000, lj_100000000, lj_10, lj_20, lj_12, lj_32, lj_96] at *) <;> omega)) ?_
      refine k_l2i (pc' := 27) dX11_findBest_26 rfl ?_
      refine k_istore (pc' := 29) (k0 := 0) (ls' := [_, _, _, _, _, _]) dX11_findBest_27 rfl (by decide) rfl ?_
      refine k_iload (pc' := 31) dX11_findBest_29 rfl rfl ?_
      refine k_aload_n (pc' := 32) dX11_findBest_31 rfl rfl ?_
      refine k_getR (pc' := 35) fl_RX11_35 dX11_findBest_32 rfl rfl rfl ?_
      refine k_bipush (pc' := 37) (v := 40) dX11_findBest_35 rfl (by decide) ?_
      refine k_iload_n (pc' := 38) dX11_findBest_37 rfl rfl ?_
      refine k_imul (pc' := 39) dX11_findBest_38 rfl ?_
      refine k_iload_n (pc' := 40) dX11_findBest_39 rfl rfl ?_
      refine k_iadd (pc' := 41) dX11_findBest_40 rfl ?_
      rw [k_40 i Y]
      refine k_ialdN (pc' := 42) dX11_findBest_41 rfl rfl (by omega) (by decide) ?_
      refine k_imul (pc' := 43) dX11_findBest_42 rfl ?_
      refine k_istore (pc' := 45) (k0 := 0) (ls' := [_, _, _, _, _, _]) dX11_findBest_43 rfl (by decide) rfl ?_
      refine k_aload_n (pc' := 46) dX11_findBest_45 rfl rfl ?_
      refine k_getI (pc' := 49) fl_RX11_156 dX11_findBest_46 rfl rfl rfl ?_
      refine k_if_lt (pc' := 52) (tg := 61) dX11_findBest_49 rfl (by decide) (fun c_49 => ?_) (fun c_49 => ?_)
      · skip
        refine k_aload_n (pc' := 62) dX11_findBest_61 rfl rfl ?_
        refine k_iload_n (pc' := 63) dX11_findBest_62 rfl rfl ?_
        refine k_putI (pc' := 66) fw_RX11_156 dX11_findBest_63 rfl rfl rfl ?_
        refine k_aload_n (pc' := 67) dX11_findBest_66 rfl rfl ?_
        refine k_iload (pc' := 69) dX11_findBest_67 rfl rfl ?_
        refine k_putI (pc' := 72) fw_RX11_162 dX11_findBest_69 rfl rfl rfl ?_
        refine k_aload_n (pc' := 73) dX11_findBest_72 rfl rfl ?_
        refine k_iload (pc' := 75) dX11_findBest_73 rfl rfl ?_
        refine k_putI (pc' := 78) fw_RX11_159 dX11_findBest_75 rfl rfl rfl ?_
        refine k_iinc (pc' := 81) (v := nI (_ + 1)) (ls' := [_, _, _, _, _, _]) dX11_findBest_78 rfl rfl (nI_1 _) (by decide) rfl ?_
        refine k_goto (tg := 7) dX11_findBest_81 (by decide) ?_
        exact k_heq (h3_h3 μ 46 16 17 18 x (nI i, _, _)) (k_wk (by repeat' (first | exact trivial | exact rfl | apply And.intro)) (ih (i + 1) _ (by omega) (by rw [fFb, ← hsum]; exact (if_pos (Or.inl c_49)).symm)))
      · skip
        refine k_iload (pc' := 54) dX11_findBest_52 rfl rfl ?_
        refine k_aload_n (pc' := 55) dX11_findBest_54 rfl rfl ?_
        refine k_getI (pc' := 58) fl_RX11_159 dX11_findBest_55 rfl rfl rfl ?_
        refine k_icmp_le (pc' := 61) (tg := 78) dX11_findBest_58 rfl (by decide) (fun c_58 => ?_) (fun c_58 => ?_)
        · skip
          refine k_iinc (pc' := 81) (v := nI (_ + 1)) (ls' := [_, _, _, _, _, _]) dX11_findBest_78 rfl rfl (nI_1 _) (by decide) rfl ?_
          refine k_goto (tg := 7) dX11_findBest_81 (by decide) ?_
          exact k_wk (by repeat' (first | exact trivial | exact rfl | apply And.intro)) (ih (i + 1) x (by omega) (by rw [fFb, ← hsum]; exact (if_neg (fun z => z.elim (fun z => c_49 z) (fun z => k_len c_58 z))).symm))
        · skip
          refine k_aload_n (pc' := 62) dX11_findBest_61 rfl rfl ?_
          refine k_iload_n (pc' := 63) dX11_findBest_62 rfl rfl ?_
          refine k_putI (pc' := 66) fw_RX11_156 dX11_findBest_63 rfl rfl rfl ?_
          refine k_aload_n (pc' := 67) dX11_findBest_66 rfl rfl ?_
          refine k_iload (pc' := 69) dX11_findBest_67 rfl rfl ?_
          refine k_putI (pc' := 72) fw_RX11_162 dX11_findBest_69 rfl rfl rfl ?_
          refine k_aload_n (pc' := 73) dX11_findBest_72 rfl rfl ?_
          refine k_iload (pc' := 75) dX11_findBest_73 rfl rfl ?_
          refine k_putI (pc' := 78) fw_RX11_159 dX11_findBest_75 rfl rfl rfl ?_
          refine k_iinc (pc' := 81) (v := nI (_ + 1)) (ls' := [_, _, _, _, _, _]) dX11_findBest_78 rfl rfl (nI_1 _) (by decide) rfl ?_
          refine k_goto (tg := 7) dX11_findBest_81 (by decide) ?_
          exact k_heq (h3_h3 μ 46 16 17 18 x (nI i, _, _)) (k_wk (by repeat' (first | exact trivial | exact rfl | apply And.intro)) (ih (i + 1) _ (by omega) (by rw [fFb, ← hsum]; exact (if_pos (Or.inr (k_nle c_58))).symm)))

set_option maxHeartbeats 400000 in
set_option maxRecDepth 100000 in
theorem ev_X11_findBest {f : Int32} {μ : kH} {Y : Nat} (hY : Y < 40) : Ev kX11_findBest [kr 46, ki f, ki (nI Y)] μ (fun r h' => r = ku ∧ h' = h3 μ 46 16 17 18 (fFb (μ.1 48) (μ.1 53) f Y (μ.1 46 17) (μ.1 46 18) 4)) := by
  refine k_ev (ls := [_, _, _, _, _, _]) (by decide) (Nat.le_of_ble_eq_true rfl) rfl ?_
  refine k_aload_n (pc' := 1) dX11_findBest_0 rfl rfl ?_
  refine k_iconst (pc' := 2) (v := (-1)) dX11_findBest_1 rfl (by decide) ?_
  refine k_putI (pc' := 5) fw_RX11_156 dX11_findBest_2 rfl rfl rfl ?_
  refine k_iconst (pc' := 6) (v := 0) dX11_findBest_5 rfl (by decide) ?_
  refine k_istore_n (pc' := 7) (k0 := 0) (ls' := [_, _, _, _, _, _]) dX11_findBest_6 rfl (by decide) rfl ?_
  exact k_heq (h3_first μ 46 16 17 18 (-1) (by decide) (by decide) (by decide)) (lp_X11_findBest hY rfl rfl 4 0 _ (by omega) rfl)

set_option maxHeartbeats 400000 in
set_option maxRecDepth 100000 in
theorem ev_X4_turnTo {y k : Int32} {μ : kH} {N : Nat} (hN : N ≤ 300) (hsz : μ.1 3 4 = nI N) : Ev kX4_turnTo [kr 8, ki y, ki k] μ (fun r h' => r = ku ∧ h' = hI (hI (hI (hI μ 10 0 (fKnown (μ.1 4) (μ.1 5) (μ.1 6) (μ.1 7) 0 y k N).1) 10 1 (fKnown (μ.1 4) (μ.1 5) (μ.1 6) (μ.1 7) 1 y k N).1) 10 2 (fKnown (μ.1 4) (μ.1 5) (μ.1 6) (μ.1 7) 2 y k N).1) 10 3 (fKnown (μ.1 4) (μ.1 5) (μ.1 6) (μ.1 7) 3 y k N).1) := by
  refine k_ev (ls := [_, _, _, _]) (by decide) (Nat.le_of_ble_eq_true rfl) rfl ?_
  refine k_iconst (pc' := 1) (v := 0) dX4_turnTo_0 rfl (by decide) ?_
  refine k_istore_n (pc' := 2) (k0 := 0) (ls' := [_, _, _, _]) dX4_turnTo_1 rfl (by decide) rfl ?_
  refine k_iload_n (pc' := 3) dX4_turnTo_2 rfl rfl ?_
  refine k_iconst (pc' := 4) (v := 4) dX4_turnTo_3 rfl (by decide) ?_
  refine k_icmp_ge (pc' := 7) (tg := 29) dX4_turnTo_4 rfl (by decide) (fun c_4 => ?_) (fun c_4 => ?_)
  · exfalso
    exact absurd c_4 (by decide)
  · skip
    refine k_aload_n (pc' := 8) dX4_turnTo_7 rfl rfl ?_
    refine k_getR (pc' := 11) fl_RX4_15 dX4_turnTo_8 rfl rfl rfl ?_
    refine k_iload_n (pc' := 12) dX4_turnTo_11 rfl rfl ?_
    refine k_aload_n (pc' := 13) dX4_turnTo_12 rfl rfl ?_
    refine k_getR (pc' := 16) fl_RX4_18 dX4_turnTo_13 rfl rfl rfl ?_
    refine k_iload_n (pc' := 17) dX4_turnTo_16 rfl rfl ?_
    refine k_iload_n (pc' := 18) dX4_turnTo_17 rfl rfl ?_
    refine k_iload_n (pc' := 19) dX4_turnTo_18 rfl rfl ?_
    refine k_callV3 (pc' := 22) dX4_turnTo_19 rfl ml_RX4_22 rfl rfl ⟨(Nat.le_of_ble_eq_true rfl), (Nat.le_of_ble_eq_true rfl)⟩ (Nat.le_of_ble_eq_true rfl) (ev_X6_asKnown hN hsz) (fun r_19 h_19 q_19 => ?_)
    obtain ⟨e_19, g_19⟩ := q_19
    rw [e_19, g_19]
    refine k_iast (pc' := 23) dX4_turnTo_22 rfl rfl (by unfold vp_in; decide) ?_
    refine k_iinc (pc' := 26) (v := 1) (ls' := [_, _, _, _]) dX4_turnTo_23 rfl rfl (by decide) (by decide) rfl ?_
    refine k_goto (tg := 2) dX4_turnTo_26 (by decide) ?_
    refine k_iload_n (pc' := 3) dX4_turnTo_2 rfl rfl ?_
    refine k_iconst (pc' := 4) (v := 4) dX4_turnTo_3 rfl (by decide) ?_
    refine k_icmp_ge (pc' := 7) (tg := 29) dX4_turnTo_4 rfl (by decide) (fun c_4 => ?_) (fun c_4 => ?_)
    · exfalso
      exact absurd c_4 (by decide)
    · skip
      refine k_aload_n (pc' := 8) dX4_turnTo_7 rfl rfl ?_
      refine k_getR (pc' := 11) fl_RX4_15 dX4_turnTo_8 rfl rfl rfl ?_
      refine k_iload_n (pc' := 12) dX4_turnTo_11 rfl rfl ?_
      refine k_aload_n (pc' := 13) dX4_turnTo_12 rfl rfl ?_
      refine k_getR (pc' := 16) fl_RX4_18 dX4_turnTo_13 rfl rfl rfl ?_
      refine k_iload_n (pc' := 17) dX4_turnTo_16 rfl rfl ?_
      refine k_iload_n (pc' := 18) dX4_turnTo_17 rfl rfl ?_
      refine k_iload_n (pc' := 19) dX4_turnTo_18 rfl rfl ?_
      refine k_callV3 (pc' := 22) dX4_turnTo_19 rfl ml_RX4_22 rfl rfl ⟨(Nat.le_of_ble_eq_true rfl), (Nat.le_of_ble_eq_true rfl)⟩ (Nat.le_of_ble_eq_true rfl) (ev_X6_asKnown hN hsz) (fun r_19 h_19 q_19 => ?_)
      obtain ⟨e_19, g_19⟩ := q_19
      rw [e_19, g_19]
      refine k_iast (pc' := 23) dX4_turnTo_22 rfl rfl (by unfold vp_in; decide) ?_
      refine k_iinc (pc' := 26) (v := 2) (ls' := [_, _, _, _]) dX4_turnTo_23 rfl rfl (by decide) (by decide) rfl ?_
      refine k_goto (tg := 2) dX4_turnTo_26 (by decide) ?_
      refine k_iload_n (pc' := 3) dX4_turnTo_2 rfl rfl ?_
      refine k_iconst (pc' := 4) (v := 4) dX4_turnTo_3 rfl (by decide) ?_
      refine k_icmp_ge (pc' := 7) (tg := 29) dX4_turnTo_4 rfl (by decide) (fun c_4 => ?_) (fun c_4 => ?_)
      · exfalso
        exact absurd c_4 (by decide)
      · skip
        refine k_aload_n (pc' := 8) dX4_turnTo_7 rfl rfl ?_
        refine k_getR (pc' := 11) fl_RX4_15 dX4_turnTo_8 rfl rfl rfl ?_
        refine k_iload_n (pc' := 12) dX4_turnTo_11 rfl rfl ?_
        refine k_aload_n (pc' := 13) dX4_turnTo_12 rfl rfl ?_
        refine k_getR (pc' := 16) fl_RX4_18 dX4_turnTo_13 rfl rfl rfl ?_
        refine k_iload_n (pc' := 17) dX4_turnTo_16 rfl rfl ?_
        refine k_iload_n (pc' := 18) dX4_turnTo_17 rfl rfl ?_
        refine k_iload_n (pc' := 19) dX4_turnTo_18 rfl rfl ?_
        refine k_callV3 (pc' := 22) dX4_turnTo_19 rfl ml_RX4_22 rfl rfl ⟨(Nat.le_of_ble_eq_true rfl), (Nat.le_of_ble_eq_true rfl)⟩ (Nat.le_of_ble_eq_true rfl) (ev_X6_asKnown hN hsz) (fun r_19 h_19 q_19 => ?_)
        obtain ⟨e_19, g_19⟩ := q_19
        rw [e_19, g_19]
        refine k_iast (pc' := 23) dX4_turnTo_22 rfl rfl (by unfold vp_in; decide) ?_
        refine k_iinc (pc' := 26) (v := 3) (ls' := [_, _, _, _]) dX4_turnTo_23 rfl rfl (by decide) (by decide) rfl ?_
        refine k_goto (tg := 2) dX4_turnTo_26 (by decide) ?_
        refine k_iload_n (pc' := 3) dX4_turnTo_2 rfl rfl ?_
        refine k_iconst (pc' := 4) (v := 4) dX4_turnTo_3 rfl (by decide) ?_
        refine k_icmp_ge (pc' := 7) (tg := 29) dX4_turnTo_4 rfl (by decide) (fun c_4 => ?_) (fun c_4 => ?_)
        · exfalso
          exact absurd c_4 (by decide)
        · skip
          refine k_aload_n (pc' := 8) dX4_turnTo_7 rfl rfl ?_
          refine k_getR (pc' := 11) fl_RX4_15 dX4_turnTo_8 rfl rfl rfl ?_
          refine k_iload_n (pc' := 12) dX4_turnTo_11 rfl rfl ?_
          refine k_aload_n (pc' := 13) dX4_turnTo_12 rfl rfl ?_
          refine k_getR (pc' := 16) fl_RX4_18 dX4_turnTo_13 rfl rfl rfl ?_
          refine k_iload_n (pc' := 17) dX4_turnTo_16 rfl rfl ?_
          refine k_iload_n (pc' := 18) dX4_turnTo_17 rfl rfl ?_
          refine k_iload_n (pc' := 19) dX4_turnTo_18 rfl rfl ?_
          refine k_callV3 (pc' := 22) dX4_turnTo_19 rfl ml_RX4_22 rfl rfl ⟨(Nat.le_of_ble_eq_true rfl), (Nat.le_of_ble_eq_true rfl)⟩ (Nat.le_of_ble_eq_true rfl) (ev_X6_asKnown hN hsz) (fun r_19 h_19 q_19 => ?_)
          obtain ⟨e_19, g_19⟩ := q_19
          rw [e_19, g_19]
          refine k_iast (pc' := 23) dX4_turnTo_22 rfl rfl (by unfold vp_in; decide) ?_
          refine k_iinc (pc' := 26) (v := 4) (ls' := [_, _, _, _]) dX4_turnTo_23 rfl rfl (by decide) (by decide) rfl ?_
          refine k_goto (tg := 2) dX4_turnTo_26 (by decide) ?_
          refine k_iload_n (pc' := 3) dX4_turnTo_2 rfl rfl ?_
          refine k_iconst (pc' := 4) (v := 4) dX4_turnTo_3 rfl (by decide) ?_
          refine k_icmp_ge (pc' := 7) (tg := 29) dX4_turnTo_4 rfl (by decide) (fun c_4 => ?_) (fun c_4 => ?_)
          · skip
            exact k_vret dX4_turnTo_29 rfl ⟨rfl, rfl⟩
          · exfalso
            exact c_4 (by decide)

set_option maxHeartbeats 400000 in
set_option maxRecDepth 100000 in
theorem it_X7_write {x s : Int32} {μ : kH} {L : Nat} {Φ : Nat → List kV → List kV → kH → Prop} (hL : L < 200) (hz : μ.1 14 1 = nI L) (hs : ¬ s < 0) (k : At kX7_write 3 [kr 14, ki x, ki (s + (-8))] [] (wrX μ ((x.toUInt32 >>> (s.toUInt32 &&& Int32.toUInt32 31)).toInt32 &&& 255)) Φ) : At kX7_write 3 [kr 14, ki x, ki s] [] μ Φ := by
  refine k_iload_n (pc' := 4) dX7_write_3 rfl rfl ?_
  refine k_if_lt (pc' := 7) (tg := 49) dX7_write_4 rfl (by decide) (fun c_4 => ?_) (fun c_4 => ?_)
  · exfalso
    exact hs c_4
  · skip
    refine k_aload_n (pc' := 8) dX7_write_7 rfl rfl ?_
    refine k_getI (pc' := 11) fl_RX7_15 dX7_write_8 rfl rfl rfl ?_
    refine k_sipush (pc' := 14) (v := 200) dX7_write_11 rfl (by decide) ?_
    refine k_icmp_ge (pc' := 17) (tg := 49) dX7_write_14 rfl (by decide) (fun c_14 => ?_) (fun c_14 => ?_)
    · exfalso
      rw [hz] at c_14
      exact nI_ge hL (by decide) c_14
    · skip
      refine k_aload_n (pc' := 18) dX7_write_17 rfl rfl ?_
      refine k_getR (pc' := 21) fl_RX7_9 dX7_write_18 rfl rfl rfl ?_
      refine k_aload_n (pc' := 22) dX7_write_21 rfl rfl ?_
      refine k_getI (pc' := 25) fl_RX7_15 dX7_write_22 rfl rfl rfl ?_
      refine k_iload_n (pc' := 26) dX7_write_25 rfl rfl ?_
      refine k_iload_n (pc' := 27) dX7_write_26 rfl rfl ?_
      refine k_iushr (pc' := 28) dX7_write_27 rfl ?_
      refine k_sipush (pc' := 31) (v := 255) dX7_write_28 rfl (by decide) ?_
      refine k_iand (pc' := 32) dX7_write_31 rfl ?_
      refine k_iast (pc' := 33) dX7_write_32 rfl rfl (show vp_in (μ.1 14 1) 200 by rw [hz]; exact vp_in_nI hL (by decide)) ?_
      refine k_aload_n (pc' := 34) dX7_write_33 rfl rfl ?_
      refine k_dup (pc' := 35) dX7_write_34 rfl rfl ?_
      refine k_getI (pc' := 38) fl_RX7_15 dX7_write_35 rfl rfl rfl ?_
      refine k_iconst (pc' := 39) (v := 1) dX7_write_38 rfl (by decide) ?_
      refine k_iadd (pc' := 40) dX7_write_39 rfl ?_
      refine k_putI (pc' := 43) fw_RX7_15 dX7_write_40 rfl rfl rfl ?_
      refine k_iinc (pc' := 46) (v := _ + (-8)) (ls' := [_, _, _]) dX7_write_43 rfl rfl rfl (by decide) rfl ?_
      refine k_goto (tg := 3) dX7_write_46 (by decide) ?_
      exact k

set_option maxHeartbeats 400000 in
set_option maxRecDepth 100000 in
theorem ev_X7_write {x : Int32} {μ : kH} {L : Nat} (hL : L + 4 ≤ 200) (hz : μ.1 14 1 = nI L) : Ev kX7_write [kr 14, ki x] μ (fun r h' => r = ku ∧ h' = wrX (wrX (wrX (wrX μ ((x.toUInt32 >>> ((24 : Int32).toUInt32 &&& Int32.toUInt32 31)).toInt32 &&& 255)) ((x.toUInt32 >>> ((16 : Int32).toUInt32 &&& Int32.toUInt32 31)).toInt32 &&& 255)) ((x.toUInt32 >>> ((8 : Int32).toUInt32 &&& Int32.toUInt32 31)).toInt32 &&& 255)) ((x.toUInt32 >>> ((0 : Int32).toUInt32 &&& Int32.toUInt32 31)).toInt32 &&& 255)) := by
  refine k_ev (ls := [_, _, _]) (by decide) (Nat.le_of_ble_eq_true rfl) rfl ?_
  refine k_bipush (pc' := 2) (v := 24) dX7_write_0 rfl (by decide) ?_
  refine k_istore_n (pc' := 3) (k0 := 0) (ls' := [_, _, _]) dX7_write_2 rfl (by decide) rfl ?_
  have e1 : (wrX μ ((x.toUInt32 >>> ((24 : Int32).toUInt32 &&& Int32.toUInt32 31)).toInt32 &&& 255)).1 14 1 = nI (L + 1) := by show μ.1 14 1 + 1 = _; rw [hz]; exact nI_1 L
  have e2 : (wrX (wrX μ ((x.toUInt32 >>> ((24 : Int32).toUInt32 &&& Int32.toUInt32 31)).toInt32 &&& 255)) ((x.toUInt32 >>> ((16 : Int32).toUInt32 &&& Int32.toUInt32 31)).toInt32 &&& 255)).1 14 1 = nI (L + 2) := by show (wrX μ ((x.toUInt32 >>> ((24 : Int32).toUInt32 &&& Int32.toUInt32 31)).toInt32 &&& 255)).1 14 1 + 1 = _; rw [e1]; exact nI_1 (L + 1)
  have e3 : (wrX (wrX (wrX μ ((x.toUInt32 >>> ((24 : Int32).toUInt32 &&& Int32.toUInt32 31)).toInt32 &&& 255)) ((x.toUInt32 >>> ((16 : Int32).toUInt32 &&& Int32.toUInt32 31)).toInt32 &&& 255)) ((x.toUInt32 >>> ((8 : Int32).toUInt32 &&& Int32.toUInt32 31)).toInt32 &&& 255)).1 14 1 = nI (L + 3) := by show (wrX (wrX μ ((x.toUInt32 >>> ((24 : Int32).toUInt32 &&& Int32.toUInt32 31)).toInt32 &&& 255)) ((x.toUInt32 >>> ((16 : Int32).toUInt32 &&& Int32.toUInt32 31)).toInt32 &&& 255)).1 14 1 + 1 = _; rw [e2]; exact nI_1 (L + 2)
  refine it_X7_write (s := 24) (by omega) hz (by decide) ?_
  refine it_X7_write (s := 16) (by omega) e1 (by decide) ?_
  refine it_X7_write (s := 8) (by omega) e2 (by decide) ?_
  refine it_X7_write (s := 0) (by omega) e3 (by decide) ?_
  refine k_iload_n (pc' := 4) dX7_write_3 rfl rfl ?_
  refine k_if_lt (pc' := 7) (tg := 49) dX7_write_4 rfl (by decide) (fun c_4 => ?_) (fun c_4 => ?_)
  · skip
    exact k_vret dX7_write_49 rfl ⟨rfl, rfl⟩
  · exfalso
    exact c_4 (by decide)

set_option maxHeartbeats 400000 in
set_option maxRecDepth 100000 in
theorem it_X11_four {x s : Int32} {μ : kH} {L : Nat} {Φ : Nat → List kV → List kV → kH → Prop} (hL : L < 200) (hz : μ.1 46 27 = nI L) (hs : ¬ s < 0) (k : At kX11_four 3 [kr 46, ki x, ki (s + (-8))] [] (wrM μ (x >>> (s &&& 31) &&& 255)) Φ) : At kX11_four 3 [kr 46, ki x, ki s] [] μ Φ := by
  refine k_iload_n (pc' := 4) dX11_four_3 rfl rfl ?_
  refine k_if_lt (pc' := 7) (tg := 39) dX11_four_4 rfl (by decide) (fun c_4 => ?_) (fun c_4 => ?_)
  · exfalso
    exact hs c_4
  · skip
    refine k_aload_n (pc' := 8) dX11_four_7 rfl rfl ?_
    refine k_getR (pc' := 11) fl_RX11_59 dX11_four_8 rfl rfl rfl ?_
    refine k_aload_n (pc' := 12) dX11_four_11 rfl rfl ?_
    refine k_getI (pc' := 15) fl_RX11_173 dX11_four_12 rfl rfl rfl ?_
    refine k_iload_n (pc' := 16) dX11_four_15 rfl rfl ?_
    refine k_iload_n (pc' := 17) dX11_four_16 rfl rfl ?_
    refine k_ishr (pc' := 18) dX11_four_17 rfl ?_
    refine k_sipush (pc' := 21) (v := 255) dX11_four_18 rfl (by decide) ?_
    refine k_iand (pc' := 22) dX11_four_21 rfl ?_
    refine k_iast (pc' := 23) dX11_four_22 rfl rfl (show vp_in (μ.1 46 27) 200 by rw [hz]; exact vp_in_nI hL (by decide)) ?_
    refine k_aload_n (pc' := 24) dX11_four_23 rfl rfl ?_
    refine k_dup (pc' := 25) dX11_four_24 rfl rfl ?_
    refine k_getI (pc' := 28) fl_RX11_173 dX11_four_25 rfl rfl rfl ?_
    refine k_iconst (pc' := 29) (v := 1) dX11_four_28 rfl (by decide) ?_
    refine k_iadd (pc' := 30) dX11_four_29 rfl ?_
    refine k_putI (pc' := 33) fw_RX11_173 dX11_four_30 rfl rfl rfl ?_
    refine k_iinc (pc' := 36) (v := _ + (-8)) (ls' := [_, _, _]) dX11_four_33 rfl rfl rfl (by decide) rfl ?_
    refine k_goto (tg := 3) dX11_four_36 (by decide) ?_
    exact k

set_option maxHeartbeats 400000 in
set_option maxRecDepth 100000 in
theorem ev_X11_four {x : Int32} {μ : kH} {L : Nat} (hL : L + 4 ≤ 200) (hz : μ.1 46 27 = nI L) : Ev kX11_four [kr 46, ki x] μ (fun r h' => r = ku ∧ h' = wrM (wrM (wrM (wrM μ (x >>> (24 &&& 31) &&& 255)) (x >>> (16 &&& 31) &&& 255)) (x >>> (8 &&& 31) &&& 255)) (x >>> (0 &&& 31) &&& 255)) := by
  refine k_ev (ls := [_, _, _]) (by decide) (Nat.le_of_ble_eq_true rfl) rfl ?_
  refine k_bipush (pc' := 2) (v := 24) dX11_four_0 rfl (by decide) ?_
  refine k_istore_n (pc' := 3) (k0 := 0) (ls' := [_, _, _]) dX11_four_2 rfl (by decide) rfl ?_
  have e1 : (wrM μ (x >>> (24 &&& 31) &&& 255)).1 46 27 = nI (L + 1) := by show μ.1 46 27 + 1 = _; rw [hz]; exact nI_1 L
  have e2 : (wrM (wrM μ (x >>> (24 &&& 31) &&& 255)) (x >>> (16 &&& 31) &&& 255)).1 46 27 = nI (L + 2) := by show (wrM μ (x >>> (24 &&& 31) &&& 255)).1 46 27 + 1 = _; rw [e1]; exact nI_1 (L + 1)
  have e3 : (wrM (wrM (wrM μ (x >>> (24 &&& 31) &&& 255)) (x >>> (16 &&& 31) &&& 255)) (x >>> (8 &&& 31) &&& 255)).1 46 27 = nI (L + 3) := by show (wrM (wrM μ (x >>> (24 &&& 31) &&& 255)) (x >>> (16 &&& 31) &&& 255)).1 46 27 + 1 = _; rw [e2]; exact nI_1 (L + 2)
  refine it_X11_four (s := 24) (by omega) hz (by decide) ?_
  refine it_X11_four (s := 16) (by omega) e1 (by decide) ?_
  refine it_X11_four (s := 8) (by omega) e2 (by decide) ?_
  refine it_X11_four (s := 0) (by omega) e3 (by decide) ?_
  refine k_iload_n (pc' := 4) dX11_four_3 rfl rfl ?_
  refine k_if_lt (pc' := 7) (tg := 39) dX11_four_4 rfl (by decide) (fun c_4 => ?_) (fun c_4 => ?_)
  · skip
    exact k_vret dX11_four_39 rfl ⟨rfl, rfl⟩
  · exfalso
    exact c_4 (by decide)

