set_option maxHeartbeats 400000 in
set_option maxRecDepth 100000 in
theorem ev_X11_planned {i : Int32} {μ ν : kH} (hν : hI μ 46 0 0 = ν) (hy2 : (ν.1 46 36).toInt ≤ 20) : Ev kX11_planned [kr 46, ki i] μ (fun r h' => r = ki (if ν.1 46 36 < 0 then -1 else if i = -1 then ν.1 46 36 else if 0 ≤ i ∧ i < ν.1 46 36 then ν.1 63 i.toNatClampNeg else -1) ∧ h' = ν) := by
  have ey := k_il1 (ν.1 46 36)
  refine k_ev (ls := [_, _]) (by decide) (Nat.le_of_ble_eq_true rfl) rfl ?_
  refine k_aload_n (pc' := 1) dX11_planned_0 rfl rfl ?_
  refine k_iconst (pc' := 2) (v := 0) dX11_planned_1 rfl (by decide) ?_
  refine k_putI (pc' := 5) fw_RX11_102 dX11_planned_2 rfl rfl rfl ?_
  rw [hν]
  refine k_aload_n (pc' := 6) dX11_planned_5 rfl rfl ?_
  refine k_getI (pc' := 9) fl_RX11_72 dX11_planned_6 rfl rfl rfl ?_
  refine k_if_ge (pc' := 12) (tg := 16) dX11_planned_9 rfl (by decide) (fun c_9 => ?_) (fun c_9 => ?_)
  · skip
    refine k_iload_n (pc' := 17) dX11_planned_16 rfl rfl ?_
    refine k_iconst (pc' := 18) (v := (-1)) dX11_planned_17 rfl (by decide) ?_
    refine k_icmp_ne (pc' := 21) (tg := 28) dX11_planned_18 rfl (by decide) (fun c_18 => ?_) (fun c_18 => ?_)
    · skip
      refine k_iload_n (pc' := 29) dX11_planned_28 rfl rfl ?_
      refine k_i2l (pc' := 30) dX11_planned_29 rfl ?_
      refine k_lconst (pc' := 31) (v := 0) dX11_planned_30 rfl (by decide) ?_
      refine k_aload_n (pc' := 32) dX11_planned_31 rfl rfl ?_
      refine k_getI (pc' := 35) fl_RX11_72 dX11_planned_32 rfl rfl rfl ?_
      refine k_i2l (pc' := 36) dX11_planned_35 rfl ?_
      refine k_lconst (pc' := 37) (v := 1) dX11_planned_36 rfl (by decide) ?_
      refine k_lsub (pc' := 38) dX11_planned_37 rfl ?_
      refine k_callS3 (pc' := 41) dX11_planned_38 rfl ml_RX11_110 ⟨(Nat.le_of_ble_eq_true rfl), (Nat.le_of_ble_eq_true rfl)⟩ (Nat.le_of_ble_eq_true rfl) ev_X11_in (fun r_38 h_38 q_38 => ?_)
      obtain ⟨e_38, g_38⟩ := q_38
      rw [e_38, g_38]
      refine k_if_eq (pc' := 44) (tg := 53) dX11_planned_41 rfl (by decide) (fun c_41 => ?_) (fun c_41 => ?_)
      · skip
        refine k_iconst (pc' := 54) (v := (-1)) dX11_planned_53 rfl (by decide) ?_
        exact k_iret dX11_planned_54 rfl (by (repeat' split) <;> first | exact ⟨rfl, rfl⟩ | (exfalso; (try simp only [eq_self, not_true_eq_false, not_false_eq_true, k_b0, k_b1, k_c0, k_cl, k_cg, k_cle, k_cge] at *) <;> (try simp only [ey, eq_self, not_true_eq_false, not_false_eq_true, k_le, k_lt, k_eq, k_leL, k_ltL, k_eqL, k_il, li_m6, li_m5, li_m3, li_m2, li_m1, li_0, li_1, li_2, li_3, li_4, li_5, li_6, li_7, li_8, li_10, li_11, li_12, li_20, li_24, li_25, li_26, li_32, li_39, li_40, li_48, li_57, li_59, li_60, li_96, li_97, li_100, li_122, li_180, li_200, li_255, li_300, li_468, li_480, li_500, li_1000, li_2000, li_10000, li_10001, li_100000, li_1000000, li_100000000, lj_m1, lj_0, lj_1, lj_2, lj_3, lj_24, lj_39, lj_100, lj_500, lj_1000, lj_2000, lj_10000, lj_100000, lj_1000000, lj_100000000, lj_10, lj_20, lj_12, lj_32, lj_96] at *) <;> omega))
      · skip
        refine k_aload_n (pc' := 45) dX11_planned_44 rfl rfl ?_
        refine k_getR (pc' := 48) fl_RX11_69 dX11_planned_45 rfl rfl rfl ?_
        refine k_iload_n (pc' := 49) dX11_planned_48 rfl rfl ?_
        refine k_iald (pc' := 50) dX11_planned_49 rfl rfl (vp_in_iff.mpr (by (try simp only [eq_self, not_true_eq_false, not_false_eq_true, k_b0, k_b1, k_c0, k_cl, k_cg, k_cle, k_cge] at *) <;> (try simp only [ey, eq_self, not_true_eq_false, not_false_eq_true, k_le, k_lt, k_eq, k_leL, k_ltL, k_eqL, k_il, li_m6, li_m5, li_m3, li_m2, li_m1, li_0, li_1, li_2, li_3, li_4, li_5, li_6, li_7, li_8, li_10, li_11, li_12, li_20, li_24, li_25, li_26, li_32, li_39, li_40, li_48, li_57, li_59, li_60, li_96, li_97, li_100, li_122, li_180, li_200, li_255, li_300, li_468, li_480, li_500, li_1000, li_2000, li_10000, li_10001, li_100000, li_1000000, li_100000000, lj_m1, lj_0, lj_1, lj_2, lj_3, lj_24, lj_39, lj_100, lj_500, lj_1000, lj_2000, lj_10000, lj_100000, lj_1000000, lj_100000000, lj_10, lj_20, lj_12, lj_32, lj_96] at *) <;> omega)) ?_
        refine k_goto (tg := 54) dX11_planned_50 (by decide) ?_
        exact k_iret dX11_planned_54 rfl (by (repeat' split) <;> first | exact ⟨rfl, rfl⟩ | (exfalso; (try simp only [eq_self, not_true_eq_false, not_false_eq_true, k_b0, k_b1, k_c0, k_cl, k_cg, k_cle, k_cge] at *) <;> (try simp only [ey, eq_self, not_true_eq_false, not_false_eq_true, k_le, k_lt, k_eq, k_leL, k_ltL, k_eqL, k_il, li_m6, li_m5, li_m3, li_m2, li_m1, li_0, li_1, li_2, li_3, li_4, li_5, li_6, li_7, li_8, li_10, li_11, li_12, li_20, li_24, li_25, li_26, li_32, li_39, li_40, li_48, li_57, li_59, li_60, li_96, li_97, li_100, li_122, li_180, li_200, li_255, li_300, li_468, li_480, li_500, li_1000, li_2000, li_10000, li_10001, li_100000, li_1000000, li_100000000, lj_m1, lj_0, lj_1, lj_2, lj_3, lj_24, lj_39, lj_100, lj_500, lj_1000, lj_2000, lj_10000, lj_100000, lj_1000000, lj_100000000, lj_10, lj_20, lj_12, lj_32, lj_96] at *) <;> omega))
    · skip
      refine k_aload_n (pc' := 22) dX11_planned_21 rfl rfl ?_
      refine k_getI (pc' := 25) fl_RX11_72 dX11_planned_22 rfl rfl rfl ?_
      refine k_goto (tg := 54) dX11_planned_25 (by decide) ?_
      exact k_iret dX11_planned_54 rfl (by (repeat' split) <;> first | exact ⟨rfl, rfl⟩ | (exfalso; (try simp only [eq_self, not_true_eq_false, not_false_eq_true, k_b0, k_b1, k_c0, k_cl, k_cg, k_cle, k_cge] at *) <;> (try simp only [ey, eq_self, not_true_eq_false, not_false_eq_true, k_le, k_lt, k_eq, k_leL, k_ltL, k_eqL, k_il, li_m6, li_m5, li_m3, li_m2, li_m1, li_0, li_1, li_2, li_3, li_4, li_5, li_6, li_7, li_8, li_10, li_11, li_12, li_20, li_24, li_25, li_26, li_32, li_39, li_40, li_48, li_57, li_59, li_60, li_96, li_97, li_100, li_122, li_180, li_200, li_255, li_300, li_468, li_480, li_500, li_1000, li_2000, li_10000, li_10001, li_100000, li_1000000, li_100000000, lj_m1, lj_0, lj_1, lj_2, lj_3, lj_24, lj_39, lj_100, lj_500, lj_1000, lj_2000, lj_10000, lj_100000, lj_1000000, lj_100000000, lj_10, lj_20, lj_12, lj_32, lj_96] at *) <;> omega))
  · skip
    refine k_iconst (pc' := 13) (v := (-1)) dX11_planned_12 rfl (by decide) ?_
    refine k_goto (tg := 54) dX11_planned_13 (by decide) ?_
    exact k_iret dX11_planned_54 rfl (by (repeat' split) <;> first | exact ⟨rfl, rfl⟩ | (exfalso; (try simp only [eq_self, not_true_eq_false, not_false_eq_true, k_b0, k_b1, k_c0, k_cl, k_cg, k_cle, k_cge] at *) <;> (try simp only [ey, eq_self, not_true_eq_false, not_false_eq_true, k_le, k_lt, k_eq, k_leL, k_ltL, k_eqL, k_il, li_m6, li_m5, li_m3, li_m2, li_m1, li_0, li_1, li_2, li_3, li_4, li_5, li_6, li_7, li_8, li_10, li_11, li_12, li_20, li_24, li_25, li_26, li_32, li_39, li_40, li_48, li_57, li_59, li_60, li_96, li_97, li_100, li_122, li_180, li_200, li_255, li_300, li_468, li_480, li_500, li_1000, li_2000, li_10000, li_10001, li_100000, li_1000000, li_100000000, lj_m1, lj_0, lj_1, lj_2, lj_3, lj_24, lj_39, lj_100, lj_500, lj_1000, lj_2000, lj_10000, lj_100000, lj_1000000, lj_100000000, lj_10, lj_20, lj_12, lj_32, lj_96] at *) <;> omega))

set_option maxHeartbeats 400000 in
set_option maxRecDepth 100000 in
theorem lp_X11_stock {s g : Int32} {μ : kH} {N : Nat} (hN : N ≤ 480) (hsz : μ.1 46 37 = nI N) : ∀ (n i : Nat) (sum : Int32), i + n = N → sum = fStock (μ.1 64) (μ.1 65) (μ.1 66) s g i → At kX11_stock 32 [kr 46, ki s, ki g, ki sum, ki (nI i)] [] μ (kRet kX11_stock (fun r h' => r = ki (fStock (μ.1 64) (μ.1 65) (μ.1 66) s g N) ∧ h' = μ)) := by
  intro n
  induction n with
  | zero =>
    intro i sum hi hsum
    refine k_iload (pc' := 34) dX11_stock_32 rfl rfl ?_
    refine k_aload_n (pc' := 35) dX11_stock_34 rfl rfl ?_
    refine k_getI (pc' := 38) fl_RX11_268 dX11_stock_35 rfl rfl rfl ?_
    refine k_icmp_ge (pc' := 41) (tg := 88) dX11_stock_38 rfl (by decide) (fun c_38 => ?_) (fun c_38 => ?_)
    · skip
      refine k_iload_n (pc' := 89) dX11_stock_88 rfl rfl ?_
      exact k_iret dX11_stock_89 rfl ⟨by rw [hsum, show i = N from by omega], rfl⟩
    · exfalso
      exact c_38 (by rw [hsz]; first | exact Int32.le_refl _ | (rw [show i = N from by omega]; exact Int32.le_refl _))
  | succ n ih =>
    intro i sum hi hsum
    have hlt : i < N := by omega
    refine k_iload (pc' := 34) dX11_stock_32 rfl rfl ?_
    refine k_aload_n (pc' := 35) dX11_stock_34 rfl rfl ?_
    refine k_getI (pc' := 38) fl_RX11_268 dX11_stock_35 rfl rfl rfl ?_
    refine k_icmp_ge (pc' := 41) (tg := 88) dX11_stock_38 rfl (by decide) (fun c_38 => ?_) (fun c_38 => ?_)
    · exfalso
      rw [hsz] at c_38
      exact nI_ge hlt (by omega) c_38
    · skip
      refine k_iload_n (pc' := 42) dX11_stock_41 rfl rfl ?_
      refine k_aload_n (pc' := 43) dX11_stock_42 rfl rfl ?_
      refine k_getR (pc' := 46) fl_RX11_75 dX11_stock_43 rfl rfl rfl ?_
      refine k_iload (pc' := 48) dX11_stock_46 rfl rfl ?_
      refine k_ialdN (pc' := 49) dX11_stock_48 rfl rfl (by omega) (by decide) ?_
      refine k_iload_n (pc' := 50) dX11_stock_49 rfl rfl ?_
      refine k_icmp_ne (pc' := 53) (tg := 79) dX11_stock_50 rfl (by decide) (fun c_50 => ?_) (fun c_50 => ?_)
      · skip
        refine k_iconst (pc' := 80) (v := 0) dX11_stock_79 rfl (by decide) ?_
        refine k_iadd (pc' := 81) dX11_stock_80 rfl ?_
        refine k_istore_n (pc' := 82) (k0 := 0) (ls' := [_, _, _, _, _]) dX11_stock_81 rfl (by decide) rfl ?_
        refine k_iinc (pc' := 85) (v := nI (_ + 1)) (ls' := [_, _, _, _, _]) dX11_stock_82 rfl rfl (nI_1 _) (by decide) rfl ?_
        refine k_goto (tg := 32) dX11_stock_85 (by decide) ?_
        exact ih (i + 1) _ (by omega) (by rw [hsum, fStock]; (repeat' split) <;> first | rfl | exact (Int32.add_zero _).symm | (exfalso; (try simp only [eq_self, not_true_eq_false, not_false_eq_true, k_b0, k_b1, k_c0, k_cl, k_cg, k_cle, k_cge] at *) <;> (try simp only [eq_self, not_true_eq_false, not_false_eq_true, k_le, k_lt, k_eq, k_leL, k_ltL, k_eqL, k_il, li_m6, li_m5, li_m3, li_m2, li_m1, li_0, li_1, li_2, li_3, li_4, li_5, li_6, li_7, li_8, li_10, li_11, li_12, li_20, li_24, li_25, li_26, li_32, li_39, li_40, li_48, li_57, li_59, li_60, li_96, li_97, li_100, li_122, li_180, li_200, li_255, li_300, li_468, li_480, li_500, li_1000, li_2000, li_10000, li_10001, li_100000, li_1000000, li_100000000, lj_m1, lj_0, lj_1, lj_2, lj_3, lj_24, lj_39, lj_100, lj_500, lj_1000, lj_2000, lj_10000, lj_100000, lj_1000000, lj_100000000, lj_10, lj_20, lj_12, lj_32, lj_96] at *) <;> omega))
      · skip
        refine k_iload_n (pc' := 54) dX11_stock_53 rfl rfl ?_
        refine k_iconst (pc' := 55) (v := (-1)) dX11_stock_54 rfl (by decide) ?_
        refine k_icmp_eq (pc' := 58) (tg := 69) dX11_stock_55 rfl (by decide) (fun c_55 => ?_) (fun c_55 => ?_)
        · skip
          refine k_aload_n (pc' := 70) dX11_stock_69 rfl rfl ?_
          refine k_getR (pc' := 73) fl_RX11_81 dX11_stock_70 rfl rfl rfl ?_
          refine k_iload (pc' := 75) dX11_stock_73 rfl rfl ?_
          refine k_ialdN (pc' := 76) dX11_stock_75 rfl rfl (by omega) (by decide) ?_
          refine k_goto (tg := 80) dX11_stock_76 (by decide) ?_
          refine k_iadd (pc' := 81) dX11_stock_80 rfl ?_
          refine k_istore_n (pc' := 82) (k0 := 0) (ls' := [_, _, _, _, _]) dX11_stock_81 rfl (by decide) rfl ?_
          refine k_iinc (pc' := 85) (v := nI (_ + 1)) (ls' := [_, _, _, _, _]) dX11_stock_82 rfl rfl (nI_1 _) (by decide) rfl ?_
          refine k_goto (tg := 32) dX11_stock_85 (by decide) ?_
          exact ih (i + 1) _ (by omega) (by rw [hsum, fStock]; (repeat' split) <;> first | rfl | exact (Int32.add_zero _).symm | (exfalso; (try simp only [eq_self, not_true_eq_false, not_false_eq_true, k_b0, k_b1, k_c0, k_cl, k_cg, k_cle, k_cge] at *) <;> (try simp only [eq_self, not_true_eq_false, not_false_eq_true, k_le, k_lt, k_eq, k_leL, k_ltL, k_eqL, k_il, li_m6, li_m5, li_m3, li_m2, li_m1, li_0, li_1, li_2, li_3, li_4, li_5, li_6, li_7, li_8, li_10, li_11, li_12, li_20, li_24, li_25, li_26, li_32, li_39, li_40, li_48, li_57, li_59, li_60, li_96, li_97, li_100, li_122, li_180, li_200, li_255, li_300, li_468, li_480, li_500, li_1000, li_2000, li_10000, li_10001, li_100000, li_1000000, li_100000000, lj_m1, lj_0, lj_1, lj_2, lj_3, lj_24, lj_39, lj_100, lj_500, lj_1000, lj_2000, lj_10000, lj_100000, lj_1000000, lj_100000000, lj_10, lj_20, lj_12, lj_32, lj_96] at *) <;> omega))
        · skip
          refine k_aload_n (pc' := 59) dX11_stock_58 rfl rfl ?_
          refine k_getR (pc' := 62) fl_RX11_78 dX11_stock_59 rfl rfl rfl ?_
          refine k_iload (pc' := 64) dX11_stock_62 rfl rfl ?_
          refine k_ialdN (pc' := 65) dX11_stock_64 rfl rfl (by omega) (by decide) ?_
          refine k_iload_n (pc' := 66) dX11_stock_65 rfl rfl ?_
          refine k_icmp_ne (pc' := 69) (tg := 79) dX11_stock_66 rfl (by decide) (fun c_66 => ?_) (fun c_66 => ?_)
          · skip
            refine k_iconst (pc' := 80) (v := 0) dX11_stock_79 rfl (by decide) ?_
            refine k_iadd (pc' := 81) dX11_stock_80 rfl ?_
            refine k_istore_n (pc' := 82) (k0 := 0) (ls' := [_, _, _, _, _]) dX11_stock_81 rfl (by decide) rfl ?_
            refine k_iinc (pc' := 85) (v := nI (_ + 1)) (ls' := [_, _, _, _, _]) dX11_stock_82 rfl rfl (nI_1 _) (by decide) rfl ?_
            refine k_goto (tg := 32) dX11_stock_85 (by decide) ?_
            exact ih (i + 1) _ (by omega) (by rw [hsum, fStock]; (repeat' split) <;> first | rfl | exact (Int32.add_zero _).symm | (exfalso; (try simp only [eq_self, not_true_eq_false, not_false_eq_true, k_b0, k_b1, k_c0, k_cl, k_cg, k_cle, k_cge] at *) <;> (try simp only [eq_self, not_true_eq_false, not_false_eq_true, k_le, k_lt, k_eq, k_leL, k_ltL, k_eqL, k_il, li_m6, li_m5, li_m3, li_m2, li_m1, li_0, li_1, li_2, li_3, li_4, li_5, li_6, li_7, li_8, li_10, li_11, li_12, li_20, li_24, li_25, li_26, li_32, li_39, li_40, li_48, li_57, li_59, li_60, li_96, li_97, li_100, li_122, li_180, li_200, li_255, li_300, li_468, li_480, li_500, li_1000, li_2000, li_10000, li_10001, li_100000, li_1000000, li_100000000, lj_m1, lj_0, lj_1, lj_2, lj_3, lj_24, lj_39, lj_100, lj_500, lj_1000, lj_2000, lj_10000, lj_100000, lj_1000000, lj_100000000, lj_10, lj_20, lj_12, lj_32, lj_96] at *) <;> omega))
          · skip
            refine k_aload_n (pc' := 70) dX11_stock_69 rfl rfl ?_
            refine k_getR (pc' := 73) fl_RX11_81 dX11_stock_70 rfl rfl rfl ?_
            refine k_iload (pc' := 75) dX11_stock_73 rfl rfl ?_
            refine k_ialdN (pc' := 76) dX11_stock_75 rfl rfl (by omega) (by decide) ?_
            refine k_goto (tg := 80) dX11_stock_76 (by decide) ?_
            refine k_iadd (pc' := 81) dX11_stock_80 rfl ?_
            refine k_istore_n (pc' := 82) (k0 := 0) (ls' := [_, _, _, _, _]) dX11_stock_81 rfl (by decide) rfl ?_
            refine k_iinc (pc' := 85) (v := nI (_ + 1)) (ls' := [_, _, _, _, _]) dX11_stock_82 rfl rfl (nI_1 _) (by decide) rfl ?_
            refine k_goto (tg := 32) dX11_stock_85 (by decide) ?_
            exact ih (i + 1) _ (by omega) (by rw [hsum, fStock]; (repeat' split) <;> first | rfl | exact (Int32.add_zero _).symm | (exfalso; (try simp only [eq_self, not_true_eq_false, not_false_eq_true, k_b0, k_b1, k_c0, k_cl, k_cg, k_cle, k_cge] at *) <;> (try simp only [eq_self, not_true_eq_false, not_false_eq_true, k_le, k_lt, k_eq, k_leL, k_ltL, k_eqL, k_il, li_m6, li_m5, li_m3, li_m2, li_m1, li_0, li_1, li_2, li_3, li_4, li_5, li_6, li_7, li_8, li_10, li_11, li_12, li_20, li_24, li_25, li_26, li_32, li_39, li_40, li_48, li_57, li_59, li_60, li_96, li_97, li_100, li_122, li_180, li_200, li_255, li_300, li_468, li_480, li_500, li_1000, li_2000, li_10000, li_10001, li_100000, li_1000000, li_100000000, lj_m1, lj_0, lj_1, lj_2, lj_3, lj_24, lj_39, lj_100, lj_500, lj_1000, lj_2000, lj_10000, lj_100000, lj_1000000, lj_100000000, lj_10, lj_20, lj_12, lj_32, lj_96] at *) <;> omega))

set_option maxHeartbeats 400000 in
set_option maxRecDepth 100000 in
theorem ev_X11_stock {s g : Int32} {μ ν : kH} (hν : hI μ 46 0 0 = ν) {N : Nat} (hN : N ≤ 480) (hsz : ν.1 46 37 = nI N) : Ev kX11_stock [kr 46, ki s, ki g] μ (fun r h' => r = ki (if (0 ≤ s ∧ s ≤ 3) ∧ (g = -1 ∨ (0 ≤ g ∧ g < ν.1 46 13)) then fStock (ν.1 64) (ν.1 65) (ν.1 66) s g N else -1) ∧ h' = ν) := by
  refine k_ev (ls := [_, _, _, _, _]) (by decide) (Nat.le_of_ble_eq_true rfl) rfl ?_
  refine k_aload_n (pc' := 1) dX11_stock_0 rfl rfl ?_
  refine k_iconst (pc' := 2) (v := 0) dX11_stock_1 rfl (by decide) ?_
  refine k_putI (pc' := 5) fw_RX11_102 dX11_stock_2 rfl rfl rfl ?_
  rw [hν]
  refine k_iload_n (pc' := 6) dX11_stock_5 rfl rfl ?_
  refine k_callS1 (pc' := 9) dX11_stock_6 rfl ml_RX11_124 ⟨(Nat.le_of_ble_eq_true rfl), (Nat.le_of_ble_eq_true rfl)⟩ (Nat.le_of_ble_eq_true rfl) ev_X11_isSort2 (fun r_6 h_6 q_6 => ?_)
  obtain ⟨e_6, g_6⟩ := q_6
  rw [e_6, g_6]
  refine k_if_eq (pc' := 12) (tg := 25) dX11_stock_9 rfl (by decide) (fun c_9 => ?_) (fun c_9 => ?_)
  · skip
    refine k_iconst (pc' := 26) (v := (-1)) dX11_stock_25 rfl (by decide) ?_
    exact k_iret dX11_stock_26 rfl (by by_cases zz : (0 ≤ s ∧ s ≤ 3) ∧ (g = -1 ∨ (0 ≤ g ∧ g < ν.1 46 13)) <;> first | (rw [if_pos zz]; exact ⟨rfl, rfl⟩) | (rw [if_neg zz]; exact ⟨rfl, rfl⟩) | (exfalso; (try simp only [eq_self, not_true_eq_false, not_false_eq_true, k_b0, k_b1, k_c0, k_cl, k_cg, k_cle, k_cge] at *) <;> (try simp only [eq_self, not_true_eq_false, not_false_eq_true, k_le, k_lt, k_eq, k_leL, k_ltL, k_eqL, k_il, li_m6, li_m5, li_m3, li_m2, li_m1, li_0, li_1, li_2, li_3, li_4, li_5, li_6, li_7, li_8, li_10, li_11, li_12, li_20, li_24, li_25, li_26, li_32, li_39, li_40, li_48, li_57, li_59, li_60, li_96, li_97, li_100, li_122, li_180, li_200, li_255, li_300, li_468, li_480, li_500, li_1000, li_2000, li_10000, li_10001, li_100000, li_1000000, li_100000000, lj_m1, lj_0, lj_1, lj_2, lj_3, lj_24, lj_39, lj_100, lj_500, lj_1000, lj_2000, lj_10000, lj_100000, lj_1000000, lj_100000000, lj_10, lj_20, lj_12, lj_32, lj_96] at *) <;> omega))
  · skip
    refine k_iload_n (pc' := 13) dX11_stock_12 rfl rfl ?_
    refine k_iconst (pc' := 14) (v := (-1)) dX11_stock_13 rfl (by decide) ?_
    refine k_icmp_eq (pc' := 17) (tg := 27) dX11_stock_14 rfl (by decide) (fun c_14 => ?_) (fun c_14 => ?_)
    · skip
      refine k_iconst (pc' := 28) (v := 0) dX11_stock_27 rfl (by decide) ?_
      refine k_istore_n (pc' := 29) (k0 := 0) (ls' := [_, _, _, _, _]) dX11_stock_28 rfl (by decide) rfl ?_
      refine k_iconst (pc' := 30) (v := 0) dX11_stock_29 rfl (by decide) ?_
      refine k_istore (pc' := 32) (k0 := 0) (ls' := [_, _, _, _, _]) dX11_stock_30 rfl (by decide) rfl ?_
      rw [if_pos (show (0 ≤ s ∧ s ≤ 3) ∧ (g = -1 ∨ (0 ≤ g ∧ g < ν.1 46 13)) by (try simp only [eq_self, not_true_eq_false, not_false_eq_true, k_b0, k_b1, k_c0, k_cl, k_cg, k_cle, k_cge] at *) <;> (try simp only [eq_self, not_true_eq_false, not_false_eq_true, k_le, k_lt, k_eq, k_leL, k_ltL, k_eqL, k_il, li_m6, li_m5, li_m3, li_m2, li_m1, li_0, li_1, li_2, li_3, li_4, li_5, li_6, li_7, li_8, li_10, li_11, li_12, li_20, li_24, li_25, li_26, li_32, li_39, li_40, li_48, li_57, li_59, li_60, li_96, li_97, li_100, li_122, li_180, li_200, li_255, li_300, li_468, li_480, li_500, li_1000, li_2000, li_10000, li_10001, li_100000, li_1000000, li_100000000, lj_m1, lj_0, lj_1, lj_2, lj_3, lj_24, lj_39, lj_100, lj_500, lj_1000, lj_2000, lj_10000, lj_100000, lj_1000000, lj_100000000, lj_10, lj_20, lj_12, lj_32, lj_96] at *) <;> omega)]
      exact lp_X11_stock hN hsz N 0 0 (by omega) rfl
    · skip
      refine k_aload_n (pc' := 18) dX11_stock_17 rfl rfl ?_
      refine k_iload_n (pc' := 19) dX11_stock_18 rfl rfl ?_
      refine k_callV1 (pc' := 22) dX11_stock_19 rfl ml_RX11_149 rfl rfl ⟨(Nat.le_of_ble_eq_true rfl), (Nat.le_of_ble_eq_true rfl)⟩ (Nat.le_of_ble_eq_true rfl) ev_X11_isGarden2 (fun r_19 h_19 q_19 => ?_)
      obtain ⟨e_19, g_19⟩ := q_19
      rw [e_19, g_19]
      refine k_if_ne (pc' := 25) (tg := 27) dX11_stock_22 rfl (by decide) (fun c_22 => ?_) (fun c_22 => ?_)
      · skip
        refine k_iconst (pc' := 28) (v := 0) dX11_stock_27 rfl (by decide) ?_
        refine k_istore_n (pc' := 29) (k0 := 0) (ls' := [_, _, _, _, _]) dX11_stock_28 rfl (by decide) rfl ?_
        refine k_iconst (pc' := 30) (v := 0) dX11_stock_29 rfl (by decide) ?_
        refine k_istore (pc' := 32) (k0 := 0) (ls' := [_, _, _, _, _]) dX11_stock_30 rfl (by decide) rfl ?_
        rw [if_pos (show (0 ≤ s ∧ s ≤ 3) ∧ (g = -1 ∨ (0 ≤ g ∧ g < ν.1 46 13)) by (try simp only [eq_self, not_true_eq_false, not_false_eq_true, k_b0, k_b1, k_c0, k_cl, k_cg, k_cle, k_cge] at *) <;> (try simp only [eq_self, not_true_eq_false, not_false_eq_true, k_le, k_lt, k_eq, k_leL, k_ltL, k_eqL, k_il, li_m6, li_m5, li_m3, li_m2, li_m1, li_0, li_1, li_2, li_3, li_4, li_5, li_6, li_7, li_8, li_10, li_11, li_12, li_20, li_24, li_25, li_26, li_32, li_39, li_40, li_48, li_57, li_59, li_60, li_96, li_97, li_100, li_122, li_180, li_200, li_255, li_300, li_468, li_480, li_500, li_1000, li_2000, li_10000, li_10001, li_100000, li_1000000, li_100000000, lj_m1, lj_0, lj_1, lj_2, lj_3, lj_24, lj_39, lj_100, lj_500, lj_1000, lj_2000, lj_10000, lj_100000, lj_1000000, lj_100000000, lj_10, lj_20, lj_12, lj_32, lj_96] at *) <;> omega)]
        exact lp_X11_stock hN hsz N 0 0 (by omega) rfl
      · skip
        refine k_iconst (pc' := 26) (v := (-1)) dX11_stock_25 rfl (by decide) ?_
        exact k_iret dX11_stock_26 rfl (by by_cases zz : (0 ≤ s ∧ s ≤ 3) ∧ (g = -1 ∨ (0 ≤ g ∧ g < ν.1 46 13)) <;> first | (rw [if_pos zz]; exact ⟨rfl, rfl⟩) | (rw [if_neg zz]; exact ⟨rfl, rfl⟩) | (exfalso; (try simp only [eq_self, not_true_eq_false, not_false_eq_true, k_b0, k_b1, k_c0, k_cl, k_cg, k_cle, k_cge] at *) <;> (try simp only [eq_self, not_true_eq_false, not_false_eq_true, k_le, k_lt, k_eq, k_leL, k_ltL, k_eqL, k_il, li_m6, li_m5, li_m3, li_m2, li_m1, li_0, li_1, li_2, li_3, li_4, li_5, li_6, li_7, li_8, li_10, li_11, li_12, li_20, li_24, li_25, li_26, li_32, li_39, li_40, li_48, li_57, li_59, li_60, li_96, li_97, li_100, li_122, li_180, li_200, li_255, li_300, li_468, li_480, li_500, li_1000, li_2000, li_10000, li_10001, li_100000, li_1000000, li_100000000, lj_m1, lj_0, lj_1, lj_2, lj_3, lj_24, lj_39, lj_100, lj_500, lj_1000, lj_2000, lj_10000, lj_100000, lj_1000000, lj_100000000, lj_10, lj_20, lj_12, lj_32, lj_96] at *) <;> omega))

set_option maxHeartbeats 400000 in
set_option maxRecDepth 100000 in
theorem lp_X11_owed {s y : Int32} {μ : kH} {N : Nat} (hN : N ≤ 60) (hsz : μ.1 46 43 = nI N) : ∀ (n i : Nat) (sum : Int32), i + n = N → sum = fMiss (μ.1 67) (μ.1 70) (μ.1 69) (fun k => μ.1 68 k - μ.1 71 k) s y i → At kX11_owed 26 [kr 46, ki s, ki y, ki sum, ki (nI i)] [] μ (kRet kX11_owed (fun r h' => r = ki (fMiss (μ.1 67) (μ.1 70) (μ.1 69) (fun k => μ.1 68 k - μ.1 71 k) s y N) ∧ h' = μ)) := by
  intro n
  induction n with
  | zero =>
    intro i sum hi hsum
    refine k_iload (pc' := 28) dX11_owed_26 rfl rfl ?_
    refine k_aload_n (pc' := 29) dX11_owed_28 rfl rfl ?_
    refine k_getI (pc' := 32) fl_RX11_276 dX11_owed_29 rfl rfl rfl ?_
    refine k_icmp_ge (pc' := 35) (tg := 96) dX11_owed_32 rfl (by decide) (fun c_32 => ?_) (fun c_32 => ?_)
    · skip
      refine k_iload_n (pc' := 97) dX11_owed_96 rfl rfl ?_
      exact k_iret dX11_owed_97 rfl ⟨by rw [hsum, show i = N from by omega], rfl⟩
    · exfalso
      exact c_32 (by rw [hsz]; first | exact Int32.le_refl _ | (rw [show i = N from by omega]; exact Int32.le_refl _))
  | succ n ih =>
    intro i sum hi hsum
    have hlt : i < N := by omega
    refine k_iload (pc' := 28) dX11_owed_26 rfl rfl ?_
    refine k_aload_n (pc' := 29) dX11_owed_28 rfl rfl ?_
    refine k_getI (pc' := 32) fl_RX11_276 dX11_owed_29 rfl rfl rfl ?_
    refine k_icmp_ge (pc' := 35) (tg := 96) dX11_owed_32 rfl (by decide) (fun c_32 => ?_) (fun c_32 => ?_)
    · exfalso
      rw [hsz] at c_32
      exact nI_ge hlt (by omega) c_32
    · skip
      refine k_iload_n (pc' := 36) dX11_owed_35 rfl rfl ?_
      refine k_aload_n (pc' := 37) dX11_owed_36 rfl rfl ?_
      refine k_getR (pc' := 40) fl_RX11_84 dX11_owed_37 rfl rfl rfl ?_
      refine k_iload (pc' := 42) dX11_owed_40 rfl rfl ?_
      refine k_ialdN (pc' := 43) dX11_owed_42 rfl rfl (by omega) (by decide) ?_
      refine k_iload_n (pc' := 44) dX11_owed_43 rfl rfl ?_
      refine k_icmp_ne (pc' := 47) (tg := 87) dX11_owed_44 rfl (by decide) (fun c_44 => ?_) (fun c_44 => ?_)
      · skip
        refine k_iconst (pc' := 88) (v := 0) dX11_owed_87 rfl (by decide) ?_
        refine k_iadd (pc' := 89) dX11_owed_88 rfl ?_
        refine k_istore_n (pc' := 90) (k0 := 0) (ls' := [_, _, _, _, _]) dX11_owed_89 rfl (by decide) rfl ?_
        refine k_iinc (pc' := 93) (v := nI (_ + 1)) (ls' := [_, _, _, _, _]) dX11_owed_90 rfl rfl (nI_1 _) (by decide) rfl ?_
        refine k_goto (tg := 26) dX11_owed_93 (by decide) ?_
        exact ih (i + 1) _ (by omega) (by rw [hsum, fMiss]; (repeat' split) <;> first | rfl | exact (Int32.add_zero _).symm | (exfalso; (try simp only [eq_self, not_true_eq_false, not_false_eq_true, k_b0, k_b1, k_c0, k_cl, k_cg, k_cle, k_cge] at *) <;> (try simp only [eq_self, not_true_eq_false, not_false_eq_true, k_le, k_lt, k_eq, k_leL, k_ltL, k_eqL, k_il, li_m6, li_m5, li_m3, li_m2, li_m1, li_0, li_1, li_2, li_3, li_4, li_5, li_6, li_7, li_8, li_10, li_11, li_12, li_20, li_24, li_25, li_26, li_32, li_39, li_40, li_48, li_57, li_59, li_60, li_96, li_97, li_100, li_122, li_180, li_200, li_255, li_300, li_468, li_480, li_500, li_1000, li_2000, li_10000, li_10001, li_100000, li_1000000, li_100000000, lj_m1, lj_0, lj_1, lj_2, lj_3, lj_24, lj_39, lj_100, lj_500, lj_1000, lj_2000, lj_10000, lj_100000, lj_1000000, lj_100000000, lj_10, lj_20, lj_12, lj_32, lj_96] at *) <;> omega))
      · skip
        refine k_aload_n (pc' := 48) dX11_owed_47 rfl rfl ?_
        refine k_getR (pc' := 51) fl_RX11_93 dX11_owed_48 rfl rfl rfl ?_
        refine k_iload (pc' := 53) dX11_owed_51 rfl rfl ?_
        refine k_ialdN (pc' := 54) dX11_owed_53 rfl rfl (by omega) (by decide) ?_
        refine k_iload_n (pc' := 55) dX11_owed_54 rfl rfl ?_
        refine k_icmp_gt (pc' := 58) (tg := 87) dX11_owed_55 rfl (by decide) (fun c_55 => ?_) (fun c_55 => ?_)
        · skip
          refine k_iconst (pc' := 88) (v := 0) dX11_owed_87 rfl (by decide) ?_
          refine k_iadd (pc' := 89) dX11_owed_88 rfl ?_
          refine k_istore_n (pc' := 90) (k0 := 0) (ls' := [_, _, _, _, _]) dX11_owed_89 rfl (by decide) rfl ?_
          refine k_iinc (pc' := 93) (v := nI (_ + 1)) (ls' := [_, _, _, _, _]) dX11_owed_90 rfl rfl (nI_1 _) (by decide) rfl ?_
          refine k_goto (tg := 26) dX11_owed_93 (by decide) ?_
          exact ih (i + 1) _ (by omega) (by rw [hsum, fMiss]; (repeat' split) <;> first | rfl | exact (Int32.add_zero _).symm | (exfalso; (try simp only [eq_self, not_true_eq_false, not_false_eq_true, k_b0, k_b1, k_c0, k_cl, k_cg, k_cle, k_cge] at *) <;> (try simp only [eq_self, not_true_eq_false, not_false_eq_true, k_le, k_lt, k_eq, k_leL, k_ltL, k_eqL, k_il, li_m6, li_m5, li_m3, li_m2, li_m1, li_0, li_1, li_2, li_3, li_4, li_5, li_6, li_7, li_8, li_10, li_11, li_12, li_20, li_24, li_25, li_26, li_32, li_39, li_40, li_48, li_57, li_59, li_60, li_96, li_97, li_100, li_122, li_180, li_200, li_255, li_300, li_468, li_480, li_500, li_1000, li_2000, li_10000, li_10001, li_100000, li_1000000, li_100000000, lj_m1, lj_0, lj_1, lj_2, lj_3, lj_24, lj_39, lj_100, lj_500, lj_1000, lj_2000, lj_10000, lj_100000, lj_1000000, lj_100000000, lj_10, lj_20, lj_12, lj_32, lj_96] at *) <;> omega))
        · skip
          refine k_aload_n (pc' := 59) dX11_owed_58 rfl rfl ?_
          refine k_getR (pc' := 62) fl_RX11_90 dX11_owed_59 rfl rfl rfl ?_
          refine k_iload (pc' := 64) dX11_owed_62 rfl rfl ?_
          refine k_ialdN (pc' := 65) dX11_owed_64 rfl rfl (by omega) (by decide) ?_
          refine k_iload_n (pc' := 66) dX11_owed_65 rfl rfl ?_
          refine k_icmp_gt (pc' := 69) (tg := 87) dX11_owed_66 rfl (by decide) (fun c_66 => ?_) (fun c_66 => ?_)
          · skip
            refine k_iconst (pc' := 88) (v := 0) dX11_owed_87 rfl (by decide) ?_
            refine k_iadd (pc' := 89) dX11_owed_88 rfl ?_
            refine k_istore_n (pc' := 90) (k0 := 0) (ls' := [_, _, _, _, _]) dX11_owed_89 rfl (by decide) rfl ?_
            refine k_iinc (pc' := 93) (v := nI (_ + 1)) (ls' := [_, _, _, _, _]) dX11_owed_90 rfl rfl (nI_1 _) (by decide) rfl ?_
            refine k_goto (tg := 26) dX11_owed_93 (by decide) ?_
            exact ih (i + 1) _ (by omega) (by rw [hsum, fMiss]; (repeat' split) <;> first | rfl | exact (Int32.add_zero _).symm | (exfalso; (try simp only [eq_self, not_true_eq_false, not_false_eq_true, k_b0, k_b1, k_c0, k_cl, k_cg, k_cle, k_cge] at *) <;> (try simp only [eq_self, not_true_eq_false, not_false_eq_true, k_le, k_lt, k_eq, k_leL, k_ltL, k_eqL, k_il, li_m6, li_m5, li_m3, li_m2, li_m1, li_0, li_1, li_2, li_3, li_4, li_5, li_6, li_7, li_8, li_10, li_11, li_12, li_20, li_24, li_25, li_26, li_32, li_39, li_40, li_48, li_57, li_59, li_60, li_96, li_97, li_100, li_122, li_180, li_200, li_255, li_300, li_468, li_480, li_500, li_1000, li_2000, li_10000, li_10001, li_100000, li_1000000, li_100000000, lj_m1, lj_0, lj_1, lj_2, lj_3, lj_24, lj_39, lj_100, lj_500, lj_1000, lj_2000, lj_10000, lj_100000, lj_1000000, lj_100000000, lj_10, lj_20, lj_12, lj_32, lj_96] at *) <;> omega))
          · skip
            refine k_aload_n (pc' := 70) dX11_owed_69 rfl rfl ?_
            refine k_getR (pc' := 73) fl_RX11_87 dX11_owed_70 rfl rfl rfl ?_
            refine k_iload (pc' := 75) dX11_owed_73 rfl rfl ?_
            refine k_ialdN (pc' := 76) dX11_owed_75 rfl rfl (by omega) (by decide) ?_
            refine k_aload_n (pc' := 77) dX11_owed_76 rfl rfl ?_
            refine k_getR (pc' := 80) fl_RX11_96 dX11_owed_77 rfl rfl rfl ?_
            refine k_iload (pc' := 82) dX11_owed_80 rfl rfl ?_
            refine k_ialdN (pc' := 83) dX11_owed_82 rfl rfl (by omega) (by decide) ?_
            refine k_isub (pc' := 84) dX11_owed_83 rfl ?_
            refine k_goto (tg := 88) dX11_owed_84 (by decide) ?_
            refine k_iadd (pc' := 89) dX11_owed_88 rfl ?_
            refine k_istore_n (pc' := 90) (k0 := 0) (ls' := [_, _, _, _, _]) dX11_owed_89 rfl (by decide) rfl ?_
            refine k_iinc (pc' := 93) (v := nI (_ + 1)) (ls' := [_, _, _, _, _]) dX11_owed_90 rfl rfl (nI_1 _) (by decide) rfl ?_
            refine k_goto (tg := 26) dX11_owed_93 (by decide) ?_
            exact ih (i + 1) _ (by omega) (by rw [hsum, fMiss]; (repeat' split) <;> first | rfl | exact (Int32.add_zero _).symm | (exfalso; (try simp only [eq_self, not_true_eq_false, not_false_eq_true, k_b0, k_b1, k_c0, k_cl, k_cg, k_cle, k_cge] at *) <;> (try simp only [eq_self, not_true_eq_false, not_false_eq_true, k_le, k_lt, k_eq, k_leL, k_ltL, k_eqL, k_il, li_m6, li_m5, li_m3, li_m2, li_m1, li_0, li_1, li_2, li_3, li_4, li_5, li_6, li_7, li_8, li_10, li_11, li_12, li_20, li_24, li_25, li_26, li_32, li_39, li_40, li_48, li_57, li_59, li_60, li_96, li_97, li_100, li_122, li_180, li_200, li_255, li_300, li_468, li_480, li_500, li_1000, li_2000, li_10000, li_10001, li_100000, li_1000000, li_100000000, lj_m1, lj_0, lj_1, lj_2, lj_3, lj_24, lj_39, lj_100, lj_500, lj_1000, lj_2000, lj_10000, lj_100000, lj_1000000, lj_100000000, lj_10, lj_20, lj_12, lj_32, lj_96] at *) <;> omega))

set_option maxHeartbeats 400000 in
set_option maxRecDepth 100000 in
theorem ev_X11_owed {s k : Int32} {μ ν : kH} (hν : hI μ 46 0 0 = ν) {N : Nat} (hN : N ≤ 60) (hsz : ν.1 46 43 = nI N) : Ev kX11_owed [kr 46, ki s, ki k] μ (fun r h' => r = ki (if (0 ≤ s ∧ s ≤ 3) ∧ (0 ≤ k ∧ k ≤ 39) then fMiss (ν.1 67) (ν.1 70) (ν.1 69) (fun k => ν.1 68 k - ν.1 71 k) s k N else -1) ∧ h' = ν) := by
  refine k_ev (ls := [_, _, _, _, _]) (by decide) (Nat.le_of_ble_eq_true rfl) rfl ?_
  refine k_aload_n (pc' := 1) dX11_owed_0 rfl rfl ?_
  refine k_iconst (pc' := 2) (v := 0) dX11_owed_1 rfl (by decide) ?_
  refine k_putI (pc' := 5) fw_RX11_102 dX11_owed_2 rfl rfl rfl ?_
  rw [hν]
  refine k_iload_n (pc' := 6) dX11_owed_5 rfl rfl ?_
  refine k_callS1 (pc' := 9) dX11_owed_6 rfl ml_RX11_124 ⟨(Nat.le_of_ble_eq_true rfl), (Nat.le_of_ble_eq_true rfl)⟩ (Nat.le_of_ble_eq_true rfl) ev_X11_isSort2 (fun r_6 h_6 q_6 => ?_)
  obtain ⟨e_6, g_6⟩ := q_6
  rw [e_6, g_6]
  refine k_if_eq (pc' := 12) (tg := 19) dX11_owed_9 rfl (by decide) (fun c_9 => ?_) (fun c_9 => ?_)
  · skip
    refine k_iconst (pc' := 20) (v := (-1)) dX11_owed_19 rfl (by decide) ?_
    exact k_iret dX11_owed_20 rfl (by by_cases zz : (0 ≤ s ∧ s ≤ 3) ∧ (0 ≤ k ∧ k ≤ 39) <;> first | (rw [if_pos zz]; exact ⟨rfl, rfl⟩) | (rw [if_neg zz]; exact ⟨rfl, rfl⟩) | (exfalso; (try simp only [eq_self, not_true_eq_false, not_false_eq_true, k_b0, k_b1, k_c0, k_cl, k_cg, k_cle, k_cge] at *) <;> (try simp only [eq_self, not_true_eq_false, not_false_eq_true, k_le, k_lt, k_eq, k_leL, k_ltL, k_eqL, k_il, li_m6, li_m5, li_m3, li_m2, li_m1, li_0, li_1, li_2, li_3, li_4, li_5, li_6, li_7, li_8, li_10, li_11, li_12, li_20, li_24, li_25, li_26, li_32, li_39, li_40, li_48, li_57, li_59, li_60, li_96, li_97, li_100, li_122, li_180, li_200, li_255, li_300, li_468, li_480, li_500, li_1000, li_2000, li_10000, li_10001, li_100000, li_1000000, li_100000000, lj_m1, lj_0, lj_1, lj_2, lj_3, lj_24, lj_39, lj_100, lj_500, lj_1000, lj_2000, lj_10000, lj_100000, lj_1000000, lj_100000000, lj_10, lj_20, lj_12, lj_32, lj_96] at *) <;> omega))
  · skip
    refine k_iload_n (pc' := 13) dX11_owed_12 rfl rfl ?_
    refine k_callS1 (pc' := 16) dX11_owed_13 rfl ml_RX11_130 ⟨(Nat.le_of_ble_eq_true rfl), (Nat.le_of_ble_eq_true rfl)⟩ (Nat.le_of_ble_eq_true rfl) ev_X11_isYear2 (fun r_13 h_13 q_13 => ?_)
    obtain ⟨e_13, g_13⟩ := q_13
    rw [e_13, g_13]
    refine k_if_ne (pc' := 19) (tg := 21) dX11_owed_16 rfl (by decide) (fun c_16 => ?_) (fun c_16 => ?_)
    · skip
      refine k_iconst (pc' := 22) (v := 0) dX11_owed_21 rfl (by decide) ?_
      refine k_istore_n (pc' := 23) (k0 := 0) (ls' := [_, _, _, _, _]) dX11_owed_22 rfl (by decide) rfl ?_
      refine k_iconst (pc' := 24) (v := 0) dX11_owed_23 rfl (by decide) ?_
      refine k_istore (pc' := 26) (k0 := 0) (ls' := [_, _, _, _, _]) dX11_owed_24 rfl (by decide) rfl ?_
      rw [if_pos (show (0 ≤ s ∧ s ≤ 3) ∧ (0 ≤ k ∧ k ≤ 39) by (try simp only [eq_self, not_true_eq_false, not_false_eq_true, k_b0, k_b1, k_c0, k_cl, k_cg, k_cle, k_cge] at *) <;> (try simp only [eq_self, not_true_eq_false, not_false_eq_true, k_le, k_lt, k_eq, k_leL, k_ltL, k_eqL, k_il, li_m6, li_m5, li_m3, li_m2, li_m1, li_0, li_1, li_2, li_3, li_4, li_5, li_6, li_7, li_8, li_10, li_11, li_12, li_20, li_24, li_25, li_26, li_32, li_39, li_40, li_48, li_57, li_59, li_60, li_96, li_97, li_100, li_122, li_180, li_200, li_255, li_300, li_468, li_480, li_500, li_1000, li_2000, li_10000, li_10001, li_100000, li_1000000, li_100000000, lj_m1, lj_0, lj_1, lj_2, lj_3, lj_24, lj_39, lj_100, lj_500, lj_1000, lj_2000, lj_10000, lj_100000, lj_1000000, lj_100000000, lj_10, lj_20, lj_12, lj_32, lj_96] at *) <;> omega)]
      exact lp_X11_owed hN hsz N 0 0 (by omega) rfl
    · skip
      refine k_iconst (pc' := 20) (v := (-1)) dX11_owed_19 rfl (by decide) ?_
      exact k_iret dX11_owed_20 rfl (by by_cases zz : (0 ≤ s ∧ s ≤ 3) ∧ (0 ≤ k ∧ k ≤ 39) <;> first | (rw [if_pos zz]; exact ⟨rfl, rfl⟩) | (rw [if_neg zz]; exact ⟨rfl, rfl⟩) | (exfalso; (try simp only [eq_self, not_true_eq_false, not_false_eq_true, k_b0, k_b1, k_c0, k_cl, k_cg, k_cle, k_cge] at *) <;> (try simp only [eq_self, not_true_eq_false, not_false_eq_true, k_le, k_lt, k_eq, k_leL, k_ltL, k_eqL, k_il, li_m6, li_m5, li_m3, li_m2, li_m1, li_0, li_1, li_2, li_3, li_4, li_5, li_6, li_7, li_8, li_10, li_11, li_12, li_20, li_24, li_25, li_26, li_32, li_39, li_40, li_48, li_57, li_59, li_60, li_96, li_97, li_100, li_122, li_180, li_200, li_255, li_300, li_468, li_480, li_500, li_1000, li_2000, li_10000, li_10001, li_100000, li_1000000, li_100000000, lj_m1, lj_0, lj_1, lj_2, lj_3, lj_24, lj_39, lj_100, lj_500, lj_1000, lj_2000, lj_10000, lj_100000, lj_1000000, lj_100000000, lj_10, lj_20, lj_12, lj_32, lj_96] at *) <;> omega))

set_option maxHeartbeats 400000 in
set_option maxRecDepth 100000 in
theorem ev_X11_advance {s p d q k : Int32} {μ ν : kH} (hν : hI μ 46 0 0 = ν) (hz : 0 ≤ (ν.1 46 43).toInt) (hz2 : (ν.1 46 43).toInt ≤ 60) : Ev kX11_advance [kr 46, ki s, ki p, ki d, ki q, ki k] μ (fun r h' => if ¬ ((0 ≤ s ∧ s ≤ 3) ∧ (1 ≤ p ∧ p ≤ 10000) ∧ (0 ≤ d ∧ d ≤ 39) ∧ (0 ≤ q ∧ q ≤ 1000000) ∧ (0 ≤ k ∧ k ≤ 39)) then r = ki (-1) ∧ h' = hI ν 46 1 (kst (-1)) else if ν.1 46 43 = 60 then r = ki (-5) ∧ h' = hI ν 46 1 (kst (-5)) else r = ki (ν.1 46 43 + 1 - 1) ∧ h' = hI (hI (hI (hI (hI (hI ν 67 (ν.1 46 43).toNatClampNeg s) 68 (ν.1 46 43).toNatClampNeg p) 69 (ν.1 46 43).toNatClampNeg d) 70 (ν.1 46 43).toNatClampNeg k) 46 43 (ν.1 46 43 + 1)) 46 1 (kst (ν.1 46 43 + 1 - 1))) := by
  refine k_ev (ls := [_, _, _, _, _, _]) (by decide) (Nat.le_of_ble_eq_true rfl) rfl ?_
  refine k_aload_n (pc' := 1) dX11_advance_0 rfl rfl ?_
  refine k_iconst (pc' := 2) (v := 0) dX11_advance_1 rfl (by decide) ?_
  refine k_putI (pc' := 5) fw_RX11_102 dX11_advance_2 rfl rfl rfl ?_
  rw [hν]
  refine k_iload_n (pc' := 6) dX11_advance_5 rfl rfl ?_
  refine k_callS1 (pc' := 9) dX11_advance_6 rfl ml_RX11_124 ⟨(Nat.le_of_ble_eq_true rfl), (Nat.le_of_ble_eq_true rfl)⟩ (Nat.le_of_ble_eq_true rfl) ev_X11_isSort2 (fun r_6 h_6 q_6 => ?_)
  obtain ⟨e_6, g_6⟩ := q_6
  rw [e_6, g_6]
  refine k_if_eq (pc' := 12) (tg := 52) dX11_advance_9 rfl (by decide) (fun c_9 => ?_) (fun c_9 => ?_)
  · skip
    refine k_aload_n (pc' := 53) dX11_advance_52 rfl rfl ?_
    refine k_iconst (pc' := 54) (v := (-1)) dX11_advance_53 rfl (by decide) ?_
    refine k_callV1 (pc' := 57) dX11_advance_54 rfl ml_RX11_120 rfl rfl ⟨(Nat.le_of_ble_eq_true rfl), (Nat.le_of_ble_eq_true rfl)⟩ (Nat.le_of_ble_eq_true rfl) ev_X11_told2 (fun r_54 h_54 q_54 => ?_)
    obtain ⟨e_54, g_54⟩ := q_54
    rw [e_54, g_54]
    exact k_iret dX11_advance_57 rfl (by (repeat' split) <;> first | exact ⟨rfl, rfl⟩ | (exfalso; (try simp only [eq_self, not_true_eq_false, not_false_eq_true, k_b0, k_b1, k_c0, k_cl, k_cg, k_cle, k_cge] at *) <;> (try simp only [eq_self, not_true_eq_false, not_false_eq_true, k_le, k_lt, k_eq, k_leL, k_ltL, k_eqL, k_il, li_m6, li_m5, li_m3, li_m2, li_m1, li_0, li_1, li_2, li_3, li_4, li_5, li_6, li_7, li_8, li_10, li_11, li_12, li_20, li_24, li_25, li_26, li_32, li_39, li_40, li_48, li_57, li_59, li_60, li_96, li_97, li_100, li_122, li_180, li_200, li_255, li_300, li_468, li_480, li_500, li_1000, li_2000, li_10000, li_10001, li_100000, li_1000000, li_100000000, lj_m1, lj_0, lj_1, lj_2, lj_3, lj_24, lj_39, lj_100, lj_500, lj_1000, lj_2000, lj_10000, lj_100000, lj_1000000, lj_100000000, lj_10, lj_20, lj_12, lj_32, lj_96] at *) <;> omega))
  · skip
    refine k_iload_n (pc' := 13) dX11_advance_12 rfl rfl ?_
    refine k_i2l (pc' := 14) dX11_advance_13 rfl ?_
    refine k_lconst (pc' := 15) (v := 1) dX11_advance_14 rfl (by decide) ?_
    refine k_ldc2 (pc' := 18) dX11_advance_15 rfl kc_RX11_202 ?_
    refine k_callS3 (pc' := 21) dX11_advance_18 rfl ml_RX11_110 ⟨(Nat.le_of_ble_eq_true rfl), (Nat.le_of_ble_eq_true rfl)⟩ (Nat.le_of_ble_eq_true rfl) ev_X11_in (fun r_18 h_18 q_18 => ?_)
    obtain ⟨e_18, g_18⟩ := q_18
    rw [e_18, g_18]
    refine k_if_eq (pc' := 24) (tg := 52) dX11_advance_21 rfl (by decide) (fun c_21 => ?_) (fun c_21 => ?_)
    · skip
      refine k_aload_n (pc' := 53) dX11_advance_52 rfl rfl ?_
      refine k_iconst (pc' := 54) (v := (-1)) dX11_advance_53 rfl (by decide) ?_
      refine k_callV1 (pc' := 57) dX11_advance_54 rfl ml_RX11_120 rfl rfl ⟨(Nat.le_of_ble_eq_true rfl), (Nat.le_of_ble_eq_true rfl)⟩ (Nat.le_of_ble_eq_true rfl) ev_X11_told2 (fun r_54 h_54 q_54 => ?_)
      obtain ⟨e_54, g_54⟩ := q_54
      rw [e_54, g_54]
      exact k_iret dX11_advance_57 rfl (by (repeat' split) <;> first | exact ⟨rfl, rfl⟩ | (exfalso; (try simp only [eq_self, not_true_eq_false, not_false_eq_true, k_b0, k_b1, k_c0, k_cl, k_cg, k_cle, k_cge] at *) <;> (try simp only [eq_self, not_true_eq_false, not_false_eq_true, k_le, k_lt, k_eq, k_leL, k_ltL, k_eqL, k_il, li_m6, li_m5, li_m3, li_m2, li_m1, li_0, li_1, li_2, li_3, li_4, li_5, li_6, li_7, li_8, li_10, li_11, li_12, li_20, li_24, li_25, li_26, li_32, li_39, li_40, li_48, li_57, li_59, li_60, li_96, li_97, li_100, li_122, li_180, li_200, li_255, li_300, li_468, li_480, li_500, li_1000, li_2000, li_10000, li_10001, li_100000, li_1000000, li_100000000, lj_m1, lj_0, lj_1, lj_2, lj_3, lj_24, lj_39, lj_100, lj_500, lj_1000, lj_2000, lj_10000, lj_100000, lj_1000000, lj_100000000, lj_10, lj_20, lj_12, lj_32, lj_96] at *) <;> omega))
    · skip
      refine k_iload_n (pc' := 25) dX11_advance_24 rfl rfl ?_
      refine k_callS1 (pc' := 28) dX11_advance_25 rfl ml_RX11_130 ⟨(Nat.le_of_ble_eq_true rfl), (Nat.le_of_ble_eq_true rfl)⟩ (Nat.le_of_ble_eq_true rfl) ev_X11_isYear2 (fun r_25 h_25 q_25 => ?_)
      obtain ⟨e_25, g_25⟩ := q_25
      rw [e_25, g_25]
      refine k_if_eq (pc' := 31) (tg := 52) dX11_advance_28 rfl (by decide) (fun c_28 => ?_) (fun c_28 => ?_)
      · skip
        refine k_aload_n (pc' := 53) dX11_advance_52 rfl rfl ?_
        refine k_iconst (pc' := 54) (v := (-1)) dX11_advance_53 rfl (by decide) ?_
        refine k_callV1 (pc' := 57) dX11_advance_54 rfl ml_RX11_120 rfl rfl ⟨(Nat.le_of_ble_eq_true rfl), (Nat.le_of_ble_eq_true rfl)⟩ (Nat.le_of_ble_eq_true rfl) ev_X11_told2 (fun r_54 h_54 q_54 => ?_)
        obtain ⟨e_54, g_54⟩ := q_54
        rw [e_54, g_54]
        exact k_iret dX11_advance_57 rfl (by (repeat' split) <;> first | exact ⟨rfl, rfl⟩ | (exfalso; (try simp only [eq_self, not_true_eq_false, not_false_eq_true, k_b0, k_b1, k_c0, k_cl, k_cg, k_cle, k_cge] at *) <;> (try simp only [eq_self, not_true_eq_false, not_false_eq_true, k_le, k_lt, k_eq, k_leL, k_ltL, k_eqL, k_il, li_m6, li_m5, li_m3, li_m2, li_m1, li_0, li_1, li_2, li_3, li_4, li_5, li_6, li_7, li_8, li_10, li_11, li_12, li_20, li_24, li_25, li_26, li_32, li_39, li_40, li_48, li_57, li_59, li_60, li_96, li_97, li_100, li_122, li_180, li_200, li_255, li_300, li_468, li_480, li_500, li_1000, li_2000, li_10000, li_10001, li_100000, li_1000000, li_100000000, lj_m1, lj_0, lj_1, lj_2, lj_3, lj_24, lj_39, lj_100, lj_500, lj_1000, lj_2000, lj_10000, lj_100000, lj_1000000, lj_100000000, lj_10, lj_20, lj_12, lj_32, lj_96] at *) <;> omega))
      · skip
        refine k_iload (pc' := 33) dX11_advance_31 rfl rfl ?_
        refine k_i2l (pc' := 34) dX11_advance_33 rfl ?_
        refine k_lconst (pc' := 35) (v := 0) dX11_advance_34 rfl (by decide) ?_
        refine k_ldc2 (pc' := 38) dX11_advance_35 rfl kc_RX11_274 ?_
        refine k_callS3 (pc' := 41) dX11_advance_38 rfl ml_RX11_110 ⟨(Nat.le_of_ble_eq_true rfl), (Nat.le_of_ble_eq_true rfl)⟩ (Nat.le_of_ble_eq_true rfl) ev_X11_in (fun r_38 h_38 q_38 => ?_)
        obtain ⟨e_38, g_38⟩ := q_38
        rw [e_38, g_38]
        refine k_if_eq (pc' := 44) (tg := 52) dX11_advance_41 rfl (by decide) (fun c_41 => ?_) (fun c_41 => ?_)
        · skip
          refine k_aload_n (pc' := 53) dX11_advance_52 rfl rfl ?_
          refine k_iconst (pc' := 54) (v := (-1)) dX11_advance_53 rfl (by decide) ?_
          refine k_callV1 (pc' := 57) dX11_advance_54 rfl ml_RX11_120 rfl rfl ⟨(Nat.le_of_ble_eq_true rfl), (Nat.le_of_ble_eq_true rfl)⟩ (Nat.le_of_ble_eq_true rfl) ev_X11_told2 (fun r_54 h_54 q_54 => ?_)
          obtain ⟨e_54, g_54⟩ := q_54
          rw [e_54, g_54]
          exact k_iret dX11_advance_57 rfl (by (repeat' split) <;> first | exact ⟨rfl, rfl⟩ | (exfalso; (try simp only [eq_self, not_true_eq_false, not_false_eq_true, k_b0, k_b1, k_c0, k_cl, k_cg, k_cle, k_cge] at *) <;> (try simp only [eq_self, not_true_eq_false, not_false_eq_true, k_le, k_lt, k_eq, k_leL, k_ltL, k_eqL, k_il, li_m6, li_m5, li_m3, li_m2, li_m1, li_0, li_1, li_2, li_3, li_4, li_5, li_6, li_7, li_8, li_10, li_11, li_12, li_20, li_24, li_25, li_26, li_32, li_39, li_40, li_48, li_57, li_59, li_60, li_96, li_97, li_100, li_122, li_180, li_200, li_255, li_300, li_468, li_480, li_500, li_1000, li_2000, li_10000, li_10001, li_100000, li_1000000, li_100000000, lj_m1, lj_0, lj_1, lj_2, lj_3, lj_24, lj_39, lj_100, lj_500, lj_1000, lj_2000, lj_10000, lj_100000, lj_1000000, lj_100000000, lj_10, lj_20, lj_12, lj_32, lj_96] at *) <;> omega))
        · skip
          refine k_iload (pc' := 46) dX11_advance_44 rfl rfl ?_
          refine k_callS1 (pc' := 49) dX11_advance_46 rfl ml_RX11_130 ⟨(Nat.le_of_ble_eq_true rfl), (Nat.le_of_ble_eq_true rfl)⟩ (Nat.le_of_ble_eq_true rfl) ev_X11_isYear2 (fun r_46 h_46 q_46 => ?_)
          obtain ⟨e_46, g_46⟩ := q_46
          rw [e_46, g_46]
          refine k_if_ne (pc' := 52) (tg := 58) dX11_advance_49 rfl (by decide) (fun c_49 => ?_) (fun c_49 => ?_)
          · skip
            refine k_aload_n (pc' := 59) dX11_advance_58 rfl rfl ?_
            refine k_getI (pc' := 62) fl_RX11_276 dX11_advance_59 rfl rfl rfl ?_
            refine k_bipush (pc' := 64) (v := 60) dX11_advance_62 rfl (by decide) ?_
            refine k_icmp_ne (pc' := 67) (tg := 74) dX11_advance_64 rfl (by decide) (fun c_64 => ?_) (fun c_64 => ?_)
            · skip
              refine k_aload_n (pc' := 75) dX11_advance_74 rfl rfl ?_
              refine k_getR (pc' := 78) fl_RX11_84 dX11_advance_75 rfl rfl rfl ?_
              refine k_aload_n (pc' := 79) dX11_advance_78 rfl rfl ?_
              refine k_getI (pc' := 82) fl_RX11_276 dX11_advance_79 rfl rfl rfl ?_
              refine k_iload_n (pc' := 83) dX11_advance_82 rfl rfl ?_
              refine k_iast (pc' := 84) dX11_advance_83 rfl rfl (vp_in_iff.mpr (by show 0 ≤ (ν.1 46 43).toInt ∧ (ν.1 46 43).toInt < 60; (try simp only [eq_self, not_true_eq_false, not_false_eq_true, k_b0, k_b1, k_c0, k_cl, k_cg, k_cle, k_cge] at *) <;> (try simp only [eq_self, not_true_eq_false, not_false_eq_true, k_le, k_lt, k_eq, k_leL, k_ltL, k_eqL, k_il, li_m6, li_m5, li_m3, li_m2, li_m1, li_0, li_1, li_2, li_3, li_4, li_5, li_6, li_7, li_8, li_10, li_11, li_12, li_20, li_24, li_25, li_26, li_32, li_39, li_40, li_48, li_57, li_59, li_60, li_96, li_97, li_100, li_122, li_180, li_200, li_255, li_300, li_468, li_480, li_500, li_1000, li_2000, li_10000, li_10001, li_100000, li_1000000, li_100000000, lj_m1, lj_0, lj_1, lj_2, lj_3, lj_24, lj_39, lj_100, lj_500, lj_1000, lj_2000, lj_10000, lj_100000, lj_1000000, lj_100000000, lj_10, lj_20, lj_12, lj_32, lj_96] at *) <;> omega)) ?_
              refine k_aload_n (pc' := 85) dX11_advance_84 rfl rfl ?_
              refine k_getR (pc' := 88) fl_RX11_87 dX11_advance_85 rfl rfl rfl ?_
              refine k_aload_n (pc' := 89) dX11_advance_88 rfl rfl ?_
              refine k_getI (pc' := 92) fl_RX11_276 dX11_advance_89 rfl rfl rfl ?_
              refine k_iload_n (pc' := 93) dX11_advance_92 rfl rfl ?_
              refine k_iast (pc' := 94) dX11_advance_93 rfl rfl (vp_in_iff.mpr (by show 0 ≤ (ν.1 46 43).toInt ∧ (ν.1 46 43).toInt < 60; (try simp only [eq_self, not_true_eq_false, not_false_eq_true, k_b0, k_b1, k_c0, k_cl, k_cg, k_cle, k_cge] at *) <;> (try simp only [eq_self, not_true_eq_false, not_false_eq_true, k_le, k_lt, k_eq, k_leL, k_ltL, k_eqL, k_il, li_m6, li_m5, li_m3, li_m2, li_m1, li_0, li_1, li_2, li_3, li_4, li_5, li_6, li_7, li_8, li_10, li_11, li_12, li_20, li_24, li_25, li_26, li_32, li_39, li_40, li_48, li_57, li_59, li_60, li_96, li_97, li_100, li_122, li_180, li_200, li_255, li_300, li_468, li_480, li_500, li_1000, li_2000, li_10000, li_10001, li_100000, li_1000000, li_100000000, lj_m1, lj_0, lj_1, lj_2, lj_3, lj_24, lj_39, lj_100, lj_500, lj_1000, lj_2000, lj_10000, lj_100000, lj_1000000, lj_100000000, lj_10, lj_20, lj_12, lj_32, lj_96] at *) <;> omega)) ?_
              refine k_aload_n (pc' := 95) dX11_advance_94 rfl rfl ?_
              refine k_getR (pc' := 98) fl_RX11_90 dX11_advance_95 rfl rfl rfl ?_
              refine k_aload_n (pc' := 99) dX11_advance_98 rfl rfl ?_
              refine k_getI (pc' := 102) fl_RX11_276 dX11_advance_99 rfl rfl rfl ?_
              refine k_iload_n (pc' := 103) dX11_advance_102 rfl rfl ?_
              refine k_iast (pc' := 104) dX11_advance_103 rfl rfl (vp_in_iff.mpr (by show 0 ≤ (ν.1 46 43).toInt ∧ (ν.1 46 43).toInt < 60; (try simp only [eq_self, not_true_eq_false, not_false_eq_true, k_b0, k_b1, k_c0, k_cl, k_cg, k_cle, k_cge] at *) <;> (try simp only [eq_self, not_true_eq_false, not_false_eq_true, k_le, k_lt, k_eq, k_leL, k_ltL, k_eqL, k_il, li_m6, li_m5, li_m3, li_m2, li_m1, li_0, li_1, li_2, li_3, li_4, li_5, li_6, li_7, li_8, li_10, li_11, li_12, li_20, li_24, li_25, li_26, li_32, li_39, li_40, li_48, li_57, li_59, li_60, li_96, li_97, li_100, li_122, li_180, li_200, li_255, li_300, li_468, li_480, li_500, li_1000, li_2000, li_10000, li_10001, li_100000, li_1000000, li_100000000, lj_m1, lj_0, lj_1, lj_2, lj_3, lj_24, lj_39, lj_100, lj_500, lj_1000, lj_2000, lj_10000, lj_100000, lj_1000000, lj_100000000, lj_10, lj_20, lj_12, lj_32, lj_96] at *) <;> omega)) ?_
              refine k_aload_n (pc' := 105) dX11_advance_104 rfl rfl ?_
              refine k_getR (pc' := 108) fl_RX11_93 dX11_advance_105 rfl rfl rfl ?_
              refine k_aload_n (pc' := 109) dX11_advance_108 rfl rfl ?_
              refine k_getI (pc' := 112) fl_RX11_276 dX11_advance_109 rfl rfl rfl ?_
              refine k_iload (pc' := 114) dX11_advance_112 rfl rfl ?_
              refine k_iast (pc' := 115) dX11_advance_114 rfl rfl (vp_in_iff.mpr (by show 0 ≤ (ν.1 46 43).toInt ∧ (ν.1 46 43).toInt < 60; (try simp only [eq_self, not_true_eq_false, not_false_eq_true, k_b0, k_b1, k_c0, k_cl, k_cg, k_cle, k_cge] at *) <;> (try simp only [eq_self, not_true_eq_false, not_false_eq_true, k_le, k_lt, k_eq, k_leL, k_ltL, k_eqL, k_il, li_m6, li_m5, li_m3, li_m2, li_m1, li_0, li_1, li_2, li_3, li_4, li_5, li_6, li_7, li_8, li_10, li_11, li_12, li_20, li_24, li_25, li_26, li_32, li_39, li_40, li_48, li_57, li_59, li_60, li_96, li_97, li_100, li_122, li_180, li_200, li_255, li_300, li_468, li_480, li_500, li_1000, li_2000, li_10000, li_10001, li_100000, li_1000000, li_100000000, lj_m1, lj_0, lj_1, lj_2, lj_3, lj_24, lj_39, lj_100, lj_500, lj_1000, lj_2000, lj_10000, lj_100000, lj_1000000, lj_100000000, lj_10, lj_20, lj_12, lj_32, lj_96] at *) <;> omega)) ?_
              refine k_aload_n (pc' := 116) dX11_advance_115 rfl rfl ?_
              refine k_dup (pc' := 117) dX11_advance_116 rfl rfl ?_
              refine k_getI (pc' := 120) fl_RX11_276 dX11_advance_117 rfl rfl rfl ?_
              refine k_iconst (pc' := 121) (v := 1) dX11_advance_120 rfl (by decide) ?_
              refine k_iadd (pc' := 122) dX11_advance_121 rfl ?_
              refine k_putI (pc' := 125) fw_RX11_276 dX11_advance_122 rfl rfl rfl ?_
              refine k_aload_n (pc' := 126) dX11_advance_125 rfl rfl ?_
              refine k_aload_n (pc' := 127) dX11_advance_126 rfl rfl ?_
              refine k_getI (pc' := 130) fl_RX11_276 dX11_advance_127 rfl rfl rfl ?_
              refine k_iconst (pc' := 131) (v := 1) dX11_advance_130 rfl (by decide) ?_
              refine k_isub (pc' := 132) dX11_advance_131 rfl ?_
              refine k_callV1 (pc' := 135) dX11_advance_132 rfl ml_RX11_120 rfl rfl ⟨(Nat.le_of_ble_eq_true rfl), (Nat.le_of_ble_eq_true rfl)⟩ (Nat.le_of_ble_eq_true rfl) ev_X11_told2 (fun r_132 h_132 q_132 => ?_)
              obtain ⟨e_132, g_132⟩ := q_132
              rw [e_132, g_132]
              exact k_iret dX11_advance_135 rfl (by (repeat' split) <;> first | exact ⟨rfl, rfl⟩ | (exfalso; (try simp only [eq_self, not_true_eq_false, not_false_eq_true, k_b0, k_b1, k_c0, k_cl, k_cg, k_cle, k_cge] at *) <;> (try simp only [eq_self, not_true_eq_false, not_false_eq_true, k_le, k_lt, k_eq, k_leL, k_ltL, k_eqL, k_il, li_m6, li_m5, li_m3, li_m2, li_m1, li_0, li_1, li_2, li_3, li_4, li_5, li_6, li_7, li_8, li_10, li_11, li_12, li_20, li_24, li_25, li_26, li_32, li_39, li_40, li_48, li_57, li_59, li_60, li_96, li_97, li_100, li_122, li_180, li_200, li_255, li_300, li_468, li_480, li_500, li_1000, li_2000, li_10000, li_10001, li_100000, li_1000000, li_100000000, lj_m1, lj_0, lj_1, lj_2, lj_3, lj_24, lj_39, lj_100, lj_500, lj_1000, lj_2000, lj_10000, lj_100000, lj_1000000, lj_100000000, lj_10, lj_20, lj_12, lj_32, lj_96] at *) <;> omega))
            · skip
              refine k_aload_n (pc' := 68) dX11_advance_67 rfl rfl ?_
              refine k_bipush (pc' := 70) (v := (-5)) dX11_advance_68 rfl (by decide) ?_
              refine k_callV1 (pc' := 73) dX11_advance_70 rfl ml_RX11_120 rfl rfl ⟨(Nat.le_of_ble_eq_true rfl), (Nat.le_of_ble_eq_true rfl)⟩ (Nat.le_of_ble_eq_true rfl) ev_X11_told2 (fun r_70 h_70 q_70 => ?_)
              obtain ⟨e_70, g_70⟩ := q_70
              rw [e_70, g_70]
              exact k_iret dX11_advance_73 rfl (by (repeat' split) <;> first | exact ⟨rfl, rfl⟩ | (exfalso; (try simp only [eq_self, not_true_eq_false, not_false_eq_true, k_b0, k_b1, k_c0, k_cl, k_cg, k_cle, k_cge] at *) <;> (try simp only [eq_self, not_true_eq_false, not_false_eq_true, k_le, k_lt, k_eq, k_leL, k_ltL, k_eqL, k_il, li_m6, li_m5, li_m3, li_m2, li_m1, li_0, li_1, li_2, li_3, li_4, li_5, li_6, li_7, li_8, li_10, li_11, li_12, li_20, li_24, li_25, li_26, li_32, li_39, li_40, li_48, li_57, li_59, li_60, li_96, li_97, li_100, li_122, li_180, li_200, li_255, li_300, li_468, li_480, li_500, li_1000, li_2000, li_10000, li_10001, li_100000, li_1000000, li_100000000, lj_m1, lj_0, lj_1, lj_2, lj_3, lj_24, lj_39, lj_100, lj_500, lj_1000, lj_2000, lj_10000, lj_100000, lj_1000000, lj_100000000, lj_10, lj_20, lj_12, lj_32, lj_96] at *) <;> omega))
          · skip
            refine k_aload_n (pc' := 53) dX11_advance_52 rfl rfl ?_
            refine k_iconst (pc' := 54) (v := (-1)) dX11_advance_53 rfl (by decide) ?_
            refine k_callV1 (pc' := 57) dX11_advance_54 rfl ml_RX11_120 rfl rfl ⟨(Nat.le_of_ble_eq_true rfl), (Nat.le_of_ble_eq_true rfl)⟩ (Nat.le_of_ble_eq_true rfl) ev_X11_told2 (fun r_54 h_54 q_54 => ?_)
            obtain ⟨e_54, g_54⟩ := q_54
            rw [e_54, g_54]
            exact k_iret dX11_advance_57 rfl (by (repeat' split) <;> first | exact ⟨rfl, rfl⟩ | (exfalso; (try simp only [eq_self, not_true_eq_false, not_false_eq_true, k_b0, k_b1, k_c0, k_cl, k_cg, k_cle, k_cge] at *) <;> (try simp only [eq_self, not_true_eq_false, not_false_eq_true, k_le, k_lt, k_eq, k_leL, k_ltL, k_eqL, k_il, li_m6, li_m5, li_m3, li_m2, li_m1, li_0, li_1, li_2, li_3, li_4, li_5, li_6, li_7, li_8, li_10, li_11, li_12, li_20, li_24, li_25, li_26, li_32, li_39, li_40, li_48, li_57, li_59, li_60, li_96, li_97, li_100, li_122, li_180, li_200, li_255, li_300, li_468, li_480, li_500, li_1000, li_2000, li_10000, li_10001, li_100000, li_1000000, li_100000000, lj_m1, lj_0, lj_1, lj_2, lj_3, lj_24, lj_39, lj_100, lj_500, lj_1000, lj_2000, lj_10000, lj_100000, lj_1000000, lj_100000000, lj_10, lj_20, lj_12, lj_32, lj_96] at *) <;> omega))

set_option maxHeartbeats 400000 in
set_option maxRecDepth 100000 in
theorem ev_X11_led {a g : Int32} {μ ν : kH} (hν : hI μ 46 0 0 = ν) (hz2 : (ν.1 46 43).toInt ≤ 60) (hg2 : (ν.1 46 13).toInt ≤ 12) : Ev kX11_led [kr 46, ki a, ki g] μ (fun r h' => r = ki (if (0 ≤ a ∧ a < ν.1 46 43) ∧ (0 ≤ g ∧ g < ν.1 46 13) then ν.1 72 (12 * a + g).toNatClampNeg else -1) ∧ h' = ν) := by
  have ey := k_il1 (ν.1 46 43)
  refine k_ev (ls := [_, _, _]) (by decide) (Nat.le_of_ble_eq_true rfl) rfl ?_
  refine k_aload_n (pc' := 1) dX11_led_0 rfl rfl ?_
  refine k_iconst (pc' := 2) (v := 0) dX11_led_1 rfl (by decide) ?_
  refine k_putI (pc' := 5) fw_RX11_102 dX11_led_2 rfl rfl rfl ?_
  rw [hν]
  refine k_iload_n (pc' := 6) dX11_led_5 rfl rfl ?_
  refine k_i2l (pc' := 7) dX11_led_6 rfl ?_
  refine k_lconst (pc' := 8) (v := 0) dX11_led_7 rfl (by decide) ?_
  refine k_aload_n (pc' := 9) dX11_led_8 rfl rfl ?_
  refine k_getI (pc' := 12) fl_RX11_276 dX11_led_9 rfl rfl rfl ?_
  refine k_i2l (pc' := 13) dX11_led_12 rfl ?_
  refine k_lconst (pc' := 14) (v := 1) dX11_led_13 rfl (by decide) ?_
  refine k_lsub (pc' := 15) dX11_led_14 rfl ?_
  refine k_callS3 (pc' := 18) dX11_led_15 rfl ml_RX11_110 ⟨(Nat.le_of_ble_eq_true rfl), (Nat.le_of_ble_eq_true rfl)⟩ (Nat.le_of_ble_eq_true rfl) ev_X11_in (fun r_15 h_15 q_15 => ?_)
  obtain ⟨e_15, g_15⟩ := q_15
  rw [e_15, g_15]
  refine k_if_eq (pc' := 21) (tg := 43) dX11_led_18 rfl (by decide) (fun c_18 => ?_) (fun c_18 => ?_)
  · skip
    refine k_iconst (pc' := 44) (v := (-1)) dX11_led_43 rfl (by decide) ?_
    exact k_iret dX11_led_44 rfl (by by_cases zz : (0 ≤ a ∧ a < ν.1 46 43) ∧ (0 ≤ g ∧ g < ν.1 46 13) <;> first | (rw [if_pos zz]; exact ⟨rfl, rfl⟩) | (rw [if_neg zz]; exact ⟨rfl, rfl⟩) | (exfalso; (try simp only [eq_self, not_true_eq_false, not_false_eq_true, k_b0, k_b1, k_c0, k_cl, k_cg, k_cle, k_cge] at *) <;> (try simp only [ey, eq_self, not_true_eq_false, not_false_eq_true, k_le, k_lt, k_eq, k_leL, k_ltL, k_eqL, k_il, li_m6, li_m5, li_m3, li_m2, li_m1, li_0, li_1, li_2, li_3, li_4, li_5, li_6, li_7, li_8, li_10, li_11, li_12, li_20, li_24, li_25, li_26, li_32, li_39, li_40, li_48, li_57, li_59, li_60, li_96, li_97, li_100, li_122, li_180, li_200, li_255, li_300, li_468, li_480, li_500, li_1000, li_2000, li_10000, li_10001, li_100000, li_1000000, li_100000000, lj_m1, lj_0, lj_1, lj_2, lj_3, lj_24, lj_39, lj_100, lj_500, lj_1000, lj_2000, lj_10000, lj_100000, lj_1000000, lj_100000000, lj_10, lj_20, lj_12, lj_32, lj_96] at *) <;> omega))
  · skip
    refine k_aload_n (pc' := 22) dX11_led_21 rfl rfl ?_
    refine k_iload_n (pc' := 23) dX11_led_22 rfl rfl ?_
    refine k_callV1 (pc' := 26) dX11_led_23 rfl ml_RX11_149 rfl rfl ⟨(Nat.le_of_ble_eq_true rfl), (Nat.le_of_ble_eq_true rfl)⟩ (Nat.le_of_ble_eq_true rfl) ev_X11_isGarden2 (fun r_23 h_23 q_23 => ?_)
    obtain ⟨e_23, g_23⟩ := q_23
    rw [e_23, g_23]
    refine k_if_eq (pc' := 29) (tg := 43) dX11_led_26 rfl (by decide) (fun c_26 => ?_) (fun c_26 => ?_)
    · skip
      refine k_iconst (pc' := 44) (v := (-1)) dX11_led_43 rfl (by decide) ?_
      exact k_iret dX11_led_44 rfl (by by_cases zz : (0 ≤ a ∧ a < ν.1 46 43) ∧ (0 ≤ g ∧ g < ν.1 46 13) <;> first | (rw [if_pos zz]; exact ⟨rfl, rfl⟩) | (rw [if_neg zz]; exact ⟨rfl, rfl⟩) | (exfalso; (try simp only [eq_self, not_true_eq_false, not_false_eq_true, k_b0, k_b1, k_c0, k_cl, k_cg, k_cle, k_cge] at *) <;> (try simp only [ey, eq_self, not_true_eq_false, not_false_eq_true, k_le, k_lt, k_eq, k_leL, k_ltL, k_eqL, k_il, li_m6, li_m5, li_m3, li_m2, li_m1, li_0, li_1, li_2, li_3, li_4, li_5, li_6, li_7, li_8, li_10, li_11, li_12, li_20, li_24, li_25, li_26, li_32, li_39, li_40, li_48, li_57, li_59, li_60, li_96, li_97, li_100, li_122, li_180, li_200, li_255, li_300, li_468, li_480, li_500, li_1000, li_2000, li_10000, li_10001, li_100000, li_1000000, li_100000000, lj_m1, lj_0, lj_1, lj_2, lj_3, lj_24, lj_39, lj_100, lj_500, lj_1000, lj_2000, lj_10000, lj_100000, lj_1000000, lj_100000000, lj_10, lj_20, lj_12, lj_32, lj_96] at *) <;> omega))
    · skip
      refine k_aload_n (pc' := 30) dX11_led_29 rfl rfl ?_
      refine k_getR (pc' := 33) fl_RX11_99 dX11_led_30 rfl rfl rfl ?_
      refine k_bipush (pc' := 35) (v := 12) dX11_led_33 rfl (by decide) ?_
      refine k_iload_n (pc' := 36) dX11_led_35 rfl rfl ?_
      refine k_imul (pc' := 37) dX11_led_36 rfl ?_
      refine k_iload_n (pc' := 38) dX11_led_37 rfl rfl ?_
      refine k_iadd (pc' := 39) dX11_led_38 rfl ?_
      refine k_iald (pc' := 40) dX11_led_39 rfl rfl (vp_in_iff.mpr (by have b1 : 0 ≤ a.toInt ∧ a.toInt < 60 ∧ 0 ≤ g.toInt ∧ g.toInt < 12 := (by (try simp only [eq_self, not_true_eq_false, not_false_eq_true, k_b0, k_b1, k_c0, k_cl, k_cg, k_cle, k_cge] at *) <;> (try simp only [ey, eq_self, not_true_eq_false, not_false_eq_true, k_le, k_lt, k_eq, k_leL, k_ltL, k_eqL, k_il, li_m6, li_m5, li_m3, li_m2, li_m1, li_0, li_1, li_2, li_3, li_4, li_5, li_6, li_7, li_8, li_10, li_11, li_12, li_20, li_24, li_25, li_26, li_32, li_39, li_40, li_48, li_57, li_59, li_60, li_96, li_97, li_100, li_122, li_180, li_200, li_255, li_300, li_468, li_480, li_500, li_1000, li_2000, li_10000, li_10001, li_100000, li_1000000, li_100000000, lj_m1, lj_0, lj_1, lj_2, lj_3, lj_24, lj_39, lj_100, lj_500, lj_1000, lj_2000, lj_10000, lj_100000, lj_1000000, lj_100000000, lj_10, lj_20, lj_12, lj_32, lj_96] at *) <;> omega); have e1 : ((12 : Int32) * a).toInt = 12 * a.toInt := (by rw [k_mul (by rw [li_12]; omega), li_12]); rw [k_add (by rw [e1]; omega), e1]; omega)) ?_
      refine k_goto (tg := 44) dX11_led_40 (by decide) ?_
      exact k_iret dX11_led_44 rfl (by by_cases zz : (0 ≤ a ∧ a < ν.1 46 43) ∧ (0 ≤ g ∧ g < ν.1 46 13) <;> first | (rw [if_pos zz]; exact ⟨rfl, rfl⟩) | (rw [if_neg zz]; exact ⟨rfl, rfl⟩) | (exfalso; (try simp only [eq_self, not_true_eq_false, not_false_eq_true, k_b0, k_b1, k_c0, k_cl, k_cg, k_cle, k_cge] at *) <;> (try simp only [ey, eq_self, not_true_eq_false, not_false_eq_true, k_le, k_lt, k_eq, k_leL, k_ltL, k_eqL, k_il, li_m6, li_m5, li_m3, li_m2, li_m1, li_0, li_1, li_2, li_3, li_4, li_5, li_6, li_7, li_8, li_10, li_11, li_12, li_20, li_24, li_25, li_26, li_32, li_39, li_40, li_48, li_57, li_59, li_60, li_96, li_97, li_100, li_122, li_180, li_200, li_255, li_300, li_468, li_480, li_500, li_1000, li_2000, li_10000, li_10001, li_100000, li_1000000, li_100000000, lj_m1, lj_0, lj_1, lj_2, lj_3, lj_24, lj_39, lj_100, lj_500, lj_1000, lj_2000, lj_10000, lj_100000, lj_1000000, lj_100000000, lj_10, lj_20, lj_12, lj_32, lj_96] at *) <;> omega))

set_option maxHeartbeats 400000 in
set_option maxRecDepth 100000 in
theorem ev_X10_led {a g : Int32} {μ : kH} (ha : 0 ≤ (μ.1 40 5).toInt) (ha2 : (μ.1 40 5).toInt ≤ 60) (hg : 0 ≤ (μ.1 11 2).toInt) (hg2 : (μ.1 11 2).toInt ≤ 12) : Ev kX10_led [kr 0, ki a, ki g] μ (fun r h' => r = ki (if (0 ≤ a ∧ a < μ.1 40 5) ∧ (0 ≤ g ∧ g < μ.1 11 2) then μ.1 45 (a * 12 + g).toNatClampNeg else -1) ∧ h' = μ) := by
  refine k_ev (ls := [_, _, _]) (by decide) (Nat.le_of_ble_eq_true rfl) rfl ?_
  refine k_aload_n (pc' := 1) dX10_led_0 rfl rfl ?_
  refine k_getR (pc' := 4) fl_RX10_81 dX10_led_1 rfl rfl rfl ?_
  refine k_iload_n (pc' := 5) dX10_led_4 rfl rfl ?_
  refine k_callV1 (pc' := 8) dX10_led_5 rfl ml_RX10_224 rfl rfl ⟨(Nat.le_of_ble_eq_true rfl), (Nat.le_of_ble_eq_true rfl)⟩ (Nat.le_of_ble_eq_true rfl) (ev_X0_has2 ha) (fun r_5 h_5 q_5 => ?_)
  obtain ⟨e_5, g_5⟩ := q_5
  rw [e_5, g_5]
  refine k_if_eq (pc' := 11) (tg := 22) dX10_led_8 rfl (by decide) (fun c_8 => ?_) (fun c_8 => ?_)
  · skip
    refine k_iconst (pc' := 23) (v := (-1)) dX10_led_22 rfl (by decide) ?_
    exact k_iret dX10_led_23 rfl (by by_cases zz : (0 ≤ a ∧ a < μ.1 40 5) ∧ (0 ≤ g ∧ g < μ.1 11 2) <;> first | (rw [if_pos zz]; exact ⟨rfl, rfl⟩) | (rw [if_neg zz]; exact ⟨rfl, rfl⟩) | (exfalso; (try simp only [eq_self, not_true_eq_false, not_false_eq_true, k_b0, k_b1, k_c0, k_cl, k_cg, k_cle, k_cge] at *) <;> (try simp only [eq_self, not_true_eq_false, not_false_eq_true, k_le, k_lt, k_eq, k_leL, k_ltL, k_eqL, k_il, li_m6, li_m5, li_m3, li_m2, li_m1, li_0, li_1, li_2, li_3, li_4, li_5, li_6, li_7, li_8, li_10, li_11, li_12, li_20, li_24, li_25, li_26, li_32, li_39, li_40, li_48, li_57, li_59, li_60, li_96, li_97, li_100, li_122, li_180, li_200, li_255, li_300, li_468, li_480, li_500, li_1000, li_2000, li_10000, li_10001, li_100000, li_1000000, li_100000000, lj_m1, lj_0, lj_1, lj_2, lj_3, lj_24, lj_39, lj_100, lj_500, lj_1000, lj_2000, lj_10000, lj_100000, lj_1000000, lj_100000000, lj_10, lj_20, lj_12, lj_32, lj_96] at *) <;> omega))
  · skip
    refine k_aload_n (pc' := 12) dX10_led_11 rfl rfl ?_
    refine k_getR (pc' := 15) fl_RX10_35 dX10_led_12 rfl rfl rfl ?_
    refine k_iload_n (pc' := 16) dX10_led_15 rfl rfl ?_
    refine k_callV1 (pc' := 19) dX10_led_16 rfl ml_RX10_133 rfl rfl ⟨(Nat.le_of_ble_eq_true rfl), (Nat.le_of_ble_eq_true rfl)⟩ (Nat.le_of_ble_eq_true rfl) (ev_X1_has2 hg) (fun r_16 h_16 q_16 => ?_)
    obtain ⟨e_16, g_16⟩ := q_16
    rw [e_16, g_16]
    refine k_if_ne (pc' := 22) (tg := 24) dX10_led_19 rfl (by decide) (fun c_19 => ?_) (fun c_19 => ?_)
    · skip
      refine k_aload_n (pc' := 25) dX10_led_24 rfl rfl ?_
      refine k_getR (pc' := 28) fl_RX10_81 dX10_led_25 rfl rfl rfl ?_
      refine k_iload_n (pc' := 29) dX10_led_28 rfl rfl ?_
      refine k_iload_n (pc' := 30) dX10_led_29 rfl rfl ?_
      refine k_callV2 (pc' := 33) dX10_led_30 rfl ml_RX10_232 rfl rfl ⟨(Nat.le_of_ble_eq_true rfl), (Nat.le_of_ble_eq_true rfl)⟩ (Nat.le_of_ble_eq_true rfl) (ev_X0_cameFrom (vp_in_iff.mpr (by have b1 : 0 ≤ a.toInt ∧ a.toInt < 60 ∧ 0 ≤ g.toInt ∧ g.toInt < 12 := (by (try simp only [eq_self, not_true_eq_false, not_false_eq_true, k_b0, k_b1, k_c0, k_cl, k_cg, k_cle, k_cge] at *) <;> (try simp only [eq_self, not_true_eq_false, not_false_eq_true, k_le, k_lt, k_eq, k_leL, k_ltL, k_eqL, k_il, li_m6, li_m5, li_m3, li_m2, li_m1, li_0, li_1, li_2, li_3, li_4, li_5, li_6, li_7, li_8, li_10, li_11, li_12, li_20, li_24, li_25, li_26, li_32, li_39, li_40, li_48, li_57, li_59, li_60, li_96, li_97, li_100, li_122, li_180, li_200, li_255, li_300, li_468, li_480, li_500, li_1000, li_2000, li_10000, li_10001, li_100000, li_1000000, li_100000000, lj_m1, lj_0, lj_1, lj_2, lj_3, lj_24, lj_39, lj_100, lj_500, lj_1000, lj_2000, lj_10000, lj_100000, lj_1000000, lj_100000000, lj_10, lj_20, lj_12, lj_32, lj_96] at *) <;> omega); have e1 : (a * (12 : Int32)).toInt = a.toInt * 12 := (by rw [k_mul (by rw [li_12]; omega), li_12]); rw [k_add (by rw [e1]; omega), e1]; omega))) (fun r_30 h_30 q_30 => ?_)
      obtain ⟨e_30, g_30⟩ := q_30
      rw [e_30, g_30]
      exact k_iret dX10_led_33 rfl (by by_cases zz : (0 ≤ a ∧ a < μ.1 40 5) ∧ (0 ≤ g ∧ g < μ.1 11 2) <;> first | (rw [if_pos zz]; exact ⟨rfl, rfl⟩) | (rw [if_neg zz]; exact ⟨rfl, rfl⟩) | (exfalso; (try simp only [eq_self, not_true_eq_false, not_false_eq_true, k_b0, k_b1, k_c0, k_cl, k_cg, k_cle, k_cge] at *) <;> (try simp only [eq_self, not_true_eq_false, not_false_eq_true, k_le, k_lt, k_eq, k_leL, k_ltL, k_eqL, k_il, li_m6, li_m5, li_m3, li_m2, li_m1, li_0, li_1, li_2, li_3, li_4, li_5, li_6, li_7, li_8, li_10, li_11, li_12, li_20, li_24, li_25, li_26, li_32, li_39, li_40, li_48, li_57, li_59, li_60, li_96, li_97, li_100, li_122, li_180, li_200, li_255, li_300, li_468, li_480, li_500, li_1000, li_2000, li_10000, li_10001, li_100000, li_1000000, li_100000000, lj_m1, lj_0, lj_1, lj_2, lj_3, lj_24, lj_39, lj_100, lj_500, lj_1000, lj_2000, lj_10000, lj_100000, lj_1000000, lj_100000000, lj_10, lj_20, lj_12, lj_32, lj_96] at *) <;> omega))
    · skip
      refine k_iconst (pc' := 23) (v := (-1)) dX10_led_22 rfl (by decide) ?_
      exact k_iret dX10_led_23 rfl (by by_cases zz : (0 ≤ a ∧ a < μ.1 40 5) ∧ (0 ≤ g ∧ g < μ.1 11 2) <;> first | (rw [if_pos zz]; exact ⟨rfl, rfl⟩) | (rw [if_neg zz]; exact ⟨rfl, rfl⟩) | (exfalso; (try simp only [eq_self, not_true_eq_false, not_false_eq_true, k_b0, k_b1, k_c0, k_cl, k_cg, k_cle, k_cge] at *) <;> (try simp only [eq_self, not_true_eq_false, not_false_eq_true, k_le, k_lt, k_eq, k_leL, k_ltL, k_eqL, k_il, li_m6, li_m5, li_m3, li_m2, li_m1, li_0, li_1, li_2, li_3, li_4, li_5, li_6, li_7, li_8, li_10, li_11, li_12, li_20, li_24, li_25, li_26, li_32, li_39, li_40, li_48, li_57, li_59, li_60, li_96, li_97, li_100, li_122, li_180, li_200, li_255, li_300, li_468, li_480, li_500, li_1000, li_2000, li_10000, li_10001, li_100000, li_1000000, li_100000000, lj_m1, lj_0, lj_1, lj_2, lj_3, lj_24, lj_39, lj_100, lj_500, lj_1000, lj_2000, lj_10000, lj_100000, lj_1000000, lj_100000000, lj_10, lj_20, lj_12, lj_32, lj_96] at *) <;> omega))

def w4X (μ : kH) (x : Int32) : kH := wrX (wrX (wrX (wrX μ ((x.toUInt32 >>> ((24 : Int32).toUInt32 &&& Int32.toUInt32 31)).toInt32 &&& 255)) ((x.toUInt32 >>> ((16 : Int32).toUInt32 &&& Int32.toUInt32 31)).toInt32 &&& 255)) ((x.toUInt32 >>> ((8 : Int32).toUInt32 &&& Int32.toUInt32 31)).toInt32 &&& 255)) ((x.toUInt32 >>> ((0 : Int32).toUInt32 &&& Int32.toUInt32 31)).toInt32 &&& 255)
def w4M (μ : kH) (x : Int32) : kH := wrM (wrM (wrM (wrM μ (x >>> (24 &&& 31) &&& 255)) (x >>> (16 &&& 31) &&& 255)) (x >>> (8 &&& 31) &&& 255)) (x >>> (0 &&& 31) &&& 255)
theorem wrX_len {μ : kH} {L : Nat} {x : Int32} (hz : μ.1 14 1 = nI L) : (wrX μ x).1 14 1 = nI (L + 1) := by show μ.1 14 1 + 1 = _; rw [hz]; exact nI_1 L
theorem wrM_len {μ : kH} {L : Nat} {x : Int32} (hz : μ.1 46 27 = nI L) : (wrM μ x).1 46 27 = nI (L + 1) := by show μ.1 46 27 + 1 = _; rw [hz]; exact nI_1 L
theorem w4X_len {μ : kH} {L : Nat} {x : Int32} (hz : μ.1 14 1 = nI L) : (w4X μ x).1 14 1 = nI (L + 4) := wrX_len (wrX_len (wrX_len (wrX_len hz)))
theorem w4M_len {μ : kH} {L : Nat} {x : Int32} (hz : μ.1 46 27 = nI L) : (w4M μ x).1 46 27 = nI (L + 4) := wrM_len (wrM_len (wrM_len (wrM_len hz)))
theorem ev_X7_write2 {x : Int32} {μ : kH} {L : Nat} (hL : L + 4 ≤ 200) (hz : μ.1 14 1 = nI L) : Ev kX7_write [kr 14, ki x] μ (fun r h' => r = ku ∧ h' = w4X μ x) := ev_X7_write hL hz
theorem ev_X11_four2 {x : Int32} {μ : kH} {L : Nat} (hL : L + 4 ≤ 200) (hz : μ.1 46 27 = nI L) : Ev kX11_four [kr 46, ki x] μ (fun r h' => r = ku ∧ h' = w4M μ x) := ev_X11_four hL hz
theorem k_L20 {L : Nat} (hL : L ≤ 200) : (nI L + 20).toInt = L + 20 := by
  rw [k_add (by rw [nI_toInt (by omega), li_20]; omega), nI_toInt (by omega), li_20]

set_option maxHeartbeats 400000 in
set_option maxRecDepth 100000 in
theorem ev_X10_feed {a b c d e : Int32} {μ : kH} {L : Nat} (hL : L ≤ 200) (hz : μ.1 14 1 = nI L) : Ev kX10_feed [kr 0, ki a, ki b, ki c, ki d, ki e] μ (fun r h' => if L + 20 ≤ 200 then r = ki (nI (L + 4 + 4 + 4 + 4 + 4)) ∧ h' = w4X (w4X (w4X (w4X (w4X μ a) b) c) d) e else r = ki (-1) ∧ h' = μ) := by
  refine k_ev (ls := [_, _, _, _, _, _]) (by decide) (Nat.le_of_ble_eq_true rfl) rfl ?_
  refine k_aload_n (pc' := 1) dX10_feed_0 rfl rfl ?_
  refine k_getR (pc' := 4) fl_RX10_42 dX10_feed_1 rfl rfl rfl ?_
  refine k_callV0 (pc' := 7) dX10_feed_4 rfl ml_RX10_166 rfl rfl ⟨(Nat.le_of_ble_eq_true rfl), (Nat.le_of_ble_eq_true rfl)⟩ (Nat.le_of_ble_eq_true rfl) ev_X7_hasRoomForFive (fun r_4 h_4 q_4 => ?_)
  obtain ⟨e_4, g_4⟩ := q_4
  rw [e_4, g_4]
  refine k_if_ne (pc' := 10) (tg := 12) dX10_feed_7 rfl (by decide) (fun c_7 => ?_) (fun c_7 => ?_)
  · skip
    have hL20 : L + 20 ≤ 200 := by have e0 := k_L20 hL; rw [← hz] at e0; (try simp only [eq_self, not_true_eq_false, not_false_eq_true, k_b0, k_b1, k_c0, k_cl, k_cg, k_cle, k_cge] at *) <;> (try simp only [e0, eq_self, not_true_eq_false, not_false_eq_true, k_le, k_lt, k_eq, k_leL, k_ltL, k_eqL, k_il, li_m6, li_m5, li_m3, li_m2, li_m1, li_0, li_1, li_2, li_3, li_4, li_5, li_6, li_7, li_8, li_10, li_11, li_12, li_20, li_24, li_25, li_26, li_32, li_39, li_40, li_48, li_57, li_59, li_60, li_96, li_97, li_100, li_122, li_180, li_200, li_255, li_300, li_468, li_480, li_500, li_1000, li_2000, li_10000, li_10001, li_100000, li_1000000, li_100000000, lj_m1, lj_0, lj_1, lj_2, lj_3, lj_24, lj_39, lj_100, lj_500, lj_1000, lj_2000, lj_10000, lj_100000, lj_1000000, lj_100000000, lj_10, lj_20, lj_12, lj_32, lj_96] at *) <;> omega
    refine k_aload_n (pc' := 13) dX10_feed_12 rfl rfl ?_
    refine k_getR (pc' := 16) fl_RX10_42 dX10_feed_13 rfl rfl rfl ?_
    refine k_iload_n (pc' := 17) dX10_feed_16 rfl rfl ?_
    refine k_callV1 (pc' := 20) dX10_feed_17 rfl ml_RX10_170 rfl rfl ⟨(Nat.le_of_ble_eq_true rfl), (Nat.le_of_ble_eq_true rfl)⟩ (Nat.le_of_ble_eq_true rfl) (ev_X7_write2 (by omega) hz) (fun r_17 h_17 q_17 => ?_)
    obtain ⟨e_17, g_17⟩ := q_17
    rw [e_17, g_17]
    refine k_aload_n (pc' := 21) dX10_feed_20 rfl rfl ?_
    refine k_getR (pc' := 24) fl_RX10_42 dX10_feed_21 rfl rfl rfl ?_
    refine k_iload_n (pc' := 25) dX10_feed_24 rfl rfl ?_
    refine k_callV1 (pc' := 28) dX10_feed_25 rfl ml_RX10_170 rfl rfl ⟨(Nat.le_of_ble_eq_true rfl), (Nat.le_of_ble_eq_true rfl)⟩ (Nat.le_of_ble_eq_true rfl) (ev_X7_write2 (by omega) (w4X_len hz)) (fun r_25 h_25 q_25 => ?_)
    obtain ⟨e_25, g_25⟩ := q_25
    rw [e_25, g_25]
    refine k_aload_n (pc' := 29) dX10_feed_28 rfl rfl ?_
    refine k_getR (pc' := 32) fl_RX10_42 dX10_feed_29 rfl rfl rfl ?_
    refine k_iload_n (pc' := 33) dX10_feed_32 rfl rfl ?_
    refine k_callV1 (pc' := 36) dX10_feed_33 rfl ml_RX10_170 rfl rfl ⟨(Nat.le_of_ble_eq_true rfl), (Nat.le_of_ble_eq_true rfl)⟩ (Nat.le_of_ble_eq_true rfl) (ev_X7_write2 (by omega) (w4X_len (w4X_len hz))) (fun r_33 h_33 q_33 => ?_)
    obtain ⟨e_33, g_33⟩ := q_33
    rw [e_33, g_33]
    refine k_aload_n (pc' := 37) dX10_feed_36 rfl rfl ?_
    refine k_getR (pc' := 40) fl_RX10_42 dX10_feed_37 rfl rfl rfl ?_
    refine k_iload (pc' := 42) dX10_feed_40 rfl rfl ?_
    refine k_callV1 (pc' := 45) dX10_feed_42 rfl ml_RX10_170 rfl rfl ⟨(Nat.le_of_ble_eq_true rfl), (Nat.le_of_ble_eq_true rfl)⟩ (Nat.le_of_ble_eq_true rfl) (ev_X7_write2 (by omega) (w4X_len (w4X_len (w4X_len hz)))) (fun r_42 h_42 q_42 => ?_)
    obtain ⟨e_42, g_42⟩ := q_42
    rw [e_42, g_42]
    refine k_aload_n (pc' := 46) dX10_feed_45 rfl rfl ?_
    refine k_getR (pc' := 49) fl_RX10_42 dX10_feed_46 rfl rfl rfl ?_
    refine k_iload (pc' := 51) dX10_feed_49 rfl rfl ?_
    refine k_callV1 (pc' := 54) dX10_feed_51 rfl ml_RX10_170 rfl rfl ⟨(Nat.le_of_ble_eq_true rfl), (Nat.le_of_ble_eq_true rfl)⟩ (Nat.le_of_ble_eq_true rfl) (ev_X7_write2 (by omega) (w4X_len (w4X_len (w4X_len (w4X_len hz))))) (fun r_51 h_51 q_51 => ?_)
    obtain ⟨e_51, g_51⟩ := q_51
    rw [e_51, g_51]
    refine k_aload_n (pc' := 55) dX10_feed_54 rfl rfl ?_
    refine k_getR (pc' := 58) fl_RX10_42 dX10_feed_55 rfl rfl rfl ?_
    refine k_getI (pc' := 61) fl_RX10_173 dX10_feed_58 rfl rfl rfl ?_
    exact k_iret dX10_feed_61 rfl (by first | (rw [if_pos hL20]; exact ⟨congrArg (fun z => ki z) (w4X_len (w4X_len (w4X_len (w4X_len (w4X_len hz))))), rfl⟩) | (rw [if_neg hL20]; exact ⟨rfl, rfl⟩))
  · skip
    have hL20 : ¬ L + 20 ≤ 200 := by have e0 := k_L20 hL; rw [← hz] at e0; (try simp only [eq_self, not_true_eq_false, not_false_eq_true, k_b0, k_b1, k_c0, k_cl, k_cg, k_cle, k_cge] at *) <;> (try simp only [e0, eq_self, not_true_eq_false, not_false_eq_true, k_le, k_lt, k_eq, k_leL, k_ltL, k_eqL, k_il, li_m6, li_m5, li_m3, li_m2, li_m1, li_0, li_1, li_2, li_3, li_4, li_5, li_6, li_7, li_8, li_10, li_11, li_12, li_20, li_24, li_25, li_26, li_32, li_39, li_40, li_48, li_57, li_59, li_60, li_96, li_97, li_100, li_122, li_180, li_200, li_255, li_300, li_468, li_480, li_500, li_1000, li_2000, li_10000, li_10001, li_100000, li_1000000, li_100000000, lj_m1, lj_0, lj_1, lj_2, lj_3, lj_24, lj_39, lj_100, lj_500, lj_1000, lj_2000, lj_10000, lj_100000, lj_1000000, lj_100000000, lj_10, lj_20, lj_12, lj_32, lj_96] at *) <;> omega
    refine k_iconst (pc' := 11) (v := (-1)) dX10_feed_10 rfl (by decide) ?_
    exact k_iret dX10_feed_11 rfl (by first | (rw [if_pos hL20]; exact ⟨congrArg (fun z => ki z) (w4X_len (w4X_len (w4X_len (w4X_len (w4X_len hz))))), rfl⟩) | (rw [if_neg hL20]; exact ⟨rfl, rfl⟩))

set_option maxHeartbeats 400000 in
set_option maxRecDepth 100000 in
theorem ev_X11_feed {a b c d e : Int32} {μ ν : kH} (hν : hI μ 46 0 0 = ν) {L : Nat} (hL : L ≤ 200) (hz : ν.1 46 27 = nI L) : Ev kX11_feed [kr 46, ki a, ki b, ki c, ki d, ki e] μ (fun r h' => if L + 20 ≤ 200 then r = ki (nI (L + 4 + 4 + 4 + 4 + 4)) ∧ h' = w4M (w4M (w4M (w4M (w4M ν a) b) c) d) e else r = ki (-1) ∧ h' = ν) := by
  refine k_ev (ls := [_, _, _, _, _, _]) (by decide) (Nat.le_of_ble_eq_true rfl) rfl ?_
  refine k_aload_n (pc' := 1) dX11_feed_0 rfl rfl ?_
  refine k_iconst (pc' := 2) (v := 0) dX11_feed_1 rfl (by decide) ?_
  refine k_putI (pc' := 5) fw_RX11_102 dX11_feed_2 rfl rfl rfl ?_
  rw [hν]
  refine k_aload_n (pc' := 6) dX11_feed_5 rfl rfl ?_
  refine k_getI (pc' := 9) fl_RX11_173 dX11_feed_6 rfl rfl rfl ?_
  refine k_bipush (pc' := 11) (v := 20) dX11_feed_9 rfl (by decide) ?_
  refine k_iadd (pc' := 12) dX11_feed_11 rfl ?_
  refine k_sipush (pc' := 15) (v := 200) dX11_feed_12 rfl (by decide) ?_
  refine k_icmp_le (pc' := 18) (tg := 20) dX11_feed_15 rfl (by decide) (fun c_15 => ?_) (fun c_15 => ?_)
  · skip
    have hL20 : L + 20 ≤ 200 := by have e0 := k_L20 hL; rw [← hz] at e0; (try simp only [eq_self, not_true_eq_false, not_false_eq_true, k_b0, k_b1, k_c0, k_cl, k_cg, k_cle, k_cge] at *) <;> (try simp only [e0, eq_self, not_true_eq_false, not_false_eq_true, k_le, k_lt, k_eq, k_leL, k_ltL, k_eqL, k_il, li_m6, li_m5, li_m3, li_m2, li_m1, li_0, li_1, li_2, li_3, li_4, li_5, li_6, li_7, li_8, li_10, li_11, li_12, li_20, li_24, li_25, li_26, li_32, li_39, li_40, li_48, li_57, li_59, li_60, li_96, li_97, li_100, li_122, li_180, li_200, li_255, li_300, li_468, li_480, li_500, li_1000, li_2000, li_10000, li_10001, li_100000, li_1000000, li_100000000, lj_m1, lj_0, lj_1, lj_2, lj_3, lj_24, lj_39, lj_100, lj_500, lj_1000, lj_2000, lj_10000, lj_100000, lj_1000000, lj_100000000, lj_10, lj_20, lj_12, lj_32, lj_96] at *) <;> omega
    refine k_aload_n (pc' := 21) dX11_feed_20 rfl rfl ?_
    refine k_iload_n (pc' := 22) dX11_feed_21 rfl rfl ?_
    refine k_callV1 (pc' := 25) dX11_feed_22 rfl ml_RX11_176 rfl rfl ⟨(Nat.le_of_ble_eq_true rfl), (Nat.le_of_ble_eq_true rfl)⟩ (Nat.le_of_ble_eq_true rfl) (ev_X11_four2 (by omega) hz) (fun r_22 h_22 q_22 => ?_)
    obtain ⟨e_22, g_22⟩ := q_22
    rw [e_22, g_22]
    refine k_aload_n (pc' := 26) dX11_feed_25 rfl rfl ?_
    refine k_iload_n (pc' := 27) dX11_feed_26 rfl rfl ?_
    refine k_callV1 (pc' := 30) dX11_feed_27 rfl ml_RX11_176 rfl rfl ⟨(Nat.le_of_ble_eq_true rfl), (Nat.le_of_ble_eq_true rfl)⟩ (Nat.le_of_ble_eq_true rfl) (ev_X11_four2 (by omega) (w4M_len hz)) (fun r_27 h_27 q_27 => ?_)
    obtain ⟨e_27, g_27⟩ := q_27
    rw [e_27, g_27]
    refine k_aload_n (pc' := 31) dX11_feed_30 rfl rfl ?_
    refine k_iload_n (pc' := 32) dX11_feed_31 rfl rfl ?_
    refine k_callV1 (pc' := 35) dX11_feed_32 rfl ml_RX11_176 rfl rfl ⟨(Nat.le_of_ble_eq_true rfl), (Nat.le_of_ble_eq_true rfl)⟩ (Nat.le_of_ble_eq_true rfl) (ev_X11_four2 (by omega) (w4M_len (w4M_len hz))) (fun r_32 h_32 q_32 => ?_)
    obtain ⟨e_32, g_32⟩ := q_32
    rw [e_32, g_32]
    refine k_aload_n (pc' := 36) dX11_feed_35 rfl rfl ?_
    refine k_iload (pc' := 38) dX11_feed_36 rfl rfl ?_
    refine k_callV1 (pc' := 41) dX11_feed_38 rfl ml_RX11_176 rfl rfl ⟨(Nat.le_of_ble_eq_true rfl), (Nat.le_of_ble_eq_true rfl)⟩ (Nat.le_of_ble_eq_true rfl) (ev_X11_four2 (by omega) (w4M_len (w4M_len (w4M_len hz)))) (fun r_38 h_38 q_38 => ?_)
    obtain ⟨e_38, g_38⟩ := q_38
    rw [e_38, g_38]
    refine k_aload_n (pc' := 42) dX11_feed_41 rfl rfl ?_
    refine k_iload (pc' := 44) dX11_feed_42 rfl rfl ?_
    refine k_callV1 (pc' := 47) dX11_feed_44 rfl ml_RX11_176 rfl rfl ⟨(Nat.le_of_ble_eq_true rfl), (Nat.le_of_ble_eq_true rfl)⟩ (Nat.le_of_ble_eq_true rfl) (ev_X11_four2 (by omega) (w4M_len (w4M_len (w4M_len (w4M_len hz))))) (fun r_44 h_44 q_44 => ?_)
    obtain ⟨e_44, g_44⟩ := q_44
    rw [e_44, g_44]
    refine k_aload_n (pc' := 48) dX11_feed_47 rfl rfl ?_
    refine k_getI (pc' := 51) fl_RX11_173 dX11_feed_48 rfl rfl rfl ?_
    exact k_iret dX11_feed_51 rfl (by first | (rw [if_pos hL20]; exact ⟨congrArg (fun z => ki z) (w4M_len (w4M_len (w4M_len (w4M_len (w4M_len hz))))), rfl⟩) | (rw [if_neg hL20]; exact ⟨rfl, rfl⟩))
  · skip
    have hL20 : ¬ L + 20 ≤ 200 := by have e0 := k_L20 hL; rw [← hz] at e0; (try simp only [eq_self, not_true_eq_false, not_false_eq_true, k_b0, k_b1, k_c0, k_cl, k_cg, k_cle, k_cge] at *) <;> (try simp only [e0, eq_self, not_true_eq_false, not_false_eq_true, k_le, k_lt, k_eq, k_leL, k_ltL, k_eqL, k_il, li_m6, li_m5, li_m3, li_m2, li_m1, li_0, li_1, li_2, li_3, li_4, li_5, li_6, li_7, li_8, li_10, li_11, li_12, li_20, li_24, li_25, li_26, li_32, li_39, li_40, li_48, li_57, li_59, li_60, li_96, li_97, li_100, li_122, li_180, li_200, li_255, li_300, li_468, li_480, li_500, li_1000, li_2000, li_10000, li_10001, li_100000, li_1000000, li_100000000, lj_m1, lj_0, lj_1, lj_2, lj_3, lj_24, lj_39, lj_100, lj_500, lj_1000, lj_2000, lj_10000, lj_100000, lj_1000000, lj_100000000, lj_10, lj_20, lj_12, lj_32, lj_96] at *) <;> omega
    refine k_iconst (pc' := 19) (v := (-1)) dX11_feed_18 rfl (by decide) ?_
    exact k_iret dX11_feed_19 rfl (by first | (rw [if_pos hL20]; exact ⟨congrArg (fun z => ki z) (w4M_len (w4M_len (w4M_len (w4M_len (w4M_len hz))))), rfl⟩) | (rw [if_neg hL20]; exact ⟨rfl, rfl⟩))

