def kst (v : Int32) : Int32 := if v < 0 then v else 0
theorem ev_X11_told2 {v : Int32} {μ : kH} : Ev kX11_told [kr 46, ki v] μ (fun r h' => r = ki v ∧ h' = hI μ 46 1 (kst v)) := ev_X11_told
set_option maxHeartbeats 400000 in
set_option maxRecDepth 100000 in
theorem ev_X11_bears {a p : Int32} {μ : kH} : Ev kX11_bears [kr 46, ki a, ki p] μ (fun r h' => if (0 ≤ a ∧ a ≤ 24) ∧ (0 ≤ p ∧ p ≤ 500) then r = ki 0 ∧ h' = hI (hI (hI μ 46 0 0) 47 a.toNatClampNeg p) 46 1 (kst 0) else r = ki (-1) ∧ h' = hI (hI μ 46 0 0) 46 1 (kst (-1))) := by
  refine k_ev (ls := [_, _, _]) (by decide) (Nat.le_of_ble_eq_true rfl) rfl ?_
  refine k_aload_n (pc' := 1) dX11_bears_0 rfl rfl ?_
  refine k_iconst (pc' := 2) (v := 0) dX11_bears_1 rfl (by decide) ?_
  refine k_putI (pc' := 5) fw_RX11_102 dX11_bears_2 rfl rfl rfl ?_
  refine k_iload_n (pc' := 6) dX11_bears_5 rfl rfl ?_
  refine k_i2l (pc' := 7) dX11_bears_6 rfl ?_
  refine k_lconst (pc' := 8) (v := 0) dX11_bears_7 rfl (by decide) ?_
  refine k_ldc2 (pc' := 11) dX11_bears_8 rfl kc_RX11_116 ?_
  refine k_callS3 (pc' := 14) dX11_bears_11 rfl ml_RX11_110 ⟨(Nat.le_of_ble_eq_true rfl), (Nat.le_of_ble_eq_true rfl)⟩ (Nat.le_of_ble_eq_true rfl) ev_X11_in (fun r_11 h_11 q_11 => ?_)
  obtain ⟨e_11, g_11⟩ := q_11
  rw [e_11, g_11]
  refine k_if_eq (pc' := 17) (tg := 29) dX11_bears_14 rfl (by decide) (fun c_14 => ?_) (fun c_14 => ?_)
  · skip
    refine k_aload_n (pc' := 30) dX11_bears_29 rfl rfl ?_
    refine k_iconst (pc' := 31) (v := (-1)) dX11_bears_30 rfl (by decide) ?_
    refine k_callV1 (pc' := 34) dX11_bears_31 rfl ml_RX11_120 rfl rfl ⟨(Nat.le_of_ble_eq_true rfl), (Nat.le_of_ble_eq_true rfl)⟩ (Nat.le_of_ble_eq_true rfl) ev_X11_told2 (fun r_31 h_31 q_31 => ?_)
    obtain ⟨e_31, g_31⟩ := q_31
    rw [e_31, g_31]
    exact k_iret dX11_bears_34 rfl (by (repeat' split) <;> first | exact ⟨rfl, rfl⟩ | (exfalso; (try simp only [eq_self, not_true_eq_false, not_false_eq_true, k_b0, k_b1, k_c0, k_cl, k_cg, k_cle, k_cge] at *) <;> (try simp only [eq_self, not_true_eq_false, not_false_eq_true, k_le, k_lt, k_eq, k_leL, k_ltL, k_eqL, k_il, li_m6, li_m5, li_m3, li_m2, li_m1, li_0, li_1, li_2, li_3, li_4, li_5, li_6, li_7, li_8, li_10, li_11, li_12, li_20, li_24, li_25, li_26, li_32, li_39, li_40, li_48, li_57, li_59, li_60, li_96, li_97, li_100, li_122, li_180, li_200, li_255, li_300, li_468, li_480, li_500, li_1000, li_2000, li_10000, li_10001, li_100000, li_1000000, li_100000000, lj_m1, lj_0, lj_1, lj_2, lj_3, lj_24, lj_39, lj_100, lj_500, lj_1000, lj_2000, lj_10000, lj_100000, lj_1000000, lj_100000000, lj_10, lj_20, lj_12, lj_32, lj_96] at *) <;> omega))
  · skip
    refine k_iload_n (pc' := 18) dX11_bears_17 rfl rfl ?_
    refine k_i2l (pc' := 19) dX11_bears_18 rfl ?_
    refine k_lconst (pc' := 20) (v := 0) dX11_bears_19 rfl (by decide) ?_
    refine k_ldc2 (pc' := 23) dX11_bears_20 rfl kc_RX11_118 ?_
    refine k_callS3 (pc' := 26) dX11_bears_23 rfl ml_RX11_110 ⟨(Nat.le_of_ble_eq_true rfl), (Nat.le_of_ble_eq_true rfl)⟩ (Nat.le_of_ble_eq_true rfl) ev_X11_in (fun r_23 h_23 q_23 => ?_)
    obtain ⟨e_23, g_23⟩ := q_23
    rw [e_23, g_23]
    refine k_if_ne (pc' := 29) (tg := 35) dX11_bears_26 rfl (by decide) (fun c_26 => ?_) (fun c_26 => ?_)
    · skip
      refine k_aload_n (pc' := 36) dX11_bears_35 rfl rfl ?_
      refine k_getR (pc' := 39) fl_RX11_7 dX11_bears_36 rfl rfl rfl ?_
      refine k_iload_n (pc' := 40) dX11_bears_39 rfl rfl ?_
      refine k_iload_n (pc' := 41) dX11_bears_40 rfl rfl ?_
      refine k_iast (pc' := 42) dX11_bears_41 rfl rfl (vp_in_iff.mpr (by first | assumption | ((try simp only [eq_self, not_true_eq_false, not_false_eq_true, k_b0, k_b1, k_c0, k_cl, k_cg, k_cle, k_cge] at *) <;> (try simp only [eq_self, not_true_eq_false, not_false_eq_true, k_le, k_lt, k_eq, k_leL, k_ltL, k_eqL, k_il, li_m6, li_m5, li_m3, li_m2, li_m1, li_0, li_1, li_2, li_3, li_4, li_5, li_6, li_7, li_8, li_10, li_11, li_12, li_20, li_24, li_25, li_26, li_32, li_39, li_40, li_48, li_57, li_59, li_60, li_96, li_97, li_100, li_122, li_180, li_200, li_255, li_300, li_468, li_480, li_500, li_1000, li_2000, li_10000, li_10001, li_100000, li_1000000, li_100000000, lj_m1, lj_0, lj_1, lj_2, lj_3, lj_24, lj_39, lj_100, lj_500, lj_1000, lj_2000, lj_10000, lj_100000, lj_1000000, lj_100000000, lj_10, lj_20, lj_12, lj_32, lj_96] at *) <;> omega))) ?_
      refine k_aload_n (pc' := 43) dX11_bears_42 rfl rfl ?_
      refine k_iconst (pc' := 44) (v := 0) dX11_bears_43 rfl (by decide) ?_
      refine k_callV1 (pc' := 47) dX11_bears_44 rfl ml_RX11_120 rfl rfl ⟨(Nat.le_of_ble_eq_true rfl), (Nat.le_of_ble_eq_true rfl)⟩ (Nat.le_of_ble_eq_true rfl) ev_X11_told2 (fun r_44 h_44 q_44 => ?_)
      obtain ⟨e_44, g_44⟩ := q_44
      rw [e_44, g_44]
      exact k_iret dX11_bears_47 rfl (by (repeat' split) <;> first | exact ⟨rfl, rfl⟩ | (exfalso; (try simp only [eq_self, not_true_eq_false, not_false_eq_true, k_b0, k_b1, k_c0, k_cl, k_cg, k_cle, k_cge] at *) <;> (try simp only [eq_self, not_true_eq_false, not_false_eq_true, k_le, k_lt, k_eq, k_leL, k_ltL, k_eqL, k_il, li_m6, li_m5, li_m3, li_m2, li_m1, li_0, li_1, li_2, li_3, li_4, li_5, li_6, li_7, li_8, li_10, li_11, li_12, li_20, li_24, li_25, li_26, li_32, li_39, li_40, li_48, li_57, li_59, li_60, li_96, li_97, li_100, li_122, li_180, li_200, li_255, li_300, li_468, li_480, li_500, li_1000, li_2000, li_10000, li_10001, li_100000, li_1000000, li_100000000, lj_m1, lj_0, lj_1, lj_2, lj_3, lj_24, lj_39, lj_100, lj_500, lj_1000, lj_2000, lj_10000, lj_100000, lj_1000000, lj_100000000, lj_10, lj_20, lj_12, lj_32, lj_96] at *) <;> omega))
    · skip
      refine k_aload_n (pc' := 30) dX11_bears_29 rfl rfl ?_
      refine k_iconst (pc' := 31) (v := (-1)) dX11_bears_30 rfl (by decide) ?_
      refine k_callV1 (pc' := 34) dX11_bears_31 rfl ml_RX11_120 rfl rfl ⟨(Nat.le_of_ble_eq_true rfl), (Nat.le_of_ble_eq_true rfl)⟩ (Nat.le_of_ble_eq_true rfl) ev_X11_told2 (fun r_31 h_31 q_31 => ?_)
      obtain ⟨e_31, g_31⟩ := q_31
      rw [e_31, g_31]
      exact k_iret dX11_bears_34 rfl (by (repeat' split) <;> first | exact ⟨rfl, rfl⟩ | (exfalso; (try simp only [eq_self, not_true_eq_false, not_false_eq_true, k_b0, k_b1, k_c0, k_cl, k_cg, k_cle, k_cge] at *) <;> (try simp only [eq_self, not_true_eq_false, not_false_eq_true, k_le, k_lt, k_eq, k_leL, k_ltL, k_eqL, k_il, li_m6, li_m5, li_m3, li_m2, li_m1, li_0, li_1, li_2, li_3, li_4, li_5, li_6, li_7, li_8, li_10, li_11, li_12, li_20, li_24, li_25, li_26, li_32, li_39, li_40, li_48, li_57, li_59, li_60, li_96, li_97, li_100, li_122, li_180, li_200, li_255, li_300, li_468, li_480, li_500, li_1000, li_2000, li_10000, li_10001, li_100000, li_1000000, li_100000000, lj_m1, lj_0, lj_1, lj_2, lj_3, lj_24, lj_39, lj_100, lj_500, lj_1000, lj_2000, lj_10000, lj_100000, lj_1000000, lj_100000000, lj_10, lj_20, lj_12, lj_32, lj_96] at *) <;> omega))

set_option maxHeartbeats 400000 in
set_option maxRecDepth 100000 in
theorem ev_X11_ratio {s n : Int32} {μ : kH} : Ev kX11_ratio [kr 46, ki s, ki n] μ (fun r h' => if (0 ≤ s ∧ s ≤ 3) ∧ (1 ≤ n ∧ n ≤ 100) then r = ki 0 ∧ h' = hI (hI (hI μ 46 0 0) 48 s.toNatClampNeg n) 46 1 (kst 0) else r = ki (-1) ∧ h' = hI (hI μ 46 0 0) 46 1 (kst (-1))) := by
  refine k_ev (ls := [_, _, _]) (by decide) (Nat.le_of_ble_eq_true rfl) rfl ?_
  refine k_aload_n (pc' := 1) dX11_ratio_0 rfl rfl ?_
  refine k_iconst (pc' := 2) (v := 0) dX11_ratio_1 rfl (by decide) ?_
  refine k_putI (pc' := 5) fw_RX11_102 dX11_ratio_2 rfl rfl rfl ?_
  refine k_iload_n (pc' := 6) dX11_ratio_5 rfl rfl ?_
  refine k_callS1 (pc' := 9) dX11_ratio_6 rfl ml_RX11_124 ⟨(Nat.le_of_ble_eq_true rfl), (Nat.le_of_ble_eq_true rfl)⟩ (Nat.le_of_ble_eq_true rfl) ev_X11_isSort2 (fun r_6 h_6 q_6 => ?_)
  obtain ⟨e_6, g_6⟩ := q_6
  rw [e_6, g_6]
  refine k_if_eq (pc' := 12) (tg := 24) dX11_ratio_9 rfl (by decide) (fun c_9 => ?_) (fun c_9 => ?_)
  · skip
    refine k_aload_n (pc' := 25) dX11_ratio_24 rfl rfl ?_
    refine k_iconst (pc' := 26) (v := (-1)) dX11_ratio_25 rfl (by decide) ?_
    refine k_callV1 (pc' := 29) dX11_ratio_26 rfl ml_RX11_120 rfl rfl ⟨(Nat.le_of_ble_eq_true rfl), (Nat.le_of_ble_eq_true rfl)⟩ (Nat.le_of_ble_eq_true rfl) ev_X11_told2 (fun r_26 h_26 q_26 => ?_)
    obtain ⟨e_26, g_26⟩ := q_26
    rw [e_26, g_26]
    exact k_iret dX11_ratio_29 rfl (by (repeat' split) <;> first | exact ⟨rfl, rfl⟩ | (exfalso; (try simp only [eq_self, not_true_eq_false, not_false_eq_true, k_b0, k_b1, k_c0, k_cl, k_cg, k_cle, k_cge] at *) <;> (try simp only [eq_self, not_true_eq_false, not_false_eq_true, k_le, k_lt, k_eq, k_leL, k_ltL, k_eqL, k_il, li_m6, li_m5, li_m3, li_m2, li_m1, li_0, li_1, li_2, li_3, li_4, li_5, li_6, li_7, li_8, li_10, li_11, li_12, li_20, li_24, li_25, li_26, li_32, li_39, li_40, li_48, li_57, li_59, li_60, li_96, li_97, li_100, li_122, li_180, li_200, li_255, li_300, li_468, li_480, li_500, li_1000, li_2000, li_10000, li_10001, li_100000, li_1000000, li_100000000, lj_m1, lj_0, lj_1, lj_2, lj_3, lj_24, lj_39, lj_100, lj_500, lj_1000, lj_2000, lj_10000, lj_100000, lj_1000000, lj_100000000, lj_10, lj_20, lj_12, lj_32, lj_96] at *) <;> omega))
  · skip
    refine k_iload_n (pc' := 13) dX11_ratio_12 rfl rfl ?_
    refine k_i2l (pc' := 14) dX11_ratio_13 rfl ?_
    refine k_lconst (pc' := 15) (v := 1) dX11_ratio_14 rfl (by decide) ?_
    refine k_ldc2 (pc' := 18) dX11_ratio_15 rfl kc_RX11_128 ?_
    refine k_callS3 (pc' := 21) dX11_ratio_18 rfl ml_RX11_110 ⟨(Nat.le_of_ble_eq_true rfl), (Nat.le_of_ble_eq_true rfl)⟩ (Nat.le_of_ble_eq_true rfl) ev_X11_in (fun r_18 h_18 q_18 => ?_)
    obtain ⟨e_18, g_18⟩ := q_18
    rw [e_18, g_18]
    refine k_if_ne (pc' := 24) (tg := 30) dX11_ratio_21 rfl (by decide) (fun c_21 => ?_) (fun c_21 => ?_)
    · skip
      refine k_aload_n (pc' := 31) dX11_ratio_30 rfl rfl ?_
      refine k_getR (pc' := 34) fl_RX11_13 dX11_ratio_31 rfl rfl rfl ?_
      refine k_iload_n (pc' := 35) dX11_ratio_34 rfl rfl ?_
      refine k_iload_n (pc' := 36) dX11_ratio_35 rfl rfl ?_
      refine k_iast (pc' := 37) dX11_ratio_36 rfl rfl (vp_in_iff.mpr (by first | assumption | ((try simp only [eq_self, not_true_eq_false, not_false_eq_true, k_b0, k_b1, k_c0, k_cl, k_cg, k_cle, k_cge] at *) <;> (try simp only [eq_self, not_true_eq_false, not_false_eq_true, k_le, k_lt, k_eq, k_leL, k_ltL, k_eqL, k_il, li_m6, li_m5, li_m3, li_m2, li_m1, li_0, li_1, li_2, li_3, li_4, li_5, li_6, li_7, li_8, li_10, li_11, li_12, li_20, li_24, li_25, li_26, li_32, li_39, li_40, li_48, li_57, li_59, li_60, li_96, li_97, li_100, li_122, li_180, li_200, li_255, li_300, li_468, li_480, li_500, li_1000, li_2000, li_10000, li_10001, li_100000, li_1000000, li_100000000, lj_m1, lj_0, lj_1, lj_2, lj_3, lj_24, lj_39, lj_100, lj_500, lj_1000, lj_2000, lj_10000, lj_100000, lj_1000000, lj_100000000, lj_10, lj_20, lj_12, lj_32, lj_96] at *) <;> omega))) ?_
      refine k_aload_n (pc' := 38) dX11_ratio_37 rfl rfl ?_
      refine k_iconst (pc' := 39) (v := 0) dX11_ratio_38 rfl (by decide) ?_
      refine k_callV1 (pc' := 42) dX11_ratio_39 rfl ml_RX11_120 rfl rfl ⟨(Nat.le_of_ble_eq_true rfl), (Nat.le_of_ble_eq_true rfl)⟩ (Nat.le_of_ble_eq_true rfl) ev_X11_told2 (fun r_39 h_39 q_39 => ?_)
      obtain ⟨e_39, g_39⟩ := q_39
      rw [e_39, g_39]
      exact k_iret dX11_ratio_42 rfl (by (repeat' split) <;> first | exact ⟨rfl, rfl⟩ | (exfalso; (try simp only [eq_self, not_true_eq_false, not_false_eq_true, k_b0, k_b1, k_c0, k_cl, k_cg, k_cle, k_cge] at *) <;> (try simp only [eq_self, not_true_eq_false, not_false_eq_true, k_le, k_lt, k_eq, k_leL, k_ltL, k_eqL, k_il, li_m6, li_m5, li_m3, li_m2, li_m1, li_0, li_1, li_2, li_3, li_4, li_5, li_6, li_7, li_8, li_10, li_11, li_12, li_20, li_24, li_25, li_26, li_32, li_39, li_40, li_48, li_57, li_59, li_60, li_96, li_97, li_100, li_122, li_180, li_200, li_255, li_300, li_468, li_480, li_500, li_1000, li_2000, li_10000, li_10001, li_100000, li_1000000, li_100000000, lj_m1, lj_0, lj_1, lj_2, lj_3, lj_24, lj_39, lj_100, lj_500, lj_1000, lj_2000, lj_10000, lj_100000, lj_1000000, lj_100000000, lj_10, lj_20, lj_12, lj_32, lj_96] at *) <;> omega))
    · skip
      refine k_aload_n (pc' := 25) dX11_ratio_24 rfl rfl ?_
      refine k_iconst (pc' := 26) (v := (-1)) dX11_ratio_25 rfl (by decide) ?_
      refine k_callV1 (pc' := 29) dX11_ratio_26 rfl ml_RX11_120 rfl rfl ⟨(Nat.le_of_ble_eq_true rfl), (Nat.le_of_ble_eq_true rfl)⟩ (Nat.le_of_ble_eq_true rfl) ev_X11_told2 (fun r_26 h_26 q_26 => ?_)
      obtain ⟨e_26, g_26⟩ := q_26
      rw [e_26, g_26]
      exact k_iret dX11_ratio_29 rfl (by (repeat' split) <;> first | exact ⟨rfl, rfl⟩ | (exfalso; (try simp only [eq_self, not_true_eq_false, not_false_eq_true, k_b0, k_b1, k_c0, k_cl, k_cg, k_cle, k_cge] at *) <;> (try simp only [eq_self, not_true_eq_false, not_false_eq_true, k_le, k_lt, k_eq, k_leL, k_ltL, k_eqL, k_il, li_m6, li_m5, li_m3, li_m2, li_m1, li_0, li_1, li_2, li_3, li_4, li_5, li_6, li_7, li_8, li_10, li_11, li_12, li_20, li_24, li_25, li_26, li_32, li_39, li_40, li_48, li_57, li_59, li_60, li_96, li_97, li_100, li_122, li_180, li_200, li_255, li_300, li_468, li_480, li_500, li_1000, li_2000, li_10000, li_10001, li_100000, li_1000000, li_100000000, lj_m1, lj_0, lj_1, lj_2, lj_3, lj_24, lj_39, lj_100, lj_500, lj_1000, lj_2000, lj_10000, lj_100000, lj_1000000, lj_100000000, lj_10, lj_20, lj_12, lj_32, lj_96] at *) <;> omega))

set_option maxHeartbeats 400000 in
set_option maxRecDepth 100000 in
theorem ev_X11_terms {k c : Int32} {μ : kH} : Ev kX11_terms [kr 46, ki k, ki c] μ (fun r h' => if (0 ≤ k ∧ k ≤ 100) ∧ (0 ≤ c ∧ c ≤ 100) then r = ki 0 ∧ h' = hI (hI (hI (hI μ 46 0 0) 46 5 k) 46 6 c) 46 1 (kst 0) else r = ki (-1) ∧ h' = hI (hI μ 46 0 0) 46 1 (kst (-1))) := by
  refine k_ev (ls := [_, _, _]) (by decide) (Nat.le_of_ble_eq_true rfl) rfl ?_
  refine k_aload_n (pc' := 1) dX11_terms_0 rfl rfl ?_
  refine k_iconst (pc' := 2) (v := 0) dX11_terms_1 rfl (by decide) ?_
  refine k_putI (pc' := 5) fw_RX11_102 dX11_terms_2 rfl rfl rfl ?_
  refine k_iload_n (pc' := 6) dX11_terms_5 rfl rfl ?_
  refine k_i2l (pc' := 7) dX11_terms_6 rfl ?_
  refine k_lconst (pc' := 8) (v := 0) dX11_terms_7 rfl (by decide) ?_
  refine k_ldc2 (pc' := 11) dX11_terms_8 rfl kc_RX11_128 ?_
  refine k_callS3 (pc' := 14) dX11_terms_11 rfl ml_RX11_110 ⟨(Nat.le_of_ble_eq_true rfl), (Nat.le_of_ble_eq_true rfl)⟩ (Nat.le_of_ble_eq_true rfl) ev_X11_in (fun r_11 h_11 q_11 => ?_)
  obtain ⟨e_11, g_11⟩ := q_11
  rw [e_11, g_11]
  refine k_if_eq (pc' := 17) (tg := 29) dX11_terms_14 rfl (by decide) (fun c_14 => ?_) (fun c_14 => ?_)
  · skip
    refine k_aload_n (pc' := 30) dX11_terms_29 rfl rfl ?_
    refine k_iconst (pc' := 31) (v := (-1)) dX11_terms_30 rfl (by decide) ?_
    refine k_callV1 (pc' := 34) dX11_terms_31 rfl ml_RX11_120 rfl rfl ⟨(Nat.le_of_ble_eq_true rfl), (Nat.le_of_ble_eq_true rfl)⟩ (Nat.le_of_ble_eq_true rfl) ev_X11_told2 (fun r_31 h_31 q_31 => ?_)
    obtain ⟨e_31, g_31⟩ := q_31
    rw [e_31, g_31]
    exact k_iret dX11_terms_34 rfl (by (repeat' split) <;> first | exact ⟨rfl, rfl⟩ | (exfalso; (try simp only [eq_self, not_true_eq_false, not_false_eq_true, k_b0, k_b1, k_c0, k_cl, k_cg, k_cle, k_cge] at *) <;> (try simp only [eq_self, not_true_eq_false, not_false_eq_true, k_le, k_lt, k_eq, k_leL, k_ltL, k_eqL, k_il, li_m6, li_m5, li_m3, li_m2, li_m1, li_0, li_1, li_2, li_3, li_4, li_5, li_6, li_7, li_8, li_10, li_11, li_12, li_20, li_24, li_25, li_26, li_32, li_39, li_40, li_48, li_57, li_59, li_60, li_96, li_97, li_100, li_122, li_180, li_200, li_255, li_300, li_468, li_480, li_500, li_1000, li_2000, li_10000, li_10001, li_100000, li_1000000, li_100000000, lj_m1, lj_0, lj_1, lj_2, lj_3, lj_24, lj_39, lj_100, lj_500, lj_1000, lj_2000, lj_10000, lj_100000, lj_1000000, lj_100000000, lj_10, lj_20, lj_12, lj_32, lj_96] at *) <;> omega))
  · skip
    refine k_iload_n (pc' := 18) dX11_terms_17 rfl rfl ?_
    refine k_i2l (pc' := 19) dX11_terms_18 rfl ?_
    refine k_lconst (pc' := 20) (v := 0) dX11_terms_19 rfl (by decide) ?_
    refine k_ldc2 (pc' := 23) dX11_terms_20 rfl kc_RX11_128 ?_
    refine k_callS3 (pc' := 26) dX11_terms_23 rfl ml_RX11_110 ⟨(Nat.le_of_ble_eq_true rfl), (Nat.le_of_ble_eq_true rfl)⟩ (Nat.le_of_ble_eq_true rfl) ev_X11_in (fun r_23 h_23 q_23 => ?_)
    obtain ⟨e_23, g_23⟩ := q_23
    rw [e_23, g_23]
    refine k_if_ne (pc' := 29) (tg := 35) dX11_terms_26 rfl (by decide) (fun c_26 => ?_) (fun c_26 => ?_)
    · skip
      refine k_aload_n (pc' := 36) dX11_terms_35 rfl rfl ?_
      refine k_iload_n (pc' := 37) dX11_terms_36 rfl rfl ?_
      refine k_putI (pc' := 40) fw_RX11_16 dX11_terms_37 rfl rfl rfl ?_
      refine k_aload_n (pc' := 41) dX11_terms_40 rfl rfl ?_
      refine k_iload_n (pc' := 42) dX11_terms_41 rfl rfl ?_
      refine k_putI (pc' := 45) fw_RX11_20 dX11_terms_42 rfl rfl rfl ?_
      refine k_aload_n (pc' := 46) dX11_terms_45 rfl rfl ?_
      refine k_iconst (pc' := 47) (v := 0) dX11_terms_46 rfl (by decide) ?_
      refine k_callV1 (pc' := 50) dX11_terms_47 rfl ml_RX11_120 rfl rfl ⟨(Nat.le_of_ble_eq_true rfl), (Nat.le_of_ble_eq_true rfl)⟩ (Nat.le_of_ble_eq_true rfl) ev_X11_told2 (fun r_47 h_47 q_47 => ?_)
      obtain ⟨e_47, g_47⟩ := q_47
      rw [e_47, g_47]
      exact k_iret dX11_terms_50 rfl (by (repeat' split) <;> first | exact ⟨rfl, rfl⟩ | (exfalso; (try simp only [eq_self, not_true_eq_false, not_false_eq_true, k_b0, k_b1, k_c0, k_cl, k_cg, k_cle, k_cge] at *) <;> (try simp only [eq_self, not_true_eq_false, not_false_eq_true, k_le, k_lt, k_eq, k_leL, k_ltL, k_eqL, k_il, li_m6, li_m5, li_m3, li_m2, li_m1, li_0, li_1, li_2, li_3, li_4, li_5, li_6, li_7, li_8, li_10, li_11, li_12, li_20, li_24, li_25, li_26, li_32, li_39, li_40, li_48, li_57, li_59, li_60, li_96, li_97, li_100, li_122, li_180, li_200, li_255, li_300, li_468, li_480, li_500, li_1000, li_2000, li_10000, li_10001, li_100000, li_1000000, li_100000000, lj_m1, lj_0, lj_1, lj_2, lj_3, lj_24, lj_39, lj_100, lj_500, lj_1000, lj_2000, lj_10000, lj_100000, lj_1000000, lj_100000000, lj_10, lj_20, lj_12, lj_32, lj_96] at *) <;> omega))
    · skip
      refine k_aload_n (pc' := 30) dX11_terms_29 rfl rfl ?_
      refine k_iconst (pc' := 31) (v := (-1)) dX11_terms_30 rfl (by decide) ?_
      refine k_callV1 (pc' := 34) dX11_terms_31 rfl ml_RX11_120 rfl rfl ⟨(Nat.le_of_ble_eq_true rfl), (Nat.le_of_ble_eq_true rfl)⟩ (Nat.le_of_ble_eq_true rfl) ev_X11_told2 (fun r_31 h_31 q_31 => ?_)
      obtain ⟨e_31, g_31⟩ := q_31
      rw [e_31, g_31]
      exact k_iret dX11_terms_34 rfl (by (repeat' split) <;> first | exact ⟨rfl, rfl⟩ | (exfalso; (try simp only [eq_self, not_true_eq_false, not_false_eq_true, k_b0, k_b1, k_c0, k_cl, k_cg, k_cle, k_cge] at *) <;> (try simp only [eq_self, not_true_eq_false, not_false_eq_true, k_le, k_lt, k_eq, k_leL, k_ltL, k_eqL, k_il, li_m6, li_m5, li_m3, li_m2, li_m1, li_0, li_1, li_2, li_3, li_4, li_5, li_6, li_7, li_8, li_10, li_11, li_12, li_20, li_24, li_25, li_26, li_32, li_39, li_40, li_48, li_57, li_59, li_60, li_96, li_97, li_100, li_122, li_180, li_200, li_255, li_300, li_468, li_480, li_500, li_1000, li_2000, li_10000, li_10001, li_100000, li_1000000, li_100000000, lj_m1, lj_0, lj_1, lj_2, lj_3, lj_24, lj_39, lj_100, lj_500, lj_1000, lj_2000, lj_10000, lj_100000, lj_1000000, lj_100000000, lj_10, lj_20, lj_12, lj_32, lj_96] at *) <;> omega))

set_option maxHeartbeats 400000 in
set_option maxRecDepth 100000 in
theorem ev_X11_price {s y p k : Int32} {μ : kH} (hz : 0 ≤ (μ.1 46 7).toInt) (hz2 : (μ.1 46 7).toInt ≤ 300) : Ev kX11_price [kr 46, ki s, ki y, ki p, ki k] μ (fun r h' => if ¬ ((0 ≤ s ∧ s ≤ 3) ∧ (0 ≤ y ∧ y ≤ 39) ∧ (0 ≤ p ∧ p ≤ 1000) ∧ (0 ≤ k ∧ k ≤ 39)) then r = ki (-1) ∧ h' = hI (hI μ 46 0 0) 46 1 (kst (-1)) else if μ.1 46 7 = 300 then r = ki (-5) ∧ h' = hI (hI μ 46 0 0) 46 1 (kst (-5)) else r = ki (μ.1 46 7 + 1) ∧ h' = hI (hI (hI (hI (hI (hI (hI μ 46 0 0) 49 (μ.1 46 7).toNatClampNeg s) 50 (μ.1 46 7).toNatClampNeg y) 51 (μ.1 46 7).toNatClampNeg p) 52 (μ.1 46 7).toNatClampNeg k) 46 7 (μ.1 46 7 + 1)) 46 1 (kst (μ.1 46 7 + 1))) := by
  refine k_ev (ls := [_, _, _, _, _]) (by decide) (Nat.le_of_ble_eq_true rfl) rfl ?_
  refine k_aload_n (pc' := 1) dX11_price_0 rfl rfl ?_
  refine k_iconst (pc' := 2) (v := 0) dX11_price_1 rfl (by decide) ?_
  refine k_putI (pc' := 5) fw_RX11_102 dX11_price_2 rfl rfl rfl ?_
  refine k_iload_n (pc' := 6) dX11_price_5 rfl rfl ?_
  refine k_callS1 (pc' := 9) dX11_price_6 rfl ml_RX11_124 ⟨(Nat.le_of_ble_eq_true rfl), (Nat.le_of_ble_eq_true rfl)⟩ (Nat.le_of_ble_eq_true rfl) ev_X11_isSort2 (fun r_6 h_6 q_6 => ?_)
  obtain ⟨e_6, g_6⟩ := q_6
  rw [e_6, g_6]
  refine k_if_eq (pc' := 12) (tg := 39) dX11_price_9 rfl (by decide) (fun c_9 => ?_) (fun c_9 => ?_)
  · skip
    refine k_aload_n (pc' := 40) dX11_price_39 rfl rfl ?_
    refine k_iconst (pc' := 41) (v := (-1)) dX11_price_40 rfl (by decide) ?_
    refine k_callV1 (pc' := 44) dX11_price_41 rfl ml_RX11_120 rfl rfl ⟨(Nat.le_of_ble_eq_true rfl), (Nat.le_of_ble_eq_true rfl)⟩ (Nat.le_of_ble_eq_true rfl) ev_X11_told2 (fun r_41 h_41 q_41 => ?_)
    obtain ⟨e_41, g_41⟩ := q_41
    rw [e_41, g_41]
    exact k_iret dX11_price_44 rfl (by (try (have c9 := ‹¬ _ = (300 : Int32)›; change ¬ μ.1 46 7 = 300 at c9)); (try (have c9 := ‹_ = (300 : Int32)›; change μ.1 46 7 = 300 at c9)); (repeat' split) <;> first | exact ⟨rfl, rfl⟩ | (exfalso; (try simp only [eq_self, not_true_eq_false, not_false_eq_true, k_b0, k_b1, k_c0, k_cl, k_cg, k_cle, k_cge] at *) <;> (try simp only [eq_self, not_true_eq_false, not_false_eq_true, k_le, k_lt, k_eq, k_leL, k_ltL, k_eqL, k_il, li_m6, li_m5, li_m3, li_m2, li_m1, li_0, li_1, li_2, li_3, li_4, li_5, li_6, li_7, li_8, li_10, li_11, li_12, li_20, li_24, li_25, li_26, li_32, li_39, li_40, li_48, li_57, li_59, li_60, li_96, li_97, li_100, li_122, li_180, li_200, li_255, li_300, li_468, li_480, li_500, li_1000, li_2000, li_10000, li_10001, li_100000, li_1000000, li_100000000, lj_m1, lj_0, lj_1, lj_2, lj_3, lj_24, lj_39, lj_100, lj_500, lj_1000, lj_2000, lj_10000, lj_100000, lj_1000000, lj_100000000, lj_10, lj_20, lj_12, lj_32, lj_96] at *) <;> omega))
  · skip
    refine k_iload_n (pc' := 13) dX11_price_12 rfl rfl ?_
    refine k_callS1 (pc' := 16) dX11_price_13 rfl ml_RX11_130 ⟨(Nat.le_of_ble_eq_true rfl), (Nat.le_of_ble_eq_true rfl)⟩ (Nat.le_of_ble_eq_true rfl) ev_X11_isYear2 (fun r_13 h_13 q_13 => ?_)
    obtain ⟨e_13, g_13⟩ := q_13
    rw [e_13, g_13]
    refine k_if_eq (pc' := 19) (tg := 39) dX11_price_16 rfl (by decide) (fun c_16 => ?_) (fun c_16 => ?_)
    · skip
      refine k_aload_n (pc' := 40) dX11_price_39 rfl rfl ?_
      refine k_iconst (pc' := 41) (v := (-1)) dX11_price_40 rfl (by decide) ?_
      refine k_callV1 (pc' := 44) dX11_price_41 rfl ml_RX11_120 rfl rfl ⟨(Nat.le_of_ble_eq_true rfl), (Nat.le_of_ble_eq_true rfl)⟩ (Nat.le_of_ble_eq_true rfl) ev_X11_told2 (fun r_41 h_41 q_41 => ?_)
      obtain ⟨e_41, g_41⟩ := q_41
      rw [e_41, g_41]
      exact k_iret dX11_price_44 rfl (by (try (have c9 := ‹¬ _ = (300 : Int32)›; change ¬ μ.1 46 7 = 300 at c9)); (try (have c9 := ‹_ = (300 : Int32)›; change μ.1 46 7 = 300 at c9)); (repeat' split) <;> first | exact ⟨rfl, rfl⟩ | (exfalso; (try simp only [eq_self, not_true_eq_false, not_false_eq_true, k_b0, k_b1, k_c0, k_cl, k_cg, k_cle, k_cge] at *) <;> (try simp only [eq_self, not_true_eq_false, not_false_eq_true, k_le, k_lt, k_eq, k_leL, k_ltL, k_eqL, k_il, li_m6, li_m5, li_m3, li_m2, li_m1, li_0, li_1, li_2, li_3, li_4, li_5, li_6, li_7, li_8, li_10, li_11, li_12, li_20, li_24, li_25, li_26, li_32, li_39, li_40, li_48, li_57, li_59, li_60, li_96, li_97, li_100, li_122, li_180, li_200, li_255, li_300, li_468, li_480, li_500, li_1000, li_2000, li_10000, li_10001, li_100000, li_1000000, li_100000000, lj_m1, lj_0, lj_1, lj_2, lj_3, lj_24, lj_39, lj_100, lj_500, lj_1000, lj_2000, lj_10000, lj_100000, lj_1000000, lj_100000000, lj_10, lj_20, lj_12, lj_32, lj_96] at *) <;> omega))
    · skip
      refine k_iload_n (pc' := 20) dX11_price_19 rfl rfl ?_
      refine k_i2l (pc' := 21) dX11_price_20 rfl ?_
      refine k_lconst (pc' := 22) (v := 0) dX11_price_21 rfl (by decide) ?_
      refine k_ldc2 (pc' := 25) dX11_price_22 rfl kc_RX11_133 ?_
      refine k_callS3 (pc' := 28) dX11_price_25 rfl ml_RX11_110 ⟨(Nat.le_of_ble_eq_true rfl), (Nat.le_of_ble_eq_true rfl)⟩ (Nat.le_of_ble_eq_true rfl) ev_X11_in (fun r_25 h_25 q_25 => ?_)
      obtain ⟨e_25, g_25⟩ := q_25
      rw [e_25, g_25]
      refine k_if_eq (pc' := 31) (tg := 39) dX11_price_28 rfl (by decide) (fun c_28 => ?_) (fun c_28 => ?_)
      · skip
        refine k_aload_n (pc' := 40) dX11_price_39 rfl rfl ?_
        refine k_iconst (pc' := 41) (v := (-1)) dX11_price_40 rfl (by decide) ?_
        refine k_callV1 (pc' := 44) dX11_price_41 rfl ml_RX11_120 rfl rfl ⟨(Nat.le_of_ble_eq_true rfl), (Nat.le_of_ble_eq_true rfl)⟩ (Nat.le_of_ble_eq_true rfl) ev_X11_told2 (fun r_41 h_41 q_41 => ?_)
        obtain ⟨e_41, g_41⟩ := q_41
        rw [e_41, g_41]
        exact k_iret dX11_price_44 rfl (by (try (have c9 := ‹¬ _ = (300 : Int32)›; change ¬ μ.1 46 7 = 300 at c9)); (try (have c9 := ‹_ = (300 : Int32)›; change μ.1 46 7 = 300 at c9)); (repeat' split) <;> first | exact ⟨rfl, rfl⟩ | (exfalso; (try simp only [eq_self, not_true_eq_false, not_false_eq_true, k_b0, k_b1, k_c0, k_cl, k_cg, k_cle, k_cge] at *) <;> (try simp only [eq_self, not_true_eq_false, not_false_eq_true, k_le, k_lt, k_eq, k_leL, k_ltL, k_eqL, k_il, li_m6, li_m5, li_m3, li_m2, li_m1, li_0, li_1, li_2, li_3, li_4, li_5, li_6, li_7, li_8, li_10, li_11, li_12, li_20, li_24, li_25, li_26, li_32, li_39, li_40, li_48, li_57, li_59, li_60, li_96, li_97, li_100, li_122, li_180, li_200, li_255, li_300, li_468, li_480, li_500, li_1000, li_2000, li_10000, li_10001, li_100000, li_1000000, li_100000000, lj_m1, lj_0, lj_1, lj_2, lj_3, lj_24, lj_39, lj_100, lj_500, lj_1000, lj_2000, lj_10000, lj_100000, lj_1000000, lj_100000000, lj_10, lj_20, lj_12, lj_32, lj_96] at *) <;> omega))
      · skip
        refine k_iload (pc' := 33) dX11_price_31 rfl rfl ?_
        refine k_callS1 (pc' := 36) dX11_price_33 rfl ml_RX11_130 ⟨(Nat.le_of_ble_eq_true rfl), (Nat.le_of_ble_eq_true rfl)⟩ (Nat.le_of_ble_eq_true rfl) ev_X11_isYear2 (fun r_33 h_33 q_33 => ?_)
        obtain ⟨e_33, g_33⟩ := q_33
        rw [e_33, g_33]
        refine k_if_ne (pc' := 39) (tg := 45) dX11_price_36 rfl (by decide) (fun c_36 => ?_) (fun c_36 => ?_)
        · skip
          refine k_aload_n (pc' := 46) dX11_price_45 rfl rfl ?_
          refine k_getI (pc' := 49) fl_RX11_135 dX11_price_46 rfl rfl rfl ?_
          refine k_sipush (pc' := 52) (v := 300) dX11_price_49 rfl (by decide) ?_
          refine k_icmp_ne (pc' := 55) (tg := 62) dX11_price_52 rfl (by decide) (fun c_52 => ?_) (fun c_52 => ?_)
          · skip
            refine k_aload_n (pc' := 63) dX11_price_62 rfl rfl ?_
            refine k_getR (pc' := 66) fl_RX11_23 dX11_price_63 rfl rfl rfl ?_
            refine k_aload_n (pc' := 67) dX11_price_66 rfl rfl ?_
            refine k_getI (pc' := 70) fl_RX11_135 dX11_price_67 rfl rfl rfl ?_
            refine k_iload_n (pc' := 71) dX11_price_70 rfl rfl ?_
            refine k_iast (pc' := 72) dX11_price_71 rfl rfl (vp_in_iff.mpr (by have c9 := ‹¬ _ = (300 : Int32)›; change ¬ μ.1 46 7 = 300 at c9; show 0 ≤ (μ.1 46 7).toInt ∧ (μ.1 46 7).toInt < 300; (try simp only [eq_self, not_true_eq_false, not_false_eq_true, k_b0, k_b1, k_c0, k_cl, k_cg, k_cle, k_cge] at *) <;> (try simp only [eq_self, not_true_eq_false, not_false_eq_true, k_le, k_lt, k_eq, k_leL, k_ltL, k_eqL, k_il, li_m6, li_m5, li_m3, li_m2, li_m1, li_0, li_1, li_2, li_3, li_4, li_5, li_6, li_7, li_8, li_10, li_11, li_12, li_20, li_24, li_25, li_26, li_32, li_39, li_40, li_48, li_57, li_59, li_60, li_96, li_97, li_100, li_122, li_180, li_200, li_255, li_300, li_468, li_480, li_500, li_1000, li_2000, li_10000, li_10001, li_100000, li_1000000, li_100000000, lj_m1, lj_0, lj_1, lj_2, lj_3, lj_24, lj_39, lj_100, lj_500, lj_1000, lj_2000, lj_10000, lj_100000, lj_1000000, lj_100000000, lj_10, lj_20, lj_12, lj_32, lj_96] at *) <;> omega)) ?_
            refine k_aload_n (pc' := 73) dX11_price_72 rfl rfl ?_
            refine k_getR (pc' := 76) fl_RX11_26 dX11_price_73 rfl rfl rfl ?_
            refine k_aload_n (pc' := 77) dX11_price_76 rfl rfl ?_
            refine k_getI (pc' := 80) fl_RX11_135 dX11_price_77 rfl rfl rfl ?_
            refine k_iload_n (pc' := 81) dX11_price_80 rfl rfl ?_
            refine k_iast (pc' := 82) dX11_price_81 rfl rfl (vp_in_iff.mpr (by have c9 := ‹¬ _ = (300 : Int32)›; change ¬ μ.1 46 7 = 300 at c9; show 0 ≤ (μ.1 46 7).toInt ∧ (μ.1 46 7).toInt < 300; (try simp only [eq_self, not_true_eq_false, not_false_eq_true, k_b0, k_b1, k_c0, k_cl, k_cg, k_cle, k_cge] at *) <;> (try simp only [eq_self, not_true_eq_false, not_false_eq_true, k_le, k_lt, k_eq, k_leL, k_ltL, k_eqL, k_il, li_m6, li_m5, li_m3, li_m2, li_m1, li_0, li_1, li_2, li_3, li_4, li_5, li_6, li_7, li_8, li_10, li_11, li_12, li_20, li_24, li_25, li_26, li_32, li_39, li_40, li_48, li_57, li_59, li_60, li_96, li_97, li_100, li_122, li_180, li_200, li_255, li_300, li_468, li_480, li_500, li_1000, li_2000, li_10000, li_10001, li_100000, li_1000000, li_100000000, lj_m1, lj_0, lj_1, lj_2, lj_3, lj_24, lj_39, lj_100, lj_500, lj_1000, lj_2000, lj_10000, lj_100000, lj_1000000, lj_100000000, lj_10, lj_20, lj_12, lj_32, lj_96] at *) <;> omega)) ?_
            refine k_aload_n (pc' := 83) dX11_price_82 rfl rfl ?_
            refine k_getR (pc' := 86) fl_RX11_29 dX11_price_83 rfl rfl rfl ?_
            refine k_aload_n (pc' := 87) dX11_price_86 rfl rfl ?_
            refine k_getI (pc' := 90) fl_RX11_135 dX11_price_87 rfl rfl rfl ?_
            refine k_iload_n (pc' := 91) dX11_price_90 rfl rfl ?_
            refine k_iast (pc' := 92) dX11_price_91 rfl rfl (vp_in_iff.mpr (by have c9 := ‹¬ _ = (300 : Int32)›; change ¬ μ.1 46 7 = 300 at c9; show 0 ≤ (μ.1 46 7).toInt ∧ (μ.1 46 7).toInt < 300; (try simp only [eq_self, not_true_eq_false, not_false_eq_true, k_b0, k_b1, k_c0, k_cl, k_cg, k_cle, k_cge] at *) <;> (try simp only [eq_self, not_true_eq_false, not_false_eq_true, k_le, k_lt, k_eq, k_leL, k_ltL, k_eqL, k_il, li_m6, li_m5, li_m3, li_m2, li_m1, li_0, li_1, li_2, li_3, li_4, li_5, li_6, li_7, li_8, li_10, li_11, li_12, li_20, li_24, li_25, li_26, li_32, li_39, li_40, li_48, li_57, li_59, li_60, li_96, li_97, li_100, li_122, li_180, li_200, li_255, li_300, li_468, li_480, li_500, li_1000, li_2000, li_10000, li_10001, li_100000, li_1000000, li_100000000, lj_m1, lj_0, lj_1, lj_2, lj_3, lj_24, lj_39, lj_100, lj_500, lj_1000, lj_2000, lj_10000, lj_100000, lj_1000000, lj_100000000, lj_10, lj_20, lj_12, lj_32, lj_96] at *) <;> omega)) ?_
            refine k_aload_n (pc' := 93) dX11_price_92 rfl rfl ?_
            refine k_getR (pc' := 96) fl_RX11_32 dX11_price_93 rfl rfl rfl ?_
            refine k_aload_n (pc' := 97) dX11_price_96 rfl rfl ?_
            refine k_getI (pc' := 100) fl_RX11_135 dX11_price_97 rfl rfl rfl ?_
            refine k_iload (pc' := 102) dX11_price_100 rfl rfl ?_
            refine k_iast (pc' := 103) dX11_price_102 rfl rfl (vp_in_iff.mpr (by have c9 := ‹¬ _ = (300 : Int32)›; change ¬ μ.1 46 7 = 300 at c9; show 0 ≤ (μ.1 46 7).toInt ∧ (μ.1 46 7).toInt < 300; (try simp only [eq_self, not_true_eq_false, not_false_eq_true, k_b0, k_b1, k_c0, k_cl, k_cg, k_cle, k_cge] at *) <;> (try simp only [eq_self, not_true_eq_false, not_false_eq_true, k_le, k_lt, k_eq, k_leL, k_ltL, k_eqL, k_il, li_m6, li_m5, li_m3, li_m2, li_m1, li_0, li_1, li_2, li_3, li_4, li_5, li_6, li_7, li_8, li_10, li_11, li_12, li_20, li_24, li_25, li_26, li_32, li_39, li_40, li_48, li_57, li_59, li_60, li_96, li_97, li_100, li_122, li_180, li_200, li_255, li_300, li_468, li_480, li_500, li_1000, li_2000, li_10000, li_10001, li_100000, li_1000000, li_100000000, lj_m1, lj_0, lj_1, lj_2, lj_3, lj_24, lj_39, lj_100, lj_500, lj_1000, lj_2000, lj_10000, lj_100000, lj_1000000, lj_100000000, lj_10, lj_20, lj_12, lj_32, lj_96] at *) <;> omega)) ?_
            refine k_aload_n (pc' := 104) dX11_price_103 rfl rfl ?_
            refine k_dup (pc' := 105) dX11_price_104 rfl rfl ?_
            refine k_getI (pc' := 108) fl_RX11_135 dX11_price_105 rfl rfl rfl ?_
            refine k_iconst (pc' := 109) (v := 1) dX11_price_108 rfl (by decide) ?_
            refine k_iadd (pc' := 110) dX11_price_109 rfl ?_
            refine k_putI (pc' := 113) fw_RX11_135 dX11_price_110 rfl rfl rfl ?_
            refine k_aload_n (pc' := 114) dX11_price_113 rfl rfl ?_
            refine k_aload_n (pc' := 115) dX11_price_114 rfl rfl ?_
            refine k_getI (pc' := 118) fl_RX11_135 dX11_price_115 rfl rfl rfl ?_
            refine k_callV1 (pc' := 121) dX11_price_118 rfl ml_RX11_120 rfl rfl ⟨(Nat.le_of_ble_eq_true rfl), (Nat.le_of_ble_eq_true rfl)⟩ (Nat.le_of_ble_eq_true rfl) ev_X11_told2 (fun r_118 h_118 q_118 => ?_)
            obtain ⟨e_118, g_118⟩ := q_118
            rw [e_118, g_118]
            exact k_iret dX11_price_121 rfl (by (try (have c9 := ‹¬ _ = (300 : Int32)›; change ¬ μ.1 46 7 = 300 at c9)); (try (have c9 := ‹_ = (300 : Int32)›; change μ.1 46 7 = 300 at c9)); (repeat' split) <;> first | exact ⟨rfl, rfl⟩ | (exfalso; (try simp only [eq_self, not_true_eq_false, not_false_eq_true, k_b0, k_b1, k_c0, k_cl, k_cg, k_cle, k_cge] at *) <;> (try simp only [eq_self, not_true_eq_false, not_false_eq_true, k_le, k_lt, k_eq, k_leL, k_ltL, k_eqL, k_il, li_m6, li_m5, li_m3, li_m2, li_m1, li_0, li_1, li_2, li_3, li_4, li_5, li_6, li_7, li_8, li_10, li_11, li_12, li_20, li_24, li_25, li_26, li_32, li_39, li_40, li_48, li_57, li_59, li_60, li_96, li_97, li_100, li_122, li_180, li_200, li_255, li_300, li_468, li_480, li_500, li_1000, li_2000, li_10000, li_10001, li_100000, li_1000000, li_100000000, lj_m1, lj_0, lj_1, lj_2, lj_3, lj_24, lj_39, lj_100, lj_500, lj_1000, lj_2000, lj_10000, lj_100000, lj_1000000, lj_100000000, lj_10, lj_20, lj_12, lj_32, lj_96] at *) <;> omega))
          · skip
            refine k_aload_n (pc' := 56) dX11_price_55 rfl rfl ?_
            refine k_bipush (pc' := 58) (v := (-5)) dX11_price_56 rfl (by decide) ?_
            refine k_callV1 (pc' := 61) dX11_price_58 rfl ml_RX11_120 rfl rfl ⟨(Nat.le_of_ble_eq_true rfl), (Nat.le_of_ble_eq_true rfl)⟩ (Nat.le_of_ble_eq_true rfl) ev_X11_told2 (fun r_58 h_58 q_58 => ?_)
            obtain ⟨e_58, g_58⟩ := q_58
            rw [e_58, g_58]
            exact k_iret dX11_price_61 rfl (by (try (have c9 := ‹¬ _ = (300 : Int32)›; change ¬ μ.1 46 7 = 300 at c9)); (try (have c9 := ‹_ = (300 : Int32)›; change μ.1 46 7 = 300 at c9)); (repeat' split) <;> first | exact ⟨rfl, rfl⟩ | (exfalso; (try simp only [eq_self, not_true_eq_false, not_false_eq_true, k_b0, k_b1, k_c0, k_cl, k_cg, k_cle, k_cge] at *) <;> (try simp only [eq_self, not_true_eq_false, not_false_eq_true, k_le, k_lt, k_eq, k_leL, k_ltL, k_eqL, k_il, li_m6, li_m5, li_m3, li_m2, li_m1, li_0, li_1, li_2, li_3, li_4, li_5, li_6, li_7, li_8, li_10, li_11, li_12, li_20, li_24, li_25, li_26, li_32, li_39, li_40, li_48, li_57, li_59, li_60, li_96, li_97, li_100, li_122, li_180, li_200, li_255, li_300, li_468, li_480, li_500, li_1000, li_2000, li_10000, li_10001, li_100000, li_1000000, li_100000000, lj_m1, lj_0, lj_1, lj_2, lj_3, lj_24, lj_39, lj_100, lj_500, lj_1000, lj_2000, lj_10000, lj_100000, lj_1000000, lj_100000000, lj_10, lj_20, lj_12, lj_32, lj_96] at *) <;> omega))
        · skip
          refine k_aload_n (pc' := 40) dX11_price_39 rfl rfl ?_
          refine k_iconst (pc' := 41) (v := (-1)) dX11_price_40 rfl (by decide) ?_
          refine k_callV1 (pc' := 44) dX11_price_41 rfl ml_RX11_120 rfl rfl ⟨(Nat.le_of_ble_eq_true rfl), (Nat.le_of_ble_eq_true rfl)⟩ (Nat.le_of_ble_eq_true rfl) ev_X11_told2 (fun r_41 h_41 q_41 => ?_)
          obtain ⟨e_41, g_41⟩ := q_41
          rw [e_41, g_41]
          exact k_iret dX11_price_44 rfl (by (try (have c9 := ‹¬ _ = (300 : Int32)›; change ¬ μ.1 46 7 = 300 at c9)); (try (have c9 := ‹_ = (300 : Int32)›; change μ.1 46 7 = 300 at c9)); (repeat' split) <;> first | exact ⟨rfl, rfl⟩ | (exfalso; (try simp only [eq_self, not_true_eq_false, not_false_eq_true, k_b0, k_b1, k_c0, k_cl, k_cg, k_cle, k_cge] at *) <;> (try simp only [eq_self, not_true_eq_false, not_false_eq_true, k_le, k_lt, k_eq, k_leL, k_ltL, k_eqL, k_il, li_m6, li_m5, li_m3, li_m2, li_m1, li_0, li_1, li_2, li_3, li_4, li_5, li_6, li_7, li_8, li_10, li_11, li_12, li_20, li_24, li_25, li_26, li_32, li_39, li_40, li_48, li_57, li_59, li_60, li_96, li_97, li_100, li_122, li_180, li_200, li_255, li_300, li_468, li_480, li_500, li_1000, li_2000, li_10000, li_10001, li_100000, li_1000000, li_100000000, lj_m1, lj_0, lj_1, lj_2, lj_3, lj_24, lj_39, lj_100, lj_500, lj_1000, lj_2000, lj_10000, lj_100000, lj_1000000, lj_100000000, lj_10, lj_20, lj_12, lj_32, lj_96] at *) <;> omega))

set_option maxHeartbeats 400000 in
set_option maxRecDepth 100000 in
theorem ev_X11_garden {v a : Int32} {μ : kH} (hz : 0 ≤ (μ.1 46 13).toInt) (hz2 : (μ.1 46 13).toInt ≤ 12) : Ev kX11_garden [kr 46, ki v, ki a] μ (fun r h' => if ¬ ((1 ≤ v ∧ v ≤ 2000) ∧ (-1 ≤ a ∧ a ≤ 24)) then r = ki (-1) ∧ h' = hI (hI μ 46 0 0) 46 1 (kst (-1)) else if μ.1 46 13 = 12 then r = ki (-5) ∧ h' = hI (hI μ 46 0 0) 46 1 (kst (-5)) else r = ki (μ.1 46 13 + 1 - 1) ∧ h' = hI (hI (hI (hI (hI μ 46 0 0) 54 (μ.1 46 13).toNatClampNeg v) 55 (μ.1 46 13).toNatClampNeg a) 46 13 (μ.1 46 13 + 1)) 46 1 (kst (μ.1 46 13 + 1 - 1))) := by
  refine k_ev (ls := [_, _, _]) (by decide) (Nat.le_of_ble_eq_true rfl) rfl ?_
  refine k_aload_n (pc' := 1) dX11_garden_0 rfl rfl ?_
  refine k_iconst (pc' := 2) (v := 0) dX11_garden_1 rfl (by decide) ?_
  refine k_putI (pc' := 5) fw_RX11_102 dX11_garden_2 rfl rfl rfl ?_
  refine k_iload_n (pc' := 6) dX11_garden_5 rfl rfl ?_
  refine k_i2l (pc' := 7) dX11_garden_6 rfl ?_
  refine k_lconst (pc' := 8) (v := 1) dX11_garden_7 rfl (by decide) ?_
  refine k_ldc2 (pc' := 11) dX11_garden_8 rfl kc_RX11_145 ?_
  refine k_callS3 (pc' := 14) dX11_garden_11 rfl ml_RX11_110 ⟨(Nat.le_of_ble_eq_true rfl), (Nat.le_of_ble_eq_true rfl)⟩ (Nat.le_of_ble_eq_true rfl) ev_X11_in (fun r_11 h_11 q_11 => ?_)
  obtain ⟨e_11, g_11⟩ := q_11
  rw [e_11, g_11]
  refine k_if_eq (pc' := 17) (tg := 31) dX11_garden_14 rfl (by decide) (fun c_14 => ?_) (fun c_14 => ?_)
  · skip
    refine k_aload_n (pc' := 32) dX11_garden_31 rfl rfl ?_
    refine k_iconst (pc' := 33) (v := (-1)) dX11_garden_32 rfl (by decide) ?_
    refine k_callV1 (pc' := 36) dX11_garden_33 rfl ml_RX11_120 rfl rfl ⟨(Nat.le_of_ble_eq_true rfl), (Nat.le_of_ble_eq_true rfl)⟩ (Nat.le_of_ble_eq_true rfl) ev_X11_told2 (fun r_33 h_33 q_33 => ?_)
    obtain ⟨e_33, g_33⟩ := q_33
    rw [e_33, g_33]
    exact k_iret dX11_garden_36 rfl (by (try (have c9 := ‹¬ _ = (12 : Int32)›; change ¬ μ.1 46 13 = 12 at c9)); (try (have c9 := ‹_ = (12 : Int32)›; change μ.1 46 13 = 12 at c9)); (repeat' split) <;> first | exact ⟨rfl, rfl⟩ | (exfalso; (try simp only [eq_self, not_true_eq_false, not_false_eq_true, k_b0, k_b1, k_c0, k_cl, k_cg, k_cle, k_cge] at *) <;> (try simp only [eq_self, not_true_eq_false, not_false_eq_true, k_le, k_lt, k_eq, k_leL, k_ltL, k_eqL, k_il, li_m6, li_m5, li_m3, li_m2, li_m1, li_0, li_1, li_2, li_3, li_4, li_5, li_6, li_7, li_8, li_10, li_11, li_12, li_20, li_24, li_25, li_26, li_32, li_39, li_40, li_48, li_57, li_59, li_60, li_96, li_97, li_100, li_122, li_180, li_200, li_255, li_300, li_468, li_480, li_500, li_1000, li_2000, li_10000, li_10001, li_100000, li_1000000, li_100000000, lj_m1, lj_0, lj_1, lj_2, lj_3, lj_24, lj_39, lj_100, lj_500, lj_1000, lj_2000, lj_10000, lj_100000, lj_1000000, lj_100000000, lj_10, lj_20, lj_12, lj_32, lj_96] at *) <;> omega))
  · skip
    refine k_iload_n (pc' := 18) dX11_garden_17 rfl rfl ?_
    refine k_i2l (pc' := 19) dX11_garden_18 rfl ?_
    refine k_ldc2 (pc' := 22) dX11_garden_19 rfl kc_RX11_147 ?_
    refine k_ldc2 (pc' := 25) dX11_garden_22 rfl kc_RX11_116 ?_
    refine k_callS3 (pc' := 28) dX11_garden_25 rfl ml_RX11_110 ⟨(Nat.le_of_ble_eq_true rfl), (Nat.le_of_ble_eq_true rfl)⟩ (Nat.le_of_ble_eq_true rfl) ev_X11_in (fun r_25 h_25 q_25 => ?_)
    obtain ⟨e_25, g_25⟩ := q_25
    rw [e_25, g_25]
    refine k_if_ne (pc' := 31) (tg := 37) dX11_garden_28 rfl (by decide) (fun c_28 => ?_) (fun c_28 => ?_)
    · skip
      refine k_aload_n (pc' := 38) dX11_garden_37 rfl rfl ?_
      refine k_getI (pc' := 41) fl_RX11_142 dX11_garden_38 rfl rfl rfl ?_
      refine k_bipush (pc' := 43) (v := 12) dX11_garden_41 rfl (by decide) ?_
      refine k_icmp_ne (pc' := 46) (tg := 53) dX11_garden_43 rfl (by decide) (fun c_43 => ?_) (fun c_43 => ?_)
      · skip
        refine k_aload_n (pc' := 54) dX11_garden_53 rfl rfl ?_
        refine k_getR (pc' := 57) fl_RX11_38 dX11_garden_54 rfl rfl rfl ?_
        refine k_aload_n (pc' := 58) dX11_garden_57 rfl rfl ?_
        refine k_getI (pc' := 61) fl_RX11_142 dX11_garden_58 rfl rfl rfl ?_
        refine k_iload_n (pc' := 62) dX11_garden_61 rfl rfl ?_
        refine k_iast (pc' := 63) dX11_garden_62 rfl rfl (vp_in_iff.mpr (by have c9 := ‹¬ _ = (12 : Int32)›; change ¬ μ.1 46 13 = 12 at c9; show 0 ≤ (μ.1 46 13).toInt ∧ (μ.1 46 13).toInt < 12; (try simp only [eq_self, not_true_eq_false, not_false_eq_true, k_b0, k_b1, k_c0, k_cl, k_cg, k_cle, k_cge] at *) <;> (try simp only [eq_self, not_true_eq_false, not_false_eq_true, k_le, k_lt, k_eq, k_leL, k_ltL, k_eqL, k_il, li_m6, li_m5, li_m3, li_m2, li_m1, li_0, li_1, li_2, li_3, li_4, li_5, li_6, li_7, li_8, li_10, li_11, li_12, li_20, li_24, li_25, li_26, li_32, li_39, li_40, li_48, li_57, li_59, li_60, li_96, li_97, li_100, li_122, li_180, li_200, li_255, li_300, li_468, li_480, li_500, li_1000, li_2000, li_10000, li_10001, li_100000, li_1000000, li_100000000, lj_m1, lj_0, lj_1, lj_2, lj_3, lj_24, lj_39, lj_100, lj_500, lj_1000, lj_2000, lj_10000, lj_100000, lj_1000000, lj_100000000, lj_10, lj_20, lj_12, lj_32, lj_96] at *) <;> omega)) ?_
        refine k_aload_n (pc' := 64) dX11_garden_63 rfl rfl ?_
        refine k_getR (pc' := 67) fl_RX11_41 dX11_garden_64 rfl rfl rfl ?_
        refine k_aload_n (pc' := 68) dX11_garden_67 rfl rfl ?_
        refine k_getI (pc' := 71) fl_RX11_142 dX11_garden_68 rfl rfl rfl ?_
        refine k_iload_n (pc' := 72) dX11_garden_71 rfl rfl ?_
        refine k_iast (pc' := 73) dX11_garden_72 rfl rfl (vp_in_iff.mpr (by have c9 := ‹¬ _ = (12 : Int32)›; change ¬ μ.1 46 13 = 12 at c9; show 0 ≤ (μ.1 46 13).toInt ∧ (μ.1 46 13).toInt < 12; (try simp only [eq_self, not_true_eq_false, not_false_eq_true, k_b0, k_b1, k_c0, k_cl, k_cg, k_cle, k_cge] at *) <;> (try simp only [eq_self, not_true_eq_false, not_false_eq_true, k_le, k_lt, k_eq, k_leL, k_ltL, k_eqL, k_il, li_m6, li_m5, li_m3, li_m2, li_m1, li_0, li_1, li_2, li_3, li_4, li_5, li_6, li_7, li_8, li_10, li_11, li_12, li_20, li_24, li_25, li_26, li_32, li_39, li_40, li_48, li_57, li_59, li_60, li_96, li_97, li_100, li_122, li_180, li_200, li_255, li_300, li_468, li_480, li_500, li_1000, li_2000, li_10000, li_10001, li_100000, li_1000000, li_100000000, lj_m1, lj_0, lj_1, lj_2, lj_3, lj_24, lj_39, lj_100, lj_500, lj_1000, lj_2000, lj_10000, lj_100000, lj_1000000, lj_100000000, lj_10, lj_20, lj_12, lj_32, lj_96] at *) <;> omega)) ?_
        refine k_aload_n (pc' := 74) dX11_garden_73 rfl rfl ?_
        refine k_dup (pc' := 75) dX11_garden_74 rfl rfl ?_
        refine k_getI (pc' := 78) fl_RX11_142 dX11_garden_75 rfl rfl rfl ?_
        refine k_iconst (pc' := 79) (v := 1) dX11_garden_78 rfl (by decide) ?_
        refine k_iadd (pc' := 80) dX11_garden_79 rfl ?_
        refine k_putI (pc' := 83) fw_RX11_142 dX11_garden_80 rfl rfl rfl ?_
        refine k_aload_n (pc' := 84) dX11_garden_83 rfl rfl ?_
        refine k_aload_n (pc' := 85) dX11_garden_84 rfl rfl ?_
        refine k_getI (pc' := 88) fl_RX11_142 dX11_garden_85 rfl rfl rfl ?_
        refine k_iconst (pc' := 89) (v := 1) dX11_garden_88 rfl (by decide) ?_
        refine k_isub (pc' := 90) dX11_garden_89 rfl ?_
        refine k_callV1 (pc' := 93) dX11_garden_90 rfl ml_RX11_120 rfl rfl ⟨(Nat.le_of_ble_eq_true rfl), (Nat.le_of_ble_eq_true rfl)⟩ (Nat.le_of_ble_eq_true rfl) ev_X11_told2 (fun r_90 h_90 q_90 => ?_)
        obtain ⟨e_90, g_90⟩ := q_90
        rw [e_90, g_90]
        exact k_iret dX11_garden_93 rfl (by (try (have c9 := ‹¬ _ = (12 : Int32)›; change ¬ μ.1 46 13 = 12 at c9)); (try (have c9 := ‹_ = (12 : Int32)›; change μ.1 46 13 = 12 at c9)); (repeat' split) <;> first | exact ⟨rfl, rfl⟩ | (exfalso; (try simp only [eq_self, not_true_eq_false, not_false_eq_true, k_b0, k_b1, k_c0, k_cl, k_cg, k_cle, k_cge] at *) <;> (try simp only [eq_self, not_true_eq_false, not_false_eq_true, k_le, k_lt, k_eq, k_leL, k_ltL, k_eqL, k_il, li_m6, li_m5, li_m3, li_m2, li_m1, li_0, li_1, li_2, li_3, li_4, li_5, li_6, li_7, li_8, li_10, li_11, li_12, li_20, li_24, li_25, li_26, li_32, li_39, li_40, li_48, li_57, li_59, li_60, li_96, li_97, li_100, li_122, li_180, li_200, li_255, li_300, li_468, li_480, li_500, li_1000, li_2000, li_10000, li_10001, li_100000, li_1000000, li_100000000, lj_m1, lj_0, lj_1, lj_2, lj_3, lj_24, lj_39, lj_100, lj_500, lj_1000, lj_2000, lj_10000, lj_100000, lj_1000000, lj_100000000, lj_10, lj_20, lj_12, lj_32, lj_96] at *) <;> omega))
      · skip
        refine k_aload_n (pc' := 47) dX11_garden_46 rfl rfl ?_
        refine k_bipush (pc' := 49) (v := (-5)) dX11_garden_47 rfl (by decide) ?_
        refine k_callV1 (pc' := 52) dX11_garden_49 rfl ml_RX11_120 rfl rfl ⟨(Nat.le_of_ble_eq_true rfl), (Nat.le_of_ble_eq_true rfl)⟩ (Nat.le_of_ble_eq_true rfl) ev_X11_told2 (fun r_49 h_49 q_49 => ?_)
        obtain ⟨e_49, g_49⟩ := q_49
        rw [e_49, g_49]
        exact k_iret dX11_garden_52 rfl (by (try (have c9 := ‹¬ _ = (12 : Int32)›; change ¬ μ.1 46 13 = 12 at c9)); (try (have c9 := ‹_ = (12 : Int32)›; change μ.1 46 13 = 12 at c9)); (repeat' split) <;> first | exact ⟨rfl, rfl⟩ | (exfalso; (try simp only [eq_self, not_true_eq_false, not_false_eq_true, k_b0, k_b1, k_c0, k_cl, k_cg, k_cle, k_cge] at *) <;> (try simp only [eq_self, not_true_eq_false, not_false_eq_true, k_le, k_lt, k_eq, k_leL, k_ltL, k_eqL, k_il, li_m6, li_m5, li_m3, li_m2, li_m1, li_0, li_1, li_2, li_3, li_4, li_5, li_6, li_7, li_8, li_10, li_11, li_12, li_20, li_24, li_25, li_26, li_32, li_39, li_40, li_48, li_57, li_59, li_60, li_96, li_97, li_100, li_122, li_180, li_200, li_255, li_300, li_468, li_480, li_500, li_1000, li_2000, li_10000, li_10001, li_100000, li_1000000, li_100000000, lj_m1, lj_0, lj_1, lj_2, lj_3, lj_24, lj_39, lj_100, lj_500, lj_1000, lj_2000, lj_10000, lj_100000, lj_1000000, lj_100000000, lj_10, lj_20, lj_12, lj_32, lj_96] at *) <;> omega))
    · skip
      refine k_aload_n (pc' := 32) dX11_garden_31 rfl rfl ?_
      refine k_iconst (pc' := 33) (v := (-1)) dX11_garden_32 rfl (by decide) ?_
      refine k_callV1 (pc' := 36) dX11_garden_33 rfl ml_RX11_120 rfl rfl ⟨(Nat.le_of_ble_eq_true rfl), (Nat.le_of_ble_eq_true rfl)⟩ (Nat.le_of_ble_eq_true rfl) ev_X11_told2 (fun r_33 h_33 q_33 => ?_)
      obtain ⟨e_33, g_33⟩ := q_33
      rw [e_33, g_33]
      exact k_iret dX11_garden_36 rfl (by (try (have c9 := ‹¬ _ = (12 : Int32)›; change ¬ μ.1 46 13 = 12 at c9)); (try (have c9 := ‹_ = (12 : Int32)›; change μ.1 46 13 = 12 at c9)); (repeat' split) <;> first | exact ⟨rfl, rfl⟩ | (exfalso; (try simp only [eq_self, not_true_eq_false, not_false_eq_true, k_b0, k_b1, k_c0, k_cl, k_cg, k_cle, k_cge] at *) <;> (try simp only [eq_self, not_true_eq_false, not_false_eq_true, k_le, k_lt, k_eq, k_leL, k_ltL, k_eqL, k_il, li_m6, li_m5, li_m3, li_m2, li_m1, li_0, li_1, li_2, li_3, li_4, li_5, li_6, li_7, li_8, li_10, li_11, li_12, li_20, li_24, li_25, li_26, li_32, li_39, li_40, li_48, li_57, li_59, li_60, li_96, li_97, li_100, li_122, li_180, li_200, li_255, li_300, li_468, li_480, li_500, li_1000, li_2000, li_10000, li_10001, li_100000, li_1000000, li_100000000, lj_m1, lj_0, lj_1, lj_2, lj_3, lj_24, lj_39, lj_100, lj_500, lj_1000, lj_2000, lj_10000, lj_100000, lj_1000000, lj_100000000, lj_10, lj_20, lj_12, lj_32, lj_96] at *) <;> omega))

set_option maxHeartbeats 400000 in
set_option maxRecDepth 100000 in
theorem ev_X11_of {g w : Int32} {μ : kH} (hg : 0 ≤ (μ.1 46 13).toInt) (hg2 : (μ.1 46 13).toInt ≤ 12) : Ev kX11_of [kr 46, ki g, ki w] μ (fun r h' => r = ki (if (0 ≤ g ∧ g < μ.1 46 13) then (if w = 0 then μ.1 54 g.toNatClampNeg else if w = 1 then μ.1 55 g.toNatClampNeg else -1) else -1) ∧ h' = hI μ 46 0 0) := by
  refine k_ev (ls := [_, _, _]) (by decide) (Nat.le_of_ble_eq_true rfl) rfl ?_
  refine k_aload_n (pc' := 1) dX11_of_0 rfl rfl ?_
  refine k_iconst (pc' := 2) (v := 0) dX11_of_1 rfl (by decide) ?_
  refine k_putI (pc' := 5) fw_RX11_102 dX11_of_2 rfl rfl rfl ?_
  refine k_aload_n (pc' := 6) dX11_of_5 rfl rfl ?_
  refine k_iload_n (pc' := 7) dX11_of_6 rfl rfl ?_
  refine k_callV1 (pc' := 10) dX11_of_7 rfl ml_RX11_149 rfl rfl ⟨(Nat.le_of_ble_eq_true rfl), (Nat.le_of_ble_eq_true rfl)⟩ (Nat.le_of_ble_eq_true rfl) (ev_X11_isGarden2 (μ := hI μ 46 0 0)) (fun r_7 h_7 q_7 => ?_)
  obtain ⟨e_7, g_7⟩ := q_7
  rw [e_7, g_7]
  rw [show (hI μ 46 0 0).1 46 13 = μ.1 46 13 from rfl]
  refine k_if_ne (pc' := 13) (tg := 17) dX11_of_10 rfl (by decide) (fun c_10 => ?_) (fun c_10 => ?_)
  · skip
    refine k_iload_n (pc' := 18) dX11_of_17 rfl rfl ?_
    refine k_if_ne (pc' := 21) (tg := 30) dX11_of_18 rfl (by decide) (fun c_18 => ?_) (fun c_18 => ?_)
    · skip
      refine k_iload_n (pc' := 31) dX11_of_30 rfl rfl ?_
      refine k_iconst (pc' := 32) (v := 1) dX11_of_31 rfl (by decide) ?_
      refine k_icmp_ne (pc' := 35) (tg := 44) dX11_of_32 rfl (by decide) (fun c_32 => ?_) (fun c_32 => ?_)
      · skip
        refine k_iconst (pc' := 45) (v := (-1)) dX11_of_44 rfl (by decide) ?_
        exact k_iret dX11_of_45 rfl (by (repeat' split) <;> first | exact ⟨rfl, rfl⟩ | (exfalso; (try simp only [eq_self, not_true_eq_false, not_false_eq_true, k_b0, k_b1, k_c0, k_cl, k_cg, k_cle, k_cge] at *) <;> (try simp only [eq_self, not_true_eq_false, not_false_eq_true, k_le, k_lt, k_eq, k_leL, k_ltL, k_eqL, k_il, li_m6, li_m5, li_m3, li_m2, li_m1, li_0, li_1, li_2, li_3, li_4, li_5, li_6, li_7, li_8, li_10, li_11, li_12, li_20, li_24, li_25, li_26, li_32, li_39, li_40, li_48, li_57, li_59, li_60, li_96, li_97, li_100, li_122, li_180, li_200, li_255, li_300, li_468, li_480, li_500, li_1000, li_2000, li_10000, li_10001, li_100000, li_1000000, li_100000000, lj_m1, lj_0, lj_1, lj_2, lj_3, lj_24, lj_39, lj_100, lj_500, lj_1000, lj_2000, lj_10000, lj_100000, lj_1000000, lj_100000000, lj_10, lj_20, lj_12, lj_32, lj_96] at *) <;> omega))
      · skip
        refine k_aload_n (pc' := 36) dX11_of_35 rfl rfl ?_
        refine k_getR (pc' := 39) fl_RX11_41 dX11_of_36 rfl rfl rfl ?_
        refine k_iload_n (pc' := 40) dX11_of_39 rfl rfl ?_
        refine k_iald (pc' := 41) dX11_of_40 rfl rfl (vp_in_iff.mpr (by first | assumption | ((try simp only [eq_self, not_true_eq_false, not_false_eq_true, k_b0, k_b1, k_c0, k_cl, k_cg, k_cle, k_cge] at *) <;> (try simp only [eq_self, not_true_eq_false, not_false_eq_true, k_le, k_lt, k_eq, k_leL, k_ltL, k_eqL, k_il, li_m6, li_m5, li_m3, li_m2, li_m1, li_0, li_1, li_2, li_3, li_4, li_5, li_6, li_7, li_8, li_10, li_11, li_12, li_20, li_24, li_25, li_26, li_32, li_39, li_40, li_48, li_57, li_59, li_60, li_96, li_97, li_100, li_122, li_180, li_200, li_255, li_300, li_468, li_480, li_500, li_1000, li_2000, li_10000, li_10001, li_100000, li_1000000, li_100000000, lj_m1, lj_0, lj_1, lj_2, lj_3, lj_24, lj_39, lj_100, lj_500, lj_1000, lj_2000, lj_10000, lj_100000, lj_1000000, lj_100000000, lj_10, lj_20, lj_12, lj_32, lj_96] at *) <;> omega))) ?_
        refine k_goto (tg := 45) dX11_of_41 (by decide) ?_
        exact k_iret dX11_of_45 rfl (by (repeat' split) <;> first | exact ⟨rfl, rfl⟩ | (exfalso; (try simp only [eq_self, not_true_eq_false, not_false_eq_true, k_b0, k_b1, k_c0, k_cl, k_cg, k_cle, k_cge] at *) <;> (try simp only [eq_self, not_true_eq_false, not_false_eq_true, k_le, k_lt, k_eq, k_leL, k_ltL, k_eqL, k_il, li_m6, li_m5, li_m3, li_m2, li_m1, li_0, li_1, li_2, li_3, li_4, li_5, li_6, li_7, li_8, li_10, li_11, li_12, li_20, li_24, li_25, li_26, li_32, li_39, li_40, li_48, li_57, li_59, li_60, li_96, li_97, li_100, li_122, li_180, li_200, li_255, li_300, li_468, li_480, li_500, li_1000, li_2000, li_10000, li_10001, li_100000, li_1000000, li_100000000, lj_m1, lj_0, lj_1, lj_2, lj_3, lj_24, lj_39, lj_100, lj_500, lj_1000, lj_2000, lj_10000, lj_100000, lj_1000000, lj_100000000, lj_10, lj_20, lj_12, lj_32, lj_96] at *) <;> omega))
    · skip
      refine k_aload_n (pc' := 22) dX11_of_21 rfl rfl ?_
      refine k_getR (pc' := 25) fl_RX11_38 dX11_of_22 rfl rfl rfl ?_
      refine k_iload_n (pc' := 26) dX11_of_25 rfl rfl ?_
      refine k_iald (pc' := 27) dX11_of_26 rfl rfl (vp_in_iff.mpr (by first | assumption | ((try simp only [eq_self, not_true_eq_false, not_false_eq_true, k_b0, k_b1, k_c0, k_cl, k_cg, k_cle, k_cge] at *) <;> (try simp only [eq_self, not_true_eq_false, not_false_eq_true, k_le, k_lt, k_eq, k_leL, k_ltL, k_eqL, k_il, li_m6, li_m5, li_m3, li_m2, li_m1, li_0, li_1, li_2, li_3, li_4, li_5, li_6, li_7, li_8, li_10, li_11, li_12, li_20, li_24, li_25, li_26, li_32, li_39, li_40, li_48, li_57, li_59, li_60, li_96, li_97, li_100, li_122, li_180, li_200, li_255, li_300, li_468, li_480, li_500, li_1000, li_2000, li_10000, li_10001, li_100000, li_1000000, li_100000000, lj_m1, lj_0, lj_1, lj_2, lj_3, lj_24, lj_39, lj_100, lj_500, lj_1000, lj_2000, lj_10000, lj_100000, lj_1000000, lj_100000000, lj_10, lj_20, lj_12, lj_32, lj_96] at *) <;> omega))) ?_
      refine k_goto (tg := 45) dX11_of_27 (by decide) ?_
      exact k_iret dX11_of_45 rfl (by (repeat' split) <;> first | exact ⟨rfl, rfl⟩ | (exfalso; (try simp only [eq_self, not_true_eq_false, not_false_eq_true, k_b0, k_b1, k_c0, k_cl, k_cg, k_cle, k_cge] at *) <;> (try simp only [eq_self, not_true_eq_false, not_false_eq_true, k_le, k_lt, k_eq, k_leL, k_ltL, k_eqL, k_il, li_m6, li_m5, li_m3, li_m2, li_m1, li_0, li_1, li_2, li_3, li_4, li_5, li_6, li_7, li_8, li_10, li_11, li_12, li_20, li_24, li_25, li_26, li_32, li_39, li_40, li_48, li_57, li_59, li_60, li_96, li_97, li_100, li_122, li_180, li_200, li_255, li_300, li_468, li_480, li_500, li_1000, li_2000, li_10000, li_10001, li_100000, li_1000000, li_100000000, lj_m1, lj_0, lj_1, lj_2, lj_3, lj_24, lj_39, lj_100, lj_500, lj_1000, lj_2000, lj_10000, lj_100000, lj_1000000, lj_100000000, lj_10, lj_20, lj_12, lj_32, lj_96] at *) <;> omega))
  · skip
    refine k_iconst (pc' := 14) (v := (-1)) dX11_of_13 rfl (by decide) ?_
    refine k_goto (tg := 45) dX11_of_14 (by decide) ?_
    exact k_iret dX11_of_45 rfl (by (repeat' split) <;> first | exact ⟨rfl, rfl⟩ | (exfalso; (try simp only [eq_self, not_true_eq_false, not_false_eq_true, k_b0, k_b1, k_c0, k_cl, k_cg, k_cle, k_cge] at *) <;> (try simp only [eq_self, not_true_eq_false, not_false_eq_true, k_le, k_lt, k_eq, k_leL, k_ltL, k_eqL, k_il, li_m6, li_m5, li_m3, li_m2, li_m1, li_0, li_1, li_2, li_3, li_4, li_5, li_6, li_7, li_8, li_10, li_11, li_12, li_20, li_24, li_25, li_26, li_32, li_39, li_40, li_48, li_57, li_59, li_60, li_96, li_97, li_100, li_122, li_180, li_200, li_255, li_300, li_468, li_480, li_500, li_1000, li_2000, li_10000, li_10001, li_100000, li_1000000, li_100000000, lj_m1, lj_0, lj_1, lj_2, lj_3, lj_24, lj_39, lj_100, lj_500, lj_1000, lj_2000, lj_10000, lj_100000, lj_1000000, lj_100000000, lj_10, lj_20, lj_12, lj_32, lj_96] at *) <;> omega))

set_option maxHeartbeats 400000 in
set_option maxRecDepth 100000 in
theorem ev_X11_plant {g : Int32} {μ : kH} (hg : 0 ≤ (μ.1 46 13).toInt) (hg2 : (μ.1 46 13).toInt ≤ 12) : Ev kX11_plant [kr 46, ki g] μ (fun r h' => if ¬ (0 ≤ g ∧ g < μ.1 46 13) then r = ki (-2) ∧ h' = hI (hI μ 46 0 0) 46 1 (kst (-2)) else if ¬ μ.1 55 g.toNatClampNeg = -1 then r = ki (-3) ∧ h' = hI (hI μ 46 0 0) 46 1 (kst (-3)) else r = ki (μ.1 46 6 * μ.1 54 g.toNatClampNeg) ∧ h' = hI (hI (hI μ 46 0 0) 55 g.toNatClampNeg 0) 46 1 (kst ((μ.1 46 6 * μ.1 54 g.toNatClampNeg)))) := by
  refine k_ev (ls := [_, _]) (by decide) (Nat.le_of_ble_eq_true rfl) rfl ?_
  refine k_aload_n (pc' := 1) dX11_plant_0 rfl rfl ?_
  refine k_iconst (pc' := 2) (v := 0) dX11_plant_1 rfl (by decide) ?_
  refine k_putI (pc' := 5) fw_RX11_102 dX11_plant_2 rfl rfl rfl ?_
  refine k_aload_n (pc' := 6) dX11_plant_5 rfl rfl ?_
  refine k_iload_n (pc' := 7) dX11_plant_6 rfl rfl ?_
  refine k_callV1 (pc' := 10) dX11_plant_7 rfl ml_RX11_149 rfl rfl ⟨(Nat.le_of_ble_eq_true rfl), (Nat.le_of_ble_eq_true rfl)⟩ (Nat.le_of_ble_eq_true rfl) (ev_X11_isGarden2 (μ := hI μ 46 0 0)) (fun r_7 h_7 q_7 => ?_)
  obtain ⟨e_7, g_7⟩ := q_7
  rw [e_7, g_7]
  rw [show (hI μ 46 0 0).1 46 13 = μ.1 46 13 from rfl]
  refine k_if_ne (pc' := 13) (tg := 20) dX11_plant_10 rfl (by decide) (fun c_10 => ?_) (fun c_10 => ?_)
  · skip
    refine k_aload_n (pc' := 21) dX11_plant_20 rfl rfl ?_
    refine k_getR (pc' := 24) fl_RX11_41 dX11_plant_21 rfl rfl rfl ?_
    refine k_iload_n (pc' := 25) dX11_plant_24 rfl rfl ?_
    refine k_iald (pc' := 26) dX11_plant_25 rfl rfl (vp_in_iff.mpr (by first | assumption | ((try simp only [eq_self, not_true_eq_false, not_false_eq_true, k_b0, k_b1, k_c0, k_cl, k_cg, k_cle, k_cge] at *) <;> (try simp only [eq_self, not_true_eq_false, not_false_eq_true, k_le, k_lt, k_eq, k_leL, k_ltL, k_eqL, k_il, li_m6, li_m5, li_m3, li_m2, li_m1, li_0, li_1, li_2, li_3, li_4, li_5, li_6, li_7, li_8, li_10, li_11, li_12, li_20, li_24, li_25, li_26, li_32, li_39, li_40, li_48, li_57, li_59, li_60, li_96, li_97, li_100, li_122, li_180, li_200, li_255, li_300, li_468, li_480, li_500, li_1000, li_2000, li_10000, li_10001, li_100000, li_1000000, li_100000000, lj_m1, lj_0, lj_1, lj_2, lj_3, lj_24, lj_39, lj_100, lj_500, lj_1000, lj_2000, lj_10000, lj_100000, lj_1000000, lj_100000000, lj_10, lj_20, lj_12, lj_32, lj_96] at *) <;> omega))) ?_
    refine k_iconst (pc' := 27) (v := (-1)) dX11_plant_26 rfl (by decide) ?_
    rw [show (hI μ 46 0 0).1 55 = μ.1 55 from rfl]
    refine k_icmp_eq (pc' := 30) (tg := 37) dX11_plant_27 rfl (by decide) (fun c_27 => ?_) (fun c_27 => ?_)
    · skip
      refine k_aload_n (pc' := 38) dX11_plant_37 rfl rfl ?_
      refine k_getR (pc' := 41) fl_RX11_41 dX11_plant_38 rfl rfl rfl ?_
      refine k_iload_n (pc' := 42) dX11_plant_41 rfl rfl ?_
      refine k_iconst (pc' := 43) (v := 0) dX11_plant_42 rfl (by decide) ?_
      refine k_iast (pc' := 44) dX11_plant_43 rfl rfl (vp_in_iff.mpr (by first | assumption | ((try simp only [eq_self, not_true_eq_false, not_false_eq_true, k_b0, k_b1, k_c0, k_cl, k_cg, k_cle, k_cge] at *) <;> (try simp only [eq_self, not_true_eq_false, not_false_eq_true, k_le, k_lt, k_eq, k_leL, k_ltL, k_eqL, k_il, li_m6, li_m5, li_m3, li_m2, li_m1, li_0, li_1, li_2, li_3, li_4, li_5, li_6, li_7, li_8, li_10, li_11, li_12, li_20, li_24, li_25, li_26, li_32, li_39, li_40, li_48, li_57, li_59, li_60, li_96, li_97, li_100, li_122, li_180, li_200, li_255, li_300, li_468, li_480, li_500, li_1000, li_2000, li_10000, li_10001, li_100000, li_1000000, li_100000000, lj_m1, lj_0, lj_1, lj_2, lj_3, lj_24, lj_39, lj_100, lj_500, lj_1000, lj_2000, lj_10000, lj_100000, lj_1000000, lj_100000000, lj_10, lj_20, lj_12, lj_32, lj_96] at *) <;> omega))) ?_
      refine k_aload_n (pc' := 45) dX11_plant_44 rfl rfl ?_
      refine k_aload_n (pc' := 46) dX11_plant_45 rfl rfl ?_
      refine k_getI (pc' := 49) fl_RX11_20 dX11_plant_46 rfl rfl rfl ?_
      refine k_aload_n (pc' := 50) dX11_plant_49 rfl rfl ?_
      refine k_getR (pc' := 53) fl_RX11_38 dX11_plant_50 rfl rfl rfl ?_
      refine k_iload_n (pc' := 54) dX11_plant_53 rfl rfl ?_
      refine k_iald (pc' := 55) dX11_plant_54 rfl rfl (vp_in_iff.mpr (by first | assumption | ((try simp only [eq_self, not_true_eq_false, not_false_eq_true, k_b0, k_b1, k_c0, k_cl, k_cg, k_cle, k_cge] at *) <;> (try simp only [eq_self, not_true_eq_false, not_false_eq_true, k_le, k_lt, k_eq, k_leL, k_ltL, k_eqL, k_il, li_m6, li_m5, li_m3, li_m2, li_m1, li_0, li_1, li_2, li_3, li_4, li_5, li_6, li_7, li_8, li_10, li_11, li_12, li_20, li_24, li_25, li_26, li_32, li_39, li_40, li_48, li_57, li_59, li_60, li_96, li_97, li_100, li_122, li_180, li_200, li_255, li_300, li_468, li_480, li_500, li_1000, li_2000, li_10000, li_10001, li_100000, li_1000000, li_100000000, lj_m1, lj_0, lj_1, lj_2, lj_3, lj_24, lj_39, lj_100, lj_500, lj_1000, lj_2000, lj_10000, lj_100000, lj_1000000, lj_100000000, lj_10, lj_20, lj_12, lj_32, lj_96] at *) <;> omega))) ?_
      refine k_imul (pc' := 56) dX11_plant_55 rfl ?_
      refine k_callV1 (pc' := 59) dX11_plant_56 rfl ml_RX11_120 rfl rfl ⟨(Nat.le_of_ble_eq_true rfl), (Nat.le_of_ble_eq_true rfl)⟩ (Nat.le_of_ble_eq_true rfl) ev_X11_told2 (fun r_56 h_56 q_56 => ?_)
      obtain ⟨e_56, g_56⟩ := q_56
      rw [e_56, g_56]
      exact k_iret dX11_plant_59 rfl (by (repeat' split) <;> first | exact ⟨rfl, rfl⟩ | (exfalso; (try simp only [eq_self, not_true_eq_false, not_false_eq_true, k_b0, k_b1, k_c0, k_cl, k_cg, k_cle, k_cge] at *) <;> (try simp only [eq_self, not_true_eq_false, not_false_eq_true, k_le, k_lt, k_eq, k_leL, k_ltL, k_eqL, k_il, li_m6, li_m5, li_m3, li_m2, li_m1, li_0, li_1, li_2, li_3, li_4, li_5, li_6, li_7, li_8, li_10, li_11, li_12, li_20, li_24, li_25, li_26, li_32, li_39, li_40, li_48, li_57, li_59, li_60, li_96, li_97, li_100, li_122, li_180, li_200, li_255, li_300, li_468, li_480, li_500, li_1000, li_2000, li_10000, li_10001, li_100000, li_1000000, li_100000000, lj_m1, lj_0, lj_1, lj_2, lj_3, lj_24, lj_39, lj_100, lj_500, lj_1000, lj_2000, lj_10000, lj_100000, lj_1000000, lj_100000000, lj_10, lj_20, lj_12, lj_32, lj_96] at *) <;> omega))
    · skip
      refine k_aload_n (pc' := 31) dX11_plant_30 rfl rfl ?_
      refine k_bipush (pc' := 33) (v := (-3)) dX11_plant_31 rfl (by decide) ?_
      refine k_callV1 (pc' := 36) dX11_plant_33 rfl ml_RX11_120 rfl rfl ⟨(Nat.le_of_ble_eq_true rfl), (Nat.le_of_ble_eq_true rfl)⟩ (Nat.le_of_ble_eq_true rfl) ev_X11_told2 (fun r_33 h_33 q_33 => ?_)
      obtain ⟨e_33, g_33⟩ := q_33
      rw [e_33, g_33]
      exact k_iret dX11_plant_36 rfl (by (repeat' split) <;> first | exact ⟨rfl, rfl⟩ | (exfalso; (try simp only [eq_self, not_true_eq_false, not_false_eq_true, k_b0, k_b1, k_c0, k_cl, k_cg, k_cle, k_cge] at *) <;> (try simp only [eq_self, not_true_eq_false, not_false_eq_true, k_le, k_lt, k_eq, k_leL, k_ltL, k_eqL, k_il, li_m6, li_m5, li_m3, li_m2, li_m1, li_0, li_1, li_2, li_3, li_4, li_5, li_6, li_7, li_8, li_10, li_11, li_12, li_20, li_24, li_25, li_26, li_32, li_39, li_40, li_48, li_57, li_59, li_60, li_96, li_97, li_100, li_122, li_180, li_200, li_255, li_300, li_468, li_480, li_500, li_1000, li_2000, li_10000, li_10001, li_100000, li_1000000, li_100000000, lj_m1, lj_0, lj_1, lj_2, lj_3, lj_24, lj_39, lj_100, lj_500, lj_1000, lj_2000, lj_10000, lj_100000, lj_1000000, lj_100000000, lj_10, lj_20, lj_12, lj_32, lj_96] at *) <;> omega))
  · skip
    refine k_aload_n (pc' := 14) dX11_plant_13 rfl rfl ?_
    refine k_bipush (pc' := 16) (v := (-2)) dX11_plant_14 rfl (by decide) ?_
    refine k_callV1 (pc' := 19) dX11_plant_16 rfl ml_RX11_120 rfl rfl ⟨(Nat.le_of_ble_eq_true rfl), (Nat.le_of_ble_eq_true rfl)⟩ (Nat.le_of_ble_eq_true rfl) ev_X11_told2 (fun r_16 h_16 q_16 => ?_)
    obtain ⟨e_16, g_16⟩ := q_16
    rw [e_16, g_16]
    exact k_iret dX11_plant_19 rfl (by (repeat' split) <;> first | exact ⟨rfl, rfl⟩ | (exfalso; (try simp only [eq_self, not_true_eq_false, not_false_eq_true, k_b0, k_b1, k_c0, k_cl, k_cg, k_cle, k_cge] at *) <;> (try simp only [eq_self, not_true_eq_false, not_false_eq_true, k_le, k_lt, k_eq, k_leL, k_ltL, k_eqL, k_il, li_m6, li_m5, li_m3, li_m2, li_m1, li_0, li_1, li_2, li_3, li_4, li_5, li_6, li_7, li_8, li_10, li_11, li_12, li_20, li_24, li_25, li_26, li_32, li_39, li_40, li_48, li_57, li_59, li_60, li_96, li_97, li_100, li_122, li_180, li_200, li_255, li_300, li_468, li_480, li_500, li_1000, li_2000, li_10000, li_10001, li_100000, li_1000000, li_100000000, lj_m1, lj_0, lj_1, lj_2, lj_3, lj_24, lj_39, lj_100, lj_500, lj_1000, lj_2000, lj_10000, lj_100000, lj_1000000, lj_100000000, lj_10, lj_20, lj_12, lj_32, lj_96] at *) <;> omega))

set_option maxHeartbeats 400000 in
set_option maxRecDepth 100000 in
theorem ev_X11_fell {g : Int32} {μ : kH} (hg : 0 ≤ (μ.1 46 13).toInt) (hg2 : (μ.1 46 13).toInt ≤ 12) : Ev kX11_fell [kr 46, ki g] μ (fun r h' => if ¬ (0 ≤ g ∧ g < μ.1 46 13) then r = ki (-2) ∧ h' = hI (hI μ 46 0 0) 46 1 (kst (-2)) else if μ.1 55 g.toNatClampNeg = -1 then r = ki (-3) ∧ h' = hI (hI μ 46 0 0) 46 1 (kst (-3)) else r = ki 0 ∧ h' = hI (hI (hI μ 46 0 0) 55 g.toNatClampNeg (-1)) 46 1 (kst 0)) := by
  refine k_ev (ls := [_, _]) (by decide) (Nat.le_of_ble_eq_true rfl) rfl ?_
  refine k_aload_n (pc' := 1) dX11_fell_0 rfl rfl ?_
  refine k_iconst (pc' := 2) (v := 0) dX11_fell_1 rfl (by decide) ?_
  refine k_putI (pc' := 5) fw_RX11_102 dX11_fell_2 rfl rfl rfl ?_
  refine k_aload_n (pc' := 6) dX11_fell_5 rfl rfl ?_
  refine k_iload_n (pc' := 7) dX11_fell_6 rfl rfl ?_
  refine k_callV1 (pc' := 10) dX11_fell_7 rfl ml_RX11_149 rfl rfl ⟨(Nat.le_of_ble_eq_true rfl), (Nat.le_of_ble_eq_true rfl)⟩ (Nat.le_of_ble_eq_true rfl) (ev_X11_isGarden2 (μ := hI μ 46 0 0)) (fun r_7 h_7 q_7 => ?_)
  obtain ⟨e_7, g_7⟩ := q_7
  rw [e_7, g_7]
  rw [show (hI μ 46 0 0).1 46 13 = μ.1 46 13 from rfl]
  refine k_if_ne (pc' := 13) (tg := 20) dX11_fell_10 rfl (by decide) (fun c_10 => ?_) (fun c_10 => ?_)
  · skip
    refine k_aload_n (pc' := 21) dX11_fell_20 rfl rfl ?_
    refine k_getR (pc' := 24) fl_RX11_41 dX11_fell_21 rfl rfl rfl ?_
    refine k_iload_n (pc' := 25) dX11_fell_24 rfl rfl ?_
    refine k_iald (pc' := 26) dX11_fell_25 rfl rfl (vp_in_iff.mpr (by first | assumption | ((try simp only [eq_self, not_true_eq_false, not_false_eq_true, k_b0, k_b1, k_c0, k_cl, k_cg, k_cle, k_cge] at *) <;> (try simp only [eq_self, not_true_eq_false, not_false_eq_true, k_le, k_lt, k_eq, k_leL, k_ltL, k_eqL, k_il, li_m6, li_m5, li_m3, li_m2, li_m1, li_0, li_1, li_2, li_3, li_4, li_5, li_6, li_7, li_8, li_10, li_11, li_12, li_20, li_24, li_25, li_26, li_32, li_39, li_40, li_48, li_57, li_59, li_60, li_96, li_97, li_100, li_122, li_180, li_200, li_255, li_300, li_468, li_480, li_500, li_1000, li_2000, li_10000, li_10001, li_100000, li_1000000, li_100000000, lj_m1, lj_0, lj_1, lj_2, lj_3, lj_24, lj_39, lj_100, lj_500, lj_1000, lj_2000, lj_10000, lj_100000, lj_1000000, lj_100000000, lj_10, lj_20, lj_12, lj_32, lj_96] at *) <;> omega))) ?_
    refine k_iconst (pc' := 27) (v := (-1)) dX11_fell_26 rfl (by decide) ?_
    rw [show (hI μ 46 0 0).1 55 = μ.1 55 from rfl]
    refine k_icmp_ne (pc' := 30) (tg := 37) dX11_fell_27 rfl (by decide) (fun c_27 => ?_) (fun c_27 => ?_)
    · skip
      refine k_aload_n (pc' := 38) dX11_fell_37 rfl rfl ?_
      refine k_getR (pc' := 41) fl_RX11_41 dX11_fell_38 rfl rfl rfl ?_
      refine k_iload_n (pc' := 42) dX11_fell_41 rfl rfl ?_
      refine k_iconst (pc' := 43) (v := (-1)) dX11_fell_42 rfl (by decide) ?_
      refine k_iast (pc' := 44) dX11_fell_43 rfl rfl (vp_in_iff.mpr (by first | assumption | ((try simp only [eq_self, not_true_eq_false, not_false_eq_true, k_b0, k_b1, k_c0, k_cl, k_cg, k_cle, k_cge] at *) <;> (try simp only [eq_self, not_true_eq_false, not_false_eq_true, k_le, k_lt, k_eq, k_leL, k_ltL, k_eqL, k_il, li_m6, li_m5, li_m3, li_m2, li_m1, li_0, li_1, li_2, li_3, li_4, li_5, li_6, li_7, li_8, li_10, li_11, li_12, li_20, li_24, li_25, li_26, li_32, li_39, li_40, li_48, li_57, li_59, li_60, li_96, li_97, li_100, li_122, li_180, li_200, li_255, li_300, li_468, li_480, li_500, li_1000, li_2000, li_10000, li_10001, li_100000, li_1000000, li_100000000, lj_m1, lj_0, lj_1, lj_2, lj_3, lj_24, lj_39, lj_100, lj_500, lj_1000, lj_2000, lj_10000, lj_100000, lj_1000000, lj_100000000, lj_10, lj_20, lj_12, lj_32, lj_96] at *) <;> omega))) ?_
      refine k_aload_n (pc' := 45) dX11_fell_44 rfl rfl ?_
      refine k_iconst (pc' := 46) (v := 0) dX11_fell_45 rfl (by decide) ?_
      refine k_callV1 (pc' := 49) dX11_fell_46 rfl ml_RX11_120 rfl rfl ⟨(Nat.le_of_ble_eq_true rfl), (Nat.le_of_ble_eq_true rfl)⟩ (Nat.le_of_ble_eq_true rfl) ev_X11_told2 (fun r_46 h_46 q_46 => ?_)
      obtain ⟨e_46, g_46⟩ := q_46
      rw [e_46, g_46]
      exact k_iret dX11_fell_49 rfl (by (repeat' split) <;> first | exact ⟨rfl, rfl⟩ | (exfalso; (try simp only [eq_self, not_true_eq_false, not_false_eq_true, k_b0, k_b1, k_c0, k_cl, k_cg, k_cle, k_cge] at *) <;> (try simp only [eq_self, not_true_eq_false, not_false_eq_true, k_le, k_lt, k_eq, k_leL, k_ltL, k_eqL, k_il, li_m6, li_m5, li_m3, li_m2, li_m1, li_0, li_1, li_2, li_3, li_4, li_5, li_6, li_7, li_8, li_10, li_11, li_12, li_20, li_24, li_25, li_26, li_32, li_39, li_40, li_48, li_57, li_59, li_60, li_96, li_97, li_100, li_122, li_180, li_200, li_255, li_300, li_468, li_480, li_500, li_1000, li_2000, li_10000, li_10001, li_100000, li_1000000, li_100000000, lj_m1, lj_0, lj_1, lj_2, lj_3, lj_24, lj_39, lj_100, lj_500, lj_1000, lj_2000, lj_10000, lj_100000, lj_1000000, lj_100000000, lj_10, lj_20, lj_12, lj_32, lj_96] at *) <;> omega))
    · skip
      refine k_aload_n (pc' := 31) dX11_fell_30 rfl rfl ?_
      refine k_bipush (pc' := 33) (v := (-3)) dX11_fell_31 rfl (by decide) ?_
      refine k_callV1 (pc' := 36) dX11_fell_33 rfl ml_RX11_120 rfl rfl ⟨(Nat.le_of_ble_eq_true rfl), (Nat.le_of_ble_eq_true rfl)⟩ (Nat.le_of_ble_eq_true rfl) ev_X11_told2 (fun r_33 h_33 q_33 => ?_)
      obtain ⟨e_33, g_33⟩ := q_33
      rw [e_33, g_33]
      exact k_iret dX11_fell_36 rfl (by (repeat' split) <;> first | exact ⟨rfl, rfl⟩ | (exfalso; (try simp only [eq_self, not_true_eq_false, not_false_eq_true, k_b0, k_b1, k_c0, k_cl, k_cg, k_cle, k_cge] at *) <;> (try simp only [eq_self, not_true_eq_false, not_false_eq_true, k_le, k_lt, k_eq, k_leL, k_ltL, k_eqL, k_il, li_m6, li_m5, li_m3, li_m2, li_m1, li_0, li_1, li_2, li_3, li_4, li_5, li_6, li_7, li_8, li_10, li_11, li_12, li_20, li_24, li_25, li_26, li_32, li_39, li_40, li_48, li_57, li_59, li_60, li_96, li_97, li_100, li_122, li_180, li_200, li_255, li_300, li_468, li_480, li_500, li_1000, li_2000, li_10000, li_10001, li_100000, li_1000000, li_100000000, lj_m1, lj_0, lj_1, lj_2, lj_3, lj_24, lj_39, lj_100, lj_500, lj_1000, lj_2000, lj_10000, lj_100000, lj_1000000, lj_100000000, lj_10, lj_20, lj_12, lj_32, lj_96] at *) <;> omega))
  · skip
    refine k_aload_n (pc' := 14) dX11_fell_13 rfl rfl ?_
    refine k_bipush (pc' := 16) (v := (-2)) dX11_fell_14 rfl (by decide) ?_
    refine k_callV1 (pc' := 19) dX11_fell_16 rfl ml_RX11_120 rfl rfl ⟨(Nat.le_of_ble_eq_true rfl), (Nat.le_of_ble_eq_true rfl)⟩ (Nat.le_of_ble_eq_true rfl) ev_X11_told2 (fun r_16 h_16 q_16 => ?_)
    obtain ⟨e_16, g_16⟩ := q_16
    rw [e_16, g_16]
    exact k_iret dX11_fell_19 rfl (by (repeat' split) <;> first | exact ⟨rfl, rfl⟩ | (exfalso; (try simp only [eq_self, not_true_eq_false, not_false_eq_true, k_b0, k_b1, k_c0, k_cl, k_cg, k_cle, k_cge] at *) <;> (try simp only [eq_self, not_true_eq_false, not_false_eq_true, k_le, k_lt, k_eq, k_leL, k_ltL, k_eqL, k_il, li_m6, li_m5, li_m3, li_m2, li_m1, li_0, li_1, li_2, li_3, li_4, li_5, li_6, li_7, li_8, li_10, li_11, li_12, li_20, li_24, li_25, li_26, li_32, li_39, li_40, li_48, li_57, li_59, li_60, li_96, li_97, li_100, li_122, li_180, li_200, li_255, li_300, li_468, li_480, li_500, li_1000, li_2000, li_10000, li_10001, li_100000, li_1000000, li_100000000, lj_m1, lj_0, lj_1, lj_2, lj_3, lj_24, lj_39, lj_100, lj_500, lj_1000, lj_2000, lj_10000, lj_100000, lj_1000000, lj_100000000, lj_10, lj_20, lj_12, lj_32, lj_96] at *) <;> omega))

set_option maxHeartbeats 400000 in
set_option maxRecDepth 100000 in
theorem ev_X11_freshOf {v a : Int32} {μ : kH} (hv : ¬ a = -1 → vp_in a 25) : Ev kX11_freshOf [kr 46, ki v, ki a] μ (fun r h' => r = ki (if a = -1 then 0 else v * μ.1 47 a.toNatClampNeg / 100) ∧ h' = μ) := by
  refine k_ev (ls := [_, _, _]) (by decide) (Nat.le_of_ble_eq_true rfl) rfl ?_
  refine k_iload_n (pc' := 1) dX11_freshOf_0 rfl rfl ?_
  refine k_iconst (pc' := 2) (v := (-1)) dX11_freshOf_1 rfl (by decide) ?_
  refine k_icmp_ne (pc' := 5) (tg := 9) dX11_freshOf_2 rfl (by decide) (fun c_2 => ?_) (fun c_2 => ?_)
  · skip
    refine k_iload_n (pc' := 10) dX11_freshOf_9 rfl rfl ?_
    refine k_aload_n (pc' := 11) dX11_freshOf_10 rfl rfl ?_
    refine k_getR (pc' := 14) fl_RX11_7 dX11_freshOf_11 rfl rfl rfl ?_
    refine k_iload_n (pc' := 15) dX11_freshOf_14 rfl rfl ?_
    refine k_iald (pc' := 16) dX11_freshOf_15 rfl rfl (hv (by assumption)) ?_
    refine k_imul (pc' := 17) dX11_freshOf_16 rfl ?_
    refine k_bipush (pc' := 19) (v := 100) dX11_freshOf_17 rfl (by decide) ?_
    refine k_idiv (pc' := 20) dX11_freshOf_19 rfl (by first | decide | ((try simp only [eq_self, not_true_eq_false, not_false_eq_true, k_b0, k_b1, k_c0, k_cl, k_cg, k_cle, k_cge] at *) <;> (try simp only [eq_self, not_true_eq_false, not_false_eq_true, k_le, k_lt, k_eq, k_leL, k_ltL, k_eqL, k_il, li_m6, li_m5, li_m3, li_m2, li_m1, li_0, li_1, li_2, li_3, li_4, li_5, li_6, li_7, li_8, li_10, li_11, li_12, li_20, li_24, li_25, li_26, li_32, li_39, li_40, li_48, li_57, li_59, li_60, li_96, li_97, li_100, li_122, li_180, li_200, li_255, li_300, li_468, li_480, li_500, li_1000, li_2000, li_10000, li_10001, li_100000, li_1000000, li_100000000, lj_m1, lj_0, lj_1, lj_2, lj_3, lj_24, lj_39, lj_100, lj_500, lj_1000, lj_2000, lj_10000, lj_100000, lj_1000000, lj_100000000, lj_10, lj_20, lj_12, lj_32, lj_96] at *) <;> omega)) ?_
    exact k_iret dX11_freshOf_20 rfl (by (repeat' split) <;> first | exact ⟨rfl, rfl⟩ | (exfalso; (try simp only [eq_self, not_true_eq_false, not_false_eq_true, k_b0, k_b1, k_c0, k_cl, k_cg, k_cle, k_cge] at *) <;> (try simp only [eq_self, not_true_eq_false, not_false_eq_true, k_le, k_lt, k_eq, k_leL, k_ltL, k_eqL, k_il, li_m6, li_m5, li_m3, li_m2, li_m1, li_0, li_1, li_2, li_3, li_4, li_5, li_6, li_7, li_8, li_10, li_11, li_12, li_20, li_24, li_25, li_26, li_32, li_39, li_40, li_48, li_57, li_59, li_60, li_96, li_97, li_100, li_122, li_180, li_200, li_255, li_300, li_468, li_480, li_500, li_1000, li_2000, li_10000, li_10001, li_100000, li_1000000, li_100000000, lj_m1, lj_0, lj_1, lj_2, lj_3, lj_24, lj_39, lj_100, lj_500, lj_1000, lj_2000, lj_10000, lj_100000, lj_1000000, lj_100000000, lj_10, lj_20, lj_12, lj_32, lj_96] at *) <;> omega))
  · skip
    refine k_iconst (pc' := 6) (v := 0) dX11_freshOf_5 rfl (by decide) ?_
    refine k_goto (tg := 20) dX11_freshOf_6 (by decide) ?_
    exact k_iret dX11_freshOf_20 rfl (by (repeat' split) <;> first | exact ⟨rfl, rfl⟩ | (exfalso; (try simp only [eq_self, not_true_eq_false, not_false_eq_true, k_b0, k_b1, k_c0, k_cl, k_cg, k_cle, k_cge] at *) <;> (try simp only [eq_self, not_true_eq_false, not_false_eq_true, k_le, k_lt, k_eq, k_leL, k_ltL, k_eqL, k_il, li_m6, li_m5, li_m3, li_m2, li_m1, li_0, li_1, li_2, li_3, li_4, li_5, li_6, li_7, li_8, li_10, li_11, li_12, li_20, li_24, li_25, li_26, li_32, li_39, li_40, li_48, li_57, li_59, li_60, li_96, li_97, li_100, li_122, li_180, li_200, li_255, li_300, li_468, li_480, li_500, li_1000, li_2000, li_10000, li_10001, li_100000, li_1000000, li_100000000, lj_m1, lj_0, lj_1, lj_2, lj_3, lj_24, lj_39, lj_100, lj_500, lj_1000, lj_2000, lj_10000, lj_100000, lj_1000000, lj_100000000, lj_10, lj_20, lj_12, lj_32, lj_96] at *) <;> omega))

set_option maxHeartbeats 400000 in
set_option maxRecDepth 100000 in
theorem ev_X11_fresh {g : Int32} {μ : kH} (hg : 0 ≤ (μ.1 46 13).toInt) (hg2 : (μ.1 46 13).toInt ≤ 12) (hv : ∀ j, j < 12 → ¬ μ.1 55 j = -1 → vp_in (μ.1 55 j) 25) : Ev kX11_fresh [kr 46, ki g] μ (fun r h' => r = ki (if (0 ≤ g ∧ g < μ.1 46 13) then (if μ.1 55 g.toNatClampNeg = -1 then 0 else μ.1 54 g.toNatClampNeg * μ.1 47 (μ.1 55 g.toNatClampNeg).toNatClampNeg / 100) else -1) ∧ h' = hI μ 46 0 0) := by
  refine k_ev (ls := [_, _]) (by decide) (Nat.le_of_ble_eq_true rfl) rfl ?_
  refine k_aload_n (pc' := 1) dX11_fresh_0 rfl rfl ?_
  refine k_iconst (pc' := 2) (v := 0) dX11_fresh_1 rfl (by decide) ?_
  refine k_putI (pc' := 5) fw_RX11_102 dX11_fresh_2 rfl rfl rfl ?_
  refine k_aload_n (pc' := 6) dX11_fresh_5 rfl rfl ?_
  refine k_iload_n (pc' := 7) dX11_fresh_6 rfl rfl ?_
  refine k_callV1 (pc' := 10) dX11_fresh_7 rfl ml_RX11_149 rfl rfl ⟨(Nat.le_of_ble_eq_true rfl), (Nat.le_of_ble_eq_true rfl)⟩ (Nat.le_of_ble_eq_true rfl) (ev_X11_isGarden2 (μ := hI μ 46 0 0)) (fun r_7 h_7 q_7 => ?_)
  obtain ⟨e_7, g_7⟩ := q_7
  rw [e_7, g_7]
  rw [show (hI μ 46 0 0).1 46 13 = μ.1 46 13 from rfl]
  refine k_if_eq (pc' := 13) (tg := 32) dX11_fresh_10 rfl (by decide) (fun c_10 => ?_) (fun c_10 => ?_)
  · skip
    refine k_iconst (pc' := 33) (v := (-1)) dX11_fresh_32 rfl (by decide) ?_
    exact k_iret dX11_fresh_33 rfl (by by_cases zz : (0 ≤ g ∧ g < μ.1 46 13) <;> first | (rw [if_pos zz]; exact ⟨rfl, rfl⟩) | (rw [if_neg zz]; exact ⟨rfl, rfl⟩) | (exfalso; (try simp only [eq_self, not_true_eq_false, not_false_eq_true, k_b0, k_b1, k_c0, k_cl, k_cg, k_cle, k_cge] at *) <;> (try simp only [eq_self, not_true_eq_false, not_false_eq_true, k_le, k_lt, k_eq, k_leL, k_ltL, k_eqL, k_il, li_m6, li_m5, li_m3, li_m2, li_m1, li_0, li_1, li_2, li_3, li_4, li_5, li_6, li_7, li_8, li_10, li_11, li_12, li_20, li_24, li_25, li_26, li_32, li_39, li_40, li_48, li_57, li_59, li_60, li_96, li_97, li_100, li_122, li_180, li_200, li_255, li_300, li_468, li_480, li_500, li_1000, li_2000, li_10000, li_10001, li_100000, li_1000000, li_100000000, lj_m1, lj_0, lj_1, lj_2, lj_3, lj_24, lj_39, lj_100, lj_500, lj_1000, lj_2000, lj_10000, lj_100000, lj_1000000, lj_100000000, lj_10, lj_20, lj_12, lj_32, lj_96] at *) <;> omega))
  · skip
    refine k_aload_n (pc' := 14) dX11_fresh_13 rfl rfl ?_
    refine k_aload_n (pc' := 15) dX11_fresh_14 rfl rfl ?_
    refine k_getR (pc' := 18) fl_RX11_38 dX11_fresh_15 rfl rfl rfl ?_
    refine k_iload_n (pc' := 19) dX11_fresh_18 rfl rfl ?_
    refine k_iald (pc' := 20) dX11_fresh_19 rfl rfl (vp_in_iff.mpr (by first | assumption | ((try simp only [eq_self, not_true_eq_false, not_false_eq_true, k_b0, k_b1, k_c0, k_cl, k_cg, k_cle, k_cge] at *) <;> (try simp only [eq_self, not_true_eq_false, not_false_eq_true, k_le, k_lt, k_eq, k_leL, k_ltL, k_eqL, k_il, li_m6, li_m5, li_m3, li_m2, li_m1, li_0, li_1, li_2, li_3, li_4, li_5, li_6, li_7, li_8, li_10, li_11, li_12, li_20, li_24, li_25, li_26, li_32, li_39, li_40, li_48, li_57, li_59, li_60, li_96, li_97, li_100, li_122, li_180, li_200, li_255, li_300, li_468, li_480, li_500, li_1000, li_2000, li_10000, li_10001, li_100000, li_1000000, li_100000000, lj_m1, lj_0, lj_1, lj_2, lj_3, lj_24, lj_39, lj_100, lj_500, lj_1000, lj_2000, lj_10000, lj_100000, lj_1000000, lj_100000000, lj_10, lj_20, lj_12, lj_32, lj_96] at *) <;> omega))) ?_
    refine k_aload_n (pc' := 21) dX11_fresh_20 rfl rfl ?_
    refine k_getR (pc' := 24) fl_RX11_41 dX11_fresh_21 rfl rfl rfl ?_
    refine k_iload_n (pc' := 25) dX11_fresh_24 rfl rfl ?_
    refine k_iald (pc' := 26) dX11_fresh_25 rfl rfl (vp_in_iff.mpr (by first | assumption | ((try simp only [eq_self, not_true_eq_false, not_false_eq_true, k_b0, k_b1, k_c0, k_cl, k_cg, k_cle, k_cge] at *) <;> (try simp only [eq_self, not_true_eq_false, not_false_eq_true, k_le, k_lt, k_eq, k_leL, k_ltL, k_eqL, k_il, li_m6, li_m5, li_m3, li_m2, li_m1, li_0, li_1, li_2, li_3, li_4, li_5, li_6, li_7, li_8, li_10, li_11, li_12, li_20, li_24, li_25, li_26, li_32, li_39, li_40, li_48, li_57, li_59, li_60, li_96, li_97, li_100, li_122, li_180, li_200, li_255, li_300, li_468, li_480, li_500, li_1000, li_2000, li_10000, li_10001, li_100000, li_1000000, li_100000000, lj_m1, lj_0, lj_1, lj_2, lj_3, lj_24, lj_39, lj_100, lj_500, lj_1000, lj_2000, lj_10000, lj_100000, lj_1000000, lj_100000000, lj_10, lj_20, lj_12, lj_32, lj_96] at *) <;> omega))) ?_
    refine k_callV2 (pc' := 29) dX11_fresh_26 rfl ml_RX11_152 rfl rfl ⟨(Nat.le_of_ble_eq_true rfl), (Nat.le_of_ble_eq_true rfl)⟩ (Nat.le_of_ble_eq_true rfl) (ev_X11_freshOf (hv _ (by have e9 := k_clamp (a := g) (by (try simp only [eq_self, not_true_eq_false, not_false_eq_true, k_b0, k_b1, k_c0, k_cl, k_cg, k_cle, k_cge] at *) <;> (try simp only [eq_self, not_true_eq_false, not_false_eq_true, k_le, k_lt, k_eq, k_leL, k_ltL, k_eqL, k_il, li_m6, li_m5, li_m3, li_m2, li_m1, li_0, li_1, li_2, li_3, li_4, li_5, li_6, li_7, li_8, li_10, li_11, li_12, li_20, li_24, li_25, li_26, li_32, li_39, li_40, li_48, li_57, li_59, li_60, li_96, li_97, li_100, li_122, li_180, li_200, li_255, li_300, li_468, li_480, li_500, li_1000, li_2000, li_10000, li_10001, li_100000, li_1000000, li_100000000, lj_m1, lj_0, lj_1, lj_2, lj_3, lj_24, lj_39, lj_100, lj_500, lj_1000, lj_2000, lj_10000, lj_100000, lj_1000000, lj_100000000, lj_10, lj_20, lj_12, lj_32, lj_96] at *) <;> omega); (try simp only [eq_self, not_true_eq_false, not_false_eq_true, k_b0, k_b1, k_c0, k_cl, k_cg, k_cle, k_cge] at *) <;> (try simp only [eq_self, not_true_eq_false, not_false_eq_true, k_le, k_lt, k_eq, k_leL, k_ltL, k_eqL, k_il, li_m6, li_m5, li_m3, li_m2, li_m1, li_0, li_1, li_2, li_3, li_4, li_5, li_6, li_7, li_8, li_10, li_11, li_12, li_20, li_24, li_25, li_26, li_32, li_39, li_40, li_48, li_57, li_59, li_60, li_96, li_97, li_100, li_122, li_180, li_200, li_255, li_300, li_468, li_480, li_500, li_1000, li_2000, li_10000, li_10001, li_100000, li_1000000, li_100000000, lj_m1, lj_0, lj_1, lj_2, lj_3, lj_24, lj_39, lj_100, lj_500, lj_1000, lj_2000, lj_10000, lj_100000, lj_1000000, lj_100000000, lj_10, lj_20, lj_12, lj_32, lj_96] at *) <;> omega))) (fun r_26 h_26 q_26 => ?_)
    obtain ⟨e_26, g_26⟩ := q_26
    rw [e_26, g_26]
    refine k_goto (tg := 33) dX11_fresh_29 (by decide) ?_
    exact k_iret dX11_fresh_33 rfl (by by_cases zz : (0 ≤ g ∧ g < μ.1 46 13) <;> first | (rw [if_pos zz]; exact ⟨rfl, rfl⟩) | (rw [if_neg zz]; exact ⟨rfl, rfl⟩) | (exfalso; (try simp only [eq_self, not_true_eq_false, not_false_eq_true, k_b0, k_b1, k_c0, k_cl, k_cg, k_cle, k_cge] at *) <;> (try simp only [eq_self, not_true_eq_false, not_false_eq_true, k_le, k_lt, k_eq, k_leL, k_ltL, k_eqL, k_il, li_m6, li_m5, li_m3, li_m2, li_m1, li_0, li_1, li_2, li_3, li_4, li_5, li_6, li_7, li_8, li_10, li_11, li_12, li_20, li_24, li_25, li_26, li_32, li_39, li_40, li_48, li_57, li_59, li_60, li_96, li_97, li_100, li_122, li_180, li_200, li_255, li_300, li_468, li_480, li_500, li_1000, li_2000, li_10000, li_10001, li_100000, li_1000000, li_100000000, lj_m1, lj_0, lj_1, lj_2, lj_3, lj_24, lj_39, lj_100, lj_500, lj_1000, lj_2000, lj_10000, lj_100000, lj_1000000, lj_100000000, lj_10, lj_20, lj_12, lj_32, lj_96] at *) <;> omega))

set_option maxHeartbeats 400000 in
set_option maxRecDepth 100000 in
theorem ev_X11_end {n : Int32} {μ : kH} : Ev kX11_end [kr 46, ki n] μ (fun r h' => if 0 ≤ n ∧ n ≤ μ.1 46 27 then r = ki n ∧ h' = hI (hI μ 46 0 0) 46 27 n else r = ki (-1) ∧ h' = hI μ 46 0 0) := by
  refine k_ev (ls := [_, _]) (by decide) (Nat.le_of_ble_eq_true rfl) rfl ?_
  refine k_aload_n (pc' := 1) dX11_end_0 rfl rfl ?_
  refine k_iconst (pc' := 2) (v := 0) dX11_end_1 rfl (by decide) ?_
  refine k_putI (pc' := 5) fw_RX11_102 dX11_end_2 rfl rfl rfl ?_
  refine k_iload_n (pc' := 6) dX11_end_5 rfl rfl ?_
  refine k_if_lt (pc' := 9) (tg := 17) dX11_end_6 rfl (by decide) (fun c_6 => ?_) (fun c_6 => ?_)
  · skip
    refine k_iconst (pc' := 18) (v := (-1)) dX11_end_17 rfl (by decide) ?_
    exact k_iret dX11_end_18 rfl (by (repeat' split) <;> first | exact ⟨rfl, rfl⟩ | (exfalso; (try simp only [eq_self, not_true_eq_false, not_false_eq_true, k_b0, k_b1, k_c0, k_cl, k_cg, k_cle, k_cge] at *) <;> (try simp only [eq_self, not_true_eq_false, not_false_eq_true, k_le, k_lt, k_eq, k_leL, k_ltL, k_eqL, k_il, li_m6, li_m5, li_m3, li_m2, li_m1, li_0, li_1, li_2, li_3, li_4, li_5, li_6, li_7, li_8, li_10, li_11, li_12, li_20, li_24, li_25, li_26, li_32, li_39, li_40, li_48, li_57, li_59, li_60, li_96, li_97, li_100, li_122, li_180, li_200, li_255, li_300, li_468, li_480, li_500, li_1000, li_2000, li_10000, li_10001, li_100000, li_1000000, li_100000000, lj_m1, lj_0, lj_1, lj_2, lj_3, lj_24, lj_39, lj_100, lj_500, lj_1000, lj_2000, lj_10000, lj_100000, lj_1000000, lj_100000000, lj_10, lj_20, lj_12, lj_32, lj_96] at *) <;> omega))
  · skip
    refine k_iload_n (pc' := 10) dX11_end_9 rfl rfl ?_
    refine k_aload_n (pc' := 11) dX11_end_10 rfl rfl ?_
    refine k_getI (pc' := 14) fl_RX11_173 dX11_end_11 rfl rfl rfl ?_
    rw [show (hI μ 46 0 0).1 46 27 = μ.1 46 27 from rfl]
    refine k_icmp_le (pc' := 17) (tg := 19) dX11_end_14 rfl (by decide) (fun c_14 => ?_) (fun c_14 => ?_)
    · skip
      refine k_aload_n (pc' := 20) dX11_end_19 rfl rfl ?_
      refine k_iload_n (pc' := 21) dX11_end_20 rfl rfl ?_
      refine k_putI (pc' := 24) fw_RX11_173 dX11_end_21 rfl rfl rfl ?_
      refine k_iload_n (pc' := 25) dX11_end_24 rfl rfl ?_
      exact k_iret dX11_end_25 rfl (by (repeat' split) <;> first | exact ⟨rfl, rfl⟩ | (exfalso; (try simp only [eq_self, not_true_eq_false, not_false_eq_true, k_b0, k_b1, k_c0, k_cl, k_cg, k_cle, k_cge] at *) <;> (try simp only [eq_self, not_true_eq_false, not_false_eq_true, k_le, k_lt, k_eq, k_leL, k_ltL, k_eqL, k_il, li_m6, li_m5, li_m3, li_m2, li_m1, li_0, li_1, li_2, li_3, li_4, li_5, li_6, li_7, li_8, li_10, li_11, li_12, li_20, li_24, li_25, li_26, li_32, li_39, li_40, li_48, li_57, li_59, li_60, li_96, li_97, li_100, li_122, li_180, li_200, li_255, li_300, li_468, li_480, li_500, li_1000, li_2000, li_10000, li_10001, li_100000, li_1000000, li_100000000, lj_m1, lj_0, lj_1, lj_2, lj_3, lj_24, lj_39, lj_100, lj_500, lj_1000, lj_2000, lj_10000, lj_100000, lj_1000000, lj_100000000, lj_10, lj_20, lj_12, lj_32, lj_96] at *) <;> omega))
    · skip
      refine k_iconst (pc' := 18) (v := (-1)) dX11_end_17 rfl (by decide) ?_
      exact k_iret dX11_end_18 rfl (by (repeat' split) <;> first | exact ⟨rfl, rfl⟩ | (exfalso; (try simp only [eq_self, not_true_eq_false, not_false_eq_true, k_b0, k_b1, k_c0, k_cl, k_cg, k_cle, k_cge] at *) <;> (try simp only [eq_self, not_true_eq_false, not_false_eq_true, k_le, k_lt, k_eq, k_leL, k_ltL, k_eqL, k_il, li_m6, li_m5, li_m3, li_m2, li_m1, li_0, li_1, li_2, li_3, li_4, li_5, li_6, li_7, li_8, li_10, li_11, li_12, li_20, li_24, li_25, li_26, li_32, li_39, li_40, li_48, li_57, li_59, li_60, li_96, li_97, li_100, li_122, li_180, li_200, li_255, li_300, li_468, li_480, li_500, li_1000, li_2000, li_10000, li_10001, li_100000, li_1000000, li_100000000, lj_m1, lj_0, lj_1, lj_2, lj_3, lj_24, lj_39, lj_100, lj_500, lj_1000, lj_2000, lj_10000, lj_100000, lj_1000000, lj_100000000, lj_10, lj_20, lj_12, lj_32, lj_96] at *) <;> omega))

set_option maxHeartbeats 400000 in
set_option maxRecDepth 100000 in
theorem ev_X11_fault  {μ : kH} : Ev kX11_fault [kr 46] μ (fun r h' => r = ki (μ.1 46 32) ∧ h' = hI μ 46 0 0) := by
  refine k_ev (ls := [_]) (by decide) (Nat.le_of_ble_eq_true rfl) rfl ?_
  refine k_aload_n (pc' := 1) dX11_fault_0 rfl rfl ?_
  refine k_iconst (pc' := 2) (v := 0) dX11_fault_1 rfl (by decide) ?_
  refine k_putI (pc' := 5) fw_RX11_102 dX11_fault_2 rfl rfl rfl ?_
  refine k_aload_n (pc' := 6) dX11_fault_5 rfl rfl ?_
  refine k_getI (pc' := 9) fl_RX11_62 dX11_fault_6 rfl rfl rfl ?_
  exact k_iret dX11_fault_9 rfl ⟨rfl, rfl⟩

set_option maxHeartbeats 400000 in
set_option maxRecDepth 100000 in
theorem ev_X11_status  {μ : kH} : Ev kX11_status [kr 46] μ (fun r h' => r = ki (μ.1 46 1) ∧ h' = hI μ 46 0 0) := by
  refine k_ev (ls := [_]) (by decide) (Nat.le_of_ble_eq_true rfl) rfl ?_
  refine k_aload_n (pc' := 1) dX11_status_0 rfl rfl ?_
  refine k_iconst (pc' := 2) (v := 0) dX11_status_1 rfl (by decide) ?_
  refine k_putI (pc' := 5) fw_RX11_102 dX11_status_2 rfl rfl rfl ?_
  refine k_aload_n (pc' := 6) dX11_status_5 rfl rfl ?_
  refine k_getI (pc' := 9) fl_RX11_105 dX11_status_6 rfl rfl rfl ?_
  exact k_iret dX11_status_9 rfl ⟨rfl, rfl⟩

set_option maxHeartbeats 400000 in
set_option maxRecDepth 100000 in
theorem ev_X11_tithe {v a m : Int32} {μ : kH} {N : Nat} (hN : N ≤ 20) (hsz : μ.1 46 19 = nI N) (hq : ∀ j, j < N → (μ.1 56 j = 0 → 1 ≤ μ.1 58 j) ∧ (μ.1 56 j = 1 → 1 ≤ μ.1 57 j)) : Ev kX11_tithe [kr 46, ki v, ki a, ki m] μ (fun r h' => r = kl (if (0 ≤ v ∧ v ≤ 2000) ∧ (0 ≤ a ∧ a ≤ 24) ∧ (0 ≤ m ∧ m ≤ 100000000) then (if v < (fT (μ.1 56) (μ.1 57) (μ.1 58) (μ.1 59) v a m N).2 then 0 else (fT (μ.1 56) (μ.1 57) (μ.1 58) (μ.1 59) v a m N).1) else -1) ∧ h' = hI μ 46 0 0) := by
  refine k_ev (ls := [_, _, _, _]) (by decide) (Nat.le_of_ble_eq_true rfl) rfl ?_
  refine k_aload_n (pc' := 1) dX11_tithe_0 rfl rfl ?_
  refine k_iconst (pc' := 2) (v := 0) dX11_tithe_1 rfl (by decide) ?_
  refine k_putI (pc' := 5) fw_RX11_102 dX11_tithe_2 rfl rfl rfl ?_
  refine k_iload_n (pc' := 6) dX11_tithe_5 rfl rfl ?_
  refine k_i2l (pc' := 7) dX11_tithe_6 rfl ?_
  refine k_lconst (pc' := 8) (v := 0) dX11_tithe_7 rfl (by decide) ?_
  refine k_ldc2 (pc' := 11) dX11_tithe_8 rfl kc_RX11_145 ?_
  refine k_callS3 (pc' := 14) dX11_tithe_11 rfl ml_RX11_110 ⟨(Nat.le_of_ble_eq_true rfl), (Nat.le_of_ble_eq_true rfl)⟩ (Nat.le_of_ble_eq_true rfl) ev_X11_in (fun r_11 h_11 q_11 => ?_)
  obtain ⟨e_11, g_11⟩ := q_11
  rw [e_11, g_11]
  refine k_if_eq (pc' := 17) (tg := 51) dX11_tithe_14 rfl (by decide) (fun c_14 => ?_) (fun c_14 => ?_)
  · skip
    refine k_ldc2 (pc' := 54) dX11_tithe_51 rfl kc_RX11_147 ?_
    exact k_lret dX11_tithe_54 rfl (by clear hq; by_cases zz : (0 ≤ v ∧ v ≤ 2000) ∧ (0 ≤ a ∧ a ≤ 24) ∧ (0 ≤ m ∧ m ≤ 100000000) <;> first | (rw [if_pos zz]; exact ⟨rfl, rfl⟩) | (rw [if_neg zz]; exact ⟨rfl, rfl⟩) | (exfalso; (try simp only [eq_self, not_true_eq_false, not_false_eq_true, k_b0, k_b1, k_c0, k_cl, k_cg, k_cle, k_cge] at *) <;> (try simp only [eq_self, not_true_eq_false, not_false_eq_true, k_le, k_lt, k_eq, k_leL, k_ltL, k_eqL, k_il, li_m6, li_m5, li_m3, li_m2, li_m1, li_0, li_1, li_2, li_3, li_4, li_5, li_6, li_7, li_8, li_10, li_11, li_12, li_20, li_24, li_25, li_26, li_32, li_39, li_40, li_48, li_57, li_59, li_60, li_96, li_97, li_100, li_122, li_180, li_200, li_255, li_300, li_468, li_480, li_500, li_1000, li_2000, li_10000, li_10001, li_100000, li_1000000, li_100000000, lj_m1, lj_0, lj_1, lj_2, lj_3, lj_24, lj_39, lj_100, lj_500, lj_1000, lj_2000, lj_10000, lj_100000, lj_1000000, lj_100000000, lj_10, lj_20, lj_12, lj_32, lj_96] at *) <;> omega))
  · skip
    refine k_iload_n (pc' := 18) dX11_tithe_17 rfl rfl ?_
    refine k_i2l (pc' := 19) dX11_tithe_18 rfl ?_
    refine k_lconst (pc' := 20) (v := 0) dX11_tithe_19 rfl (by decide) ?_
    refine k_ldc2 (pc' := 23) dX11_tithe_20 rfl kc_RX11_116 ?_
    refine k_callS3 (pc' := 26) dX11_tithe_23 rfl ml_RX11_110 ⟨(Nat.le_of_ble_eq_true rfl), (Nat.le_of_ble_eq_true rfl)⟩ (Nat.le_of_ble_eq_true rfl) ev_X11_in (fun r_23 h_23 q_23 => ?_)
    obtain ⟨e_23, g_23⟩ := q_23
    rw [e_23, g_23]
    refine k_if_eq (pc' := 29) (tg := 51) dX11_tithe_26 rfl (by decide) (fun c_26 => ?_) (fun c_26 => ?_)
    · skip
      refine k_ldc2 (pc' := 54) dX11_tithe_51 rfl kc_RX11_147 ?_
      exact k_lret dX11_tithe_54 rfl (by clear hq; by_cases zz : (0 ≤ v ∧ v ≤ 2000) ∧ (0 ≤ a ∧ a ≤ 24) ∧ (0 ≤ m ∧ m ≤ 100000000) <;> first | (rw [if_pos zz]; exact ⟨rfl, rfl⟩) | (rw [if_neg zz]; exact ⟨rfl, rfl⟩) | (exfalso; (try simp only [eq_self, not_true_eq_false, not_false_eq_true, k_b0, k_b1, k_c0, k_cl, k_cg, k_cle, k_cge] at *) <;> (try simp only [eq_self, not_true_eq_false, not_false_eq_true, k_le, k_lt, k_eq, k_leL, k_ltL, k_eqL, k_il, li_m6, li_m5, li_m3, li_m2, li_m1, li_0, li_1, li_2, li_3, li_4, li_5, li_6, li_7, li_8, li_10, li_11, li_12, li_20, li_24, li_25, li_26, li_32, li_39, li_40, li_48, li_57, li_59, li_60, li_96, li_97, li_100, li_122, li_180, li_200, li_255, li_300, li_468, li_480, li_500, li_1000, li_2000, li_10000, li_10001, li_100000, li_1000000, li_100000000, lj_m1, lj_0, lj_1, lj_2, lj_3, lj_24, lj_39, lj_100, lj_500, lj_1000, lj_2000, lj_10000, lj_100000, lj_1000000, lj_100000000, lj_10, lj_20, lj_12, lj_32, lj_96] at *) <;> omega))
    · skip
      refine k_iload_n (pc' := 30) dX11_tithe_29 rfl rfl ?_
      refine k_i2l (pc' := 31) dX11_tithe_30 rfl ?_
      refine k_lconst (pc' := 32) (v := 0) dX11_tithe_31 rfl (by decide) ?_
      refine k_ldc2 (pc' := 35) dX11_tithe_32 rfl kc_RX11_238 ?_
      refine k_callS3 (pc' := 38) dX11_tithe_35 rfl ml_RX11_110 ⟨(Nat.le_of_ble_eq_true rfl), (Nat.le_of_ble_eq_true rfl)⟩ (Nat.le_of_ble_eq_true rfl) ev_X11_in (fun r_35 h_35 q_35 => ?_)
      obtain ⟨e_35, g_35⟩ := q_35
      rw [e_35, g_35]
      refine k_if_eq (pc' := 41) (tg := 51) dX11_tithe_38 rfl (by decide) (fun c_38 => ?_) (fun c_38 => ?_)
      · skip
        refine k_ldc2 (pc' := 54) dX11_tithe_51 rfl kc_RX11_147 ?_
        exact k_lret dX11_tithe_54 rfl (by clear hq; by_cases zz : (0 ≤ v ∧ v ≤ 2000) ∧ (0 ≤ a ∧ a ≤ 24) ∧ (0 ≤ m ∧ m ≤ 100000000) <;> first | (rw [if_pos zz]; exact ⟨rfl, rfl⟩) | (rw [if_neg zz]; exact ⟨rfl, rfl⟩) | (exfalso; (try simp only [eq_self, not_true_eq_false, not_false_eq_true, k_b0, k_b1, k_c0, k_cl, k_cg, k_cle, k_cge] at *) <;> (try simp only [eq_self, not_true_eq_false, not_false_eq_true, k_le, k_lt, k_eq, k_leL, k_ltL, k_eqL, k_il, li_m6, li_m5, li_m3, li_m2, li_m1, li_0, li_1, li_2, li_3, li_4, li_5, li_6, li_7, li_8, li_10, li_11, li_12, li_20, li_24, li_25, li_26, li_32, li_39, li_40, li_48, li_57, li_59, li_60, li_96, li_97, li_100, li_122, li_180, li_200, li_255, li_300, li_468, li_480, li_500, li_1000, li_2000, li_10000, li_10001, li_100000, li_1000000, li_100000000, lj_m1, lj_0, lj_1, lj_2, lj_3, lj_24, lj_39, lj_100, lj_500, lj_1000, lj_2000, lj_10000, lj_100000, lj_1000000, lj_100000000, lj_10, lj_20, lj_12, lj_32, lj_96] at *) <;> omega))
      · skip
        refine k_aload_n (pc' := 42) dX11_tithe_41 rfl rfl ?_
        refine k_iload_n (pc' := 43) dX11_tithe_42 rfl rfl ?_
        refine k_iload_n (pc' := 44) dX11_tithe_43 rfl rfl ?_
        refine k_iload_n (pc' := 45) dX11_tithe_44 rfl rfl ?_
        refine k_callV3 (pc' := 48) dX11_tithe_45 rfl ml_RX11_240 rfl rfl ⟨(Nat.le_of_ble_eq_true rfl), (Nat.le_of_ble_eq_true rfl)⟩ (Nat.le_of_ble_eq_true rfl) (ev_X11_titheOf (μ := hI μ 46 0 0) hN hsz hq) (fun r_45 h_45 q_45 => ?_)
        obtain ⟨e_45, g_45⟩ := q_45
        rw [e_45, g_45]
        refine k_goto (tg := 54) dX11_tithe_48 (by decide) ?_
        exact k_lret dX11_tithe_54 rfl (by clear hq; by_cases zz : (0 ≤ v ∧ v ≤ 2000) ∧ (0 ≤ a ∧ a ≤ 24) ∧ (0 ≤ m ∧ m ≤ 100000000) <;> first | (rw [if_pos zz]; exact ⟨rfl, rfl⟩) | (rw [if_neg zz]; exact ⟨rfl, rfl⟩) | (exfalso; (try simp only [eq_self, not_true_eq_false, not_false_eq_true, k_b0, k_b1, k_c0, k_cl, k_cg, k_cle, k_cge] at *) <;> (try simp only [eq_self, not_true_eq_false, not_false_eq_true, k_le, k_lt, k_eq, k_leL, k_ltL, k_eqL, k_il, li_m6, li_m5, li_m3, li_m2, li_m1, li_0, li_1, li_2, li_3, li_4, li_5, li_6, li_7, li_8, li_10, li_11, li_12, li_20, li_24, li_25, li_26, li_32, li_39, li_40, li_48, li_57, li_59, li_60, li_96, li_97, li_100, li_122, li_180, li_200, li_255, li_300, li_468, li_480, li_500, li_1000, li_2000, li_10000, li_10001, li_100000, li_1000000, li_100000000, lj_m1, lj_0, lj_1, lj_2, lj_3, lj_24, lj_39, lj_100, lj_500, lj_1000, lj_2000, lj_10000, lj_100000, lj_1000000, lj_100000000, lj_10, lj_20, lj_12, lj_32, lj_96] at *) <;> omega))

set_option maxHeartbeats 400000 in
set_option maxRecDepth 100000 in
theorem ev_X11_count {w : Int32} {μ : kH} : Ev kX11_count [kr 46, ki w] μ (fun r h' => r = ki (if w = 0 then μ.1 46 2 else if w = 1 then μ.1 46 13 else if w = 2 then μ.1 46 7 else if w = 3 then μ.1 46 19 else if w = 4 then μ.1 46 37 else if w = 5 then μ.1 46 43 else if w = 6 then μ.1 46 27 else if w = 7 then μ.1 46 41 else if w = 8 then μ.1 46 42 else -1) ∧ h' = hI μ 46 0 0) := by
  refine k_ev (ls := [_, _]) (by decide) (Nat.le_of_ble_eq_true rfl) rfl ?_
  refine k_aload_n (pc' := 1) dX11_count_0 rfl rfl ?_
  refine k_iconst (pc' := 2) (v := 0) dX11_count_1 rfl (by decide) ?_
  refine k_putI (pc' := 5) fw_RX11_102 dX11_count_2 rfl rfl rfl ?_
  refine k_iload_n (pc' := 6) dX11_count_5 rfl rfl ?_
  refine k_topi (fun y_6 e_6 => ?_)
  by_cases s_6_0 : y_6 = 0
  · rw [s_6_0] at e_6
    rw [s_6_0]
    refine k_tableIn (tg := 56) (off := 50) dX11_count_6 (by decide) (by decide) (by decide) (by decide) ?_
    refine k_aload_n (pc' := 57) dX11_count_56 rfl rfl ?_
    refine k_getI (pc' := 60) fl_RX11_247 dX11_count_57 rfl rfl rfl ?_
    exact k_iret dX11_count_60 rfl (by first | exact ⟨by rw [← e_6]; rfl, rfl⟩ | exact ⟨by subst e_6; simp [*], rfl⟩)
  by_cases s_6_1 : y_6 = 1
  · rw [s_6_1] at e_6
    rw [s_6_1]
    refine k_tableIn (tg := 61) (off := 55) dX11_count_6 (by decide) (by decide) (by decide) (by decide) ?_
    refine k_aload_n (pc' := 62) dX11_count_61 rfl rfl ?_
    refine k_getI (pc' := 65) fl_RX11_142 dX11_count_62 rfl rfl rfl ?_
    exact k_iret dX11_count_65 rfl (by first | exact ⟨by rw [← e_6]; rfl, rfl⟩ | exact ⟨by subst e_6; simp [*], rfl⟩)
  by_cases s_6_2 : y_6 = 2
  · rw [s_6_2] at e_6
    rw [s_6_2]
    refine k_tableIn (tg := 66) (off := 60) dX11_count_6 (by decide) (by decide) (by decide) (by decide) ?_
    refine k_aload_n (pc' := 67) dX11_count_66 rfl rfl ?_
    refine k_getI (pc' := 70) fl_RX11_135 dX11_count_67 rfl rfl rfl ?_
    exact k_iret dX11_count_70 rfl (by first | exact ⟨by rw [← e_6]; rfl, rfl⟩ | exact ⟨by subst e_6; simp [*], rfl⟩)
  by_cases s_6_3 : y_6 = 3
  · rw [s_6_3] at e_6
    rw [s_6_3]
    refine k_tableIn (tg := 71) (off := 65) dX11_count_6 (by decide) (by decide) (by decide) (by decide) ?_
    refine k_aload_n (pc' := 72) dX11_count_71 rfl rfl ?_
    refine k_getI (pc' := 75) fl_RX11_235 dX11_count_72 rfl rfl rfl ?_
    exact k_iret dX11_count_75 rfl (by first | exact ⟨by rw [← e_6]; rfl, rfl⟩ | exact ⟨by subst e_6; simp [*], rfl⟩)
  by_cases s_6_4 : y_6 = 4
  · rw [s_6_4] at e_6
    rw [s_6_4]
    refine k_tableIn (tg := 76) (off := 70) dX11_count_6 (by decide) (by decide) (by decide) (by decide) ?_
    refine k_aload_n (pc' := 77) dX11_count_76 rfl rfl ?_
    refine k_getI (pc' := 80) fl_RX11_268 dX11_count_77 rfl rfl rfl ?_
    exact k_iret dX11_count_80 rfl (by first | exact ⟨by rw [← e_6]; rfl, rfl⟩ | exact ⟨by subst e_6; simp [*], rfl⟩)
  by_cases s_6_5 : y_6 = 5
  · rw [s_6_5] at e_6
    rw [s_6_5]
    refine k_tableIn (tg := 81) (off := 75) dX11_count_6 (by decide) (by decide) (by decide) (by decide) ?_
    refine k_aload_n (pc' := 82) dX11_count_81 rfl rfl ?_
    refine k_getI (pc' := 85) fl_RX11_276 dX11_count_82 rfl rfl rfl ?_
    exact k_iret dX11_count_85 rfl (by first | exact ⟨by rw [← e_6]; rfl, rfl⟩ | exact ⟨by subst e_6; simp [*], rfl⟩)
  by_cases s_6_6 : y_6 = 6
  · rw [s_6_6] at e_6
    rw [s_6_6]
    refine k_tableIn (tg := 86) (off := 80) dX11_count_6 (by decide) (by decide) (by decide) (by decide) ?_
    refine k_aload_n (pc' := 87) dX11_count_86 rfl rfl ?_
    refine k_getI (pc' := 90) fl_RX11_173 dX11_count_87 rfl rfl rfl ?_
    exact k_iret dX11_count_90 rfl (by first | exact ⟨by rw [← e_6]; rfl, rfl⟩ | exact ⟨by subst e_6; simp [*], rfl⟩)
  by_cases s_6_7 : y_6 = 7
  · rw [s_6_7] at e_6
    rw [s_6_7]
    refine k_tableIn (tg := 91) (off := 85) dX11_count_6 (by decide) (by decide) (by decide) (by decide) ?_
    refine k_aload_n (pc' := 92) dX11_count_91 rfl rfl ?_
    refine k_getI (pc' := 95) fl_RX11_271 dX11_count_92 rfl rfl rfl ?_
    exact k_iret dX11_count_95 rfl (by first | exact ⟨by rw [← e_6]; rfl, rfl⟩ | exact ⟨by subst e_6; simp [*], rfl⟩)
  by_cases s_6_8 : y_6 = 8
  · rw [s_6_8] at e_6
    rw [s_6_8]
    refine k_tableIn (tg := 96) (off := 90) dX11_count_6 (by decide) (by decide) (by decide) (by decide) ?_
    refine k_aload_n (pc' := 97) dX11_count_96 rfl rfl ?_
    refine k_getI (pc' := 100) fl_RX11_279 dX11_count_97 rfl rfl rfl ?_
    exact k_iret dX11_count_100 rfl (by first | exact ⟨by rw [← e_6]; rfl, rfl⟩ | exact ⟨by subst e_6; simp [*], rfl⟩)
  refine k_tableOut (tg := 101) dX11_count_6 (by simp only [eq_self, not_true_eq_false, not_false_eq_true, k_le, k_lt, k_eq, k_leL, k_ltL, k_eqL, k_il, li_m6, li_m5, li_m3, li_m2, li_m1, li_0, li_1, li_2, li_3, li_4, li_5, li_6, li_7, li_8, li_10, li_11, li_12, li_20, li_24, li_25, li_26, li_32, li_39, li_40, li_48, li_57, li_59, li_60, li_96, li_97, li_100, li_122, li_180, li_200, li_255, li_300, li_468, li_480, li_500, li_1000, li_2000, li_10000, li_10001, li_100000, li_1000000, li_100000000, lj_m1, lj_0, lj_1, lj_2, lj_3, lj_24, lj_39, lj_100, lj_500, lj_1000, lj_2000, lj_10000, lj_100000, lj_1000000, lj_100000000, lj_10, lj_20, lj_12, lj_32, lj_96] at *; omega) (by decide) ?_
  refine k_iconst (pc' := 102) (v := (-1)) dX11_count_101 rfl (by decide) ?_
  exact k_iret dX11_count_102 rfl (by first | exact ⟨by rw [← e_6]; rfl, rfl⟩ | exact ⟨by subst e_6; simp [*], rfl⟩)

