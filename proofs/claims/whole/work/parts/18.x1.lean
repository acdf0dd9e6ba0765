set_option maxHeartbeats 400000 in
set_option maxRecDepth 100000 in
theorem ev_X10_bears {a p : Int32} {μ : kH} : Ev kX10_bears [kr 0, ki a, ki p] μ (fun r h' => if (0 ≤ a ∧ a ≤ 24) ∧ (0 ≤ p ∧ p ≤ 500) then r = ki 0 ∧ h' = hI (hI μ 2 a.toNatClampNeg p) 0 11 0 else r = ki (-1) ∧ h' = hI μ 0 11 (-1)) := by
  refine k_ev (ls := [_, _, _]) (by decide) (Nat.le_of_ble_eq_true rfl) rfl ?_
  refine k_iload_n (pc' := 1) dX10_bears_0 rfl rfl ?_
  refine k_iconst (pc' := 2) (v := 0) dX10_bears_1 rfl (by decide) ?_
  refine k_bipush (pc' := 4) (v := 24) dX10_bears_2 rfl (by decide) ?_
  refine k_callS3 (pc' := 7) dX10_bears_4 rfl ml_RX10_85 ⟨(Nat.le_of_ble_eq_true rfl), (Nat.le_of_ble_eq_true rfl)⟩ (Nat.le_of_ble_eq_true rfl) ev_X10_within (fun r_4 h_4 q_4 => ?_)
  obtain ⟨e_4, g_4⟩ := q_4
  rw [e_4, g_4]
  refine k_if_eq (pc' := 10) (tg := 21) dX10_bears_7 rfl (by decide) (fun c_7 => ?_) (fun c_7 => ?_)
  · skip
    refine k_aload_n (pc' := 22) dX10_bears_21 rfl rfl ?_
    refine k_iconst (pc' := 23) (v := (-1)) dX10_bears_22 rfl (by decide) ?_
    refine k_callV1 (pc' := 26) dX10_bears_23 rfl ml_RX10_89 rfl rfl ⟨(Nat.le_of_ble_eq_true rfl), (Nat.le_of_ble_eq_true rfl)⟩ (Nat.le_of_ble_eq_true rfl) ev_X10_refused (fun r_23 h_23 q_23 => ?_)
    obtain ⟨e_23, g_23⟩ := q_23
    rw [e_23, g_23]
    exact k_iret dX10_bears_26 rfl (by (repeat' split) <;> first | exact ⟨rfl, rfl⟩ | (exfalso; (try simp only [eq_self, not_true_eq_false, not_false_eq_true, k_b0, k_b1, k_c0, k_cl, k_cg, k_cle, k_cge] at *) <;> (try simp only [eq_self, not_true_eq_false, not_false_eq_true, k_le, k_lt, k_eq, k_leL, k_ltL, k_eqL, k_il, li_m6, li_m5, li_m3, li_m2, li_m1, li_0, li_1, li_2, li_3, li_4, li_5, li_6, li_7, li_8, li_10, li_11, li_12, li_20, li_24, li_25, li_26, li_32, li_39, li_40, li_48, li_57, li_59, li_60, li_96, li_97, li_100, li_122, li_180, li_200, li_255, li_300, li_468, li_480, li_500, li_1000, li_2000, li_10000, li_10001, li_100000, li_1000000, li_100000000, lj_m1, lj_0, lj_1, lj_2, lj_3, lj_24, lj_39, lj_100, lj_500, lj_1000, lj_2000, lj_10000, lj_100000, lj_1000000, lj_100000000, lj_10, lj_20, lj_12, lj_32, lj_96] at *) <;> omega))
  · skip
    refine k_iload_n (pc' := 11) dX10_bears_10 rfl rfl ?_
    refine k_iconst (pc' := 12) (v := 0) dX10_bears_11 rfl (by decide) ?_
    refine k_sipush (pc' := 15) (v := 500) dX10_bears_12 rfl (by decide) ?_
    refine k_callS3 (pc' := 18) dX10_bears_15 rfl ml_RX10_85 ⟨(Nat.le_of_ble_eq_true rfl), (Nat.le_of_ble_eq_true rfl)⟩ (Nat.le_of_ble_eq_true rfl) ev_X10_within (fun r_15 h_15 q_15 => ?_)
    obtain ⟨e_15, g_15⟩ := q_15
    rw [e_15, g_15]
    refine k_if_ne (pc' := 21) (tg := 27) dX10_bears_18 rfl (by decide) (fun c_18 => ?_) (fun c_18 => ?_)
    · skip
      refine k_aload_n (pc' := 28) dX10_bears_27 rfl rfl ?_
      refine k_getR (pc' := 31) fl_RX10_12 dX10_bears_28 rfl rfl rfl ?_
      refine k_getR (pc' := 34) fl_RX10_93 dX10_bears_31 rfl rfl rfl ?_
      refine k_iload_n (pc' := 35) dX10_bears_34 rfl rfl ?_
      refine k_iload_n (pc' := 36) dX10_bears_35 rfl rfl ?_
      refine k_iast (pc' := 37) dX10_bears_36 rfl rfl (vp_in_iff.mpr (by first | assumption | ((try simp only [eq_self, not_true_eq_false, not_false_eq_true, k_b0, k_b1, k_c0, k_cl, k_cg, k_cle, k_cge] at *) <;> (try simp only [eq_self, not_true_eq_false, not_false_eq_true, k_le, k_lt, k_eq, k_leL, k_ltL, k_eqL, k_il, li_m6, li_m5, li_m3, li_m2, li_m1, li_0, li_1, li_2, li_3, li_4, li_5, li_6, li_7, li_8, li_10, li_11, li_12, li_20, li_24, li_25, li_26, li_32, li_39, li_40, li_48, li_57, li_59, li_60, li_96, li_97, li_100, li_122, li_180, li_200, li_255, li_300, li_468, li_480, li_500, li_1000, li_2000, li_10000, li_10001, li_100000, li_1000000, li_100000000, lj_m1, lj_0, lj_1, lj_2, lj_3, lj_24, lj_39, lj_100, lj_500, lj_1000, lj_2000, lj_10000, lj_100000, lj_1000000, lj_100000000, lj_10, lj_20, lj_12, lj_32, lj_96] at *) <;> omega))) ?_
      refine k_aload_n (pc' := 38) dX10_bears_37 rfl rfl ?_
      refine k_iconst (pc' := 39) (v := 0) dX10_bears_38 rfl (by decide) ?_
      refine k_callV1 (pc' := 42) dX10_bears_39 rfl ml_RX10_97 rfl rfl ⟨(Nat.le_of_ble_eq_true rfl), (Nat.le_of_ble_eq_true rfl)⟩ (Nat.le_of_ble_eq_true rfl) ev_X10_done (fun r_39 h_39 q_39 => ?_)
      obtain ⟨e_39, g_39⟩ := q_39
      rw [e_39, g_39]
      exact k_iret dX10_bears_42 rfl (by (repeat' split) <;> first | exact ⟨rfl, rfl⟩ | (exfalso; (try simp only [eq_self, not_true_eq_false, not_false_eq_true, k_b0, k_b1, k_c0, k_cl, k_cg, k_cle, k_cge] at *) <;> (try simp only [eq_self, not_true_eq_false, not_false_eq_true, k_le, k_lt, k_eq, k_leL, k_ltL, k_eqL, k_il, li_m6, li_m5, li_m3, li_m2, li_m1, li_0, li_1, li_2, li_3, li_4, li_5, li_6, li_7, li_8, li_10, li_11, li_12, li_20, li_24, li_25, li_26, li_32, li_39, li_40, li_48, li_57, li_59, li_60, li_96, li_97, li_100, li_122, li_180, li_200, li_255, li_300, li_468, li_480, li_500, li_1000, li_2000, li_10000, li_10001, li_100000, li_1000000, li_100000000, lj_m1, lj_0, lj_1, lj_2, lj_3, lj_24, lj_39, lj_100, lj_500, lj_1000, lj_2000, lj_10000, lj_100000, lj_1000000, lj_100000000, lj_10, lj_20, lj_12, lj_32, lj_96] at *) <;> omega))
    · skip
      refine k_aload_n (pc' := 22) dX10_bears_21 rfl rfl ?_
      refine k_iconst (pc' := 23) (v := (-1)) dX10_bears_22 rfl (by decide) ?_
      refine k_callV1 (pc' := 26) dX10_bears_23 rfl ml_RX10_89 rfl rfl ⟨(Nat.le_of_ble_eq_true rfl), (Nat.le_of_ble_eq_true rfl)⟩ (Nat.le_of_ble_eq_true rfl) ev_X10_refused (fun r_23 h_23 q_23 => ?_)
      obtain ⟨e_23, g_23⟩ := q_23
      rw [e_23, g_23]
      exact k_iret dX10_bears_26 rfl (by (repeat' split) <;> first | exact ⟨rfl, rfl⟩ | (exfalso; (try simp only [eq_self, not_true_eq_false, not_false_eq_true, k_b0, k_b1, k_c0, k_cl, k_cg, k_cle, k_cge] at *) <;> (try simp only [eq_self, not_true_eq_false, not_false_eq_true, k_le, k_lt, k_eq, k_leL, k_ltL, k_eqL, k_il, li_m6, li_m5, li_m3, li_m2, li_m1, li_0, li_1, li_2, li_3, li_4, li_5, li_6, li_7, li_8, li_10, li_11, li_12, li_20, li_24, li_25, li_26, li_32, li_39, li_40, li_48, li_57, li_59, li_60, li_96, li_97, li_100, li_122, li_180, li_200, li_255, li_300, li_468, li_480, li_500, li_1000, li_2000, li_10000, li_10001, li_100000, li_1000000, li_100000000, lj_m1, lj_0, lj_1, lj_2, lj_3, lj_24, lj_39, lj_100, lj_500, lj_1000, lj_2000, lj_10000, lj_100000, lj_1000000, lj_100000000, lj_10, lj_20, lj_12, lj_32, lj_96] at *) <;> omega))

set_option maxHeartbeats 400000 in
set_option maxRecDepth 100000 in
theorem ev_X10_ratio {s n : Int32} {μ : kH} : Ev kX10_ratio [kr 0, ki s, ki n] μ (fun r h' => if (0 ≤ s ∧ s ≤ 3) ∧ (1 ≤ n ∧ n ≤ 100) then r = ki 0 ∧ h' = hI (hI μ 9 s.toNatClampNeg n) 0 11 0 else r = ki (-1) ∧ h' = hI μ 0 11 (-1)) := by
  refine k_ev (ls := [_, _, _]) (by decide) (Nat.le_of_ble_eq_true rfl) rfl ?_
  refine k_iload_n (pc' := 1) dX10_ratio_0 rfl rfl ?_
  refine k_callS1 (pc' := 4) dX10_ratio_1 rfl ml_RX10_100 ⟨(Nat.le_of_ble_eq_true rfl), (Nat.le_of_ble_eq_true rfl)⟩ (Nat.le_of_ble_eq_true rfl) ev_X10_isSort (fun r_1 h_1 q_1 => ?_)
  obtain ⟨e_1, g_1⟩ := q_1
  rw [e_1, g_1]
  refine k_if_eq (pc' := 7) (tg := 17) dX10_ratio_4 rfl (by decide) (fun c_4 => ?_) (fun c_4 => ?_)
  · skip
    refine k_aload_n (pc' := 18) dX10_ratio_17 rfl rfl ?_
    refine k_iconst (pc' := 19) (v := (-1)) dX10_ratio_18 rfl (by decide) ?_
    refine k_callV1 (pc' := 22) dX10_ratio_19 rfl ml_RX10_89 rfl rfl ⟨(Nat.le_of_ble_eq_true rfl), (Nat.le_of_ble_eq_true rfl)⟩ (Nat.le_of_ble_eq_true rfl) ev_X10_refused (fun r_19 h_19 q_19 => ?_)
    obtain ⟨e_19, g_19⟩ := q_19
    rw [e_19, g_19]
    exact k_iret dX10_ratio_22 rfl (by (repeat' split) <;> first | exact ⟨rfl, rfl⟩ | (exfalso; (try simp only [eq_self, not_true_eq_false, not_false_eq_true, k_b0, k_b1, k_c0, k_cl, k_cg, k_cle, k_cge] at *) <;> (try simp only [eq_self, not_true_eq_false, not_false_eq_true, k_le, k_lt, k_eq, k_leL, k_ltL, k_eqL, k_il, li_m6, li_m5, li_m3, li_m2, li_m1, li_0, li_1, li_2, li_3, li_4, li_5, li_6, li_7, li_8, li_10, li_11, li_12, li_20, li_24, li_25, li_26, li_32, li_39, li_40, li_48, li_57, li_59, li_60, li_96, li_97, li_100, li_122, li_180, li_200, li_255, li_300, li_468, li_480, li_500, li_1000, li_2000, li_10000, li_10001, li_100000, li_1000000, li_100000000, lj_m1, lj_0, lj_1, lj_2, lj_3, lj_24, lj_39, lj_100, lj_500, lj_1000, lj_2000, lj_10000, lj_100000, lj_1000000, lj_100000000, lj_10, lj_20, lj_12, lj_32, lj_96] at *) <;> omega))
  · skip
    refine k_iload_n (pc' := 8) dX10_ratio_7 rfl rfl ?_
    refine k_iconst (pc' := 9) (v := 1) dX10_ratio_8 rfl (by decide) ?_
    refine k_bipush (pc' := 11) (v := 100) dX10_ratio_9 rfl (by decide) ?_
    refine k_callS3 (pc' := 14) dX10_ratio_11 rfl ml_RX10_85 ⟨(Nat.le_of_ble_eq_true rfl), (Nat.le_of_ble_eq_true rfl)⟩ (Nat.le_of_ble_eq_true rfl) ev_X10_within (fun r_11 h_11 q_11 => ?_)
    obtain ⟨e_11, g_11⟩ := q_11
    rw [e_11, g_11]
    refine k_if_ne (pc' := 17) (tg := 23) dX10_ratio_14 rfl (by decide) (fun c_14 => ?_) (fun c_14 => ?_)
    · skip
      refine k_aload_n (pc' := 24) dX10_ratio_23 rfl rfl ?_
      refine k_getR (pc' := 27) fl_RX10_28 dX10_ratio_24 rfl rfl rfl ?_
      refine k_getR (pc' := 30) fl_RX10_104 dX10_ratio_27 rfl rfl rfl ?_
      refine k_iload_n (pc' := 31) dX10_ratio_30 rfl rfl ?_
      refine k_iload_n (pc' := 32) dX10_ratio_31 rfl rfl ?_
      refine k_iast (pc' := 33) dX10_ratio_32 rfl rfl (vp_in_iff.mpr (by first | assumption | ((try simp only [eq_self, not_true_eq_false, not_false_eq_true, k_b0, k_b1, k_c0, k_cl, k_cg, k_cle, k_cge] at *) <;> (try simp only [eq_self, not_true_eq_false, not_false_eq_true, k_le, k_lt, k_eq, k_leL, k_ltL, k_eqL, k_il, li_m6, li_m5, li_m3, li_m2, li_m1, li_0, li_1, li_2, li_3, li_4, li_5, li_6, li_7, li_8, li_10, li_11, li_12, li_20, li_24, li_25, li_26, li_32, li_39, li_40, li_48, li_57, li_59, li_60, li_96, li_97, li_100, li_122, li_180, li_200, li_255, li_300, li_468, li_480, li_500, li_1000, li_2000, li_10000, li_10001, li_100000, li_1000000, li_100000000, lj_m1, lj_0, lj_1, lj_2, lj_3, lj_24, lj_39, lj_100, lj_500, lj_1000, lj_2000, lj_10000, lj_100000, lj_1000000, lj_100000000, lj_10, lj_20, lj_12, lj_32, lj_96] at *) <;> omega))) ?_
      refine k_aload_n (pc' := 34) dX10_ratio_33 rfl rfl ?_
      refine k_iconst (pc' := 35) (v := 0) dX10_ratio_34 rfl (by decide) ?_
      refine k_callV1 (pc' := 38) dX10_ratio_35 rfl ml_RX10_97 rfl rfl ⟨(Nat.le_of_ble_eq_true rfl), (Nat.le_of_ble_eq_true rfl)⟩ (Nat.le_of_ble_eq_true rfl) ev_X10_done (fun r_35 h_35 q_35 => ?_)
      obtain ⟨e_35, g_35⟩ := q_35
      rw [e_35, g_35]
      exact k_iret dX10_ratio_38 rfl (by (repeat' split) <;> first | exact ⟨rfl, rfl⟩ | (exfalso; (try simp only [eq_self, not_true_eq_false, not_false_eq_true, k_b0, k_b1, k_c0, k_cl, k_cg, k_cle, k_cge] at *) <;> (try simp only [eq_self, not_true_eq_false, not_false_eq_true, k_le, k_lt, k_eq, k_leL, k_ltL, k_eqL, k_il, li_m6, li_m5, li_m3, li_m2, li_m1, li_0, li_1, li_2, li_3, li_4, li_5, li_6, li_7, li_8, li_10, li_11, li_12, li_20, li_24, li_25, li_26, li_32, li_39, li_40, li_48, li_57, li_59, li_60, li_96, li_97, li_100, li_122, li_180, li_200, li_255, li_300, li_468, li_480, li_500, li_1000, li_2000, li_10000, li_10001, li_100000, li_1000000, li_100000000, lj_m1, lj_0, lj_1, lj_2, lj_3, lj_24, lj_39, lj_100, lj_500, lj_1000, lj_2000, lj_10000, lj_100000, lj_1000000, lj_100000000, lj_10, lj_20, lj_12, lj_32, lj_96] at *) <;> omega))
    · skip
      refine k_aload_n (pc' := 18) dX10_ratio_17 rfl rfl ?_
      refine k_iconst (pc' := 19) (v := (-1)) dX10_ratio_18 rfl (by decide) ?_
      refine k_callV1 (pc' := 22) dX10_ratio_19 rfl ml_RX10_89 rfl rfl ⟨(Nat.le_of_ble_eq_true rfl), (Nat.le_of_ble_eq_true rfl)⟩ (Nat.le_of_ble_eq_true rfl) ev_X10_refused (fun r_19 h_19 q_19 => ?_)
      obtain ⟨e_19, g_19⟩ := q_19
      rw [e_19, g_19]
      exact k_iret dX10_ratio_22 rfl (by (repeat' split) <;> first | exact ⟨rfl, rfl⟩ | (exfalso; (try simp only [eq_self, not_true_eq_false, not_false_eq_true, k_b0, k_b1, k_c0, k_cl, k_cg, k_cle, k_cge] at *) <;> (try simp only [eq_self, not_true_eq_false, not_false_eq_true, k_le, k_lt, k_eq, k_leL, k_ltL, k_eqL, k_il, li_m6, li_m5, li_m3, li_m2, li_m1, li_0, li_1, li_2, li_3, li_4, li_5, li_6, li_7, li_8, li_10, li_11, li_12, li_20, li_24, li_25, li_26, li_32, li_39, li_40, li_48, li_57, li_59, li_60, li_96, li_97, li_100, li_122, li_180, li_200, li_255, li_300, li_468, li_480, li_500, li_1000, li_2000, li_10000, li_10001, li_100000, li_1000000, li_100000000, lj_m1, lj_0, lj_1, lj_2, lj_3, lj_24, lj_39, lj_100, lj_500, lj_1000, lj_2000, lj_10000, lj_100000, lj_1000000, lj_100000000, lj_10, lj_20, lj_12, lj_32, lj_96] at *) <;> omega))

set_option maxHeartbeats 400000 in
set_option maxRecDepth 100000 in
theorem ev_X10_terms {k c : Int32} {μ : kH} : Ev kX10_terms [kr 0, ki k, ki c] μ (fun r h' => if (0 ≤ k ∧ k ≤ 100) ∧ (0 ≤ c ∧ c ≤ 100) then r = ki 0 ∧ h' = hI (hI (hI μ 1 1 k) 1 2 c) 0 11 0 else r = ki (-1) ∧ h' = hI μ 0 11 (-1)) := by
  refine k_ev (ls := [_, _, _]) (by decide) (Nat.le_of_ble_eq_true rfl) rfl ?_
  refine k_iload_n (pc' := 1) dX10_terms_0 rfl rfl ?_
  refine k_iconst (pc' := 2) (v := 0) dX10_terms_1 rfl (by decide) ?_
  refine k_bipush (pc' := 4) (v := 100) dX10_terms_2 rfl (by decide) ?_
  refine k_callS3 (pc' := 7) dX10_terms_4 rfl ml_RX10_85 ⟨(Nat.le_of_ble_eq_true rfl), (Nat.le_of_ble_eq_true rfl)⟩ (Nat.le_of_ble_eq_true rfl) ev_X10_within (fun r_4 h_4 q_4 => ?_)
  obtain ⟨e_4, g_4⟩ := q_4
  rw [e_4, g_4]
  refine k_if_eq (pc' := 10) (tg := 20) dX10_terms_7 rfl (by decide) (fun c_7 => ?_) (fun c_7 => ?_)
  · skip
    refine k_aload_n (pc' := 21) dX10_terms_20 rfl rfl ?_
    refine k_iconst (pc' := 22) (v := (-1)) dX10_terms_21 rfl (by decide) ?_
    refine k_callV1 (pc' := 25) dX10_terms_22 rfl ml_RX10_89 rfl rfl ⟨(Nat.le_of_ble_eq_true rfl), (Nat.le_of_ble_eq_true rfl)⟩ (Nat.le_of_ble_eq_true rfl) ev_X10_refused (fun r_22 h_22 q_22 => ?_)
    obtain ⟨e_22, g_22⟩ := q_22
    rw [e_22, g_22]
    exact k_iret dX10_terms_25 rfl (by (repeat' split) <;> first | exact ⟨rfl, rfl⟩ | (exfalso; (try simp only [eq_self, not_true_eq_false, not_false_eq_true, k_b0, k_b1, k_c0, k_cl, k_cg, k_cle, k_cge] at *) <;> (try simp only [eq_self, not_true_eq_false, not_false_eq_true, k_le, k_lt, k_eq, k_leL, k_ltL, k_eqL, k_il, li_m6, li_m5, li_m3, li_m2, li_m1, li_0, li_1, li_2, li_3, li_4, li_5, li_6, li_7, li_8, li_10, li_11, li_12, li_20, li_24, li_25, li_26, li_32, li_39, li_40, li_48, li_57, li_59, li_60, li_96, li_97, li_100, li_122, li_180, li_200, li_255, li_300, li_468, li_480, li_500, li_1000, li_2000, li_10000, li_10001, li_100000, li_1000000, li_100000000, lj_m1, lj_0, lj_1, lj_2, lj_3, lj_24, lj_39, lj_100, lj_500, lj_1000, lj_2000, lj_10000, lj_100000, lj_1000000, lj_100000000, lj_10, lj_20, lj_12, lj_32, lj_96] at *) <;> omega))
  · skip
    refine k_iload_n (pc' := 11) dX10_terms_10 rfl rfl ?_
    refine k_iconst (pc' := 12) (v := 0) dX10_terms_11 rfl (by decide) ?_
    refine k_bipush (pc' := 14) (v := 100) dX10_terms_12 rfl (by decide) ?_
    refine k_callS3 (pc' := 17) dX10_terms_14 rfl ml_RX10_85 ⟨(Nat.le_of_ble_eq_true rfl), (Nat.le_of_ble_eq_true rfl)⟩ (Nat.le_of_ble_eq_true rfl) ev_X10_within (fun r_14 h_14 q_14 => ?_)
    obtain ⟨e_14, g_14⟩ := q_14
    rw [e_14, g_14]
    refine k_if_ne (pc' := 20) (tg := 26) dX10_terms_17 rfl (by decide) (fun c_17 => ?_) (fun c_17 => ?_)
    · skip
      refine k_aload_n (pc' := 27) dX10_terms_26 rfl rfl ?_
      refine k_getR (pc' := 30) fl_RX10_12 dX10_terms_27 rfl rfl rfl ?_
      refine k_iload_n (pc' := 31) dX10_terms_30 rfl rfl ?_
      refine k_putI (pc' := 34) fw_RX10_122 dX10_terms_31 rfl rfl rfl ?_
      refine k_aload_n (pc' := 35) dX10_terms_34 rfl rfl ?_
      refine k_getR (pc' := 38) fl_RX10_12 dX10_terms_35 rfl rfl rfl ?_
      refine k_iload_n (pc' := 39) dX10_terms_38 rfl rfl ?_
      refine k_putI (pc' := 42) fw_RX10_125 dX10_terms_39 rfl rfl rfl ?_
      refine k_aload_n (pc' := 43) dX10_terms_42 rfl rfl ?_
      refine k_iconst (pc' := 44) (v := 0) dX10_terms_43 rfl (by decide) ?_
      refine k_callV1 (pc' := 47) dX10_terms_44 rfl ml_RX10_97 rfl rfl ⟨(Nat.le_of_ble_eq_true rfl), (Nat.le_of_ble_eq_true rfl)⟩ (Nat.le_of_ble_eq_true rfl) ev_X10_done (fun r_44 h_44 q_44 => ?_)
      obtain ⟨e_44, g_44⟩ := q_44
      rw [e_44, g_44]
      exact k_iret dX10_terms_47 rfl (by (repeat' split) <;> first | exact ⟨rfl, rfl⟩ | (exfalso; (try simp only [eq_self, not_true_eq_false, not_false_eq_true, k_b0, k_b1, k_c0, k_cl, k_cg, k_cle, k_cge] at *) <;> (try simp only [eq_self, not_true_eq_false, not_false_eq_true, k_le, k_lt, k_eq, k_leL, k_ltL, k_eqL, k_il, li_m6, li_m5, li_m3, li_m2, li_m1, li_0, li_1, li_2, li_3, li_4, li_5, li_6, li_7, li_8, li_10, li_11, li_12, li_20, li_24, li_25, li_26, li_32, li_39, li_40, li_48, li_57, li_59, li_60, li_96, li_97, li_100, li_122, li_180, li_200, li_255, li_300, li_468, li_480, li_500, li_1000, li_2000, li_10000, li_10001, li_100000, li_1000000, li_100000000, lj_m1, lj_0, lj_1, lj_2, lj_3, lj_24, lj_39, lj_100, lj_500, lj_1000, lj_2000, lj_10000, lj_100000, lj_1000000, lj_100000000, lj_10, lj_20, lj_12, lj_32, lj_96] at *) <;> omega))
    · skip
      refine k_aload_n (pc' := 21) dX10_terms_20 rfl rfl ?_
      refine k_iconst (pc' := 22) (v := (-1)) dX10_terms_21 rfl (by decide) ?_
      refine k_callV1 (pc' := 25) dX10_terms_22 rfl ml_RX10_89 rfl rfl ⟨(Nat.le_of_ble_eq_true rfl), (Nat.le_of_ble_eq_true rfl)⟩ (Nat.le_of_ble_eq_true rfl) ev_X10_refused (fun r_22 h_22 q_22 => ?_)
      obtain ⟨e_22, g_22⟩ := q_22
      rw [e_22, g_22]
      exact k_iret dX10_terms_25 rfl (by (repeat' split) <;> first | exact ⟨rfl, rfl⟩ | (exfalso; (try simp only [eq_self, not_true_eq_false, not_false_eq_true, k_b0, k_b1, k_c0, k_cl, k_cg, k_cle, k_cge] at *) <;> (try simp only [eq_self, not_true_eq_false, not_false_eq_true, k_le, k_lt, k_eq, k_leL, k_ltL, k_eqL, k_il, li_m6, li_m5, li_m3, li_m2, li_m1, li_0, li_1, li_2, li_3, li_4, li_5, li_6, li_7, li_8, li_10, li_11, li_12, li_20, li_24, li_25, li_26, li_32, li_39, li_40, li_48, li_57, li_59, li_60, li_96, li_97, li_100, li_122, li_180, li_200, li_255, li_300, li_468, li_480, li_500, li_1000, li_2000, li_10000, li_10001, li_100000, li_1000000, li_100000000, lj_m1, lj_0, lj_1, lj_2, lj_3, lj_24, lj_39, lj_100, lj_500, lj_1000, lj_2000, lj_10000, lj_100000, lj_1000000, lj_100000000, lj_10, lj_20, lj_12, lj_32, lj_96] at *) <;> omega))

set_option maxHeartbeats 400000 in
set_option maxRecDepth 100000 in
theorem ev_X10_price {s y p k : Int32} {μ : kH} (hz : 0 ≤ (μ.1 3 4).toInt) : Ev kX10_price [kr 0, ki s, ki y, ki p, ki k] μ (fun r h' => if ¬ ((0 ≤ s ∧ s ≤ 3) ∧ (0 ≤ y ∧ y ≤ 39) ∧ (0 ≤ p ∧ p ≤ 1000) ∧ (0 ≤ k ∧ k ≤ 39)) then r = ki (-1) ∧ h' = hI μ 0 11 (-1) else if 300 ≤ μ.1 3 4 then r = ki (-5) ∧ h' = hI μ 0 11 (-5) else r = ki (μ.1 3 4 + 1) ∧ h' = hI (hI (hI (hI (hI (hI μ 4 (μ.1 3 4).toNatClampNeg s) 5 (μ.1 3 4).toNatClampNeg y) 6 (μ.1 3 4).toNatClampNeg p) 7 (μ.1 3 4).toNatClampNeg k) 3 4 (μ.1 3 4 + 1)) 0 11 0) := by
  refine k_ev (ls := [_, _, _, _, _]) (by decide) (Nat.le_of_ble_eq_true rfl) rfl ?_
  refine k_iload_n (pc' := 1) dX10_price_0 rfl rfl ?_
  refine k_callS1 (pc' := 4) dX10_price_1 rfl ml_RX10_100 ⟨(Nat.le_of_ble_eq_true rfl), (Nat.le_of_ble_eq_true rfl)⟩ (Nat.le_of_ble_eq_true rfl) ev_X10_isSort (fun r_1 h_1 q_1 => ?_)
  obtain ⟨e_1, g_1⟩ := q_1
  rw [e_1, g_1]
  refine k_if_eq (pc' := 7) (tg := 33) dX10_price_4 rfl (by decide) (fun c_4 => ?_) (fun c_4 => ?_)
  · skip
    refine k_aload_n (pc' := 34) dX10_price_33 rfl rfl ?_
    refine k_iconst (pc' := 35) (v := (-1)) dX10_price_34 rfl (by decide) ?_
    refine k_callV1 (pc' := 38) dX10_price_35 rfl ml_RX10_89 rfl rfl ⟨(Nat.le_of_ble_eq_true rfl), (Nat.le_of_ble_eq_true rfl)⟩ (Nat.le_of_ble_eq_true rfl) ev_X10_refused (fun r_35 h_35 q_35 => ?_)
    obtain ⟨e_35, g_35⟩ := q_35
    rw [e_35, g_35]
    exact k_iret dX10_price_38 rfl (by (repeat' split) <;> first | exact ⟨rfl, rfl⟩ | (exfalso; (try simp only [eq_self, not_true_eq_false, not_false_eq_true, k_b0, k_b1, k_c0, k_cl, k_cg, k_cle, k_cge] at *) <;> (try simp only [eq_self, not_true_eq_false, not_false_eq_true, k_le, k_lt, k_eq, k_leL, k_ltL, k_eqL, k_il, li_m6, li_m5, li_m3, li_m2, li_m1, li_0, li_1, li_2, li_3, li_4, li_5, li_6, li_7, li_8, li_10, li_11, li_12, li_20, li_24, li_25, li_26, li_32, li_39, li_40, li_48, li_57, li_59, li_60, li_96, li_97, li_100, li_122, li_180, li_200, li_255, li_300, li_468, li_480, li_500, li_1000, li_2000, li_10000, li_10001, li_100000, li_1000000, li_100000000, lj_m1, lj_0, lj_1, lj_2, lj_3, lj_24, lj_39, lj_100, lj_500, lj_1000, lj_2000, lj_10000, lj_100000, lj_1000000, lj_100000000, lj_10, lj_20, lj_12, lj_32, lj_96] at *) <;> omega))
  · skip
    refine k_iload_n (pc' := 8) dX10_price_7 rfl rfl ?_
    refine k_callS1 (pc' := 11) dX10_price_8 rfl ml_RX10_107 ⟨(Nat.le_of_ble_eq_true rfl), (Nat.le_of_ble_eq_true rfl)⟩ (Nat.le_of_ble_eq_true rfl) ev_X10_isYear (fun r_8 h_8 q_8 => ?_)
    obtain ⟨e_8, g_8⟩ := q_8
    rw [e_8, g_8]
    refine k_if_eq (pc' := 14) (tg := 33) dX10_price_11 rfl (by decide) (fun c_11 => ?_) (fun c_11 => ?_)
    · skip
      refine k_aload_n (pc' := 34) dX10_price_33 rfl rfl ?_
      refine k_iconst (pc' := 35) (v := (-1)) dX10_price_34 rfl (by decide) ?_
      refine k_callV1 (pc' := 38) dX10_price_35 rfl ml_RX10_89 rfl rfl ⟨(Nat.le_of_ble_eq_true rfl), (Nat.le_of_ble_eq_true rfl)⟩ (Nat.le_of_ble_eq_true rfl) ev_X10_refused (fun r_35 h_35 q_35 => ?_)
      obtain ⟨e_35, g_35⟩ := q_35
      rw [e_35, g_35]
      exact k_iret dX10_price_38 rfl (by (repeat' split) <;> first | exact ⟨rfl, rfl⟩ | (exfalso; (try simp only [eq_self, not_true_eq_false, not_false_eq_true, k_b0, k_b1, k_c0, k_cl, k_cg, k_cle, k_cge] at *) <;> (try simp only [eq_self, not_true_eq_false, not_false_eq_true, k_le, k_lt, k_eq, k_leL, k_ltL, k_eqL, k_il, li_m6, li_m5, li_m3, li_m2, li_m1, li_0, li_1, li_2, li_3, li_4, li_5, li_6, li_7, li_8, li_10, li_11, li_12, li_20, li_24, li_25, li_26, li_32, li_39, li_40, li_48, li_57, li_59, li_60, li_96, li_97, li_100, li_122, li_180, li_200, li_255, li_300, li_468, li_480, li_500, li_1000, li_2000, li_10000, li_10001, li_100000, li_1000000, li_100000000, lj_m1, lj_0, lj_1, lj_2, lj_3, lj_24, lj_39, lj_100, lj_500, lj_1000, lj_2000, lj_10000, lj_100000, lj_1000000, lj_100000000, lj_10, lj_20, lj_12, lj_32, lj_96] at *) <;> omega))
    · skip
      refine k_iload_n (pc' := 15) dX10_price_14 rfl rfl ?_
      refine k_iconst (pc' := 16) (v := 0) dX10_price_15 rfl (by decide) ?_
      refine k_sipush (pc' := 19) (v := 1000) dX10_price_16 rfl (by decide) ?_
      refine k_callS3 (pc' := 22) dX10_price_19 rfl ml_RX10_85 ⟨(Nat.le_of_ble_eq_true rfl), (Nat.le_of_ble_eq_true rfl)⟩ (Nat.le_of_ble_eq_true rfl) ev_X10_within (fun r_19 h_19 q_19 => ?_)
      obtain ⟨e_19, g_19⟩ := q_19
      rw [e_19, g_19]
      refine k_if_eq (pc' := 25) (tg := 33) dX10_price_22 rfl (by decide) (fun c_22 => ?_) (fun c_22 => ?_)
      · skip
        refine k_aload_n (pc' := 34) dX10_price_33 rfl rfl ?_
        refine k_iconst (pc' := 35) (v := (-1)) dX10_price_34 rfl (by decide) ?_
        refine k_callV1 (pc' := 38) dX10_price_35 rfl ml_RX10_89 rfl rfl ⟨(Nat.le_of_ble_eq_true rfl), (Nat.le_of_ble_eq_true rfl)⟩ (Nat.le_of_ble_eq_true rfl) ev_X10_refused (fun r_35 h_35 q_35 => ?_)
        obtain ⟨e_35, g_35⟩ := q_35
        rw [e_35, g_35]
        exact k_iret dX10_price_38 rfl (by (repeat' split) <;> first | exact ⟨rfl, rfl⟩ | (exfalso; (try simp only [eq_self, not_true_eq_false, not_false_eq_true, k_b0, k_b1, k_c0, k_cl, k_cg, k_cle, k_cge] at *) <;> (try simp only [eq_self, not_true_eq_false, not_false_eq_true, k_le, k_lt, k_eq, k_leL, k_ltL, k_eqL, k_il, li_m6, li_m5, li_m3, li_m2, li_m1, li_0, li_1, li_2, li_3, li_4, li_5, li_6, li_7, li_8, li_10, li_11, li_12, li_20, li_24, li_25, li_26, li_32, li_39, li_40, li_48, li_57, li_59, li_60, li_96, li_97, li_100, li_122, li_180, li_200, li_255, li_300, li_468, li_480, li_500, li_1000, li_2000, li_10000, li_10001, li_100000, li_1000000, li_100000000, lj_m1, lj_0, lj_1, lj_2, lj_3, lj_24, lj_39, lj_100, lj_500, lj_1000, lj_2000, lj_10000, lj_100000, lj_1000000, lj_100000000, lj_10, lj_20, lj_12, lj_32, lj_96] at *) <;> omega))
      · skip
        refine k_iload (pc' := 27) dX10_price_25 rfl rfl ?_
        refine k_callS1 (pc' := 30) dX10_price_27 rfl ml_RX10_107 ⟨(Nat.le_of_ble_eq_true rfl), (Nat.le_of_ble_eq_true rfl)⟩ (Nat.le_of_ble_eq_true rfl) ev_X10_isYear (fun r_27 h_27 q_27 => ?_)
        obtain ⟨e_27, g_27⟩ := q_27
        rw [e_27, g_27]
        refine k_if_ne (pc' := 33) (tg := 39) dX10_price_30 rfl (by decide) (fun c_30 => ?_) (fun c_30 => ?_)
        · skip
          refine k_aload_n (pc' := 40) dX10_price_39 rfl rfl ?_
          refine k_getR (pc' := 43) fl_RX10_19 dX10_price_40 rfl rfl rfl ?_
          refine k_getI (pc' := 46) fl_RX10_110 dX10_price_43 rfl rfl rfl ?_
          refine k_sipush (pc' := 49) (v := 300) dX10_price_46 rfl (by decide) ?_
          refine k_icmp_lt (pc' := 52) (tg := 59) dX10_price_49 rfl (by decide) (fun c_49 => ?_) (fun c_49 => ?_)
          · skip
            refine k_aload_n (pc' := 60) dX10_price_59 rfl rfl ?_
            refine k_getR (pc' := 63) fl_RX10_19 dX10_price_60 rfl rfl rfl ?_
            refine k_iload_n (pc' := 64) dX10_price_63 rfl rfl ?_
            refine k_iload_n (pc' := 65) dX10_price_64 rfl rfl ?_
            refine k_iload_n (pc' := 66) dX10_price_65 rfl rfl ?_
            refine k_iload (pc' := 68) dX10_price_66 rfl rfl ?_
            refine k_callV4 (pc' := 71) dX10_price_68 rfl ml_RX10_114 rfl rfl ⟨(Nat.le_of_ble_eq_true rfl), (Nat.le_of_ble_eq_true rfl)⟩ (Nat.le_of_ble_eq_true rfl) (ev_X6_tell hz) (fun r_68 h_68 q_68 => ?_)
            rw [if_neg (by (try simp only [eq_self, not_true_eq_false, not_false_eq_true, k_b0, k_b1, k_c0, k_cl, k_cg, k_cle, k_cge] at *) <;> (try simp only [eq_self, not_true_eq_false, not_false_eq_true, k_le, k_lt, k_eq, k_leL, k_ltL, k_eqL, k_il, li_m6, li_m5, li_m3, li_m2, li_m1, li_0, li_1, li_2, li_3, li_4, li_5, li_6, li_7, li_8, li_10, li_11, li_12, li_20, li_24, li_25, li_26, li_32, li_39, li_40, li_48, li_57, li_59, li_60, li_96, li_97, li_100, li_122, li_180, li_200, li_255, li_300, li_468, li_480, li_500, li_1000, li_2000, li_10000, li_10001, li_100000, li_1000000, li_100000000, lj_m1, lj_0, lj_1, lj_2, lj_3, lj_24, lj_39, lj_100, lj_500, lj_1000, lj_2000, lj_10000, lj_100000, lj_1000000, lj_100000000, lj_10, lj_20, lj_12, lj_32, lj_96] at *) <;> omega)] at q_68
            obtain ⟨e_68, g_68⟩ := q_68
            rw [e_68, g_68]
            refine k_aload_n (pc' := 72) dX10_price_71 rfl rfl ?_
            refine k_aload_n (pc' := 73) dX10_price_72 rfl rfl ?_
            refine k_getR (pc' := 76) fl_RX10_19 dX10_price_73 rfl rfl rfl ?_
            refine k_getI (pc' := 79) fl_RX10_110 dX10_price_76 rfl rfl rfl ?_
            refine k_callV1 (pc' := 82) dX10_price_79 rfl ml_RX10_97 rfl rfl ⟨(Nat.le_of_ble_eq_true rfl), (Nat.le_of_ble_eq_true rfl)⟩ (Nat.le_of_ble_eq_true rfl) ev_X10_done (fun r_79 h_79 q_79 => ?_)
            obtain ⟨e_79, g_79⟩ := q_79
            rw [e_79, g_79]
            exact k_iret dX10_price_82 rfl (by (repeat' split) <;> first | exact ⟨rfl, rfl⟩ | (exfalso; (try simp only [eq_self, not_true_eq_false, not_false_eq_true, k_b0, k_b1, k_c0, k_cl, k_cg, k_cle, k_cge] at *) <;> (try simp only [eq_self, not_true_eq_false, not_false_eq_true, k_le, k_lt, k_eq, k_leL, k_ltL, k_eqL, k_il, li_m6, li_m5, li_m3, li_m2, li_m1, li_0, li_1, li_2, li_3, li_4, li_5, li_6, li_7, li_8, li_10, li_11, li_12, li_20, li_24, li_25, li_26, li_32, li_39, li_40, li_48, li_57, li_59, li_60, li_96, li_97, li_100, li_122, li_180, li_200, li_255, li_300, li_468, li_480, li_500, li_1000, li_2000, li_10000, li_10001, li_100000, li_1000000, li_100000000, lj_m1, lj_0, lj_1, lj_2, lj_3, lj_24, lj_39, lj_100, lj_500, lj_1000, lj_2000, lj_10000, lj_100000, lj_1000000, lj_100000000, lj_10, lj_20, lj_12, lj_32, lj_96] at *) <;> omega))
          · skip
            refine k_aload_n (pc' := 53) dX10_price_52 rfl rfl ?_
            refine k_bipush (pc' := 55) (v := (-5)) dX10_price_53 rfl (by decide) ?_
            refine k_callV1 (pc' := 58) dX10_price_55 rfl ml_RX10_89 rfl rfl ⟨(Nat.le_of_ble_eq_true rfl), (Nat.le_of_ble_eq_true rfl)⟩ (Nat.le_of_ble_eq_true rfl) ev_X10_refused (fun r_55 h_55 q_55 => ?_)
            obtain ⟨e_55, g_55⟩ := q_55
            rw [e_55, g_55]
            exact k_iret dX10_price_58 rfl (by (repeat' split) <;> first | exact ⟨rfl, rfl⟩ | (exfalso; (try simp only [eq_self, not_true_eq_false, not_false_eq_true, k_b0, k_b1, k_c0, k_cl, k_cg, k_cle, k_cge] at *) <;> (try simp only [eq_self, not_true_eq_false, not_false_eq_true, k_le, k_lt, k_eq, k_leL, k_ltL, k_eqL, k_il, li_m6, li_m5, li_m3, li_m2, li_m1, li_0, li_1, li_2, li_3, li_4, li_5, li_6, li_7, li_8, li_10, li_11, li_12, li_20, li_24, li_25, li_26, li_32, li_39, li_40, li_48, li_57, li_59, li_60, li_96, li_97, li_100, li_122, li_180, li_200, li_255, li_300, li_468, li_480, li_500, li_1000, li_2000, li_10000, li_10001, li_100000, li_1000000, li_100000000, lj_m1, lj_0, lj_1, lj_2, lj_3, lj_24, lj_39, lj_100, lj_500, lj_1000, lj_2000, lj_10000, lj_100000, lj_1000000, lj_100000000, lj_10, lj_20, lj_12, lj_32, lj_96] at *) <;> omega))
        · skip
          refine k_aload_n (pc' := 34) dX10_price_33 rfl rfl ?_
          refine k_iconst (pc' := 35) (v := (-1)) dX10_price_34 rfl (by decide) ?_
          refine k_callV1 (pc' := 38) dX10_price_35 rfl ml_RX10_89 rfl rfl ⟨(Nat.le_of_ble_eq_true rfl), (Nat.le_of_ble_eq_true rfl)⟩ (Nat.le_of_ble_eq_true rfl) ev_X10_refused (fun r_35 h_35 q_35 => ?_)
          obtain ⟨e_35, g_35⟩ := q_35
          rw [e_35, g_35]
          exact k_iret dX10_price_38 rfl (by (repeat' split) <;> first | exact ⟨rfl, rfl⟩ | (exfalso; (try simp only [eq_self, not_true_eq_false, not_false_eq_true, k_b0, k_b1, k_c0, k_cl, k_cg, k_cle, k_cge] at *) <;> (try simp only [eq_self, not_true_eq_false, not_false_eq_true, k_le, k_lt, k_eq, k_leL, k_ltL, k_eqL, k_il, li_m6, li_m5, li_m3, li_m2, li_m1, li_0, li_1, li_2, li_3, li_4, li_5, li_6, li_7, li_8, li_10, li_11, li_12, li_20, li_24, li_25, li_26, li_32, li_39, li_40, li_48, li_57, li_59, li_60, li_96, li_97, li_100, li_122, li_180, li_200, li_255, li_300, li_468, li_480, li_500, li_1000, li_2000, li_10000, li_10001, li_100000, li_1000000, li_100000000, lj_m1, lj_0, lj_1, lj_2, lj_3, lj_24, lj_39, lj_100, lj_500, lj_1000, lj_2000, lj_10000, lj_100000, lj_1000000, lj_100000000, lj_10, lj_20, lj_12, lj_32, lj_96] at *) <;> omega))

set_option maxHeartbeats 400000 in
set_option maxRecDepth 100000 in
theorem ev_X10_garden {v a : Int32} {μ : kH} (hg : 0 ≤ (μ.1 11 2).toInt) : Ev kX10_garden [kr 0, ki v, ki a] μ (fun r h' => if ¬ ((1 ≤ v ∧ v ≤ 2000) ∧ (-1 ≤ a ∧ a ≤ 24)) then r = ki (-1) ∧ h' = hI μ 0 11 (-1) else if 12 ≤ μ.1 11 2 then r = ki (-5) ∧ h' = hI μ 0 11 (-5) else r = ki (μ.1 11 2) ∧ h' = hI (hI (hI (hI μ 12 (μ.1 11 2).toNatClampNeg v) 13 (μ.1 11 2).toNatClampNeg a) 11 2 (μ.1 11 2 + 1)) 0 11 0) := by
  refine k_ev (ls := [_, _, _]) (by decide) (Nat.le_of_ble_eq_true rfl) rfl ?_
  refine k_iload_n (pc' := 1) dX10_garden_0 rfl rfl ?_
  refine k_iconst (pc' := 2) (v := 1) dX10_garden_1 rfl (by decide) ?_
  refine k_sipush (pc' := 5) (v := 2000) dX10_garden_2 rfl (by decide) ?_
  refine k_callS3 (pc' := 8) dX10_garden_5 rfl ml_RX10_85 ⟨(Nat.le_of_ble_eq_true rfl), (Nat.le_of_ble_eq_true rfl)⟩ (Nat.le_of_ble_eq_true rfl) ev_X10_within (fun r_5 h_5 q_5 => ?_)
  obtain ⟨e_5, g_5⟩ := q_5
  rw [e_5, g_5]
  refine k_if_eq (pc' := 11) (tg := 21) dX10_garden_8 rfl (by decide) (fun c_8 => ?_) (fun c_8 => ?_)
  · skip
    refine k_aload_n (pc' := 22) dX10_garden_21 rfl rfl ?_
    refine k_iconst (pc' := 23) (v := (-1)) dX10_garden_22 rfl (by decide) ?_
    refine k_callV1 (pc' := 26) dX10_garden_23 rfl ml_RX10_89 rfl rfl ⟨(Nat.le_of_ble_eq_true rfl), (Nat.le_of_ble_eq_true rfl)⟩ (Nat.le_of_ble_eq_true rfl) ev_X10_refused (fun r_23 h_23 q_23 => ?_)
    obtain ⟨e_23, g_23⟩ := q_23
    rw [e_23, g_23]
    exact k_iret dX10_garden_26 rfl (by (repeat' split) <;> first | exact ⟨rfl, rfl⟩ | (exfalso; (try simp only [eq_self, not_true_eq_false, not_false_eq_true, k_b0, k_b1, k_c0, k_cl, k_cg, k_cle, k_cge] at *) <;> (try simp only [eq_self, not_true_eq_false, not_false_eq_true, k_le, k_lt, k_eq, k_leL, k_ltL, k_eqL, k_il, li_m6, li_m5, li_m3, li_m2, li_m1, li_0, li_1, li_2, li_3, li_4, li_5, li_6, li_7, li_8, li_10, li_11, li_12, li_20, li_24, li_25, li_26, li_32, li_39, li_40, li_48, li_57, li_59, li_60, li_96, li_97, li_100, li_122, li_180, li_200, li_255, li_300, li_468, li_480, li_500, li_1000, li_2000, li_10000, li_10001, li_100000, li_1000000, li_100000000, lj_m1, lj_0, lj_1, lj_2, lj_3, lj_24, lj_39, lj_100, lj_500, lj_1000, lj_2000, lj_10000, lj_100000, lj_1000000, lj_100000000, lj_10, lj_20, lj_12, lj_32, lj_96] at *) <;> omega))
  · skip
    refine k_iload_n (pc' := 12) dX10_garden_11 rfl rfl ?_
    refine k_iconst (pc' := 13) (v := (-1)) dX10_garden_12 rfl (by decide) ?_
    refine k_bipush (pc' := 15) (v := 24) dX10_garden_13 rfl (by decide) ?_
    refine k_callS3 (pc' := 18) dX10_garden_15 rfl ml_RX10_85 ⟨(Nat.le_of_ble_eq_true rfl), (Nat.le_of_ble_eq_true rfl)⟩ (Nat.le_of_ble_eq_true rfl) ev_X10_within (fun r_15 h_15 q_15 => ?_)
    obtain ⟨e_15, g_15⟩ := q_15
    rw [e_15, g_15]
    refine k_if_ne (pc' := 21) (tg := 27) dX10_garden_18 rfl (by decide) (fun c_18 => ?_) (fun c_18 => ?_)
    · skip
      refine k_aload_n (pc' := 28) dX10_garden_27 rfl rfl ?_
      refine k_getR (pc' := 31) fl_RX10_35 dX10_garden_28 rfl rfl rfl ?_
      refine k_getI (pc' := 34) fl_RX10_128 dX10_garden_31 rfl rfl rfl ?_
      refine k_bipush (pc' := 36) (v := 12) dX10_garden_34 rfl (by decide) ?_
      refine k_icmp_lt (pc' := 39) (tg := 46) dX10_garden_36 rfl (by decide) (fun c_36 => ?_) (fun c_36 => ?_)
      · skip
        refine k_aload_n (pc' := 47) dX10_garden_46 rfl rfl ?_
        refine k_aload_n (pc' := 48) dX10_garden_47 rfl rfl ?_
        refine k_getR (pc' := 51) fl_RX10_35 dX10_garden_48 rfl rfl rfl ?_
        refine k_iload_n (pc' := 52) dX10_garden_51 rfl rfl ?_
        refine k_iload_n (pc' := 53) dX10_garden_52 rfl rfl ?_
        refine k_callV2 (pc' := 56) dX10_garden_53 rfl ml_RX10_129 rfl rfl ⟨(Nat.le_of_ble_eq_true rfl), (Nat.le_of_ble_eq_true rfl)⟩ (Nat.le_of_ble_eq_true rfl) (ev_X1_lay hg) (fun r_53 h_53 q_53 => ?_)
        rw [if_neg (by (try simp only [eq_self, not_true_eq_false, not_false_eq_true, k_b0, k_b1, k_c0, k_cl, k_cg, k_cle, k_cge] at *) <;> (try simp only [eq_self, not_true_eq_false, not_false_eq_true, k_le, k_lt, k_eq, k_leL, k_ltL, k_eqL, k_il, li_m6, li_m5, li_m3, li_m2, li_m1, li_0, li_1, li_2, li_3, li_4, li_5, li_6, li_7, li_8, li_10, li_11, li_12, li_20, li_24, li_25, li_26, li_32, li_39, li_40, li_48, li_57, li_59, li_60, li_96, li_97, li_100, li_122, li_180, li_200, li_255, li_300, li_468, li_480, li_500, li_1000, li_2000, li_10000, li_10001, li_100000, li_1000000, li_100000000, lj_m1, lj_0, lj_1, lj_2, lj_3, lj_24, lj_39, lj_100, lj_500, lj_1000, lj_2000, lj_10000, lj_100000, lj_1000000, lj_100000000, lj_10, lj_20, lj_12, lj_32, lj_96] at *) <;> omega)] at q_53
        obtain ⟨e_53, g_53⟩ := q_53
        rw [e_53, g_53]
        refine k_callV1 (pc' := 59) dX10_garden_56 rfl ml_RX10_97 rfl rfl ⟨(Nat.le_of_ble_eq_true rfl), (Nat.le_of_ble_eq_true rfl)⟩ (Nat.le_of_ble_eq_true rfl) ev_X10_done (fun r_56 h_56 q_56 => ?_)
        obtain ⟨e_56, g_56⟩ := q_56
        rw [e_56, g_56]
        exact k_iret dX10_garden_59 rfl (by (repeat' split) <;> first | exact ⟨rfl, rfl⟩ | (exfalso; (try simp only [eq_self, not_true_eq_false, not_false_eq_true, k_b0, k_b1, k_c0, k_cl, k_cg, k_cle, k_cge] at *) <;> (try simp only [eq_self, not_true_eq_false, not_false_eq_true, k_le, k_lt, k_eq, k_leL, k_ltL, k_eqL, k_il, li_m6, li_m5, li_m3, li_m2, li_m1, li_0, li_1, li_2, li_3, li_4, li_5, li_6, li_7, li_8, li_10, li_11, li_12, li_20, li_24, li_25, li_26, li_32, li_39, li_40, li_48, li_57, li_59, li_60, li_96, li_97, li_100, li_122, li_180, li_200, li_255, li_300, li_468, li_480, li_500, li_1000, li_2000, li_10000, li_10001, li_100000, li_1000000, li_100000000, lj_m1, lj_0, lj_1, lj_2, lj_3, lj_24, lj_39, lj_100, lj_500, lj_1000, lj_2000, lj_10000, lj_100000, lj_1000000, lj_100000000, lj_10, lj_20, lj_12, lj_32, lj_96] at *) <;> omega))
      · skip
        refine k_aload_n (pc' := 40) dX10_garden_39 rfl rfl ?_
        refine k_bipush (pc' := 42) (v := (-5)) dX10_garden_40 rfl (by decide) ?_
        refine k_callV1 (pc' := 45) dX10_garden_42 rfl ml_RX10_89 rfl rfl ⟨(Nat.le_of_ble_eq_true rfl), (Nat.le_of_ble_eq_true rfl)⟩ (Nat.le_of_ble_eq_true rfl) ev_X10_refused (fun r_42 h_42 q_42 => ?_)
        obtain ⟨e_42, g_42⟩ := q_42
        rw [e_42, g_42]
        exact k_iret dX10_garden_45 rfl (by (repeat' split) <;> first | exact ⟨rfl, rfl⟩ | (exfalso; (try simp only [eq_self, not_true_eq_false, not_false_eq_true, k_b0, k_b1, k_c0, k_cl, k_cg, k_cle, k_cge] at *) <;> (try simp only [eq_self, not_true_eq_false, not_false_eq_true, k_le, k_lt, k_eq, k_leL, k_ltL, k_eqL, k_il, li_m6, li_m5, li_m3, li_m2, li_m1, li_0, li_1, li_2, li_3, li_4, li_5, li_6, li_7, li_8, li_10, li_11, li_12, li_20, li_24, li_25, li_26, li_32, li_39, li_40, li_48, li_57, li_59, li_60, li_96, li_97, li_100, li_122, li_180, li_200, li_255, li_300, li_468, li_480, li_500, li_1000, li_2000, li_10000, li_10001, li_100000, li_1000000, li_100000000, lj_m1, lj_0, lj_1, lj_2, lj_3, lj_24, lj_39, lj_100, lj_500, lj_1000, lj_2000, lj_10000, lj_100000, lj_1000000, lj_100000000, lj_10, lj_20, lj_12, lj_32, lj_96] at *) <;> omega))
    · skip
      refine k_aload_n (pc' := 22) dX10_garden_21 rfl rfl ?_
      refine k_iconst (pc' := 23) (v := (-1)) dX10_garden_22 rfl (by decide) ?_
      refine k_callV1 (pc' := 26) dX10_garden_23 rfl ml_RX10_89 rfl rfl ⟨(Nat.le_of_ble_eq_true rfl), (Nat.le_of_ble_eq_true rfl)⟩ (Nat.le_of_ble_eq_true rfl) ev_X10_refused (fun r_23 h_23 q_23 => ?_)
      obtain ⟨e_23, g_23⟩ := q_23
      rw [e_23, g_23]
      exact k_iret dX10_garden_26 rfl (by (repeat' split) <;> first | exact ⟨rfl, rfl⟩ | (exfalso; (try simp only [eq_self, not_true_eq_false, not_false_eq_true, k_b0, k_b1, k_c0, k_cl, k_cg, k_cle, k_cge] at *) <;> (try simp only [eq_self, not_true_eq_false, not_false_eq_true, k_le, k_lt, k_eq, k_leL, k_ltL, k_eqL, k_il, li_m6, li_m5, li_m3, li_m2, li_m1, li_0, li_1, li_2, li_3, li_4, li_5, li_6, li_7, li_8, li_10, li_11, li_12, li_20, li_24, li_25, li_26, li_32, li_39, li_40, li_48, li_57, li_59, li_60, li_96, li_97, li_100, li_122, li_180, li_200, li_255, li_300, li_468, li_480, li_500, li_1000, li_2000, li_10000, li_10001, li_100000, li_1000000, li_100000000, lj_m1, lj_0, lj_1, lj_2, lj_3, lj_24, lj_39, lj_100, lj_500, lj_1000, lj_2000, lj_10000, lj_100000, lj_1000000, lj_100000000, lj_10, lj_20, lj_12, lj_32, lj_96] at *) <;> omega))

set_option maxHeartbeats 400000 in
set_option maxRecDepth 100000 in
theorem ev_X10_of {g w : Int32} {μ : kH} (hg : 0 ≤ (μ.1 11 2).toInt) (hg2 : (μ.1 11 2).toInt ≤ 12) : Ev kX10_of [kr 0, ki g, ki w] μ (fun r h' => r = ki (if (0 ≤ g ∧ g < μ.1 11 2) then (if w = 0 then μ.1 12 g.toNatClampNeg else if w = 1 then μ.1 13 g.toNatClampNeg else -1) else -1) ∧ h' = μ) := by
  refine k_ev (ls := [_, _, _]) (by decide) (Nat.le_of_ble_eq_true rfl) rfl ?_
  refine k_aload_n (pc' := 1) dX10_of_0 rfl rfl ?_
  refine k_getR (pc' := 4) fl_RX10_35 dX10_of_1 rfl rfl rfl ?_
  refine k_iload_n (pc' := 5) dX10_of_4 rfl rfl ?_
  refine k_callV1 (pc' := 8) dX10_of_5 rfl ml_RX10_133 rfl rfl ⟨(Nat.le_of_ble_eq_true rfl), (Nat.le_of_ble_eq_true rfl)⟩ (Nat.le_of_ble_eq_true rfl) (ev_X1_has2 hg) (fun r_5 h_5 q_5 => ?_)
  obtain ⟨e_5, g_5⟩ := q_5
  rw [e_5, g_5]
  refine k_if_ne (pc' := 11) (tg := 13) dX10_of_8 rfl (by decide) (fun c_8 => ?_) (fun c_8 => ?_)
  · skip
    refine k_iload_n (pc' := 14) dX10_of_13 rfl rfl ?_
    refine k_topi (fun y_14 e_14 => ?_)
    by_cases s_14_0 : y_14 = 0
    · rw [s_14_0] at e_14
      rw [s_14_0]
      refine k_lookup (tg := 40) (off := 26) dX10_of_14 (by decide) (by decide) (by decide) ?_
      refine k_aload_n (pc' := 41) dX10_of_40 rfl rfl ?_
      refine k_getR (pc' := 44) fl_RX10_35 dX10_of_41 rfl rfl rfl ?_
      refine k_getR (pc' := 47) fl_RX10_136 dX10_of_44 rfl rfl rfl ?_
      refine k_iload_n (pc' := 48) dX10_of_47 rfl rfl ?_
      refine k_iald (pc' := 49) dX10_of_48 rfl rfl (vp_in_iff.mpr (by first | assumption | ((try simp only [eq_self, not_true_eq_false, not_false_eq_true, k_b0, k_b1, k_c0, k_cl, k_cg, k_cle, k_cge] at *) <;> (try simp only [eq_self, not_true_eq_false, not_false_eq_true, k_le, k_lt, k_eq, k_leL, k_ltL, k_eqL, k_il, li_m6, li_m5, li_m3, li_m2, li_m1, li_0, li_1, li_2, li_3, li_4, li_5, li_6, li_7, li_8, li_10, li_11, li_12, li_20, li_24, li_25, li_26, li_32, li_39, li_40, li_48, li_57, li_59, li_60, li_96, li_97, li_100, li_122, li_180, li_200, li_255, li_300, li_468, li_480, li_500, li_1000, li_2000, li_10000, li_10001, li_100000, li_1000000, li_100000000, lj_m1, lj_0, lj_1, lj_2, lj_3, lj_24, lj_39, lj_100, lj_500, lj_1000, lj_2000, lj_10000, lj_100000, lj_1000000, lj_100000000, lj_10, lj_20, lj_12, lj_32, lj_96] at *) <;> omega))) ?_
      exact k_iret dX10_of_49 rfl (by (repeat' split) <;> first | exact ⟨rfl, rfl⟩ | (exfalso; (try simp only [eq_self, not_true_eq_false, not_false_eq_true, k_b0, k_b1, k_c0, k_cl, k_cg, k_cle, k_cge] at *) <;> (try simp only [eq_self, not_true_eq_false, not_false_eq_true, k_le, k_lt, k_eq, k_leL, k_ltL, k_eqL, k_il, li_m6, li_m5, li_m3, li_m2, li_m1, li_0, li_1, li_2, li_3, li_4, li_5, li_6, li_7, li_8, li_10, li_11, li_12, li_20, li_24, li_25, li_26, li_32, li_39, li_40, li_48, li_57, li_59, li_60, li_96, li_97, li_100, li_122, li_180, li_200, li_255, li_300, li_468, li_480, li_500, li_1000, li_2000, li_10000, li_10001, li_100000, li_1000000, li_100000000, lj_m1, lj_0, lj_1, lj_2, lj_3, lj_24, lj_39, lj_100, lj_500, lj_1000, lj_2000, lj_10000, lj_100000, lj_1000000, lj_100000000, lj_10, lj_20, lj_12, lj_32, lj_96] at *) <;> omega))
    by_cases s_14_1 : y_14 = 1
    · rw [s_14_1] at e_14
      rw [s_14_1]
      refine k_lookup (tg := 50) (off := 36) dX10_of_14 (by decide) (by decide) (by decide) ?_
      refine k_aload_n (pc' := 51) dX10_of_50 rfl rfl ?_
      refine k_getR (pc' := 54) fl_RX10_35 dX10_of_51 rfl rfl rfl ?_
      refine k_getR (pc' := 57) fl_RX10_139 dX10_of_54 rfl rfl rfl ?_
      refine k_iload_n (pc' := 58) dX10_of_57 rfl rfl ?_
      refine k_iald (pc' := 59) dX10_of_58 rfl rfl (vp_in_iff.mpr (by first | assumption | ((try simp only [eq_self, not_true_eq_false, not_false_eq_true, k_b0, k_b1, k_c0, k_cl, k_cg, k_cle, k_cge] at *) <;> (try simp only [eq_self, not_true_eq_false, not_false_eq_true, k_le, k_lt, k_eq, k_leL, k_ltL, k_eqL, k_il, li_m6, li_m5, li_m3, li_m2, li_m1, li_0, li_1, li_2, li_3, li_4, li_5, li_6, li_7, li_8, li_10, li_11, li_12, li_20, li_24, li_25, li_26, li_32, li_39, li_40, li_48, li_57, li_59, li_60, li_96, li_97, li_100, li_122, li_180, li_200, li_255, li_300, li_468, li_480, li_500, li_1000, li_2000, li_10000, li_10001, li_100000, li_1000000, li_100000000, lj_m1, lj_0, lj_1, lj_2, lj_3, lj_24, lj_39, lj_100, lj_500, lj_1000, lj_2000, lj_10000, lj_100000, lj_1000000, lj_100000000, lj_10, lj_20, lj_12, lj_32, lj_96] at *) <;> omega))) ?_
      exact k_iret dX10_of_59 rfl (by (repeat' split) <;> first | exact ⟨rfl, rfl⟩ | (exfalso; (try simp only [eq_self, not_true_eq_false, not_false_eq_true, k_b0, k_b1, k_c0, k_cl, k_cg, k_cle, k_cge] at *) <;> (try simp only [eq_self, not_true_eq_false, not_false_eq_true, k_le, k_lt, k_eq, k_leL, k_ltL, k_eqL, k_il, li_m6, li_m5, li_m3, li_m2, li_m1, li_0, li_1, li_2, li_3, li_4, li_5, li_6, li_7, li_8, li_10, li_11, li_12, li_20, li_24, li_25, li_26, li_32, li_39, li_40, li_48, li_57, li_59, li_60, li_96, li_97, li_100, li_122, li_180, li_200, li_255, li_300, li_468, li_480, li_500, li_1000, li_2000, li_10000, li_10001, li_100000, li_1000000, li_100000000, lj_m1, lj_0, lj_1, lj_2, lj_3, lj_24, lj_39, lj_100, lj_500, lj_1000, lj_2000, lj_10000, lj_100000, lj_1000000, lj_100000000, lj_10, lj_20, lj_12, lj_32, lj_96] at *) <;> omega))
    refine k_lookup (tg := 60) (off := 46) dX10_of_14 (by decide) (by simp only [eq_self, not_true_eq_false, not_false_eq_true, k_le, k_lt, k_eq, k_leL, k_ltL, k_eqL, k_il, li_m6, li_m5, li_m3, li_m2, li_m1, li_0, li_1, li_2, li_3, li_4, li_5, li_6, li_7, li_8, li_10, li_11, li_12, li_20, li_24, li_25, li_26, li_32, li_39, li_40, li_48, li_57, li_59, li_60, li_96, li_97, li_100, li_122, li_180, li_200, li_255, li_300, li_468, li_480, li_500, li_1000, li_2000, li_10000, li_10001, li_100000, li_1000000, li_100000000, lj_m1, lj_0, lj_1, lj_2, lj_3, lj_24, lj_39, lj_100, lj_500, lj_1000, lj_2000, lj_10000, lj_100000, lj_1000000, lj_100000000, lj_10, lj_20, lj_12, lj_32, lj_96] at *; (try simp [Op.lookupswitch.offset, *]) <;> (repeat' split) <;> first | rfl | omega) (by decide) ?_
    refine k_iconst (pc' := 61) (v := (-1)) dX10_of_60 rfl (by decide) ?_
    exact k_iret dX10_of_61 rfl (by (repeat' split) <;> first | exact ⟨rfl, rfl⟩ | (exfalso; (try simp only [eq_self, not_true_eq_false, not_false_eq_true, k_b0, k_b1, k_c0, k_cl, k_cg, k_cle, k_cge] at *) <;> (try simp only [eq_self, not_true_eq_false, not_false_eq_true, k_le, k_lt, k_eq, k_leL, k_ltL, k_eqL, k_il, li_m6, li_m5, li_m3, li_m2, li_m1, li_0, li_1, li_2, li_3, li_4, li_5, li_6, li_7, li_8, li_10, li_11, li_12, li_20, li_24, li_25, li_26, li_32, li_39, li_40, li_48, li_57, li_59, li_60, li_96, li_97, li_100, li_122, li_180, li_200, li_255, li_300, li_468, li_480, li_500, li_1000, li_2000, li_10000, li_10001, li_100000, li_1000000, li_100000000, lj_m1, lj_0, lj_1, lj_2, lj_3, lj_24, lj_39, lj_100, lj_500, lj_1000, lj_2000, lj_10000, lj_100000, lj_1000000, lj_100000000, lj_10, lj_20, lj_12, lj_32, lj_96] at *) <;> omega))
  · skip
    refine k_iconst (pc' := 12) (v := (-1)) dX10_of_11 rfl (by decide) ?_
    exact k_iret dX10_of_12 rfl (by (repeat' split) <;> first | exact ⟨rfl, rfl⟩ | (exfalso; (try simp only [eq_self, not_true_eq_false, not_false_eq_true, k_b0, k_b1, k_c0, k_cl, k_cg, k_cle, k_cge] at *) <;> (try simp only [eq_self, not_true_eq_false, not_false_eq_true, k_le, k_lt, k_eq, k_leL, k_ltL, k_eqL, k_il, li_m6, li_m5, li_m3, li_m2, li_m1, li_0, li_1, li_2, li_3, li_4, li_5, li_6, li_7, li_8, li_10, li_11, li_12, li_20, li_24, li_25, li_26, li_32, li_39, li_40, li_48, li_57, li_59, li_60, li_96, li_97, li_100, li_122, li_180, li_200, li_255, li_300, li_468, li_480, li_500, li_1000, li_2000, li_10000, li_10001, li_100000, li_1000000, li_100000000, lj_m1, lj_0, lj_1, lj_2, lj_3, lj_24, lj_39, lj_100, lj_500, lj_1000, lj_2000, lj_10000, lj_100000, lj_1000000, lj_100000000, lj_10, lj_20, lj_12, lj_32, lj_96] at *) <;> omega))

set_option maxHeartbeats 400000 in
set_option maxRecDepth 100000 in
theorem ev_X10_plant {g : Int32} {μ : kH} (hg : 0 ≤ (μ.1 11 2).toInt) (hg2 : (μ.1 11 2).toInt ≤ 12) : Ev kX10_plant [kr 0, ki g] μ (fun r h' => if ¬ (0 ≤ g ∧ g < μ.1 11 2) then r = ki (-2) ∧ h' = hI μ 0 11 (-2) else if ¬ μ.1 13 g.toNatClampNeg = -1 then r = ki (-3) ∧ h' = hI μ 0 11 (-3) else r = ki (μ.1 12 g.toNatClampNeg * μ.1 1 2) ∧ h' = hI (hI μ 13 g.toNatClampNeg 0) 0 11 0) := by
  refine k_ev (ls := [_, _]) (by decide) (Nat.le_of_ble_eq_true rfl) rfl ?_
  refine k_aload_n (pc' := 1) dX10_plant_0 rfl rfl ?_
  refine k_getR (pc' := 4) fl_RX10_35 dX10_plant_1 rfl rfl rfl ?_
  refine k_iload_n (pc' := 5) dX10_plant_4 rfl rfl ?_
  refine k_callV1 (pc' := 8) dX10_plant_5 rfl ml_RX10_133 rfl rfl ⟨(Nat.le_of_ble_eq_true rfl), (Nat.le_of_ble_eq_true rfl)⟩ (Nat.le_of_ble_eq_true rfl) (ev_X1_has2 hg) (fun r_5 h_5 q_5 => ?_)
  obtain ⟨e_5, g_5⟩ := q_5
  rw [e_5, g_5]
  refine k_if_ne (pc' := 11) (tg := 18) dX10_plant_8 rfl (by decide) (fun c_8 => ?_) (fun c_8 => ?_)
  · skip
    refine k_aload_n (pc' := 19) dX10_plant_18 rfl rfl ?_
    refine k_getR (pc' := 22) fl_RX10_35 dX10_plant_19 rfl rfl rfl ?_
    refine k_getR (pc' := 25) fl_RX10_139 dX10_plant_22 rfl rfl rfl ?_
    refine k_iload_n (pc' := 26) dX10_plant_25 rfl rfl ?_
    refine k_iald (pc' := 27) dX10_plant_26 rfl rfl (vp_in_iff.mpr (by first | assumption | ((try simp only [eq_self, not_true_eq_false, not_false_eq_true, k_b0, k_b1, k_c0, k_cl, k_cg, k_cle, k_cge] at *) <;> (try simp only [eq_self, not_true_eq_false, not_false_eq_true, k_le, k_lt, k_eq, k_leL, k_ltL, k_eqL, k_il, li_m6, li_m5, li_m3, li_m2, li_m1, li_0, li_1, li_2, li_3, li_4, li_5, li_6, li_7, li_8, li_10, li_11, li_12, li_20, li_24, li_25, li_26, li_32, li_39, li_40, li_48, li_57, li_59, li_60, li_96, li_97, li_100, li_122, li_180, li_200, li_255, li_300, li_468, li_480, li_500, li_1000, li_2000, li_10000, li_10001, li_100000, li_1000000, li_100000000, lj_m1, lj_0, lj_1, lj_2, lj_3, lj_24, lj_39, lj_100, lj_500, lj_1000, lj_2000, lj_10000, lj_100000, lj_1000000, lj_100000000, lj_10, lj_20, lj_12, lj_32, lj_96] at *) <;> omega))) ?_
    refine k_iconst (pc' := 28) (v := (-1)) dX10_plant_27 rfl (by decide) ?_
    refine k_icmp_eq (pc' := 31) (tg := 38) dX10_plant_28 rfl (by decide) (fun c_28 => ?_) (fun c_28 => ?_)
    · skip
      refine k_aload_n (pc' := 39) dX10_plant_38 rfl rfl ?_
      refine k_getR (pc' := 42) fl_RX10_35 dX10_plant_39 rfl rfl rfl ?_
      refine k_getR (pc' := 45) fl_RX10_139 dX10_plant_42 rfl rfl rfl ?_
      refine k_iload_n (pc' := 46) dX10_plant_45 rfl rfl ?_
      refine k_iconst (pc' := 47) (v := 0) dX10_plant_46 rfl (by decide) ?_
      refine k_iast (pc' := 48) dX10_plant_47 rfl rfl (vp_in_iff.mpr (by first | assumption | ((try simp only [eq_self, not_true_eq_false, not_false_eq_true, k_b0, k_b1, k_c0, k_cl, k_cg, k_cle, k_cge] at *) <;> (try simp only [eq_self, not_true_eq_false, not_false_eq_true, k_le, k_lt, k_eq, k_leL, k_ltL, k_eqL, k_il, li_m6, li_m5, li_m3, li_m2, li_m1, li_0, li_1, li_2, li_3, li_4, li_5, li_6, li_7, li_8, li_10, li_11, li_12, li_20, li_24, li_25, li_26, li_32, li_39, li_40, li_48, li_57, li_59, li_60, li_96, li_97, li_100, li_122, li_180, li_200, li_255, li_300, li_468, li_480, li_500, li_1000, li_2000, li_10000, li_10001, li_100000, li_1000000, li_100000000, lj_m1, lj_0, lj_1, lj_2, lj_3, lj_24, lj_39, lj_100, lj_500, lj_1000, lj_2000, lj_10000, lj_100000, lj_1000000, lj_100000000, lj_10, lj_20, lj_12, lj_32, lj_96] at *) <;> omega))) ?_
      refine k_aload_n (pc' := 49) dX10_plant_48 rfl rfl ?_
      refine k_aload_n (pc' := 50) dX10_plant_49 rfl rfl ?_
      refine k_getR (pc' := 53) fl_RX10_12 dX10_plant_50 rfl rfl rfl ?_
      refine k_aload_n (pc' := 54) dX10_plant_53 rfl rfl ?_
      refine k_getR (pc' := 57) fl_RX10_35 dX10_plant_54 rfl rfl rfl ?_
      refine k_getR (pc' := 60) fl_RX10_136 dX10_plant_57 rfl rfl rfl ?_
      refine k_iload_n (pc' := 61) dX10_plant_60 rfl rfl ?_
      refine k_iald (pc' := 62) dX10_plant_61 rfl rfl (vp_in_iff.mpr (by first | assumption | ((try simp only [eq_self, not_true_eq_false, not_false_eq_true, k_b0, k_b1, k_c0, k_cl, k_cg, k_cle, k_cge] at *) <;> (try simp only [eq_self, not_true_eq_false, not_false_eq_true, k_le, k_lt, k_eq, k_leL, k_ltL, k_eqL, k_il, li_m6, li_m5, li_m3, li_m2, li_m1, li_0, li_1, li_2, li_3, li_4, li_5, li_6, li_7, li_8, li_10, li_11, li_12, li_20, li_24, li_25, li_26, li_32, li_39, li_40, li_48, li_57, li_59, li_60, li_96, li_97, li_100, li_122, li_180, li_200, li_255, li_300, li_468, li_480, li_500, li_1000, li_2000, li_10000, li_10001, li_100000, li_1000000, li_100000000, lj_m1, lj_0, lj_1, lj_2, lj_3, lj_24, lj_39, lj_100, lj_500, lj_1000, lj_2000, lj_10000, lj_100000, lj_1000000, lj_100000000, lj_10, lj_20, lj_12, lj_32, lj_96] at *) <;> omega))) ?_
      refine k_callV1 (pc' := 65) dX10_plant_62 rfl ml_RX10_142 rfl rfl ⟨(Nat.le_of_ble_eq_true rfl), (Nat.le_of_ble_eq_true rfl)⟩ (Nat.le_of_ble_eq_true rfl) ev_X2_costOf (fun r_62 h_62 q_62 => ?_)
      obtain ⟨e_62, g_62⟩ := q_62
      rw [e_62, g_62]
      refine k_callV1 (pc' := 68) dX10_plant_65 rfl ml_RX10_97 rfl rfl ⟨(Nat.le_of_ble_eq_true rfl), (Nat.le_of_ble_eq_true rfl)⟩ (Nat.le_of_ble_eq_true rfl) ev_X10_done (fun r_65 h_65 q_65 => ?_)
      obtain ⟨e_65, g_65⟩ := q_65
      rw [e_65, g_65]
      exact k_iret dX10_plant_68 rfl (by (repeat' split) <;> first | exact ⟨rfl, rfl⟩ | (exfalso; (try simp only [eq_self, not_true_eq_false, not_false_eq_true, k_b0, k_b1, k_c0, k_cl, k_cg, k_cle, k_cge] at *) <;> (try simp only [eq_self, not_true_eq_false, not_false_eq_true, k_le, k_lt, k_eq, k_leL, k_ltL, k_eqL, k_il, li_m6, li_m5, li_m3, li_m2, li_m1, li_0, li_1, li_2, li_3, li_4, li_5, li_6, li_7, li_8, li_10, li_11, li_12, li_20, li_24, li_25, li_26, li_32, li_39, li_40, li_48, li_57, li_59, li_60, li_96, li_97, li_100, li_122, li_180, li_200, li_255, li_300, li_468, li_480, li_500, li_1000, li_2000, li_10000, li_10001, li_100000, li_1000000, li_100000000, lj_m1, lj_0, lj_1, lj_2, lj_3, lj_24, lj_39, lj_100, lj_500, lj_1000, lj_2000, lj_10000, lj_100000, lj_1000000, lj_100000000, lj_10, lj_20, lj_12, lj_32, lj_96] at *) <;> omega))
    · skip
      refine k_aload_n (pc' := 32) dX10_plant_31 rfl rfl ?_
      refine k_bipush (pc' := 34) (v := (-3)) dX10_plant_32 rfl (by decide) ?_
      refine k_callV1 (pc' := 37) dX10_plant_34 rfl ml_RX10_89 rfl rfl ⟨(Nat.le_of_ble_eq_true rfl), (Nat.le_of_ble_eq_true rfl)⟩ (Nat.le_of_ble_eq_true rfl) ev_X10_refused (fun r_34 h_34 q_34 => ?_)
      obtain ⟨e_34, g_34⟩ := q_34
      rw [e_34, g_34]
      exact k_iret dX10_plant_37 rfl (by (repeat' split) <;> first | exact ⟨rfl, rfl⟩ | (exfalso; (try simp only [eq_self, not_true_eq_false, not_false_eq_true, k_b0, k_b1, k_c0, k_cl, k_cg, k_cle, k_cge] at *) <;> (try simp only [eq_self, not_true_eq_false, not_false_eq_true, k_le, k_lt, k_eq, k_leL, k_ltL, k_eqL, k_il, li_m6, li_m5, li_m3, li_m2, li_m1, li_0, li_1, li_2, li_3, li_4, li_5, li_6, li_7, li_8, li_10, li_11, li_12, li_20, li_24, li_25, li_26, li_32, li_39, li_40, li_48, li_57, li_59, li_60, li_96, li_97, li_100, li_122, li_180, li_200, li_255, li_300, li_468, li_480, li_500, li_1000, li_2000, li_10000, li_10001, li_100000, li_1000000, li_100000000, lj_m1, lj_0, lj_1, lj_2, lj_3, lj_24, lj_39, lj_100, lj_500, lj_1000, lj_2000, lj_10000, lj_100000, lj_1000000, lj_100000000, lj_10, lj_20, lj_12, lj_32, lj_96] at *) <;> omega))
  · skip
    refine k_aload_n (pc' := 12) dX10_plant_11 rfl rfl ?_
    refine k_bipush (pc' := 14) (v := (-2)) dX10_plant_12 rfl (by decide) ?_
    refine k_callV1 (pc' := 17) dX10_plant_14 rfl ml_RX10_89 rfl rfl ⟨(Nat.le_of_ble_eq_true rfl), (Nat.le_of_ble_eq_true rfl)⟩ (Nat.le_of_ble_eq_true rfl) ev_X10_refused (fun r_14 h_14 q_14 => ?_)
    obtain ⟨e_14, g_14⟩ := q_14
    rw [e_14, g_14]
    exact k_iret dX10_plant_17 rfl (by (repeat' split) <;> first | exact ⟨rfl, rfl⟩ | (exfalso; (try simp only [eq_self, not_true_eq_false, not_false_eq_true, k_b0, k_b1, k_c0, k_cl, k_cg, k_cle, k_cge] at *) <;> (try simp only [eq_self, not_true_eq_false, not_false_eq_true, k_le, k_lt, k_eq, k_leL, k_ltL, k_eqL, k_il, li_m6, li_m5, li_m3, li_m2, li_m1, li_0, li_1, li_2, li_3, li_4, li_5, li_6, li_7, li_8, li_10, li_11, li_12, li_20, li_24, li_25, li_26, li_32, li_39, li_40, li_48, li_57, li_59, li_60, li_96, li_97, li_100, li_122, li_180, li_200, li_255, li_300, li_468, li_480, li_500, li_1000, li_2000, li_10000, li_10001, li_100000, li_1000000, li_100000000, lj_m1, lj_0, lj_1, lj_2, lj_3, lj_24, lj_39, lj_100, lj_500, lj_1000, lj_2000, lj_10000, lj_100000, lj_1000000, lj_100000000, lj_10, lj_20, lj_12, lj_32, lj_96] at *) <;> omega))

set_option maxHeartbeats 400000 in
set_option maxRecDepth 100000 in
theorem ev_X10_fell {g : Int32} {μ : kH} (hg : 0 ≤ (μ.1 11 2).toInt) (hg2 : (μ.1 11 2).toInt ≤ 12) : Ev kX10_fell [kr 0, ki g] μ (fun r h' => if ¬ (0 ≤ g ∧ g < μ.1 11 2) then r = ki (-2) ∧ h' = hI μ 0 11 (-2) else if μ.1 13 g.toNatClampNeg = -1 then r = ki (-3) ∧ h' = hI μ 0 11 (-3) else r = ki 0 ∧ h' = hI (hI μ 13 g.toNatClampNeg (-1)) 0 11 0) := by
  refine k_ev (ls := [_, _]) (by decide) (Nat.le_of_ble_eq_true rfl) rfl ?_
  refine k_aload_n (pc' := 1) dX10_fell_0 rfl rfl ?_
  refine k_getR (pc' := 4) fl_RX10_35 dX10_fell_1 rfl rfl rfl ?_
  refine k_iload_n (pc' := 5) dX10_fell_4 rfl rfl ?_
  refine k_callV1 (pc' := 8) dX10_fell_5 rfl ml_RX10_133 rfl rfl ⟨(Nat.le_of_ble_eq_true rfl), (Nat.le_of_ble_eq_true rfl)⟩ (Nat.le_of_ble_eq_true rfl) (ev_X1_has2 hg) (fun r_5 h_5 q_5 => ?_)
  obtain ⟨e_5, g_5⟩ := q_5
  rw [e_5, g_5]
  refine k_if_ne (pc' := 11) (tg := 18) dX10_fell_8 rfl (by decide) (fun c_8 => ?_) (fun c_8 => ?_)
  · skip
    refine k_aload_n (pc' := 19) dX10_fell_18 rfl rfl ?_
    refine k_getR (pc' := 22) fl_RX10_35 dX10_fell_19 rfl rfl rfl ?_
    refine k_getR (pc' := 25) fl_RX10_139 dX10_fell_22 rfl rfl rfl ?_
    refine k_iload_n (pc' := 26) dX10_fell_25 rfl rfl ?_
    refine k_iald (pc' := 27) dX10_fell_26 rfl rfl (vp_in_iff.mpr (by first | assumption | ((try simp only [eq_self, not_true_eq_false, not_false_eq_true, k_b0, k_b1, k_c0, k_cl, k_cg, k_cle, k_cge] at *) <;> (try simp only [eq_self, not_true_eq_false, not_false_eq_true, k_le, k_lt, k_eq, k_leL, k_ltL, k_eqL, k_il, li_m6, li_m5, li_m3, li_m2, li_m1, li_0, li_1, li_2, li_3, li_4, li_5, li_6, li_7, li_8, li_10, li_11, li_12, li_20, li_24, li_25, li_26, li_32, li_39, li_40, li_48, li_57, li_59, li_60, li_96, li_97, li_100, li_122, li_180, li_200, li_255, li_300, li_468, li_480, li_500, li_1000, li_2000, li_10000, li_10001, li_100000, li_1000000, li_100000000, lj_m1, lj_0, lj_1, lj_2, lj_3, lj_24, lj_39, lj_100, lj_500, lj_1000, lj_2000, lj_10000, lj_100000, lj_1000000, lj_100000000, lj_10, lj_20, lj_12, lj_32, lj_96] at *) <;> omega))) ?_
    refine k_iconst (pc' := 28) (v := (-1)) dX10_fell_27 rfl (by decide) ?_
    refine k_icmp_ne (pc' := 31) (tg := 38) dX10_fell_28 rfl (by decide) (fun c_28 => ?_) (fun c_28 => ?_)
    · skip
      refine k_aload_n (pc' := 39) dX10_fell_38 rfl rfl ?_
      refine k_getR (pc' := 42) fl_RX10_35 dX10_fell_39 rfl rfl rfl ?_
      refine k_getR (pc' := 45) fl_RX10_139 dX10_fell_42 rfl rfl rfl ?_
      refine k_iload_n (pc' := 46) dX10_fell_45 rfl rfl ?_
      refine k_iconst (pc' := 47) (v := (-1)) dX10_fell_46 rfl (by decide) ?_
      refine k_iast (pc' := 48) dX10_fell_47 rfl rfl (vp_in_iff.mpr (by first | assumption | ((try simp only [eq_self, not_true_eq_false, not_false_eq_true, k_b0, k_b1, k_c0, k_cl, k_cg, k_cle, k_cge] at *) <;> (try simp only [eq_self, not_true_eq_false, not_false_eq_true, k_le, k_lt, k_eq, k_leL, k_ltL, k_eqL, k_il, li_m6, li_m5, li_m3, li_m2, li_m1, li_0, li_1, li_2, li_3, li_4, li_5, li_6, li_7, li_8, li_10, li_11, li_12, li_20, li_24, li_25, li_26, li_32, li_39, li_40, li_48, li_57, li_59, li_60, li_96, li_97, li_100, li_122, li_180, li_200, li_255, li_300, li_468, li_480, li_500, li_1000, li_2000, li_10000, li_10001, li_100000, li_1000000, li_100000000, lj_m1, lj_0, lj_1, lj_2, lj_3, lj_24, lj_39, lj_100, lj_500, lj_1000, lj_2000, lj_10000, lj_100000, lj_1000000, lj_100000000, lj_10, lj_20, lj_12, lj_32, lj_96] at *) <;> omega))) ?_
      refine k_aload_n (pc' := 49) dX10_fell_48 rfl rfl ?_
      refine k_iconst (pc' := 50) (v := 0) dX10_fell_49 rfl (by decide) ?_
      refine k_callV1 (pc' := 53) dX10_fell_50 rfl ml_RX10_97 rfl rfl ⟨(Nat.le_of_ble_eq_true rfl), (Nat.le_of_ble_eq_true rfl)⟩ (Nat.le_of_ble_eq_true rfl) ev_X10_done (fun r_50 h_50 q_50 => ?_)
      obtain ⟨e_50, g_50⟩ := q_50
      rw [e_50, g_50]
      exact k_iret dX10_fell_53 rfl (by (repeat' split) <;> first | exact ⟨rfl, rfl⟩ | (exfalso; (try simp only [eq_self, not_true_eq_false, not_false_eq_true, k_b0, k_b1, k_c0, k_cl, k_cg, k_cle, k_cge] at *) <;> (try simp only [eq_self, not_true_eq_false, not_false_eq_true, k_le, k_lt, k_eq, k_leL, k_ltL, k_eqL, k_il, li_m6, li_m5, li_m3, li_m2, li_m1, li_0, li_1, li_2, li_3, li_4, li_5, li_6, li_7, li_8, li_10, li_11, li_12, li_20, li_24, li_25, li_26, li_32, li_39, li_40, li_48, li_57, li_59, li_60, li_96, li_97, li_100, li_122, li_180, li_200, li_255, li_300, li_468, li_480, li_500, li_1000, li_2000, li_10000, li_10001, li_100000, li_1000000, li_100000000, lj_m1, lj_0, lj_1, lj_2, lj_3, lj_24, lj_39, lj_100, lj_500, lj_1000, lj_2000, lj_10000, lj_100000, lj_1000000, lj_100000000, lj_10, lj_20, lj_12, lj_32, lj_96] at *) <;> omega))
    · skip
      refine k_aload_n (pc' := 32) dX10_fell_31 rfl rfl ?_
      refine k_bipush (pc' := 34) (v := (-3)) dX10_fell_32 rfl (by decide) ?_
      refine k_callV1 (pc' := 37) dX10_fell_34 rfl ml_RX10_89 rfl rfl ⟨(Nat.le_of_ble_eq_true rfl), (Nat.le_of_ble_eq_true rfl)⟩ (Nat.le_of_ble_eq_true rfl) ev_X10_refused (fun r_34 h_34 q_34 => ?_)
      obtain ⟨e_34, g_34⟩ := q_34
      rw [e_34, g_34]
      exact k_iret dX10_fell_37 rfl (by (repeat' split) <;> first | exact ⟨rfl, rfl⟩ | (exfalso; (try simp only [eq_self, not_true_eq_false, not_false_eq_true, k_b0, k_b1, k_c0, k_cl, k_cg, k_cle, k_cge] at *) <;> (try simp only [eq_self, not_true_eq_false, not_false_eq_true, k_le, k_lt, k_eq, k_leL, k_ltL, k_eqL, k_il, li_m6, li_m5, li_m3, li_m2, li_m1, li_0, li_1, li_2, li_3, li_4, li_5, li_6, li_7, li_8, li_10, li_11, li_12, li_20, li_24, li_25, li_26, li_32, li_39, li_40, li_48, li_57, li_59, li_60, li_96, li_97, li_100, li_122, li_180, li_200, li_255, li_300, li_468, li_480, li_500, li_1000, li_2000, li_10000, li_10001, li_100000, li_1000000, li_100000000, lj_m1, lj_0, lj_1, lj_2, lj_3, lj_24, lj_39, lj_100, lj_500, lj_1000, lj_2000, lj_10000, lj_100000, lj_1000000, lj_100000000, lj_10, lj_20, lj_12, lj_32, lj_96] at *) <;> omega))
  · skip
    refine k_aload_n (pc' := 12) dX10_fell_11 rfl rfl ?_
    refine k_bipush (pc' := 14) (v := (-2)) dX10_fell_12 rfl (by decide) ?_
    refine k_callV1 (pc' := 17) dX10_fell_14 rfl ml_RX10_89 rfl rfl ⟨(Nat.le_of_ble_eq_true rfl), (Nat.le_of_ble_eq_true rfl)⟩ (Nat.le_of_ble_eq_true rfl) ev_X10_refused (fun r_14 h_14 q_14 => ?_)
    obtain ⟨e_14, g_14⟩ := q_14
    rw [e_14, g_14]
    exact k_iret dX10_fell_17 rfl (by (repeat' split) <;> first | exact ⟨rfl, rfl⟩ | (exfalso; (try simp only [eq_self, not_true_eq_false, not_false_eq_true, k_b0, k_b1, k_c0, k_cl, k_cg, k_cle, k_cge] at *) <;> (try simp only [eq_self, not_true_eq_false, not_false_eq_true, k_le, k_lt, k_eq, k_leL, k_ltL, k_eqL, k_il, li_m6, li_m5, li_m3, li_m2, li_m1, li_0, li_1, li_2, li_3, li_4, li_5, li_6, li_7, li_8, li_10, li_11, li_12, li_20, li_24, li_25, li_26, li_32, li_39, li_40, li_48, li_57, li_59, li_60, li_96, li_97, li_100, li_122, li_180, li_200, li_255, li_300, li_468, li_480, li_500, li_1000, li_2000, li_10000, li_10001, li_100000, li_1000000, li_100000000, lj_m1, lj_0, lj_1, lj_2, lj_3, lj_24, lj_39, lj_100, lj_500, lj_1000, lj_2000, lj_10000, lj_100000, lj_1000000, lj_100000000, lj_10, lj_20, lj_12, lj_32, lj_96] at *) <;> omega))

set_option maxHeartbeats 400000 in
set_option maxRecDepth 100000 in
theorem ev_X10_freshIn {g : Int32} {μ : kH} (hv : vp_in g 12) : Ev kX10_freshIn [kr 0, ki g] μ (fun r h' => r = ki (if 0 ≤ μ.1 13 g.toNatClampNeg ∧ μ.1 13 g.toNatClampNeg ≤ 24 then μ.1 12 g.toNatClampNeg * μ.1 2 (μ.1 13 g.toNatClampNeg).toNatClampNeg / 100 else 0) ∧ h' = μ) := by
  refine k_ev (ls := [_, _]) (by decide) (Nat.le_of_ble_eq_true rfl) rfl ?_
  refine k_aload_n (pc' := 1) dX10_freshIn_0 rfl rfl ?_
  refine k_getR (pc' := 4) fl_RX10_12 dX10_freshIn_1 rfl rfl rfl ?_
  refine k_aload_n (pc' := 5) dX10_freshIn_4 rfl rfl ?_
  refine k_getR (pc' := 8) fl_RX10_35 dX10_freshIn_5 rfl rfl rfl ?_
  refine k_getR (pc' := 11) fl_RX10_136 dX10_freshIn_8 rfl rfl rfl ?_
  refine k_iload_n (pc' := 12) dX10_freshIn_11 rfl rfl ?_
  refine k_iald (pc' := 13) dX10_freshIn_12 rfl rfl hv ?_
  refine k_aload_n (pc' := 14) dX10_freshIn_13 rfl rfl ?_
  refine k_getR (pc' := 17) fl_RX10_35 dX10_freshIn_14 rfl rfl rfl ?_
  refine k_getR (pc' := 20) fl_RX10_139 dX10_freshIn_17 rfl rfl rfl ?_
  refine k_iload_n (pc' := 21) dX10_freshIn_20 rfl rfl ?_
  refine k_iald (pc' := 22) dX10_freshIn_21 rfl rfl hv ?_
  refine k_callV2 (pc' := 25) dX10_freshIn_22 rfl ml_RX10_245 rfl rfl ⟨(Nat.le_of_ble_eq_true rfl), (Nat.le_of_ble_eq_true rfl)⟩ (Nat.le_of_ble_eq_true rfl) ev_X2_freshFrom (fun r_22 h_22 q_22 => ?_)
  obtain ⟨e_22, g_22⟩ := q_22
  rw [e_22, g_22]
  exact k_iret dX10_freshIn_25 rfl ⟨rfl, rfl⟩

set_option maxHeartbeats 400000 in
set_option maxRecDepth 100000 in
theorem ev_X10_fresh {g : Int32} {μ : kH} (hg : 0 ≤ (μ.1 11 2).toInt) (hg2 : (μ.1 11 2).toInt ≤ 12) : Ev kX10_fresh [kr 0, ki g] μ (fun r h' => r = ki (if (0 ≤ g ∧ g < μ.1 11 2) then (if 0 ≤ μ.1 13 g.toNatClampNeg ∧ μ.1 13 g.toNatClampNeg ≤ 24 then μ.1 12 g.toNatClampNeg * μ.1 2 (μ.1 13 g.toNatClampNeg).toNatClampNeg / 100 else 0) else -1) ∧ h' = μ) := by
  refine k_ev (ls := [_, _]) (by decide) (Nat.le_of_ble_eq_true rfl) rfl ?_
  refine k_aload_n (pc' := 1) dX10_fresh_0 rfl rfl ?_
  refine k_getR (pc' := 4) fl_RX10_35 dX10_fresh_1 rfl rfl rfl ?_
  refine k_iload_n (pc' := 5) dX10_fresh_4 rfl rfl ?_
  refine k_callV1 (pc' := 8) dX10_fresh_5 rfl ml_RX10_133 rfl rfl ⟨(Nat.le_of_ble_eq_true rfl), (Nat.le_of_ble_eq_true rfl)⟩ (Nat.le_of_ble_eq_true rfl) (ev_X1_has2 hg) (fun r_5 h_5 q_5 => ?_)
  obtain ⟨e_5, g_5⟩ := q_5
  rw [e_5, g_5]
  refine k_if_eq (pc' := 11) (tg := 19) dX10_fresh_8 rfl (by decide) (fun c_8 => ?_) (fun c_8 => ?_)
  · skip
    refine k_iconst (pc' := 20) (v := (-1)) dX10_fresh_19 rfl (by decide) ?_
    exact k_iret dX10_fresh_20 rfl (by (repeat' split) <;> first | exact ⟨rfl, rfl⟩ | (exfalso; (try simp only [eq_self, not_true_eq_false, not_false_eq_true, k_b0, k_b1, k_c0, k_cl, k_cg, k_cle, k_cge] at *) <;> (try simp only [eq_self, not_true_eq_false, not_false_eq_true, k_le, k_lt, k_eq, k_leL, k_ltL, k_eqL, k_il, li_m6, li_m5, li_m3, li_m2, li_m1, li_0, li_1, li_2, li_3, li_4, li_5, li_6, li_7, li_8, li_10, li_11, li_12, li_20, li_24, li_25, li_26, li_32, li_39, li_40, li_48, li_57, li_59, li_60, li_96, li_97, li_100, li_122, li_180, li_200, li_255, li_300, li_468, li_480, li_500, li_1000, li_2000, li_10000, li_10001, li_100000, li_1000000, li_100000000, lj_m1, lj_0, lj_1, lj_2, lj_3, lj_24, lj_39, lj_100, lj_500, lj_1000, lj_2000, lj_10000, lj_100000, lj_1000000, lj_100000000, lj_10, lj_20, lj_12, lj_32, lj_96] at *) <;> omega))
  · skip
    refine k_aload_n (pc' := 12) dX10_fresh_11 rfl rfl ?_
    refine k_iload_n (pc' := 13) dX10_fresh_12 rfl rfl ?_
    refine k_callV1 (pc' := 16) dX10_fresh_13 rfl ml_RX10_145 rfl rfl ⟨(Nat.le_of_ble_eq_true rfl), (Nat.le_of_ble_eq_true rfl)⟩ (Nat.le_of_ble_eq_true rfl) (ev_X10_freshIn (vp_in_iff.mpr (by (try simp only [eq_self, not_true_eq_false, not_false_eq_true, k_b0, k_b1, k_c0, k_cl, k_cg, k_cle, k_cge] at *) <;> (try simp only [eq_self, not_true_eq_false, not_false_eq_true, k_le, k_lt, k_eq, k_leL, k_ltL, k_eqL, k_il, li_m6, li_m5, li_m3, li_m2, li_m1, li_0, li_1, li_2, li_3, li_4, li_5, li_6, li_7, li_8, li_10, li_11, li_12, li_20, li_24, li_25, li_26, li_32, li_39, li_40, li_48, li_57, li_59, li_60, li_96, li_97, li_100, li_122, li_180, li_200, li_255, li_300, li_468, li_480, li_500, li_1000, li_2000, li_10000, li_10001, li_100000, li_1000000, li_100000000, lj_m1, lj_0, lj_1, lj_2, lj_3, lj_24, lj_39, lj_100, lj_500, lj_1000, lj_2000, lj_10000, lj_100000, lj_1000000, lj_100000000, lj_10, lj_20, lj_12, lj_32, lj_96] at *) <;> omega))) (fun r_13 h_13 q_13 => ?_)
    obtain ⟨e_13, g_13⟩ := q_13
    rw [e_13, g_13]
    refine k_goto (tg := 20) dX10_fresh_16 (by decide) ?_
    exact k_iret dX10_fresh_20 rfl (by (repeat' split) <;> first | exact ⟨rfl, rfl⟩ | (exfalso; (try simp only [eq_self, not_true_eq_false, not_false_eq_true, k_b0, k_b1, k_c0, k_cl, k_cg, k_cle, k_cge] at *) <;> (try simp only [eq_self, not_true_eq_false, not_false_eq_true, k_le, k_lt, k_eq, k_leL, k_ltL, k_eqL, k_il, li_m6, li_m5, li_m3, li_m2, li_m1, li_0, li_1, li_2, li_3, li_4, li_5, li_6, li_7, li_8, li_10, li_11, li_12, li_20, li_24, li_25, li_26, li_32, li_39, li_40, li_48, li_57, li_59, li_60, li_96, li_97, li_100, li_122, li_180, li_200, li_255, li_300, li_468, li_480, li_500, li_1000, li_2000, li_10000, li_10001, li_100000, li_1000000, li_100000000, lj_m1, lj_0, lj_1, lj_2, lj_3, lj_24, lj_39, lj_100, lj_500, lj_1000, lj_2000, lj_10000, lj_100000, lj_1000000, lj_100000000, lj_10, lj_20, lj_12, lj_32, lj_96] at *) <;> omega))

set_option maxHeartbeats 400000 in
set_option maxRecDepth 100000 in
theorem ev_X10_end {n : Int32} {μ : kH} : Ev kX10_end [kr 0, ki n] μ (fun r h' => if 0 ≤ n ∧ n ≤ μ.1 14 1 then r = ki n ∧ h' = hI μ 14 1 n else r = ki (-1) ∧ h' = μ) := by
  refine k_ev (ls := [_, _]) (by decide) (Nat.le_of_ble_eq_true rfl) rfl ?_
  refine k_iload_n (pc' := 1) dX10_end_0 rfl rfl ?_
  refine k_iconst (pc' := 2) (v := 0) dX10_end_1 rfl (by decide) ?_
  refine k_aload_n (pc' := 3) dX10_end_2 rfl rfl ?_
  refine k_getR (pc' := 6) fl_RX10_42 dX10_end_3 rfl rfl rfl ?_
  refine k_getI (pc' := 9) fl_RX10_173 dX10_end_6 rfl rfl rfl ?_
  refine k_callS3 (pc' := 12) dX10_end_9 rfl ml_RX10_85 ⟨(Nat.le_of_ble_eq_true rfl), (Nat.le_of_ble_eq_true rfl)⟩ (Nat.le_of_ble_eq_true rfl) ev_X10_within (fun r_9 h_9 q_9 => ?_)
  obtain ⟨e_9, g_9⟩ := q_9
  rw [e_9, g_9]
  refine k_if_ne (pc' := 15) (tg := 17) dX10_end_12 rfl (by decide) (fun c_12 => ?_) (fun c_12 => ?_)
  · skip
    refine k_aload_n (pc' := 18) dX10_end_17 rfl rfl ?_
    refine k_getR (pc' := 21) fl_RX10_42 dX10_end_18 rfl rfl rfl ?_
    refine k_iload_n (pc' := 22) dX10_end_21 rfl rfl ?_
    refine k_putI (pc' := 25) fw_RX10_173 dX10_end_22 rfl rfl rfl ?_
    refine k_iload_n (pc' := 26) dX10_end_25 rfl rfl ?_
    exact k_iret dX10_end_26 rfl (by (repeat' split) <;> first | exact ⟨rfl, rfl⟩ | (exfalso; (try simp only [eq_self, not_true_eq_false, not_false_eq_true, k_b0, k_b1, k_c0, k_cl, k_cg, k_cle, k_cge] at *) <;> (try simp only [eq_self, not_true_eq_false, not_false_eq_true, k_le, k_lt, k_eq, k_leL, k_ltL, k_eqL, k_il, li_m6, li_m5, li_m3, li_m2, li_m1, li_0, li_1, li_2, li_3, li_4, li_5, li_6, li_7, li_8, li_10, li_11, li_12, li_20, li_24, li_25, li_26, li_32, li_39, li_40, li_48, li_57, li_59, li_60, li_96, li_97, li_100, li_122, li_180, li_200, li_255, li_300, li_468, li_480, li_500, li_1000, li_2000, li_10000, li_10001, li_100000, li_1000000, li_100000000, lj_m1, lj_0, lj_1, lj_2, lj_3, lj_24, lj_39, lj_100, lj_500, lj_1000, lj_2000, lj_10000, lj_100000, lj_1000000, lj_100000000, lj_10, lj_20, lj_12, lj_32, lj_96] at *) <;> omega))
  · skip
    refine k_iconst (pc' := 16) (v := (-1)) dX10_end_15 rfl (by decide) ?_
    exact k_iret dX10_end_16 rfl (by (repeat' split) <;> first | exact ⟨rfl, rfl⟩ | (exfalso; (try simp only [eq_self, not_true_eq_false, not_false_eq_true, k_b0, k_b1, k_c0, k_cl, k_cg, k_cle, k_cge] at *) <;> (try simp only [eq_self, not_true_eq_false, not_false_eq_true, k_le, k_lt, k_eq, k_leL, k_ltL, k_eqL, k_il, li_m6, li_m5, li_m3, li_m2, li_m1, li_0, li_1, li_2, li_3, li_4, li_5, li_6, li_7, li_8, li_10, li_11, li_12, li_20, li_24, li_25, li_26, li_32, li_39, li_40, li_48, li_57, li_59, li_60, li_96, li_97, li_100, li_122, li_180, li_200, li_255, li_300, li_468, li_480, li_500, li_1000, li_2000, li_10000, li_10001, li_100000, li_1000000, li_100000000, lj_m1, lj_0, lj_1, lj_2, lj_3, lj_24, lj_39, lj_100, lj_500, lj_1000, lj_2000, lj_10000, lj_100000, lj_1000000, lj_100000000, lj_10, lj_20, lj_12, lj_32, lj_96] at *) <;> omega))

set_option maxHeartbeats 400000 in
set_option maxRecDepth 100000 in
theorem ev_X10_fault  {μ : kH} : Ev kX10_fault [kr 0] μ (fun r h' => r = ki (μ.1 21 1) ∧ h' = μ) := by
  refine k_ev (ls := [_]) (by decide) (Nat.le_of_ble_eq_true rfl) rfl ?_
  refine k_aload_n (pc' := 1) dX10_fault_0 rfl rfl ?_
  refine k_getR (pc' := 4) fl_RX10_58 dX10_fault_1 rfl rfl rfl ?_
  refine k_getI (pc' := 7) fl_RX10_187 dX10_fault_4 rfl rfl rfl ?_
  exact k_iret dX10_fault_7 rfl ⟨rfl, rfl⟩

set_option maxHeartbeats 400000 in
set_option maxRecDepth 100000 in
theorem ev_X10_status  {μ : kH} : Ev kX10_status [kr 0] μ (fun r h' => r = ki (μ.1 0 11) ∧ h' = μ) := by
  refine k_ev (ls := [_]) (by decide) (Nat.le_of_ble_eq_true rfl) rfl ?_
  refine k_aload_n (pc' := 1) dX10_status_0 rfl rfl ?_
  refine k_getI (pc' := 4) fl_RX10_242 dX10_status_1 rfl rfl rfl ?_
  exact k_iret dX10_status_4 rfl ⟨rfl, rfl⟩

set_option maxHeartbeats 400000 in
set_option maxRecDepth 100000 in
theorem ev_X10_at {s y k : Int32} {μ : kH} {N : Nat} (hN : N ≤ 300) (hsz : μ.1 3 4 = nI N) : Ev kX10_at [kr 0, ki s, ki y, ki k] μ (fun r h' => r = ki (if (0 ≤ s ∧ s ≤ 3) ∧ (0 ≤ y ∧ y ≤ 39) ∧ (0 ≤ k ∧ k ≤ 39) then (fKnown (μ.1 4) (μ.1 5) (μ.1 6) (μ.1 7) s y k N).1 else -1) ∧ h' = μ) := by
  refine k_ev (ls := [_, _, _, _]) (by decide) (Nat.le_of_ble_eq_true rfl) rfl ?_
  refine k_iload_n (pc' := 1) dX10_at_0 rfl rfl ?_
  refine k_callS1 (pc' := 4) dX10_at_1 rfl ml_RX10_100 ⟨(Nat.le_of_ble_eq_true rfl), (Nat.le_of_ble_eq_true rfl)⟩ (Nat.le_of_ble_eq_true rfl) ev_X10_isSort (fun r_1 h_1 q_1 => ?_)
  obtain ⟨e_1, g_1⟩ := q_1
  rw [e_1, g_1]
  refine k_if_eq (pc' := 7) (tg := 21) dX10_at_4 rfl (by decide) (fun c_4 => ?_) (fun c_4 => ?_)
  · skip
    refine k_iconst (pc' := 22) (v := (-1)) dX10_at_21 rfl (by decide) ?_
    exact k_iret dX10_at_22 rfl (by (repeat' split) <;> first | exact ⟨rfl, rfl⟩ | (exfalso; (try simp only [eq_self, not_true_eq_false, not_false_eq_true, k_b0, k_b1, k_c0, k_cl, k_cg, k_cle, k_cge] at *) <;> (try simp only [eq_self, not_true_eq_false, not_false_eq_true, k_le, k_lt, k_eq, k_leL, k_ltL, k_eqL, k_il, li_m6, li_m5, li_m3, li_m2, li_m1, li_0, li_1, li_2, li_3, li_4, li_5, li_6, li_7, li_8, li_10, li_11, li_12, li_20, li_24, li_25, li_26, li_32, li_39, li_40, li_48, li_57, li_59, li_60, li_96, li_97, li_100, li_122, li_180, li_200, li_255, li_300, li_468, li_480, li_500, li_1000, li_2000, li_10000, li_10001, li_100000, li_1000000, li_100000000, lj_m1, lj_0, lj_1, lj_2, lj_3, lj_24, lj_39, lj_100, lj_500, lj_1000, lj_2000, lj_10000, lj_100000, lj_1000000, lj_100000000, lj_10, lj_20, lj_12, lj_32, lj_96] at *) <;> omega))
  · skip
    refine k_iload_n (pc' := 8) dX10_at_7 rfl rfl ?_
    refine k_callS1 (pc' := 11) dX10_at_8 rfl ml_RX10_107 ⟨(Nat.le_of_ble_eq_true rfl), (Nat.le_of_ble_eq_true rfl)⟩ (Nat.le_of_ble_eq_true rfl) ev_X10_isYear (fun r_8 h_8 q_8 => ?_)
    obtain ⟨e_8, g_8⟩ := q_8
    rw [e_8, g_8]
    refine k_if_eq (pc' := 14) (tg := 21) dX10_at_11 rfl (by decide) (fun c_11 => ?_) (fun c_11 => ?_)
    · skip
      refine k_iconst (pc' := 22) (v := (-1)) dX10_at_21 rfl (by decide) ?_
      exact k_iret dX10_at_22 rfl (by (repeat' split) <;> first | exact ⟨rfl, rfl⟩ | (exfalso; (try simp only [eq_self, not_true_eq_false, not_false_eq_true, k_b0, k_b1, k_c0, k_cl, k_cg, k_cle, k_cge] at *) <;> (try simp only [eq_self, not_true_eq_false, not_false_eq_true, k_le, k_lt, k_eq, k_leL, k_ltL, k_eqL, k_il, li_m6, li_m5, li_m3, li_m2, li_m1, li_0, li_1, li_2, li_3, li_4, li_5, li_6, li_7, li_8, li_10, li_11, li_12, li_20, li_24, li_25, li_26, li_32, li_39, li_40, li_48, li_57, li_59, li_60, li_96, li_97, li_100, li_122, li_180, li_200, li_255, li_300, li_468, li_480, li_500, li_1000, li_2000, li_10000, li_10001, li_100000, li_1000000, li_100000000, lj_m1, lj_0, lj_1, lj_2, lj_3, lj_24, lj_39, lj_100, lj_500, lj_1000, lj_2000, lj_10000, lj_100000, lj_1000000, lj_100000000, lj_10, lj_20, lj_12, lj_32, lj_96] at *) <;> omega))
    · skip
      refine k_iload_n (pc' := 15) dX10_at_14 rfl rfl ?_
      refine k_callS1 (pc' := 18) dX10_at_15 rfl ml_RX10_107 ⟨(Nat.le_of_ble_eq_true rfl), (Nat.le_of_ble_eq_true rfl)⟩ (Nat.le_of_ble_eq_true rfl) ev_X10_isYear (fun r_15 h_15 q_15 => ?_)
      obtain ⟨e_15, g_15⟩ := q_15
      rw [e_15, g_15]
      refine k_if_ne (pc' := 21) (tg := 23) dX10_at_18 rfl (by decide) (fun c_18 => ?_) (fun c_18 => ?_)
      · skip
        refine k_aload_n (pc' := 24) dX10_at_23 rfl rfl ?_
        refine k_getR (pc' := 27) fl_RX10_19 dX10_at_24 rfl rfl rfl ?_
        refine k_iload_n (pc' := 28) dX10_at_27 rfl rfl ?_
        refine k_iload_n (pc' := 29) dX10_at_28 rfl rfl ?_
        refine k_iload_n (pc' := 30) dX10_at_29 rfl rfl ?_
        refine k_callV3 (pc' := 33) dX10_at_30 rfl ml_RX10_118 rfl rfl ⟨(Nat.le_of_ble_eq_true rfl), (Nat.le_of_ble_eq_true rfl)⟩ (Nat.le_of_ble_eq_true rfl) (ev_X6_asKnown hN hsz) (fun r_30 h_30 q_30 => ?_)
        obtain ⟨e_30, g_30⟩ := q_30
        rw [e_30, g_30]
        exact k_iret dX10_at_33 rfl (by (repeat' split) <;> first | exact ⟨rfl, rfl⟩ | (exfalso; (try simp only [eq_self, not_true_eq_false, not_false_eq_true, k_b0, k_b1, k_c0, k_cl, k_cg, k_cle, k_cge] at *) <;> (try simp only [eq_self, not_true_eq_false, not_false_eq_true, k_le, k_lt, k_eq, k_leL, k_ltL, k_eqL, k_il, li_m6, li_m5, li_m3, li_m2, li_m1, li_0, li_1, li_2, li_3, li_4, li_5, li_6, li_7, li_8, li_10, li_11, li_12, li_20, li_24, li_25, li_26, li_32, li_39, li_40, li_48, li_57, li_59, li_60, li_96, li_97, li_100, li_122, li_180, li_200, li_255, li_300, li_468, li_480, li_500, li_1000, li_2000, li_10000, li_10001, li_100000, li_1000000, li_100000000, lj_m1, lj_0, lj_1, lj_2, lj_3, lj_24, lj_39, lj_100, lj_500, lj_1000, lj_2000, lj_10000, lj_100000, lj_1000000, lj_100000000, lj_10, lj_20, lj_12, lj_32, lj_96] at *) <;> omega))
      · skip
        refine k_iconst (pc' := 22) (v := (-1)) dX10_at_21 rfl (by decide) ?_
        exact k_iret dX10_at_22 rfl (by (repeat' split) <;> first | exact ⟨rfl, rfl⟩ | (exfalso; (try simp only [eq_self, not_true_eq_false, not_false_eq_true, k_b0, k_b1, k_c0, k_cl, k_cg, k_cle, k_cge] at *) <;> (try simp only [eq_self, not_true_eq_false, not_false_eq_true, k_le, k_lt, k_eq, k_leL, k_ltL, k_eqL, k_il, li_m6, li_m5, li_m3, li_m2, li_m1, li_0, li_1, li_2, li_3, li_4, li_5, li_6, li_7, li_8, li_10, li_11, li_12, li_20, li_24, li_25, li_26, li_32, li_39, li_40, li_48, li_57, li_59, li_60, li_96, li_97, li_100, li_122, li_180, li_200, li_255, li_300, li_468, li_480, li_500, li_1000, li_2000, li_10000, li_10001, li_100000, li_1000000, li_100000000, lj_m1, lj_0, lj_1, lj_2, lj_3, lj_24, lj_39, lj_100, lj_500, lj_1000, lj_2000, lj_10000, lj_100000, lj_1000000, lj_100000000, lj_10, lj_20, lj_12, lj_32, lj_96] at *) <;> omega))

set_option maxHeartbeats 400000 in
set_option maxRecDepth 100000 in
theorem ev_X10_tithe {v a m : Int32} {μ : kH} {N : Nat} (hN : N ≤ 20) (hsz : μ.1 16 4 = nI N) : Ev kX10_tithe [kr 0, ki v, ki a, ki m] μ (fun r h' => r = kl (if (0 ≤ v ∧ v ≤ 2000) ∧ (0 ≤ a ∧ a ≤ 24) ∧ (0 ≤ m ∧ m ≤ 100000000) then (if v < (fT (μ.1 17) (μ.1 18) (μ.1 19) (μ.1 20) v a m N).2 then 0 else (fT (μ.1 17) (μ.1 18) (μ.1 19) (μ.1 20) v a m N).1) else -1) ∧ h' = μ) := by
  refine k_ev (ls := [_, _, _, _]) (by decide) (Nat.le_of_ble_eq_true rfl) rfl ?_
  refine k_iload_n (pc' := 1) dX10_tithe_0 rfl rfl ?_
  refine k_iconst (pc' := 2) (v := 0) dX10_tithe_1 rfl (by decide) ?_
  refine k_sipush (pc' := 5) (v := 2000) dX10_tithe_2 rfl (by decide) ?_
  refine k_callS3 (pc' := 8) dX10_tithe_5 rfl ml_RX10_85 ⟨(Nat.le_of_ble_eq_true rfl), (Nat.le_of_ble_eq_true rfl)⟩ (Nat.le_of_ble_eq_true rfl) ev_X10_within (fun r_5 h_5 q_5 => ?_)
  obtain ⟨e_5, g_5⟩ := q_5
  rw [e_5, g_5]
  refine k_if_eq (pc' := 11) (tg := 31) dX10_tithe_8 rfl (by decide) (fun c_8 => ?_) (fun c_8 => ?_)
  · skip
    refine k_ldc2 (pc' := 34) dX10_tithe_31 rfl kc_RX10_191 ?_
    exact k_lret dX10_tithe_34 rfl (by (repeat' split) <;> first | exact ⟨rfl, rfl⟩ | (exfalso; (try simp only [eq_self, not_true_eq_false, not_false_eq_true, k_b0, k_b1, k_c0, k_cl, k_cg, k_cle, k_cge] at *) <;> (try simp only [eq_self, not_true_eq_false, not_false_eq_true, k_le, k_lt, k_eq, k_leL, k_ltL, k_eqL, k_il, li_m6, li_m5, li_m3, li_m2, li_m1, li_0, li_1, li_2, li_3, li_4, li_5, li_6, li_7, li_8, li_10, li_11, li_12, li_20, li_24, li_25, li_26, li_32, li_39, li_40, li_48, li_57, li_59, li_60, li_96, li_97, li_100, li_122, li_180, li_200, li_255, li_300, li_468, li_480, li_500, li_1000, li_2000, li_10000, li_10001, li_100000, li_1000000, li_100000000, lj_m1, lj_0, lj_1, lj_2, lj_3, lj_24, lj_39, lj_100, lj_500, lj_1000, lj_2000, lj_10000, lj_100000, lj_1000000, lj_100000000, lj_10, lj_20, lj_12, lj_32, lj_96] at *) <;> omega))
  · skip
    refine k_iload_n (pc' := 12) dX10_tithe_11 rfl rfl ?_
    refine k_iconst (pc' := 13) (v := 0) dX10_tithe_12 rfl (by decide) ?_
    refine k_bipush (pc' := 15) (v := 24) dX10_tithe_13 rfl (by decide) ?_
    refine k_callS3 (pc' := 18) dX10_tithe_15 rfl ml_RX10_85 ⟨(Nat.le_of_ble_eq_true rfl), (Nat.le_of_ble_eq_true rfl)⟩ (Nat.le_of_ble_eq_true rfl) ev_X10_within (fun r_15 h_15 q_15 => ?_)
    obtain ⟨e_15, g_15⟩ := q_15
    rw [e_15, g_15]
    refine k_if_eq (pc' := 21) (tg := 31) dX10_tithe_18 rfl (by decide) (fun c_18 => ?_) (fun c_18 => ?_)
    · skip
      refine k_ldc2 (pc' := 34) dX10_tithe_31 rfl kc_RX10_191 ?_
      exact k_lret dX10_tithe_34 rfl (by (repeat' split) <;> first | exact ⟨rfl, rfl⟩ | (exfalso; (try simp only [eq_self, not_true_eq_false, not_false_eq_true, k_b0, k_b1, k_c0, k_cl, k_cg, k_cle, k_cge] at *) <;> (try simp only [eq_self, not_true_eq_false, not_false_eq_true, k_le, k_lt, k_eq, k_leL, k_ltL, k_eqL, k_il, li_m6, li_m5, li_m3, li_m2, li_m1, li_0, li_1, li_2, li_3, li_4, li_5, li_6, li_7, li_8, li_10, li_11, li_12, li_20, li_24, li_25, li_26, li_32, li_39, li_40, li_48, li_57, li_59, li_60, li_96, li_97, li_100, li_122, li_180, li_200, li_255, li_300, li_468, li_480, li_500, li_1000, li_2000, li_10000, li_10001, li_100000, li_1000000, li_100000000, lj_m1, lj_0, lj_1, lj_2, lj_3, lj_24, lj_39, lj_100, lj_500, lj_1000, lj_2000, lj_10000, lj_100000, lj_1000000, lj_100000000, lj_10, lj_20, lj_12, lj_32, lj_96] at *) <;> omega))
    · skip
      refine k_iload_n (pc' := 22) dX10_tithe_21 rfl rfl ?_
      refine k_iconst (pc' := 23) (v := 0) dX10_tithe_22 rfl (by decide) ?_
      refine k_ldc (pc' := 25) dX10_tithe_23 rfl kc_RX10_190 ?_
      refine k_callS3 (pc' := 28) dX10_tithe_25 rfl ml_RX10_85 ⟨(Nat.le_of_ble_eq_true rfl), (Nat.le_of_ble_eq_true rfl)⟩ (Nat.le_of_ble_eq_true rfl) ev_X10_within (fun r_25 h_25 q_25 => ?_)
      obtain ⟨e_25, g_25⟩ := q_25
      rw [e_25, g_25]
      refine k_if_ne (pc' := 31) (tg := 35) dX10_tithe_28 rfl (by decide) (fun c_28 => ?_) (fun c_28 => ?_)
      · skip
        refine k_aload_n (pc' := 36) dX10_tithe_35 rfl rfl ?_
        refine k_getR (pc' := 39) fl_RX10_49 dX10_tithe_36 rfl rfl rfl ?_
        refine k_iload_n (pc' := 40) dX10_tithe_39 rfl rfl ?_
        refine k_iload_n (pc' := 41) dX10_tithe_40 rfl rfl ?_
        refine k_iload_n (pc' := 42) dX10_tithe_41 rfl rfl ?_
        refine k_callV3 (pc' := 45) dX10_tithe_42 rfl ml_RX10_193 rfl rfl ⟨(Nat.le_of_ble_eq_true rfl), (Nat.le_of_ble_eq_true rfl)⟩ (Nat.le_of_ble_eq_true rfl) (ev_X9_dueFrom hN hsz) (fun r_42 h_42 q_42 => ?_)
        obtain ⟨e_42, g_42⟩ := q_42
        rw [e_42, g_42]
        exact k_lret dX10_tithe_45 rfl (by (repeat' split) <;> first | exact ⟨rfl, rfl⟩ | (exfalso; (try simp only [eq_self, not_true_eq_false, not_false_eq_true, k_b0, k_b1, k_c0, k_cl, k_cg, k_cle, k_cge] at *) <;> (try simp only [eq_self, not_true_eq_false, not_false_eq_true, k_le, k_lt, k_eq, k_leL, k_ltL, k_eqL, k_il, li_m6, li_m5, li_m3, li_m2, li_m1, li_0, li_1, li_2, li_3, li_4, li_5, li_6, li_7, li_8, li_10, li_11, li_12, li_20, li_24, li_25, li_26, li_32, li_39, li_40, li_48, li_57, li_59, li_60, li_96, li_97, li_100, li_122, li_180, li_200, li_255, li_300, li_468, li_480, li_500, li_1000, li_2000, li_10000, li_10001, li_100000, li_1000000, li_100000000, lj_m1, lj_0, lj_1, lj_2, lj_3, lj_24, lj_39, lj_100, lj_500, lj_1000, lj_2000, lj_10000, lj_100000, lj_1000000, lj_100000000, lj_10, lj_20, lj_12, lj_32, lj_96] at *) <;> omega))
      · skip
        refine k_ldc2 (pc' := 34) dX10_tithe_31 rfl kc_RX10_191 ?_
        exact k_lret dX10_tithe_34 rfl (by (repeat' split) <;> first | exact ⟨rfl, rfl⟩ | (exfalso; (try simp only [eq_self, not_true_eq_false, not_false_eq_true, k_b0, k_b1, k_c0, k_cl, k_cg, k_cle, k_cge] at *) <;> (try simp only [eq_self, not_true_eq_false, not_false_eq_true, k_le, k_lt, k_eq, k_leL, k_ltL, k_eqL, k_il, li_m6, li_m5, li_m3, li_m2, li_m1, li_0, li_1, li_2, li_3, li_4, li_5, li_6, li_7, li_8, li_10, li_11, li_12, li_20, li_24, li_25, li_26, li_32, li_39, li_40, li_48, li_57, li_59, li_60, li_96, li_97, li_100, li_122, li_180, li_200, li_255, li_300, li_468, li_480, li_500, li_1000, li_2000, li_10000, li_10001, li_100000, li_1000000, li_100000000, lj_m1, lj_0, lj_1, lj_2, lj_3, lj_24, lj_39, lj_100, lj_500, lj_1000, lj_2000, lj_10000, lj_100000, lj_1000000, lj_100000000, lj_10, lj_20, lj_12, lj_32, lj_96] at *) <;> omega))

set_option maxHeartbeats 400000 in
set_option maxRecDepth 100000 in
theorem ev_X10_planned {i : Int32} {μ : kH} (hy : -1 ≤ (μ.1 30 1).toInt) (hy2 : (μ.1 30 1).toInt ≤ 20) : Ev kX10_planned [kr 0, ki i] μ (fun r h' => r = ki (if i = -1 then μ.1 30 1 else if 0 ≤ i ∧ i < μ.1 30 1 then μ.1 31 i.toNatClampNeg else -1) ∧ h' = μ) := by
  have ey : (μ.1 30 1 - 1).toInt = (μ.1 30 1).toInt - 1 := by rw [k_sub (by rw [li_1]; omega), li_1]
  refine k_ev (ls := [_, _]) (by decide) (Nat.le_of_ble_eq_true rfl) rfl ?_
  refine k_iload_n (pc' := 1) dX10_planned_0 rfl rfl ?_
  refine k_iconst (pc' := 2) (v := (-1)) dX10_planned_1 rfl (by decide) ?_
  refine k_icmp_ne (pc' := 5) (tg := 13) dX10_planned_2 rfl (by decide) (fun c_2 => ?_) (fun c_2 => ?_)
  · skip
    refine k_iload_n (pc' := 14) dX10_planned_13 rfl rfl ?_
    refine k_iconst (pc' := 15) (v := 0) dX10_planned_14 rfl (by decide) ?_
    refine k_aload_n (pc' := 16) dX10_planned_15 rfl rfl ?_
    refine k_getR (pc' := 19) fl_RX10_67 dX10_planned_16 rfl rfl rfl ?_
    refine k_getI (pc' := 22) fl_RX10_206 dX10_planned_19 rfl rfl rfl ?_
    refine k_iconst (pc' := 23) (v := 1) dX10_planned_22 rfl (by decide) ?_
    refine k_isub (pc' := 24) dX10_planned_23 rfl ?_
    refine k_callS3 (pc' := 27) dX10_planned_24 rfl ml_RX10_85 ⟨(Nat.le_of_ble_eq_true rfl), (Nat.le_of_ble_eq_true rfl)⟩ (Nat.le_of_ble_eq_true rfl) ev_X10_within (fun r_24 h_24 q_24 => ?_)
    obtain ⟨e_24, g_24⟩ := q_24
    rw [e_24, g_24]
    refine k_if_eq (pc' := 30) (tg := 42) dX10_planned_27 rfl (by decide) (fun c_27 => ?_) (fun c_27 => ?_)
    · skip
      refine k_iconst (pc' := 43) (v := (-1)) dX10_planned_42 rfl (by decide) ?_
      exact k_iret dX10_planned_43 rfl (by (repeat' split) <;> first | exact ⟨rfl, rfl⟩ | (exfalso; (try simp only [eq_self, not_true_eq_false, not_false_eq_true, k_b0, k_b1, k_c0, k_cl, k_cg, k_cle, k_cge] at *) <;> (try simp only [ey, eq_self, not_true_eq_false, not_false_eq_true, k_le, k_lt, k_eq, k_leL, k_ltL, k_eqL, k_il, li_m6, li_m5, li_m3, li_m2, li_m1, li_0, li_1, li_2, li_3, li_4, li_5, li_6, li_7, li_8, li_10, li_11, li_12, li_20, li_24, li_25, li_26, li_32, li_39, li_40, li_48, li_57, li_59, li_60, li_96, li_97, li_100, li_122, li_180, li_200, li_255, li_300, li_468, li_480, li_500, li_1000, li_2000, li_10000, li_10001, li_100000, li_1000000, li_100000000, lj_m1, lj_0, lj_1, lj_2, lj_3, lj_24, lj_39, lj_100, lj_500, lj_1000, lj_2000, lj_10000, lj_100000, lj_1000000, lj_100000000, lj_10, lj_20, lj_12, lj_32, lj_96] at *) <;> omega))
    · skip
      refine k_aload_n (pc' := 31) dX10_planned_30 rfl rfl ?_
      refine k_getR (pc' := 34) fl_RX10_67 dX10_planned_31 rfl rfl rfl ?_
      refine k_getR (pc' := 37) fl_RX10_209 dX10_planned_34 rfl rfl rfl ?_
      refine k_iload_n (pc' := 38) dX10_planned_37 rfl rfl ?_
      refine k_iald (pc' := 39) dX10_planned_38 rfl rfl (vp_in_iff.mpr (by first | assumption | ((try simp only [eq_self, not_true_eq_false, not_false_eq_true, k_b0, k_b1, k_c0, k_cl, k_cg, k_cle, k_cge] at *) <;> (try simp only [eq_self, not_true_eq_false, not_false_eq_true, k_le, k_lt, k_eq, k_leL, k_ltL, k_eqL, k_il, li_m6, li_m5, li_m3, li_m2, li_m1, li_0, li_1, li_2, li_3, li_4, li_5, li_6, li_7, li_8, li_10, li_11, li_12, li_20, li_24, li_25, li_26, li_32, li_39, li_40, li_48, li_57, li_59, li_60, li_96, li_97, li_100, li_122, li_180, li_200, li_255, li_300, li_468, li_480, li_500, li_1000, li_2000, li_10000, li_10001, li_100000, li_1000000, li_100000000, lj_m1, lj_0, lj_1, lj_2, lj_3, lj_24, lj_39, lj_100, lj_500, lj_1000, lj_2000, lj_10000, lj_100000, lj_1000000, lj_100000000, lj_10, lj_20, lj_12, lj_32, lj_96] at *) <;> omega))) ?_
      refine k_goto (tg := 43) dX10_planned_39 (by decide) ?_
      exact k_iret dX10_planned_43 rfl (by (repeat' split) <;> first | exact ⟨rfl, rfl⟩ | (exfalso; (try simp only [eq_self, not_true_eq_false, not_false_eq_true, k_b0, k_b1, k_c0, k_cl, k_cg, k_cle, k_cge] at *) <;> (try simp only [ey, eq_self, not_true_eq_false, not_false_eq_true, k_le, k_lt, k_eq, k_leL, k_ltL, k_eqL, k_il, li_m6, li_m5, li_m3, li_m2, li_m1, li_0, li_1, li_2, li_3, li_4, li_5, li_6, li_7, li_8, li_10, li_11, li_12, li_20, li_24, li_25, li_26, li_32, li_39, li_40, li_48, li_57, li_59, li_60, li_96, li_97, li_100, li_122, li_180, li_200, li_255, li_300, li_468, li_480, li_500, li_1000, li_2000, li_10000, li_10001, li_100000, li_1000000, li_100000000, lj_m1, lj_0, lj_1, lj_2, lj_3, lj_24, lj_39, lj_100, lj_500, lj_1000, lj_2000, lj_10000, lj_100000, lj_1000000, lj_100000000, lj_10, lj_20, lj_12, lj_32, lj_96] at *) <;> omega))
  · skip
    refine k_aload_n (pc' := 6) dX10_planned_5 rfl rfl ?_
    refine k_getR (pc' := 9) fl_RX10_67 dX10_planned_6 rfl rfl rfl ?_
    refine k_getI (pc' := 12) fl_RX10_206 dX10_planned_9 rfl rfl rfl ?_
    exact k_iret dX10_planned_12 rfl (by (repeat' split) <;> first | exact ⟨rfl, rfl⟩ | (exfalso; (try simp only [eq_self, not_true_eq_false, not_false_eq_true, k_b0, k_b1, k_c0, k_cl, k_cg, k_cle, k_cge] at *) <;> (try simp only [ey, eq_self, not_true_eq_false, not_false_eq_true, k_le, k_lt, k_eq, k_leL, k_ltL, k_eqL, k_il, li_m6, li_m5, li_m3, li_m2, li_m1, li_0, li_1, li_2, li_3, li_4, li_5, li_6, li_7, li_8, li_10, li_11, li_12, li_20, li_24, li_25, li_26, li_32, li_39, li_40, li_48, li_57, li_59, li_60, li_96, li_97, li_100, li_122, li_180, li_200, li_255, li_300, li_468, li_480, li_500, li_1000, li_2000, li_10000, li_10001, li_100000, li_1000000, li_100000000, lj_m1, lj_0, lj_1, lj_2, lj_3, lj_24, lj_39, lj_100, lj_500, lj_1000, lj_2000, lj_10000, lj_100000, lj_1000000, lj_100000000, lj_10, lj_20, lj_12, lj_32, lj_96] at *) <;> omega))

set_option maxHeartbeats 400000 in
set_option maxRecDepth 100000 in
theorem ev_X10_stock {s g : Int32} {μ : kH} (hg : 0 ≤ (μ.1 11 2).toInt) (hg2 : (μ.1 11 2).toInt ≤ 12) {N : Nat} (hN : N ≤ 468) (hsz : μ.1 36 3 = nI N) : Ev kX10_stock [kr 0, ki s, ki g] μ (fun r h' => r = ki (if (0 ≤ s ∧ s ≤ 3) ∧ (g = -1 ∨ (0 ≤ g ∧ g < μ.1 11 2)) then fStock (μ.1 37) (μ.1 38) (μ.1 39) s g N else -1) ∧ h' = μ) := by
  refine k_ev (ls := [_, _, _]) (by decide) (Nat.le_of_ble_eq_true rfl) rfl ?_
  refine k_iload_n (pc' := 1) dX10_stock_0 rfl rfl ?_
  refine k_callS1 (pc' := 4) dX10_stock_1 rfl ml_RX10_100 ⟨(Nat.le_of_ble_eq_true rfl), (Nat.le_of_ble_eq_true rfl)⟩ (Nat.le_of_ble_eq_true rfl) ev_X10_isSort (fun r_1 h_1 q_1 => ?_)
  obtain ⟨e_1, g_1⟩ := q_1
  rw [e_1, g_1]
  refine k_if_eq (pc' := 7) (tg := 23) dX10_stock_4 rfl (by decide) (fun c_4 => ?_) (fun c_4 => ?_)
  · skip
    refine k_iconst (pc' := 24) (v := (-1)) dX10_stock_23 rfl (by decide) ?_
    exact k_iret dX10_stock_24 rfl (by (repeat' split) <;> first | exact ⟨rfl, rfl⟩ | (exfalso; (try simp only [eq_self, not_true_eq_false, not_false_eq_true, k_b0, k_b1, k_c0, k_cl, k_cg, k_cle, k_cge] at *) <;> (try simp only [eq_self, not_true_eq_false, not_false_eq_true, k_le, k_lt, k_eq, k_leL, k_ltL, k_eqL, k_il, li_m6, li_m5, li_m3, li_m2, li_m1, li_0, li_1, li_2, li_3, li_4, li_5, li_6, li_7, li_8, li_10, li_11, li_12, li_20, li_24, li_25, li_26, li_32, li_39, li_40, li_48, li_57, li_59, li_60, li_96, li_97, li_100, li_122, li_180, li_200, li_255, li_300, li_468, li_480, li_500, li_1000, li_2000, li_10000, li_10001, li_100000, li_1000000, li_100000000, lj_m1, lj_0, lj_1, lj_2, lj_3, lj_24, lj_39, lj_100, lj_500, lj_1000, lj_2000, lj_10000, lj_100000, lj_1000000, lj_100000000, lj_10, lj_20, lj_12, lj_32, lj_96] at *) <;> omega))
  · skip
    refine k_iload_n (pc' := 8) dX10_stock_7 rfl rfl ?_
    refine k_iconst (pc' := 9) (v := (-1)) dX10_stock_8 rfl (by decide) ?_
    refine k_icmp_eq (pc' := 12) (tg := 25) dX10_stock_9 rfl (by decide) (fun c_9 => ?_) (fun c_9 => ?_)
    · skip
      refine k_aload_n (pc' := 26) dX10_stock_25 rfl rfl ?_
      refine k_getR (pc' := 29) fl_RX10_74 dX10_stock_26 rfl rfl rfl ?_
      refine k_iload_n (pc' := 30) dX10_stock_29 rfl rfl ?_
      refine k_iload_n (pc' := 31) dX10_stock_30 rfl rfl ?_
      refine k_callV2 (pc' := 34) dX10_stock_31 rfl ml_RX10_215 rfl rfl ⟨(Nat.le_of_ble_eq_true rfl), (Nat.le_of_ble_eq_true rfl)⟩ (Nat.le_of_ble_eq_true rfl) (ev_X3_lying hN hsz) (fun r_31 h_31 q_31 => ?_)
      obtain ⟨e_31, g_31⟩ := q_31
      rw [e_31, g_31]
      exact k_iret dX10_stock_34 rfl (by (repeat' split) <;> first | exact ⟨rfl, rfl⟩ | (exfalso; (try simp only [eq_self, not_true_eq_false, not_false_eq_true, k_b0, k_b1, k_c0, k_cl, k_cg, k_cle, k_cge] at *) <;> (try simp only [eq_self, not_true_eq_false, not_false_eq_true, k_le, k_lt, k_eq, k_leL, k_ltL, k_eqL, k_il, li_m6, li_m5, li_m3, li_m2, li_m1, li_0, li_1, li_2, li_3, li_4, li_5, li_6, li_7, li_8, li_10, li_11, li_12, li_20, li_24, li_25, li_26, li_32, li_39, li_40, li_48, li_57, li_59, li_60, li_96, li_97, li_100, li_122, li_180, li_200, li_255, li_300, li_468, li_480, li_500, li_1000, li_2000, li_10000, li_10001, li_100000, li_1000000, li_100000000, lj_m1, lj_0, lj_1, lj_2, lj_3, lj_24, lj_39, lj_100, lj_500, lj_1000, lj_2000, lj_10000, lj_100000, lj_1000000, lj_100000000, lj_10, lj_20, lj_12, lj_32, lj_96] at *) <;> omega))
    · skip
      refine k_aload_n (pc' := 13) dX10_stock_12 rfl rfl ?_
      refine k_getR (pc' := 16) fl_RX10_35 dX10_stock_13 rfl rfl rfl ?_
      refine k_iload_n (pc' := 17) dX10_stock_16 rfl rfl ?_
      refine k_callV1 (pc' := 20) dX10_stock_17 rfl ml_RX10_133 rfl rfl ⟨(Nat.le_of_ble_eq_true rfl), (Nat.le_of_ble_eq_true rfl)⟩ (Nat.le_of_ble_eq_true rfl) (ev_X1_has2 hg) (fun r_17 h_17 q_17 => ?_)
      obtain ⟨e_17, g_17⟩ := q_17
      rw [e_17, g_17]
      refine k_if_ne (pc' := 23) (tg := 25) dX10_stock_20 rfl (by decide) (fun c_20 => ?_) (fun c_20 => ?_)
      · skip
        refine k_aload_n (pc' := 26) dX10_stock_25 rfl rfl ?_
        refine k_getR (pc' := 29) fl_RX10_74 dX10_stock_26 rfl rfl rfl ?_
        refine k_iload_n (pc' := 30) dX10_stock_29 rfl rfl ?_
        refine k_iload_n (pc' := 31) dX10_stock_30 rfl rfl ?_
        refine k_callV2 (pc' := 34) dX10_stock_31 rfl ml_RX10_215 rfl rfl ⟨(Nat.le_of_ble_eq_true rfl), (Nat.le_of_ble_eq_true rfl)⟩ (Nat.le_of_ble_eq_true rfl) (ev_X3_lying hN hsz) (fun r_31 h_31 q_31 => ?_)
        obtain ⟨e_31, g_31⟩ := q_31
        rw [e_31, g_31]
        exact k_iret dX10_stock_34 rfl (by (repeat' split) <;> first | exact ⟨rfl, rfl⟩ | (exfalso; (try simp only [eq_self, not_true_eq_false, not_false_eq_true, k_b0, k_b1, k_c0, k_cl, k_cg, k_cle, k_cge] at *) <;> (try simp only [eq_self, not_true_eq_false, not_false_eq_true, k_le, k_lt, k_eq, k_leL, k_ltL, k_eqL, k_il, li_m6, li_m5, li_m3, li_m2, li_m1, li_0, li_1, li_2, li_3, li_4, li_5, li_6, li_7, li_8, li_10, li_11, li_12, li_20, li_24, li_25, li_26, li_32, li_39, li_40, li_48, li_57, li_59, li_60, li_96, li_97, li_100, li_122, li_180, li_200, li_255, li_300, li_468, li_480, li_500, li_1000, li_2000, li_10000, li_10001, li_100000, li_1000000, li_100000000, lj_m1, lj_0, lj_1, lj_2, lj_3, lj_24, lj_39, lj_100, lj_500, lj_1000, lj_2000, lj_10000, lj_100000, lj_1000000, lj_100000000, lj_10, lj_20, lj_12, lj_32, lj_96] at *) <;> omega))
      · skip
        refine k_iconst (pc' := 24) (v := (-1)) dX10_stock_23 rfl (by decide) ?_
        exact k_iret dX10_stock_24 rfl (by (repeat' split) <;> first | exact ⟨rfl, rfl⟩ | (exfalso; (try simp only [eq_self, not_true_eq_false, not_false_eq_true, k_b0, k_b1, k_c0, k_cl, k_cg, k_cle, k_cge] at *) <;> (try simp only [eq_self, not_true_eq_false, not_false_eq_true, k_le, k_lt, k_eq, k_leL, k_ltL, k_eqL, k_il, li_m6, li_m5, li_m3, li_m2, li_m1, li_0, li_1, li_2, li_3, li_4, li_5, li_6, li_7, li_8, li_10, li_11, li_12, li_20, li_24, li_25, li_26, li_32, li_39, li_40, li_48, li_57, li_59, li_60, li_96, li_97, li_100, li_122, li_180, li_200, li_255, li_300, li_468, li_480, li_500, li_1000, li_2000, li_10000, li_10001, li_100000, li_1000000, li_100000000, lj_m1, lj_0, lj_1, lj_2, lj_3, lj_24, lj_39, lj_100, lj_500, lj_1000, lj_2000, lj_10000, lj_100000, lj_1000000, lj_100000000, lj_10, lj_20, lj_12, lj_32, lj_96] at *) <;> omega))

set_option maxHeartbeats 400000 in
set_option maxRecDepth 100000 in
theorem ev_X10_advance {s p d q k : Int32} {μ : kH} (ha : 0 ≤ (μ.1 40 5).toInt) : Ev kX10_advance [kr 0, ki s, ki p, ki d, ki q, ki k] μ (fun r h' => if ¬ ((0 ≤ s ∧ s ≤ 3) ∧ (1 ≤ p ∧ p ≤ 10000) ∧ (0 ≤ d ∧ d ≤ 39) ∧ (0 ≤ q ∧ q ≤ 1000000) ∧ (0 ≤ k ∧ k ≤ 39)) then r = ki (-1) ∧ h' = hI μ 0 11 (-1) else if 60 ≤ μ.1 40 5 then r = ki (-5) ∧ h' = hI μ 0 11 (-5) else r = ki (μ.1 40 5) ∧ h' = hI (hI (hI (hI (hI (hI μ 41 (μ.1 40 5).toNatClampNeg s) 42 (μ.1 40 5).toNatClampNeg p) 43 (μ.1 40 5).toNatClampNeg d) 44 (μ.1 40 5).toNatClampNeg k) 40 5 (μ.1 40 5 + 1)) 0 11 0) := by
  refine k_ev (ls := [_, _, _, _, _, _]) (by decide) (Nat.le_of_ble_eq_true rfl) rfl ?_
  refine k_iload_n (pc' := 1) dX10_advance_0 rfl rfl ?_
  refine k_callS1 (pc' := 4) dX10_advance_1 rfl ml_RX10_100 ⟨(Nat.le_of_ble_eq_true rfl), (Nat.le_of_ble_eq_true rfl)⟩ (Nat.le_of_ble_eq_true rfl) ev_X10_isSort (fun r_1 h_1 q_1 => ?_)
  obtain ⟨e_1, g_1⟩ := q_1
  rw [e_1, g_1]
  refine k_if_eq (pc' := 7) (tg := 44) dX10_advance_4 rfl (by decide) (fun c_4 => ?_) (fun c_4 => ?_)
  · skip
    refine k_aload_n (pc' := 45) dX10_advance_44 rfl rfl ?_
    refine k_iconst (pc' := 46) (v := (-1)) dX10_advance_45 rfl (by decide) ?_
    refine k_callV1 (pc' := 49) dX10_advance_46 rfl ml_RX10_89 rfl rfl ⟨(Nat.le_of_ble_eq_true rfl), (Nat.le_of_ble_eq_true rfl)⟩ (Nat.le_of_ble_eq_true rfl) ev_X10_refused (fun r_46 h_46 q_46 => ?_)
    obtain ⟨e_46, g_46⟩ := q_46
    rw [e_46, g_46]
    exact k_iret dX10_advance_49 rfl (by (repeat' split) <;> first | exact ⟨rfl, rfl⟩ | (exfalso; (try simp only [eq_self, not_true_eq_false, not_false_eq_true, k_b0, k_b1, k_c0, k_cl, k_cg, k_cle, k_cge] at *) <;> (try simp only [eq_self, not_true_eq_false, not_false_eq_true, k_le, k_lt, k_eq, k_leL, k_ltL, k_eqL, k_il, li_m6, li_m5, li_m3, li_m2, li_m1, li_0, li_1, li_2, li_3, li_4, li_5, li_6, li_7, li_8, li_10, li_11, li_12, li_20, li_24, li_25, li_26, li_32, li_39, li_40, li_48, li_57, li_59, li_60, li_96, li_97, li_100, li_122, li_180, li_200, li_255, li_300, li_468, li_480, li_500, li_1000, li_2000, li_10000, li_10001, li_100000, li_1000000, li_100000000, lj_m1, lj_0, lj_1, lj_2, lj_3, lj_24, lj_39, lj_100, lj_500, lj_1000, lj_2000, lj_10000, lj_100000, lj_1000000, lj_100000000, lj_10, lj_20, lj_12, lj_32, lj_96] at *) <;> omega))
  · skip
    refine k_iload_n (pc' := 8) dX10_advance_7 rfl rfl ?_
    refine k_iconst (pc' := 9) (v := 1) dX10_advance_8 rfl (by decide) ?_
    refine k_sipush (pc' := 12) (v := 10000) dX10_advance_9 rfl (by decide) ?_
    refine k_callS3 (pc' := 15) dX10_advance_12 rfl ml_RX10_85 ⟨(Nat.le_of_ble_eq_true rfl), (Nat.le_of_ble_eq_true rfl)⟩ (Nat.le_of_ble_eq_true rfl) ev_X10_within (fun r_12 h_12 q_12 => ?_)
    obtain ⟨e_12, g_12⟩ := q_12
    rw [e_12, g_12]
    refine k_if_eq (pc' := 18) (tg := 44) dX10_advance_15 rfl (by decide) (fun c_15 => ?_) (fun c_15 => ?_)
    · skip
      refine k_aload_n (pc' := 45) dX10_advance_44 rfl rfl ?_
      refine k_iconst (pc' := 46) (v := (-1)) dX10_advance_45 rfl (by decide) ?_
      refine k_callV1 (pc' := 49) dX10_advance_46 rfl ml_RX10_89 rfl rfl ⟨(Nat.le_of_ble_eq_true rfl), (Nat.le_of_ble_eq_true rfl)⟩ (Nat.le_of_ble_eq_true rfl) ev_X10_refused (fun r_46 h_46 q_46 => ?_)
      obtain ⟨e_46, g_46⟩ := q_46
      rw [e_46, g_46]
      exact k_iret dX10_advance_49 rfl (by (repeat' split) <;> first | exact ⟨rfl, rfl⟩ | (exfalso; (try simp only [eq_self, not_true_eq_false, not_false_eq_true, k_b0, k_b1, k_c0, k_cl, k_cg, k_cle, k_cge] at *) <;> (try simp only [eq_self, not_true_eq_false, not_false_eq_true, k_le, k_lt, k_eq, k_leL, k_ltL, k_eqL, k_il, li_m6, li_m5, li_m3, li_m2, li_m1, li_0, li_1, li_2, li_3, li_4, li_5, li_6, li_7, li_8, li_10, li_11, li_12, li_20, li_24, li_25, li_26, li_32, li_39, li_40, li_48, li_57, li_59, li_60, li_96, li_97, li_100, li_122, li_180, li_200, li_255, li_300, li_468, li_480, li_500, li_1000, li_2000, li_10000, li_10001, li_100000, li_1000000, li_100000000, lj_m1, lj_0, lj_1, lj_2, lj_3, lj_24, lj_39, lj_100, lj_500, lj_1000, lj_2000, lj_10000, lj_100000, lj_1000000, lj_100000000, lj_10, lj_20, lj_12, lj_32, lj_96] at *) <;> omega))
    · skip
      refine k_iload_n (pc' := 19) dX10_advance_18 rfl rfl ?_
      refine k_callS1 (pc' := 22) dX10_advance_19 rfl ml_RX10_107 ⟨(Nat.le_of_ble_eq_true rfl), (Nat.le_of_ble_eq_true rfl)⟩ (Nat.le_of_ble_eq_true rfl) ev_X10_isYear (fun r_19 h_19 q_19 => ?_)
      obtain ⟨e_19, g_19⟩ := q_19
      rw [e_19, g_19]
      refine k_if_eq (pc' := 25) (tg := 44) dX10_advance_22 rfl (by decide) (fun c_22 => ?_) (fun c_22 => ?_)
      · skip
        refine k_aload_n (pc' := 45) dX10_advance_44 rfl rfl ?_
        refine k_iconst (pc' := 46) (v := (-1)) dX10_advance_45 rfl (by decide) ?_
        refine k_callV1 (pc' := 49) dX10_advance_46 rfl ml_RX10_89 rfl rfl ⟨(Nat.le_of_ble_eq_true rfl), (Nat.le_of_ble_eq_true rfl)⟩ (Nat.le_of_ble_eq_true rfl) ev_X10_refused (fun r_46 h_46 q_46 => ?_)
        obtain ⟨e_46, g_46⟩ := q_46
        rw [e_46, g_46]
        exact k_iret dX10_advance_49 rfl (by (repeat' split) <;> first | exact ⟨rfl, rfl⟩ | (exfalso; (try simp only [eq_self, not_true_eq_false, not_false_eq_true, k_b0, k_b1, k_c0, k_cl, k_cg, k_cle, k_cge] at *) <;> (try simp only [eq_self, not_true_eq_false, not_false_eq_true, k_le, k_lt, k_eq, k_leL, k_ltL, k_eqL, k_il, li_m6, li_m5, li_m3, li_m2, li_m1, li_0, li_1, li_2, li_3, li_4, li_5, li_6, li_7, li_8, li_10, li_11, li_12, li_20, li_24, li_25, li_26, li_32, li_39, li_40, li_48, li_57, li_59, li_60, li_96, li_97, li_100, li_122, li_180, li_200, li_255, li_300, li_468, li_480, li_500, li_1000, li_2000, li_10000, li_10001, li_100000, li_1000000, li_100000000, lj_m1, lj_0, lj_1, lj_2, lj_3, lj_24, lj_39, lj_100, lj_500, lj_1000, lj_2000, lj_10000, lj_100000, lj_1000000, lj_100000000, lj_10, lj_20, lj_12, lj_32, lj_96] at *) <;> omega))
      · skip
        refine k_iload (pc' := 27) dX10_advance_25 rfl rfl ?_
        refine k_iconst (pc' := 28) (v := 0) dX10_advance_27 rfl (by decide) ?_
        refine k_ldc (pc' := 30) dX10_advance_28 rfl kc_RX10_218 ?_
        refine k_callS3 (pc' := 33) dX10_advance_30 rfl ml_RX10_85 ⟨(Nat.le_of_ble_eq_true rfl), (Nat.le_of_ble_eq_true rfl)⟩ (Nat.le_of_ble_eq_true rfl) ev_X10_within (fun r_30 h_30 q_30 => ?_)
        obtain ⟨e_30, g_30⟩ := q_30
        rw [e_30, g_30]
        refine k_if_eq (pc' := 36) (tg := 44) dX10_advance_33 rfl (by decide) (fun c_33 => ?_) (fun c_33 => ?_)
        · skip
          refine k_aload_n (pc' := 45) dX10_advance_44 rfl rfl ?_
          refine k_iconst (pc' := 46) (v := (-1)) dX10_advance_45 rfl (by decide) ?_
          refine k_callV1 (pc' := 49) dX10_advance_46 rfl ml_RX10_89 rfl rfl ⟨(Nat.le_of_ble_eq_true rfl), (Nat.le_of_ble_eq_true rfl)⟩ (Nat.le_of_ble_eq_true rfl) ev_X10_refused (fun r_46 h_46 q_46 => ?_)
          obtain ⟨e_46, g_46⟩ := q_46
          rw [e_46, g_46]
          exact k_iret dX10_advance_49 rfl (by (repeat' split) <;> first | exact ⟨rfl, rfl⟩ | (exfalso; (try simp only [eq_self, not_true_eq_false, not_false_eq_true, k_b0, k_b1, k_c0, k_cl, k_cg, k_cle, k_cge] at *) <;> (try simp only [eq_self, not_true_eq_false, not_false_eq_true, k_le, k_lt, k_eq, k_leL, k_ltL, k_eqL, k_il, li_m6, li_m5, li_m3, li_m2, li_m1, li_0, li_1, li_2, li_3, li_4, li_5, li_6, li_7, li_8, li_10, li_11, li_12, li_20, li_24, li_25, li_26, li_32, li_39, li_40, li_48, li_57, li_59, li_60, li_96, li_97, li_100, li_122, li_180, li_200, li_255, li_300, li_468, li_480, li_500, li_1000, li_2000, li_10000, li_10001, li_100000, li_1000000, li_100000000, lj_m1, lj_0, lj_1, lj_2, lj_3, lj_24, lj_39, lj_100, lj_500, lj_1000, lj_2000, lj_10000, lj_100000, lj_1000000, lj_100000000, lj_10, lj_20, lj_12, lj_32, lj_96] at *) <;> omega))
        · skip
          refine k_iload (pc' := 38) dX10_advance_36 rfl rfl ?_
          refine k_callS1 (pc' := 41) dX10_advance_38 rfl ml_RX10_107 ⟨(Nat.le_of_ble_eq_true rfl), (Nat.le_of_ble_eq_true rfl)⟩ (Nat.le_of_ble_eq_true rfl) ev_X10_isYear (fun r_38 h_38 q_38 => ?_)
          obtain ⟨e_38, g_38⟩ := q_38
          rw [e_38, g_38]
          refine k_if_ne (pc' := 44) (tg := 50) dX10_advance_41 rfl (by decide) (fun c_41 => ?_) (fun c_41 => ?_)
          · skip
            refine k_aload_n (pc' := 51) dX10_advance_50 rfl rfl ?_
            refine k_getR (pc' := 54) fl_RX10_81 dX10_advance_51 rfl rfl rfl ?_
            refine k_getI (pc' := 57) fl_RX10_219 dX10_advance_54 rfl rfl rfl ?_
            refine k_bipush (pc' := 59) (v := 60) dX10_advance_57 rfl (by decide) ?_
            refine k_icmp_lt (pc' := 62) (tg := 69) dX10_advance_59 rfl (by decide) (fun c_59 => ?_) (fun c_59 => ?_)
            · skip
              refine k_aload_n (pc' := 70) dX10_advance_69 rfl rfl ?_
              refine k_aload_n (pc' := 71) dX10_advance_70 rfl rfl ?_
              refine k_getR (pc' := 74) fl_RX10_81 dX10_advance_71 rfl rfl rfl ?_
              refine k_iload_n (pc' := 75) dX10_advance_74 rfl rfl ?_
              refine k_iload_n (pc' := 76) dX10_advance_75 rfl rfl ?_
              refine k_iload_n (pc' := 77) dX10_advance_76 rfl rfl ?_
              refine k_iload (pc' := 79) dX10_advance_77 rfl rfl ?_
              refine k_callV4 (pc' := 82) dX10_advance_79 rfl ml_RX10_220 rfl rfl ⟨(Nat.le_of_ble_eq_true rfl), (Nat.le_of_ble_eq_true rfl)⟩ (Nat.le_of_ble_eq_true rfl) (ev_X0_take ha) (fun r_79 h_79 q_79 => ?_)
              rw [if_neg (by (try simp only [eq_self, not_true_eq_false, not_false_eq_true, k_b0, k_b1, k_c0, k_cl, k_cg, k_cle, k_cge] at *) <;> (try simp only [eq_self, not_true_eq_false, not_false_eq_true, k_le, k_lt, k_eq, k_leL, k_ltL, k_eqL, k_il, li_m6, li_m5, li_m3, li_m2, li_m1, li_0, li_1, li_2, li_3, li_4, li_5, li_6, li_7, li_8, li_10, li_11, li_12, li_20, li_24, li_25, li_26, li_32, li_39, li_40, li_48, li_57, li_59, li_60, li_96, li_97, li_100, li_122, li_180, li_200, li_255, li_300, li_468, li_480, li_500, li_1000, li_2000, li_10000, li_10001, li_100000, li_1000000, li_100000000, lj_m1, lj_0, lj_1, lj_2, lj_3, lj_24, lj_39, lj_100, lj_500, lj_1000, lj_2000, lj_10000, lj_100000, lj_1000000, lj_100000000, lj_10, lj_20, lj_12, lj_32, lj_96] at *) <;> omega)] at q_79
              obtain ⟨e_79, g_79⟩ := q_79
              rw [e_79, g_79]
              refine k_callV1 (pc' := 85) dX10_advance_82 rfl ml_RX10_97 rfl rfl ⟨(Nat.le_of_ble_eq_true rfl), (Nat.le_of_ble_eq_true rfl)⟩ (Nat.le_of_ble_eq_true rfl) ev_X10_done (fun r_82 h_82 q_82 => ?_)
              obtain ⟨e_82, g_82⟩ := q_82
              rw [e_82, g_82]
              exact k_iret dX10_advance_85 rfl (by (repeat' split) <;> first | exact ⟨rfl, rfl⟩ | (exfalso; (try simp only [eq_self, not_true_eq_false, not_false_eq_true, k_b0, k_b1, k_c0, k_cl, k_cg, k_cle, k_cge] at *) <;> (try simp only [eq_self, not_true_eq_false, not_false_eq_true, k_le, k_lt, k_eq, k_leL, k_ltL, k_eqL, k_il, li_m6, li_m5, li_m3, li_m2, li_m1, li_0, li_1, li_2, li_3, li_4, li_5, li_6, li_7, li_8, li_10, li_11, li_12, li_20, li_24, li_25, li_26, li_32, li_39, li_40, li_48, li_57, li_59, li_60, li_96, li_97, li_100, li_122, li_180, li_200, li_255, li_300, li_468, li_480, li_500, li_1000, li_2000, li_10000, li_10001, li_100000, li_1000000, li_100000000, lj_m1, lj_0, lj_1, lj_2, lj_3, lj_24, lj_39, lj_100, lj_500, lj_1000, lj_2000, lj_10000, lj_100000, lj_1000000, lj_100000000, lj_10, lj_20, lj_12, lj_32, lj_96] at *) <;> omega))
            · skip
              refine k_aload_n (pc' := 63) dX10_advance_62 rfl rfl ?_
              refine k_bipush (pc' := 65) (v := (-5)) dX10_advance_63 rfl (by decide) ?_
              refine k_callV1 (pc' := 68) dX10_advance_65 rfl ml_RX10_89 rfl rfl ⟨(Nat.le_of_ble_eq_true rfl), (Nat.le_of_ble_eq_true rfl)⟩ (Nat.le_of_ble_eq_true rfl) ev_X10_refused (fun r_65 h_65 q_65 => ?_)
              obtain ⟨e_65, g_65⟩ := q_65
              rw [e_65, g_65]
              exact k_iret dX10_advance_68 rfl (by (repeat' split) <;> first | exact ⟨rfl, rfl⟩ | (exfalso; (try simp only [eq_self, not_true_eq_false, not_false_eq_true, k_b0, k_b1, k_c0, k_cl, k_cg, k_cle, k_cge] at *) <;> (try simp only [eq_self, not_true_eq_false, not_false_eq_true, k_le, k_lt, k_eq, k_leL, k_ltL, k_eqL, k_il, li_m6, li_m5, li_m3, li_m2, li_m1, li_0, li_1, li_2, li_3, li_4, li_5, li_6, li_7, li_8, li_10, li_11, li_12, li_20, li_24, li_25, li_26, li_32, li_39, li_40, li_48, li_57, li_59, li_60, li_96, li_97, li_100, li_122, li_180, li_200, li_255, li_300, li_468, li_480, li_500, li_1000, li_2000, li_10000, li_10001, li_100000, li_1000000, li_100000000, lj_m1, lj_0, lj_1, lj_2, lj_3, lj_24, lj_39, lj_100, lj_500, lj_1000, lj_2000, lj_10000, lj_100000, lj_1000000, lj_100000000, lj_10, lj_20, lj_12, lj_32, lj_96] at *) <;> omega))
          · skip
            refine k_aload_n (pc' := 45) dX10_advance_44 rfl rfl ?_
            refine k_iconst (pc' := 46) (v := (-1)) dX10_advance_45 rfl (by decide) ?_
            refine k_callV1 (pc' := 49) dX10_advance_46 rfl ml_RX10_89 rfl rfl ⟨(Nat.le_of_ble_eq_true rfl), (Nat.le_of_ble_eq_true rfl)⟩ (Nat.le_of_ble_eq_true rfl) ev_X10_refused (fun r_46 h_46 q_46 => ?_)
            obtain ⟨e_46, g_46⟩ := q_46
            rw [e_46, g_46]
            exact k_iret dX10_advance_49 rfl (by (repeat' split) <;> first | exact ⟨rfl, rfl⟩ | (exfalso; (try simp only [eq_self, not_true_eq_false, not_false_eq_true, k_b0, k_b1, k_c0, k_cl, k_cg, k_cle, k_cge] at *) <;> (try simp only [eq_self, not_true_eq_false, not_false_eq_true, k_le, k_lt, k_eq, k_leL, k_ltL, k_eqL, k_il, li_m6, li_m5, li_m3, li_m2, li_m1, li_0, li_1, li_2, li_3, li_4, li_5, li_6, li_7, li_8, li_10, li_11, li_12, li_20, li_24, li_25, li_26, li_32, li_39, li_40, li_48, li_57, li_59, li_60, li_96, li_97, li_100, li_122, li_180, li_200, li_255, li_300, li_468, li_480, li_500, li_1000, li_2000, li_10000, li_10001, li_100000, li_1000000, li_100000000, lj_m1, lj_0, lj_1, lj_2, lj_3, lj_24, lj_39, lj_100, lj_500, lj_1000, lj_2000, lj_10000, lj_100000, lj_1000000, lj_100000000, lj_10, lj_20, lj_12, lj_32, lj_96] at *) <;> omega))

set_option maxHeartbeats 400000 in
set_option maxRecDepth 100000 in
theorem ev_X10_owed {s k : Int32} {μ : kH} {N : Nat} (hN : N ≤ 60) (hsz : μ.1 40 5 = nI N) : Ev kX10_owed [kr 0, ki s, ki k] μ (fun r h' => r = ki (if (0 ≤ s ∧ s ≤ 3) ∧ (0 ≤ k ∧ k ≤ 39) then fMiss (μ.1 41) (μ.1 44) (μ.1 43) (μ.1 42) s k N else -1) ∧ h' = μ) := by
  refine k_ev (ls := [_, _, _]) (by decide) (Nat.le_of_ble_eq_true rfl) rfl ?_
  refine k_iload_n (pc' := 1) dX10_owed_0 rfl rfl ?_
  refine k_callS1 (pc' := 4) dX10_owed_1 rfl ml_RX10_100 ⟨(Nat.le_of_ble_eq_true rfl), (Nat.le_of_ble_eq_true rfl)⟩ (Nat.le_of_ble_eq_true rfl) ev_X10_isSort (fun r_1 h_1 q_1 => ?_)
  obtain ⟨e_1, g_1⟩ := q_1
  rw [e_1, g_1]
  refine k_if_eq (pc' := 7) (tg := 14) dX10_owed_4 rfl (by decide) (fun c_4 => ?_) (fun c_4 => ?_)
  · skip
    refine k_iconst (pc' := 15) (v := (-1)) dX10_owed_14 rfl (by decide) ?_
    exact k_iret dX10_owed_15 rfl (by (repeat' split) <;> first | exact ⟨rfl, rfl⟩ | (exfalso; (try simp only [eq_self, not_true_eq_false, not_false_eq_true, k_b0, k_b1, k_c0, k_cl, k_cg, k_cle, k_cge] at *) <;> (try simp only [eq_self, not_true_eq_false, not_false_eq_true, k_le, k_lt, k_eq, k_leL, k_ltL, k_eqL, k_il, li_m6, li_m5, li_m3, li_m2, li_m1, li_0, li_1, li_2, li_3, li_4, li_5, li_6, li_7, li_8, li_10, li_11, li_12, li_20, li_24, li_25, li_26, li_32, li_39, li_40, li_48, li_57, li_59, li_60, li_96, li_97, li_100, li_122, li_180, li_200, li_255, li_300, li_468, li_480, li_500, li_1000, li_2000, li_10000, li_10001, li_100000, li_1000000, li_100000000, lj_m1, lj_0, lj_1, lj_2, lj_3, lj_24, lj_39, lj_100, lj_500, lj_1000, lj_2000, lj_10000, lj_100000, lj_1000000, lj_100000000, lj_10, lj_20, lj_12, lj_32, lj_96] at *) <;> omega))
  · skip
    refine k_iload_n (pc' := 8) dX10_owed_7 rfl rfl ?_
    refine k_callS1 (pc' := 11) dX10_owed_8 rfl ml_RX10_107 ⟨(Nat.le_of_ble_eq_true rfl), (Nat.le_of_ble_eq_true rfl)⟩ (Nat.le_of_ble_eq_true rfl) ev_X10_isYear (fun r_8 h_8 q_8 => ?_)
    obtain ⟨e_8, g_8⟩ := q_8
    rw [e_8, g_8]
    refine k_if_ne (pc' := 14) (tg := 16) dX10_owed_11 rfl (by decide) (fun c_11 => ?_) (fun c_11 => ?_)
    · skip
      refine k_aload_n (pc' := 17) dX10_owed_16 rfl rfl ?_
      refine k_getR (pc' := 20) fl_RX10_81 dX10_owed_17 rfl rfl rfl ?_
      refine k_iload_n (pc' := 21) dX10_owed_20 rfl rfl ?_
      refine k_iload_n (pc' := 22) dX10_owed_21 rfl rfl ?_
      refine k_callV2 (pc' := 25) dX10_owed_22 rfl ml_RX10_229 rfl rfl ⟨(Nat.le_of_ble_eq_true rfl), (Nat.le_of_ble_eq_true rfl)⟩ (Nat.le_of_ble_eq_true rfl) (ev_X0_missingBy hN hsz) (fun r_22 h_22 q_22 => ?_)
      obtain ⟨e_22, g_22⟩ := q_22
      rw [e_22, g_22]
      exact k_iret dX10_owed_25 rfl (by (repeat' split) <;> first | exact ⟨rfl, rfl⟩ | (exfalso; (try simp only [eq_self, not_true_eq_false, not_false_eq_true, k_b0, k_b1, k_c0, k_cl, k_cg, k_cle, k_cge] at *) <;> (try simp only [eq_self, not_true_eq_false, not_false_eq_true, k_le, k_lt, k_eq, k_leL, k_ltL, k_eqL, k_il, li_m6, li_m5, li_m3, li_m2, li_m1, li_0, li_1, li_2, li_3, li_4, li_5, li_6, li_7, li_8, li_10, li_11, li_12, li_20, li_24, li_25, li_26, li_32, li_39, li_40, li_48, li_57, li_59, li_60, li_96, li_97, li_100, li_122, li_180, li_200, li_255, li_300, li_468, li_480, li_500, li_1000, li_2000, li_10000, li_10001, li_100000, li_1000000, li_100000000, lj_m1, lj_0, lj_1, lj_2, lj_3, lj_24, lj_39, lj_100, lj_500, lj_1000, lj_2000, lj_10000, lj_100000, lj_1000000, lj_100000000, lj_10, lj_20, lj_12, lj_32, lj_96] at *) <;> omega))
    · skip
      refine k_iconst (pc' := 15) (v := (-1)) dX10_owed_14 rfl (by decide) ?_
      exact k_iret dX10_owed_15 rfl (by (repeat' split) <;> first | exact ⟨rfl, rfl⟩ | (exfalso; (try simp only [eq_self, not_true_eq_false, not_false_eq_true, k_b0, k_b1, k_c0, k_cl, k_cg, k_cle, k_cge] at *) <;> (try simp only [eq_self, not_true_eq_false, not_false_eq_true, k_le, k_lt, k_eq, k_leL, k_ltL, k_eqL, k_il, li_m6, li_m5, li_m3, li_m2, li_m1, li_0, li_1, li_2, li_3, li_4, li_5, li_6, li_7, li_8, li_10, li_11, li_12, li_20, li_24, li_25, li_26, li_32, li_39, li_40, li_48, li_57, li_59, li_60, li_96, li_97, li_100, li_122, li_180, li_200, li_255, li_300, li_468, li_480, li_500, li_1000, li_2000, li_10000, li_10001, li_100000, li_1000000, li_100000000, lj_m1, lj_0, lj_1, lj_2, lj_3, lj_24, lj_39, lj_100, lj_500, lj_1000, lj_2000, lj_10000, lj_100000, lj_1000000, lj_100000000, lj_10, lj_20, lj_12, lj_32, lj_96] at *) <;> omega))

set_option maxHeartbeats 400000 in
set_option maxRecDepth 100000 in
theorem ev_X10_count {w : Int32} {μ : kH} : Ev kX10_count [kr 0, ki w] μ (fun r h' => r = ki (if w = 0 then μ.1 0 10 else if w = 1 then μ.1 11 2 else if w = 2 then μ.1 3 4 else if w = 3 then μ.1 16 4 else if w = 4 then μ.1 36 3 else if w = 5 then μ.1 40 5 else if w = 6 then μ.1 14 1 else if w = 7 then μ.1 36 4 else if w = 8 then μ.1 40 6 else -1) ∧ h' = μ) := by
  refine k_ev (ls := [_, _]) (by decide) (Nat.le_of_ble_eq_true rfl) rfl ?_
  refine k_iload_n (pc' := 1) dX10_count_0 rfl rfl ?_
  refine k_topi (fun y_1 e_1 => ?_)
  by_cases s_1_0 : y_1 = 0
  · rw [s_1_0] at e_1
    rw [s_1_0]
    refine k_tableIn (tg := 52) (off := 51) dX10_count_1 (by decide) (by decide) (by decide) (by decide) ?_
    refine k_aload_n (pc' := 53) dX10_count_52 rfl rfl ?_
    refine k_getI (pc' := 56) fl_RX10_197 dX10_count_53 rfl rfl rfl ?_
    exact k_iret dX10_count_56 rfl (by first | exact ⟨by rw [← e_1]; rfl, rfl⟩ | exact ⟨by subst e_1; simp [*], rfl⟩)
  by_cases s_1_1 : y_1 = 1
  · rw [s_1_1] at e_1
    rw [s_1_1]
    refine k_tableIn (tg := 57) (off := 56) dX10_count_1 (by decide) (by decide) (by decide) (by decide) ?_
    refine k_aload_n (pc' := 58) dX10_count_57 rfl rfl ?_
    refine k_getR (pc' := 61) fl_RX10_35 dX10_count_58 rfl rfl rfl ?_
    refine k_getI (pc' := 64) fl_RX10_128 dX10_count_61 rfl rfl rfl ?_
    exact k_iret dX10_count_64 rfl (by first | exact ⟨by rw [← e_1]; rfl, rfl⟩ | exact ⟨by subst e_1; simp [*], rfl⟩)
  by_cases s_1_2 : y_1 = 2
  · rw [s_1_2] at e_1
    rw [s_1_2]
    refine k_tableIn (tg := 65) (off := 64) dX10_count_1 (by decide) (by decide) (by decide) (by decide) ?_
    refine k_aload_n (pc' := 66) dX10_count_65 rfl rfl ?_
    refine k_getR (pc' := 69) fl_RX10_19 dX10_count_66 rfl rfl rfl ?_
    refine k_getI (pc' := 72) fl_RX10_110 dX10_count_69 rfl rfl rfl ?_
    exact k_iret dX10_count_72 rfl (by first | exact ⟨by rw [← e_1]; rfl, rfl⟩ | exact ⟨by subst e_1; simp [*], rfl⟩)
  by_cases s_1_3 : y_1 = 3
  · rw [s_1_3] at e_1
    rw [s_1_3]
    refine k_tableIn (tg := 73) (off := 72) dX10_count_1 (by decide) (by decide) (by decide) (by decide) ?_
    refine k_aload_n (pc' := 74) dX10_count_73 rfl rfl ?_
    refine k_getR (pc' := 77) fl_RX10_49 dX10_count_74 rfl rfl rfl ?_
    refine k_getI (pc' := 80) fl_RX10_186 dX10_count_77 rfl rfl rfl ?_
    exact k_iret dX10_count_80 rfl (by first | exact ⟨by rw [← e_1]; rfl, rfl⟩ | exact ⟨by subst e_1; simp [*], rfl⟩)
  by_cases s_1_4 : y_1 = 4
  · rw [s_1_4] at e_1
    rw [s_1_4]
    refine k_tableIn (tg := 81) (off := 80) dX10_count_1 (by decide) (by decide) (by decide) (by decide) ?_
    refine k_aload_n (pc' := 82) dX10_count_81 rfl rfl ?_
    refine k_getR (pc' := 85) fl_RX10_74 dX10_count_82 rfl rfl rfl ?_
    refine k_getI (pc' := 88) fl_RX10_235 dX10_count_85 rfl rfl rfl ?_
    exact k_iret dX10_count_88 rfl (by first | exact ⟨by rw [← e_1]; rfl, rfl⟩ | exact ⟨by subst e_1; simp [*], rfl⟩)
  by_cases s_1_5 : y_1 = 5
  · rw [s_1_5] at e_1
    rw [s_1_5]
    refine k_tableIn (tg := 89) (off := 88) dX10_count_1 (by decide) (by decide) (by decide) (by decide) ?_
    refine k_aload_n (pc' := 90) dX10_count_89 rfl rfl ?_
    refine k_getR (pc' := 93) fl_RX10_81 dX10_count_90 rfl rfl rfl ?_
    refine k_getI (pc' := 96) fl_RX10_219 dX10_count_93 rfl rfl rfl ?_
    exact k_iret dX10_count_96 rfl (by first | exact ⟨by rw [← e_1]; rfl, rfl⟩ | exact ⟨by subst e_1; simp [*], rfl⟩)
  by_cases s_1_6 : y_1 = 6
  · rw [s_1_6] at e_1
    rw [s_1_6]
    refine k_tableIn (tg := 97) (off := 96) dX10_count_1 (by decide) (by decide) (by decide) (by decide) ?_
    refine k_aload_n (pc' := 98) dX10_count_97 rfl rfl ?_
    refine k_getR (pc' := 101) fl_RX10_42 dX10_count_98 rfl rfl rfl ?_
    refine k_getI (pc' := 104) fl_RX10_173 dX10_count_101 rfl rfl rfl ?_
    exact k_iret dX10_count_104 rfl (by first | exact ⟨by rw [← e_1]; rfl, rfl⟩ | exact ⟨by subst e_1; simp [*], rfl⟩)
  by_cases s_1_7 : y_1 = 7
  · rw [s_1_7] at e_1
    rw [s_1_7]
    refine k_tableIn (tg := 105) (off := 104) dX10_count_1 (by decide) (by decide) (by decide) (by decide) ?_
    refine k_aload_n (pc' := 106) dX10_count_105 rfl rfl ?_
    refine k_getR (pc' := 109) fl_RX10_74 dX10_count_106 rfl rfl rfl ?_
    refine k_getI (pc' := 112) fl_RX10_236 dX10_count_109 rfl rfl rfl ?_
    exact k_iret dX10_count_112 rfl (by first | exact ⟨by rw [← e_1]; rfl, rfl⟩ | exact ⟨by subst e_1; simp [*], rfl⟩)
  by_cases s_1_8 : y_1 = 8
  · rw [s_1_8] at e_1
    rw [s_1_8]
    refine k_tableIn (tg := 113) (off := 112) dX10_count_1 (by decide) (by decide) (by decide) (by decide) ?_
    refine k_aload_n (pc' := 114) dX10_count_113 rfl rfl ?_
    refine k_getR (pc' := 117) fl_RX10_81 dX10_count_114 rfl rfl rfl ?_
    refine k_getI (pc' := 120) fl_RX10_239 dX10_count_117 rfl rfl rfl ?_
    exact k_iret dX10_count_120 rfl (by first | exact ⟨by rw [← e_1]; rfl, rfl⟩ | exact ⟨by subst e_1; simp [*], rfl⟩)
  refine k_tableOut (tg := 121) dX10_count_1 (by simp only [eq_self, not_true_eq_false, not_false_eq_true, k_le, k_lt, k_eq, k_leL, k_ltL, k_eqL, k_il, li_m6, li_m5, li_m3, li_m2, li_m1, li_0, li_1, li_2, li_3, li_4, li_5, li_6, li_7, li_8, li_10, li_11, li_12, li_20, li_24, li_25, li_26, li_32, li_39, li_40, li_48, li_57, li_59, li_60, li_96, li_97, li_100, li_122, li_180, li_200, li_255, li_300, li_468, li_480, li_500, li_1000, li_2000, li_10000, li_10001, li_100000, li_1000000, li_100000000, lj_m1, lj_0, lj_1, lj_2, lj_3, lj_24, lj_39, lj_100, lj_500, lj_1000, lj_2000, lj_10000, lj_100000, lj_1000000, lj_100000000, lj_10, lj_20, lj_12, lj_32, lj_96] at *; omega) (by decide) ?_
  refine k_iconst (pc' := 122) (v := (-1)) dX10_count_121 rfl (by decide) ?_
  exact k_iret dX10_count_122 rfl (by first | exact ⟨by rw [← e_1]; rfl, rfl⟩ | exact ⟨by subst e_1; simp [*], rfl⟩)

