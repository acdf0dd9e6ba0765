theorem k_add {a b : Int32} (μ : -2147483648 ≤ a.toInt + b.toInt ∧ a.toInt + b.toInt < 2147483648) : (a + b).toInt = a.toInt + b.toInt := by
  rw [Int32.toInt_add]; exact Int.bmod_eq_of_le (by omega) (by omega)
theorem k_sub {a b : Int32} (μ : -2147483648 ≤ a.toInt - b.toInt ∧ a.toInt - b.toInt < 2147483648) : (a - b).toInt = a.toInt - b.toInt := by
  rw [Int32.toInt_sub]; exact Int.bmod_eq_of_le (by omega) (by omega)
theorem k_mul {a b : Int32} (μ : -2147483648 ≤ a.toInt * b.toInt ∧ a.toInt * b.toInt < 2147483648) : (a * b).toInt = a.toInt * b.toInt := by
  rw [Int32.toInt_mul]; exact Int.bmod_eq_of_le (by omega) (by omega)
theorem k_addL {a b : Int64} (μ : -9223372036854775808 ≤ a.toInt + b.toInt ∧ a.toInt + b.toInt < 9223372036854775808) : (a + b).toInt = a.toInt + b.toInt := by
  rw [Int64.toInt_add]; exact Int.bmod_eq_of_le (by omega) (by omega)
theorem k_subL {a b : Int64} (μ : -9223372036854775808 ≤ a.toInt - b.toInt ∧ a.toInt - b.toInt < 9223372036854775808) : (a - b).toInt = a.toInt - b.toInt := by
  rw [Int64.toInt_sub]; exact Int.bmod_eq_of_le (by omega) (by omega)
theorem k_mulL {a b : Int64} (μ : -9223372036854775808 ≤ a.toInt * b.toInt ∧ a.toInt * b.toInt < 9223372036854775808) : (a * b).toInt = a.toInt * b.toInt := by
  rw [Int64.toInt_mul]; exact Int.bmod_eq_of_le (by omega) (by omega)
theorem k_ub (a : Int32) : -2147483648 ≤ a.toInt ∧ a.toInt < 2147483648 := ⟨a.le_toInt, a.toInt_lt⟩
theorem k_s1 {a : Int32} (μ : 0 ≤ a.toInt) : (a - 1).toInt = a.toInt - 1 := by have := k_ub a; rw [k_sub (by rw [li_1]; omega), li_1]
theorem k_il1 (a : Int32) : (a.toInt64 - 1).toInt = a.toInt - 1 := by have := k_ub a; rw [k_subL (by rw [lj_1, k_il]; omega), lj_1, k_il]
theorem k_clamp {a : Int32} (μ : 0 ≤ a.toInt) : (a.toNatClampNeg : Int) = a.toInt := by rw [Int32.toNatClampNeg]; omega
def k_kind (b : Int32) : Int32 := if b = 32 then 0 else if 97 ≤ b ∧ b ≤ 122 then 1 else if 48 ≤ b ∧ b ≤ 57 then 2 else 3
def k_byte (μ : kH) (p : Int32) : Int32 := if 0 ≤ p ∧ p < μ.1 14 1 then μ.1 15 p.toNatClampNeg else -1
def k_next (n : Int32) : Int32 := (if n - 1 = -1 then -1 else if 24 < n - 1 + 1 then 24 else n - 1 + 1) + 1

set_option maxHeartbeats 4000000 in
set_option maxRecDepth 100000 in
theorem ev_X2_freshFrom {v a : Int32} {μ : kH} : Ev kX2_freshFrom [kr 1, ki v, ki a] μ (fun r h' => r = ki (if 0 ≤ a ∧ a ≤ 24 then v * μ.1 2 a.toNatClampNeg / 100 else 0) ∧ h' = μ) := by
  refine k_ev (ls := [_, _, _]) (by decide) (Nat.le_of_ble_eq_true rfl) rfl ?_
  refine k_iload_n dX2_freshFrom_0 rfl rfl ?_
  refine k_iconst (v := 0) dX2_freshFrom_1 rfl (by decide) ?_
  refine k_bipush (v := 24) dX2_freshFrom_2 rfl (by decide) ?_
  refine k_callS3 dX2_freshFrom_4 rfl ml_RX2_22 ⟨(Nat.le_of_ble_eq_true rfl), (Nat.le_of_ble_eq_true rfl)⟩ (Nat.le_of_ble_eq_true rfl) ev_X10_within (fun r_4 h_4 q_4 => ?_)
  obtain ⟨e_4, g_4⟩ := q_4
  rw [e_4, g_4]
  refine k_if_eq (tg := 24) dX2_freshFrom_7 rfl (by decide) (fun c_7 => ?_) (fun c_7 => ?_)
  · skip
    refine k_iconst (v := 0) dX2_freshFrom_24 rfl (by decide) ?_
    exact k_iret dX2_freshFrom_25 rfl (by (repeat' split) <;> first | exact ⟨rfl, rfl⟩ | (exfalso; (try simp only [eq_self, not_true_eq_false, not_false_eq_true, k_b0, k_b1, k_c0, k_cl, k_cg, k_cle, k_cge] at *) <;> (try simp only [eq_self, not_true_eq_false, not_false_eq_true, k_le, k_lt, k_eq, k_leL, k_ltL, k_eqL, k_il, li_m6, li_m5, li_m3, li_m2, li_m1, li_0, li_1, li_2, li_3, li_4, li_5, li_6, li_7, li_8, li_10, li_11, li_12, li_20, li_24, li_25, li_26, li_32, li_39, li_40, li_48, li_57, li_59, li_60, li_96, li_97, li_100, li_122, li_180, li_200, li_255, li_300, li_468, li_480, li_500, li_1000, li_2000, li_10000, li_10001, li_100000, li_1000000, li_100000000, lj_m1, lj_0, lj_1, lj_2, lj_3, lj_24, lj_39, lj_100, lj_500, lj_1000, lj_2000, lj_10000, lj_100000, lj_1000000, lj_100000000, lj_10, lj_20, lj_12, lj_32, lj_96] at *) <;> omega))
  · skip
    refine k_iload_n dX2_freshFrom_10 rfl rfl ?_
    refine k_aload_n dX2_freshFrom_11 rfl rfl ?_
    refine k_getR fl_RX2_9 dX2_freshFrom_12 rfl rfl rfl ?_
    refine k_iload_n dX2_freshFrom_15 rfl rfl ?_
    refine k_iald dX2_freshFrom_16 rfl rfl (vp_in_iff.mpr (by first | assumption | ((try simp only [eq_self, not_true_eq_false, not_false_eq_true, k_b0, k_b1, k_c0, k_cl, k_cg, k_cle, k_cge] at *) <;> (try simp only [eq_self, not_true_eq_false, not_false_eq_true, k_le, k_lt, k_eq, k_leL, k_ltL, k_eqL, k_il, li_m6, li_m5, li_m3, li_m2, li_m1, li_0, li_1, li_2, li_3, li_4, li_5, li_6, li_7, li_8, li_10, li_11, li_12, li_20, li_24, li_25, li_26, li_32, li_39, li_40, li_48, li_57, li_59, li_60, li_96, li_97, li_100, li_122, li_180, li_200, li_255, li_300, li_468, li_480, li_500, li_1000, li_2000, li_10000, li_10001, li_100000, li_1000000, li_100000000, lj_m1, lj_0, lj_1, lj_2, lj_3, lj_24, lj_39, lj_100, lj_500, lj_1000, lj_2000, lj_10000, lj_100000, lj_1000000, lj_100000000, lj_10, lj_20, lj_12, lj_32, lj_96] at *) <;> omega))) ?_
    refine k_imul dX2_freshFrom_17 rfl ?_
    refine k_bipush (v := 100) dX2_freshFrom_18 rfl (by decide) ?_
    refine k_idiv dX2_freshFrom_20 rfl (by first | decide | ((try simp only [eq_self, not_true_eq_false, not_false_eq_true, k_b0, k_b1, k_c0, k_cl, k_cg, k_cle, k_cge] at *) <;> (try simp only [eq_self, not_true_eq_false, not_false_eq_true, k_le, k_lt, k_eq, k_leL, k_ltL, k_eqL, k_il, li_m6, li_m5, li_m3, li_m2, li_m1, li_0, li_1, li_2, li_3, li_4, li_5, li_6, li_7, li_8, li_10, li_11, li_12, li_20, li_24, li_25, li_26, li_32, li_39, li_40, li_48, li_57, li_59, li_60, li_96, li_97, li_100, li_122, li_180, li_200, li_255, li_300, li_468, li_480, li_500, li_1000, li_2000, li_10000, li_10001, li_100000, li_1000000, li_100000000, lj_m1, lj_0, lj_1, lj_2, lj_3, lj_24, lj_39, lj_100, lj_500, lj_1000, lj_2000, lj_10000, lj_100000, lj_1000000, lj_100000000, lj_10, lj_20, lj_12, lj_32, lj_96] at *) <;> omega)) ?_
    refine k_goto (tg := 25) dX2_freshFrom_21 (by decide) ?_
    exact k_iret dX2_freshFrom_25 rfl (by (repeat' split) <;> first | exact ⟨rfl, rfl⟩ | (exfalso; (try simp only [eq_self, not_true_eq_false, not_false_eq_true, k_b0, k_b1, k_c0, k_cl, k_cg, k_cle, k_cge] at *) <;> (try simp only [eq_self, not_true_eq_false, not_false_eq_true, k_le, k_lt, k_eq, k_leL, k_ltL, k_eqL, k_il, li_m6, li_m5, li_m3, li_m2, li_m1, li_0, li_1, li_2, li_3, li_4, li_5, li_6, li_7, li_8, li_10, li_11, li_12, li_20, li_24, li_25, li_26, li_32, li_39, li_40, li_48, li_57, li_59, li_60, li_96, li_97, li_100, li_122, li_180, li_200, li_255, li_300, li_468, li_480, li_500, li_1000, li_2000, li_10000, li_10001, li_100000, li_1000000, li_100000000, lj_m1, lj_0, lj_1, lj_2, lj_3, lj_24, lj_39, lj_100, lj_500, lj_1000, lj_2000, lj_10000, lj_100000, lj_1000000, lj_100000000, lj_10, lj_20, lj_12, lj_32, lj_96] at *) <;> omega))

theorem ev_X1_has2 {n : Int32} {μ : kH} (hz : 0 ≤ (μ.1 11 2).toInt) : Ev kX1_has [kr 11, ki n] μ (fun r h' => r = ki (if 0 ≤ n ∧ n < μ.1 11 2 then 1 else 0) ∧ h' = μ) := k_evm ev_X1_has (fun r h' q => by
  obtain ⟨rfl, rfl⟩ := q
  have e := k_s1 hz
  refine ⟨?_, rfl⟩
  (repeat' split) <;> first | rfl | (exfalso; simp only [k_le, k_lt, e] at * <;> omega))
theorem ev_X0_has2 {n : Int32} {μ : kH} (hz : 0 ≤ (μ.1 40 5).toInt) : Ev kX0_has [kr 40, ki n] μ (fun r h' => r = ki (if 0 ≤ n ∧ n < μ.1 40 5 then 1 else 0) ∧ h' = μ) := k_evm ev_X0_has (fun r h' q => by
  obtain ⟨rfl, rfl⟩ := q
  have e := k_s1 hz
  refine ⟨?_, rfl⟩
  (repeat' split) <;> first | rfl | (exfalso; simp only [k_le, k_lt, e] at * <;> omega))
theorem ev_X11_isGarden2 {n : Int32} {μ : kH} : Ev kX11_isGarden [kr 46, ki n] μ (fun r h' => r = ki (if 0 ≤ n ∧ n < μ.1 46 13 then 1 else 0) ∧ h' = μ) := k_evm ev_X11_isGarden (fun r h' q => by
  obtain ⟨rfl, rfl⟩ := q
  have e := k_il1 (h'.1 46 13)
  refine ⟨?_, rfl⟩
  (repeat' split) <;> first | rfl | (exfalso; simp only [k_le, k_lt, k_leL, e, k_il, lj_0, li_0] at * <;> omega))
theorem ev_X11_isYear2 {n : Int32} {μ : kH} : Ev kX11_isYear [ki n] μ (fun r h' => r = ki (if 0 ≤ n ∧ n ≤ 39 then 1 else 0) ∧ h' = μ) := k_evm ev_X11_isYear (fun r h' q => by
  obtain ⟨rfl, rfl⟩ := q
  refine ⟨?_, rfl⟩
  (repeat' split) <;> first | rfl | (exfalso; simp only [k_le, k_lt, k_leL, k_il, lj_0, li_0, li_39, lj_39, li_3, lj_3] at * <;> omega))
theorem ev_X11_isSort2 {n : Int32} {μ : kH} : Ev kX11_isSort [ki n] μ (fun r h' => r = ki (if 0 ≤ n ∧ n ≤ 3 then 1 else 0) ∧ h' = μ) := k_evm ev_X11_isSort (fun r h' q => by
  obtain ⟨rfl, rfl⟩ := q
  refine ⟨?_, rfl⟩
  (repeat' split) <;> first | rfl | (exfalso; simp only [k_le, k_lt, k_leL, k_il, lj_0, li_0, li_39, lj_39, li_3, lj_3] at * <;> omega))
set_option maxHeartbeats 4000000 in
set_option maxRecDepth 100000 in
theorem ev_X1_lay {v a : Int32} {μ : kH} (hz : 0 ≤ (μ.1 11 2).toInt) : Ev kX1_lay [kr 11, ki v, ki a] μ (fun r h' => if 12 ≤ μ.1 11 2 then r = ki (-1) ∧ h' = μ else r = ki (μ.1 11 2) ∧ h' = hI (hI (hI μ 12 (μ.1 11 2).toNatClampNeg v) 13 (μ.1 11 2).toNatClampNeg a) 11 2 (μ.1 11 2 + 1)) := by
  refine k_ev (ls := [_, _, _]) (by decide) (Nat.le_of_ble_eq_true rfl) rfl ?_
  refine k_aload_n dX1_lay_0 rfl rfl ?_
  refine k_getI fl_RX1_18 dX1_lay_1 rfl rfl rfl ?_
  refine k_bipush (v := 12) dX1_lay_4 rfl (by decide) ?_
  refine k_icmp_lt (tg := 11) dX1_lay_6 rfl (by decide) (fun c_6 => ?_) (fun c_6 => ?_)
  · skip
    refine k_aload_n dX1_lay_11 rfl rfl ?_
    refine k_getR fl_RX1_9 dX1_lay_12 rfl rfl rfl ?_
    refine k_aload_n dX1_lay_15 rfl rfl ?_
    refine k_getI fl_RX1_18 dX1_lay_16 rfl rfl rfl ?_
    refine k_iload_n dX1_lay_19 rfl rfl ?_
    refine k_iast dX1_lay_20 rfl rfl (vp_in_iff.mpr (by show 0 ≤ (μ.1 11 2).toInt ∧ (μ.1 11 2).toInt < _; (try simp only [eq_self, not_true_eq_false, not_false_eq_true, k_b0, k_b1, k_c0, k_cl, k_cg, k_cle, k_cge] at *) <;> (try simp only [eq_self, not_true_eq_false, not_false_eq_true, k_le, k_lt, k_eq, k_leL, k_ltL, k_eqL, k_il, li_m6, li_m5, li_m3, li_m2, li_m1, li_0, li_1, li_2, li_3, li_4, li_5, li_6, li_7, li_8, li_10, li_11, li_12, li_20, li_24, li_25, li_26, li_32, li_39, li_40, li_48, li_57, li_59, li_60, li_96, li_97, li_100, li_122, li_180, li_200, li_255, li_300, li_468, li_480, li_500, li_1000, li_2000, li_10000, li_10001, li_100000, li_1000000, li_100000000, lj_m1, lj_0, lj_1, lj_2, lj_3, lj_24, lj_39, lj_100, lj_500, lj_1000, lj_2000, lj_10000, lj_100000, lj_1000000, lj_100000000, lj_10, lj_20, lj_12, lj_32, lj_96] at *) <;> omega)) ?_
    refine k_aload_n dX1_lay_21 rfl rfl ?_
    refine k_getR fl_RX1_15 dX1_lay_22 rfl rfl rfl ?_
    refine k_aload_n dX1_lay_25 rfl rfl ?_
    refine k_getI fl_RX1_18 dX1_lay_26 rfl rfl rfl ?_
    refine k_iload_n dX1_lay_29 rfl rfl ?_
    refine k_iast dX1_lay_30 rfl rfl (vp_in_iff.mpr (by show 0 ≤ (μ.1 11 2).toInt ∧ (μ.1 11 2).toInt < _; (try simp only [eq_self, not_true_eq_false, not_false_eq_true, k_b0, k_b1, k_c0, k_cl, k_cg, k_cle, k_cge] at *) <;> (try simp only [eq_self, not_true_eq_false, not_false_eq_true, k_le, k_lt, k_eq, k_leL, k_ltL, k_eqL, k_il, li_m6, li_m5, li_m3, li_m2, li_m1, li_0, li_1, li_2, li_3, li_4, li_5, li_6, li_7, li_8, li_10, li_11, li_12, li_20, li_24, li_25, li_26, li_32, li_39, li_40, li_48, li_57, li_59, li_60, li_96, li_97, li_100, li_122, li_180, li_200, li_255, li_300, li_468, li_480, li_500, li_1000, li_2000, li_10000, li_10001, li_100000, li_1000000, li_100000000, lj_m1, lj_0, lj_1, lj_2, lj_3, lj_24, lj_39, lj_100, lj_500, lj_1000, lj_2000, lj_10000, lj_100000, lj_1000000, lj_100000000, lj_10, lj_20, lj_12, lj_32, lj_96] at *) <;> omega)) ?_
    refine k_aload_n dX1_lay_31 rfl rfl ?_
    refine k_dup dX1_lay_32 rfl rfl ?_
    refine k_getI fl_RX1_18 dX1_lay_33 rfl rfl rfl ?_
    refine k_dup_x1 dX1_lay_36 rfl rfl rfl ?_
    refine k_iconst (v := 1) dX1_lay_37 rfl (by decide) ?_
    refine k_iadd dX1_lay_38 rfl ?_
    refine k_putI fw_RX1_18 dX1_lay_39 rfl rfl rfl ?_
    exact k_iret dX1_lay_42 rfl (by (repeat' split) <;> first | exact ⟨rfl, rfl⟩ | (exfalso; (try simp only [eq_self, not_true_eq_false, not_false_eq_true, k_b0, k_b1, k_c0, k_cl, k_cg, k_cle, k_cge] at *) <;> (try simp only [eq_self, not_true_eq_false, not_false_eq_true, k_le, k_lt, k_eq, k_leL, k_ltL, k_eqL, k_il, li_m6, li_m5, li_m3, li_m2, li_m1, li_0, li_1, li_2, li_3, li_4, li_5, li_6, li_7, li_8, li_10, li_11, li_12, li_20, li_24, li_25, li_26, li_32, li_39, li_40, li_48, li_57, li_59, li_60, li_96, li_97, li_100, li_122, li_180, li_200, li_255, li_300, li_468, li_480, li_500, li_1000, li_2000, li_10000, li_10001, li_100000, li_1000000, li_100000000, lj_m1, lj_0, lj_1, lj_2, lj_3, lj_24, lj_39, lj_100, lj_500, lj_1000, lj_2000, lj_10000, lj_100000, lj_1000000, lj_100000000, lj_10, lj_20, lj_12, lj_32, lj_96] at *) <;> omega))
  · skip
    refine k_iconst (v := (-1)) dX1_lay_9 rfl (by decide) ?_
    exact k_iret dX1_lay_10 rfl (by (repeat' split) <;> first | exact ⟨rfl, rfl⟩ | (exfalso; (try simp only [eq_self, not_true_eq_false, not_false_eq_true, k_b0, k_b1, k_c0, k_cl, k_cg, k_cle, k_cge] at *) <;> (try simp only [eq_self, not_true_eq_false, not_false_eq_true, k_le, k_lt, k_eq, k_leL, k_ltL, k_eqL, k_il, li_m6, li_m5, li_m3, li_m2, li_m1, li_0, li_1, li_2, li_3, li_4, li_5, li_6, li_7, li_8, li_10, li_11, li_12, li_20, li_24, li_25, li_26, li_32, li_39, li_40, li_48, li_57, li_59, li_60, li_96, li_97, li_100, li_122, li_180, li_200, li_255, li_300, li_468, li_480, li_500, li_1000, li_2000, li_10000, li_10001, li_100000, li_1000000, li_100000000, lj_m1, lj_0, lj_1, lj_2, lj_3, lj_24, lj_39, lj_100, lj_500, lj_1000, lj_2000, lj_10000, lj_100000, lj_1000000, lj_100000000, lj_10, lj_20, lj_12, lj_32, lj_96] at *) <;> omega))

set_option maxHeartbeats 4000000 in
set_option maxRecDepth 100000 in
theorem ev_X0_take {a b c d : Int32} {μ : kH} (hz : 0 ≤ (μ.1 40 5).toInt) : Ev kX0_take [kr 40, ki a, ki b, ki c, ki d] μ (fun r h' => if 60 ≤ μ.1 40 5 then r = ki (-1) ∧ h' = μ else r = ki (μ.1 40 5) ∧ h' = hI (hI (hI (hI (hI μ 41 (μ.1 40 5).toNatClampNeg a) 42 (μ.1 40 5).toNatClampNeg b) 43 (μ.1 40 5).toNatClampNeg c) 44 (μ.1 40 5).toNatClampNeg d) 40 5 (μ.1 40 5 + 1)) := by
  refine k_ev (ls := [_, _, _, _, _]) (by decide) (Nat.le_of_ble_eq_true rfl) rfl ?_
  refine k_aload_n dX0_take_0 rfl rfl ?_
  refine k_getI fl_RX0_27 dX0_take_1 rfl rfl rfl ?_
  refine k_bipush (v := 60) dX0_take_4 rfl (by decide) ?_
  refine k_icmp_lt (tg := 11) dX0_take_6 rfl (by decide) (fun c_6 => ?_) (fun c_6 => ?_)
  · skip
    refine k_aload_n dX0_take_11 rfl rfl ?_
    refine k_getR fl_RX0_9 dX0_take_12 rfl rfl rfl ?_
    refine k_aload_n dX0_take_15 rfl rfl ?_
    refine k_getI fl_RX0_27 dX0_take_16 rfl rfl rfl ?_
    refine k_iload_n dX0_take_19 rfl rfl ?_
    refine k_iast dX0_take_20 rfl rfl (vp_in_iff.mpr (by show 0 ≤ (μ.1 40 5).toInt ∧ (μ.1 40 5).toInt < _; (try simp only [eq_self, not_true_eq_false, not_false_eq_true, k_b0, k_b1, k_c0, k_cl, k_cg, k_cle, k_cge] at *) <;> (try simp only [eq_self, not_true_eq_false, not_false_eq_true, k_le, k_lt, k_eq, k_leL, k_ltL, k_eqL, k_il, li_m6, li_m5, li_m3, li_m2, li_m1, li_0, li_1, li_2, li_3, li_4, li_5, li_6, li_7, li_8, li_10, li_11, li_12, li_20, li_24, li_25, li_26, li_32, li_39, li_40, li_48, li_57, li_59, li_60, li_96, li_97, li_100, li_122, li_180, li_200, li_255, li_300, li_468, li_480, li_500, li_1000, li_2000, li_10000, li_10001, li_100000, li_1000000, li_100000000, lj_m1, lj_0, lj_1, lj_2, lj_3, lj_24, lj_39, lj_100, lj_500, lj_1000, lj_2000, lj_10000, lj_100000, lj_1000000, lj_100000000, lj_10, lj_20, lj_12, lj_32, lj_96] at *) <;> omega)) ?_
    refine k_aload_n dX0_take_21 rfl rfl ?_
    refine k_getR fl_RX0_15 dX0_take_22 rfl rfl rfl ?_
    refine k_aload_n dX0_take_25 rfl rfl ?_
    refine k_getI fl_RX0_27 dX0_take_26 rfl rfl rfl ?_
    refine k_iload_n dX0_take_29 rfl rfl ?_
    refine k_iast dX0_take_30 rfl rfl (vp_in_iff.mpr (by show 0 ≤ (μ.1 40 5).toInt ∧ (μ.1 40 5).toInt < _; (try simp only [eq_self, not_true_eq_false, not_false_eq_true, k_b0, k_b1, k_c0, k_cl, k_cg, k_cle, k_cge] at *) <;> (try simp only [eq_self, not_true_eq_false, not_false_eq_true, k_le, k_lt, k_eq, k_leL, k_ltL, k_eqL, k_il, li_m6, li_m5, li_m3, li_m2, li_m1, li_0, li_1, li_2, li_3, li_4, li_5, li_6, li_7, li_8, li_10, li_11, li_12, li_20, li_24, li_25, li_26, li_32, li_39, li_40, li_48, li_57, li_59, li_60, li_96, li_97, li_100, li_122, li_180, li_200, li_255, li_300, li_468, li_480, li_500, li_1000, li_2000, li_10000, li_10001, li_100000, li_1000000, li_100000000, lj_m1, lj_0, lj_1, lj_2, lj_3, lj_24, lj_39, lj_100, lj_500, lj_1000, lj_2000, lj_10000, lj_100000, lj_1000000, lj_100000000, lj_10, lj_20, lj_12, lj_32, lj_96] at *) <;> omega)) ?_
    refine k_aload_n dX0_take_31 rfl rfl ?_
    refine k_getR fl_RX0_18 dX0_take_32 rfl rfl rfl ?_
    refine k_aload_n dX0_take_35 rfl rfl ?_
    refine k_getI fl_RX0_27 dX0_take_36 rfl rfl rfl ?_
    refine k_iload_n dX0_take_39 rfl rfl ?_
    refine k_iast dX0_take_40 rfl rfl (vp_in_iff.mpr (by show 0 ≤ (μ.1 40 5).toInt ∧ (μ.1 40 5).toInt < _; (try simp only [eq_self, not_true_eq_false, not_false_eq_true, k_b0, k_b1, k_c0, k_cl, k_cg, k_cle, k_cge] at *) <;> (try simp only [eq_self, not_true_eq_false, not_false_eq_true, k_le, k_lt, k_eq, k_leL, k_ltL, k_eqL, k_il, li_m6, li_m5, li_m3, li_m2, li_m1, li_0, li_1, li_2, li_3, li_4, li_5, li_6, li_7, li_8, li_10, li_11, li_12, li_20, li_24, li_25, li_26, li_32, li_39, li_40, li_48, li_57, li_59, li_60, li_96, li_97, li_100, li_122, li_180, li_200, li_255, li_300, li_468, li_480, li_500, li_1000, li_2000, li_10000, li_10001, li_100000, li_1000000, li_100000000, lj_m1, lj_0, lj_1, lj_2, lj_3, lj_24, lj_39, lj_100, lj_500, lj_1000, lj_2000, lj_10000, lj_100000, lj_1000000, lj_100000000, lj_10, lj_20, lj_12, lj_32, lj_96] at *) <;> omega)) ?_
    refine k_aload_n dX0_take_41 rfl rfl ?_
    refine k_getR fl_RX0_21 dX0_take_42 rfl rfl rfl ?_
    refine k_aload_n dX0_take_45 rfl rfl ?_
    refine k_getI fl_RX0_27 dX0_take_46 rfl rfl rfl ?_
    refine k_iload dX0_take_49 rfl rfl ?_
    refine k_iast dX0_take_51 rfl rfl (vp_in_iff.mpr (by show 0 ≤ (μ.1 40 5).toInt ∧ (μ.1 40 5).toInt < _; (try simp only [eq_self, not_true_eq_false, not_false_eq_true, k_b0, k_b1, k_c0, k_cl, k_cg, k_cle, k_cge] at *) <;> (try simp only [eq_self, not_true_eq_false, not_false_eq_true, k_le, k_lt, k_eq, k_leL, k_ltL, k_eqL, k_il, li_m6, li_m5, li_m3, li_m2, li_m1, li_0, li_1, li_2, li_3, li_4, li_5, li_6, li_7, li_8, li_10, li_11, li_12, li_20, li_24, li_25, li_26, li_32, li_39, li_40, li_48, li_57, li_59, li_60, li_96, li_97, li_100, li_122, li_180, li_200, li_255, li_300, li_468, li_480, li_500, li_1000, li_2000, li_10000, li_10001, li_100000, li_1000000, li_100000000, lj_m1, lj_0, lj_1, lj_2, lj_3, lj_24, lj_39, lj_100, lj_500, lj_1000, lj_2000, lj_10000, lj_100000, lj_1000000, lj_100000000, lj_10, lj_20, lj_12, lj_32, lj_96] at *) <;> omega)) ?_
    refine k_aload_n dX0_take_52 rfl rfl ?_
    refine k_dup dX0_take_53 rfl rfl ?_
    refine k_getI fl_RX0_27 dX0_take_54 rfl rfl rfl ?_
    refine k_dup_x1 dX0_take_57 rfl rfl rfl ?_
    refine k_iconst (v := 1) dX0_take_58 rfl (by decide) ?_
    refine k_iadd dX0_take_59 rfl ?_
    refine k_putI fw_RX0_27 dX0_take_60 rfl rfl rfl ?_
    exact k_iret dX0_take_63 rfl (by (repeat' split) <;> first | exact ⟨rfl, rfl⟩ | (exfalso; (try simp only [eq_self, not_true_eq_false, not_false_eq_true, k_b0, k_b1, k_c0, k_cl, k_cg, k_cle, k_cge] at *) <;> (try simp only [eq_self, not_true_eq_false, not_false_eq_true, k_le, k_lt, k_eq, k_leL, k_ltL, k_eqL, k_il, li_m6, li_m5, li_m3, li_m2, li_m1, li_0, li_1, li_2, li_3, li_4, li_5, li_6, li_7, li_8, li_10, li_11, li_12, li_20, li_24, li_25, li_26, li_32, li_39, li_40, li_48, li_57, li_59, li_60, li_96, li_97, li_100, li_122, li_180, li_200, li_255, li_300, li_468, li_480, li_500, li_1000, li_2000, li_10000, li_10001, li_100000, li_1000000, li_100000000, lj_m1, lj_0, lj_1, lj_2, lj_3, lj_24, lj_39, lj_100, lj_500, lj_1000, lj_2000, lj_10000, lj_100000, lj_1000000, lj_100000000, lj_10, lj_20, lj_12, lj_32, lj_96] at *) <;> omega))
  · skip
    refine k_iconst (v := (-1)) dX0_take_9 rfl (by decide) ?_
    exact k_iret dX0_take_10 rfl (by (repeat' split) <;> first | exact ⟨rfl, rfl⟩ | (exfalso; (try simp only [eq_self, not_true_eq_false, not_false_eq_true, k_b0, k_b1, k_c0, k_cl, k_cg, k_cle, k_cge] at *) <;> (try simp only [eq_self, not_true_eq_false, not_false_eq_true, k_le, k_lt, k_eq, k_leL, k_ltL, k_eqL, k_il, li_m6, li_m5, li_m3, li_m2, li_m1, li_0, li_1, li_2, li_3, li_4, li_5, li_6, li_7, li_8, li_10, li_11, li_12, li_20, li_24, li_25, li_26, li_32, li_39, li_40, li_48, li_57, li_59, li_60, li_96, li_97, li_100, li_122, li_180, li_200, li_255, li_300, li_468, li_480, li_500, li_1000, li_2000, li_10000, li_10001, li_100000, li_1000000, li_100000000, lj_m1, lj_0, lj_1, lj_2, lj_3, lj_24, lj_39, lj_100, lj_500, lj_1000, lj_2000, lj_10000, lj_100000, lj_1000000, lj_100000000, lj_10, lj_20, lj_12, lj_32, lj_96] at *) <;> omega))

set_option maxHeartbeats 4000000 in
set_option maxRecDepth 100000 in
theorem ev_X0_cameFrom {a g : Int32} {μ : kH} (hz : vp_in (a * 12 + g) 720) : Ev kX0_cameFrom [kr 40, ki a, ki g] μ (fun r h' => r = ki (μ.1 45 (a * 12 + g).toNatClampNeg) ∧ h' = μ) := by
  refine k_ev (ls := [_, _, _]) (by decide) (Nat.le_of_ble_eq_true rfl) rfl ?_
  refine k_aload_n dX0_cameFrom_0 rfl rfl ?_
  refine k_getR fl_RX0_24 dX0_cameFrom_1 rfl rfl rfl ?_
  refine k_iload_n dX0_cameFrom_4 rfl rfl ?_
  refine k_bipush (v := 12) dX0_cameFrom_5 rfl (by decide) ?_
  refine k_imul dX0_cameFrom_7 rfl ?_
  refine k_iload_n dX0_cameFrom_8 rfl rfl ?_
  refine k_iadd dX0_cameFrom_9 rfl ?_
  refine k_iald dX0_cameFrom_10 rfl rfl hz ?_
  exact k_iret dX0_cameFrom_11 rfl ⟨rfl, rfl⟩

set_option maxHeartbeats 4000000 in
set_option maxRecDepth 100000 in
theorem ev_X3_store {a g p : Int32} {μ : kH} (hz : 0 ≤ (μ.1 36 3).toInt) : Ev kX3_store [kr 36, ki a, ki g, ki p] μ (fun r h' => if p < 1 ∨ 468 ≤ μ.1 36 3 then r = ku ∧ h' = μ else r = ku ∧ h' = hI (hI (hI (hI (hI μ 37 (μ.1 36 3).toNatClampNeg a) 38 (μ.1 36 3).toNatClampNeg g) 39 (μ.1 36 3).toNatClampNeg p) 36 3 (μ.1 36 3 + 1)) 36 4 (μ.1 36 4 + p)) := by
  refine k_ev (ls := [_, _, _, _]) (by decide) (Nat.le_of_ble_eq_true rfl) rfl ?_
  refine k_iload_n dX3_store_0 rfl rfl ?_
  refine k_iconst (v := 1) dX3_store_1 rfl (by decide) ?_
  refine k_icmp_lt (tg := 15) dX3_store_2 rfl (by decide) (fun c_2 => ?_) (fun c_2 => ?_)
  · skip
    exact k_vret dX3_store_15 rfl (by (repeat' split) <;> first | exact ⟨rfl, rfl⟩ | (exfalso; (try simp only [eq_self, not_true_eq_false, not_false_eq_true, k_b0, k_b1, k_c0, k_cl, k_cg, k_cle, k_cge] at *) <;> (try simp only [eq_self, not_true_eq_false, not_false_eq_true, k_le, k_lt, k_eq, k_leL, k_ltL, k_eqL, k_il, li_m6, li_m5, li_m3, li_m2, li_m1, li_0, li_1, li_2, li_3, li_4, li_5, li_6, li_7, li_8, li_10, li_11, li_12, li_20, li_24, li_25, li_26, li_32, li_39, li_40, li_48, li_57, li_59, li_60, li_96, li_97, li_100, li_122, li_180, li_200, li_255, li_300, li_468, li_480, li_500, li_1000, li_2000, li_10000, li_10001, li_100000, li_1000000, li_100000000, lj_m1, lj_0, lj_1, lj_2, lj_3, lj_24, lj_39, lj_100, lj_500, lj_1000, lj_2000, lj_10000, lj_100000, lj_1000000, lj_100000000, lj_10, lj_20, lj_12, lj_32, lj_96] at *) <;> omega))
  · skip
    refine k_aload_n dX3_store_5 rfl rfl ?_
    refine k_getI fl_RX3_21 dX3_store_6 rfl rfl rfl ?_
    refine k_sipush (v := 468) dX3_store_9 rfl (by decide) ?_
    refine k_icmp_lt (tg := 16) dX3_store_12 rfl (by decide) (fun c_12 => ?_) (fun c_12 => ?_)
    · skip
      refine k_aload_n dX3_store_16 rfl rfl ?_
      refine k_getR fl_RX3_9 dX3_store_17 rfl rfl rfl ?_
      refine k_aload_n dX3_store_20 rfl rfl ?_
      refine k_getI fl_RX3_21 dX3_store_21 rfl rfl rfl ?_
      refine k_iload_n dX3_store_24 rfl rfl ?_
      refine k_iast dX3_store_25 rfl rfl (vp_in_iff.mpr (by show 0 ≤ (μ.1 36 3).toInt ∧ (μ.1 36 3).toInt < _; (try simp only [eq_self, not_true_eq_false, not_false_eq_true, k_b0, k_b1, k_c0, k_cl, k_cg, k_cle, k_cge] at *) <;> (try simp only [eq_self, not_true_eq_false, not_false_eq_true, k_le, k_lt, k_eq, k_leL, k_ltL, k_eqL, k_il, li_m6, li_m5, li_m3, li_m2, li_m1, li_0, li_1, li_2, li_3, li_4, li_5, li_6, li_7, li_8, li_10, li_11, li_12, li_20, li_24, li_25, li_26, li_32, li_39, li_40, li_48, li_57, li_59, li_60, li_96, li_97, li_100, li_122, li_180, li_200, li_255, li_300, li_468, li_480, li_500, li_1000, li_2000, li_10000, li_10001, li_100000, li_1000000, li_100000000, lj_m1, lj_0, lj_1, lj_2, lj_3, lj_24, lj_39, lj_100, lj_500, lj_1000, lj_2000, lj_10000, lj_100000, lj_1000000, lj_100000000, lj_10, lj_20, lj_12, lj_32, lj_96] at *) <;> omega)) ?_
      refine k_aload_n dX3_store_26 rfl rfl ?_
      refine k_getR fl_RX3_15 dX3_store_27 rfl rfl rfl ?_
      refine k_aload_n dX3_store_30 rfl rfl ?_
      refine k_getI fl_RX3_21 dX3_store_31 rfl rfl rfl ?_
      refine k_iload_n dX3_store_34 rfl rfl ?_
      refine k_iast dX3_store_35 rfl rfl (vp_in_iff.mpr (by show 0 ≤ (μ.1 36 3).toInt ∧ (μ.1 36 3).toInt < _; (try simp only [eq_self, not_true_eq_false, not_false_eq_true, k_b0, k_b1, k_c0, k_cl, k_cg, k_cle, k_cge] at *) <;> (try simp only [eq_self, not_true_eq_false, not_false_eq_true, k_le, k_lt, k_eq, k_leL, k_ltL, k_eqL, k_il, li_m6, li_m5, li_m3, li_m2, li_m1, li_0, li_1, li_2, li_3, li_4, li_5, li_6, li_7, li_8, li_10, li_11, li_12, li_20, li_24, li_25, li_26, li_32, li_39, li_40, li_48, li_57, li_59, li_60, li_96, li_97, li_100, li_122, li_180, li_200, li_255, li_300, li_468, li_480, li_500, li_1000, li_2000, li_10000, li_10001, li_100000, li_1000000, li_100000000, lj_m1, lj_0, lj_1, lj_2, lj_3, lj_24, lj_39, lj_100, lj_500, lj_1000, lj_2000, lj_10000, lj_100000, lj_1000000, lj_100000000, lj_10, lj_20, lj_12, lj_32, lj_96] at *) <;> omega)) ?_
      refine k_aload_n dX3_store_36 rfl rfl ?_
      refine k_getR fl_RX3_18 dX3_store_37 rfl rfl rfl ?_
      refine k_aload_n dX3_store_40 rfl rfl ?_
      refine k_getI fl_RX3_21 dX3_store_41 rfl rfl rfl ?_
      refine k_iload_n dX3_store_44 rfl rfl ?_
      refine k_iast dX3_store_45 rfl rfl (vp_in_iff.mpr (by show 0 ≤ (μ.1 36 3).toInt ∧ (μ.1 36 3).toInt < _; (try simp only [eq_self, not_true_eq_false, not_false_eq_true, k_b0, k_b1, k_c0, k_cl, k_cg, k_cle, k_cge] at *) <;> (try simp only [eq_self, not_true_eq_false, not_false_eq_true, k_le, k_lt, k_eq, k_leL, k_ltL, k_eqL, k_il, li_m6, li_m5, li_m3, li_m2, li_m1, li_0, li_1, li_2, li_3, li_4, li_5, li_6, li_7, li_8, li_10, li_11, li_12, li_20, li_24, li_25, li_26, li_32, li_39, li_40, li_48, li_57, li_59, li_60, li_96, li_97, li_100, li_122, li_180, li_200, li_255, li_300, li_468, li_480, li_500, li_1000, li_2000, li_10000, li_10001, li_100000, li_1000000, li_100000000, lj_m1, lj_0, lj_1, lj_2, lj_3, lj_24, lj_39, lj_100, lj_500, lj_1000, lj_2000, lj_10000, lj_100000, lj_1000000, lj_100000000, lj_10, lj_20, lj_12, lj_32, lj_96] at *) <;> omega)) ?_
      refine k_aload_n dX3_store_46 rfl rfl ?_
      refine k_dup dX3_store_47 rfl rfl ?_
      refine k_getI fl_RX3_21 dX3_store_48 rfl rfl rfl ?_
      refine k_iconst (v := 1) dX3_store_51 rfl (by decide) ?_
      refine k_iadd dX3_store_52 rfl ?_
      refine k_putI fw_RX3_21 dX3_store_53 rfl rfl rfl ?_
      refine k_aload_n dX3_store_56 rfl rfl ?_
      refine k_dup dX3_store_57 rfl rfl ?_
      refine k_getI fl_RX3_25 dX3_store_58 rfl rfl rfl ?_
      refine k_iload_n dX3_store_61 rfl rfl ?_
      refine k_iadd dX3_store_62 rfl ?_
      refine k_putI fw_RX3_25 dX3_store_63 rfl rfl rfl ?_
      exact k_vret dX3_store_66 rfl (by (repeat' split) <;> first | exact ⟨rfl, rfl⟩ | (exfalso; (try simp only [eq_self, not_true_eq_false, not_false_eq_true, k_b0, k_b1, k_c0, k_cl, k_cg, k_cle, k_cge] at *) <;> (try simp only [eq_self, not_true_eq_false, not_false_eq_true, k_le, k_lt, k_eq, k_leL, k_ltL, k_eqL, k_il, li_m6, li_m5, li_m3, li_m2, li_m1, li_0, li_1, li_2, li_3, li_4, li_5, li_6, li_7, li_8, li_10, li_11, li_12, li_20, li_24, li_25, li_26, li_32, li_39, li_40, li_48, li_57, li_59, li_60, li_96, li_97, li_100, li_122, li_180, li_200, li_255, li_300, li_468, li_480, li_500, li_1000, li_2000, li_10000, li_10001, li_100000, li_1000000, li_100000000, lj_m1, lj_0, lj_1, lj_2, lj_3, lj_24, lj_39, lj_100, lj_500, lj_1000, lj_2000, lj_10000, lj_100000, lj_1000000, lj_100000000, lj_10, lj_20, lj_12, lj_32, lj_96] at *) <;> omega))
    · skip
      exact k_vret dX3_store_15 rfl (by (repeat' split) <;> first | exact ⟨rfl, rfl⟩ | (exfalso; (try simp only [eq_self, not_true_eq_false, not_false_eq_true, k_b0, k_b1, k_c0, k_cl, k_cg, k_cle, k_cge] at *) <;> (try simp only [eq_self, not_true_eq_false, not_false_eq_true, k_le, k_lt, k_eq, k_leL, k_ltL, k_eqL, k_il, li_m6, li_m5, li_m3, li_m2, li_m1, li_0, li_1, li_2, li_3, li_4, li_5, li_6, li_7, li_8, li_10, li_11, li_12, li_20, li_24, li_25, li_26, li_32, li_39, li_40, li_48, li_57, li_59, li_60, li_96, li_97, li_100, li_122, li_180, li_200, li_255, li_300, li_468, li_480, li_500, li_1000, li_2000, li_10000, li_10001, li_100000, li_1000000, li_100000000, lj_m1, lj_0, lj_1, lj_2, lj_3, lj_24, lj_39, lj_100, lj_500, lj_1000, lj_2000, lj_10000, lj_100000, lj_1000000, lj_100000000, lj_10, lj_20, lj_12, lj_32, lj_96] at *) <;> omega))

set_option maxHeartbeats 4000000 in
set_option maxRecDepth 100000 in
theorem ev_X6_tell {a b c d : Int32} {μ : kH} (hz : 0 ≤ (μ.1 3 4).toInt) : Ev kX6_tell [kr 3, ki a, ki b, ki c, ki d] μ (fun r h' => if 300 ≤ μ.1 3 4 then r = ku ∧ h' = μ else r = ku ∧ h' = hI (hI (hI (hI (hI μ 4 (μ.1 3 4).toNatClampNeg a) 5 (μ.1 3 4).toNatClampNeg b) 6 (μ.1 3 4).toNatClampNeg c) 7 (μ.1 3 4).toNatClampNeg d) 3 4 (μ.1 3 4 + 1)) := by
  refine k_ev (ls := [_, _, _, _, _]) (by decide) (Nat.le_of_ble_eq_true rfl) rfl ?_
  refine k_aload_n dX6_tell_0 rfl rfl ?_
  refine k_getI fl_RX6_24 dX6_tell_1 rfl rfl rfl ?_
  refine k_sipush (v := 300) dX6_tell_4 rfl (by decide) ?_
  refine k_icmp_lt (tg := 11) dX6_tell_7 rfl (by decide) (fun c_7 => ?_) (fun c_7 => ?_)
  · skip
    refine k_aload_n dX6_tell_11 rfl rfl ?_
    refine k_getR fl_RX6_9 dX6_tell_12 rfl rfl rfl ?_
    refine k_aload_n dX6_tell_15 rfl rfl ?_
    refine k_getI fl_RX6_24 dX6_tell_16 rfl rfl rfl ?_
    refine k_iload_n dX6_tell_19 rfl rfl ?_
    refine k_iast dX6_tell_20 rfl rfl (vp_in_iff.mpr (by show 0 ≤ (μ.1 3 4).toInt ∧ (μ.1 3 4).toInt < _; (try simp only [eq_self, not_true_eq_false, not_false_eq_true, k_b0, k_b1, k_c0, k_cl, k_cg, k_cle, k_cge] at *) <;> (try simp only [eq_self, not_true_eq_false, not_false_eq_true, k_le, k_lt, k_eq, k_leL, k_ltL, k_eqL, k_il, li_m6, li_m5, li_m3, li_m2, li_m1, li_0, li_1, li_2, li_3, li_4, li_5, li_6, li_7, li_8, li_10, li_11, li_12, li_20, li_24, li_25, li_26, li_32, li_39, li_40, li_48, li_57, li_59, li_60, li_96, li_97, li_100, li_122, li_180, li_200, li_255, li_300, li_468, li_480, li_500, li_1000, li_2000, li_10000, li_10001, li_100000, li_1000000, li_100000000, lj_m1, lj_0, lj_1, lj_2, lj_3, lj_24, lj_39, lj_100, lj_500, lj_1000, lj_2000, lj_10000, lj_100000, lj_1000000, lj_100000000, lj_10, lj_20, lj_12, lj_32, lj_96] at *) <;> omega)) ?_
    refine k_aload_n dX6_tell_21 rfl rfl ?_
    refine k_getR fl_RX6_15 dX6_tell_22 rfl rfl rfl ?_
    refine k_aload_n dX6_tell_25 rfl rfl ?_
    refine k_getI fl_RX6_24 dX6_tell_26 rfl rfl rfl ?_
    refine k_iload_n dX6_tell_29 rfl rfl ?_
    refine k_iast dX6_tell_30 rfl rfl (vp_in_iff.mpr (by show 0 ≤ (μ.1 3 4).toInt ∧ (μ.1 3 4).toInt < _; (try simp only [eq_self, not_true_eq_false, not_false_eq_true, k_b0, k_b1, k_c0, k_cl, k_cg, k_cle, k_cge] at *) <;> (try simp only [eq_self, not_true_eq_false, not_false_eq_true, k_le, k_lt, k_eq, k_leL, k_ltL, k_eqL, k_il, li_m6, li_m5, li_m3, li_m2, li_m1, li_0, li_1, li_2, li_3, li_4, li_5, li_6, li_7, li_8, li_10, li_11, li_12, li_20, li_24, li_25, li_26, li_32, li_39, li_40, li_48, li_57, li_59, li_60, li_96, li_97, li_100, li_122, li_180, li_200, li_255, li_300, li_468, li_480, li_500, li_1000, li_2000, li_10000, li_10001, li_100000, li_1000000, li_100000000, lj_m1, lj_0, lj_1, lj_2, lj_3, lj_24, lj_39, lj_100, lj_500, lj_1000, lj_2000, lj_10000, lj_100000, lj_1000000, lj_100000000, lj_10, lj_20, lj_12, lj_32, lj_96] at *) <;> omega)) ?_
    refine k_aload_n dX6_tell_31 rfl rfl ?_
    refine k_getR fl_RX6_18 dX6_tell_32 rfl rfl rfl ?_
    refine k_aload_n dX6_tell_35 rfl rfl ?_
    refine k_getI fl_RX6_24 dX6_tell_36 rfl rfl rfl ?_
    refine k_iload_n dX6_tell_39 rfl rfl ?_
    refine k_iast dX6_tell_40 rfl rfl (vp_in_iff.mpr (by show 0 ≤ (μ.1 3 4).toInt ∧ (μ.1 3 4).toInt < _; (try simp only [eq_self, not_true_eq_false, not_false_eq_true, k_b0, k_b1, k_c0, k_cl, k_cg, k_cle, k_cge] at *) <;> (try simp only [eq_self, not_true_eq_false, not_false_eq_true, k_le, k_lt, k_eq, k_leL, k_ltL, k_eqL, k_il, li_m6, li_m5, li_m3, li_m2, li_m1, li_0, li_1, li_2, li_3, li_4, li_5, li_6, li_7, li_8, li_10, li_11, li_12, li_20, li_24, li_25, li_26, li_32, li_39, li_40, li_48, li_57, li_59, li_60, li_96, li_97, li_100, li_122, li_180, li_200, li_255, li_300, li_468, li_480, li_500, li_1000, li_2000, li_10000, li_10001, li_100000, li_1000000, li_100000000, lj_m1, lj_0, lj_1, lj_2, lj_3, lj_24, lj_39, lj_100, lj_500, lj_1000, lj_2000, lj_10000, lj_100000, lj_1000000, lj_100000000, lj_10, lj_20, lj_12, lj_32, lj_96] at *) <;> omega)) ?_
    refine k_aload_n dX6_tell_41 rfl rfl ?_
    refine k_getR fl_RX6_21 dX6_tell_42 rfl rfl rfl ?_
    refine k_aload_n dX6_tell_45 rfl rfl ?_
    refine k_getI fl_RX6_24 dX6_tell_46 rfl rfl rfl ?_
    refine k_iload dX6_tell_49 rfl rfl ?_
    refine k_iast dX6_tell_51 rfl rfl (vp_in_iff.mpr (by show 0 ≤ (μ.1 3 4).toInt ∧ (μ.1 3 4).toInt < _; (try simp only [eq_self, not_true_eq_false, not_false_eq_true, k_b0, k_b1, k_c0, k_cl, k_cg, k_cle, k_cge] at *) <;> (try simp only [eq_self, not_true_eq_false, not_false_eq_true, k_le, k_lt, k_eq, k_leL, k_ltL, k_eqL, k_il, li_m6, li_m5, li_m3, li_m2, li_m1, li_0, li_1, li_2, li_3, li_4, li_5, li_6, li_7, li_8, li_10, li_11, li_12, li_20, li_24, li_25, li_26, li_32, li_39, li_40, li_48, li_57, li_59, li_60, li_96, li_97, li_100, li_122, li_180, li_200, li_255, li_300, li_468, li_480, li_500, li_1000, li_2000, li_10000, li_10001, li_100000, li_1000000, li_100000000, lj_m1, lj_0, lj_1, lj_2, lj_3, lj_24, lj_39, lj_100, lj_500, lj_1000, lj_2000, lj_10000, lj_100000, lj_1000000, lj_100000000, lj_10, lj_20, lj_12, lj_32, lj_96] at *) <;> omega)) ?_
    refine k_aload_n dX6_tell_52 rfl rfl ?_
    refine k_dup dX6_tell_53 rfl rfl ?_
    refine k_getI fl_RX6_24 dX6_tell_54 rfl rfl rfl ?_
    refine k_iconst (v := 1) dX6_tell_57 rfl (by decide) ?_
    refine k_iadd dX6_tell_58 rfl ?_
    refine k_putI fw_RX6_24 dX6_tell_59 rfl rfl rfl ?_
    exact k_vret dX6_tell_62 rfl (by (repeat' split) <;> first | exact ⟨rfl, rfl⟩ | (exfalso; (try simp only [eq_self, not_true_eq_false, not_false_eq_true, k_b0, k_b1, k_c0, k_cl, k_cg, k_cle, k_cge] at *) <;> (try simp only [eq_self, not_true_eq_false, not_false_eq_true, k_le, k_lt, k_eq, k_leL, k_ltL, k_eqL, k_il, li_m6, li_m5, li_m3, li_m2, li_m1, li_0, li_1, li_2, li_3, li_4, li_5, li_6, li_7, li_8, li_10, li_11, li_12, li_20, li_24, li_25, li_26, li_32, li_39, li_40, li_48, li_57, li_59, li_60, li_96, li_97, li_100, li_122, li_180, li_200, li_255, li_300, li_468, li_480, li_500, li_1000, li_2000, li_10000, li_10001, li_100000, li_1000000, li_100000000, lj_m1, lj_0, lj_1, lj_2, lj_3, lj_24, lj_39, lj_100, lj_500, lj_1000, lj_2000, lj_10000, lj_100000, lj_1000000, lj_100000000, lj_10, lj_20, lj_12, lj_32, lj_96] at *) <;> omega))
  · skip
    exact k_vret dX6_tell_10 rfl (by (repeat' split) <;> first | exact ⟨rfl, rfl⟩ | (exfalso; (try simp only [eq_self, not_true_eq_false, not_false_eq_true, k_b0, k_b1, k_c0, k_cl, k_cg, k_cle, k_cge] at *) <;> (try simp only [eq_self, not_true_eq_false, not_false_eq_true, k_le, k_lt, k_eq, k_leL, k_ltL, k_eqL, k_il, li_m6, li_m5, li_m3, li_m2, li_m1, li_0, li_1, li_2, li_3, li_4, li_5, li_6, li_7, li_8, li_10, li_11, li_12, li_20, li_24, li_25, li_26, li_32, li_39, li_40, li_48, li_57, li_59, li_60, li_96, li_97, li_100, li_122, li_180, li_200, li_255, li_300, li_468, li_480, li_500, li_1000, li_2000, li_10000, li_10001, li_100000, li_1000000, li_100000000, lj_m1, lj_0, lj_1, lj_2, lj_3, lj_24, lj_39, lj_100, lj_500, lj_1000, lj_2000, lj_10000, lj_100000, lj_1000000, lj_100000000, lj_10, lj_20, lj_12, lj_32, lj_96] at *) <;> omega))

set_option maxHeartbeats 4000000 in
set_option maxRecDepth 100000 in
theorem ev_X9_put {a b c d : Int32} {μ : kH} (hz : 0 ≤ (μ.1 22 4).toInt) : Ev kX9_put [kr 22, ki a, ki b, ki c, ki d] μ (fun r h' => if 20 ≤ μ.1 22 4 then r = ku ∧ h' = μ else r = ku ∧ h' = hI (hI (hI (hI (hI μ 23 (μ.1 22 4).toNatClampNeg a) 24 (μ.1 22 4).toNatClampNeg b) 25 (μ.1 22 4).toNatClampNeg c) 26 (μ.1 22 4).toNatClampNeg d) 22 4 (μ.1 22 4 + 1)) := by
  refine k_ev (ls := [_, _, _, _, _]) (by decide) (Nat.le_of_ble_eq_true rfl) rfl ?_
  refine k_aload_n dX9_put_0 rfl rfl ?_
  refine k_callV0 dX9_put_1 rfl ml_RX9_28 rfl rfl ⟨(Nat.le_of_ble_eq_true rfl), (Nat.le_of_ble_eq_true rfl)⟩ (Nat.le_of_ble_eq_true rfl) ev_X9_isFull_22 (fun r_1 h_1 q_1 => ?_)
  obtain ⟨e_1, g_1⟩ := q_1
  rw [e_1, g_1]
  refine k_if_eq (tg := 8) dX9_put_4 rfl (by decide) (fun c_4 => ?_) (fun c_4 => ?_)
  · skip
    refine k_aload_n dX9_put_8 rfl rfl ?_
    refine k_getR fl_RX9_9 dX9_put_9 rfl rfl rfl ?_
    refine k_aload_n dX9_put_12 rfl rfl ?_
    refine k_getI fl_RX9_24 dX9_put_13 rfl rfl rfl ?_
    refine k_iload_n dX9_put_16 rfl rfl ?_
    refine k_iast dX9_put_17 rfl rfl (vp_in_iff.mpr (by show 0 ≤ (μ.1 22 4).toInt ∧ (μ.1 22 4).toInt < _; (try simp only [eq_self, not_true_eq_false, not_false_eq_true, k_b0, k_b1, k_c0, k_cl, k_cg, k_cle, k_cge] at *) <;> (try simp only [eq_self, not_true_eq_false, not_false_eq_true, k_le, k_lt, k_eq, k_leL, k_ltL, k_eqL, k_il, li_m6, li_m5, li_m3, li_m2, li_m1, li_0, li_1, li_2, li_3, li_4, li_5, li_6, li_7, li_8, li_10, li_11, li_12, li_20, li_24, li_25, li_26, li_32, li_39, li_40, li_48, li_57, li_59, li_60, li_96, li_97, li_100, li_122, li_180, li_200, li_255, li_300, li_468, li_480, li_500, li_1000, li_2000, li_10000, li_10001, li_100000, li_1000000, li_100000000, lj_m1, lj_0, lj_1, lj_2, lj_3, lj_24, lj_39, lj_100, lj_500, lj_1000, lj_2000, lj_10000, lj_100000, lj_1000000, lj_100000000, lj_10, lj_20, lj_12, lj_32, lj_96] at *) <;> omega)) ?_
    refine k_aload_n dX9_put_18 rfl rfl ?_
    refine k_getR fl_RX9_15 dX9_put_19 rfl rfl rfl ?_
    refine k_aload_n dX9_put_22 rfl rfl ?_
    refine k_getI fl_RX9_24 dX9_put_23 rfl rfl rfl ?_
    refine k_iload_n dX9_put_26 rfl rfl ?_
    refine k_iast dX9_put_27 rfl rfl (vp_in_iff.mpr (by show 0 ≤ (μ.1 22 4).toInt ∧ (μ.1 22 4).toInt < _; (try simp only [eq_self, not_true_eq_false, not_false_eq_true, k_b0, k_b1, k_c0, k_cl, k_cg, k_cle, k_cge] at *) <;> (try simp only [eq_self, not_true_eq_false, not_false_eq_true, k_le, k_lt, k_eq, k_leL, k_ltL, k_eqL, k_il, li_m6, li_m5, li_m3, li_m2, li_m1, li_0, li_1, li_2, li_3, li_4, li_5, li_6, li_7, li_8, li_10, li_11, li_12, li_20, li_24, li_25, li_26, li_32, li_39, li_40, li_48, li_57, li_59, li_60, li_96, li_97, li_100, li_122, li_180, li_200, li_255, li_300, li_468, li_480, li_500, li_1000, li_2000, li_10000, li_10001, li_100000, li_1000000, li_100000000, lj_m1, lj_0, lj_1, lj_2, lj_3, lj_24, lj_39, lj_100, lj_500, lj_1000, lj_2000, lj_10000, lj_100000, lj_1000000, lj_100000000, lj_10, lj_20, lj_12, lj_32, lj_96] at *) <;> omega)) ?_
    refine k_aload_n dX9_put_28 rfl rfl ?_
    refine k_getR fl_RX9_18 dX9_put_29 rfl rfl rfl ?_
    refine k_aload_n dX9_put_32 rfl rfl ?_
    refine k_getI fl_RX9_24 dX9_put_33 rfl rfl rfl ?_
    refine k_iload_n dX9_put_36 rfl rfl ?_
    refine k_iast dX9_put_37 rfl rfl (vp_in_iff.mpr (by show 0 ≤ (μ.1 22 4).toInt ∧ (μ.1 22 4).toInt < _; (try simp only [eq_self, not_true_eq_false, not_false_eq_true, k_b0, k_b1, k_c0, k_cl, k_cg, k_cle, k_cge] at *) <;> (try simp only [eq_self, not_true_eq_false, not_false_eq_true, k_le, k_lt, k_eq, k_leL, k_ltL, k_eqL, k_il, li_m6, li_m5, li_m3, li_m2, li_m1, li_0, li_1, li_2, li_3, li_4, li_5, li_6, li_7, li_8, li_10, li_11, li_12, li_20, li_24, li_25, li_26, li_32, li_39, li_40, li_48, li_57, li_59, li_60, li_96, li_97, li_100, li_122, li_180, li_200, li_255, li_300, li_468, li_480, li_500, li_1000, li_2000, li_10000, li_10001, li_100000, li_1000000, li_100000000, lj_m1, lj_0, lj_1, lj_2, lj_3, lj_24, lj_39, lj_100, lj_500, lj_1000, lj_2000, lj_10000, lj_100000, lj_1000000, lj_100000000, lj_10, lj_20, lj_12, lj_32, lj_96] at *) <;> omega)) ?_
    refine k_aload_n dX9_put_38 rfl rfl ?_
    refine k_getR fl_RX9_21 dX9_put_39 rfl rfl rfl ?_
    refine k_aload_n dX9_put_42 rfl rfl ?_
    refine k_getI fl_RX9_24 dX9_put_43 rfl rfl rfl ?_
    refine k_iload dX9_put_46 rfl rfl ?_
    refine k_iast dX9_put_48 rfl rfl (vp_in_iff.mpr (by show 0 ≤ (μ.1 22 4).toInt ∧ (μ.1 22 4).toInt < _; (try simp only [eq_self, not_true_eq_false, not_false_eq_true, k_b0, k_b1, k_c0, k_cl, k_cg, k_cle, k_cge] at *) <;> (try simp only [eq_self, not_true_eq_false, not_false_eq_true, k_le, k_lt, k_eq, k_leL, k_ltL, k_eqL, k_il, li_m6, li_m5, li_m3, li_m2, li_m1, li_0, li_1, li_2, li_3, li_4, li_5, li_6, li_7, li_8, li_10, li_11, li_12, li_20, li_24, li_25, li_26, li_32, li_39, li_40, li_48, li_57, li_59, li_60, li_96, li_97, li_100, li_122, li_180, li_200, li_255, li_300, li_468, li_480, li_500, li_1000, li_2000, li_10000, li_10001, li_100000, li_1000000, li_100000000, lj_m1, lj_0, lj_1, lj_2, lj_3, lj_24, lj_39, lj_100, lj_500, lj_1000, lj_2000, lj_10000, lj_100000, lj_1000000, lj_100000000, lj_10, lj_20, lj_12, lj_32, lj_96] at *) <;> omega)) ?_
    refine k_aload_n dX9_put_49 rfl rfl ?_
    refine k_dup dX9_put_50 rfl rfl ?_
    refine k_getI fl_RX9_24 dX9_put_51 rfl rfl rfl ?_
    refine k_iconst (v := 1) dX9_put_54 rfl (by decide) ?_
    refine k_iadd dX9_put_55 rfl ?_
    refine k_putI fw_RX9_24 dX9_put_56 rfl rfl rfl ?_
    exact k_vret dX9_put_59 rfl (by (repeat' split) <;> first | exact ⟨rfl, rfl⟩ | (exfalso; (try simp only [eq_self, not_true_eq_false, not_false_eq_true, k_b0, k_b1, k_c0, k_cl, k_cg, k_cle, k_cge] at *) <;> (try simp only [eq_self, not_true_eq_false, not_false_eq_true, k_le, k_lt, k_eq, k_leL, k_ltL, k_eqL, k_il, li_m6, li_m5, li_m3, li_m2, li_m1, li_0, li_1, li_2, li_3, li_4, li_5, li_6, li_7, li_8, li_10, li_11, li_12, li_20, li_24, li_25, li_26, li_32, li_39, li_40, li_48, li_57, li_59, li_60, li_96, li_97, li_100, li_122, li_180, li_200, li_255, li_300, li_468, li_480, li_500, li_1000, li_2000, li_10000, li_10001, li_100000, li_1000000, li_100000000, lj_m1, lj_0, lj_1, lj_2, lj_3, lj_24, lj_39, lj_100, lj_500, lj_1000, lj_2000, lj_10000, lj_100000, lj_1000000, lj_100000000, lj_10, lj_20, lj_12, lj_32, lj_96] at *) <;> omega))
  · skip
    exact k_vret dX9_put_7 rfl (by (repeat' split) <;> first | exact ⟨rfl, rfl⟩ | (exfalso; (try simp only [eq_self, not_true_eq_false, not_false_eq_true, k_b0, k_b1, k_c0, k_cl, k_cg, k_cle, k_cge] at *) <;> (try simp only [eq_self, not_true_eq_false, not_false_eq_true, k_le, k_lt, k_eq, k_leL, k_ltL, k_eqL, k_il, li_m6, li_m5, li_m3, li_m2, li_m1, li_0, li_1, li_2, li_3, li_4, li_5, li_6, li_7, li_8, li_10, li_11, li_12, li_20, li_24, li_25, li_26, li_32, li_39, li_40, li_48, li_57, li_59, li_60, li_96, li_97, li_100, li_122, li_180, li_200, li_255, li_300, li_468, li_480, li_500, li_1000, li_2000, li_10000, li_10001, li_100000, li_1000000, li_100000000, lj_m1, lj_0, lj_1, lj_2, lj_3, lj_24, lj_39, lj_100, lj_500, lj_1000, lj_2000, lj_10000, lj_100000, lj_1000000, lj_100000000, lj_10, lj_20, lj_12, lj_32, lj_96] at *) <;> omega))

set_option maxHeartbeats 4000000 in
set_option maxRecDepth 100000 in
theorem ev_X7_byteAt {p : Int32} {μ : kH} (hz : (μ.1 14 1).toInt ≤ 200) : Ev kX7_byteAt [kr 14, ki p] μ (fun r h' => r = ki (k_byte μ p) ∧ h' = μ) := by
  refine k_ev (ls := [_, _]) (by decide) (Nat.le_of_ble_eq_true rfl) rfl ?_
  refine k_iconst (v := 0) dX7_byteAt_0 rfl (by decide) ?_
  refine k_iload_n dX7_byteAt_1 rfl rfl ?_
  refine k_icmp_gt (tg := 22) dX7_byteAt_2 rfl (by decide) (fun c_2 => ?_) (fun c_2 => ?_)
  · skip
    refine k_iconst (v := (-1)) dX7_byteAt_22 rfl (by decide) ?_
    exact k_iret dX7_byteAt_23 rfl (by unfold k_byte; (repeat' split) <;> first | exact ⟨rfl, rfl⟩ | (exfalso; (try simp only [eq_self, not_true_eq_false, not_false_eq_true, k_b0, k_b1, k_c0, k_cl, k_cg, k_cle, k_cge] at *) <;> (try simp only [eq_self, not_true_eq_false, not_false_eq_true, k_le, k_lt, k_eq, k_leL, k_ltL, k_eqL, k_il, li_m6, li_m5, li_m3, li_m2, li_m1, li_0, li_1, li_2, li_3, li_4, li_5, li_6, li_7, li_8, li_10, li_11, li_12, li_20, li_24, li_25, li_26, li_32, li_39, li_40, li_48, li_57, li_59, li_60, li_96, li_97, li_100, li_122, li_180, li_200, li_255, li_300, li_468, li_480, li_500, li_1000, li_2000, li_10000, li_10001, li_100000, li_1000000, li_100000000, lj_m1, lj_0, lj_1, lj_2, lj_3, lj_24, lj_39, lj_100, lj_500, lj_1000, lj_2000, lj_10000, lj_100000, lj_1000000, lj_100000000, lj_10, lj_20, lj_12, lj_32, lj_96] at *) <;> omega))
  · skip
    refine k_iload_n dX7_byteAt_5 rfl rfl ?_
    refine k_aload_n dX7_byteAt_6 rfl rfl ?_
    refine k_getI fl_RX7_15 dX7_byteAt_7 rfl rfl rfl ?_
    refine k_icmp_ge (tg := 22) dX7_byteAt_10 rfl (by decide) (fun c_10 => ?_) (fun c_10 => ?_)
    · skip
      refine k_iconst (v := (-1)) dX7_byteAt_22 rfl (by decide) ?_
      exact k_iret dX7_byteAt_23 rfl (by unfold k_byte; (repeat' split) <;> first | exact ⟨rfl, rfl⟩ | (exfalso; (try simp only [eq_self, not_true_eq_false, not_false_eq_true, k_b0, k_b1, k_c0, k_cl, k_cg, k_cle, k_cge] at *) <;> (try simp only [eq_self, not_true_eq_false, not_false_eq_true, k_le, k_lt, k_eq, k_leL, k_ltL, k_eqL, k_il, li_m6, li_m5, li_m3, li_m2, li_m1, li_0, li_1, li_2, li_3, li_4, li_5, li_6, li_7, li_8, li_10, li_11, li_12, li_20, li_24, li_25, li_26, li_32, li_39, li_40, li_48, li_57, li_59, li_60, li_96, li_97, li_100, li_122, li_180, li_200, li_255, li_300, li_468, li_480, li_500, li_1000, li_2000, li_10000, li_10001, li_100000, li_1000000, li_100000000, lj_m1, lj_0, lj_1, lj_2, lj_3, lj_24, lj_39, lj_100, lj_500, lj_1000, lj_2000, lj_10000, lj_100000, lj_1000000, lj_100000000, lj_10, lj_20, lj_12, lj_32, lj_96] at *) <;> omega))
    · skip
      refine k_aload_n dX7_byteAt_13 rfl rfl ?_
      refine k_getR fl_RX7_9 dX7_byteAt_14 rfl rfl rfl ?_
      refine k_iload_n dX7_byteAt_17 rfl rfl ?_
      refine k_iald dX7_byteAt_18 rfl rfl (vp_in_iff.mpr (by first | assumption | ((try simp only [eq_self, not_true_eq_false, not_false_eq_true, k_b0, k_b1, k_c0, k_cl, k_cg, k_cle, k_cge] at *) <;> (try simp only [eq_self, not_true_eq_false, not_false_eq_true, k_le, k_lt, k_eq, k_leL, k_ltL, k_eqL, k_il, li_m6, li_m5, li_m3, li_m2, li_m1, li_0, li_1, li_2, li_3, li_4, li_5, li_6, li_7, li_8, li_10, li_11, li_12, li_20, li_24, li_25, li_26, li_32, li_39, li_40, li_48, li_57, li_59, li_60, li_96, li_97, li_100, li_122, li_180, li_200, li_255, li_300, li_468, li_480, li_500, li_1000, li_2000, li_10000, li_10001, li_100000, li_1000000, li_100000000, lj_m1, lj_0, lj_1, lj_2, lj_3, lj_24, lj_39, lj_100, lj_500, lj_1000, lj_2000, lj_10000, lj_100000, lj_1000000, lj_100000000, lj_10, lj_20, lj_12, lj_32, lj_96] at *) <;> omega))) ?_
      refine k_goto (tg := 23) dX7_byteAt_19 (by decide) ?_
      exact k_iret dX7_byteAt_23 rfl (by unfold k_byte; (repeat' split) <;> first | exact ⟨rfl, rfl⟩ | (exfalso; (try simp only [eq_self, not_true_eq_false, not_false_eq_true, k_b0, k_b1, k_c0, k_cl, k_cg, k_cle, k_cge] at *) <;> (try simp only [eq_self, not_true_eq_false, not_false_eq_true, k_le, k_lt, k_eq, k_leL, k_ltL, k_eqL, k_il, li_m6, li_m5, li_m3, li_m2, li_m1, li_0, li_1, li_2, li_3, li_4, li_5, li_6, li_7, li_8, li_10, li_11, li_12, li_20, li_24, li_25, li_26, li_32, li_39, li_40, li_48, li_57, li_59, li_60, li_96, li_97, li_100, li_122, li_180, li_200, li_255, li_300, li_468, li_480, li_500, li_1000, li_2000, li_10000, li_10001, li_100000, li_1000000, li_100000000, lj_m1, lj_0, lj_1, lj_2, lj_3, lj_24, lj_39, lj_100, lj_500, lj_1000, lj_2000, lj_10000, lj_100000, lj_1000000, lj_100000000, lj_10, lj_20, lj_12, lj_32, lj_96] at *) <;> omega))

set_option maxHeartbeats 4000000 in
set_option maxRecDepth 100000 in
theorem ev_X7_kindAt {p : Int32} {μ : kH} (hz : (μ.1 14 1).toInt ≤ 200) : Ev kX7_kindAt [kr 14, ki p] μ (fun r h' => r = ki (k_kind (k_byte μ p)) ∧ h' = μ) := by
  refine k_ev (ls := [_, _, _]) (by decide) (Nat.le_of_ble_eq_true rfl) rfl ?_
  refine k_aload_n dX7_kindAt_0 rfl rfl ?_
  refine k_iload_n dX7_kindAt_1 rfl rfl ?_
  refine k_callV1 dX7_kindAt_2 rfl ml_RX7_19 rfl rfl ⟨(Nat.le_of_ble_eq_true rfl), (Nat.le_of_ble_eq_true rfl)⟩ (Nat.le_of_ble_eq_true rfl) (ev_X7_byteAt hz) (fun r_2 h_2 q_2 => ?_)
  obtain ⟨e_2, g_2⟩ := q_2
  rw [e_2, g_2]
  refine k_istore_n (k0 := 0) (ls' := [_, _, _]) dX7_kindAt_5 rfl (by decide) rfl ?_
  refine k_iload_n dX7_kindAt_6 rfl rfl ?_
  refine k_bipush (v := 32) dX7_kindAt_7 rfl (by decide) ?_
  refine k_icmp_ne (tg := 14) dX7_kindAt_9 rfl (by decide) (fun c_9 => ?_) (fun c_9 => ?_)
  · skip
    refine k_bipush (v := 97) dX7_kindAt_14 rfl (by decide) ?_
    refine k_iload_n dX7_kindAt_16 rfl rfl ?_
    refine k_icmp_gt (tg := 28) dX7_kindAt_17 rfl (by decide) (fun c_17 => ?_) (fun c_17 => ?_)
    · skip
      refine k_bipush (v := 48) dX7_kindAt_28 rfl (by decide) ?_
      refine k_iload_n dX7_kindAt_30 rfl rfl ?_
      refine k_icmp_gt (tg := 44) dX7_kindAt_31 rfl (by decide) (fun c_31 => ?_) (fun c_31 => ?_)
      · skip
        refine k_iconst (v := 3) dX7_kindAt_44 rfl (by decide) ?_
        exact k_iret dX7_kindAt_45 rfl (by unfold k_kind; (repeat' split) <;> first | exact ⟨rfl, rfl⟩ | (exfalso; (try simp only [eq_self, not_true_eq_false, not_false_eq_true, k_b0, k_b1, k_c0, k_cl, k_cg, k_cle, k_cge] at *) <;> (try simp only [eq_self, not_true_eq_false, not_false_eq_true, k_le, k_lt, k_eq, k_leL, k_ltL, k_eqL, k_il, li_m6, li_m5, li_m3, li_m2, li_m1, li_0, li_1, li_2, li_3, li_4, li_5, li_6, li_7, li_8, li_10, li_11, li_12, li_20, li_24, li_25, li_26, li_32, li_39, li_40, li_48, li_57, li_59, li_60, li_96, li_97, li_100, li_122, li_180, li_200, li_255, li_300, li_468, li_480, li_500, li_1000, li_2000, li_10000, li_10001, li_100000, li_1000000, li_100000000, lj_m1, lj_0, lj_1, lj_2, lj_3, lj_24, lj_39, lj_100, lj_500, lj_1000, lj_2000, lj_10000, lj_100000, lj_1000000, lj_100000000, lj_10, lj_20, lj_12, lj_32, lj_96] at *) <;> omega))
      · skip
        refine k_iload_n dX7_kindAt_34 rfl rfl ?_
        refine k_bipush (v := 57) dX7_kindAt_35 rfl (by decide) ?_
        refine k_icmp_gt (tg := 44) dX7_kindAt_37 rfl (by decide) (fun c_37 => ?_) (fun c_37 => ?_)
        · skip
          refine k_iconst (v := 3) dX7_kindAt_44 rfl (by decide) ?_
          exact k_iret dX7_kindAt_45 rfl (by unfold k_kind; (repeat' split) <;> first | exact ⟨rfl, rfl⟩ | (exfalso; (try simp only [eq_self, not_true_eq_false, not_false_eq_true, k_b0, k_b1, k_c0, k_cl, k_cg, k_cle, k_cge] at *) <;> (try simp only [eq_self, not_true_eq_false, not_false_eq_true, k_le, k_lt, k_eq, k_leL, k_ltL, k_eqL, k_il, li_m6, li_m5, li_m3, li_m2, li_m1, li_0, li_1, li_2, li_3, li_4, li_5, li_6, li_7, li_8, li_10, li_11, li_12, li_20, li_24, li_25, li_26, li_32, li_39, li_40, li_48, li_57, li_59, li_60, li_96, li_97, li_100, li_122, li_180, li_200, li_255, li_300, li_468, li_480, li_500, li_1000, li_2000, li_10000, li_10001, li_100000, li_1000000, li_100000000, lj_m1, lj_0, lj_1, lj_2, lj_3, lj_24, lj_39, lj_100, lj_500, lj_1000, lj_2000, lj_10000, lj_100000, lj_1000000, lj_100000000, lj_10, lj_20, lj_12, lj_32, lj_96] at *) <;> omega))
        · skip
          refine k_iconst (v := 2) dX7_kindAt_40 rfl (by decide) ?_
          refine k_goto (tg := 45) dX7_kindAt_41 (by decide) ?_
          exact k_iret dX7_kindAt_45 rfl (by unfold k_kind; (repeat' split) <;> first | exact ⟨rfl, rfl⟩ | (exfalso; (try simp only [eq_self, not_true_eq_false, not_false_eq_true, k_b0, k_b1, k_c0, k_cl, k_cg, k_cle, k_cge] at *) <;> (try simp only [eq_self, not_true_eq_false, not_false_eq_true, k_le, k_lt, k_eq, k_leL, k_ltL, k_eqL, k_il, li_m6, li_m5, li_m3, li_m2, li_m1, li_0, li_1, li_2, li_3, li_4, li_5, li_6, li_7, li_8, li_10, li_11, li_12, li_20, li_24, li_25, li_26, li_32, li_39, li_40, li_48, li_57, li_59, li_60, li_96, li_97, li_100, li_122, li_180, li_200, li_255, li_300, li_468, li_480, li_500, li_1000, li_2000, li_10000, li_10001, li_100000, li_1000000, li_100000000, lj_m1, lj_0, lj_1, lj_2, lj_3, lj_24, lj_39, lj_100, lj_500, lj_1000, lj_2000, lj_10000, lj_100000, lj_1000000, lj_100000000, lj_10, lj_20, lj_12, lj_32, lj_96] at *) <;> omega))
    · skip
      refine k_iload_n dX7_kindAt_20 rfl rfl ?_
      refine k_bipush (v := 122) dX7_kindAt_21 rfl (by decide) ?_
      refine k_icmp_gt (tg := 28) dX7_kindAt_23 rfl (by decide) (fun c_23 => ?_) (fun c_23 => ?_)
      · skip
        refine k_bipush (v := 48) dX7_kindAt_28 rfl (by decide) ?_
        refine k_iload_n dX7_kindAt_30 rfl rfl ?_
        refine k_icmp_gt (tg := 44) dX7_kindAt_31 rfl (by decide) (fun c_31 => ?_) (fun c_31 => ?_)
        · skip
          refine k_iconst (v := 3) dX7_kindAt_44 rfl (by decide) ?_
          exact k_iret dX7_kindAt_45 rfl (by unfold k_kind; (repeat' split) <;> first | exact ⟨rfl, rfl⟩ | (exfalso; (try simp only [eq_self, not_true_eq_false, not_false_eq_true, k_b0, k_b1, k_c0, k_cl, k_cg, k_cle, k_cge] at *) <;> (try simp only [eq_self, not_true_eq_false, not_false_eq_true, k_le, k_lt, k_eq, k_leL, k_ltL, k_eqL, k_il, li_m6, li_m5, li_m3, li_m2, li_m1, li_0, li_1, li_2, li_3, li_4, li_5, li_6, li_7, li_8, li_10, li_11, li_12, li_20, li_24, li_25, li_26, li_32, li_39, li_40, li_48, li_57, li_59, li_60, li_96, li_97, li_100, li_122, li_180, li_200, li_255, li_300, li_468, li_480, li_500, li_1000, li_2000, li_10000, li_10001, li_100000, li_1000000, li_100000000, lj_m1, lj_0, lj_1, lj_2, lj_3, lj_24, lj_39, lj_100, lj_500, lj_1000, lj_2000, lj_10000, lj_100000, lj_1000000, lj_100000000, lj_10, lj_20, lj_12, lj_32, lj_96] at *) <;> omega))
        · skip
          refine k_iload_n dX7_kindAt_34 rfl rfl ?_
          refine k_bipush (v := 57) dX7_kindAt_35 rfl (by decide) ?_
          refine k_icmp_gt (tg := 44) dX7_kindAt_37 rfl (by decide) (fun c_37 => ?_) (fun c_37 => ?_)
          · skip
            refine k_iconst (v := 3) dX7_kindAt_44 rfl (by decide) ?_
            exact k_iret dX7_kindAt_45 rfl (by unfold k_kind; (repeat' split) <;> first | exact ⟨rfl, rfl⟩ | (exfalso; (try simp only [eq_self, not_true_eq_false, not_false_eq_true, k_b0, k_b1, k_c0, k_cl, k_cg, k_cle, k_cge] at *) <;> (try simp only [eq_self, not_true_eq_false, not_false_eq_true, k_le, k_lt, k_eq, k_leL, k_ltL, k_eqL, k_il, li_m6, li_m5, li_m3, li_m2, li_m1, li_0, li_1, li_2, li_3, li_4, li_5, li_6, li_7, li_8, li_10, li_11, li_12, li_20, li_24, li_25, li_26, li_32, li_39, li_40, li_48, li_57, li_59, li_60, li_96, li_97, li_100, li_122, li_180, li_200, li_255, li_300, li_468, li_480, li_500, li_1000, li_2000, li_10000, li_10001, li_100000, li_1000000, li_100000000, lj_m1, lj_0, lj_1, lj_2, lj_3, lj_24, lj_39, lj_100, lj_500, lj_1000, lj_2000, lj_10000, lj_100000, lj_1000000, lj_100000000, lj_10, lj_20, lj_12, lj_32, lj_96] at *) <;> omega))
          · skip
            refine k_iconst (v := 2) dX7_kindAt_40 rfl (by decide) ?_
            refine k_goto (tg := 45) dX7_kindAt_41 (by decide) ?_
            exact k_iret dX7_kindAt_45 rfl (by unfold k_kind; (repeat' split) <;> first | exact ⟨rfl, rfl⟩ | (exfalso; (try simp only [eq_self, not_true_eq_false, not_false_eq_true, k_b0, k_b1, k_c0, k_cl, k_cg, k_cle, k_cge] at *) <;> (try simp only [eq_self, not_true_eq_false, not_false_eq_true, k_le, k_lt, k_eq, k_leL, k_ltL, k_eqL, k_il, li_m6, li_m5, li_m3, li_m2, li_m1, li_0, li_1, li_2, li_3, li_4, li_5, li_6, li_7, li_8, li_10, li_11, li_12, li_20, li_24, li_25, li_26, li_32, li_39, li_40, li_48, li_57, li_59, li_60, li_96, li_97, li_100, li_122, li_180, li_200, li_255, li_300, li_468, li_480, li_500, li_1000, li_2000, li_10000, li_10001, li_100000, li_1000000, li_100000000, lj_m1, lj_0, lj_1, lj_2, lj_3, lj_24, lj_39, lj_100, lj_500, lj_1000, lj_2000, lj_10000, lj_100000, lj_1000000, lj_100000000, lj_10, lj_20, lj_12, lj_32, lj_96] at *) <;> omega))
      · skip
        refine k_iconst (v := 1) dX7_kindAt_26 rfl (by decide) ?_
        exact k_iret dX7_kindAt_27 rfl (by unfold k_kind; (repeat' split) <;> first | exact ⟨rfl, rfl⟩ | (exfalso; (try simp only [eq_self, not_true_eq_false, not_false_eq_true, k_b0, k_b1, k_c0, k_cl, k_cg, k_cle, k_cge] at *) <;> (try simp only [eq_self, not_true_eq_false, not_false_eq_true, k_le, k_lt, k_eq, k_leL, k_ltL, k_eqL, k_il, li_m6, li_m5, li_m3, li_m2, li_m1, li_0, li_1, li_2, li_3, li_4, li_5, li_6, li_7, li_8, li_10, li_11, li_12, li_20, li_24, li_25, li_26, li_32, li_39, li_40, li_48, li_57, li_59, li_60, li_96, li_97, li_100, li_122, li_180, li_200, li_255, li_300, li_468, li_480, li_500, li_1000, li_2000, li_10000, li_10001, li_100000, li_1000000, li_100000000, lj_m1, lj_0, lj_1, lj_2, lj_3, lj_24, lj_39, lj_100, lj_500, lj_1000, lj_2000, lj_10000, lj_100000, lj_1000000, lj_100000000, lj_10, lj_20, lj_12, lj_32, lj_96] at *) <;> omega))
  · skip
    refine k_iconst (v := 0) dX7_kindAt_12 rfl (by decide) ?_
    exact k_iret dX7_kindAt_13 rfl (by unfold k_kind; (repeat' split) <;> first | exact ⟨rfl, rfl⟩ | (exfalso; (try simp only [eq_self, not_true_eq_false, not_false_eq_true, k_b0, k_b1, k_c0, k_cl, k_cg, k_cle, k_cge] at *) <;> (try simp only [eq_self, not_true_eq_false, not_false_eq_true, k_le, k_lt, k_eq, k_leL, k_ltL, k_eqL, k_il, li_m6, li_m5, li_m3, li_m2, li_m1, li_0, li_1, li_2, li_3, li_4, li_5, li_6, li_7, li_8, li_10, li_11, li_12, li_20, li_24, li_25, li_26, li_32, li_39, li_40, li_48, li_57, li_59, li_60, li_96, li_97, li_100, li_122, li_180, li_200, li_255, li_300, li_468, li_480, li_500, li_1000, li_2000, li_10000, li_10001, li_100000, li_1000000, li_100000000, lj_m1, lj_0, lj_1, lj_2, lj_3, lj_24, lj_39, lj_100, lj_500, lj_1000, lj_2000, lj_10000, lj_100000, lj_1000000, lj_100000000, lj_10, lj_20, lj_12, lj_32, lj_96] at *) <;> omega))

set_option maxHeartbeats 4000000 in
set_option maxRecDepth 100000 in
theorem ev_X8_wrongHere {μ : kH} (hz : μ.1 21 7 < μ.1 21 6 → vp_in (μ.1 21 7) 200) : Ev kX8_wrongHere [kr 21] μ (fun r h' => r = ki 0 ∧ h' = hI μ 21 1 (if μ.1 21 7 < μ.1 21 6 then μ.1 27 (μ.1 21 7).toNatClampNeg else μ.1 14 1)) := by
  refine k_ev (ls := [_]) (by decide) (Nat.le_of_ble_eq_true rfl) rfl ?_
  refine k_aload_n dX8_wrongHere_0 rfl rfl ?_
  refine k_aload_n dX8_wrongHere_1 rfl rfl ?_
  refine k_getI fl_RX8_52 dX8_wrongHere_2 rfl rfl rfl ?_
  refine k_aload_n dX8_wrongHere_5 rfl rfl ?_
  refine k_getI fl_RX8_42 dX8_wrongHere_6 rfl rfl rfl ?_
  refine k_icmp_ge (tg := 24) dX8_wrongHere_9 rfl (by decide) (fun c_9 => ?_) (fun c_9 => ?_)
  · skip
    refine k_aload_n dX8_wrongHere_24 rfl rfl ?_
    refine k_getR fl_RX8_32 dX8_wrongHere_25 rfl rfl rfl ?_
    refine k_getI fl_RX8_57 dX8_wrongHere_28 rfl rfl rfl ?_
    refine k_putI fw_RX8_18 dX8_wrongHere_31 rfl rfl rfl ?_
    refine k_iconst (v := 0) dX8_wrongHere_34 rfl (by decide) ?_
    exact k_zret dX8_wrongHere_35 rfl (by first | decide | exact k_nz) (by (repeat' split) <;> first | exact ⟨rfl, rfl⟩ | (exfalso; (try simp only [eq_self, not_true_eq_false, not_false_eq_true, k_b0, k_b1, k_c0, k_cl, k_cg, k_cle, k_cge] at *) <;> (try simp only [eq_self, not_true_eq_false, not_false_eq_true, k_le, k_lt, k_eq, k_leL, k_ltL, k_eqL, k_il, li_m6, li_m5, li_m3, li_m2, li_m1, li_0, li_1, li_2, li_3, li_4, li_5, li_6, li_7, li_8, li_10, li_11, li_12, li_20, li_24, li_25, li_26, li_32, li_39, li_40, li_48, li_57, li_59, li_60, li_96, li_97, li_100, li_122, li_180, li_200, li_255, li_300, li_468, li_480, li_500, li_1000, li_2000, li_10000, li_10001, li_100000, li_1000000, li_100000000, lj_m1, lj_0, lj_1, lj_2, lj_3, lj_24, lj_39, lj_100, lj_500, lj_1000, lj_2000, lj_10000, lj_100000, lj_1000000, lj_100000000, lj_10, lj_20, lj_12, lj_32, lj_96] at *) <;> omega))
  · skip
    refine k_aload_n dX8_wrongHere_12 rfl rfl ?_
    refine k_getR fl_RX8_22 dX8_wrongHere_13 rfl rfl rfl ?_
    refine k_aload_n dX8_wrongHere_16 rfl rfl ?_
    refine k_getI fl_RX8_52 dX8_wrongHere_17 rfl rfl rfl ?_
    refine k_iald dX8_wrongHere_20 rfl rfl (hz (by (try simp only [eq_self, not_true_eq_false, not_false_eq_true, k_b0, k_b1, k_c0, k_cl, k_cg, k_cle, k_cge] at *) <;> (try simp only [eq_self, not_true_eq_false, not_false_eq_true, k_le, k_lt, k_eq, k_leL, k_ltL, k_eqL, k_il, li_m6, li_m5, li_m3, li_m2, li_m1, li_0, li_1, li_2, li_3, li_4, li_5, li_6, li_7, li_8, li_10, li_11, li_12, li_20, li_24, li_25, li_26, li_32, li_39, li_40, li_48, li_57, li_59, li_60, li_96, li_97, li_100, li_122, li_180, li_200, li_255, li_300, li_468, li_480, li_500, li_1000, li_2000, li_10000, li_10001, li_100000, li_1000000, li_100000000, lj_m1, lj_0, lj_1, lj_2, lj_3, lj_24, lj_39, lj_100, lj_500, lj_1000, lj_2000, lj_10000, lj_100000, lj_1000000, lj_100000000, lj_10, lj_20, lj_12, lj_32, lj_96] at *) <;> omega)) ?_
    refine k_goto (tg := 31) dX8_wrongHere_21 (by decide) ?_
    refine k_putI fw_RX8_18 dX8_wrongHere_31 rfl rfl rfl ?_
    refine k_iconst (v := 0) dX8_wrongHere_34 rfl (by decide) ?_
    exact k_zret dX8_wrongHere_35 rfl (by first | decide | exact k_nz) (by (repeat' split) <;> first | exact ⟨rfl, rfl⟩ | (exfalso; (try simp only [eq_self, not_true_eq_false, not_false_eq_true, k_b0, k_b1, k_c0, k_cl, k_cg, k_cle, k_cge] at *) <;> (try simp only [eq_self, not_true_eq_false, not_false_eq_true, k_le, k_lt, k_eq, k_leL, k_ltL, k_eqL, k_il, li_m6, li_m5, li_m3, li_m2, li_m1, li_0, li_1, li_2, li_3, li_4, li_5, li_6, li_7, li_8, li_10, li_11, li_12, li_20, li_24, li_25, li_26, li_32, li_39, li_40, li_48, li_57, li_59, li_60, li_96, li_97, li_100, li_122, li_180, li_200, li_255, li_300, li_468, li_480, li_500, li_1000, li_2000, li_10000, li_10001, li_100000, li_1000000, li_100000000, lj_m1, lj_0, lj_1, lj_2, lj_3, lj_24, lj_39, lj_100, lj_500, lj_1000, lj_2000, lj_10000, lj_100000, lj_1000000, lj_100000000, lj_10, lj_20, lj_12, lj_32, lj_96] at *) <;> omega))

set_option maxHeartbeats 4000000 in
set_option maxRecDepth 100000 in
theorem ev_X5_worthIn {n : Int32} {μ : kH} (hz : vp_in n 26) (hy : vp_in (k_next n) 26) : Ev kX5_worthIn [kr 30, ki n] μ (fun r h' => r = kl (μ.2 33 n.toNatClampNeg + μ.2 35 (k_next n).toNatClampNeg) ∧ h' = μ) := by
  refine k_ev (ls := [_, _]) (by decide) (Nat.le_of_ble_eq_true rfl) rfl ?_
  refine k_aload_n dX5_worthIn_0 rfl rfl ?_
  refine k_getR fl_RX5_22 dX5_worthIn_1 rfl rfl rfl ?_
  refine k_iload_n dX5_worthIn_4 rfl rfl ?_
  refine k_lald dX5_worthIn_5 rfl rfl (by assumption) ?_
  refine k_aload_n dX5_worthIn_6 rfl rfl ?_
  refine k_getR fl_RX5_29 dX5_worthIn_7 rfl rfl rfl ?_
  refine k_iload_n dX5_worthIn_10 rfl rfl ?_
  refine k_callS1 dX5_worthIn_11 rfl ml_RX5_113 ⟨(Nat.le_of_ble_eq_true rfl), (Nat.le_of_ble_eq_true rfl)⟩ (Nat.le_of_ble_eq_true rfl) ev_X5_nextOf (fun r_11 h_11 q_11 => ?_)
  obtain ⟨e_11, g_11⟩ := q_11
  rw [e_11, g_11]
  refine k_lald dX5_worthIn_14 rfl rfl (by assumption) ?_
  refine k_ladd dX5_worthIn_15 rfl ?_
  exact k_lret dX5_worthIn_16 rfl ⟨rfl, rfl⟩

set_option maxHeartbeats 4000000 in
set_option maxRecDepth 100000 in
theorem ev_X9_become  {μ : kH} : Ev kX9_become [kr 16, kr 22] μ (fun r h' => r = ku ∧ h' = hI (hs (hs (hs (hs μ.1 17 (va_cpy (μ.1 23) (μ.1 17) 0 0 20)) 18 (va_cpy (μ.1 24) (μ.1 18) 0 0 20)) 19 (va_cpy (μ.1 25) (μ.1 19) 0 0 20)) 20 (va_cpy (μ.1 26) (μ.1 20) 0 0 20), μ.2) 16 4 (μ.1 22 4)) := by
  refine k_ev (ls := [_, _]) (by decide) (Nat.le_of_ble_eq_true rfl) rfl ?_
  refine k_aload_n dX9_become_0 rfl rfl ?_
  refine k_getR fl_RX9_9 dX9_become_1 rfl rfl rfl ?_
  refine k_iconst (v := 0) dX9_become_4 rfl (by decide) ?_
  refine k_aload_n dX9_become_5 rfl rfl ?_
  refine k_getR fl_RX9_9 dX9_become_6 rfl rfl rfl ?_
  refine k_iconst (v := 0) dX9_become_9 rfl (by decide) ?_
  refine k_bipush (v := 20) dX9_become_10 rfl (by decide) ?_
  refine k_copyI dX9_become_12 rfl ks_cp_RX9_32 rfl rfl (by decide) (by decide) (by decide) (by decide) (by decide) ⟨(Nat.le_of_ble_eq_true rfl), (Nat.le_of_ble_eq_true rfl)⟩ (Nat.le_of_ble_eq_true rfl) ?_
  refine k_aload_n dX9_become_15 rfl rfl ?_
  refine k_getR fl_RX9_15 dX9_become_16 rfl rfl rfl ?_
  refine k_iconst (v := 0) dX9_become_19 rfl (by decide) ?_
  refine k_aload_n dX9_become_20 rfl rfl ?_
  refine k_getR fl_RX9_15 dX9_become_21 rfl rfl rfl ?_
  refine k_iconst (v := 0) dX9_become_24 rfl (by decide) ?_
  refine k_bipush (v := 20) dX9_become_25 rfl (by decide) ?_
  refine k_copyI dX9_become_27 rfl ks_cp_RX9_32 rfl rfl (by decide) (by decide) (by decide) (by decide) (by decide) ⟨(Nat.le_of_ble_eq_true rfl), (Nat.le_of_ble_eq_true rfl)⟩ (Nat.le_of_ble_eq_true rfl) ?_
  refine k_aload_n dX9_become_30 rfl rfl ?_
  refine k_getR fl_RX9_18 dX9_become_31 rfl rfl rfl ?_
  refine k_iconst (v := 0) dX9_become_34 rfl (by decide) ?_
  refine k_aload_n dX9_become_35 rfl rfl ?_
  refine k_getR fl_RX9_18 dX9_become_36 rfl rfl rfl ?_
  refine k_iconst (v := 0) dX9_become_39 rfl (by decide) ?_
  refine k_bipush (v := 20) dX9_become_40 rfl (by decide) ?_
  refine k_copyI dX9_become_42 rfl ks_cp_RX9_32 rfl rfl (by decide) (by decide) (by decide) (by decide) (by decide) ⟨(Nat.le_of_ble_eq_true rfl), (Nat.le_of_ble_eq_true rfl)⟩ (Nat.le_of_ble_eq_true rfl) ?_
  refine k_aload_n dX9_become_45 rfl rfl ?_
  refine k_getR fl_RX9_21 dX9_become_46 rfl rfl rfl ?_
  refine k_iconst (v := 0) dX9_become_49 rfl (by decide) ?_
  refine k_aload_n dX9_become_50 rfl rfl ?_
  refine k_getR fl_RX9_21 dX9_become_51 rfl rfl rfl ?_
  refine k_iconst (v := 0) dX9_become_54 rfl (by decide) ?_
  refine k_bipush (v := 20) dX9_become_55 rfl (by decide) ?_
  refine k_copyI dX9_become_57 rfl ks_cp_RX9_32 rfl rfl (by decide) (by decide) (by decide) (by decide) (by decide) ⟨(Nat.le_of_ble_eq_true rfl), (Nat.le_of_ble_eq_true rfl)⟩ (Nat.le_of_ble_eq_true rfl) ?_
  refine k_aload_n dX9_become_60 rfl rfl ?_
  refine k_aload_n dX9_become_61 rfl rfl ?_
  refine k_getI fl_RX9_24 dX9_become_62 rfl rfl rfl ?_
  refine k_putI fw_RX9_24 dX9_become_65 rfl rfl rfl ?_
  exact k_vret dX9_become_68 rfl ⟨rfl, rfl⟩

