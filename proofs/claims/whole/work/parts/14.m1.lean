theorem k_topi {t : kM} {pc : Nat} {ls st : List kV} {μ : kH} {Φ : Nat → List kV → List kV → kH → Prop} {x : Int32} (kk : ∀ y : Int32, y = x → At t pc ls (ki y :: st) μ Φ) : At t pc ls (ki x :: st) μ Φ := kk x rfl
theorem k_topl {t : kM} {pc : Nat} {ls st : List kV} {μ : kH} {Φ : Nat → List kV → List kV → kH → Prop} {x : Int64} (kk : ∀ y : Int64, y = x → At t pc ls (kl y :: st) μ Φ) : At t pc ls (kl x :: st) μ Φ := kk x rfl
theorem k_le {a b : Int32} : a ≤ b ↔ a.toInt ≤ b.toInt := Int32.le_iff_toInt_le
theorem k_lt {a b : Int32} : a < b ↔ a.toInt < b.toInt := Int32.lt_iff_toInt_lt
theorem k_eq {a b : Int32} : a = b ↔ a.toInt = b.toInt := Int32.toInt_inj.symm
theorem k_leL {a b : Int64} : a ≤ b ↔ a.toInt ≤ b.toInt := Int64.le_iff_toInt_le
theorem k_ltL {a b : Int64} : a < b ↔ a.toInt < b.toInt := Int64.lt_iff_toInt_lt
theorem k_eqL {a b : Int64} : a = b ↔ a.toInt = b.toInt := Int64.toInt_inj.symm
theorem k_il (a : Int32) : a.toInt64.toInt = a.toInt := Int32.toInt_toInt64 a
theorem k_b0 {p : Prop} [Decidable p] : (if p then (1 : Int32) else 0) = 0 ↔ ¬ p := by by_cases μ : p <;> simp [μ]
theorem k_b1 {p : Prop} [Decidable p] : ¬ (if p then (1 : Int32) else 0) = 0 ↔ p := by by_cases μ : p <;> simp [μ]
theorem k_c0 {x y : Int64} : (lg_cmp x y = 0) ↔ x = y := by unfold lg_cmp; split <;> (try split) <;> simp_all [k_ltL, k_eqL] <;> omega
theorem k_cl {x y : Int64} : (lg_cmp x y < 0) ↔ x < y := by unfold lg_cmp; split <;> (try split) <;> simp_all [k_ltL, k_eqL] <;> first | decide | omega | skip
theorem k_cg {x y : Int64} : (0 < lg_cmp x y) ↔ y < x := by unfold lg_cmp; split <;> (try split) <;> simp_all [k_ltL, k_eqL] <;> first | decide | omega | skip
theorem k_cle {x y : Int64} : (lg_cmp x y ≤ 0) ↔ x ≤ y := by unfold lg_cmp; split <;> (try split) <;> simp_all [k_ltL, k_eqL, k_leL] <;> first | decide | omega | skip
theorem k_cge {x y : Int64} : (0 ≤ lg_cmp x y) ↔ y ≤ x := by unfold lg_cmp; split <;> (try split) <;> simp_all [k_ltL, k_eqL, k_leL] <;> first | decide | omega | skip

theorem li_m6 : ((-6) : Int32).toInt = (-6) := by decide
theorem li_m5 : ((-5) : Int32).toInt = (-5) := by decide
theorem li_m3 : ((-3) : Int32).toInt = (-3) := by decide
theorem li_m2 : ((-2) : Int32).toInt = (-2) := by decide
theorem li_m1 : ((-1) : Int32).toInt = (-1) := by decide
theorem li_0 : (0 : Int32).toInt = 0 := by decide
theorem li_1 : (1 : Int32).toInt = 1 := by decide
theorem li_2 : (2 : Int32).toInt = 2 := by decide
theorem li_3 : (3 : Int32).toInt = 3 := by decide
theorem li_4 : (4 : Int32).toInt = 4 := by decide
theorem li_5 : (5 : Int32).toInt = 5 := by decide
theorem li_6 : (6 : Int32).toInt = 6 := by decide
theorem li_7 : (7 : Int32).toInt = 7 := by decide
theorem li_8 : (8 : Int32).toInt = 8 := by decide
theorem li_10 : (10 : Int32).toInt = 10 := by decide
theorem li_11 : (11 : Int32).toInt = 11 := by decide
theorem li_12 : (12 : Int32).toInt = 12 := by decide
theorem li_20 : (20 : Int32).toInt = 20 := by decide
theorem li_24 : (24 : Int32).toInt = 24 := by decide
theorem li_25 : (25 : Int32).toInt = 25 := by decide
theorem li_26 : (26 : Int32).toInt = 26 := by decide
theorem li_32 : (32 : Int32).toInt = 32 := by decide
theorem li_39 : (39 : Int32).toInt = 39 := by decide
theorem li_40 : (40 : Int32).toInt = 40 := by decide
theorem li_48 : (48 : Int32).toInt = 48 := by decide
theorem li_57 : (57 : Int32).toInt = 57 := by decide
theorem li_59 : (59 : Int32).toInt = 59 := by decide
theorem li_60 : (60 : Int32).toInt = 60 := by decide
theorem li_96 : (96 : Int32).toInt = 96 := by decide
theorem li_97 : (97 : Int32).toInt = 97 := by decide
theorem li_100 : (100 : Int32).toInt = 100 := by decide
theorem li_122 : (122 : Int32).toInt = 122 := by decide
theorem li_180 : (180 : Int32).toInt = 180 := by decide
theorem li_200 : (200 : Int32).toInt = 200 := by decide
theorem li_255 : (255 : Int32).toInt = 255 := by decide
theorem li_300 : (300 : Int32).toInt = 300 := by decide
theorem li_468 : (468 : Int32).toInt = 468 := by decide
theorem li_480 : (480 : Int32).toInt = 480 := by decide
theorem li_500 : (500 : Int32).toInt = 500 := by decide
theorem li_1000 : (1000 : Int32).toInt = 1000 := by decide
theorem li_2000 : (2000 : Int32).toInt = 2000 := by decide
theorem li_10000 : (10000 : Int32).toInt = 10000 := by decide
theorem li_10001 : (10001 : Int32).toInt = 10001 := by decide
theorem li_100000 : (100000 : Int32).toInt = 100000 := by decide
theorem li_1000000 : (1000000 : Int32).toInt = 1000000 := by decide
theorem li_100000000 : (100000000 : Int32).toInt = 100000000 := by decide
theorem lj_m1 : ((-1) : Int64).toInt = (-1) := by decide
theorem lj_0 : (0 : Int64).toInt = 0 := by decide
theorem lj_1 : (1 : Int64).toInt = 1 := by decide
theorem lj_2 : (2 : Int64).toInt = 2 := by decide
theorem lj_3 : (3 : Int64).toInt = 3 := by decide
theorem lj_24 : (24 : Int64).toInt = 24 := by decide
theorem lj_39 : (39 : Int64).toInt = 39 := by decide
theorem lj_100 : (100 : Int64).toInt = 100 := by decide
theorem lj_500 : (500 : Int64).toInt = 500 := by decide
theorem lj_1000 : (1000 : Int64).toInt = 1000 := by decide
theorem lj_2000 : (2000 : Int64).toInt = 2000 := by decide
theorem lj_10000 : (10000 : Int64).toInt = 10000 := by decide
theorem lj_100000 : (100000 : Int64).toInt = 100000 := by decide
theorem lj_1000000 : (1000000 : Int64).toInt = 1000000 := by decide
theorem lj_100000000 : (100000000 : Int64).toInt = 100000000 := by decide
theorem lj_10 : (10 : Int64).toInt = 10 := by decide
theorem lj_20 : (20 : Int64).toInt = 20 := by decide
theorem lj_12 : (12 : Int64).toInt = 12 := by decide
theorem lj_32 : (32 : Int64).toInt = 32 := by decide
theorem lj_96 : (96 : Int64).toInt = 96 := by decide
theorem k_nz {p : Prop} [Decidable p] : narrow .boolean (.int (if p then 1 else 0)) = .int (if p then 1 else 0) := by by_cases μ : p <;> simp only [μ, if_true, if_false] <;> rfl
set_option maxHeartbeats 4000000 in
set_option maxRecDepth 100000 in
theorem ev_X10_within {n lo hi : Int32} {μ : kH} : Ev kX10_within [ki n, ki lo, ki hi] μ (fun r h' => r = ki (if lo ≤ n ∧ n ≤ hi then 1 else 0) ∧ h' = μ) := by
  refine k_ev (ls := [_, _, _]) (by decide) (Nat.le_of_ble_eq_true rfl) rfl ?_
  refine k_iload_n dX10_within_0 rfl rfl ?_
  refine k_iload_n dX10_within_1 rfl rfl ?_
  refine k_icmp_gt (tg := 14) dX10_within_2 rfl (by decide) (fun c_2 => ?_) (fun c_2 => ?_)
  · skip
    refine k_iconst (v := 0) dX10_within_14 rfl (by decide) ?_
    exact k_zret dX10_within_15 rfl (by first | decide | exact k_nz) (by (repeat' split) <;> first | exact ⟨rfl, rfl⟩ | (exfalso; (try simp only [eq_self, not_true_eq_false, not_false_eq_true, k_b0, k_b1, k_c0, k_cl, k_cg, k_cle, k_cge] at *) <;> (try simp only [eq_self, not_true_eq_false, not_false_eq_true, k_le, k_lt, k_eq, k_leL, k_ltL, k_eqL, k_il, li_m6, li_m5, li_m3, li_m2, li_m1, li_0, li_1, li_2, li_3, li_4, li_5, li_6, li_7, li_8, li_10, li_11, li_12, li_20, li_24, li_25, li_26, li_32, li_39, li_40, li_48, li_57, li_59, li_60, li_96, li_97, li_100, li_122, li_180, li_200, li_255, li_300, li_468, li_480, li_500, li_1000, li_2000, li_10000, li_10001, li_100000, li_1000000, li_100000000, lj_m1, lj_0, lj_1, lj_2, lj_3, lj_24, lj_39, lj_100, lj_500, lj_1000, lj_2000, lj_10000, lj_100000, lj_1000000, lj_100000000, lj_10, lj_20, lj_12, lj_32, lj_96] at *) <;> omega))
  · skip
    refine k_iload_n dX10_within_5 rfl rfl ?_
    refine k_iload_n dX10_within_6 rfl rfl ?_
    refine k_icmp_gt (tg := 14) dX10_within_7 rfl (by decide) (fun c_7 => ?_) (fun c_7 => ?_)
    · skip
      refine k_iconst (v := 0) dX10_within_14 rfl (by decide) ?_
      exact k_zret dX10_within_15 rfl (by first | decide | exact k_nz) (by (repeat' split) <;> first | exact ⟨rfl, rfl⟩ | (exfalso; (try simp only [eq_self, not_true_eq_false, not_false_eq_true, k_b0, k_b1, k_c0, k_cl, k_cg, k_cle, k_cge] at *) <;> (try simp only [eq_self, not_true_eq_false, not_false_eq_true, k_le, k_lt, k_eq, k_leL, k_ltL, k_eqL, k_il, li_m6, li_m5, li_m3, li_m2, li_m1, li_0, li_1, li_2, li_3, li_4, li_5, li_6, li_7, li_8, li_10, li_11, li_12, li_20, li_24, li_25, li_26, li_32, li_39, li_40, li_48, li_57, li_59, li_60, li_96, li_97, li_100, li_122, li_180, li_200, li_255, li_300, li_468, li_480, li_500, li_1000, li_2000, li_10000, li_10001, li_100000, li_1000000, li_100000000, lj_m1, lj_0, lj_1, lj_2, lj_3, lj_24, lj_39, lj_100, lj_500, lj_1000, lj_2000, lj_10000, lj_100000, lj_1000000, lj_100000000, lj_10, lj_20, lj_12, lj_32, lj_96] at *) <;> omega))
    · skip
      refine k_iconst (v := 1) dX10_within_10 rfl (by decide) ?_
      refine k_goto (tg := 15) dX10_within_11 (by decide) ?_
      exact k_zret dX10_within_15 rfl (by first | decide | exact k_nz) (by (repeat' split) <;> first | exact ⟨rfl, rfl⟩ | (exfalso; (try simp only [eq_self, not_true_eq_false, not_false_eq_true, k_b0, k_b1, k_c0, k_cl, k_cg, k_cle, k_cge] at *) <;> (try simp only [eq_self, not_true_eq_false, not_false_eq_true, k_le, k_lt, k_eq, k_leL, k_ltL, k_eqL, k_il, li_m6, li_m5, li_m3, li_m2, li_m1, li_0, li_1, li_2, li_3, li_4, li_5, li_6, li_7, li_8, li_10, li_11, li_12, li_20, li_24, li_25, li_26, li_32, li_39, li_40, li_48, li_57, li_59, li_60, li_96, li_97, li_100, li_122, li_180, li_200, li_255, li_300, li_468, li_480, li_500, li_1000, li_2000, li_10000, li_10001, li_100000, li_1000000, li_100000000, lj_m1, lj_0, lj_1, lj_2, lj_3, lj_24, lj_39, lj_100, lj_500, lj_1000, lj_2000, lj_10000, lj_100000, lj_1000000, lj_100000000, lj_10, lj_20, lj_12, lj_32, lj_96] at *) <;> omega))

set_option maxHeartbeats 4000000 in
set_option maxRecDepth 100000 in
theorem ev_X10_isSort {n : Int32} {μ : kH} : Ev kX10_isSort [ki n] μ (fun r h' => r = ki (if 0 ≤ n ∧ n ≤ 3 then 1 else 0) ∧ h' = μ) := by
  refine k_ev (ls := [_]) (by decide) (Nat.le_of_ble_eq_true rfl) rfl ?_
  refine k_iload_n dX10_isSort_0 rfl rfl ?_
  refine k_iconst (v := 0) dX10_isSort_1 rfl (by decide) ?_
  refine k_iconst (v := 3) dX10_isSort_2 rfl (by decide) ?_
  refine k_callS3 dX10_isSort_3 rfl ml_RX10_85 ⟨(Nat.le_of_ble_eq_true rfl), (Nat.le_of_ble_eq_true rfl)⟩ (Nat.le_of_ble_eq_true rfl) ev_X10_within (fun r_3 h_3 q_3 => ?_)
  obtain ⟨e_3, g_3⟩ := q_3
  rw [e_3, g_3]
  exact k_zret dX10_isSort_6 rfl (by first | decide | exact k_nz) ⟨rfl, rfl⟩

set_option maxHeartbeats 4000000 in
set_option maxRecDepth 100000 in
theorem ev_X10_isYear {n : Int32} {μ : kH} : Ev kX10_isYear [ki n] μ (fun r h' => r = ki (if 0 ≤ n ∧ n ≤ 39 then 1 else 0) ∧ h' = μ) := by
  refine k_ev (ls := [_]) (by decide) (Nat.le_of_ble_eq_true rfl) rfl ?_
  refine k_iload_n dX10_isYear_0 rfl rfl ?_
  refine k_iconst (v := 0) dX10_isYear_1 rfl (by decide) ?_
  refine k_bipush (v := 39) dX10_isYear_2 rfl (by decide) ?_
  refine k_callS3 dX10_isYear_4 rfl ml_RX10_85 ⟨(Nat.le_of_ble_eq_true rfl), (Nat.le_of_ble_eq_true rfl)⟩ (Nat.le_of_ble_eq_true rfl) ev_X10_within (fun r_4 h_4 q_4 => ?_)
  obtain ⟨e_4, g_4⟩ := q_4
  rw [e_4, g_4]
  exact k_zret dX10_isYear_7 rfl (by first | decide | exact k_nz) ⟨rfl, rfl⟩

set_option maxHeartbeats 4000000 in
set_option maxRecDepth 100000 in
theorem ev_X10_olderThan {n : Int32} {μ : kH} : Ev kX10_olderThan [ki n] μ (fun r h' => r = ki (if n = -1 then -1 else if 24 < n + 1 then 24 else n + 1) ∧ h' = μ) := by
  refine k_ev (ls := [_]) (by decide) (Nat.le_of_ble_eq_true rfl) rfl ?_
  refine k_iload_n dX10_olderThan_0 rfl rfl ?_
  refine k_iconst (v := (-1)) dX10_olderThan_1 rfl (by decide) ?_
  refine k_icmp_ne (tg := 9) dX10_olderThan_2 rfl (by decide) (fun c_2 => ?_) (fun c_2 => ?_)
  · skip
    refine k_iload_n dX10_olderThan_9 rfl rfl ?_
    refine k_iconst (v := 1) dX10_olderThan_10 rfl (by decide) ?_
    refine k_iadd dX10_olderThan_11 rfl ?_
    refine k_bipush (v := 24) dX10_olderThan_12 rfl (by decide) ?_
    refine k_mmin dX10_olderThan_14 rfl ks_min_RX10_255 ⟨(Nat.le_of_ble_eq_true rfl), (Nat.le_of_ble_eq_true rfl)⟩ (Nat.le_of_ble_eq_true rfl) ?_
    exact k_iret dX10_olderThan_17 rfl (by (repeat' split) <;> first | exact ⟨rfl, rfl⟩ | (exfalso; (try simp only [eq_self, not_true_eq_false, not_false_eq_true, k_b0, k_b1, k_c0, k_cl, k_cg, k_cle, k_cge] at *) <;> (try simp only [eq_self, not_true_eq_false, not_false_eq_true, k_le, k_lt, k_eq, k_leL, k_ltL, k_eqL, k_il, li_m6, li_m5, li_m3, li_m2, li_m1, li_0, li_1, li_2, li_3, li_4, li_5, li_6, li_7, li_8, li_10, li_11, li_12, li_20, li_24, li_25, li_26, li_32, li_39, li_40, li_48, li_57, li_59, li_60, li_96, li_97, li_100, li_122, li_180, li_200, li_255, li_300, li_468, li_480, li_500, li_1000, li_2000, li_10000, li_10001, li_100000, li_1000000, li_100000000, lj_m1, lj_0, lj_1, lj_2, lj_3, lj_24, lj_39, lj_100, lj_500, lj_1000, lj_2000, lj_10000, lj_100000, lj_1000000, lj_100000000, lj_10, lj_20, lj_12, lj_32, lj_96] at *) <;> omega))
  · skip
    refine k_iconst (v := (-1)) dX10_olderThan_5 rfl (by decide) ?_
    refine k_goto (tg := 17) dX10_olderThan_6 (by decide) ?_
    exact k_iret dX10_olderThan_17 rfl (by (repeat' split) <;> first | exact ⟨rfl, rfl⟩ | (exfalso; (try simp only [eq_self, not_true_eq_false, not_false_eq_true, k_b0, k_b1, k_c0, k_cl, k_cg, k_cle, k_cge] at *) <;> (try simp only [eq_self, not_true_eq_false, not_false_eq_true, k_le, k_lt, k_eq, k_leL, k_ltL, k_eqL, k_il, li_m6, li_m5, li_m3, li_m2, li_m1, li_0, li_1, li_2, li_3, li_4, li_5, li_6, li_7, li_8, li_10, li_11, li_12, li_20, li_24, li_25, li_26, li_32, li_39, li_40, li_48, li_57, li_59, li_60, li_96, li_97, li_100, li_122, li_180, li_200, li_255, li_300, li_468, li_480, li_500, li_1000, li_2000, li_10000, li_10001, li_100000, li_1000000, li_100000000, lj_m1, lj_0, lj_1, lj_2, lj_3, lj_24, lj_39, lj_100, lj_500, lj_1000, lj_2000, lj_10000, lj_100000, lj_1000000, lj_100000000, lj_10, lj_20, lj_12, lj_32, lj_96] at *) <;> omega))

set_option maxHeartbeats 4000000 in
set_option maxRecDepth 100000 in
theorem ev_X10_refused {n : Int32} {μ : kH} : Ev kX10_refused [kr 0, ki n] μ (fun r h' => r = ki n ∧ h' = hI μ 0 11 n) := by
  refine k_ev (ls := [_, _]) (by decide) (Nat.le_of_ble_eq_true rfl) rfl ?_
  refine k_aload_n dX10_refused_0 rfl rfl ?_
  refine k_iload_n dX10_refused_1 rfl rfl ?_
  refine k_putI fw_RX10_242 dX10_refused_2 rfl rfl rfl ?_
  refine k_iload_n dX10_refused_5 rfl rfl ?_
  exact k_iret dX10_refused_6 rfl ⟨rfl, rfl⟩

set_option maxHeartbeats 4000000 in
set_option maxRecDepth 100000 in
theorem ev_X10_done {n : Int32} {μ : kH} : Ev kX10_done [kr 0, ki n] μ (fun r h' => r = ki n ∧ h' = hI μ 0 11 0) := by
  refine k_ev (ls := [_, _]) (by decide) (Nat.le_of_ble_eq_true rfl) rfl ?_
  refine k_aload_n dX10_done_0 rfl rfl ?_
  refine k_iconst (v := 0) dX10_done_1 rfl (by decide) ?_
  refine k_putI fw_RX10_242 dX10_done_2 rfl rfl rfl ?_
  refine k_iload_n dX10_done_5 rfl rfl ?_
  exact k_iret dX10_done_6 rfl ⟨rfl, rfl⟩

set_option maxHeartbeats 4000000 in
set_option maxRecDepth 100000 in
theorem ev_X2_costOf {n : Int32} {μ : kH} : Ev kX2_costOf [kr 1, ki n] μ (fun r h' => r = ki (n * μ.1 1 2) ∧ h' = μ) := by
  refine k_ev (ls := [_, _]) (by decide) (Nat.le_of_ble_eq_true rfl) rfl ?_
  refine k_iload_n dX2_costOf_0 rfl rfl ?_
  refine k_aload_n dX2_costOf_1 rfl rfl ?_
  refine k_getI fl_RX2_19 dX2_costOf_2 rfl rfl rfl ?_
  refine k_imul dX2_costOf_5 rfl ?_
  exact k_iret dX2_costOf_6 rfl ⟨rfl, rfl⟩

set_option maxHeartbeats 4000000 in
set_option maxRecDepth 100000 in
theorem ev_X1_has {n : Int32} {μ : kH} : Ev kX1_has [kr 11, ki n] μ (fun r h' => r = ki (if 0 ≤ n ∧ n ≤ μ.1 11 2 - 1 then 1 else 0) ∧ h' = μ) := by
  refine k_ev (ls := [_, _]) (by decide) (Nat.le_of_ble_eq_true rfl) rfl ?_
  refine k_iload_n dX1_has_0 rfl rfl ?_
  refine k_iconst (v := 0) dX1_has_1 rfl (by decide) ?_
  refine k_aload_n dX1_has_2 rfl rfl ?_
  refine k_getI fl_RX1_18 dX1_has_3 rfl rfl rfl ?_
  refine k_iconst (v := 1) dX1_has_6 rfl (by decide) ?_
  refine k_isub dX1_has_7 rfl ?_
  refine k_callS3 dX1_has_8 rfl ml_RX1_22 ⟨(Nat.le_of_ble_eq_true rfl), (Nat.le_of_ble_eq_true rfl)⟩ (Nat.le_of_ble_eq_true rfl) ev_X10_within (fun r_8 h_8 q_8 => ?_)
  obtain ⟨e_8, g_8⟩ := q_8
  rw [e_8, g_8]
  exact k_zret dX1_has_11 rfl (by first | decide | exact k_nz) ⟨rfl, rfl⟩

set_option maxHeartbeats 4000000 in
set_option maxRecDepth 100000 in
theorem ev_X0_has {n : Int32} {μ : kH} : Ev kX0_has [kr 40, ki n] μ (fun r h' => r = ki (if 0 ≤ n ∧ n ≤ μ.1 40 5 - 1 then 1 else 0) ∧ h' = μ) := by
  refine k_ev (ls := [_, _]) (by decide) (Nat.le_of_ble_eq_true rfl) rfl ?_
  refine k_iload_n dX0_has_0 rfl rfl ?_
  refine k_iconst (v := 0) dX0_has_1 rfl (by decide) ?_
  refine k_aload_n dX0_has_2 rfl rfl ?_
  refine k_getI fl_RX0_27 dX0_has_3 rfl rfl rfl ?_
  refine k_iconst (v := 1) dX0_has_6 rfl (by decide) ?_
  refine k_isub dX0_has_7 rfl ?_
  refine k_callS3 dX0_has_8 rfl ml_RX0_31 ⟨(Nat.le_of_ble_eq_true rfl), (Nat.le_of_ble_eq_true rfl)⟩ (Nat.le_of_ble_eq_true rfl) ev_X10_within (fun r_8 h_8 q_8 => ?_)
  obtain ⟨e_8, g_8⟩ := q_8
  rw [e_8, g_8]
  exact k_zret dX0_has_11 rfl (by first | decide | exact k_nz) ⟨rfl, rfl⟩

set_option maxHeartbeats 4000000 in
set_option maxRecDepth 100000 in
theorem ev_X7_hasRoomForFive  {μ : kH} : Ev kX7_hasRoomForFive [kr 14] μ (fun r h' => r = ki (if μ.1 14 1 + 20 ≤ 200 then 1 else 0) ∧ h' = μ) := by
  refine k_ev (ls := [_]) (by decide) (Nat.le_of_ble_eq_true rfl) rfl ?_
  refine k_aload_n dX7_hasRoomForFive_0 rfl rfl ?_
  refine k_getI fl_RX7_15 dX7_hasRoomForFive_1 rfl rfl rfl ?_
  refine k_bipush (v := 20) dX7_hasRoomForFive_4 rfl (by decide) ?_
  refine k_iadd dX7_hasRoomForFive_6 rfl ?_
  refine k_sipush (v := 200) dX7_hasRoomForFive_7 rfl (by decide) ?_
  refine k_icmp_gt (tg := 17) dX7_hasRoomForFive_10 rfl (by decide) (fun c_10 => ?_) (fun c_10 => ?_)
  · skip
    refine k_iconst (v := 0) dX7_hasRoomForFive_17 rfl (by decide) ?_
    exact k_zret dX7_hasRoomForFive_18 rfl (by first | decide | exact k_nz) (by (repeat' split) <;> first | exact ⟨rfl, rfl⟩ | (exfalso; (try simp only [eq_self, not_true_eq_false, not_false_eq_true, k_b0, k_b1, k_c0, k_cl, k_cg, k_cle, k_cge] at *) <;> (try simp only [eq_self, not_true_eq_false, not_false_eq_true, k_le, k_lt, k_eq, k_leL, k_ltL, k_eqL, k_il, li_m6, li_m5, li_m3, li_m2, li_m1, li_0, li_1, li_2, li_3, li_4, li_5, li_6, li_7, li_8, li_10, li_11, li_12, li_20, li_24, li_25, li_26, li_32, li_39, li_40, li_48, li_57, li_59, li_60, li_96, li_97, li_100, li_122, li_180, li_200, li_255, li_300, li_468, li_480, li_500, li_1000, li_2000, li_10000, li_10001, li_100000, li_1000000, li_100000000, lj_m1, lj_0, lj_1, lj_2, lj_3, lj_24, lj_39, lj_100, lj_500, lj_1000, lj_2000, lj_10000, lj_100000, lj_1000000, lj_100000000, lj_10, lj_20, lj_12, lj_32, lj_96] at *) <;> omega))
  · skip
    refine k_iconst (v := 1) dX7_hasRoomForFive_13 rfl (by decide) ?_
    refine k_goto (tg := 18) dX7_hasRoomForFive_14 (by decide) ?_
    exact k_zret dX7_hasRoomForFive_18 rfl (by first | decide | exact k_nz) (by (repeat' split) <;> first | exact ⟨rfl, rfl⟩ | (exfalso; (try simp only [eq_self, not_true_eq_false, not_false_eq_true, k_b0, k_b1, k_c0, k_cl, k_cg, k_cle, k_cge] at *) <;> (try simp only [eq_self, not_true_eq_false, not_false_eq_true, k_le, k_lt, k_eq, k_leL, k_ltL, k_eqL, k_il, li_m6, li_m5, li_m3, li_m2, li_m1, li_0, li_1, li_2, li_3, li_4, li_5, li_6, li_7, li_8, li_10, li_11, li_12, li_20, li_24, li_25, li_26, li_32, li_39, li_40, li_48, li_57, li_59, li_60, li_96, li_97, li_100, li_122, li_180, li_200, li_255, li_300, li_468, li_480, li_500, li_1000, li_2000, li_10000, li_10001, li_100000, li_1000000, li_100000000, lj_m1, lj_0, lj_1, lj_2, lj_3, lj_24, lj_39, lj_100, lj_500, lj_1000, lj_2000, lj_10000, lj_100000, lj_1000000, lj_100000000, lj_10, lj_20, lj_12, lj_32, lj_96] at *) <;> omega))

set_option maxHeartbeats 4000000 in
set_option maxRecDepth 100000 in
theorem ev_X9_isFull_16  {μ : kH} : Ev kX9_isFull [kr 16] μ (fun r h' => r = ki (if 20 ≤ μ.1 16 4 then 1 else 0) ∧ h' = μ) := by
  refine k_ev (ls := [_]) (by decide) (Nat.le_of_ble_eq_true rfl) rfl ?_
  refine k_aload_n dX9_isFull_0 rfl rfl ?_
  refine k_getI fl_RX9_24 dX9_isFull_1 rfl rfl rfl ?_
  refine k_bipush (v := 20) dX9_isFull_4 rfl (by decide) ?_
  refine k_icmp_lt (tg := 13) dX9_isFull_6 rfl (by decide) (fun c_6 => ?_) (fun c_6 => ?_)
  · skip
    refine k_iconst (v := 0) dX9_isFull_13 rfl (by decide) ?_
    exact k_zret dX9_isFull_14 rfl (by first | decide | exact k_nz) (by (repeat' split) <;> first | exact ⟨rfl, rfl⟩ | (exfalso; (try simp only [eq_self, not_true_eq_false, not_false_eq_true, k_b0, k_b1, k_c0, k_cl, k_cg, k_cle, k_cge] at *) <;> (try simp only [eq_self, not_true_eq_false, not_false_eq_true, k_le, k_lt, k_eq, k_leL, k_ltL, k_eqL, k_il, li_m6, li_m5, li_m3, li_m2, li_m1, li_0, li_1, li_2, li_3, li_4, li_5, li_6, li_7, li_8, li_10, li_11, li_12, li_20, li_24, li_25, li_26, li_32, li_39, li_40, li_48, li_57, li_59, li_60, li_96, li_97, li_100, li_122, li_180, li_200, li_255, li_300, li_468, li_480, li_500, li_1000, li_2000, li_10000, li_10001, li_100000, li_1000000, li_100000000, lj_m1, lj_0, lj_1, lj_2, lj_3, lj_24, lj_39, lj_100, lj_500, lj_1000, lj_2000, lj_10000, lj_100000, lj_1000000, lj_100000000, lj_10, lj_20, lj_12, lj_32, lj_96] at *) <;> omega))
  · skip
    refine k_iconst (v := 1) dX9_isFull_9 rfl (by decide) ?_
    refine k_goto (tg := 14) dX9_isFull_10 (by decide) ?_
    exact k_zret dX9_isFull_14 rfl (by first | decide | exact k_nz) (by (repeat' split) <;> first | exact ⟨rfl, rfl⟩ | (exfalso; (try simp only [eq_self, not_true_eq_false, not_false_eq_true, k_b0, k_b1, k_c0, k_cl, k_cg, k_cle, k_cge] at *) <;> (try simp only [eq_self, not_true_eq_false, not_false_eq_true, k_le, k_lt, k_eq, k_leL, k_ltL, k_eqL, k_il, li_m6, li_m5, li_m3, li_m2, li_m1, li_0, li_1, li_2, li_3, li_4, li_5, li_6, li_7, li_8, li_10, li_11, li_12, li_20, li_24, li_25, li_26, li_32, li_39, li_40, li_48, li_57, li_59, li_60, li_96, li_97, li_100, li_122, li_180, li_200, li_255, li_300, li_468, li_480, li_500, li_1000, li_2000, li_10000, li_10001, li_100000, li_1000000, li_100000000, lj_m1, lj_0, lj_1, lj_2, lj_3, lj_24, lj_39, lj_100, lj_500, lj_1000, lj_2000, lj_10000, lj_100000, lj_1000000, lj_100000000, lj_10, lj_20, lj_12, lj_32, lj_96] at *) <;> omega))

set_option maxHeartbeats 4000000 in
set_option maxRecDepth 100000 in
theorem ev_X9_isFull_22  {μ : kH} : Ev kX9_isFull [kr 22] μ (fun r h' => r = ki (if 20 ≤ μ.1 22 4 then 1 else 0) ∧ h' = μ) := by
  refine k_ev (ls := [_]) (by decide) (Nat.le_of_ble_eq_true rfl) rfl ?_
  refine k_aload_n dX9_isFull_0 rfl rfl ?_
  refine k_getI fl_RX9_24 dX9_isFull_1 rfl rfl rfl ?_
  refine k_bipush (v := 20) dX9_isFull_4 rfl (by decide) ?_
  refine k_icmp_lt (tg := 13) dX9_isFull_6 rfl (by decide) (fun c_6 => ?_) (fun c_6 => ?_)
  · skip
    refine k_iconst (v := 0) dX9_isFull_13 rfl (by decide) ?_
    exact k_zret dX9_isFull_14 rfl (by first | decide | exact k_nz) (by (repeat' split) <;> first | exact ⟨rfl, rfl⟩ | (exfalso; (try simp only [eq_self, not_true_eq_false, not_false_eq_true, k_b0, k_b1, k_c0, k_cl, k_cg, k_cle, k_cge] at *) <;> (try simp only [eq_self, not_true_eq_false, not_false_eq_true, k_le, k_lt, k_eq, k_leL, k_ltL, k_eqL, k_il, li_m6, li_m5, li_m3, li_m2, li_m1, li_0, li_1, li_2, li_3, li_4, li_5, li_6, li_7, li_8, li_10, li_11, li_12, li_20, li_24, li_25, li_26, li_32, li_39, li_40, li_48, li_57, li_59, li_60, li_96, li_97, li_100, li_122, li_180, li_200, li_255, li_300, li_468, li_480, li_500, li_1000, li_2000, li_10000, li_10001, li_100000, li_1000000, li_100000000, lj_m1, lj_0, lj_1, lj_2, lj_3, lj_24, lj_39, lj_100, lj_500, lj_1000, lj_2000, lj_10000, lj_100000, lj_1000000, lj_100000000, lj_10, lj_20, lj_12, lj_32, lj_96] at *) <;> omega))
  · skip
    refine k_iconst (v := 1) dX9_isFull_9 rfl (by decide) ?_
    refine k_goto (tg := 14) dX9_isFull_10 (by decide) ?_
    exact k_zret dX9_isFull_14 rfl (by first | decide | exact k_nz) (by (repeat' split) <;> first | exact ⟨rfl, rfl⟩ | (exfalso; (try simp only [eq_self, not_true_eq_false, not_false_eq_true, k_b0, k_b1, k_c0, k_cl, k_cg, k_cle, k_cge] at *) <;> (try simp only [eq_self, not_true_eq_false, not_false_eq_true, k_le, k_lt, k_eq, k_leL, k_ltL, k_eqL, k_il, li_m6, li_m5, li_m3, li_m2, li_m1, li_0, li_1, li_2, li_3, li_4, li_5, li_6, li_7, li_8, li_10, li_11, li_12, li_20, li_24, li_25, li_26, li_32, li_39, li_40, li_48, li_57, li_59, li_60, li_96, li_97, li_100, li_122, li_180, li_200, li_255, li_300, li_468, li_480, li_500, li_1000, li_2000, li_10000, li_10001, li_100000, li_1000000, li_100000000, lj_m1, lj_0, lj_1, lj_2, lj_3, lj_24, lj_39, lj_100, lj_500, lj_1000, lj_2000, lj_10000, lj_100000, lj_1000000, lj_100000000, lj_10, lj_20, lj_12, lj_32, lj_96] at *) <;> omega))

set_option maxHeartbeats 4000000 in
set_option maxRecDepth 100000 in
theorem ev_X5_after {d n : Int32} {μ : kH} : Ev kX5_after [ki d, ki n] μ (fun r h' => r = ki (if d = 1 then 0 else if d = 2 then 1 else if d = 3 then 1 else n) ∧ h' = μ) := by
  refine k_ev (ls := [_, _]) (by decide) (Nat.le_of_ble_eq_true rfl) rfl ?_
  refine k_iload_n dX5_after_0 rfl rfl ?_
  refine k_topi (fun y_1 e_1 => ?_)
  by_cases s_1_1 : y_1 = 1
  · rw [s_1_1] at e_1
    rw [s_1_1]
    refine k_tableIn (tg := 28) (off := 27) dX5_after_1 (by decide) (by decide) (by decide) (by decide) ?_
    refine k_iconst (v := 0) dX5_after_28 rfl (by decide) ?_
    exact k_iret dX5_after_29 rfl (by (repeat' split) <;> first | exact ⟨rfl, rfl⟩ | (exfalso; (try simp only [eq_self, not_true_eq_false, not_false_eq_true, k_b0, k_b1, k_c0, k_cl, k_cg, k_cle, k_cge] at *) <;> (try simp only [eq_self, not_true_eq_false, not_false_eq_true, k_le, k_lt, k_eq, k_leL, k_ltL, k_eqL, k_il, li_m6, li_m5, li_m3, li_m2, li_m1, li_0, li_1, li_2, li_3, li_4, li_5, li_6, li_7, li_8, li_10, li_11, li_12, li_20, li_24, li_25, li_26, li_32, li_39, li_40, li_48, li_57, li_59, li_60, li_96, li_97, li_100, li_122, li_180, li_200, li_255, li_300, li_468, li_480, li_500, li_1000, li_2000, li_10000, li_10001, li_100000, li_1000000, li_100000000, lj_m1, lj_0, lj_1, lj_2, lj_3, lj_24, lj_39, lj_100, lj_500, lj_1000, lj_2000, lj_10000, lj_100000, lj_1000000, lj_100000000, lj_10, lj_20, lj_12, lj_32, lj_96] at *) <;> omega))
  by_cases s_1_2 : y_1 = 2
  · rw [s_1_2] at e_1
    rw [s_1_2]
    refine k_tableIn (tg := 30) (off := 29) dX5_after_1 (by decide) (by decide) (by decide) (by decide) ?_
    refine k_iconst (v := 1) dX5_after_30 rfl (by decide) ?_
    exact k_iret dX5_after_31 rfl (by (repeat' split) <;> first | exact ⟨rfl, rfl⟩ | (exfalso; (try simp only [eq_self, not_true_eq_false, not_false_eq_true, k_b0, k_b1, k_c0, k_cl, k_cg, k_cle, k_cge] at *) <;> (try simp only [eq_self, not_true_eq_false, not_false_eq_true, k_le, k_lt, k_eq, k_leL, k_ltL, k_eqL, k_il, li_m6, li_m5, li_m3, li_m2, li_m1, li_0, li_1, li_2, li_3, li_4, li_5, li_6, li_7, li_8, li_10, li_11, li_12, li_20, li_24, li_25, li_26, li_32, li_39, li_40, li_48, li_57, li_59, li_60, li_96, li_97, li_100, li_122, li_180, li_200, li_255, li_300, li_468, li_480, li_500, li_1000, li_2000, li_10000, li_10001, li_100000, li_1000000, li_100000000, lj_m1, lj_0, lj_1, lj_2, lj_3, lj_24, lj_39, lj_100, lj_500, lj_1000, lj_2000, lj_10000, lj_100000, lj_1000000, lj_100000000, lj_10, lj_20, lj_12, lj_32, lj_96] at *) <;> omega))
  by_cases s_1_3 : y_1 = 3
  · rw [s_1_3] at e_1
    rw [s_1_3]
    refine k_tableIn (tg := 30) (off := 29) dX5_after_1 (by decide) (by decide) (by decide) (by decide) ?_
    refine k_iconst (v := 1) dX5_after_30 rfl (by decide) ?_
    exact k_iret dX5_after_31 rfl (by (repeat' split) <;> first | exact ⟨rfl, rfl⟩ | (exfalso; (try simp only [eq_self, not_true_eq_false, not_false_eq_true, k_b0, k_b1, k_c0, k_cl, k_cg, k_cle, k_cge] at *) <;> (try simp only [eq_self, not_true_eq_false, not_false_eq_true, k_le, k_lt, k_eq, k_leL, k_ltL, k_eqL, k_il, li_m6, li_m5, li_m3, li_m2, li_m1, li_0, li_1, li_2, li_3, li_4, li_5, li_6, li_7, li_8, li_10, li_11, li_12, li_20, li_24, li_25, li_26, li_32, li_39, li_40, li_48, li_57, li_59, li_60, li_96, li_97, li_100, li_122, li_180, li_200, li_255, li_300, li_468, li_480, li_500, li_1000, li_2000, li_10000, li_10001, li_100000, li_1000000, li_100000000, lj_m1, lj_0, lj_1, lj_2, lj_3, lj_24, lj_39, lj_100, lj_500, lj_1000, lj_2000, lj_10000, lj_100000, lj_1000000, lj_100000000, lj_10, lj_20, lj_12, lj_32, lj_96] at *) <;> omega))
  refine k_tableOut (tg := 32) dX5_after_1 (by simp only [eq_self, not_true_eq_false, not_false_eq_true, k_le, k_lt, k_eq, k_leL, k_ltL, k_eqL, k_il, li_m6, li_m5, li_m3, li_m2, li_m1, li_0, li_1, li_2, li_3, li_4, li_5, li_6, li_7, li_8, li_10, li_11, li_12, li_20, li_24, li_25, li_26, li_32, li_39, li_40, li_48, li_57, li_59, li_60, li_96, li_97, li_100, li_122, li_180, li_200, li_255, li_300, li_468, li_480, li_500, li_1000, li_2000, li_10000, li_10001, li_100000, li_1000000, li_100000000, lj_m1, lj_0, lj_1, lj_2, lj_3, lj_24, lj_39, lj_100, lj_500, lj_1000, lj_2000, lj_10000, lj_100000, lj_1000000, lj_100000000, lj_10, lj_20, lj_12, lj_32, lj_96] at *; omega) (by decide) ?_
  refine k_iload_n dX5_after_32 rfl rfl ?_
  exact k_iret dX5_after_33 rfl (by (repeat' split) <;> first | exact ⟨rfl, rfl⟩ | (exfalso; (try simp only [eq_self, not_true_eq_false, not_false_eq_true, k_b0, k_b1, k_c0, k_cl, k_cg, k_cle, k_cge] at *) <;> (try simp only [eq_self, not_true_eq_false, not_false_eq_true, k_le, k_lt, k_eq, k_leL, k_ltL, k_eqL, k_il, li_m6, li_m5, li_m3, li_m2, li_m1, li_0, li_1, li_2, li_3, li_4, li_5, li_6, li_7, li_8, li_10, li_11, li_12, li_20, li_24, li_25, li_26, li_32, li_39, li_40, li_48, li_57, li_59, li_60, li_96, li_97, li_100, li_122, li_180, li_200, li_255, li_300, li_468, li_480, li_500, li_1000, li_2000, li_10000, li_10001, li_100000, li_1000000, li_100000000, lj_m1, lj_0, lj_1, lj_2, lj_3, lj_24, lj_39, lj_100, lj_500, lj_1000, lj_2000, lj_10000, lj_100000, lj_1000000, lj_100000000, lj_10, lj_20, lj_12, lj_32, lj_96] at *) <;> omega))

set_option maxHeartbeats 4000000 in
set_option maxRecDepth 100000 in
theorem ev_X5_nextOf {n : Int32} {μ : kH} : Ev kX5_nextOf [ki n] μ (fun r h' => r = ki ((if n - 1 = -1 then -1 else if 24 < n - 1 + 1 then 24 else n - 1 + 1) + 1) ∧ h' = μ) := by
  refine k_ev (ls := [_]) (by decide) (Nat.le_of_ble_eq_true rfl) rfl ?_
  refine k_iload_n dX5_nextOf_0 rfl rfl ?_
  refine k_iconst (v := 1) dX5_nextOf_1 rfl (by decide) ?_
  refine k_isub dX5_nextOf_2 rfl ?_
  refine k_callS1 dX5_nextOf_3 rfl ml_RX5_119 ⟨(Nat.le_of_ble_eq_true rfl), (Nat.le_of_ble_eq_true rfl)⟩ (Nat.le_of_ble_eq_true rfl) ev_X10_olderThan (fun r_3 h_3 q_3 => ?_)
  obtain ⟨e_3, g_3⟩ := q_3
  rw [e_3, g_3]
  refine k_iconst (v := 1) dX5_nextOf_6 rfl (by decide) ?_
  refine k_iadd dX5_nextOf_7 rfl ?_
  exact k_iret dX5_nextOf_8 rfl ⟨rfl, rfl⟩

set_option maxHeartbeats 4000000 in
set_option maxRecDepth 100000 in
theorem ev_X9_partOf {m s w : Int32} {μ : kH} : Ev kX9_partOf [ki m, ki s, ki w] μ (fun r h' => r = kl (if w < 1 then 0 else m.toInt64 * s.toInt64 / w.toInt64) ∧ h' = μ) := by
  refine k_ev (ls := [_, _, _]) (by decide) (Nat.le_of_ble_eq_true rfl) rfl ?_
  refine k_iload_n dX9_partOf_0 rfl rfl ?_
  refine k_iconst (v := 1) dX9_partOf_1 rfl (by decide) ?_
  refine k_icmp_ge (tg := 9) dX9_partOf_2 rfl (by decide) (fun c_2 => ?_) (fun c_2 => ?_)
  · skip
    refine k_iload_n dX9_partOf_9 rfl rfl ?_
    refine k_i2l dX9_partOf_10 rfl ?_
    refine k_iload_n dX9_partOf_11 rfl rfl ?_
    refine k_i2l dX9_partOf_12 rfl ?_
    refine k_lmul dX9_partOf_13 rfl ?_
    refine k_iload_n dX9_partOf_14 rfl rfl ?_
    refine k_i2l dX9_partOf_15 rfl ?_
    refine k_ldiv dX9_partOf_16 rfl (by first | decide | ((try simp only [eq_self, not_true_eq_false, not_false_eq_true, k_b0, k_b1, k_c0, k_cl, k_cg, k_cle, k_cge] at *) <;> (try simp only [eq_self, not_true_eq_false, not_false_eq_true, k_le, k_lt, k_eq, k_leL, k_ltL, k_eqL, k_il, li_m6, li_m5, li_m3, li_m2, li_m1, li_0, li_1, li_2, li_3, li_4, li_5, li_6, li_7, li_8, li_10, li_11, li_12, li_20, li_24, li_25, li_26, li_32, li_39, li_40, li_48, li_57, li_59, li_60, li_96, li_97, li_100, li_122, li_180, li_200, li_255, li_300, li_468, li_480, li_500, li_1000, li_2000, li_10000, li_10001, li_100000, li_1000000, li_100000000, lj_m1, lj_0, lj_1, lj_2, lj_3, lj_24, lj_39, lj_100, lj_500, lj_1000, lj_2000, lj_10000, lj_100000, lj_1000000, lj_100000000, lj_10, lj_20, lj_12, lj_32, lj_96] at *) <;> omega)) ?_
    exact k_lret dX9_partOf_17 rfl (by (repeat' split) <;> first | exact ⟨rfl, rfl⟩ | (exfalso; (try simp only [eq_self, not_true_eq_false, not_false_eq_true, k_b0, k_b1, k_c0, k_cl, k_cg, k_cle, k_cge] at *) <;> (try simp only [eq_self, not_true_eq_false, not_false_eq_true, k_le, k_lt, k_eq, k_leL, k_ltL, k_eqL, k_il, li_m6, li_m5, li_m3, li_m2, li_m1, li_0, li_1, li_2, li_3, li_4, li_5, li_6, li_7, li_8, li_10, li_11, li_12, li_20, li_24, li_25, li_26, li_32, li_39, li_40, li_48, li_57, li_59, li_60, li_96, li_97, li_100, li_122, li_180, li_200, li_255, li_300, li_468, li_480, li_500, li_1000, li_2000, li_10000, li_10001, li_100000, li_1000000, li_100000000, lj_m1, lj_0, lj_1, lj_2, lj_3, lj_24, lj_39, lj_100, lj_500, lj_1000, lj_2000, lj_10000, lj_100000, lj_1000000, lj_100000000, lj_10, lj_20, lj_12, lj_32, lj_96] at *) <;> omega))
  · skip
    refine k_lconst (v := 0) dX9_partOf_5 rfl (by decide) ?_
    refine k_goto (tg := 17) dX9_partOf_6 (by decide) ?_
    exact k_lret dX9_partOf_17 rfl (by (repeat' split) <;> first | exact ⟨rfl, rfl⟩ | (exfalso; (try simp only [eq_self, not_true_eq_false, not_false_eq_true, k_b0, k_b1, k_c0, k_cl, k_cg, k_cle, k_cge] at *) <;> (try simp only [eq_self, not_true_eq_false, not_false_eq_true, k_le, k_lt, k_eq, k_leL, k_ltL, k_eqL, k_il, li_m6, li_m5, li_m3, li_m2, li_m1, li_0, li_1, li_2, li_3, li_4, li_5, li_6, li_7, li_8, li_10, li_11, li_12, li_20, li_24, li_25, li_26, li_32, li_39, li_40, li_48, li_57, li_59, li_60, li_96, li_97, li_100, li_122, li_180, li_200, li_255, li_300, li_468, li_480, li_500, li_1000, li_2000, li_10000, li_10001, li_100000, li_1000000, li_100000000, lj_m1, lj_0, lj_1, lj_2, lj_3, lj_24, lj_39, lj_100, lj_500, lj_1000, lj_2000, lj_10000, lj_100000, lj_1000000, lj_100000000, lj_10, lj_20, lj_12, lj_32, lj_96] at *) <;> omega))

set_option maxHeartbeats 4000000 in
set_option maxRecDepth 100000 in
theorem ev_X9_eachOf {v e m : Int32} {μ : kH} : Ev kX9_eachOf [ki v, ki e, ki m] μ (fun r h' => r = kl (if e < 1 then 0 else (v / e).toInt64 * m.toInt64) ∧ h' = μ) := by
  refine k_ev (ls := [_, _, _]) (by decide) (Nat.le_of_ble_eq_true rfl) rfl ?_
  refine k_iload_n dX9_eachOf_0 rfl rfl ?_
  refine k_iconst (v := 1) dX9_eachOf_1 rfl (by decide) ?_
  refine k_icmp_ge (tg := 9) dX9_eachOf_2 rfl (by decide) (fun c_2 => ?_) (fun c_2 => ?_)
  · skip
    refine k_iload_n dX9_eachOf_9 rfl rfl ?_
    refine k_iload_n dX9_eachOf_10 rfl rfl ?_
    refine k_idiv dX9_eachOf_11 rfl (by first | decide | ((try simp only [eq_self, not_true_eq_false, not_false_eq_true, k_b0, k_b1, k_c0, k_cl, k_cg, k_cle, k_cge] at *) <;> (try simp only [eq_self, not_true_eq_false, not_false_eq_true, k_le, k_lt, k_eq, k_leL, k_ltL, k_eqL, k_il, li_m6, li_m5, li_m3, li_m2, li_m1, li_0, li_1, li_2, li_3, li_4, li_5, li_6, li_7, li_8, li_10, li_11, li_12, li_20, li_24, li_25, li_26, li_32, li_39, li_40, li_48, li_57, li_59, li_60, li_96, li_97, li_100, li_122, li_180, li_200, li_255, li_300, li_468, li_480, li_500, li_1000, li_2000, li_10000, li_10001, li_100000, li_1000000, li_100000000, lj_m1, lj_0, lj_1, lj_2, lj_3, lj_24, lj_39, lj_100, lj_500, lj_1000, lj_2000, lj_10000, lj_100000, lj_1000000, lj_100000000, lj_10, lj_20, lj_12, lj_32, lj_96] at *) <;> omega)) ?_
    refine k_i2l dX9_eachOf_12 rfl ?_
    refine k_iload_n dX9_eachOf_13 rfl rfl ?_
    refine k_i2l dX9_eachOf_14 rfl ?_
    refine k_lmul dX9_eachOf_15 rfl ?_
    exact k_lret dX9_eachOf_16 rfl (by (repeat' split) <;> first | exact ⟨rfl, rfl⟩ | (exfalso; (try simp only [eq_self, not_true_eq_false, not_false_eq_true, k_b0, k_b1, k_c0, k_cl, k_cg, k_cle, k_cge] at *) <;> (try simp only [eq_self, not_true_eq_false, not_false_eq_true, k_le, k_lt, k_eq, k_leL, k_ltL, k_eqL, k_il, li_m6, li_m5, li_m3, li_m2, li_m1, li_0, li_1, li_2, li_3, li_4, li_5, li_6, li_7, li_8, li_10, li_11, li_12, li_20, li_24, li_25, li_26, li_32, li_39, li_40, li_48, li_57, li_59, li_60, li_96, li_97, li_100, li_122, li_180, li_200, li_255, li_300, li_468, li_480, li_500, li_1000, li_2000, li_10000, li_10001, li_100000, li_1000000, li_100000000, lj_m1, lj_0, lj_1, lj_2, lj_3, lj_24, lj_39, lj_100, lj_500, lj_1000, lj_2000, lj_10000, lj_100000, lj_1000000, lj_100000000, lj_10, lj_20, lj_12, lj_32, lj_96] at *) <;> omega))
  · skip
    refine k_lconst (v := 0) dX9_eachOf_5 rfl (by decide) ?_
    refine k_goto (tg := 16) dX9_eachOf_6 (by decide) ?_
    exact k_lret dX9_eachOf_16 rfl (by (repeat' split) <;> first | exact ⟨rfl, rfl⟩ | (exfalso; (try simp only [eq_self, not_true_eq_false, not_false_eq_true, k_b0, k_b1, k_c0, k_cl, k_cg, k_cle, k_cge] at *) <;> (try simp only [eq_self, not_true_eq_false, not_false_eq_true, k_le, k_lt, k_eq, k_leL, k_ltL, k_eqL, k_il, li_m6, li_m5, li_m3, li_m2, li_m1, li_0, li_1, li_2, li_3, li_4, li_5, li_6, li_7, li_8, li_10, li_11, li_12, li_20, li_24, li_25, li_26, li_32, li_39, li_40, li_48, li_57, li_59, li_60, li_96, li_97, li_100, li_122, li_180, li_200, li_255, li_300, li_468, li_480, li_500, li_1000, li_2000, li_10000, li_10001, li_100000, li_1000000, li_100000000, lj_m1, lj_0, lj_1, lj_2, lj_3, lj_24, lj_39, lj_100, lj_500, lj_1000, lj_2000, lj_10000, lj_100000, lj_1000000, lj_100000000, lj_10, lj_20, lj_12, lj_32, lj_96] at *) <;> omega))

set_option maxHeartbeats 4000000 in
set_option maxRecDepth 100000 in
theorem ev_X11_in {v lo hi : Int64} {μ : kH} : Ev kX11_in [kl v, kl lo, kl hi] μ (fun r h' => r = ki (if lo ≤ v ∧ v ≤ hi then 1 else 0) ∧ h' = μ) := by
  refine k_ev (ls := [_, _, _, _, _, _]) (by decide) (Nat.le_of_ble_eq_true rfl) rfl ?_
  refine k_lload_n dX11_in_0 rfl rfl ?_
  refine k_lload_n dX11_in_1 rfl rfl ?_
  refine k_lcmp dX11_in_2 rfl ?_
  refine k_if_lt (tg := 17) dX11_in_3 rfl (by decide) (fun c_3 => ?_) (fun c_3 => ?_)
  · skip
    refine k_iconst (v := 0) dX11_in_17 rfl (by decide) ?_
    exact k_zret dX11_in_18 rfl (by first | decide | exact k_nz) (by (repeat' split) <;> first | exact ⟨rfl, rfl⟩ | (exfalso; (try simp only [eq_self, not_true_eq_false, not_false_eq_true, k_b0, k_b1, k_c0, k_cl, k_cg, k_cle, k_cge] at *) <;> (try simp only [eq_self, not_true_eq_false, not_false_eq_true, k_le, k_lt, k_eq, k_leL, k_ltL, k_eqL, k_il, li_m6, li_m5, li_m3, li_m2, li_m1, li_0, li_1, li_2, li_3, li_4, li_5, li_6, li_7, li_8, li_10, li_11, li_12, li_20, li_24, li_25, li_26, li_32, li_39, li_40, li_48, li_57, li_59, li_60, li_96, li_97, li_100, li_122, li_180, li_200, li_255, li_300, li_468, li_480, li_500, li_1000, li_2000, li_10000, li_10001, li_100000, li_1000000, li_100000000, lj_m1, lj_0, lj_1, lj_2, lj_3, lj_24, lj_39, lj_100, lj_500, lj_1000, lj_2000, lj_10000, lj_100000, lj_1000000, lj_100000000, lj_10, lj_20, lj_12, lj_32, lj_96] at *) <;> omega))
  · skip
    refine k_lload_n dX11_in_6 rfl rfl ?_
    refine k_lload dX11_in_7 rfl rfl ?_
    refine k_lcmp dX11_in_9 rfl ?_
    refine k_if_gt (tg := 17) dX11_in_10 rfl (by decide) (fun c_10 => ?_) (fun c_10 => ?_)
    · skip
      refine k_iconst (v := 0) dX11_in_17 rfl (by decide) ?_
      exact k_zret dX11_in_18 rfl (by first | decide | exact k_nz) (by (repeat' split) <;> first | exact ⟨rfl, rfl⟩ | (exfalso; (try simp only [eq_self, not_true_eq_false, not_false_eq_true, k_b0, k_b1, k_c0, k_cl, k_cg, k_cle, k_cge] at *) <;> (try simp only [eq_self, not_true_eq_false, not_false_eq_true, k_le, k_lt, k_eq, k_leL, k_ltL, k_eqL, k_il, li_m6, li_m5, li_m3, li_m2, li_m1, li_0, li_1, li_2, li_3, li_4, li_5, li_6, li_7, li_8, li_10, li_11, li_12, li_20, li_24, li_25, li_26, li_32, li_39, li_40, li_48, li_57, li_59, li_60, li_96, li_97, li_100, li_122, li_180, li_200, li_255, li_300, li_468, li_480, li_500, li_1000, li_2000, li_10000, li_10001, li_100000, li_1000000, li_100000000, lj_m1, lj_0, lj_1, lj_2, lj_3, lj_24, lj_39, lj_100, lj_500, lj_1000, lj_2000, lj_10000, lj_100000, lj_1000000, lj_100000000, lj_10, lj_20, lj_12, lj_32, lj_96] at *) <;> omega))
    · skip
      refine k_iconst (v := 1) dX11_in_13 rfl (by decide) ?_
      refine k_goto (tg := 18) dX11_in_14 (by decide) ?_
      exact k_zret dX11_in_18 rfl (by first | decide | exact k_nz) (by (repeat' split) <;> first | exact ⟨rfl, rfl⟩ | (exfalso; (try simp only [eq_self, not_true_eq_false, not_false_eq_true, k_b0, k_b1, k_c0, k_cl, k_cg, k_cle, k_cge] at *) <;> (try simp only [eq_self, not_true_eq_false, not_false_eq_true, k_le, k_lt, k_eq, k_leL, k_ltL, k_eqL, k_il, li_m6, li_m5, li_m3, li_m2, li_m1, li_0, li_1, li_2, li_3, li_4, li_5, li_6, li_7, li_8, li_10, li_11, li_12, li_20, li_24, li_25, li_26, li_32, li_39, li_40, li_48, li_57, li_59, li_60, li_96, li_97, li_100, li_122, li_180, li_200, li_255, li_300, li_468, li_480, li_500, li_1000, li_2000, li_10000, li_10001, li_100000, li_1000000, li_100000000, lj_m1, lj_0, lj_1, lj_2, lj_3, lj_24, lj_39, lj_100, lj_500, lj_1000, lj_2000, lj_10000, lj_100000, lj_1000000, lj_100000000, lj_10, lj_20, lj_12, lj_32, lj_96] at *) <;> omega))

set_option maxHeartbeats 4000000 in
set_option maxRecDepth 100000 in
theorem ev_X11_told {v : Int32} {μ : kH} : Ev kX11_told [kr 46, ki v] μ (fun r h' => r = ki v ∧ h' = hI μ 46 1 (if v < 0 then v else 0)) := by
  refine k_ev (ls := [_, _]) (by decide) (Nat.le_of_ble_eq_true rfl) rfl ?_
  refine k_aload_n dX11_told_0 rfl rfl ?_
  refine k_iload_n dX11_told_1 rfl rfl ?_
  refine k_if_ge (tg := 9) dX11_told_2 rfl (by decide) (fun c_2 => ?_) (fun c_2 => ?_)
  · skip
    refine k_iconst (v := 0) dX11_told_9 rfl (by decide) ?_
    refine k_putI fw_RX11_105 dX11_told_10 rfl rfl rfl ?_
    refine k_iload_n dX11_told_13 rfl rfl ?_
    exact k_iret dX11_told_14 rfl (by (repeat' split) <;> first | exact ⟨rfl, rfl⟩ | (exfalso; (try simp only [eq_self, not_true_eq_false, not_false_eq_true, k_b0, k_b1, k_c0, k_cl, k_cg, k_cle, k_cge] at *) <;> (try simp only [eq_self, not_true_eq_false, not_false_eq_true, k_le, k_lt, k_eq, k_leL, k_ltL, k_eqL, k_il, li_m6, li_m5, li_m3, li_m2, li_m1, li_0, li_1, li_2, li_3, li_4, li_5, li_6, li_7, li_8, li_10, li_11, li_12, li_20, li_24, li_25, li_26, li_32, li_39, li_40, li_48, li_57, li_59, li_60, li_96, li_97, li_100, li_122, li_180, li_200, li_255, li_300, li_468, li_480, li_500, li_1000, li_2000, li_10000, li_10001, li_100000, li_1000000, li_100000000, lj_m1, lj_0, lj_1, lj_2, lj_3, lj_24, lj_39, lj_100, lj_500, lj_1000, lj_2000, lj_10000, lj_100000, lj_1000000, lj_100000000, lj_10, lj_20, lj_12, lj_32, lj_96] at *) <;> omega))
  · skip
    refine k_iload_n dX11_told_5 rfl rfl ?_
    refine k_goto (tg := 10) dX11_told_6 (by decide) ?_
    refine k_putI fw_RX11_105 dX11_told_10 rfl rfl rfl ?_
    refine k_iload_n dX11_told_13 rfl rfl ?_
    exact k_iret dX11_told_14 rfl (by (repeat' split) <;> first | exact ⟨rfl, rfl⟩ | (exfalso; (try simp only [eq_self, not_true_eq_false, not_false_eq_true, k_b0, k_b1, k_c0, k_cl, k_cg, k_cle, k_cge] at *) <;> (try simp only [eq_self, not_true_eq_false, not_false_eq_true, k_le, k_lt, k_eq, k_leL, k_ltL, k_eqL, k_il, li_m6, li_m5, li_m3, li_m2, li_m1, li_0, li_1, li_2, li_3, li_4, li_5, li_6, li_7, li_8, li_10, li_11, li_12, li_20, li_24, li_25, li_26, li_32, li_39, li_40, li_48, li_57, li_59, li_60, li_96, li_97, li_100, li_122, li_180, li_200, li_255, li_300, li_468, li_480, li_500, li_1000, li_2000, li_10000, li_10001, li_100000, li_1000000, li_100000000, lj_m1, lj_0, lj_1, lj_2, lj_3, lj_24, lj_39, lj_100, lj_500, lj_1000, lj_2000, lj_10000, lj_100000, lj_1000000, lj_100000000, lj_10, lj_20, lj_12, lj_32, lj_96] at *) <;> omega))

set_option maxHeartbeats 4000000 in
set_option maxRecDepth 100000 in
theorem ev_X11_isYear {n : Int32} {μ : kH} : Ev kX11_isYear [ki n] μ (fun r h' => r = ki (if 0 ≤ n.toInt64 ∧ n.toInt64 ≤ 39 then 1 else 0) ∧ h' = μ) := by
  refine k_ev (ls := [_]) (by decide) (Nat.le_of_ble_eq_true rfl) rfl ?_
  refine k_iload_n dX11_isYear_0 rfl rfl ?_
  refine k_i2l dX11_isYear_1 rfl ?_
  refine k_lconst (v := 0) dX11_isYear_2 rfl (by decide) ?_
  refine k_ldc2 dX11_isYear_3 rfl kc_RX11_108 ?_
  refine k_callS3 dX11_isYear_6 rfl ml_RX11_110 ⟨(Nat.le_of_ble_eq_true rfl), (Nat.le_of_ble_eq_true rfl)⟩ (Nat.le_of_ble_eq_true rfl) ev_X11_in (fun r_6 h_6 q_6 => ?_)
  obtain ⟨e_6, g_6⟩ := q_6
  rw [e_6, g_6]
  exact k_zret dX11_isYear_9 rfl (by first | decide | exact k_nz) ⟨rfl, rfl⟩

set_option maxHeartbeats 4000000 in
set_option maxRecDepth 100000 in
theorem ev_X11_isSort {n : Int32} {μ : kH} : Ev kX11_isSort [ki n] μ (fun r h' => r = ki (if 0 ≤ n.toInt64 ∧ n.toInt64 ≤ 3 then 1 else 0) ∧ h' = μ) := by
  refine k_ev (ls := [_]) (by decide) (Nat.le_of_ble_eq_true rfl) rfl ?_
  refine k_iload_n dX11_isSort_0 rfl rfl ?_
  refine k_i2l dX11_isSort_1 rfl ?_
  refine k_lconst (v := 0) dX11_isSort_2 rfl (by decide) ?_
  refine k_ldc2 dX11_isSort_3 rfl kc_RX11_114 ?_
  refine k_callS3 dX11_isSort_6 rfl ml_RX11_110 ⟨(Nat.le_of_ble_eq_true rfl), (Nat.le_of_ble_eq_true rfl)⟩ (Nat.le_of_ble_eq_true rfl) ev_X11_in (fun r_6 h_6 q_6 => ?_)
  obtain ⟨e_6, g_6⟩ := q_6
  rw [e_6, g_6]
  exact k_zret dX11_isSort_9 rfl (by first | decide | exact k_nz) ⟨rfl, rfl⟩

set_option maxHeartbeats 4000000 in
set_option maxRecDepth 100000 in
theorem ev_X11_isGarden {n : Int32} {μ : kH} : Ev kX11_isGarden [kr 46, ki n] μ (fun r h' => r = ki (if 0 ≤ n.toInt64 ∧ n.toInt64 ≤ (μ.1 46 13).toInt64 - 1 then 1 else 0) ∧ h' = μ) := by
  refine k_ev (ls := [_, _]) (by decide) (Nat.le_of_ble_eq_true rfl) rfl ?_
  refine k_iload_n dX11_isGarden_0 rfl rfl ?_
  refine k_i2l dX11_isGarden_1 rfl ?_
  refine k_lconst (v := 0) dX11_isGarden_2 rfl (by decide) ?_
  refine k_aload_n dX11_isGarden_3 rfl rfl ?_
  refine k_getI fl_RX11_142 dX11_isGarden_4 rfl rfl rfl ?_
  refine k_i2l dX11_isGarden_7 rfl ?_
  refine k_lconst (v := 1) dX11_isGarden_8 rfl (by decide) ?_
  refine k_lsub dX11_isGarden_9 rfl ?_
  refine k_callS3 dX11_isGarden_10 rfl ml_RX11_110 ⟨(Nat.le_of_ble_eq_true rfl), (Nat.le_of_ble_eq_true rfl)⟩ (Nat.le_of_ble_eq_true rfl) ev_X11_in (fun r_10 h_10 q_10 => ?_)
  obtain ⟨e_10, g_10⟩ := q_10
  rw [e_10, g_10]
  exact k_zret dX11_isGarden_13 rfl (by first | decide | exact k_nz) ⟨rfl, rfl⟩

set_option maxHeartbeats 4000000 in
set_option maxRecDepth 100000 in
theorem ev_X11_isSmall {n : Int32} {μ : kH} : Ev kX11_isSmall [ki n] μ (fun r h' => r = ki (if 97 ≤ n ∧ n ≤ 122 then 1 else 0) ∧ h' = μ) := by
  refine k_ev (ls := [_]) (by decide) (Nat.le_of_ble_eq_true rfl) rfl ?_
  refine k_iload_n dX11_isSmall_0 rfl rfl ?_
  refine k_bipush (v := 97) dX11_isSmall_1 rfl (by decide) ?_
  refine k_icmp_lt (tg := 16) dX11_isSmall_3 rfl (by decide) (fun c_3 => ?_) (fun c_3 => ?_)
  · skip
    refine k_iconst (v := 0) dX11_isSmall_16 rfl (by decide) ?_
    exact k_zret dX11_isSmall_17 rfl (by first | decide | exact k_nz) (by (repeat' split) <;> first | exact ⟨rfl, rfl⟩ | (exfalso; (try simp only [eq_self, not_true_eq_false, not_false_eq_true, k_b0, k_b1, k_c0, k_cl, k_cg, k_cle, k_cge] at *) <;> (try simp only [eq_self, not_true_eq_false, not_false_eq_true, k_le, k_lt, k_eq, k_leL, k_ltL, k_eqL, k_il, li_m6, li_m5, li_m3, li_m2, li_m1, li_0, li_1, li_2, li_3, li_4, li_5, li_6, li_7, li_8, li_10, li_11, li_12, li_20, li_24, li_25, li_26, li_32, li_39, li_40, li_48, li_57, li_59, li_60, li_96, li_97, li_100, li_122, li_180, li_200, li_255, li_300, li_468, li_480, li_500, li_1000, li_2000, li_10000, li_10001, li_100000, li_1000000, li_100000000, lj_m1, lj_0, lj_1, lj_2, lj_3, lj_24, lj_39, lj_100, lj_500, lj_1000, lj_2000, lj_10000, lj_100000, lj_1000000, lj_100000000, lj_10, lj_20, lj_12, lj_32, lj_96] at *) <;> omega))
  · skip
    refine k_iload_n dX11_isSmall_6 rfl rfl ?_
    refine k_bipush (v := 122) dX11_isSmall_7 rfl (by decide) ?_
    refine k_icmp_gt (tg := 16) dX11_isSmall_9 rfl (by decide) (fun c_9 => ?_) (fun c_9 => ?_)
    · skip
      refine k_iconst (v := 0) dX11_isSmall_16 rfl (by decide) ?_
      exact k_zret dX11_isSmall_17 rfl (by first | decide | exact k_nz) (by (repeat' split) <;> first | exact ⟨rfl, rfl⟩ | (exfalso; (try simp only [eq_self, not_true_eq_false, not_false_eq_true, k_b0, k_b1, k_c0, k_cl, k_cg, k_cle, k_cge] at *) <;> (try simp only [eq_self, not_true_eq_false, not_false_eq_true, k_le, k_lt, k_eq, k_leL, k_ltL, k_eqL, k_il, li_m6, li_m5, li_m3, li_m2, li_m1, li_0, li_1, li_2, li_3, li_4, li_5, li_6, li_7, li_8, li_10, li_11, li_12, li_20, li_24, li_25, li_26, li_32, li_39, li_40, li_48, li_57, li_59, li_60, li_96, li_97, li_100, li_122, li_180, li_200, li_255, li_300, li_468, li_480, li_500, li_1000, li_2000, li_10000, li_10001, li_100000, li_1000000, li_100000000, lj_m1, lj_0, lj_1, lj_2, lj_3, lj_24, lj_39, lj_100, lj_500, lj_1000, lj_2000, lj_10000, lj_100000, lj_1000000, lj_100000000, lj_10, lj_20, lj_12, lj_32, lj_96] at *) <;> omega))
    · skip
      refine k_iconst (v := 1) dX11_isSmall_12 rfl (by decide) ?_
      refine k_goto (tg := 17) dX11_isSmall_13 (by decide) ?_
      exact k_zret dX11_isSmall_17 rfl (by first | decide | exact k_nz) (by (repeat' split) <;> first | exact ⟨rfl, rfl⟩ | (exfalso; (try simp only [eq_self, not_true_eq_false, not_false_eq_true, k_b0, k_b1, k_c0, k_cl, k_cg, k_cle, k_cge] at *) <;> (try simp only [eq_self, not_true_eq_false, not_false_eq_true, k_le, k_lt, k_eq, k_leL, k_ltL, k_eqL, k_il, li_m6, li_m5, li_m3, li_m2, li_m1, li_0, li_1, li_2, li_3, li_4, li_5, li_6, li_7, li_8, li_10, li_11, li_12, li_20, li_24, li_25, li_26, li_32, li_39, li_40, li_48, li_57, li_59, li_60, li_96, li_97, li_100, li_122, li_180, li_200, li_255, li_300, li_468, li_480, li_500, li_1000, li_2000, li_10000, li_10001, li_100000, li_1000000, li_100000000, lj_m1, lj_0, lj_1, lj_2, lj_3, lj_24, lj_39, lj_100, lj_500, lj_1000, lj_2000, lj_10000, lj_100000, lj_1000000, lj_100000000, lj_10, lj_20, lj_12, lj_32, lj_96] at *) <;> omega))

set_option maxHeartbeats 4000000 in
set_option maxRecDepth 100000 in
theorem ev_X11_isDigit {n : Int32} {μ : kH} : Ev kX11_isDigit [ki n] μ (fun r h' => r = ki (if 48 ≤ n ∧ n ≤ 57 then 1 else 0) ∧ h' = μ) := by
  refine k_ev (ls := [_]) (by decide) (Nat.le_of_ble_eq_true rfl) rfl ?_
  refine k_iload_n dX11_isDigit_0 rfl rfl ?_
  refine k_bipush (v := 48) dX11_isDigit_1 rfl (by decide) ?_
  refine k_icmp_lt (tg := 16) dX11_isDigit_3 rfl (by decide) (fun c_3 => ?_) (fun c_3 => ?_)
  · skip
    refine k_iconst (v := 0) dX11_isDigit_16 rfl (by decide) ?_
    exact k_zret dX11_isDigit_17 rfl (by first | decide | exact k_nz) (by (repeat' split) <;> first | exact ⟨rfl, rfl⟩ | (exfalso; (try simp only [eq_self, not_true_eq_false, not_false_eq_true, k_b0, k_b1, k_c0, k_cl, k_cg, k_cle, k_cge] at *) <;> (try simp only [eq_self, not_true_eq_false, not_false_eq_true, k_le, k_lt, k_eq, k_leL, k_ltL, k_eqL, k_il, li_m6, li_m5, li_m3, li_m2, li_m1, li_0, li_1, li_2, li_3, li_4, li_5, li_6, li_7, li_8, li_10, li_11, li_12, li_20, li_24, li_25, li_26, li_32, li_39, li_40, li_48, li_57, li_59, li_60, li_96, li_97, li_100, li_122, li_180, li_200, li_255, li_300, li_468, li_480, li_500, li_1000, li_2000, li_10000, li_10001, li_100000, li_1000000, li_100000000, lj_m1, lj_0, lj_1, lj_2, lj_3, lj_24, lj_39, lj_100, lj_500, lj_1000, lj_2000, lj_10000, lj_100000, lj_1000000, lj_100000000, lj_10, lj_20, lj_12, lj_32, lj_96] at *) <;> omega))
  · skip
    refine k_iload_n dX11_isDigit_6 rfl rfl ?_
    refine k_bipush (v := 57) dX11_isDigit_7 rfl (by decide) ?_
    refine k_icmp_gt (tg := 16) dX11_isDigit_9 rfl (by decide) (fun c_9 => ?_) (fun c_9 => ?_)
    · skip
      refine k_iconst (v := 0) dX11_isDigit_16 rfl (by decide) ?_
      exact k_zret dX11_isDigit_17 rfl (by first | decide | exact k_nz) (by (repeat' split) <;> first | exact ⟨rfl, rfl⟩ | (exfalso; (try simp only [eq_self, not_true_eq_false, not_false_eq_true, k_b0, k_b1, k_c0, k_cl, k_cg, k_cle, k_cge] at *) <;> (try simp only [eq_self, not_true_eq_false, not_false_eq_true, k_le, k_lt, k_eq, k_leL, k_ltL, k_eqL, k_il, li_m6, li_m5, li_m3, li_m2, li_m1, li_0, li_1, li_2, li_3, li_4, li_5, li_6, li_7, li_8, li_10, li_11, li_12, li_20, li_24, li_25, li_26, li_32, li_39, li_40, li_48, li_57, li_59, li_60, li_96, li_97, li_100, li_122, li_180, li_200, li_255, li_300, li_468, li_480, li_500, li_1000, li_2000, li_10000, li_10001, li_100000, li_1000000, li_100000000, lj_m1, lj_0, lj_1, lj_2, lj_3, lj_24, lj_39, lj_100, lj_500, lj_1000, lj_2000, lj_10000, lj_100000, lj_1000000, lj_100000000, lj_10, lj_20, lj_12, lj_32, lj_96] at *) <;> omega))
    · skip
      refine k_iconst (v := 1) dX11_isDigit_12 rfl (by decide) ?_
      refine k_goto (tg := 17) dX11_isDigit_13 (by decide) ?_
      exact k_zret dX11_isDigit_17 rfl (by first | decide | exact k_nz) (by (repeat' split) <;> first | exact ⟨rfl, rfl⟩ | (exfalso; (try simp only [eq_self, not_true_eq_false, not_false_eq_true, k_b0, k_b1, k_c0, k_cl, k_cg, k_cle, k_cge] at *) <;> (try simp only [eq_self, not_true_eq_false, not_false_eq_true, k_le, k_lt, k_eq, k_leL, k_ltL, k_eqL, k_il, li_m6, li_m5, li_m3, li_m2, li_m1, li_0, li_1, li_2, li_3, li_4, li_5, li_6, li_7, li_8, li_10, li_11, li_12, li_20, li_24, li_25, li_26, li_32, li_39, li_40, li_48, li_57, li_59, li_60, li_96, li_97, li_100, li_122, li_180, li_200, li_255, li_300, li_468, li_480, li_500, li_1000, li_2000, li_10000, li_10001, li_100000, li_1000000, li_100000000, lj_m1, lj_0, lj_1, lj_2, lj_3, lj_24, lj_39, lj_100, lj_500, lj_1000, lj_2000, lj_10000, lj_100000, lj_1000000, lj_100000000, lj_10, lj_20, lj_12, lj_32, lj_96] at *) <;> omega))

set_option maxHeartbeats 4000000 in
set_option maxRecDepth 100000 in
theorem ev_X11_ageBy {n d : Int32} {μ : kH} : Ev kX11_ageBy [ki n, ki d] μ (fun r h' => r = ki (if d = 0 then n else if d = 1 then 25 else 0) ∧ h' = μ) := by
  refine k_ev (ls := [_, _]) (by decide) (Nat.le_of_ble_eq_true rfl) rfl ?_
  refine k_iload_n dX11_ageBy_0 rfl rfl ?_
  refine k_if_ne (tg := 8) dX11_ageBy_1 rfl (by decide) (fun c_1 => ?_) (fun c_1 => ?_)
  · skip
    refine k_iload_n dX11_ageBy_8 rfl rfl ?_
    refine k_iconst (v := 1) dX11_ageBy_9 rfl (by decide) ?_
    refine k_icmp_ne (tg := 18) dX11_ageBy_10 rfl (by decide) (fun c_10 => ?_) (fun c_10 => ?_)
    · skip
      refine k_iconst (v := 0) dX11_ageBy_18 rfl (by decide) ?_
      exact k_iret dX11_ageBy_19 rfl (by (repeat' split) <;> first | exact ⟨rfl, rfl⟩ | (exfalso; (try simp only [eq_self, not_true_eq_false, not_false_eq_true, k_b0, k_b1, k_c0, k_cl, k_cg, k_cle, k_cge] at *) <;> (try simp only [eq_self, not_true_eq_false, not_false_eq_true, k_le, k_lt, k_eq, k_leL, k_ltL, k_eqL, k_il, li_m6, li_m5, li_m3, li_m2, li_m1, li_0, li_1, li_2, li_3, li_4, li_5, li_6, li_7, li_8, li_10, li_11, li_12, li_20, li_24, li_25, li_26, li_32, li_39, li_40, li_48, li_57, li_59, li_60, li_96, li_97, li_100, li_122, li_180, li_200, li_255, li_300, li_468, li_480, li_500, li_1000, li_2000, li_10000, li_10001, li_100000, li_1000000, li_100000000, lj_m1, lj_0, lj_1, lj_2, lj_3, lj_24, lj_39, lj_100, lj_500, lj_1000, lj_2000, lj_10000, lj_100000, lj_1000000, lj_100000000, lj_10, lj_20, lj_12, lj_32, lj_96] at *) <;> omega))
    · skip
      refine k_bipush (v := 25) dX11_ageBy_13 rfl (by decide) ?_
      refine k_goto (tg := 19) dX11_ageBy_15 (by decide) ?_
      exact k_iret dX11_ageBy_19 rfl (by (repeat' split) <;> first | exact ⟨rfl, rfl⟩ | (exfalso; (try simp only [eq_self, not_true_eq_false, not_false_eq_true, k_b0, k_b1, k_c0, k_cl, k_cg, k_cle, k_cge] at *) <;> (try simp only [eq_self, not_true_eq_false, not_false_eq_true, k_le, k_lt, k_eq, k_leL, k_ltL, k_eqL, k_il, li_m6, li_m5, li_m3, li_m2, li_m1, li_0, li_1, li_2, li_3, li_4, li_5, li_6, li_7, li_8, li_10, li_11, li_12, li_20, li_24, li_25, li_26, li_32, li_39, li_40, li_48, li_57, li_59, li_60, li_96, li_97, li_100, li_122, li_180, li_200, li_255, li_300, li_468, li_480, li_500, li_1000, li_2000, li_10000, li_10001, li_100000, li_1000000, li_100000000, lj_m1, lj_0, lj_1, lj_2, lj_3, lj_24, lj_39, lj_100, lj_500, lj_1000, lj_2000, lj_10000, lj_100000, lj_1000000, lj_100000000, lj_10, lj_20, lj_12, lj_32, lj_96] at *) <;> omega))
  · skip
    refine k_iload_n dX11_ageBy_4 rfl rfl ?_
    refine k_goto (tg := 19) dX11_ageBy_5 (by decide) ?_
    exact k_iret dX11_ageBy_19 rfl (by (repeat' split) <;> first | exact ⟨rfl, rfl⟩ | (exfalso; (try simp only [eq_self, not_true_eq_false, not_false_eq_true, k_b0, k_b1, k_c0, k_cl, k_cg, k_cle, k_cge] at *) <;> (try simp only [eq_self, not_true_eq_false, not_false_eq_true, k_le, k_lt, k_eq, k_leL, k_ltL, k_eqL, k_il, li_m6, li_m5, li_m3, li_m2, li_m1, li_0, li_1, li_2, li_3, li_4, li_5, li_6, li_7, li_8, li_10, li_11, li_12, li_20, li_24, li_25, li_26, li_32, li_39, li_40, li_48, li_57, li_59, li_60, li_96, li_97, li_100, li_122, li_180, li_200, li_255, li_300, li_468, li_480, li_500, li_1000, li_2000, li_10000, li_10001, li_100000, li_1000000, li_100000000, lj_m1, lj_0, lj_1, lj_2, lj_3, lj_24, lj_39, lj_100, lj_500, lj_1000, lj_2000, lj_10000, lj_100000, lj_1000000, lj_100000000, lj_10, lj_20, lj_12, lj_32, lj_96] at *) <;> omega))

set_option maxHeartbeats 4000000 in
set_option maxRecDepth 100000 in
theorem ev_X11_canDo {n d : Int32} {μ : kH} : Ev kX11_canDo [ki n, ki d] μ (fun r h' => r = ki (if d = 0 then 1 else if d = 2 then (if n = 25 then 1 else 0) else if n = 25 then 0 else 1) ∧ h' = μ) := by
  refine k_ev (ls := [_, _]) (by decide) (Nat.le_of_ble_eq_true rfl) rfl ?_
  refine k_iload_n dX11_canDo_0 rfl rfl ?_
  refine k_if_eq (tg := 28) dX11_canDo_1 rfl (by decide) (fun c_1 => ?_) (fun c_1 => ?_)
  · skip
    refine k_iconst (v := 1) dX11_canDo_28 rfl (by decide) ?_
    refine k_goto (tg := 33) dX11_canDo_29 (by decide) ?_
    exact k_zret dX11_canDo_33 rfl (by first | decide | exact k_nz) (by (repeat' split) <;> first | exact ⟨rfl, rfl⟩ | (exfalso; (try simp only [eq_self, not_true_eq_false, not_false_eq_true, k_b0, k_b1, k_c0, k_cl, k_cg, k_cle, k_cge] at *) <;> (try simp only [eq_self, not_true_eq_false, not_false_eq_true, k_le, k_lt, k_eq, k_leL, k_ltL, k_eqL, k_il, li_m6, li_m5, li_m3, li_m2, li_m1, li_0, li_1, li_2, li_3, li_4, li_5, li_6, li_7, li_8, li_10, li_11, li_12, li_20, li_24, li_25, li_26, li_32, li_39, li_40, li_48, li_57, li_59, li_60, li_96, li_97, li_100, li_122, li_180, li_200, li_255, li_300, li_468, li_480, li_500, li_1000, li_2000, li_10000, li_10001, li_100000, li_1000000, li_100000000, lj_m1, lj_0, lj_1, lj_2, lj_3, lj_24, lj_39, lj_100, lj_500, lj_1000, lj_2000, lj_10000, lj_100000, lj_1000000, lj_100000000, lj_10, lj_20, lj_12, lj_32, lj_96] at *) <;> omega))
  · skip
    refine k_iload_n dX11_canDo_4 rfl rfl ?_
    refine k_iconst (v := 2) dX11_canDo_5 rfl (by decide) ?_
    refine k_icmp_ne (tg := 13) dX11_canDo_6 rfl (by decide) (fun c_6 => ?_) (fun c_6 => ?_)
    · skip
      refine k_iconst (v := 0) dX11_canDo_13 rfl (by decide) ?_
      refine k_iload_n dX11_canDo_14 rfl rfl ?_
      refine k_bipush (v := 25) dX11_canDo_15 rfl (by decide) ?_
      refine k_icmp_ne (tg := 24) dX11_canDo_17 rfl (by decide) (fun c_17 => ?_) (fun c_17 => ?_)
      · skip
        refine k_iconst (v := 0) dX11_canDo_24 rfl (by decide) ?_
        refine k_icmp_ne (tg := 32) dX11_canDo_25 rfl (by decide) (fun c_25 => ?_) (fun c_25 => ?_)
        · skip
          refine k_iconst (v := 0) dX11_canDo_32 rfl (by decide) ?_
          exact k_zret dX11_canDo_33 rfl (by first | decide | exact k_nz) (by (repeat' split) <;> first | exact ⟨rfl, rfl⟩ | (exfalso; (try simp only [eq_self, not_true_eq_false, not_false_eq_true, k_b0, k_b1, k_c0, k_cl, k_cg, k_cle, k_cge] at *) <;> (try simp only [eq_self, not_true_eq_false, not_false_eq_true, k_le, k_lt, k_eq, k_leL, k_ltL, k_eqL, k_il, li_m6, li_m5, li_m3, li_m2, li_m1, li_0, li_1, li_2, li_3, li_4, li_5, li_6, li_7, li_8, li_10, li_11, li_12, li_20, li_24, li_25, li_26, li_32, li_39, li_40, li_48, li_57, li_59, li_60, li_96, li_97, li_100, li_122, li_180, li_200, li_255, li_300, li_468, li_480, li_500, li_1000, li_2000, li_10000, li_10001, li_100000, li_1000000, li_100000000, lj_m1, lj_0, lj_1, lj_2, lj_3, lj_24, lj_39, lj_100, lj_500, lj_1000, lj_2000, lj_10000, lj_100000, lj_1000000, lj_100000000, lj_10, lj_20, lj_12, lj_32, lj_96] at *) <;> omega))
        · skip
          refine k_iconst (v := 1) dX11_canDo_28 rfl (by decide) ?_
          refine k_goto (tg := 33) dX11_canDo_29 (by decide) ?_
          exact k_zret dX11_canDo_33 rfl (by first | decide | exact k_nz) (by (repeat' split) <;> first | exact ⟨rfl, rfl⟩ | (exfalso; (try simp only [eq_self, not_true_eq_false, not_false_eq_true, k_b0, k_b1, k_c0, k_cl, k_cg, k_cle, k_cge] at *) <;> (try simp only [eq_self, not_true_eq_false, not_false_eq_true, k_le, k_lt, k_eq, k_leL, k_ltL, k_eqL, k_il, li_m6, li_m5, li_m3, li_m2, li_m1, li_0, li_1, li_2, li_3, li_4, li_5, li_6, li_7, li_8, li_10, li_11, li_12, li_20, li_24, li_25, li_26, li_32, li_39, li_40, li_48, li_57, li_59, li_60, li_96, li_97, li_100, li_122, li_180, li_200, li_255, li_300, li_468, li_480, li_500, li_1000, li_2000, li_10000, li_10001, li_100000, li_1000000, li_100000000, lj_m1, lj_0, lj_1, lj_2, lj_3, lj_24, lj_39, lj_100, lj_500, lj_1000, lj_2000, lj_10000, lj_100000, lj_1000000, lj_100000000, lj_10, lj_20, lj_12, lj_32, lj_96] at *) <;> omega))
      · skip
        refine k_iconst (v := 1) dX11_canDo_20 rfl (by decide) ?_
        refine k_goto (tg := 25) dX11_canDo_21 (by decide) ?_
        refine k_icmp_ne (tg := 32) dX11_canDo_25 rfl (by decide) (fun c_25 => ?_) (fun c_25 => ?_)
        · skip
          refine k_iconst (v := 0) dX11_canDo_32 rfl (by decide) ?_
          exact k_zret dX11_canDo_33 rfl (by first | decide | exact k_nz) (by (repeat' split) <;> first | exact ⟨rfl, rfl⟩ | (exfalso; (try simp only [eq_self, not_true_eq_false, not_false_eq_true, k_b0, k_b1, k_c0, k_cl, k_cg, k_cle, k_cge] at *) <;> (try simp only [eq_self, not_true_eq_false, not_false_eq_true, k_le, k_lt, k_eq, k_leL, k_ltL, k_eqL, k_il, li_m6, li_m5, li_m3, li_m2, li_m1, li_0, li_1, li_2, li_3, li_4, li_5, li_6, li_7, li_8, li_10, li_11, li_12, li_20, li_24, li_25, li_26, li_32, li_39, li_40, li_48, li_57, li_59, li_60, li_96, li_97, li_100, li_122, li_180, li_200, li_255, li_300, li_468, li_480, li_500, li_1000, li_2000, li_10000, li_10001, li_100000, li_1000000, li_100000000, lj_m1, lj_0, lj_1, lj_2, lj_3, lj_24, lj_39, lj_100, lj_500, lj_1000, lj_2000, lj_10000, lj_100000, lj_1000000, lj_100000000, lj_10, lj_20, lj_12, lj_32, lj_96] at *) <;> omega))
        · skip
          refine k_iconst (v := 1) dX11_canDo_28 rfl (by decide) ?_
          refine k_goto (tg := 33) dX11_canDo_29 (by decide) ?_
          exact k_zret dX11_canDo_33 rfl (by first | decide | exact k_nz) (by (repeat' split) <;> first | exact ⟨rfl, rfl⟩ | (exfalso; (try simp only [eq_self, not_true_eq_false, not_false_eq_true, k_b0, k_b1, k_c0, k_cl, k_cg, k_cle, k_cge] at *) <;> (try simp only [eq_self, not_true_eq_false, not_false_eq_true, k_le, k_lt, k_eq, k_leL, k_ltL, k_eqL, k_il, li_m6, li_m5, li_m3, li_m2, li_m1, li_0, li_1, li_2, li_3, li_4, li_5, li_6, li_7, li_8, li_10, li_11, li_12, li_20, li_24, li_25, li_26, li_32, li_39, li_40, li_48, li_57, li_59, li_60, li_96, li_97, li_100, li_122, li_180, li_200, li_255, li_300, li_468, li_480, li_500, li_1000, li_2000, li_10000, li_10001, li_100000, li_1000000, li_100000000, lj_m1, lj_0, lj_1, lj_2, lj_3, lj_24, lj_39, lj_100, lj_500, lj_1000, lj_2000, lj_10000, lj_100000, lj_1000000, lj_100000000, lj_10, lj_20, lj_12, lj_32, lj_96] at *) <;> omega))
    · skip
      refine k_iconst (v := 1) dX11_canDo_9 rfl (by decide) ?_
      refine k_goto (tg := 14) dX11_canDo_10 (by decide) ?_
      refine k_iload_n dX11_canDo_14 rfl rfl ?_
      refine k_bipush (v := 25) dX11_canDo_15 rfl (by decide) ?_
      refine k_icmp_ne (tg := 24) dX11_canDo_17 rfl (by decide) (fun c_17 => ?_) (fun c_17 => ?_)
      · skip
        refine k_iconst (v := 0) dX11_canDo_24 rfl (by decide) ?_
        refine k_icmp_ne (tg := 32) dX11_canDo_25 rfl (by decide) (fun c_25 => ?_) (fun c_25 => ?_)
        · skip
          refine k_iconst (v := 0) dX11_canDo_32 rfl (by decide) ?_
          exact k_zret dX11_canDo_33 rfl (by first | decide | exact k_nz) (by (repeat' split) <;> first | exact ⟨rfl, rfl⟩ | (exfalso; (try simp only [eq_self, not_true_eq_false, not_false_eq_true, k_b0, k_b1, k_c0, k_cl, k_cg, k_cle, k_cge] at *) <;> (try simp only [eq_self, not_true_eq_false, not_false_eq_true, k_le, k_lt, k_eq, k_leL, k_ltL, k_eqL, k_il, li_m6, li_m5, li_m3, li_m2, li_m1, li_0, li_1, li_2, li_3, li_4, li_5, li_6, li_7, li_8, li_10, li_11, li_12, li_20, li_24, li_25, li_26, li_32, li_39, li_40, li_48, li_57, li_59, li_60, li_96, li_97, li_100, li_122, li_180, li_200, li_255, li_300, li_468, li_480, li_500, li_1000, li_2000, li_10000, li_10001, li_100000, li_1000000, li_100000000, lj_m1, lj_0, lj_1, lj_2, lj_3, lj_24, lj_39, lj_100, lj_500, lj_1000, lj_2000, lj_10000, lj_100000, lj_1000000, lj_100000000, lj_10, lj_20, lj_12, lj_32, lj_96] at *) <;> omega))
        · skip
          refine k_iconst (v := 1) dX11_canDo_28 rfl (by decide) ?_
          refine k_goto (tg := 33) dX11_canDo_29 (by decide) ?_
          exact k_zret dX11_canDo_33 rfl (by first | decide | exact k_nz) (by (repeat' split) <;> first | exact ⟨rfl, rfl⟩ | (exfalso; (try simp only [eq_self, not_true_eq_false, not_false_eq_true, k_b0, k_b1, k_c0, k_cl, k_cg, k_cle, k_cge] at *) <;> (try simp only [eq_self, not_true_eq_false, not_false_eq_true, k_le, k_lt, k_eq, k_leL, k_ltL, k_eqL, k_il, li_m6, li_m5, li_m3, li_m2, li_m1, li_0, li_1, li_2, li_3, li_4, li_5, li_6, li_7, li_8, li_10, li_11, li_12, li_20, li_24, li_25, li_26, li_32, li_39, li_40, li_48, li_57, li_59, li_60, li_96, li_97, li_100, li_122, li_180, li_200, li_255, li_300, li_468, li_480, li_500, li_1000, li_2000, li_10000, li_10001, li_100000, li_1000000, li_100000000, lj_m1, lj_0, lj_1, lj_2, lj_3, lj_24, lj_39, lj_100, lj_500, lj_1000, lj_2000, lj_10000, lj_100000, lj_1000000, lj_100000000, lj_10, lj_20, lj_12, lj_32, lj_96] at *) <;> omega))
      · skip
        refine k_iconst (v := 1) dX11_canDo_20 rfl (by decide) ?_
        refine k_goto (tg := 25) dX11_canDo_21 (by decide) ?_
        refine k_icmp_ne (tg := 32) dX11_canDo_25 rfl (by decide) (fun c_25 => ?_) (fun c_25 => ?_)
        · skip
          refine k_iconst (v := 0) dX11_canDo_32 rfl (by decide) ?_
          exact k_zret dX11_canDo_33 rfl (by first | decide | exact k_nz) (by (repeat' split) <;> first | exact ⟨rfl, rfl⟩ | (exfalso; (try simp only [eq_self, not_true_eq_false, not_false_eq_true, k_b0, k_b1, k_c0, k_cl, k_cg, k_cle, k_cge] at *) <;> (try simp only [eq_self, not_true_eq_false, not_false_eq_true, k_le, k_lt, k_eq, k_leL, k_ltL, k_eqL, k_il, li_m6, li_m5, li_m3, li_m2, li_m1, li_0, li_1, li_2, li_3, li_4, li_5, li_6, li_7, li_8, li_10, li_11, li_12, li_20, li_24, li_25, li_26, li_32, li_39, li_40, li_48, li_57, li_59, li_60, li_96, li_97, li_100, li_122, li_180, li_200, li_255, li_300, li_468, li_480, li_500, li_1000, li_2000, li_10000, li_10001, li_100000, li_1000000, li_100000000, lj_m1, lj_0, lj_1, lj_2, lj_3, lj_24, lj_39, lj_100, lj_500, lj_1000, lj_2000, lj_10000, lj_100000, lj_1000000, lj_100000000, lj_10, lj_20, lj_12, lj_32, lj_96] at *) <;> omega))
        · skip
          refine k_iconst (v := 1) dX11_canDo_28 rfl (by decide) ?_
          refine k_goto (tg := 33) dX11_canDo_29 (by decide) ?_
          exact k_zret dX11_canDo_33 rfl (by first | decide | exact k_nz) (by (repeat' split) <;> first | exact ⟨rfl, rfl⟩ | (exfalso; (try simp only [eq_self, not_true_eq_false, not_false_eq_true, k_b0, k_b1, k_c0, k_cl, k_cg, k_cle, k_cge] at *) <;> (try simp only [eq_self, not_true_eq_false, not_false_eq_true, k_le, k_lt, k_eq, k_leL, k_ltL, k_eqL, k_il, li_m6, li_m5, li_m3, li_m2, li_m1, li_0, li_1, li_2, li_3, li_4, li_5, li_6, li_7, li_8, li_10, li_11, li_12, li_20, li_24, li_25, li_26, li_32, li_39, li_40, li_48, li_57, li_59, li_60, li_96, li_97, li_100, li_122, li_180, li_200, li_255, li_300, li_468, li_480, li_500, li_1000, li_2000, li_10000, li_10001, li_100000, li_1000000, li_100000000, lj_m1, lj_0, lj_1, lj_2, lj_3, lj_24, lj_39, lj_100, lj_500, lj_1000, lj_2000, lj_10000, lj_100000, lj_1000000, lj_100000000, lj_10, lj_20, lj_12, lj_32, lj_96] at *) <;> omega))

set_option maxHeartbeats 4000000 in
set_option maxRecDepth 100000 in
theorem ev_X11_older {n : Int32} {μ : kH} : Ev kX11_older [ki n] μ (fun r h' => r = ki (if n = 25 ∨ n = 24 then n else n + 1) ∧ h' = μ) := by
  refine k_ev (ls := [_]) (by decide) (Nat.le_of_ble_eq_true rfl) rfl ?_
  refine k_iload_n dX11_older_0 rfl rfl ?_
  refine k_bipush (v := 25) dX11_older_1 rfl (by decide) ?_
  refine k_icmp_eq (tg := 12) dX11_older_3 rfl (by decide) (fun c_3 => ?_) (fun c_3 => ?_)
  · skip
    refine k_iload_n dX11_older_12 rfl rfl ?_
    refine k_goto (tg := 19) dX11_older_13 (by decide) ?_
    exact k_iret dX11_older_19 rfl (by (repeat' split) <;> first | exact ⟨rfl, rfl⟩ | (exfalso; (try simp only [eq_self, not_true_eq_false, not_false_eq_true, k_b0, k_b1, k_c0, k_cl, k_cg, k_cle, k_cge] at *) <;> (try simp only [eq_self, not_true_eq_false, not_false_eq_true, k_le, k_lt, k_eq, k_leL, k_ltL, k_eqL, k_il, li_m6, li_m5, li_m3, li_m2, li_m1, li_0, li_1, li_2, li_3, li_4, li_5, li_6, li_7, li_8, li_10, li_11, li_12, li_20, li_24, li_25, li_26, li_32, li_39, li_40, li_48, li_57, li_59, li_60, li_96, li_97, li_100, li_122, li_180, li_200, li_255, li_300, li_468, li_480, li_500, li_1000, li_2000, li_10000, li_10001, li_100000, li_1000000, li_100000000, lj_m1, lj_0, lj_1, lj_2, lj_3, lj_24, lj_39, lj_100, lj_500, lj_1000, lj_2000, lj_10000, lj_100000, lj_1000000, lj_100000000, lj_10, lj_20, lj_12, lj_32, lj_96] at *) <;> omega))
  · skip
    refine k_iload_n dX11_older_6 rfl rfl ?_
    refine k_bipush (v := 24) dX11_older_7 rfl (by decide) ?_
    refine k_icmp_ne (tg := 16) dX11_older_9 rfl (by decide) (fun c_9 => ?_) (fun c_9 => ?_)
    · skip
      refine k_iload_n dX11_older_16 rfl rfl ?_
      refine k_iconst (v := 1) dX11_older_17 rfl (by decide) ?_
      refine k_iadd dX11_older_18 rfl ?_
      exact k_iret dX11_older_19 rfl (by (repeat' split) <;> first | exact ⟨rfl, rfl⟩ | (exfalso; (try simp only [eq_self, not_true_eq_false, not_false_eq_true, k_b0, k_b1, k_c0, k_cl, k_cg, k_cle, k_cge] at *) <;> (try simp only [eq_self, not_true_eq_false, not_false_eq_true, k_le, k_lt, k_eq, k_leL, k_ltL, k_eqL, k_il, li_m6, li_m5, li_m3, li_m2, li_m1, li_0, li_1, li_2, li_3, li_4, li_5, li_6, li_7, li_8, li_10, li_11, li_12, li_20, li_24, li_25, li_26, li_32, li_39, li_40, li_48, li_57, li_59, li_60, li_96, li_97, li_100, li_122, li_180, li_200, li_255, li_300, li_468, li_480, li_500, li_1000, li_2000, li_10000, li_10001, li_100000, li_1000000, li_100000000, lj_m1, lj_0, lj_1, lj_2, lj_3, lj_24, lj_39, lj_100, lj_500, lj_1000, lj_2000, lj_10000, lj_100000, lj_1000000, lj_100000000, lj_10, lj_20, lj_12, lj_32, lj_96] at *) <;> omega))
    · skip
      refine k_iload_n dX11_older_12 rfl rfl ?_
      refine k_goto (tg := 19) dX11_older_13 (by decide) ?_
      exact k_iret dX11_older_19 rfl (by (repeat' split) <;> first | exact ⟨rfl, rfl⟩ | (exfalso; (try simp only [eq_self, not_true_eq_false, not_false_eq_true, k_b0, k_b1, k_c0, k_cl, k_cg, k_cle, k_cge] at *) <;> (try simp only [eq_self, not_true_eq_false, not_false_eq_true, k_le, k_lt, k_eq, k_leL, k_ltL, k_eqL, k_il, li_m6, li_m5, li_m3, li_m2, li_m1, li_0, li_1, li_2, li_3, li_4, li_5, li_6, li_7, li_8, li_10, li_11, li_12, li_20, li_24, li_25, li_26, li_32, li_39, li_40, li_48, li_57, li_59, li_60, li_96, li_97, li_100, li_122, li_180, li_200, li_255, li_300, li_468, li_480, li_500, li_1000, li_2000, li_10000, li_10001, li_100000, li_1000000, li_100000000, lj_m1, lj_0, lj_1, lj_2, lj_3, lj_24, lj_39, lj_100, lj_500, lj_1000, lj_2000, lj_10000, lj_100000, lj_1000000, lj_100000000, lj_10, lj_20, lj_12, lj_32, lj_96] at *) <;> omega))

