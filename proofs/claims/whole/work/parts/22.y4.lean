def k_sel (w : Int32) (x : Int32 × Int32 × Int32) : Int32 := if w = 0 then x.1 else if w = 1 then x.2.1 else x.2.2
def kTurn (μ : kH) (y k : Int32) (N : Nat) : kH := hI (hI (hI (hI μ 10 0 (fKnown (μ.1 4) (μ.1 5) (μ.1 6) (μ.1 7) 0 y k N).1) 10 1 (fKnown (μ.1 4) (μ.1 5) (μ.1 6) (μ.1 7) 1 y k N).1) 10 2 (fKnown (μ.1 4) (μ.1 5) (μ.1 6) (μ.1 7) 2 y k N).1) 10 3 (fKnown (μ.1 4) (μ.1 5) (μ.1 6) (μ.1 7) 3 y k N).1
theorem ev_X4_turnTo2 {y k : Int32} {μ : kH} {N : Nat} (hN : N ≤ 300) (hsz : μ.1 3 4 = nI N) : Ev kX4_turnTo [kr 8, ki y, ki k] μ (fun r h' => r = ku ∧ h' = kTurn μ y k N) := ev_X4_turnTo hN hsz
def kPick (μ : kH) (f : Int32) : kH := h3 μ 8 3 4 5 (fCh (μ.1 9) (μ.1 10) f (μ.1 8 3) (μ.1 8 4) 4)
theorem ev_X4_choose2 {f : Int32} {μ : kH} : Ev kX4_choose [kr 8, ki f] μ (fun r h' => r = ku ∧ h' = kPick μ f) := ev_X4_choose

theorem ev_X11_findBest2 {f : Int32} {μ : kH} {Y : Nat} {ra tb : Nat → Int32} {p0 b0 : Int32} (hY : Y < 40) (q1 : μ.1 48 = ra) (q2 : μ.1 53 = tb) (q3 : μ.1 46 17 = p0) (q4 : μ.1 46 18 = b0) : Ev kX11_findBest [kr 46, ki f, ki (nI Y)] μ (fun r h' => r = ku ∧ h' = h3 μ 46 16 17 18 (fFb ra tb f Y p0 b0 4)) := by
  subst q1; subst q2; subst q3; subst q4
  exact ev_X11_findBest hY

set_option maxHeartbeats 400000 in
set_option maxRecDepth 100000 in
theorem ev_X11_at_ok {S Y : Nat} {k : Int32} {μ ν : kH} (hν : hI μ 46 0 0 = ν) (hS : S < 4) (hY : Y < 40) (hk : 0 ≤ k ∧ k ≤ 39) {N : Nat} (hN : N ≤ 300) (hsz : ν.1 46 7 = nI N) (hr : ∀ j, j < N → 0 ≤ (ν.1 49 j).toInt ∧ (ν.1 49 j).toInt ≤ 3 ∧ 0 ≤ (ν.1 50 j).toInt ∧ (ν.1 50 j).toInt ≤ 39) : Ev kX11_at [kr 46, ki (nI S), ki (nI Y), ki k] μ (fun r h' => r = ki (fFill (fTab (ν.1 49) (ν.1 50) (ν.1 51) (ν.1 52) k N) S (Y + 1)) ∧ ∃ tb : Nat → Int32, h' = (hs ν.1 53 tb, ν.2)) := by
  have eS := nI_toInt (n := S) (by omega)
  have eY := nI_toInt (n := Y) (by omega)
  refine k_ev (ls := [_, _, _, _]) (by decide) (Nat.le_of_ble_eq_true rfl) rfl ?_
  refine k_aload_n (pc' := 1) dX11_at_0 rfl rfl ?_
  refine k_iconst (pc' := 2) (v := 0) dX11_at_1 rfl (by decide) ?_
  refine k_putI (pc' := 5) fw_RX11_102 dX11_at_2 rfl rfl rfl ?_
  rw [hν]
  refine k_iload_n (pc' := 6) dX11_at_5 rfl rfl ?_
  refine k_callS1 (pc' := 9) dX11_at_6 rfl ml_RX11_124 ⟨(Nat.le_of_ble_eq_true rfl), (Nat.le_of_ble_eq_true rfl)⟩ (Nat.le_of_ble_eq_true rfl) ev_X11_isSort2 (fun r_6 h_6 q_6 => ?_)
  obtain ⟨e_6, g_6⟩ := q_6
  rw [e_6, g_6]
  refine k_if_eq (pc' := 12) (tg := 26) dX11_at_9 rfl (by decide) (fun c_9 => ?_) (fun c_9 => ?_)
  · exfalso
    clear hr; (try simp only [eq_self, not_true_eq_false, not_false_eq_true, k_b0, k_b1, k_c0, k_cl, k_cg, k_cle, k_cge] at *) <;> (try simp only [eS, eY, eq_self, not_true_eq_false, not_false_eq_true, k_le, k_lt, k_eq, k_leL, k_ltL, k_eqL, k_il, li_m6, li_m5, li_m3, li_m2, li_m1, li_0, li_1, li_2, li_3, li_4, li_5, li_6, li_7, li_8, li_10, li_11, li_12, li_20, li_24, li_25, li_26, li_32, li_39, li_40, li_48, li_57, li_59, li_60, li_96, li_97, li_100, li_122, li_180, li_200, li_255, li_300, li_468, li_480, li_500, li_1000, li_2000, li_10000, li_10001, li_100000, li_1000000, li_100000000, lj_m1, lj_0, lj_1, lj_2, lj_3, lj_24, lj_39, lj_100, lj_500, lj_1000, lj_2000, lj_10000, lj_100000, lj_1000000, lj_100000000, lj_10, lj_20, lj_12, lj_32, lj_96] at *) <;> omega
  · skip
    refine k_iload_n (pc' := 13) dX11_at_12 rfl rfl ?_
    refine k_callS1 (pc' := 16) dX11_at_13 rfl ml_RX11_130 ⟨(Nat.le_of_ble_eq_true rfl), (Nat.le_of_ble_eq_true rfl)⟩ (Nat.le_of_ble_eq_true rfl) ev_X11_isYear2 (fun r_13 h_13 q_13 => ?_)
    obtain ⟨e_13, g_13⟩ := q_13
    rw [e_13, g_13]
    refine k_if_eq (pc' := 19) (tg := 26) dX11_at_16 rfl (by decide) (fun c_16 => ?_) (fun c_16 => ?_)
    · exfalso
      clear hr; (try simp only [eq_self, not_true_eq_false, not_false_eq_true, k_b0, k_b1, k_c0, k_cl, k_cg, k_cle, k_cge] at *) <;> (try simp only [eS, eY, eq_self, not_true_eq_false, not_false_eq_true, k_le, k_lt, k_eq, k_leL, k_ltL, k_eqL, k_il, li_m6, li_m5, li_m3, li_m2, li_m1, li_0, li_1, li_2, li_3, li_4, li_5, li_6, li_7, li_8, li_10, li_11, li_12, li_20, li_24, li_25, li_26, li_32, li_39, li_40, li_48, li_57, li_59, li_60, li_96, li_97, li_100, li_122, li_180, li_200, li_255, li_300, li_468, li_480, li_500, li_1000, li_2000, li_10000, li_10001, li_100000, li_1000000, li_100000000, lj_m1, lj_0, lj_1, lj_2, lj_3, lj_24, lj_39, lj_100, lj_500, lj_1000, lj_2000, lj_10000, lj_100000, lj_1000000, lj_100000000, lj_10, lj_20, lj_12, lj_32, lj_96] at *) <;> omega
    · skip
      refine k_iload_n (pc' := 20) dX11_at_19 rfl rfl ?_
      refine k_callS1 (pc' := 23) dX11_at_20 rfl ml_RX11_130 ⟨(Nat.le_of_ble_eq_true rfl), (Nat.le_of_ble_eq_true rfl)⟩ (Nat.le_of_ble_eq_true rfl) ev_X11_isYear2 (fun r_20 h_20 q_20 => ?_)
      obtain ⟨e_20, g_20⟩ := q_20
      rw [e_20, g_20]
      refine k_if_ne (pc' := 26) (tg := 28) dX11_at_23 rfl (by decide) (fun c_23 => ?_) (fun c_23 => ?_)
      · skip
        refine k_aload_n (pc' := 29) dX11_at_28 rfl rfl ?_
        refine k_iload_n (pc' := 30) dX11_at_29 rfl rfl ?_
        refine k_callV1 (pc' := 33) dX11_at_30 rfl ml_RX11_138 rfl rfl ⟨(Nat.le_of_ble_eq_true rfl), (Nat.le_of_ble_eq_true rfl)⟩ (Nat.le_of_ble_eq_true rfl) (ev_X11_findPrices hN hsz hr) (fun r_30 h_30 q_30 => ?_)
        obtain ⟨e_30, tb, g_30, t_30⟩ := q_30
        rw [e_30, g_30]
        refine k_aload_n (pc' := 34) dX11_at_33 rfl rfl ?_
        refine k_getR (pc' := 37) fl_RX11_35 dX11_at_34 rfl rfl rfl ?_
        refine k_bipush (pc' := 39) (v := 40) dX11_at_37 rfl (by decide) ?_
        refine k_iload_n (pc' := 40) dX11_at_39 rfl rfl ?_
        refine k_imul (pc' := 41) dX11_at_40 rfl ?_
        refine k_iload_n (pc' := 42) dX11_at_41 rfl rfl ?_
        refine k_iadd (pc' := 43) dX11_at_42 rfl ?_
        rw [k_40 S Y]
        refine k_ialdN (pc' := 44) dX11_at_43 rfl rfl (by omega) (by decide) ?_
        exact k_iret dX11_at_44 rfl ⟨congrArg (fun z => ki z) (t_30 S hS Y hY), tb, rfl⟩
      · exfalso
        clear hr; (try simp only [eq_self, not_true_eq_false, not_false_eq_true, k_b0, k_b1, k_c0, k_cl, k_cg, k_cle, k_cge] at *) <;> (try simp only [eS, eY, eq_self, not_true_eq_false, not_false_eq_true, k_le, k_lt, k_eq, k_leL, k_ltL, k_eqL, k_il, li_m6, li_m5, li_m3, li_m2, li_m1, li_0, li_1, li_2, li_3, li_4, li_5, li_6, li_7, li_8, li_10, li_11, li_12, li_20, li_24, li_25, li_26, li_32, li_39, li_40, li_48, li_57, li_59, li_60, li_96, li_97, li_100, li_122, li_180, li_200, li_255, li_300, li_468, li_480, li_500, li_1000, li_2000, li_10000, li_10001, li_100000, li_1000000, li_100000000, lj_m1, lj_0, lj_1, lj_2, lj_3, lj_24, lj_39, lj_100, lj_500, lj_1000, lj_2000, lj_10000, lj_100000, lj_1000000, lj_100000000, lj_10, lj_20, lj_12, lj_32, lj_96] at *) <;> omega

set_option maxHeartbeats 400000 in
set_option maxRecDepth 100000 in
theorem ev_X11_at_bad {s y k : Int32} {μ ν : kH} (hν : hI μ 46 0 0 = ν) (hb : ¬ ((0 ≤ s ∧ s ≤ 3) ∧ (0 ≤ y ∧ y ≤ 39) ∧ (0 ≤ k ∧ k ≤ 39))) : Ev kX11_at [kr 46, ki s, ki y, ki k] μ (fun r h' => r = ki (-1) ∧ h' = ν) := by
  refine k_ev (ls := [_, _, _, _]) (by decide) (Nat.le_of_ble_eq_true rfl) rfl ?_
  refine k_aload_n (pc' := 1) dX11_at_0 rfl rfl ?_
  refine k_iconst (pc' := 2) (v := 0) dX11_at_1 rfl (by decide) ?_
  refine k_putI (pc' := 5) fw_RX11_102 dX11_at_2 rfl rfl rfl ?_
  rw [hν]
  refine k_iload_n (pc' := 6) dX11_at_5 rfl rfl ?_
  refine k_callS1 (pc' := 9) dX11_at_6 rfl ml_RX11_124 ⟨(Nat.le_of_ble_eq_true rfl), (Nat.le_of_ble_eq_true rfl)⟩ (Nat.le_of_ble_eq_true rfl) ev_X11_isSort2 (fun r_6 h_6 q_6 => ?_)
  obtain ⟨e_6, g_6⟩ := q_6
  rw [e_6, g_6]
  refine k_if_eq (pc' := 12) (tg := 26) dX11_at_9 rfl (by decide) (fun c_9 => ?_) (fun c_9 => ?_)
  · skip
    refine k_iconst (pc' := 27) (v := (-1)) dX11_at_26 rfl (by decide) ?_
    exact k_iret dX11_at_27 rfl ⟨rfl, rfl⟩
  · skip
    refine k_iload_n (pc' := 13) dX11_at_12 rfl rfl ?_
    refine k_callS1 (pc' := 16) dX11_at_13 rfl ml_RX11_130 ⟨(Nat.le_of_ble_eq_true rfl), (Nat.le_of_ble_eq_true rfl)⟩ (Nat.le_of_ble_eq_true rfl) ev_X11_isYear2 (fun r_13 h_13 q_13 => ?_)
    obtain ⟨e_13, g_13⟩ := q_13
    rw [e_13, g_13]
    refine k_if_eq (pc' := 19) (tg := 26) dX11_at_16 rfl (by decide) (fun c_16 => ?_) (fun c_16 => ?_)
    · skip
      refine k_iconst (pc' := 27) (v := (-1)) dX11_at_26 rfl (by decide) ?_
      exact k_iret dX11_at_27 rfl ⟨rfl, rfl⟩
    · skip
      refine k_iload_n (pc' := 20) dX11_at_19 rfl rfl ?_
      refine k_callS1 (pc' := 23) dX11_at_20 rfl ml_RX11_130 ⟨(Nat.le_of_ble_eq_true rfl), (Nat.le_of_ble_eq_true rfl)⟩ (Nat.le_of_ble_eq_true rfl) ev_X11_isYear2 (fun r_20 h_20 q_20 => ?_)
      obtain ⟨e_20, g_20⟩ := q_20
      rw [e_20, g_20]
      refine k_if_ne (pc' := 26) (tg := 28) dX11_at_23 rfl (by decide) (fun c_23 => ?_) (fun c_23 => ?_)
      · exfalso
        (try simp only [eq_self, not_true_eq_false, not_false_eq_true, k_b0, k_b1, k_c0, k_cl, k_cg, k_cle, k_cge] at *) <;> (try simp only [eq_self, not_true_eq_false, not_false_eq_true, k_le, k_lt, k_eq, k_leL, k_ltL, k_eqL, k_il, li_m6, li_m5, li_m3, li_m2, li_m1, li_0, li_1, li_2, li_3, li_4, li_5, li_6, li_7, li_8, li_10, li_11, li_12, li_20, li_24, li_25, li_26, li_32, li_39, li_40, li_48, li_57, li_59, li_60, li_96, li_97, li_100, li_122, li_180, li_200, li_255, li_300, li_468, li_480, li_500, li_1000, li_2000, li_10000, li_10001, li_100000, li_1000000, li_100000000, lj_m1, lj_0, lj_1, lj_2, lj_3, lj_24, lj_39, lj_100, lj_500, lj_1000, lj_2000, lj_10000, lj_100000, lj_1000000, lj_100000000, lj_10, lj_20, lj_12, lj_32, lj_96] at *) <;> omega
      · skip
        refine k_iconst (pc' := 27) (v := (-1)) dX11_at_26 rfl (by decide) ?_
        exact k_iret dX11_at_27 rfl ⟨rfl, rfl⟩

set_option maxHeartbeats 400000 in
set_option maxRecDepth 100000 in
theorem ev_X11_best_ok {f k w : Int32} {Y : Nat} {μ ν : kH} (hν : hI μ 46 0 0 = ν) (hf : 0 ≤ f ∧ f ≤ 100000) (hY : Y < 40) (hk : 0 ≤ k ∧ k ≤ 39) (hw : 0 ≤ w ∧ w ≤ 2) {N : Nat} (hN : N ≤ 300) (hsz : ν.1 46 7 = nI N) (hr : ∀ j, j < N → 0 ≤ (ν.1 49 j).toInt ∧ (ν.1 49 j).toInt ≤ 3 ∧ 0 ≤ (ν.1 50 j).toInt ∧ (ν.1 50 j).toInt ≤ 39) : Ev kX11_best [kr 46, ki f, ki (nI Y), ki k, ki w] μ (fun r h' => ∃ tb : Nat → Int32, (∀ s, s < 4 → ∀ y, y < 40 → tb (40 * s + y) = fFill (fTab (ν.1 49) (ν.1 50) (ν.1 51) (ν.1 52) k N) s (y + 1)) ∧ r = ki (k_sel w (fFb (ν.1 48) tb f Y (ν.1 46 17) (ν.1 46 18) 4)) ∧ h' = h3 (hs ν.1 53 tb, ν.2) 46 16 17 18 (fFb (ν.1 48) tb f Y (ν.1 46 17) (ν.1 46 18) 4)) := by
  have eY := nI_toInt (n := Y) (by omega)
  refine k_ev (ls := [_, _, _, _, _]) (by decide) (Nat.le_of_ble_eq_true rfl) rfl ?_
  refine k_aload_n (pc' := 1) dX11_best_0 rfl rfl ?_
  refine k_iconst (pc' := 2) (v := 0) dX11_best_1 rfl (by decide) ?_
  refine k_putI (pc' := 5) fw_RX11_102 dX11_best_2 rfl rfl rfl ?_
  rw [hν]
  refine k_iload_n (pc' := 6) dX11_best_5 rfl rfl ?_
  refine k_i2l (pc' := 7) dX11_best_6 rfl ?_
  refine k_lconst (pc' := 8) (v := 0) dX11_best_7 rfl (by decide) ?_
  refine k_ldc2 (pc' := 11) dX11_best_8 rfl kc_RX11_165 ?_
  refine k_callS3 (pc' := 14) dX11_best_11 rfl ml_RX11_110 ⟨(Nat.le_of_ble_eq_true rfl), (Nat.le_of_ble_eq_true rfl)⟩ (Nat.le_of_ble_eq_true rfl) ev_X11_in (fun r_11 h_11 q_11 => ?_)
  obtain ⟨e_11, g_11⟩ := q_11
  rw [e_11, g_11]
  refine k_if_eq (pc' := 17) (tg := 44) dX11_best_14 rfl (by decide) (fun c_14 => ?_) (fun c_14 => ?_)
  · exfalso
    clear hr; (try simp only [eq_self, not_true_eq_false, not_false_eq_true, k_b0, k_b1, k_c0, k_cl, k_cg, k_cle, k_cge] at *) <;> (try simp only [eY, eq_self, not_true_eq_false, not_false_eq_true, k_le, k_lt, k_eq, k_leL, k_ltL, k_eqL, k_il, li_m6, li_m5, li_m3, li_m2, li_m1, li_0, li_1, li_2, li_3, li_4, li_5, li_6, li_7, li_8, li_10, li_11, li_12, li_20, li_24, li_25, li_26, li_32, li_39, li_40, li_48, li_57, li_59, li_60, li_96, li_97, li_100, li_122, li_180, li_200, li_255, li_300, li_468, li_480, li_500, li_1000, li_2000, li_10000, li_10001, li_100000, li_1000000, li_100000000, lj_m1, lj_0, lj_1, lj_2, lj_3, lj_24, lj_39, lj_100, lj_500, lj_1000, lj_2000, lj_10000, lj_100000, lj_1000000, lj_100000000, lj_10, lj_20, lj_12, lj_32, lj_96] at *) <;> omega
  · skip
    refine k_iload_n (pc' := 18) dX11_best_17 rfl rfl ?_
    refine k_callS1 (pc' := 21) dX11_best_18 rfl ml_RX11_130 ⟨(Nat.le_of_ble_eq_true rfl), (Nat.le_of_ble_eq_true rfl)⟩ (Nat.le_of_ble_eq_true rfl) ev_X11_isYear2 (fun r_18 h_18 q_18 => ?_)
    obtain ⟨e_18, g_18⟩ := q_18
    rw [e_18, g_18]
    refine k_if_eq (pc' := 24) (tg := 44) dX11_best_21 rfl (by decide) (fun c_21 => ?_) (fun c_21 => ?_)
    · exfalso
      clear hr; (try simp only [eq_self, not_true_eq_false, not_false_eq_true, k_b0, k_b1, k_c0, k_cl, k_cg, k_cle, k_cge] at *) <;> (try simp only [eY, eq_self, not_true_eq_false, not_false_eq_true, k_le, k_lt, k_eq, k_leL, k_ltL, k_eqL, k_il, li_m6, li_m5, li_m3, li_m2, li_m1, li_0, li_1, li_2, li_3, li_4, li_5, li_6, li_7, li_8, li_10, li_11, li_12, li_20, li_24, li_25, li_26, li_32, li_39, li_40, li_48, li_57, li_59, li_60, li_96, li_97, li_100, li_122, li_180, li_200, li_255, li_300, li_468, li_480, li_500, li_1000, li_2000, li_10000, li_10001, li_100000, li_1000000, li_100000000, lj_m1, lj_0, lj_1, lj_2, lj_3, lj_24, lj_39, lj_100, lj_500, lj_1000, lj_2000, lj_10000, lj_100000, lj_1000000, lj_100000000, lj_10, lj_20, lj_12, lj_32, lj_96] at *) <;> omega
    · skip
      refine k_iload_n (pc' := 25) dX11_best_24 rfl rfl ?_
      refine k_callS1 (pc' := 28) dX11_best_25 rfl ml_RX11_130 ⟨(Nat.le_of_ble_eq_true rfl), (Nat.le_of_ble_eq_true rfl)⟩ (Nat.le_of_ble_eq_true rfl) ev_X11_isYear2 (fun r_25 h_25 q_25 => ?_)
      obtain ⟨e_25, g_25⟩ := q_25
      rw [e_25, g_25]
      refine k_if_eq (pc' := 31) (tg := 44) dX11_best_28 rfl (by decide) (fun c_28 => ?_) (fun c_28 => ?_)
      · exfalso
        clear hr; (try simp only [eq_self, not_true_eq_false, not_false_eq_true, k_b0, k_b1, k_c0, k_cl, k_cg, k_cle, k_cge] at *) <;> (try simp only [eY, eq_self, not_true_eq_false, not_false_eq_true, k_le, k_lt, k_eq, k_leL, k_ltL, k_eqL, k_il, li_m6, li_m5, li_m3, li_m2, li_m1, li_0, li_1, li_2, li_3, li_4, li_5, li_6, li_7, li_8, li_10, li_11, li_12, li_20, li_24, li_25, li_26, li_32, li_39, li_40, li_48, li_57, li_59, li_60, li_96, li_97, li_100, li_122, li_180, li_200, li_255, li_300, li_468, li_480, li_500, li_1000, li_2000, li_10000, li_10001, li_100000, li_1000000, li_100000000, lj_m1, lj_0, lj_1, lj_2, lj_3, lj_24, lj_39, lj_100, lj_500, lj_1000, lj_2000, lj_10000, lj_100000, lj_1000000, lj_100000000, lj_10, lj_20, lj_12, lj_32, lj_96] at *) <;> omega
      · skip
        refine k_iload (pc' := 33) dX11_best_31 rfl rfl ?_
        refine k_i2l (pc' := 34) dX11_best_33 rfl ?_
        refine k_lconst (pc' := 35) (v := 0) dX11_best_34 rfl (by decide) ?_
        refine k_ldc2 (pc' := 38) dX11_best_35 rfl kc_RX11_167 ?_
        refine k_callS3 (pc' := 41) dX11_best_38 rfl ml_RX11_110 ⟨(Nat.le_of_ble_eq_true rfl), (Nat.le_of_ble_eq_true rfl)⟩ (Nat.le_of_ble_eq_true rfl) ev_X11_in (fun r_38 h_38 q_38 => ?_)
        obtain ⟨e_38, g_38⟩ := q_38
        rw [e_38, g_38]
        refine k_if_ne (pc' := 44) (tg := 46) dX11_best_41 rfl (by decide) (fun c_41 => ?_) (fun c_41 => ?_)
        · skip
          refine k_aload_n (pc' := 47) dX11_best_46 rfl rfl ?_
          refine k_iload_n (pc' := 48) dX11_best_47 rfl rfl ?_
          refine k_callV1 (pc' := 51) dX11_best_48 rfl ml_RX11_138 rfl rfl ⟨(Nat.le_of_ble_eq_true rfl), (Nat.le_of_ble_eq_true rfl)⟩ (Nat.le_of_ble_eq_true rfl) (ev_X11_findPrices hN hsz hr) (fun r_48 h_48 q_48 => ?_)
          obtain ⟨e_48, tb, g_48, t_48⟩ := q_48
          rw [e_48, g_48]
          refine k_aload_n (pc' := 52) dX11_best_51 rfl rfl ?_
          refine k_iload_n (pc' := 53) dX11_best_52 rfl rfl ?_
          refine k_iload_n (pc' := 54) dX11_best_53 rfl rfl ?_
          refine k_callV2 (pc' := 57) dX11_best_54 rfl ml_RX11_169 rfl rfl ⟨(Nat.le_of_ble_eq_true rfl), (Nat.le_of_ble_eq_true rfl)⟩ (Nat.le_of_ble_eq_true rfl) (ev_X11_findBest2 (ra := ν.1 48) (tb := tb) (p0 := ν.1 46 17) (b0 := ν.1 46 18) hY rfl rfl rfl rfl) (fun r_54 h_54 q_54 => ?_)
          obtain ⟨e_54, g_54⟩ := q_54
          rw [e_54, g_54]
          generalize hX : fFb (ν.1 48) tb f Y (ν.1 46 17) (ν.1 46 18) 4 = X
          refine k_iload (pc' := 59) dX11_best_57 rfl rfl ?_
          refine k_if_ne (pc' := 62) (tg := 69) dX11_best_59 rfl (by decide) (fun c_59 => ?_) (fun c_59 => ?_)
          · skip
            refine k_iload (pc' := 71) dX11_best_69 rfl rfl ?_
            refine k_iconst (pc' := 72) (v := 1) dX11_best_71 rfl (by decide) ?_
            refine k_icmp_ne (pc' := 75) (tg := 82) dX11_best_72 rfl (by decide) (fun c_72 => ?_) (fun c_72 => ?_)
            · skip
              have sl : ∀ x, k_sel w x = x.2.2 := fun x => by unfold k_sel; rw [if_neg c_59, if_neg c_72]
              refine k_aload_n (pc' := 83) dX11_best_82 rfl rfl ?_
              refine k_getI (pc' := 86) fl_RX11_159 dX11_best_83 rfl rfl rfl ?_
              exact k_iret dX11_best_86 rfl ⟨tb, t_48, by rw [sl, hX]; rfl, by rw [hX]⟩
            · skip
              have sl : ∀ x, k_sel w x = x.2.1 := fun x => by unfold k_sel; rw [if_neg c_59, if_pos c_72]
              refine k_aload_n (pc' := 76) dX11_best_75 rfl rfl ?_
              refine k_getI (pc' := 79) fl_RX11_162 dX11_best_76 rfl rfl rfl ?_
              refine k_goto (tg := 86) dX11_best_79 (by decide) ?_
              exact k_iret dX11_best_86 rfl ⟨tb, t_48, by rw [sl, hX]; rfl, by rw [hX]⟩
          · skip
            have sl : ∀ x, k_sel w x = x.1 := fun x => by unfold k_sel; rw [if_pos c_59]
            refine k_aload_n (pc' := 63) dX11_best_62 rfl rfl ?_
            refine k_getI (pc' := 66) fl_RX11_156 dX11_best_63 rfl rfl rfl ?_
            refine k_goto (tg := 86) dX11_best_66 (by decide) ?_
            exact k_iret dX11_best_86 rfl ⟨tb, t_48, by rw [sl, hX]; rfl, by rw [hX]⟩
        · exfalso
          clear hr; (try simp only [eq_self, not_true_eq_false, not_false_eq_true, k_b0, k_b1, k_c0, k_cl, k_cg, k_cle, k_cge] at *) <;> (try simp only [eY, eq_self, not_true_eq_false, not_false_eq_true, k_le, k_lt, k_eq, k_leL, k_ltL, k_eqL, k_il, li_m6, li_m5, li_m3, li_m2, li_m1, li_0, li_1, li_2, li_3, li_4, li_5, li_6, li_7, li_8, li_10, li_11, li_12, li_20, li_24, li_25, li_26, li_32, li_39, li_40, li_48, li_57, li_59, li_60, li_96, li_97, li_100, li_122, li_180, li_200, li_255, li_300, li_468, li_480, li_500, li_1000, li_2000, li_10000, li_10001, li_100000, li_1000000, li_100000000, lj_m1, lj_0, lj_1, lj_2, lj_3, lj_24, lj_39, lj_100, lj_500, lj_1000, lj_2000, lj_10000, lj_100000, lj_1000000, lj_100000000, lj_10, lj_20, lj_12, lj_32, lj_96] at *) <;> omega

set_option maxHeartbeats 400000 in
set_option maxRecDepth 100000 in
theorem ev_X11_best_bad {f y k w : Int32} {μ ν : kH} (hν : hI μ 46 0 0 = ν) (hb : ¬ ((0 ≤ f ∧ f ≤ 100000) ∧ (0 ≤ y ∧ y ≤ 39) ∧ (0 ≤ k ∧ k ≤ 39) ∧ (0 ≤ w ∧ w ≤ 2))) : Ev kX11_best [kr 46, ki f, ki y, ki k, ki w] μ (fun r h' => r = ki (-1) ∧ h' = ν) := by
  refine k_ev (ls := [_, _, _, _, _]) (by decide) (Nat.le_of_ble_eq_true rfl) rfl ?_
  refine k_aload_n (pc' := 1) dX11_best_0 rfl rfl ?_
  refine k_iconst (pc' := 2) (v := 0) dX11_best_1 rfl (by decide) ?_
  refine k_putI (pc' := 5) fw_RX11_102 dX11_best_2 rfl rfl rfl ?_
  rw [hν]
  refine k_iload_n (pc' := 6) dX11_best_5 rfl rfl ?_
  refine k_i2l (pc' := 7) dX11_best_6 rfl ?_
  refine k_lconst (pc' := 8) (v := 0) dX11_best_7 rfl (by decide) ?_
  refine k_ldc2 (pc' := 11) dX11_best_8 rfl kc_RX11_165 ?_
  refine k_callS3 (pc' := 14) dX11_best_11 rfl ml_RX11_110 ⟨(Nat.le_of_ble_eq_true rfl), (Nat.le_of_ble_eq_true rfl)⟩ (Nat.le_of_ble_eq_true rfl) ev_X11_in (fun r_11 h_11 q_11 => ?_)
  obtain ⟨e_11, g_11⟩ := q_11
  rw [e_11, g_11]
  refine k_if_eq (pc' := 17) (tg := 44) dX11_best_14 rfl (by decide) (fun c_14 => ?_) (fun c_14 => ?_)
  · skip
    refine k_iconst (pc' := 45) (v := (-1)) dX11_best_44 rfl (by decide) ?_
    exact k_iret dX11_best_45 rfl ⟨rfl, rfl⟩
  · skip
    refine k_iload_n (pc' := 18) dX11_best_17 rfl rfl ?_
    refine k_callS1 (pc' := 21) dX11_best_18 rfl ml_RX11_130 ⟨(Nat.le_of_ble_eq_true rfl), (Nat.le_of_ble_eq_true rfl)⟩ (Nat.le_of_ble_eq_true rfl) ev_X11_isYear2 (fun r_18 h_18 q_18 => ?_)
    obtain ⟨e_18, g_18⟩ := q_18
    rw [e_18, g_18]
    refine k_if_eq (pc' := 24) (tg := 44) dX11_best_21 rfl (by decide) (fun c_21 => ?_) (fun c_21 => ?_)
    · skip
      refine k_iconst (pc' := 45) (v := (-1)) dX11_best_44 rfl (by decide) ?_
      exact k_iret dX11_best_45 rfl ⟨rfl, rfl⟩
    · skip
      refine k_iload_n (pc' := 25) dX11_best_24 rfl rfl ?_
      refine k_callS1 (pc' := 28) dX11_best_25 rfl ml_RX11_130 ⟨(Nat.le_of_ble_eq_true rfl), (Nat.le_of_ble_eq_true rfl)⟩ (Nat.le_of_ble_eq_true rfl) ev_X11_isYear2 (fun r_25 h_25 q_25 => ?_)
      obtain ⟨e_25, g_25⟩ := q_25
      rw [e_25, g_25]
      refine k_if_eq (pc' := 31) (tg := 44) dX11_best_28 rfl (by decide) (fun c_28 => ?_) (fun c_28 => ?_)
      · skip
        refine k_iconst (pc' := 45) (v := (-1)) dX11_best_44 rfl (by decide) ?_
        exact k_iret dX11_best_45 rfl ⟨rfl, rfl⟩
      · skip
        refine k_iload (pc' := 33) dX11_best_31 rfl rfl ?_
        refine k_i2l (pc' := 34) dX11_best_33 rfl ?_
        refine k_lconst (pc' := 35) (v := 0) dX11_best_34 rfl (by decide) ?_
        refine k_ldc2 (pc' := 38) dX11_best_35 rfl kc_RX11_167 ?_
        refine k_callS3 (pc' := 41) dX11_best_38 rfl ml_RX11_110 ⟨(Nat.le_of_ble_eq_true rfl), (Nat.le_of_ble_eq_true rfl)⟩ (Nat.le_of_ble_eq_true rfl) ev_X11_in (fun r_38 h_38 q_38 => ?_)
        obtain ⟨e_38, g_38⟩ := q_38
        rw [e_38, g_38]
        refine k_if_ne (pc' := 44) (tg := 46) dX11_best_41 rfl (by decide) (fun c_41 => ?_) (fun c_41 => ?_)
        · exfalso
          (try simp only [eq_self, not_true_eq_false, not_false_eq_true, k_b0, k_b1, k_c0, k_cl, k_cg, k_cle, k_cge] at *) <;> (try simp only [eq_self, not_true_eq_false, not_false_eq_true, k_le, k_lt, k_eq, k_leL, k_ltL, k_eqL, k_il, li_m6, li_m5, li_m3, li_m2, li_m1, li_0, li_1, li_2, li_3, li_4, li_5, li_6, li_7, li_8, li_10, li_11, li_12, li_20, li_24, li_25, li_26, li_32, li_39, li_40, li_48, li_57, li_59, li_60, li_96, li_97, li_100, li_122, li_180, li_200, li_255, li_300, li_468, li_480, li_500, li_1000, li_2000, li_10000, li_10001, li_100000, li_1000000, li_100000000, lj_m1, lj_0, lj_1, lj_2, lj_3, lj_24, lj_39, lj_100, lj_500, lj_1000, lj_2000, lj_10000, lj_100000, lj_1000000, lj_100000000, lj_10, lj_20, lj_12, lj_32, lj_96] at *) <;> omega
        · skip
          refine k_iconst (pc' := 45) (v := (-1)) dX11_best_44 rfl (by decide) ?_
          exact k_iret dX11_best_45 rfl ⟨rfl, rfl⟩

set_option maxHeartbeats 400000 in
set_option maxRecDepth 100000 in
theorem ev_X10_best_ok {f y k w : Int32} {μ : kH} (hb : (0 ≤ f ∧ f ≤ 100000) ∧ (0 ≤ y ∧ y ≤ 39) ∧ (0 ≤ k ∧ k ≤ 39)) {N : Nat} (hN : N ≤ 300) (hsz : μ.1 3 4 = nI N) : Ev kX10_best [kr 0, ki f, ki y, ki k, ki w] μ (fun r h' => r = ki (if w = 0 then (kPick (kTurn μ y k N) f).1 8 3 else if w = 1 then (kPick (kTurn μ y k N) f).1 8 4 else if w = 2 then (kPick (kTurn μ y k N) f).1 8 5 else -1) ∧ h' = kPick (kTurn μ y k N) f) := by
  refine k_ev (ls := [_, _, _, _, _]) (by decide) (Nat.le_of_ble_eq_true rfl) rfl ?_
  refine k_iload_n (pc' := 1) dX10_best_0 rfl rfl ?_
  refine k_iconst (pc' := 2) (v := 0) dX10_best_1 rfl (by decide) ?_
  refine k_ldc (pc' := 4) dX10_best_2 rfl kc_RX10_148 ?_
  refine k_callS3 (pc' := 7) dX10_best_4 rfl ml_RX10_85 ⟨(Nat.le_of_ble_eq_true rfl), (Nat.le_of_ble_eq_true rfl)⟩ (Nat.le_of_ble_eq_true rfl) ev_X10_within (fun r_4 h_4 q_4 => ?_)
  obtain ⟨e_4, g_4⟩ := q_4
  rw [e_4, g_4]
  refine k_if_eq (pc' := 10) (tg := 24) dX10_best_7 rfl (by decide) (fun c_7 => ?_) (fun c_7 => ?_)
  · exfalso
    (try simp only [eq_self, not_true_eq_false, not_false_eq_true, k_b0, k_b1, k_c0, k_cl, k_cg, k_cle, k_cge] at *) <;> (try simp only [eq_self, not_true_eq_false, not_false_eq_true, k_le, k_lt, k_eq, k_leL, k_ltL, k_eqL, k_il, li_m6, li_m5, li_m3, li_m2, li_m1, li_0, li_1, li_2, li_3, li_4, li_5, li_6, li_7, li_8, li_10, li_11, li_12, li_20, li_24, li_25, li_26, li_32, li_39, li_40, li_48, li_57, li_59, li_60, li_96, li_97, li_100, li_122, li_180, li_200, li_255, li_300, li_468, li_480, li_500, li_1000, li_2000, li_10000, li_10001, li_100000, li_1000000, li_100000000, lj_m1, lj_0, lj_1, lj_2, lj_3, lj_24, lj_39, lj_100, lj_500, lj_1000, lj_2000, lj_10000, lj_100000, lj_1000000, lj_100000000, lj_10, lj_20, lj_12, lj_32, lj_96] at *) <;> omega
  · skip
    refine k_iload_n (pc' := 11) dX10_best_10 rfl rfl ?_
    refine k_callS1 (pc' := 14) dX10_best_11 rfl ml_RX10_107 ⟨(Nat.le_of_ble_eq_true rfl), (Nat.le_of_ble_eq_true rfl)⟩ (Nat.le_of_ble_eq_true rfl) ev_X10_isYear (fun r_11 h_11 q_11 => ?_)
    obtain ⟨e_11, g_11⟩ := q_11
    rw [e_11, g_11]
    refine k_if_eq (pc' := 17) (tg := 24) dX10_best_14 rfl (by decide) (fun c_14 => ?_) (fun c_14 => ?_)
    · exfalso
      (try simp only [eq_self, not_true_eq_false, not_false_eq_true, k_b0, k_b1, k_c0, k_cl, k_cg, k_cle, k_cge] at *) <;> (try simp only [eq_self, not_true_eq_false, not_false_eq_true, k_le, k_lt, k_eq, k_leL, k_ltL, k_eqL, k_il, li_m6, li_m5, li_m3, li_m2, li_m1, li_0, li_1, li_2, li_3, li_4, li_5, li_6, li_7, li_8, li_10, li_11, li_12, li_20, li_24, li_25, li_26, li_32, li_39, li_40, li_48, li_57, li_59, li_60, li_96, li_97, li_100, li_122, li_180, li_200, li_255, li_300, li_468, li_480, li_500, li_1000, li_2000, li_10000, li_10001, li_100000, li_1000000, li_100000000, lj_m1, lj_0, lj_1, lj_2, lj_3, lj_24, lj_39, lj_100, lj_500, lj_1000, lj_2000, lj_10000, lj_100000, lj_1000000, lj_100000000, lj_10, lj_20, lj_12, lj_32, lj_96] at *) <;> omega
    · skip
      refine k_iload_n (pc' := 18) dX10_best_17 rfl rfl ?_
      refine k_callS1 (pc' := 21) dX10_best_18 rfl ml_RX10_107 ⟨(Nat.le_of_ble_eq_true rfl), (Nat.le_of_ble_eq_true rfl)⟩ (Nat.le_of_ble_eq_true rfl) ev_X10_isYear (fun r_18 h_18 q_18 => ?_)
      obtain ⟨e_18, g_18⟩ := q_18
      rw [e_18, g_18]
      refine k_if_ne (pc' := 24) (tg := 26) dX10_best_21 rfl (by decide) (fun c_21 => ?_) (fun c_21 => ?_)
      · skip
        refine k_aload_n (pc' := 27) dX10_best_26 rfl rfl ?_
        refine k_getR (pc' := 30) fl_RX10_28 dX10_best_27 rfl rfl rfl ?_
        refine k_iload_n (pc' := 31) dX10_best_30 rfl rfl ?_
        refine k_iload_n (pc' := 32) dX10_best_31 rfl rfl ?_
        refine k_callV2 (pc' := 35) dX10_best_32 rfl ml_RX10_149 rfl rfl ⟨(Nat.le_of_ble_eq_true rfl), (Nat.le_of_ble_eq_true rfl)⟩ (Nat.le_of_ble_eq_true rfl) (ev_X4_turnTo2 hN hsz) (fun r_32 h_32 q_32 => ?_)
        obtain ⟨e_32, g_32⟩ := q_32
        rw [e_32, g_32]
        refine k_aload_n (pc' := 36) dX10_best_35 rfl rfl ?_
        refine k_getR (pc' := 39) fl_RX10_28 dX10_best_36 rfl rfl rfl ?_
        refine k_iload_n (pc' := 40) dX10_best_39 rfl rfl ?_
        refine k_callV1 (pc' := 43) dX10_best_40 rfl ml_RX10_153 rfl rfl ⟨(Nat.le_of_ble_eq_true rfl), (Nat.le_of_ble_eq_true rfl)⟩ (Nat.le_of_ble_eq_true rfl) ev_X4_choose2 (fun r_40 h_40 q_40 => ?_)
        obtain ⟨e_40, g_40⟩ := q_40
        rw [e_40, g_40]
        refine k_iload (pc' := 45) dX10_best_43 rfl rfl ?_
        refine k_topi (fun y_45 e_45 => ?_)
        by_cases s_45_0 : y_45 = 0
        · rw [s_45_0] at e_45
          rw [s_45_0]
          refine k_tableIn (tg := 72) (off := 27) dX10_best_45 (by decide) (by decide) (by decide) (by decide) ?_
          refine k_aload_n (pc' := 73) dX10_best_72 rfl rfl ?_
          refine k_getR (pc' := 76) fl_RX10_28 dX10_best_73 rfl rfl rfl ?_
          refine k_getI (pc' := 79) fl_RX10_157 dX10_best_76 rfl rfl rfl ?_
          exact k_iret dX10_best_79 rfl (by first | exact ⟨by rw [← e_45]; rfl, rfl⟩ | exact ⟨by subst e_45; simp [*], rfl⟩)
        by_cases s_45_1 : y_45 = 1
        · rw [s_45_1] at e_45
          rw [s_45_1]
          refine k_tableIn (tg := 80) (off := 35) dX10_best_45 (by decide) (by decide) (by decide) (by decide) ?_
          refine k_aload_n (pc' := 81) dX10_best_80 rfl rfl ?_
          refine k_getR (pc' := 84) fl_RX10_28 dX10_best_81 rfl rfl rfl ?_
          refine k_getI (pc' := 87) fl_RX10_160 dX10_best_84 rfl rfl rfl ?_
          exact k_iret dX10_best_87 rfl (by first | exact ⟨by rw [← e_45]; rfl, rfl⟩ | exact ⟨by subst e_45; simp [*], rfl⟩)
        by_cases s_45_2 : y_45 = 2
        · rw [s_45_2] at e_45
          rw [s_45_2]
          refine k_tableIn (tg := 88) (off := 43) dX10_best_45 (by decide) (by decide) (by decide) (by decide) ?_
          refine k_aload_n (pc' := 89) dX10_best_88 rfl rfl ?_
          refine k_getR (pc' := 92) fl_RX10_28 dX10_best_89 rfl rfl rfl ?_
          refine k_getI (pc' := 95) fl_RX10_163 dX10_best_92 rfl rfl rfl ?_
          exact k_iret dX10_best_95 rfl (by first | exact ⟨by rw [← e_45]; rfl, rfl⟩ | exact ⟨by subst e_45; simp [*], rfl⟩)
        refine k_tableOut (tg := 96) dX10_best_45 (by simp only [eq_self, not_true_eq_false, not_false_eq_true, k_le, k_lt, k_eq, k_leL, k_ltL, k_eqL, k_il, li_m6, li_m5, li_m3, li_m2, li_m1, li_0, li_1, li_2, li_3, li_4, li_5, li_6, li_7, li_8, li_10, li_11, li_12, li_20, li_24, li_25, li_26, li_32, li_39, li_40, li_48, li_57, li_59, li_60, li_96, li_97, li_100, li_122, li_180, li_200, li_255, li_300, li_468, li_480, li_500, li_1000, li_2000, li_10000, li_10001, li_100000, li_1000000, li_100000000, lj_m1, lj_0, lj_1, lj_2, lj_3, lj_24, lj_39, lj_100, lj_500, lj_1000, lj_2000, lj_10000, lj_100000, lj_1000000, lj_100000000, lj_10, lj_20, lj_12, lj_32, lj_96] at *; omega) (by decide) ?_
        refine k_iconst (pc' := 97) (v := (-1)) dX10_best_96 rfl (by decide) ?_
        exact k_iret dX10_best_97 rfl (by first | exact ⟨by rw [← e_45]; rfl, rfl⟩ | exact ⟨by subst e_45; simp [*], rfl⟩)
      · exfalso
        (try simp only [eq_self, not_true_eq_false, not_false_eq_true, k_b0, k_b1, k_c0, k_cl, k_cg, k_cle, k_cge] at *) <;> (try simp only [eq_self, not_true_eq_false, not_false_eq_true, k_le, k_lt, k_eq, k_leL, k_ltL, k_eqL, k_il, li_m6, li_m5, li_m3, li_m2, li_m1, li_0, li_1, li_2, li_3, li_4, li_5, li_6, li_7, li_8, li_10, li_11, li_12, li_20, li_24, li_25, li_26, li_32, li_39, li_40, li_48, li_57, li_59, li_60, li_96, li_97, li_100, li_122, li_180, li_200, li_255, li_300, li_468, li_480, li_500, li_1000, li_2000, li_10000, li_10001, li_100000, li_1000000, li_100000000, lj_m1, lj_0, lj_1, lj_2, lj_3, lj_24, lj_39, lj_100, lj_500, lj_1000, lj_2000, lj_10000, lj_100000, lj_1000000, lj_100000000, lj_10, lj_20, lj_12, lj_32, lj_96] at *) <;> omega

set_option maxHeartbeats 400000 in
set_option maxRecDepth 100000 in
theorem ev_X10_best_bad {f y k w : Int32} {μ : kH} (hb : ¬ ((0 ≤ f ∧ f ≤ 100000) ∧ (0 ≤ y ∧ y ≤ 39) ∧ (0 ≤ k ∧ k ≤ 39))) : Ev kX10_best [kr 0, ki f, ki y, ki k, ki w] μ (fun r h' => r = ki (-1) ∧ h' = μ) := by
  refine k_ev (ls := [_, _, _, _, _]) (by decide) (Nat.le_of_ble_eq_true rfl) rfl ?_
  refine k_iload_n (pc' := 1) dX10_best_0 rfl rfl ?_
  refine k_iconst (pc' := 2) (v := 0) dX10_best_1 rfl (by decide) ?_
  refine k_ldc (pc' := 4) dX10_best_2 rfl kc_RX10_148 ?_
  refine k_callS3 (pc' := 7) dX10_best_4 rfl ml_RX10_85 ⟨(Nat.le_of_ble_eq_true rfl), (Nat.le_of_ble_eq_true rfl)⟩ (Nat.le_of_ble_eq_true rfl) ev_X10_within (fun r_4 h_4 q_4 => ?_)
  obtain ⟨e_4, g_4⟩ := q_4
  rw [e_4, g_4]
  refine k_if_eq (pc' := 10) (tg := 24) dX10_best_7 rfl (by decide) (fun c_7 => ?_) (fun c_7 => ?_)
  · skip
    refine k_iconst (pc' := 25) (v := (-1)) dX10_best_24 rfl (by decide) ?_
    exact k_iret dX10_best_25 rfl ⟨rfl, rfl⟩
  · skip
    refine k_iload_n (pc' := 11) dX10_best_10 rfl rfl ?_
    refine k_callS1 (pc' := 14) dX10_best_11 rfl ml_RX10_107 ⟨(Nat.le_of_ble_eq_true rfl), (Nat.le_of_ble_eq_true rfl)⟩ (Nat.le_of_ble_eq_true rfl) ev_X10_isYear (fun r_11 h_11 q_11 => ?_)
    obtain ⟨e_11, g_11⟩ := q_11
    rw [e_11, g_11]
    refine k_if_eq (pc' := 17) (tg := 24) dX10_best_14 rfl (by decide) (fun c_14 => ?_) (fun c_14 => ?_)
    · skip
      refine k_iconst (pc' := 25) (v := (-1)) dX10_best_24 rfl (by decide) ?_
      exact k_iret dX10_best_25 rfl ⟨rfl, rfl⟩
    · skip
      refine k_iload_n (pc' := 18) dX10_best_17 rfl rfl ?_
      refine k_callS1 (pc' := 21) dX10_best_18 rfl ml_RX10_107 ⟨(Nat.le_of_ble_eq_true rfl), (Nat.le_of_ble_eq_true rfl)⟩ (Nat.le_of_ble_eq_true rfl) ev_X10_isYear (fun r_18 h_18 q_18 => ?_)
      obtain ⟨e_18, g_18⟩ := q_18
      rw [e_18, g_18]
      refine k_if_ne (pc' := 24) (tg := 26) dX10_best_21 rfl (by decide) (fun c_21 => ?_) (fun c_21 => ?_)
      · exfalso
        (try simp only [eq_self, not_true_eq_false, not_false_eq_true, k_b0, k_b1, k_c0, k_cl, k_cg, k_cle, k_cge] at *) <;> (try simp only [eq_self, not_true_eq_false, not_false_eq_true, k_le, k_lt, k_eq, k_leL, k_ltL, k_eqL, k_il, li_m6, li_m5, li_m3, li_m2, li_m1, li_0, li_1, li_2, li_3, li_4, li_5, li_6, li_7, li_8, li_10, li_11, li_12, li_20, li_24, li_25, li_26, li_32, li_39, li_40, li_48, li_57, li_59, li_60, li_96, li_97, li_100, li_122, li_180, li_200, li_255, li_300, li_468, li_480, li_500, li_1000, li_2000, li_10000, li_10001, li_100000, li_1000000, li_100000000, lj_m1, lj_0, lj_1, lj_2, lj_3, lj_24, lj_39, lj_100, lj_500, lj_1000, lj_2000, lj_10000, lj_100000, lj_1000000, lj_100000000, lj_10, lj_20, lj_12, lj_32, lj_96] at *) <;> omega
      · skip
        refine k_iconst (pc' := 25) (v := (-1)) dX10_best_24 rfl (by decide) ?_
        exact k_iret dX10_best_25 rfl ⟨rfl, rfl⟩

