def nxN (s : Nat) : Nat := if s = 0 then 0 else if s = 25 then 25 else s + 1
theorem nxN_lt {s : Nat} (hs : s < 26) : nxN s < 26 := by unfold nxN; (repeat' split) <;> omega
theorem k_nxN {s : Nat} (hs : s < 26) : k_next (nI s) = nI (nxN s) := by
  have e0 := nI_toInt (n := s) (by omega)
  have e1 : (nI s - 1).toInt = s - 1 := by rw [k_sub (by rw [e0, li_1]; omega), e0, li_1]
  have e2 : (nI s - 1 + 1).toInt = s := by rw [k_add (by rw [e1, li_1]; omega), e1, li_1]; omega
  have e3 := nI_toInt (n := nxN s) (by have z := nxN_lt hs; omega)
  unfold k_next
  by_cases z1 : s = 0
  · subst z1; rfl
  · rw [if_neg (by rw [k_eq, e1, li_m1]; omega)]
    by_cases z2 : s = 25
    · subst z2; rfl
    · rw [if_neg (by rw [k_lt, e2, li_24]; omega), k_eq, k_add (by rw [e2, li_1]; omega), e2, li_1, e3]
      unfold nxN
      rw [if_neg z1, if_neg z2]
      omega
theorem ev_X5_worthIn2 {s : Nat} {μ : kH} {W : Nat → Int64} (hs : s < 26) (hW : ∀ q, q < 26 → W q = μ.2 33 q + μ.2 35 (nxN q)) : Ev kX5_worthIn [kr 30, ki (nI s)] μ (fun r h' => r = kl (W s) ∧ h' = μ) := by
  refine k_evm (ev_X5_worthIn (n := nI s) (vp_in_nI hs (by decide)) (by rw [k_nxN hs]; exact vp_in_nI (nxN_lt hs) (by decide))) (fun r h' q => ⟨?_, q.2⟩)
  rw [q.1, k_nxN hs, nI_clamp (by omega), nI_clamp (by have z := nxN_lt hs; omega), hW s hs]
/-- a year's choice in a state: W what each state brings from here on -/
def dX (W : Nat → Int64) (cost : Int64) (s : Nat) : Int32 × Int64 := if (if ¬ s = 0 ∧ W s < W 0 then W 0 else W s) < W 1 - cost then (if s = 0 then 2 else 3, W 1 - cost) else if ¬ s = 0 ∧ W s < W 0 then (1, W 0) else (0, W s)
def kD (W : Nat → Int64) (cost : Int64) (y i : Nat) (c0 g : Nat → Int32) (w : Nat → Int64) : Prop := (∀ j, j < i → w j = (dX W cost j).2 ∧ g (26 * y + j) = (dX W cost j).1) ∧ ∀ j, (j < 26 * y ∨ 26 * y + i ≤ j) → g j = c0 j
theorem kD_step {W : Nat → Int64} {cost : Int64} {y i : Nat} {c0 g : Nat → Int32} {w : Nat → Int64} {c : Int32} {m : Int64} (q : kD W cost y i c0 g w) (e : (c, m) = dX W cost i) : kD W cost y (i + 1) c0 (upd g (26 * y + i) c) (vp_updL w i m) := by
  have e1 : c = (dX W cost i).1 := by rw [← e]
  have e2 : m = (dX W cost i).2 := by rw [← e]
  refine ⟨fun j hj => ?_, fun j hj => ?_⟩
  · simp only [upd, vp_updL]
    by_cases z : j = i
    · subst z; rw [if_pos rfl, if_pos rfl]; exact ⟨e2, e1⟩
    · rw [if_neg z, if_neg (by omega)]; exact q.1 j (by omega)
  · simp only [upd]
    rw [if_neg (by omega)]; exact q.2 j (by omega)

set_option maxHeartbeats 400000 in
set_option maxRecDepth 100000 in
theorem lp_X5_decideYear {cost : Int32} {μ : kH} {y N : Nat} {W : Nat → Int64} (hy : y < 20) (hN : N = 26) (hsz : (26 : Int32) = nI N) (hW : ∀ q, q < 26 → W q = μ.2 33 q + μ.2 35 (nxN q)) : ∀ (n i : Nat) (g : Nat → Int32) (w : Nat → Int64), i + n = N → kD W cost.toInt64 y i (μ.1 32) g w → At kX5_decideYear 2 [kr 30, ki (nI y), ki cost, ki (nI i), ku, ku, ku] [] (hs μ.1 32 g, hs μ.2 34 w) (kRet kX5_decideYear (fun r h' => r = ku ∧ ∃ (g : Nat → Int32) (w : Nat → Int64), h' = (hs μ.1 32 g, hs μ.2 34 w) ∧ kD W cost.toInt64 y 26 (μ.1 32) g w)) := by
  intro n
  induction n with
  | zero =>
    intro i g w hi q
    refine k_iload_n (pc' := 3) dX5_decideYear_2 rfl rfl ?_
    refine k_bipush (pc' := 5) (v := 26) dX5_decideYear_3 rfl (by decide) ?_
    refine k_icmp_ge (pc' := 8) (tg := 105) dX5_decideYear_5 rfl (by decide) (fun c_5 => ?_) (fun c_5 => ?_)
    · skip
      exact k_vret dX5_decideYear_105 rfl ⟨rfl, g, w, rfl, by rw [show i = 26 from by omega] at q; exact q⟩
    · exfalso
      exact c_5 (show (26 : Int32) ≤ nI i by rw [hsz, show i = N from by omega]; exact Int32.le_refl _)
  | succ n ih =>
    intro i g w hi q
    have hlt : i < N := by omega
    have e0 := nI_toInt (n := i) (by omega)
    refine k_iload_n (pc' := 3) dX5_decideYear_2 rfl rfl ?_
    refine k_bipush (pc' := 5) (v := 26) dX5_decideYear_3 rfl (by decide) ?_
    refine k_icmp_ge (pc' := 8) (tg := 105) dX5_decideYear_5 rfl (by decide) (fun c_5 => ?_) (fun c_5 => ?_)
    · exfalso
      have c9 : (26 : Int32) ≤ nI i := c_5
      rw [hsz] at c9
      exact nI_ge hlt (by omega) c9
    · skip
      refine k_iconst (pc' := 9) (v := 0) dX5_decideYear_8 rfl (by decide) ?_
      refine k_istore (pc' := 11) (k0 := 0) (ls' := [_, _, _, _, _, _, _]) dX5_decideYear_9 rfl (by decide) rfl ?_
      refine k_aload_n (pc' := 12) dX5_decideYear_11 rfl rfl ?_
      refine k_iload_n (pc' := 13) dX5_decideYear_12 rfl rfl ?_
      refine k_callV1 (pc' := 16) dX5_decideYear_13 rfl ml_RX5_109 rfl rfl ⟨(Nat.le_of_ble_eq_true rfl), (Nat.le_of_ble_eq_true rfl)⟩ (Nat.le_of_ble_eq_true rfl) (ev_X5_worthIn2 (s := i) (W := W) (by omega) hW) (fun r_13 h_13 q_13 => ?_)
      obtain ⟨e_13, g_13⟩ := q_13
      rw [e_13, g_13]
      refine k_lstore (pc' := 18) (k0 := 0) (ls' := [_, _, _, _, _, _, _]) dX5_decideYear_16 rfl (by decide) rfl ?_
      refine k_iload_n (pc' := 19) dX5_decideYear_18 rfl rfl ?_
      refine k_if_eq (pc' := 22) (tg := 43) dX5_decideYear_19 rfl (by decide) (fun c_19 => ?_) (fun c_19 => ?_)
      · skip
        refine k_aload_n (pc' := 44) dX5_decideYear_43 rfl rfl ?_
        refine k_iconst (pc' := 45) (v := 1) dX5_decideYear_44 rfl (by decide) ?_
        refine k_callV1 (pc' := 48) dX5_decideYear_45 rfl ml_RX5_109 rfl rfl ⟨(Nat.le_of_ble_eq_true rfl), (Nat.le_of_ble_eq_true rfl)⟩ (Nat.le_of_ble_eq_true rfl) (ev_X5_worthIn2 (s := 1) (W := W) (by omega) hW) (fun r_45 h_45 q_45 => ?_)
        obtain ⟨e_45, g_45⟩ := q_45
        rw [e_45, g_45]
        refine k_iload_n (pc' := 49) dX5_decideYear_48 rfl rfl ?_
        refine k_i2l (pc' := 50) dX5_decideYear_49 rfl ?_
        refine k_lsub (pc' := 51) dX5_decideYear_50 rfl ?_
        refine k_lload (pc' := 53) dX5_decideYear_51 rfl rfl ?_
        refine k_lcmp (pc' := 54) dX5_decideYear_53 rfl ?_
        refine k_if_le (pc' := 57) (tg := 78) dX5_decideYear_54 rfl (by decide) (fun c_54 => ?_) (fun c_54 => ?_)
        · skip
          refine k_aload_n (pc' := 79) dX5_decideYear_78 rfl rfl ?_
          refine k_getR (pc' := 82) fl_RX5_19 dX5_decideYear_79 rfl rfl rfl ?_
          refine k_iload_n (pc' := 83) dX5_decideYear_82 rfl rfl ?_
          refine k_bipush (pc' := 85) (v := 26) dX5_decideYear_83 rfl (by decide) ?_
          refine k_imul (pc' := 86) dX5_decideYear_85 rfl ?_
          refine k_iload_n (pc' := 87) dX5_decideYear_86 rfl rfl ?_
          refine k_iadd (pc' := 88) dX5_decideYear_87 rfl ?_
          refine k_iload (pc' := 90) dX5_decideYear_88 rfl rfl ?_
          rw [k_26c y i]
          refine k_iastN (pc' := 91) dX5_decideYear_90 rfl rfl (by omega) (by decide) ?_
          refine k_aload_n (pc' := 92) dX5_decideYear_91 rfl rfl ?_
          refine k_getR (pc' := 95) fl_RX5_26 dX5_decideYear_92 rfl rfl rfl ?_
          refine k_iload_n (pc' := 96) dX5_decideYear_95 rfl rfl ?_
          refine k_lload (pc' := 98) dX5_decideYear_96 rfl rfl ?_
          refine k_lastN (pc' := 99) dX5_decideYear_98 rfl rfl (by omega) (by decide) ?_
          refine k_iinc (pc' := 102) (v := nI (_ + 1)) (ls' := [_, _, _, _, _, _, _]) dX5_decideYear_99 rfl rfl (nI_1 _) (by decide) rfl ?_
          refine k_goto (tg := 2) dX5_decideYear_102 (by decide) ?_
          refine k_heq (congrArg (fun z => hL z 34 i _) (hI_row μ.1 (hs μ.2 34 w) 32 g (26 * y + i) _)) ?_
          refine k_heq (hL_row (hs μ.1 32 _) μ.2 34 w i _) ?_
          refine k_wk (by repeat' (first | exact trivial | exact rfl | apply And.intro)) (ih (i + 1) _ _ (by omega) (kD_step q ?_))
          unfold dX
          (repeat' split) <;> first | rfl | (exfalso; clear ih hW q; (try simp only [eq_self, not_true_eq_false, not_false_eq_true, k_b0, k_b1, k_c0, k_cl, k_cg, k_cle, k_cge] at *) <;> (try simp only [e0, eq_self, not_true_eq_false, not_false_eq_true, k_le, k_lt, k_eq, k_leL, k_ltL, k_eqL, k_il, li_m6, li_m5, li_m3, li_m2, li_m1, li_0, li_1, li_2, li_3, li_4, li_5, li_6, li_7, li_8, li_10, li_11, li_12, li_20, li_24, li_25, li_26, li_32, li_39, li_40, li_48, li_57, li_59, li_60, li_96, li_97, li_100, li_122, li_180, li_200, li_255, li_300, li_468, li_480, li_500, li_1000, li_2000, li_10000, li_10001, li_100000, li_1000000, li_100000000, lj_m1, lj_0, lj_1, lj_2, lj_3, lj_24, lj_39, lj_100, lj_500, lj_1000, lj_2000, lj_10000, lj_100000, lj_1000000, lj_100000000, lj_10, lj_20, lj_12, lj_32, lj_96] at *) <;> omega)
        · skip
          refine k_iload_n (pc' := 58) dX5_decideYear_57 rfl rfl ?_
          refine k_if_ne (pc' := 61) (tg := 65) dX5_decideYear_58 rfl (by decide) (fun c_58 => ?_) (fun c_58 => ?_)
          · skip
            refine k_iconst (pc' := 66) (v := 3) dX5_decideYear_65 rfl (by decide) ?_
            refine k_istore (pc' := 68) (k0 := 0) (ls' := [_, _, _, _, _, _, _]) dX5_decideYear_66 rfl (by decide) rfl ?_
            refine k_aload_n (pc' := 69) dX5_decideYear_68 rfl rfl ?_
            refine k_iconst (pc' := 70) (v := 1) dX5_decideYear_69 rfl (by decide) ?_
            refine k_callV1 (pc' := 73) dX5_decideYear_70 rfl ml_RX5_109 rfl rfl ⟨(Nat.le_of_ble_eq_true rfl), (Nat.le_of_ble_eq_true rfl)⟩ (Nat.le_of_ble_eq_true rfl) (ev_X5_worthIn2 (s := 1) (W := W) (by omega) hW) (fun r_70 h_70 q_70 => ?_)
            obtain ⟨e_70, g_70⟩ := q_70
            rw [e_70, g_70]
            refine k_iload_n (pc' := 74) dX5_decideYear_73 rfl rfl ?_
            refine k_i2l (pc' := 75) dX5_decideYear_74 rfl ?_
            refine k_lsub (pc' := 76) dX5_decideYear_75 rfl ?_
            refine k_lstore (pc' := 78) (k0 := 0) (ls' := [_, _, _, _, _, _, _]) dX5_decideYear_76 rfl (by decide) rfl ?_
            refine k_aload_n (pc' := 79) dX5_decideYear_78 rfl rfl ?_
            refine k_getR (pc' := 82) fl_RX5_19 dX5_decideYear_79 rfl rfl rfl ?_
            refine k_iload_n (pc' := 83) dX5_decideYear_82 rfl rfl ?_
            refine k_bipush (pc' := 85) (v := 26) dX5_decideYear_83 rfl (by decide) ?_
            refine k_imul (pc' := 86) dX5_decideYear_85 rfl ?_
            refine k_iload_n (pc' := 87) dX5_decideYear_86 rfl rfl ?_
            refine k_iadd (pc' := 88) dX5_decideYear_87 rfl ?_
            refine k_iload (pc' := 90) dX5_decideYear_88 rfl rfl ?_
            rw [k_26c y i]
            refine k_iastN (pc' := 91) dX5_decideYear_90 rfl rfl (by omega) (by decide) ?_
            refine k_aload_n (pc' := 92) dX5_decideYear_91 rfl rfl ?_
            refine k_getR (pc' := 95) fl_RX5_26 dX5_decideYear_92 rfl rfl rfl ?_
            refine k_iload_n (pc' := 96) dX5_decideYear_95 rfl rfl ?_
            refine k_lload (pc' := 98) dX5_decideYear_96 rfl rfl ?_
            refine k_lastN (pc' := 99) dX5_decideYear_98 rfl rfl (by omega) (by decide) ?_
            refine k_iinc (pc' := 102) (v := nI (_ + 1)) (ls' := [_, _, _, _, _, _, _]) dX5_decideYear_99 rfl rfl (nI_1 _) (by decide) rfl ?_
            refine k_goto (tg := 2) dX5_decideYear_102 (by decide) ?_
            refine k_heq (congrArg (fun z => hL z 34 i _) (hI_row μ.1 (hs μ.2 34 w) 32 g (26 * y + i) _)) ?_
            refine k_heq (hL_row (hs μ.1 32 _) μ.2 34 w i _) ?_
            refine k_wk (by repeat' (first | exact trivial | exact rfl | apply And.intro)) (ih (i + 1) _ _ (by omega) (kD_step q ?_))
            unfold dX
            (repeat' split) <;> first | rfl | (exfalso; clear ih hW q; (try simp only [eq_self, not_true_eq_false, not_false_eq_true, k_b0, k_b1, k_c0, k_cl, k_cg, k_cle, k_cge] at *) <;> (try simp only [e0, eq_self, not_true_eq_false, not_false_eq_true, k_le, k_lt, k_eq, k_leL, k_ltL, k_eqL, k_il, li_m6, li_m5, li_m3, li_m2, li_m1, li_0, li_1, li_2, li_3, li_4, li_5, li_6, li_7, li_8, li_10, li_11, li_12, li_20, li_24, li_25, li_26, li_32, li_39, li_40, li_48, li_57, li_59, li_60, li_96, li_97, li_100, li_122, li_180, li_200, li_255, li_300, li_468, li_480, li_500, li_1000, li_2000, li_10000, li_10001, li_100000, li_1000000, li_100000000, lj_m1, lj_0, lj_1, lj_2, lj_3, lj_24, lj_39, lj_100, lj_500, lj_1000, lj_2000, lj_10000, lj_100000, lj_1000000, lj_100000000, lj_10, lj_20, lj_12, lj_32, lj_96] at *) <;> omega)
          · skip
            refine k_iconst (pc' := 62) (v := 2) dX5_decideYear_61 rfl (by decide) ?_
            refine k_goto (tg := 66) dX5_decideYear_62 (by decide) ?_
            refine k_istore (pc' := 68) (k0 := 0) (ls' := [_, _, _, _, _, _, _]) dX5_decideYear_66 rfl (by decide) rfl ?_
            refine k_aload_n (pc' := 69) dX5_decideYear_68 rfl rfl ?_
            refine k_iconst (pc' := 70) (v := 1) dX5_decideYear_69 rfl (by decide) ?_
            refine k_callV1 (pc' := 73) dX5_decideYear_70 rfl ml_RX5_109 rfl rfl ⟨(Nat.le_of_ble_eq_true rfl), (Nat.le_of_ble_eq_true rfl)⟩ (Nat.le_of_ble_eq_true rfl) (ev_X5_worthIn2 (s := 1) (W := W) (by omega) hW) (fun r_70 h_70 q_70 => ?_)
            obtain ⟨e_70, g_70⟩ := q_70
            rw [e_70, g_70]
            refine k_iload_n (pc' := 74) dX5_decideYear_73 rfl rfl ?_
            refine k_i2l (pc' := 75) dX5_decideYear_74 rfl ?_
            refine k_lsub (pc' := 76) dX5_decideYear_75 rfl ?_
            refine k_lstore (pc' := 78) (k0 := 0) (ls' := [_, _, _, _, _, _, _]) dX5_decideYear_76 rfl (by decide) rfl ?_
            refine k_aload_n (pc' := 79) dX5_decideYear_78 rfl rfl ?_
            refine k_getR (pc' := 82) fl_RX5_19 dX5_decideYear_79 rfl rfl rfl ?_
            refine k_iload_n (pc' := 83) dX5_decideYear_82 rfl rfl ?_
            refine k_bipush (pc' := 85) (v := 26) dX5_decideYear_83 rfl (by decide) ?_
            refine k_imul (pc' := 86) dX5_decideYear_85 rfl ?_
            refine k_iload_n (pc' := 87) dX5_decideYear_86 rfl rfl ?_
            refine k_iadd (pc' := 88) dX5_decideYear_87 rfl ?_
            refine k_iload (pc' := 90) dX5_decideYear_88 rfl rfl ?_
            rw [k_26c y i]
            refine k_iastN (pc' := 91) dX5_decideYear_90 rfl rfl (by omega) (by decide) ?_
            refine k_aload_n (pc' := 92) dX5_decideYear_91 rfl rfl ?_
            refine k_getR (pc' := 95) fl_RX5_26 dX5_decideYear_92 rfl rfl rfl ?_
            refine k_iload_n (pc' := 96) dX5_decideYear_95 rfl rfl ?_
            refine k_lload (pc' := 98) dX5_decideYear_96 rfl rfl ?_
            refine k_lastN (pc' := 99) dX5_decideYear_98 rfl rfl (by omega) (by decide) ?_
            refine k_iinc (pc' := 102) (v := nI (_ + 1)) (ls' := [_, _, _, _, _, _, _]) dX5_decideYear_99 rfl rfl (nI_1 _) (by decide) rfl ?_
            refine k_goto (tg := 2) dX5_decideYear_102 (by decide) ?_
            refine k_heq (congrArg (fun z => hL z 34 i _) (hI_row μ.1 (hs μ.2 34 w) 32 g (26 * y + i) _)) ?_
            refine k_heq (hL_row (hs μ.1 32 _) μ.2 34 w i _) ?_
            refine k_wk (by repeat' (first | exact trivial | exact rfl | apply And.intro)) (ih (i + 1) _ _ (by omega) (kD_step q ?_))
            unfold dX
            (repeat' split) <;> first | rfl | (exfalso; clear ih hW q; (try simp only [eq_self, not_true_eq_false, not_false_eq_true, k_b0, k_b1, k_c0, k_cl, k_cg, k_cle, k_cge] at *) <;> (try simp only [e0, eq_self, not_true_eq_false, not_false_eq_true, k_le, k_lt, k_eq, k_leL, k_ltL, k_eqL, k_il, li_m6, li_m5, li_m3, li_m2, li_m1, li_0, li_1, li_2, li_3, li_4, li_5, li_6, li_7, li_8, li_10, li_11, li_12, li_20, li_24, li_25, li_26, li_32, li_39, li_40, li_48, li_57, li_59, li_60, li_96, li_97, li_100, li_122, li_180, li_200, li_255, li_300, li_468, li_480, li_500, li_1000, li_2000, li_10000, li_10001, li_100000, li_1000000, li_100000000, lj_m1, lj_0, lj_1, lj_2, lj_3, lj_24, lj_39, lj_100, lj_500, lj_1000, lj_2000, lj_10000, lj_100000, lj_1000000, lj_100000000, lj_10, lj_20, lj_12, lj_32, lj_96] at *) <;> omega)
      · skip
        refine k_aload_n (pc' := 23) dX5_decideYear_22 rfl rfl ?_
        refine k_iconst (pc' := 24) (v := 0) dX5_decideYear_23 rfl (by decide) ?_
        refine k_callV1 (pc' := 27) dX5_decideYear_24 rfl ml_RX5_109 rfl rfl ⟨(Nat.le_of_ble_eq_true rfl), (Nat.le_of_ble_eq_true rfl)⟩ (Nat.le_of_ble_eq_true rfl) (ev_X5_worthIn2 (s := 0) (W := W) (by omega) hW) (fun r_24 h_24 q_24 => ?_)
        obtain ⟨e_24, g_24⟩ := q_24
        rw [e_24, g_24]
        refine k_lload (pc' := 29) dX5_decideYear_27 rfl rfl ?_
        refine k_lcmp (pc' := 30) dX5_decideYear_29 rfl ?_
        refine k_if_le (pc' := 33) (tg := 43) dX5_decideYear_30 rfl (by decide) (fun c_30 => ?_) (fun c_30 => ?_)
        · skip
          refine k_aload_n (pc' := 44) dX5_decideYear_43 rfl rfl ?_
          refine k_iconst (pc' := 45) (v := 1) dX5_decideYear_44 rfl (by decide) ?_
          refine k_callV1 (pc' := 48) dX5_decideYear_45 rfl ml_RX5_109 rfl rfl ⟨(Nat.le_of_ble_eq_true rfl), (Nat.le_of_ble_eq_true rfl)⟩ (Nat.le_of_ble_eq_true rfl) (ev_X5_worthIn2 (s := 1) (W := W) (by omega) hW) (fun r_45 h_45 q_45 => ?_)
          obtain ⟨e_45, g_45⟩ := q_45
          rw [e_45, g_45]
          refine k_iload_n (pc' := 49) dX5_decideYear_48 rfl rfl ?_
          refine k_i2l (pc' := 50) dX5_decideYear_49 rfl ?_
          refine k_lsub (pc' := 51) dX5_decideYear_50 rfl ?_
          refine k_lload (pc' := 53) dX5_decideYear_51 rfl rfl ?_
          refine k_lcmp (pc' := 54) dX5_decideYear_53 rfl ?_
          refine k_if_le (pc' := 57) (tg := 78) dX5_decideYear_54 rfl (by decide) (fun c_54 => ?_) (fun c_54 => ?_)
          · skip
            refine k_aload_n (pc' := 79) dX5_decideYear_78 rfl rfl ?_
            refine k_getR (pc' := 82) fl_RX5_19 dX5_decideYear_79 rfl rfl rfl ?_
            refine k_iload_n (pc' := 83) dX5_decideYear_82 rfl rfl ?_
            refine k_bipush (pc' := 85) (v := 26) dX5_decideYear_83 rfl (by decide) ?_
            refine k_imul (pc' := 86) dX5_decideYear_85 rfl ?_
            refine k_iload_n (pc' := 87) dX5_decideYear_86 rfl rfl ?_
            refine k_iadd (pc' := 88) dX5_decideYear_87 rfl ?_
            refine k_iload (pc' := 90) dX5_decideYear_88 rfl rfl ?_
            rw [k_26c y i]
            refine k_iastN (pc' := 91) dX5_decideYear_90 rfl rfl (by omega) (by decide) ?_
            refine k_aload_n (pc' := 92) dX5_decideYear_91 rfl rfl ?_
            refine k_getR (pc' := 95) fl_RX5_26 dX5_decideYear_92 rfl rfl rfl ?_
            refine k_iload_n (pc' := 96) dX5_decideYear_95 rfl rfl ?_
            refine k_lload (pc' := 98) dX5_decideYear_96 rfl rfl ?_
            refine k_lastN (pc' := 99) dX5_decideYear_98 rfl rfl (by omega) (by decide) ?_
            refine k_iinc (pc' := 102) (v := nI (_ + 1)) (ls' := [_, _, _, _, _, _, _]) dX5_decideYear_99 rfl rfl (nI_1 _) (by decide) rfl ?_
            refine k_goto (tg := 2) dX5_decideYear_102 (by decide) ?_
            refine k_heq (congrArg (fun z => hL z 34 i _) (hI_row μ.1 (hs μ.2 34 w) 32 g (26 * y + i) _)) ?_
            refine k_heq (hL_row (hs μ.1 32 _) μ.2 34 w i _) ?_
            refine k_wk (by repeat' (first | exact trivial | exact rfl | apply And.intro)) (ih (i + 1) _ _ (by omega) (kD_step q ?_))
            unfold dX
            (repeat' split) <;> first | rfl | (exfalso; clear ih hW q; (try simp only [eq_self, not_true_eq_false, not_false_eq_true, k_b0, k_b1, k_c0, k_cl, k_cg, k_cle, k_cge] at *) <;> (try simp only [e0, eq_self, not_true_eq_false, not_false_eq_true, k_le, k_lt, k_eq, k_leL, k_ltL, k_eqL, k_il, li_m6, li_m5, li_m3, li_m2, li_m1, li_0, li_1, li_2, li_3, li_4, li_5, li_6, li_7, li_8, li_10, li_11, li_12, li_20, li_24, li_25, li_26, li_32, li_39, li_40, li_48, li_57, li_59, li_60, li_96, li_97, li_100, li_122, li_180, li_200, li_255, li_300, li_468, li_480, li_500, li_1000, li_2000, li_10000, li_10001, li_100000, li_1000000, li_100000000, lj_m1, lj_0, lj_1, lj_2, lj_3, lj_24, lj_39, lj_100, lj_500, lj_1000, lj_2000, lj_10000, lj_100000, lj_1000000, lj_100000000, lj_10, lj_20, lj_12, lj_32, lj_96] at *) <;> omega)
          · skip
            refine k_iload_n (pc' := 58) dX5_decideYear_57 rfl rfl ?_
            refine k_if_ne (pc' := 61) (tg := 65) dX5_decideYear_58 rfl (by decide) (fun c_58 => ?_) (fun c_58 => ?_)
            · skip
              refine k_iconst (pc' := 66) (v := 3) dX5_decideYear_65 rfl (by decide) ?_
              refine k_istore (pc' := 68) (k0 := 0) (ls' := [_, _, _, _, _, _, _]) dX5_decideYear_66 rfl (by decide) rfl ?_
              refine k_aload_n (pc' := 69) dX5_decideYear_68 rfl rfl ?_
              refine k_iconst (pc' := 70) (v := 1) dX5_decideYear_69 rfl (by decide) ?_
              refine k_callV1 (pc' := 73) dX5_decideYear_70 rfl ml_RX5_109 rfl rfl ⟨(Nat.le_of_ble_eq_true rfl), (Nat.le_of_ble_eq_true rfl)⟩ (Nat.le_of_ble_eq_true rfl) (ev_X5_worthIn2 (s := 1) (W := W) (by omega) hW) (fun r_70 h_70 q_70 => ?_)
              obtain ⟨e_70, g_70⟩ := q_70
              rw [e_70, g_70]
              refine k_iload_n (pc' := 74) dX5_decideYear_73 rfl rfl ?_
              refine k_i2l (pc' := 75) dX5_decideYear_74 rfl ?_
              refine k_lsub (pc' := 76) dX5_decideYear_75 rfl ?_
              refine k_lstore (pc' := 78) (k0 := 0) (ls' := [_, _, _, _, _, _, _]) dX5_decideYear_76 rfl (by decide) rfl ?_
              refine k_aload_n (pc' := 79) dX5_decideYear_78 rfl rfl ?_
              refine k_getR (pc' := 82) fl_RX5_19 dX5_decideYear_79 rfl rfl rfl ?_
              refine k_iload_n (pc' := 83) dX5_decideYear_82 rfl rfl ?_
              refine k_bipush (pc' := 85) (v := 26) dX5_decideYear_83 rfl (by decide) ?_
              refine k_imul (pc' := 86) dX5_decideYear_85 rfl ?_
              refine k_iload_n (pc' := 87) dX5_decideYear_86 rfl rfl ?_
              refine k_iadd (pc' := 88) dX5_decideYear_87 rfl ?_
              refine k_iload (pc' := 90) dX5_decideYear_88 rfl rfl ?_
              rw [k_26c y i]
              refine k_iastN (pc' := 91) dX5_decideYear_90 rfl rfl (by omega) (by decide) ?_
              refine k_aload_n (pc' := 92) dX5_decideYear_91 rfl rfl ?_
              refine k_getR (pc' := 95) fl_RX5_26 dX5_decideYear_92 rfl rfl rfl ?_
              refine k_iload_n (pc' := 96) dX5_decideYear_95 rfl rfl ?_
              refine k_lload (pc' := 98) dX5_decideYear_96 rfl rfl ?_
              refine k_lastN (pc' := 99) dX5_decideYear_98 rfl rfl (by omega) (by decide) ?_
              refine k_iinc (pc' := 102) (v := nI (_ + 1)) (ls' := [_, _, _, _, _, _, _]) dX5_decideYear_99 rfl rfl (nI_1 _) (by decide) rfl ?_
              refine k_goto (tg := 2) dX5_decideYear_102 (by decide) ?_
              refine k_heq (congrArg (fun z => hL z 34 i _) (hI_row μ.1 (hs μ.2 34 w) 32 g (26 * y + i) _)) ?_
              refine k_heq (hL_row (hs μ.1 32 _) μ.2 34 w i _) ?_
              refine k_wk (by repeat' (first | exact trivial | exact rfl | apply And.intro)) (ih (i + 1) _ _ (by omega) (kD_step q ?_))
              unfold dX
              (repeat' split) <;> first | rfl | (exfalso; clear ih hW q; (try simp only [eq_self, not_true_eq_false, not_false_eq_true, k_b0, k_b1, k_c0, k_cl, k_cg, k_cle, k_cge] at *) <;> (try simp only [e0, eq_self, not_true_eq_false, not_false_eq_true, k_le, k_lt, k_eq, k_leL, k_ltL, k_eqL, k_il, li_m6, li_m5, li_m3, li_m2, li_m1, li_0, li_1, li_2, li_3, li_4, li_5, li_6, li_7, li_8, li_10, li_11, li_12, li_20, li_24, li_25, li_26, li_32, li_39, li_40, li_48, li_57, li_59, li_60, li_96, li_97, li_100, li_122, li_180, li_200, li_255, li_300, li_468, li_480, li_500, li_1000, li_2000, li_10000, li_10001, li_100000, li_1000000, li_100000000, lj_m1, lj_0, lj_1, lj_2, lj_3, lj_24, lj_39, lj_100, lj_500, lj_1000, lj_2000, lj_10000, lj_100000, lj_1000000, lj_100000000, lj_10, lj_20, lj_12, lj_32, lj_96] at *) <;> omega)
            · skip
              refine k_iconst (pc' := 62) (v := 2) dX5_decideYear_61 rfl (by decide) ?_
              refine k_goto (tg := 66) dX5_decideYear_62 (by decide) ?_
              refine k_istore (pc' := 68) (k0 := 0) (ls' := [_, _, _, _, _, _, _]) dX5_decideYear_66 rfl (by decide) rfl ?_
              refine k_aload_n (pc' := 69) dX5_decideYear_68 rfl rfl ?_
              refine k_iconst (pc' := 70) (v := 1) dX5_decideYear_69 rfl (by decide) ?_
              refine k_callV1 (pc' := 73) dX5_decideYear_70 rfl ml_RX5_109 rfl rfl ⟨(Nat.le_of_ble_eq_true rfl), (Nat.le_of_ble_eq_true rfl)⟩ (Nat.le_of_ble_eq_true rfl) (ev_X5_worthIn2 (s := 1) (W := W) (by omega) hW) (fun r_70 h_70 q_70 => ?_)
              obtain ⟨e_70, g_70⟩ := q_70
              rw [e_70, g_70]
              refine k_iload_n (pc' := 74) dX5_decideYear_73 rfl rfl ?_
              refine k_i2l (pc' := 75) dX5_decideYear_74 rfl ?_
              refine k_lsub (pc' := 76) dX5_decideYear_75 rfl ?_
              refine k_lstore (pc' := 78) (k0 := 0) (ls' := [_, _, _, _, _, _, _]) dX5_decideYear_76 rfl (by decide) rfl ?_
              refine k_aload_n (pc' := 79) dX5_decideYear_78 rfl rfl ?_
              refine k_getR (pc' := 82) fl_RX5_19 dX5_decideYear_79 rfl rfl rfl ?_
              refine k_iload_n (pc' := 83) dX5_decideYear_82 rfl rfl ?_
              refine k_bipush (pc' := 85) (v := 26) dX5_decideYear_83 rfl (by decide) ?_
              refine k_imul (pc' := 86) dX5_decideYear_85 rfl ?_
              refine k_iload_n (pc' := 87) dX5_decideYear_86 rfl rfl ?_
              refine k_iadd (pc' := 88) dX5_decideYear_87 rfl ?_
              refine k_iload (pc' := 90) dX5_decideYear_88 rfl rfl ?_
              rw [k_26c y i]
              refine k_iastN (pc' := 91) dX5_decideYear_90 rfl rfl (by omega) (by decide) ?_
              refine k_aload_n (pc' := 92) dX5_decideYear_91 rfl rfl ?_
              refine k_getR (pc' := 95) fl_RX5_26 dX5_decideYear_92 rfl rfl rfl ?_
              refine k_iload_n (pc' := 96) dX5_decideYear_95 rfl rfl ?_
              refine k_lload (pc' := 98) dX5_decideYear_96 rfl rfl ?_
              refine k_lastN (pc' := 99) dX5_decideYear_98 rfl rfl (by omega) (by decide) ?_
              refine k_iinc (pc' := 102) (v := nI (_ + 1)) (ls' := [_, _, _, _, _, _, _]) dX5_decideYear_99 rfl rfl (nI_1 _) (by decide) rfl ?_
              refine k_goto (tg := 2) dX5_decideYear_102 (by decide) ?_
              refine k_heq (congrArg (fun z => hL z 34 i _) (hI_row μ.1 (hs μ.2 34 w) 32 g (26 * y + i) _)) ?_
              refine k_heq (hL_row (hs μ.1 32 _) μ.2 34 w i _) ?_
              refine k_wk (by repeat' (first | exact trivial | exact rfl | apply And.intro)) (ih (i + 1) _ _ (by omega) (kD_step q ?_))
              unfold dX
              (repeat' split) <;> first | rfl | (exfalso; clear ih hW q; (try simp only [eq_self, not_true_eq_false, not_false_eq_true, k_b0, k_b1, k_c0, k_cl, k_cg, k_cle, k_cge] at *) <;> (try simp only [e0, eq_self, not_true_eq_false, not_false_eq_true, k_le, k_lt, k_eq, k_leL, k_ltL, k_eqL, k_il, li_m6, li_m5, li_m3, li_m2, li_m1, li_0, li_1, li_2, li_3, li_4, li_5, li_6, li_7, li_8, li_10, li_11, li_12, li_20, li_24, li_25, li_26, li_32, li_39, li_40, li_48, li_57, li_59, li_60, li_96, li_97, li_100, li_122, li_180, li_200, li_255, li_300, li_468, li_480, li_500, li_1000, li_2000, li_10000, li_10001, li_100000, li_1000000, li_100000000, lj_m1, lj_0, lj_1, lj_2, lj_3, lj_24, lj_39, lj_100, lj_500, lj_1000, lj_2000, lj_10000, lj_100000, lj_1000000, lj_100000000, lj_10, lj_20, lj_12, lj_32, lj_96] at *) <;> omega)
        · skip
          refine k_iconst (pc' := 34) (v := 1) dX5_decideYear_33 rfl (by decide) ?_
          refine k_istore (pc' := 36) (k0 := 0) (ls' := [_, _, _, _, _, _, _]) dX5_decideYear_34 rfl (by decide) rfl ?_
          refine k_aload_n (pc' := 37) dX5_decideYear_36 rfl rfl ?_
          refine k_iconst (pc' := 38) (v := 0) dX5_decideYear_37 rfl (by decide) ?_
          refine k_callV1 (pc' := 41) dX5_decideYear_38 rfl ml_RX5_109 rfl rfl ⟨(Nat.le_of_ble_eq_true rfl), (Nat.le_of_ble_eq_true rfl)⟩ (Nat.le_of_ble_eq_true rfl) (ev_X5_worthIn2 (s := 0) (W := W) (by omega) hW) (fun r_38 h_38 q_38 => ?_)
          obtain ⟨e_38, g_38⟩ := q_38
          rw [e_38, g_38]
          refine k_lstore (pc' := 43) (k0 := 0) (ls' := [_, _, _, _, _, _, _]) dX5_decideYear_41 rfl (by decide) rfl ?_
          refine k_aload_n (pc' := 44) dX5_decideYear_43 rfl rfl ?_
          refine k_iconst (pc' := 45) (v := 1) dX5_decideYear_44 rfl (by decide) ?_
          refine k_callV1 (pc' := 48) dX5_decideYear_45 rfl ml_RX5_109 rfl rfl ⟨(Nat.le_of_ble_eq_true rfl), (Nat.le_of_ble_eq_true rfl)⟩ (Nat.le_of_ble_eq_true rfl) (ev_X5_worthIn2 (s := 1) (W := W) (by omega) hW) (fun r_45 h_45 q_45 => ?_)
          obtain ⟨e_45, g_45⟩ := q_45
          rw [e_45, g_45]
          refine k_iload_n (pc' := 49) dX5_decideYear_48 rfl rfl ?_
          refine k_i2l (pc' := 50) dX5_decideYear_49 rfl ?_
          refine k_lsub (pc' := 51) dX5_decideYear_50 rfl ?_
          refine k_lload (pc' := 53) dX5_decideYear_51 rfl rfl ?_
          refine k_lcmp (pc' := 54) dX5_decideYear_53 rfl ?_
          refine k_if_le (pc' := 57) (tg := 78) dX5_decideYear_54 rfl (by decide) (fun c_54 => ?_) (fun c_54 => ?_)
          · skip
            refine k_aload_n (pc' := 79) dX5_decideYear_78 rfl rfl ?_
            refine k_getR (pc' := 82) fl_RX5_19 dX5_decideYear_79 rfl rfl rfl ?_
            refine k_iload_n (pc' := 83) dX5_decideYear_82 rfl rfl ?_
            refine k_bipush (pc' := 85) (v := 26) dX5_decideYear_83 rfl (by decide) ?_
            refine k_imul (pc' := 86) dX5_decideYear_85 rfl ?_
            refine k_iload_n (pc' := 87) dX5_decideYear_86 rfl rfl ?_
            refine k_iadd (pc' := 88) dX5_decideYear_87 rfl ?_
            refine k_iload (pc' := 90) dX5_decideYear_88 rfl rfl ?_
            rw [k_26c y i]
            refine k_iastN (pc' := 91) dX5_decideYear_90 rfl rfl (by omega) (by decide) ?_
            refine k_aload_n (pc' := 92) dX5_decideYear_91 rfl rfl ?_
            refine k_getR (pc' := 95) fl_RX5_26 dX5_decideYear_92 rfl rfl rfl ?_
            refine k_iload_n (pc' := 96) dX5_decideYear_95 rfl rfl ?_
            refine k_lload (pc' := 98) dX5_decideYear_96 rfl rfl ?_
            refine k_lastN (pc' := 99) dX5_decideYear_98 rfl rfl (by omega) (by decide) ?_
            refine k_iinc (pc' := 102) (v := nI (_ + 1)) (ls' := [_, _, _, _, _, _, _]) dX5_decideYear_99 rfl rfl (nI_1 _) (by decide) rfl ?_
            refine k_goto (tg := 2) dX5_decideYear_102 (by decide) ?_
            refine k_heq (congrArg (fun z => hL z 34 i _) (hI_row μ.1 (hs μ.2 34 w) 32 g (26 * y + i) _)) ?_
            refine k_heq (hL_row (hs μ.1 32 _) μ.2 34 w i _) ?_
            refine k_wk (by repeat' (first | exact trivial | exact rfl | apply And.intro)) (ih (i + 1) _ _ (by omega) (kD_step q ?_))
            unfold dX
            (repeat' split) <;> first | rfl | (exfalso; clear ih hW q; (try simp only [eq_self, not_true_eq_false, not_false_eq_true, k_b0, k_b1, k_c0, k_cl, k_cg, k_cle, k_cge] at *) <;> (try simp only [e0, eq_self, not_true_eq_false, not_false_eq_true, k_le, k_lt, k_eq, k_leL, k_ltL, k_eqL, k_il, li_m6, li_m5, li_m3, li_m2, li_m1, li_0, li_1, li_2, li_3, li_4, li_5, li_6, li_7, li_8, li_10, li_11, li_12, li_20, li_24, li_25, li_26, li_32, li_39, li_40, li_48, li_57, li_59, li_60, li_96, li_97, li_100, li_122, li_180, li_200, li_255, li_300, li_468, li_480, li_500, li_1000, li_2000, li_10000, li_10001, li_100000, li_1000000, li_100000000, lj_m1, lj_0, lj_1, lj_2, lj_3, lj_24, lj_39, lj_100, lj_500, lj_1000, lj_2000, lj_10000, lj_100000, lj_1000000, lj_100000000, lj_10, lj_20, lj_12, lj_32, lj_96] at *) <;> omega)
          · skip
            refine k_iload_n (pc' := 58) dX5_decideYear_57 rfl rfl ?_
            refine k_if_ne (pc' := 61) (tg := 65) dX5_decideYear_58 rfl (by decide) (fun c_58 => ?_) (fun c_58 => ?_)
            · skip
              refine k_iconst (pc' := 66) (v := 3) dX5_decideYear_65 rfl (by decide) ?_
              refine k_istore (pc' := 68) (k0 := 0) (ls' := [_, _, _, _, _, _, _]) dX5_decideYear_66 rfl (by decide) rfl ?_
              refine k_aload_n (pc' := 69) dX5_decideYear_68 rfl rfl ?_
              refine k_iconst (pc' := 70) (v := 1) dX5_decideYear_69 rfl (by decide) ?_
              refine k_callV1 (pc' := 73) dX5_decideYear_70 rfl ml_RX5_109 rfl rfl ⟨(Nat.le_of_ble_eq_true rfl), (Nat.le_of_ble_eq_true rfl)⟩ (Nat.le_of_ble_eq_true rfl) (ev_X5_worthIn2 (s := 1) (W := W) (by omega) hW) (fun r_70 h_70 q_70 => ?_)
              obtain ⟨e_70, g_70⟩ := q_70
              rw [e_70, g_70]
              refine k_iload_n (pc' := 74) dX5_decideYear_73 rfl rfl ?_
              refine k_i2l (pc' := 75) dX5_decideYear_74 rfl ?_
              refine k_lsub (pc' := 76) dX5_decideYear_75 rfl ?_
              refine k_lstore (pc' := 78) (k0 := 0) (ls' := [_, _, _, _, _, _, _]) dX5_decideYear_76 rfl (by decide) rfl ?_
              refine k_aload_n (pc' := 79) dX5_decideYear_78 rfl rfl ?_
              refine k_getR (pc' := 82) fl_RX5_19 dX5_decideYear_79 rfl rfl rfl ?_
              refine k_iload_n (pc' := 83) dX5_decideYear_82 rfl rfl ?_
              refine k_bipush (pc' := 85) (v := 26) dX5_decideYear_83 rfl (by decide) ?_
              refine k_imul (pc' := 86) dX5_decideYear_85 rfl ?_
              refine k_iload_n (pc' := 87) dX5_decideYear_86 rfl rfl ?_
              refine k_iadd (pc' := 88) dX5_decideYear_87 rfl ?_
              refine k_iload (pc' := 90) dX5_decideYear_88 rfl rfl ?_
              rw [k_26c y i]
              refine k_iastN (pc' := 91) dX5_decideYear_90 rfl rfl (by omega) (by decide) ?_
              refine k_aload_n (pc' := 92) dX5_decideYear_91 rfl rfl ?_
              refine k_getR (pc' := 95) fl_RX5_26 dX5_decideYear_92 rfl rfl rfl ?_
              refine k_iload_n (pc' := 96) dX5_decideYear_95 rfl rfl ?_
              refine k_lload (pc' := 98) dX5_decideYear_96 rfl rfl ?_
              refine k_lastN (pc' := 99) dX5_decideYear_98 rfl rfl (by omega) (by decide) ?_
              refine k_iinc (pc' := 102) (v := nI (_ + 1)) (ls' := [_, _, _, _, _, _, _]) dX5_decideYear_99 rfl rfl (nI_1 _) (by decide) rfl ?_
              refine k_goto (tg := 2) dX5_decideYear_102 (by decide) ?_
              refine k_heq (congrArg (fun z => hL z 34 i _) (hI_row μ.1 (hs μ.2 34 w) 32 g (26 * y + i) _)) ?_
              refine k_heq (hL_row (hs μ.1 32 _) μ.2 34 w i _) ?_
              refine k_wk (by repeat' (first | exact trivial | exact rfl | apply And.intro)) (ih (i + 1) _ _ (by omega) (kD_step q ?_))
              unfold dX
              (repeat' split) <;> first | rfl | (exfalso; clear ih hW q; (try simp only [eq_self, not_true_eq_false, not_false_eq_true, k_b0, k_b1, k_c0, k_cl, k_cg, k_cle, k_cge] at *) <;> (try simp only [e0, eq_self, not_true_eq_false, not_false_eq_true, k_le, k_lt, k_eq, k_leL, k_ltL, k_eqL, k_il, li_m6, li_m5, li_m3, li_m2, li_m1, li_0, li_1, li_2, li_3, li_4, li_5, li_6, li_7, li_8, li_10, li_11, li_12, li_20, li_24, li_25, li_26, li_32, li_39, li_40, li_48, li_57, li_59, li_60, li_96, li_97, li_100, li_122, li_180, li_200, li_255, li_300, li_468, li_480, li_500, li_1000, li_2000, li_10000, li_10001, li_100000, li_1000000, li_100000000, lj_m1, lj_0, lj_1, lj_2, lj_3, lj_24, lj_39, lj_100, lj_500, lj_1000, lj_2000, lj_10000, lj_100000, lj_1000000, lj_100000000, lj_10, lj_20, lj_12, lj_32, lj_96] at *) <;> omega)
            · skip
              refine k_iconst (pc' := 62) (v := 2) dX5_decideYear_61 rfl (by decide) ?_
              refine k_goto (tg := 66) dX5_decideYear_62 (by decide) ?_
              refine k_istore (pc' := 68) (k0 := 0) (ls' := [_, _, _, _, _, _, _]) dX5_decideYear_66 rfl (by decide) rfl ?_
              refine k_aload_n (pc' := 69) dX5_decideYear_68 rfl rfl ?_
              refine k_iconst (pc' := 70) (v := 1) dX5_decideYear_69 rfl (by decide) ?_
              refine k_callV1 (pc' := 73) dX5_decideYear_70 rfl ml_RX5_109 rfl rfl ⟨(Nat.le_of_ble_eq_true rfl), (Nat.le_of_ble_eq_true rfl)⟩ (Nat.le_of_ble_eq_true rfl) (ev_X5_worthIn2 (s := 1) (W := W) (by omega) hW) (fun r_70 h_70 q_70 => ?_)
              obtain ⟨e_70, g_70⟩ := q_70
              rw [e_70, g_70]
              refine k_iload_n (pc' := 74) dX5_decideYear_73 rfl rfl ?_
              refine k_i2l (pc' := 75) dX5_decideYear_74 rfl ?_
              refine k_lsub (pc' := 76) dX5_decideYear_75 rfl ?_
              refine k_lstore (pc' := 78) (k0 := 0) (ls' := [_, _, _, _, _, _, _]) dX5_decideYear_76 rfl (by decide) rfl ?_
              refine k_aload_n (pc' := 79) dX5_decideYear_78 rfl rfl ?_
              refine k_getR (pc' := 82) fl_RX5_19 dX5_decideYear_79 rfl rfl rfl ?_
              refine k_iload_n (pc' := 83) dX5_decideYear_82 rfl rfl ?_
              refine k_bipush (pc' := 85) (v := 26) dX5_decideYear_83 rfl (by decide) ?_
              refine k_imul (pc' := 86) dX5_decideYear_85 rfl ?_
              refine k_iload_n (pc' := 87) dX5_decideYear_86 rfl rfl ?_
              refine k_iadd (pc' := 88) dX5_decideYear_87 rfl ?_
              refine k_iload (pc' := 90) dX5_decideYear_88 rfl rfl ?_
              rw [k_26c y i]
              refine k_iastN (pc' := 91) dX5_decideYear_90 rfl rfl (by omega) (by decide) ?_
              refine k_aload_n (pc' := 92) dX5_decideYear_91 rfl rfl ?_
              refine k_getR (pc' := 95) fl_RX5_26 dX5_decideYear_92 rfl rfl rfl ?_
              refine k_iload_n (pc' := 96) dX5_decideYear_95 rfl rfl ?_
              refine k_lload (pc' := 98) dX5_decideYear_96 rfl rfl ?_
              refine k_lastN (pc' := 99) dX5_decideYear_98 rfl rfl (by omega) (by decide) ?_
              refine k_iinc (pc' := 102) (v := nI (_ + 1)) (ls' := [_, _, _, _, _, _, _]) dX5_decideYear_99 rfl rfl (nI_1 _) (by decide) rfl ?_
              refine k_goto (tg := 2) dX5_decideYear_102 (by decide) ?_
              refine k_heq (congrArg (fun z => hL z 34 i _) (hI_row μ.1 (hs μ.2 34 w) 32 g (26 * y + i) _)) ?_
              refine k_heq (hL_row (hs μ.1 32 _) μ.2 34 w i _) ?_
              refine k_wk (by repeat' (first | exact trivial | exact rfl | apply And.intro)) (ih (i + 1) _ _ (by omega) (kD_step q ?_))
              unfold dX
              (repeat' split) <;> first | rfl | (exfalso; clear ih hW q; (try simp only [eq_self, not_true_eq_false, not_false_eq_true, k_b0, k_b1, k_c0, k_cl, k_cg, k_cle, k_cge] at *) <;> (try simp only [e0, eq_self, not_true_eq_false, not_false_eq_true, k_le, k_lt, k_eq, k_leL, k_ltL, k_eqL, k_il, li_m6, li_m5, li_m3, li_m2, li_m1, li_0, li_1, li_2, li_3, li_4, li_5, li_6, li_7, li_8, li_10, li_11, li_12, li_20, li_24, li_25, li_26, li_32, li_39, li_40, li_48, li_57, li_59, li_60, li_96, li_97, li_100, li_122, li_180, li_200, li_255, li_300, li_468, li_480, li_500, li_1000, li_2000, li_10000, li_10001, li_100000, li_1000000, li_100000000, lj_m1, lj_0, lj_1, lj_2, lj_3, lj_24, lj_39, lj_100, lj_500, lj_1000, lj_2000, lj_10000, lj_100000, lj_1000000, lj_100000000, lj_10, lj_20, lj_12, lj_32, lj_96] at *) <;> omega)

set_option maxHeartbeats 400000 in
set_option maxRecDepth 100000 in
theorem ev_X5_decideYear {cost : Int32} {μ : kH} {y : Nat} {W : Nat → Int64} (hy : y < 20) (hW : ∀ q, q < 26 → W q = μ.2 33 q + μ.2 35 (nxN q)) : Ev kX5_decideYear [kr 30, ki (nI y), ki cost] μ (fun r h' => r = ku ∧ ∃ (g : Nat → Int32) (w : Nat → Int64), h' = (hs μ.1 32 g, hs μ.2 34 w) ∧ kD W cost.toInt64 y 26 (μ.1 32) g w) := by
  refine k_ev (ls := [_, _, _, _, _, _, _]) (by decide) (Nat.le_of_ble_eq_true rfl) rfl ?_
  refine k_iconst (pc' := 1) (v := 0) dX5_decideYear_0 rfl (by decide) ?_
  refine k_istore_n (pc' := 2) (k0 := 0) (ls' := [_, _, _, _, _, _, _]) dX5_decideYear_1 rfl (by decide) rfl ?_
  exact k_heq (show μ = (hs μ.1 32 (μ.1 32), hs μ.2 34 (μ.2 34)) by rw [hs_id, hs_id]) (lp_X5_decideYear (N := 26) hy rfl rfl hW 26 0 _ _ (by omega) ⟨fun j hj => absurd hj (by omega), fun j hj => rfl⟩)

def afN (d : Int32) (s : Nat) : Nat := if d = 1 then 0 else if d = 2 then 1 else if d = 3 then 1 else s
theorem afN_lt {d : Int32} {s : Nat} (hs : s < 26) : afN d s < 26 := by unfold afN; (repeat' split) <;> omega
theorem k_afN (d : Int32) (s : Nat) : (if d = 1 then 0 else if d = 2 then 1 else if d = 3 then 1 else nI s) = nI (afN d s) := by
  unfold afN; (repeat' split) <;> rfl
/-- the states that a plan goes through -/
def sqX (ch : Nat → Int32) (s0 : Nat) : Nat → Nat
  | 0 => s0
  | i + 1 => nxN (afN (ch (26 * i + sqX ch s0 i)) (sqX ch s0 i))
theorem sqX_lt {ch : Nat → Int32} {s0 : Nat} (hs : s0 < 26) : ∀ i, sqX ch s0 i < 26 := by
  intro i
  induction i with
  | zero => exact hs
  | succ i ih => exact nxN_lt (afN_lt ih)
theorem ev_X5_nextOf2 {s : Nat} {μ : kH} (hs : s < 26) : Ev kX5_nextOf [ki (nI s)] μ (fun r h' => r = ki (nI (nxN s)) ∧ h' = μ) := k_evm ev_X5_nextOf (fun r h' q => ⟨by rw [q.1]; exact congrArg (fun z => ki z) (k_nxN hs), q.2⟩)

set_option maxHeartbeats 400000 in
set_option maxRecDepth 100000 in
theorem lp_X5_follow {μ : kH} {N s0 : Nat} {f0 : Int32} (hN : N ≤ 20) (hs0 : s0 < 26) (hsz : μ.1 30 1 = nI N) : ∀ (n i : Nat) (g : Nat → Int32), i + n = N → (∀ j, j < i → g j = μ.1 32 (26 * j + sqX (μ.1 32) s0 j)) → At kX5_follow 4 [kr 30, ki f0, ki (nI (sqX (μ.1 32) s0 i)), ki (nI i)] [] (hs μ.1 31 g, μ.2) (kRet kX5_follow (fun r h' => r = ku ∧ ∃ g : Nat → Int32, h' = (hs μ.1 31 g, μ.2) ∧ ∀ j, j < N → g j = μ.1 32 (26 * j + sqX (μ.1 32) s0 j))) := by
  intro n
  induction n with
  | zero =>
    intro i g hi hg
    refine k_iload_n (pc' := 5) dX5_follow_4 rfl rfl ?_
    refine k_aload_n (pc' := 6) dX5_follow_5 rfl rfl ?_
    refine k_getI (pc' := 9) fl_RX5_15 dX5_follow_6 rfl rfl rfl ?_
    refine k_icmp_ge (pc' := 12) (tg := 59) dX5_follow_9 rfl (by decide) (fun c_9 => ?_) (fun c_9 => ?_)
    · skip
      exact k_vret dX5_follow_59 rfl ⟨rfl, g, rfl, by rw [show N = i from by omega]; exact hg⟩
    · exfalso
      exact c_9 (show μ.1 30 1 ≤ nI i by rw [hsz, show i = N from by omega]; exact Int32.le_refl _)
  | succ n ih =>
    intro i g hi hg
    have hlt : i < N := by omega
    have hq := sqX_lt (ch := μ.1 32) hs0 i
    have e0 := nI_toInt (n := sqX (μ.1 32) s0 i) (by omega)
    refine k_iload_n (pc' := 5) dX5_follow_4 rfl rfl ?_
    refine k_aload_n (pc' := 6) dX5_follow_5 rfl rfl ?_
    refine k_getI (pc' := 9) fl_RX5_15 dX5_follow_6 rfl rfl rfl ?_
    refine k_icmp_ge (pc' := 12) (tg := 59) dX5_follow_9 rfl (by decide) (fun c_9 => ?_) (fun c_9 => ?_)
    · exfalso
      have c9 : μ.1 30 1 ≤ nI i := c_9
      rw [hsz] at c9
      exact nI_ge hlt (by omega) c9
    · skip
      refine k_iload_n (pc' := 13) dX5_follow_12 rfl rfl ?_
      refine k_iconst (pc' := 14) (v := 0) dX5_follow_13 rfl (by decide) ?_
      refine k_bipush (pc' := 16) (v := 25) dX5_follow_14 rfl (by decide) ?_
      refine k_callS3 (pc' := 19) dX5_follow_16 rfl ml_RX5_85 ⟨(Nat.le_of_ble_eq_true rfl), (Nat.le_of_ble_eq_true rfl)⟩ (Nat.le_of_ble_eq_true rfl) ev_X10_within (fun r_16 h_16 q_16 => ?_)
      obtain ⟨e_16, g_16⟩ := q_16
      rw [e_16, g_16]
      refine k_if_eq (pc' := 22) (tg := 59) dX5_follow_19 rfl (by decide) (fun c_19 => ?_) (fun c_19 => ?_)
      · exfalso
        clear hg ih; (try simp only [eq_self, not_true_eq_false, not_false_eq_true, k_b0, k_b1, k_c0, k_cl, k_cg, k_cle, k_cge] at *) <;> (try simp only [e0, eq_self, not_true_eq_false, not_false_eq_true, k_le, k_lt, k_eq, k_leL, k_ltL, k_eqL, k_il, li_m6, li_m5, li_m3, li_m2, li_m1, li_0, li_1, li_2, li_3, li_4, li_5, li_6, li_7, li_8, li_10, li_11, li_12, li_20, li_24, li_25, li_26, li_32, li_39, li_40, li_48, li_57, li_59, li_60, li_96, li_97, li_100, li_122, li_180, li_200, li_255, li_300, li_468, li_480, li_500, li_1000, li_2000, li_10000, li_10001, li_100000, li_1000000, li_100000000, lj_m1, lj_0, lj_1, lj_2, lj_3, lj_24, lj_39, lj_100, lj_500, lj_1000, lj_2000, lj_10000, lj_100000, lj_1000000, lj_100000000, lj_10, lj_20, lj_12, lj_32, lj_96] at *) <;> omega
      · skip
        refine k_aload_n (pc' := 23) dX5_follow_22 rfl rfl ?_
        refine k_getR (pc' := 26) fl_RX5_9 dX5_follow_23 rfl rfl rfl ?_
        refine k_iload_n (pc' := 27) dX5_follow_26 rfl rfl ?_
        refine k_aload_n (pc' := 28) dX5_follow_27 rfl rfl ?_
        refine k_getR (pc' := 31) fl_RX5_19 dX5_follow_28 rfl rfl rfl ?_
        refine k_iload_n (pc' := 32) dX5_follow_31 rfl rfl ?_
        refine k_bipush (pc' := 34) (v := 26) dX5_follow_32 rfl (by decide) ?_
        refine k_imul (pc' := 35) dX5_follow_34 rfl ?_
        refine k_iload_n (pc' := 36) dX5_follow_35 rfl rfl ?_
        refine k_iadd (pc' := 37) dX5_follow_36 rfl ?_
        rw [k_26c i]
        refine k_ialdN (pc' := 38) dX5_follow_37 rfl rfl (by omega) (by decide) ?_
        refine k_iastN (pc' := 39) dX5_follow_38 rfl rfl (by omega) (by decide) ?_
        refine k_aload_n (pc' := 40) dX5_follow_39 rfl rfl ?_
        refine k_getR (pc' := 43) fl_RX5_9 dX5_follow_40 rfl rfl rfl ?_
        refine k_iload_n (pc' := 44) dX5_follow_43 rfl rfl ?_
        refine k_ialdN (pc' := 45) dX5_follow_44 rfl rfl (by omega) (by decide) ?_
        rw [hI_at]
        refine k_iload_n (pc' := 46) dX5_follow_45 rfl rfl ?_
        refine k_callS2 (pc' := 49) dX5_follow_46 rfl ml_RX5_116 ⟨(Nat.le_of_ble_eq_true rfl), (Nat.le_of_ble_eq_true rfl)⟩ (Nat.le_of_ble_eq_true rfl) ev_X5_after (fun r_46 h_46 q_46 => ?_)
        obtain ⟨e_46, g_46⟩ := q_46
        rw [e_46, g_46, k_afN]
        refine k_callS1 (pc' := 52) dX5_follow_49 rfl ml_RX5_113 ⟨(Nat.le_of_ble_eq_true rfl), (Nat.le_of_ble_eq_true rfl)⟩ (Nat.le_of_ble_eq_true rfl) (ev_X5_nextOf2 (afN_lt hq)) (fun r_49 h_49 q_49 => ?_)
        obtain ⟨e_49, g_49⟩ := q_49
        rw [e_49, g_49]
        refine k_istore_n (pc' := 53) (k0 := 0) (ls' := [_, _, _, _]) dX5_follow_52 rfl (by decide) rfl ?_
        refine k_iinc (pc' := 56) (v := nI (_ + 1)) (ls' := [_, _, _, _]) dX5_follow_53 rfl rfl (nI_1 _) (by decide) rfl ?_
        refine k_goto (tg := 4) dX5_follow_56 (by decide) ?_
        refine k_heq (hI_row μ.1 μ.2 31 g i _) (ih (i + 1) _ (by omega) (fun j hj => ?_))
        simp only [upd]
        by_cases z : j = i
        · subst z; rw [if_pos rfl]; rfl
        · rw [if_neg z]; exact hg j (by omega)

set_option maxHeartbeats 400000 in
set_option maxRecDepth 100000 in
theorem ev_X5_follow {μ : kH} {N s0 : Nat} (hN : N ≤ 20) (hs0 : s0 < 26) (hsz : μ.1 30 1 = nI N) : Ev kX5_follow [kr 30, ki (nI s0)] μ (fun r h' => r = ku ∧ ∃ g : Nat → Int32, h' = (hs μ.1 31 g, μ.2) ∧ ∀ j, j < N → g j = μ.1 32 (26 * j + sqX (μ.1 32) s0 j)) := by
  refine k_ev (ls := [_, _, _, _]) (by decide) (Nat.le_of_ble_eq_true rfl) rfl ?_
  refine k_iload_n (pc' := 1) dX5_follow_0 rfl rfl ?_
  refine k_istore_n (pc' := 2) (k0 := 0) (ls' := [_, _, _, _]) dX5_follow_1 rfl (by decide) rfl ?_
  refine k_iconst (pc' := 3) (v := 0) dX5_follow_2 rfl (by decide) ?_
  refine k_istore_n (pc' := 4) (k0 := 0) (ls' := [_, _, _, _]) dX5_follow_3 rfl (by decide) rfl ?_
  exact k_heq (show μ = (hs μ.1 31 (μ.1 31), μ.2) by rw [hs_id]) (lp_X5_follow hN hs0 hsz N 0 _ (by omega) (fun j hj => absurd hj (by omega)))

