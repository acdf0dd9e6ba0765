def kdX (μ : kH) (p : Nat) : Int32 := k_kind (k_byte μ (nI p))
def lstX (kd : Nat → Int32) : Nat → Int32
  | 0 => 0
  | p + 1 => kd p
/-- the tape cut into tokens -/
def fTk (kd : Nat → Int32) (S0 E0 K0 : Nat → Int32) : Nat → Nat × (Nat → Int32) × (Nat → Int32) × (Nat → Int32)
  | 0 => (0, S0, E0, K0)
  | p + 1 => if kd p = 0 then fTk kd S0 E0 K0 p else if kd p = lstX kd p ∧ ¬ kd p = 3 then ((fTk kd S0 E0 K0 p).1, (fTk kd S0 E0 K0 p).2.1, (if 0 < (fTk kd S0 E0 K0 p).1 then upd (fTk kd S0 E0 K0 p).2.2.1 ((fTk kd S0 E0 K0 p).1 - 1) (nI (p + 1)) else (fTk kd S0 E0 K0 p).2.2.1), (fTk kd S0 E0 K0 p).2.2.2) else ((fTk kd S0 E0 K0 p).1 + 1, upd (fTk kd S0 E0 K0 p).2.1 (fTk kd S0 E0 K0 p).1 (nI p), upd (fTk kd S0 E0 K0 p).2.2.1 (fTk kd S0 E0 K0 p).1 (nI (p + 1)), upd (fTk kd S0 E0 K0 p).2.2.2 (fTk kd S0 E0 K0 p).1 (kd p))
theorem fTk_le (kd : Nat → Int32) (S0 E0 K0 : Nat → Int32) : ∀ p, (fTk kd S0 E0 K0 p).1 ≤ p := by
  intro p
  induction p with
  | zero => exact Nat.le_refl _
  | succ p ih => rw [fTk]; (repeat' split) <;> (try dsimp only) <;> omega

set_option maxHeartbeats 400000 in
set_option maxRecDepth 100000 in
theorem lp_cut {μ : kH} {L : Nat} (hL : L ≤ 200) (hz : μ.1 14 1 = nI L) : ∀ (n p t : Nat) (κ : kH), p + n = L → fr [21, 27, 28, 29] μ κ → κ.1 21 6 = nI t → κ.1 21 7 = 0 → κ.1 21 1 = μ.1 21 1 → (t, κ.1 27, κ.1 28, κ.1 29) = fTk (kdX μ) (μ.1 27) (μ.1 28) (μ.1 29) p → At kX8_cutTokens 14 [kr 21, ki (lstX (kdX μ) p), ki (nI p), ku, ku] [] κ (kRet kX8_cutTokens (fun r h' => r = ku ∧ fr [21, 27, 28, 29] μ h' ∧ h'.1 21 6 = nI (fTk (kdX μ) (μ.1 27) (μ.1 28) (μ.1 29) L).1 ∧ h'.1 21 7 = 0 ∧ h'.1 21 1 = μ.1 21 1 ∧ h'.1 27 = (fTk (kdX μ) (μ.1 27) (μ.1 28) (μ.1 29) L).2.1 ∧ h'.1 28 = (fTk (kdX μ) (μ.1 27) (μ.1 28) (μ.1 29) L).2.2.1 ∧ h'.1 29 = (fTk (kdX μ) (μ.1 27) (μ.1 28) (μ.1 29) L).2.2.2)) := by
  intro n
  induction n with
  | zero =>
    intro p t κ hp q h6 h7 h1 hS
    have hS : (t, κ.1 27, κ.1 28, κ.1 29) = fTk (kdX μ) (μ.1 27) (μ.1 28) (μ.1 29) L := by rw [hS, show p = L from by omega]
    refine k_iload_n (pc' := 15) dX8_cutTokens_14 rfl rfl ?_
    refine k_aload_n (pc' := 16) dX8_cutTokens_15 rfl rfl ?_
    refine k_getR (pc' := 19) fl_RX8_32 dX8_cutTokens_16 rfl rfl rfl ?_
    refine k_getI (pc' := 22) fl_RX8_57 dX8_cutTokens_19 rfl rfl rfl ?_
    refine k_icmp_ge (pc' := 25) (tg := 133) dX8_cutTokens_22 rfl (by decide) (fun c_22 => ?_) (fun c_22 => ?_)
    · skip
      exact k_vret dX8_cutTokens_133 rfl ⟨rfl, q, by rw [← hS]; exact h6, h7, h1, by rw [← hS], by rw [← hS], by rw [← hS]⟩
    · exfalso
      exact c_22 (show κ.1 14 1 ≤ nI p by rw [q.1 14 (by decide), hz, show p = L from by omega]; exact Int32.le_refl _)
  | succ n ih =>
    intro p t κ hp q h6 h7 h1 hS
    have hlt : p < L := by omega
    have htp : t ≤ p := by have e := fTk_le (kdX μ) (μ.1 27) (μ.1 28) (μ.1 29) p; rw [← hS] at e; exact e
    have hk14 : κ.1 14 = μ.1 14 := q.1 14 (by decide)
    have hk15 : κ.1 15 = μ.1 15 := q.1 15 (by decide)
    refine k_iload_n (pc' := 15) dX8_cutTokens_14 rfl rfl ?_
    refine k_aload_n (pc' := 16) dX8_cutTokens_15 rfl rfl ?_
    refine k_getR (pc' := 19) fl_RX8_32 dX8_cutTokens_16 rfl rfl rfl ?_
    refine k_getI (pc' := 22) fl_RX8_57 dX8_cutTokens_19 rfl rfl rfl ?_
    refine k_icmp_ge (pc' := 25) (tg := 133) dX8_cutTokens_22 rfl (by decide) (fun c_22 => ?_) (fun c_22 => ?_)
    · exfalso
      have c9 : κ.1 14 1 ≤ nI p := c_22
      rw [hk14, hz] at c9
      exact nI_ge hlt (by omega) c9
    · skip
      refine k_aload_n (pc' := 26) dX8_cutTokens_25 rfl rfl ?_
      refine k_getI (pc' := 29) fl_RX8_42 dX8_cutTokens_26 rfl rfl rfl ?_
      refine k_sipush (pc' := 32) (v := 200) dX8_cutTokens_29 rfl (by decide) ?_
      rw [h6]
      refine k_icmp_ge (pc' := 35) (tg := 133) dX8_cutTokens_32 rfl (by decide) (fun c_32 => ?_) (fun c_32 => ?_)
      · exfalso
        exact nI_ge (a := t) (b := 200) (by omega) (by decide) c_32
      · skip
        refine k_aload_n (pc' := 36) dX8_cutTokens_35 rfl rfl ?_
        refine k_getR (pc' := 39) fl_RX8_32 dX8_cutTokens_36 rfl rfl rfl ?_
        refine k_iload_n (pc' := 40) dX8_cutTokens_39 rfl rfl ?_
        refine k_callV1 (pc' := 43) dX8_cutTokens_40 rfl ml_RX8_60 rfl rfl ⟨(Nat.le_of_ble_eq_true rfl), (Nat.le_of_ble_eq_true rfl)⟩ (Nat.le_of_ble_eq_true rfl) (ev_X7_kindAt (by rw [hk14, hz, nI_toInt (by omega)]; omega)) (fun r_40 h_40 q_40 => ?_)
        obtain ⟨e_40, g_40⟩ := q_40
        rw [e_40, g_40, show k_kind (k_byte κ (nI p)) = kdX μ p from by unfold kdX k_byte; rw [hk14, hk15]]
        refine k_istore_n (pc' := 44) (k0 := 0) (ls' := [_, _, _, _, _]) dX8_cutTokens_43 rfl (by decide) rfl ?_
        refine k_iload_n (pc' := 45) dX8_cutTokens_44 rfl rfl ?_
        refine k_iload_n (pc' := 46) dX8_cutTokens_45 rfl rfl ?_
        refine k_icmp_ne (pc' := 49) (tg := 58) dX8_cutTokens_46 rfl (by decide) (fun c_46 => ?_) (fun c_46 => ?_)
        · skip
          have hrow : ¬ (kdX μ p = lstX (kdX μ) p ∧ ¬ kdX μ p = 3) := fun z => c_46 z.1
          refine k_iconst (pc' := 59) (v := 0) dX8_cutTokens_58 rfl (by decide) ?_
          refine k_istore (pc' := 61) (k0 := 0) (ls' := [_, _, _, _, _]) dX8_cutTokens_59 rfl (by decide) rfl ?_
          refine k_iload_n (pc' := 62) dX8_cutTokens_61 rfl rfl ?_
          refine k_if_eq (pc' := 65) (tg := 100) dX8_cutTokens_62 rfl (by decide) (fun c_62 => ?_) (fun c_62 => ?_)
          · skip
            refine k_iload_n (pc' := 101) dX8_cutTokens_100 rfl rfl ?_
            refine k_if_eq (pc' := 104) (tg := 125) dX8_cutTokens_101 rfl (by decide) (fun c_101 => ?_) (fun c_101 => ?_)
            · skip
              refine k_iload_n (pc' := 126) dX8_cutTokens_125 rfl rfl ?_
              refine k_istore_n (pc' := 127) (k0 := 0) (ls' := [_, _, _, _, _]) dX8_cutTokens_126 rfl (by decide) rfl ?_
              refine k_iinc (pc' := 130) (v := nI (_ + 1)) (ls' := [_, _, _, _, _]) dX8_cutTokens_127 rfl rfl (nI_1 _) (by decide) rfl ?_
              refine k_goto (tg := 14) dX8_cutTokens_130 (by decide) ?_
              refine k_wk (by repeat' (first | exact trivial | exact rfl | apply And.intro)) (ih (p + 1) t κ (by omega) q h6 h7 h1 ?_)
              rw [fTk, ← hS]
              dsimp only
              rw [if_pos c_62]
            · exfalso
              exact c_101 c_62
          · skip
            refine k_iload (pc' := 67) dX8_cutTokens_65 rfl rfl ?_
            refine k_if_ne (pc' := 70) (tg := 100) dX8_cutTokens_67 rfl (by decide) (fun c_67 => ?_) (fun c_67 => ?_)
            · exfalso
              exact c_67 rfl
            · skip
              refine k_aload_n (pc' := 71) dX8_cutTokens_70 rfl rfl ?_
              refine k_getR (pc' := 74) fl_RX8_22 dX8_cutTokens_71 rfl rfl rfl ?_
              refine k_aload_n (pc' := 75) dX8_cutTokens_74 rfl rfl ?_
              refine k_getI (pc' := 78) fl_RX8_42 dX8_cutTokens_75 rfl rfl rfl ?_
              refine k_iload_n (pc' := 79) dX8_cutTokens_78 rfl rfl ?_
              rw [h6]
              refine k_iastN (pc' := 80) dX8_cutTokens_79 rfl rfl (by omega) (by decide) ?_
              refine k_aload_n (pc' := 81) dX8_cutTokens_80 rfl rfl ?_
              refine k_getR (pc' := 84) fl_RX8_29 dX8_cutTokens_81 rfl rfl rfl ?_
              refine k_aload_n (pc' := 85) dX8_cutTokens_84 rfl rfl ?_
              refine k_getI (pc' := 88) fl_RX8_42 dX8_cutTokens_85 rfl rfl rfl ?_
              refine k_iload_n (pc' := 89) dX8_cutTokens_88 rfl rfl ?_
              rw [show (hI κ 27 t (nI p)).1 21 6 = nI t from h6]
              refine k_iastN (pc' := 90) dX8_cutTokens_89 rfl rfl (by omega) (by decide) ?_
              refine k_aload_n (pc' := 91) dX8_cutTokens_90 rfl rfl ?_
              refine k_dup (pc' := 92) dX8_cutTokens_91 rfl rfl ?_
              refine k_getI (pc' := 95) fl_RX8_42 dX8_cutTokens_92 rfl rfl rfl ?_
              refine k_iconst (pc' := 96) (v := 1) dX8_cutTokens_95 rfl (by decide) ?_
              refine k_iadd (pc' := 97) dX8_cutTokens_96 rfl ?_
              rw [show (hI (hI κ 27 t (nI p)) 29 t (kdX μ p)).1 21 6 = nI t from h6, nI_1]
              refine k_putI (pc' := 100) fw_RX8_42 dX8_cutTokens_97 rfl rfl rfl ?_
              refine k_iload_n (pc' := 101) dX8_cutTokens_100 rfl rfl ?_
              refine k_if_eq (pc' := 104) (tg := 125) dX8_cutTokens_101 rfl (by decide) (fun c_101 => ?_) (fun c_101 => ?_)
              · exfalso
                exact c_62 c_101
              · skip
                refine k_aload_n (pc' := 105) dX8_cutTokens_104 rfl rfl ?_
                refine k_getI (pc' := 108) fl_RX8_42 dX8_cutTokens_105 rfl rfl rfl ?_
                rw [hI_at]
                refine k_if_le (pc' := 111) (tg := 125) dX8_cutTokens_108 rfl (by decide) (fun c_108 => ?_) (fun c_108 => ?_)
                · exfalso
                  exact nI_nle (n := t + 1) (by omega) (by omega) c_108
                · skip
                  refine k_aload_n (pc' := 112) dX8_cutTokens_111 rfl rfl ?_
                  refine k_getR (pc' := 115) fl_RX8_26 dX8_cutTokens_112 rfl rfl rfl ?_
                  refine k_aload_n (pc' := 116) dX8_cutTokens_115 rfl rfl ?_
                  refine k_getI (pc' := 119) fl_RX8_42 dX8_cutTokens_116 rfl rfl rfl ?_
                  refine k_iconst (pc' := 120) (v := 1) dX8_cutTokens_119 rfl (by decide) ?_
                  refine k_isub (pc' := 121) dX8_cutTokens_120 rfl ?_
                  rw [hI_at, nI_pred]
                  refine k_iload_n (pc' := 122) dX8_cutTokens_121 rfl rfl ?_
                  refine k_iconst (pc' := 123) (v := 1) dX8_cutTokens_122 rfl (by decide) ?_
                  refine k_iadd (pc' := 124) dX8_cutTokens_123 rfl ?_
                  rw [nI_1]
                  refine k_iastN (pc' := 125) dX8_cutTokens_124 rfl rfl (by omega) (by decide) ?_
                  refine k_iload_n (pc' := 126) dX8_cutTokens_125 rfl rfl ?_
                  refine k_istore_n (pc' := 127) (k0 := 0) (ls' := [_, _, _, _, _]) dX8_cutTokens_126 rfl (by decide) rfl ?_
                  refine k_iinc (pc' := 130) (v := nI (_ + 1)) (ls' := [_, _, _, _, _]) dX8_cutTokens_127 rfl rfl (nI_1 _) (by decide) rfl ?_
                  refine k_goto (tg := 14) dX8_cutTokens_130 (by decide) ?_
                  refine k_wk (by repeat' (first | exact trivial | exact rfl | apply And.intro)) (ih (p + 1) (t + 1) (hI (hI (hI (hI κ 27 t (nI p)) 29 t (kdX μ p)) 21 6 (nI (t + 1))) 28 t (nI (p + 1))) (by omega) (fr_I (fr_I (fr_I (fr_I q (by decide)) (by decide)) (by decide)) (by decide)) (show (hI (hI (hI κ 27 t (nI p)) 29 t (kdX μ p)) 21 6 (nI (t + 1))).1 21 6 = nI (t + 1) from hI_at _ _ _ _) h7 h1 ?_)
                  rw [fTk, ← hS]
                  dsimp only
                  rw [if_neg c_62, if_neg hrow]
                  rfl
        · skip
          refine k_iload_n (pc' := 50) dX8_cutTokens_49 rfl rfl ?_
          refine k_iconst (pc' := 51) (v := 3) dX8_cutTokens_50 rfl (by decide) ?_
          refine k_icmp_eq (pc' := 54) (tg := 58) dX8_cutTokens_51 rfl (by decide) (fun c_51 => ?_) (fun c_51 => ?_)
          · skip
            have hrow : ¬ (kdX μ p = lstX (kdX μ) p ∧ ¬ kdX μ p = 3) := fun z => z.2 c_51
            refine k_iconst (pc' := 59) (v := 0) dX8_cutTokens_58 rfl (by decide) ?_
            refine k_istore (pc' := 61) (k0 := 0) (ls' := [_, _, _, _, _]) dX8_cutTokens_59 rfl (by decide) rfl ?_
            refine k_iload_n (pc' := 62) dX8_cutTokens_61 rfl rfl ?_
            refine k_if_eq (pc' := 65) (tg := 100) dX8_cutTokens_62 rfl (by decide) (fun c_62 => ?_) (fun c_62 => ?_)
            · skip
              refine k_iload_n (pc' := 101) dX8_cutTokens_100 rfl rfl ?_
              refine k_if_eq (pc' := 104) (tg := 125) dX8_cutTokens_101 rfl (by decide) (fun c_101 => ?_) (fun c_101 => ?_)
              · skip
                refine k_iload_n (pc' := 126) dX8_cutTokens_125 rfl rfl ?_
                refine k_istore_n (pc' := 127) (k0 := 0) (ls' := [_, _, _, _, _]) dX8_cutTokens_126 rfl (by decide) rfl ?_
                refine k_iinc (pc' := 130) (v := nI (_ + 1)) (ls' := [_, _, _, _, _]) dX8_cutTokens_127 rfl rfl (nI_1 _) (by decide) rfl ?_
                refine k_goto (tg := 14) dX8_cutTokens_130 (by decide) ?_
                refine k_wk (by repeat' (first | exact trivial | exact rfl | apply And.intro)) (ih (p + 1) t κ (by omega) q h6 h7 h1 ?_)
                rw [fTk, ← hS]
                dsimp only
                rw [if_pos c_62]
              · exfalso
                exact c_101 c_62
            · skip
              refine k_iload (pc' := 67) dX8_cutTokens_65 rfl rfl ?_
              refine k_if_ne (pc' := 70) (tg := 100) dX8_cutTokens_67 rfl (by decide) (fun c_67 => ?_) (fun c_67 => ?_)
              · exfalso
                exact c_67 rfl
              · skip
                refine k_aload_n (pc' := 71) dX8_cutTokens_70 rfl rfl ?_
                refine k_getR (pc' := 74) fl_RX8_22 dX8_cutTokens_71 rfl rfl rfl ?_
                refine k_aload_n (pc' := 75) dX8_cutTokens_74 rfl rfl ?_
                refine k_getI (pc' := 78) fl_RX8_42 dX8_cutTokens_75 rfl rfl rfl ?_
                refine k_iload_n (pc' := 79) dX8_cutTokens_78 rfl rfl ?_
                rw [h6]
                refine k_iastN (pc' := 80) dX8_cutTokens_79 rfl rfl (by omega) (by decide) ?_
                refine k_aload_n (pc' := 81) dX8_cutTokens_80 rfl rfl ?_
                refine k_getR (pc' := 84) fl_RX8_29 dX8_cutTokens_81 rfl rfl rfl ?_
                refine k_aload_n (pc' := 85) dX8_cutTokens_84 rfl rfl ?_
                refine k_getI (pc' := 88) fl_RX8_42 dX8_cutTokens_85 rfl rfl rfl ?_
                refine k_iload_n (pc' := 89) dX8_cutTokens_88 rfl rfl ?_
                rw [show (hI κ 27 t (nI p)).1 21 6 = nI t from h6]
                refine k_iastN (pc' := 90) dX8_cutTokens_89 rfl rfl (by omega) (by decide) ?_
                refine k_aload_n (pc' := 91) dX8_cutTokens_90 rfl rfl ?_
                refine k_dup (pc' := 92) dX8_cutTokens_91 rfl rfl ?_
                refine k_getI (pc' := 95) fl_RX8_42 dX8_cutTokens_92 rfl rfl rfl ?_
                refine k_iconst (pc' := 96) (v := 1) dX8_cutTokens_95 rfl (by decide) ?_
                refine k_iadd (pc' := 97) dX8_cutTokens_96 rfl ?_
                rw [show (hI (hI κ 27 t (nI p)) 29 t (kdX μ p)).1 21 6 = nI t from h6, nI_1]
                refine k_putI (pc' := 100) fw_RX8_42 dX8_cutTokens_97 rfl rfl rfl ?_
                refine k_iload_n (pc' := 101) dX8_cutTokens_100 rfl rfl ?_
                refine k_if_eq (pc' := 104) (tg := 125) dX8_cutTokens_101 rfl (by decide) (fun c_101 => ?_) (fun c_101 => ?_)
                · exfalso
                  exact c_62 c_101
                · skip
                  refine k_aload_n (pc' := 105) dX8_cutTokens_104 rfl rfl ?_
                  refine k_getI (pc' := 108) fl_RX8_42 dX8_cutTokens_105 rfl rfl rfl ?_
                  rw [hI_at]
                  refine k_if_le (pc' := 111) (tg := 125) dX8_cutTokens_108 rfl (by decide) (fun c_108 => ?_) (fun c_108 => ?_)
                  · exfalso
                    exact nI_nle (n := t + 1) (by omega) (by omega) c_108
                  · skip
                    refine k_aload_n (pc' := 112) dX8_cutTokens_111 rfl rfl ?_
                    refine k_getR (pc' := 115) fl_RX8_26 dX8_cutTokens_112 rfl rfl rfl ?_
                    refine k_aload_n (pc' := 116) dX8_cutTokens_115 rfl rfl ?_
                    refine k_getI (pc' := 119) fl_RX8_42 dX8_cutTokens_116 rfl rfl rfl ?_
                    refine k_iconst (pc' := 120) (v := 1) dX8_cutTokens_119 rfl (by decide) ?_
                    refine k_isub (pc' := 121) dX8_cutTokens_120 rfl ?_
                    rw [hI_at, nI_pred]
                    refine k_iload_n (pc' := 122) dX8_cutTokens_121 rfl rfl ?_
                    refine k_iconst (pc' := 123) (v := 1) dX8_cutTokens_122 rfl (by decide) ?_
                    refine k_iadd (pc' := 124) dX8_cutTokens_123 rfl ?_
                    rw [nI_1]
                    refine k_iastN (pc' := 125) dX8_cutTokens_124 rfl rfl (by omega) (by decide) ?_
                    refine k_iload_n (pc' := 126) dX8_cutTokens_125 rfl rfl ?_
                    refine k_istore_n (pc' := 127) (k0 := 0) (ls' := [_, _, _, _, _]) dX8_cutTokens_126 rfl (by decide) rfl ?_
                    refine k_iinc (pc' := 130) (v := nI (_ + 1)) (ls' := [_, _, _, _, _]) dX8_cutTokens_127 rfl rfl (nI_1 _) (by decide) rfl ?_
                    refine k_goto (tg := 14) dX8_cutTokens_130 (by decide) ?_
                    refine k_wk (by repeat' (first | exact trivial | exact rfl | apply And.intro)) (ih (p + 1) (t + 1) (hI (hI (hI (hI κ 27 t (nI p)) 29 t (kdX μ p)) 21 6 (nI (t + 1))) 28 t (nI (p + 1))) (by omega) (fr_I (fr_I (fr_I (fr_I q (by decide)) (by decide)) (by decide)) (by decide)) (show (hI (hI (hI κ 27 t (nI p)) 29 t (kdX μ p)) 21 6 (nI (t + 1))).1 21 6 = nI (t + 1) from hI_at _ _ _ _) h7 h1 ?_)
                    rw [fTk, ← hS]
                    dsimp only
                    rw [if_neg c_62, if_neg hrow]
                    rfl
          · skip
            have hrow : kdX μ p = lstX (kdX μ) p ∧ ¬ kdX μ p = 3 := ⟨c_46, c_51⟩
            refine k_iconst (pc' := 55) (v := 1) dX8_cutTokens_54 rfl (by decide) ?_
            refine k_goto (tg := 59) dX8_cutTokens_55 (by decide) ?_
            refine k_istore (pc' := 61) (k0 := 0) (ls' := [_, _, _, _, _]) dX8_cutTokens_59 rfl (by decide) rfl ?_
            refine k_iload_n (pc' := 62) dX8_cutTokens_61 rfl rfl ?_
            refine k_if_eq (pc' := 65) (tg := 100) dX8_cutTokens_62 rfl (by decide) (fun c_62 => ?_) (fun c_62 => ?_)
            · skip
              refine k_iload_n (pc' := 101) dX8_cutTokens_100 rfl rfl ?_
              refine k_if_eq (pc' := 104) (tg := 125) dX8_cutTokens_101 rfl (by decide) (fun c_101 => ?_) (fun c_101 => ?_)
              · skip
                refine k_iload_n (pc' := 126) dX8_cutTokens_125 rfl rfl ?_
                refine k_istore_n (pc' := 127) (k0 := 0) (ls' := [_, _, _, _, _]) dX8_cutTokens_126 rfl (by decide) rfl ?_
                refine k_iinc (pc' := 130) (v := nI (_ + 1)) (ls' := [_, _, _, _, _]) dX8_cutTokens_127 rfl rfl (nI_1 _) (by decide) rfl ?_
                refine k_goto (tg := 14) dX8_cutTokens_130 (by decide) ?_
                refine k_wk (by repeat' (first | exact trivial | exact rfl | apply And.intro)) (ih (p + 1) t κ (by omega) q h6 h7 h1 ?_)
                rw [fTk, ← hS]
                dsimp only
                rw [if_pos c_62]
              · exfalso
                exact c_101 c_62
            · skip
              refine k_iload (pc' := 67) dX8_cutTokens_65 rfl rfl ?_
              refine k_if_ne (pc' := 70) (tg := 100) dX8_cutTokens_67 rfl (by decide) (fun c_67 => ?_) (fun c_67 => ?_)
              · skip
                refine k_iload_n (pc' := 101) dX8_cutTokens_100 rfl rfl ?_
                refine k_if_eq (pc' := 104) (tg := 125) dX8_cutTokens_101 rfl (by decide) (fun c_101 => ?_) (fun c_101 => ?_)
                · exfalso
                  exact c_62 c_101
                · skip
                  refine k_aload_n (pc' := 105) dX8_cutTokens_104 rfl rfl ?_
                  refine k_getI (pc' := 108) fl_RX8_42 dX8_cutTokens_105 rfl rfl rfl ?_
                  rw [h6]
                  refine k_if_le (pc' := 111) (tg := 125) dX8_cutTokens_108 rfl (by decide) (fun c_108 => ?_) (fun c_108 => ?_)
                  · skip
                    have ht0 : t = 0 := by
                      rcases Nat.eq_zero_or_pos t with z | z
                      · exact z
                      · exact absurd c_108 (nI_nle z (by omega))
                    refine k_iload_n (pc' := 126) dX8_cutTokens_125 rfl rfl ?_
                    refine k_istore_n (pc' := 127) (k0 := 0) (ls' := [_, _, _, _, _]) dX8_cutTokens_126 rfl (by decide) rfl ?_
                    refine k_iinc (pc' := 130) (v := nI (_ + 1)) (ls' := [_, _, _, _, _]) dX8_cutTokens_127 rfl rfl (nI_1 _) (by decide) rfl ?_
                    refine k_goto (tg := 14) dX8_cutTokens_130 (by decide) ?_
                    refine k_wk (by repeat' (first | exact trivial | exact rfl | apply And.intro)) (ih (p + 1) t κ (by omega) q h6 h7 h1 ?_)
                    rw [fTk, ← hS]
                    dsimp only
                    rw [if_neg c_62, if_pos hrow, if_neg (show ¬ 0 < t by omega)]
                  · skip
                    have ht0 : 0 < t := by
                      rcases Nat.eq_zero_or_pos t with z | z
                      · exact absurd (by rw [z]; decide) c_108
                      · exact z
                    refine k_aload_n (pc' := 112) dX8_cutTokens_111 rfl rfl ?_
                    refine k_getR (pc' := 115) fl_RX8_26 dX8_cutTokens_112 rfl rfl rfl ?_
                    refine k_aload_n (pc' := 116) dX8_cutTokens_115 rfl rfl ?_
                    refine k_getI (pc' := 119) fl_RX8_42 dX8_cutTokens_116 rfl rfl rfl ?_
                    refine k_iconst (pc' := 120) (v := 1) dX8_cutTokens_119 rfl (by decide) ?_
                    refine k_isub (pc' := 121) dX8_cutTokens_120 rfl ?_
                    rw [h6, show nI t - 1 = nI (t - 1) from nI_sub (y := 1) (by omega)]
                    refine k_iload_n (pc' := 122) dX8_cutTokens_121 rfl rfl ?_
                    refine k_iconst (pc' := 123) (v := 1) dX8_cutTokens_122 rfl (by decide) ?_
                    refine k_iadd (pc' := 124) dX8_cutTokens_123 rfl ?_
                    rw [nI_1]
                    refine k_iastN (pc' := 125) dX8_cutTokens_124 rfl rfl (by omega) (by decide) ?_
                    refine k_iload_n (pc' := 126) dX8_cutTokens_125 rfl rfl ?_
                    refine k_istore_n (pc' := 127) (k0 := 0) (ls' := [_, _, _, _, _]) dX8_cutTokens_126 rfl (by decide) rfl ?_
                    refine k_iinc (pc' := 130) (v := nI (_ + 1)) (ls' := [_, _, _, _, _]) dX8_cutTokens_127 rfl rfl (nI_1 _) (by decide) rfl ?_
                    refine k_goto (tg := 14) dX8_cutTokens_130 (by decide) ?_
                    refine k_wk (by repeat' (first | exact trivial | exact rfl | apply And.intro)) (ih (p + 1) t (hI κ 28 (t - 1) (nI (p + 1))) (by omega) (fr_I q (by decide)) h6 h7 h1 ?_)
                    rw [fTk, ← hS]
                    dsimp only
                    rw [if_neg c_62, if_pos hrow, if_pos (show 0 < t by omega)]
                    rfl
              · exfalso
                exact absurd c_67 (by decide)

set_option maxHeartbeats 400000 in
set_option maxRecDepth 100000 in
theorem ev_X8_cutTokens {μ : kH} {L : Nat} (hL : L ≤ 200) (hz : μ.1 14 1 = nI L) : Ev kX8_cutTokens [kr 21] μ (fun r h' => r = ku ∧ fr [21, 27, 28, 29] μ h' ∧ h'.1 21 6 = nI (fTk (kdX μ) (μ.1 27) (μ.1 28) (μ.1 29) L).1 ∧ h'.1 21 7 = 0 ∧ h'.1 21 1 = μ.1 21 1 ∧ h'.1 27 = (fTk (kdX μ) (μ.1 27) (μ.1 28) (μ.1 29) L).2.1 ∧ h'.1 28 = (fTk (kdX μ) (μ.1 27) (μ.1 28) (μ.1 29) L).2.2.1 ∧ h'.1 29 = (fTk (kdX μ) (μ.1 27) (μ.1 28) (μ.1 29) L).2.2.2) := by
  refine k_ev (ls := [_, _, _, _, _]) (by decide) (Nat.le_of_ble_eq_true rfl) rfl ?_
  refine k_aload_n (pc' := 1) dX8_cutTokens_0 rfl rfl ?_
  refine k_iconst (pc' := 2) (v := 0) dX8_cutTokens_1 rfl (by decide) ?_
  refine k_putI (pc' := 5) fw_RX8_42 dX8_cutTokens_2 rfl rfl rfl ?_
  refine k_aload_n (pc' := 6) dX8_cutTokens_5 rfl rfl ?_
  refine k_iconst (pc' := 7) (v := 0) dX8_cutTokens_6 rfl (by decide) ?_
  refine k_putI (pc' := 10) fw_RX8_52 dX8_cutTokens_7 rfl rfl rfl ?_
  refine k_iconst (pc' := 11) (v := 0) dX8_cutTokens_10 rfl (by decide) ?_
  refine k_istore_n (pc' := 12) (k0 := 0) (ls' := [_, _, _, _, _]) dX8_cutTokens_11 rfl (by decide) rfl ?_
  refine k_iconst (pc' := 13) (v := 0) dX8_cutTokens_12 rfl (by decide) ?_
  refine k_istore_n (pc' := 14) (k0 := 0) (ls' := [_, _, _, _, _]) dX8_cutTokens_13 rfl (by decide) rfl ?_
  exact lp_cut hL hz L 0 0 _ (by omega) (fr_I (fr_I (fr_rf _ _) (by decide)) (by decide)) rfl (hI_at _ _ _ _) rfl rfl

