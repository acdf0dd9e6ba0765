/-- the next token from p on -/
def nxR (ν : kH) (L p : Nat) (κ : kH) : Prop := frN ν κ ∧ ∃ f e : Nat, p ≤ f ∧ f ≤ L ∧ (∀ j, p ≤ j → j < f → ν.1 61 j = 32) ∧ κ.1 46 28 = nI f ∧ κ.1 46 29 = nI e ∧ ((f = L ∧ e = L ∧ κ.1 46 30 = 0 ∧ κ.2 46 31 = 0) ∨ (f < L ∧ ¬ ν.1 61 f = 32 ∧ smB (ν.1 61 f) ∧ κ.1 46 30 = 1 ∧ f ≤ e ∧ e ≤ L ∧ (∀ j, f ≤ j → j < e → smB (ν.1 61 j)) ∧ (e < L → ¬ smB (ν.1 61 e)) ∧ κ.2 46 31 = hWd (ν.1 61) f (e - f)) ∨ (f < L ∧ ¬ ν.1 61 f = 32 ∧ ¬ smB (ν.1 61 f) ∧ dgB (ν.1 61 f) ∧ κ.1 46 30 = 2 ∧ f ≤ e ∧ e ≤ L ∧ (∀ j, f ≤ j → j < e → dgB (ν.1 61 j)) ∧ (e < L → ¬ dgB (ν.1 61 e)) ∧ κ.2 46 31 = hDg (ν.1 61) f (e - f)) ∨ (f < L ∧ ¬ ν.1 61 f = 32 ∧ ¬ smB (ν.1 61 f) ∧ ¬ dgB (ν.1 61 f) ∧ κ.1 46 30 = 3 ∧ e = f + 1 ∧ κ.2 46 31 = (ν.1 61 f).toInt64))

set_option maxHeartbeats 400000 in
set_option maxRecDepth 100000 in
theorem ev_next {ν : kH} {L p : Nat} (hLL : L ≤ 200) (htp : ν.1 46 27 = nI L) (hto : ν.1 46 29 = nI p) (hpL : p ≤ L) : Ev kX11_next [kr 46] ν (fun r h' => r = ku ∧ nxR ν L p h') := by
  refine k_ev (ls := [_]) (by decide) (Nat.le_of_ble_eq_true rfl) rfl ?_
  refine k_aload_n (pc' := 1) dX11_next_0 rfl rfl ?_
  refine k_aload_n (pc' := 2) dX11_next_1 rfl rfl ?_
  refine k_getI (pc' := 5) fl_RX11_179 dX11_next_2 rfl rfl rfl ?_
  rw [hto]
  refine k_putI (pc' := 8) fw_RX11_182 dX11_next_5 rfl rfl rfl ?_
  refine lp_nB hLL htp (p := p) (fun κ f q h28 hpf hfL hb hne => ?_) (L - p) p _ (by omega) (frN_J (frN_rf ν) (by decide)) (hI_at _ _ _ _) (Nat.le_refl _) (fun j h1 h2 => absurd h1 (by omega))
  have h61 : κ.1 61 = ν.1 61 := q.1 61 (by decide)
  refine k_aload_n (pc' := 47) dX11_next_46 rfl rfl ?_
  refine k_aload_n (pc' := 48) dX11_next_47 rfl rfl ?_
  refine k_getI (pc' := 51) fl_RX11_182 dX11_next_48 rfl rfl rfl ?_
  rw [h28]
  refine k_putI (pc' := 54) fw_RX11_179 dX11_next_51 rfl rfl rfl ?_
  refine k_aload_n (pc' := 55) dX11_next_54 rfl rfl ?_
  refine k_lconst (pc' := 56) (v := 0) dX11_next_55 rfl (by decide) ?_
  refine k_putL (pc' := 59) fw_RX11_185 dX11_next_56 rfl rfl rfl ?_
  refine k_aload_n (pc' := 60) dX11_next_59 rfl rfl ?_
  refine k_aload_n (pc' := 61) dX11_next_60 rfl rfl ?_
  refine k_getI (pc' := 64) fl_RX11_182 dX11_next_61 rfl rfl rfl ?_
  refine k_aload_n (pc' := 65) dX11_next_64 rfl rfl ?_
  refine k_getI (pc' := 68) fl_RX11_173 dX11_next_65 rfl rfl rfl ?_
  rw [show (hL (hI κ 46 29 (nI f)) 46 31 0).1 46 28 = nI f from h28, show (hL (hI κ 46 29 (nI f)) 46 31 0).1 46 27 = nI L from (q.2.1 27 (by decide)).trans htp]
  refine k_icmp_ne (pc' := 71) (tg := 75) dX11_next_68 rfl (by decide) (fun c_68 => ?_) (fun c_68 => ?_)
  · skip
    have hlt : f < L := by
      rcases Nat.lt_or_ge f L with z | z
      · exact z
      · exact absurd (by rw [show f = L by omega]) c_68
    refine k_aload_n (pc' := 76) dX11_next_75 rfl rfl ?_
    refine k_getR (pc' := 79) fl_RX11_59 dX11_next_76 rfl rfl rfl ?_
    refine k_aload_n (pc' := 80) dX11_next_79 rfl rfl ?_
    refine k_getI (pc' := 83) fl_RX11_182 dX11_next_80 rfl rfl rfl ?_
    rw [show (hL (hI κ 46 29 (nI f)) 46 31 0).1 46 28 = nI f from h28]
    refine k_ialdN (pc' := 84) dX11_next_83 rfl rfl (by omega) (by decide) ?_
    rw [show (hL (hI κ 46 29 (nI f)) 46 31 0).1 61 = ν.1 61 from h61]
    refine k_callS1 (pc' := 87) dX11_next_84 rfl ml_RX11_189 ⟨(Nat.le_of_ble_eq_true rfl), (Nat.le_of_ble_eq_true rfl)⟩ (Nat.le_of_ble_eq_true rfl) ev_X11_isSmall (fun r_84 h_84 q_84 => ?_)
    obtain ⟨e_84, g_84⟩ := q_84
    rw [e_84, g_84]
    refine k_if_eq (pc' := 90) (tg := 94) dX11_next_87 rfl (by decide) (fun c_87 => ?_) (fun c_87 => ?_)
    · skip
      have hsm : ¬ smB (ν.1 61 f) := k_b0.mp c_87
      refine k_aload_n (pc' := 95) dX11_next_94 rfl rfl ?_
      refine k_getR (pc' := 98) fl_RX11_59 dX11_next_95 rfl rfl rfl ?_
      refine k_aload_n (pc' := 99) dX11_next_98 rfl rfl ?_
      refine k_getI (pc' := 102) fl_RX11_182 dX11_next_99 rfl rfl rfl ?_
      rw [show (hL (hI κ 46 29 (nI f)) 46 31 0).1 46 28 = nI f from h28]
      refine k_ialdN (pc' := 103) dX11_next_102 rfl rfl (by omega) (by decide) ?_
      rw [show (hL (hI κ 46 29 (nI f)) 46 31 0).1 61 = ν.1 61 from h61]
      refine k_callS1 (pc' := 106) dX11_next_103 rfl ml_RX11_192 ⟨(Nat.le_of_ble_eq_true rfl), (Nat.le_of_ble_eq_true rfl)⟩ (Nat.le_of_ble_eq_true rfl) ev_X11_isDigit (fun r_103 h_103 q_103 => ?_)
      obtain ⟨e_103, g_103⟩ := q_103
      rw [e_103, g_103]
      refine k_if_eq (pc' := 109) (tg := 113) dX11_next_106 rfl (by decide) (fun c_106 => ?_) (fun c_106 => ?_)
      · skip
        have hdg : ¬ dgB (ν.1 61 f) := k_b0.mp c_106
        refine k_iconst (pc' := 114) (v := 3) dX11_next_113 rfl (by decide) ?_
        refine k_putI (pc' := 117) fw_RX11_195 dX11_next_114 rfl rfl rfl ?_
        refine k_aload_n (pc' := 118) dX11_next_117 rfl rfl ?_
        refine k_getI (pc' := 121) fl_RX11_195 dX11_next_118 rfl rfl rfl ?_
        refine k_iconst (pc' := 122) (v := 3) dX11_next_121 rfl (by decide) ?_
        rw [hI_at]
        refine k_icmp_ne (pc' := 125) (tg := 149) dX11_next_122 rfl (by decide) (fun c_122 => ?_) (fun c_122 => ?_)
        · exfalso
          exact c_122 rfl
        · skip
          refine k_aload_n (pc' := 126) dX11_next_125 rfl rfl ?_
          refine k_aload_n (pc' := 127) dX11_next_126 rfl rfl ?_
          refine k_getR (pc' := 130) fl_RX11_59 dX11_next_127 rfl rfl rfl ?_
          refine k_aload_n (pc' := 131) dX11_next_130 rfl rfl ?_
          refine k_getI (pc' := 134) fl_RX11_182 dX11_next_131 rfl rfl rfl ?_
          rw [show (hI (hL (hI κ 46 29 (nI f)) 46 31 0) 46 30 3).1 46 28 = nI f from h28]
          refine k_ialdN (pc' := 135) dX11_next_134 rfl rfl (by omega) (by decide) ?_
          rw [show (hI (hL (hI κ 46 29 (nI f)) 46 31 0) 46 30 3).1 61 = ν.1 61 from h61]
          refine k_i2l (pc' := 136) dX11_next_135 rfl ?_
          refine k_putL (pc' := 139) fw_RX11_185 dX11_next_136 rfl rfl rfl ?_
          refine k_aload_n (pc' := 140) dX11_next_139 rfl rfl ?_
          refine k_dup (pc' := 141) dX11_next_140 rfl rfl ?_
          refine k_getI (pc' := 144) fl_RX11_179 dX11_next_141 rfl rfl rfl ?_
          refine k_iconst (pc' := 145) (v := 1) dX11_next_144 rfl (by decide) ?_
          refine k_iadd (pc' := 146) dX11_next_145 rfl ?_
          rw [show (hL (hI (hL (hI κ 46 29 (nI f)) 46 31 0) 46 30 3) 46 31 (ν.1 61 f).toInt64).1 46 29 = nI f from (show (hI κ 46 29 (nI f)).1 46 29 = nI f from hI_at _ _ _ _), nI_1]
          refine k_putI (pc' := 149) fw_RX11_179 dX11_next_146 rfl rfl rfl ?_
          refine k_aload_n (pc' := 150) dX11_next_149 rfl rfl ?_
          refine k_getI (pc' := 153) fl_RX11_195 dX11_next_150 rfl rfl rfl ?_
          refine k_iconst (pc' := 154) (v := 1) dX11_next_153 rfl (by decide) ?_
          rw [show (hI (hL (hI (hL (hI κ 46 29 (nI f)) 46 31 0) 46 30 3) 46 31 (ν.1 61 f).toInt64) 46 29 (nI (f + 1))).1 46 30 = 3 from (show (hI (hL (hI κ 46 29 (nI f)) 46 31 0) 46 30 3).1 46 30 = 3 from hI_at _ _ _ _)]
          refine k_icmp_ne (pc' := 157) (tg := 243) dX11_next_154 rfl (by decide) (fun c_154 => ?_) (fun c_154 => ?_)
          · skip
            refine k_aload_n (pc' := 244) dX11_next_243 rfl rfl ?_
            refine k_getI (pc' := 247) fl_RX11_195 dX11_next_244 rfl rfl rfl ?_
            refine k_iconst (pc' := 248) (v := 2) dX11_next_247 rfl (by decide) ?_
            rw [show (hI (hL (hI (hL (hI κ 46 29 (nI f)) 46 31 0) 46 30 3) 46 31 (ν.1 61 f).toInt64) 46 29 (nI (f + 1))).1 46 30 = 3 from (show (hI (hL (hI κ 46 29 (nI f)) 46 31 0) 46 30 3).1 46 30 = 3 from hI_at _ _ _ _)]
            refine k_icmp_ne (pc' := 251) (tg := 335) dX11_next_248 rfl (by decide) (fun c_248 => ?_) (fun c_248 => ?_)
            · skip
              exact k_vret dX11_next_335 rfl ⟨rfl, frN_J (frN_L (frN_J (frN_L (frN_J q (by decide))) (by decide))) (by decide), f, f + 1, hpf, hfL, hb, (show κ.1 46 28 = nI f from h28), hI_at _ _ _ _, Or.inr (Or.inr (Or.inr ⟨hlt, hne hlt, hsm, hdg, (show (hI (hL (hI κ 46 29 (nI f)) 46 31 0) 46 30 3).1 46 30 = 3 from hI_at _ _ _ _), rfl, (show (hL (hI (hL (hI κ 46 29 (nI f)) 46 31 0) 46 30 3) 46 31 (ν.1 61 f).toInt64).2 46 31 = _ from hL_at _ _ _ _)⟩))⟩
            · exfalso
              exact absurd c_248 (by decide)
          · exfalso
            exact absurd c_154 (by decide)
      · skip
        have hdg : dgB (ν.1 61 f) := k_b1.mp c_106
        refine k_iconst (pc' := 110) (v := 2) dX11_next_109 rfl (by decide) ?_
        refine k_goto (tg := 114) dX11_next_110 (by decide) ?_
        refine k_putI (pc' := 117) fw_RX11_195 dX11_next_114 rfl rfl rfl ?_
        refine k_aload_n (pc' := 118) dX11_next_117 rfl rfl ?_
        refine k_getI (pc' := 121) fl_RX11_195 dX11_next_118 rfl rfl rfl ?_
        refine k_iconst (pc' := 122) (v := 3) dX11_next_121 rfl (by decide) ?_
        rw [hI_at]
        refine k_icmp_ne (pc' := 125) (tg := 149) dX11_next_122 rfl (by decide) (fun c_122 => ?_) (fun c_122 => ?_)
        · skip
          refine k_aload_n (pc' := 150) dX11_next_149 rfl rfl ?_
          refine k_getI (pc' := 153) fl_RX11_195 dX11_next_150 rfl rfl rfl ?_
          refine k_iconst (pc' := 154) (v := 1) dX11_next_153 rfl (by decide) ?_
          rw [hI_at]
          refine k_icmp_ne (pc' := 157) (tg := 243) dX11_next_154 rfl (by decide) (fun c_154 => ?_) (fun c_154 => ?_)
          · skip
            refine lp_nD hLL htp (f := f) (fun κ2 e q2 g28 g29 g30 gw g1 g2 g3 g4 => ?_) (L - f) f _ (by omega) (frN_J (frN_L (frN_J q (by decide))) (by decide)) (show κ.1 46 28 = nI f from h28) (show (hI κ 46 29 (nI f)).1 46 29 = nI f from hI_at _ _ _ _) (hI_at _ _ _ _) (by rw [Nat.sub_self]; exact (show (hL (hI κ 46 29 (nI f)) 46 31 0).2 46 31 = 0 from hL_at _ _ _ _)) (Nat.le_refl _) (fun j h1 h2 => absurd h1 (by omega))
            exact k_vret dX11_next_335 rfl ⟨rfl, q2, f, e, hpf, hfL, hb, g28, g29, Or.inr (Or.inr (Or.inl ⟨hlt, hne hlt, hsm, hdg, g30, g1, g2, g3, g4, gw⟩))⟩
          · exfalso
            exact absurd c_154 (by decide)
        · exfalso
          exact absurd c_122 (by decide)
    · skip
      have hsm : smB (ν.1 61 f) := k_b1.mp c_87
      refine k_iconst (pc' := 91) (v := 1) dX11_next_90 rfl (by decide) ?_
      refine k_goto (tg := 114) dX11_next_91 (by decide) ?_
      refine k_putI (pc' := 117) fw_RX11_195 dX11_next_114 rfl rfl rfl ?_
      refine k_aload_n (pc' := 118) dX11_next_117 rfl rfl ?_
      refine k_getI (pc' := 121) fl_RX11_195 dX11_next_118 rfl rfl rfl ?_
      refine k_iconst (pc' := 122) (v := 3) dX11_next_121 rfl (by decide) ?_
      rw [hI_at]
      refine k_icmp_ne (pc' := 125) (tg := 149) dX11_next_122 rfl (by decide) (fun c_122 => ?_) (fun c_122 => ?_)
      · skip
        refine lp_nW hLL htp (f := f) (fun κ2 e q2 g28 g29 g30 gw g1 g2 g3 g4 => ?_) (L - f) f _ (by omega) (frN_J (frN_L (frN_J q (by decide))) (by decide)) (show κ.1 46 28 = nI f from h28) (show (hI κ 46 29 (nI f)).1 46 29 = nI f from hI_at _ _ _ _) (hI_at _ _ _ _) (by rw [Nat.sub_self]; exact (show (hL (hI κ 46 29 (nI f)) 46 31 0).2 46 31 = 0 from hL_at _ _ _ _)) (Nat.le_refl _) (fun j h1 h2 => absurd h1 (by omega))
        refine k_aload_n (pc' := 244) dX11_next_243 rfl rfl ?_
        refine k_getI (pc' := 247) fl_RX11_195 dX11_next_244 rfl rfl rfl ?_
        refine k_iconst (pc' := 248) (v := 2) dX11_next_247 rfl (by decide) ?_
        rw [g30]
        refine k_icmp_ne (pc' := 251) (tg := 335) dX11_next_248 rfl (by decide) (fun c_248 => ?_) (fun c_248 => ?_)
        · skip
          exact k_vret dX11_next_335 rfl ⟨rfl, q2, f, e, hpf, hfL, hb, g28, g29, Or.inr (Or.inl ⟨hlt, hne hlt, hsm, g30, g1, g2, g3, g4, gw⟩)⟩
        · exfalso
          exact absurd c_248 (by decide)
      · exfalso
        exact absurd c_122 (by decide)
  · skip
    have hfe : f = L := (nI_eq (by omega) (by omega)).mp c_68
    refine k_iconst (pc' := 72) (v := 0) dX11_next_71 rfl (by decide) ?_
    refine k_goto (tg := 114) dX11_next_72 (by decide) ?_
    refine k_putI (pc' := 117) fw_RX11_195 dX11_next_114 rfl rfl rfl ?_
    refine k_aload_n (pc' := 118) dX11_next_117 rfl rfl ?_
    refine k_getI (pc' := 121) fl_RX11_195 dX11_next_118 rfl rfl rfl ?_
    refine k_iconst (pc' := 122) (v := 3) dX11_next_121 rfl (by decide) ?_
    rw [hI_at]
    refine k_icmp_ne (pc' := 125) (tg := 149) dX11_next_122 rfl (by decide) (fun c_122 => ?_) (fun c_122 => ?_)
    · skip
      refine k_aload_n (pc' := 150) dX11_next_149 rfl rfl ?_
      refine k_getI (pc' := 153) fl_RX11_195 dX11_next_150 rfl rfl rfl ?_
      refine k_iconst (pc' := 154) (v := 1) dX11_next_153 rfl (by decide) ?_
      rw [hI_at]
      refine k_icmp_ne (pc' := 157) (tg := 243) dX11_next_154 rfl (by decide) (fun c_154 => ?_) (fun c_154 => ?_)
      · skip
        refine k_aload_n (pc' := 244) dX11_next_243 rfl rfl ?_
        refine k_getI (pc' := 247) fl_RX11_195 dX11_next_244 rfl rfl rfl ?_
        refine k_iconst (pc' := 248) (v := 2) dX11_next_247 rfl (by decide) ?_
        rw [hI_at]
        refine k_icmp_ne (pc' := 251) (tg := 335) dX11_next_248 rfl (by decide) (fun c_248 => ?_) (fun c_248 => ?_)
        · skip
          exact k_vret dX11_next_335 rfl ⟨rfl, (frN_J (frN_L (frN_J q (by decide))) (by decide)), f, f, hpf, hfL, hb, (show κ.1 46 28 = nI f from h28), (show (hI κ 46 29 (nI f)).1 46 29 = nI f from hI_at _ _ _ _), Or.inl ⟨hfe, hfe, hI_at _ _ _ _, (show (hL (hI κ 46 29 (nI f)) 46 31 0).2 46 31 = 0 from hL_at _ _ _ _)⟩⟩
        · exfalso
          exact absurd c_248 (by decide)
      · exfalso
        exact absurd c_154 (by decide)
    · exfalso
      exact absurd c_122 (by decide)

