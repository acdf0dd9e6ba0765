theorem frQ_2 {ν κ ρ : kH} (q : frQ ν κ) (q2 : fr2 [] [16, 17, 18] κ ρ) : frQ ν ρ := ⟨fun k hk h' => by rw [q2.1 k (by simp) h', q.1 k hk h'], fun j hj => by rw [q2.2.1 j (by simp at hj ⊢; omega), q.2.1 j hj], fun r hr => by rw [q2.2.2, q.2.2 r hr]⟩
theorem frQ_L {ν κ : kH} (q : frQ ν κ) {j : Nat} {v : Int64} : frQ ν (hL κ 62 j v) := ⟨q.1, q.2.1, fun r hr => by
  show hs κ.2 62 _ r = _
  rw [hs_ne _ _ hr]; exact q.2.2 r hr⟩
theorem frQ_63 {ν κ : kH} (q : frQ ν κ) {j : Nat} {v : Int32} : frQ ν (hI κ 63 j v) := ⟨fun k hk h' => by
  show hs κ.1 63 _ k = _
  rw [hs_ne _ _ (fun z => hk (by rw [z]; decide))]; exact q.1 k hk h', fun j' hj => q.2.1 j' hj, q.2.2⟩
theorem ev_wO {v : Int32} {ν κ : kH} {tb : Nat → Int32} {nx : Nat → Int64} {N Y0 I A D : Nat} (hN : N ≤ 20) (hsz : ν.1 46 19 = nI N) (hq : ∀ j, j < N → (ν.1 56 j = 0 → 1 ≤ ν.1 58 j) ∧ (ν.1 56 j = 1 → 1 ≤ ν.1 57 j)) (hnw : ν.1 46 2 = nI Y0) (q : frQ ν κ) (htb : κ.1 53 = tb) (hA : A ≤ 25) (hD : D < 4) (hI0 : I < 20) (hY : Y0 + I < 40) (hnx : ∀ p, p ≤ 25 → nx p = κ.2 62 (26 * I + 26 + p)) : Ev kX11_worthOf [kr 46, ki v, ki (nI I), ki (nI A), ki (nI D)] κ (fun r h' => r = kl (wP ν tb N Y0 v I nx A D) ∧ frQ ν h' ∧ h'.1 53 = tb ∧ h'.2 = κ.2) := by
  refine k_evm (ev_X11_worthOf hA hD hI0 hY ((q.2.1 2 (by decide)).trans hnw) hN ((q.2.1 19 (by decide)).trans hsz) (fun j hj => by rw [q.1 56 (by decide) (by decide), q.1 57 (by decide) (by decide), q.1 58 (by decide) (by decide)]; exact hq j hj)) (fun r h' z => ?_)
  obtain ⟨z1, z2⟩ := z
  refine ⟨?_, frQ_2 q z2, ?_, z2.2.2⟩
  · rw [z1, htb, wM_wP q (hnx _ (olN_le (agN_le hA)))]
  · rw [z2.1 53 (by simp) (by decide), htb]

set_option maxHeartbeats 400000 in
set_option maxRecDepth 100000 in
theorem lp_pD {v x1 x2 : Int32} {ν : kH} {tb : Nat → Int32} {N Y0 I : Nat} (hN : N ≤ 20) (hsz : ν.1 46 19 = nI N) (hq : ∀ j, j < N → (ν.1 56 j = 0 → 1 ≤ ν.1 58 j) ∧ (ν.1 56 j = 1 → 1 ≤ ν.1 57 j)) (hnw : ν.1 46 2 = nI Y0) (hI0 : I < 20) (hY : Y0 + I < 40) {a : Nat} {nx : Nat → Int64} {lq0 : Nat → Nat → Int64} {Φ : Nat → List kV → List kV → kH → Prop} (ha : a ≤ 25) (hnx : ∀ p, p ≤ 25 → nx p = lq0 62 (26 * I + 26 + p)) (K : ∀ κ : kH, frQ ν κ → κ.1 53 = tb → κ.2 = lq0 → At kX11_plan 176 [kr 46, ki x1, ki x2, ki v, ki (nI I), ki (nI a), kl (mxM a (wP ν tb N Y0 v I nx a) 3), ku, ku, ku, ku] [] κ Φ) : ∀ (n i : Nat) (κ : kH), i + n = 3 → frQ ν κ → κ.1 53 = tb → κ.2 = lq0 → At kX11_plan 119 [kr 46, ki x1, ki x2, ki v, ki (nI I), ki (nI a), kl (mxM a (wP ν tb N Y0 v I nx a) i), ku, ki (nI (i + 1)), ku, ku] [] κ Φ := by
  intro n
  induction n with
  | zero =>
    intro i κ hi q h53 hl
    have ei : i = 3 := by omega
    subst ei
    refine k_iload (pc' := 121) dX11_plan_119 rfl rfl ?_
    refine k_iconst (pc' := 122) (v := 4) dX11_plan_121 rfl (by decide) ?_
    refine k_icmp_ge (pc' := 125) (tg := 176) dX11_plan_122 rfl (by decide) (fun c_122 => ?_) (fun c_122 => ?_)
    · skip
      exact k_wk (by repeat' (first | exact trivial | exact rfl | apply And.intro)) (K κ q h53 hl)
    · exfalso
      exact c_122 (by decide)
  | succ n ih =>
    intro i κ hi q h53 hl
    refine k_iload (pc' := 121) dX11_plan_119 rfl rfl ?_
    refine k_iconst (pc' := 122) (v := 4) dX11_plan_121 rfl (by decide) ?_
    refine k_icmp_ge (pc' := 125) (tg := 176) dX11_plan_122 rfl (by decide) (fun c_122 => ?_) (fun c_122 => ?_)
    · exfalso
      exact nI_ge (a := i + 1) (b := 4) (by omega) (by decide) c_122
    · skip
      refine k_iload (pc' := 127) dX11_plan_125 rfl rfl ?_
      refine k_iload (pc' := 129) dX11_plan_127 rfl rfl ?_
      refine k_callS2 (pc' := 132) dX11_plan_129 rfl ml_RX11_264 ⟨(Nat.le_of_ble_eq_true rfl), (Nat.le_of_ble_eq_true rfl)⟩ (Nat.le_of_ble_eq_true rfl) ev_X11_canDo (fun r_129 h_129 q_129 => ?_)
      obtain ⟨e_129, g_129⟩ := q_129
      rw [e_129, g_129]
      refine k_if_eq (pc' := 135) (tg := 149) dX11_plan_132 rfl (by decide) (fun c_132 => ?_) (fun c_132 => ?_)
      · skip
        have hc : ¬ canN a (i + 1) := (k_canN ha (by omega)).mp c_132
        have hmx := mxM_F (A := a) (w := (wP ν tb N Y0 v I nx a)) (d := i) (fun z => hc z.1)
        refine k_lload (pc' := 151) dX11_plan_149 rfl rfl ?_
        refine k_lstore (pc' := 153) (k0 := 0) (ls' := [_, _, _, _, _, _, _, _, _, _, _]) dX11_plan_151 rfl (by decide) rfl ?_
        refine k_lload (pc' := 155) dX11_plan_153 rfl rfl ?_
        refine k_lload (pc' := 157) dX11_plan_155 rfl rfl ?_
        refine k_lcmp (pc' := 158) dX11_plan_157 rfl ?_
        refine k_if_le (pc' := 161) (tg := 166) dX11_plan_158 rfl (by decide) (fun c_158 => ?_) (fun c_158 => ?_)
        · skip
          refine k_lload (pc' := 168) dX11_plan_166 rfl rfl ?_
          refine k_lstore (pc' := 170) (k0 := 0) (ls' := [_, _, _, _, _, _, _, _, _, _, _]) dX11_plan_168 rfl (by decide) rfl ?_
          refine k_iinc (pc' := 173) (v := nI (_ + 1)) (ls' := [_, _, _, _, _, _, _, _, _, _, _]) dX11_plan_170 rfl rfl (nI_1 _) (by decide) rfl ?_
          refine k_goto (tg := 119) dX11_plan_173 (by decide) ?_
          rw [← hmx]
          exact k_wk (by repeat' (first | exact trivial | exact rfl | apply And.intro)) (ih (i + 1) κ (by omega) q h53 hl)
        · skip
          refine k_lload (pc' := 163) dX11_plan_161 rfl rfl ?_
          refine k_goto (tg := 168) dX11_plan_163 (by decide) ?_
          refine k_lstore (pc' := 170) (k0 := 0) (ls' := [_, _, _, _, _, _, _, _, _, _, _]) dX11_plan_168 rfl (by decide) rfl ?_
          refine k_iinc (pc' := 173) (v := nI (_ + 1)) (ls' := [_, _, _, _, _, _, _, _, _, _, _]) dX11_plan_170 rfl rfl (nI_1 _) (by decide) rfl ?_
          refine k_goto (tg := 119) dX11_plan_173 (by decide) ?_
          exact absurd (k_cle.mpr (by rw [k_leL]; exact Int.le_refl _)) c_158
      · skip
        have hc : canN a (i + 1) := Classical.byContradiction (fun z => c_132 ((k_canN ha (by omega)).mpr z))
        refine k_aload_n (pc' := 136) dX11_plan_135 rfl rfl ?_
        refine k_iload_n (pc' := 137) dX11_plan_136 rfl rfl ?_
        refine k_iload (pc' := 139) dX11_plan_137 rfl rfl ?_
        refine k_iload (pc' := 141) dX11_plan_139 rfl rfl ?_
        refine k_iload (pc' := 143) dX11_plan_141 rfl rfl ?_
        refine k_callV4 (pc' := 146) dX11_plan_143 rfl ml_RX11_260 rfl rfl ⟨(Nat.le_of_ble_eq_true rfl), (Nat.le_of_ble_eq_true rfl)⟩ (Nat.le_of_ble_eq_true rfl) (ev_wO (tb := tb) (nx := nx) (I := I) (A := a) (D := i + 1) hN hsz hq hnw q h53 ha (by omega) hI0 hY (by rw [hl]; exact hnx)) (fun r_143 h_143 q_143 => ?_)
        obtain ⟨e_143, f_143, t_143, l_143⟩ := q_143
        rw [e_143]
        refine k_goto (tg := 151) dX11_plan_146 (by decide) ?_
        refine k_lstore (pc' := 153) (k0 := 0) (ls' := [_, _, _, _, _, _, _, _, _, _, _]) dX11_plan_151 rfl (by decide) rfl ?_
        refine k_lload (pc' := 155) dX11_plan_153 rfl rfl ?_
        refine k_lload (pc' := 157) dX11_plan_155 rfl rfl ?_
        refine k_lcmp (pc' := 158) dX11_plan_157 rfl ?_
        refine k_if_le (pc' := 161) (tg := 166) dX11_plan_158 rfl (by decide) (fun c_158 => ?_) (fun c_158 => ?_)
        · skip
          refine k_lload (pc' := 168) dX11_plan_166 rfl rfl ?_
          refine k_lstore (pc' := 170) (k0 := 0) (ls' := [_, _, _, _, _, _, _, _, _, _, _]) dX11_plan_168 rfl (by decide) rfl ?_
          refine k_iinc (pc' := 173) (v := nI (_ + 1)) (ls' := [_, _, _, _, _, _, _, _, _, _, _]) dX11_plan_170 rfl rfl (nI_1 _) (by decide) rfl ?_
          refine k_goto (tg := 119) dX11_plan_173 (by decide) ?_
          have hmx := mxM_F (A := a) (w := (wP ν tb N Y0 v I nx a)) (d := i) (fun z => by have z1 := k_cle.mp c_158; have z2 := z.2; simp only [k_ltL, k_leL] at z1 z2; omega)
          rw [← hmx]
          exact k_wk (by repeat' (first | exact trivial | exact rfl | apply And.intro)) (ih (i + 1) h_143 (by omega) f_143 t_143 (by rw [l_143]; exact hl))
        · skip
          refine k_lload (pc' := 163) dX11_plan_161 rfl rfl ?_
          refine k_goto (tg := 168) dX11_plan_163 (by decide) ?_
          refine k_lstore (pc' := 170) (k0 := 0) (ls' := [_, _, _, _, _, _, _, _, _, _, _]) dX11_plan_168 rfl (by decide) rfl ?_
          refine k_iinc (pc' := 173) (v := nI (_ + 1)) (ls' := [_, _, _, _, _, _, _, _, _, _, _]) dX11_plan_170 rfl rfl (nI_1 _) (by decide) rfl ?_
          refine k_goto (tg := 119) dX11_plan_173 (by decide) ?_
          have hmx := mxM_T (A := a) (w := (wP ν tb N Y0 v I nx a)) (d := i) hc (by
            have z1 : ¬ wP ν tb N Y0 v I nx a (i + 1) ≤ mxM a (wP ν tb N Y0 v I nx a) i := fun z => c_158 (k_cle.mpr z)
            rw [k_leL] at z1
            rw [k_ltL]
            omega)
          rw [← hmx]
          exact k_wk (by repeat' (first | exact trivial | exact rfl | apply And.intro)) (ih (i + 1) h_143 (by omega) f_143 t_143 (by rw [l_143]; exact hl))

set_option maxHeartbeats 400000 in
set_option maxRecDepth 100000 in
theorem lp_pA {v x1 x2 : Int32} {ν : kH} {tb : Nat → Int32} {N Y0 I : Nat} (hN : N ≤ 20) (hsz : ν.1 46 19 = nI N) (hq : ∀ j, j < N → (ν.1 56 j = 0 → 1 ≤ ν.1 58 j) ∧ (ν.1 56 j = 1 → 1 ≤ ν.1 57 j)) (hnw : ν.1 46 2 = nI Y0) (hI0 : I < 20) (hY : Y0 + I < 40) {M : Nat} {nx : Nat → Int64} {ah : Nat → Int64} {Φ : Nat → List kV → List kV → kH → Prop} (hM : M = 26) (hms : (26 : Int32) = nI M) (hnx : ∀ p, p ≤ 25 → nx p = ah (26 * I + 26 + p)) (K : ∀ κ : kH, frQ ν κ → κ.1 53 = tb → (∀ a, a < 26 → κ.2 62 (26 * I + a) = mxM a (wP ν tb N Y0 v I nx a) 3) → (∀ j, 26 * I + 26 ≤ j → κ.2 62 j = ah j) → At kX11_plan 197 [kr 46, ki x1, ki x2, ki v, ki (nI I), ku, ku, ku, ku, ku, ku] [] κ Φ) : ∀ (n i : Nat) (κ : kH), i + n = M → frQ ν κ → κ.1 53 = tb → (∀ a, a < i → κ.2 62 (26 * I + a) = mxM a (wP ν tb N Y0 v I nx a) 3) → (∀ j, 26 * I + 26 ≤ j → κ.2 62 j = ah j) → At kX11_plan 97 [kr 46, ki x1, ki x2, ki v, ki (nI I), ki (nI i), ku, ku, ku, ku, ku] [] κ Φ := by
  intro n
  induction n with
  | zero =>
    intro i κ hi q h53 h1 h2
    refine k_iload (pc' := 99) dX11_plan_97 rfl rfl ?_
    refine k_bipush (pc' := 101) (v := 26) dX11_plan_99 rfl (by decide) ?_
    refine k_icmp_ge (pc' := 104) (tg := 197) dX11_plan_101 rfl (by decide) (fun c_101 => ?_) (fun c_101 => ?_)
    · skip
      exact k_wk (by repeat' (first | exact trivial | exact rfl | apply And.intro)) (K κ q h53 (fun a ha => h1 a (by omega)) h2)
    · exfalso
      exact c_101 (show (26 : Int32) ≤ nI i by rw [hms, show i = M from by omega]; exact Int32.le_refl _)
  | succ n ih =>
    intro i κ hi q h53 h1 h2
    have hlt : i < M := by omega
    refine k_iload (pc' := 99) dX11_plan_97 rfl rfl ?_
    refine k_bipush (pc' := 101) (v := 26) dX11_plan_99 rfl (by decide) ?_
    refine k_icmp_ge (pc' := 104) (tg := 197) dX11_plan_101 rfl (by decide) (fun c_101 => ?_) (fun c_101 => ?_)
    · exfalso
      have c9 : (26 : Int32) ≤ nI i := c_101
      rw [hms] at c9
      exact nI_ge hlt (by omega) c9
    · skip
      refine k_aload_n (pc' := 105) dX11_plan_104 rfl rfl ?_
      refine k_iload_n (pc' := 106) dX11_plan_105 rfl rfl ?_
      refine k_iload (pc' := 108) dX11_plan_106 rfl rfl ?_
      refine k_iload (pc' := 110) dX11_plan_108 rfl rfl ?_
      refine k_iconst (pc' := 111) (v := 0) dX11_plan_110 rfl (by decide) ?_
      refine k_callV4 (pc' := 114) dX11_plan_111 rfl ml_RX11_260 rfl rfl ⟨(Nat.le_of_ble_eq_true rfl), (Nat.le_of_ble_eq_true rfl)⟩ (Nat.le_of_ble_eq_true rfl) (ev_wO (tb := tb) (nx := nx) (I := I) (A := i) (D := 0) hN hsz hq hnw q h53 (by omega) (by omega) hI0 hY (fun p hp => by rw [hnx p hp, h2 _ (by omega)])) (fun r_111 h_111 q_111 => ?_)
      obtain ⟨e_111, f_111, t_111, l_111⟩ := q_111
      rw [e_111]
      refine k_lstore (pc' := 116) (k0 := 0) (ls' := [_, _, _, _, _, _, _, _, _, _, _]) dX11_plan_114 rfl (by decide) rfl ?_
      refine k_iconst (pc' := 117) (v := 1) dX11_plan_116 rfl (by decide) ?_
      refine k_istore (pc' := 119) (k0 := 0) (ls' := [_, _, _, _, _, _, _, _, _, _, _]) dX11_plan_117 rfl (by decide) rfl ?_
      refine lp_pD hN hsz hq hnw hI0 hY (a := i) (nx := nx) (lq0 := κ.2) (by omega) (fun p hp => by rw [hnx p hp, h2 _ (by omega)]) (fun κ2 q2 h532 hl2 => ?_) 3 0 h_111 (by omega) f_111 t_111 l_111
      refine k_aload_n (pc' := 177) dX11_plan_176 rfl rfl ?_
      refine k_getR (pc' := 180) fl_RX11_65 dX11_plan_177 rfl rfl rfl ?_
      refine k_bipush (pc' := 182) (v := 26) dX11_plan_180 rfl (by decide) ?_
      refine k_iload (pc' := 184) dX11_plan_182 rfl rfl ?_
      refine k_imul (pc' := 185) dX11_plan_184 rfl ?_
      refine k_iload (pc' := 187) dX11_plan_185 rfl rfl ?_
      refine k_iadd (pc' := 188) dX11_plan_187 rfl ?_
      refine k_lload (pc' := 190) dX11_plan_188 rfl rfl ?_
      rw [k_26b I i]
      refine k_lastN (pc' := 191) dX11_plan_190 rfl rfl (by omega) (by decide) ?_
      refine k_iinc (pc' := 194) (v := nI (_ + 1)) (ls' := [_, _, _, _, _, _, _, _, _, _, _]) dX11_plan_191 rfl rfl (nI_1 _) (by decide) rfl ?_
      refine k_goto (tg := 97) dX11_plan_194 (by decide) ?_
      refine k_wk (by repeat' (first | exact trivial | exact rfl | apply And.intro)) (ih (i + 1) _ (by omega) (frQ_L q2) h532 (fun a ha => ?_) (fun j hj => ?_))
      · show hs κ2.2 62 (vp_updL (κ2.2 62) (26 * I + i) _) 62 (26 * I + a) = _
        rw [hs_self]
        simp only [vp_updL]
        by_cases z : a = i
        · subst z; rw [if_pos rfl]
        · rw [if_neg (by omega), hl2]; exact h1 a (by omega)
      · show hs κ2.2 62 (vp_updL (κ2.2 62) (26 * I + i) _) 62 j = _
        rw [hs_self]
        simp only [vp_updL]
        rw [if_neg (by omega), hl2]; exact h2 j hj

