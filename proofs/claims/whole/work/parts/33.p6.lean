theorem ev_wO2 {v : Int32} {ν κ : kH} {tb : Nat → Int32} {nx : Nat → Int64} {N Y0 I A D : Nat} (hN : N ≤ 20) (hsz : ν.1 46 19 = nI N) (hq : ∀ j, j < N → (ν.1 56 j = 0 → 1 ≤ ν.1 58 j) ∧ (ν.1 56 j = 1 → 1 ≤ ν.1 57 j)) (hnw : ν.1 46 2 = nI Y0) (q : frQ ν κ) (htb : κ.1 53 = tb) (hA : A ≤ 25) (hD : D < 4) (hI0 : I < 20) (hY : Y0 + I < 40) (hnx : ∀ p, p ≤ 25 → nx p = κ.2 62 (26 * I + 26 + p)) : Ev kX11_worthOf [kr 46, ki v, ki (nI I), ki (nI A), ki (nI D)] κ (fun r h' => r = kl (wP ν tb N Y0 v I nx A D) ∧ frQ ν h' ∧ h'.1 53 = tb ∧ h'.2 = κ.2 ∧ h'.1 63 = κ.1 63) := by
  refine k_evm (ev_X11_worthOf hA hD hI0 hY ((q.2.1 2 (by decide)).trans hnw) hN ((q.2.1 19 (by decide)).trans hsz) (fun j hj => by rw [q.1 56 (by decide) (by decide), q.1 57 (by decide) (by decide), q.1 58 (by decide) (by decide)]; exact hq j hj)) (fun r h' z => ?_)
  obtain ⟨z1, z2⟩ := z
  refine ⟨?_, frQ_2 q z2, ?_, z2.2.2, z2.1 63 (by simp) (by decide)⟩
  · rw [z1, htb, wM_wP q (hnx _ (olN_le (agN_le hA)))]
  · rw [z2.1 53 (by simp) (by decide), htb]

set_option maxHeartbeats 400000 in
set_option maxRecDepth 100000 in
theorem lp_pI {v x1 : Int32} {ν : kH} {tb : Nat → Int32} {N Y0 n : Nat} (hN : N ≤ 20) (hsz : ν.1 46 19 = nI N) (hq : ∀ j, j < N → (ν.1 56 j = 0 → 1 ≤ ν.1 58 j) ∧ (ν.1 56 j = 1 → 1 ≤ ν.1 57 j)) (hnw : ν.1 46 2 = nI Y0) (hn : n ≤ 20) (hY : Y0 + n ≤ 40) {Φ : Nat → List kV → List kV → kH → Prop} (K : ∀ κ : kH, frQ ν κ → κ.1 53 = tb → (∀ i, i ≤ n → ∀ a, a < 26 → κ.2 62 (26 * i + a) = uM ν tb N Y0 v n (n - i) a) → At kX11_plan 203 [kr 46, ki x1, ki (nI n), ki v, ku, ku, ku, ku, ku, ku, ku] [] κ Φ) : ∀ (k : Nat) (κ : kH), k ≤ n → frQ ν κ → κ.1 53 = tb → (∀ i, k ≤ i → i ≤ n → ∀ a, a < 26 → κ.2 62 (26 * i + a) = uM ν tb N Y0 v n (n - i) a) → At kX11_plan 89 [kr 46, ki x1, ki (nI n), ki v, ki (nI k - 1), ku, ku, ku, ku, ku, ku] [] κ Φ := by
  intro k
  induction k with
  | zero =>
    intro κ hk q h53 hu
    refine k_iload (pc' := 91) dX11_plan_89 rfl rfl ?_
    refine k_if_lt (pc' := 94) (tg := 203) dX11_plan_91 rfl (by decide) (fun c_91 => ?_) (fun c_91 => ?_)
    · skip
      exact k_wk (by repeat' (first | exact trivial | exact rfl | apply And.intro)) (K κ q h53 (fun i hi => hu i (by omega) hi))
    · exfalso
      exact c_91 (by decide)
  | succ k ih =>
    intro κ hk q h53 hu
    rw [nI_pred]
    refine k_iload (pc' := 91) dX11_plan_89 rfl rfl ?_
    refine k_if_lt (pc' := 94) (tg := 203) dX11_plan_91 rfl (by decide) (fun c_91 => ?_) (fun c_91 => ?_)
    · exfalso
      exact nI_pos (n := k) (by omega) c_91
    · skip
      refine k_iconst (pc' := 95) (v := 0) dX11_plan_94 rfl (by decide) ?_
      refine k_istore (pc' := 97) (k0 := 0) (ls' := [_, _, _, _, _, _, _, _, _, _, _]) dX11_plan_95 rfl (by decide) rfl ?_
      refine lp_pA hN hsz hq hnw (I := k) (by omega) (by omega) (M := 26) (nx := uM ν tb N Y0 v n (n - 1 - k)) (ah := κ.2 62) rfl rfl (fun p hp => by
        have e := hu (k + 1) (by omega) (by omega) p (by omega)
        rw [show 26 * (k + 1) + p = 26 * k + 26 + p by omega, show n - (k + 1) = n - 1 - k by omega] at e
        exact e.symm) (fun κ2 q2 h532 h1 h2 => ?_) 26 0 κ (by omega) q h53 (fun a ha => absurd ha (by omega)) (fun j hj => rfl)
      refine k_iinc (pc' := 200) (v := nI k - 1) (ls' := [_, _, _, _, _, _, _, _, _, _, _]) dX11_plan_197 rfl rfl (k_dn k) (by decide) rfl ?_
      refine k_goto (tg := 89) dX11_plan_200 (by decide) ?_
      refine k_wk (by repeat' (first | exact trivial | exact rfl | apply And.intro)) (ih κ2 (by omega) q2 h532 (fun i hi1 hi2 a ha => ?_))
      by_cases z : i = k
      · subst z
        rw [h1 a ha, show n - i = n - 1 - i + 1 by omega]
        show _ = mxM a (wP ν tb N Y0 v (n - 1 - (n - 1 - i)) (uM ν tb N Y0 v n (n - 1 - i)) a) 3
        rw [show n - 1 - (n - 1 - i) = i by omega]
      · rw [h2 _ (by omega)]
        exact hu i (by omega) hi2 a ha

set_option maxHeartbeats 400000 in
set_option maxRecDepth 100000 in
theorem lp_pZ {v x1 : Int32} {ν : kH} {tb : Nat → Int32} {n M : Nat} {Φ : Nat → List kV → List kV → kH → Prop} (hn : n ≤ 20) (hM : M = 26) (hms : (26 : Int32) = nI M) (K : ∀ κ : kH, frQ ν κ → κ.1 53 = tb → (∀ a, a < 26 → κ.2 62 (26 * n + a) = 0) → At kX11_plan 84 [kr 46, ki x1, ki (nI n), ki v, ku, ku, ku, ku, ku, ku, ku] [] κ Φ) : ∀ (m i : Nat) (κ : kH), i + m = M → frQ ν κ → κ.1 53 = tb → (∀ a, a < i → κ.2 62 (26 * n + a) = 0) → At kX11_plan 58 [kr 46, ki x1, ki (nI n), ki v, ki (nI i), ku, ku, ku, ku, ku, ku] [] κ Φ := by
  intro m
  induction m with
  | zero =>
    intro i κ hi q h53 h1
    refine k_iload (pc' := 60) dX11_plan_58 rfl rfl ?_
    refine k_bipush (pc' := 62) (v := 26) dX11_plan_60 rfl (by decide) ?_
    refine k_icmp_ge (pc' := 65) (tg := 84) dX11_plan_62 rfl (by decide) (fun c_62 => ?_) (fun c_62 => ?_)
    · skip
      exact k_wk (by repeat' (first | exact trivial | exact rfl | apply And.intro)) (K κ q h53 (fun a ha => h1 a (by omega)))
    · exfalso
      exact c_62 (show (26 : Int32) ≤ nI i by rw [hms, show i = M from by omega]; exact Int32.le_refl _)
  | succ m ih =>
    intro i κ hi q h53 h1
    have hlt : i < M := by omega
    refine k_iload (pc' := 60) dX11_plan_58 rfl rfl ?_
    refine k_bipush (pc' := 62) (v := 26) dX11_plan_60 rfl (by decide) ?_
    refine k_icmp_ge (pc' := 65) (tg := 84) dX11_plan_62 rfl (by decide) (fun c_62 => ?_) (fun c_62 => ?_)
    · exfalso
      have c9 : (26 : Int32) ≤ nI i := c_62
      rw [hms] at c9
      exact nI_ge hlt (by omega) c9
    · skip
      refine k_aload_n (pc' := 66) dX11_plan_65 rfl rfl ?_
      refine k_getR (pc' := 69) fl_RX11_65 dX11_plan_66 rfl rfl rfl ?_
      refine k_bipush (pc' := 71) (v := 26) dX11_plan_69 rfl (by decide) ?_
      refine k_iload_n (pc' := 72) dX11_plan_71 rfl rfl ?_
      refine k_imul (pc' := 73) dX11_plan_72 rfl ?_
      refine k_iload (pc' := 75) dX11_plan_73 rfl rfl ?_
      refine k_iadd (pc' := 76) dX11_plan_75 rfl ?_
      rw [k_26b n i]
      refine k_lconst (pc' := 77) (v := 0) dX11_plan_76 rfl (by decide) ?_
      refine k_lastN (pc' := 78) dX11_plan_77 rfl rfl (by omega) (by decide) ?_
      refine k_iinc (pc' := 81) (v := nI (_ + 1)) (ls' := [_, _, _, _, _, _, _, _, _, _, _]) dX11_plan_78 rfl rfl (nI_1 _) (by decide) rfl ?_
      refine k_goto (tg := 58) dX11_plan_81 (by decide) ?_
      refine ih (i + 1) _ (by omega) (frQ_L q) h53 (fun a ha => ?_)
      show hs κ.2 62 (vp_updL (κ.2 62) (26 * n + i) _) 62 (26 * n + a) = _
      rw [hs_self]
      simp only [vp_updL]
      by_cases z : a = i
      · subst z; rw [if_pos rfl]
      · rw [if_neg (by omega)]; exact h1 a (by omega)

def isFst (A : Nat) (w : Nat → Int64) (d : Nat) : Prop := d < 4 ∧ canN A d ∧ w d = mxM A w 3 ∧ ∀ e, e < d → ¬ (canN A e ∧ w e = mxM A w 3)

set_option maxHeartbeats 400000 in
set_option maxRecDepth 100000 in
theorem lp_pS {v x1 x2 : Int32} {al : Int64} {ν : kH} {tb rw0 : Nat → Int32} {N Y0 I A : Nat} (hN : N ≤ 20) (hsz : ν.1 46 19 = nI N) (hq : ∀ j, j < N → (ν.1 56 j = 0 → 1 ≤ ν.1 58 j) ∧ (ν.1 56 j = 1 → 1 ≤ ν.1 57 j)) (hnw : ν.1 46 2 = nI Y0) (hI0 : I < 20) (hY : Y0 + I < 40) (hA : A ≤ 25) {nx : Nat → Int64} {lq0 : Nat → Nat → Int64} {Φ : Nat → List kV → List kV → kH → Prop} (hnx : ∀ p, p ≤ 25 → nx p = lq0 62 (26 * I + 26 + p)) (hm : lq0 62 (26 * I + A) = mxM A (wP ν tb N Y0 v I nx A) 3) (K : ∀ (κ : kH) (d : Nat), frQ ν κ → κ.1 53 = tb → κ.2 = lq0 → κ.1 63 = rw0 → isFst A (wP ν tb N Y0 v I nx A) d → At kX11_plan 291 [kr 46, ki x1, ki x2, ki v, ki (nI A), kl al, ku, ki (nI I), ki (nI d), ku, ku] [] κ Φ) : ∀ (n d : Nat) (κ : kH), d + n = 4 → frQ ν κ → κ.1 53 = tb → κ.2 = lq0 → κ.1 63 = rw0 → (∀ e, e < d → ¬ (canN A e ∧ (wP ν tb N Y0 v I nx A) e = mxM A (wP ν tb N Y0 v I nx A) 3)) → At kX11_plan 247 [kr 46, ki x1, ki x2, ki v, ki (nI A), kl al, ku, ki (nI I), ki (nI d), ku, ku] [] κ Φ := by
  intro n
  induction n with
  | zero =>
    intro d κ hd q h53 hl h63 hf
    exfalso
    obtain ⟨e, e1, e2, e3⟩ := mxM_at (A := A) (w := (wP ν tb N Y0 v I nx A)) 3
    exact hf e (by omega) ⟨e2, e3⟩
  | succ n ih =>
    intro d κ hd q h53 hl h63 hf
    refine k_iload (pc' := 249) dX11_plan_247 rfl rfl ?_
    refine k_iload (pc' := 251) dX11_plan_249 rfl rfl ?_
    refine k_callS2 (pc' := 254) dX11_plan_251 rfl ml_RX11_264 ⟨(Nat.le_of_ble_eq_true rfl), (Nat.le_of_ble_eq_true rfl)⟩ (Nat.le_of_ble_eq_true rfl) ev_X11_canDo (fun r_251 h_251 q_251 => ?_)
    obtain ⟨e_251, g_251⟩ := q_251
    rw [e_251, g_251]
    refine k_if_eq (pc' := 257) (tg := 285) dX11_plan_254 rfl (by decide) (fun c_254 => ?_) (fun c_254 => ?_)
    · skip
      have hc : ¬ canN A d := (k_canN hA (by omega)).mp c_254
      refine k_iinc (pc' := 288) (v := nI (_ + 1)) (ls' := [_, _, _, _, _, _, _, _, _, _, _]) dX11_plan_285 rfl rfl (nI_1 _) (by decide) rfl ?_
      refine k_goto (tg := 247) dX11_plan_288 (by decide) ?_
      exact ih (d + 1) κ (by omega) q h53 hl h63 (fun e he => by
        by_cases z : e = d
        · subst z; exact fun z2 => hc z2.1
        · exact hf e (by omega))
    · skip
      have hc : canN A d := Classical.byContradiction (fun z => c_254 ((k_canN hA (by omega)).mpr z))
      refine k_aload_n (pc' := 258) dX11_plan_257 rfl rfl ?_
      refine k_iload_n (pc' := 259) dX11_plan_258 rfl rfl ?_
      refine k_iload (pc' := 261) dX11_plan_259 rfl rfl ?_
      refine k_iload (pc' := 263) dX11_plan_261 rfl rfl ?_
      refine k_iload (pc' := 265) dX11_plan_263 rfl rfl ?_
      refine k_callV4 (pc' := 268) dX11_plan_265 rfl ml_RX11_260 rfl rfl ⟨(Nat.le_of_ble_eq_true rfl), (Nat.le_of_ble_eq_true rfl)⟩ (Nat.le_of_ble_eq_true rfl) (ev_wO2 (tb := tb) (nx := nx) (I := I) (A := A) (D := d) hN hsz hq hnw q h53 hA (by omega) hI0 hY (by rw [hl]; exact hnx)) (fun r_265 h_265 q_265 => ?_)
      obtain ⟨e_265, f_265, t_265, l_265, m_265⟩ := q_265
      rw [e_265]
      refine k_aload_n (pc' := 269) dX11_plan_268 rfl rfl ?_
      refine k_getR (pc' := 272) fl_RX11_65 dX11_plan_269 rfl rfl rfl ?_
      refine k_bipush (pc' := 274) (v := 26) dX11_plan_272 rfl (by decide) ?_
      refine k_iload (pc' := 276) dX11_plan_274 rfl rfl ?_
      refine k_imul (pc' := 277) dX11_plan_276 rfl ?_
      refine k_iload (pc' := 279) dX11_plan_277 rfl rfl ?_
      refine k_iadd (pc' := 280) dX11_plan_279 rfl ?_
      rw [k_26b I A]
      refine k_laldN (pc' := 281) dX11_plan_280 rfl rfl (by omega) (by decide) ?_
      rw [l_265, hl, hm]
      refine k_lcmp (pc' := 282) dX11_plan_281 rfl ?_
      refine k_if_eq (pc' := 285) (tg := 291) dX11_plan_282 rfl (by decide) (fun c_282 => ?_) (fun c_282 => ?_)
      · skip
        have hw := k_c0.mp c_282
        exact k_wk (by repeat' (first | exact trivial | exact rfl | apply And.intro)) (K h_265 d f_265 t_265 (by rw [l_265]; exact hl) (by rw [m_265]; exact h63) ⟨by omega, hc, hw, hf⟩)
      · skip
        have hw : ¬ wP ν tb N Y0 v I nx A d = mxM A (wP ν tb N Y0 v I nx A) 3 := fun z => c_282 (k_c0.mpr z)
        refine k_iinc (pc' := 288) (v := nI (_ + 1)) (ls' := [_, _, _, _, _, _, _, _, _, _, _]) dX11_plan_285 rfl rfl (nI_1 _) (by decide) rfl ?_
        refine k_goto (tg := 247) dX11_plan_288 (by decide) ?_
        exact ih (d + 1) h_265 (by omega) f_265 t_265 (by rw [l_265]; exact hl) (by rw [m_265]; exact h63) (fun e he => by
          by_cases z : e = d
          · subst z; exact fun z2 => hw z2.2
          · exact hf e (by omega))

