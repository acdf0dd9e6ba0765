set_option maxHeartbeats 400000 in
set_option maxRecDepth 100000 in
theorem ev_X10_plan_ok {μ : kH} {g GN n NP N Y0 s0 : Nat} (hg0 : g < GN) (hGN : GN ≤ 12) (hgs : μ.1 11 2 = nI GN) (hn1 : 1 ≤ n) (hn : n ≤ 20) (hnw : μ.1 0 10 = nI Y0) (hY : Y0 + n ≤ 40) (hNP : NP ≤ 300) (hps : μ.1 3 4 = nI NP) (hN : N ≤ 20) (hts : μ.1 16 4 = nI N) (hag : μ.1 13 g + 1 = nI s0) (hs0 : s0 < 26) : Ev kX10_plan [kr 0, ki (nI g), ki (nI n)] μ (fun r h' => r = kl (vX (gP μ NP N (μ.1 12 g) Y0) (μ.1 12 g * μ.1 1 2).toInt64 n n s0) ∧ frP n μ h' ∧ ∀ j, j < n → h'.1 31 j = cX (gP μ NP N (μ.1 12 g) Y0) (μ.1 12 g * μ.1 1 2).toInt64 n j (sqP (gP μ NP N (μ.1 12 g) Y0) (μ.1 12 g * μ.1 1 2).toInt64 n s0 j)) := by
  have eG : (μ.1 11 2).toInt = GN := by rw [hgs, nI_toInt (by omega)]
  have eg := nI_toInt (n := g) (by omega)
  have en := nI_toInt (n := n) (by omega)
  have eY : (μ.1 0 10).toInt = Y0 := by rw [hnw, nI_toInt (by omega)]
  have eS : (μ.1 0 10 + nI n).toInt = Y0 + n := by rw [k_add (by rw [eY, en]; omega), eY, en]
  have eT : (μ.1 0 10 + nI n - 1).toInt = Y0 + n - 1 := by rw [k_sub (by rw [eS, li_1]; omega), eS, li_1]
  refine k_ev (ls := [_, _, _]) (by decide) (Nat.le_of_ble_eq_true rfl) rfl ?_
  refine k_aload_n (pc' := 1) dX10_plan_0 rfl rfl ?_
  refine k_getR (pc' := 4) fl_RX10_35 dX10_plan_1 rfl rfl rfl ?_
  refine k_iload_n (pc' := 5) dX10_plan_4 rfl rfl ?_
  refine k_callV1 (pc' := 8) dX10_plan_5 rfl ml_RX10_133 rfl rfl ⟨(Nat.le_of_ble_eq_true rfl), (Nat.le_of_ble_eq_true rfl)⟩ (Nat.le_of_ble_eq_true rfl) (ev_X1_has2 (by rw [eG]; omega)) (fun r_5 h_5 q_5 => ?_)
  obtain ⟨e_5, g_5⟩ := q_5
  rw [e_5, g_5]
  refine k_if_eq (pc' := 11) (tg := 34) dX10_plan_8 rfl (by decide) (fun c_8 => ?_) (fun c_8 => ?_)
  · exfalso
    clear hag; (try simp only [eq_self, not_true_eq_false, not_false_eq_true, k_b0, k_b1, k_c0, k_cl, k_cg, k_cle, k_cge] at *) <;> (try simp only [eG, eg, en, eY, eS, eT, eq_self, not_true_eq_false, not_false_eq_true, k_le, k_lt, k_eq, k_leL, k_ltL, k_eqL, k_il, li_m6, li_m5, li_m3, li_m2, li_m1, li_0, li_1, li_2, li_3, li_4, li_5, li_6, li_7, li_8, li_10, li_11, li_12, li_20, li_24, li_25, li_26, li_32, li_39, li_40, li_48, li_57, li_59, li_60, li_96, li_97, li_100, li_122, li_180, li_200, li_255, li_300, li_468, li_480, li_500, li_1000, li_2000, li_10000, li_10001, li_100000, li_1000000, li_100000000, lj_m1, lj_0, lj_1, lj_2, lj_3, lj_24, lj_39, lj_100, lj_500, lj_1000, lj_2000, lj_10000, lj_100000, lj_1000000, lj_100000000, lj_10, lj_20, lj_12, lj_32, lj_96] at *) <;> omega
  · skip
    refine k_iload_n (pc' := 12) dX10_plan_11 rfl rfl ?_
    refine k_iconst (pc' := 13) (v := 1) dX10_plan_12 rfl (by decide) ?_
    refine k_bipush (pc' := 15) (v := 20) dX10_plan_13 rfl (by decide) ?_
    refine k_callS3 (pc' := 18) dX10_plan_15 rfl ml_RX10_85 ⟨(Nat.le_of_ble_eq_true rfl), (Nat.le_of_ble_eq_true rfl)⟩ (Nat.le_of_ble_eq_true rfl) ev_X10_within (fun r_15 h_15 q_15 => ?_)
    obtain ⟨e_15, g_15⟩ := q_15
    rw [e_15, g_15]
    refine k_if_eq (pc' := 21) (tg := 34) dX10_plan_18 rfl (by decide) (fun c_18 => ?_) (fun c_18 => ?_)
    · exfalso
      clear hag; (try simp only [eq_self, not_true_eq_false, not_false_eq_true, k_b0, k_b1, k_c0, k_cl, k_cg, k_cle, k_cge] at *) <;> (try simp only [eG, eg, en, eY, eS, eT, eq_self, not_true_eq_false, not_false_eq_true, k_le, k_lt, k_eq, k_leL, k_ltL, k_eqL, k_il, li_m6, li_m5, li_m3, li_m2, li_m1, li_0, li_1, li_2, li_3, li_4, li_5, li_6, li_7, li_8, li_10, li_11, li_12, li_20, li_24, li_25, li_26, li_32, li_39, li_40, li_48, li_57, li_59, li_60, li_96, li_97, li_100, li_122, li_180, li_200, li_255, li_300, li_468, li_480, li_500, li_1000, li_2000, li_10000, li_10001, li_100000, li_1000000, li_100000000, lj_m1, lj_0, lj_1, lj_2, lj_3, lj_24, lj_39, lj_100, lj_500, lj_1000, lj_2000, lj_10000, lj_100000, lj_1000000, lj_100000000, lj_10, lj_20, lj_12, lj_32, lj_96] at *) <;> omega
    · skip
      refine k_aload_n (pc' := 22) dX10_plan_21 rfl rfl ?_
      refine k_getI (pc' := 25) fl_RX10_197 dX10_plan_22 rfl rfl rfl ?_
      refine k_iload_n (pc' := 26) dX10_plan_25 rfl rfl ?_
      refine k_iadd (pc' := 27) dX10_plan_26 rfl ?_
      refine k_iconst (pc' := 28) (v := 1) dX10_plan_27 rfl (by decide) ?_
      refine k_isub (pc' := 29) dX10_plan_28 rfl ?_
      refine k_bipush (pc' := 31) (v := 39) dX10_plan_29 rfl (by decide) ?_
      refine k_icmp_le (pc' := 34) (tg := 38) dX10_plan_31 rfl (by decide) (fun c_31 => ?_) (fun c_31 => ?_)
      · skip
        refine k_aload_n (pc' := 39) dX10_plan_38 rfl rfl ?_
        refine k_getR (pc' := 42) fl_RX10_67 dX10_plan_39 rfl rfl rfl ?_
        refine k_aload_n (pc' := 43) dX10_plan_42 rfl rfl ?_
        refine k_getR (pc' := 46) fl_RX10_35 dX10_plan_43 rfl rfl rfl ?_
        refine k_getR (pc' := 49) fl_RX10_136 dX10_plan_46 rfl rfl rfl ?_
        refine k_iload_n (pc' := 50) dX10_plan_49 rfl rfl ?_
        refine k_ialdN (pc' := 51) dX10_plan_50 rfl rfl (by omega) (by decide) ?_
        refine k_aload_n (pc' := 52) dX10_plan_51 rfl rfl ?_
        refine k_getR (pc' := 55) fl_RX10_35 dX10_plan_52 rfl rfl rfl ?_
        refine k_getR (pc' := 58) fl_RX10_139 dX10_plan_55 rfl rfl rfl ?_
        refine k_iload_n (pc' := 59) dX10_plan_58 rfl rfl ?_
        refine k_ialdN (pc' := 60) dX10_plan_59 rfl rfl (by omega) (by decide) ?_
        refine k_aload_n (pc' := 61) dX10_plan_60 rfl rfl ?_
        refine k_getI (pc' := 64) fl_RX10_197 dX10_plan_61 rfl rfl rfl ?_
        refine k_iload_n (pc' := 65) dX10_plan_64 rfl rfl ?_
        rw [hnw]
        refine k_callV4 (pc' := 68) dX10_plan_65 rfl ml_RX10_202 rfl rfl ⟨(Nat.le_of_ble_eq_true rfl), (Nat.le_of_ble_eq_true rfl)⟩ (Nat.le_of_ble_eq_true rfl) (ev_X5_make hn1 hn hNP hps hN hts hag hs0) (fun r_65 h_65 q_65 => ?_)
        obtain ⟨e_65, f_65⟩ := q_65
        rw [e_65]
        exact k_lret dX10_plan_68 rfl ⟨rfl, f_65⟩
      · exfalso
        clear hag; (try simp only [eq_self, not_true_eq_false, not_false_eq_true, k_b0, k_b1, k_c0, k_cl, k_cg, k_cle, k_cge] at *) <;> (try simp only [eG, eg, en, eY, eS, eT, eq_self, not_true_eq_false, not_false_eq_true, k_le, k_lt, k_eq, k_leL, k_ltL, k_eqL, k_il, li_m6, li_m5, li_m3, li_m2, li_m1, li_0, li_1, li_2, li_3, li_4, li_5, li_6, li_7, li_8, li_10, li_11, li_12, li_20, li_24, li_25, li_26, li_32, li_39, li_40, li_48, li_57, li_59, li_60, li_96, li_97, li_100, li_122, li_180, li_200, li_255, li_300, li_468, li_480, li_500, li_1000, li_2000, li_10000, li_10001, li_100000, li_1000000, li_100000000, lj_m1, lj_0, lj_1, lj_2, lj_3, lj_24, lj_39, lj_100, lj_500, lj_1000, lj_2000, lj_10000, lj_100000, lj_1000000, lj_100000000, lj_10, lj_20, lj_12, lj_32, lj_96] at *) <;> omega

set_option maxHeartbeats 400000 in
set_option maxRecDepth 100000 in
theorem ev_X10_plan_bad {g n : Int32} {μ : kH} (hg : 0 ≤ (μ.1 11 2).toInt) (hnw : 0 ≤ (μ.1 0 10).toInt ∧ (μ.1 0 10).toInt ≤ 39) (hb : ¬ ((0 ≤ g.toInt ∧ g.toInt < (μ.1 11 2).toInt) ∧ (1 ≤ n.toInt ∧ n.toInt ≤ 20) ∧ (μ.1 0 10).toInt + n.toInt ≤ 40)) : Ev kX10_plan [kr 0, ki g, ki n] μ (fun r h' => r = kl (-4000000000000000000) ∧ h' = μ) := by
  refine k_ev (ls := [_, _, _]) (by decide) (Nat.le_of_ble_eq_true rfl) rfl ?_
  refine k_aload_n (pc' := 1) dX10_plan_0 rfl rfl ?_
  refine k_getR (pc' := 4) fl_RX10_35 dX10_plan_1 rfl rfl rfl ?_
  refine k_iload_n (pc' := 5) dX10_plan_4 rfl rfl ?_
  refine k_callV1 (pc' := 8) dX10_plan_5 rfl ml_RX10_133 rfl rfl ⟨(Nat.le_of_ble_eq_true rfl), (Nat.le_of_ble_eq_true rfl)⟩ (Nat.le_of_ble_eq_true rfl) (ev_X1_has2 hg) (fun r_5 h_5 q_5 => ?_)
  obtain ⟨e_5, g_5⟩ := q_5
  rw [e_5, g_5]
  refine k_if_eq (pc' := 11) (tg := 34) dX10_plan_8 rfl (by decide) (fun c_8 => ?_) (fun c_8 => ?_)
  · skip
    refine k_ldc2 (pc' := 37) dX10_plan_34 rfl kc_RX10_200 ?_
    exact k_lret dX10_plan_37 rfl ⟨rfl, rfl⟩
  · skip
    refine k_iload_n (pc' := 12) dX10_plan_11 rfl rfl ?_
    refine k_iconst (pc' := 13) (v := 1) dX10_plan_12 rfl (by decide) ?_
    refine k_bipush (pc' := 15) (v := 20) dX10_plan_13 rfl (by decide) ?_
    refine k_callS3 (pc' := 18) dX10_plan_15 rfl ml_RX10_85 ⟨(Nat.le_of_ble_eq_true rfl), (Nat.le_of_ble_eq_true rfl)⟩ (Nat.le_of_ble_eq_true rfl) ev_X10_within (fun r_15 h_15 q_15 => ?_)
    obtain ⟨e_15, g_15⟩ := q_15
    rw [e_15, g_15]
    refine k_if_eq (pc' := 21) (tg := 34) dX10_plan_18 rfl (by decide) (fun c_18 => ?_) (fun c_18 => ?_)
    · skip
      refine k_ldc2 (pc' := 37) dX10_plan_34 rfl kc_RX10_200 ?_
      exact k_lret dX10_plan_37 rfl ⟨rfl, rfl⟩
    · skip
      refine k_aload_n (pc' := 22) dX10_plan_21 rfl rfl ?_
      refine k_getI (pc' := 25) fl_RX10_197 dX10_plan_22 rfl rfl rfl ?_
      refine k_iload_n (pc' := 26) dX10_plan_25 rfl rfl ?_
      refine k_iadd (pc' := 27) dX10_plan_26 rfl ?_
      refine k_iconst (pc' := 28) (v := 1) dX10_plan_27 rfl (by decide) ?_
      refine k_isub (pc' := 29) dX10_plan_28 rfl ?_
      refine k_bipush (pc' := 31) (v := 39) dX10_plan_29 rfl (by decide) ?_
      refine k_icmp_le (pc' := 34) (tg := 38) dX10_plan_31 rfl (by decide) (fun c_31 => ?_) (fun c_31 => ?_)
      · exfalso
        have b1 : 1 ≤ n.toInt ∧ n.toInt ≤ 20 := (by clear hb; (try simp only [eq_self, not_true_eq_false, not_false_eq_true, k_b0, k_b1, k_c0, k_cl, k_cg, k_cle, k_cge] at *) <;> (try simp only [eq_self, not_true_eq_false, not_false_eq_true, k_le, k_lt, k_eq, k_leL, k_ltL, k_eqL, k_il, li_m6, li_m5, li_m3, li_m2, li_m1, li_0, li_1, li_2, li_3, li_4, li_5, li_6, li_7, li_8, li_10, li_11, li_12, li_20, li_24, li_25, li_26, li_32, li_39, li_40, li_48, li_57, li_59, li_60, li_96, li_97, li_100, li_122, li_180, li_200, li_255, li_300, li_468, li_480, li_500, li_1000, li_2000, li_10000, li_10001, li_100000, li_1000000, li_100000000, lj_m1, lj_0, lj_1, lj_2, lj_3, lj_24, lj_39, lj_100, lj_500, lj_1000, lj_2000, lj_10000, lj_100000, lj_1000000, lj_100000000, lj_10, lj_20, lj_12, lj_32, lj_96] at *) <;> omega)
        have e8 : (μ.1 0 10 + n).toInt = (μ.1 0 10).toInt + n.toInt := by rw [k_add (by omega)]
        have e9 : (μ.1 0 10 + n - 1).toInt = (μ.1 0 10).toInt + n.toInt - 1 := by rw [k_sub (by rw [e8, li_1]; omega), e8, li_1]
        (try simp only [eq_self, not_true_eq_false, not_false_eq_true, k_b0, k_b1, k_c0, k_cl, k_cg, k_cle, k_cge] at *) <;> (try simp only [e9, eq_self, not_true_eq_false, not_false_eq_true, k_le, k_lt, k_eq, k_leL, k_ltL, k_eqL, k_il, li_m6, li_m5, li_m3, li_m2, li_m1, li_0, li_1, li_2, li_3, li_4, li_5, li_6, li_7, li_8, li_10, li_11, li_12, li_20, li_24, li_25, li_26, li_32, li_39, li_40, li_48, li_57, li_59, li_60, li_96, li_97, li_100, li_122, li_180, li_200, li_255, li_300, li_468, li_480, li_500, li_1000, li_2000, li_10000, li_10001, li_100000, li_1000000, li_100000000, lj_m1, lj_0, lj_1, lj_2, lj_3, lj_24, lj_39, lj_100, lj_500, lj_1000, lj_2000, lj_10000, lj_100000, lj_1000000, lj_100000000, lj_10, lj_20, lj_12, lj_32, lj_96] at *) <;> omega
      · skip
        refine k_ldc2 (pc' := 37) dX10_plan_34 rfl kc_RX10_200 ?_
        exact k_lret dX10_plan_37 rfl ⟨rfl, rfl⟩

/-- from an age by a deed on: I the year, nx what the years after it bring -/
def wP (μ : kH) (tb : Nat → Int32) (N Y0 : Nat) (v : Int32) (I : Nat) (nx : Nat → Int64) (A D : Nat) : Int64 := gM μ tb N v (nI (agN A D)) (Y0 + I) - (if 1 < D then (μ.1 46 6).toInt64 * v.toInt64 else 0) + nx (olN (agN A D))
def canN (A D : Nat) : Prop := D = 0 ∨ (D = 2 ∧ A = 25) ∨ (¬ D = 0 ∧ ¬ D = 2 ∧ ¬ A = 25)
theorem canN_dec (A D : Nat) : canN A D ∨ ¬ canN A D := Classical.em _
theorem k_canN {A D : Nat} (hA : A ≤ 25) (hD : D < 4) : ((if nI D = 0 then (1 : Int32) else if nI D = 2 then (if nI A = 25 then 1 else 0) else if nI A = 25 then 0 else 1) = 0) ↔ ¬ canN A D := by
  have e1 : (nI A = 25) ↔ A = 25 := nI_eq (b := 25) (by omega) (by decide)
  have e2 : (nI D = 0) ↔ D = 0 := nI_eq (b := 0) (by omega) (by decide)
  have e3 : (nI D = 2) ↔ D = 2 := nI_eq (b := 2) (by omega) (by decide)
  simp only [e1, e2, e3]
  unfold canN
  (repeat' split) <;> simp_all
noncomputable def mxM (A : Nat) (w : Nat → Int64) : Nat → Int64
  | 0 => w 0
  | d + 1 => @ite _ (canN A (d + 1) ∧ mxM A w d < w (d + 1)) (Classical.propDecidable _) (w (d + 1)) (mxM A w d)
theorem mxM_T {A : Nat} {w : Nat → Int64} {d : Nat} (h1 : canN A (d + 1)) (h2 : mxM A w d < w (d + 1)) : mxM A w (d + 1) = w (d + 1) := by rw [mxM]; exact @if_pos _ _ ⟨h1, h2⟩ _ _ _
theorem mxM_F {A : Nat} {w : Nat → Int64} {d : Nat} (h : ¬ (canN A (d + 1) ∧ mxM A w d < w (d + 1))) : mxM A w (d + 1) = mxM A w d := by rw [mxM]; exact @if_neg _ _ h _ _ _
theorem mxM_at {A : Nat} {w : Nat → Int64} : ∀ d, ∃ e, e ≤ d ∧ canN A e ∧ w e = mxM A w d := by
  intro d
  induction d with
  | zero => exact ⟨0, Nat.le_refl _, Or.inl rfl, rfl⟩
  | succ d ih =>
    by_cases z : canN A (d + 1) ∧ mxM A w d < w (d + 1)
    · exact ⟨d + 1, Nat.le_refl _, z.1, (mxM_T z.1 z.2).symm⟩
    · obtain ⟨e, h1, h2, h3⟩ := ih
      exact ⟨e, by omega, h2, by rw [h3, mxM_F z]⟩
/-- what the years from the last j on bring, by age -/
noncomputable def uM (μ : kH) (tb : Nat → Int32) (N Y0 : Nat) (v : Int32) (n : Nat) : Nat → Nat → Int64
  | 0 => fun _ => 0
  | j + 1 => fun a => mxM a (wP μ tb N Y0 v (n - 1 - j) (uM μ tb N Y0 v n j) a) 3
/-- the reference's frame while it plans -/
def frQ (μ κ : kH) : Prop := (∀ k, k ∉ [53, 63] → k ≠ 46 → κ.1 k = μ.1 k) ∧ (∀ j, j ∉ [16, 17, 18, 36] → κ.1 46 j = μ.1 46 j) ∧ ∀ r, r ≠ 62 → κ.2 r = μ.2 r
theorem gM_congr {μ ν : kH} {tb : Nat → Int32} {N Y : Nat} {v a : Int32} (h47 : ν.1 47 = μ.1 47) (h48 : ν.1 48 = μ.1 48) (h56 : ν.1 56 = μ.1 56) (h57 : ν.1 57 = μ.1 57) (h58 : ν.1 58 = μ.1 58) (h59 : ν.1 59 = μ.1 59) (h5 : ν.1 46 5 = μ.1 46 5) : gM ν tb N v a Y = gM μ tb N v a Y := by
  unfold gM
  rw [h47, h48, h56, h57, h58, h59, h5]
theorem wM_wP {μ κ : kH} {tb : Nat → Int32} {ah : Nat → Int64} {N Y0 : Nat} {v : Int32} {I A D : Nat} {nx : Nat → Int64} (q : frQ μ κ) (hnx : nx (olN (agN A D)) = ah (26 * I + 26 + olN (agN A D))) : wM κ tb ah N Y0 v I A D = wP μ tb N Y0 v I nx A D := by
  unfold wM wP
  rw [gM_congr (q.1 47 (by decide) (by decide)) (q.1 48 (by decide) (by decide)) (q.1 56 (by decide) (by decide)) (q.1 57 (by decide) (by decide)) (q.1 58 (by decide) (by decide)) (q.1 59 (by decide) (by decide)) (q.2.1 5 (by decide)), q.2.1 6 (by decide), hnx]

