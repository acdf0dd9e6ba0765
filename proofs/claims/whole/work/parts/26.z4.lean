theorem fCh_congr {ra pr pr' : Nat → Int32} {f s0 p0 : Int32} (hp : ∀ s, s < 4 → pr s = pr' s) : ∀ i, i ≤ 4 → fCh ra pr f s0 p0 i = fCh ra pr' f s0 p0 i := by
  intro i
  induction i with
  | zero => intro _; rfl
  | succ i ih => intro hi; rw [fCh, fCh, ih (by omega), hp i (by omega)]
theorem itX_congr {vi yi ra pr pr' : Nat → Int32} {S0 : kS8} (hp : ∀ s, s < 4 → pr s = pr' s) : ∀ i, itX vi yi ra pr S0 i = itX vi yi ra pr' S0 i := by
  intro i
  induction i with
  | zero => rfl
  | succ i ih => rw [itX, itX, ih, fCh_congr hp 4 (Nat.le_refl _)]; rfl
theorem itX_size {vi yi ra pr : Nat → Int32} {S0 : kS8} (hz : 0 ≤ S0.2.1.toInt ∧ S0.2.1.toInt ≤ 468) : ∀ i, 0 ≤ (itX vi yi ra pr S0 i).2.1.toInt ∧ (itX vi yi ra pr S0 i).2.1.toInt ≤ 468 := by
  intro i
  induction i with
  | zero => exact hz
  | succ i ih =>
    rw [itX]
    generalize fCh ra pr (fFresh vi yi (itX vi yi ra pr S0 i).1.1 i) (itX vi yi ra pr S0 i).2.2.2.1 (itX vi yi ra pr S0 i).2.2.2.2 4 = X
    generalize itX vi yi ra pr S0 i = S at *
    unfold stX
    split
    · exact ih
    · next z =>
      dsimp only
      have z2 : ¬ 468 ≤ S.2.1 := fun z3 => z (Or.inr z3)
      simp only [k_le, li_468] at z2
      rw [k_add (by rw [li_1]; omega), li_1]; omega
def prX (μ : kH) (N : Nat) (now : Int32) : Nat → Int32 := fun s => (fKnown (μ.1 4) (μ.1 5) (μ.1 6) (μ.1 7) (nI s) now now N).1
theorem prX_turn (μ : kH) (N : Nat) (now : Int32) : ∀ s, s < 4 → (kTurn μ now now N).1 10 s = prX μ N now s := by
  intro s hs4
  match s, hs4 with
  | 0, _ => rfl
  | 1, _ => rfl
  | 2, _ => rfl
  | 3, _ => rfl
def k_now (n : Int32) : Int32 := if 39 < n + 1 then 39 else n + 1
def goX (μ : kH) (N G : Nat) : Nat → kS8 × Int32
  | 0 => (stOf μ, μ.1 0 10)
  | j + 1 => (itX (μ.1 12) (μ.1 2) (μ.1 9) (prX μ N (goX μ N G j).2) (goX μ N G j).1 G, k_now (goX μ N G j).2)

set_option maxHeartbeats 400000 in
set_option maxRecDepth 100000 in
theorem lp_X10_go {μ : kH} {G N Y : Nat} (hY : Y ≤ 20) (hG : G ≤ 12) (hgs : μ.1 11 2 = nI G) (hN : N ≤ 300) (hsz : μ.1 3 4 = nI N) : ∀ (n i : Nat) (ν : kH), i + n = Y → fr [0, 8, 10, 13, 36, 37, 38, 39] μ ν → stOf ν = (goX μ N G i).1 → ν.1 0 10 = (goX μ N G i).2 → (0 ≤ (ν.1 36 3).toInt ∧ (ν.1 36 3).toInt ≤ 468) → At kX10_go 29 [kr 0, ki (nI Y), ki (nI i)] [] ν (kRet kX10_go (fun r h' => r = ki (goX μ N G Y).2 ∧ fr [0, 8, 10, 13, 36, 37, 38, 39] μ h' ∧ stOf h' = (goX μ N G Y).1 ∧ h'.1 0 10 = (goX μ N G Y).2 ∧ h'.1 0 11 = 0)) := by
  intro n
  induction n with
  | zero =>
    intro i ν hi q hS hn hz
    have ei : i = Y := by omega
    subst ei
    refine k_iload_n (pc' := 30) dX10_go_29 rfl rfl ?_
    refine k_iload_n (pc' := 31) dX10_go_30 rfl rfl ?_
    refine k_icmp_ge (pc' := 34) (tg := 44) dX10_go_31 rfl (by decide) (fun c_31 => ?_) (fun c_31 => ?_)
    · skip
      refine k_aload_n (pc' := 45) dX10_go_44 rfl rfl ?_
      refine k_aload_n (pc' := 46) dX10_go_45 rfl rfl ?_
      refine k_getI (pc' := 49) fl_RX10_197 dX10_go_46 rfl rfl rfl ?_
      refine k_callV1 (pc' := 52) dX10_go_49 rfl ml_RX10_97 rfl rfl ⟨(Nat.le_of_ble_eq_true rfl), (Nat.le_of_ble_eq_true rfl)⟩ (Nat.le_of_ble_eq_true rfl) ev_X10_done (fun r_49 h_49 q_49 => ?_)
      obtain ⟨e_49, g_49⟩ := q_49
      rw [e_49, g_49]
      exact k_iret dX10_go_52 rfl ⟨by rw [hn], fr_I q (by decide), hS, hn, hI_at _ _ _ _⟩
    · exfalso
      exact c_31 (Int32.le_refl _)
  | succ n ih =>
    intro i ν hi q hS hn hz
    have hlt : i < Y := by omega
    refine k_iload_n (pc' := 30) dX10_go_29 rfl rfl ?_
    refine k_iload_n (pc' := 31) dX10_go_30 rfl rfl ?_
    refine k_icmp_ge (pc' := 34) (tg := 44) dX10_go_31 rfl (by decide) (fun c_31 => ?_) (fun c_31 => ?_)
    · exfalso
      exact nI_ge hlt (by omega) c_31
    · skip
      refine k_aload_n (pc' := 35) dX10_go_34 rfl rfl ?_
      refine k_callV0 (pc' := 38) dX10_go_35 rfl ml_RX10_212 rfl rfl ⟨(Nat.le_of_ble_eq_true rfl), (Nat.le_of_ble_eq_true rfl)⟩ (Nat.le_of_ble_eq_true rfl) (ev_X10_passYear (G := G) (N := N) hG (by rw [q.1 11 (by decide)]; exact hgs) hN (by rw [q.1 3 (by decide)]; exact hsz) hz) (fun r_35 h_35 q_35 => ?_)
      obtain ⟨e1, e2, e3, e4, e5⟩ := q_35
      rw [e1]
      refine k_iinc (pc' := 41) (v := nI (_ + 1)) (ls' := [_, _, _]) dX10_go_38 rfl rfl (nI_1 _) (by decide) rfl ?_
      refine k_goto (tg := 29) dX10_go_41 (by decide) ?_
      have e6 : stOf h_35 = itX (μ.1 12) (μ.1 2) (μ.1 9) (prX μ N (goX μ N G i).2) (goX μ N G i).1 G := by
        rw [e3, q.1 12 (by decide), q.1 2 (by decide), q.1 9 (by decide), hS, hn]
        refine itX_congr (fun s hs4 => ?_) G
        rw [prX_turn ν N _ s hs4]
        show (fKnown (ν.1 4) (ν.1 5) (ν.1 6) (ν.1 7) (nI s) _ _ N).1 = _
        rw [q.1 4 (by decide), q.1 5 (by decide), q.1 6 (by decide), q.1 7 (by decide)]
        rfl
      refine ih (i + 1) h_35 (by omega) (fr_tr q e2 (fun k z => z)) e6 (by rw [e4, hn]; rfl) ?_
      have e7 := itX_size (vi := μ.1 12) (yi := μ.1 2) (ra := μ.1 9) (pr := prX μ N (goX μ N G i).2) (S0 := stOf ν) hz G
      rw [hS, ← e6] at e7
      exact e7

set_option maxHeartbeats 400000 in
set_option maxRecDepth 100000 in
theorem ev_X10_go_ok {μ : kH} {G N Y : Nat} (hY1 : 1 ≤ Y) (hY : Y ≤ 20) (hG : G ≤ 12) (hgs : μ.1 11 2 = nI G) (hN : N ≤ 300) (hsz : μ.1 3 4 = nI N) (hz : 0 ≤ (μ.1 36 3).toInt ∧ (μ.1 36 3).toInt ≤ 468) (hnow : 0 ≤ (μ.1 0 10).toInt ∧ (μ.1 0 10).toInt + Y ≤ 39) : Ev kX10_go [kr 0, ki (nI Y)] μ (fun r h' => r = ki (goX μ N G Y).2 ∧ fr [0, 8, 10, 13, 36, 37, 38, 39] μ h' ∧ stOf h' = (goX μ N G Y).1 ∧ h'.1 0 10 = (goX μ N G Y).2 ∧ h'.1 0 11 = 0) := by
  have eY := nI_toInt (n := Y) (by omega)
  have eS : (μ.1 0 10 + nI Y).toInt = (μ.1 0 10).toInt + Y := by rw [k_add (by rw [eY]; omega), eY]
  refine k_ev (ls := [_, _, _]) (by decide) (Nat.le_of_ble_eq_true rfl) rfl ?_
  refine k_iload_n (pc' := 1) dX10_go_0 rfl rfl ?_
  refine k_iconst (pc' := 2) (v := 1) dX10_go_1 rfl (by decide) ?_
  refine k_bipush (pc' := 4) (v := 20) dX10_go_2 rfl (by decide) ?_
  refine k_callS3 (pc' := 7) dX10_go_4 rfl ml_RX10_85 ⟨(Nat.le_of_ble_eq_true rfl), (Nat.le_of_ble_eq_true rfl)⟩ (Nat.le_of_ble_eq_true rfl) ev_X10_within (fun r_4 h_4 q_4 => ?_)
  obtain ⟨e_4, g_4⟩ := q_4
  rw [e_4, g_4]
  refine k_if_eq (pc' := 10) (tg := 21) dX10_go_7 rfl (by decide) (fun c_7 => ?_) (fun c_7 => ?_)
  · exfalso
    (try simp only [eq_self, not_true_eq_false, not_false_eq_true, k_b0, k_b1, k_c0, k_cl, k_cg, k_cle, k_cge] at *) <;> (try simp only [eY, eS, eq_self, not_true_eq_false, not_false_eq_true, k_le, k_lt, k_eq, k_leL, k_ltL, k_eqL, k_il, li_m6, li_m5, li_m3, li_m2, li_m1, li_0, li_1, li_2, li_3, li_4, li_5, li_6, li_7, li_8, li_10, li_11, li_12, li_20, li_24, li_25, li_26, li_32, li_39, li_40, li_48, li_57, li_59, li_60, li_96, li_97, li_100, li_122, li_180, li_200, li_255, li_300, li_468, li_480, li_500, li_1000, li_2000, li_10000, li_10001, li_100000, li_1000000, li_100000000, lj_m1, lj_0, lj_1, lj_2, lj_3, lj_24, lj_39, lj_100, lj_500, lj_1000, lj_2000, lj_10000, lj_100000, lj_1000000, lj_100000000, lj_10, lj_20, lj_12, lj_32, lj_96] at *) <;> omega
  · skip
    refine k_aload_n (pc' := 11) dX10_go_10 rfl rfl ?_
    refine k_getI (pc' := 14) fl_RX10_197 dX10_go_11 rfl rfl rfl ?_
    refine k_iload_n (pc' := 15) dX10_go_14 rfl rfl ?_
    refine k_iadd (pc' := 16) dX10_go_15 rfl ?_
    refine k_bipush (pc' := 18) (v := 39) dX10_go_16 rfl (by decide) ?_
    refine k_icmp_le (pc' := 21) (tg := 27) dX10_go_18 rfl (by decide) (fun c_18 => ?_) (fun c_18 => ?_)
    · skip
      refine k_iconst (pc' := 28) (v := 0) dX10_go_27 rfl (by decide) ?_
      refine k_istore_n (pc' := 29) (k0 := 0) (ls' := [_, _, _]) dX10_go_28 rfl (by decide) rfl ?_
      exact lp_X10_go hY hG hgs hN hsz Y 0 μ (by omega) (fr_rf _ _) rfl rfl hz
    · exfalso
      (try simp only [eq_self, not_true_eq_false, not_false_eq_true, k_b0, k_b1, k_c0, k_cl, k_cg, k_cle, k_cge] at *) <;> (try simp only [eY, eS, eq_self, not_true_eq_false, not_false_eq_true, k_le, k_lt, k_eq, k_leL, k_ltL, k_eqL, k_il, li_m6, li_m5, li_m3, li_m2, li_m1, li_0, li_1, li_2, li_3, li_4, li_5, li_6, li_7, li_8, li_10, li_11, li_12, li_20, li_24, li_25, li_26, li_32, li_39, li_40, li_48, li_57, li_59, li_60, li_96, li_97, li_100, li_122, li_180, li_200, li_255, li_300, li_468, li_480, li_500, li_1000, li_2000, li_10000, li_10001, li_100000, li_1000000, li_100000000, lj_m1, lj_0, lj_1, lj_2, lj_3, lj_24, lj_39, lj_100, lj_500, lj_1000, lj_2000, lj_10000, lj_100000, lj_1000000, lj_100000000, lj_10, lj_20, lj_12, lj_32, lj_96] at *) <;> omega

set_option maxHeartbeats 400000 in
set_option maxRecDepth 100000 in
theorem ev_X10_go_bad {y : Int32} {μ : kH} (hnow : 0 ≤ (μ.1 0 10).toInt ∧ (μ.1 0 10).toInt ≤ 39) (hb : ¬ ((1 ≤ y.toInt ∧ y.toInt ≤ 20) ∧ (μ.1 0 10).toInt + y.toInt ≤ 39)) : Ev kX10_go [kr 0, ki y] μ (fun r h' => r = ki (-1) ∧ h' = hI μ 0 11 (-1)) := by
  refine k_ev (ls := [_, _, _]) (by decide) (Nat.le_of_ble_eq_true rfl) rfl ?_
  refine k_iload_n (pc' := 1) dX10_go_0 rfl rfl ?_
  refine k_iconst (pc' := 2) (v := 1) dX10_go_1 rfl (by decide) ?_
  refine k_bipush (pc' := 4) (v := 20) dX10_go_2 rfl (by decide) ?_
  refine k_callS3 (pc' := 7) dX10_go_4 rfl ml_RX10_85 ⟨(Nat.le_of_ble_eq_true rfl), (Nat.le_of_ble_eq_true rfl)⟩ (Nat.le_of_ble_eq_true rfl) ev_X10_within (fun r_4 h_4 q_4 => ?_)
  obtain ⟨e_4, g_4⟩ := q_4
  rw [e_4, g_4]
  refine k_if_eq (pc' := 10) (tg := 21) dX10_go_7 rfl (by decide) (fun c_7 => ?_) (fun c_7 => ?_)
  · skip
    refine k_aload_n (pc' := 22) dX10_go_21 rfl rfl ?_
    refine k_iconst (pc' := 23) (v := (-1)) dX10_go_22 rfl (by decide) ?_
    refine k_callV1 (pc' := 26) dX10_go_23 rfl ml_RX10_89 rfl rfl ⟨(Nat.le_of_ble_eq_true rfl), (Nat.le_of_ble_eq_true rfl)⟩ (Nat.le_of_ble_eq_true rfl) ev_X10_refused (fun r_23 h_23 q_23 => ?_)
    obtain ⟨e_23, g_23⟩ := q_23
    rw [e_23, g_23]
    exact k_iret dX10_go_26 rfl ⟨rfl, rfl⟩
  · skip
    refine k_aload_n (pc' := 11) dX10_go_10 rfl rfl ?_
    refine k_getI (pc' := 14) fl_RX10_197 dX10_go_11 rfl rfl rfl ?_
    refine k_iload_n (pc' := 15) dX10_go_14 rfl rfl ?_
    refine k_iadd (pc' := 16) dX10_go_15 rfl ?_
    refine k_bipush (pc' := 18) (v := 39) dX10_go_16 rfl (by decide) ?_
    refine k_icmp_le (pc' := 21) (tg := 27) dX10_go_18 rfl (by decide) (fun c_18 => ?_) (fun c_18 => ?_)
    · exfalso
      have b1 : 1 ≤ y.toInt ∧ y.toInt ≤ 20 := (by clear hb; (try simp only [eq_self, not_true_eq_false, not_false_eq_true, k_b0, k_b1, k_c0, k_cl, k_cg, k_cle, k_cge] at *) <;> (try simp only [eq_self, not_true_eq_false, not_false_eq_true, k_le, k_lt, k_eq, k_leL, k_ltL, k_eqL, k_il, li_m6, li_m5, li_m3, li_m2, li_m1, li_0, li_1, li_2, li_3, li_4, li_5, li_6, li_7, li_8, li_10, li_11, li_12, li_20, li_24, li_25, li_26, li_32, li_39, li_40, li_48, li_57, li_59, li_60, li_96, li_97, li_100, li_122, li_180, li_200, li_255, li_300, li_468, li_480, li_500, li_1000, li_2000, li_10000, li_10001, li_100000, li_1000000, li_100000000, lj_m1, lj_0, lj_1, lj_2, lj_3, lj_24, lj_39, lj_100, lj_500, lj_1000, lj_2000, lj_10000, lj_100000, lj_1000000, lj_100000000, lj_10, lj_20, lj_12, lj_32, lj_96] at *) <;> omega)
      have e9 : (μ.1 0 10 + y).toInt = (μ.1 0 10).toInt + y.toInt := by rw [k_add (by omega)]
      (try simp only [eq_self, not_true_eq_false, not_false_eq_true, k_b0, k_b1, k_c0, k_cl, k_cg, k_cle, k_cge] at *) <;> (try simp only [e9, eq_self, not_true_eq_false, not_false_eq_true, k_le, k_lt, k_eq, k_leL, k_ltL, k_eqL, k_il, li_m6, li_m5, li_m3, li_m2, li_m1, li_0, li_1, li_2, li_3, li_4, li_5, li_6, li_7, li_8, li_10, li_11, li_12, li_20, li_24, li_25, li_26, li_32, li_39, li_40, li_48, li_57, li_59, li_60, li_96, li_97, li_100, li_122, li_180, li_200, li_255, li_300, li_468, li_480, li_500, li_1000, li_2000, li_10000, li_10001, li_100000, li_1000000, li_100000000, lj_m1, lj_0, lj_1, lj_2, lj_3, lj_24, lj_39, lj_100, lj_500, lj_1000, lj_2000, lj_10000, lj_100000, lj_1000000, lj_100000000, lj_10, lj_20, lj_12, lj_32, lj_96] at *) <;> omega
    · skip
      refine k_aload_n (pc' := 22) dX10_go_21 rfl rfl ?_
      refine k_iconst (pc' := 23) (v := (-1)) dX10_go_22 rfl (by decide) ?_
      refine k_callV1 (pc' := 26) dX10_go_23 rfl ml_RX10_89 rfl rfl ⟨(Nat.le_of_ble_eq_true rfl), (Nat.le_of_ble_eq_true rfl)⟩ (Nat.le_of_ble_eq_true rfl) ev_X10_refused (fun r_23 h_23 q_23 => ?_)
      obtain ⟨e_23, g_23⟩ := q_23
      rw [e_23, g_23]
      exact k_iret dX10_go_26 rfl ⟨rfl, rfl⟩

