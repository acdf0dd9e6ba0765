theorem cpy_at {f g : Nat → Int32} {j : Nat} (hj : j < 20) : va_cpy f g 0 0 20 j = f j := by
  unfold va_cpy
  rw [if_pos ⟨by omega, by omega⟩, show 0 + (j - 0) = j by omega]
theorem LX_of {μ β : kH} {L T : Nat} {sN eN : Nat → Nat} {B : Nat → Int32} (hL1 : L ≤ 200) (h14 : μ.1 14 1 = nI L) (eb : μ.1 15 = B) (q : kBeg μ β L T sN eN) : LX β B L T sN eN := by
  obtain ⟨f, -, -, eT, e27, e28, e29, rd⟩ := q
  have b14 : β.1 14 = μ.1 14 := f.1 14 (by decide)
  have b15 : β.1 15 = μ.1 15 := f.1 15 (by decide)
  have hkd : ∀ j, j < L → kdX μ j = k_kind (B j) := fun j hj => by unfold kdX; rw [kb_at hL1 h14 hj, eb]
  obtain ⟨sN', eN', hT, hS⟩ := fTk_TK (B := B) (kd := kdX μ) (S0 := μ.1 27) (E0 := μ.1 28) (K0 := μ.1 29) L hkd
  rw [← eT] at hT hS
  have hs1 : ∀ t, t < T → sN t = sN' t ∧ eN t = eN' t := fun t ht => by
    obtain ⟨r1, r2, r3, r4⟩ := rd.2.2.2 t ht
    obtain ⟨s1, s2, -⟩ := hS t ht
    obtain ⟨-, a2, a3, -⟩ := hT.1 t ht
    rw [e27, s1] at r1
    rw [e28, s2] at r2
    exact ⟨((nI_eq (by omega) (by omega)).mp r1).symm, ((nI_eq (by omega) (by omega)).mp r2).symm⟩
  refine ⟨hL1, by rw [b14]; exact h14, fun j hj => by rw [b15, eb], TK_congr hT (fun t ht => (hs1 t ht).1) (fun t ht => (hs1 t ht).2), fun t ht => ?_⟩
  obtain ⟨-, a2, a3, -⟩ := hT.1 t ht
  rw [e29, (hS t ht).2.2, hkd _ (by omega), (hs1 t ht).1]
/-- what the class has read -/
theorem read_end {μ κ : kH} {L : Nat} (hL1 : L ≤ 200) (h14 : μ.1 14 1 = nI L) {r : kV} (q : kRead μ L r κ) : ∃ (β : kH) (T : Nat) (sN eN : Nat → Nat), LX β (μ.1 15) L T sN eN ∧ fr [21, 22, 27, 28, 29] μ β ∧ endX β L T sN (xAll β T sN eN (fun _ => (0, 0, 0, 0))) κ := by
  obtain ⟨β, T, sN, eN, kb, q, -⟩ := q
  have X := LX_of hL1 h14 rfl kb
  obtain ⟨f, b22, b21, -, -, -, -, rd⟩ := kb
  refine ⟨β, T, sN, eN, X, f, ?_⟩
  unfold xAll
  rcases q with ⟨t0, e⟩ | ⟨t0, e⟩
  · rw [if_neg (by omega), e]
    exact ⟨fr_rf _ _, Or.inr ⟨rfl, b21, b22, Nat.zero_le _, fun i hi => absurd hi (Nat.not_lt_zero _)⟩⟩
  · rw [if_pos t0]
    exact Rd_rn rd.1 X.2.1 21 β 0 _ 0 κ ⟨rfl, rfl, rfl⟩ b22 (Nat.zero_le _) (fun i hi => absurd hi (Nat.not_lt_zero _)) b21 e
theorem stT_s {B : Nat → Int32} {L T t : Nat} {sN eN : Nat → Nat} (hT : TK B L T sN eN) : stT L T sN t ≤ L := by
  unfold stT
  by_cases z : t < T
  · rw [if_pos z]
    obtain ⟨-, a2, a3, -⟩ := hT.1 t z
    omega
  · rw [if_neg z]; exact Nat.le_refl _
set_option maxHeartbeats 400000 in
set_option maxRecDepth 100000 in
theorem pr_tithes {μ : kH} (hi : Inv μ) : Ev kX10_tithes [kr 0] μ (fun r1 h1 => (∃ v, r1 = ki v) ∧ Ev kX11_tithes [kr 46] h1 (fun r2 h2 => r2 = r1 ∧ Inv h2)) := by
  obtain ⟨i1, i2, i3, i4, i5, i6, i7, i8, i9, i10, i11, i12, i13⟩ := id hi
  obtain ⟨eb, L, hL, eL, eL'⟩ := id i8
  refine k_evm (ev_X10_tithes hL eL) (fun r1 h1 q1 => ?_)
  obtain ⟨κ, rd, q1⟩ := q1
  obtain ⟨β, T, sN, eN, X, fb, ex⟩ := read_end hL eL rd
  generalize hX : xAll β T sN eN (fun _ => (0, 0, 0, 0)) = xx at ex
  obtain ⟨fk, ex⟩ := ex
  have kx : ∀ k, k ∉ [21, 22, 23, 24, 25, 26, 27, 28, 29] → κ.1 k = μ.1 k := fun k hk => by
    rw [fk.1 k (fun w => hk (by simp only [List.mem_cons, List.not_mem_nil, or_false] at w ⊢; omega))]
    exact fb.1 k (fun w => hk (by simp only [List.mem_cons, List.not_mem_nil, or_false] at w ⊢; omega))
  rcases q1 with ⟨g0, e1, e2⟩ | ⟨g1, e1, e2⟩
  · rcases ex with ⟨tf, x1, x2⟩ | ⟨-, x2, -⟩
    · have h1x : ∀ k, k ∉ [0, 14, 16, 17, 18, 19, 20, 21, 22, 23, 24, 25, 26, 27, 28, 29, 46, 56, 57, 58, 59, 60] → h1.1 k = μ.1 k := fun k hk => by
        have hk' := hk
        simp only [List.mem_cons, List.not_mem_nil, or_false, not_or] at hk'
        rw [e2]
        show hs (hI κ 14 1 0).1 0 _ k = _
        rw [hs_ne _ _ (by omega)]
        show hs κ.1 14 _ k = _
        rw [hs_ne _ _ (by omega)]
        exact kx k (fun w => hk (by simp only [List.mem_cons, List.not_mem_nil, or_false] at w ⊢; omega))
      have h146 : h1.1 46 = μ.1 46 := by rw [e2]; exact kx 46 (by decide)
      have h161 : (hI h1 46 0 0).1 61 = μ.1 15 := by show h1.1 61 = _; rw [e2]; exact (kx 61 (by decide)).trans eb.symm
      refine ⟨⟨_, e1⟩, k_evm (ev_X11_tithes rfl (L := L) (T := T) (sN := sN) (eN := eN) (β := β) (by rw [h161]; exact X) (show h1.1 46 27 = nI L by rw [h146]; exact eL') (fun _ => (0, 0, 0, 0))) (fun r2 h2 q2 => ?_)⟩
      rw [hX] at q2
      obtain ⟨m1, m27, q2⟩ := q2
      rcases q2 with ⟨tf2, y1, e3, y2, y3, y4, y5, y6, y7, y8⟩ | ⟨y1, -⟩
      · refine ⟨e3.trans e1.symm, ?_⟩
        have etf : tf2 = tf := by rw [x1] at y1; cases y1; rfl
        subst etf
        have hx : ∀ k, k ∉ [0, 14, 16, 17, 18, 19, 20, 21, 22, 23, 24, 25, 26, 27, 28, 29, 46, 56, 57, 58, 59, 60] → h2.1 k = μ.1 k := fun k hk => by
          have hk' := hk
          simp only [List.mem_cons, List.not_mem_nil, or_false, not_or] at hk'
          rw [m1.1 k (fun w => hk (by simp only [List.mem_cons, List.not_mem_nil, or_false] at w ⊢; omega))]
          rw [show (hI h1 46 0 0).1 k = h1.1 k from hs_ne _ _ (by omega)]
          exact h1x k hk
        have hj : ∀ j, j ∉ [0, 1, 19, 24, 27, 28, 29, 30, 32, 33] → h2.1 46 j = μ.1 46 j := fun j hj => by
          rw [m1.2.1 j (fun w => hj (by simp only [List.mem_cons, List.not_mem_nil, or_false] at w ⊢; omega))]
          have e46 : (hI h1 46 0 0).1 46 j = h1.1 46 j := by
            show (hs h1.1 46 (upd (h1.1 46) 0 0)) 46 j = _
            rw [hs_self]; simp only [upd]; rw [if_neg (fun w => hj (by rw [w]; decide))]
          rw [e46, h146]
        have x0 : h2.1 0 = h1.1 0 := m1.1 0 (by decide)
        have x14 : h2.1 14 = h1.1 14 := m1.1 14 (by decide)
        have x21 : h2.1 21 = h1.1 21 := m1.1 21 (by decide)
        have x16 : h2.1 16 = h1.1 16 := m1.1 16 (by decide)
        have x17 : h2.1 17 = h1.1 17 := m1.1 17 (by decide)
        have x18 : h2.1 18 = h1.1 18 := m1.1 18 (by decide)
        have x19 : h2.1 19 = h1.1 19 := m1.1 19 (by decide)
        have x20 : h2.1 20 = h1.1 20 := m1.1 20 (by decide)
        have z1 : h1.1 0 10 = μ.1 0 10 := by rw [e2]; exact congrFun (kx 0 (by decide)) 10
        have z2 : h1.1 0 11 = -6 := by rw [e2]; exact hI_at _ _ _ _
        have z3 : h1.1 14 1 = 0 := by rw [e2]; show (hI κ 14 1 0).1 14 1 = 0; exact hI_at _ _ _ _
        have z4 : h1.1 21 1 = nI (stT L T sN tf2) := by rw [e2]; exact x2
        have w16 : h1.1 16 = μ.1 16 := by rw [e2]; exact kx 16 (by decide)
        have w17 : h1.1 17 = μ.1 17 := by rw [e2]; exact kx 17 (by decide)
        have w18 : h1.1 18 = μ.1 18 := by rw [e2]; exact kx 18 (by decide)
        have w19 : h1.1 19 = μ.1 19 := by rw [e2]; exact kx 19 (by decide)
        have w20 : h1.1 20 = μ.1 20 := by rw [e2]; exact kx 20 (by decide)
        have v19 : h2.1 46 19 = μ.1 46 19 := y4.trans (show h1.1 46 19 = _ by rw [h146])
        have v56 : h2.1 56 = μ.1 56 := y5.trans (show h1.1 56 = _ by rw [e2]; exact kx 56 (by decide))
        have v57 : h2.1 57 = μ.1 57 := y6.trans (show h1.1 57 = _ by rw [e2]; exact kx 57 (by decide))
        have v58 : h2.1 58 = μ.1 58 := y7.trans (show h1.1 58 = _ by rw [e2]; exact kx 58 (by decide))
        have v59 : h2.1 59 = μ.1 59 := y8.trans (show h1.1 59 = _ by rw [e2]; exact kx 59 (by decide))
        exact ⟨(by rw [x0, z1, hj 2 (by decide)]; exact i1), (by rw [x0, z2, y3]), (by rw [hx 1 (by decide), hj 5 (by decide), hj 6 (by decide)]; exact i3), (by rw [hx 2 (by decide), hx 47 (by decide)]; exact i4), (by rw [hx 9 (by decide), hx 48 (by decide)]; exact i5), (by rw [hx 3 (by decide), hj 7 (by decide), hx 4 (by decide), hx 5 (by decide), hx 6 (by decide), hx 7 (by decide), hx 49 (by decide), hx 50 (by decide), hx 51 (by decide), hx 52 (by decide)]; exact i6), (by rw [hx 11 (by decide), hj 13 (by decide), hx 12 (by decide), hx 13 (by decide), hx 54 (by decide), hx 55 (by decide)]; exact i7), ⟨by rw [hx 15 (by decide), hx 61 (by decide)]; exact eb, 0, by decide, by rw [x14, z3]; rfl, by rw [m27]; rfl⟩, (by rw [x16, w16, v19, x17, w17, x18, w18, x19, w19, x20, w20, v56, v57, v58, v59]; exact i9), (by rw [x21, z4, y2]), (by rw [hx 30 (by decide), hj 36 (by decide), hx 31 (by decide), hx 63 (by decide)]; exact i11), (by rw [hj 2 (by decide), hx 36 (by decide), hj 37 (by decide), hj 41 (by decide), hx 37 (by decide), hx 38 (by decide), hx 39 (by decide), hx 64 (by decide), hx 65 (by decide), hx 66 (by decide)]; exact i12), (by rw [hx 40 (by decide), hj 43 (by decide), hj 42 (by decide), hx 41 (by decide), hx 42 (by decide), hx 43 (by decide), hx 44 (by decide), hx 67 (by decide), hx 68 (by decide), hx 69 (by decide), hx 70 (by decide), hx 71 (by decide), hx 45 (by decide), hx 72 (by decide)]; exact i13)⟩
      · rw [x1] at y1; exact absurd y1 (by simp)
    · unfold gdX at g0
      rw [if_pos x2] at g0
      exact absurd g0 (by decide)
  · rcases ex with ⟨tf, x1, x2⟩ | ⟨x1, x2, x3, x4, x5⟩
    · unfold gdX at g1
      rw [x2, if_neg (fun w => by
        have hst := stT_s (t := tf) X.2.2.2.1
        rw [k_eq, nI_toInt (by omega), li_m1] at w
        omega)] at g1
      exact absurd g1 (by decide)
    · have h1x : ∀ k, k ∉ [0, 14, 16, 17, 18, 19, 20, 21, 22, 23, 24, 25, 26, 27, 28, 29, 46, 56, 57, 58, 59, 60] → h1.1 k = μ.1 k := fun k hk => by
        have hk' := hk
        simp only [List.mem_cons, List.not_mem_nil, or_false, not_or] at hk'
        have e3 : h1.1 k = κ.1 k := by
          rw [e2]
          show hs (becH (hI κ 14 1 0)).1 0 _ k = _
          rw [hs_ne _ _ (by omega)]
          unfold becH
          show hs (hs (hs (hs (hs (hI κ 14 1 0).1 17 _) 18 _) 19 _) 20 _) 16 _ k = _
          rw [hs_ne _ _ (by omega), hs_ne _ _ (by omega), hs_ne _ _ (by omega), hs_ne _ _ (by omega), hs_ne _ _ (by omega)]
          show hs κ.1 14 _ k = _
          rw [hs_ne _ _ (by omega)]
        rw [e3]
        exact kx k (fun w => hk (by simp only [List.mem_cons, List.not_mem_nil, or_false] at w ⊢; omega))
      have h146 : h1.1 46 = μ.1 46 := by rw [e2]; exact kx 46 (by decide)
      have h161 : (hI h1 46 0 0).1 61 = μ.1 15 := by show h1.1 61 = _; rw [e2]; exact (kx 61 (by decide)).trans eb.symm
      refine ⟨⟨_, e1⟩, k_evm (ev_X11_tithes rfl (L := L) (T := T) (sN := sN) (eN := eN) (β := β) (by rw [h161]; exact X) (show h1.1 46 27 = nI L by rw [h146]; exact eL') (fun _ => (0, 0, 0, 0))) (fun r2 h2 q2 => ?_)⟩
      rw [hX] at q2
      obtain ⟨m1, m27, q2⟩ := q2
      rcases q2 with ⟨tf2, y1, -⟩ | ⟨y1, e3, y2, y3, y4, y5⟩
      · rw [x1] at y1; exact absurd y1 (by simp)
      · refine ⟨by rw [e3, e1, x3], ?_⟩
        have hx : ∀ k, k ∉ [0, 14, 16, 17, 18, 19, 20, 21, 22, 23, 24, 25, 26, 27, 28, 29, 46, 56, 57, 58, 59, 60] → h2.1 k = μ.1 k := fun k hk => by
          have hk' := hk
          simp only [List.mem_cons, List.not_mem_nil, or_false, not_or] at hk'
          rw [m1.1 k (fun w => hk (by simp only [List.mem_cons, List.not_mem_nil, or_false] at w ⊢; omega))]
          rw [show (hI h1 46 0 0).1 k = h1.1 k from hs_ne _ _ (by omega)]
          exact h1x k hk
        have hj : ∀ j, j ∉ [0, 1, 19, 24, 27, 28, 29, 30, 32, 33] → h2.1 46 j = μ.1 46 j := fun j hj => by
          rw [m1.2.1 j (fun w => hj (by simp only [List.mem_cons, List.not_mem_nil, or_false] at w ⊢; omega))]
          have e46 : (hI h1 46 0 0).1 46 j = h1.1 46 j := by
            show (hs h1.1 46 (upd (h1.1 46) 0 0)) 46 j = _
            rw [hs_self]; simp only [upd]; rw [if_neg (fun w => hj (by rw [w]; decide))]
          rw [e46, h146]
        have x0 : h2.1 0 = h1.1 0 := m1.1 0 (by decide)
        have x14 : h2.1 14 = h1.1 14 := m1.1 14 (by decide)
        have x21 : h2.1 21 = h1.1 21 := m1.1 21 (by decide)
        have x16 : h2.1 16 = h1.1 16 := m1.1 16 (by decide)
        have x17 : h2.1 17 = h1.1 17 := m1.1 17 (by decide)
        have x18 : h2.1 18 = h1.1 18 := m1.1 18 (by decide)
        have x19 : h2.1 19 = h1.1 19 := m1.1 19 (by decide)
        have x20 : h2.1 20 = h1.1 20 := m1.1 20 (by decide)
        have z1 : h1.1 0 10 = μ.1 0 10 := by rw [e2]; exact congrFun (kx 0 (by decide)) 10
        have z2 : h1.1 0 11 = 0 := by rw [e2]; exact hI_at _ _ _ _
        have z3 : h1.1 14 1 = 0 := by rw [e2]; show (hI κ 14 1 0).1 14 1 = 0; exact hI_at _ _ _ _
        have z4 : h1.1 21 1 = -1 := by rw [e2]; exact x2
        have w16 : h1.1 16 4 = nI xx.1 := by
          rw [e2]
          show (becH (hI κ 14 1 0)).1 16 4 = _
          unfold becH
          rw [hI_at]; exact x3
        have w17 : h1.1 17 = va_cpy (κ.1 23) (κ.1 17) 0 0 20 := by rw [e2]; rfl
        have w18 : h1.1 18 = va_cpy (κ.1 24) (κ.1 18) 0 0 20 := by rw [e2]; rfl
        have w19 : h1.1 19 = va_cpy (κ.1 25) (κ.1 19) 0 0 20 := by rw [e2]; rfl
        have w20 : h1.1 20 = va_cpy (κ.1 26) (κ.1 20) 0 0 20 := by rw [e2]; rfl
        exact ⟨(by rw [x0, z1, hj 2 (by decide)]; exact i1), (by rw [x0, z2, y3]), (by rw [hx 1 (by decide), hj 5 (by decide), hj 6 (by decide)]; exact i3), (by rw [hx 2 (by decide), hx 47 (by decide)]; exact i4), (by rw [hx 9 (by decide), hx 48 (by decide)]; exact i5), (by rw [hx 3 (by decide), hj 7 (by decide), hx 4 (by decide), hx 5 (by decide), hx 6 (by decide), hx 7 (by decide), hx 49 (by decide), hx 50 (by decide), hx 51 (by decide), hx 52 (by decide)]; exact i6), (by rw [hx 11 (by decide), hj 13 (by decide), hx 12 (by decide), hx 13 (by decide), hx 54 (by decide), hx 55 (by decide)]; exact i7), ⟨by rw [hx 15 (by decide), hx 61 (by decide)]; exact eb, 0, by decide, by rw [x14, z3]; rfl, by rw [m27]; rfl⟩, ⟨xx.1, x4, by rw [x16]; exact w16, y4, fun j hj5 => by
          have r1 := (x5 j hj5).1
          have r2 := y5 j hj5
          have hq := (x5 j hj5).2
          unfold rowX at r1
          unfold rowM at r2
          rw [x17, w17, x18, w18, x19, w19, x20, w20, cpy_at (by omega), cpy_at (by omega), cpy_at (by omega), cpy_at (by omega), r1, r2]
          exact ⟨rfl, hq⟩⟩, (by rw [x21, z4, y2]), (by rw [hx 30 (by decide), hj 36 (by decide), hx 31 (by decide), hx 63 (by decide)]; exact i11), (by rw [hj 2 (by decide), hx 36 (by decide), hj 37 (by decide), hj 41 (by decide), hx 37 (by decide), hx 38 (by decide), hx 39 (by decide), hx 64 (by decide), hx 65 (by decide), hx 66 (by decide)]; exact i12), (by rw [hx 40 (by decide), hj 43 (by decide), hj 42 (by decide), hx 41 (by decide), hx 42 (by decide), hx 43 (by decide), hx 44 (by decide), hx 67 (by decide), hx 68 (by decide), hx 69 (by decide), hx 70 (by decide), hx 71 (by decide), hx 45 (by decide), hx 72 (by decide)]; exact i13)⟩

