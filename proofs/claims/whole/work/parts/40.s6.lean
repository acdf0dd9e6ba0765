def pSg (μ : kH) (T : Nat) (sN eN : Nat → Nat) (kd : Int32) (t : Nat) (r : kV) (h' : kH) : Prop := (nX μ T sN eN 0 10000 t ∧ okS μ (t + 1) kd (vXt μ sN eN t) 0 0 r h') ∨ (¬ nX μ T sN eN 0 10000 t ∧ koS μ T sN t r h')
def pPt (μ : kH) (T : Nat) (sN eN : Nat → Nat) (t : Nat) (r : kV) (h' : kH) : Prop := (nX μ T sN eN 0 10000 t ∧ wX μ T sN eN 1 (t + 1) ∧ nX μ T sN eN (if (vXt μ sN eN t) < 1 then 1 else (vXt μ sN eN t)) 10000 (t + 2) ∧ okS μ (t + 3) 0 (vXt μ sN eN t) (vXt μ sN eN (t + 2)) 0 r h') ∨ (¬ nX μ T sN eN 0 10000 t ∧ koS μ T sN t r h') ∨ (nX μ T sN eN 0 10000 t ∧ ¬ wX μ T sN eN 1 (t + 1) ∧ koS μ T sN (t + 1) r h') ∨ (nX μ T sN eN 0 10000 t ∧ wX μ T sN eN 1 (t + 1) ∧ ¬ nX μ T sN eN (if (vXt μ sN eN t) < 1 then 1 else (vXt μ sN eN t)) 10000 (t + 2) ∧ koS μ T sN (t + 2) r h')
def pVn (μ : kH) (T : Nat) (sN eN : Nat → Nat) (t : Nat) (r : kV) (h' : kH) : Prop := (¬ nX μ T sN eN 1 10000 t ∧ koS μ T sN t r h') ∨ (nX μ T sN eN 1 10000 t ∧ ¬ wX μ T sN eN 3 (t + 1) ∧ koS μ T sN (t + 1) r h') ∨ (nX μ T sN eN 1 10000 t ∧ wX μ T sN eN 3 (t + 1) ∧ ¬ nX μ T sN eN 0 10000 (t + 2) ∧ koS μ T sN (t + 2) r h') ∨ (nX μ T sN eN 1 10000 t ∧ wX μ T sN eN 3 (t + 1) ∧ nX μ T sN eN 0 10000 (t + 2) ∧ ¬ wX μ T sN eN 4 (t + 3) ∧ okS μ (t + 3) 1 (vXt μ sN eN t) (vXt μ sN eN (t + 2)) 0 r h') ∨ (nX μ T sN eN 1 10000 t ∧ wX μ T sN eN 3 (t + 1) ∧ nX μ T sN eN 0 10000 (t + 2) ∧ wX μ T sN eN 4 (t + 3) ∧ nX μ T sN eN 0 24 (t + 4) ∧ okS μ (t + 5) 1 (vXt μ sN eN t) (vXt μ sN eN (t + 2)) (vXt μ sN eN (t + 4)) r h') ∨ (nX μ T sN eN 1 10000 t ∧ wX μ T sN eN 3 (t + 1) ∧ nX μ T sN eN 0 10000 (t + 2) ∧ wX μ T sN eN 4 (t + 3) ∧ ¬ nX μ T sN eN 0 24 (t + 4) ∧ koS μ T sN (t + 4) r h')
theorem pSg_b {μ : kH} {T t : Nat} {sN eN : Nat → Nat} {kd : Int32} {r : kV} {h' : kH} (q : pSg μ T sN eN kd t r h') : r = ki 0 ∨ r = ki 1 := by
  rcases q with q | q
  · exact Or.inr q.2.1
  · exact Or.inl q.2.1
theorem pPt_b {μ : kH} {T t : Nat} {sN eN : Nat → Nat} {r : kV} {h' : kH} (q : pPt μ T sN eN t r h') : r = ki 0 ∨ r = ki 1 := by
  rcases q with q | q | q | q
  · exact Or.inr q.2.2.2.1
  · exact Or.inl q.2.1
  · exact Or.inl q.2.2.1
  · exact Or.inl q.2.2.2.1
theorem pVn_b {μ : kH} {T t : Nat} {sN eN : Nat → Nat} {r : kV} {h' : kH} (q : pVn μ T sN eN t r h') : r = ki 0 ∨ r = ki 1 := by
  rcases q with q | q | q | q | q | q
  · exact Or.inl q.2.1
  · exact Or.inl q.2.2.1
  · exact Or.inl q.2.2.2.1
  · exact Or.inr q.2.2.2.2.1
  · exact Or.inr q.2.2.2.2.2.1
  · exact Or.inl q.2.2.2.2.2.1

def pOne (μ : kH) (T : Nat) (sN eN : Nat → Nat) (t : Nat) (r : kV) (h' : kH) : Prop := (20 ≤ μ.1 22 4 ∧ koS μ T sN t r h') ∨ (¬ 20 ≤ μ.1 22 4 ∧ ((wX μ T sN eN 0 t ∧ pPt μ T sN eN (t + 1) r h') ∨ (¬ wX μ T sN eN 0 t ∧ wX μ T sN eN 2 t ∧ pVn μ T sN eN (t + 1) r h') ∨ (¬ wX μ T sN eN 0 t ∧ ¬ wX μ T sN eN 2 t ∧ wX μ T sN eN 5 t ∧ pSg μ T sN eN 2 (t + 1) r h') ∨ (¬ wX μ T sN eN 0 t ∧ ¬ wX μ T sN eN 2 t ∧ ¬ wX μ T sN eN 5 t ∧ wX μ T sN eN 6 t ∧ pSg μ T sN eN 3 (t + 1) r h') ∨ (¬ wX μ T sN eN 0 t ∧ ¬ wX μ T sN eN 2 t ∧ ¬ wX μ T sN eN 5 t ∧ ¬ wX μ T sN eN 6 t ∧ koS μ T sN t r h')))
set_option maxHeartbeats 400000 in
set_option maxRecDepth 100000 in
theorem ev_one {μ : kH} {T t : Nat} {sN eN : Nat → Nat} (hr : rdOk μ T sN eN) (ht : t ≤ 200) (hz : 0 ≤ (μ.1 22 4).toInt) : Ev kX8_readOne [kr 21] (tk μ t) (pOne μ T sN eN t) := by
  refine k_ev (ls := [_]) (by decide) (Nat.le_of_ble_eq_true rfl) rfl ?_
  refine k_aload_n (pc' := 1) dX8_readOne_0 rfl rfl ?_
  refine k_getR (pc' := 4) fl_RX8_12 dX8_readOne_1 rfl rfl rfl ?_
  refine k_callV0 (pc' := 7) dX8_readOne_4 rfl ml_RX8_64 rfl rfl ⟨(Nat.le_of_ble_eq_true rfl), (Nat.le_of_ble_eq_true rfl)⟩ (Nat.le_of_ble_eq_true rfl) ev_X9_isFull_22 (fun r_4 h_4 q_4 => ?_)
  obtain ⟨e_4, g_4⟩ := q_4
  rw [e_4, g_4]
  refine k_if_eq (pc' := 10) (tg := 15) dX8_readOne_7 rfl (by decide) (fun c_7 => ?_) (fun c_7 => ?_)
  · skip
    have hfull : ¬ 20 ≤ μ.1 22 4 := k_b0.mp c_7
    refine k_aload_n (pc' := 16) dX8_readOne_15 rfl rfl ?_
    refine k_ldcS (pc' := 18) (i := 0) dX8_readOne_16 rfl rfl rfl ?_
    refine k_callV1 (pc' := 21) dX8_readOne_18 rfl ml_RX8_72 rfl rfl ⟨(Nat.le_of_ble_eq_true rfl), (Nat.le_of_ble_eq_true rfl)⟩ (Nat.le_of_ble_eq_true rfl) (ev_skip2 (t := t) (i := 0) (by decide) hr ht) (fun r_18 h_18 q_18 => ?_)
    rcases q_18 with ⟨p_a, e_18, g_18⟩ | ⟨p_a, e_18, g_18⟩
    · rw [e_18, g_18]
      refine k_if_eq (pc' := 24) (tg := 29) dX8_readOne_21 rfl (by decide) (fun c_21 => ?_) (fun c_21 => ?_)
      · exfalso
        exact absurd c_21 (by decide)
      · skip
        refine k_aload_n (pc' := 25) dX8_readOne_24 rfl rfl ?_
        refine k_callV0 (pc' := 28) dX8_readOne_25 rfl ml_RX8_76 rfl rfl ⟨(Nat.le_of_ble_eq_true rfl), (Nat.le_of_ble_eq_true rfl)⟩ (Nat.le_of_ble_eq_true rfl) (show Ev kX8_readPart [kr 21] (tk μ (t + 1)) (pPt μ T sN eN (t + 1)) from ev_part hr (by have q9 := p_a.1; have q8 := hr.1; omega) hz (by have z : ¬ 20 ≤ μ.1 22 4 := hfull; rw [k_le, li_20] at z; omega)) (fun r_25 h_25 q_25 => ?_)
        rcases pPt_b q_25 with e_25 | e_25
        · rw [e_25]
          exact k_zret dX8_readOne_28 rfl (by decide) (Or.inr ⟨hfull, Or.inl ⟨p_a, (e_25 ▸ q_25)⟩⟩)
        rw [e_25]
        exact k_zret dX8_readOne_28 rfl (by first | decide | exact k_nz) (Or.inr ⟨hfull, Or.inl ⟨p_a, (e_25 ▸ q_25)⟩⟩)
    rw [e_18, g_18]
    refine k_if_eq (pc' := 24) (tg := 29) dX8_readOne_21 rfl (by decide) (fun c_21 => ?_) (fun c_21 => ?_)
    · skip
      refine k_aload_n (pc' := 30) dX8_readOne_29 rfl rfl ?_
      refine k_ldcS (pc' := 32) (i := 2) dX8_readOne_30 rfl rfl rfl ?_
      refine k_callV1 (pc' := 35) dX8_readOne_32 rfl ml_RX8_72 rfl rfl ⟨(Nat.le_of_ble_eq_true rfl), (Nat.le_of_ble_eq_true rfl)⟩ (Nat.le_of_ble_eq_true rfl) (ev_skip2 (t := t) (i := 2) (by decide) hr ht) (fun r_32 h_32 q_32 => ?_)
      rcases q_32 with ⟨p_b, e_32, g_32⟩ | ⟨p_b, e_32, g_32⟩
      · rw [e_32, g_32]
        refine k_if_eq (pc' := 38) (tg := 43) dX8_readOne_35 rfl (by decide) (fun c_35 => ?_) (fun c_35 => ?_)
        · exfalso
          exact absurd c_35 (by decide)
        · skip
          refine k_aload_n (pc' := 39) dX8_readOne_38 rfl rfl ?_
          refine k_callV0 (pc' := 42) dX8_readOne_39 rfl ml_RX8_81 rfl rfl ⟨(Nat.le_of_ble_eq_true rfl), (Nat.le_of_ble_eq_true rfl)⟩ (Nat.le_of_ble_eq_true rfl) (show Ev kX8_readVines [kr 21] (tk μ (t + 1)) (pVn μ T sN eN (t + 1)) from ev_vines hr (by have q9 := p_b.1; have q8 := hr.1; omega) hz (by have z : ¬ 20 ≤ μ.1 22 4 := hfull; rw [k_le, li_20] at z; omega)) (fun r_39 h_39 q_39 => ?_)
          rcases pVn_b q_39 with e_39 | e_39
          · rw [e_39]
            exact k_zret dX8_readOne_42 rfl (by decide) (Or.inr ⟨hfull, Or.inr (Or.inl ⟨p_a, p_b, (e_39 ▸ q_39)⟩)⟩)
          rw [e_39]
          exact k_zret dX8_readOne_42 rfl (by first | decide | exact k_nz) (Or.inr ⟨hfull, Or.inr (Or.inl ⟨p_a, p_b, (e_39 ▸ q_39)⟩)⟩)
      rw [e_32, g_32]
      refine k_if_eq (pc' := 38) (tg := 43) dX8_readOne_35 rfl (by decide) (fun c_35 => ?_) (fun c_35 => ?_)
      · skip
        refine k_aload_n (pc' := 44) dX8_readOne_43 rfl rfl ?_
        refine k_ldcS (pc' := 46) (i := 5) dX8_readOne_44 rfl rfl rfl ?_
        refine k_callV1 (pc' := 49) dX8_readOne_46 rfl ml_RX8_72 rfl rfl ⟨(Nat.le_of_ble_eq_true rfl), (Nat.le_of_ble_eq_true rfl)⟩ (Nat.le_of_ble_eq_true rfl) (ev_skip2 (t := t) (i := 5) (by decide) hr ht) (fun r_46 h_46 q_46 => ?_)
        rcases q_46 with ⟨p_c, e_46, g_46⟩ | ⟨p_c, e_46, g_46⟩
        · rw [e_46, g_46]
          refine k_if_eq (pc' := 52) (tg := 58) dX8_readOne_49 rfl (by decide) (fun c_49 => ?_) (fun c_49 => ?_)
          · exfalso
            exact absurd c_49 (by decide)
          · skip
            refine k_aload_n (pc' := 53) dX8_readOne_52 rfl rfl ?_
            refine k_iconst (pc' := 54) (v := 2) dX8_readOne_53 rfl (by decide) ?_
            refine k_callV1 (pc' := 57) dX8_readOne_54 rfl ml_RX8_86 rfl rfl ⟨(Nat.le_of_ble_eq_true rfl), (Nat.le_of_ble_eq_true rfl)⟩ (Nat.le_of_ble_eq_true rfl) (show Ev kX8_readSingle [kr 21, ki 2] (tk μ (t + 1)) (pSg μ T sN eN 2 (t + 1)) from ev_single hr (by have q9 := p_c.1; have q8 := hr.1; omega) hz (by have z : ¬ 20 ≤ μ.1 22 4 := hfull; rw [k_le, li_20] at z; omega)) (fun r_54 h_54 q_54 => ?_)
            rcases pSg_b q_54 with e_54 | e_54
            · rw [e_54]
              exact k_zret dX8_readOne_57 rfl (by decide) (Or.inr ⟨hfull, Or.inr (Or.inr (Or.inl ⟨p_a, p_b, p_c, (e_54 ▸ q_54)⟩))⟩)
            rw [e_54]
            exact k_zret dX8_readOne_57 rfl (by first | decide | exact k_nz) (Or.inr ⟨hfull, Or.inr (Or.inr (Or.inl ⟨p_a, p_b, p_c, (e_54 ▸ q_54)⟩))⟩)
        rw [e_46, g_46]
        refine k_if_eq (pc' := 52) (tg := 58) dX8_readOne_49 rfl (by decide) (fun c_49 => ?_) (fun c_49 => ?_)
        · skip
          refine k_aload_n (pc' := 59) dX8_readOne_58 rfl rfl ?_
          refine k_ldcS (pc' := 61) (i := 6) dX8_readOne_59 rfl rfl rfl ?_
          refine k_callV1 (pc' := 64) dX8_readOne_61 rfl ml_RX8_72 rfl rfl ⟨(Nat.le_of_ble_eq_true rfl), (Nat.le_of_ble_eq_true rfl)⟩ (Nat.le_of_ble_eq_true rfl) (ev_skip2 (t := t) (i := 6) (by decide) hr ht) (fun r_61 h_61 q_61 => ?_)
          rcases q_61 with ⟨p_d, e_61, g_61⟩ | ⟨p_d, e_61, g_61⟩
          · rw [e_61, g_61]
            refine k_if_eq (pc' := 67) (tg := 73) dX8_readOne_64 rfl (by decide) (fun c_64 => ?_) (fun c_64 => ?_)
            · exfalso
              exact absurd c_64 (by decide)
            · skip
              refine k_aload_n (pc' := 68) dX8_readOne_67 rfl rfl ?_
              refine k_iconst (pc' := 69) (v := 3) dX8_readOne_68 rfl (by decide) ?_
              refine k_callV1 (pc' := 72) dX8_readOne_69 rfl ml_RX8_86 rfl rfl ⟨(Nat.le_of_ble_eq_true rfl), (Nat.le_of_ble_eq_true rfl)⟩ (Nat.le_of_ble_eq_true rfl) (show Ev kX8_readSingle [kr 21, ki 3] (tk μ (t + 1)) (pSg μ T sN eN 3 (t + 1)) from ev_single hr (by have q9 := p_d.1; have q8 := hr.1; omega) hz (by have z : ¬ 20 ≤ μ.1 22 4 := hfull; rw [k_le, li_20] at z; omega)) (fun r_69 h_69 q_69 => ?_)
              rcases pSg_b q_69 with e_69 | e_69
              · rw [e_69]
                exact k_zret dX8_readOne_72 rfl (by decide) (Or.inr ⟨hfull, Or.inr (Or.inr (Or.inr (Or.inl ⟨p_a, p_b, p_c, p_d, (e_69 ▸ q_69)⟩)))⟩)
              rw [e_69]
              exact k_zret dX8_readOne_72 rfl (by first | decide | exact k_nz) (Or.inr ⟨hfull, Or.inr (Or.inr (Or.inr (Or.inl ⟨p_a, p_b, p_c, p_d, (e_69 ▸ q_69)⟩)))⟩)
          rw [e_61, g_61]
          refine k_if_eq (pc' := 67) (tg := 73) dX8_readOne_64 rfl (by decide) (fun c_64 => ?_) (fun c_64 => ?_)
          · skip
            refine k_aload_n (pc' := 74) dX8_readOne_73 rfl rfl ?_
            refine k_callV0 (pc' := 77) dX8_readOne_74 rfl ml_RX8_67 rfl rfl ⟨(Nat.le_of_ble_eq_true rfl), (Nat.le_of_ble_eq_true rfl)⟩ (Nat.le_of_ble_eq_true rfl) (ev_wrong hr ht) (fun r_74 h_74 q_74 => ?_)
            obtain ⟨e_74, g_74⟩ := q_74
            rw [e_74, g_74]
            exact k_zret dX8_readOne_77 rfl (by first | decide | exact k_nz) (Or.inr ⟨hfull, Or.inr (Or.inr (Or.inr (Or.inr ⟨p_a, p_b, p_c, p_d, rfl, rfl⟩)))⟩)
          · exfalso
            exact c_64 rfl
        · exfalso
          exact c_49 rfl
      · exfalso
        exact c_35 rfl
    · exfalso
      exact c_21 rfl
  · skip
    have hfull : 20 ≤ μ.1 22 4 := k_b1.mp c_7
    refine k_aload_n (pc' := 11) dX8_readOne_10 rfl rfl ?_
    refine k_callV0 (pc' := 14) dX8_readOne_11 rfl ml_RX8_67 rfl rfl ⟨(Nat.le_of_ble_eq_true rfl), (Nat.le_of_ble_eq_true rfl)⟩ (Nat.le_of_ble_eq_true rfl) (ev_wrong hr ht) (fun r_11 h_11 q_11 => ?_)
    obtain ⟨e_11, g_11⟩ := q_11
    rw [e_11, g_11]
    exact k_zret dX8_readOne_14 rfl (by first | decide | exact k_nz) (Or.inl ⟨hfull, rfl, rfl⟩)

def pSep (μ : kH) (T : Nat) (sN eN : Nat → Nat) (t : Nat) (r : kV) (h' : kH) : Prop := (wX μ T sN eN 7 t ∧ r = ki 1 ∧ h' = tk μ (t + 1)) ∨ (t < T ∧ ¬ wX μ T sN eN 7 t ∧ koS μ T sN t r h') ∨ (¬ t < T ∧ r = ki 0 ∧ h' = tk μ t)
set_option maxHeartbeats 400000 in
set_option maxRecDepth 100000 in
theorem ev_sep {μ : kH} {T t : Nat} {sN eN : Nat → Nat} (hr : rdOk μ T sN eN) (ht : t ≤ 200) : Ev kX8_readSeparator [kr 21] (tk μ t) (pSep μ T sN eN t) := by
  have hT := hr.1
  have e6 : (tk μ t).1 21 6 = nI T := hr.2.1
  refine k_ev (ls := [_]) (by decide) (Nat.le_of_ble_eq_true rfl) rfl ?_
  refine k_aload_n (pc' := 1) dX8_readSeparator_0 rfl rfl ?_
  refine k_getI (pc' := 4) fl_RX8_52 dX8_readSeparator_1 rfl rfl rfl ?_
  refine k_aload_n (pc' := 5) dX8_readSeparator_4 rfl rfl ?_
  refine k_getI (pc' := 8) fl_RX8_42 dX8_readSeparator_5 rfl rfl rfl ?_
  rw [tk_at, e6]
  refine k_icmp_ge (pc' := 11) (tg := 24) dX8_readSeparator_8 rfl (by decide) (fun c_8 => ?_) (fun c_8 => ?_)
  · skip
    have htT : ¬ t < T := fun z => nI_ge z (by omega) c_8
    refine k_iconst (pc' := 25) (v := 0) dX8_readSeparator_24 rfl (by decide) ?_
    exact k_zret dX8_readSeparator_25 rfl (by first | decide | exact k_nz) (Or.inr (Or.inr ⟨htT, rfl, rfl⟩))
  · skip
    have htT : t < T := by
      rcases Nat.lt_or_ge t T with z | z
      · exact z
      · exact absurd (nI_le z (by omega)) c_8
    refine k_aload_n (pc' := 12) dX8_readSeparator_11 rfl rfl ?_
    refine k_ldcS (pc' := 14) (i := 7) dX8_readSeparator_12 rfl rfl rfl ?_
    refine k_callV1 (pc' := 17) dX8_readSeparator_14 rfl ml_RX8_94 rfl rfl ⟨(Nat.le_of_ble_eq_true rfl), (Nat.le_of_ble_eq_true rfl)⟩ (Nat.le_of_ble_eq_true rfl) (ev_need2 (i := 7) (by decide) hr ht) (fun r_14 h_14 q_14 => ?_)
    rcases q_14 with ⟨p_a, e_14, g_14⟩ | ⟨p_a, e_14, g_14⟩
    · rw [e_14, g_14]
      refine k_if_eq (pc' := 20) (tg := 24) dX8_readSeparator_17 rfl (by decide) (fun c_17 => ?_) (fun c_17 => ?_)
      · exfalso
        exact absurd c_17 (by decide)
      · skip
        refine k_iconst (pc' := 21) (v := 1) dX8_readSeparator_20 rfl (by decide) ?_
        refine k_goto (tg := 25) dX8_readSeparator_21 (by decide) ?_
        exact k_zret dX8_readSeparator_25 rfl (by first | decide | exact k_nz) (Or.inl ⟨p_a, rfl, rfl⟩)
    rw [e_14, g_14]
    refine k_if_eq (pc' := 20) (tg := 24) dX8_readSeparator_17 rfl (by decide) (fun c_17 => ?_) (fun c_17 => ?_)
    · skip
      refine k_iconst (pc' := 25) (v := 0) dX8_readSeparator_24 rfl (by decide) ?_
      exact k_zret dX8_readSeparator_25 rfl (by first | decide | exact k_nz) (Or.inr (Or.inl ⟨htT, p_a, rfl, rfl⟩))
    · exfalso
      exact c_17 rfl

