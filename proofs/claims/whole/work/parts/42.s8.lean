theorem fTk_ok (kd : Nat → Int32) (S0 E0 K0 : Nat → Int32) : ∀ p t, t < (fTk kd S0 E0 K0 p).1 → ∃ a b, (fTk kd S0 E0 K0 p).2.1 t = nI a ∧ (fTk kd S0 E0 K0 p).2.2.1 t = nI b ∧ a < b ∧ b ≤ p := by
  intro p
  induction p with
  | zero => intro t ht; exact absurd ht (by simp [fTk])
  | succ p ih =>
    intro t ht
    rw [fTk] at ht ⊢
    generalize fTk kd S0 E0 K0 p = s at *
    by_cases z1 : kd p = 0
    · rw [if_pos z1] at ht ⊢
      obtain ⟨a, b, h1, h2, h3, h4⟩ := ih t ht
      exact ⟨a, b, h1, h2, h3, by omega⟩
    · rw [if_neg z1] at ht ⊢
      by_cases z2 : kd p = lstX kd p ∧ ¬ kd p = 3
      · rw [if_pos z2] at ht ⊢
        dsimp only at ht ⊢
        obtain ⟨a, b, h1, h2, h3, h4⟩ := ih t ht
        rw [if_pos (show 0 < s.1 by omega)]
        by_cases z3 : t = s.1 - 1
        · exact ⟨a, p + 1, h1, by simp only [upd]; rw [if_pos z3], by omega, Nat.le_refl _⟩
        · exact ⟨a, b, h1, by simp only [upd]; rw [if_neg z3]; exact h2, h3, by omega⟩
      · rw [if_neg z2] at ht ⊢
        dsimp only at ht ⊢
        by_cases z3 : t = s.1
        · exact ⟨p, p + 1, by simp only [upd]; rw [if_pos z3], by simp only [upd]; rw [if_pos z3], by omega, Nat.le_refl _⟩
        · obtain ⟨a, b, h1, h2, h3, h4⟩ := ih t (by omega)
          exact ⟨a, b, by simp only [upd]; rw [if_neg z3]; exact h1, by simp only [upd]; rw [if_neg z3]; exact h2, h3, by omega⟩
theorem hI_id (μ : kH) (k j : Nat) : hI μ k j (μ.1 k j) = μ := by rw [hI_eq, upd_id, hs_id]
theorem tk_id {μ : kH} {t : Nat} (h7 : μ.1 21 7 = nI t) : tk μ t = μ := by unfold tk; rw [← h7, hI_id]
/-- the start of a reading: the tape cut, the draft empty, no fault -/
def kBeg (μ β : kH) (L T : Nat) (sN eN : Nat → Nat) : Prop := fr [21, 22, 27, 28, 29] μ β ∧ β.1 22 4 = 0 ∧ β.1 21 1 = -1 ∧ T = (fTk (kdX μ) (μ.1 27) (μ.1 28) (μ.1 29) L).1 ∧ β.1 27 = (fTk (kdX μ) (μ.1 27) (μ.1 28) (μ.1 29) L).2.1 ∧ β.1 28 = (fTk (kdX μ) (μ.1 27) (μ.1 28) (μ.1 29) L).2.2.1 ∧ β.1 29 = (fTk (kdX μ) (μ.1 27) (μ.1 28) (μ.1 29) L).2.2.2 ∧ rdOk β T sN eN
def kRead (μ : kH) (L : Nat) (r : kV) (h' : kH) : Prop := ∃ (β : kH) (T : Nat) (sN eN : Nat → Nat), kBeg μ β L T sN eN ∧ ((T = 0 ∧ h' = β) ∨ (0 < T ∧ Rd T sN eN 21 β 0 h')) ∧ r = ki (gdX h')

set_option maxHeartbeats 400000 in
set_option maxRecDepth 100000 in
theorem ev_readAll {μ : kH} {L : Nat} (hL : L ≤ 200) (hz : μ.1 14 1 = nI L) : Ev kX8_readAll [kr 21] μ (kRead μ L) := by
  refine k_ev (ls := [_, _, _]) (by decide) (Nat.le_of_ble_eq_true rfl) rfl ?_
  refine k_aload_n (pc' := 1) dX8_readAll_0 rfl rfl ?_
  refine k_callV0 (pc' := 4) dX8_readAll_1 rfl ml_RX8_36 rfl rfl ⟨(Nat.le_of_ble_eq_true rfl), (Nat.le_of_ble_eq_true rfl)⟩ (Nat.le_of_ble_eq_true rfl) (ev_X8_cutTokens hL hz) (fun r_1 h_1 q_1 => ?_)
  obtain ⟨e1, q, h6, h7, h1, h27, h28, h29⟩ := q_1
  rw [e1]
  refine k_aload_n (pc' := 5) dX8_readAll_4 rfl rfl ?_
  refine k_getR (pc' := 8) fl_RX8_12 dX8_readAll_5 rfl rfl rfl ?_
  refine k_iconst (pc' := 9) (v := 0) dX8_readAll_8 rfl (by decide) ?_
  refine k_putI (pc' := 12) fw_RX8_39 dX8_readAll_9 rfl rfl rfl ?_
  refine k_aload_n (pc' := 13) dX8_readAll_12 rfl rfl ?_
  refine k_iconst (pc' := 14) (v := (-1)) dX8_readAll_13 rfl (by decide) ?_
  refine k_putI (pc' := 17) fw_RX8_18 dX8_readAll_14 rfl rfl rfl ?_
  generalize hβ : hI (hI h_1 22 4 0) 21 1 (-1) = β
  have hle := fTk_le (kdX μ) (μ.1 27) (μ.1 28) (μ.1 29) L
  have hok := fTk_ok (kdX μ) (μ.1 27) (μ.1 28) (μ.1 29) L
  have b27 : β.1 27 = (fTk (kdX μ) (μ.1 27) (μ.1 28) (μ.1 29) L).2.1 := by rw [← hβ]; exact h27
  have b28 : β.1 28 = (fTk (kdX μ) (μ.1 27) (μ.1 28) (μ.1 29) L).2.2.1 := by rw [← hβ]; exact h28
  have b29 : β.1 29 = (fTk (kdX μ) (μ.1 27) (μ.1 28) (μ.1 29) L).2.2.2 := by rw [← hβ]; exact h29
  have b6 : β.1 21 6 = nI (fTk (kdX μ) (μ.1 27) (μ.1 28) (μ.1 29) L).1 := by rw [← hβ]; exact h6
  have b7 : β.1 21 7 = nI 0 := by rw [← hβ]; exact h7
  have b1 : β.1 21 1 = -1 := by rw [← hβ]; exact hI_at _ _ _ _
  have b4 : β.1 22 4 = 0 := by rw [← hβ]; exact (show (hI h_1 22 4 0).1 22 4 = 0 from hI_at _ _ _ _)
  have bq : fr [21, 22, 27, 28, 29] μ β := by rw [← hβ]; exact fr_I (fr_I (fr_tr q (fr_rf _ _) (by decide)) (by decide)) (by decide)
  obtain ⟨sN, hsN⟩ : ∃ f : Nat → Nat, ∀ t, t < (fTk (kdX μ) (μ.1 27) (μ.1 28) (μ.1 29) L).1 → ∃ b, (fTk (kdX μ) (μ.1 27) (μ.1 28) (μ.1 29) L).2.1 t = nI (f t) ∧ (fTk (kdX μ) (μ.1 27) (μ.1 28) (μ.1 29) L).2.2.1 t = nI b ∧ f t < b ∧ b ≤ L := by
    refine ⟨fun t => ((fTk (kdX μ) (μ.1 27) (μ.1 28) (μ.1 29) L).2.1 t).toNatClampNeg, fun t ht => ?_⟩
    obtain ⟨x, y, z1, z2, z3, z4⟩ := hok t ht
    refine ⟨y, ?_, z2, ?_, z4⟩
    · dsimp only; rw [z1, nI_clamp (by omega)]
    · dsimp only; rw [z1, nI_clamp (by omega)]; exact z3
  obtain ⟨eN, heN⟩ : ∃ f : Nat → Nat, ∀ t, t < (fTk (kdX μ) (μ.1 27) (μ.1 28) (μ.1 29) L).1 → (fTk (kdX μ) (μ.1 27) (μ.1 28) (μ.1 29) L).2.1 t = nI (sN t) ∧ (fTk (kdX μ) (μ.1 27) (μ.1 28) (μ.1 29) L).2.2.1 t = nI (f t) ∧ sN t < f t ∧ f t ≤ L := by
    refine ⟨fun t => ((fTk (kdX μ) (μ.1 27) (μ.1 28) (μ.1 29) L).2.2.1 t).toNatClampNeg, fun t ht => ?_⟩
    obtain ⟨y, z1, z2, z3, z4⟩ := hsN t ht
    refine ⟨z1, ?_, ?_, ?_⟩
    · dsimp only; rw [z2, nI_clamp (by omega)]
    · dsimp only; rw [z2, nI_clamp (by omega)]; exact z3
    · dsimp only; rw [z2, nI_clamp (by omega)]; exact z4
  have hrd : rdOk β (fTk (kdX μ) (μ.1 27) (μ.1 28) (μ.1 29) L).1 sN eN := ⟨by omega, b6, by rw [bq.1 14 (by decide), hz, nI_toInt (by omega)]; omega, fun t ht => by
    obtain ⟨z1, z2, z3, z4⟩ := heN t ht
    exact ⟨by rw [b27]; exact z1, by rw [b28]; exact z2, z3, by omega⟩⟩
  have hbeg : kBeg μ β L (fTk (kdX μ) (μ.1 27) (μ.1 28) (μ.1 29) L).1 sN eN := ⟨bq, b4, b1, rfl, b27, b28, b29, hrd⟩
  refine k_aload_n (pc' := 18) dX8_readAll_17 rfl rfl ?_
  refine k_getI (pc' := 21) fl_RX8_42 dX8_readAll_18 rfl rfl rfl ?_
  rw [b6]
  refine k_if_le (pc' := 24) (tg := 28) dX8_readAll_21 rfl (by decide) (fun c_21 => ?_) (fun c_21 => ?_)
  · skip
    have hT0 : (fTk (kdX μ) (μ.1 27) (μ.1 28) (μ.1 29) L).1 = 0 := by
      rcases Nat.eq_zero_or_pos (fTk (kdX μ) (μ.1 27) (μ.1 28) (μ.1 29) L).1 with z | z
      · exact z
      · exact absurd c_21 (nI_nle z (by omega))
    refine k_iconst (pc' := 29) (v := 0) dX8_readAll_28 rfl (by decide) ?_
    refine k_istore_n (pc' := 30) (k0 := 0) (ls' := [_, _, _]) dX8_readAll_29 rfl (by decide) rfl ?_
    refine k_iconst (pc' := 31) (v := 0) dX8_readAll_30 rfl (by decide) ?_
    refine k_istore_n (pc' := 32) (k0 := 0) (ls' := [_, _, _]) dX8_readAll_31 rfl (by decide) rfl ?_
    refine lp_end (j := 0) (by omega) ⟨β, (fTk (kdX μ) (μ.1 27) (μ.1 28) (μ.1 29) L).1, sN, eN, hbeg, Or.inl ⟨hT0, rfl⟩, rfl⟩
  · skip
    have hT0 : 0 < (fTk (kdX μ) (μ.1 27) (μ.1 28) (μ.1 29) L).1 := by
      rcases Nat.eq_zero_or_pos (fTk (kdX μ) (μ.1 27) (μ.1 28) (μ.1 29) L).1 with z | z
      · exact absurd (by rw [z]; decide) c_21
      · exact z
    refine k_iconst (pc' := 25) (v := 1) dX8_readAll_24 rfl (by decide) ?_
    refine k_goto (tg := 29) dX8_readAll_25 (by decide) ?_
    refine k_istore_n (pc' := 30) (k0 := 0) (ls' := [_, _, _]) dX8_readAll_29 rfl (by decide) rfl ?_
    refine k_iconst (pc' := 31) (v := 0) dX8_readAll_30 rfl (by decide) ?_
    refine k_istore_n (pc' := 32) (k0 := 0) (ls' := [_, _, _]) dX8_readAll_31 rfl (by decide) rfl ?_
    refine k_heq (tk_id b7).symm ?_
    refine k_seq (lp_readAll 21 0 β 0 (by omega) (by omega) hrd (by omega) b4) (fun pc1 ls1 st1 κ hκ => k_done ?_)
    rcases hκ with ⟨w, z1, z2, z3, z4, z5⟩ | ⟨w, -, -, -, z4, z5⟩ | ⟨-, -, -, z4, z5⟩
    · exact Or.inl ⟨w, z1, z2, z3, β, _, sN, eN, hbeg, Or.inr ⟨hT0, z4⟩, z5⟩
    · cases z5
    · cases z5

def becH (ν : kH) : kH := hI (hs (hs (hs (hs ν.1 17 (va_cpy (ν.1 23) (ν.1 17) 0 0 20)) 18 (va_cpy (ν.1 24) (ν.1 18) 0 0 20)) 19 (va_cpy (ν.1 25) (ν.1 19) 0 0 20)) 20 (va_cpy (ν.1 26) (ν.1 20) 0 0 20), ν.2) 16 4 (ν.1 22 4)
theorem ev_X9_become2 {μ : kH} : Ev kX9_become [kr 16, kr 22] μ (fun r h' => r = ku ∧ h' = becH μ) := ev_X9_become

set_option maxHeartbeats 400000 in
set_option maxRecDepth 100000 in
theorem ev_X10_tithes {μ : kH} {L : Nat} (hL : L ≤ 200) (hz : μ.1 14 1 = nI L) : Ev kX10_tithes [kr 0] μ (fun r h' => ∃ κ : kH, kRead μ L (ki (gdX κ)) κ ∧ ((gdX κ = 0 ∧ r = ki (-6) ∧ h' = hI (hI κ 14 1 0) 0 11 (-6)) ∨ (gdX κ = 1 ∧ r = ki (κ.1 22 4) ∧ h' = hI (becH (hI κ 14 1 0)) 0 11 0))) := by
  refine k_ev (ls := [_, _]) (by decide) (Nat.le_of_ble_eq_true rfl) rfl ?_
  refine k_aload_n (pc' := 1) dX10_tithes_0 rfl rfl ?_
  refine k_getR (pc' := 4) fl_RX10_58 dX10_tithes_1 rfl rfl rfl ?_
  refine k_callV0 (pc' := 7) dX10_tithes_4 rfl ml_RX10_176 rfl rfl ⟨(Nat.le_of_ble_eq_true rfl), (Nat.le_of_ble_eq_true rfl)⟩ (Nat.le_of_ble_eq_true rfl) (ev_readAll hL hz) (fun r_4 h_4 q_4 => ?_)
  obtain ⟨β, T, sN, eN, hb1, hb2, e_4⟩ := q_4
  have hkr : kRead μ L (ki (gdX h_4)) h_4 := ⟨β, T, sN, eN, hb1, hb2, rfl⟩
  rw [e_4]
  refine k_istore_n (pc' := 8) (k0 := 0) (ls' := [_, _]) dX10_tithes_7 rfl (by decide) rfl ?_
  refine k_aload_n (pc' := 9) dX10_tithes_8 rfl rfl ?_
  refine k_getR (pc' := 12) fl_RX10_42 dX10_tithes_9 rfl rfl rfl ?_
  refine k_iconst (pc' := 13) (v := 0) dX10_tithes_12 rfl (by decide) ?_
  refine k_putI (pc' := 16) fw_RX10_173 dX10_tithes_13 rfl rfl rfl ?_
  refine k_iload_n (pc' := 17) dX10_tithes_16 rfl rfl ?_
  refine k_if_ne (pc' := 20) (tg := 27) dX10_tithes_17 rfl (by decide) (fun c_17 => ?_) (fun c_17 => ?_)
  · skip
    have hg : gdX h_4 = 1 := by
      have z : gdX h_4 = 0 ∨ gdX h_4 = 1 := by unfold gdX; split <;> simp
      exact z.resolve_left c_17
    refine k_aload_n (pc' := 28) dX10_tithes_27 rfl rfl ?_
    refine k_getR (pc' := 31) fl_RX10_49 dX10_tithes_28 rfl rfl rfl ?_
    refine k_aload_n (pc' := 32) dX10_tithes_31 rfl rfl ?_
    refine k_getR (pc' := 35) fl_RX10_58 dX10_tithes_32 rfl rfl rfl ?_
    refine k_getR (pc' := 38) fl_RX10_179 dX10_tithes_35 rfl rfl rfl ?_
    refine k_callV1 (pc' := 41) dX10_tithes_38 rfl ml_RX10_182 rfl rfl ⟨(Nat.le_of_ble_eq_true rfl), (Nat.le_of_ble_eq_true rfl)⟩ (Nat.le_of_ble_eq_true rfl) ev_X9_become2 (fun r_38 h_38 q_38 => ?_)
    obtain ⟨e_38, g_38⟩ := q_38
    rw [e_38, g_38]
    refine k_aload_n (pc' := 42) dX10_tithes_41 rfl rfl ?_
    refine k_aload_n (pc' := 43) dX10_tithes_42 rfl rfl ?_
    refine k_getR (pc' := 46) fl_RX10_49 dX10_tithes_43 rfl rfl rfl ?_
    refine k_getI (pc' := 49) fl_RX10_186 dX10_tithes_46 rfl rfl rfl ?_
    refine k_callV1 (pc' := 52) dX10_tithes_49 rfl ml_RX10_97 rfl rfl ⟨(Nat.le_of_ble_eq_true rfl), (Nat.le_of_ble_eq_true rfl)⟩ (Nat.le_of_ble_eq_true rfl) ev_X10_done (fun r_49 h_49 q_49 => ?_)
    obtain ⟨e_49, g_49⟩ := q_49
    rw [e_49, g_49]
    exact k_iret dX10_tithes_52 rfl ⟨h_4, hkr, Or.inr ⟨hg, rfl, rfl⟩⟩
  · skip
    have hg : gdX h_4 = 0 := c_17
    refine k_aload_n (pc' := 21) dX10_tithes_20 rfl rfl ?_
    refine k_bipush (pc' := 23) (v := (-6)) dX10_tithes_21 rfl (by decide) ?_
    refine k_callV1 (pc' := 26) dX10_tithes_23 rfl ml_RX10_89 rfl rfl ⟨(Nat.le_of_ble_eq_true rfl), (Nat.le_of_ble_eq_true rfl)⟩ (Nat.le_of_ble_eq_true rfl) ev_X10_refused (fun r_23 h_23 q_23 => ?_)
    obtain ⟨e_23, g_23⟩ := q_23
    rw [e_23, g_23]
    exact k_iret dX10_tithes_26 rfl ⟨h_4, hkr, Or.inl ⟨hg, rfl, rfl⟩⟩

