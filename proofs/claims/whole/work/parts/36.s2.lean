/-- the cut tape: T tokens, each from sN to eN -/
def rdOk (μ : kH) (T : Nat) (sN eN : Nat → Nat) : Prop := T ≤ 200 ∧ μ.1 21 6 = nI T ∧ (μ.1 14 1).toInt ≤ 200 ∧ ∀ t, t < T → μ.1 27 t = nI (sN t) ∧ μ.1 28 t = nI (eN t) ∧ sN t < eN t ∧ eN t ≤ 200
/-- token t is the word i -/
def mtX (μ : kH) (sN eN : Nat → Nat) (i t : Nat) : Prop := eN t - sN t = kLen.getD i 0 ∧ ∀ k, k < kLen.getD i 0 → k_byte μ (nI (sN t + k)) = (kByt.getD i []).getD k 0
theorem nI_sub {x y : Nat} (hxy : y ≤ x) : nI x - nI y = nI (x - y) := by
  obtain ⟨d, rfl⟩ : ∃ d, x = y + d := ⟨x - y, by omega⟩
  rw [← nI_add, show y + d - y = d by omega]
  grind

set_option maxHeartbeats 400000 in
set_option maxRecDepth 100000 in
theorem lp_X8_skipsWord {μ : kH} {T t i : Nat} {sN eN : Nat → Nat} (hi : i < 8) (hr : rdOk μ T sN eN) (ht : μ.1 21 7 = nI t) (ht2 : t ≤ 200) (htT : t < T) (hln : eN t - sN t = kLen.getD i 0) : ∀ (n j : Nat), j + n = kLen.getD i 0 → (∀ k, k < j → k_byte μ (nI (sN t + k)) = (kByt.getD i []).getD k 0) → At kX8_skipsWord 41 [kr 21, kr (1000 + i), ki (nI j)] [] μ (kRet kX8_skipsWord (fun r h' => (t < T ∧ mtX μ sN eN i t ∧ r = ki 1 ∧ h' = hI μ 21 7 (nI (t + 1))) ∨ (¬ (t < T ∧ mtX μ sN eN i t) ∧ r = ki 0 ∧ h' = μ))) := by
  have h10 := k_len8 i hi
  have hst := hr.2.2.2 t htT
  have hT := hr.1
  intro n
  induction n with
  | zero =>
    intro j hj hm
    refine k_iload_n (pc' := 42) dX8_skipsWord_41 rfl rfl ?_
    refine k_aload_n (pc' := 43) dX8_skipsWord_42 rfl rfl ?_
    refine k_callVS0 (pc' := 46) hi rfl dX8_skipsWord_43 rfl ml_RX8_126 ⟨(Nat.le_of_ble_eq_true rfl), (Nat.le_of_ble_eq_true rfl)⟩ (Nat.le_of_ble_eq_true rfl) (ev_J0_length_8abf5 hi) (fun r_43 h_43 q_43 => ?_)
    obtain ⟨e_43, g_43⟩ := q_43
    rw [e_43, g_43]
    refine k_icmp_ge (pc' := 49) (tg := 83) dX8_skipsWord_46 rfl (by decide) (fun c_46 => ?_) (fun c_46 => ?_)
    · skip
      refine k_aload_n (pc' := 84) dX8_skipsWord_83 rfl rfl ?_
      refine k_dup (pc' := 85) dX8_skipsWord_84 rfl rfl ?_
      refine k_getI (pc' := 88) fl_RX8_52 dX8_skipsWord_85 rfl rfl rfl ?_
      refine k_iconst (pc' := 89) (v := 1) dX8_skipsWord_88 rfl (by decide) ?_
      refine k_iadd (pc' := 90) dX8_skipsWord_89 rfl ?_
      rw [ht, nI_1]
      refine k_putI (pc' := 93) fw_RX8_52 dX8_skipsWord_90 rfl rfl rfl ?_
      refine k_iconst (pc' := 94) (v := 1) dX8_skipsWord_93 rfl (by decide) ?_
      exact k_zret dX8_skipsWord_94 rfl (by first | decide | exact k_nz) (Or.inl ⟨htT, ⟨hln, fun k hk => hm k (by omega)⟩, rfl, rfl⟩)
    · exfalso
      exact c_46 (by rw [show j = kLen.getD i 0 from by omega]; exact Int32.le_refl _)
  | succ n ih =>
    intro j hj hm
    have hk9 : j < kLen.getD i 0 := by omega
    refine k_iload_n (pc' := 42) dX8_skipsWord_41 rfl rfl ?_
    refine k_aload_n (pc' := 43) dX8_skipsWord_42 rfl rfl ?_
    refine k_callVS0 (pc' := 46) hi rfl dX8_skipsWord_43 rfl ml_RX8_126 ⟨(Nat.le_of_ble_eq_true rfl), (Nat.le_of_ble_eq_true rfl)⟩ (Nat.le_of_ble_eq_true rfl) (ev_J0_length_8abf5 hi) (fun r_43 h_43 q_43 => ?_)
    obtain ⟨e_43, g_43⟩ := q_43
    rw [e_43, g_43]
    refine k_icmp_ge (pc' := 49) (tg := 83) dX8_skipsWord_46 rfl (by decide) (fun c_46 => ?_) (fun c_46 => ?_)
    · exfalso
      exact nI_ge hk9 (by omega) c_46
    · skip
      refine k_aload_n (pc' := 50) dX8_skipsWord_49 rfl rfl ?_
      refine k_getR (pc' := 53) fl_RX8_32 dX8_skipsWord_50 rfl rfl rfl ?_
      refine k_aload_n (pc' := 54) dX8_skipsWord_53 rfl rfl ?_
      refine k_getR (pc' := 57) fl_RX8_22 dX8_skipsWord_54 rfl rfl rfl ?_
      refine k_aload_n (pc' := 58) dX8_skipsWord_57 rfl rfl ?_
      refine k_getI (pc' := 61) fl_RX8_52 dX8_skipsWord_58 rfl rfl rfl ?_
      rw [ht]
      refine k_ialdN (pc' := 62) dX8_skipsWord_61 rfl rfl (by omega) (by decide) ?_
      rw [hst.1]
      refine k_iload_n (pc' := 63) dX8_skipsWord_62 rfl rfl ?_
      refine k_iadd (pc' := 64) dX8_skipsWord_63 rfl ?_
      rw [nI_add]
      refine k_callV1 (pc' := 67) dX8_skipsWord_64 rfl ml_RX8_120 rfl rfl ⟨(Nat.le_of_ble_eq_true rfl), (Nat.le_of_ble_eq_true rfl)⟩ (Nat.le_of_ble_eq_true rfl) (ev_X7_byteAt hr.2.2.1) (fun r_64 h_64 q_64 => ?_)
      obtain ⟨e_64, g_64⟩ := q_64
      rw [e_64, g_64]
      refine k_aload_n (pc' := 68) dX8_skipsWord_67 rfl rfl ?_
      refine k_iload_n (pc' := 69) dX8_skipsWord_68 rfl rfl ?_
      refine k_callVS1 (pc' := 72) hi rfl dX8_skipsWord_69 rfl ml_RX8_130 ⟨(Nat.le_of_ble_eq_true rfl), (Nat.le_of_ble_eq_true rfl)⟩ (Nat.le_of_ble_eq_true rfl) (ev_J0_charAt_5068e hi hk9) (fun r_69 h_69 q_69 => ?_)
      obtain ⟨e_69, g_69⟩ := q_69
      rw [e_69, g_69]
      refine k_icmp_eq (pc' := 75) (tg := 77) dX8_skipsWord_72 rfl (by decide) (fun c_72 => ?_) (fun c_72 => ?_)
      · skip
        refine k_iinc (pc' := 80) (v := nI (_ + 1)) (ls' := [_, _, _]) dX8_skipsWord_77 rfl rfl (nI_1 _) (by decide) rfl ?_
        refine k_goto (tg := 41) dX8_skipsWord_80 (by decide) ?_
        exact ih (j + 1) (by omega) (fun k hk => by
          by_cases z : k = j
          · subst z; exact c_72
          · exact hm k (by omega))
      · skip
        refine k_iconst (pc' := 76) (v := 0) dX8_skipsWord_75 rfl (by decide) ?_
        exact k_zret dX8_skipsWord_76 rfl (by first | decide | exact k_nz) (Or.inr ⟨fun z => c_72 (z.2.2 j hk9), rfl, rfl⟩)

set_option maxHeartbeats 400000 in
set_option maxRecDepth 100000 in
theorem ev_X8_skipsWord {μ : kH} {T t i : Nat} {sN eN : Nat → Nat} (hi : i < 8) (hr : rdOk μ T sN eN) (ht : μ.1 21 7 = nI t) (ht2 : t ≤ 200) : Ev kX8_skipsWord [kr 21, kr (1000 + i)] μ (fun r h' => (t < T ∧ mtX μ sN eN i t ∧ r = ki 1 ∧ h' = hI μ 21 7 (nI (t + 1))) ∨ (¬ (t < T ∧ mtX μ sN eN i t) ∧ r = ki 0 ∧ h' = μ)) := by
  have h10 := k_len8 i hi
  have hT := hr.1
  refine k_ev (ls := [_, _, _]) (by decide) (Nat.le_of_ble_eq_true rfl) rfl ?_
  refine k_aload_n (pc' := 1) dX8_skipsWord_0 rfl rfl ?_
  refine k_getI (pc' := 4) fl_RX8_52 dX8_skipsWord_1 rfl rfl rfl ?_
  refine k_aload_n (pc' := 5) dX8_skipsWord_4 rfl rfl ?_
  refine k_getI (pc' := 8) fl_RX8_42 dX8_skipsWord_5 rfl rfl rfl ?_
  rw [ht, hr.2.1]
  refine k_icmp_ge (pc' := 11) (tg := 37) dX8_skipsWord_8 rfl (by decide) (fun c_8 => ?_) (fun c_8 => ?_)
  · skip
    have htT : ¬ t < T := fun z => nI_ge z (by omega) c_8
    refine k_iconst (pc' := 38) (v := 0) dX8_skipsWord_37 rfl (by decide) ?_
    exact k_zret dX8_skipsWord_38 rfl (by first | decide | exact k_nz) (Or.inr ⟨fun z => htT z.1, rfl, rfl⟩)
  · skip
    have htT : t < T := by
      rcases Nat.lt_or_ge t T with z | z
      · exact z
      · exact absurd (nI_le z (by omega)) c_8
    have hst := hr.2.2.2 t htT
    refine k_aload_n (pc' := 12) dX8_skipsWord_11 rfl rfl ?_
    refine k_getR (pc' := 15) fl_RX8_26 dX8_skipsWord_12 rfl rfl rfl ?_
    refine k_aload_n (pc' := 16) dX8_skipsWord_15 rfl rfl ?_
    refine k_getI (pc' := 19) fl_RX8_52 dX8_skipsWord_16 rfl rfl rfl ?_
    rw [ht]
    refine k_ialdN (pc' := 20) dX8_skipsWord_19 rfl rfl (by omega) (by decide) ?_
    refine k_aload_n (pc' := 21) dX8_skipsWord_20 rfl rfl ?_
    refine k_getR (pc' := 24) fl_RX8_22 dX8_skipsWord_21 rfl rfl rfl ?_
    refine k_aload_n (pc' := 25) dX8_skipsWord_24 rfl rfl ?_
    refine k_getI (pc' := 28) fl_RX8_52 dX8_skipsWord_25 rfl rfl rfl ?_
    rw [ht]
    refine k_ialdN (pc' := 29) dX8_skipsWord_28 rfl rfl (by omega) (by decide) ?_
    rw [hst.1, hst.2.1]
    refine k_isub (pc' := 30) dX8_skipsWord_29 rfl ?_
    rw [nI_sub (by omega)]
    refine k_aload_n (pc' := 31) dX8_skipsWord_30 rfl rfl ?_
    refine k_callVS0 (pc' := 34) hi rfl dX8_skipsWord_31 rfl ml_RX8_126 ⟨(Nat.le_of_ble_eq_true rfl), (Nat.le_of_ble_eq_true rfl)⟩ (Nat.le_of_ble_eq_true rfl) (ev_J0_length_8abf5 hi) (fun r_31 h_31 q_31 => ?_)
    obtain ⟨e_31, g_31⟩ := q_31
    rw [e_31, g_31]
    refine k_icmp_eq (pc' := 37) (tg := 39) dX8_skipsWord_34 rfl (by decide) (fun c_34 => ?_) (fun c_34 => ?_)
    · skip
      have hln : eN t - sN t = kLen.getD i 0 := (nI_eq (by omega) (by omega)).mp c_34
      refine k_iconst (pc' := 40) (v := 0) dX8_skipsWord_39 rfl (by decide) ?_
      refine k_istore_n (pc' := 41) (k0 := 0) (ls' := [_, _, _]) dX8_skipsWord_40 rfl (by decide) rfl ?_
      exact lp_X8_skipsWord hi hr ht ht2 htT hln (kLen.getD i 0) 0 (by omega) (fun k hk => absurd hk (by omega))
    · skip
      have hln : ¬ eN t - sN t = kLen.getD i 0 := fun z => c_34 (by rw [z])
      refine k_iconst (pc' := 38) (v := 0) dX8_skipsWord_37 rfl (by decide) ?_
      exact k_zret dX8_skipsWord_38 rfl (by first | decide | exact k_nz) (Or.inr ⟨fun z => hln z.2.1, rfl, rfl⟩)

