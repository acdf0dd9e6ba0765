theorem hI_hI (μ : kH) (k j : Nat) (v w : Int32) : hI (hI μ k j v) k j w = hI μ k j w := by
  rw [hI_eq (hI μ k j v), hI_eq μ, hI_eq μ]
  simp only [hs_self, hs_hs, upd_upd]
/-- the reader at token t; its fault there -/
def tk (μ : kH) (t : Nat) : kH := hI μ 21 7 (nI t)
def ftV (μ : kH) (T : Nat) (sN : Nat → Nat) (t : Nat) : Int32 := if t < T then nI (sN t) else μ.1 14 1
theorem tk_tk (μ : kH) (s t : Nat) : tk (tk μ s) t = tk μ t := hI_hI _ _ _ _ _
theorem tk_at (μ : kH) (t : Nat) : (tk μ t).1 21 7 = nI t := hI_at _ _ _ _
theorem rdOk_tk {μ : kH} {T : Nat} {sN eN : Nat → Nat} (q : rdOk μ T sN eN) (t : Nat) : rdOk (tk μ t) T sN eN := q
theorem ev_skip {μ : kH} {T t i : Nat} {sN eN : Nat → Nat} (hi : i < 8) (hr : rdOk μ T sN eN) (ht : t ≤ 200) : Ev kX8_skipsWord [kr 21, kr (1000 + i)] (tk μ t) (fun r h' => (t < T ∧ mtX μ sN eN i t ∧ r = ki 1 ∧ h' = tk μ (t + 1)) ∨ (¬ (t < T ∧ mtX μ sN eN i t) ∧ r = ki 0 ∧ h' = tk μ t)) := by
  refine k_evm (ev_X8_skipsWord (μ := tk μ t) hi (rdOk_tk hr t) (tk_at μ t) ht) (fun r h' z => ?_)
  rcases z with ⟨z1, z2, z3, z4⟩ | ⟨z1, z2, z3⟩
  · exact Or.inl ⟨z1, z2, z3, by rw [z4]; exact hI_hI _ _ _ _ _⟩
  · exact Or.inr ⟨z1, z2, z3⟩
theorem ev_wrong {μ : kH} {T t : Nat} {sN eN : Nat → Nat} (hr : rdOk μ T sN eN) (ht : t ≤ 200) : Ev kX8_wrongHere [kr 21] (tk μ t) (fun r h' => r = ki 0 ∧ h' = hI (tk μ t) 21 1 (ftV μ T sN t)) := by
  have hT := hr.1
  have e6 : (tk μ t).1 21 6 = nI T := hr.2.1
  refine k_evm (ev_X8_wrongHere (μ := tk μ t) (fun z => ?_)) (fun r h' z => ⟨z.1, ?_⟩)
  · rw [tk_at, e6] at z
    rw [tk_at]
    exact vp_in_nI (by
      rcases Nat.lt_or_ge t 200 with q | q
      · exact q
      · exact absurd z (nI_nlt (by omega) (by omega))) (by decide)
  · rw [z.2, tk_at, e6, nI_clamp (by omega)]
    congr 1
    unfold ftV
    by_cases q : t < T
    · rw [if_pos q, if_pos (nI_lt q (by omega))]
      exact (hr.2.2.2 t q).1
    · rw [if_neg q, if_neg (nI_nlt (by omega) (by omega))]
      rfl

set_option maxHeartbeats 400000 in
set_option maxRecDepth 100000 in
theorem ev_need {μ : kH} {T t i : Nat} {sN eN : Nat → Nat} (hi : i < 8) (hr : rdOk μ T sN eN) (ht : t ≤ 200) : Ev kX8_needsWord [kr 21, kr (1000 + i)] (tk μ t) (fun r h' => (t < T ∧ mtX μ sN eN i t ∧ r = ki 1 ∧ h' = tk μ (t + 1)) ∨ (¬ (t < T ∧ mtX μ sN eN i t) ∧ r = ki 0 ∧ h' = hI (tk μ t) 21 1 (ftV μ T sN t))) := by
  refine k_ev (ls := [_, _]) (by decide) (Nat.le_of_ble_eq_true rfl) rfl ?_
  refine k_aload_n (pc' := 1) dX8_needsWord_0 rfl rfl ?_
  refine k_aload_n (pc' := 2) dX8_needsWord_1 rfl rfl ?_
  refine k_callV1 (pc' := 5) dX8_needsWord_2 rfl ml_RX8_72 rfl rfl ⟨(Nat.le_of_ble_eq_true rfl), (Nat.le_of_ble_eq_true rfl)⟩ (Nat.le_of_ble_eq_true rfl) (ev_skip hi hr ht) (fun r_2 h_2 q_2 => ?_)
  rcases q_2 with ⟨z1, z2, z3, z4⟩ | ⟨z1, z3, z4⟩
  · rw [z3, z4]
    refine k_if_ne (pc' := 8) (tg := 15) dX8_needsWord_5 rfl (by decide) (fun c_5 => ?_) (fun c_5 => ?_)
    · skip
      refine k_iconst (pc' := 16) (v := 1) dX8_needsWord_15 rfl (by decide) ?_
      refine k_goto (tg := 20) dX8_needsWord_16 (by decide) ?_
      exact k_zret dX8_needsWord_20 rfl (by first | decide | exact k_nz) (Or.inl ⟨z1, z2, rfl, rfl⟩)
    · exfalso
      exact absurd c_5 (by decide)
  rw [z3, z4]
  refine k_if_ne (pc' := 8) (tg := 15) dX8_needsWord_5 rfl (by decide) (fun c_5 => ?_) (fun c_5 => ?_)
  · exfalso
    exact c_5 rfl
  · skip
    refine k_aload_n (pc' := 9) dX8_needsWord_8 rfl rfl ?_
    refine k_callV0 (pc' := 12) dX8_needsWord_9 rfl ml_RX8_67 rfl rfl ⟨(Nat.le_of_ble_eq_true rfl), (Nat.le_of_ble_eq_true rfl)⟩ (Nat.le_of_ble_eq_true rfl) (ev_wrong hr ht) (fun r_9 h_9 q_9 => ?_)
    obtain ⟨e_9, g_9⟩ := q_9
    rw [e_9, g_9]
    refine k_if_eq (pc' := 15) (tg := 19) dX8_needsWord_12 rfl (by decide) (fun c_12 => ?_) (fun c_12 => ?_)
    · skip
      refine k_iconst (pc' := 20) (v := 0) dX8_needsWord_19 rfl (by decide) ?_
      exact k_zret dX8_needsWord_20 rfl (by first | decide | exact k_nz) (Or.inr ⟨z1, rfl, rfl⟩)
    · exfalso
      exact c_12 rfl

def fNm (μ : kH) (a : Nat) : Nat → Int32
  | 0 => 0
  | j + 1 => if 10001 < fNm μ a j * 10 + k_byte μ (nI (a + j)) - 48 then 10001 else fNm μ a j * 10 + k_byte μ (nI (a + j)) - 48

set_option maxHeartbeats 400000 in
set_option maxRecDepth 100000 in
theorem lp_numberHere {μ : kH} {T t : Nat} {sN eN : Nat → Nat} (hr : rdOk μ T sN eN) (ht : t ≤ 200) (htT : t < T) (hk2 : μ.1 29 t = 2) : ∀ (n j : Nat), j + n = eN t - sN t → At kX8_numberHere 38 [kr 21, ki (fNm μ (sN t) j), ki (nI (sN t + j))] [] (tk μ t) (kRet kX8_numberHere (fun r h' => ((t < T ∧ μ.1 29 t = 2 ∧ r = ki (fNm μ (sN t) (eN t - sN t))) ∨ (¬ (t < T ∧ μ.1 29 t = 2) ∧ r = ki (-1))) ∧ h' = tk μ t)) := by
  have hst := hr.2.2.2 t htT
  have hT := hr.1
  intro n
  induction n with
  | zero =>
    intro j hj
    refine k_iload_n (pc' := 39) dX8_numberHere_38 rfl rfl ?_
    refine k_aload_n (pc' := 40) dX8_numberHere_39 rfl rfl ?_
    refine k_getR (pc' := 43) fl_RX8_26 dX8_numberHere_40 rfl rfl rfl ?_
    refine k_aload_n (pc' := 44) dX8_numberHere_43 rfl rfl ?_
    refine k_getI (pc' := 47) fl_RX8_52 dX8_numberHere_44 rfl rfl rfl ?_
    rw [tk_at]
    refine k_ialdN (pc' := 48) dX8_numberHere_47 rfl rfl (by omega) (by decide) ?_
    rw [show (tk μ t).1 28 t = nI (eN t) from hst.2.1]
    refine k_icmp_ge (pc' := 51) (tg := 80) dX8_numberHere_48 rfl (by decide) (fun c_48 => ?_) (fun c_48 => ?_)
    · skip
      refine k_iload_n (pc' := 81) dX8_numberHere_80 rfl rfl ?_
      exact k_iret dX8_numberHere_81 rfl ⟨Or.inl ⟨htT, hk2, by rw [show eN t - sN t = j from by omega]⟩, rfl⟩
    · exfalso
      exact c_48 (by rw [show sN t + j = eN t from by omega]; exact Int32.le_refl _)
  | succ n ih =>
    intro j hj
    refine k_iload_n (pc' := 39) dX8_numberHere_38 rfl rfl ?_
    refine k_aload_n (pc' := 40) dX8_numberHere_39 rfl rfl ?_
    refine k_getR (pc' := 43) fl_RX8_26 dX8_numberHere_40 rfl rfl rfl ?_
    refine k_aload_n (pc' := 44) dX8_numberHere_43 rfl rfl ?_
    refine k_getI (pc' := 47) fl_RX8_52 dX8_numberHere_44 rfl rfl rfl ?_
    rw [tk_at]
    refine k_ialdN (pc' := 48) dX8_numberHere_47 rfl rfl (by omega) (by decide) ?_
    rw [show (tk μ t).1 28 t = nI (eN t) from hst.2.1]
    refine k_icmp_ge (pc' := 51) (tg := 80) dX8_numberHere_48 rfl (by decide) (fun c_48 => ?_) (fun c_48 => ?_)
    · exfalso
      exact nI_ge (show sN t + j < eN t by omega) (by omega) c_48
    · skip
      refine k_iload_n (pc' := 52) dX8_numberHere_51 rfl rfl ?_
      refine k_bipush (pc' := 54) (v := 10) dX8_numberHere_52 rfl (by decide) ?_
      refine k_imul (pc' := 55) dX8_numberHere_54 rfl ?_
      refine k_aload_n (pc' := 56) dX8_numberHere_55 rfl rfl ?_
      refine k_getR (pc' := 59) fl_RX8_32 dX8_numberHere_56 rfl rfl rfl ?_
      refine k_iload_n (pc' := 60) dX8_numberHere_59 rfl rfl ?_
      refine k_callV1 (pc' := 63) dX8_numberHere_60 rfl ml_RX8_120 rfl rfl ⟨(Nat.le_of_ble_eq_true rfl), (Nat.le_of_ble_eq_true rfl)⟩ (Nat.le_of_ble_eq_true rfl) (ev_X7_byteAt (μ := tk μ t) hr.2.2.1) (fun r_60 h_60 q_60 => ?_)
      obtain ⟨e_60, g_60⟩ := q_60
      rw [e_60, g_60, show k_byte (tk μ t) (nI (sN t + j)) = k_byte μ (nI (sN t + j)) from rfl]
      refine k_iadd (pc' := 64) dX8_numberHere_63 rfl ?_
      refine k_bipush (pc' := 66) (v := 48) dX8_numberHere_64 rfl (by decide) ?_
      refine k_isub (pc' := 67) dX8_numberHere_66 rfl ?_
      refine k_sipush (pc' := 70) (v := 10001) dX8_numberHere_67 rfl (by decide) ?_
      refine k_mmin (pc' := 73) dX8_numberHere_70 rfl ks_min_RX8_123 ⟨(Nat.le_of_ble_eq_true rfl), (Nat.le_of_ble_eq_true rfl)⟩ (Nat.le_of_ble_eq_true rfl) ?_
      refine k_istore_n (pc' := 74) (k0 := 0) (ls' := [_, _, _]) dX8_numberHere_73 rfl (by decide) rfl ?_
      refine k_iinc (pc' := 77) (v := nI (sN t + (j + 1))) (ls' := [_, _, _]) dX8_numberHere_74 rfl rfl (nI_1 (sN t + j)) (by decide) rfl ?_
      refine k_goto (tg := 38) dX8_numberHere_77 (by decide) ?_
      exact ih (j + 1) (by omega)

set_option maxHeartbeats 400000 in
set_option maxRecDepth 100000 in
theorem ev_num {μ : kH} {T t : Nat} {sN eN : Nat → Nat} (hr : rdOk μ T sN eN) (ht : t ≤ 200) : Ev kX8_numberHere [kr 21] (tk μ t) (fun r h' => ((t < T ∧ μ.1 29 t = 2 ∧ r = ki (fNm μ (sN t) (eN t - sN t))) ∨ (¬ (t < T ∧ μ.1 29 t = 2) ∧ r = ki (-1))) ∧ h' = tk μ t) := by
  have hT := hr.1
  have e6 : (tk μ t).1 21 6 = nI T := hr.2.1
  refine k_ev (ls := [_, _, _]) (by decide) (Nat.le_of_ble_eq_true rfl) rfl ?_
  refine k_aload_n (pc' := 1) dX8_numberHere_0 rfl rfl ?_
  refine k_getI (pc' := 4) fl_RX8_52 dX8_numberHere_1 rfl rfl rfl ?_
  refine k_aload_n (pc' := 5) dX8_numberHere_4 rfl rfl ?_
  refine k_getI (pc' := 8) fl_RX8_42 dX8_numberHere_5 rfl rfl rfl ?_
  rw [tk_at, e6]
  refine k_icmp_ge (pc' := 11) (tg := 24) dX8_numberHere_8 rfl (by decide) (fun c_8 => ?_) (fun c_8 => ?_)
  · skip
    have hbad : ¬ (t < T ∧ μ.1 29 t = 2) := fun z => nI_ge z.1 (by omega) c_8
    refine k_iconst (pc' := 25) (v := (-1)) dX8_numberHere_24 rfl (by decide) ?_
    exact k_iret dX8_numberHere_25 rfl ⟨Or.inr ⟨hbad, rfl⟩, rfl⟩
  · skip
    have htT : t < T := by
      rcases Nat.lt_or_ge t T with z | z
      · exact z
      · exact absurd (nI_le z (by omega)) c_8
    have hst := hr.2.2.2 t htT
    refine k_aload_n (pc' := 12) dX8_numberHere_11 rfl rfl ?_
    refine k_getR (pc' := 15) fl_RX8_29 dX8_numberHere_12 rfl rfl rfl ?_
    refine k_aload_n (pc' := 16) dX8_numberHere_15 rfl rfl ?_
    refine k_getI (pc' := 19) fl_RX8_52 dX8_numberHere_16 rfl rfl rfl ?_
    rw [tk_at]
    refine k_ialdN (pc' := 20) dX8_numberHere_19 rfl rfl (by omega) (by decide) ?_
    rw [show (tk μ t).1 29 t = μ.1 29 t from rfl]
    refine k_iconst (pc' := 21) (v := 2) dX8_numberHere_20 rfl (by decide) ?_
    refine k_icmp_eq (pc' := 24) (tg := 26) dX8_numberHere_21 rfl (by decide) (fun c_21 => ?_) (fun c_21 => ?_)
    · skip
      refine k_iconst (pc' := 27) (v := 0) dX8_numberHere_26 rfl (by decide) ?_
      refine k_istore_n (pc' := 28) (k0 := 0) (ls' := [_, _, _]) dX8_numberHere_27 rfl (by decide) rfl ?_
      refine k_aload_n (pc' := 29) dX8_numberHere_28 rfl rfl ?_
      refine k_getR (pc' := 32) fl_RX8_22 dX8_numberHere_29 rfl rfl rfl ?_
      refine k_aload_n (pc' := 33) dX8_numberHere_32 rfl rfl ?_
      refine k_getI (pc' := 36) fl_RX8_52 dX8_numberHere_33 rfl rfl rfl ?_
      rw [tk_at]
      refine k_ialdN (pc' := 37) dX8_numberHere_36 rfl rfl (by omega) (by decide) ?_
      rw [show (tk μ t).1 27 t = nI (sN t) from hst.1]
      refine k_istore_n (pc' := 38) (k0 := 0) (ls' := [_, _, _]) dX8_numberHere_37 rfl (by decide) rfl ?_
      exact lp_numberHere hr ht htT c_21 (eN t - sN t) 0 (by omega)
    · skip
      have hbad : ¬ (t < T ∧ μ.1 29 t = 2) := fun z => c_21 z.2
      refine k_iconst (pc' := 25) (v := (-1)) dX8_numberHere_24 rfl (by decide) ?_
      exact k_iret dX8_numberHere_25 rfl ⟨Or.inr ⟨hbad, rfl⟩, rfl⟩

set_option maxHeartbeats 400000 in
set_option maxRecDepth 100000 in
theorem ev_rnum {lo hg : Int32} {μ : kH} {T t : Nat} {sN eN : Nat → Nat} (hr : rdOk μ T sN eN) (ht : t ≤ 200) (hlo : 0 ≤ lo.toInt) : Ev kX8_readNumber [kr 21, ki lo, ki hg] (tk μ t) (fun r h' => (t < T ∧ μ.1 29 t = 2 ∧ lo ≤ fNm μ (sN t) (eN t - sN t) ∧ fNm μ (sN t) (eN t - sN t) ≤ hg ∧ r = ki (fNm μ (sN t) (eN t - sN t)) ∧ h' = tk μ (t + 1)) ∨ (¬ (t < T ∧ μ.1 29 t = 2 ∧ lo ≤ fNm μ (sN t) (eN t - sN t) ∧ fNm μ (sN t) (eN t - sN t) ≤ hg) ∧ r = ki (-1) ∧ h' = hI (tk μ t) 21 1 (ftV μ T sN t))) := by
  refine k_ev (ls := [_, _, _, _]) (by decide) (Nat.le_of_ble_eq_true rfl) rfl ?_
  refine k_aload_n (pc' := 1) dX8_readNumber_0 rfl rfl ?_
  refine k_callV0 (pc' := 4) dX8_readNumber_1 rfl ml_RX8_116 rfl rfl ⟨(Nat.le_of_ble_eq_true rfl), (Nat.le_of_ble_eq_true rfl)⟩ (Nat.le_of_ble_eq_true rfl) (ev_num hr ht) (fun r_1 h_1 q_1 => ?_)
  obtain ⟨z0, zh⟩ := q_1
  rw [zh]
  rcases z0 with ⟨z1, z2, z3⟩ | ⟨z1, z3⟩
  · rw [z3]
    refine k_istore_n (pc' := 5) (k0 := 0) (ls' := [_, _, _, _]) dX8_readNumber_4 rfl (by decide) rfl ?_
    refine k_iload_n (pc' := 6) dX8_readNumber_5 rfl rfl ?_
    refine k_iload_n (pc' := 7) dX8_readNumber_6 rfl rfl ?_
    refine k_icmp_lt (pc' := 10) (tg := 15) dX8_readNumber_7 rfl (by decide) (fun c_7 => ?_) (fun c_7 => ?_)
    · skip
      have hbad : ¬ (t < T ∧ μ.1 29 t = 2 ∧ lo ≤ (fNm μ (sN t) (eN t - sN t)) ∧ (fNm μ (sN t) (eN t - sN t)) ≤ hg) := fun z => k_len z.2.2.1 c_7
      refine k_aload_n (pc' := 16) dX8_readNumber_15 rfl rfl ?_
      refine k_callV0 (pc' := 19) dX8_readNumber_16 rfl ml_RX8_67 rfl rfl ⟨(Nat.le_of_ble_eq_true rfl), (Nat.le_of_ble_eq_true rfl)⟩ (Nat.le_of_ble_eq_true rfl) (ev_wrong hr ht) (fun r_16 h_16 q_16 => ?_)
      obtain ⟨e_16, g_16⟩ := q_16
      rw [e_16, g_16]
      refine k_pop (pc' := 20) dX8_readNumber_19 rfl rfl ?_
      refine k_iconst (pc' := 21) (v := (-1)) dX8_readNumber_20 rfl (by decide) ?_
      exact k_iret dX8_readNumber_21 rfl (Or.inr ⟨hbad, rfl, rfl⟩)
    · skip
      refine k_iload_n (pc' := 11) dX8_readNumber_10 rfl rfl ?_
      refine k_iload_n (pc' := 12) dX8_readNumber_11 rfl rfl ?_
      refine k_icmp_le (pc' := 15) (tg := 22) dX8_readNumber_12 rfl (by decide) (fun c_12 => ?_) (fun c_12 => ?_)
      · skip
        refine k_aload_n (pc' := 23) dX8_readNumber_22 rfl rfl ?_
        refine k_dup (pc' := 24) dX8_readNumber_23 rfl rfl ?_
        refine k_getI (pc' := 27) fl_RX8_52 dX8_readNumber_24 rfl rfl rfl ?_
        refine k_iconst (pc' := 28) (v := 1) dX8_readNumber_27 rfl (by decide) ?_
        refine k_iadd (pc' := 29) dX8_readNumber_28 rfl ?_
        rw [tk_at, nI_1]
        refine k_putI (pc' := 32) fw_RX8_52 dX8_readNumber_29 rfl rfl rfl ?_
        refine k_iload_n (pc' := 33) dX8_readNumber_32 rfl rfl ?_
        exact k_iret dX8_readNumber_33 rfl (Or.inl ⟨z1, z2, k_nlt c_7, c_12, rfl, hI_hI _ _ _ _ _⟩)
      · skip
        have hbad : ¬ (t < T ∧ μ.1 29 t = 2 ∧ lo ≤ (fNm μ (sN t) (eN t - sN t)) ∧ (fNm μ (sN t) (eN t - sN t)) ≤ hg) := fun z => c_12 z.2.2.2
        refine k_aload_n (pc' := 16) dX8_readNumber_15 rfl rfl ?_
        refine k_callV0 (pc' := 19) dX8_readNumber_16 rfl ml_RX8_67 rfl rfl ⟨(Nat.le_of_ble_eq_true rfl), (Nat.le_of_ble_eq_true rfl)⟩ (Nat.le_of_ble_eq_true rfl) (ev_wrong hr ht) (fun r_16 h_16 q_16 => ?_)
        obtain ⟨e_16, g_16⟩ := q_16
        rw [e_16, g_16]
        refine k_pop (pc' := 20) dX8_readNumber_19 rfl rfl ?_
        refine k_iconst (pc' := 21) (v := (-1)) dX8_readNumber_20 rfl (by decide) ?_
        exact k_iret dX8_readNumber_21 rfl (Or.inr ⟨hbad, rfl, rfl⟩)
  rw [z3]
  refine k_istore_n (pc' := 5) (k0 := 0) (ls' := [_, _, _, _]) dX8_readNumber_4 rfl (by decide) rfl ?_
  refine k_iload_n (pc' := 6) dX8_readNumber_5 rfl rfl ?_
  refine k_iload_n (pc' := 7) dX8_readNumber_6 rfl rfl ?_
  refine k_icmp_lt (pc' := 10) (tg := 15) dX8_readNumber_7 rfl (by decide) (fun c_7 => ?_) (fun c_7 => ?_)
  · skip
    refine k_aload_n (pc' := 16) dX8_readNumber_15 rfl rfl ?_
    refine k_callV0 (pc' := 19) dX8_readNumber_16 rfl ml_RX8_67 rfl rfl ⟨(Nat.le_of_ble_eq_true rfl), (Nat.le_of_ble_eq_true rfl)⟩ (Nat.le_of_ble_eq_true rfl) (ev_wrong hr ht) (fun r_16 h_16 q_16 => ?_)
    obtain ⟨e_16, g_16⟩ := q_16
    rw [e_16, g_16]
    refine k_pop (pc' := 20) dX8_readNumber_19 rfl rfl ?_
    refine k_iconst (pc' := 21) (v := (-1)) dX8_readNumber_20 rfl (by decide) ?_
    exact k_iret dX8_readNumber_21 rfl (Or.inr ⟨fun z => z1 ⟨z.1, z.2.1⟩, rfl, rfl⟩)
  · exfalso
    have z5 := k_nlt c_7
    rw [k_le, li_m1] at z5
    omega

