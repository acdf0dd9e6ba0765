theorem pOne_1 {μ : kH} {T t : Nat} {sN eN : Nat → Nat} {h' : kH} (q : pOne μ T sN eN t (ki 1) h') : ¬ 20 ≤ μ.1 22 4 ∧ ∃ (a b c d : Int32) (t2 : Nat), t2 ≤ T ∧ h' = tk (putH μ a b c d) t2 := by
  have no : ∀ {t0 : Nat} {h0 : kH}, ¬ koS μ T sN t0 (ki 1) h0 := fun z => absurd z.1 (by decide)
  rcases q with q | ⟨hf, q⟩
  · exact absurd q.2 no
  · refine ⟨hf, ?_⟩
    rcases q with ⟨-, q⟩ | ⟨-, -, q⟩ | ⟨-, -, -, q⟩ | ⟨-, -, -, -, q⟩ | ⟨-, -, -, -, q⟩
    · rcases q with ⟨-, -, z, e⟩ | ⟨-, e⟩ | ⟨-, -, e⟩ | ⟨-, -, -, e⟩
      · exact ⟨_, _, _, _, _, by have := z.1; omega, e.2⟩
      · exact absurd e no
      · exact absurd e no
      · exact absurd e no
    · rcases q with ⟨-, e⟩ | ⟨-, -, e⟩ | ⟨-, -, -, e⟩ | ⟨-, -, z, -, e⟩ | ⟨-, -, -, -, z, e⟩ | ⟨-, -, -, -, -, e⟩
      · exact absurd e no
      · exact absurd e no
      · exact absurd e no
      · exact ⟨_, _, _, _, _, by have := z.1; omega, e.2⟩
      · exact ⟨_, _, _, _, _, by have := z.1; omega, e.2⟩
      · exact absurd e no
    · rcases q with ⟨z, e⟩ | ⟨-, e⟩
      · exact ⟨_, _, _, _, _, by have := z.1; omega, e.2⟩
      · exact absurd e no
    · rcases q with ⟨z, e⟩ | ⟨-, e⟩
      · exact ⟨_, _, _, _, _, by have := z.1; omega, e.2⟩
      · exact absurd e no
    · exact absurd q no
theorem pOne_b {μ : kH} {T t : Nat} {sN eN : Nat → Nat} {r : kV} {h' : kH} (q : pOne μ T sN eN t r h') : r = ki 0 ∨ r = ki 1 := by
  rcases q with q | ⟨-, q⟩
  · exact Or.inl q.2.1
  · rcases q with ⟨-, q⟩ | ⟨-, -, q⟩ | ⟨-, -, -, q⟩ | ⟨-, -, -, -, q⟩ | ⟨-, -, -, -, q⟩
    · exact pPt_b q
    · exact pVn_b q
    · exact pSg_b q
    · exact pSg_b q
    · exact Or.inl q.1
theorem pSep_b {μ : kH} {T t : Nat} {sN eN : Nat → Nat} {r : kV} {h' : kH} (q : pSep μ T sN eN t r h') : r = ki 0 ∨ (r = ki 1 ∧ t < T ∧ h' = tk μ (t + 1)) := by
  rcases q with q | q | q
  · exact Or.inr ⟨q.2.1, q.1.1, q.2.2⟩
  · exact Or.inl q.2.2.1
  · exact Or.inl q.2.1
theorem rdOk_put {μ : kH} {T : Nat} {sN eN : Nat → Nat} (q : rdOk μ T sN eN) (a b c d : Int32) : rdOk (putH μ a b c d) T sN eN := q
/-- the reading of tithe after tithe -/
def Rd (T : Nat) (sN eN : Nat → Nat) : Nat → kH → Nat → kH → Prop
  | 0, _, _, _ => False
  | n + 1, μ, t, h' => (∃ r h1, pOne μ T sN eN t r h1 ∧ r = ki 0 ∧ h' = h1) ∨ ∃ a b c d t2, t2 ≤ T ∧ pOne μ T sN eN t (ki 1) (tk (putH μ a b c d) t2) ∧ ((∃ h2, pSep (putH μ a b c d) T sN eN t2 (ki 0) h2 ∧ h' = h2) ∨ (pSep (putH μ a b c d) T sN eN t2 (ki 1) (tk (putH μ a b c d) (t2 + 1)) ∧ Rd T sN eN n (putH μ a b c d) (t2 + 1) h'))
def gdX (μ : kH) : Int32 := if μ.1 21 1 = -1 then 1 else 0

set_option maxHeartbeats 400000 in
set_option maxRecDepth 100000 in
theorem lp_end {μ : kH} {j : Nat} (hj : j ≤ 21) {Q : kV → kH → Prop} (hQ : Q (ki (gdX μ)) μ) : At kX8_readAll 32 [kr 21, ki 0, ki (nI j)] [] μ (kRet kX8_readAll Q) := by
  refine k_iload_n (pc' := 33) dX8_readAll_32 rfl rfl ?_
  refine k_bipush (pc' := 35) (v := 20) dX8_readAll_33 rfl (by decide) ?_
  refine k_icmp_gt (pc' := 38) (tg := 68) dX8_readAll_35 rfl (by decide) (fun c_35 => ?_) (fun c_35 => ?_)
  · skip
    refine k_aload_n (pc' := 69) dX8_readAll_68 rfl rfl ?_
    refine k_getI (pc' := 72) fl_RX8_18 dX8_readAll_69 rfl rfl rfl ?_
    refine k_iconst (pc' := 73) (v := (-1)) dX8_readAll_72 rfl (by decide) ?_
    refine k_icmp_ne (pc' := 76) (tg := 80) dX8_readAll_73 rfl (by decide) (fun c_73 => ?_) (fun c_73 => ?_)
    · skip
      have hg : gdX μ = 0 := by unfold gdX; rw [if_neg c_73]
      refine k_iconst (pc' := 81) (v := 0) dX8_readAll_80 rfl (by decide) ?_
      exact k_zret dX8_readAll_81 rfl (by first | decide | exact k_nz) (by rw [hg] at hQ; exact hQ)
    · skip
      have hg : gdX μ = 1 := by unfold gdX; rw [if_pos c_73]
      refine k_iconst (pc' := 77) (v := 1) dX8_readAll_76 rfl (by decide) ?_
      refine k_goto (tg := 81) dX8_readAll_77 (by decide) ?_
      exact k_zret dX8_readAll_81 rfl (by first | decide | exact k_nz) (by rw [hg] at hQ; exact hQ)
  · skip
    refine k_iload_n (pc' := 39) dX8_readAll_38 rfl rfl ?_
    refine k_if_eq (pc' := 42) (tg := 68) dX8_readAll_39 rfl (by decide) (fun c_39 => ?_) (fun c_39 => ?_)
    · skip
      refine k_aload_n (pc' := 69) dX8_readAll_68 rfl rfl ?_
      refine k_getI (pc' := 72) fl_RX8_18 dX8_readAll_69 rfl rfl rfl ?_
      refine k_iconst (pc' := 73) (v := (-1)) dX8_readAll_72 rfl (by decide) ?_
      refine k_icmp_ne (pc' := 76) (tg := 80) dX8_readAll_73 rfl (by decide) (fun c_73 => ?_) (fun c_73 => ?_)
      · skip
        have hg : gdX μ = 0 := by unfold gdX; rw [if_neg c_73]
        refine k_iconst (pc' := 81) (v := 0) dX8_readAll_80 rfl (by decide) ?_
        exact k_zret dX8_readAll_81 rfl (by first | decide | exact k_nz) (by rw [hg] at hQ; exact hQ)
      · skip
        have hg : gdX μ = 1 := by unfold gdX; rw [if_pos c_73]
        refine k_iconst (pc' := 77) (v := 1) dX8_readAll_76 rfl (by decide) ?_
        refine k_goto (tg := 81) dX8_readAll_77 (by decide) ?_
        exact k_zret dX8_readAll_81 rfl (by first | decide | exact k_nz) (by rw [hg] at hQ; exact hQ)
    · exfalso
      exact c_39 rfl

set_option maxHeartbeats 400000 in
set_option maxRecDepth 100000 in
theorem lp_readAll {T : Nat} {sN eN : Nat → Nat} : ∀ (n i : Nat) (μ : kH) (t : Nat), i + n = 21 → i ≤ 20 → rdOk μ T sN eN → t ≤ 200 → μ.1 22 4 = nI i → At kX8_readAll 32 [kr 21, ki 1, ki (nI i)] [] (tk μ t) (kRet kX8_readAll (fun r h' => Rd T sN eN n μ t h' ∧ r = ki (gdX h'))) := by
  intro n
  induction n with
  | zero => intro i μ t hi hi2; omega
  | succ n ih =>
    intro i μ t hi hi2 hr ht hsz
    have e0 := nI_toInt (n := i) (by omega)
    refine k_iload_n (pc' := 33) dX8_readAll_32 rfl rfl ?_
    refine k_bipush (pc' := 35) (v := 20) dX8_readAll_33 rfl (by decide) ?_
    refine k_icmp_gt (pc' := 38) (tg := 68) dX8_readAll_35 rfl (by decide) (fun c_35 => ?_) (fun c_35 => ?_)
    · exfalso
      exact nI_nlt (a := 20) (b := i) hi2 (by decide) c_35
    · skip
      refine k_iload_n (pc' := 39) dX8_readAll_38 rfl rfl ?_
      refine k_if_eq (pc' := 42) (tg := 68) dX8_readAll_39 rfl (by decide) (fun c_39 => ?_) (fun c_39 => ?_)
      · exfalso
        exact absurd c_39 (by decide)
      · skip
        refine k_aload_n (pc' := 43) dX8_readAll_42 rfl rfl ?_
        refine k_callV0 (pc' := 46) dX8_readAll_43 rfl ml_RX8_45 rfl rfl ⟨(Nat.le_of_ble_eq_true rfl), (Nat.le_of_ble_eq_true rfl)⟩ (Nat.le_of_ble_eq_true rfl) (ev_one hr ht (by rw [hsz, e0]; omega)) (fun r_43 h_43 q_43 => ?_)
        rcases pOne_b q_43 with e_43 | e_43
        · rw [e_43]
          refine k_if_eq (pc' := 49) (tg := 60) dX8_readAll_46 rfl (by decide) (fun c_46 => ?_) (fun c_46 => ?_)
          · skip
            refine k_iconst (pc' := 61) (v := 0) dX8_readAll_60 rfl (by decide) ?_
            refine k_istore_n (pc' := 62) (k0 := 0) (ls' := [_, _, _]) dX8_readAll_61 rfl (by decide) rfl ?_
            refine k_iinc (pc' := 65) (v := nI (_ + 1)) (ls' := [_, _, _]) dX8_readAll_62 rfl rfl (nI_1 _) (by decide) rfl ?_
            refine k_goto (tg := 32) dX8_readAll_65 (by decide) ?_
            refine lp_end (j := i + 1) (by omega) ?_
            exact ⟨Or.inl ⟨_, _, q_43, e_43, rfl⟩, rfl⟩
          · exfalso
            exact c_46 rfl
        rw [e_43]
        rw [e_43] at q_43
        obtain ⟨hf, a, b, c, d, t2, ht2, e2⟩ := pOne_1 q_43
        rw [e2]
        rw [e2] at q_43
        have hT := hr.1
        have hi3 : i < 20 := by
          rcases Nat.lt_or_ge i 20 with z | z
          · exact z
          · exact absurd (by rw [hsz]; exact nI_le (a := 20) z (by omega)) hf
        refine k_if_eq (pc' := 49) (tg := 60) dX8_readAll_46 rfl (by decide) (fun c_46 => ?_) (fun c_46 => ?_)
        · exfalso
          exact absurd c_46 (by decide)
        · skip
          refine k_aload_n (pc' := 50) dX8_readAll_49 rfl rfl ?_
          refine k_callV0 (pc' := 53) dX8_readAll_50 rfl ml_RX8_49 rfl rfl ⟨(Nat.le_of_ble_eq_true rfl), (Nat.le_of_ble_eq_true rfl)⟩ (Nat.le_of_ble_eq_true rfl) (ev_sep (rdOk_put hr a b c d) (by omega)) (fun r_50 h_50 q_50 => ?_)
          rcases pSep_b q_50 with e_50 | ⟨e_50, hl2, e3⟩
          · rw [e_50]
            refine k_if_eq (pc' := 56) (tg := 60) dX8_readAll_53 rfl (by decide) (fun c_53 => ?_) (fun c_53 => ?_)
            · skip
              refine k_iconst (pc' := 61) (v := 0) dX8_readAll_60 rfl (by decide) ?_
              refine k_istore_n (pc' := 62) (k0 := 0) (ls' := [_, _, _]) dX8_readAll_61 rfl (by decide) rfl ?_
              refine k_iinc (pc' := 65) (v := nI (_ + 1)) (ls' := [_, _, _]) dX8_readAll_62 rfl rfl (nI_1 _) (by decide) rfl ?_
              refine k_goto (tg := 32) dX8_readAll_65 (by decide) ?_
              refine lp_end (j := i + 1) (by omega) ?_
              exact ⟨Or.inr ⟨a, b, c, d, t2, ht2, q_43, Or.inl ⟨h_50, e_50 ▸ q_50, rfl⟩⟩, rfl⟩
            · exfalso
              exact c_53 rfl
          rw [e_50, e3]
          refine k_if_eq (pc' := 56) (tg := 60) dX8_readAll_53 rfl (by decide) (fun c_53 => ?_) (fun c_53 => ?_)
          · exfalso
            exact absurd c_53 (by decide)
          · skip
            refine k_iconst (pc' := 57) (v := 1) dX8_readAll_56 rfl (by decide) ?_
            refine k_goto (tg := 61) dX8_readAll_57 (by decide) ?_
            refine k_istore_n (pc' := 62) (k0 := 0) (ls' := [_, _, _]) dX8_readAll_61 rfl (by decide) rfl ?_
            refine k_iinc (pc' := 65) (v := nI (_ + 1)) (ls' := [_, _, _]) dX8_readAll_62 rfl rfl (nI_1 _) (by decide) rfl ?_
            refine k_goto (tg := 32) dX8_readAll_65 (by decide) ?_
            have hn2 := ih (i + 1) (putH μ a b c d) (t2 + 1) (by omega) (by omega) (rdOk_put hr a b c d) (by omega) (by
              show (hI (hI (hI (hI (hI μ 23 _ a) 24 _ b) 25 _ c) 26 _ d) 22 4 (μ.1 22 4 + 1)).1 22 4 = _
              rw [hI_at, hsz, nI_1])
            refine k_seq hn2 (fun pc1 ls1 st1 κ hκ => k_done ?_)
            rcases hκ with ⟨w, z1, z2, z3, z4, z5⟩ | ⟨w, -, -, -, z4, z5⟩ | ⟨-, -, -, z4, z5⟩
            · exact Or.inl ⟨w, z1, z2, z3, Or.inr ⟨a, b, c, d, t2, ht2, q_43, Or.inr ⟨e3 ▸ e_50 ▸ q_50, z4⟩⟩, z5⟩
            · cases z5
            · cases z5

