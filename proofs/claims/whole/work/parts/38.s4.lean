theorem hI_comm (μ : kH) {k k' : Nat} (hk : k ≠ k') (j j' : Nat) (v v' : Int32) : hI (hI μ k j v) k' j' v' = hI (hI μ k' j' v') k j v := by
  have e1 : (hI μ k j v).1 k' = μ.1 k' := hs_ne _ _ (fun z => hk z.symm)
  have e2 : (hI μ k' j' v').1 k = μ.1 k := hs_ne _ _ hk
  rw [hI_eq (hI μ k j v), hI_eq (hI μ k' j' v'), e1, e2]
  refine Prod.ext ?_ rfl
  funext q
  show hs (hs μ.1 k _) k' _ q = hs (hs μ.1 k' _) k _ q
  simp only [hs]
  by_cases z1 : q = k
  · subst z1; rw [if_neg hk, if_pos rfl]
    rw [if_pos rfl]
  · by_cases z2 : q = k'
    · subst z2; rw [if_pos rfl, if_neg z1, if_pos rfl]
    · rw [if_neg z2, if_neg z1, if_neg z1, if_neg z2]
/-- a tithe is put into the draft -/
def putH (μ : kH) (a b c d : Int32) : kH := hI (hI (hI (hI (hI μ 23 (μ.1 22 4).toNatClampNeg a) 24 (μ.1 22 4).toNatClampNeg b) 25 (μ.1 22 4).toNatClampNeg c) 26 (μ.1 22 4).toNatClampNeg d) 22 4 (μ.1 22 4 + 1)
theorem putH_tk (μ : kH) (t : Nat) (a b c d : Int32) : putH (tk μ t) a b c d = tk (putH μ a b c d) t := by
  have e : (tk μ t).1 22 4 = μ.1 22 4 := rfl
  unfold putH
  rw [e]
  unfold tk
  rw [hI_comm μ (k := 21) (k' := 23) (by decide), hI_comm _ (k := 21) (k' := 24) (by decide), hI_comm _ (k := 21) (k' := 25) (by decide), hI_comm _ (k := 21) (k' := 26) (by decide), hI_comm _ (k := 21) (k' := 22) (by decide)]
theorem ev_put {a b c d : Int32} {μ : kH} {t : Nat} (hz : 0 ≤ (μ.1 22 4).toInt) (hz2 : (μ.1 22 4).toInt < 20) : Ev kX9_put [kr 22, ki a, ki b, ki c, ki d] (tk μ t) (fun r h' => r = ku ∧ h' = tk (putH μ a b c d) t) := by
  refine k_evm (ev_X9_put (μ := tk μ t) hz) (fun r h' q => ?_)
  rw [if_neg (show ¬ 20 ≤ (tk μ t).1 22 4 from fun z => by
    have z2 : (20 : Int32) ≤ μ.1 22 4 := z
    rw [k_le, li_20] at z2; omega)] at q
  exact ⟨q.1, by rw [q.2, ← putH_tk]; rfl⟩
def wX (μ : kH) (T : Nat) (sN eN : Nat → Nat) (i t : Nat) : Prop := t < T ∧ mtX μ sN eN i t
def vXt (μ : kH) (sN eN : Nat → Nat) (t : Nat) : Int32 := fNm μ (sN t) (eN t - sN t)
def nX (μ : kH) (T : Nat) (sN eN : Nat → Nat) (lo hg : Int32) (t : Nat) : Prop := t < T ∧ μ.1 29 t = 2 ∧ lo ≤ vXt μ sN eN t ∧ vXt μ sN eN t ≤ hg
def okS (μ : kH) (t : Nat) (a b c d : Int32) (r : kV) (h' : kH) : Prop := r = ki 1 ∧ h' = tk (putH μ a b c d) t
def koS (μ : kH) (T : Nat) (sN : Nat → Nat) (t : Nat) (r : kV) (h' : kH) : Prop := r = ki 0 ∧ h' = hI (tk μ t) 21 1 (ftV μ T sN t)
theorem ev_skip2 {μ : kH} {T t i : Nat} {sN eN : Nat → Nat} (hi : i < 8) (hr : rdOk μ T sN eN) (ht : t ≤ 200) : Ev kX8_skipsWord [kr 21, kr (1000 + i)] (tk μ t) (fun r h' => (wX μ T sN eN i t ∧ r = ki 1 ∧ h' = tk μ (t + 1)) ∨ (¬ wX μ T sN eN i t ∧ r = ki 0 ∧ h' = tk μ t)) := k_evm (ev_skip hi hr ht) (fun r h' q => q.imp (fun z => ⟨⟨z.1, z.2.1⟩, z.2.2⟩) (fun z => z))
theorem ev_need2 {μ : kH} {T t i : Nat} {sN eN : Nat → Nat} (hi : i < 8) (hr : rdOk μ T sN eN) (ht : t ≤ 200) : Ev kX8_needsWord [kr 21, kr (1000 + i)] (tk μ t) (fun r h' => (wX μ T sN eN i t ∧ r = ki 1 ∧ h' = tk μ (t + 1)) ∨ (¬ wX μ T sN eN i t ∧ koS μ T sN t r h')) := k_evm (ev_need hi hr ht) (fun r h' q => q.imp (fun z => ⟨⟨z.1, z.2.1⟩, z.2.2⟩) (fun z => z))
theorem ev_rnum2 {lo hg : Int32} {μ : kH} {T t : Nat} {sN eN : Nat → Nat} (hr : rdOk μ T sN eN) (ht : t ≤ 200) (hlo : 0 ≤ lo.toInt) : Ev kX8_readNumber [kr 21, ki lo, ki hg] (tk μ t) (fun r h' => (nX μ T sN eN lo hg t ∧ r = ki (vXt μ sN eN t) ∧ h' = tk μ (t + 1)) ∨ (¬ nX μ T sN eN lo hg t ∧ r = ki (-1) ∧ h' = hI (tk μ t) 21 1 (ftV μ T sN t))) := k_evm (ev_rnum hr ht hlo) (fun r h' q => q.imp (fun z => ⟨⟨z.1, z.2.1, z.2.2.1, z.2.2.2.1⟩, z.2.2.2.2⟩) (fun z => z))
theorem nX_ne {μ : kH} {T t : Nat} {sN eN : Nat → Nat} {lo hg : Int32} (q : nX μ T sN eN lo hg t) (hlo : 0 ≤ lo.toInt) : ¬ vXt μ sN eN t = -1 := fun z => by
  have e := q.2.2.1
  rw [z, k_le, li_m1] at e
  omega

set_option maxHeartbeats 400000 in
set_option maxRecDepth 100000 in
theorem ev_single {kd : Int32} {μ : kH} {T t : Nat} {sN eN : Nat → Nat} (hr : rdOk μ T sN eN) (ht : t ≤ 200) (hz : 0 ≤ (μ.1 22 4).toInt) (hz2 : (μ.1 22 4).toInt < 20) : Ev kX8_readSingle [kr 21, ki kd] (tk μ t) (fun r h' => (nX μ T sN eN 0 10000 t ∧ okS μ (t + 1) kd (vXt μ sN eN t) 0 0 r h') ∨ (¬ nX μ T sN eN 0 10000 t ∧ koS μ T sN t r h')) := by
  refine k_ev (ls := [_, _, _]) (by decide) (Nat.le_of_ble_eq_true rfl) rfl ?_
  refine k_aload_n (pc' := 1) dX8_readSingle_0 rfl rfl ?_
  refine k_iconst (pc' := 2) (v := 0) dX8_readSingle_1 rfl (by decide) ?_
  refine k_sipush (pc' := 5) (v := 10000) dX8_readSingle_2 rfl (by decide) ?_
  refine k_callV2 (pc' := 8) dX8_readSingle_5 rfl ml_RX8_97 rfl rfl ⟨(Nat.le_of_ble_eq_true rfl), (Nat.le_of_ble_eq_true rfl)⟩ (Nat.le_of_ble_eq_true rfl) (ev_rnum2 hr ht (by decide)) (fun r_5 h_5 q_5 => ?_)
  rcases q_5 with ⟨p_a, e_5, g_5⟩ | ⟨p_a, e_5, g_5⟩
  · rw [e_5, g_5]
    refine k_istore_n (pc' := 9) (k0 := 0) (ls' := [_, _, _]) dX8_readSingle_8 rfl (by decide) rfl ?_
    refine k_iload_n (pc' := 10) dX8_readSingle_9 rfl rfl ?_
    refine k_iconst (pc' := 11) (v := (-1)) dX8_readSingle_10 rfl (by decide) ?_
    refine k_icmp_ne (pc' := 14) (tg := 16) dX8_readSingle_11 rfl (by decide) (fun c_11 => ?_) (fun c_11 => ?_)
    · skip
      refine k_aload_n (pc' := 17) dX8_readSingle_16 rfl rfl ?_
      refine k_getR (pc' := 20) fl_RX8_12 dX8_readSingle_17 rfl rfl rfl ?_
      refine k_iload_n (pc' := 21) dX8_readSingle_20 rfl rfl ?_
      refine k_iload_n (pc' := 22) dX8_readSingle_21 rfl rfl ?_
      refine k_iconst (pc' := 23) (v := 0) dX8_readSingle_22 rfl (by decide) ?_
      refine k_iconst (pc' := 24) (v := 0) dX8_readSingle_23 rfl (by decide) ?_
      refine k_callV4 (pc' := 27) dX8_readSingle_24 rfl ml_RX8_108 rfl rfl ⟨(Nat.le_of_ble_eq_true rfl), (Nat.le_of_ble_eq_true rfl)⟩ (Nat.le_of_ble_eq_true rfl) (ev_put hz hz2) (fun r_24 h_24 q_24 => ?_)
      obtain ⟨e_24, g_24⟩ := q_24
      rw [e_24, g_24]
      refine k_iconst (pc' := 28) (v := 1) dX8_readSingle_27 rfl (by decide) ?_
      exact k_zret dX8_readSingle_28 rfl (by first | decide | exact k_nz) (Or.inl ⟨p_a, rfl, rfl⟩)
    · exfalso
      exact nX_ne p_a (by decide) c_11
  rw [e_5, g_5]
  refine k_istore_n (pc' := 9) (k0 := 0) (ls' := [_, _, _]) dX8_readSingle_8 rfl (by decide) rfl ?_
  refine k_iload_n (pc' := 10) dX8_readSingle_9 rfl rfl ?_
  refine k_iconst (pc' := 11) (v := (-1)) dX8_readSingle_10 rfl (by decide) ?_
  refine k_icmp_ne (pc' := 14) (tg := 16) dX8_readSingle_11 rfl (by decide) (fun c_11 => ?_) (fun c_11 => ?_)
  · exfalso
    exact c_11 rfl
  · skip
    refine k_iconst (pc' := 15) (v := 0) dX8_readSingle_14 rfl (by decide) ?_
    exact k_zret dX8_readSingle_15 rfl (by first | decide | exact k_nz) (Or.inr ⟨p_a, rfl, rfl⟩)

set_option maxHeartbeats 400000 in
set_option maxRecDepth 100000 in
theorem ev_part {μ : kH} {T t : Nat} {sN eN : Nat → Nat} (hr : rdOk μ T sN eN) (ht : t ≤ 200) (hz : 0 ≤ (μ.1 22 4).toInt) (hz2 : (μ.1 22 4).toInt < 20) : Ev kX8_readPart [kr 21] (tk μ t) (fun r h' => (nX μ T sN eN 0 10000 t ∧ wX μ T sN eN 1 (t + 1) ∧ nX μ T sN eN (if (vXt μ sN eN t) < 1 then 1 else (vXt μ sN eN t)) 10000 (t + 2) ∧ okS μ (t + 3) 0 (vXt μ sN eN t) (vXt μ sN eN (t + 2)) 0 r h') ∨ (¬ nX μ T sN eN 0 10000 t ∧ koS μ T sN t r h') ∨ (nX μ T sN eN 0 10000 t ∧ ¬ wX μ T sN eN 1 (t + 1) ∧ koS μ T sN (t + 1) r h') ∨ (nX μ T sN eN 0 10000 t ∧ wX μ T sN eN 1 (t + 1) ∧ ¬ nX μ T sN eN (if (vXt μ sN eN t) < 1 then 1 else (vXt μ sN eN t)) 10000 (t + 2) ∧ koS μ T sN (t + 2) r h')) := by
  refine k_ev (ls := [_, _, _]) (by decide) (Nat.le_of_ble_eq_true rfl) rfl ?_
  refine k_aload_n (pc' := 1) dX8_readPart_0 rfl rfl ?_
  refine k_iconst (pc' := 2) (v := 0) dX8_readPart_1 rfl (by decide) ?_
  refine k_sipush (pc' := 5) (v := 10000) dX8_readPart_2 rfl (by decide) ?_
  refine k_callV2 (pc' := 8) dX8_readPart_5 rfl ml_RX8_97 rfl rfl ⟨(Nat.le_of_ble_eq_true rfl), (Nat.le_of_ble_eq_true rfl)⟩ (Nat.le_of_ble_eq_true rfl) (ev_rnum2 hr ht (by decide)) (fun r_5 h_5 q_5 => ?_)
  rcases q_5 with ⟨p_a, e_5, g_5⟩ | ⟨p_a, e_5, g_5⟩
  · rw [e_5, g_5]
    refine k_istore_n (pc' := 9) (k0 := 0) (ls' := [_, _, _]) dX8_readPart_8 rfl (by decide) rfl ?_
    refine k_iload_n (pc' := 10) dX8_readPart_9 rfl rfl ?_
    refine k_iconst (pc' := 11) (v := (-1)) dX8_readPart_10 rfl (by decide) ?_
    refine k_icmp_eq (pc' := 14) (tg := 23) dX8_readPart_11 rfl (by decide) (fun c_11 => ?_) (fun c_11 => ?_)
    · exfalso
      exact nX_ne p_a (by decide) c_11
    · skip
      refine k_aload_n (pc' := 15) dX8_readPart_14 rfl rfl ?_
      refine k_ldcS (pc' := 17) (i := 1) dX8_readPart_15 rfl rfl rfl ?_
      refine k_callV1 (pc' := 20) dX8_readPart_17 rfl ml_RX8_94 rfl rfl ⟨(Nat.le_of_ble_eq_true rfl), (Nat.le_of_ble_eq_true rfl)⟩ (Nat.le_of_ble_eq_true rfl) (ev_need2 (t := t + 1) (i := 1) (by decide) hr (by have q9 := p_a.1; have q8 := hr.1; omega)) (fun r_17 h_17 q_17 => ?_)
      rcases q_17 with ⟨p_b, e_17, g_17⟩ | ⟨p_b, e_17, g_17⟩
      · rw [e_17, g_17]
        refine k_if_ne (pc' := 23) (tg := 25) dX8_readPart_20 rfl (by decide) (fun c_20 => ?_) (fun c_20 => ?_)
        · skip
          refine k_aload_n (pc' := 26) dX8_readPart_25 rfl rfl ?_
          refine k_iload_n (pc' := 27) dX8_readPart_26 rfl rfl ?_
          refine k_iconst (pc' := 28) (v := 1) dX8_readPart_27 rfl (by decide) ?_
          refine k_mmax (pc' := 31) dX8_readPart_28 rfl ks_max_RX8_103 ⟨(Nat.le_of_ble_eq_true rfl), (Nat.le_of_ble_eq_true rfl)⟩ (Nat.le_of_ble_eq_true rfl) ?_
          refine k_sipush (pc' := 34) (v := 10000) dX8_readPart_31 rfl (by decide) ?_
          refine k_callV2 (pc' := 37) dX8_readPart_34 rfl ml_RX8_97 rfl rfl ⟨(Nat.le_of_ble_eq_true rfl), (Nat.le_of_ble_eq_true rfl)⟩ (Nat.le_of_ble_eq_true rfl) (ev_rnum2 (t := t + 2) hr (by have q9 := p_b.1; have q8 := hr.1; omega) (show 0 ≤ (if (vXt μ sN eN t) < 1 then (1 : Int32) else (vXt μ sN eN t)).toInt by split <;> simp only [k_lt, li_1] at * <;> omega)) (fun r_34 h_34 q_34 => ?_)
          rcases q_34 with ⟨p_c, e_34, g_34⟩ | ⟨p_c, e_34, g_34⟩
          · rw [e_34, g_34]
            refine k_istore_n (pc' := 38) (k0 := 0) (ls' := [_, _, _]) dX8_readPart_37 rfl (by decide) rfl ?_
            refine k_iload_n (pc' := 39) dX8_readPart_38 rfl rfl ?_
            refine k_iconst (pc' := 40) (v := (-1)) dX8_readPart_39 rfl (by decide) ?_
            refine k_icmp_ne (pc' := 43) (tg := 45) dX8_readPart_40 rfl (by decide) (fun c_40 => ?_) (fun c_40 => ?_)
            · skip
              refine k_aload_n (pc' := 46) dX8_readPart_45 rfl rfl ?_
              refine k_getR (pc' := 49) fl_RX8_12 dX8_readPart_46 rfl rfl rfl ?_
              refine k_iconst (pc' := 50) (v := 0) dX8_readPart_49 rfl (by decide) ?_
              refine k_iload_n (pc' := 51) dX8_readPart_50 rfl rfl ?_
              refine k_iload_n (pc' := 52) dX8_readPart_51 rfl rfl ?_
              refine k_iconst (pc' := 53) (v := 0) dX8_readPart_52 rfl (by decide) ?_
              refine k_callV4 (pc' := 56) dX8_readPart_53 rfl ml_RX8_108 rfl rfl ⟨(Nat.le_of_ble_eq_true rfl), (Nat.le_of_ble_eq_true rfl)⟩ (Nat.le_of_ble_eq_true rfl) (ev_put hz hz2) (fun r_53 h_53 q_53 => ?_)
              obtain ⟨e_53, g_53⟩ := q_53
              rw [e_53, g_53]
              refine k_iconst (pc' := 57) (v := 1) dX8_readPart_56 rfl (by decide) ?_
              exact k_zret dX8_readPart_57 rfl (by first | decide | exact k_nz) (Or.inl ⟨p_a, p_b, p_c, rfl, rfl⟩)
            · exfalso
              exact nX_ne p_c (show 0 ≤ (if (vXt μ sN eN t) < 1 then (1 : Int32) else (vXt μ sN eN t)).toInt by split <;> simp only [k_lt, li_1] at * <;> omega) c_40
          rw [e_34, g_34]
          refine k_istore_n (pc' := 38) (k0 := 0) (ls' := [_, _, _]) dX8_readPart_37 rfl (by decide) rfl ?_
          refine k_iload_n (pc' := 39) dX8_readPart_38 rfl rfl ?_
          refine k_iconst (pc' := 40) (v := (-1)) dX8_readPart_39 rfl (by decide) ?_
          refine k_icmp_ne (pc' := 43) (tg := 45) dX8_readPart_40 rfl (by decide) (fun c_40 => ?_) (fun c_40 => ?_)
          · exfalso
            exact c_40 rfl
          · skip
            refine k_iconst (pc' := 44) (v := 0) dX8_readPart_43 rfl (by decide) ?_
            exact k_zret dX8_readPart_44 rfl (by first | decide | exact k_nz) (Or.inr (Or.inr (Or.inr ⟨p_a, p_b, p_c, rfl, rfl⟩)))
        · exfalso
          exact absurd c_20 (by decide)
      rw [e_17, g_17]
      refine k_if_ne (pc' := 23) (tg := 25) dX8_readPart_20 rfl (by decide) (fun c_20 => ?_) (fun c_20 => ?_)
      · exfalso
        exact c_20 rfl
      · skip
        refine k_iconst (pc' := 24) (v := 0) dX8_readPart_23 rfl (by decide) ?_
        exact k_zret dX8_readPart_24 rfl (by first | decide | exact k_nz) (Or.inr (Or.inr (Or.inl ⟨p_a, p_b, rfl, rfl⟩)))
  rw [e_5, g_5]
  refine k_istore_n (pc' := 9) (k0 := 0) (ls' := [_, _, _]) dX8_readPart_8 rfl (by decide) rfl ?_
  refine k_iload_n (pc' := 10) dX8_readPart_9 rfl rfl ?_
  refine k_iconst (pc' := 11) (v := (-1)) dX8_readPart_10 rfl (by decide) ?_
  refine k_icmp_eq (pc' := 14) (tg := 23) dX8_readPart_11 rfl (by decide) (fun c_11 => ?_) (fun c_11 => ?_)
  · skip
    refine k_iconst (pc' := 24) (v := 0) dX8_readPart_23 rfl (by decide) ?_
    exact k_zret dX8_readPart_24 rfl (by first | decide | exact k_nz) (Or.inr (Or.inl ⟨p_a, rfl, rfl⟩))
  · exfalso
    exact c_11 rfl

set_option maxHeartbeats 400000 in
set_option maxRecDepth 100000 in
theorem ev_vines {μ : kH} {T t : Nat} {sN eN : Nat → Nat} (hr : rdOk μ T sN eN) (ht : t ≤ 200) (hz : 0 ≤ (μ.1 22 4).toInt) (hz2 : (μ.1 22 4).toInt < 20) : Ev kX8_readVines [kr 21] (tk μ t) (fun r h' => (¬ nX μ T sN eN 1 10000 t ∧ koS μ T sN t r h') ∨ (nX μ T sN eN 1 10000 t ∧ ¬ wX μ T sN eN 3 (t + 1) ∧ koS μ T sN (t + 1) r h') ∨ (nX μ T sN eN 1 10000 t ∧ wX μ T sN eN 3 (t + 1) ∧ ¬ nX μ T sN eN 0 10000 (t + 2) ∧ koS μ T sN (t + 2) r h') ∨ (nX μ T sN eN 1 10000 t ∧ wX μ T sN eN 3 (t + 1) ∧ nX μ T sN eN 0 10000 (t + 2) ∧ ¬ wX μ T sN eN 4 (t + 3) ∧ okS μ (t + 3) 1 (vXt μ sN eN t) (vXt μ sN eN (t + 2)) 0 r h') ∨ (nX μ T sN eN 1 10000 t ∧ wX μ T sN eN 3 (t + 1) ∧ nX μ T sN eN 0 10000 (t + 2) ∧ wX μ T sN eN 4 (t + 3) ∧ nX μ T sN eN 0 24 (t + 4) ∧ okS μ (t + 5) 1 (vXt μ sN eN t) (vXt μ sN eN (t + 2)) (vXt μ sN eN (t + 4)) r h') ∨ (nX μ T sN eN 1 10000 t ∧ wX μ T sN eN 3 (t + 1) ∧ nX μ T sN eN 0 10000 (t + 2) ∧ wX μ T sN eN 4 (t + 3) ∧ ¬ nX μ T sN eN 0 24 (t + 4) ∧ koS μ T sN (t + 4) r h')) := by
  refine k_ev (ls := [_, _, _, _]) (by decide) (Nat.le_of_ble_eq_true rfl) rfl ?_
  refine k_aload_n (pc' := 1) dX8_readVines_0 rfl rfl ?_
  refine k_iconst (pc' := 2) (v := 1) dX8_readVines_1 rfl (by decide) ?_
  refine k_sipush (pc' := 5) (v := 10000) dX8_readVines_2 rfl (by decide) ?_
  refine k_callV2 (pc' := 8) dX8_readVines_5 rfl ml_RX8_97 rfl rfl ⟨(Nat.le_of_ble_eq_true rfl), (Nat.le_of_ble_eq_true rfl)⟩ (Nat.le_of_ble_eq_true rfl) (ev_rnum2 hr ht (by decide)) (fun r_5 h_5 q_5 => ?_)
  rcases q_5 with ⟨p_a, e_5, g_5⟩ | ⟨p_a, e_5, g_5⟩
  · rw [e_5, g_5]
    refine k_istore_n (pc' := 9) (k0 := 0) (ls' := [_, _, _, _]) dX8_readVines_8 rfl (by decide) rfl ?_
    refine k_iload_n (pc' := 10) dX8_readVines_9 rfl rfl ?_
    refine k_iconst (pc' := 11) (v := (-1)) dX8_readVines_10 rfl (by decide) ?_
    refine k_icmp_eq (pc' := 14) (tg := 23) dX8_readVines_11 rfl (by decide) (fun c_11 => ?_) (fun c_11 => ?_)
    · exfalso
      exact nX_ne p_a (by decide) c_11
    · skip
      refine k_aload_n (pc' := 15) dX8_readVines_14 rfl rfl ?_
      refine k_ldcS (pc' := 17) (i := 3) dX8_readVines_15 rfl rfl rfl ?_
      refine k_callV1 (pc' := 20) dX8_readVines_17 rfl ml_RX8_94 rfl rfl ⟨(Nat.le_of_ble_eq_true rfl), (Nat.le_of_ble_eq_true rfl)⟩ (Nat.le_of_ble_eq_true rfl) (ev_need2 (t := t + 1) (i := 3) (by decide) hr (by have q9 := p_a.1; have q8 := hr.1; omega)) (fun r_17 h_17 q_17 => ?_)
      rcases q_17 with ⟨p_b, e_17, g_17⟩ | ⟨p_b, e_17, g_17⟩
      · rw [e_17, g_17]
        refine k_if_ne (pc' := 23) (tg := 25) dX8_readVines_20 rfl (by decide) (fun c_20 => ?_) (fun c_20 => ?_)
        · skip
          refine k_aload_n (pc' := 26) dX8_readVines_25 rfl rfl ?_
          refine k_iconst (pc' := 27) (v := 0) dX8_readVines_26 rfl (by decide) ?_
          refine k_sipush (pc' := 30) (v := 10000) dX8_readVines_27 rfl (by decide) ?_
          refine k_callV2 (pc' := 33) dX8_readVines_30 rfl ml_RX8_97 rfl rfl ⟨(Nat.le_of_ble_eq_true rfl), (Nat.le_of_ble_eq_true rfl)⟩ (Nat.le_of_ble_eq_true rfl) (ev_rnum2 (t := t + 2) hr (by have q9 := p_b.1; have q8 := hr.1; omega) (by decide)) (fun r_30 h_30 q_30 => ?_)
          rcases q_30 with ⟨p_c, e_30, g_30⟩ | ⟨p_c, e_30, g_30⟩
          · rw [e_30, g_30]
            refine k_istore_n (pc' := 34) (k0 := 0) (ls' := [_, _, _, _]) dX8_readVines_33 rfl (by decide) rfl ?_
            refine k_iload_n (pc' := 35) dX8_readVines_34 rfl rfl ?_
            refine k_iconst (pc' := 36) (v := (-1)) dX8_readVines_35 rfl (by decide) ?_
            refine k_icmp_ne (pc' := 39) (tg := 41) dX8_readVines_36 rfl (by decide) (fun c_36 => ?_) (fun c_36 => ?_)
            · skip
              refine k_aload_n (pc' := 42) dX8_readVines_41 rfl rfl ?_
              refine k_ldcS (pc' := 44) (i := 4) dX8_readVines_42 rfl rfl rfl ?_
              refine k_callV1 (pc' := 47) dX8_readVines_44 rfl ml_RX8_72 rfl rfl ⟨(Nat.le_of_ble_eq_true rfl), (Nat.le_of_ble_eq_true rfl)⟩ (Nat.le_of_ble_eq_true rfl) (ev_skip2 (t := t + 3) (i := 4) (by decide) hr (by have q9 := p_c.1; have q8 := hr.1; omega)) (fun r_44 h_44 q_44 => ?_)
              rcases q_44 with ⟨p_d, e_44, g_44⟩ | ⟨p_d, e_44, g_44⟩
              · rw [e_44, g_44]
                refine k_if_eq (pc' := 50) (tg := 60) dX8_readVines_47 rfl (by decide) (fun c_47 => ?_) (fun c_47 => ?_)
                · exfalso
                  exact absurd c_47 (by decide)
                · skip
                  refine k_aload_n (pc' := 51) dX8_readVines_50 rfl rfl ?_
                  refine k_iconst (pc' := 52) (v := 0) dX8_readVines_51 rfl (by decide) ?_
                  refine k_bipush (pc' := 54) (v := 24) dX8_readVines_52 rfl (by decide) ?_
                  refine k_callV2 (pc' := 57) dX8_readVines_54 rfl ml_RX8_97 rfl rfl ⟨(Nat.le_of_ble_eq_true rfl), (Nat.le_of_ble_eq_true rfl)⟩ (Nat.le_of_ble_eq_true rfl) (ev_rnum2 (t := t + 4) hr (by have q9 := p_d.1; have q8 := hr.1; omega) (by decide)) (fun r_54 h_54 q_54 => ?_)
                  rcases q_54 with ⟨p_e, e_54, g_54⟩ | ⟨p_e, e_54, g_54⟩
                  · rw [e_54, g_54]
                    refine k_goto (tg := 61) dX8_readVines_57 (by decide) ?_
                    refine k_istore_n (pc' := 62) (k0 := 0) (ls' := [_, _, _, _]) dX8_readVines_61 rfl (by decide) rfl ?_
                    refine k_iload_n (pc' := 63) dX8_readVines_62 rfl rfl ?_
                    refine k_iconst (pc' := 64) (v := (-1)) dX8_readVines_63 rfl (by decide) ?_
                    refine k_icmp_ne (pc' := 67) (tg := 69) dX8_readVines_64 rfl (by decide) (fun c_64 => ?_) (fun c_64 => ?_)
                    · skip
                      refine k_aload_n (pc' := 70) dX8_readVines_69 rfl rfl ?_
                      refine k_getR (pc' := 73) fl_RX8_12 dX8_readVines_70 rfl rfl rfl ?_
                      refine k_iconst (pc' := 74) (v := 1) dX8_readVines_73 rfl (by decide) ?_
                      refine k_iload_n (pc' := 75) dX8_readVines_74 rfl rfl ?_
                      refine k_iload_n (pc' := 76) dX8_readVines_75 rfl rfl ?_
                      refine k_iload_n (pc' := 77) dX8_readVines_76 rfl rfl ?_
                      refine k_callV4 (pc' := 80) dX8_readVines_77 rfl ml_RX8_108 rfl rfl ⟨(Nat.le_of_ble_eq_true rfl), (Nat.le_of_ble_eq_true rfl)⟩ (Nat.le_of_ble_eq_true rfl) (ev_put hz hz2) (fun r_77 h_77 q_77 => ?_)
                      obtain ⟨e_77, g_77⟩ := q_77
                      rw [e_77, g_77]
                      refine k_iconst (pc' := 81) (v := 1) dX8_readVines_80 rfl (by decide) ?_
                      exact k_zret dX8_readVines_81 rfl (by first | decide | exact k_nz) (Or.inr (Or.inr (Or.inr (Or.inr (Or.inl ⟨p_a, p_b, p_c, p_d, p_e, rfl, rfl⟩)))))
                    · exfalso
                      exact nX_ne p_e (by decide) c_64
                  rw [e_54, g_54]
                  refine k_goto (tg := 61) dX8_readVines_57 (by decide) ?_
                  refine k_istore_n (pc' := 62) (k0 := 0) (ls' := [_, _, _, _]) dX8_readVines_61 rfl (by decide) rfl ?_
                  refine k_iload_n (pc' := 63) dX8_readVines_62 rfl rfl ?_
                  refine k_iconst (pc' := 64) (v := (-1)) dX8_readVines_63 rfl (by decide) ?_
                  refine k_icmp_ne (pc' := 67) (tg := 69) dX8_readVines_64 rfl (by decide) (fun c_64 => ?_) (fun c_64 => ?_)
                  · exfalso
                    exact c_64 rfl
                  · skip
                    refine k_iconst (pc' := 68) (v := 0) dX8_readVines_67 rfl (by decide) ?_
                    exact k_zret dX8_readVines_68 rfl (by first | decide | exact k_nz) (Or.inr (Or.inr (Or.inr (Or.inr (Or.inr ⟨p_a, p_b, p_c, p_d, p_e, rfl, rfl⟩)))))
              rw [e_44, g_44]
              refine k_if_eq (pc' := 50) (tg := 60) dX8_readVines_47 rfl (by decide) (fun c_47 => ?_) (fun c_47 => ?_)
              · skip
                refine k_iconst (pc' := 61) (v := 0) dX8_readVines_60 rfl (by decide) ?_
                refine k_istore_n (pc' := 62) (k0 := 0) (ls' := [_, _, _, _]) dX8_readVines_61 rfl (by decide) rfl ?_
                refine k_iload_n (pc' := 63) dX8_readVines_62 rfl rfl ?_
                refine k_iconst (pc' := 64) (v := (-1)) dX8_readVines_63 rfl (by decide) ?_
                refine k_icmp_ne (pc' := 67) (tg := 69) dX8_readVines_64 rfl (by decide) (fun c_64 => ?_) (fun c_64 => ?_)
                · skip
                  refine k_aload_n (pc' := 70) dX8_readVines_69 rfl rfl ?_
                  refine k_getR (pc' := 73) fl_RX8_12 dX8_readVines_70 rfl rfl rfl ?_
                  refine k_iconst (pc' := 74) (v := 1) dX8_readVines_73 rfl (by decide) ?_
                  refine k_iload_n (pc' := 75) dX8_readVines_74 rfl rfl ?_
                  refine k_iload_n (pc' := 76) dX8_readVines_75 rfl rfl ?_
                  refine k_iload_n (pc' := 77) dX8_readVines_76 rfl rfl ?_
                  refine k_callV4 (pc' := 80) dX8_readVines_77 rfl ml_RX8_108 rfl rfl ⟨(Nat.le_of_ble_eq_true rfl), (Nat.le_of_ble_eq_true rfl)⟩ (Nat.le_of_ble_eq_true rfl) (ev_put hz hz2) (fun r_77 h_77 q_77 => ?_)
                  obtain ⟨e_77, g_77⟩ := q_77
                  rw [e_77, g_77]
                  refine k_iconst (pc' := 81) (v := 1) dX8_readVines_80 rfl (by decide) ?_
                  exact k_zret dX8_readVines_81 rfl (by first | decide | exact k_nz) (Or.inr (Or.inr (Or.inr (Or.inl ⟨p_a, p_b, p_c, p_d, rfl, rfl⟩))))
                · exfalso
                  exact absurd c_64 (by decide)
              · exfalso
                exact c_47 rfl
            · exfalso
              exact nX_ne p_c (by decide) c_36
          rw [e_30, g_30]
          refine k_istore_n (pc' := 34) (k0 := 0) (ls' := [_, _, _, _]) dX8_readVines_33 rfl (by decide) rfl ?_
          refine k_iload_n (pc' := 35) dX8_readVines_34 rfl rfl ?_
          refine k_iconst (pc' := 36) (v := (-1)) dX8_readVines_35 rfl (by decide) ?_
          refine k_icmp_ne (pc' := 39) (tg := 41) dX8_readVines_36 rfl (by decide) (fun c_36 => ?_) (fun c_36 => ?_)
          · exfalso
            exact c_36 rfl
          · skip
            refine k_iconst (pc' := 40) (v := 0) dX8_readVines_39 rfl (by decide) ?_
            exact k_zret dX8_readVines_40 rfl (by first | decide | exact k_nz) (Or.inr (Or.inr (Or.inl ⟨p_a, p_b, p_c, rfl, rfl⟩)))
        · exfalso
          exact absurd c_20 (by decide)
      rw [e_17, g_17]
      refine k_if_ne (pc' := 23) (tg := 25) dX8_readVines_20 rfl (by decide) (fun c_20 => ?_) (fun c_20 => ?_)
      · exfalso
        exact c_20 rfl
      · skip
        refine k_iconst (pc' := 24) (v := 0) dX8_readVines_23 rfl (by decide) ?_
        exact k_zret dX8_readVines_24 rfl (by first | decide | exact k_nz) (Or.inr (Or.inl ⟨p_a, p_b, rfl, rfl⟩))
  rw [e_5, g_5]
  refine k_istore_n (pc' := 9) (k0 := 0) (ls' := [_, _, _, _]) dX8_readVines_8 rfl (by decide) rfl ?_
  refine k_iload_n (pc' := 10) dX8_readVines_9 rfl rfl ?_
  refine k_iconst (pc' := 11) (v := (-1)) dX8_readVines_10 rfl (by decide) ?_
  refine k_icmp_eq (pc' := 14) (tg := 23) dX8_readVines_11 rfl (by decide) (fun c_11 => ?_) (fun c_11 => ?_)
  · skip
    refine k_iconst (pc' := 24) (v := 0) dX8_readVines_23 rfl (by decide) ?_
    exact k_zret dX8_readVines_24 rfl (by first | decide | exact k_nz) (Or.inl ⟨p_a, rfl, rfl⟩)
  · exfalso
    exact c_11 rfl

