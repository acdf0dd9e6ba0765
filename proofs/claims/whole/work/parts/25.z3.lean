/-- all rows but those of l stay -/
def fr (l : List Nat) (μ ν : kH) : Prop := (∀ k, k ∉ l → ν.1 k = μ.1 k) ∧ ν.2 = μ.2
theorem fr_rf (l : List Nat) (μ : kH) : fr l μ μ := ⟨fun _ _ => rfl, rfl⟩
theorem fr_I {l : List Nat} {μ ν : kH} (q : fr l μ ν) {k j : Nat} {v : Int32} (hk : k ∈ l) : fr l μ (hI ν k j v) := ⟨fun k' hk' => by
  have e : (hI ν k j v).1 k' = ν.1 k' := hs_ne _ _ (fun z => hk' (z ▸ hk))
  rw [e]; exact q.1 k' hk', q.2⟩
theorem fr_tr {l l' : List Nat} {μ ν κ : kH} (q : fr l μ ν) (q' : fr l' ν κ) (hl : ∀ k, k ∈ l → k ∈ l') : fr l' μ κ := ⟨fun k hk => by rw [q'.1 k hk, q.1 k (fun z => hk (hl k z))], by rw [q'.2, q.2]⟩
theorem fr_h3 {l : List Nat} {μ ν : kH} (q : fr l μ ν) {k a b c : Nat} {x : Int32 × Int32 × Int32} (hk : k ∈ l) : fr l μ (h3 ν k a b c x) := fr_I (fr_I (fr_I q hk) hk) hk
theorem h3_a (μ : kH) (x : Int32 × Int32 × Int32) : (h3 μ 8 3 4 5 x).1 8 3 = x.1 := rfl
theorem h3_b (μ : kH) (x : Int32 × Int32 × Int32) : (h3 μ 8 3 4 5 x).1 8 4 = x.2.1 := rfl
theorem h3_o (μ : kH) (x : Int32 × Int32 × Int32) {k : Nat} (hk : k ≠ 8) : (h3 μ 8 3 4 5 x).1 k = μ.1 k := by rw [h3_eq]; exact hs_ne _ _ hk
abbrev kS8 : Type := ((Nat → Int32) × (Nat → Int32) × (Nat → Int32) × (Nat → Int32)) × (Int32 × Int32 × Int32 × Int32)
def k_older (n : Int32) : Int32 := if n = -1 then -1 else if 24 < n + 1 then 24 else n + 1
theorem ev_X10_olderThan2 {n : Int32} {μ : kH} : Ev kX10_olderThan [ki n] μ (fun r h' => r = ki (k_older n) ∧ h' = μ) := ev_X10_olderThan
def fFresh (vi yi A : Nat → Int32) (i : Nat) : Int32 := if 0 ≤ A i ∧ A i ≤ 24 then vi i * yi (A i).toNatClampNeg / 100 else 0
def stX (vi yi ra pr : Nat → Int32) (i : Nat) (S : kS8) (x : Int32 × Int32 × Int32) : kS8 := if x.2.1 < 1 ∨ 468 ≤ S.2.1 then ((upd S.1.1 i (k_older (S.1.1 i)), S.1.2.1, S.1.2.2.1, S.1.2.2.2), (S.2.1, S.2.2.1, x.1, x.2.1)) else ((upd S.1.1 i (k_older (S.1.1 i)), upd S.1.2.1 S.2.1.toNatClampNeg x.1, upd S.1.2.2.1 S.2.1.toNatClampNeg (nI i), upd S.1.2.2.2 S.2.1.toNatClampNeg x.2.1), (S.2.1 + 1, S.2.2.1 + x.2.1, x.1, x.2.1))
def itX (vi yi ra pr : Nat → Int32) (S0 : kS8) : Nat → kS8
  | 0 => S0
  | i + 1 => stX vi yi ra pr i (itX vi yi ra pr S0 i) (fCh ra pr (fFresh vi yi (itX vi yi ra pr S0 i).1.1 i) (itX vi yi ra pr S0 i).2.2.2.1 (itX vi yi ra pr S0 i).2.2.2.2 4)
def stOf (μ : kH) : kS8 := ((μ.1 13, μ.1 37, μ.1 38, μ.1 39), (μ.1 36 3, μ.1 36 4, μ.1 8 3, μ.1 8 4))

set_option maxHeartbeats 400000 in
set_option maxRecDepth 100000 in
theorem lp_X10_passYear {μ : kH} {G : Nat} (hG : G ≤ 12) (hgs : μ.1 11 2 = nI G) : ∀ (n i : Nat) (ν : kH), i + n = G → fr [8, 13, 36, 37, 38, 39] μ ν → stOf ν = itX (μ.1 12) (μ.1 2) (μ.1 9) (μ.1 10) (stOf μ) i → (0 ≤ (ν.1 36 3).toInt ∧ (ν.1 36 3).toInt ≤ 468) → (ν.1 0 10 = μ.1 0 10 ∧ ν.1 0 11 = μ.1 0 11) → At kX10_passYear 17 [kr 0, ki (nI i)] [] ν (kRet kX10_passYear (fun r h' => r = ku ∧ fr [0, 8, 10, 13, 36, 37, 38, 39] μ h' ∧ stOf h' = itX (μ.1 12) (μ.1 2) (μ.1 9) (μ.1 10) (stOf μ) G ∧ h'.1 0 10 = (if 39 < μ.1 0 10 + 1 then 39 else μ.1 0 10 + 1) ∧ h'.1 0 11 = μ.1 0 11)) := by
  intro n
  induction n with
  | zero =>
    intro i ν hi q hS hz ho
    refine k_iload_n (pc' := 18) dX10_passYear_17 rfl rfl ?_
    refine k_aload_n (pc' := 19) dX10_passYear_18 rfl rfl ?_
    refine k_getR (pc' := 22) fl_RX10_35 dX10_passYear_19 rfl rfl rfl ?_
    refine k_getI (pc' := 25) fl_RX10_128 dX10_passYear_22 rfl rfl rfl ?_
    refine k_icmp_ge (pc' := 28) (tg := 89) dX10_passYear_25 rfl (by decide) (fun c_25 => ?_) (fun c_25 => ?_)
    · skip
      refine k_aload_n (pc' := 90) dX10_passYear_89 rfl rfl ?_
      refine k_aload_n (pc' := 91) dX10_passYear_90 rfl rfl ?_
      refine k_getI (pc' := 94) fl_RX10_197 dX10_passYear_91 rfl rfl rfl ?_
      refine k_iconst (pc' := 95) (v := 1) dX10_passYear_94 rfl (by decide) ?_
      refine k_iadd (pc' := 96) dX10_passYear_95 rfl ?_
      refine k_bipush (pc' := 98) (v := 39) dX10_passYear_96 rfl (by decide) ?_
      refine k_mmin (pc' := 101) dX10_passYear_98 rfl ks_min_RX10_255 ⟨(Nat.le_of_ble_eq_true rfl), (Nat.le_of_ble_eq_true rfl)⟩ (Nat.le_of_ble_eq_true rfl) ?_
      refine k_putI (pc' := 104) fw_RX10_197 dX10_passYear_101 rfl rfl rfl ?_
      exact k_vret dX10_passYear_104 rfl ⟨rfl, fr_I (fr_tr q (fr_rf _ _) (by decide)) (by decide), by rw [show stOf (hI ν 0 10 (if 39 < ν.1 0 10 + 1 then 39 else ν.1 0 10 + 1)) = stOf ν from rfl, hS, show i = G from by omega], by rw [hI_at, ho.1], ho.2⟩
    · exfalso
      exact c_25 (show ν.1 11 2 ≤ nI i by rw [q.1 11 (by decide), hgs, show i = G from by omega]; exact Int32.le_refl _)
  | succ n ih =>
    intro i ν hi q hS hz ho
    have hlt : i < G := by omega
    refine k_iload_n (pc' := 18) dX10_passYear_17 rfl rfl ?_
    refine k_aload_n (pc' := 19) dX10_passYear_18 rfl rfl ?_
    refine k_getR (pc' := 22) fl_RX10_35 dX10_passYear_19 rfl rfl rfl ?_
    refine k_getI (pc' := 25) fl_RX10_128 dX10_passYear_22 rfl rfl rfl ?_
    refine k_icmp_ge (pc' := 28) (tg := 89) dX10_passYear_25 rfl (by decide) (fun c_25 => ?_) (fun c_25 => ?_)
    · exfalso
      have c9 : ν.1 11 2 ≤ nI i := c_25
      rw [q.1 11 (by decide), hgs] at c9
      exact nI_ge hlt (by omega) c9
    · skip
      refine k_aload_n (pc' := 29) dX10_passYear_28 rfl rfl ?_
      refine k_getR (pc' := 32) fl_RX10_28 dX10_passYear_29 rfl rfl rfl ?_
      refine k_aload_n (pc' := 33) dX10_passYear_32 rfl rfl ?_
      refine k_iload_n (pc' := 34) dX10_passYear_33 rfl rfl ?_
      refine k_callV1 (pc' := 37) dX10_passYear_34 rfl ml_RX10_145 rfl rfl ⟨(Nat.le_of_ble_eq_true rfl), (Nat.le_of_ble_eq_true rfl)⟩ (Nat.le_of_ble_eq_true rfl) (ev_X10_freshIn (vp_in_nI (by omega) (by decide))) (fun r_34 h_34 q_34 => ?_)
      obtain ⟨e_34, g_34⟩ := q_34
      rw [e_34, g_34, nI_clamp (by omega), show ν.1 12 = μ.1 12 from q.1 12 (by decide), show ν.1 2 = μ.1 2 from q.1 2 (by decide)]
      rw [show (if 0 ≤ ν.1 13 i ∧ ν.1 13 i ≤ 24 then μ.1 12 i * μ.1 2 (ν.1 13 i).toNatClampNeg / 100 else 0) = fFresh (μ.1 12) (μ.1 2) (ν.1 13) i from rfl]
      refine k_callV1 (pc' := 40) dX10_passYear_37 rfl ml_RX10_153 rfl rfl ⟨(Nat.le_of_ble_eq_true rfl), (Nat.le_of_ble_eq_true rfl)⟩ (Nat.le_of_ble_eq_true rfl) ev_X4_choose (fun r_37 h_37 q_37 => ?_)
      obtain ⟨e_37, g_37⟩ := q_37
      rw [e_37, g_37, show ν.1 9 = μ.1 9 from q.1 9 (by decide), show ν.1 10 = μ.1 10 from q.1 10 (by decide)]
      generalize hX : fCh (μ.1 9) (μ.1 10) (fFresh (μ.1 12) (μ.1 2) (ν.1 13) i) (ν.1 8 3) (ν.1 8 4) 4 = X
      refine k_aload_n (pc' := 41) dX10_passYear_40 rfl rfl ?_
      refine k_getR (pc' := 44) fl_RX10_74 dX10_passYear_41 rfl rfl rfl ?_
      refine k_aload_n (pc' := 45) dX10_passYear_44 rfl rfl ?_
      refine k_getR (pc' := 48) fl_RX10_28 dX10_passYear_45 rfl rfl rfl ?_
      refine k_getI (pc' := 51) fl_RX10_157 dX10_passYear_48 rfl rfl rfl ?_
      refine k_iload_n (pc' := 52) dX10_passYear_51 rfl rfl ?_
      refine k_aload_n (pc' := 53) dX10_passYear_52 rfl rfl ?_
      refine k_getR (pc' := 56) fl_RX10_28 dX10_passYear_53 rfl rfl rfl ?_
      refine k_getI (pc' := 59) fl_RX10_160 dX10_passYear_56 rfl rfl rfl ?_
      simp only [h3_a, h3_b]
      refine k_callV3 (pc' := 62) dX10_passYear_59 rfl ml_RX10_248 rfl rfl ⟨(Nat.le_of_ble_eq_true rfl), (Nat.le_of_ble_eq_true rfl)⟩ (Nat.le_of_ble_eq_true rfl) (ev_X3_store (by rw [h3_o _ _ (by decide)]; exact hz.1)) (fun r_59 h_59 q_59 => ?_)
      by_cases zz : X.2.1 < 1 ∨ 468 ≤ (h3 ν 8 3 4 5 X).1 36 3
      · rw [if_pos zz] at q_59
        obtain ⟨e_59, g_59⟩ := q_59
        rw [e_59, g_59]
        refine k_aload_n (pc' := 63) dX10_passYear_62 rfl rfl ?_
        refine k_getR (pc' := 66) fl_RX10_35 dX10_passYear_63 rfl rfl rfl ?_
        refine k_getR (pc' := 69) fl_RX10_139 dX10_passYear_66 rfl rfl rfl ?_
        refine k_iload_n (pc' := 70) dX10_passYear_69 rfl rfl ?_
        refine k_aload_n (pc' := 71) dX10_passYear_70 rfl rfl ?_
        refine k_getR (pc' := 74) fl_RX10_35 dX10_passYear_71 rfl rfl rfl ?_
        refine k_getR (pc' := 77) fl_RX10_139 dX10_passYear_74 rfl rfl rfl ?_
        refine k_iload_n (pc' := 78) dX10_passYear_77 rfl rfl ?_
        refine k_ialdN (pc' := 79) dX10_passYear_78 rfl rfl (by omega) (by decide) ?_
        refine k_callS1 (pc' := 82) dX10_passYear_79 rfl ml_RX10_252 ⟨(Nat.le_of_ble_eq_true rfl), (Nat.le_of_ble_eq_true rfl)⟩ (Nat.le_of_ble_eq_true rfl) ev_X10_olderThan2 (fun r_79 h_79 q_79 => ?_)
        obtain ⟨e_79, g_79⟩ := q_79
        rw [e_79, g_79]
        refine k_iastN (pc' := 83) dX10_passYear_82 rfl rfl (by omega) (by decide) ?_
        refine k_iinc (pc' := 86) (v := nI (_ + 1)) (ls' := [_, _]) dX10_passYear_83 rfl rfl (nI_1 _) (by decide) rfl ?_
        refine k_goto (tg := 17) dX10_passYear_86 (by decide) ?_
        have hst : stOf (hI (h3 ν 8 3 4 5 X) 13 i (k_older ((h3 ν 8 3 4 5 X).1 13 i))) = itX (μ.1 12) (μ.1 2) (μ.1 9) (μ.1 10) (stOf μ) (i + 1) := by
          rw [itX, ← hS]
          have hX2 : fCh (μ.1 9) (μ.1 10) (fFresh (μ.1 12) (μ.1 2) (stOf ν).1.1 i) (stOf ν).2.2.2.1 (stOf ν).2.2.2.2 4 = X := hX
          rw [hX2, stX, if_pos (show X.2.1 < 1 ∨ 468 ≤ (stOf ν).2.1 from zz)]
          rfl
        exact ih (i + 1) _ (by omega) (fr_I (fr_h3 q (by decide)) (by decide)) hst hz ⟨ho.1, ho.2⟩
      rw [if_neg zz] at q_59
      obtain ⟨e_59, g_59⟩ := q_59
      rw [e_59, g_59]
      refine k_aload_n (pc' := 63) dX10_passYear_62 rfl rfl ?_
      refine k_getR (pc' := 66) fl_RX10_35 dX10_passYear_63 rfl rfl rfl ?_
      refine k_getR (pc' := 69) fl_RX10_139 dX10_passYear_66 rfl rfl rfl ?_
      refine k_iload_n (pc' := 70) dX10_passYear_69 rfl rfl ?_
      refine k_aload_n (pc' := 71) dX10_passYear_70 rfl rfl ?_
      refine k_getR (pc' := 74) fl_RX10_35 dX10_passYear_71 rfl rfl rfl ?_
      refine k_getR (pc' := 77) fl_RX10_139 dX10_passYear_74 rfl rfl rfl ?_
      refine k_iload_n (pc' := 78) dX10_passYear_77 rfl rfl ?_
      refine k_ialdN (pc' := 79) dX10_passYear_78 rfl rfl (by omega) (by decide) ?_
      refine k_callS1 (pc' := 82) dX10_passYear_79 rfl ml_RX10_252 ⟨(Nat.le_of_ble_eq_true rfl), (Nat.le_of_ble_eq_true rfl)⟩ (Nat.le_of_ble_eq_true rfl) ev_X10_olderThan2 (fun r_79 h_79 q_79 => ?_)
      obtain ⟨e_79, g_79⟩ := q_79
      rw [e_79, g_79]
      refine k_iastN (pc' := 83) dX10_passYear_82 rfl rfl (by omega) (by decide) ?_
      refine k_iinc (pc' := 86) (v := nI (_ + 1)) (ls' := [_, _]) dX10_passYear_83 rfl rfl (nI_1 _) (by decide) rfl ?_
      refine k_goto (tg := 17) dX10_passYear_86 (by decide) ?_
      have hst : stOf (hI (hI (hI (hI (hI (hI (h3 ν 8 3 4 5 X) 37 ((h3 ν 8 3 4 5 X).1 36 3).toNatClampNeg X.1) 38 ((h3 ν 8 3 4 5 X).1 36 3).toNatClampNeg (nI i)) 39 ((h3 ν 8 3 4 5 X).1 36 3).toNatClampNeg X.2.1) 36 3 (((h3 ν 8 3 4 5 X).1 36 3) + 1)) 36 4 ((h3 ν 8 3 4 5 X).1 36 4 + X.2.1)) 13 i (k_older ((hI (hI (hI (hI (hI (h3 ν 8 3 4 5 X) 37 ((h3 ν 8 3 4 5 X).1 36 3).toNatClampNeg X.1) 38 ((h3 ν 8 3 4 5 X).1 36 3).toNatClampNeg (nI i)) 39 ((h3 ν 8 3 4 5 X).1 36 3).toNatClampNeg X.2.1) 36 3 (((h3 ν 8 3 4 5 X).1 36 3) + 1)) 36 4 ((h3 ν 8 3 4 5 X).1 36 4 + X.2.1)).1 13 i))) = itX (μ.1 12) (μ.1 2) (μ.1 9) (μ.1 10) (stOf μ) (i + 1) := by
        rw [itX, ← hS]
        have hX2 : fCh (μ.1 9) (μ.1 10) (fFresh (μ.1 12) (μ.1 2) (stOf ν).1.1 i) (stOf ν).2.2.2.1 (stOf ν).2.2.2.2 4 = X := hX
        rw [hX2, stX, if_neg (show ¬ (X.2.1 < 1 ∨ 468 ≤ (stOf ν).2.1) from zz)]
        rfl
      exact ih (i + 1) _ (by omega) (fr_I (fr_I (fr_I (fr_I (fr_I (fr_I (fr_h3 q (by decide)) (by decide)) (by decide)) (by decide)) (by decide)) (by decide)) (by decide)) hst (by
        show 0 ≤ (ν.1 36 3 + 1).toInt ∧ (ν.1 36 3 + 1).toInt ≤ 468
        have z2 : ¬ 468 ≤ ν.1 36 3 := fun z => zz (Or.inr z)
        simp only [k_le, li_468] at z2
        rw [k_add (by rw [li_1]; omega), li_1]; omega) ⟨ho.1, ho.2⟩

set_option maxHeartbeats 400000 in
set_option maxRecDepth 100000 in
theorem ev_X10_passYear {μ : kH} {G N : Nat} (hG : G ≤ 12) (hgs : μ.1 11 2 = nI G) (hN : N ≤ 300) (hsz : μ.1 3 4 = nI N) (hz : 0 ≤ (μ.1 36 3).toInt ∧ (μ.1 36 3).toInt ≤ 468) : Ev kX10_passYear [kr 0] μ (fun r h' => r = ku ∧ fr [0, 8, 10, 13, 36, 37, 38, 39] μ h' ∧ stOf h' = itX (μ.1 12) (μ.1 2) (μ.1 9) ((kTurn μ (μ.1 0 10) (μ.1 0 10) N).1 10) (stOf μ) G ∧ h'.1 0 10 = (if 39 < μ.1 0 10 + 1 then 39 else μ.1 0 10 + 1) ∧ h'.1 0 11 = μ.1 0 11) := by
  refine k_ev (ls := [_, _]) (by decide) (Nat.le_of_ble_eq_true rfl) rfl ?_
  refine k_aload_n (pc' := 1) dX10_passYear_0 rfl rfl ?_
  refine k_getR (pc' := 4) fl_RX10_28 dX10_passYear_1 rfl rfl rfl ?_
  refine k_aload_n (pc' := 5) dX10_passYear_4 rfl rfl ?_
  refine k_getI (pc' := 8) fl_RX10_197 dX10_passYear_5 rfl rfl rfl ?_
  refine k_aload_n (pc' := 9) dX10_passYear_8 rfl rfl ?_
  refine k_getI (pc' := 12) fl_RX10_197 dX10_passYear_9 rfl rfl rfl ?_
  refine k_callV2 (pc' := 15) dX10_passYear_12 rfl ml_RX10_149 rfl rfl ⟨(Nat.le_of_ble_eq_true rfl), (Nat.le_of_ble_eq_true rfl)⟩ (Nat.le_of_ble_eq_true rfl) (ev_X4_turnTo2 hN hsz) (fun r_12 h_12 q_12 => ?_)
  obtain ⟨e_12, g_12⟩ := q_12
  rw [e_12, g_12]
  refine k_iconst (pc' := 16) (v := 0) dX10_passYear_15 rfl (by decide) ?_
  refine k_istore_n (pc' := 17) (k0 := 0) (ls' := [_, _]) dX10_passYear_16 rfl (by decide) rfl ?_
  have hf : fr [10] μ (kTurn μ (μ.1 0 10) (μ.1 0 10) N) := fr_I (fr_I (fr_I (fr_I (fr_rf _ μ) (by decide)) (by decide)) (by decide)) (by decide)
  refine k_seq (lp_X10_passYear (μ := (kTurn μ (μ.1 0 10) (μ.1 0 10) N)) (G := G) hG hgs G 0 (kTurn μ (μ.1 0 10) (μ.1 0 10) N) (by omega) (fr_rf _ _) rfl hz ⟨rfl, rfl⟩) (fun pc1 ls1 st1 κ hκ => k_done ?_)
  rcases hκ with ⟨v, -, -, -, e, -⟩ | ⟨v, -, -, -, e, -⟩ | ⟨e1, e2, e3, e4, e5, e6, e7, e8⟩
  · cases e
  · cases e
  · exact Or.inr (Or.inr ⟨e1, e2, e3, rfl, fr_tr hf e5 (by decide), e6, e7, e8⟩)

