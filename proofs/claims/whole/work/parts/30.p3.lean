theorem bX_congr {ra pr pr' : Nat → Int32} {f : Int32} (hp : ∀ s, s < 4 → pr s = pr' s) : bX ra pr f = bX ra pr' f := by unfold bX; rw [fCh_congr hp 4 (Nat.le_refl _)]
theorem gX_congr {μ ν : kH} {N : Nat} {v st : Int32} (h1 : ν.1 1 = μ.1 1) (h2 : ν.1 2 = μ.1 2) (h9 : ν.1 9 = μ.1 9) (h10 : ∀ s, s < 4 → ν.1 10 s = μ.1 10 s) (h17 : ν.1 17 = μ.1 17) (h18 : ν.1 18 = μ.1 18) (h19 : ν.1 19 = μ.1 19) (h20 : ν.1 20 = μ.1 20) : gX ν N v st = gX μ N v st := by
  unfold gX
  rw [h1, h2, h9, h17, h18, h19, h20, bX_congr h10]
def vX (G : Nat → Nat → Int64) (c : Int64) (n : Nat) : Nat → Nat → Int64
  | 0 => fun _ => 0
  | j + 1 => fun s => (dX (fun q => G (n - 1 - j) q + vX G c n j (nxN q)) c s).2
def cX (G : Nat → Nat → Int64) (c : Int64) (n : Nat) (y s : Nat) : Int32 := (dX (fun q => G y q + vX G c n (n - 1 - y) (nxN q)) c s).1
def sqP (G : Nat → Nat → Int64) (c : Int64) (n s0 : Nat) : Nat → Nat
  | 0 => s0
  | i + 1 => nxN (afN (cX G c n i (sqP G c n s0 i)) (sqP G c n s0 i))
theorem dX_congr {W W' : Nat → Int64} {c : Int64} {s : Nat} (h : ∀ q, q < 26 → W q = W' q) (hsl : s < 26) : dX W c s = dX W' c s := by
  unfold dX
  rw [h s hsl, h 0 (by omega), h 1 (by omega)]
theorem sqP_eq {G : Nat → Nat → Int64} {c : Int64} {n s0 : Nat} {ch : Nat → Int32} (hsl : s0 < 26) (hc : ∀ y, y < n → ∀ s, s < 26 → ch (26 * y + s) = cX G c n y s) : ∀ i, i ≤ n → sqX ch s0 i = sqP G c n s0 i := by
  intro i
  induction i with
  | zero => intro _; rfl
  | succ i ih =>
    intro hi
    rw [sqX, sqP, ← ih (by omega), hc i (by omega) _ (sqX_lt hsl i)]
def prX2 (μ : kH) (NP : Nat) (yr kn : Int32) : Nat → Int32 := fun s => (fKnown (μ.1 4) (μ.1 5) (μ.1 6) (μ.1 7) (nI s) yr kn NP).1
theorem prX2_turn (μ : kH) (N : Nat) (yr kn : Int32) : ∀ s, s < 4 → (kTurn μ yr kn N).1 10 s = prX2 μ N yr kn s := by
  intro s hs4
  match s, hs4 with
  | 0, _ => rfl
  | 1, _ => rfl
  | 2, _ => rfl
  | 3, _ => rfl
def gP (μ : kH) (NP N : Nat) (v : Int32) (Y0 y s : Nat) : Int64 := gX (hs μ.1 10 (prX2 μ NP (nI (Y0 + y)) (nI Y0)), μ.2) N v (nI s)
/-- the class's frame while it plans -/
def frP (n : Nat) (μ κ : kH) : Prop := (∀ r, r ∉ [8, 10, 30, 31, 32] → κ.1 r = μ.1 r) ∧ κ.1 30 1 = nI n ∧ ∀ r, r ∉ [33, 34, 35] → κ.2 r = μ.2 r
theorem k_dn (k : Nat) : nI k + (-1) = nI k - 1 := by grind

set_option maxHeartbeats 400000 in
set_option maxRecDepth 100000 in
theorem lp_gains {v x2 x3 x4 x5 : Int32} {κ : kH} {N M : Nat} {Φ : Nat → List kV → List kV → kH → Prop} (hM : M = 26) (hsz : (26 : Int32) = nI M) (hN : N ≤ 20) (hts : κ.1 16 4 = nI N) (K : ∀ (ρ : kH) (g : Nat → Int64), (∀ r, r ∉ [8] → ρ.1 r = κ.1 r) → ρ.2 = hs κ.2 33 g → (∀ j, j < 26 → g j = gX κ N v (nI j)) → At kX5_make 89 [kr 30, ki v, ki x2, ki x3, ki x4, ki x5, ku] [] ρ Φ) : ∀ (n i : Nat) (ρ : kH) (g : Nat → Int64), i + n = M → (∀ r, r ∉ [8] → ρ.1 r = κ.1 r) → ρ.2 = hs κ.2 33 g → (∀ j, j < i → g j = gX κ N v (nI j)) → At kX5_make 62 [kr 30, ki v, ki x2, ki x3, ki x4, ki x5, ki (nI i)] [] ρ Φ := by
  intro n
  induction n with
  | zero =>
    intro i ρ g hi q1 q2 hg
    refine k_iload (pc' := 64) dX5_make_62 rfl rfl ?_
    refine k_bipush (pc' := 66) (v := 26) dX5_make_64 rfl (by decide) ?_
    refine k_icmp_ge (pc' := 69) (tg := 89) dX5_make_66 rfl (by decide) (fun c_66 => ?_) (fun c_66 => ?_)
    · skip
      exact k_wk (by repeat' (first | exact trivial | exact rfl | apply And.intro)) (K ρ g q1 q2 (fun j hj => hg j (by omega)))
    · exfalso
      exact c_66 (show (26 : Int32) ≤ nI i by rw [hsz, show i = M from by omega]; exact Int32.le_refl _)
  | succ n ih =>
    intro i ρ g hi q1 q2 hg
    have hlt : i < M := by omega
    refine k_iload (pc' := 64) dX5_make_62 rfl rfl ?_
    refine k_bipush (pc' := 66) (v := 26) dX5_make_64 rfl (by decide) ?_
    refine k_icmp_ge (pc' := 69) (tg := 89) dX5_make_66 rfl (by decide) (fun c_66 => ?_) (fun c_66 => ?_)
    · exfalso
      have c9 : (26 : Int32) ≤ nI i := c_66
      rw [hsz] at c9
      exact nI_ge hlt (by omega) c9
    · skip
      refine k_aload_n (pc' := 70) dX5_make_69 rfl rfl ?_
      refine k_getR (pc' := 73) fl_RX5_22 dX5_make_70 rfl rfl rfl ?_
      refine k_iload (pc' := 75) dX5_make_73 rfl rfl ?_
      refine k_aload_n (pc' := 76) dX5_make_75 rfl rfl ?_
      refine k_iload_n (pc' := 77) dX5_make_76 rfl rfl ?_
      refine k_iload (pc' := 79) dX5_make_77 rfl rfl ?_
      refine k_callV2 (pc' := 82) dX5_make_79 rfl ml_RX5_68 rfl rfl ⟨(Nat.le_of_ble_eq_true rfl), (Nat.le_of_ble_eq_true rfl)⟩ (Nat.le_of_ble_eq_true rfl) (ev_X5_gainOf hN (by rw [q1 16 (by decide)]; exact hts)) (fun r_79 h_79 q_79 => ?_)
      obtain ⟨e_79, f_79⟩ := q_79
      rw [e_79]
      refine k_lastN (pc' := 83) dX5_make_82 rfl rfl (by omega) (by decide) ?_
      refine k_iinc (pc' := 86) (v := nI (_ + 1)) (ls' := [_, _, _, _, _, _, _]) dX5_make_83 rfl rfl (nI_1 _) (by decide) rfl ?_
      refine k_goto (tg := 62) dX5_make_86 (by decide) ?_
      refine ih (i + 1) _ (vp_updL g i (gX ρ N v (nI i))) (by omega) (fun r hr => ?_) ?_ (fun j hj => ?_)
      · show h_79.1 r = κ.1 r
        rw [f_79.1 r hr, q1 r hr]
      · show hs h_79.2 33 (vp_updL (h_79.2 33) i _) = _
        rw [f_79.2, q2, hs_self, hs_hs]
      · simp only [vp_updL]
        by_cases z : j = i
        · subst z
          rw [if_pos rfl]
          exact gX_congr (q1 1 (by decide)) (q1 2 (by decide)) (q1 9 (by decide)) (fun s _ => by rw [q1 10 (by decide)]) (q1 17 (by decide)) (q1 18 (by decide)) (q1 19 (by decide)) (q1 20 (by decide))
        · rw [if_neg z]; exact hg j (by omega)

set_option maxHeartbeats 400000 in
set_option maxRecDepth 100000 in
theorem lp_make {v age : Int32} {μ : kH} {n NP N Y0 s0 : Nat} (hn1 : 1 ≤ n) (hn : n ≤ 20) (hNP : NP ≤ 300) (hps : μ.1 3 4 = nI NP) (hN : N ≤ 20) (hts : μ.1 16 4 = nI N) (hag : age + 1 = nI s0) (hs0 : s0 < 26) : ∀ (k : Nat) (κ : kH), k ≤ n → frP n μ κ → (∀ s, s < 26 → κ.2 34 s = vX (gP μ NP N v Y0) (v * μ.1 1 2).toInt64 n (n - k) s) → (∀ y, k ≤ y → y < n → ∀ s, s < 26 → κ.1 32 (26 * y + s) = cX (gP μ NP N v Y0) (v * μ.1 1 2).toInt64 n y s) → At kX5_make 27 [kr 30, ki v, ki age, ki (nI Y0), ki (nI n), ki (nI k - 1), ku] [] κ (kRet kX5_make (fun r h' => r = kl (vX (gP μ NP N v Y0) (v * μ.1 1 2).toInt64 n n s0) ∧ frP n μ h' ∧ ∀ j, j < n → h'.1 31 j = cX (gP μ NP N v Y0) (v * μ.1 1 2).toInt64 n j (sqP (gP μ NP N v Y0) (v * μ.1 1 2).toInt64 n s0 j))) := by
  intro k
  induction k with
  | zero =>
    intro κ hk q hv hc
    have hsq := sqP_eq (ch := κ.1 32) hs0 (fun y hy s hsl => hc y (by omega) hy s hsl)
    have e0 := nI_toInt (n := s0) (by omega)
    refine k_iload (pc' := 29) dX5_make_27 rfl rfl ?_
    refine k_if_lt (pc' := 32) (tg := 109) dX5_make_29 rfl (by decide) (fun c_29 => ?_) (fun c_29 => ?_)
    · skip
      refine k_iload_n (pc' := 110) dX5_make_109 rfl rfl ?_
      refine k_iconst (pc' := 111) (v := 1) dX5_make_110 rfl (by decide) ?_
      refine k_iadd (pc' := 112) dX5_make_111 rfl ?_
      rw [hag]
      refine k_istore (pc' := 114) (k0 := 0) (ls' := [_, _, _, _, _, _, _]) dX5_make_112 rfl (by decide) rfl ?_
      refine k_aload_n (pc' := 115) dX5_make_114 rfl rfl ?_
      refine k_iload (pc' := 117) dX5_make_115 rfl rfl ?_
      refine k_callV1 (pc' := 120) dX5_make_117 rfl ml_RX5_81 rfl rfl ⟨(Nat.le_of_ble_eq_true rfl), (Nat.le_of_ble_eq_true rfl)⟩ (Nat.le_of_ble_eq_true rfl) (ev_X5_follow hn hs0 q.2.1) (fun r_117 h_117 q_117 => ?_)
      obtain ⟨e_117, g, g_117, d_117⟩ := q_117
      rw [e_117, g_117]
      refine k_iload (pc' := 122) dX5_make_120 rfl rfl ?_
      refine k_iconst (pc' := 123) (v := 0) dX5_make_122 rfl (by decide) ?_
      refine k_bipush (pc' := 125) (v := 25) dX5_make_123 rfl (by decide) ?_
      refine k_callS3 (pc' := 128) dX5_make_125 rfl ml_RX5_85 ⟨(Nat.le_of_ble_eq_true rfl), (Nat.le_of_ble_eq_true rfl)⟩ (Nat.le_of_ble_eq_true rfl) ev_X10_within (fun r_125 h_125 q_125 => ?_)
      obtain ⟨e_125, g_125⟩ := q_125
      rw [e_125, g_125]
      refine k_if_eq (pc' := 131) (tg := 141) dX5_make_128 rfl (by decide) (fun c_128 => ?_) (fun c_128 => ?_)
      · exfalso
        clear hv hc hsq d_117; (try simp only [eq_self, not_true_eq_false, not_false_eq_true, k_b0, k_b1, k_c0, k_cl, k_cg, k_cle, k_cge] at *) <;> (try simp only [e0, eq_self, not_true_eq_false, not_false_eq_true, k_le, k_lt, k_eq, k_leL, k_ltL, k_eqL, k_il, li_m6, li_m5, li_m3, li_m2, li_m1, li_0, li_1, li_2, li_3, li_4, li_5, li_6, li_7, li_8, li_10, li_11, li_12, li_20, li_24, li_25, li_26, li_32, li_39, li_40, li_48, li_57, li_59, li_60, li_96, li_97, li_100, li_122, li_180, li_200, li_255, li_300, li_468, li_480, li_500, li_1000, li_2000, li_10000, li_10001, li_100000, li_1000000, li_100000000, lj_m1, lj_0, lj_1, lj_2, lj_3, lj_24, lj_39, lj_100, lj_500, lj_1000, lj_2000, lj_10000, lj_100000, lj_1000000, lj_100000000, lj_10, lj_20, lj_12, lj_32, lj_96] at *) <;> omega
      · skip
        refine k_aload_n (pc' := 132) dX5_make_131 rfl rfl ?_
        refine k_getR (pc' := 135) fl_RX5_26 dX5_make_132 rfl rfl rfl ?_
        refine k_iload (pc' := 137) dX5_make_135 rfl rfl ?_
        refine k_laldN (pc' := 138) dX5_make_137 rfl rfl (by omega) (by decide) ?_
        refine k_goto (tg := 144) dX5_make_138 (by decide) ?_
        exact k_lret dX5_make_144 rfl ⟨congrArg (fun z => kl z) (hv s0 hs0), ⟨fun r hr => by
        show hs κ.1 31 g r = _
        rw [hs_ne _ _ (fun z => hr (by rw [z]; decide))]; exact q.1 r hr, q.2.1, q.2.2⟩, fun j hj => by
        show g j = _
        rw [d_117 j hj, hc j (by omega) hj _ (sqX_lt hs0 j), hsq j (by omega)]⟩
    · exfalso
      exact c_29 (by decide)
  | succ k ih =>
    intro κ hk q hv hc
    rw [nI_pred]
    refine k_iload (pc' := 29) dX5_make_27 rfl rfl ?_
    refine k_if_lt (pc' := 32) (tg := 109) dX5_make_29 rfl (by decide) (fun c_29 => ?_) (fun c_29 => ?_)
    · exfalso
      exact nI_pos (n := k) (by omega) c_29
    · skip
      refine k_aload_n (pc' := 33) dX5_make_32 rfl rfl ?_
      refine k_getR (pc' := 36) fl_RX5_26 dX5_make_33 rfl rfl rfl ?_
      refine k_iconst (pc' := 37) (v := 0) dX5_make_36 rfl (by decide) ?_
      refine k_aload_n (pc' := 38) dX5_make_37 rfl rfl ?_
      refine k_getR (pc' := 41) fl_RX5_29 dX5_make_38 rfl rfl rfl ?_
      refine k_iconst (pc' := 42) (v := 0) dX5_make_41 rfl (by decide) ?_
      refine k_bipush (pc' := 44) (v := 26) dX5_make_42 rfl (by decide) ?_
      refine k_copyL (pc' := 47) dX5_make_44 rfl ks_cp_RX5_56 rfl rfl (by decide) (by decide) (by decide) (by decide) (by decide) ⟨(Nat.le_of_ble_eq_true rfl), (Nat.le_of_ble_eq_true rfl)⟩ (Nat.le_of_ble_eq_true rfl) ?_
      rw [show (0 : Int32).toNatClampNeg = 0 from rfl, show (26 : Int32).toNatClampNeg = 26 from rfl]
      refine k_aload_n (pc' := 48) dX5_make_47 rfl rfl ?_
      refine k_getR (pc' := 51) fl_RX5_36 dX5_make_48 rfl rfl rfl ?_
      refine k_iload_n (pc' := 52) dX5_make_51 rfl rfl ?_
      refine k_iload (pc' := 54) dX5_make_52 rfl rfl ?_
      refine k_iadd (pc' := 55) dX5_make_54 rfl ?_
      refine k_iload_n (pc' := 56) dX5_make_55 rfl rfl ?_
      rw [nI_add]
      refine k_callV2 (pc' := 59) dX5_make_56 rfl ml_RX5_62 rfl rfl ⟨(Nat.le_of_ble_eq_true rfl), (Nat.le_of_ble_eq_true rfl)⟩ (Nat.le_of_ble_eq_true rfl) (ev_X4_turnTo2 (N := NP) hNP (by show κ.1 3 4 = nI NP; rw [q.1 3 (by decide)]; exact hps)) (fun r_56 h_56 q_56 => ?_)
      obtain ⟨e_56, g_56⟩ := q_56
      rw [e_56, g_56]
      refine k_iconst (pc' := 60) (v := 0) dX5_make_59 rfl (by decide) ?_
      refine k_istore (pc' := 62) (k0 := 0) (ls' := [_, _, _, _, _, _, _]) dX5_make_60 rfl (by decide) rfl ?_
      generalize hτ : kTurn (κ.1, hs κ.2 35 (va_cpy (κ.2 34) (κ.2 35) 0 0 26)) (nI (Y0 + k)) (nI Y0) NP = τ
      have ht1 : ∀ r, r ∉ [10] → τ.1 r = κ.1 r := fun r hr => by
        rw [← hτ]
        exact (fr_I (l := [10]) (fr_I (fr_I (fr_I (fr_rf _ (κ.1, hs κ.2 35 (va_cpy (κ.2 34) (κ.2 35) 0 0 26))) (by decide)) (by decide)) (by decide)) (by decide)).1 r hr
      have ht2 : τ.2 = hs κ.2 35 (va_cpy (κ.2 34) (κ.2 35) 0 0 26) := by rw [← hτ]; rfl
      have ht3 : ∀ s, s < 4 → τ.1 10 s = prX2 μ NP (nI (Y0 + k)) (nI Y0) s := fun s hs4 => by
        rw [← hτ, prX2_turn _ _ _ _ s hs4]
        show (fKnown (κ.1 4) (κ.1 5) (κ.1 6) (κ.1 7) (nI s) _ _ NP).1 = _
        rw [q.1 4 (by decide), q.1 5 (by decide), q.1 6 (by decide), q.1 7 (by decide)]; rfl
      refine k_wk (by repeat' (first | exact trivial | exact rfl | apply And.intro)) (lp_gains (κ := τ) (N := N) (M := 26) rfl rfl hN (by rw [ht1 16 (by decide), q.1 16 (by decide)]; exact hts) (fun ρ g q1 q2 hg => ?_) 26 0 τ (τ.2 33) (by omega) (fun _ _ => rfl) (by rw [hs_id]) (fun j hj => absurd hj (by omega)))
      refine k_aload_n (pc' := 90) dX5_make_89 rfl rfl ?_
      refine k_iload (pc' := 92) dX5_make_90 rfl rfl ?_
      refine k_aload_n (pc' := 93) dX5_make_92 rfl rfl ?_
      refine k_getR (pc' := 96) fl_RX5_32 dX5_make_93 rfl rfl rfl ?_
      refine k_iload_n (pc' := 97) dX5_make_96 rfl rfl ?_
      refine k_callV1 (pc' := 100) dX5_make_97 rfl ml_RX5_72 rfl rfl ⟨(Nat.le_of_ble_eq_true rfl), (Nat.le_of_ble_eq_true rfl)⟩ (Nat.le_of_ble_eq_true rfl) ev_X2_costOf (fun r_97 h_97 q_97 => ?_)
      obtain ⟨e_97, g_97⟩ := q_97
      rw [e_97, g_97]
      rw [q1 1 (by decide), ht1 1 (by decide), q.1 1 (by decide)]
      refine k_callV2 (pc' := 103) dX5_make_100 rfl ml_RX5_78 rfl rfl ⟨(Nat.le_of_ble_eq_true rfl), (Nat.le_of_ble_eq_true rfl)⟩ (Nat.le_of_ble_eq_true rfl) (ev_X5_decideYear (W := fun s => ρ.2 33 s + ρ.2 35 (nxN s)) (by omega) (fun _ _ => rfl)) (fun r_100 h_100 q_100 => ?_)
      obtain ⟨e_100, g2, w2, g_100, d_100⟩ := q_100
      rw [e_100, g_100]
      refine k_iinc (pc' := 106) (v := nI k - 1) (ls' := [_, _, _, _, _, _, _]) dX5_make_103 rfl rfl (k_dn k) (by decide) rfl ?_
      refine k_goto (tg := 27) dX5_make_106 (by decide) ?_
      have hW : ∀ s, s < 26 → ρ.2 33 s + ρ.2 35 (nxN s) = gP μ NP N v Y0 k s + vX (gP μ NP N v Y0) (v * μ.1 1 2).toInt64 n (n - 1 - k) (nxN s) := fun s hsl => by
        have e1 : ρ.2 33 s = g s := by rw [q2, hs_self]
        have e2 : ρ.2 35 (nxN s) = κ.2 34 (nxN s) := by
          rw [q2, ht2]
          show va_cpy (κ.2 34) (κ.2 35) 0 0 26 (nxN s) = _
          have z := nxN_lt hsl
          simp only [va_cpy]
          rw [if_pos (by omega)]
          rw [show 0 + (nxN s - 0) = nxN s by omega]
        rw [e1, e2, hg s hsl, hv _ (nxN_lt hsl), show n - (k + 1) = n - 1 - k by omega]
        congr 1
        unfold gP
        exact gX_congr (μ := (hs μ.1 10 (prX2 μ NP (nI (Y0 + k)) (nI Y0)), μ.2)) ((ht1 1 (by decide)).trans (q.1 1 (by decide))) ((ht1 2 (by decide)).trans (q.1 2 (by decide))) ((ht1 9 (by decide)).trans (q.1 9 (by decide))) ht3 ((ht1 17 (by decide)).trans (q.1 17 (by decide))) ((ht1 18 (by decide)).trans (q.1 18 (by decide))) ((ht1 19 (by decide)).trans (q.1 19 (by decide))) ((ht1 20 (by decide)).trans (q.1 20 (by decide)))
      refine k_wk (by repeat' (first | exact trivial | exact rfl | apply And.intro)) (ih _ (by omega) ⟨fun r hr => ?_, ?_, fun r hr => ?_⟩ (fun s hsl => ?_) (fun y hy1 hy2 s hsl => ?_))
      · show hs ρ.1 32 g2 r = μ.1 r
        have hr2 : r ≠ 8 ∧ r ≠ 10 ∧ r ≠ 32 := by simp at hr; omega
        rw [hs_ne _ _ hr2.2.2, q1 r (by simp; omega), ht1 r (by simp; omega)]
        exact q.1 r hr
      · show hs ρ.1 32 g2 30 1 = _
        rw [hs_ne _ _ (by decide), q1 30 (by decide), ht1 30 (by decide)]
        exact q.2.1
      · show hs ρ.2 34 w2 r = μ.2 r
        have hr2 : r ≠ 33 ∧ r ≠ 34 ∧ r ≠ 35 := by simp at hr; omega
        rw [hs_ne _ _ hr2.2.1, q2, hs_ne _ _ hr2.1, ht2, hs_ne _ _ hr2.2.2]
        exact q.2.2 r hr
      · show hs ρ.2 34 w2 34 s = _
        rw [hs_self, (d_100.1 s hsl).1, show n - k = n - 1 - k + 1 by omega]
        show _ = (dX (fun q => gP μ NP N v Y0 (n - 1 - (n - 1 - k)) q + vX (gP μ NP N v Y0) (v * μ.1 1 2).toInt64 n (n - 1 - k) (nxN q)) (v * μ.1 1 2).toInt64 s).2
        rw [show n - 1 - (n - 1 - k) = k by omega]
        rw [dX_congr hW hsl]
      · show hs ρ.1 32 g2 32 (26 * y + s) = _
        rw [hs_self]
        by_cases z : y = k
        · subst z
          rw [(d_100.1 s hsl).2]
          unfold cX
          rw [dX_congr hW hsl]
        · rw [d_100.2 _ (by omega), q1 32 (by decide), ht1 32 (by decide)]
          exact hc y (by omega) hy2 s hsl

set_option maxHeartbeats 400000 in
set_option maxRecDepth 100000 in
theorem ev_X5_make {v age : Int32} {μ : kH} {n NP N Y0 s0 : Nat} (hn1 : 1 ≤ n) (hn : n ≤ 20) (hNP : NP ≤ 300) (hps : μ.1 3 4 = nI NP) (hN : N ≤ 20) (hts : μ.1 16 4 = nI N) (hag : age + 1 = nI s0) (hs0 : s0 < 26) : Ev kX5_make [kr 30, ki v, ki age, ki (nI Y0), ki (nI n)] μ (fun r h' => r = kl (vX (gP μ NP N v Y0) (v * μ.1 1 2).toInt64 n n s0) ∧ frP n μ h' ∧ ∀ j, j < n → h'.1 31 j = cX (gP μ NP N v Y0) (v * μ.1 1 2).toInt64 n j (sqP (gP μ NP N v Y0) (v * μ.1 1 2).toInt64 n s0 j)) := by
  refine k_ev (ls := [_, _, _, _, _, _, _]) (by decide) (Nat.le_of_ble_eq_true rfl) rfl ?_
  refine k_aload_n (pc' := 1) dX5_make_0 rfl rfl ?_
  refine k_iload (pc' := 3) dX5_make_1 rfl rfl ?_
  refine k_bipush (pc' := 5) (v := 20) dX5_make_3 rfl (by decide) ?_
  refine k_mmin (pc' := 8) dX5_make_5 rfl ks_min_RX5_44 ⟨(Nat.le_of_ble_eq_true rfl), (Nat.le_of_ble_eq_true rfl)⟩ (Nat.le_of_ble_eq_true rfl) ?_
  rw [if_neg (show ¬ (20 : Int32) < nI n from nI_nlt (b := n) (a := 20) hn (by decide))]
  refine k_putI (pc' := 11) fw_RX5_15 dX5_make_8 rfl rfl rfl ?_
  refine k_aload_n (pc' := 12) dX5_make_11 rfl rfl ?_
  refine k_getR (pc' := 15) fl_RX5_26 dX5_make_12 rfl rfl rfl ?_
  refine k_lconst (pc' := 16) (v := 0) dX5_make_15 rfl (by decide) ?_
  refine k_callS2 (pc' := 19) dX5_make_16 rfl ml_RX5_50 ⟨(Nat.le_of_ble_eq_true rfl), (Nat.le_of_ble_eq_true rfl)⟩ (Nat.le_of_ble_eq_true rfl) ev_J7_fill_d0a16 (fun r_16 h_16 q_16 => ?_)
  obtain ⟨e_16, g, g_16, d_16⟩ := q_16
  rw [e_16, g_16]
  refine k_aload_n (pc' := 20) dX5_make_19 rfl rfl ?_
  refine k_getI (pc' := 23) fl_RX5_15 dX5_make_20 rfl rfl rfl ?_
  refine k_iconst (pc' := 24) (v := 1) dX5_make_23 rfl (by decide) ?_
  refine k_isub (pc' := 25) dX5_make_24 rfl ?_
  rw [show (hI μ 30 1 (nI n)).1 30 1 = nI n from hI_at _ _ _ _]
  refine k_istore (pc' := 27) (k0 := 0) (ls' := [_, _, _, _, _, _, _]) dX5_make_25 rfl (by decide) rfl ?_
  refine lp_make hn1 hn hNP hps hN hts hag hs0 n _ (Nat.le_refl _) ⟨fun r hr => ?_, (show (hI μ 30 1 (nI n)).1 30 1 = nI n from hI_at _ _ _ _), fun r hr => ?_⟩ (fun s hsl => ?_) (fun y h1 h2 => absurd h1 (by omega))
  · show hs μ.1 30 _ r = _
    rw [hs_ne _ _ (fun z => hr (by rw [z]; decide))]
  · show hs μ.2 34 g r = _
    rw [hs_ne _ _ (fun z => hr (by rw [z]; decide))]
  · show hs μ.2 34 g 34 s = _
    rw [hs_self, d_16 s hsl, Nat.sub_self]
    rfl

