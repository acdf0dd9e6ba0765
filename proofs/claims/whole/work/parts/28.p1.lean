theorem h3_c (μ : kH) (x : Int32 × Int32 × Int32) : (h3 μ 8 3 4 5 x).1 8 5 = x.2.2 := rfl
theorem m3_c (μ : kH) (x : Int32 × Int32 × Int32) : (h3 μ 46 16 17 18 x).1 46 18 = x.2.2 := rfl
theorem fCh_b (ra pr : Nat → Int32) (f s0 p0 : Int32) : ∀ i, (fCh ra pr f s0 p0 i).2.2 = (fCh ra pr f 0 0 i).2.2 := by
  intro i
  induction i with
  | zero => rfl
  | succ i ih =>
    rw [fCh, fCh, ih]
    split
    · rfl
    · exact ih
def kDue (k f s a : Nat → Int32) (N : Nat) (v ag m : Int32) : Int64 := if v < (fT k f s a v ag m N).2 then 0 else (fT k f s a v ag m N).1
theorem ev_X9_dueFrom2 {v ag m : Int32} {μ : kH} {N : Nat} (hN : N ≤ 20) (hsz : μ.1 16 4 = nI N) : Ev kX9_dueFrom [kr 16, ki v, ki ag, ki m] μ (fun r h' => r = kl (kDue (μ.1 17) (μ.1 18) (μ.1 19) (μ.1 20) N v ag m) ∧ h' = μ) := ev_X9_dueFrom hN hsz
theorem ev_X11_titheOf2 {v ag m : Int32} {μ : kH} {N : Nat} (hN : N ≤ 20) (hsz : μ.1 46 19 = nI N) (hq : ∀ j, j < N → (μ.1 56 j = 0 → 1 ≤ μ.1 58 j) ∧ (μ.1 56 j = 1 → 1 ≤ μ.1 57 j)) : Ev kX11_titheOf [kr 46, ki v, ki ag, ki m] μ (fun r h' => r = kl (kDue (μ.1 56) (μ.1 57) (μ.1 58) (μ.1 59) N v ag m) ∧ h' = μ) := ev_X11_titheOf hN hsz hq
def bX (ra pr : Nat → Int32) (f : Int32) : Int32 := (fCh ra pr f 0 0 4).2.2
def bM (ra tb : Nat → Int32) (f : Int32) (Y : Nat) : Int32 := (fFb ra tb f Y 0 0 4).2.2
def kFr (yi : Nat → Int32) (v a : Int32) : Int32 := if 0 ≤ a ∧ a ≤ 24 then v * yi a.toNatClampNeg / 100 else 0
theorem ev_X2_freshFrom2 {v a : Int32} {μ : kH} : Ev kX2_freshFrom [kr 1, ki v, ki a] μ (fun r h' => r = ki (kFr (μ.1 2) v a) ∧ h' = μ) := ev_X2_freshFrom
/-- what a state brings in a year, by the class -/
def gX (μ : kH) (N : Nat) (v st : Int32) : Int64 := if st = 0 then 0 else (bX (μ.1 9) (μ.1 10) (kFr (μ.1 2) v (st - 1))).toInt64 - kDue (μ.1 17) (μ.1 18) (μ.1 19) (μ.1 20) N v (st - 1) (bX (μ.1 9) (μ.1 10) (kFr (μ.1 2) v (st - 1))) - (μ.1 1 1).toInt64 * v.toInt64
/-- what an age brings in a year, by the reference; 25: bare -/
def gM (μ : kH) (tb : Nat → Int32) (N : Nat) (v a : Int32) (Y : Nat) : Int64 := if a = 25 then 0 else (bM (μ.1 48) tb (v * μ.1 47 a.toNatClampNeg / 100) Y).toInt64 - kDue (μ.1 56) (μ.1 57) (μ.1 58) (μ.1 59) N v a (bM (μ.1 48) tb (v * μ.1 47 a.toNatClampNeg / 100) Y) - (μ.1 46 5).toInt64 * v.toInt64

set_option maxHeartbeats 400000 in
set_option maxRecDepth 100000 in
theorem lp_fill {v : Int64} {μ : kH} {N : Nat} (hN : N = 26) : ∀ (n i : Nat) (g : Nat → Int64), i + n = N → (∀ j, j < i → g j = v) → At kJ7_fill_d0a16 6 [kr 34, kl v, ku, ki (nI i), ki (nI N)] [] (μ.1, hs μ.2 34 g) (kRet kJ7_fill_d0a16 (fun r h' => r = ku ∧ ∃ g : Nat → Int64, h' = (μ.1, hs μ.2 34 g) ∧ ∀ j, j < 26 → g j = v)) := by
  intro n
  induction n with
  | zero =>
    intro i g hi hg
    refine k_iload_n (pc' := 7) dJ7_fill_d0a16_6 rfl rfl ?_
    refine k_iload (pc' := 9) dJ7_fill_d0a16_7 rfl rfl ?_
    refine k_icmp_ge (pc' := 12) (tg := 22) dJ7_fill_d0a16_9 rfl (by decide) (fun c_9 => ?_) (fun c_9 => ?_)
    · skip
      exact k_vret dJ7_fill_d0a16_22 rfl ⟨rfl, g, rfl, fun j hj => hg j (by omega)⟩
    · exfalso
      exact c_9 (by rw [show i = N from by omega]; exact Int32.le_refl _)
  | succ n ih =>
    intro i g hi hg
    have hlt : i < N := by omega
    refine k_iload_n (pc' := 7) dJ7_fill_d0a16_6 rfl rfl ?_
    refine k_iload (pc' := 9) dJ7_fill_d0a16_7 rfl rfl ?_
    refine k_icmp_ge (pc' := 12) (tg := 22) dJ7_fill_d0a16_9 rfl (by decide) (fun c_9 => ?_) (fun c_9 => ?_)
    · exfalso
      exact nI_ge hlt (by omega) c_9
    · skip
      refine k_aload_n (pc' := 13) dJ7_fill_d0a16_12 rfl rfl ?_
      refine k_iload_n (pc' := 14) dJ7_fill_d0a16_13 rfl rfl ?_
      refine k_lload_n (pc' := 15) dJ7_fill_d0a16_14 rfl rfl ?_
      refine k_lastN (pc' := 16) dJ7_fill_d0a16_15 rfl rfl (by omega) (by decide) ?_
      refine k_iinc (pc' := 19) (v := nI (_ + 1)) (ls' := [_, _, _, _, _]) dJ7_fill_d0a16_16 rfl rfl (nI_1 _) (by decide) rfl ?_
      refine k_goto (tg := 6) dJ7_fill_d0a16_19 (by decide) ?_
      exact k_heq (hL_row μ.1 μ.2 34 g i v) (ih (i + 1) _ (by omega) (fun j hj => by
        simp only [vp_updL]
        split
        · rfl
        · exact hg j (by omega)))

set_option maxHeartbeats 400000 in
set_option maxRecDepth 100000 in
theorem ev_J7_fill_d0a16 {v : Int64} {μ : kH} : Ev kJ7_fill_d0a16 [kr 34, kl v] μ (fun r h' => r = ku ∧ ∃ g : Nat → Int64, h' = (μ.1, hs μ.2 34 g) ∧ ∀ j, j < 26 → g j = v) := by
  refine k_ev (ls := [_, _, _, _, _]) (by decide) (Nat.le_of_ble_eq_true rfl) rfl ?_
  refine k_iconst (pc' := 1) (v := 0) dJ7_fill_d0a16_0 rfl (by decide) ?_
  refine k_istore_n (pc' := 2) (k0 := 0) (ls' := [_, _, _, _, _]) dJ7_fill_d0a16_1 rfl (by decide) rfl ?_
  refine k_aload_n (pc' := 3) dJ7_fill_d0a16_2 rfl rfl ?_
  refine k_alenL (pc' := 4) dJ7_fill_d0a16_3 rfl rfl ?_
  refine k_istore (pc' := 6) (k0 := 0) (ls' := [_, _, _, _, _]) dJ7_fill_d0a16_4 rfl (by decide) rfl ?_
  exact k_heq (show μ = (μ.1, hs μ.2 34 (μ.2 34)) by rw [hs_id]) (lp_fill (N := 26) rfl 26 0 _ (by omega) (fun j hj => absurd hj (by omega)))

set_option maxHeartbeats 400000 in
set_option maxRecDepth 100000 in
theorem ev_X5_gainOf {v st : Int32} {μ : kH} {N : Nat} (hN : N ≤ 20) (hsz : μ.1 16 4 = nI N) : Ev kX5_gainOf [kr 30, ki v, ki st] μ (fun r h' => r = kl (gX μ N v st) ∧ fr [8] μ h') := by
  refine k_ev (ls := [_, _, _, _, _, _]) (by decide) (Nat.le_of_ble_eq_true rfl) rfl ?_
  refine k_iload_n (pc' := 1) dX5_gainOf_0 rfl rfl ?_
  refine k_if_ne (pc' := 4) (tg := 6) dX5_gainOf_1 rfl (by decide) (fun c_1 => ?_) (fun c_1 => ?_)
  · skip
    refine k_iload_n (pc' := 7) dX5_gainOf_6 rfl rfl ?_
    refine k_iconst (pc' := 8) (v := 1) dX5_gainOf_7 rfl (by decide) ?_
    refine k_isub (pc' := 9) dX5_gainOf_8 rfl ?_
    refine k_istore_n (pc' := 10) (k0 := 0) (ls' := [_, _, _, _, _, _]) dX5_gainOf_9 rfl (by decide) rfl ?_
    refine k_aload_n (pc' := 11) dX5_gainOf_10 rfl rfl ?_
    refine k_getR (pc' := 14) fl_RX5_36 dX5_gainOf_11 rfl rfl rfl ?_
    refine k_aload_n (pc' := 15) dX5_gainOf_14 rfl rfl ?_
    refine k_getR (pc' := 18) fl_RX5_32 dX5_gainOf_15 rfl rfl rfl ?_
    refine k_iload_n (pc' := 19) dX5_gainOf_18 rfl rfl ?_
    refine k_iload_n (pc' := 20) dX5_gainOf_19 rfl rfl ?_
    refine k_callV2 (pc' := 23) dX5_gainOf_20 rfl ml_RX5_91 rfl rfl ⟨(Nat.le_of_ble_eq_true rfl), (Nat.le_of_ble_eq_true rfl)⟩ (Nat.le_of_ble_eq_true rfl) ev_X2_freshFrom2 (fun r_20 h_20 q_20 => ?_)
    obtain ⟨e_20, g_20⟩ := q_20
    rw [e_20, g_20]
    refine k_callV1 (pc' := 26) dX5_gainOf_23 rfl ml_RX5_94 rfl rfl ⟨(Nat.le_of_ble_eq_true rfl), (Nat.le_of_ble_eq_true rfl)⟩ (Nat.le_of_ble_eq_true rfl) ev_X4_choose (fun r_23 h_23 q_23 => ?_)
    obtain ⟨e_23, g_23⟩ := q_23
    rw [e_23, g_23]
    generalize hX : fCh (μ.1 9) (μ.1 10) (kFr (μ.1 2) v (st - 1)) (μ.1 8 3) (μ.1 8 4) 4 = X
    refine k_aload_n (pc' := 27) dX5_gainOf_26 rfl rfl ?_
    refine k_getR (pc' := 30) fl_RX5_40 dX5_gainOf_27 rfl rfl rfl ?_
    refine k_iload_n (pc' := 31) dX5_gainOf_30 rfl rfl ?_
    refine k_iload_n (pc' := 32) dX5_gainOf_31 rfl rfl ?_
    refine k_aload_n (pc' := 33) dX5_gainOf_32 rfl rfl ?_
    refine k_getR (pc' := 36) fl_RX5_36 dX5_gainOf_33 rfl rfl rfl ?_
    refine k_getI (pc' := 39) fl_RX5_97 dX5_gainOf_36 rfl rfl rfl ?_
    rw [h3_c]
    refine k_callV3 (pc' := 42) dX5_gainOf_39 rfl ml_RX5_100 rfl rfl ⟨(Nat.le_of_ble_eq_true rfl), (Nat.le_of_ble_eq_true rfl)⟩ (Nat.le_of_ble_eq_true rfl) (ev_X9_dueFrom2 hN hsz) (fun r_39 h_39 q_39 => ?_)
    obtain ⟨e_39, g_39⟩ := q_39
    rw [e_39, g_39]
    refine k_lstore (pc' := 44) (k0 := 0) (ls' := [_, _, _, _, _, _]) dX5_gainOf_42 rfl (by decide) rfl ?_
    refine k_aload_n (pc' := 45) dX5_gainOf_44 rfl rfl ?_
    refine k_getR (pc' := 48) fl_RX5_36 dX5_gainOf_45 rfl rfl rfl ?_
    refine k_getI (pc' := 51) fl_RX5_97 dX5_gainOf_48 rfl rfl rfl ?_
    rw [h3_c]
    refine k_i2l (pc' := 52) dX5_gainOf_51 rfl ?_
    refine k_lload (pc' := 54) dX5_gainOf_52 rfl rfl ?_
    refine k_lsub (pc' := 55) dX5_gainOf_54 rfl ?_
    refine k_aload_n (pc' := 56) dX5_gainOf_55 rfl rfl ?_
    refine k_getR (pc' := 59) fl_RX5_32 dX5_gainOf_56 rfl rfl rfl ?_
    refine k_getI (pc' := 62) fl_RX5_106 dX5_gainOf_59 rfl rfl rfl ?_
    refine k_i2l (pc' := 63) dX5_gainOf_62 rfl ?_
    refine k_iload_n (pc' := 64) dX5_gainOf_63 rfl rfl ?_
    refine k_i2l (pc' := 65) dX5_gainOf_64 rfl ?_
    refine k_lmul (pc' := 66) dX5_gainOf_65 rfl ?_
    refine k_lsub (pc' := 67) dX5_gainOf_66 rfl ?_
    exact k_lret dX5_gainOf_67 rfl ⟨by
      have hb : bX (μ.1 9) (μ.1 10) (kFr (μ.1 2) v (st - 1)) = X.2.2 := by unfold bX; rw [← hX]; exact (fCh_b _ _ _ _ _ 4).symm
      unfold gX
      rw [if_neg c_1, hb]
      rfl, fr_h3 (fr_rf _ _) (by decide)⟩
  · skip
    refine k_lconst (pc' := 5) (v := 0) dX5_gainOf_4 rfl (by decide) ?_
    exact k_lret dX5_gainOf_5 rfl ⟨by unfold gX; rw [if_pos c_1], fr_rf _ _⟩

set_option maxHeartbeats 400000 in
set_option maxRecDepth 100000 in
theorem ev_X11_gainOf {v a : Int32} {μ : kH} {Y : Nat} (hY : Y < 40) (ha : ¬ a = 25 → 0 ≤ a.toInt ∧ a.toInt ≤ 24) {N : Nat} (hN : N ≤ 20) (hsz : μ.1 46 19 = nI N) (hq : ∀ j, j < N → (μ.1 56 j = 0 → 1 ≤ μ.1 58 j) ∧ (μ.1 56 j = 1 → 1 ≤ μ.1 57 j)) : Ev kX11_gainOf [kr 46, ki v, ki a, ki (nI Y)] μ (fun r h' => r = kl (gM μ (μ.1 53) N v a Y) ∧ fr2 [] [16, 17, 18] μ h') := by
  refine k_ev (ls := [_, _, _, _]) (by decide) (Nat.le_of_ble_eq_true rfl) rfl ?_
  refine k_iload_n (pc' := 1) dX11_gainOf_0 rfl rfl ?_
  refine k_bipush (pc' := 3) (v := 25) dX11_gainOf_1 rfl (by decide) ?_
  refine k_icmp_ne (pc' := 6) (tg := 8) dX11_gainOf_3 rfl (by decide) (fun c_3 => ?_) (fun c_3 => ?_)
  · skip
    refine k_aload_n (pc' := 9) dX11_gainOf_8 rfl rfl ?_
    refine k_aload_n (pc' := 10) dX11_gainOf_9 rfl rfl ?_
    refine k_iload_n (pc' := 11) dX11_gainOf_10 rfl rfl ?_
    refine k_iload_n (pc' := 12) dX11_gainOf_11 rfl rfl ?_
    refine k_callV2 (pc' := 15) dX11_gainOf_12 rfl ml_RX11_152 rfl rfl ⟨(Nat.le_of_ble_eq_true rfl), (Nat.le_of_ble_eq_true rfl)⟩ (Nat.le_of_ble_eq_true rfl) (ev_X11_freshOf (fun _ => vp_in_iff.mpr (by have u := ha c_3; omega))) (fun r_12 h_12 q_12 => ?_)
    obtain ⟨e_12, g_12⟩ := q_12
    rw [e_12, g_12, if_neg (show ¬ a = -1 from fun z => by have u := ha c_3; simp only [k_eq, li_m1] at z; omega)]
    refine k_iload_n (pc' := 16) dX11_gainOf_15 rfl rfl ?_
    refine k_callV2 (pc' := 19) dX11_gainOf_16 rfl ml_RX11_169 rfl rfl ⟨(Nat.le_of_ble_eq_true rfl), (Nat.le_of_ble_eq_true rfl)⟩ (Nat.le_of_ble_eq_true rfl) (ev_X11_findBest hY) (fun r_16 h_16 q_16 => ?_)
    obtain ⟨e_16, g_16⟩ := q_16
    rw [e_16, g_16, fFb_ind _ _ _ _ (μ.1 46 17) (μ.1 46 18) 3]
    generalize hX : fFb (μ.1 48) (μ.1 53) (v * μ.1 47 a.toNatClampNeg / 100) Y 0 0 (3 + 1) = X
    refine k_aload_n (pc' := 20) dX11_gainOf_19 rfl rfl ?_
    refine k_getI (pc' := 23) fl_RX11_159 dX11_gainOf_20 rfl rfl rfl ?_
    rw [m3_c]
    refine k_i2l (pc' := 24) dX11_gainOf_23 rfl ?_
    refine k_aload_n (pc' := 25) dX11_gainOf_24 rfl rfl ?_
    refine k_iload_n (pc' := 26) dX11_gainOf_25 rfl rfl ?_
    refine k_iload_n (pc' := 27) dX11_gainOf_26 rfl rfl ?_
    refine k_aload_n (pc' := 28) dX11_gainOf_27 rfl rfl ?_
    refine k_getI (pc' := 31) fl_RX11_159 dX11_gainOf_28 rfl rfl rfl ?_
    rw [m3_c]
    refine k_callV3 (pc' := 34) dX11_gainOf_31 rfl ml_RX11_240 rfl rfl ⟨(Nat.le_of_ble_eq_true rfl), (Nat.le_of_ble_eq_true rfl)⟩ (Nat.le_of_ble_eq_true rfl) (ev_X11_titheOf2 hN hsz hq) (fun r_31 h_31 q_31 => ?_)
    obtain ⟨e_31, g_31⟩ := q_31
    rw [e_31, g_31]
    refine k_lsub (pc' := 35) dX11_gainOf_34 rfl ?_
    refine k_aload_n (pc' := 36) dX11_gainOf_35 rfl rfl ?_
    refine k_getI (pc' := 39) fl_RX11_16 dX11_gainOf_36 rfl rfl rfl ?_
    refine k_i2l (pc' := 40) dX11_gainOf_39 rfl ?_
    refine k_iload_n (pc' := 41) dX11_gainOf_40 rfl rfl ?_
    refine k_i2l (pc' := 42) dX11_gainOf_41 rfl ?_
    refine k_lmul (pc' := 43) dX11_gainOf_42 rfl ?_
    refine k_lsub (pc' := 44) dX11_gainOf_43 rfl ?_
    exact k_lret dX11_gainOf_44 rfl ⟨by
      have hb : bM (μ.1 48) (μ.1 53) (v * μ.1 47 a.toNatClampNeg / 100) Y = X.2.2 := by unfold bM; rw [← hX]
      unfold gM
      rw [if_neg c_3, hb]
      rfl, fr2_h3 (fr2_rf _ _ _) (by decide) (by decide) (by decide)⟩
  · skip
    refine k_lconst (pc' := 7) (v := 0) dX11_gainOf_6 rfl (by decide) ?_
    exact k_lret dX11_gainOf_7 rfl ⟨by unfold gM; rw [if_pos c_3], fr2_rf _ _ _⟩

def agN (A D : Nat) : Nat := if D = 0 then A else if D = 1 then 25 else 0
def olN (A : Nat) : Nat := if A = 25 ∨ A = 24 then A else A + 1
theorem agN_le {A D : Nat} (hA : A ≤ 25) : agN A D ≤ 25 := by unfold agN; (repeat' split) <;> omega
theorem olN_le {A : Nat} (hA : A ≤ 25) : olN A ≤ 25 := by unfold olN; split <;> omega
theorem k_agN {A D : Nat} (hA : A ≤ 25) (hD : D < 4) : (if nI D = 0 then nI A else if nI D = 1 then 25 else 0) = nI (agN A D) := by
  unfold agN
  match D, hD with
  | 0, _ => rfl
  | 1, _ => rfl
  | 2, _ => rfl
  | 3, _ => rfl
theorem k_olN {A : Nat} (hA : A ≤ 25) : (if nI A = 25 ∨ nI A = 24 then nI A else nI A + 1) = nI (olN A) := by
  unfold olN
  have e1 : (nI A = 25) ↔ A = 25 := nI_eq (b := 25) (by omega) (by decide)
  have e2 : (nI A = 24) ↔ A = 24 := nI_eq (b := 24) (by omega) (by decide)
  simp only [e1, e2]
  split
  · rfl
  · exact nI_1 A
theorem k_26 (i j : Nat) : (26 : Int32) * nI i + 26 + nI j = nI (26 * i + 26 + j) := by
  rw [show (26 : Int32) = nI 26 from rfl]
  simp only [nI]
  rw [← Int32.ofNat_mul, ← Int32.ofNat_add, ← Int32.ofNat_add]
theorem k_26b (i j : Nat) : (26 : Int32) * nI i + nI j = nI (26 * i + j) := by
  rw [show (26 : Int32) = nI 26 from rfl]
  simp only [nI]
  rw [← Int32.ofNat_mul, ← Int32.ofNat_add]
theorem k_26c (i j : Nat) : nI i * (26 : Int32) + nI j = nI (26 * i + j) := by
  rw [show (26 : Int32) = nI 26 from rfl]
  simp only [nI]
  rw [← Int32.ofNat_mul, ← Int32.ofNat_add, Nat.mul_comm]
def wM (μ : kH) (tb : Nat → Int32) (ah : Nat → Int64) (N Y0 : Nat) (v : Int32) (I A D : Nat) : Int64 := gM μ tb N v (nI (agN A D)) (Y0 + I) - (if 1 < D then (μ.1 46 6).toInt64 * v.toInt64 else 0) + ah (26 * I + 26 + olN (agN A D))

set_option maxHeartbeats 400000 in
set_option maxRecDepth 100000 in
theorem ev_X11_worthOf {v : Int32} {μ : kH} {Y0 I A D : Nat} (hA : A ≤ 25) (hD : D < 4) (hI0 : I < 20) (hY : Y0 + I < 40) (hnw : μ.1 46 2 = nI Y0) {N : Nat} (hN : N ≤ 20) (hsz : μ.1 46 19 = nI N) (hq : ∀ j, j < N → (μ.1 56 j = 0 → 1 ≤ μ.1 58 j) ∧ (μ.1 56 j = 1 → 1 ≤ μ.1 57 j)) : Ev kX11_worthOf [kr 46, ki v, ki (nI I), ki (nI A), ki (nI D)] μ (fun r h' => r = kl (wM μ (μ.1 53) (μ.2 62) N Y0 v I A D) ∧ fr2 [] [16, 17, 18] μ h') := by
  refine k_ev (ls := [_, _, _, _, _, _]) (by decide) (Nat.le_of_ble_eq_true rfl) rfl ?_
  refine k_iload_n (pc' := 1) dX11_worthOf_0 rfl rfl ?_
  refine k_iload (pc' := 3) dX11_worthOf_1 rfl rfl ?_
  refine k_callS2 (pc' := 6) dX11_worthOf_3 rfl ml_RX11_244 ⟨(Nat.le_of_ble_eq_true rfl), (Nat.le_of_ble_eq_true rfl)⟩ (Nat.le_of_ble_eq_true rfl) ev_X11_ageBy (fun r_3 h_3 q_3 => ?_)
  obtain ⟨e_3, g_3⟩ := q_3
  rw [e_3, g_3, k_agN hA hD]
  have hag := agN_le (D := D) hA
  refine k_istore (pc' := 8) (k0 := 0) (ls' := [_, _, _, _, _, _]) dX11_worthOf_6 rfl (by decide) rfl ?_
  refine k_aload_n (pc' := 9) dX11_worthOf_8 rfl rfl ?_
  refine k_iload_n (pc' := 10) dX11_worthOf_9 rfl rfl ?_
  refine k_iload (pc' := 12) dX11_worthOf_10 rfl rfl ?_
  refine k_aload_n (pc' := 13) dX11_worthOf_12 rfl rfl ?_
  refine k_getI (pc' := 16) fl_RX11_247 dX11_worthOf_13 rfl rfl rfl ?_
  refine k_iload_n (pc' := 17) dX11_worthOf_16 rfl rfl ?_
  refine k_iadd (pc' := 18) dX11_worthOf_17 rfl ?_
  rw [hnw, nI_add]
  refine k_callV3 (pc' := 21) dX11_worthOf_18 rfl ml_RX11_250 rfl rfl ⟨(Nat.le_of_ble_eq_true rfl), (Nat.le_of_ble_eq_true rfl)⟩ (Nat.le_of_ble_eq_true rfl) (ev_X11_gainOf hY (fun z => by have e := nI_toInt (n := agN A D) (by omega); have z2 : ¬ agN A D = 25 := fun z3 => z (by rw [z3]; rfl); rw [e]; omega) hN hsz hq) (fun r_18 h_18 q_18 => ?_)
  obtain ⟨e_18, f_18⟩ := q_18
  rw [e_18]
  refine k_iload (pc' := 23) dX11_worthOf_21 rfl rfl ?_
  refine k_iconst (pc' := 24) (v := 1) dX11_worthOf_23 rfl (by decide) ?_
  refine k_icmp_le (pc' := 27) (tg := 38) dX11_worthOf_24 rfl (by decide) (fun c_24 => ?_) (fun c_24 => ?_)
  · skip
    have hDD : ¬ 1 < D := fun z => nI_ge z (by omega) c_24
    refine k_lconst (pc' := 39) (v := 0) dX11_worthOf_38 rfl (by decide) ?_
    refine k_lsub (pc' := 40) dX11_worthOf_39 rfl ?_
    refine k_aload_n (pc' := 41) dX11_worthOf_40 rfl rfl ?_
    refine k_getR (pc' := 44) fl_RX11_65 dX11_worthOf_41 rfl rfl rfl ?_
    refine k_bipush (pc' := 46) (v := 26) dX11_worthOf_44 rfl (by decide) ?_
    refine k_iload_n (pc' := 47) dX11_worthOf_46 rfl rfl ?_
    refine k_imul (pc' := 48) dX11_worthOf_47 rfl ?_
    refine k_bipush (pc' := 50) (v := 26) dX11_worthOf_48 rfl (by decide) ?_
    refine k_iadd (pc' := 51) dX11_worthOf_50 rfl ?_
    refine k_iload (pc' := 53) dX11_worthOf_51 rfl rfl ?_
    refine k_callS1 (pc' := 56) dX11_worthOf_53 rfl ml_RX11_253 ⟨(Nat.le_of_ble_eq_true rfl), (Nat.le_of_ble_eq_true rfl)⟩ (Nat.le_of_ble_eq_true rfl) ev_X11_older (fun r_53 h_53 q_53 => ?_)
    obtain ⟨e_53, g_53⟩ := q_53
    rw [e_53, g_53, k_olN hag]
    have hol := olN_le hag
    refine k_iadd (pc' := 57) dX11_worthOf_56 rfl ?_
    rw [k_26 I (olN (agN A D))]
    refine k_laldN (pc' := 58) dX11_worthOf_57 rfl rfl (by omega) (by decide) ?_
    refine k_ladd (pc' := 59) dX11_worthOf_58 rfl ?_
    exact k_lret dX11_worthOf_59 rfl ⟨by
      unfold wM
      rw [show h_18.2 = μ.2 from f_18.2.2]
      first | (rw [if_pos hDD, show h_18.1 46 6 = μ.1 46 6 from f_18.2.1 6 (by decide)]) | (rw [if_neg hDD]), f_18⟩
  · skip
    have hDD : 1 < D := by
      rcases Nat.lt_or_ge 1 D with z | z
      · exact z
      · exact absurd (nI_le z (by decide)) c_24
    refine k_aload_n (pc' := 28) dX11_worthOf_27 rfl rfl ?_
    refine k_getI (pc' := 31) fl_RX11_20 dX11_worthOf_28 rfl rfl rfl ?_
    refine k_i2l (pc' := 32) dX11_worthOf_31 rfl ?_
    refine k_iload_n (pc' := 33) dX11_worthOf_32 rfl rfl ?_
    refine k_i2l (pc' := 34) dX11_worthOf_33 rfl ?_
    refine k_lmul (pc' := 35) dX11_worthOf_34 rfl ?_
    refine k_goto (tg := 39) dX11_worthOf_35 (by decide) ?_
    refine k_lsub (pc' := 40) dX11_worthOf_39 rfl ?_
    refine k_aload_n (pc' := 41) dX11_worthOf_40 rfl rfl ?_
    refine k_getR (pc' := 44) fl_RX11_65 dX11_worthOf_41 rfl rfl rfl ?_
    refine k_bipush (pc' := 46) (v := 26) dX11_worthOf_44 rfl (by decide) ?_
    refine k_iload_n (pc' := 47) dX11_worthOf_46 rfl rfl ?_
    refine k_imul (pc' := 48) dX11_worthOf_47 rfl ?_
    refine k_bipush (pc' := 50) (v := 26) dX11_worthOf_48 rfl (by decide) ?_
    refine k_iadd (pc' := 51) dX11_worthOf_50 rfl ?_
    refine k_iload (pc' := 53) dX11_worthOf_51 rfl rfl ?_
    refine k_callS1 (pc' := 56) dX11_worthOf_53 rfl ml_RX11_253 ⟨(Nat.le_of_ble_eq_true rfl), (Nat.le_of_ble_eq_true rfl)⟩ (Nat.le_of_ble_eq_true rfl) ev_X11_older (fun r_53 h_53 q_53 => ?_)
    obtain ⟨e_53, g_53⟩ := q_53
    rw [e_53, g_53, k_olN hag]
    have hol := olN_le hag
    refine k_iadd (pc' := 57) dX11_worthOf_56 rfl ?_
    rw [k_26 I (olN (agN A D))]
    refine k_laldN (pc' := 58) dX11_worthOf_57 rfl rfl (by omega) (by decide) ?_
    refine k_ladd (pc' := 59) dX11_worthOf_58 rfl ?_
    exact k_lret dX11_worthOf_59 rfl ⟨by
      unfold wM
      rw [show h_18.2 = μ.2 from f_18.2.2]
      first | (rw [if_pos hDD, show h_18.1 46 6 = μ.1 46 6 from f_18.2.1 6 (by decide)]) | (rw [if_neg hDD]), f_18⟩

