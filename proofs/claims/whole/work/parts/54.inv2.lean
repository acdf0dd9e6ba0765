def bt (x : Int32) (i : Nat) : Bool := x.toBitVec.getLsbD i
theorem b_ext {x y : Int32} (h : ∀ i, i < 32 → bt x i = bt y i) : x = y := Int32.toBitVec_inj.mp (BitVec.eq_of_getLsbD_eq (fun i hi => h i hi))
theorem b_and (x y : Int32) (i : Nat) : bt (x &&& y) i = (bt x i && bt y i) := by unfold bt; rw [Int32.toBitVec_and, BitVec.getLsbD_and]
theorem b_big {x : Int32} {i : Nat} (h : 32 ≤ i) : bt x i = false := BitVec.getLsbD_of_ge _ _ h
theorem b_255 (i : Nat) : bt 255 i = decide (i < 8) := by
  rcases Nat.lt_or_ge i 32 with h | h
  · exact (by decide +kernel : ∀ i, i < 32 → bt 255 i = decide (i < 8)) i h
  · rw [b_big h, decide_eq_false (by omega)]
theorem s_l : ∀ n, n < 32 → ((nI n &&& 31).toBitVec.smod 32).toNat = n := by decide +kernel
theorem s_u : ∀ n, n < 32 → (((nI n).toUInt32 &&& Int32.toUInt32 31).toBitVec % 32).toNat = n := by decide +kernel
theorem b_ushr (n : Nat) (hn : n < 32) (x : Int32) (i : Nat) : bt ((x.toUInt32 >>> ((nI n).toUInt32 &&& Int32.toUInt32 31)).toInt32) i = bt x (n + i) := by
  show (x.toUInt32 >>> ((nI n).toUInt32 &&& Int32.toUInt32 31)).toBitVec.getLsbD i = x.toUInt32.toBitVec.getLsbD (n + i)
  rw [UInt32.toBitVec_shiftRight]
  show (x.toUInt32.toBitVec >>> (((nI n).toUInt32 &&& Int32.toUInt32 31).toBitVec % 32).toNat).getLsbD i = _
  rw [s_u n hn, BitVec.getLsbD_ushiftRight]
theorem b_sshr (n : Nat) (hn : n < 32) (x : Int32) {i : Nat} (hi : i < 32) : bt (x >>> (nI n &&& 31)) i = if n + i < 32 then bt x (n + i) else bt x 31 := by
  unfold bt
  rw [Int32.toBitVec_shiftRight]
  show (x.toBitVec.sshiftRight ((nI n &&& 31).toBitVec.smod 32).toNat).getLsbD i = _
  rw [s_l n hn, BitVec.getLsbD_sshiftRight, BitVec.msb_eq_getLsbD_last]
  simp [hi]
def byX (n : Nat) (x : Int32) : Int32 := (x.toUInt32 >>> ((nI n).toUInt32 &&& Int32.toUInt32 31)).toInt32 &&& 255
theorem by_eq (n : Nat) (hn : n ≤ 24) (x : Int32) : x >>> (nI n &&& 31) &&& 255 = byX n x := by
  unfold byX
  refine b_ext (fun i hi => ?_)
  rw [b_and, b_and, b_ushr n (by omega), b_sshr n (by omega) x hi, b_255]
  by_cases z : i < 8
  · rw [if_pos (by omega)]
  · rw [decide_eq_false z, Bool.and_false, Bool.and_false]
def u4 (f : Nat → Int32) (L : Nat) (x : Int32) : Nat → Int32 := upd (upd (upd (upd f L (byX 24 x)) (L + 1) (byX 16 x)) (L + 1 + 1) (byX 8 x)) (L + 1 + 1 + 1) (byX 0 x)
theorem wrX_ok {μ κ : kH} {L : Nat} {b : Int32} (q : fr [14, 15] μ κ) (hz : κ.1 14 1 = nI L) (hL1 : L < 200) : fr [14, 15] μ (wrX κ b) ∧ (wrX κ b).1 14 1 = nI (L + 1) ∧ (wrX κ b).1 15 = upd (κ.1 15) L b := by
  unfold wrX
  rw [hz, nI_clamp (by omega), nI_1]
  exact ⟨fr_I (fr_I q (by decide)) (by decide), hI_at _ _ _ _, by show hs κ.1 15 (upd (κ.1 15) L b) 15 = _; exact hs_self _ _ _⟩
theorem wrM_ok {μ κ : kH} {L : Nat} {b : Int32} (q : fr2 [61] [27] μ κ) (hz : κ.1 46 27 = nI L) (hL1 : L < 200) : fr2 [61] [27] μ (wrM κ b) ∧ (wrM κ b).1 46 27 = nI (L + 1) ∧ (wrM κ b).1 61 = upd (κ.1 61) L b := by
  unfold wrM
  rw [hz, nI_clamp (by omega), nI_1]
  exact ⟨fr2_J (fr2_I q (by decide) (by decide)) (by decide), hI_at _ _ _ _, by show hs κ.1 61 (upd (κ.1 61) L b) 61 = _; exact hs_self _ _ _⟩
theorem w4X_ok {μ κ : kH} {L : Nat} {x : Int32} (q : fr [14, 15] μ κ) (hz : κ.1 14 1 = nI L) (hL1 : L + 4 ≤ 200) : fr [14, 15] μ (w4X κ x) ∧ (w4X κ x).1 14 1 = nI (L + 4) ∧ (w4X κ x).1 15 = u4 (κ.1 15) L x := by
  have a1 := wrX_ok (b := byX 24 x) q hz (by omega)
  have a2 := wrX_ok (b := byX 16 x) a1.1 a1.2.1 (by omega)
  have a3 := wrX_ok (b := byX 8 x) a2.1 a2.2.1 (by omega)
  have a4 := wrX_ok (b := byX 0 x) a3.1 a3.2.1 (by omega)
  have e : w4X κ x = wrX (wrX (wrX (wrX κ (byX 24 x)) (byX 16 x)) (byX 8 x)) (byX 0 x) := rfl
  rw [e]
  refine ⟨a4.1, a4.2.1, ?_⟩
  rw [a4.2.2, a3.2.2, a2.2.2, a1.2.2]; rfl
theorem w4M_ok {μ κ : kH} {L : Nat} {x : Int32} (q : fr2 [61] [27] μ κ) (hz : κ.1 46 27 = nI L) (hL1 : L + 4 ≤ 200) : fr2 [61] [27] μ (w4M κ x) ∧ (w4M κ x).1 46 27 = nI (L + 4) ∧ (w4M κ x).1 61 = u4 (κ.1 61) L x := by
  have a1 := wrM_ok (b := byX 24 x) q hz (by omega)
  have a2 := wrM_ok (b := byX 16 x) a1.1 a1.2.1 (by omega)
  have a3 := wrM_ok (b := byX 8 x) a2.1 a2.2.1 (by omega)
  have a4 := wrM_ok (b := byX 0 x) a3.1 a3.2.1 (by omega)
  have e : w4M κ x = wrM (wrM (wrM (wrM κ (byX 24 x)) (byX 16 x)) (byX 8 x)) (byX 0 x) := by
    rw [← by_eq 24 (by decide), ← by_eq 16 (by decide), ← by_eq 8 (by decide), ← by_eq 0 (by decide)]; rfl
  rw [e]
  refine ⟨a4.1, a4.2.1, ?_⟩
  rw [a4.2.2, a3.2.2, a2.2.2, a1.2.2]; rfl
set_option maxHeartbeats 400000 in
set_option maxRecDepth 100000 in
theorem pr_feed {a b c d e : Int32} {μ : kH} (hi : Inv μ) : Ev kX10_feed [kr 0, ki a, ki b, ki c, ki d, ki e] μ (fun r1 h1 => (∃ v, r1 = ki v) ∧ Ev kX11_feed [kr 46, ki a, ki b, ki c, ki d, ki e] h1 (fun r2 h2 => r2 = r1 ∧ Inv h2)) := by
  obtain ⟨i1, i2, i3, i4, i5, i6, i7, i8, i9, i10, i11, i12, i13⟩ := id hi
  obtain ⟨eb, L, hL, eL, eL'⟩ := id i8
  refine k_evm (ev_X10_feed hL eL) (fun r1 h1 q1 => ?_)
  by_cases z : L + 20 ≤ 200
  · rw [if_pos z] at q1
    obtain ⟨e1, e2⟩ := q1
    have a1 := w4X_ok (x := a) (fr_rf [14, 15] μ) eL (by omega)
    have a2 := w4X_ok (x := b) a1.1 a1.2.1 (by omega)
    have a3 := w4X_ok (x := c) a2.1 a2.2.1 (by omega)
    have a4 := w4X_ok (x := d) a3.1 a3.2.1 (by omega)
    have a5 := w4X_ok (x := e) a4.1 a4.2.1 (by omega)
    rw [← e2] at a5
    have g27 : (hI h1 46 0 0).1 46 27 = nI L := by
      show h1.1 46 27 = _
      rw [a5.1.1 46 (by decide)]; exact eL'
    refine ⟨⟨_, e1⟩, k_evm (ev_X11_feed rfl hL g27) (fun r2 h2 q2 => ?_)⟩
    rw [if_pos z] at q2
    obtain ⟨e3, e4⟩ := q2
    refine ⟨e3.trans e1.symm, ?_⟩
    have c1 := w4M_ok (x := a) (fr2_rf [61] [27] (hI h1 46 0 0)) g27 (by omega)
    have c2 := w4M_ok (x := b) c1.1 c1.2.1 (by omega)
    have c3 := w4M_ok (x := c) c2.1 c2.2.1 (by omega)
    have c4 := w4M_ok (x := d) c3.1 c3.2.1 (by omega)
    have c5 := w4M_ok (x := e) c4.1 c4.2.1 (by omega)
    rw [← e4] at c5
    have hx : ∀ k, k ∉ [14, 15, 46, 61] → h2.1 k = μ.1 k := fun k hk => by
      have k46 : k ≠ 46 := fun w => hk (by rw [w]; decide)
      rw [c5.1.1 k (fun w => hk (by simp only [List.mem_cons, List.not_mem_nil, or_false] at w ⊢; omega)) k46]
      show (hI h1 46 0 0).1 k = _
      rw [show (hI h1 46 0 0).1 k = h1.1 k from hs_ne _ _ k46]
      exact a5.1.1 k (fun w => hk (by simp only [List.mem_cons, List.not_mem_nil, or_false] at w ⊢; omega))
    have hj : ∀ j, j ∉ [0, 27] → h2.1 46 j = μ.1 46 j := fun j hj => by
      rw [c5.1.2.1 j (fun w => hj (by simp only [List.mem_cons, List.not_mem_nil, or_false] at w ⊢; omega))]
      have e46 : (hI h1 46 0 0).1 46 j = h1.1 46 j := by
        show (hs h1.1 46 (upd (h1.1 46) 0 0)) 46 j = _
        rw [hs_self]; simp only [upd]; rw [if_neg (fun w => hj (by rw [w]; decide))]
      rw [e46, a5.1.1 46 (by decide)]
    have x14 : h2.1 14 = h1.1 14 := c5.1.1 14 (by decide) (by decide)
    have x15 : h2.1 15 = h1.1 15 := c5.1.1 15 (by decide) (by decide)
    have y61 : (hI h1 46 0 0).1 61 = μ.1 15 := by
      show h1.1 61 = _
      rw [a5.1.1 61 (by decide)]; exact eb.symm
    exact ⟨(by rw [hx 0 (by decide), hj 2 (by decide)]; exact i1), (by rw [hx 0 (by decide), hj 1 (by decide)]; exact i2), (by rw [hx 1 (by decide), hj 5 (by decide), hj 6 (by decide)]; exact i3), (by rw [hx 2 (by decide), hx 47 (by decide)]; exact i4), (by rw [hx 9 (by decide), hx 48 (by decide)]; exact i5), (by rw [hx 3 (by decide), hj 7 (by decide), hx 4 (by decide), hx 5 (by decide), hx 6 (by decide), hx 7 (by decide), hx 49 (by decide), hx 50 (by decide), hx 51 (by decide), hx 52 (by decide)]; exact i6), (by rw [hx 11 (by decide), hj 13 (by decide), hx 12 (by decide), hx 13 (by decide), hx 54 (by decide), hx 55 (by decide)]; exact i7), ⟨by rw [x15, a5.2.2, c5.2.2, a4.2.2, c4.2.2, a3.2.2, c3.2.2, a2.2.2, c2.2.2, a1.2.2, c1.2.2, y61], L + 4 + 4 + 4 + 4 + 4, by omega, by rw [x14]; exact a5.2.1, c5.2.1⟩, (by rw [hx 16 (by decide), hj 19 (by decide), hx 17 (by decide), hx 18 (by decide), hx 19 (by decide), hx 20 (by decide), hx 56 (by decide), hx 57 (by decide), hx 58 (by decide), hx 59 (by decide)]; exact i9), (by rw [hx 21 (by decide), hj 32 (by decide)]; exact i10), (by rw [hx 30 (by decide), hj 36 (by decide), hx 31 (by decide), hx 63 (by decide)]; exact i11), (by rw [hj 2 (by decide), hx 36 (by decide), hj 37 (by decide), hj 41 (by decide), hx 37 (by decide), hx 38 (by decide), hx 39 (by decide), hx 64 (by decide), hx 65 (by decide), hx 66 (by decide)]; exact i12), (by rw [hx 40 (by decide), hj 43 (by decide), hj 42 (by decide), hx 41 (by decide), hx 42 (by decide), hx 43 (by decide), hx 44 (by decide), hx 67 (by decide), hx 68 (by decide), hx 69 (by decide), hx 70 (by decide), hx 71 (by decide), hx 45 (by decide), hx 72 (by decide)]; exact i13)⟩
  · rw [if_neg z] at q1
    obtain ⟨e1, e2⟩ := q1
    rw [e2]
    refine ⟨⟨_, e1⟩, k_evm (ev_X11_feed rfl hL eL') (fun r2 h2 q2 => ?_)⟩
    rw [if_neg z] at q2
    obtain ⟨e3, e4⟩ := q2
    refine ⟨e3.trans e1.symm, ?_⟩
    rw [e4]
    exact ⟨i1, i2, i3, i4, i5, i6, i7, i8, i9, i10, i11, i12, i13⟩

theorem fKnown_bd {so ye am kn : Nat → Int32} {s y k : Int32} : ∀ N, (∀ j, j < N → bd 0 1000 (am j)) → bd 0 1000 (fKnown so ye am kn s y k N).1 := by
  intro N
  induction N with
  | zero => intro _; exact ⟨by show 0 ≤ (0 : Int32).toInt; decide, by show (0 : Int32).toInt ≤ 1000; decide⟩
  | succ N ih =>
    intro hb
    rw [fKnown]
    split
    · exact hb N (by omega)
    · exact ih (fun j hj => hb j (by omega))
/-- the choice of both sides at year Y, with the prices known in k -/
theorem pick_eq {so ye am kn ra pr tb : Nat → Int32} {f k s0 p0 : Int32} {N Y : Nat} (hY : Y < 40) (hf : 0 ≤ f.toInt ∧ f.toInt ≤ 100000) (hr : ∀ s, s < 4 → bd 1 100 (ra s)) (b1 : ∀ j, j < N → bd 0 3 (so j)) (b2 : ∀ j, j < N → bd 0 39 (ye j)) (b3 : ∀ j, j < N → bd 0 1000 (am j)) (hp : ∀ s, s < 4 → pr s = (fKnown so ye am kn (nI s) (nI Y) k N).1) (ht : ∀ s, s < 4 → ∀ y, y < 40 → tb (40 * s + y) = fFill (fTab so ye am kn k N) s (y + 1)) : fCh ra pr f s0 p0 4 = fFb ra tb f Y 0 0 4 ∧ 0 ≤ (fCh ra pr f s0 p0 4).1.toInt := by
  refine fCh_fFb hf.1 hf.2 (fun s h4 => ⟨by have := (hr s h4).1; omega, (hr s h4).2⟩) (fun s h4 => ?_) 3 (by decide)
  have e := fKnown_fFill (k := k) (kn := kn) h4 hY (N := N) (fun j hj => ⟨b1 j hj, b2 j hj, (b3 j hj).1⟩)
  have b := fKnown_bd (so := so) (ye := ye) (kn := kn) (s := nI s) (y := nI Y) (k := k) N b3
  exact ⟨by rw [hp s h4, e, ht s h4 Y hY], by rw [hp s h4]; exact b.1, by rw [hp s h4]; exact b.2⟩
theorem kTurn_10 {μ : kH} {y k : Int32} {N : Nat} : ∀ s, s < 4 → (kTurn μ y k N).1 10 s = (fKnown (μ.1 4) (μ.1 5) (μ.1 6) (μ.1 7) (nI s) y k N).1 := by
  intro s h4
  rcases (show s = 0 ∨ s = 1 ∨ s = 2 ∨ s = 3 by omega) with rfl | rfl | rfl | rfl <;> rfl
set_option maxHeartbeats 400000 in
set_option maxRecDepth 100000 in
theorem pr_best {f y k w : Int32} {μ : kH} (hi : Inv μ) : Ev kX10_best [kr 0, ki f, ki y, ki k, ki w] μ (fun r1 h1 => (∃ v, r1 = ki v) ∧ Ev kX11_best [kr 46, ki f, ki y, ki k, ki w] h1 (fun r2 h2 => r2 = r1 ∧ Inv h2)) := by
  obtain ⟨i1, i2, i3, i4, i5, i6, i7, i8, i9, i10, i11, i12, i13⟩ := id hi
  obtain ⟨⟨es, ey, ep, ek⟩, N, hN, eN, eN', b1, b2, b3⟩ := id i6
  by_cases z : (0 ≤ f ∧ f ≤ 100000) ∧ (0 ≤ y ∧ y ≤ 39) ∧ (0 ≤ k ∧ k ≤ 39)
  · refine k_evm (ev_X10_best_ok z hN eN) (fun r1 h1 q1 => ?_)
    obtain ⟨e1, e2⟩ := q1
    refine ⟨⟨_, e1⟩, ?_⟩
    by_cases zw : 0 ≤ w ∧ w ≤ 2
    · obtain ⟨Y, hY, eY⟩ := ns_of (lo := 0) (hg := 39) (bd_of z.2.1 li_0 li_39) (by decide)
      have f1 := k_le.mp z.1.1; have f2 := k_le.mp z.1.2
      rw [li_0] at f1; rw [li_100000] at f2
      rw [eY] at e1 e2 ⊢
      rw [e2]
      refine k_evm (ev_X11_best_ok rfl z.1 (by omega) z.2.2 zw hN eN' (fun j hj => ⟨(b1 j hj).1, (b1 j hj).2, (b2 j hj).1, (b2 j hj).2⟩)) (fun r2 h2 q2 => ?_)
      obtain ⟨tb, ht, e3, e4⟩ := q2
      have pe := pick_eq (so := μ.1 49) (ye := μ.1 50) (am := μ.1 51) (kn := μ.1 52) (ra := μ.1 48) (pr := (kTurn μ (nI Y) k N).1 10) (tb := tb) (f := f) (k := k) (s0 := μ.1 8 3) (p0 := μ.1 8 4) (N := N) (Y := Y) (by omega) ⟨f1, f2⟩ i5.2 b1 b2 b3 (fun s h4 => by rw [kTurn_10 s h4, es, ey, ep, ek]) ht
      refine ⟨?_, ?_⟩
      · rw [e3, e1, fFb_ind _ _ _ _ _ _ 3]
        show ki (k_sel w (fFb (μ.1 48) tb f Y 0 0 4)) = ki (if w = 0 then (fCh (μ.1 9) ((kTurn μ (nI Y) k N).1 10) f (μ.1 8 3) (μ.1 8 4) 4).1 else if w = 1 then (fCh (μ.1 9) ((kTurn μ (nI Y) k N).1 10) f (μ.1 8 3) (μ.1 8 4) 4).2.1 else if w = 2 then (fCh (μ.1 9) ((kTurn μ (nI Y) k N).1 10) f (μ.1 8 3) (μ.1 8 4) 4).2.2 else -1)
        rw [i5.1, pe.1]
        unfold k_sel
        by_cases w0 : w = 0
        · rw [if_pos w0, if_pos w0]
        · rw [if_neg w0, if_neg w0]
          by_cases w1 : w = 1
          · rw [if_pos w1, if_pos w1]
          · rw [if_neg w1, if_neg w1, if_pos (by
              have h1 := k_le.mp zw.1; have h2 := k_le.mp zw.2
              rw [k_eq, li_0] at w0; rw [k_eq, li_1] at w1
              rw [li_0] at h1; rw [li_2] at h2
              rw [k_eq, li_2]; omega)]
      · rw [e4]
        exact ⟨i1, i2, i3, i4, i5, i6, i7, i8, i9, i10, i11, i12, i13⟩
    · rw [if_neg (fun h0 => zw (by rw [h0]; decide)), if_neg (fun h0 => zw (by rw [h0]; decide)), if_neg (fun h0 => zw (by rw [h0]; decide))] at e1
      rw [e2]
      refine k_evm (ev_X11_best_bad rfl (fun q => zw q.2.2.2)) (fun r2 h2 q2 => ?_)
      obtain ⟨e3, e4⟩ := q2
      refine ⟨e3.trans e1.symm, ?_⟩
      rw [e4]
      exact ⟨i1, i2, i3, i4, i5, i6, i7, i8, i9, i10, i11, i12, i13⟩
  · refine k_evm (ev_X10_best_bad z) (fun r1 h1 q1 => ?_)
    obtain ⟨e1, e2⟩ := q1
    rw [e2]
    refine ⟨⟨_, e1⟩, k_evm (ev_X11_best_bad rfl (fun q => z ⟨q.1, q.2.1, q.2.2.1⟩)) (fun r2 h2 q2 => ?_)⟩
    obtain ⟨e3, e4⟩ := q2
    refine ⟨e3.trans e1.symm, ?_⟩
    rw [e4]
    exact ⟨i1, i2, i3, i4, i5, i6, i7, i8, i9, i10, i11, i12, i13⟩

theorem fB_sum {so ga : Nat → Int32} {s : Int32} {bs : Nat} {L0 : Nat → Int32} {m0 : Int32} {O0 : Nat → Int32} : ∀ i, (fB so ga s bs L0 m0 O0 i).2.2.2 = m0 - (fB so ga s bs L0 m0 O0 i).2.1 := by
  intro i
  induction i with
  | zero => show (0 : Int32) = m0 - m0; rw [Int32.sub_self]
  | succ i ih =>
    rw [fB]
    split
    · dsimp only; rw [ih]; grind
    · exact ih
theorem br_ad {m p' g' : Nat → Int32} {A j : Nat} {g x : Int32} (h0 : m j = p' j - g' j ∧ bd 0 2147483647 (m j)) (eg : p' A - g = x) (hx : bd 0 2147483647 x) : upd m A x j = p' j - upd g' A g j ∧ bd 0 2147483647 (upd m A x j) := by
  simp only [upd]
  by_cases z : j = A
  · rw [if_pos z, if_pos z, z, eg]; exact ⟨rfl, hx⟩
  · rw [if_neg z, if_neg z]; exact h0
theorem br_z {g' : Nat → Int32} {A j : Nat} {g : Int32} (h0 : g' j = 0) (hj : j ≠ A) : upd g' A g j = 0 := by
  simp only [upd]; rw [if_neg hj]; exact h0
set_option maxHeartbeats 400000 in
set_option maxRecDepth 100000 in
theorem pr_bring {a : Int32} {μ : kH} (hi : Inv μ) : Ev kX10_bring [kr 0, ki a] μ (fun r1 h1 => (∃ v, r1 = ki v) ∧ Ev kX11_bring [kr 46, ki a] h1 (fun r2 h2 => r2 = r1 ∧ Inv h2)) := by
  obtain ⟨i1, i2, i3, i4, i5, i6, i7, i8, i9, i10, i11, i12, i13⟩ := id hi
  obtain ⟨⟨es, ed, ek, eo⟩, eb, hm, B, hB, eB, eB', hz⟩ := id i13
  obtain ⟨⟨ls, lg, ll⟩, lm, N, eN, eN', hN, c1, c2⟩ := id i12
  have e0 := nI_toInt (n := B) (by omega)
  have hN2 : N ≤ 468 := by have := i1.2.2; omega
  by_cases z : 0 ≤ a ∧ a < nI B
  · have z1 := k_le.mp z.1; have z2 := k_lt.mp z.2
    rw [li_0] at z1; rw [e0] at z2
    obtain ⟨A, hA0, eA⟩ := ns_of (x := a) (lo := 0) (hg := 60) ⟨z1, by omega⟩ (by decide)
    subst eA
    have hA : A < B := by rw [nI_toInt (by omega)] at z2; omega
    have hmA := hm A
    refine k_evm (ev_X10_bring_ok hA hB eB hN2 eN (fun j hj => ⟨by rw [lg]; exact (c1 j hj).1, by rw [lg]; have := (c1 j hj).2; omega⟩) (fun j hj => by rw [ll]; exact (c2 j hj).1) hmA.2.1) (fun r1 h1 q1 => ?_)
    rw [ls, lg, ll, es, eo] at q1
    have nn := fB_nn (so := μ.1 64) (ga := μ.1 65) (s := μ.1 67 A) (bs := 12 * A) (L0 := μ.1 66) (m0 := μ.1 42 A) (O0 := μ.1 72) hmA.2.1 (N := N) (fun j hj => (c2 j hj).1) N (Nat.le_refl N)
    have su := fB_sum (so := μ.1 64) (ga := μ.1 65) (s := μ.1 67 A) (bs := 12 * A) (L0 := μ.1 66) (m0 := μ.1 42 A) (O0 := μ.1 72) N
    generalize hF : fB (μ.1 64) (μ.1 65) (μ.1 67 A) (12 * A) (μ.1 66) (μ.1 42 A) (μ.1 72) N = F at q1 nn su
    obtain ⟨e1, e2⟩ := q1
    have nsum : 0 ≤ F.2.2.2.toInt := by
      have b1 := hmA.2.1; have b2 := hmA.2.2; have b3 := nn.1; have b4 := nn.2.2
      rw [su, k_sub (by omega)]; omega
    obtain ⟨ν, hν⟩ : ∃ ν, hI h1 46 0 0 = ν := ⟨_, rfl⟩
    have n43 : ν.1 46 43 = nI B := by rw [← hν, e2]; exact eB'
    have n37 : ν.1 46 37 = nI N := by rw [← hν, e2]; exact eN'
    have n64 : ν.1 64 = μ.1 64 := by rw [← hν, e2]; rfl
    have n65 : ν.1 65 = μ.1 65 := by rw [← hν, e2]; rfl
    have n66 : ν.1 66 = μ.1 66 := by rw [← hν, e2]; rfl
    have n67 : ν.1 67 = μ.1 67 := by rw [← hν, e2]; rfl
    have n68 : ν.1 68 = μ.1 68 := by rw [← hν, e2]; rfl
    have n71 : ν.1 71 = μ.1 71 := by rw [← hν, e2]; rfl
    have n72 : ν.1 72 = μ.1 72 := by rw [← hν, e2]; rfl
    have ev := ev_X11_bring_ok hν hA hB n43 (N := N) (by omega) n37 (by rw [n65]; exact fun j hj => ⟨(c1 j hj).1, by have := (c1 j hj).2; omega⟩)
    rw [n64, n65, n66, n67, n68, n71, n72, ← hmA.1, hF] at ev
    refine ⟨⟨_, e1⟩, k_evm ev (fun r2 h2 q2 => ?_)⟩
    obtain ⟨g, eg', e3, e4⟩ := q2
    refine ⟨e3.trans e1.symm, ?_⟩
    have n42 : ν.1 46 42 = μ.1 46 42 := by rw [← hν, e2]; rfl
    rw [n42, ← hν, e2] at e4
    have bl : ∀ j, j < N → bd 0 2147483647 (F.1 j) := fun j hj => ⟨nn.2.1 j hj, by have h2 := Int32.toInt_lt (F.1 j); omega⟩
    rw [e4]
    exact ⟨i1, (by show (0 : Int32) = kst F.2.2.2; rw [kst_nn nsum]), i3, i4, i5, i6, i7, i8, i9, i10, i11, ⟨⟨ls, lg, rfl⟩, lm, N, eN, eN', hN, c1, bl⟩, ⟨⟨es, ed, ek, rfl⟩, congrArg (fun x => x + F.2.2.2) eb, fun j => br_ad (hm j) eg' ⟨nn.1, by have h1 := nn.2.2; have h2 := hmA.2.2; omega⟩, B, hB, eB, eB', fun j hj => br_z (hz j hj) (by omega)⟩⟩
  · refine k_evm (ev_X10_bring_bad (by rw [eB, e0]; omega) (by rw [eB]; exact z)) (fun r1 h1 q1 => ?_)
    obtain ⟨e1, e2⟩ := q1
    rw [e2]
    refine ⟨⟨_, e1⟩, k_evm (ev_X11_bring_bad rfl (show ¬ (0 ≤ a ∧ a < μ.1 46 43) by rw [eB']; exact z)) (fun r2 h2 q2 => ?_)⟩
    obtain ⟨e3, e4⟩ := q2
    refine ⟨e3.trans e1.symm, ?_⟩
    rw [e4]
    exact ⟨i1, (by show (-2 : Int32) = kst (-2); decide), i3, i4, i5, i6, i7, i8, i9, i10, i11, i12, i13⟩

