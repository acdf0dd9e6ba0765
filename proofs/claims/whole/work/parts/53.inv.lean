/-! THE RELATION of the class's rows and the reference's -/
def bd (lo hg : Int) (x : Int32) : Prop := lo ≤ x.toInt ∧ x.toInt ≤ hg
def I_now (x y : Int32) : Prop := x = y ∧ bd 0 39 y
def I_te (k c k' c' : Int32) : Prop := k = k' ∧ c = c' ∧ bd 0 100 k' ∧ bd 0 100 c'
def I_yi (f f' : Nat → Int32) : Prop := f = f' ∧ ∀ j, bd 0 500 (f' j)
def I_ra (f f' : Nat → Int32) : Prop := f = f' ∧ ∀ j, j < 4 → bd 1 100 (f' j)
def I_pr (n n' : Int32) (s y p k s' y' p' k' : Nat → Int32) : Prop := (s = s' ∧ y = y' ∧ p = p' ∧ k = k') ∧ ∃ N, N ≤ 300 ∧ n = nI N ∧ n' = nI N ∧ (∀ j, j < N → bd 0 3 (s' j)) ∧ (∀ j, j < N → bd 0 39 (y' j)) ∧ ∀ j, j < N → bd 0 1000 (p' j)
def I_ga (n n' : Int32) (v g v' g' : Nat → Int32) : Prop := (v = v' ∧ g = g') ∧ (∀ j, bd 0 2000 (v' j)) ∧ (∀ j, bd (-1) 24 (g' j)) ∧ ∃ G, G ≤ 12 ∧ n = nI G ∧ n' = nI G
def I_ta (n n' : Int32) (b b' : Nat → Int32) : Prop := b = b' ∧ ∃ L, L ≤ 200 ∧ n = nI L ∧ n' = nI L
def I_ti (n n' : Int32) (k f s g k' f' s' g' : Nat → Int32) : Prop := ∃ N, N ≤ 20 ∧ n = nI N ∧ n' = nI N ∧ ∀ j, j < N → (k j, f j, s j, g j) = (k' j, f' j, s' j, g' j) ∧ qOk (k' j, f' j, s' j, g' j)
def I_pl (n n' : Int32) (d d' : Nat → Int32) : Prop := n = n' ∧ (n' = -1 ∨ ∃ N, 1 ≤ N ∧ N ≤ 20 ∧ n' = nI N ∧ ∀ j, j < N → d j = d' j)
def I_lo (now n n' m m' : Int32) (s g l s' g' l' : Nat → Int32) : Prop := (s = s' ∧ g = g' ∧ l = l') ∧ m = m' ∧ ∃ N : Nat, n = nI N ∧ n' = nI N ∧ (N : Int) ≤ 12 * now.toInt ∧ (∀ j, j < N → bd 0 11 (g' j)) ∧ ∀ j, j < N → bd 0 2147483647 (l' j)
def I_ad (n n' b b' : Int32) (s m d k s' p' d' k' g' c c' : Nat → Int32) : Prop := (s = s' ∧ d = d' ∧ k = k' ∧ c = c') ∧ b = b' ∧ (∀ j, m j = p' j - g' j ∧ bd 0 2147483647 (m j)) ∧ ∃ N, N ≤ 60 ∧ n = nI N ∧ n' = nI N ∧ ∀ j, N ≤ j → g' j = 0
def Inv (μ : kH) : Prop := I_now (μ.1 0 10) (μ.1 46 2) ∧ μ.1 0 11 = μ.1 46 1 ∧ I_te (μ.1 1 1) (μ.1 1 2) (μ.1 46 5) (μ.1 46 6) ∧ I_yi (μ.1 2) (μ.1 47) ∧ I_ra (μ.1 9) (μ.1 48) ∧ I_pr (μ.1 3 4) (μ.1 46 7) (μ.1 4) (μ.1 5) (μ.1 6) (μ.1 7) (μ.1 49) (μ.1 50) (μ.1 51) (μ.1 52) ∧ I_ga (μ.1 11 2) (μ.1 46 13) (μ.1 12) (μ.1 13) (μ.1 54) (μ.1 55) ∧ I_ta (μ.1 14 1) (μ.1 46 27) (μ.1 15) (μ.1 61) ∧ I_ti (μ.1 16 4) (μ.1 46 19) (μ.1 17) (μ.1 18) (μ.1 19) (μ.1 20) (μ.1 56) (μ.1 57) (μ.1 58) (μ.1 59) ∧ μ.1 21 1 = μ.1 46 32 ∧ I_pl (μ.1 30 1) (μ.1 46 36) (μ.1 31) (μ.1 63) ∧ I_lo (μ.1 46 2) (μ.1 36 3) (μ.1 46 37) (μ.1 36 4) (μ.1 46 41) (μ.1 37) (μ.1 38) (μ.1 39) (μ.1 64) (μ.1 65) (μ.1 66) ∧ I_ad (μ.1 40 5) (μ.1 46 43) (μ.1 40 6) (μ.1 46 42) (μ.1 41) (μ.1 42) (μ.1 43) (μ.1 44) (μ.1 67) (μ.1 68) (μ.1 69) (μ.1 70) (μ.1 71) (μ.1 45) (μ.1 72)
theorem kst_nI {n : Nat} (hn : n < 2147483648) : kst (nI n) = 0 := by
  unfold kst
  rw [if_neg (fun z => by rw [k_lt, nI_toInt (by omega), li_0] at z; omega)]
theorem kst_nn {x : Int32} (hx : 0 ≤ x.toInt) : kst x = 0 := by
  unfold kst
  rw [if_neg (fun z => by rw [k_lt, li_0] at z; omega)]
theorem kst_m {x : Int32} (hx : x.toInt < 0) : kst x = x := by
  unfold kst
  rw [if_pos (by rw [k_lt, li_0]; omega)]
theorem upd_all {Q : Int32 → Prop} {f : Nat → Int32} {k : Nat} {v : Int32} (h0 : ∀ j, Q (f j)) (hv : Q v) : ∀ j, Q (upd f k v j) := fun j => by
  simp only [upd]; split
  · exact hv
  · exact h0 j
theorem upd_lt {Q : Int32 → Prop} {f : Nat → Int32} {k m : Nat} {v : Int32} (h0 : ∀ j, j < m → Q (f j)) (hv : Q v) : ∀ j, j < m → Q (upd f k v j) := fun j hj => by
  simp only [upd]; split
  · exact hv
  · exact h0 j hj
theorem upd_nx {Q : Int32 → Prop} {f : Nat → Int32} {N : Nat} {v : Int32} (h0 : ∀ j, j < N → Q (f j)) (hv : Q v) : ∀ j, j < N + 1 → Q (upd f N v j) := fun j hj => by
  by_cases z : j = N
  · simp only [upd]; rw [if_pos z]; exact hv
  · simp only [upd]; rw [if_neg z]; exact h0 j (by omega)
theorem bd_of {lo hg : Int} {a b x : Int32} (h1 : a ≤ x ∧ x ≤ b) (ha : a.toInt = lo) (hb : b.toInt = hg) : bd lo hg x := ⟨by have := k_le.mp h1.1; omega, by have := k_le.mp h1.2; omega⟩
theorem ns_of {x : Int32} {lo hg : Nat} (hx : bd 0 hg x) (h2 : hg < 2147483648) : ∃ n, n ≤ hg ∧ x = nI n := ⟨x.toInt.toNat, by have := hx.1; have := hx.2; omega, by
  have h3 := hx.1; have h4 := hx.2
  rw [k_eq, nI_toInt (by omega)]; omega⟩

theorem nI_sub1 (n : Nat) : nI (n + 1) - 1 = nI n := by rw [← nI_1]; grind

set_option maxHeartbeats 400000 in
set_option maxRecDepth 100000 in
theorem pr_bears {a p : Int32} {μ : kH} (hi : Inv μ) : Ev kX10_bears [kr 0, ki a, ki p] μ (fun r1 h1 => (∃ v, r1 = ki v) ∧ Ev kX11_bears [kr 46, ki a, ki p] h1 (fun r2 h2 => r2 = r1 ∧ Inv h2)) := by
  obtain ⟨i1, i2, i3, i4, i5, i6, i7, i8, i9, i10, i11, i12, i13⟩ := id hi
  refine k_evm ev_X10_bears (fun r1 h1 q1 => ?_)
  by_cases z : (0 ≤ a ∧ a ≤ 24) ∧ (0 ≤ p ∧ p ≤ 500)
  · rw [if_pos z] at q1
    obtain ⟨e1, e2⟩ := q1
    refine ⟨⟨_, e1⟩, k_evm ev_X11_bears (fun r2 h2 q2 => ?_)⟩
    rw [if_pos z] at q2
    obtain ⟨e3, e4⟩ := q2
    refine ⟨e3.trans e1.symm, ?_⟩
    rw [e4, e2]
    exact ⟨i1, (by show (0 : Int32) = kst 0; decide), i3, ⟨congrArg (fun f => upd f a.toNatClampNeg p) i4.1, upd_all (Q := bd 0 500) i4.2 (bd_of z.2 li_0 li_500)⟩, i5, i6, i7, i8, i9, i10, i11, i12, i13⟩
  · rw [if_neg z] at q1
    obtain ⟨e1, e2⟩ := q1
    refine ⟨⟨_, e1⟩, k_evm ev_X11_bears (fun r2 h2 q2 => ?_)⟩
    rw [if_neg z] at q2
    obtain ⟨e3, e4⟩ := q2
    refine ⟨e3.trans e1.symm, ?_⟩
    rw [e4, e2]
    exact ⟨i1, (by show (-1 : Int32) = kst (-1); decide), i3, i4, i5, i6, i7, i8, i9, i10, i11, i12, i13⟩

set_option maxHeartbeats 400000 in
set_option maxRecDepth 100000 in
theorem pr_ratio {s n : Int32} {μ : kH} (hi : Inv μ) : Ev kX10_ratio [kr 0, ki s, ki n] μ (fun r1 h1 => (∃ v, r1 = ki v) ∧ Ev kX11_ratio [kr 46, ki s, ki n] h1 (fun r2 h2 => r2 = r1 ∧ Inv h2)) := by
  obtain ⟨i1, i2, i3, i4, i5, i6, i7, i8, i9, i10, i11, i12, i13⟩ := id hi
  refine k_evm ev_X10_ratio (fun r1 h1 q1 => ?_)
  by_cases z : (0 ≤ s ∧ s ≤ 3) ∧ (1 ≤ n ∧ n ≤ 100)
  · rw [if_pos z] at q1
    obtain ⟨e1, e2⟩ := q1
    refine ⟨⟨_, e1⟩, k_evm ev_X11_ratio (fun r2 h2 q2 => ?_)⟩
    rw [if_pos z] at q2
    obtain ⟨e3, e4⟩ := q2
    refine ⟨e3.trans e1.symm, ?_⟩
    rw [e4, e2]
    exact ⟨i1, (by show (0 : Int32) = kst 0; decide), i3, i4, ⟨congrArg (fun f => upd f s.toNatClampNeg n) i5.1, upd_lt (Q := bd 1 100) i5.2 (bd_of z.2 li_1 li_100)⟩, i6, i7, i8, i9, i10, i11, i12, i13⟩
  · rw [if_neg z] at q1
    obtain ⟨e1, e2⟩ := q1
    refine ⟨⟨_, e1⟩, k_evm ev_X11_ratio (fun r2 h2 q2 => ?_)⟩
    rw [if_neg z] at q2
    obtain ⟨e3, e4⟩ := q2
    refine ⟨e3.trans e1.symm, ?_⟩
    rw [e4, e2]
    exact ⟨i1, (by show (-1 : Int32) = kst (-1); decide), i3, i4, i5, i6, i7, i8, i9, i10, i11, i12, i13⟩

set_option maxHeartbeats 400000 in
set_option maxRecDepth 100000 in
theorem pr_terms {k c : Int32} {μ : kH} (hi : Inv μ) : Ev kX10_terms [kr 0, ki k, ki c] μ (fun r1 h1 => (∃ v, r1 = ki v) ∧ Ev kX11_terms [kr 46, ki k, ki c] h1 (fun r2 h2 => r2 = r1 ∧ Inv h2)) := by
  obtain ⟨i1, i2, i3, i4, i5, i6, i7, i8, i9, i10, i11, i12, i13⟩ := id hi
  refine k_evm ev_X10_terms (fun r1 h1 q1 => ?_)
  by_cases z : (0 ≤ k ∧ k ≤ 100) ∧ (0 ≤ c ∧ c ≤ 100)
  · rw [if_pos z] at q1
    obtain ⟨e1, e2⟩ := q1
    refine ⟨⟨_, e1⟩, k_evm ev_X11_terms (fun r2 h2 q2 => ?_)⟩
    rw [if_pos z] at q2
    obtain ⟨e3, e4⟩ := q2
    refine ⟨e3.trans e1.symm, ?_⟩
    rw [e4, e2]
    exact ⟨i1, (by show (0 : Int32) = kst 0; decide), ⟨rfl, rfl, bd_of z.1 li_0 li_100, bd_of z.2 li_0 li_100⟩, i4, i5, i6, i7, i8, i9, i10, i11, i12, i13⟩
  · rw [if_neg z] at q1
    obtain ⟨e1, e2⟩ := q1
    refine ⟨⟨_, e1⟩, k_evm ev_X11_terms (fun r2 h2 q2 => ?_)⟩
    rw [if_neg z] at q2
    obtain ⟨e3, e4⟩ := q2
    refine ⟨e3.trans e1.symm, ?_⟩
    rw [e4, e2]
    exact ⟨i1, (by show (-1 : Int32) = kst (-1); decide), i3, i4, i5, i6, i7, i8, i9, i10, i11, i12, i13⟩

set_option maxHeartbeats 400000 in
set_option maxRecDepth 100000 in
theorem pr_price {s y p k : Int32} {μ : kH} (hi : Inv μ) : Ev kX10_price [kr 0, ki s, ki y, ki p, ki k] μ (fun r1 h1 => (∃ v, r1 = ki v) ∧ Ev kX11_price [kr 46, ki s, ki y, ki p, ki k] h1 (fun r2 h2 => r2 = r1 ∧ Inv h2)) := by
  obtain ⟨i1, i2, i3, i4, i5, i6, i7, i8, i9, i10, i11, i12, i13⟩ := id hi
  obtain ⟨⟨es, ey, ep, ek⟩, N, hN, eN, eN', b1, b2, b3⟩ := id i6
  have e0 := nI_toInt (n := N) (by omega)
  refine k_evm (ev_X10_price (by rw [eN, e0]; omega)) (fun r1 h1 q1 => ?_)
  rw [eN] at q1
  by_cases z : ¬ ((0 ≤ s ∧ s ≤ 3) ∧ (0 ≤ y ∧ y ≤ 39) ∧ (0 ≤ p ∧ p ≤ 1000) ∧ (0 ≤ k ∧ k ≤ 39))
  · rw [if_pos z] at q1
    obtain ⟨e1, e2⟩ := q1
    refine ⟨⟨_, e1⟩, k_evm (ev_X11_price (μ := h1) (by rw [show h1.1 46 7 = nI N by rw [e2]; exact eN', e0]; omega) (by rw [show h1.1 46 7 = nI N by rw [e2]; exact eN', e0]; omega)) (fun r2 h2 q2 => ?_)⟩
    rw [show h1.1 46 7 = nI N by rw [e2]; exact eN'] at q2
    rw [if_pos z] at q2
    obtain ⟨e3, e4⟩ := q2
    refine ⟨e3.trans e1.symm, ?_⟩
    rw [e4, e2]
    exact ⟨i1, (by show (-1 : Int32) = kst (-1); decide), i3, i4, i5, i6, i7, i8, i9, i10, i11, i12, i13⟩
  · rw [if_neg z] at q1
    by_cases z2 : 300 ≤ N
    · rw [if_pos (show (300 : Int32) ≤ nI N by rw [k_le, li_300, e0]; omega)] at q1
      obtain ⟨e1, e2⟩ := q1
      refine ⟨⟨_, e1⟩, k_evm (ev_X11_price (μ := h1) (by rw [show h1.1 46 7 = nI N by rw [e2]; exact eN', e0]; omega) (by rw [show h1.1 46 7 = nI N by rw [e2]; exact eN', e0]; omega)) (fun r2 h2 q2 => ?_)⟩
      rw [show h1.1 46 7 = nI N by rw [e2]; exact eN'] at q2
      rw [if_neg z, if_pos (show nI N = 300 by rw [show N = 300 by omega]; rfl)] at q2
      obtain ⟨e3, e4⟩ := q2
      refine ⟨e3.trans e1.symm, ?_⟩
      rw [e4, e2]
      exact ⟨i1, (by show (-5 : Int32) = kst (-5); decide), i3, i4, i5, i6, i7, i8, i9, i10, i11, i12, i13⟩
    · rw [if_neg (show ¬ (300 : Int32) ≤ nI N by rw [k_le, li_300, e0]; omega)] at q1
      obtain ⟨e1, e2⟩ := q1
      refine ⟨⟨_, e1⟩, k_evm (ev_X11_price (μ := h1) (by rw [show h1.1 46 7 = nI N by rw [e2]; exact eN', e0]; omega) (by rw [show h1.1 46 7 = nI N by rw [e2]; exact eN', e0]; omega)) (fun r2 h2 q2 => ?_)⟩
      rw [show h1.1 46 7 = nI N by rw [e2]; exact eN'] at q2
      rw [if_neg z, if_neg (show ¬ nI N = 300 by rw [k_eq, e0, li_300]; omega)] at q2
      obtain ⟨e3, e4⟩ := q2
      refine ⟨e3.trans e1.symm, ?_⟩
      have z' := Classical.not_not.mp z
      have ec : (nI N).toNatClampNeg = N := nI_clamp (by omega)
      rw [ec] at e2 e4
      rw [nI_1] at e2 e4
      rw [e4, e2]
      exact ⟨i1, (by show (0 : Int32) = kst (nI (N + 1)); rw [kst_nI (by omega)]), i3, i4, i5, ⟨⟨congrArg (fun f => upd f N s) es, congrArg (fun f => upd f N y) ey, congrArg (fun f => upd f N p) ep, congrArg (fun f => upd f N k) ek⟩, N + 1, by omega, rfl, rfl, upd_nx (Q := bd 0 3) b1 (bd_of z'.1 li_0 li_3), upd_nx (Q := bd 0 39) b2 (bd_of z'.2.1 li_0 li_39), upd_nx (Q := bd 0 1000) b3 (bd_of z'.2.2.1 li_0 li_1000)⟩, i7, i8, i9, i10, i11, i12, i13⟩

set_option maxHeartbeats 400000 in
set_option maxRecDepth 100000 in
theorem pr_garden {v a : Int32} {μ : kH} (hi : Inv μ) : Ev kX10_garden [kr 0, ki v, ki a] μ (fun r1 h1 => (∃ v, r1 = ki v) ∧ Ev kX11_garden [kr 46, ki v, ki a] h1 (fun r2 h2 => r2 = r1 ∧ Inv h2)) := by
  obtain ⟨i1, i2, i3, i4, i5, i6, i7, i8, i9, i10, i11, i12, i13⟩ := id hi
  obtain ⟨⟨ev, ea⟩, b1, b2, N, hN, eN, eN'⟩ := id i7
  have e0 := nI_toInt (n := N) (by omega)
  refine k_evm (ev_X10_garden (by rw [eN, e0]; omega)) (fun r1 h1 q1 => ?_)
  rw [eN] at q1
  by_cases z : ¬ ((1 ≤ v ∧ v ≤ 2000) ∧ (-1 ≤ a ∧ a ≤ 24))
  · rw [if_pos z] at q1
    obtain ⟨e1, e2⟩ := q1
    refine ⟨⟨_, e1⟩, k_evm (ev_X11_garden (μ := h1) (by rw [show h1.1 46 13 = nI N by rw [e2]; exact eN', e0]; omega) (by rw [show h1.1 46 13 = nI N by rw [e2]; exact eN', e0]; omega)) (fun r2 h2 q2 => ?_)⟩
    rw [show h1.1 46 13 = nI N by rw [e2]; exact eN'] at q2
    rw [if_pos z] at q2
    obtain ⟨e3, e4⟩ := q2
    refine ⟨e3.trans e1.symm, ?_⟩
    rw [e4, e2]
    exact ⟨i1, (by show (-1 : Int32) = kst (-1); decide), i3, i4, i5, i6, i7, i8, i9, i10, i11, i12, i13⟩
  · rw [if_neg z] at q1
    by_cases z2 : 12 ≤ N
    · rw [if_pos (show (12 : Int32) ≤ nI N by rw [k_le, li_12, e0]; omega)] at q1
      obtain ⟨e1, e2⟩ := q1
      refine ⟨⟨_, e1⟩, k_evm (ev_X11_garden (μ := h1) (by rw [show h1.1 46 13 = nI N by rw [e2]; exact eN', e0]; omega) (by rw [show h1.1 46 13 = nI N by rw [e2]; exact eN', e0]; omega)) (fun r2 h2 q2 => ?_)⟩
      rw [show h1.1 46 13 = nI N by rw [e2]; exact eN'] at q2
      rw [if_neg z, if_pos (show nI N = 12 by rw [show N = 12 by omega]; rfl)] at q2
      obtain ⟨e3, e4⟩ := q2
      refine ⟨e3.trans e1.symm, ?_⟩
      rw [e4, e2]
      exact ⟨i1, (by show (-5 : Int32) = kst (-5); decide), i3, i4, i5, i6, i7, i8, i9, i10, i11, i12, i13⟩
    · rw [if_neg (show ¬ (12 : Int32) ≤ nI N by rw [k_le, li_12, e0]; omega)] at q1
      obtain ⟨e1, e2⟩ := q1
      refine ⟨⟨_, e1⟩, k_evm (ev_X11_garden (μ := h1) (by rw [show h1.1 46 13 = nI N by rw [e2]; exact eN', e0]; omega) (by rw [show h1.1 46 13 = nI N by rw [e2]; exact eN', e0]; omega)) (fun r2 h2 q2 => ?_)⟩
      rw [show h1.1 46 13 = nI N by rw [e2]; exact eN'] at q2
      rw [if_neg z, if_neg (show ¬ nI N = 12 by rw [k_eq, e0, li_12]; omega)] at q2
      obtain ⟨e3, e4⟩ := q2
      have em : nI N + 1 - 1 = nI N := by rw [nI_1]; exact nI_sub1 N
      rw [em] at e3 e4
      refine ⟨e3.trans e1.symm, ?_⟩
      have z' := Classical.not_not.mp z
      have ec : (nI N).toNatClampNeg = N := nI_clamp (by omega)
      rw [ec] at e2 e4
      rw [nI_1] at e2 e4
      rw [e4, e2]
      have lm1 : ((-1) : Int32).toInt = -1 := by decide
      exact ⟨i1, (by show (0 : Int32) = kst (nI N); rw [kst_nI (by omega)]), i3, i4, i5, i6, ⟨⟨congrArg (fun f => upd f N v) ev, congrArg (fun f => upd f N a) ea⟩, upd_all (Q := bd 0 2000) b1 ⟨by have := k_le.mp z'.1.1; rw [li_1] at this; omega, by have := k_le.mp z'.1.2; rw [li_2000] at this; omega⟩, upd_all (Q := bd (-1) 24) b2 (bd_of z'.2 lm1 li_24), N + 1, by omega, rfl, rfl⟩, i8, i9, i10, i11, i12, i13⟩

set_option maxHeartbeats 400000 in
set_option maxRecDepth 100000 in
theorem pr_of {g w : Int32} {μ : kH} (hi : Inv μ) : Ev kX10_of [kr 0, ki g, ki w] μ (fun r1 h1 => (∃ v, r1 = ki v) ∧ Ev kX11_of [kr 46, ki g, ki w] h1 (fun r2 h2 => r2 = r1 ∧ Inv h2)) := by
  obtain ⟨i1, i2, i3, i4, i5, i6, i7, i8, i9, i10, i11, i12, i13⟩ := id hi
  obtain ⟨⟨ev, ea⟩, b1, b2, G, hG, eG, eG'⟩ := id i7
  have e0 := nI_toInt (n := G) (by omega)
  refine k_evm (ev_X10_of (by rw [eG, e0]; omega) (by rw [eG, e0]; omega)) (fun r1 h1 q1 => ?_)
  obtain ⟨e1, e2⟩ := q1
  rw [e2]
  refine ⟨⟨_, e1⟩, k_evm (ev_X11_of (by rw [eG', e0]; omega) (by rw [eG', e0]; omega)) (fun r2 h2 q2 => ?_)⟩
  obtain ⟨e3, e4⟩ := q2
  refine ⟨?_, ?_⟩
  · rw [e3, e1]
    rw [eG, eG', ev, ea]
  · rw [e4]
    exact ⟨i1, i2, i3, i4, i5, i6, i7, i8, i9, i10, i11, i12, i13⟩

set_option maxHeartbeats 400000 in
set_option maxRecDepth 100000 in
theorem pr_fault {μ : kH} (hi : Inv μ) : Ev kX10_fault [kr 0] μ (fun r1 h1 => (∃ v, r1 = ki v) ∧ Ev kX11_fault [kr 46] h1 (fun r2 h2 => r2 = r1 ∧ Inv h2)) := by
  obtain ⟨i1, i2, i3, i4, i5, i6, i7, i8, i9, i10, i11, i12, i13⟩ := id hi
  refine k_evm (ev_X10_fault) (fun r1 h1 q1 => ?_)
  obtain ⟨e1, e2⟩ := q1
  rw [e2]
  refine ⟨⟨_, e1⟩, k_evm (ev_X11_fault) (fun r2 h2 q2 => ?_)⟩
  obtain ⟨e3, e4⟩ := q2
  refine ⟨?_, ?_⟩
  · rw [e3, e1]
    rw [i10]
  · rw [e4]
    exact ⟨i1, i2, i3, i4, i5, i6, i7, i8, i9, i10, i11, i12, i13⟩

set_option maxHeartbeats 400000 in
set_option maxRecDepth 100000 in
theorem pr_status {μ : kH} (hi : Inv μ) : Ev kX10_status [kr 0] μ (fun r1 h1 => (∃ v, r1 = ki v) ∧ Ev kX11_status [kr 46] h1 (fun r2 h2 => r2 = r1 ∧ Inv h2)) := by
  obtain ⟨i1, i2, i3, i4, i5, i6, i7, i8, i9, i10, i11, i12, i13⟩ := id hi
  refine k_evm (ev_X10_status) (fun r1 h1 q1 => ?_)
  obtain ⟨e1, e2⟩ := q1
  rw [e2]
  refine ⟨⟨_, e1⟩, k_evm (ev_X11_status) (fun r2 h2 q2 => ?_)⟩
  obtain ⟨e3, e4⟩ := q2
  refine ⟨?_, ?_⟩
  · rw [e3, e1]
    rw [i2]
  · rw [e4]
    exact ⟨i1, i2, i3, i4, i5, i6, i7, i8, i9, i10, i11, i12, i13⟩

set_option maxHeartbeats 400000 in
set_option maxRecDepth 100000 in
theorem pr_count {w : Int32} {μ : kH} (hi : Inv μ) : Ev kX10_count [kr 0, ki w] μ (fun r1 h1 => (∃ v, r1 = ki v) ∧ Ev kX11_count [kr 46, ki w] h1 (fun r2 h2 => r2 = r1 ∧ Inv h2)) := by
  obtain ⟨i1, i2, i3, i4, i5, i6, i7, i8, i9, i10, i11, i12, i13⟩ := id hi
  refine k_evm (ev_X10_count) (fun r1 h1 q1 => ?_)
  obtain ⟨e1, e2⟩ := q1
  rw [e2]
  refine ⟨⟨_, e1⟩, k_evm (ev_X11_count) (fun r2 h2 q2 => ?_)⟩
  obtain ⟨e3, e4⟩ := q2
  refine ⟨?_, ?_⟩
  · rw [e3, e1]
    obtain ⟨-, N1, -, a1, a2, -⟩ := i6
    obtain ⟨-, -, -, N2, -, c1, c2⟩ := i7
    obtain ⟨-, N3, -, d1, d2⟩ := i8
    obtain ⟨N4, -, f1, f2, -⟩ := i9
    obtain ⟨-, g3, N5, g1, g2, -⟩ := i12
    obtain ⟨-, j3, -, N6, -, j1, j2, -⟩ := i13
    rw [i1.1, a1, a2, c1, c2, d1, d2, f1, f2, g1, g2, g3, j1, j2, j3]
  · rw [e4]
    exact ⟨i1, i2, i3, i4, i5, i6, i7, i8, i9, i10, i11, i12, i13⟩

set_option maxHeartbeats 400000 in
set_option maxRecDepth 100000 in
theorem pr_fresh {g : Int32} {μ : kH} (hi : Inv μ) : Ev kX10_fresh [kr 0, ki g] μ (fun r1 h1 => (∃ v, r1 = ki v) ∧ Ev kX11_fresh [kr 46, ki g] h1 (fun r2 h2 => r2 = r1 ∧ Inv h2)) := by
  obtain ⟨i1, i2, i3, i4, i5, i6, i7, i8, i9, i10, i11, i12, i13⟩ := id hi
  obtain ⟨⟨ev, ea⟩, b1, b2, G, hG, eG, eG'⟩ := id i7
  have e0 := nI_toInt (n := G) (by omega)
  have hbd : ∀ j, j < 12 → ¬ μ.1 55 j = -1 → vp_in (μ.1 55 j) 25 := fun j _ hj => vp_in_iff.mpr (by
    have := b2 j
    rw [k_eq, li_m1] at hj
    have h1 := this.1; have h2 := this.2
    omega)
  refine k_evm (ev_X10_fresh (by rw [eG, e0]; omega) (by rw [eG, e0]; omega)) (fun r1 h1 q1 => ?_)
  obtain ⟨e1, e2⟩ := q1
  rw [e2]
  refine ⟨⟨_, e1⟩, k_evm (ev_X11_fresh (by rw [eG', e0]; omega) (by rw [eG', e0]; omega) hbd) (fun r2 h2 q2 => ?_)⟩
  obtain ⟨e3, e4⟩ := q2
  refine ⟨?_, ?_⟩
  · rw [e3, e1]
    rw [eG, eG', ev, ea, i4.1]
    by_cases z : 0 ≤ g ∧ g < nI G
    · rw [if_pos z, if_pos z]
      have b := b2 g.toNatClampNeg
      by_cases z2 : μ.1 55 g.toNatClampNeg = -1
      · rw [if_pos z2, if_neg (fun w => by rw [z2] at w; exact absurd w.1 (by decide))]
      · have hne := z2
        rw [k_eq, li_m1] at hne
        have h1 := b.1; have h2 := b.2
        rw [if_neg z2, if_pos ⟨by rw [k_le, li_0]; omega, by rw [k_le, li_24]; omega⟩]
    · rw [if_neg z, if_neg z]
  · rw [e4]
    exact ⟨i1, i2, i3, i4, i5, i6, i7, i8, i9, i10, i11, i12, i13⟩

theorem fT_congr {k f s a k' f' s' a' : Nat → Int32} {v ag m : Int32} : ∀ N, (∀ j, j < N → (k j, f j, s j, a j) = (k' j, f' j, s' j, a' j)) → fT k f s a v ag m N = fT k' f' s' a' v ag m N := by
  intro N
  induction N with
  | zero => intro _; rfl
  | succ N ih =>
    intro hh
    have e := hh N (by omega)
    simp only [Prod.mk.injEq] at e
    obtain ⟨e1, e2, e3, e4⟩ := e
    rw [fT, fT, ih (fun j hj => hh j (by omega)), e1, e2, e3, e4]

set_option maxHeartbeats 400000 in
set_option maxRecDepth 100000 in
theorem pr_tithe {v a m : Int32} {μ : kH} (hi : Inv μ) : Ev kX10_tithe [kr 0, ki v, ki a, ki m] μ (fun r1 h1 => (∃ v, r1 = kl v) ∧ Ev kX11_tithe [kr 46, ki v, ki a, ki m] h1 (fun r2 h2 => r2 = r1 ∧ Inv h2)) := by
  obtain ⟨i1, i2, i3, i4, i5, i6, i7, i8, i9, i10, i11, i12, i13⟩ := id hi
  obtain ⟨N, hN, eN, eN', hb⟩ := id i9
  refine k_evm (ev_X10_tithe hN eN) (fun r1 h1 q1 => ?_)
  obtain ⟨e1, e2⟩ := q1
  rw [e2]
  refine ⟨⟨_, e1⟩, k_evm (ev_X11_tithe hN eN' (fun j hj => (hb j hj).2)) (fun r2 h2 q2 => ?_)⟩
  obtain ⟨e3, e4⟩ := q2
  refine ⟨?_, ?_⟩
  · rw [e3, e1]
    rw [fT_congr N (fun j hj => (hb j hj).1)]
  · rw [e4]
    exact ⟨i1, i2, i3, i4, i5, i6, i7, i8, i9, i10, i11, i12, i13⟩

set_option maxHeartbeats 400000 in
set_option maxRecDepth 100000 in
theorem pr_owed {s k : Int32} {μ : kH} (hi : Inv μ) : Ev kX10_owed [kr 0, ki s, ki k] μ (fun r1 h1 => (∃ v, r1 = ki v) ∧ Ev kX11_owed [kr 46, ki s, ki k] h1 (fun r2 h2 => r2 = r1 ∧ Inv h2)) := by
  obtain ⟨i1, i2, i3, i4, i5, i6, i7, i8, i9, i10, i11, i12, i13⟩ := id hi
  obtain ⟨⟨es, ed, ek, eo⟩, eb, hm, N, hN, eN, eN', hz⟩ := id i13
  refine k_evm (ev_X10_owed hN eN) (fun r1 h1 q1 => ?_)
  obtain ⟨e1, e2⟩ := q1
  rw [e2]
  refine ⟨⟨_, e1⟩, k_evm (ev_X11_owed rfl hN eN') (fun r2 h2 q2 => ?_)⟩
  obtain ⟨e3, e4⟩ := q2
  refine ⟨?_, ?_⟩
  · rw [e3, e1]
    have e8 : (fun k => (hI μ 46 0 0).1 68 k - (hI μ 46 0 0).1 71 k) = μ.1 42 := funext (fun j => (hm j).1.symm)
    rw [e8]
    show ki (if _ then fMiss (μ.1 67) (μ.1 70) (μ.1 69) (μ.1 42) s k N else -1) = _
    rw [es, ed, ek]
  · rw [e4]
    exact ⟨i1, i2, i3, i4, i5, i6, i7, i8, i9, i10, i11, i12, i13⟩

set_option maxHeartbeats 400000 in
set_option maxRecDepth 100000 in
theorem pr_led {a g : Int32} {μ : kH} (hi : Inv μ) : Ev kX10_led [kr 0, ki a, ki g] μ (fun r1 h1 => (∃ v, r1 = ki v) ∧ Ev kX11_led [kr 46, ki a, ki g] h1 (fun r2 h2 => r2 = r1 ∧ Inv h2)) := by
  obtain ⟨i1, i2, i3, i4, i5, i6, i7, i8, i9, i10, i11, i12, i13⟩ := id hi
  obtain ⟨⟨ev, ea⟩, b1, b2, G, hG, eG, eG'⟩ := id i7
  have e0 := nI_toInt (n := G) (by omega)
  obtain ⟨⟨es, ed, ek, eo⟩, eb, hm, N, hN, eN, eN', hz⟩ := id i13
  have eNi := nI_toInt (n := N) (by omega)
  refine k_evm (ev_X10_led (by rw [eN, eNi]; omega) (by rw [eN, eNi]; omega) (by rw [eG, e0]; omega) (by rw [eG, e0]; omega)) (fun r1 h1 q1 => ?_)
  obtain ⟨e1, e2⟩ := q1
  rw [e2]
  refine ⟨⟨_, e1⟩, k_evm (ev_X11_led rfl (show (μ.1 46 43).toInt ≤ 60 by rw [eN', eNi]; omega) (show (μ.1 46 13).toInt ≤ 12 by rw [eG', e0]; omega)) (fun r2 h2 q2 => ?_)⟩
  obtain ⟨e3, e4⟩ := q2
  refine ⟨?_, ?_⟩
  · rw [e3, e1]
    show ki (if (0 ≤ a ∧ a < μ.1 46 43) ∧ (0 ≤ g ∧ g < μ.1 46 13) then μ.1 72 (12 * a + g).toNatClampNeg else -1) = _
    rw [eN, eN', eG, eG', eo, Int32.mul_comm]
  · rw [e4]
    exact ⟨i1, i2, i3, i4, i5, i6, i7, i8, i9, i10, i11, i12, i13⟩

set_option maxHeartbeats 400000 in
set_option maxRecDepth 100000 in
theorem pr_stock {s g : Int32} {μ : kH} (hi : Inv μ) : Ev kX10_stock [kr 0, ki s, ki g] μ (fun r1 h1 => (∃ v, r1 = ki v) ∧ Ev kX11_stock [kr 46, ki s, ki g] h1 (fun r2 h2 => r2 = r1 ∧ Inv h2)) := by
  obtain ⟨i1, i2, i3, i4, i5, i6, i7, i8, i9, i10, i11, i12, i13⟩ := id hi
  obtain ⟨⟨ev, ea⟩, b1, b2, G, hG, eG, eG'⟩ := id i7
  have e0 := nI_toInt (n := G) (by omega)
  obtain ⟨⟨es, eg, el⟩, em, N, eN, eN', hN, hb1, hb2⟩ := id i12
  have hN2 : N ≤ 468 := by have := i1.2.2; omega
  refine k_evm (ev_X10_stock (by rw [eG, e0]; omega) (by rw [eG, e0]; omega) hN2 eN) (fun r1 h1 q1 => ?_)
  obtain ⟨e1, e2⟩ := q1
  rw [e2]
  refine ⟨⟨_, e1⟩, k_evm (ev_X11_stock rfl (show N ≤ 480 by omega) eN') (fun r2 h2 q2 => ?_)⟩
  obtain ⟨e3, e4⟩ := q2
  refine ⟨?_, ?_⟩
  · rw [e3, e1]
    show ki (if (0 ≤ s ∧ s ≤ 3) ∧ (g = -1 ∨ (0 ≤ g ∧ g < μ.1 46 13)) then fStock (μ.1 64) (μ.1 65) (μ.1 66) s g N else -1) = _
    rw [eG, eG', es, eg, el]
  · rw [e4]
    exact ⟨i1, i2, i3, i4, i5, i6, i7, i8, i9, i10, i11, i12, i13⟩

set_option maxHeartbeats 400000 in
set_option maxRecDepth 100000 in
theorem pr_planned {i : Int32} {μ : kH} (hi : Inv μ) : Ev kX10_planned [kr 0, ki i] μ (fun r1 h1 => (∃ v, r1 = ki v) ∧ Ev kX11_planned [kr 46, ki i] h1 (fun r2 h2 => r2 = r1 ∧ Inv h2)) := by
  obtain ⟨i1, i2, i3, i4, i5, i6, i7, i8, i9, i10, i11, i12, i13⟩ := id hi
  have hy : -1 ≤ (μ.1 46 36).toInt ∧ (μ.1 46 36).toInt ≤ 20 := by
    rcases i11.2 with z | ⟨N, h1, h2, h3, -⟩
    · rw [z, li_m1]; omega
    · rw [h3, nI_toInt (by omega)]; omega
  refine k_evm (ev_X10_planned (by rw [i11.1]; exact hy.1) (by rw [i11.1]; exact hy.2)) (fun r1 h1 q1 => ?_)
  obtain ⟨e1, e2⟩ := q1
  rw [e2]
  refine ⟨⟨_, e1⟩, k_evm (ev_X11_planned rfl hy.2) (fun r2 h2 q2 => ?_)⟩
  obtain ⟨e3, e4⟩ := q2
  refine ⟨?_, ?_⟩
  · rw [e3, e1]
    show ki (if μ.1 46 36 < 0 then -1 else if i = -1 then μ.1 46 36 else if 0 ≤ i ∧ i < μ.1 46 36 then μ.1 63 i.toNatClampNeg else -1) = _
    rw [i11.1]
    rcases i11.2 with z | ⟨N, h1, h2, h3, h4⟩
    · rw [if_pos (by rw [z]; decide)]
      by_cases zi : i = -1
      · rw [if_pos zi, z]
      · rw [if_neg zi, if_neg (fun w => by rw [z, k_le, k_lt, li_0, li_m1] at w; omega)]
    · rw [h3, if_neg (fun w => by rw [k_lt, nI_toInt (by omega), li_0] at w; omega)]
      by_cases zi : i = -1
      · rw [if_pos zi, if_pos zi]
      · rw [if_neg zi, if_neg zi]
        by_cases zj : 0 ≤ i ∧ i < nI N
        · rw [if_pos zj, if_pos zj, h4 _ (by
            have z1 := zj.1; have z2 := zj.2
            rw [k_le, li_0] at z1
            rw [k_lt, nI_toInt (by omega)] at z2
            have := k_clamp z1
            omega)]
        · rw [if_neg zj, if_neg zj]
  · rw [e4]
    exact ⟨i1, i2, i3, i4, i5, i6, i7, i8, i9, i10, i11, i12, i13⟩

set_option maxHeartbeats 400000 in
set_option maxRecDepth 100000 in
theorem pr_at {s y k : Int32} {μ : kH} (hi : Inv μ) : Ev kX10_at [kr 0, ki s, ki y, ki k] μ (fun r1 h1 => (∃ v, r1 = ki v) ∧ Ev kX11_at [kr 46, ki s, ki y, ki k] h1 (fun r2 h2 => r2 = r1 ∧ Inv h2)) := by
  obtain ⟨i1, i2, i3, i4, i5, i6, i7, i8, i9, i10, i11, i12, i13⟩ := id hi
  obtain ⟨⟨es, ey, ep, ek⟩, N, hN, eN, eN', b1, b2, b3⟩ := id i6
  refine k_evm (ev_X10_at hN eN) (fun r1 h1 q1 => ?_)
  obtain ⟨e1, e2⟩ := q1
  rw [e2]
  refine ⟨⟨_, e1⟩, ?_⟩
  by_cases z : (0 ≤ s ∧ s ≤ 3) ∧ (0 ≤ y ∧ y ≤ 39) ∧ (0 ≤ k ∧ k ≤ 39)
  · rw [if_pos z] at e1
    obtain ⟨S, hS, eS⟩ := ns_of (lo := 0) (hg := 3) (bd_of z.1 li_0 li_3) (by decide)
    obtain ⟨Y, hY, eY⟩ := ns_of (lo := 0) (hg := 39) (bd_of z.2.1 li_0 li_39) (by decide)
    rw [eS, eY] at e1 ⊢
    refine k_evm (ev_X11_at_ok rfl (by omega) (by omega) z.2.2 hN eN' (fun j hj => ⟨(b1 j hj).1, (b1 j hj).2, (b2 j hj).1, (b2 j hj).2⟩)) (fun r2 h2 q2 => ?_)
    obtain ⟨e3, tb, e4⟩ := q2
    refine ⟨?_, ?_⟩
    · rw [e3, e1, es, ey, ep, ek]
      exact congrArg (fun z => ki z) (fKnown_fFill (by omega) (by omega) (fun j hj => ⟨b1 j hj, b2 j hj, (b3 j hj).1⟩)).symm
    · rw [e4]
      exact ⟨i1, i2, i3, i4, i5, i6, i7, i8, i9, i10, i11, i12, i13⟩
  · rw [if_neg z] at e1
    refine k_evm (ev_X11_at_bad rfl z) (fun r2 h2 q2 => ?_)
    obtain ⟨e3, e4⟩ := q2
    refine ⟨e3.trans e1.symm, ?_⟩
    rw [e4]
    exact ⟨i1, i2, i3, i4, i5, i6, i7, i8, i9, i10, i11, i12, i13⟩

set_option maxHeartbeats 400000 in
set_option maxRecDepth 100000 in
theorem pr_end {n : Int32} {μ : kH} (hi : Inv μ) : Ev kX10_end [kr 0, ki n] μ (fun r1 h1 => (∃ v, r1 = ki v) ∧ Ev kX11_end [kr 46, ki n] h1 (fun r2 h2 => r2 = r1 ∧ Inv h2)) := by
  obtain ⟨i1, i2, i3, i4, i5, i6, i7, i8, i9, i10, i11, i12, i13⟩ := id hi
  obtain ⟨eb, L, hL, eL, eL'⟩ := id i8
  have e0 := nI_toInt (n := L) (by omega)
  refine k_evm ev_X10_end (fun r1 h1 q1 => ?_)
  rw [eL] at q1
  by_cases z : 0 ≤ n ∧ n ≤ nI L
  · rw [if_pos z] at q1
    obtain ⟨e1, e2⟩ := q1
    refine ⟨⟨_, e1⟩, k_evm ev_X11_end (fun r2 h2 q2 => ?_)⟩
    rw [show h1.1 46 27 = nI L by rw [e2]; exact eL', if_pos z] at q2
    obtain ⟨e3, e4⟩ := q2
    refine ⟨e3.trans e1.symm, ?_⟩
    have z1 := k_le.mp z.1; have z2 := k_le.mp z.2
    rw [li_0] at z1
    rw [e0] at z2
    obtain ⟨M, hM, eM⟩ := ns_of (x := n) (lo := 0) (hg := 200) ⟨z1, by omega⟩ (by decide)
    rw [e4, e2]
    exact ⟨i1, i2, i3, i4, i5, i6, i7, ⟨eb, M, hM, eM, eM⟩, i9, i10, i11, i12, i13⟩
  · rw [if_neg z] at q1
    obtain ⟨e1, e2⟩ := q1
    refine ⟨⟨_, e1⟩, k_evm ev_X11_end (fun r2 h2 q2 => ?_)⟩
    rw [show h1.1 46 27 = nI L by rw [e2]; exact eL', if_neg z] at q2
    obtain ⟨e3, e4⟩ := q2
    refine ⟨e3.trans e1.symm, ?_⟩
    rw [e4, e2]
    exact ⟨i1, i2, i3, i4, i5, i6, i7, i8, i9, i10, i11, i12, i13⟩

theorem bd_mul {x y : Int32} (hx : bd 0 2000 x) (hy : bd 0 100 y) : 0 ≤ (x * y).toInt := by
  have h1 := k_pb hx.1 hx.2 hy.1 hy.2
  rw [k_mul (by omega)]; omega

set_option maxHeartbeats 400000 in
set_option maxRecDepth 100000 in
theorem pr_plant {g : Int32} {μ : kH} (hi : Inv μ) : Ev kX10_plant [kr 0, ki g] μ (fun r1 h1 => (∃ v, r1 = ki v) ∧ Ev kX11_plant [kr 46, ki g] h1 (fun r2 h2 => r2 = r1 ∧ Inv h2)) := by
  obtain ⟨i1, i2, i3, i4, i5, i6, i7, i8, i9, i10, i11, i12, i13⟩ := id hi
  obtain ⟨⟨ev, ea⟩, b1, b2, G, hG, eG, eG'⟩ := id i7
  have e0 := nI_toInt (n := G) (by omega)
  refine k_evm (ev_X10_plant (by rw [eG, e0]; omega) (by rw [eG, e0]; omega)) (fun r1 h1 q1 => ?_)
  rw [eG] at q1
  by_cases z : ¬ (0 ≤ g ∧ g < nI G)
  · rw [if_pos z] at q1
    obtain ⟨e1, e2⟩ := q1
    have g13 : h1.1 46 13 = nI G := by rw [e2]; exact eG'
    have g55 : h1.1 55 = μ.1 13 := by rw [e2]; exact ea.symm
    refine ⟨⟨_, e1⟩, k_evm (ev_X11_plant (μ := h1) (by rw [g13, e0]; omega) (by rw [g13, e0]; omega)) (fun r2 h2 q2 => ?_)⟩
    rw [g13, if_pos z] at q2
    obtain ⟨e3, e4⟩ := q2
    refine ⟨e3.trans e1.symm, ?_⟩
    rw [e4, e2]
    exact ⟨i1, (by show (-2 : Int32) = kst (-2); decide), i3, i4, i5, i6, i7, i8, i9, i10, i11, i12, i13⟩
  · rw [if_neg z] at q1
    by_cases z2 : ¬ μ.1 13 g.toNatClampNeg = -1
    · rw [if_pos z2] at q1
      obtain ⟨e1, e2⟩ := q1
      have g13 : h1.1 46 13 = nI G := by rw [e2]; exact eG'
      have g55 : h1.1 55 = μ.1 13 := by rw [e2]; exact ea.symm
      refine ⟨⟨_, e1⟩, k_evm (ev_X11_plant (μ := h1) (by rw [g13, e0]; omega) (by rw [g13, e0]; omega)) (fun r2 h2 q2 => ?_)⟩
      rw [g13, if_neg z, g55, if_pos z2] at q2
      obtain ⟨e3, e4⟩ := q2
      refine ⟨e3.trans e1.symm, ?_⟩
      rw [e4, e2]
      exact ⟨i1, (by show (-3 : Int32) = kst (-3); decide), i3, i4, i5, i6, i7, i8, i9, i10, i11, i12, i13⟩
    · rw [if_neg z2] at q1
      obtain ⟨e1, e2⟩ := q1
      have g13 : h1.1 46 13 = nI G := by rw [e2]; exact eG'
      have g55 : h1.1 55 = μ.1 13 := by rw [e2]; exact ea.symm
      refine ⟨⟨_, e1⟩, k_evm (ev_X11_plant (μ := h1) (by rw [g13, e0]; omega) (by rw [g13, e0]; omega)) (fun r2 h2 q2 => ?_)⟩
      rw [g13, if_neg z, g55, if_neg z2] at q2
      obtain ⟨e3, e4⟩ := q2
      have ep : h1.1 46 6 * h1.1 54 g.toNatClampNeg = μ.1 12 g.toNatClampNeg * μ.1 1 2 := by
        rw [e2]
        show μ.1 46 6 * μ.1 54 g.toNatClampNeg = _
        rw [ev, i3.2.1, Int32.mul_comm]
      rw [ep] at e3 e4
      refine ⟨e3.trans e1.symm, ?_⟩
      rw [e4, e2]
      have nn : 0 ≤ (μ.1 12 g.toNatClampNeg * μ.1 1 2).toInt := bd_mul (by rw [ev]; exact b1 _) (by rw [i3.2.1]; exact i3.2.2.2)
      exact ⟨i1, (by show (0 : Int32) = kst (μ.1 12 g.toNatClampNeg * μ.1 1 2); rw [kst_nn nn]), i3, i4, i5, i6, ⟨⟨ev, congrArg (fun f => upd f g.toNatClampNeg (0 : Int32)) ea⟩, b1, upd_all (Q := bd (-1) 24) b2 ⟨by decide, by decide⟩, G, hG, eG, eG'⟩, i8, i9, i10, i11, i12, i13⟩

set_option maxHeartbeats 400000 in
set_option maxRecDepth 100000 in
theorem pr_fell {g : Int32} {μ : kH} (hi : Inv μ) : Ev kX10_fell [kr 0, ki g] μ (fun r1 h1 => (∃ v, r1 = ki v) ∧ Ev kX11_fell [kr 46, ki g] h1 (fun r2 h2 => r2 = r1 ∧ Inv h2)) := by
  obtain ⟨i1, i2, i3, i4, i5, i6, i7, i8, i9, i10, i11, i12, i13⟩ := id hi
  obtain ⟨⟨ev, ea⟩, b1, b2, G, hG, eG, eG'⟩ := id i7
  have e0 := nI_toInt (n := G) (by omega)
  refine k_evm (ev_X10_fell (by rw [eG, e0]; omega) (by rw [eG, e0]; omega)) (fun r1 h1 q1 => ?_)
  rw [eG] at q1
  by_cases z : ¬ (0 ≤ g ∧ g < nI G)
  · rw [if_pos z] at q1
    obtain ⟨e1, e2⟩ := q1
    have g13 : h1.1 46 13 = nI G := by rw [e2]; exact eG'
    have g55 : h1.1 55 = μ.1 13 := by rw [e2]; exact ea.symm
    refine ⟨⟨_, e1⟩, k_evm (ev_X11_fell (μ := h1) (by rw [g13, e0]; omega) (by rw [g13, e0]; omega)) (fun r2 h2 q2 => ?_)⟩
    rw [g13, if_pos z] at q2
    obtain ⟨e3, e4⟩ := q2
    refine ⟨e3.trans e1.symm, ?_⟩
    rw [e4, e2]
    exact ⟨i1, (by show (-2 : Int32) = kst (-2); decide), i3, i4, i5, i6, i7, i8, i9, i10, i11, i12, i13⟩
  · rw [if_neg z] at q1
    by_cases z2 : μ.1 13 g.toNatClampNeg = -1
    · rw [if_pos z2] at q1
      obtain ⟨e1, e2⟩ := q1
      have g13 : h1.1 46 13 = nI G := by rw [e2]; exact eG'
      have g55 : h1.1 55 = μ.1 13 := by rw [e2]; exact ea.symm
      refine ⟨⟨_, e1⟩, k_evm (ev_X11_fell (μ := h1) (by rw [g13, e0]; omega) (by rw [g13, e0]; omega)) (fun r2 h2 q2 => ?_)⟩
      rw [g13, if_neg z, g55, if_pos z2] at q2
      obtain ⟨e3, e4⟩ := q2
      refine ⟨e3.trans e1.symm, ?_⟩
      rw [e4, e2]
      exact ⟨i1, (by show (-3 : Int32) = kst (-3); decide), i3, i4, i5, i6, i7, i8, i9, i10, i11, i12, i13⟩
    · rw [if_neg z2] at q1
      obtain ⟨e1, e2⟩ := q1
      have g13 : h1.1 46 13 = nI G := by rw [e2]; exact eG'
      have g55 : h1.1 55 = μ.1 13 := by rw [e2]; exact ea.symm
      refine ⟨⟨_, e1⟩, k_evm (ev_X11_fell (μ := h1) (by rw [g13, e0]; omega) (by rw [g13, e0]; omega)) (fun r2 h2 q2 => ?_)⟩
      rw [g13, if_neg z, g55, if_neg z2] at q2
      obtain ⟨e3, e4⟩ := q2
      refine ⟨e3.trans e1.symm, ?_⟩
      rw [e4, e2]
      exact ⟨i1, (by show (0 : Int32) = kst 0; decide), i3, i4, i5, i6, ⟨⟨ev, congrArg (fun f => upd f g.toNatClampNeg (-1 : Int32)) ea⟩, b1, upd_all (Q := bd (-1) 24) b2 ⟨by decide, by decide⟩, G, hG, eG, eG'⟩, i8, i9, i10, i11, i12, i13⟩

theorem ad_new {m p' g' : Nat → Int32} {N j : Nat} {p : Int32} (h0 : m j = p' j - g' j ∧ bd 0 2147483647 (m j)) (hz : N ≤ j → g' j = 0) (hp : 1 ≤ p ∧ p ≤ 10000) : upd m N p j = upd p' N p j - g' j ∧ bd 0 2147483647 (upd m N p j) := by
  simp only [upd]
  by_cases z : j = N
  · rw [if_pos z, if_pos z, hz (by omega), Int32.sub_zero]
    have h1 := k_le.mp hp.1; have h2 := k_le.mp hp.2
    rw [li_1] at h1; rw [li_10000] at h2
    exact ⟨rfl, by omega, by omega⟩
  · rw [if_neg z, if_neg z]; exact h0

set_option maxHeartbeats 400000 in
set_option maxRecDepth 100000 in
theorem pr_advance {s p d q k : Int32} {μ : kH} (hi : Inv μ) : Ev kX10_advance [kr 0, ki s, ki p, ki d, ki q, ki k] μ (fun r1 h1 => (∃ v, r1 = ki v) ∧ Ev kX11_advance [kr 46, ki s, ki p, ki d, ki q, ki k] h1 (fun r2 h2 => r2 = r1 ∧ Inv h2)) := by
  obtain ⟨i1, i2, i3, i4, i5, i6, i7, i8, i9, i10, i11, i12, i13⟩ := id hi
  obtain ⟨⟨es, ed, ek, eo⟩, eb, hm, N, hN, eN, eN', hz⟩ := id i13
  have e0 := nI_toInt (n := N) (by omega)
  refine k_evm (ev_X10_advance (by rw [eN, e0]; omega)) (fun r1 h1 q1 => ?_)
  rw [eN] at q1
  by_cases z : ¬ ((0 ≤ s ∧ s ≤ 3) ∧ (1 ≤ p ∧ p ≤ 10000) ∧ (0 ≤ d ∧ d ≤ 39) ∧ (0 ≤ q ∧ q ≤ 1000000) ∧ (0 ≤ k ∧ k ≤ 39))
  · rw [if_pos z] at q1
    obtain ⟨e1, e2⟩ := q1
    have g43 : h1.1 46 43 = nI N := by rw [e2]; exact eN'
    refine ⟨⟨_, e1⟩, k_evm (ev_X11_advance rfl (show 0 ≤ (h1.1 46 43).toInt by rw [g43, e0]; omega) (show (h1.1 46 43).toInt ≤ 60 by rw [g43, e0]; omega)) (fun r2 h2 q2 => ?_)⟩
    rw [show (hI h1 46 0 0).1 46 43 = nI N from g43, if_pos z] at q2
    obtain ⟨e3, e4⟩ := q2
    refine ⟨e3.trans e1.symm, ?_⟩
    rw [e4, e2]
    exact ⟨i1, (by show (-1 : Int32) = kst (-1); decide), i3, i4, i5, i6, i7, i8, i9, i10, i11, i12, i13⟩
  · rw [if_neg z] at q1
    by_cases z2 : 60 ≤ N
    · rw [if_pos (show (60 : Int32) ≤ nI N by rw [k_le, li_60, e0]; omega)] at q1
      obtain ⟨e1, e2⟩ := q1
      have g43 : h1.1 46 43 = nI N := by rw [e2]; exact eN'
      refine ⟨⟨_, e1⟩, k_evm (ev_X11_advance rfl (show 0 ≤ (h1.1 46 43).toInt by rw [g43, e0]; omega) (show (h1.1 46 43).toInt ≤ 60 by rw [g43, e0]; omega)) (fun r2 h2 q2 => ?_)⟩
      rw [show (hI h1 46 0 0).1 46 43 = nI N from g43, if_neg z, if_pos (show nI N = 60 by rw [show N = 60 by omega]; rfl)] at q2
      obtain ⟨e3, e4⟩ := q2
      refine ⟨e3.trans e1.symm, ?_⟩
      rw [e4, e2]
      exact ⟨i1, (by show (-5 : Int32) = kst (-5); decide), i3, i4, i5, i6, i7, i8, i9, i10, i11, i12, i13⟩
    · rw [if_neg (show ¬ (60 : Int32) ≤ nI N by rw [k_le, li_60, e0]; omega)] at q1
      obtain ⟨e1, e2⟩ := q1
      have g43 : h1.1 46 43 = nI N := by rw [e2]; exact eN'
      refine ⟨⟨_, e1⟩, k_evm (ev_X11_advance rfl (show 0 ≤ (h1.1 46 43).toInt by rw [g43, e0]; omega) (show (h1.1 46 43).toInt ≤ 60 by rw [g43, e0]; omega)) (fun r2 h2 q2 => ?_)⟩
      rw [show (hI h1 46 0 0).1 46 43 = nI N from g43, if_neg z, if_neg (show ¬ nI N = 60 by rw [k_eq, e0, li_60]; omega)] at q2
      obtain ⟨e3, e4⟩ := q2
      have em : nI N + 1 - 1 = nI N := by rw [nI_1]; exact nI_sub1 N
      rw [em] at e3 e4
      refine ⟨e3.trans e1.symm, ?_⟩
      have z' := Classical.not_not.mp z
      have ec : (nI N).toNatClampNeg = N := nI_clamp (by omega)
      rw [ec] at e2 e4
      rw [nI_1] at e2 e4
      rw [e4, e2]
      exact ⟨i1, (by show (0 : Int32) = kst (nI N); rw [kst_nI (by omega)]), i3, i4, i5, i6, i7, i8, i9, i10, i11, i12, ⟨⟨congrArg (fun f => upd f N s) es, congrArg (fun f => upd f N d) ed, congrArg (fun f => upd f N k) ek, eo⟩, eb, fun j => ad_new (hm j) (hz j) z'.2.1, N + 1, by omega, rfl, rfl, fun j hj => hz j (by omega)⟩⟩

