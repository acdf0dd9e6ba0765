/-- the class's state as the reference's age -/
def phN (s : Nat) : Nat := if s = 0 then 25 else s - 1
theorem ph_nx {s : Nat} (h26 : s < 26) : phN (nxN s) = olN (phN s) := by
  unfold phN nxN olN
  (repeat' split) <;> omega
theorem ph_le {s : Nat} (h26 : s < 26) : phN s ≤ 25 := by unfold phN; split <;> omega
theorem mx_F {A : Nat} {w : Nat → Int64} {d : Nat} (h1 : ¬ (canN A (d + 1) ∧ mxM A w d < w (d + 1))) : mxM A w (d + 1) = mxM A w d := by rw [mxM]; exact @if_neg _ _ h1 _ _ _
theorem lt_ne {x y : Int64} (h : x < y) : ¬ x = y := fun e => by rw [e, k_ltL] at h; omega
theorem can_2 {A : Nat} (hA : A = 25) : canN A 2 := Or.inr (Or.inl ⟨rfl, hA⟩)
theorem can_n1 {A : Nat} (hA : A = 25) : ¬ canN A 1 := fun q => q.elim (fun z => absurd z (by decide)) (fun q => q.elim (fun z => absurd z.1 (by decide)) (fun z => z.2.2 hA))
theorem can_n3 {A : Nat} (hA : A = 25) : ¬ canN A 3 := fun q => q.elim (fun z => absurd z (by decide)) (fun q => q.elim (fun z => absurd z.1 (by decide)) (fun z => z.2.2 hA))
theorem can_1 {A : Nat} (hA : ¬ A = 25) : canN A 1 := Or.inr (Or.inr ⟨by decide, by decide, hA⟩)
theorem can_3 {A : Nat} (hA : ¬ A = 25) : canN A 3 := Or.inr (Or.inr ⟨by decide, by decide, hA⟩)
theorem can_n2 {A : Nat} (hA : ¬ A = 25) : ¬ canN A 2 := fun q => q.elim (fun z => absurd z (by decide)) (fun q => q.elim (fun z => hA z.2) (fun z => z.2.1 rfl))
/-- the best of both sides, and the first deed that brings it -/
theorem dx_mx {W : Nat → Int64} {c : Int64} {s : Nat} {w : Nat → Int64} (h26 : s < 26) (w0 : w 0 = W s) (w1 : w 1 = W 0) (w2 : w 2 = W 1 - c) (w3 : w 3 = W 1 - c) : (dX W c s).2 = mxM (phN s) w 3 ∧ ∀ d, isFst (phN s) w d → nI d = (dX W c s).1 ∧ phN (afN (dX W c s).1 s) = agN (phN s) d := by
  have m0 : mxM (phN s) w 0 = w 0 := rfl
  by_cases z : s = 0
  · have hA : phN s = 25 := by unfold phN; rw [if_pos z]
    have m1 : mxM (phN s) w 1 = w 0 := by rw [mx_F (fun q => can_n1 hA q.1), m0]
    by_cases h2 : W s < W 1 - c
    · have ed : dX W c s = (2, W 1 - c) := by
        unfold dX
        rw [if_neg (show ¬ (¬ s = 0 ∧ W s < W 0) from fun q => q.1 z), if_pos h2, if_pos z]
      have m2 : mxM (phN s) w 2 = w 2 := mxM_T (can_2 hA) (by rw [m1, w0, w2]; exact h2)
      have m3 : mxM (phN s) w 3 = w 2 := by rw [mx_F (fun q => can_n3 hA q.1), m2]
      rw [ed, m3]
      refine ⟨w2.symm, fun d hd => ?_⟩
      obtain ⟨d4, dc, de, -⟩ := hd
      rw [m3] at de
      rcases (show d = 0 ∨ d = 1 ∨ d = 2 ∨ d = 3 by omega) with rfl | rfl | rfl | rfl
      · rw [w0, w2] at de; exact absurd de (lt_ne h2)
      · exact absurd dc (can_n1 hA)
      · exact ⟨rfl, by rw [hA]; rfl⟩
      · exact absurd dc (can_n3 hA)
    · have ed : dX W c s = (0, W s) := by
        unfold dX
        rw [if_neg (show ¬ (¬ s = 0 ∧ W s < W 0) from fun q => q.1 z), if_neg h2, if_neg (show ¬ (¬ s = 0 ∧ W s < W 0) from fun q => q.1 z)]
      have m2 : mxM (phN s) w 2 = w 0 := by rw [mx_F (fun q => h2 (by have := q.2; rw [m1, w0] at this; rw [← w2]; exact this)), m1]
      have m3 : mxM (phN s) w 3 = w 0 := by rw [mx_F (fun q => can_n3 hA q.1), m2]
      rw [ed, m3]
      refine ⟨w0.symm, fun d hd => ?_⟩
      have d0 : d = 0 := by
        rcases Nat.eq_zero_or_pos d with q | q
        · exact q
        · exact absurd ⟨Or.inl rfl, m3.symm⟩ (hd.2.2.2 0 q)
      subst d0
      exact ⟨rfl, rfl⟩
  · have hA : ¬ phN s = 25 := by unfold phN; rw [if_neg z]; omega
    by_cases h1 : W s < W 0
    · have m1 : mxM (phN s) w 1 = w 1 := mxM_T (can_1 hA) (by rw [m0, w0, w1]; exact h1)
      have m2 : mxM (phN s) w 2 = w 1 := by rw [mx_F (fun q => can_n2 hA q.1), m1]
      by_cases h2 : W 0 < W 1 - c
      · have ed : dX W c s = (3, W 1 - c) := by
          unfold dX
          rw [if_pos (show ¬ s = 0 ∧ W s < W 0 from ⟨z, h1⟩), if_pos h2, if_neg z]
        have m3 : mxM (phN s) w 3 = w 3 := mxM_T (can_3 hA) (by rw [m2, w1, w3]; exact h2)
        rw [ed, m3]
        refine ⟨w3.symm, fun d hd => ?_⟩
        obtain ⟨d4, dc, de, -⟩ := hd
        rw [m3] at de
        rcases (show d = 0 ∨ d = 1 ∨ d = 2 ∨ d = 3 by omega) with rfl | rfl | rfl | rfl
        · rw [w0, w3, k_eqL] at de
          rw [k_ltL] at h1 h2
          omega
        · rw [w1, w3] at de; exact absurd de (lt_ne h2)
        · exact absurd dc (can_n2 hA)
        · exact ⟨rfl, rfl⟩
      · have ed : dX W c s = (1, W 0) := by
          unfold dX
          rw [if_pos (show ¬ s = 0 ∧ W s < W 0 from ⟨z, h1⟩), if_neg h2, if_pos (show ¬ s = 0 ∧ W s < W 0 from ⟨z, h1⟩)]
        have m3 : mxM (phN s) w 3 = w 1 := by rw [mx_F (fun q => h2 (by have := q.2; rw [m2, w1] at this; rw [← w3]; exact this)), m2]
        rw [ed, m3]
        refine ⟨w1.symm, fun d hd => ?_⟩
        obtain ⟨d4, dc, de, df⟩ := hd
        rw [m3] at de df
        rcases (show d = 0 ∨ d = 1 ∨ 1 < d by omega) with rfl | rfl | d1
        · rw [w0, w1] at de; exact absurd de (lt_ne h1)
        · exact ⟨rfl, rfl⟩
        · exact absurd ⟨can_1 hA, rfl⟩ (df 1 d1)
    · have m1 : mxM (phN s) w 1 = w 0 := by rw [mx_F (fun q => h1 (by have := q.2; rw [m0, w0, w1] at this; exact this)), m0]
      have m2 : mxM (phN s) w 2 = w 0 := by rw [mx_F (fun q => can_n2 hA q.1), m1]
      have n1 : ¬ (¬ s = 0 ∧ W s < W 0) := fun q => h1 q.2
      by_cases h2 : W s < W 1 - c
      · have ed : dX W c s = (3, W 1 - c) := by
          unfold dX
          rw [if_neg n1, if_pos h2, if_neg z]
        have m3 : mxM (phN s) w 3 = w 3 := mxM_T (can_3 hA) (by rw [m2, w0, w3]; exact h2)
        rw [ed, m3]
        refine ⟨w3.symm, fun d hd => ?_⟩
        obtain ⟨d4, dc, de, -⟩ := hd
        rw [m3] at de
        rcases (show d = 0 ∨ d = 1 ∨ d = 2 ∨ d = 3 by omega) with rfl | rfl | rfl | rfl
        · rw [w0, w3] at de; exact absurd de (lt_ne h2)
        · rw [w1, w3, k_eqL] at de
          rw [k_ltL] at h1 h2
          omega
        · exact absurd dc (can_n2 hA)
        · exact ⟨rfl, rfl⟩
      · have ed : dX W c s = (0, W s) := by
          unfold dX
          rw [if_neg n1, if_neg h2, if_neg n1]
        have m3 : mxM (phN s) w 3 = w 0 := by rw [mx_F (fun q => h2 (by have := q.2; rw [m2, w0] at this; rw [← w3]; exact this)), m2]
        rw [ed, m3]
        refine ⟨w0.symm, fun d hd => ?_⟩
        have d0 : d = 0 := by
          rcases Nat.eq_zero_or_pos d with q | q
          · exact q
          · exact absurd ⟨Or.inl rfl, m3.symm⟩ (hd.2.2.2 0 q)
        subst d0
        exact ⟨rfl, rfl⟩

theorem w_all {ν : kH} {tb : Nat → Int32} {N Y0 n : Nat} {v : Int32} {G : Nat → Nat → Int64} {c : Int64} (hc : (ν.1 46 6).toInt64 * v.toInt64 = c) (hG : ∀ y, y < n → ∀ s, s < 26 → G y s = gM ν tb N v (nI (phN s)) (Y0 + y)) {y s : Nat} (hy : y < n) (h26 : s < 26) {vn un : Nat → Int64} (hv : ∀ q, q < 26 → vn q = un (phN q)) : wP ν tb N Y0 v y un (phN s) 0 = G y s + vn (nxN s) ∧ wP ν tb N Y0 v y un (phN s) 1 = G y 0 + vn (nxN 0) ∧ wP ν tb N Y0 v y un (phN s) 2 = G y 1 + vn (nxN 1) - c ∧ wP ν tb N Y0 v y un (phN s) 3 = G y 1 + vn (nxN 1) - c := by
  unfold wP
  refine ⟨?_, ?_, ?_, ?_⟩
  · rw [if_neg (by decide), hG y hy s h26, hv _ (nxN_lt h26), ph_nx h26, show agN (phN s) 0 = phN s from rfl, Int64.sub_zero]
  · rw [if_neg (by decide), hG y hy 0 (by decide), hv _ (nxN_lt (by decide)), ph_nx (by decide), show agN (phN s) 1 = phN 0 from rfl, Int64.sub_zero]
  · rw [if_pos (by decide), hG y hy 1 (by decide), hv _ (nxN_lt (by decide)), ph_nx (by decide), show agN (phN s) 2 = phN 1 from rfl, hc]
    grind
  · rw [if_pos (by decide), hG y hy 1 (by decide), hv _ (nxN_lt (by decide)), ph_nx (by decide), show agN (phN s) 3 = phN 1 from rfl, hc]
    grind
theorem vu {ν : kH} {tb : Nat → Int32} {N Y0 n : Nat} {v : Int32} {G : Nat → Nat → Int64} {c : Int64} (hc : (ν.1 46 6).toInt64 * v.toInt64 = c) (hG : ∀ y, y < n → ∀ s, s < 26 → G y s = gM ν tb N v (nI (phN s)) (Y0 + y)) : ∀ j, j ≤ n → ∀ s, s < 26 → vX G c n j s = uM ν tb N Y0 v n j (phN s) := by
  intro j
  induction j with
  | zero => intro _ s _; rfl
  | succ j ih =>
    intro hj s h26
    obtain ⟨a0, a1, a2, a3⟩ := w_all hc hG (y := n - 1 - j) (by omega) h26 (ih (by omega))
    rw [vX, uM]
    exact (dx_mx (W := fun q => G (n - 1 - j) q + vX G c n j (nxN q)) h26 a0 a1 a2 a3).1
theorem sq_as {ν : kH} {tb : Nat → Int32} {N Y0 n : Nat} {v : Int32} {G : Nat → Nat → Int64} {c : Int64} (hc : (ν.1 46 6).toInt64 * v.toInt64 = c) (hG : ∀ y, y < n → ∀ s, s < 26 → G y s = gM ν tb N v (nI (phN s)) (Y0 + y)) {s0 : Nat} (h0 : s0 < 26) {ds_ as_ : Nat → Nat} (ha : as_ 0 = phN s0) (hd : ∀ j, j < n → isFst (as_ j) (wP ν tb N Y0 v j (uM ν tb N Y0 v n (n - 1 - j)) (as_ j)) (ds_ j) ∧ as_ (j + 1) = olN (agN (as_ j) (ds_ j))) : ∀ j, j < n → (sqP G c n s0 j < 26 ∧ as_ j = phN (sqP G c n s0 j)) ∧ cX G c n j (sqP G c n s0 j) = nI (ds_ j) ∧ as_ (j + 1) = phN (sqP G c n s0 (j + 1)) := by
  intro j
  induction j with
  | zero =>
    intro hj
    obtain ⟨d1, d2⟩ := hd 0 hj
    rw [ha] at d1 d2
    obtain ⟨a0, a1, a2, a3⟩ := w_all hc hG (y := 0) hj h0 (vn := vX G c n (n - 1 - 0)) (vu hc hG (n - 1 - 0) (by omega))
    have k := (dx_mx (W := fun q => G 0 q + vX G c n (n - 1 - 0) (nxN q)) h0 a0 a1 a2 a3).2 (ds_ 0) d1
    refine ⟨⟨h0, ha⟩, k.1.symm, ?_⟩
    rw [d2, ← k.2, ← ph_nx (afN_lt h0)]; rfl
  | succ j ih =>
    intro hj
    obtain ⟨⟨i1, -⟩, -, i3⟩ := ih (by omega)
    have h1 : sqP G c n s0 (j + 1) < 26 := nxN_lt (afN_lt i1)
    obtain ⟨d1, d2⟩ := hd (j + 1) hj
    rw [i3] at d1 d2
    obtain ⟨a0, a1, a2, a3⟩ := w_all hc hG (y := j + 1) hj h1 (vn := vX G c n (n - 1 - (j + 1))) (vu hc hG (n - 1 - (j + 1)) (by omega))
    have k := (dx_mx (W := fun q => G (j + 1) q + vX G c n (n - 1 - (j + 1)) (nxN q)) h1 a0 a1 a2 a3).2 (ds_ (j + 1)) d1
    refine ⟨⟨h1, i3⟩, k.1.symm, ?_⟩
    rw [d2, ← k.2, ← ph_nx (afN_lt h1)]; rfl
theorem k_cost {v c : Int32} (hv : bd 0 2000 v) (hc : bd 0 100 c) : c.toInt64 * v.toInt64 = (v * c).toInt64 := by
  have h1 := k_pb hv.1 hv.2 hc.1 hc.2
  have h2 : c.toInt * v.toInt = v.toInt * c.toInt := Int.mul_comm _ _
  rw [k_eqL, k_mulL (by rw [k_il, k_il]; omega), k_il, k_il, k_il, k_mul (by omega), h2]
theorem nI_m1 {s : Nat} (h1 : 1 ≤ s) : nI s - 1 = nI (s - 1) := by
  obtain ⟨m, rfl⟩ : ∃ m, s = m + 1 := ⟨s - 1, by omega⟩
  exact nI_sub1 m
/-- what a state brings in a year: the same on both sides -/
theorem gp_gm {μ ν : kH} (hi : Inv μ) {tb : Nat → Int32} {NP N Y0 y s : Nat} {v : Int32} (hv : bd 0 2000 v) (eN : μ.1 16 4 = nI N) (hN : N ≤ 20) (eNP : μ.1 3 4 = nI NP) (hNP : NP ≤ 300) (hY : Y0 + y < 40) (h26 : s < 26) (ht : ∀ s, s < 4 → ∀ y, y < 40 → tb (40 * s + y) = fFill (fTab (μ.1 49) (μ.1 50) (μ.1 51) (μ.1 52) (nI Y0) NP) s (y + 1)) (n47 : ν.1 47 = μ.1 47) (n48 : ν.1 48 = μ.1 48) (n56 : ν.1 56 = μ.1 56) (n57 : ν.1 57 = μ.1 57) (n58 : ν.1 58 = μ.1 58) (n59 : ν.1 59 = μ.1 59) (n5 : ν.1 46 5 = μ.1 46 5) : gP μ NP N v Y0 y s = gM ν tb N v (nI (phN s)) (Y0 + y) := by
  obtain ⟨i1, i2, i3, i4, i5, i6, i7, i8, i9, i10, i11, i12, i13⟩ := id hi
  obtain ⟨⟨es, ey, ep, ek⟩, NP', hNP', eNP', -, b1, b2, b3⟩ := id i6
  obtain ⟨N', hN', eN', -, hb⟩ := id i9
  have q1 : NP' = NP := (nI_eq (by omega) (by omega)).mp (eNP'.symm.trans eNP)
  have q2 : N' = N := (nI_eq (by omega) (by omega)).mp (eN'.symm.trans eN)
  subst q1 q2
  unfold gP gX gM
  rw [n47, n48, n56, n57, n58, n59, n5]
  by_cases z : s = 0
  · rw [if_pos (show nI s = 0 by rw [z]; rfl), if_pos (show nI (phN s) = 25 by rw [z]; rfl)]
  · have hp : phN s = s - 1 := by unfold phN; rw [if_neg z]
    rw [if_neg (show ¬ nI s = 0 from fun w => z ((nI_eq (b := 0) (by omega) (by decide)).mp w)), if_neg (show ¬ nI (phN s) = 25 from fun w => by rw [hp] at w; have := (nI_eq (b := 25) (by omega) (by decide)).mp w; omega), hp, nI_m1 (by omega)]
    have e0 := nI_toInt (n := s - 1) (by omega)
    have ef : kFr (μ.1 47) v (nI (s - 1)) = v * μ.1 47 (nI (s - 1)).toNatClampNeg / 100 := by
      unfold kFr
      rw [if_pos ⟨by rw [k_le, li_0, e0]; omega, by rw [k_le, li_24, e0]; omega⟩]
    show (bX (μ.1 9) (prX2 μ NP' (nI (Y0 + y)) (nI Y0)) (kFr (μ.1 2) v (nI (s - 1)))).toInt64 - kDue (μ.1 17) (μ.1 18) (μ.1 19) (μ.1 20) N' v (nI (s - 1)) (bX (μ.1 9) (prX2 μ NP' (nI (Y0 + y)) (nI Y0)) (kFr (μ.1 2) v (nI (s - 1)))) - (μ.1 1 1).toInt64 * v.toInt64 = _
    have eb : bX (μ.1 9) (prX2 μ NP' (nI (Y0 + y)) (nI Y0)) (kFr (μ.1 2) v (nI (s - 1))) = bM (μ.1 48) tb (v * μ.1 47 (nI (s - 1)).toNatClampNeg / 100) (Y0 + y) := by
      unfold bX bM
      rw [i4.1, ef, i5.1]
      rw [(pick_eq (so := μ.1 49) (ye := μ.1 50) (am := μ.1 51) (kn := μ.1 52) (k := nI Y0) (N := NP') hY (fresh_bd hv (i4.2 _)) i5.2 b1 b2 b3 (fun s h4 => by unfold prX2; rw [es, ey, ep, ek]) ht).1]
    have ed : ∀ m, kDue (μ.1 17) (μ.1 18) (μ.1 19) (μ.1 20) N' v (nI (s - 1)) m = kDue (μ.1 56) (μ.1 57) (μ.1 58) (μ.1 59) N' v (nI (s - 1)) m := fun m => by
      unfold kDue
      rw [fT_congr N' (fun j hj => (hb j hj).1)]
    rw [eb, ed, i3.1]
set_option maxHeartbeats 400000 in
set_option maxRecDepth 100000 in
theorem pr_plan {g n : Int32} {μ : kH} (hi : Inv μ) : Ev kX10_plan [kr 0, ki g, ki n] μ (fun r1 h1 => (∃ v, r1 = kl v) ∧ Ev kX11_plan [kr 46, ki g, ki n] h1 (fun r2 h2 => r2 = r1 ∧ Inv h2)) := by
  obtain ⟨i1, i2, i3, i4, i5, i6, i7, i8, i9, i10, i11, i12, i13⟩ := id hi
  obtain ⟨⟨ev, ea⟩, g1, g2, GN, hGN, eG, eG'⟩ := id i7
  obtain ⟨⟨es, ey, ep, ek⟩, NP, hNP, eNP, eNP', b1, b2, b3⟩ := id i6
  obtain ⟨N, hN, eN, eN', hb⟩ := id i9
  obtain ⟨Y0, hY0, eY0'⟩ := ns_of (lo := 0) (hg := 39) i1.2 (by decide)
  have eY0 : μ.1 0 10 = nI Y0 := i1.1.trans eY0'
  have t0 := nI_toInt (n := Y0) (by omega)
  have tG := nI_toInt (n := GN) (by omega)
  by_cases z : (0 ≤ g.toInt ∧ g.toInt < GN) ∧ (1 ≤ n.toInt ∧ n.toInt ≤ 20) ∧ (Y0 : Int) + n.toInt ≤ 40
  · obtain ⟨gn, hgn, eg⟩ := ns_of (x := g) (lo := 0) (hg := 12) ⟨z.1.1, by have := z.1.2; omega⟩ (by decide)
    obtain ⟨m, hm, em⟩ := ns_of (x := n) (lo := 0) (hg := 20) ⟨by have := z.2.1.1; omega, z.2.1.2⟩ (by decide)
    subst eg em
    rw [nI_toInt (by omega), nI_toInt (by omega)] at z
    have ba := g2 gn
    obtain ⟨s0, hs0, es0⟩ : ∃ s0 : Nat, s0 < 26 ∧ μ.1 13 gn + 1 = nI s0 := by
      have ba1 := ba.1; have ba2 := ba.2
      refine ⟨((μ.1 13 gn).toInt + 1).toNat, by rw [ea]; omega, ?_⟩
      rw [k_eq, nI_toInt (by rw [ea]; omega), k_add (by rw [li_1, ea]; omega), li_1, ea]
      omega
    have eA : (if μ.1 55 gn = -1 then 25 else μ.1 55 gn) = nI (phN s0) := by
      have e1 : (μ.1 55 gn).toInt + 1 = s0 := by
        have h1 := congrArg (fun x : Int32 => x.toInt) es0
        have h2 : (μ.1 13 gn + 1).toInt = (nI s0).toInt := h1
        have ba1 := ba.1; have ba2 := ba.2
        rw [ea, k_add (by rw [li_1]; omega), li_1, nI_toInt (by omega)] at h2
        exact h2
      by_cases zz : μ.1 55 gn = -1
      · rw [if_pos zz]
        rw [zz, li_m1] at e1
        rw [show s0 = 0 by omega]; rfl
      · rw [if_neg zz]
        have z2 := zz
        rw [k_eq, li_m1] at z2
        unfold phN
        rw [if_neg (show ¬ s0 = 0 from fun w => by rw [w] at e1; exact z2 (by omega)), k_eq, nI_toInt (by omega)]
        omega
    refine k_evm (ev_X10_plan_ok (g := gn) (n := m) (s0 := s0) (by omega) hGN eG (by omega) hm eY0 (by omega) hNP eNP hN eN es0 hs0) (fun r1 h1 q1 => ?_)
    obtain ⟨e1, f1, d1⟩ := q1
    refine ⟨⟨_, e1⟩, ?_⟩
    obtain ⟨ν, hν⟩ : ∃ ν, hI h1 46 0 0 = ν := ⟨_, rfl⟩
    have nk : ∀ k, k ∉ [8, 10, 30, 31, 32, 46] → ν.1 k = μ.1 k := fun k hk => by
      rw [← hν, show (hI h1 46 0 0).1 k = h1.1 k from hs_ne _ _ (fun w => hk (by rw [w]; decide))]
      exact f1.1 k (fun w => hk (by simp only [List.mem_cons, List.not_mem_nil, or_false] at w ⊢; omega))
    have nj : ∀ j, j ≠ 0 → ν.1 46 j = μ.1 46 j := fun j hj => by
      have e46 : (hI h1 46 0 0).1 46 j = h1.1 46 j := by
        show (hs h1.1 46 (upd (h1.1 46) 0 0)) 46 j = _
        rw [hs_self]; simp only [upd]; rw [if_neg hj]
      rw [← hν, e46, f1.1 46 (by decide)]
    have evp := ev_X11_plan_ok hν (g := gn) (GN := GN) (n := m) (NP := NP) (N := N) (Y0 := Y0) (A0 := phN s0) hN (by rw [nj 19 (by decide)]; exact eN') (by rw [nk 56 (by decide), nk 57 (by decide), nk 58 (by decide)]; exact fun j hj => (hb j hj).2) (by rw [nj 2 (by decide)]; exact eY0') (by omega) hGN (by rw [nj 13 (by decide)]; exact eG') (by omega) hm (by omega) hNP (by rw [nj 7 (by decide)]; exact eNP') (by rw [nk 49 (by decide), nk 50 (by decide)]; exact fun j hj => ⟨(b1 j hj).1, (b1 j hj).2, (b2 j hj).1, (b2 j hj).2⟩) (by rw [nk 55 (by decide)]; exact eA) (ph_le hs0)
    rw [nk 49 (by decide), nk 50 (by decide), nk 51 (by decide), nk 52 (by decide), nk 54 (by decide)] at evp
    refine k_evm evp (fun r2 h2 q2 => ?_)
    obtain ⟨tb, ht, e3, κ, ds_, as_, e4, f2, ha0, hd⟩ := q2
    rw [ev] at e1 d1
    have hcost : (ν.1 46 6).toInt64 * (μ.1 54 gn).toInt64 = (μ.1 54 gn * μ.1 1 2).toInt64 := by
      rw [nj 6 (by decide), i3.2.1]; exact k_cost (g1 gn) i3.2.2.2
    have hG : ∀ y, y < m → ∀ s, s < 26 → gP μ NP N (μ.1 54 gn) Y0 y s = gM ν tb N (μ.1 54 gn) (nI (phN s)) (Y0 + y) := fun y hy s h26 => gp_gm hi (g1 gn) eN hN eNP hNP (by omega) h26 ht (nk 47 (by decide)) (nk 48 (by decide)) (nk 56 (by decide)) (nk 57 (by decide)) (nk 58 (by decide)) (nk 59 (by decide)) (nj 5 (by decide))
    have hsq := sq_as hcost hG hs0 ha0 (fun j hj => ⟨(hd j hj).1, (hd j hj).2.1⟩)
    refine ⟨by rw [e3, e1, vu hcost hG m (Nat.le_refl m) s0 hs0], ?_⟩
    have hx : ∀ k, k ∉ [8, 10, 30, 31, 32, 46, 53, 63] → h2.1 k = μ.1 k := fun k hk => by
      have hk46 : k ≠ 46 := fun w => hk (by rw [w]; decide)
      rw [e4, show (hI κ 46 36 (nI m)).1 k = κ.1 k from hs_ne _ _ hk46]
      rw [f2.1 k (fun w => hk (by simp only [List.mem_cons, List.not_mem_nil, or_false] at w ⊢; omega)) hk46]
      exact nk k (fun w => hk (by simp only [List.mem_cons, List.not_mem_nil, or_false] at w ⊢; omega))
    have hj : ∀ j, j ∉ [0, 16, 17, 18, 36] → h2.1 46 j = μ.1 46 j := fun j hj => by
      have e46 : h2.1 46 j = κ.1 46 j := by
        rw [e4]
        show (hs κ.1 46 (upd (κ.1 46) 36 _)) 46 j = _
        rw [hs_self]; simp only [upd]; rw [if_neg (fun w => hj (by rw [w]; decide))]
      rw [e46, f2.2.1 j (fun w => hj (by simp only [List.mem_cons, List.not_mem_nil, or_false] at w ⊢; omega))]
      exact nj j (fun w => hj (by rw [w]; decide))
    have xr : ∀ k, k ∉ [46, 53, 63] → h2.1 k = h1.1 k := fun k hk => by
      have hk46 : k ≠ 46 := fun w => hk (by rw [w]; decide)
      rw [e4, show (hI κ 46 36 (nI m)).1 k = κ.1 k from hs_ne _ _ hk46]
      rw [f2.1 k (fun w => hk (by simp only [List.mem_cons, List.not_mem_nil, or_false] at w ⊢; omega)) hk46, ← hν]
      exact hs_ne _ _ hk46
    have w36 : h2.1 46 36 = nI m := by rw [e4]; exact hI_at _ _ _ _
    have w63 : h2.1 63 = κ.1 63 := by rw [e4]; rfl
    exact ⟨(by rw [hx 0 (by decide), hj 2 (by decide)]; exact i1), (by rw [hx 0 (by decide), hj 1 (by decide)]; exact i2), (by rw [hx 1 (by decide), hj 5 (by decide), hj 6 (by decide)]; exact i3), (by rw [hx 2 (by decide), hx 47 (by decide)]; exact i4), (by rw [hx 9 (by decide), hx 48 (by decide)]; exact i5), (by rw [hx 3 (by decide), hj 7 (by decide), hx 4 (by decide), hx 5 (by decide), hx 6 (by decide), hx 7 (by decide), hx 49 (by decide), hx 50 (by decide), hx 51 (by decide), hx 52 (by decide)]; exact i6), (by rw [hx 11 (by decide), hj 13 (by decide), hx 12 (by decide), hx 13 (by decide), hx 54 (by decide), hx 55 (by decide)]; exact i7), (by rw [hx 14 (by decide), hj 27 (by decide), hx 15 (by decide), hx 61 (by decide)]; exact i8), (by rw [hx 16 (by decide), hj 19 (by decide), hx 17 (by decide), hx 18 (by decide), hx 19 (by decide), hx 20 (by decide), hx 56 (by decide), hx 57 (by decide), hx 58 (by decide), hx 59 (by decide)]; exact i9), (by rw [hx 21 (by decide), hj 32 (by decide)]; exact i10), ⟨by rw [xr 30 (by decide), w36]; exact f1.2.1, Or.inr ⟨m, by omega, hm, w36, fun j hjm => by rw [xr 31 (by decide), w63, (hd j hjm).2.2, d1 j hjm]; exact (hsq j hjm).2.1⟩⟩, (by rw [hj 2 (by decide), hx 36 (by decide), hj 37 (by decide), hj 41 (by decide), hx 37 (by decide), hx 38 (by decide), hx 39 (by decide), hx 64 (by decide), hx 65 (by decide), hx 66 (by decide)]; exact i12), (by rw [hx 40 (by decide), hj 43 (by decide), hj 42 (by decide), hx 41 (by decide), hx 42 (by decide), hx 43 (by decide), hx 44 (by decide), hx 67 (by decide), hx 68 (by decide), hx 69 (by decide), hx 70 (by decide), hx 71 (by decide), hx 45 (by decide), hx 72 (by decide)]; exact i13)⟩
  · refine k_evm (ev_X10_plan_bad (by rw [eG, tG]; omega) (by rw [eY0, t0]; omega) (by rw [eG, tG, eY0, t0]; exact z)) (fun r1 h1 q1 => ?_)
    obtain ⟨e1, e2⟩ := q1
    rw [e2]
    refine ⟨⟨_, e1⟩, k_evm (ev_X11_plan_bad rfl (show 0 ≤ (μ.1 46 2).toInt ∧ (μ.1 46 2).toInt ≤ 39 from i1.2) (show ¬ ((0 ≤ g.toInt ∧ g.toInt < (μ.1 46 13).toInt) ∧ (1 ≤ n.toInt ∧ n.toInt ≤ 20) ∧ (μ.1 46 2).toInt + n.toInt ≤ 40) by rw [eG', tG, eY0', t0]; exact z)) (fun r2 h2 q2 => ?_)⟩
    obtain ⟨e3, e4⟩ := q2
    refine ⟨e3.trans e1.symm, ?_⟩
    rw [e4]
    exact ⟨i1, i2, i3, i4, i5, i6, i7, i8, i9, i10, i11, i12, i13⟩

