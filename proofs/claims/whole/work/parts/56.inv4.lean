theorem fCh_z {ra pr : Nat → Int32} {s0 p0 : Int32} : ∀ i, (fCh ra pr 0 s0 p0 (i + 1)).2.1 = 0 := by
  have hm : ∀ i, (0 : Int32) * ra i / 100 = 0 := fun i => by rw [Int32.zero_mul]; decide
  intro i
  induction i with
  | zero =>
    have e : fCh ra pr 0 s0 p0 (0 + 1) = (nI 0, 0 * ra 0 / 100, 0 * ra 0 / 100 * pr 0) := by
      rw [fCh, if_pos (by
        show (-1 : Int32) < _
        rw [hm 0, Int32.zero_mul]; decide)]
    rw [e]; exact hm 0
  | succ i ih =>
    rw [fCh]
    split
    · exact hm (i + 1)
    · exact ih
theorem older_eq {a : Int32} (h1 : 0 ≤ a.toInt) (h2 : a.toInt ≤ 24) : k_older a = olderM a ∧ bd (-1) 24 (olderM a) := by
  have e1 : (a + 1).toInt = a.toInt + 1 := by rw [k_add (by rw [li_1]; omega), li_1]
  unfold k_older olderM
  rw [if_neg (fun w => by rw [k_eq, li_m1] at w; omega)]
  by_cases z : a = 24
  · rw [if_pos (by rw [k_lt, li_24, e1, z, li_24]; omega), if_pos (Or.inr z), z]
    exact ⟨rfl, by decide, by decide⟩
  · have z' := z
    rw [k_eq, li_24] at z'
    rw [if_neg (fun w => by rw [k_lt, li_24, e1] at w; omega), if_neg (fun w => w.elim (fun w => by rw [k_eq, li_25] at w; omega) z)]
    exact ⟨rfl, by rw [e1]; omega, by rw [e1]; omega⟩
/-- the state of the harvest on both sides -/
def simG (m : Nat) (S S' : kS8) : Prop := S.1 = S'.1 ∧ S.2.1 = S'.2.1 ∧ S.2.2.1 = S'.2.2.1 ∧ (∀ j, bd (-1) 24 (S.1.1 j)) ∧ ∃ M : Nat, S.2.1 = nI M ∧ M ≤ m ∧ (∀ j, j < M → bd 0 11 (S.1.2.2.1 j)) ∧ ∀ j, j < M → bd 0 2147483647 (S.1.2.2.2 j)
theorem fresh_bd {v y : Int32} (hv : bd 0 2000 v) (hy : bd 0 500 y) : 0 ≤ (v * y / 100).toInt ∧ (v * y / 100).toInt ≤ 100000 := by
  have h1 := k_pb hv.1 hv.2 hy.1 hy.2
  have e : (v * y).toInt = v.toInt * y.toInt := k_mul (by omega)
  rw [k_div100 (by rw [e]; omega), e]
  omega
set_option maxHeartbeats 400000 in
theorem st_sim {vi yi ra pr tb : Nat → Int32} {Y m i : Nat} {S S' : kS8} (hi12 : i < 12) (hm : m < 468) (hvi : ∀ j, bd 0 2000 (vi j)) (hyi : ∀ j, bd 0 500 (yi j)) (hpk : ∀ f s0 p0 : Int32, 0 ≤ f.toInt ∧ f.toInt ≤ 100000 → fCh ra pr f s0 p0 4 = fFb ra tb f Y 0 0 4) (q : simG m S S') (s0 p0 : Int32) : simG (m + 1) (stX vi yi ra pr i S (fCh ra pr (fFresh vi yi S.1.1 i) s0 p0 4)) (stM i S' (fFb ra tb (vi i * yi (S'.1.1 i).toNatClampNeg / 100) Y 0 0 4)) := by
  obtain ⟨⟨A, LS, LG, LL⟩, n, hv, q1, q2⟩ := S
  obtain ⟨⟨A', LS', LG', LL'⟩, n', hv', q1', q2'⟩ := S'
  obtain ⟨e1, e2, e3, ha, M, eM, hM, c1, c2⟩ := q
  cases e1
  have e2 : n = n' := e2
  have e3 : hv = hv' := e3
  have eM : n = nI M := eM
  have ha : ∀ j, bd (-1) 24 (A j) := ha
  subst e2 e3
  have b := ha i
  have b1 := b.1; have b2 := b.2
  have nf : ¬ (468 : Int32) ≤ n := fun w => by rw [eM, k_le, li_468, nI_toInt (by omega)] at w; omega
  unfold fFresh stX stM
  dsimp only
  by_cases z : A i = -1
  · have hk : k_older (A i) = A i := by unfold k_older; rw [if_pos z, z]
    have ef : (if 0 ≤ A i ∧ A i ≤ 24 then vi i * yi (A i).toNatClampNeg / 100 else 0) = 0 := if_neg (fun w => by rw [z] at w; exact absurd w.1 (by decide))
    rw [ef, fCh_z 3, if_pos (Or.inl (by decide)), if_pos z, hk, upd_id]
    exact ⟨rfl, rfl, rfl, ha, M, eM, by omega, c1, c2⟩
  · have zi := z
    rw [k_eq, li_m1] at zi
    have ef : (if 0 ≤ A i ∧ A i ≤ 24 then vi i * yi (A i).toNatClampNeg / 100 else 0) = vi i * yi (A i).toNatClampNeg / 100 := if_pos ⟨by rw [k_le, li_0]; omega, by rw [k_le, li_24]; omega⟩
    rw [ef, if_neg z, hpk _ _ _ (fresh_bd (hvi i) (hyi _))]
    generalize fFb ra tb (vi i * yi (A i).toNatClampNeg / 100) Y 0 0 4 = x
    obtain ⟨o1, o2⟩ := older_eq (a := A i) (by omega) b2
    rw [o1]
    by_cases zx : x.2.1 ≤ 0
    · have zx' := zx
      rw [k_le, li_0] at zx'
      rw [if_pos (Or.inl (by rw [k_lt, li_1]; omega)), if_pos zx]
      exact ⟨rfl, rfl, rfl, upd_all (Q := bd (-1) 24) ha o2, M, eM, by omega, c1, c2⟩
    · have zx' := zx
      rw [k_le, li_0] at zx'
      rw [if_neg (fun w => w.elim (fun w => by rw [k_lt, li_1] at w; omega) nf), if_neg zx]
      have ec : n.toNatClampNeg = M := by rw [eM, nI_clamp (by omega)]
      refine ⟨rfl, rfl, rfl, upd_all (Q := bd (-1) 24) ha o2, M + 1, by rw [← nI_1, ← eM], by omega, ?_, ?_⟩
      · show ∀ j, j < M + 1 → bd 0 11 (upd LG n.toNatClampNeg (nI i) j)
        rw [ec]
        exact upd_nx (Q := bd 0 11) c1 ⟨by rw [nI_toInt (by omega)]; omega, by rw [nI_toInt (by omega)]; omega⟩
      · show ∀ j, j < M + 1 → bd 0 2147483647 (upd LL n.toNatClampNeg x.2.1 j)
        rw [ec]
        exact upd_nx (Q := bd 0 2147483647) c2 ⟨by omega, by have := Int32.toInt_lt x.2.1; omega⟩
theorem it_sim {vi yi ra pr tb : Nat → Int32} {Y m : Nat} {S S' : kS8} (hm : m + 12 ≤ 468) (hvi : ∀ j, bd 0 2000 (vi j)) (hyi : ∀ j, bd 0 500 (yi j)) (hpk : ∀ f s0 p0 : Int32, 0 ≤ f.toInt ∧ f.toInt ≤ 100000 → fCh ra pr f s0 p0 4 = fFb ra tb f Y 0 0 4) (q : simG m S S') : ∀ i, i ≤ 12 → simG (m + i) (itX vi yi ra pr S i) (itM vi yi ra tb Y S' i) := by
  intro i
  induction i with
  | zero => intro _; exact q
  | succ i ih =>
    intro hi
    rw [itX, itM]
    exact st_sim (by omega) (by omega) hvi hyi hpk (ih (by omega)) _ _
theorem simG_le {m m' : Nat} {S S' : kS8} (h : m ≤ m') (q : simG m S S') : simG m' S S' := by
  obtain ⟨e1, e2, e3, ha, M, eM, hM, c⟩ := q
  exact ⟨e1, e2, e3, ha, M, eM, by omega, c⟩
theorem k_now_nI {n : Nat} (hn : n + 1 ≤ 39) : k_now (nI n) = nI (n + 1) := by
  unfold k_now
  rw [nI_1, if_neg (fun w => by rw [k_lt, li_39, nI_toInt (by omega)] at w; omega)]
theorem tbM_at {ν : kH} {N : Nat} {now : Int32} : ∀ s, s < 4 → ∀ y, y < 40 → tbM ν N now (40 * s + y) = fFill (fTab (ν.1 49) (ν.1 50) (ν.1 51) (ν.1 52) now N) s (y + 1) := by
  intro s h4 y h40
  unfold tbM
  rw [show (40 * s + y) / 40 = s by omega, show (40 * s + y) % 40 = y by omega]
set_option maxHeartbeats 400000 in
theorem go_sim {μ ν : kH} {N G Y0 : Nat} (hi : Inv μ) (hG : G ≤ 12) (eN : μ.1 3 4 = nI N) (hN : N ≤ 300) (b1 : ∀ j, j < N → bd 0 3 (μ.1 49 j)) (b2 : ∀ j, j < N → bd 0 39 (μ.1 50 j)) (b3 : ∀ j, j < N → bd 0 1000 (μ.1 51 j)) (eY : μ.1 0 10 = nI Y0) (n47 : ν.1 47 = μ.1 47) (n48 : ν.1 48 = μ.1 48) (n49 : ν.1 49 = μ.1 49) (n50 : ν.1 50 = μ.1 50) (n51 : ν.1 51 = μ.1 51) (n52 : ν.1 52 = μ.1 52) (n54 : ν.1 54 = μ.1 54) (n55 : ν.1 55 = μ.1 55) (n64 : ν.1 64 = μ.1 64) (n65 : ν.1 65 = μ.1 65) (n66 : ν.1 66 = μ.1 66) (n37 : ν.1 46 37 = μ.1 46 37) (n41 : ν.1 46 41 = μ.1 46 41) : ∀ j, Y0 + j ≤ 39 → simG (12 * (Y0 + j)) (goX μ N G j).1 (goM ν N G Y0 j) ∧ (goX μ N G j).2 = nI (Y0 + j) := by
  obtain ⟨i1, i2, i3, i4, i5, i6, i7, i8, i9, i10, i11, i12, i13⟩ := id hi
  obtain ⟨⟨ev, ea⟩, g1, g2, -⟩ := id i7
  obtain ⟨⟨ls, lg, ll⟩, lm, M, eM, eM', hM, c1, c2⟩ := id i12
  obtain ⟨⟨es, ey, ep, ek⟩, -⟩ := id i6
  intro j
  induction j with
  | zero =>
    intro hY
    refine ⟨?_, eY⟩
    show simG (12 * (Y0 + 0)) (stOf μ) (stOfM ν)
    unfold stOf stOfM
    have e2 : (μ.1 46 2).toInt = Y0 := by rw [← i1.1, eY, nI_toInt (by omega)]
    refine ⟨?_, ?_, ?_, ?_, M, eM, by omega, ?_, ?_⟩
    · show (μ.1 13, μ.1 37, μ.1 38, μ.1 39) = (ν.1 55, ν.1 64, ν.1 65, ν.1 66)
      rw [n55, n64, n65, n66, ea, ls, lg, ll]
    · show μ.1 36 3 = ν.1 46 37
      rw [n37, eM, eM']
    · show μ.1 36 4 = ν.1 46 41
      rw [n41, lm]
    · show ∀ j, bd (-1) 24 (μ.1 13 j)
      rw [ea]; exact g2
    · show ∀ j, j < M → bd 0 11 (μ.1 38 j)
      rw [lg]; exact c1
    · show ∀ j, j < M → bd 0 2147483647 (μ.1 39 j)
      rw [ll]; exact c2
  | succ j ih =>
    intro hY
    obtain ⟨q, e2⟩ := ih (by omega)
    rw [goX, goM]
    dsimp only
    rw [e2, k_now_nI (by omega), n54, n47, n48]
    refine ⟨?_, rfl⟩
    refine simG_le (m := 12 * (Y0 + j) + G) (by omega) ?_
    have hpk : ∀ f s0 p0 : Int32, 0 ≤ f.toInt ∧ f.toInt ≤ 100000 → fCh (μ.1 48) (prX μ N (nI (Y0 + j))) f s0 p0 4 = fFb (μ.1 48) (tbM ν N (nI (Y0 + j))) f (Y0 + j) 0 0 4 := fun f s0 p0 hf => (pick_eq (so := μ.1 49) (ye := μ.1 50) (am := μ.1 51) (kn := μ.1 52) (k := nI (Y0 + j)) (N := N) (by omega) hf i5.2 b1 b2 b3 (fun s h4 => by unfold prX; rw [es, ey, ep, ek]) (fun s h4 y h40 => by rw [tbM_at s h4 y h40, n49, n50, n51, n52])).1
    have h := it_sim (by omega) g1 i4.2 hpk q G hG
    rw [ev, i4.1, i5.1]
    exact h

set_option maxHeartbeats 400000 in
set_option maxRecDepth 100000 in
theorem pr_go {y : Int32} {μ : kH} (hi : Inv μ) : Ev kX10_go [kr 0, ki y] μ (fun r1 h1 => (∃ v, r1 = ki v) ∧ Ev kX11_go [kr 46, ki y] h1 (fun r2 h2 => r2 = r1 ∧ Inv h2)) := by
  obtain ⟨i1, i2, i3, i4, i5, i6, i7, i8, i9, i10, i11, i12, i13⟩ := id hi
  obtain ⟨⟨ev, ea⟩, g1, g2, G, hG, eG, eG'⟩ := id i7
  obtain ⟨⟨ls, lg, ll⟩, lm, M, eM, eM', hM, c1, c2⟩ := id i12
  obtain ⟨⟨es, ey, ep, ek⟩, N, hN, eN, eN', b1, b2, b3⟩ := id i6
  obtain ⟨Y0, hY0, eY0'⟩ := ns_of (lo := 0) (hg := 39) i1.2 (by decide)
  have eY0 : μ.1 0 10 = nI Y0 := i1.1.trans eY0'
  have t0 := nI_toInt (n := Y0) (by omega)
  have hM468 : M ≤ 12 * Y0 := by rw [eY0', t0] at hM; omega
  by_cases z : (1 ≤ y.toInt ∧ y.toInt ≤ 20) ∧ (Y0 : Int) + y.toInt ≤ 39
  · obtain ⟨Y, hY, eY⟩ := ns_of (x := y) (lo := 0) (hg := 20) ⟨by omega, z.1.2⟩ (by decide)
    subst eY
    have t1 := nI_toInt (n := Y) (by omega)
    rw [t1] at z
    refine k_evm (ev_X10_go_ok (by omega) hY hG eG hN eN (by rw [eM, nI_toInt (by omega)]; omega) (by rw [eY0, t0]; omega)) (fun r1 h1 q1 => ?_)
    obtain ⟨e1, f1, s1, n1, st1⟩ := q1
    refine ⟨⟨_, e1⟩, ?_⟩
    obtain ⟨ν, hν⟩ : ∃ ν, hI h1 46 0 0 = ν := ⟨_, rfl⟩
    have nk : ∀ k, k ∉ [0, 8, 10, 13, 36, 37, 38, 39, 46] → ν.1 k = μ.1 k := fun k hk => by
      rw [← hν, show (hI h1 46 0 0).1 k = h1.1 k from hs_ne _ _ (fun w => hk (by rw [w]; decide))]
      exact f1.1 k (fun w => hk (by simp only [List.mem_cons, List.not_mem_nil, or_false] at w ⊢; omega))
    have nj : ∀ j, j ≠ 0 → ν.1 46 j = μ.1 46 j := fun j hj => by
      have e46 : (hI h1 46 0 0).1 46 j = h1.1 46 j := by
        show (hs h1.1 46 (upd (h1.1 46) 0 0)) 46 j = _
        rw [hs_self]; simp only [upd]; rw [if_neg hj]
      rw [← hν, e46, f1.1 46 (by decide)]
    have gs := go_sim (ν := ν) hi hG eN hN b1 b2 b3 eY0 (nk 47 (by decide)) (nk 48 (by decide)) (nk 49 (by decide)) (nk 50 (by decide)) (nk 51 (by decide)) (nk 52 (by decide)) (nk 54 (by decide)) (nk 55 (by decide)) (nk 64 (by decide)) (nk 65 (by decide)) (nk 66 (by decide)) (nj 37 (by decide)) (nj 41 (by decide)) Y (by omega)
    refine k_evm (ev_X11_go_ok hν (Y0 := Y0) (by rw [nj 2 (by decide)]; exact eY0') hG (by rw [nj 13 (by decide)]; exact eG') hN (by rw [nj 7 (by decide)]; exact eN') (by rw [nk 49 (by decide), nk 50 (by decide)]; exact fun j hj => ⟨(b1 j hj).1, (b1 j hj).2, (b2 j hj).1, (b2 j hj).2⟩) (by rw [nj 37 (by decide), eM', nI_toInt (by omega)]; omega) (by rw [nk 55 (by decide)]; exact fun j _ => g2 j) (by omega) hY (by omega)) (fun r2 h2 q2 => ?_)
    obtain ⟨κ, e3, e4, f2, s2, n2⟩ := q2
    refine ⟨by rw [e3, e1, gs.2], ?_⟩
    obtain ⟨⟨v1, v2, v3, v4, M2, v5, v6, v7, v8⟩, gs2⟩ := gs
    rw [← s1, ← s2] at v1 v2 v3
    rw [← s1] at v4 v5 v7 v8
    have hx : ∀ k, k ∉ [0, 8, 10, 13, 36, 37, 38, 39, 46, 53, 55, 64, 65, 66] → h2.1 k = μ.1 k := fun k hk => by
      have hk46 : k ≠ 46 := fun w => hk (by rw [w]; decide)
      rw [e4, show (hI κ 46 1 (kst (nI (Y0 + Y)))).1 k = κ.1 k from hs_ne _ _ hk46]
      rw [f2.1 k (fun w => hk (by simp only [List.mem_cons, List.not_mem_nil, or_false] at w ⊢; omega)) hk46]
      exact nk k (fun w => hk (by simp only [List.mem_cons, List.not_mem_nil, or_false] at w ⊢; omega))
    have hj : ∀ j, j ∉ [0, 1, 2, 16, 17, 18, 37, 41] → h2.1 46 j = μ.1 46 j := fun j hj => by
      have e46 : h2.1 46 j = κ.1 46 j := by
        rw [e4]
        show (hs κ.1 46 (upd (κ.1 46) 1 _)) 46 j = _
        rw [hs_self]; simp only [upd]; rw [if_neg (fun w => hj (by rw [w]; decide))]
      rw [e46, f2.2.1 j (fun w => hj (by simp only [List.mem_cons, List.not_mem_nil, or_false] at w ⊢; omega))]
      exact nj j (fun w => hj (by rw [w]; decide))
    have xr : ∀ k, k ∉ [46, 53, 55, 64, 65, 66] → h2.1 k = h1.1 k := fun k hk => by
      have hk46 : k ≠ 46 := fun w => hk (by rw [w]; decide)
      rw [e4, show (hI κ 46 1 (kst (nI (Y0 + Y)))).1 k = κ.1 k from hs_ne _ _ hk46]
      rw [f2.1 k (fun w => hk (by simp only [List.mem_cons, List.not_mem_nil, or_false] at w ⊢; omega)) hk46, ← hν]
      exact hs_ne _ _ hk46
    have xm : ∀ k, k ≠ 46 → h2.1 k = κ.1 k := fun k hk => by rw [e4]; exact hs_ne _ _ hk
    have w2 : h2.1 46 2 = nI (Y0 + Y) := by rw [e4]; exact n2
    have w1 : h2.1 46 1 = 0 := by rw [e4, hI_at]; exact kst_nI (by omega)
    have v1a : h1.1 13 = κ.1 55 := congrArg (fun S : (Nat → Int32) × (Nat → Int32) × (Nat → Int32) × (Nat → Int32) => S.1) v1
    have v1b : h1.1 37 = κ.1 64 := congrArg (fun S : (Nat → Int32) × (Nat → Int32) × (Nat → Int32) × (Nat → Int32) => S.2.1) v1
    have v1c : h1.1 38 = κ.1 65 := congrArg (fun S : (Nat → Int32) × (Nat → Int32) × (Nat → Int32) × (Nat → Int32) => S.2.2.1) v1
    have v1d : h1.1 39 = κ.1 66 := congrArg (fun S : (Nat → Int32) × (Nat → Int32) × (Nat → Int32) × (Nat → Int32) => S.2.2.2) v1
    have v2' : h1.1 36 3 = κ.1 46 37 := v2
    have v3' : h1.1 36 4 = κ.1 46 41 := v3
    have v4' : ∀ j, bd (-1) 24 (h1.1 13 j) := v4
    have v5' : h1.1 36 3 = nI M2 := v5
    have v7' : ∀ j, j < M2 → bd 0 11 (h1.1 38 j) := v7
    have v8' : ∀ j, j < M2 → bd 0 2147483647 (h1.1 39 j) := v8
    have w37 : h2.1 46 37 = κ.1 46 37 := by rw [e4]; rfl
    have w41 : h2.1 46 41 = κ.1 46 41 := by rw [e4]; rfl
    have tY := nI_toInt (n := Y0 + Y) (by omega)
    exact ⟨⟨by rw [xr 0 (by decide), n1, w2]; exact gs2, by rw [w2, tY]; omega, by rw [w2, tY]; omega⟩, (by rw [xr 0 (by decide), st1, w1]), (by rw [hx 1 (by decide), hj 5 (by decide), hj 6 (by decide)]; exact i3), (by rw [hx 2 (by decide), hx 47 (by decide)]; exact i4), (by rw [hx 9 (by decide), hx 48 (by decide)]; exact i5), (by rw [hx 3 (by decide), hj 7 (by decide), hx 4 (by decide), hx 5 (by decide), hx 6 (by decide), hx 7 (by decide), hx 49 (by decide), hx 50 (by decide), hx 51 (by decide), hx 52 (by decide)]; exact i6), ⟨⟨by rw [hx 12 (by decide), hx 54 (by decide)]; exact ev, by rw [xr 13 (by decide), xm 55 (by decide)]; exact v1a⟩, by rw [hx 54 (by decide)]; exact g1, by rw [xm 55 (by decide), ← v1a]; exact v4', G, hG, by rw [hx 11 (by decide)]; exact eG, by rw [hj 13 (by decide)]; exact eG'⟩, (by rw [hx 14 (by decide), hj 27 (by decide), hx 15 (by decide), hx 61 (by decide)]; exact i8), (by rw [hx 16 (by decide), hj 19 (by decide), hx 17 (by decide), hx 18 (by decide), hx 19 (by decide), hx 20 (by decide), hx 56 (by decide), hx 57 (by decide), hx 58 (by decide), hx 59 (by decide)]; exact i9), (by rw [hx 21 (by decide), hj 32 (by decide)]; exact i10), (by rw [hx 30 (by decide), hj 36 (by decide), hx 31 (by decide), hx 63 (by decide)]; exact i11), ⟨⟨by rw [xr 37 (by decide), xm 64 (by decide)]; exact v1b, by rw [xr 38 (by decide), xm 65 (by decide)]; exact v1c, by rw [xr 39 (by decide), xm 66 (by decide)]; exact v1d⟩, by rw [xr 36 (by decide), w41]; exact v3', M2, by rw [xr 36 (by decide)]; exact v5', by rw [w37, ← v2']; exact v5', by rw [w2, tY]; omega, by rw [xm 65 (by decide), ← v1c]; exact v7', by rw [xm 66 (by decide), ← v1d]; exact v8'⟩, (by rw [hx 40 (by decide), hj 43 (by decide), hj 42 (by decide), hx 41 (by decide), hx 42 (by decide), hx 43 (by decide), hx 44 (by decide), hx 67 (by decide), hx 68 (by decide), hx 69 (by decide), hx 70 (by decide), hx 71 (by decide), hx 45 (by decide), hx 72 (by decide)]; exact i13)⟩
  · refine k_evm (ev_X10_go_bad (by rw [eY0, t0]; omega) (by rw [eY0, t0]; exact z)) (fun r1 h1 q1 => ?_)
    obtain ⟨e1, e2⟩ := q1
    rw [e2]
    refine ⟨⟨_, e1⟩, k_evm (ev_X11_go_bad rfl (show 0 ≤ (μ.1 46 2).toInt ∧ (μ.1 46 2).toInt ≤ 39 from i1.2) (show ¬ ((1 ≤ y.toInt ∧ y.toInt ≤ 20) ∧ (μ.1 46 2).toInt + y.toInt ≤ 39) by rw [eY0', t0]; exact z)) (fun r2 h2 q2 => ?_)⟩
    obtain ⟨e3, e4⟩ := q2
    refine ⟨e3.trans e1.symm, ?_⟩
    rw [e4]
    exact ⟨i1, (by show (-1 : Int32) = kst (-1); decide), i3, i4, i5, i6, i7, i8, i9, i10, i11, i12, i13⟩

