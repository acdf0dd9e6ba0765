/-- a nonnegative product stays in its bounds -/
theorem k_pb {x y X Y : Int} (hx : 0 ≤ x) (hx2 : x ≤ X) (hy : 0 ≤ y) (hy2 : y ≤ Y) : 0 ≤ x * y ∧ x * y ≤ X * Y := ⟨Int.mul_nonneg hx hy, Int.mul_le_mul hx2 hy2 hy (Int.le_trans hx hx2)⟩
theorem k_div100 {x : Int32} (h0 : 0 ≤ x.toInt) : (x / 100).toInt = x.toInt / 100 := by
  rw [Int32.toInt_div_of_ne_right x 100 (by decide), li_100, Int.tdiv_eq_ediv_of_nonneg h0]
theorem k_div100L {x : Int64} (h0 : 0 ≤ x.toInt) : (x / 100).toInt = x.toInt / 100 := by
  rw [Int64.toInt_div_of_ne_right x 100 (by decide), lj_100, Int.tdiv_eq_ediv_of_nonneg h0]
/-- the piculs that are made of a harvest, on both sides -/
theorem k_made {f r : Int32} (hf : 0 ≤ f.toInt) (hf2 : f.toInt ≤ 100000) (hr : 0 ≤ r.toInt) (hr2 : r.toInt ≤ 100) : (f.toInt64 * r.toInt64 / 100).toInt32 = f * r / 100 ∧ 0 ≤ (f * r / 100).toInt ∧ (f * r / 100).toInt ≤ 100000 := by
  have hb := k_pb hf hf2 hr hr2
  have e1 : (f * r).toInt = f.toInt * r.toInt := k_mul (by omega)
  have e2 : (f.toInt64 * r.toInt64).toInt = f.toInt * r.toInt := by rw [k_mulL (by rw [k_il, k_il]; omega), k_il, k_il]
  have e3 : (f * r / 100).toInt = f.toInt * r.toInt / 100 := by rw [k_div100 (by rw [e1]; omega), e1]
  have e4 : (f.toInt64 * r.toInt64 / 100).toInt = f.toInt * r.toInt / 100 := by rw [k_div100L (by rw [e2]; omega), e2]
  refine ⟨?_, by rw [e3]; omega, by rw [e3]; omega⟩
  rw [k_eq, Int64.toInt_toInt32, e4, e3]
  exact Int.bmod_eq_of_le (by omega) (by omega)
/-- the choice of the best sort is the same on both sides -/
theorem fCh_fFb {ra pr tb : Nat → Int32} {f s0 p0 : Int32} {Y : Nat} (hf : 0 ≤ f.toInt) (hf2 : f.toInt ≤ 100000) (hr : ∀ s, s < 4 → 0 ≤ (ra s).toInt ∧ (ra s).toInt ≤ 100) (hp : ∀ s, s < 4 → pr s = tb (40 * s + Y) ∧ 0 ≤ (pr s).toInt ∧ (pr s).toInt ≤ 1000) : ∀ i, i < 4 → fCh ra pr f s0 p0 (i + 1) = fFb ra tb f Y 0 0 (i + 1) ∧ 0 ≤ (fCh ra pr f s0 p0 (i + 1)).1.toInt := by
  have hw : ∀ s, s < 4 → 0 ≤ (f * ra s / 100 * pr s).toInt := fun s hs4 => by
    have m := k_made hf hf2 (hr s hs4).1 (hr s hs4).2
    have b1 := k_pb m.2.1 m.2.2 (hp s hs4).2.1 (hp s hs4).2.2
    rw [k_mul (by omega)]; omega
  intro i
  induction i with
  | zero =>
    intro h4
    have m := k_made hf hf2 (hr 0 h4).1 (hr 0 h4).2
    have e1 : fCh ra pr f s0 p0 (0 + 1) = (nI 0, f * ra 0 / 100, f * ra 0 / 100 * pr 0) := by
      rw [fCh, if_pos]
      show (-1 : Int32) < _
      rw [k_lt, li_m1]
      have := hw 0 h4
      omega
    have e2 : fFb ra tb f Y 0 0 (0 + 1) = (nI 0, (f.toInt64 * (ra 0).toInt64 / 100).toInt32, (f.toInt64 * (ra 0).toInt64 / 100).toInt32 * tb (40 * 0 + Y)) := by
      rw [fFb, if_pos (Or.inl (by show (-1 : Int32) < 0; decide))]
    rw [e1, e2, m.1, (hp 0 h4).1]
    exact ⟨rfl, by show 0 ≤ (nI 0).toInt; decide⟩
  | succ i ih =>
    intro h4
    obtain ⟨i1, i2⟩ := ih (by omega)
    have m := k_made hf hf2 (hr (i + 1) h4).1 (hr (i + 1) h4).2
    rw [fCh, fFb, ← i1, m.1, ← (hp (i + 1) h4).1]
    generalize fCh ra pr f s0 p0 (i + 1) = S at *
    by_cases z : S.2.2 < f * ra (i + 1) / 100 * pr (i + 1)
    · rw [if_pos z, if_pos (Or.inr z)]
      refine ⟨rfl, ?_⟩
      dsimp only
      rw [nI_toInt (by omega)]; omega
    · rw [if_neg z, if_neg (fun q => q.elim (fun q => by rw [k_lt, li_0] at q; omega) z)]
      exact ⟨rfl, i2⟩

