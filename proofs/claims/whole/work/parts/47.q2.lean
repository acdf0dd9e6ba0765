theorem fFill_none {T : Nat → Int32} {s : Nat} : ∀ y, (∀ j, j < y → T (40 * s + j) < 0) → fFill T s y = 0 := by
  intro y
  induction y with
  | zero => intro _; rfl
  | succ y ih => intro hh; rw [fFill, if_pos (hh y (by omega))]; exact ih (fun j hj => hh j (by omega))
theorem fFill_last {T : Nat → Int32} {s l : Nat} (h0 : ¬ T (40 * s + l) < 0) : ∀ y, l < y → (∀ j, l < j → j < y → T (40 * s + j) < 0) → fFill T s y = T (40 * s + l) := by
  intro y
  induction y with
  | zero => intro z; omega
  | succ y ih =>
    intro hl hh
    rw [fFill]
    by_cases z : y = l
    · subst z; rw [if_neg h0]
    · rw [if_pos (hh y (by omega) (by omega))]
      exact ih (by omega) (fun j h1 h2 => hh j h1 (by omega))
/-- the price as known: one pass over the told prices, or the table filled up -/
theorem fKnown_inv {so ye am kn : Nat → Int32} {k : Int32} {s y : Nat} (hs4 : s < 4) (hy : y < 40) : ∀ N, (∀ j, j < N → (0 ≤ (so j).toInt ∧ (so j).toInt ≤ 3) ∧ (0 ≤ (ye j).toInt ∧ (ye j).toInt ≤ 39) ∧ 0 ≤ (am j).toInt) → ((∀ j, j ≤ y → fTab so ye am kn k N (40 * s + j) < 0) ∧ fKnown so ye am kn (nI s) (nI y) k N = (0, 0)) ∨ ∃ l, l ≤ y ∧ fKnown so ye am kn (nI s) (nI y) k N = (fTab so ye am kn k N (40 * s + l), nI l) ∧ ¬ fTab so ye am kn k N (40 * s + l) < 0 ∧ ∀ j, l < j → j ≤ y → fTab so ye am kn k N (40 * s + j) < 0 := by
  intro N
  induction N with
  | zero => intro _; exact Or.inl ⟨fun j _ => by show (-1 : Int32) < 0; decide, rfl⟩
  | succ N ih =>
    intro hb
    have ih := ih (fun j hj => hb j (by omega))
    obtain ⟨b1, b2, b3⟩ := hb N (by omega)
    have es := nI_toInt (n := s) (by omega)
    have ey := nI_toInt (n := y) (by omega)
    obtain ⟨a, ea⟩ : ∃ a : Nat, (so N).toInt = a := ⟨(so N).toInt.toNat, by omega⟩
    obtain ⟨b, eb⟩ : ∃ b : Nat, (ye N).toInt = b := ⟨(ye N).toInt.toNat, by omega⟩
    have e40 : ((40 : Int32) * so N).toInt = 40 * a := by rw [k_mul (by rw [li_40]; omega), li_40, ea]
    have eidx : (40 * so N + ye N).toNatClampNeg = 40 * a + b := by
      have e1 : (40 * so N + ye N).toInt = 40 * a + b := by rw [k_add (by rw [e40]; omega), e40, eb]
      have e2 := k_clamp (a := 40 * so N + ye N) (by rw [e1]; omega)
      rw [e1] at e2; omega
    have ebI : ye N = nI b := by rw [k_eq, eb, nI_toInt (by omega)]
    rw [fTab, fKnown]
    generalize fTab so ye am kn k N = T at *
    generalize fKnown so ye am kn (nI s) (nI y) k N = F at *
    by_cases c1 : kn N ≤ k
    · rw [if_pos c1, eidx]
      have hne : ∀ j, j < 40 → (¬ a = s ∨ ¬ j = b) → upd T (40 * a + b) (am N) (40 * s + j) = T (40 * s + j) := fun j hj hz => by
        simp only [upd]; rw [if_neg (by omega)]
      by_cases c2 : a = s ∧ b ≤ y
      · obtain ⟨c2, c3⟩ := c2
        subst c2
        have esa : so N = nI a := by rw [k_eq, ea, es]
        have hat : upd T (40 * a + b) (am N) (40 * a + b) = am N := upd_at _ _ _
        have hnn : ¬ am N < 0 := fun z => by rw [k_lt, li_0] at z; omega
        have hyb : ye N ≤ nI y := by rw [k_le, eb, ey]; omega
        rcases ih with ⟨i1, i2⟩ | ⟨l, l1, l2, l3, l4⟩
        · right
          refine ⟨b, c3, ?_, by rw [hat]; exact hnn, fun j h1 h2 => by rw [hne j (by omega) (Or.inr (by omega))]; exact i1 j h2⟩
          rw [if_pos ⟨esa, c1, hyb, by rw [i2]; show (0 : Int32) ≤ ye N; rw [k_le, li_0]; omega⟩, hat, ebI]
        · by_cases c4 : l ≤ b
          · right
            refine ⟨b, c3, ?_, by rw [hat]; exact hnn, fun j h1 h2 => by rw [hne j (by omega) (Or.inr (by omega))]; exact l4 j (by omega) h2⟩
            rw [if_pos ⟨esa, c1, hyb, by rw [l2]; show nI l ≤ ye N; rw [k_le, eb, nI_toInt (by omega)]; omega⟩, hat, ebI]
          · right
            have hl : upd T (40 * a + b) (am N) (40 * a + l) = T (40 * a + l) := hne l (by omega) (Or.inr (by omega))
            refine ⟨l, l1, ?_, by rw [hl]; exact l3, fun j h1 h2 => by rw [hne j (by omega) (Or.inr (by omega))]; exact l4 j h1 h2⟩
            rw [if_neg (fun z => by
              have z4 := z.2.2.2
              rw [l2] at z4
              have z5 : nI l ≤ ye N := z4
              rw [k_le, eb, nI_toInt (by omega)] at z5; omega), hl]
            exact l2
      · have hF : ¬ (so N = nI s ∧ kn N ≤ k ∧ ye N ≤ nI y ∧ F.2 ≤ ye N) := fun z => by
          have z1 := z.1; have z3 := z.2.2.1
          rw [k_eq, ea, es] at z1
          rw [k_le, eb, ey] at z3
          omega
        have hT : ∀ j, j ≤ y → upd T (40 * a + b) (am N) (40 * s + j) = T (40 * s + j) := fun j hj => hne j (by omega) (by omega)
        rw [if_neg hF]
        rcases ih with ⟨i1, i2⟩ | ⟨l, l1, l2, l3, l4⟩
        · exact Or.inl ⟨fun j hj => by rw [hT j hj]; exact i1 j hj, i2⟩
        · exact Or.inr ⟨l, l1, by rw [hT l l1]; exact l2, by rw [hT l l1]; exact l3, fun j h1 h2 => by rw [hT j h2]; exact l4 j h1 h2⟩
    · rw [if_neg c1, if_neg (fun z => c1 z.2.1)]
      exact ih
theorem fKnown_fFill {so ye am kn : Nat → Int32} {k : Int32} {s y N : Nat} (hs4 : s < 4) (hy : y < 40) (hb : ∀ j, j < N → (0 ≤ (so j).toInt ∧ (so j).toInt ≤ 3) ∧ (0 ≤ (ye j).toInt ∧ (ye j).toInt ≤ 39) ∧ 0 ≤ (am j).toInt) : (fKnown so ye am kn (nI s) (nI y) k N).1 = fFill (fTab so ye am kn k N) s (y + 1) := by
  rcases fKnown_inv (kn := kn) (k := k) hs4 hy N hb with ⟨i1, i2⟩ | ⟨l, l1, l2, l3, l4⟩
  · rw [i2, fFill_none (y + 1) (fun j hj => i1 j (by omega))]
  · rw [l2, fFill_last l3 (y + 1) (by omega) (fun j h1 h2 => l4 j h1 (by omega))]

