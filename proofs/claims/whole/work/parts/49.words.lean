theorem hWd_7 {B : Nat → Int32} {f n : Nat} (hn : 7 ≤ n) : hWd B f n = -1 := by
  obtain ⟨m, rfl⟩ : ∃ m, n = m + 1 := ⟨n - 1, by omega⟩
  rw [hWd, if_neg (by omega)]
theorem hW_0 {B : Nat → Int32} {f : Nat} : (hWd B f 0).toInt = 0 := by show (0 : Int64).toInt = 0; exact lj_0
theorem hW_1 {B : Nat → Int32} {f : Nat} (hl : ∀ j, j < 1 → smB (B (f + j))) : (hWd B f 1).toInt = (32 * 0 + ((B (f + 0)).toInt - 96)) := by
  have e := hW_0 (B := B) (f := f)
  have b0 := hl 0 (by decide)
  simp only [smB, k_le, li_97, li_122] at b0
  have e1 : (hWd B f 0 * 32).toInt = 0 * 32 := by rw [k_mulL (by rw [e, lj_32]; omega), e, lj_32]
  have e2 : (hWd B f 0 * 32 + (B (f + 0)).toInt64).toInt = 0 * 32 + (B (f + 0)).toInt := by rw [k_addL (by rw [e1, k_il]; omega), e1, k_il]
  show (if 0 < 6 then hWd B f 0 * 32 + (B (f + 0)).toInt64 - 96 else -1 : Int64).toInt = _
  rw [if_pos (by decide), k_subL (by rw [e2, lj_96]; omega), e2, lj_96]
  omega
theorem hW_2 {B : Nat → Int32} {f : Nat} (hl : ∀ j, j < 2 → smB (B (f + j))) : (hWd B f 2).toInt = (32 * (32 * 0 + ((B (f + 0)).toInt - 96)) + ((B (f + 1)).toInt - 96)) := by
  have e := hW_1 (B := B) (f := f) (fun j hj => hl j (by omega))
  have b0 := hl 0 (by decide)
  have b1 := hl 1 (by decide)
  simp only [smB, k_le, li_97, li_122] at b0 b1
  have e1 : (hWd B f 1 * 32).toInt = (32 * 0 + ((B (f + 0)).toInt - 96)) * 32 := by rw [k_mulL (by rw [e, lj_32]; omega), e, lj_32]
  have e2 : (hWd B f 1 * 32 + (B (f + 1)).toInt64).toInt = (32 * 0 + ((B (f + 0)).toInt - 96)) * 32 + (B (f + 1)).toInt := by rw [k_addL (by rw [e1, k_il]; omega), e1, k_il]
  show (if 1 < 6 then hWd B f 1 * 32 + (B (f + 1)).toInt64 - 96 else -1 : Int64).toInt = _
  rw [if_pos (by decide), k_subL (by rw [e2, lj_96]; omega), e2, lj_96]
  omega
theorem hW_3 {B : Nat → Int32} {f : Nat} (hl : ∀ j, j < 3 → smB (B (f + j))) : (hWd B f 3).toInt = (32 * (32 * (32 * 0 + ((B (f + 0)).toInt - 96)) + ((B (f + 1)).toInt - 96)) + ((B (f + 2)).toInt - 96)) := by
  have e := hW_2 (B := B) (f := f) (fun j hj => hl j (by omega))
  have b0 := hl 0 (by decide)
  have b1 := hl 1 (by decide)
  have b2 := hl 2 (by decide)
  simp only [smB, k_le, li_97, li_122] at b0 b1 b2
  have e1 : (hWd B f 2 * 32).toInt = (32 * (32 * 0 + ((B (f + 0)).toInt - 96)) + ((B (f + 1)).toInt - 96)) * 32 := by rw [k_mulL (by rw [e, lj_32]; omega), e, lj_32]
  have e2 : (hWd B f 2 * 32 + (B (f + 2)).toInt64).toInt = (32 * (32 * 0 + ((B (f + 0)).toInt - 96)) + ((B (f + 1)).toInt - 96)) * 32 + (B (f + 2)).toInt := by rw [k_addL (by rw [e1, k_il]; omega), e1, k_il]
  show (if 2 < 6 then hWd B f 2 * 32 + (B (f + 2)).toInt64 - 96 else -1 : Int64).toInt = _
  rw [if_pos (by decide), k_subL (by rw [e2, lj_96]; omega), e2, lj_96]
  omega
theorem hW_4 {B : Nat → Int32} {f : Nat} (hl : ∀ j, j < 4 → smB (B (f + j))) : (hWd B f 4).toInt = (32 * (32 * (32 * (32 * 0 + ((B (f + 0)).toInt - 96)) + ((B (f + 1)).toInt - 96)) + ((B (f + 2)).toInt - 96)) + ((B (f + 3)).toInt - 96)) := by
  have e := hW_3 (B := B) (f := f) (fun j hj => hl j (by omega))
  have b0 := hl 0 (by decide)
  have b1 := hl 1 (by decide)
  have b2 := hl 2 (by decide)
  have b3 := hl 3 (by decide)
  simp only [smB, k_le, li_97, li_122] at b0 b1 b2 b3
  have e1 : (hWd B f 3 * 32).toInt = (32 * (32 * (32 * 0 + ((B (f + 0)).toInt - 96)) + ((B (f + 1)).toInt - 96)) + ((B (f + 2)).toInt - 96)) * 32 := by rw [k_mulL (by rw [e, lj_32]; omega), e, lj_32]
  have e2 : (hWd B f 3 * 32 + (B (f + 3)).toInt64).toInt = (32 * (32 * (32 * 0 + ((B (f + 0)).toInt - 96)) + ((B (f + 1)).toInt - 96)) + ((B (f + 2)).toInt - 96)) * 32 + (B (f + 3)).toInt := by rw [k_addL (by rw [e1, k_il]; omega), e1, k_il]
  show (if 3 < 6 then hWd B f 3 * 32 + (B (f + 3)).toInt64 - 96 else -1 : Int64).toInt = _
  rw [if_pos (by decide), k_subL (by rw [e2, lj_96]; omega), e2, lj_96]
  omega
theorem hW_5 {B : Nat → Int32} {f : Nat} (hl : ∀ j, j < 5 → smB (B (f + j))) : (hWd B f 5).toInt = (32 * (32 * (32 * (32 * (32 * 0 + ((B (f + 0)).toInt - 96)) + ((B (f + 1)).toInt - 96)) + ((B (f + 2)).toInt - 96)) + ((B (f + 3)).toInt - 96)) + ((B (f + 4)).toInt - 96)) := by
  have e := hW_4 (B := B) (f := f) (fun j hj => hl j (by omega))
  have b0 := hl 0 (by decide)
  have b1 := hl 1 (by decide)
  have b2 := hl 2 (by decide)
  have b3 := hl 3 (by decide)
  have b4 := hl 4 (by decide)
  simp only [smB, k_le, li_97, li_122] at b0 b1 b2 b3 b4
  have e1 : (hWd B f 4 * 32).toInt = (32 * (32 * (32 * (32 * 0 + ((B (f + 0)).toInt - 96)) + ((B (f + 1)).toInt - 96)) + ((B (f + 2)).toInt - 96)) + ((B (f + 3)).toInt - 96)) * 32 := by rw [k_mulL (by rw [e, lj_32]; omega), e, lj_32]
  have e2 : (hWd B f 4 * 32 + (B (f + 4)).toInt64).toInt = (32 * (32 * (32 * (32 * 0 + ((B (f + 0)).toInt - 96)) + ((B (f + 1)).toInt - 96)) + ((B (f + 2)).toInt - 96)) + ((B (f + 3)).toInt - 96)) * 32 + (B (f + 4)).toInt := by rw [k_addL (by rw [e1, k_il]; omega), e1, k_il]
  show (if 4 < 6 then hWd B f 4 * 32 + (B (f + 4)).toInt64 - 96 else -1 : Int64).toInt = _
  rw [if_pos (by decide), k_subL (by rw [e2, lj_96]; omega), e2, lj_96]
  omega
theorem hW_6 {B : Nat → Int32} {f : Nat} (hl : ∀ j, j < 6 → smB (B (f + j))) : (hWd B f 6).toInt = (32 * (32 * (32 * (32 * (32 * (32 * 0 + ((B (f + 0)).toInt - 96)) + ((B (f + 1)).toInt - 96)) + ((B (f + 2)).toInt - 96)) + ((B (f + 3)).toInt - 96)) + ((B (f + 4)).toInt - 96)) + ((B (f + 5)).toInt - 96)) := by
  have e := hW_5 (B := B) (f := f) (fun j hj => hl j (by omega))
  have b0 := hl 0 (by decide)
  have b1 := hl 1 (by decide)
  have b2 := hl 2 (by decide)
  have b3 := hl 3 (by decide)
  have b4 := hl 4 (by decide)
  have b5 := hl 5 (by decide)
  simp only [smB, k_le, li_97, li_122] at b0 b1 b2 b3 b4 b5
  have e1 : (hWd B f 5 * 32).toInt = (32 * (32 * (32 * (32 * (32 * 0 + ((B (f + 0)).toInt - 96)) + ((B (f + 1)).toInt - 96)) + ((B (f + 2)).toInt - 96)) + ((B (f + 3)).toInt - 96)) + ((B (f + 4)).toInt - 96)) * 32 := by rw [k_mulL (by rw [e, lj_32]; omega), e, lj_32]
  have e2 : (hWd B f 5 * 32 + (B (f + 5)).toInt64).toInt = (32 * (32 * (32 * (32 * (32 * 0 + ((B (f + 0)).toInt - 96)) + ((B (f + 1)).toInt - 96)) + ((B (f + 2)).toInt - 96)) + ((B (f + 3)).toInt - 96)) + ((B (f + 4)).toInt - 96)) * 32 + (B (f + 5)).toInt := by rw [k_addL (by rw [e1, k_il]; omega), e1, k_il]
  show (if 5 < 6 then hWd B f 5 * 32 + (B (f + 5)).toInt64 - 96 else -1 : Int64).toInt = _
  rw [if_pos (by decide), k_subL (by rw [e2, lj_96]; omega), e2, lj_96]
  omega
theorem hx_0 : (wNM (wNM (wNM (w2M 112 97) 114) 116) 0).toInt = 525908 := by decide +kernel
theorem wd_0 {B : Nat → Int32} {f n : Nat} (hn : 1 ≤ n) (hl : ∀ j, j < n → smB (B (f + j))) : hWd B f n = wNM (wNM (wNM (w2M 112 97) 114) 116) 0 ↔ (n = 4 ∧ ∀ k, k < 4 → B (f + k) = (kByt.getD 0 []).getD k 0) := by
  rw [k_eqL, hx_0]
  rcases (show n = 1 ∨ n = 2 ∨ n = 3 ∨ n = 4 ∨ n = 5 ∨ n = 6 ∨ 7 ≤ n by omega) with rfl | rfl | rfl | rfl | rfl | rfl | h7
  · rw [hW_1 hl]
    have b0 := hl 0 (by decide)
    simp only [smB, k_le, li_97, li_122] at b0
    exact ⟨fun q => by exfalso; omega, fun q => absurd q.1 (by decide)⟩
  · rw [hW_2 hl]
    have b0 := hl 0 (by decide)
    have b1 := hl 1 (by decide)
    simp only [smB, k_le, li_97, li_122] at b0 b1
    exact ⟨fun q => by exfalso; omega, fun q => absurd q.1 (by decide)⟩
  · rw [hW_3 hl]
    have b0 := hl 0 (by decide)
    have b1 := hl 1 (by decide)
    have b2 := hl 2 (by decide)
    simp only [smB, k_le, li_97, li_122] at b0 b1 b2
    exact ⟨fun q => by exfalso; omega, fun q => absurd q.1 (by decide)⟩
  · rw [hW_4 hl]
    have b0 := hl 0 (by decide)
    have b1 := hl 1 (by decide)
    have b2 := hl 2 (by decide)
    have b3 := hl 3 (by decide)
    simp only [smB, k_le, li_97, li_122] at b0 b1 b2 b3
    refine ⟨fun q => ⟨rfl, fun k hk => ?_⟩, fun q => ?_⟩
    · rw [k_eq]
      rcases (show k = 0 ∨ k = 1 ∨ k = 2 ∨ k = 3 by omega) with rfl | rfl | rfl | rfl
      · show (B (f + 0)).toInt = 112
        omega
      · show (B (f + 1)).toInt = 97
        omega
      · show (B (f + 2)).toInt = 114
        omega
      · show (B (f + 3)).toInt = 116
        omega
    · obtain ⟨-, q⟩ := q
      have c0 : (B (f + 0)).toInt = 112 := by rw [q 0 (by decide)]; decide
      have c1 : (B (f + 1)).toInt = 97 := by rw [q 1 (by decide)]; decide
      have c2 : (B (f + 2)).toInt = 114 := by rw [q 2 (by decide)]; decide
      have c3 : (B (f + 3)).toInt = 116 := by rw [q 3 (by decide)]; decide
      omega
  · rw [hW_5 hl]
    have b0 := hl 0 (by decide)
    have b1 := hl 1 (by decide)
    have b2 := hl 2 (by decide)
    have b3 := hl 3 (by decide)
    have b4 := hl 4 (by decide)
    simp only [smB, k_le, li_97, li_122] at b0 b1 b2 b3 b4
    exact ⟨fun q => by exfalso; omega, fun q => absurd q.1 (by decide)⟩
  · rw [hW_6 hl]
    have b0 := hl 0 (by decide)
    have b1 := hl 1 (by decide)
    have b2 := hl 2 (by decide)
    have b3 := hl 3 (by decide)
    have b4 := hl 4 (by decide)
    have b5 := hl 5 (by decide)
    simp only [smB, k_le, li_97, li_122] at b0 b1 b2 b3 b4 b5
    exact ⟨fun q => by exfalso; omega, fun q => absurd q.1 (by decide)⟩
  · rw [hWd_7 h7, lj_m1]
    exact ⟨fun q => absurd q (by decide), fun q => by have := q.1; omega⟩
theorem hx_1 : (wNM (wNM (wNM (w2M 111 102) 0) 0) 0).toInt = 486 := by decide +kernel
theorem wd_1 {B : Nat → Int32} {f n : Nat} (hn : 1 ≤ n) (hl : ∀ j, j < n → smB (B (f + j))) : hWd B f n = wNM (wNM (wNM (w2M 111 102) 0) 0) 0 ↔ (n = 2 ∧ ∀ k, k < 2 → B (f + k) = (kByt.getD 1 []).getD k 0) := by
  rw [k_eqL, hx_1]
  rcases (show n = 1 ∨ n = 2 ∨ n = 3 ∨ n = 4 ∨ n = 5 ∨ n = 6 ∨ 7 ≤ n by omega) with rfl | rfl | rfl | rfl | rfl | rfl | h7
  · rw [hW_1 hl]
    have b0 := hl 0 (by decide)
    simp only [smB, k_le, li_97, li_122] at b0
    exact ⟨fun q => by exfalso; omega, fun q => absurd q.1 (by decide)⟩
  · rw [hW_2 hl]
    have b0 := hl 0 (by decide)
    have b1 := hl 1 (by decide)
    simp only [smB, k_le, li_97, li_122] at b0 b1
    refine ⟨fun q => ⟨rfl, fun k hk => ?_⟩, fun q => ?_⟩
    · rw [k_eq]
      rcases (show k = 0 ∨ k = 1 by omega) with rfl | rfl
      · show (B (f + 0)).toInt = 111
        omega
      · show (B (f + 1)).toInt = 102
        omega
    · obtain ⟨-, q⟩ := q
      have c0 : (B (f + 0)).toInt = 111 := by rw [q 0 (by decide)]; decide
      have c1 : (B (f + 1)).toInt = 102 := by rw [q 1 (by decide)]; decide
      omega
  · rw [hW_3 hl]
    have b0 := hl 0 (by decide)
    have b1 := hl 1 (by decide)
    have b2 := hl 2 (by decide)
    simp only [smB, k_le, li_97, li_122] at b0 b1 b2
    exact ⟨fun q => by exfalso; omega, fun q => absurd q.1 (by decide)⟩
  · rw [hW_4 hl]
    have b0 := hl 0 (by decide)
    have b1 := hl 1 (by decide)
    have b2 := hl 2 (by decide)
    have b3 := hl 3 (by decide)
    simp only [smB, k_le, li_97, li_122] at b0 b1 b2 b3
    exact ⟨fun q => by exfalso; omega, fun q => absurd q.1 (by decide)⟩
  · rw [hW_5 hl]
    have b0 := hl 0 (by decide)
    have b1 := hl 1 (by decide)
    have b2 := hl 2 (by decide)
    have b3 := hl 3 (by decide)
    have b4 := hl 4 (by decide)
    simp only [smB, k_le, li_97, li_122] at b0 b1 b2 b3 b4
    exact ⟨fun q => by exfalso; omega, fun q => absurd q.1 (by decide)⟩
  · rw [hW_6 hl]
    have b0 := hl 0 (by decide)
    have b1 := hl 1 (by decide)
    have b2 := hl 2 (by decide)
    have b3 := hl 3 (by decide)
    have b4 := hl 4 (by decide)
    have b5 := hl 5 (by decide)
    simp only [smB, k_le, li_97, li_122] at b0 b1 b2 b3 b4 b5
    exact ⟨fun q => by exfalso; omega, fun q => absurd q.1 (by decide)⟩
  · rw [hWd_7 h7, lj_m1]
    exact ⟨fun q => absurd q (by decide), fun q => by have := q.1; omega⟩
theorem hx_2 : (wNM (wNM (wNM (w2M 118 105) 110) 101) 115).toInt = 23378099 := by decide +kernel
theorem wd_2 {B : Nat → Int32} {f n : Nat} (hn : 1 ≤ n) (hl : ∀ j, j < n → smB (B (f + j))) : hWd B f n = wNM (wNM (wNM (w2M 118 105) 110) 101) 115 ↔ (n = 5 ∧ ∀ k, k < 5 → B (f + k) = (kByt.getD 2 []).getD k 0) := by
  rw [k_eqL, hx_2]
  rcases (show n = 1 ∨ n = 2 ∨ n = 3 ∨ n = 4 ∨ n = 5 ∨ n = 6 ∨ 7 ≤ n by omega) with rfl | rfl | rfl | rfl | rfl | rfl | h7
  · rw [hW_1 hl]
    have b0 := hl 0 (by decide)
    simp only [smB, k_le, li_97, li_122] at b0
    exact ⟨fun q => by exfalso; omega, fun q => absurd q.1 (by decide)⟩
  · rw [hW_2 hl]
    have b0 := hl 0 (by decide)
    have b1 := hl 1 (by decide)
    simp only [smB, k_le, li_97, li_122] at b0 b1
    exact ⟨fun q => by exfalso; omega, fun q => absurd q.1 (by decide)⟩
  · rw [hW_3 hl]
    have b0 := hl 0 (by decide)
    have b1 := hl 1 (by decide)
    have b2 := hl 2 (by decide)
    simp only [smB, k_le, li_97, li_122] at b0 b1 b2
    exact ⟨fun q => by exfalso; omega, fun q => absurd q.1 (by decide)⟩
  · rw [hW_4 hl]
    have b0 := hl 0 (by decide)
    have b1 := hl 1 (by decide)
    have b2 := hl 2 (by decide)
    have b3 := hl 3 (by decide)
    simp only [smB, k_le, li_97, li_122] at b0 b1 b2 b3
    exact ⟨fun q => by exfalso; omega, fun q => absurd q.1 (by decide)⟩
  · rw [hW_5 hl]
    have b0 := hl 0 (by decide)
    have b1 := hl 1 (by decide)
    have b2 := hl 2 (by decide)
    have b3 := hl 3 (by decide)
    have b4 := hl 4 (by decide)
    simp only [smB, k_le, li_97, li_122] at b0 b1 b2 b3 b4
    refine ⟨fun q => ⟨rfl, fun k hk => ?_⟩, fun q => ?_⟩
    · rw [k_eq]
      rcases (show k = 0 ∨ k = 1 ∨ k = 2 ∨ k = 3 ∨ k = 4 by omega) with rfl | rfl | rfl | rfl | rfl
      · show (B (f + 0)).toInt = 118
        omega
      · show (B (f + 1)).toInt = 105
        omega
      · show (B (f + 2)).toInt = 110
        omega
      · show (B (f + 3)).toInt = 101
        omega
      · show (B (f + 4)).toInt = 115
        omega
    · obtain ⟨-, q⟩ := q
      have c0 : (B (f + 0)).toInt = 118 := by rw [q 0 (by decide)]; decide
      have c1 : (B (f + 1)).toInt = 105 := by rw [q 1 (by decide)]; decide
      have c2 : (B (f + 2)).toInt = 110 := by rw [q 2 (by decide)]; decide
      have c3 : (B (f + 3)).toInt = 101 := by rw [q 3 (by decide)]; decide
      have c4 : (B (f + 4)).toInt = 115 := by rw [q 4 (by decide)]; decide
      omega
  · rw [hW_6 hl]
    have b0 := hl 0 (by decide)
    have b1 := hl 1 (by decide)
    have b2 := hl 2 (by decide)
    have b3 := hl 3 (by decide)
    have b4 := hl 4 (by decide)
    have b5 := hl 5 (by decide)
    simp only [smB, k_le, li_97, li_122] at b0 b1 b2 b3 b4 b5
    exact ⟨fun q => by exfalso; omega, fun q => absurd q.1 (by decide)⟩
  · rw [hWd_7 h7, lj_m1]
    exact ⟨fun q => absurd q (by decide), fun q => by have := q.1; omega⟩
theorem hx_3 : (wNM (wNM (wNM (w2M 101 97) 99) 104) 0).toInt = 164968 := by decide +kernel
theorem wd_3 {B : Nat → Int32} {f n : Nat} (hn : 1 ≤ n) (hl : ∀ j, j < n → smB (B (f + j))) : hWd B f n = wNM (wNM (wNM (w2M 101 97) 99) 104) 0 ↔ (n = 4 ∧ ∀ k, k < 4 → B (f + k) = (kByt.getD 3 []).getD k 0) := by
  rw [k_eqL, hx_3]
  rcases (show n = 1 ∨ n = 2 ∨ n = 3 ∨ n = 4 ∨ n = 5 ∨ n = 6 ∨ 7 ≤ n by omega) with rfl | rfl | rfl | rfl | rfl | rfl | h7
  · rw [hW_1 hl]
    have b0 := hl 0 (by decide)
    simp only [smB, k_le, li_97, li_122] at b0
    exact ⟨fun q => by exfalso; omega, fun q => absurd q.1 (by decide)⟩
  · rw [hW_2 hl]
    have b0 := hl 0 (by decide)
    have b1 := hl 1 (by decide)
    simp only [smB, k_le, li_97, li_122] at b0 b1
    exact ⟨fun q => by exfalso; omega, fun q => absurd q.1 (by decide)⟩
  · rw [hW_3 hl]
    have b0 := hl 0 (by decide)
    have b1 := hl 1 (by decide)
    have b2 := hl 2 (by decide)
    simp only [smB, k_le, li_97, li_122] at b0 b1 b2
    exact ⟨fun q => by exfalso; omega, fun q => absurd q.1 (by decide)⟩
  · rw [hW_4 hl]
    have b0 := hl 0 (by decide)
    have b1 := hl 1 (by decide)
    have b2 := hl 2 (by decide)
    have b3 := hl 3 (by decide)
    simp only [smB, k_le, li_97, li_122] at b0 b1 b2 b3
    refine ⟨fun q => ⟨rfl, fun k hk => ?_⟩, fun q => ?_⟩
    · rw [k_eq]
      rcases (show k = 0 ∨ k = 1 ∨ k = 2 ∨ k = 3 by omega) with rfl | rfl | rfl | rfl
      · show (B (f + 0)).toInt = 101
        omega
      · show (B (f + 1)).toInt = 97
        omega
      · show (B (f + 2)).toInt = 99
        omega
      · show (B (f + 3)).toInt = 104
        omega
    · obtain ⟨-, q⟩ := q
      have c0 : (B (f + 0)).toInt = 101 := by rw [q 0 (by decide)]; decide
      have c1 : (B (f + 1)).toInt = 97 := by rw [q 1 (by decide)]; decide
      have c2 : (B (f + 2)).toInt = 99 := by rw [q 2 (by decide)]; decide
      have c3 : (B (f + 3)).toInt = 104 := by rw [q 3 (by decide)]; decide
      omega
  · rw [hW_5 hl]
    have b0 := hl 0 (by decide)
    have b1 := hl 1 (by decide)
    have b2 := hl 2 (by decide)
    have b3 := hl 3 (by decide)
    have b4 := hl 4 (by decide)
    simp only [smB, k_le, li_97, li_122] at b0 b1 b2 b3 b4
    exact ⟨fun q => by exfalso; omega, fun q => absurd q.1 (by decide)⟩
  · rw [hW_6 hl]
    have b0 := hl 0 (by decide)
    have b1 := hl 1 (by decide)
    have b2 := hl 2 (by decide)
    have b3 := hl 3 (by decide)
    have b4 := hl 4 (by decide)
    have b5 := hl 5 (by decide)
    simp only [smB, k_le, li_97, li_122] at b0 b1 b2 b3 b4 b5
    exact ⟨fun q => by exfalso; omega, fun q => absurd q.1 (by decide)⟩
  · rw [hWd_7 h7, lj_m1]
    exact ⟨fun q => absurd q (by decide), fun q => by have := q.1; omega⟩
theorem hx_4 : (wNM (wNM (wNM (w2M 102 114) 111) 109) 0).toInt = 215533 := by decide +kernel
theorem wd_4 {B : Nat → Int32} {f n : Nat} (hn : 1 ≤ n) (hl : ∀ j, j < n → smB (B (f + j))) : hWd B f n = wNM (wNM (wNM (w2M 102 114) 111) 109) 0 ↔ (n = 4 ∧ ∀ k, k < 4 → B (f + k) = (kByt.getD 4 []).getD k 0) := by
  rw [k_eqL, hx_4]
  rcases (show n = 1 ∨ n = 2 ∨ n = 3 ∨ n = 4 ∨ n = 5 ∨ n = 6 ∨ 7 ≤ n by omega) with rfl | rfl | rfl | rfl | rfl | rfl | h7
  · rw [hW_1 hl]
    have b0 := hl 0 (by decide)
    simp only [smB, k_le, li_97, li_122] at b0
    exact ⟨fun q => by exfalso; omega, fun q => absurd q.1 (by decide)⟩
  · rw [hW_2 hl]
    have b0 := hl 0 (by decide)
    have b1 := hl 1 (by decide)
    simp only [smB, k_le, li_97, li_122] at b0 b1
    exact ⟨fun q => by exfalso; omega, fun q => absurd q.1 (by decide)⟩
  · rw [hW_3 hl]
    have b0 := hl 0 (by decide)
    have b1 := hl 1 (by decide)
    have b2 := hl 2 (by decide)
    simp only [smB, k_le, li_97, li_122] at b0 b1 b2
    exact ⟨fun q => by exfalso; omega, fun q => absurd q.1 (by decide)⟩
  · rw [hW_4 hl]
    have b0 := hl 0 (by decide)
    have b1 := hl 1 (by decide)
    have b2 := hl 2 (by decide)
    have b3 := hl 3 (by decide)
    simp only [smB, k_le, li_97, li_122] at b0 b1 b2 b3
    refine ⟨fun q => ⟨rfl, fun k hk => ?_⟩, fun q => ?_⟩
    · rw [k_eq]
      rcases (show k = 0 ∨ k = 1 ∨ k = 2 ∨ k = 3 by omega) with rfl | rfl | rfl | rfl
      · show (B (f + 0)).toInt = 102
        omega
      · show (B (f + 1)).toInt = 114
        omega
      · show (B (f + 2)).toInt = 111
        omega
      · show (B (f + 3)).toInt = 109
        omega
    · obtain ⟨-, q⟩ := q
      have c0 : (B (f + 0)).toInt = 102 := by rw [q 0 (by decide)]; decide
      have c1 : (B (f + 1)).toInt = 114 := by rw [q 1 (by decide)]; decide
      have c2 : (B (f + 2)).toInt = 111 := by rw [q 2 (by decide)]; decide
      have c3 : (B (f + 3)).toInt = 109 := by rw [q 3 (by decide)]; decide
      omega
  · rw [hW_5 hl]
    have b0 := hl 0 (by decide)
    have b1 := hl 1 (by decide)
    have b2 := hl 2 (by decide)
    have b3 := hl 3 (by decide)
    have b4 := hl 4 (by decide)
    simp only [smB, k_le, li_97, li_122] at b0 b1 b2 b3 b4
    exact ⟨fun q => by exfalso; omega, fun q => absurd q.1 (by decide)⟩
  · rw [hW_6 hl]
    have b0 := hl 0 (by decide)
    have b1 := hl 1 (by decide)
    have b2 := hl 2 (by decide)
    have b3 := hl 3 (by decide)
    have b4 := hl 4 (by decide)
    have b5 := hl 5 (by decide)
    simp only [smB, k_le, li_97, li_122] at b0 b1 b2 b3 b4 b5
    exact ⟨fun q => by exfalso; omega, fun q => absurd q.1 (by decide)⟩
  · rw [hWd_7 h7, lj_m1]
    exact ⟨fun q => absurd q (by decide), fun q => by have := q.1; omega⟩
theorem hx_5 : (wNM (wNM (wNM (w2M 102 114) 101) 101) 0).toInt = 215205 := by decide +kernel
theorem wd_5 {B : Nat → Int32} {f n : Nat} (hn : 1 ≤ n) (hl : ∀ j, j < n → smB (B (f + j))) : hWd B f n = wNM (wNM (wNM (w2M 102 114) 101) 101) 0 ↔ (n = 4 ∧ ∀ k, k < 4 → B (f + k) = (kByt.getD 5 []).getD k 0) := by
  rw [k_eqL, hx_5]
  rcases (show n = 1 ∨ n = 2 ∨ n = 3 ∨ n = 4 ∨ n = 5 ∨ n = 6 ∨ 7 ≤ n by omega) with rfl | rfl | rfl | rfl | rfl | rfl | h7
  · rw [hW_1 hl]
    have b0 := hl 0 (by decide)
    simp only [smB, k_le, li_97, li_122] at b0
    exact ⟨fun q => by exfalso; omega, fun q => absurd q.1 (by decide)⟩
  · rw [hW_2 hl]
    have b0 := hl 0 (by decide)
    have b1 := hl 1 (by decide)
    simp only [smB, k_le, li_97, li_122] at b0 b1
    exact ⟨fun q => by exfalso; omega, fun q => absurd q.1 (by decide)⟩
  · rw [hW_3 hl]
    have b0 := hl 0 (by decide)
    have b1 := hl 1 (by decide)
    have b2 := hl 2 (by decide)
    simp only [smB, k_le, li_97, li_122] at b0 b1 b2
    exact ⟨fun q => by exfalso; omega, fun q => absurd q.1 (by decide)⟩
  · rw [hW_4 hl]
    have b0 := hl 0 (by decide)
    have b1 := hl 1 (by decide)
    have b2 := hl 2 (by decide)
    have b3 := hl 3 (by decide)
    simp only [smB, k_le, li_97, li_122] at b0 b1 b2 b3
    refine ⟨fun q => ⟨rfl, fun k hk => ?_⟩, fun q => ?_⟩
    · rw [k_eq]
      rcases (show k = 0 ∨ k = 1 ∨ k = 2 ∨ k = 3 by omega) with rfl | rfl | rfl | rfl
      · show (B (f + 0)).toInt = 102
        omega
      · show (B (f + 1)).toInt = 114
        omega
      · show (B (f + 2)).toInt = 101
        omega
      · show (B (f + 3)).toInt = 101
        omega
    · obtain ⟨-, q⟩ := q
      have c0 : (B (f + 0)).toInt = 102 := by rw [q 0 (by decide)]; decide
      have c1 : (B (f + 1)).toInt = 114 := by rw [q 1 (by decide)]; decide
      have c2 : (B (f + 2)).toInt = 101 := by rw [q 2 (by decide)]; decide
      have c3 : (B (f + 3)).toInt = 101 := by rw [q 3 (by decide)]; decide
      omega
  · rw [hW_5 hl]
    have b0 := hl 0 (by decide)
    have b1 := hl 1 (by decide)
    have b2 := hl 2 (by decide)
    have b3 := hl 3 (by decide)
    have b4 := hl 4 (by decide)
    simp only [smB, k_le, li_97, li_122] at b0 b1 b2 b3 b4
    exact ⟨fun q => by exfalso; omega, fun q => absurd q.1 (by decide)⟩
  · rw [hW_6 hl]
    have b0 := hl 0 (by decide)
    have b1 := hl 1 (by decide)
    have b2 := hl 2 (by decide)
    have b3 := hl 3 (by decide)
    have b4 := hl 4 (by decide)
    have b5 := hl 5 (by decide)
    simp only [smB, k_le, li_97, li_122] at b0 b1 b2 b3 b4 b5
    exact ⟨fun q => by exfalso; omega, fun q => absurd q.1 (by decide)⟩
  · rw [hWd_7 h7, lj_m1]
    exact ⟨fun q => absurd q (by decide), fun q => by have := q.1; omega⟩
theorem hx_6 : (wNM (wNM (wNM (w2M 109 111) 115) 116) 0).toInt = 441972 := by decide +kernel
theorem wd_6 {B : Nat → Int32} {f n : Nat} (hn : 1 ≤ n) (hl : ∀ j, j < n → smB (B (f + j))) : hWd B f n = wNM (wNM (wNM (w2M 109 111) 115) 116) 0 ↔ (n = 4 ∧ ∀ k, k < 4 → B (f + k) = (kByt.getD 6 []).getD k 0) := by
  rw [k_eqL, hx_6]
  rcases (show n = 1 ∨ n = 2 ∨ n = 3 ∨ n = 4 ∨ n = 5 ∨ n = 6 ∨ 7 ≤ n by omega) with rfl | rfl | rfl | rfl | rfl | rfl | h7
  · rw [hW_1 hl]
    have b0 := hl 0 (by decide)
    simp only [smB, k_le, li_97, li_122] at b0
    exact ⟨fun q => by exfalso; omega, fun q => absurd q.1 (by decide)⟩
  · rw [hW_2 hl]
    have b0 := hl 0 (by decide)
    have b1 := hl 1 (by decide)
    simp only [smB, k_le, li_97, li_122] at b0 b1
    exact ⟨fun q => by exfalso; omega, fun q => absurd q.1 (by decide)⟩
  · rw [hW_3 hl]
    have b0 := hl 0 (by decide)
    have b1 := hl 1 (by decide)
    have b2 := hl 2 (by decide)
    simp only [smB, k_le, li_97, li_122] at b0 b1 b2
    exact ⟨fun q => by exfalso; omega, fun q => absurd q.1 (by decide)⟩
  · rw [hW_4 hl]
    have b0 := hl 0 (by decide)
    have b1 := hl 1 (by decide)
    have b2 := hl 2 (by decide)
    have b3 := hl 3 (by decide)
    simp only [smB, k_le, li_97, li_122] at b0 b1 b2 b3
    refine ⟨fun q => ⟨rfl, fun k hk => ?_⟩, fun q => ?_⟩
    · rw [k_eq]
      rcases (show k = 0 ∨ k = 1 ∨ k = 2 ∨ k = 3 by omega) with rfl | rfl | rfl | rfl
      · show (B (f + 0)).toInt = 109
        omega
      · show (B (f + 1)).toInt = 111
        omega
      · show (B (f + 2)).toInt = 115
        omega
      · show (B (f + 3)).toInt = 116
        omega
    · obtain ⟨-, q⟩ := q
      have c0 : (B (f + 0)).toInt = 109 := by rw [q 0 (by decide)]; decide
      have c1 : (B (f + 1)).toInt = 111 := by rw [q 1 (by decide)]; decide
      have c2 : (B (f + 2)).toInt = 115 := by rw [q 2 (by decide)]; decide
      have c3 : (B (f + 3)).toInt = 116 := by rw [q 3 (by decide)]; decide
      omega
  · rw [hW_5 hl]
    have b0 := hl 0 (by decide)
    have b1 := hl 1 (by decide)
    have b2 := hl 2 (by decide)
    have b3 := hl 3 (by decide)
    have b4 := hl 4 (by decide)
    simp only [smB, k_le, li_97, li_122] at b0 b1 b2 b3 b4
    exact ⟨fun q => by exfalso; omega, fun q => absurd q.1 (by decide)⟩
  · rw [hW_6 hl]
    have b0 := hl 0 (by decide)
    have b1 := hl 1 (by decide)
    have b2 := hl 2 (by decide)
    have b3 := hl 3 (by decide)
    have b4 := hl 4 (by decide)
    have b5 := hl 5 (by decide)
    simp only [smB, k_le, li_97, li_122] at b0 b1 b2 b3 b4 b5
    exact ⟨fun q => by exfalso; omega, fun q => absurd q.1 (by decide)⟩
  · rw [hWd_7 h7, lj_m1]
    exact ⟨fun q => absurd q (by decide), fun q => by have := q.1; omega⟩
theorem dg_fNm {B : Nat → Int32} {μ : kH} {f : Nat} : ∀ n, (∀ j, j < n → dgB (B (f + j)) ∧ k_byte μ (nI (f + j)) = B (f + j)) → ((hDg B f n).toInt = (fNm μ f n).toInt ∧ 0 ≤ (fNm μ f n).toInt ∧ (fNm μ f n).toInt ≤ 10000) ∨ (10000 < (hDg B f n).toInt ∧ fNm μ f n = 10001) := by
  intro n
  induction n with
  | zero => intro _; exact Or.inl ⟨by show (0 : Int64).toInt = (0 : Int32).toInt; decide, by show 0 ≤ (0 : Int32).toInt; decide, by show (0 : Int32).toInt ≤ 10000; decide⟩
  | succ n ih =>
    intro hj
    obtain ⟨b, eb⟩ := hj n (by omega)
    have ih := ih (fun j h0 => hj j (by omega))
    simp only [dgB, k_le, li_48, li_57] at b
    rw [hDg, fNm, eb]
    generalize hDg B f n = H at *
    generalize fNm μ f n = F at *
    rcases ih with ⟨i1, i2, i3⟩ | ⟨i1, i2⟩
    · have hneg : ¬ (10000 : Int64) < H := fun z => by rw [k_ltL, lj_10000] at z; omega
      rw [if_neg hneg]
      have e1 : (H * 10).toInt = F.toInt * 10 := by rw [k_mulL (by rw [i1, lj_10]; omega), i1, lj_10]
      have e2 : (H * 10 + (B (f + n)).toInt64).toInt = F.toInt * 10 + (B (f + n)).toInt := by rw [k_addL (by rw [e1, k_il]; omega), e1, k_il]
      have e48 : (48 : Int64).toInt = 48 := by decide
      have e3 : (H * 10 + (B (f + n)).toInt64 - 48).toInt = F.toInt * 10 + (B (f + n)).toInt - 48 := by rw [k_subL (by rw [e2, e48]; omega), e2, e48]
      have g1 : (F * 10).toInt = F.toInt * 10 := by rw [k_mul (by rw [li_10]; omega), li_10]
      have g2 : (F * 10 + B (f + n)).toInt = F.toInt * 10 + (B (f + n)).toInt := by rw [k_add (by rw [g1]; omega), g1]
      have g3 : (F * 10 + B (f + n) - 48).toInt = F.toInt * 10 + (B (f + n)).toInt - 48 := by rw [k_sub (by rw [g2, li_48]; omega), g2, li_48]
      by_cases z : (10001 : Int32) < F * 10 + B (f + n) - 48
      · rw [if_pos z]
        rw [k_lt, li_10001, g3] at z
        exact Or.inr ⟨by rw [e3]; omega, rfl⟩
      · rw [if_neg z]
        rw [k_lt, li_10001, g3] at z
        rw [e3, g3, k_eq, g3, li_10001]
        omega
    · rw [if_pos (by rw [k_ltL, lj_10000]; omega)]
      refine Or.inr ⟨i1, ?_⟩
      have g1 : (F * 10).toInt = 100010 := by rw [i2]; decide
      have g2 : (F * 10 + B (f + n)).toInt = 100010 + (B (f + n)).toInt := by rw [k_add (by rw [g1]; omega), g1]
      have g3 : (F * 10 + B (f + n) - 48).toInt = 100010 + (B (f + n)).toInt - 48 := by rw [k_sub (by rw [g2, li_48]; omega), g2, li_48]
      rw [if_pos (by rw [k_lt, li_10001, g3]; omega)]
theorem kb_at {β : kH} {L p : Nat} (hL : L ≤ 200) (h14 : β.1 14 1 = nI L) (hp : p < L) : k_byte β (nI p) = β.1 15 p := by
  have e1 := nI_toInt (n := p) (by omega)
  have e2 := nI_toInt (n := L) (by omega)
  unfold k_byte
  rw [if_pos ⟨by rw [k_le, li_0, e1]; omega, by rw [h14, k_lt, e1, e2]; omega⟩, nI_clamp (by omega)]
/-- both tapes the same, cut alike -/
def LX (β : kH) (B : Nat → Int32) (L T : Nat) (sN eN : Nat → Nat) : Prop := L ≤ 200 ∧ β.1 14 1 = nI L ∧ (∀ j, j < L → β.1 15 j = B j) ∧ TK B L T sN eN ∧ ∀ t, t < T → β.1 29 t = k_kind (B (sN t))
theorem LX_b {β : kH} {B : Nat → Int32} {L T : Nat} {sN eN : Nat → Nat} (X : LX β B L T sN eN) {p : Nat} (hp : p < L) : k_byte β (nI p) = B p := by
  rw [kb_at X.1 X.2.1 hp]; exact X.2.2.1 p hp
theorem sM_1 {B : Nat → Int32} {T t : Nat} {sN : Nat → Nat} : sM B T sN t = 1 ↔ t < T ∧ smB (B (sN t)) := by
  unfold sM
  by_cases z : t < T
  · rw [if_pos z]
    by_cases z1 : smB (B (sN t))
    · rw [if_pos z1]; exact ⟨fun _ => ⟨z, z1⟩, fun _ => rfl⟩
    · rw [if_neg z1]
      by_cases z2 : dgB (B (sN t))
      · rw [if_pos z2]; exact ⟨fun w => absurd w (by decide), fun w => absurd w.2 z1⟩
      · rw [if_neg z2]; exact ⟨fun w => absurd w (by decide), fun w => absurd w.2 z1⟩
  · rw [if_neg z]; exact ⟨fun w => absurd w (by decide), fun w => absurd w.1 z⟩
theorem sM_2 {B : Nat → Int32} {T t : Nat} {sN : Nat → Nat} : sM B T sN t = 2 ↔ t < T ∧ dgB (B (sN t)) := by
  unfold sM
  by_cases z : t < T
  · rw [if_pos z]
    by_cases z1 : smB (B (sN t))
    · rw [if_pos z1]; exact ⟨fun w => absurd w (by decide), fun w => by have w2 := w.2; simp only [smB, dgB, k_le, li_97, li_122, li_48, li_57] at z1 w2; omega⟩
    · rw [if_neg z1]
      by_cases z2 : dgB (B (sN t))
      · rw [if_pos z2]; exact ⟨fun _ => ⟨z, z2⟩, fun _ => rfl⟩
      · rw [if_neg z2]; exact ⟨fun w => absurd w (by decide), fun w => absurd w.2 z2⟩
  · rw [if_neg z]; exact ⟨fun w => absurd w (by decide), fun w => absurd w.1 z⟩
theorem sM_3 {B : Nat → Int32} {T t : Nat} {sN : Nat → Nat} : sM B T sN t = 3 ↔ t < T ∧ ¬ smB (B (sN t)) ∧ ¬ dgB (B (sN t)) := by
  unfold sM
  by_cases z : t < T
  · rw [if_pos z]
    by_cases z1 : smB (B (sN t))
    · rw [if_pos z1]; exact ⟨fun w => absurd w (by decide), fun w => absurd z1 w.2.1⟩
    · rw [if_neg z1]
      by_cases z2 : dgB (B (sN t))
      · rw [if_pos z2]; exact ⟨fun w => absurd w (by decide), fun w => absurd z2 w.2.2⟩
      · rw [if_neg z2]; exact ⟨fun _ => ⟨z, z1, z2⟩, fun _ => rfl⟩
  · rw [if_neg z]; exact ⟨fun w => absurd w (by decide), fun w => absurd w.1 z⟩
theorem sM_0 {B : Nat → Int32} {T t : Nat} {sN : Nat → Nat} : sM B T sN t = 0 ↔ ¬ t < T := by
  unfold sM
  by_cases z : t < T
  · rw [if_pos z]; (repeat' split) <;> exact ⟨fun w => absurd w (by decide), fun w => absurd z w⟩
  · rw [if_neg z]; exact ⟨fun _ => z, fun _ => rfl⟩
theorem lexW_0 {β : kH} {B : Nat → Int32} {L T : Nat} {sN eN : Nat → Nat} (X : LX β B L T sN eN) (t : Nat) : wX β T sN eN 0 t ↔ (sM B T sN t = 1 ∧ vM B T sN eN t = wNM (wNM (wNM (w2M 112 97) 114) 116) 0) := by
  rw [sM_1]
  unfold wX mtX
  by_cases z : t < T
  · obtain ⟨a1, a2, a3, a4, a5, a6⟩ := X.2.2.2.1.1 t z
    have ek : kLen.getD 0 0 = 4 := rfl
    rw [ek]
    by_cases z1 : smB (B (sN t))
    · have ev : vM B T sN eN t = hWd B (sN t) (eN t - sN t) := by unfold vM; rw [if_pos z, if_pos z1]
      have hl : ∀ j, j < eN t - sN t → smB (B (sN t + j)) := fun j hj => by
        rcases a6 with ⟨-, b2, -⟩ | ⟨b1, -⟩ | ⟨b1, -⟩
        · exact b2 _ (by omega) (by omega)
        · exact absurd z1 b1
        · exact absurd z1 b1
      rw [ev, wd_0 (by omega) hl]
      refine ⟨fun q => ⟨⟨z, z1⟩, q.2.1, fun k hk => ?_⟩, fun q => ⟨z, q.2.1, fun k hk => ?_⟩⟩
      · rw [← LX_b X (show sN t + k < L by have := q.2.1; omega)]; exact q.2.2 k hk
      · rw [LX_b X (show sN t + k < L by have := q.2.1; omega)]; exact q.2.2 k hk
    · refine ⟨fun q => ?_, fun q => absurd q.1.2 z1⟩
      have q0 := q.2.2 0 (by decide)
      rw [LX_b X (show sN t + 0 < L by omega), Nat.add_zero] at q0
      rw [q0] at z1
      exact absurd (by decide) z1
  · exact ⟨fun q => absurd q.1 z, fun q => absurd q.1.1 z⟩
theorem lexW_1 {β : kH} {B : Nat → Int32} {L T : Nat} {sN eN : Nat → Nat} (X : LX β B L T sN eN) (t : Nat) : wX β T sN eN 1 t ↔ (sM B T sN t = 1 ∧ vM B T sN eN t = wNM (wNM (wNM (w2M 111 102) 0) 0) 0) := by
  rw [sM_1]
  unfold wX mtX
  by_cases z : t < T
  · obtain ⟨a1, a2, a3, a4, a5, a6⟩ := X.2.2.2.1.1 t z
    have ek : kLen.getD 1 0 = 2 := rfl
    rw [ek]
    by_cases z1 : smB (B (sN t))
    · have ev : vM B T sN eN t = hWd B (sN t) (eN t - sN t) := by unfold vM; rw [if_pos z, if_pos z1]
      have hl : ∀ j, j < eN t - sN t → smB (B (sN t + j)) := fun j hj => by
        rcases a6 with ⟨-, b2, -⟩ | ⟨b1, -⟩ | ⟨b1, -⟩
        · exact b2 _ (by omega) (by omega)
        · exact absurd z1 b1
        · exact absurd z1 b1
      rw [ev, wd_1 (by omega) hl]
      refine ⟨fun q => ⟨⟨z, z1⟩, q.2.1, fun k hk => ?_⟩, fun q => ⟨z, q.2.1, fun k hk => ?_⟩⟩
      · rw [← LX_b X (show sN t + k < L by have := q.2.1; omega)]; exact q.2.2 k hk
      · rw [LX_b X (show sN t + k < L by have := q.2.1; omega)]; exact q.2.2 k hk
    · refine ⟨fun q => ?_, fun q => absurd q.1.2 z1⟩
      have q0 := q.2.2 0 (by decide)
      rw [LX_b X (show sN t + 0 < L by omega), Nat.add_zero] at q0
      rw [q0] at z1
      exact absurd (by decide) z1
  · exact ⟨fun q => absurd q.1 z, fun q => absurd q.1.1 z⟩
theorem lexW_2 {β : kH} {B : Nat → Int32} {L T : Nat} {sN eN : Nat → Nat} (X : LX β B L T sN eN) (t : Nat) : wX β T sN eN 2 t ↔ (sM B T sN t = 1 ∧ vM B T sN eN t = wNM (wNM (wNM (w2M 118 105) 110) 101) 115) := by
  rw [sM_1]
  unfold wX mtX
  by_cases z : t < T
  · obtain ⟨a1, a2, a3, a4, a5, a6⟩ := X.2.2.2.1.1 t z
    have ek : kLen.getD 2 0 = 5 := rfl
    rw [ek]
    by_cases z1 : smB (B (sN t))
    · have ev : vM B T sN eN t = hWd B (sN t) (eN t - sN t) := by unfold vM; rw [if_pos z, if_pos z1]
      have hl : ∀ j, j < eN t - sN t → smB (B (sN t + j)) := fun j hj => by
        rcases a6 with ⟨-, b2, -⟩ | ⟨b1, -⟩ | ⟨b1, -⟩
        · exact b2 _ (by omega) (by omega)
        · exact absurd z1 b1
        · exact absurd z1 b1
      rw [ev, wd_2 (by omega) hl]
      refine ⟨fun q => ⟨⟨z, z1⟩, q.2.1, fun k hk => ?_⟩, fun q => ⟨z, q.2.1, fun k hk => ?_⟩⟩
      · rw [← LX_b X (show sN t + k < L by have := q.2.1; omega)]; exact q.2.2 k hk
      · rw [LX_b X (show sN t + k < L by have := q.2.1; omega)]; exact q.2.2 k hk
    · refine ⟨fun q => ?_, fun q => absurd q.1.2 z1⟩
      have q0 := q.2.2 0 (by decide)
      rw [LX_b X (show sN t + 0 < L by omega), Nat.add_zero] at q0
      rw [q0] at z1
      exact absurd (by decide) z1
  · exact ⟨fun q => absurd q.1 z, fun q => absurd q.1.1 z⟩
theorem lexW_3 {β : kH} {B : Nat → Int32} {L T : Nat} {sN eN : Nat → Nat} (X : LX β B L T sN eN) (t : Nat) : wX β T sN eN 3 t ↔ (sM B T sN t = 1 ∧ vM B T sN eN t = wNM (wNM (wNM (w2M 101 97) 99) 104) 0) := by
  rw [sM_1]
  unfold wX mtX
  by_cases z : t < T
  · obtain ⟨a1, a2, a3, a4, a5, a6⟩ := X.2.2.2.1.1 t z
    have ek : kLen.getD 3 0 = 4 := rfl
    rw [ek]
    by_cases z1 : smB (B (sN t))
    · have ev : vM B T sN eN t = hWd B (sN t) (eN t - sN t) := by unfold vM; rw [if_pos z, if_pos z1]
      have hl : ∀ j, j < eN t - sN t → smB (B (sN t + j)) := fun j hj => by
        rcases a6 with ⟨-, b2, -⟩ | ⟨b1, -⟩ | ⟨b1, -⟩
        · exact b2 _ (by omega) (by omega)
        · exact absurd z1 b1
        · exact absurd z1 b1
      rw [ev, wd_3 (by omega) hl]
      refine ⟨fun q => ⟨⟨z, z1⟩, q.2.1, fun k hk => ?_⟩, fun q => ⟨z, q.2.1, fun k hk => ?_⟩⟩
      · rw [← LX_b X (show sN t + k < L by have := q.2.1; omega)]; exact q.2.2 k hk
      · rw [LX_b X (show sN t + k < L by have := q.2.1; omega)]; exact q.2.2 k hk
    · refine ⟨fun q => ?_, fun q => absurd q.1.2 z1⟩
      have q0 := q.2.2 0 (by decide)
      rw [LX_b X (show sN t + 0 < L by omega), Nat.add_zero] at q0
      rw [q0] at z1
      exact absurd (by decide) z1
  · exact ⟨fun q => absurd q.1 z, fun q => absurd q.1.1 z⟩
theorem lexW_4 {β : kH} {B : Nat → Int32} {L T : Nat} {sN eN : Nat → Nat} (X : LX β B L T sN eN) (t : Nat) : wX β T sN eN 4 t ↔ (sM B T sN t = 1 ∧ vM B T sN eN t = wNM (wNM (wNM (w2M 102 114) 111) 109) 0) := by
  rw [sM_1]
  unfold wX mtX
  by_cases z : t < T
  · obtain ⟨a1, a2, a3, a4, a5, a6⟩ := X.2.2.2.1.1 t z
    have ek : kLen.getD 4 0 = 4 := rfl
    rw [ek]
    by_cases z1 : smB (B (sN t))
    · have ev : vM B T sN eN t = hWd B (sN t) (eN t - sN t) := by unfold vM; rw [if_pos z, if_pos z1]
      have hl : ∀ j, j < eN t - sN t → smB (B (sN t + j)) := fun j hj => by
        rcases a6 with ⟨-, b2, -⟩ | ⟨b1, -⟩ | ⟨b1, -⟩
        · exact b2 _ (by omega) (by omega)
        · exact absurd z1 b1
        · exact absurd z1 b1
      rw [ev, wd_4 (by omega) hl]
      refine ⟨fun q => ⟨⟨z, z1⟩, q.2.1, fun k hk => ?_⟩, fun q => ⟨z, q.2.1, fun k hk => ?_⟩⟩
      · rw [← LX_b X (show sN t + k < L by have := q.2.1; omega)]; exact q.2.2 k hk
      · rw [LX_b X (show sN t + k < L by have := q.2.1; omega)]; exact q.2.2 k hk
    · refine ⟨fun q => ?_, fun q => absurd q.1.2 z1⟩
      have q0 := q.2.2 0 (by decide)
      rw [LX_b X (show sN t + 0 < L by omega), Nat.add_zero] at q0
      rw [q0] at z1
      exact absurd (by decide) z1
  · exact ⟨fun q => absurd q.1 z, fun q => absurd q.1.1 z⟩
theorem lexW_5 {β : kH} {B : Nat → Int32} {L T : Nat} {sN eN : Nat → Nat} (X : LX β B L T sN eN) (t : Nat) : wX β T sN eN 5 t ↔ (sM B T sN t = 1 ∧ vM B T sN eN t = wNM (wNM (wNM (w2M 102 114) 101) 101) 0) := by
  rw [sM_1]
  unfold wX mtX
  by_cases z : t < T
  · obtain ⟨a1, a2, a3, a4, a5, a6⟩ := X.2.2.2.1.1 t z
    have ek : kLen.getD 5 0 = 4 := rfl
    rw [ek]
    by_cases z1 : smB (B (sN t))
    · have ev : vM B T sN eN t = hWd B (sN t) (eN t - sN t) := by unfold vM; rw [if_pos z, if_pos z1]
      have hl : ∀ j, j < eN t - sN t → smB (B (sN t + j)) := fun j hj => by
        rcases a6 with ⟨-, b2, -⟩ | ⟨b1, -⟩ | ⟨b1, -⟩
        · exact b2 _ (by omega) (by omega)
        · exact absurd z1 b1
        · exact absurd z1 b1
      rw [ev, wd_5 (by omega) hl]
      refine ⟨fun q => ⟨⟨z, z1⟩, q.2.1, fun k hk => ?_⟩, fun q => ⟨z, q.2.1, fun k hk => ?_⟩⟩
      · rw [← LX_b X (show sN t + k < L by have := q.2.1; omega)]; exact q.2.2 k hk
      · rw [LX_b X (show sN t + k < L by have := q.2.1; omega)]; exact q.2.2 k hk
    · refine ⟨fun q => ?_, fun q => absurd q.1.2 z1⟩
      have q0 := q.2.2 0 (by decide)
      rw [LX_b X (show sN t + 0 < L by omega), Nat.add_zero] at q0
      rw [q0] at z1
      exact absurd (by decide) z1
  · exact ⟨fun q => absurd q.1 z, fun q => absurd q.1.1 z⟩
theorem lexW_6 {β : kH} {B : Nat → Int32} {L T : Nat} {sN eN : Nat → Nat} (X : LX β B L T sN eN) (t : Nat) : wX β T sN eN 6 t ↔ (sM B T sN t = 1 ∧ vM B T sN eN t = wNM (wNM (wNM (w2M 109 111) 115) 116) 0) := by
  rw [sM_1]
  unfold wX mtX
  by_cases z : t < T
  · obtain ⟨a1, a2, a3, a4, a5, a6⟩ := X.2.2.2.1.1 t z
    have ek : kLen.getD 6 0 = 4 := rfl
    rw [ek]
    by_cases z1 : smB (B (sN t))
    · have ev : vM B T sN eN t = hWd B (sN t) (eN t - sN t) := by unfold vM; rw [if_pos z, if_pos z1]
      have hl : ∀ j, j < eN t - sN t → smB (B (sN t + j)) := fun j hj => by
        rcases a6 with ⟨-, b2, -⟩ | ⟨b1, -⟩ | ⟨b1, -⟩
        · exact b2 _ (by omega) (by omega)
        · exact absurd z1 b1
        · exact absurd z1 b1
      rw [ev, wd_6 (by omega) hl]
      refine ⟨fun q => ⟨⟨z, z1⟩, q.2.1, fun k hk => ?_⟩, fun q => ⟨z, q.2.1, fun k hk => ?_⟩⟩
      · rw [← LX_b X (show sN t + k < L by have := q.2.1; omega)]; exact q.2.2 k hk
      · rw [LX_b X (show sN t + k < L by have := q.2.1; omega)]; exact q.2.2 k hk
    · refine ⟨fun q => ?_, fun q => absurd q.1.2 z1⟩
      have q0 := q.2.2 0 (by decide)
      rw [LX_b X (show sN t + 0 < L by omega), Nat.add_zero] at q0
      rw [q0] at z1
      exact absurd (by decide) z1
  · exact ⟨fun q => absurd q.1 z, fun q => absurd q.1.1 z⟩
theorem lexS {β : kH} {B : Nat → Int32} {L T : Nat} {sN eN : Nat → Nat} (X : LX β B L T sN eN) (t : Nat) : wX β T sN eN 7 t ↔ (sM B T sN t = 3 ∧ vM B T sN eN t = 59) := by
  rw [sM_3]
  unfold wX mtX
  by_cases z : t < T
  · obtain ⟨a1, a2, a3, a4, a5, a6⟩ := X.2.2.2.1.1 t z
    have ek : kLen.getD 7 0 = 1 := rfl
    rw [ek]
    have ex := LX_b X (show sN t + 0 < L by omega)
    rw [Nat.add_zero] at ex
    by_cases z1 : ¬ smB (B (sN t)) ∧ ¬ dgB (B (sN t))
    · have ev : vM B T sN eN t = (B (sN t)).toInt64 := by unfold vM; rw [if_pos z, if_neg z1.1, if_neg z1.2]
      have he : eN t = sN t + 1 := by
        rcases a6 with ⟨b1, -⟩ | ⟨-, b1, -⟩ | ⟨-, -, b1⟩
        · exact absurd b1 z1.1
        · exact absurd b1 z1.2
        · exact b1
      have e59 : (59 : Int64).toInt = 59 := by decide
      rw [ev, k_eqL, k_il, e59]
      refine ⟨fun q => ⟨⟨z, z1⟩, ?_⟩, fun q => ⟨z, by omega, fun k hk => ?_⟩⟩
      · have q0 := q.2.2 0 (by decide)
        rw [Nat.add_zero, ex] at q0
        rw [q0]; decide
      · rw [show k = 0 by omega, Nat.add_zero, ex, k_eq, q.2]; decide
    · refine ⟨fun q => ?_, fun q => absurd q.1.2 z1⟩
      have q0 := q.2.2 0 (by decide)
      rw [Nat.add_zero, ex] at q0
      rw [q0] at z1
      exact absurd (by decide) z1
  · exact ⟨fun q => absurd q.1 z, fun q => absurd q.1.1 z⟩
theorem lexD {β : kH} {B : Nat → Int32} {L T : Nat} {sN eN : Nat → Nat} (X : LX β B L T sN eN) {t : Nat} (z : t < T) (zd : dgB (B (sN t))) : ((vM B T sN eN t).toInt = (vXt β sN eN t).toInt ∧ 0 ≤ (vXt β sN eN t).toInt ∧ (vXt β sN eN t).toInt ≤ 10000) ∨ (10000 < (vM B T sN eN t).toInt ∧ vXt β sN eN t = 10001) := by
  obtain ⟨a1, a2, a3, a4, a5, a6⟩ := X.2.2.2.1.1 t z
  have zs : ¬ smB (B (sN t)) := fun w => by simp only [smB, dgB, k_le, li_97, li_122, li_48, li_57] at w zd; omega
  have ev : vM B T sN eN t = hDg B (sN t) (eN t - sN t) := by unfold vM; rw [if_pos z, if_neg zs, if_pos zd]
  rw [ev]
  refine dg_fNm _ (fun j hj => ⟨?_, LX_b X (by omega)⟩)
  rcases a6 with ⟨b1, -⟩ | ⟨-, -, b2, -⟩ | ⟨-, b1, -⟩
  · exact absurd b1 zs
  · exact b2 _ (by omega) (by omega)
  · exact absurd zd b1
theorem lexN {β : kH} {B : Nat → Int32} {L T : Nat} {sN eN : Nat → Nat} (X : LX β B L T sN eN) {lo hg : Int32} {lo2 hg2 : Int64} (hg1 : hg.toInt ≤ 10000) (e1 : lo2.toInt = lo.toInt) (e2 : hg2.toInt = hg.toInt) (t : Nat) : nX β T sN eN lo hg t ↔ (sM B T sN t = 2 ∧ lo2 ≤ vM B T sN eN t ∧ vM B T sN eN t ≤ hg2) := by
  rw [sM_2]
  unfold nX
  rw [k_leL, k_leL, k_le, k_le, e1, e2]
  by_cases z : t < T
  · rw [X.2.2.2.2 t z, kk2]
    by_cases zd : dgB (B (sN t))
    · rcases lexD X z zd with ⟨d1, d2, d3⟩ | ⟨d1, d2⟩
      · rw [d1]; exact ⟨fun q => ⟨⟨z, zd⟩, q.2.2⟩, fun q => ⟨z, zd, q.2⟩⟩
      · rw [d2, li_10001]
        exact ⟨fun q => by have := q.2.2; omega, fun q => by have := q.2; omega⟩
    · exact ⟨fun q => absurd q.2.1 zd, fun q => absurd q.1.2 zd⟩
  · exact ⟨fun q => absurd q.1 z, fun q => absurd q.1.1 z⟩
theorem lexV {β : kH} {B : Nat → Int32} {L T : Nat} {sN eN : Nat → Nat} (X : LX β B L T sN eN) {lo hg : Int32} {t : Nat} (hg1 : hg.toInt ≤ 10000) (q : nX β T sN eN lo hg t) : (vM B T sN eN t).toInt32 = vXt β sN eN t := by
  obtain ⟨z, q1, q2, q3⟩ := q
  rw [X.2.2.2.2 t z, kk2] at q1
  rw [k_le] at q3
  rcases lexD X z q1 with ⟨d1, d2, d3⟩ | ⟨d1, d2⟩
  · rw [k_eq, Int64.toInt_toInt32, d1]
    exact Int.bmod_eq_of_le (by omega) (by omega)
  · rw [d2, li_10001] at q3; omega
