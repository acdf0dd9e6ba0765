noncomputable def cIf {α : Type} (c : Prop) (x y : α) : α := @ite α c (Classical.propDecidable c) x y
theorem cIf_pos {α : Type} {c : Prop} {x y : α} (hc : c) : cIf c x y = x := by unfold cIf; exact if_pos hc
theorem cIf_neg {α : Type} {c : Prop} {x y : α} (hc : ¬ c) : cIf c x y = y := by unfold cIf; exact if_neg hc
abbrev kQ4 : Type := Int32 × Int32 × Int32 × Int32
abbrev kO : Type := Option kQ4 × Nat
/-- one tithe from token t on: what it says and the token behind it, or the token that is wrong -/
noncomputable def oSg (β : kH) (T : Nat) (sN eN : Nat → Nat) (kd : Int32) (t : Nat) : kO := cIf (nX β T sN eN 0 10000 t) (some (kd, vXt β sN eN t, 0, 0), t + 1) (none, t)
noncomputable def oPt (β : kH) (T : Nat) (sN eN : Nat → Nat) (t : Nat) : kO := cIf (nX β T sN eN 0 10000 t) (cIf (wX β T sN eN 1 (t + 1)) (cIf (nX β T sN eN (if vXt β sN eN t < 1 then 1 else vXt β sN eN t) 10000 (t + 2)) (some (0, vXt β sN eN t, vXt β sN eN (t + 2), 0), t + 3) (none, t + 2)) (none, t + 1)) (none, t)
noncomputable def oVn (β : kH) (T : Nat) (sN eN : Nat → Nat) (t : Nat) : kO := cIf (nX β T sN eN 1 10000 t) (cIf (wX β T sN eN 3 (t + 1)) (cIf (nX β T sN eN 0 10000 (t + 2)) (cIf (wX β T sN eN 4 (t + 3)) (cIf (nX β T sN eN 0 24 (t + 4)) (some (1, vXt β sN eN t, vXt β sN eN (t + 2), vXt β sN eN (t + 4)), t + 5) (none, t + 4)) (some (1, vXt β sN eN t, vXt β sN eN (t + 2), 0), t + 3)) (none, t + 2)) (none, t + 1)) (none, t)
noncomputable def oOne (β : kH) (T : Nat) (sN eN : Nat → Nat) (n t : Nat) : kO := cIf (20 ≤ n) (none, t) (cIf (wX β T sN eN 0 t) (oPt β T sN eN (t + 1)) (cIf (wX β T sN eN 2 t) (oVn β T sN eN (t + 1)) (cIf (wX β T sN eN 5 t) (oSg β T sN eN 2 (t + 1)) (cIf (wX β T sN eN 6 t) (oSg β T sN eN 3 (t + 1)) (none, t)))))
def frR (ν κ : kH) : Prop := (∀ k, k ≠ 46 → k ≠ 60 → κ.1 k = ν.1 k) ∧ (∀ j, j ∉ [24, 28, 29, 30, 32, 33] → κ.1 46 j = ν.1 46 j) ∧ ∀ k, k ≠ 46 → κ.2 k = ν.2 k
theorem frR_N {ν κ κ2 : kH} (q : frR ν κ) (q2 : frN κ κ2) : frR ν κ2 := ⟨fun k h1 h2 => by rw [q2.1 k h1]; exact q.1 k h1 h2, fun j hj => by
  have hj2 : j ∉ [28, 29, 30] := fun z => hj (by simp only [List.mem_cons, List.not_mem_nil, or_false] at z ⊢; omega)
  rw [q2.2.1 j hj2]; exact q.2.1 j hj, fun k hk => by rw [q2.2.2 k hk]; exact q.2.2 k hk⟩
theorem frR_J {ν κ : kH} (q : frR ν κ) {j : Nat} {v : Int32} (hj : j ∈ [24, 28, 29, 30, 32, 33]) : frR ν (hI κ 46 j v) := ⟨fun k h1 h2 => by
  have e : (hI κ 46 j v).1 k = κ.1 k := hs_ne _ _ h1
  rw [e]; exact q.1 k h1 h2, fun j' hj' => by
  have e : (hI κ 46 j v).1 46 = upd (κ.1 46) j v := by show hs κ.1 46 (upd (κ.1 46) j v) 46 = _; rw [hs_self]
  rw [e]; simp only [upd]; rw [if_neg (show ¬ j' = j from fun z => hj' (by rw [z]; exact hj))]; exact q.2.1 j' hj', q.2.2⟩
theorem frR_T {ν κ : kH} (q : frR ν κ) {j : Nat} {v : Int32} : frR ν (hI κ 60 j v) := ⟨fun k h1 h2 => by
  have e : (hI κ 60 j v).1 k = κ.1 k := hs_ne _ _ h2
  rw [e]; exact q.1 k h1 h2, fun j' hj' => q.2.1 j' hj', q.2.2⟩
/-- the reader is well, at token t, with n tithes read -/
def RS (ν : kH) (L T : Nat) (sN eN : Nat → Nat) (n : Nat) (g : Nat → Int32) (t : Nat) (κ : kH) : Prop := frR ν κ ∧ κ.1 46 33 = 0 ∧ κ.1 46 24 = nI n ∧ κ.1 60 = g ∧ κ.1 46 32 = -1 ∧ t ≤ T ∧ AtT (ν.1 61) L T sN eN t κ
/-- the reader has found token t wrong -/
def BS (ν : kH) (L T : Nat) (sN : Nat → Nat) (t : Nat) (κ : kH) : Prop := frR ν κ ∧ κ.1 46 33 = 1 ∧ κ.1 46 32 = nI (stT L T sN t) ∧ ∃ p, p ≤ L ∧ κ.1 46 29 = nI p
theorem stT_e {B : Nat → Int32} {L T t : Nat} {sN eN : Nat → Nat} (hT : TK B L T sN eN) : stT L T eN t ≤ L := by
  unfold stT
  by_cases z : t < T
  · rw [if_pos z]; exact (hT.1 t z).2.2.1
  · rw [if_neg z]; exact Nat.le_refl _
theorem RS_next {ν κ κ2 : kH} {L T n t : Nat} {sN eN : Nat → Nat} {g : Nat → Int32} (hT : TK (ν.1 61) L T sN eN) (R : RS ν L T sN eN n g t κ) (htT : t < T) (q : nxR κ L (stT L T eN t) κ2) : RS ν L T sN eN n g (t + 1) κ2 := by
  obtain ⟨r1, r2, r3, r4, r5, r6, r7⟩ := R
  have e61 : κ.1 61 = ν.1 61 := r1.1 61 (by decide) (by decide)
  have ep : stT L T eN t = pE eN (t + 1) := by unfold stT; rw [if_pos htT]; rfl
  rw [ep] at q
  have a := nx_tok (ν := κ) (by rw [e61]; exact hT) (show t + 1 ≤ T by omega) q
  rw [e61] at a
  have f := q.1
  exact ⟨frR_N r1 f, by rw [f.2.1 33 (by decide)]; exact r2, by rw [f.2.1 24 (by decide)]; exact r3, by rw [f.1 60 (by decide)]; exact r4, by rw [f.2.1 32 (by decide)]; exact r5, by omega, a⟩

theorem nt_ok {ν κ β : kH} {L T n t : Nat} {sN eN : Nat → Nat} {g : Nat → Int32} (X : LX β (ν.1 61) L T sN eN) (htp : ν.1 46 27 = nI L) (R : RS ν L T sN eN n g t κ) (htT : t < T) : Ev kX11_next [kr 46] κ (fun r h' => r = ku ∧ RS ν L T sN eN n g (t + 1) h') :=
  k_evm (ev_next X.1 ((R.1.2.1 27 (by decide)).trans htp) R.2.2.2.2.2.2.2.1 (stT_e X.2.2.2.1)) (fun r h' q => ⟨q.1, RS_next X.2.2.2.1 R htT q.2⟩)
theorem mu_1 {ν κ β : kH} {L T n t : Nat} {sN eN : Nat → Nat} {g : Nat → Int32} (X : LX β (ν.1 61) L T sN eN) (htp : ν.1 46 27 = nI L) (R : RS ν L T sN eN n g t κ) (htT : t < T) : Ev kX11_must [kr 46, ki 1] κ (fun r h' => r = ku ∧ RS ν L T sN eN n g (t + 1) h') :=
  k_evm (ev_must (c := True) ⟨fun z => absurd z (by decide), fun z => absurd trivial z⟩ X.1 ((R.1.2.1 27 (by decide)).trans htp) R.2.2.2.2.2.2.2.1 (stT_e X.2.2.2.1)) (fun r h' q => by
    refine ⟨q.1, ?_⟩
    rcases q.2 with z | z | z
    · exact absurd R.2.1 z.1
    · exact absurd trivial z.2.1
    · exact RS_next X.2.2.2.1 R htT z.2.2)
theorem BS_of {ν κ : kH} {L T n t : Nat} {sN eN : Nat → Nat} {g : Nat → Int32} (hT : TK (ν.1 61) L T sN eN) (R : RS ν L T sN eN n g t κ) : BS ν L T sN t (hI (hI κ 46 33 1) 46 32 (κ.1 46 28)) :=
  ⟨frR_J (frR_J R.1 (by decide)) (by decide), by show (hI κ 46 33 1).1 46 33 = 1; exact hI_at _ _ _ _, by rw [hI_at]; exact R.2.2.2.2.2.2.1, stT L T eN t, stT_e hT, R.2.2.2.2.2.2.2.1⟩
theorem mu_0 {ν κ β : kH} {L T n t : Nat} {sN eN : Nat → Nat} {g : Nat → Int32} (X : LX β (ν.1 61) L T sN eN) (htp : ν.1 46 27 = nI L) (R : RS ν L T sN eN n g t κ) : Ev kX11_must [kr 46, ki 0] κ (fun r h' => r = ku ∧ BS ν L T sN t h') :=
  k_evm (ev_must (c := False) ⟨fun _ z => z, fun _ => rfl⟩ X.1 ((R.1.2.1 27 (by decide)).trans htp) R.2.2.2.2.2.2.2.1 (stT_e X.2.2.2.1)) (fun r h' q => by
    refine ⟨q.1, ?_⟩
    rcases q.2 with z | z | z
    · exact absurd R.2.1 z.1
    · rw [z.2.2]; exact BS_of X.2.2.2.1 R
    · exact absurd z.2.1 id)
theorem nu_ok {ν κ β : kH} {L T n t : Nat} {sN eN : Nat → Nat} {g : Nat → Int32} (X : LX β (ν.1 61) L T sN eN) (htp : ν.1 46 27 = nI L) {lo hg : Int32} {lo2 hg2 : Int64} (hg1 : hg.toInt ≤ 10000) (e1 : lo2.toInt = lo.toInt) (e2 : hg2.toInt = hg.toInt) (R : RS ν L T sN eN n g t κ) : Ev kX11_number [kr 46, kl lo2, kl hg2] κ (fun r h' => (nX β T sN eN lo hg t ∧ r = ki (vXt β sN eN t) ∧ RS ν L T sN eN n g (t + 1) h') ∨ (¬ nX β T sN eN lo hg t ∧ (∃ x, r = ki x) ∧ BS ν L T sN t h')) :=
  k_evm (ev_number X.1 ((R.1.2.1 27 (by decide)).trans htp) R.2.2.2.2.2.2.2.1 (stT_e X.2.2.2.1)) (fun r h' q => by
    have e30 : κ.1 46 30 = sM (ν.1 61) T sN t := R.2.2.2.2.2.2.2.2.1
    have e31 : κ.2 46 31 = vM (ν.1 61) T sN eN t := R.2.2.2.2.2.2.2.2.2
    obtain ⟨q1, q2⟩ := q
    rw [e31] at q1
    rw [e30, e31] at q2
    have w := lexN X hg1 e1 e2 t
    rcases q2 with z | z | z
    · exact absurd R.2.1 z.1
    · refine Or.inr ⟨fun y => z.2.1 (w.mp y), ⟨_, q1⟩, ?_⟩
      rw [z.2.2]; exact BS_of X.2.2.2.1 R
    · have y := w.mpr z.2.1
      exact Or.inl ⟨y, by rw [q1, lexV X hg1 y], RS_next X.2.2.2.1 R y.1 z.2.2⟩)
theorem mu_b {ν κ β : kH} {L T t : Nat} {sN eN : Nat → Nat} (X : LX β (ν.1 61) L T sN eN) (htp : ν.1 46 27 = nI L) {z : Int32} (Bd : BS ν L T sN t κ) : Ev kX11_must [kr 46, ki z] κ (fun r h' => r = ku ∧ h' = κ) := by
  obtain ⟨b1, b2, b3, p, b4, b5⟩ := Bd
  refine k_evm (ev_must (c := ¬ z = 0) ⟨fun y w => w y, fun y => Classical.byContradiction y⟩ X.1 ((b1.2.1 27 (by decide)).trans htp) b5 b4) (fun r h' q => ⟨q.1, ?_⟩)
  rcases q.2 with y | y | y
  · exact y.2
  · exact absurd (b2.symm.trans y.1) (by decide)
  · exact absurd (b2.symm.trans y.1) (by decide)
theorem nu_b {ν κ β : kH} {L T t : Nat} {sN eN : Nat → Nat} (X : LX β (ν.1 61) L T sN eN) (htp : ν.1 46 27 = nI L) {lo2 hg2 : Int64} (Bd : BS ν L T sN t κ) : Ev kX11_number [kr 46, kl lo2, kl hg2] κ (fun r h' => (∃ x, r = ki x) ∧ h' = κ) := by
  obtain ⟨b1, b2, b3, p, b4, b5⟩ := Bd
  refine k_evm (ev_number X.1 ((b1.2.1 27 (by decide)).trans htp) b5 b4) (fun r h' q => ⟨⟨_, q.1⟩, ?_⟩)
  rcases q.2 with y | y | y
  · exact y.2
  · exact absurd (b2.symm.trans y.1) (by decide)
  · exact absurd (b2.symm.trans y.1) (by decide)
theorem iw_0 {ν κ β : kH} {L T n t : Nat} {sN eN : Nat → Nat} {g : Nat → Int32} (X : LX β (ν.1 61) L T sN eN) (htp : ν.1 46 27 = nI L) (R : RS ν L T sN eN n g t κ) : Ev kX11_isWord [kr 46, ki 112, ki 97, ki 114, ki 116, ki 0] κ (fun r h' => (wX β T sN eN 0 t ∧ r = ki 1 ∧ h' = κ) ∨ (¬ wX β T sN eN 0 t ∧ r = ki 0 ∧ h' = κ)) :=
  k_evm ev_X11_isWord (fun r h' q => by
    obtain ⟨q1, q2⟩ := q
    rw [show κ.1 46 30 = sM (ν.1 61) T sN t from R.2.2.2.2.2.2.2.2.1, show κ.2 46 31 = vM (ν.1 61) T sN eN t from R.2.2.2.2.2.2.2.2.2] at q1
    have w := lexW_0 X t
    by_cases z : wX β T sN eN 0 t
    · rw [if_pos (w.mp z)] at q1; exact Or.inl ⟨z, q1, q2⟩
    · rw [if_neg (fun y => z (w.mpr y))] at q1; exact Or.inr ⟨z, q1, q2⟩)
theorem iw_1 {ν κ β : kH} {L T n t : Nat} {sN eN : Nat → Nat} {g : Nat → Int32} (X : LX β (ν.1 61) L T sN eN) (htp : ν.1 46 27 = nI L) (R : RS ν L T sN eN n g t κ) : Ev kX11_isWord [kr 46, ki 111, ki 102, ki 0, ki 0, ki 0] κ (fun r h' => (wX β T sN eN 1 t ∧ r = ki 1 ∧ h' = κ) ∨ (¬ wX β T sN eN 1 t ∧ r = ki 0 ∧ h' = κ)) :=
  k_evm ev_X11_isWord (fun r h' q => by
    obtain ⟨q1, q2⟩ := q
    rw [show κ.1 46 30 = sM (ν.1 61) T sN t from R.2.2.2.2.2.2.2.2.1, show κ.2 46 31 = vM (ν.1 61) T sN eN t from R.2.2.2.2.2.2.2.2.2] at q1
    have w := lexW_1 X t
    by_cases z : wX β T sN eN 1 t
    · rw [if_pos (w.mp z)] at q1; exact Or.inl ⟨z, q1, q2⟩
    · rw [if_neg (fun y => z (w.mpr y))] at q1; exact Or.inr ⟨z, q1, q2⟩)
theorem iw_2 {ν κ β : kH} {L T n t : Nat} {sN eN : Nat → Nat} {g : Nat → Int32} (X : LX β (ν.1 61) L T sN eN) (htp : ν.1 46 27 = nI L) (R : RS ν L T sN eN n g t κ) : Ev kX11_isWord [kr 46, ki 118, ki 105, ki 110, ki 101, ki 115] κ (fun r h' => (wX β T sN eN 2 t ∧ r = ki 1 ∧ h' = κ) ∨ (¬ wX β T sN eN 2 t ∧ r = ki 0 ∧ h' = κ)) :=
  k_evm ev_X11_isWord (fun r h' q => by
    obtain ⟨q1, q2⟩ := q
    rw [show κ.1 46 30 = sM (ν.1 61) T sN t from R.2.2.2.2.2.2.2.2.1, show κ.2 46 31 = vM (ν.1 61) T sN eN t from R.2.2.2.2.2.2.2.2.2] at q1
    have w := lexW_2 X t
    by_cases z : wX β T sN eN 2 t
    · rw [if_pos (w.mp z)] at q1; exact Or.inl ⟨z, q1, q2⟩
    · rw [if_neg (fun y => z (w.mpr y))] at q1; exact Or.inr ⟨z, q1, q2⟩)
theorem iw_3 {ν κ β : kH} {L T n t : Nat} {sN eN : Nat → Nat} {g : Nat → Int32} (X : LX β (ν.1 61) L T sN eN) (htp : ν.1 46 27 = nI L) (R : RS ν L T sN eN n g t κ) : Ev kX11_isWord [kr 46, ki 101, ki 97, ki 99, ki 104, ki 0] κ (fun r h' => (wX β T sN eN 3 t ∧ r = ki 1 ∧ h' = κ) ∨ (¬ wX β T sN eN 3 t ∧ r = ki 0 ∧ h' = κ)) :=
  k_evm ev_X11_isWord (fun r h' q => by
    obtain ⟨q1, q2⟩ := q
    rw [show κ.1 46 30 = sM (ν.1 61) T sN t from R.2.2.2.2.2.2.2.2.1, show κ.2 46 31 = vM (ν.1 61) T sN eN t from R.2.2.2.2.2.2.2.2.2] at q1
    have w := lexW_3 X t
    by_cases z : wX β T sN eN 3 t
    · rw [if_pos (w.mp z)] at q1; exact Or.inl ⟨z, q1, q2⟩
    · rw [if_neg (fun y => z (w.mpr y))] at q1; exact Or.inr ⟨z, q1, q2⟩)
theorem iw_4 {ν κ β : kH} {L T n t : Nat} {sN eN : Nat → Nat} {g : Nat → Int32} (X : LX β (ν.1 61) L T sN eN) (htp : ν.1 46 27 = nI L) (R : RS ν L T sN eN n g t κ) : Ev kX11_isWord [kr 46, ki 102, ki 114, ki 111, ki 109, ki 0] κ (fun r h' => (wX β T sN eN 4 t ∧ r = ki 1 ∧ h' = κ) ∨ (¬ wX β T sN eN 4 t ∧ r = ki 0 ∧ h' = κ)) :=
  k_evm ev_X11_isWord (fun r h' q => by
    obtain ⟨q1, q2⟩ := q
    rw [show κ.1 46 30 = sM (ν.1 61) T sN t from R.2.2.2.2.2.2.2.2.1, show κ.2 46 31 = vM (ν.1 61) T sN eN t from R.2.2.2.2.2.2.2.2.2] at q1
    have w := lexW_4 X t
    by_cases z : wX β T sN eN 4 t
    · rw [if_pos (w.mp z)] at q1; exact Or.inl ⟨z, q1, q2⟩
    · rw [if_neg (fun y => z (w.mpr y))] at q1; exact Or.inr ⟨z, q1, q2⟩)
theorem iw_5 {ν κ β : kH} {L T n t : Nat} {sN eN : Nat → Nat} {g : Nat → Int32} (X : LX β (ν.1 61) L T sN eN) (htp : ν.1 46 27 = nI L) (R : RS ν L T sN eN n g t κ) : Ev kX11_isWord [kr 46, ki 102, ki 114, ki 101, ki 101, ki 0] κ (fun r h' => (wX β T sN eN 5 t ∧ r = ki 1 ∧ h' = κ) ∨ (¬ wX β T sN eN 5 t ∧ r = ki 0 ∧ h' = κ)) :=
  k_evm ev_X11_isWord (fun r h' q => by
    obtain ⟨q1, q2⟩ := q
    rw [show κ.1 46 30 = sM (ν.1 61) T sN t from R.2.2.2.2.2.2.2.2.1, show κ.2 46 31 = vM (ν.1 61) T sN eN t from R.2.2.2.2.2.2.2.2.2] at q1
    have w := lexW_5 X t
    by_cases z : wX β T sN eN 5 t
    · rw [if_pos (w.mp z)] at q1; exact Or.inl ⟨z, q1, q2⟩
    · rw [if_neg (fun y => z (w.mpr y))] at q1; exact Or.inr ⟨z, q1, q2⟩)
theorem iw_6 {ν κ β : kH} {L T n t : Nat} {sN eN : Nat → Nat} {g : Nat → Int32} (X : LX β (ν.1 61) L T sN eN) (htp : ν.1 46 27 = nI L) (R : RS ν L T sN eN n g t κ) : Ev kX11_isWord [kr 46, ki 109, ki 111, ki 115, ki 116, ki 0] κ (fun r h' => (wX β T sN eN 6 t ∧ r = ki 1 ∧ h' = κ) ∨ (¬ wX β T sN eN 6 t ∧ r = ki 0 ∧ h' = κ)) :=
  k_evm ev_X11_isWord (fun r h' q => by
    obtain ⟨q1, q2⟩ := q
    rw [show κ.1 46 30 = sM (ν.1 61) T sN t from R.2.2.2.2.2.2.2.2.1, show κ.2 46 31 = vM (ν.1 61) T sN eN t from R.2.2.2.2.2.2.2.2.2] at q1
    have w := lexW_6 X t
    by_cases z : wX β T sN eN 6 t
    · rw [if_pos (w.mp z)] at q1; exact Or.inl ⟨z, q1, q2⟩
    · rw [if_neg (fun y => z (w.mpr y))] at q1; exact Or.inr ⟨z, q1, q2⟩)
set_option maxHeartbeats 400000 in
set_option maxRecDepth 100000 in
theorem rb_237 {i1 i2 i3 i4 : kV} {Q : kV → kH → Prop} {κ : kH} (h33 : κ.1 46 33 = 1) (hQ : Q ku κ) : At kX11_readTithe 237 [kr 46, i1, i2, i3, i4] [] κ (kRet kX11_readTithe Q) := by
  refine k_aload_n (pc' := 238) dX11_readTithe_237 rfl rfl ?_
  refine k_getZ (pc' := 241) fl_RX11_208 dX11_readTithe_238 rfl rfl rfl ?_
  rw [h33]
  refine k_if_eq (pc' := 244) (tg := 245) dX11_readTithe_241 rfl (by decide) (fun c_241 => ?_) (fun c_241 => ?_)
  · exfalso
    exact absurd c_241 (by decide)
  · skip
    exact k_vret dX11_readTithe_244 rfl hQ

set_option maxHeartbeats 400000 in
set_option maxRecDepth 100000 in
theorem rb_191 {i1 : Int32} {i2 i3 i4 : kV} {ν κ β : kH} {L T t : Nat} {sN eN : Nat → Nat} (X : LX β (ν.1 61) L T sN eN) (htp : ν.1 46 27 = nI L) (Bd : BS ν L T sN t κ) {Q : kV → kH → Prop} (hQ : Q ku κ) : At kX11_readTithe 191 [kr 46, ki i1, i2, i3, i4] [] κ (kRet kX11_readTithe Q) := by
  refine k_aload_n (pc' := 192) dX11_readTithe_191 rfl rfl ?_
  refine k_lconst (pc' := 193) (v := 0) dX11_readTithe_192 rfl (by decide) ?_
  refine k_ldc2 (pc' := 196) dX11_readTithe_193 rfl kc_RX11_202 ?_
  refine k_callV2 (pc' := 199) dX11_readTithe_196 rfl ml_RX11_226 rfl rfl ⟨(Nat.le_of_ble_eq_true rfl), (Nat.le_of_ble_eq_true rfl)⟩ (Nat.le_of_ble_eq_true rfl) (nu_b X htp Bd) (fun r_196 h_196 q_196 => ?_)
  obtain ⟨⟨x_196, e_196⟩, g_196⟩ := q_196
  rw [e_196, g_196]
  refine k_istore_n (pc' := 200) (k0 := 0) (ls' := [_, _, _, _, _]) dX11_readTithe_199 rfl (by decide) rfl ?_
  refine k_aload_n (pc' := 201) dX11_readTithe_200 rfl rfl ?_
  refine k_getZ (pc' := 204) fl_RX11_208 dX11_readTithe_201 rfl rfl rfl ?_
  rw [Bd.2.1]
  refine k_if_ne (pc' := 207) (tg := 237) dX11_readTithe_204 rfl (by decide) (fun c_204 => ?_) (fun c_204 => ?_)
  · skip
    exact rb_237 Bd.2.1 hQ
  · exfalso
    exact absurd c_204 (by decide)

set_option maxHeartbeats 400000 in
set_option maxRecDepth 100000 in
theorem rb_147 {i1 i2 : Int32} {i3 i4 : kV} {ν κ β : kH} {L T t : Nat} {sN eN : Nat → Nat} (X : LX β (ν.1 61) L T sN eN) (htp : ν.1 46 27 = nI L) (Bd : BS ν L T sN t κ) {Q : kV → kH → Prop} (hQ : Q ku κ) : At kX11_readTithe 147 [kr 46, ki i1, ki i2, i3, i4] [] κ (kRet kX11_readTithe Q) := by
  refine k_aload_n (pc' := 148) dX11_readTithe_147 rfl rfl ?_
  refine k_iload_n (pc' := 149) dX11_readTithe_148 rfl rfl ?_
  refine k_iconst (pc' := 150) (v := 1) dX11_readTithe_149 rfl (by decide) ?_
  refine k_icmp_ge (pc' := 153) (tg := 157) dX11_readTithe_150 rfl (by decide) (fun c_150 => ?_) (fun c_150 => ?_)
  · skip
    refine k_iload_n (pc' := 158) dX11_readTithe_157 rfl rfl ?_
    refine k_i2l (pc' := 159) dX11_readTithe_158 rfl ?_
    refine k_ldc2 (pc' := 162) dX11_readTithe_159 rfl kc_RX11_202 ?_
    refine k_callV2 (pc' := 165) dX11_readTithe_162 rfl ml_RX11_226 rfl rfl ⟨(Nat.le_of_ble_eq_true rfl), (Nat.le_of_ble_eq_true rfl)⟩ (Nat.le_of_ble_eq_true rfl) (nu_b X htp Bd) (fun r_162 h_162 q_162 => ?_)
    obtain ⟨⟨x_162, e_162⟩, g_162⟩ := q_162
    rw [e_162, g_162]
    refine k_istore_n (pc' := 166) (k0 := 0) (ls' := [_, _, _, _, _]) dX11_readTithe_165 rfl (by decide) rfl ?_
    refine k_goto (tg := 237) dX11_readTithe_166 (by decide) ?_
    exact rb_237 Bd.2.1 hQ
  · skip
    refine k_lconst (pc' := 154) (v := 1) dX11_readTithe_153 rfl (by decide) ?_
    refine k_goto (tg := 159) dX11_readTithe_154 (by decide) ?_
    refine k_ldc2 (pc' := 162) dX11_readTithe_159 rfl kc_RX11_202 ?_
    refine k_callV2 (pc' := 165) dX11_readTithe_162 rfl ml_RX11_226 rfl rfl ⟨(Nat.le_of_ble_eq_true rfl), (Nat.le_of_ble_eq_true rfl)⟩ (Nat.le_of_ble_eq_true rfl) (nu_b X htp Bd) (fun r_162 h_162 q_162 => ?_)
    obtain ⟨⟨x_162, e_162⟩, g_162⟩ := q_162
    rw [e_162, g_162]
    refine k_istore_n (pc' := 166) (k0 := 0) (ls' := [_, _, _, _, _]) dX11_readTithe_165 rfl (by decide) rfl ?_
    refine k_goto (tg := 237) dX11_readTithe_166 (by decide) ?_
    exact rb_237 Bd.2.1 hQ

set_option maxHeartbeats 400000 in
set_option maxRecDepth 100000 in
theorem rb_122 {i1 x : Int32} {i2 i3 i4 : kV} {ν κ β : kH} {L T t : Nat} {sN eN : Nat → Nat} (X : LX β (ν.1 61) L T sN eN) (htp : ν.1 46 27 = nI L) (Bd : BS ν L T sN t κ) {Q : kV → kH → Prop} (hQ : Q ku κ) : At kX11_readTithe 122 [kr 46, ki i1, i2, i3, i4] [ki x] κ (kRet kX11_readTithe Q) := by
  refine k_istore_n (pc' := 123) (k0 := 0) (ls' := [_, _, _, _, _]) dX11_readTithe_122 rfl (by decide) rfl ?_
  refine k_iconst (pc' := 124) (v := 0) dX11_readTithe_123 rfl (by decide) ?_
  refine k_istore_n (pc' := 125) (k0 := 0) (ls' := [_, _, _, _, _]) dX11_readTithe_124 rfl (by decide) rfl ?_
  refine k_iconst (pc' := 126) (v := 0) dX11_readTithe_125 rfl (by decide) ?_
  refine k_istore (pc' := 128) (k0 := 0) (ls' := [_, _, _, _, _]) dX11_readTithe_126 rfl (by decide) rfl ?_
  refine k_iload_n (pc' := 129) dX11_readTithe_128 rfl rfl ?_
  refine k_if_ne (pc' := 132) (tg := 169) dX11_readTithe_129 rfl (by decide) (fun c_129 => ?_) (fun c_129 => ?_)
  · skip
    refine k_iload_n (pc' := 170) dX11_readTithe_169 rfl rfl ?_
    refine k_iconst (pc' := 171) (v := 1) dX11_readTithe_170 rfl (by decide) ?_
    refine k_icmp_ne (pc' := 174) (tg := 237) dX11_readTithe_171 rfl (by decide) (fun c_171 => ?_) (fun c_171 => ?_)
    · skip
      exact rb_237 Bd.2.1 hQ
    · skip
      refine k_aload_n (pc' := 175) dX11_readTithe_174 rfl rfl ?_
      refine k_aload_n (pc' := 176) dX11_readTithe_175 rfl rfl ?_
      refine k_bipush (pc' := 178) (v := 101) dX11_readTithe_176 rfl (by decide) ?_
      refine k_bipush (pc' := 180) (v := 97) dX11_readTithe_178 rfl (by decide) ?_
      refine k_bipush (pc' := 182) (v := 99) dX11_readTithe_180 rfl (by decide) ?_
      refine k_bipush (pc' := 184) (v := 104) dX11_readTithe_182 rfl (by decide) ?_
      refine k_iconst (pc' := 185) (v := 0) dX11_readTithe_184 rfl (by decide) ?_
      refine k_callV5 (pc' := 188) dX11_readTithe_185 rfl ml_RX11_219 rfl rfl ⟨(Nat.le_of_ble_eq_true rfl), (Nat.le_of_ble_eq_true rfl)⟩ (Nat.le_of_ble_eq_true rfl) ev_X11_isWord (fun r_185 h_185 q_185 => ?_)
      obtain ⟨e_185, g_185⟩ := q_185
      rw [e_185, g_185]
      refine k_callV1 (pc' := 191) dX11_readTithe_188 rfl ml_RX11_215 rfl rfl ⟨(Nat.le_of_ble_eq_true rfl), (Nat.le_of_ble_eq_true rfl)⟩ (Nat.le_of_ble_eq_true rfl) (mu_b X htp Bd) (fun r_188 h_188 q_188 => ?_)
      obtain ⟨e_188, g_188⟩ := q_188
      rw [e_188, g_188]
      exact rb_191 X htp Bd hQ
  · skip
    refine k_aload_n (pc' := 133) dX11_readTithe_132 rfl rfl ?_
    refine k_aload_n (pc' := 134) dX11_readTithe_133 rfl rfl ?_
    refine k_bipush (pc' := 136) (v := 111) dX11_readTithe_134 rfl (by decide) ?_
    refine k_bipush (pc' := 138) (v := 102) dX11_readTithe_136 rfl (by decide) ?_
    refine k_iconst (pc' := 139) (v := 0) dX11_readTithe_138 rfl (by decide) ?_
    refine k_iconst (pc' := 140) (v := 0) dX11_readTithe_139 rfl (by decide) ?_
    refine k_iconst (pc' := 141) (v := 0) dX11_readTithe_140 rfl (by decide) ?_
    refine k_callV5 (pc' := 144) dX11_readTithe_141 rfl ml_RX11_219 rfl rfl ⟨(Nat.le_of_ble_eq_true rfl), (Nat.le_of_ble_eq_true rfl)⟩ (Nat.le_of_ble_eq_true rfl) ev_X11_isWord (fun r_141 h_141 q_141 => ?_)
    obtain ⟨e_141, g_141⟩ := q_141
    rw [e_141, g_141]
    refine k_callV1 (pc' := 147) dX11_readTithe_144 rfl ml_RX11_215 rfl rfl ⟨(Nat.le_of_ble_eq_true rfl), (Nat.le_of_ble_eq_true rfl)⟩ (Nat.le_of_ble_eq_true rfl) (mu_b X htp Bd) (fun r_144 h_144 q_144 => ?_)
    obtain ⟨e_144, g_144⟩ := q_144
    rw [e_144, g_144]
    exact rb_147 X htp Bd hQ

set_option maxHeartbeats 400000 in
set_option maxRecDepth 100000 in
theorem rb_105 {i1 : Int32} {i2 i3 i4 : kV} {ν κ β : kH} {L T t : Nat} {sN eN : Nat → Nat} (X : LX β (ν.1 61) L T sN eN) (htp : ν.1 46 27 = nI L) (Bd : BS ν L T sN t κ) {Q : kV → kH → Prop} (hQ : Q ku κ) : At kX11_readTithe 105 [kr 46, ki i1, i2, i3, i4] [] κ (kRet kX11_readTithe Q) := by
  refine k_aload_n (pc' := 106) dX11_readTithe_105 rfl rfl ?_
  refine k_iload_n (pc' := 107) dX11_readTithe_106 rfl rfl ?_
  refine k_iconst (pc' := 108) (v := 1) dX11_readTithe_107 rfl (by decide) ?_
  refine k_icmp_ne (pc' := 111) (tg := 115) dX11_readTithe_108 rfl (by decide) (fun c_108 => ?_) (fun c_108 => ?_)
  · skip
    refine k_lconst (pc' := 116) (v := 0) dX11_readTithe_115 rfl (by decide) ?_
    refine k_ldc2 (pc' := 119) dX11_readTithe_116 rfl kc_RX11_202 ?_
    refine k_callV2 (pc' := 122) dX11_readTithe_119 rfl ml_RX11_226 rfl rfl ⟨(Nat.le_of_ble_eq_true rfl), (Nat.le_of_ble_eq_true rfl)⟩ (Nat.le_of_ble_eq_true rfl) (nu_b X htp Bd) (fun r_119 h_119 q_119 => ?_)
    obtain ⟨⟨x_119, e_119⟩, g_119⟩ := q_119
    rw [e_119, g_119]
    exact rb_122 X htp Bd hQ
  · skip
    refine k_lconst (pc' := 112) (v := 1) dX11_readTithe_111 rfl (by decide) ?_
    refine k_goto (tg := 116) dX11_readTithe_112 (by decide) ?_
    refine k_ldc2 (pc' := 119) dX11_readTithe_116 rfl kc_RX11_202 ?_
    refine k_callV2 (pc' := 122) dX11_readTithe_119 rfl ml_RX11_226 rfl rfl ⟨(Nat.le_of_ble_eq_true rfl), (Nat.le_of_ble_eq_true rfl)⟩ (Nat.le_of_ble_eq_true rfl) (nu_b X htp Bd) (fun r_119 h_119 q_119 => ?_)
    obtain ⟨⟨x_119, e_119⟩, g_119⟩ := q_119
    rw [e_119, g_119]
    exact rb_122 X htp Bd hQ

def g4 (g : Nat → Int32) (n : Nat) (q : kQ4) : Nat → Int32 := upd (upd (upd (upd g (4 * n) q.1) (4 * n + 1) q.2.1) (4 * n + 2) q.2.2.1) (4 * n + 3) q.2.2.2
theorem nI_4 {n : Nat} : (4 : Int32) * nI n = nI (4 * n) := by
  show Int32.ofNat 4 * Int32.ofNat n = Int32.ofNat (4 * n)
  exact (Int32.ofNat_mul 4 n).symm
theorem nI_4a {n k : Nat} {c : Int32} (hc : c = nI k) : (4 : Int32) * nI n + c = nI (4 * n + k) := by rw [nI_4, hc, nI_add]
set_option maxHeartbeats 400000 in
set_option maxRecDepth 100000 in
theorem rg_237 {ν κ : kH} {L T n t : Nat} {sN eN : Nat → Nat} {g : Nat → Int32} {a1 a2 a3 a4 : Int32} (R : RS ν L T sN eN n g t κ) (hn : n < 20) {Q : kV → kH → Prop} (hQ : ∀ κ2, RS ν L T sN eN (n + 1) (g4 g n (a1, a2, a3, a4)) t κ2 → Q ku κ2) : At kX11_readTithe 237 [kr 46, ki a1, ki a2, ki a3, ki a4] [] κ (kRet kX11_readTithe Q) := by
  have h24 := R.2.2.1
  have h33 := R.2.1
  have hrow : ((hI (hI (hI (hI κ 60 (4 * n) a1) 60 (4 * n + 1) a2) 60 (4 * n + 2) a3) 60 (4 * n + 3) a4)).1 60 = g4 g n (a1, a2, a3, a4) := by
    simp only [hI_eq, hs_self, R.2.2.2.1]; rfl
  refine k_aload_n (pc' := 238) dX11_readTithe_237 rfl rfl ?_
  refine k_getZ (pc' := 241) fl_RX11_208 dX11_readTithe_238 rfl rfl rfl ?_
  rw [h33]
  refine k_if_eq (pc' := 244) (tg := 245) dX11_readTithe_241 rfl (by decide) (fun c_241 => ?_) (fun c_241 => ?_)
  · skip
    refine k_aload_n (pc' := 246) dX11_readTithe_245 rfl rfl ?_
    refine k_getR (pc' := 249) fl_RX11_56 dX11_readTithe_246 rfl rfl rfl ?_
    refine k_iconst (pc' := 250) (v := 4) dX11_readTithe_249 rfl (by decide) ?_
    refine k_aload_n (pc' := 251) dX11_readTithe_250 rfl rfl ?_
    refine k_getI (pc' := 254) fl_RX11_223 dX11_readTithe_251 rfl rfl rfl ?_
    refine k_imul (pc' := 255) dX11_readTithe_254 rfl ?_
    refine k_iload_n (pc' := 256) dX11_readTithe_255 rfl rfl ?_
    rw [h24, nI_4]
    refine k_iastN (pc' := 257) dX11_readTithe_256 rfl rfl (by omega) (by decide) ?_
    refine k_aload_n (pc' := 258) dX11_readTithe_257 rfl rfl ?_
    refine k_getR (pc' := 261) fl_RX11_56 dX11_readTithe_258 rfl rfl rfl ?_
    refine k_iconst (pc' := 262) (v := 4) dX11_readTithe_261 rfl (by decide) ?_
    refine k_aload_n (pc' := 263) dX11_readTithe_262 rfl rfl ?_
    refine k_getI (pc' := 266) fl_RX11_223 dX11_readTithe_263 rfl rfl rfl ?_
    refine k_imul (pc' := 267) dX11_readTithe_266 rfl ?_
    refine k_iconst (pc' := 268) (v := 1) dX11_readTithe_267 rfl (by decide) ?_
    refine k_iadd (pc' := 269) dX11_readTithe_268 rfl ?_
    refine k_iload_n (pc' := 270) dX11_readTithe_269 rfl rfl ?_
    rw [show (hI κ 60 (4 * n) a1).1 46 24 = nI n from h24, nI_4a (c := 1) (k := 1) rfl]
    refine k_iastN (pc' := 271) dX11_readTithe_270 rfl rfl (by omega) (by decide) ?_
    refine k_aload_n (pc' := 272) dX11_readTithe_271 rfl rfl ?_
    refine k_getR (pc' := 275) fl_RX11_56 dX11_readTithe_272 rfl rfl rfl ?_
    refine k_iconst (pc' := 276) (v := 4) dX11_readTithe_275 rfl (by decide) ?_
    refine k_aload_n (pc' := 277) dX11_readTithe_276 rfl rfl ?_
    refine k_getI (pc' := 280) fl_RX11_223 dX11_readTithe_277 rfl rfl rfl ?_
    refine k_imul (pc' := 281) dX11_readTithe_280 rfl ?_
    refine k_iconst (pc' := 282) (v := 2) dX11_readTithe_281 rfl (by decide) ?_
    refine k_iadd (pc' := 283) dX11_readTithe_282 rfl ?_
    refine k_iload_n (pc' := 284) dX11_readTithe_283 rfl rfl ?_
    rw [show (hI (hI κ 60 (4 * n) a1) 60 (4 * n + 1) a2).1 46 24 = nI n from h24, nI_4a (c := 2) (k := 2) rfl]
    refine k_iastN (pc' := 285) dX11_readTithe_284 rfl rfl (by omega) (by decide) ?_
    refine k_aload_n (pc' := 286) dX11_readTithe_285 rfl rfl ?_
    refine k_getR (pc' := 289) fl_RX11_56 dX11_readTithe_286 rfl rfl rfl ?_
    refine k_iconst (pc' := 290) (v := 4) dX11_readTithe_289 rfl (by decide) ?_
    refine k_aload_n (pc' := 291) dX11_readTithe_290 rfl rfl ?_
    refine k_getI (pc' := 294) fl_RX11_223 dX11_readTithe_291 rfl rfl rfl ?_
    refine k_imul (pc' := 295) dX11_readTithe_294 rfl ?_
    refine k_iconst (pc' := 296) (v := 3) dX11_readTithe_295 rfl (by decide) ?_
    refine k_iadd (pc' := 297) dX11_readTithe_296 rfl ?_
    refine k_iload (pc' := 299) dX11_readTithe_297 rfl rfl ?_
    rw [show (hI (hI (hI κ 60 (4 * n) a1) 60 (4 * n + 1) a2) 60 (4 * n + 2) a3).1 46 24 = nI n from h24, nI_4a (c := 3) (k := 3) rfl]
    refine k_iastN (pc' := 300) dX11_readTithe_299 rfl rfl (by omega) (by decide) ?_
    refine k_aload_n (pc' := 301) dX11_readTithe_300 rfl rfl ?_
    refine k_dup (pc' := 302) dX11_readTithe_301 rfl rfl ?_
    refine k_getI (pc' := 305) fl_RX11_223 dX11_readTithe_302 rfl rfl rfl ?_
    refine k_iconst (pc' := 306) (v := 1) dX11_readTithe_305 rfl (by decide) ?_
    refine k_iadd (pc' := 307) dX11_readTithe_306 rfl ?_
    rw [show (hI (hI (hI (hI κ 60 (4 * n) a1) 60 (4 * n + 1) a2) 60 (4 * n + 2) a3) 60 (4 * n + 3) a4).1 46 24 = nI n from h24, nI_1]
    refine k_putI (pc' := 310) fw_RX11_223 dX11_readTithe_307 rfl rfl rfl ?_
    exact k_vret dX11_readTithe_310 rfl (hQ _ ⟨frR_J (frR_T (frR_T (frR_T (frR_T R.1)))) (by decide), R.2.1, hI_at _ _ _ _, by show ((hI (hI (hI (hI κ 60 (4 * n) a1) 60 (4 * n + 1) a2) 60 (4 * n + 2) a3) 60 (4 * n + 3) a4)).1 60 = _; exact hrow, R.2.2.2.2.1, R.2.2.2.2.2.1, R.2.2.2.2.2.2⟩)
  · exfalso
    exact c_241 rfl

/-- how the reference stands behind a tithe that was read, or not -/
def PM (ν : kH) (L T : Nat) (sN eN : Nat → Nat) (n : Nat) (g : Nat → Int32) (x : kO) (κ : kH) : Prop := match x with
  | (some q, t) => RS ν L T sN eN (n + 1) (g4 g n q) t κ
  | (none, t) => BS ν L T sN t κ
theorem PM_g {ν κ : kH} {L T n t : Nat} {sN eN : Nat → Nat} {g : Nat → Int32} {x : kO} {q : kQ4} (e : x = (some q, t)) (R : RS ν L T sN eN (n + 1) (g4 g n q) t κ) : PM ν L T sN eN n g x κ := by rw [e]; exact R
theorem PM_b {ν κ : kH} {L T n t : Nat} {sN eN : Nat → Nat} {g : Nat → Int32} {x : kO} (e : x = (none, t)) (R : BS ν L T sN t κ) : PM ν L T sN eN n g x κ := by rw [e]; exact R
set_option maxHeartbeats 400000 in
set_option maxRecDepth 100000 in
theorem rt_m1 {ν κ β : kH} {L T n t : Nat} {sN eN : Nat → Nat} {g : Nat → Int32} (X : LX β (ν.1 61) L T sN eN) (htp : ν.1 46 27 = nI L) (hn20 : n ≤ 20) (R : RS ν L T sN eN n g t κ) (w0 : ¬ wX β T sN eN 0 t) (w2 : ¬ wX β T sN eN 2 t) (w5 : ¬ wX β T sN eN 5 t) (w6 : ¬ wX β T sN eN 6 t) : At kX11_readTithe 82 [kr 46, ku, ku, ku, ku] [ki (-1)] κ (kRet kX11_readTithe (fun r h' => r = ku ∧ PM ν L T sN eN n g (oOne β T sN eN n t) h')) := by
  refine k_istore_n (pc' := 83) (k0 := 0) (ls' := [_, _, _, _, _]) dX11_readTithe_82 rfl (by decide) rfl ?_
  refine k_aload_n (pc' := 84) dX11_readTithe_83 rfl rfl ?_
  refine k_iload_n (pc' := 85) dX11_readTithe_84 rfl rfl ?_
  refine k_if_lt (pc' := 88) (tg := 101) dX11_readTithe_85 rfl (by decide) (fun c_85 => ?_) (fun c_85 => ?_)
  · skip
    refine k_iconst (pc' := 102) (v := 0) dX11_readTithe_101 rfl (by decide) ?_
    refine k_callV1 (pc' := 105) dX11_readTithe_102 rfl ml_RX11_215 rfl rfl ⟨(Nat.le_of_ble_eq_true rfl), (Nat.le_of_ble_eq_true rfl)⟩ (Nat.le_of_ble_eq_true rfl) (mu_0 X htp R) (fun r_102 h_102 q_102 => ?_)
    obtain ⟨e_102, B_102⟩ := q_102
    rw [e_102]
    have eo : oOne β T sN eN n t = (none, t) := by
      unfold oOne
      by_cases hf : 20 ≤ n
      · rw [cIf_pos hf]
      · rw [cIf_neg hf, cIf_neg w0, cIf_neg w2, cIf_neg w5, cIf_neg w6]
    exact rb_105 X htp B_102 ⟨rfl, PM_b eo B_102⟩
  · exfalso
    exact c_85 (by decide)

set_option maxHeartbeats 400000 in
set_option maxRecDepth 100000 in
theorem rb_165 {i1 i2 x : Int32} {i3 i4 : kV} {ν κ β : kH} {L T t : Nat} {sN eN : Nat → Nat} (X : LX β (ν.1 61) L T sN eN) (htp : ν.1 46 27 = nI L) (Bd : BS ν L T sN t κ) {Q : kV → kH → Prop} (hQ : Q ku κ) : At kX11_readTithe 165 [kr 46, ki i1, ki i2, i3, i4] [ki x] κ (kRet kX11_readTithe Q) := by
  refine k_istore_n (pc' := 166) (k0 := 0) (ls' := [_, _, _, _, _]) dX11_readTithe_165 rfl (by decide) rfl ?_
  refine k_goto (tg := 237) dX11_readTithe_166 (by decide) ?_
  exact rb_237 Bd.2.1 hQ

set_option maxHeartbeats 400000 in
set_option maxRecDepth 100000 in
theorem rt_0 {ν κ β : kH} {L T n t : Nat} {sN eN : Nat → Nat} {g : Nat → Int32} (X : LX β (ν.1 61) L T sN eN) (htp : ν.1 46 27 = nI L) (hn20 : n ≤ 20) (R : RS ν L T sN eN n g t κ) (w0 : wX β T sN eN 0 t) : At kX11_readTithe 82 [kr 46, ku, ku, ku, ku] [ki 0] κ (kRet kX11_readTithe (fun r h' => r = ku ∧ PM ν L T sN eN n g (oOne β T sN eN n t) h')) := by
  refine k_istore_n (pc' := 83) (k0 := 0) (ls' := [_, _, _, _, _]) dX11_readTithe_82 rfl (by decide) rfl ?_
  refine k_aload_n (pc' := 84) dX11_readTithe_83 rfl rfl ?_
  refine k_iload_n (pc' := 85) dX11_readTithe_84 rfl rfl ?_
  refine k_if_lt (pc' := 88) (tg := 101) dX11_readTithe_85 rfl (by decide) (fun c_85 => ?_) (fun c_85 => ?_)
  · exfalso
    exact absurd c_85 (by decide)
  · skip
    refine k_aload_n (pc' := 89) dX11_readTithe_88 rfl rfl ?_
    refine k_getI (pc' := 92) fl_RX11_223 dX11_readTithe_89 rfl rfl rfl ?_
    refine k_bipush (pc' := 94) (v := 20) dX11_readTithe_92 rfl (by decide) ?_
    rw [R.2.2.1]
    refine k_icmp_ge (pc' := 97) (tg := 101) dX11_readTithe_94 rfl (by decide) (fun c_94 => ?_) (fun c_94 => ?_)
    · skip
      have hf : 20 ≤ n := by
        rcases Nat.lt_or_ge n 20 with z | z
        · exact absurd c_94 (nI_ge z (by decide))
        · exact z
      refine k_iconst (pc' := 102) (v := 0) dX11_readTithe_101 rfl (by decide) ?_
      refine k_callV1 (pc' := 105) dX11_readTithe_102 rfl ml_RX11_215 rfl rfl ⟨(Nat.le_of_ble_eq_true rfl), (Nat.le_of_ble_eq_true rfl)⟩ (Nat.le_of_ble_eq_true rfl) (mu_0 X htp R) (fun r_102 h_102 q_102 => ?_)
      obtain ⟨e_102, B_102⟩ := q_102
      rw [e_102]
      exact rb_105 X htp B_102 ⟨rfl, PM_b (by unfold oOne; rw [cIf_pos hf]) B_102⟩
    · skip
      have hf : ¬ 20 ≤ n := fun z => c_94 (nI_le (a := 20) z (by omega))
      refine k_iconst (pc' := 98) (v := 1) dX11_readTithe_97 rfl (by decide) ?_
      refine k_goto (tg := 102) dX11_readTithe_98 (by decide) ?_
      refine k_callV1 (pc' := 105) dX11_readTithe_102 rfl ml_RX11_215 rfl rfl ⟨(Nat.le_of_ble_eq_true rfl), (Nat.le_of_ble_eq_true rfl)⟩ (Nat.le_of_ble_eq_true rfl) (mu_1 X htp R w0.1) (fun r_102 h_102 q_102 => ?_)
      obtain ⟨e_102, R_102⟩ := q_102
      rw [e_102]
      refine k_aload_n (pc' := 106) dX11_readTithe_105 rfl rfl ?_
      refine k_iload_n (pc' := 107) dX11_readTithe_106 rfl rfl ?_
      refine k_iconst (pc' := 108) (v := 1) dX11_readTithe_107 rfl (by decide) ?_
      refine k_icmp_ne (pc' := 111) (tg := 115) dX11_readTithe_108 rfl (by decide) (fun c_108 => ?_) (fun c_108 => ?_)
      · skip
        refine k_lconst (pc' := 116) (v := 0) dX11_readTithe_115 rfl (by decide) ?_
        refine k_ldc2 (pc' := 119) dX11_readTithe_116 rfl kc_RX11_202 ?_
        refine k_callV2 (pc' := 122) dX11_readTithe_119 rfl ml_RX11_226 rfl rfl ⟨(Nat.le_of_ble_eq_true rfl), (Nat.le_of_ble_eq_true rfl)⟩ (Nat.le_of_ble_eq_true rfl) (nu_ok X htp (lo := 0) (hg := 10000) (by decide) (by decide) (by decide) R_102) (fun r_119 h_119 q_119 => ?_)
        rcases q_119 with ⟨n_119, e_119, R_119⟩ | ⟨n_119, ⟨x_119, e_119⟩, B_119⟩
        rotate_left
        · rw [e_119]
          exact rb_122 X htp B_119 ⟨rfl, PM_b (by unfold oOne oPt; rw [cIf_neg hf, cIf_pos w0, cIf_neg n_119]) B_119⟩
        rw [e_119]
        refine k_istore_n (pc' := 123) (k0 := 0) (ls' := [_, _, _, _, _]) dX11_readTithe_122 rfl (by decide) rfl ?_
        refine k_iconst (pc' := 124) (v := 0) dX11_readTithe_123 rfl (by decide) ?_
        refine k_istore_n (pc' := 125) (k0 := 0) (ls' := [_, _, _, _, _]) dX11_readTithe_124 rfl (by decide) rfl ?_
        refine k_iconst (pc' := 126) (v := 0) dX11_readTithe_125 rfl (by decide) ?_
        refine k_istore (pc' := 128) (k0 := 0) (ls' := [_, _, _, _, _]) dX11_readTithe_126 rfl (by decide) rfl ?_
        refine k_iload_n (pc' := 129) dX11_readTithe_128 rfl rfl ?_
        refine k_if_ne (pc' := 132) (tg := 169) dX11_readTithe_129 rfl (by decide) (fun c_129 => ?_) (fun c_129 => ?_)
        · exfalso
          exact c_129 (by decide)
        · skip
          refine k_aload_n (pc' := 133) dX11_readTithe_132 rfl rfl ?_
          refine k_aload_n (pc' := 134) dX11_readTithe_133 rfl rfl ?_
          refine k_bipush (pc' := 136) (v := 111) dX11_readTithe_134 rfl (by decide) ?_
          refine k_bipush (pc' := 138) (v := 102) dX11_readTithe_136 rfl (by decide) ?_
          refine k_iconst (pc' := 139) (v := 0) dX11_readTithe_138 rfl (by decide) ?_
          refine k_iconst (pc' := 140) (v := 0) dX11_readTithe_139 rfl (by decide) ?_
          refine k_iconst (pc' := 141) (v := 0) dX11_readTithe_140 rfl (by decide) ?_
          refine k_callV5 (pc' := 144) dX11_readTithe_141 rfl ml_RX11_219 rfl rfl ⟨(Nat.le_of_ble_eq_true rfl), (Nat.le_of_ble_eq_true rfl)⟩ (Nat.le_of_ble_eq_true rfl) (iw_1 X htp R_119) (fun r_141 h_141 q_141 => ?_)
          rcases q_141 with ⟨w_1, e_141, g_141⟩ | ⟨w_1, e_141, g_141⟩
          rotate_left
          · rw [e_141, g_141]
            refine k_callV1 (pc' := 147) dX11_readTithe_144 rfl ml_RX11_215 rfl rfl ⟨(Nat.le_of_ble_eq_true rfl), (Nat.le_of_ble_eq_true rfl)⟩ (Nat.le_of_ble_eq_true rfl) (mu_0 X htp R_119) (fun r_144 h_144 q_144 => ?_)
            obtain ⟨e_144, B_144⟩ := q_144
            rw [e_144]
            exact rb_147 X htp B_144 ⟨rfl, PM_b (by unfold oOne oPt; rw [cIf_neg hf, cIf_pos w0, cIf_pos n_119, cIf_neg w_1]) B_144⟩
          rw [e_141, g_141]
          refine k_callV1 (pc' := 147) dX11_readTithe_144 rfl ml_RX11_215 rfl rfl ⟨(Nat.le_of_ble_eq_true rfl), (Nat.le_of_ble_eq_true rfl)⟩ (Nat.le_of_ble_eq_true rfl) (mu_1 X htp R_119 w_1.1) (fun r_144 h_144 q_144 => ?_)
          obtain ⟨e_144, R_144⟩ := q_144
          rw [e_144]
          refine k_aload_n (pc' := 148) dX11_readTithe_147 rfl rfl ?_
          refine k_iload_n (pc' := 149) dX11_readTithe_148 rfl rfl ?_
          refine k_iconst (pc' := 150) (v := 1) dX11_readTithe_149 rfl (by decide) ?_
          refine k_icmp_ge (pc' := 153) (tg := 157) dX11_readTithe_150 rfl (by decide) (fun c_150 => ?_) (fun c_150 => ?_)
          · skip
            refine k_iload_n (pc' := 158) dX11_readTithe_157 rfl rfl ?_
            refine k_i2l (pc' := 159) dX11_readTithe_158 rfl ?_
            refine k_ldc2 (pc' := 162) dX11_readTithe_159 rfl kc_RX11_202 ?_
            refine k_callV2 (pc' := 165) dX11_readTithe_162 rfl ml_RX11_226 rfl rfl ⟨(Nat.le_of_ble_eq_true rfl), (Nat.le_of_ble_eq_true rfl)⟩ (Nat.le_of_ble_eq_true rfl) (nu_ok X htp (lo := (if vXt β sN eN (t + 1) < 1 then 1 else vXt β sN eN (t + 1))) (hg := 10000) (by decide) (by rw [if_neg (fun z => by rw [k_le] at c_150; rw [k_lt] at z; omega), k_il]) (by decide) R_144) (fun r_162 h_162 q_162 => ?_)
            rcases q_162 with ⟨n_162, e_162, R_162⟩ | ⟨n_162, ⟨x_162, e_162⟩, B_162⟩
            rotate_left
            · rw [e_162]
              exact rb_165 X htp B_162 ⟨rfl, PM_b (by unfold oOne oPt; rw [cIf_neg hf, cIf_pos w0, cIf_pos n_119, cIf_pos w_1, cIf_neg n_162]) B_162⟩
            rw [e_162]
            refine k_istore_n (pc' := 166) (k0 := 0) (ls' := [_, _, _, _, _]) dX11_readTithe_165 rfl (by decide) rfl ?_
            refine k_goto (tg := 237) dX11_readTithe_166 (by decide) ?_
            exact rg_237 R_162 (by omega) (fun κ2 R2 => ⟨rfl, PM_g (by unfold oOne oPt; rw [cIf_neg hf, cIf_pos w0, cIf_pos n_119, cIf_pos w_1, cIf_pos n_162]) R2⟩)
          · skip
            refine k_lconst (pc' := 154) (v := 1) dX11_readTithe_153 rfl (by decide) ?_
            refine k_goto (tg := 159) dX11_readTithe_154 (by decide) ?_
            refine k_ldc2 (pc' := 162) dX11_readTithe_159 rfl kc_RX11_202 ?_
            refine k_callV2 (pc' := 165) dX11_readTithe_162 rfl ml_RX11_226 rfl rfl ⟨(Nat.le_of_ble_eq_true rfl), (Nat.le_of_ble_eq_true rfl)⟩ (Nat.le_of_ble_eq_true rfl) (nu_ok X htp (lo := (if vXt β sN eN (t + 1) < 1 then 1 else vXt β sN eN (t + 1))) (hg := 10000) (by decide) (by rw [if_pos (by rw [k_le] at c_150; rw [k_lt]; omega)]; decide) (by decide) R_144) (fun r_162 h_162 q_162 => ?_)
            rcases q_162 with ⟨n_162, e_162, R_162⟩ | ⟨n_162, ⟨x_162, e_162⟩, B_162⟩
            rotate_left
            · rw [e_162]
              exact rb_165 X htp B_162 ⟨rfl, PM_b (by unfold oOne oPt; rw [cIf_neg hf, cIf_pos w0, cIf_pos n_119, cIf_pos w_1, cIf_neg n_162]) B_162⟩
            rw [e_162]
            refine k_istore_n (pc' := 166) (k0 := 0) (ls' := [_, _, _, _, _]) dX11_readTithe_165 rfl (by decide) rfl ?_
            refine k_goto (tg := 237) dX11_readTithe_166 (by decide) ?_
            exact rg_237 R_162 (by omega) (fun κ2 R2 => ⟨rfl, PM_g (by unfold oOne oPt; rw [cIf_neg hf, cIf_pos w0, cIf_pos n_119, cIf_pos w_1, cIf_pos n_162]) R2⟩)
      · exfalso
        exact absurd c_108 (by decide)

set_option maxHeartbeats 400000 in
set_option maxRecDepth 100000 in
theorem rb_199 {i1 i2 x : Int32} {i3 i4 : kV} {ν κ β : kH} {L T t : Nat} {sN eN : Nat → Nat} (X : LX β (ν.1 61) L T sN eN) (htp : ν.1 46 27 = nI L) (Bd : BS ν L T sN t κ) {Q : kV → kH → Prop} (hQ : Q ku κ) : At kX11_readTithe 199 [kr 46, ki i1, ki i2, i3, i4] [ki x] κ (kRet kX11_readTithe Q) := by
  refine k_istore_n (pc' := 200) (k0 := 0) (ls' := [_, _, _, _, _]) dX11_readTithe_199 rfl (by decide) rfl ?_
  refine k_aload_n (pc' := 201) dX11_readTithe_200 rfl rfl ?_
  refine k_getZ (pc' := 204) fl_RX11_208 dX11_readTithe_201 rfl rfl rfl ?_
  rw [Bd.2.1]
  refine k_if_ne (pc' := 207) (tg := 237) dX11_readTithe_204 rfl (by decide) (fun c_204 => ?_) (fun c_204 => ?_)
  · skip
    exact rb_237 Bd.2.1 hQ
  · exfalso
    exact absurd c_204 (by decide)

set_option maxHeartbeats 400000 in
set_option maxRecDepth 100000 in
theorem rb_235 {i1 i2 i3 x : Int32} {i4 : kV} {ν κ β : kH} {L T t : Nat} {sN eN : Nat → Nat} (X : LX β (ν.1 61) L T sN eN) (htp : ν.1 46 27 = nI L) (Bd : BS ν L T sN t κ) {Q : kV → kH → Prop} (hQ : Q ku κ) : At kX11_readTithe 235 [kr 46, ki i1, ki i2, ki i3, i4] [ki x] κ (kRet kX11_readTithe Q) := by
  refine k_istore (pc' := 237) (k0 := 0) (ls' := [_, _, _, _, _]) dX11_readTithe_235 rfl (by decide) rfl ?_
  exact rb_237 Bd.2.1 hQ

set_option maxHeartbeats 400000 in
set_option maxRecDepth 100000 in
theorem rt_1 {ν κ β : kH} {L T n t : Nat} {sN eN : Nat → Nat} {g : Nat → Int32} (X : LX β (ν.1 61) L T sN eN) (htp : ν.1 46 27 = nI L) (hn20 : n ≤ 20) (R : RS ν L T sN eN n g t κ) (w0 : ¬ wX β T sN eN 0 t) (w2 : wX β T sN eN 2 t) : At kX11_readTithe 82 [kr 46, ku, ku, ku, ku] [ki 1] κ (kRet kX11_readTithe (fun r h' => r = ku ∧ PM ν L T sN eN n g (oOne β T sN eN n t) h')) := by
  refine k_istore_n (pc' := 83) (k0 := 0) (ls' := [_, _, _, _, _]) dX11_readTithe_82 rfl (by decide) rfl ?_
  refine k_aload_n (pc' := 84) dX11_readTithe_83 rfl rfl ?_
  refine k_iload_n (pc' := 85) dX11_readTithe_84 rfl rfl ?_
  refine k_if_lt (pc' := 88) (tg := 101) dX11_readTithe_85 rfl (by decide) (fun c_85 => ?_) (fun c_85 => ?_)
  · exfalso
    exact absurd c_85 (by decide)
  · skip
    refine k_aload_n (pc' := 89) dX11_readTithe_88 rfl rfl ?_
    refine k_getI (pc' := 92) fl_RX11_223 dX11_readTithe_89 rfl rfl rfl ?_
    refine k_bipush (pc' := 94) (v := 20) dX11_readTithe_92 rfl (by decide) ?_
    rw [R.2.2.1]
    refine k_icmp_ge (pc' := 97) (tg := 101) dX11_readTithe_94 rfl (by decide) (fun c_94 => ?_) (fun c_94 => ?_)
    · skip
      have hf : 20 ≤ n := by
        rcases Nat.lt_or_ge n 20 with z | z
        · exact absurd c_94 (nI_ge z (by decide))
        · exact z
      refine k_iconst (pc' := 102) (v := 0) dX11_readTithe_101 rfl (by decide) ?_
      refine k_callV1 (pc' := 105) dX11_readTithe_102 rfl ml_RX11_215 rfl rfl ⟨(Nat.le_of_ble_eq_true rfl), (Nat.le_of_ble_eq_true rfl)⟩ (Nat.le_of_ble_eq_true rfl) (mu_0 X htp R) (fun r_102 h_102 q_102 => ?_)
      obtain ⟨e_102, B_102⟩ := q_102
      rw [e_102]
      exact rb_105 X htp B_102 ⟨rfl, PM_b (by unfold oOne; rw [cIf_pos hf]) B_102⟩
    · skip
      have hf : ¬ 20 ≤ n := fun z => c_94 (nI_le (a := 20) z (by omega))
      refine k_iconst (pc' := 98) (v := 1) dX11_readTithe_97 rfl (by decide) ?_
      refine k_goto (tg := 102) dX11_readTithe_98 (by decide) ?_
      refine k_callV1 (pc' := 105) dX11_readTithe_102 rfl ml_RX11_215 rfl rfl ⟨(Nat.le_of_ble_eq_true rfl), (Nat.le_of_ble_eq_true rfl)⟩ (Nat.le_of_ble_eq_true rfl) (mu_1 X htp R w2.1) (fun r_102 h_102 q_102 => ?_)
      obtain ⟨e_102, R_102⟩ := q_102
      rw [e_102]
      refine k_aload_n (pc' := 106) dX11_readTithe_105 rfl rfl ?_
      refine k_iload_n (pc' := 107) dX11_readTithe_106 rfl rfl ?_
      refine k_iconst (pc' := 108) (v := 1) dX11_readTithe_107 rfl (by decide) ?_
      refine k_icmp_ne (pc' := 111) (tg := 115) dX11_readTithe_108 rfl (by decide) (fun c_108 => ?_) (fun c_108 => ?_)
      · exfalso
        exact c_108 (by decide)
      · skip
        refine k_lconst (pc' := 112) (v := 1) dX11_readTithe_111 rfl (by decide) ?_
        refine k_goto (tg := 116) dX11_readTithe_112 (by decide) ?_
        refine k_ldc2 (pc' := 119) dX11_readTithe_116 rfl kc_RX11_202 ?_
        refine k_callV2 (pc' := 122) dX11_readTithe_119 rfl ml_RX11_226 rfl rfl ⟨(Nat.le_of_ble_eq_true rfl), (Nat.le_of_ble_eq_true rfl)⟩ (Nat.le_of_ble_eq_true rfl) (nu_ok X htp (lo := 1) (hg := 10000) (by decide) (by decide) (by decide) R_102) (fun r_119 h_119 q_119 => ?_)
        rcases q_119 with ⟨n_119, e_119, R_119⟩ | ⟨n_119, ⟨x_119, e_119⟩, B_119⟩
        rotate_left
        · rw [e_119]
          exact rb_122 X htp B_119 ⟨rfl, PM_b (by unfold oOne oVn; rw [cIf_neg hf, cIf_neg w0, cIf_pos w2, cIf_neg n_119]) B_119⟩
        rw [e_119]
        refine k_istore_n (pc' := 123) (k0 := 0) (ls' := [_, _, _, _, _]) dX11_readTithe_122 rfl (by decide) rfl ?_
        refine k_iconst (pc' := 124) (v := 0) dX11_readTithe_123 rfl (by decide) ?_
        refine k_istore_n (pc' := 125) (k0 := 0) (ls' := [_, _, _, _, _]) dX11_readTithe_124 rfl (by decide) rfl ?_
        refine k_iconst (pc' := 126) (v := 0) dX11_readTithe_125 rfl (by decide) ?_
        refine k_istore (pc' := 128) (k0 := 0) (ls' := [_, _, _, _, _]) dX11_readTithe_126 rfl (by decide) rfl ?_
        refine k_iload_n (pc' := 129) dX11_readTithe_128 rfl rfl ?_
        refine k_if_ne (pc' := 132) (tg := 169) dX11_readTithe_129 rfl (by decide) (fun c_129 => ?_) (fun c_129 => ?_)
        · skip
          refine k_iload_n (pc' := 170) dX11_readTithe_169 rfl rfl ?_
          refine k_iconst (pc' := 171) (v := 1) dX11_readTithe_170 rfl (by decide) ?_
          refine k_icmp_ne (pc' := 174) (tg := 237) dX11_readTithe_171 rfl (by decide) (fun c_171 => ?_) (fun c_171 => ?_)
          · exfalso
            exact c_171 (by decide)
          · skip
            refine k_aload_n (pc' := 175) dX11_readTithe_174 rfl rfl ?_
            refine k_aload_n (pc' := 176) dX11_readTithe_175 rfl rfl ?_
            refine k_bipush (pc' := 178) (v := 101) dX11_readTithe_176 rfl (by decide) ?_
            refine k_bipush (pc' := 180) (v := 97) dX11_readTithe_178 rfl (by decide) ?_
            refine k_bipush (pc' := 182) (v := 99) dX11_readTithe_180 rfl (by decide) ?_
            refine k_bipush (pc' := 184) (v := 104) dX11_readTithe_182 rfl (by decide) ?_
            refine k_iconst (pc' := 185) (v := 0) dX11_readTithe_184 rfl (by decide) ?_
            refine k_callV5 (pc' := 188) dX11_readTithe_185 rfl ml_RX11_219 rfl rfl ⟨(Nat.le_of_ble_eq_true rfl), (Nat.le_of_ble_eq_true rfl)⟩ (Nat.le_of_ble_eq_true rfl) (iw_3 X htp R_119) (fun r_185 h_185 q_185 => ?_)
            rcases q_185 with ⟨w_1, e_185, g_185⟩ | ⟨w_1, e_185, g_185⟩
            rotate_left
            · rw [e_185, g_185]
              refine k_callV1 (pc' := 191) dX11_readTithe_188 rfl ml_RX11_215 rfl rfl ⟨(Nat.le_of_ble_eq_true rfl), (Nat.le_of_ble_eq_true rfl)⟩ (Nat.le_of_ble_eq_true rfl) (mu_0 X htp R_119) (fun r_188 h_188 q_188 => ?_)
              obtain ⟨e_188, B_188⟩ := q_188
              rw [e_188]
              exact rb_191 X htp B_188 ⟨rfl, PM_b (by unfold oOne oVn; rw [cIf_neg hf, cIf_neg w0, cIf_pos w2, cIf_pos n_119, cIf_neg w_1]) B_188⟩
            rw [e_185, g_185]
            refine k_callV1 (pc' := 191) dX11_readTithe_188 rfl ml_RX11_215 rfl rfl ⟨(Nat.le_of_ble_eq_true rfl), (Nat.le_of_ble_eq_true rfl)⟩ (Nat.le_of_ble_eq_true rfl) (mu_1 X htp R_119 w_1.1) (fun r_188 h_188 q_188 => ?_)
            obtain ⟨e_188, R_188⟩ := q_188
            rw [e_188]
            refine k_aload_n (pc' := 192) dX11_readTithe_191 rfl rfl ?_
            refine k_lconst (pc' := 193) (v := 0) dX11_readTithe_192 rfl (by decide) ?_
            refine k_ldc2 (pc' := 196) dX11_readTithe_193 rfl kc_RX11_202 ?_
            refine k_callV2 (pc' := 199) dX11_readTithe_196 rfl ml_RX11_226 rfl rfl ⟨(Nat.le_of_ble_eq_true rfl), (Nat.le_of_ble_eq_true rfl)⟩ (Nat.le_of_ble_eq_true rfl) (nu_ok X htp (lo := 0) (hg := 10000) (by decide) (by decide) (by decide) R_188) (fun r_196 h_196 q_196 => ?_)
            rcases q_196 with ⟨n_196, e_196, R_196⟩ | ⟨n_196, ⟨x_196, e_196⟩, B_196⟩
            rotate_left
            · rw [e_196]
              exact rb_199 X htp B_196 ⟨rfl, PM_b (by unfold oOne oVn; rw [cIf_neg hf, cIf_neg w0, cIf_pos w2, cIf_pos n_119, cIf_pos w_1, cIf_neg n_196]) B_196⟩
            rw [e_196]
            refine k_istore_n (pc' := 200) (k0 := 0) (ls' := [_, _, _, _, _]) dX11_readTithe_199 rfl (by decide) rfl ?_
            refine k_aload_n (pc' := 201) dX11_readTithe_200 rfl rfl ?_
            refine k_getZ (pc' := 204) fl_RX11_208 dX11_readTithe_201 rfl rfl rfl ?_
            rw [R_196.2.1]
            refine k_if_ne (pc' := 207) (tg := 237) dX11_readTithe_204 rfl (by decide) (fun c_204 => ?_) (fun c_204 => ?_)
            · exfalso
              exact c_204 rfl
            · skip
              refine k_aload_n (pc' := 208) dX11_readTithe_207 rfl rfl ?_
              refine k_bipush (pc' := 210) (v := 102) dX11_readTithe_208 rfl (by decide) ?_
              refine k_bipush (pc' := 212) (v := 114) dX11_readTithe_210 rfl (by decide) ?_
              refine k_bipush (pc' := 214) (v := 111) dX11_readTithe_212 rfl (by decide) ?_
              refine k_bipush (pc' := 216) (v := 109) dX11_readTithe_214 rfl (by decide) ?_
              refine k_iconst (pc' := 217) (v := 0) dX11_readTithe_216 rfl (by decide) ?_
              refine k_callV5 (pc' := 220) dX11_readTithe_217 rfl ml_RX11_219 rfl rfl ⟨(Nat.le_of_ble_eq_true rfl), (Nat.le_of_ble_eq_true rfl)⟩ (Nat.le_of_ble_eq_true rfl) (iw_4 X htp R_196) (fun r_217 h_217 q_217 => ?_)
              rcases q_217 with ⟨w_4, e_217, g_217⟩ | ⟨w_4, e_217, g_217⟩
              · rw [e_217, g_217]
                refine k_if_eq (pc' := 223) (tg := 237) dX11_readTithe_220 rfl (by decide) (fun c_220 => ?_) (fun c_220 => ?_)
                · exfalso
                  exact absurd c_220 (by decide)
                · skip
                  refine k_aload_n (pc' := 224) dX11_readTithe_223 rfl rfl ?_
                  refine k_callV0 (pc' := 227) dX11_readTithe_224 rfl ml_RX11_212 rfl rfl ⟨(Nat.le_of_ble_eq_true rfl), (Nat.le_of_ble_eq_true rfl)⟩ (Nat.le_of_ble_eq_true rfl) (nt_ok X htp R_196 w_4.1) (fun r_224 h_224 q_224 => ?_)
                  obtain ⟨e_224, R_224⟩ := q_224
                  rw [e_224]
                  refine k_aload_n (pc' := 228) dX11_readTithe_227 rfl rfl ?_
                  refine k_lconst (pc' := 229) (v := 0) dX11_readTithe_228 rfl (by decide) ?_
                  refine k_ldc2 (pc' := 232) dX11_readTithe_229 rfl kc_RX11_116 ?_
                  refine k_callV2 (pc' := 235) dX11_readTithe_232 rfl ml_RX11_226 rfl rfl ⟨(Nat.le_of_ble_eq_true rfl), (Nat.le_of_ble_eq_true rfl)⟩ (Nat.le_of_ble_eq_true rfl) (nu_ok X htp (lo := 0) (hg := 24) (by decide) (by decide) (by decide) R_224) (fun r_232 h_232 q_232 => ?_)
                  rcases q_232 with ⟨n_232, e_232, R_232⟩ | ⟨n_232, ⟨x_232, e_232⟩, B_232⟩
                  rotate_left
                  · rw [e_232]
                    exact rb_235 X htp B_232 ⟨rfl, PM_b (by unfold oOne oVn; rw [cIf_neg hf, cIf_neg w0, cIf_pos w2, cIf_pos n_119, cIf_pos w_1, cIf_pos n_196, cIf_pos w_4, cIf_neg n_232]) B_232⟩
                  rw [e_232]
                  refine k_istore (pc' := 237) (k0 := 0) (ls' := [_, _, _, _, _]) dX11_readTithe_235 rfl (by decide) rfl ?_
                  exact rg_237 R_232 (by omega) (fun κ2 R2 => ⟨rfl, PM_g (by unfold oOne oVn; rw [cIf_neg hf, cIf_neg w0, cIf_pos w2, cIf_pos n_119, cIf_pos w_1, cIf_pos n_196, cIf_pos w_4, cIf_pos n_232]) R2⟩)
              rw [e_217, g_217]
              refine k_if_eq (pc' := 223) (tg := 237) dX11_readTithe_220 rfl (by decide) (fun c_220 => ?_) (fun c_220 => ?_)
              · skip
                exact rg_237 R_196 (by omega) (fun κ2 R2 => ⟨rfl, PM_g (by unfold oOne oVn; rw [cIf_neg hf, cIf_neg w0, cIf_pos w2, cIf_pos n_119, cIf_pos w_1, cIf_pos n_196, cIf_neg w_4]) R2⟩)
              · exfalso
                exact c_220 rfl
        · exfalso
          exact absurd c_129 (by decide)

set_option maxHeartbeats 400000 in
set_option maxRecDepth 100000 in
theorem rt_2 {ν κ β : kH} {L T n t : Nat} {sN eN : Nat → Nat} {g : Nat → Int32} (X : LX β (ν.1 61) L T sN eN) (htp : ν.1 46 27 = nI L) (hn20 : n ≤ 20) (R : RS ν L T sN eN n g t κ) (w0 : ¬ wX β T sN eN 0 t) (w2 : ¬ wX β T sN eN 2 t) (w5 : wX β T sN eN 5 t) : At kX11_readTithe 82 [kr 46, ku, ku, ku, ku] [ki 2] κ (kRet kX11_readTithe (fun r h' => r = ku ∧ PM ν L T sN eN n g (oOne β T sN eN n t) h')) := by
  refine k_istore_n (pc' := 83) (k0 := 0) (ls' := [_, _, _, _, _]) dX11_readTithe_82 rfl (by decide) rfl ?_
  refine k_aload_n (pc' := 84) dX11_readTithe_83 rfl rfl ?_
  refine k_iload_n (pc' := 85) dX11_readTithe_84 rfl rfl ?_
  refine k_if_lt (pc' := 88) (tg := 101) dX11_readTithe_85 rfl (by decide) (fun c_85 => ?_) (fun c_85 => ?_)
  · exfalso
    exact absurd c_85 (by decide)
  · skip
    refine k_aload_n (pc' := 89) dX11_readTithe_88 rfl rfl ?_
    refine k_getI (pc' := 92) fl_RX11_223 dX11_readTithe_89 rfl rfl rfl ?_
    refine k_bipush (pc' := 94) (v := 20) dX11_readTithe_92 rfl (by decide) ?_
    rw [R.2.2.1]
    refine k_icmp_ge (pc' := 97) (tg := 101) dX11_readTithe_94 rfl (by decide) (fun c_94 => ?_) (fun c_94 => ?_)
    · skip
      have hf : 20 ≤ n := by
        rcases Nat.lt_or_ge n 20 with z | z
        · exact absurd c_94 (nI_ge z (by decide))
        · exact z
      refine k_iconst (pc' := 102) (v := 0) dX11_readTithe_101 rfl (by decide) ?_
      refine k_callV1 (pc' := 105) dX11_readTithe_102 rfl ml_RX11_215 rfl rfl ⟨(Nat.le_of_ble_eq_true rfl), (Nat.le_of_ble_eq_true rfl)⟩ (Nat.le_of_ble_eq_true rfl) (mu_0 X htp R) (fun r_102 h_102 q_102 => ?_)
      obtain ⟨e_102, B_102⟩ := q_102
      rw [e_102]
      exact rb_105 X htp B_102 ⟨rfl, PM_b (by unfold oOne; rw [cIf_pos hf]) B_102⟩
    · skip
      have hf : ¬ 20 ≤ n := fun z => c_94 (nI_le (a := 20) z (by omega))
      refine k_iconst (pc' := 98) (v := 1) dX11_readTithe_97 rfl (by decide) ?_
      refine k_goto (tg := 102) dX11_readTithe_98 (by decide) ?_
      refine k_callV1 (pc' := 105) dX11_readTithe_102 rfl ml_RX11_215 rfl rfl ⟨(Nat.le_of_ble_eq_true rfl), (Nat.le_of_ble_eq_true rfl)⟩ (Nat.le_of_ble_eq_true rfl) (mu_1 X htp R w5.1) (fun r_102 h_102 q_102 => ?_)
      obtain ⟨e_102, R_102⟩ := q_102
      rw [e_102]
      refine k_aload_n (pc' := 106) dX11_readTithe_105 rfl rfl ?_
      refine k_iload_n (pc' := 107) dX11_readTithe_106 rfl rfl ?_
      refine k_iconst (pc' := 108) (v := 1) dX11_readTithe_107 rfl (by decide) ?_
      refine k_icmp_ne (pc' := 111) (tg := 115) dX11_readTithe_108 rfl (by decide) (fun c_108 => ?_) (fun c_108 => ?_)
      · skip
        refine k_lconst (pc' := 116) (v := 0) dX11_readTithe_115 rfl (by decide) ?_
        refine k_ldc2 (pc' := 119) dX11_readTithe_116 rfl kc_RX11_202 ?_
        refine k_callV2 (pc' := 122) dX11_readTithe_119 rfl ml_RX11_226 rfl rfl ⟨(Nat.le_of_ble_eq_true rfl), (Nat.le_of_ble_eq_true rfl)⟩ (Nat.le_of_ble_eq_true rfl) (nu_ok X htp (lo := 0) (hg := 10000) (by decide) (by decide) (by decide) R_102) (fun r_119 h_119 q_119 => ?_)
        rcases q_119 with ⟨n_119, e_119, R_119⟩ | ⟨n_119, ⟨x_119, e_119⟩, B_119⟩
        rotate_left
        · rw [e_119]
          exact rb_122 X htp B_119 ⟨rfl, PM_b (by unfold oOne oSg; rw [cIf_neg hf, cIf_neg w0, cIf_neg w2, cIf_pos w5, cIf_neg n_119]) B_119⟩
        rw [e_119]
        refine k_istore_n (pc' := 123) (k0 := 0) (ls' := [_, _, _, _, _]) dX11_readTithe_122 rfl (by decide) rfl ?_
        refine k_iconst (pc' := 124) (v := 0) dX11_readTithe_123 rfl (by decide) ?_
        refine k_istore_n (pc' := 125) (k0 := 0) (ls' := [_, _, _, _, _]) dX11_readTithe_124 rfl (by decide) rfl ?_
        refine k_iconst (pc' := 126) (v := 0) dX11_readTithe_125 rfl (by decide) ?_
        refine k_istore (pc' := 128) (k0 := 0) (ls' := [_, _, _, _, _]) dX11_readTithe_126 rfl (by decide) rfl ?_
        refine k_iload_n (pc' := 129) dX11_readTithe_128 rfl rfl ?_
        refine k_if_ne (pc' := 132) (tg := 169) dX11_readTithe_129 rfl (by decide) (fun c_129 => ?_) (fun c_129 => ?_)
        · skip
          refine k_iload_n (pc' := 170) dX11_readTithe_169 rfl rfl ?_
          refine k_iconst (pc' := 171) (v := 1) dX11_readTithe_170 rfl (by decide) ?_
          refine k_icmp_ne (pc' := 174) (tg := 237) dX11_readTithe_171 rfl (by decide) (fun c_171 => ?_) (fun c_171 => ?_)
          · skip
            exact rg_237 R_119 (by omega) (fun κ2 R2 => ⟨rfl, PM_g (by unfold oOne oSg; rw [cIf_neg hf, cIf_neg w0, cIf_neg w2, cIf_pos w5, cIf_pos n_119]) R2⟩)
          · exfalso
            exact absurd c_171 (by decide)
        · exfalso
          exact absurd c_129 (by decide)
      · exfalso
        exact absurd c_108 (by decide)

set_option maxHeartbeats 400000 in
set_option maxRecDepth 100000 in
theorem rt_3 {ν κ β : kH} {L T n t : Nat} {sN eN : Nat → Nat} {g : Nat → Int32} (X : LX β (ν.1 61) L T sN eN) (htp : ν.1 46 27 = nI L) (hn20 : n ≤ 20) (R : RS ν L T sN eN n g t κ) (w0 : ¬ wX β T sN eN 0 t) (w2 : ¬ wX β T sN eN 2 t) (w5 : ¬ wX β T sN eN 5 t) (w6 : wX β T sN eN 6 t) : At kX11_readTithe 82 [kr 46, ku, ku, ku, ku] [ki 3] κ (kRet kX11_readTithe (fun r h' => r = ku ∧ PM ν L T sN eN n g (oOne β T sN eN n t) h')) := by
  refine k_istore_n (pc' := 83) (k0 := 0) (ls' := [_, _, _, _, _]) dX11_readTithe_82 rfl (by decide) rfl ?_
  refine k_aload_n (pc' := 84) dX11_readTithe_83 rfl rfl ?_
  refine k_iload_n (pc' := 85) dX11_readTithe_84 rfl rfl ?_
  refine k_if_lt (pc' := 88) (tg := 101) dX11_readTithe_85 rfl (by decide) (fun c_85 => ?_) (fun c_85 => ?_)
  · exfalso
    exact absurd c_85 (by decide)
  · skip
    refine k_aload_n (pc' := 89) dX11_readTithe_88 rfl rfl ?_
    refine k_getI (pc' := 92) fl_RX11_223 dX11_readTithe_89 rfl rfl rfl ?_
    refine k_bipush (pc' := 94) (v := 20) dX11_readTithe_92 rfl (by decide) ?_
    rw [R.2.2.1]
    refine k_icmp_ge (pc' := 97) (tg := 101) dX11_readTithe_94 rfl (by decide) (fun c_94 => ?_) (fun c_94 => ?_)
    · skip
      have hf : 20 ≤ n := by
        rcases Nat.lt_or_ge n 20 with z | z
        · exact absurd c_94 (nI_ge z (by decide))
        · exact z
      refine k_iconst (pc' := 102) (v := 0) dX11_readTithe_101 rfl (by decide) ?_
      refine k_callV1 (pc' := 105) dX11_readTithe_102 rfl ml_RX11_215 rfl rfl ⟨(Nat.le_of_ble_eq_true rfl), (Nat.le_of_ble_eq_true rfl)⟩ (Nat.le_of_ble_eq_true rfl) (mu_0 X htp R) (fun r_102 h_102 q_102 => ?_)
      obtain ⟨e_102, B_102⟩ := q_102
      rw [e_102]
      exact rb_105 X htp B_102 ⟨rfl, PM_b (by unfold oOne; rw [cIf_pos hf]) B_102⟩
    · skip
      have hf : ¬ 20 ≤ n := fun z => c_94 (nI_le (a := 20) z (by omega))
      refine k_iconst (pc' := 98) (v := 1) dX11_readTithe_97 rfl (by decide) ?_
      refine k_goto (tg := 102) dX11_readTithe_98 (by decide) ?_
      refine k_callV1 (pc' := 105) dX11_readTithe_102 rfl ml_RX11_215 rfl rfl ⟨(Nat.le_of_ble_eq_true rfl), (Nat.le_of_ble_eq_true rfl)⟩ (Nat.le_of_ble_eq_true rfl) (mu_1 X htp R w6.1) (fun r_102 h_102 q_102 => ?_)
      obtain ⟨e_102, R_102⟩ := q_102
      rw [e_102]
      refine k_aload_n (pc' := 106) dX11_readTithe_105 rfl rfl ?_
      refine k_iload_n (pc' := 107) dX11_readTithe_106 rfl rfl ?_
      refine k_iconst (pc' := 108) (v := 1) dX11_readTithe_107 rfl (by decide) ?_
      refine k_icmp_ne (pc' := 111) (tg := 115) dX11_readTithe_108 rfl (by decide) (fun c_108 => ?_) (fun c_108 => ?_)
      · skip
        refine k_lconst (pc' := 116) (v := 0) dX11_readTithe_115 rfl (by decide) ?_
        refine k_ldc2 (pc' := 119) dX11_readTithe_116 rfl kc_RX11_202 ?_
        refine k_callV2 (pc' := 122) dX11_readTithe_119 rfl ml_RX11_226 rfl rfl ⟨(Nat.le_of_ble_eq_true rfl), (Nat.le_of_ble_eq_true rfl)⟩ (Nat.le_of_ble_eq_true rfl) (nu_ok X htp (lo := 0) (hg := 10000) (by decide) (by decide) (by decide) R_102) (fun r_119 h_119 q_119 => ?_)
        rcases q_119 with ⟨n_119, e_119, R_119⟩ | ⟨n_119, ⟨x_119, e_119⟩, B_119⟩
        rotate_left
        · rw [e_119]
          exact rb_122 X htp B_119 ⟨rfl, PM_b (by unfold oOne oSg; rw [cIf_neg hf, cIf_neg w0, cIf_neg w2, cIf_neg w5, cIf_pos w6, cIf_neg n_119]) B_119⟩
        rw [e_119]
        refine k_istore_n (pc' := 123) (k0 := 0) (ls' := [_, _, _, _, _]) dX11_readTithe_122 rfl (by decide) rfl ?_
        refine k_iconst (pc' := 124) (v := 0) dX11_readTithe_123 rfl (by decide) ?_
        refine k_istore_n (pc' := 125) (k0 := 0) (ls' := [_, _, _, _, _]) dX11_readTithe_124 rfl (by decide) rfl ?_
        refine k_iconst (pc' := 126) (v := 0) dX11_readTithe_125 rfl (by decide) ?_
        refine k_istore (pc' := 128) (k0 := 0) (ls' := [_, _, _, _, _]) dX11_readTithe_126 rfl (by decide) rfl ?_
        refine k_iload_n (pc' := 129) dX11_readTithe_128 rfl rfl ?_
        refine k_if_ne (pc' := 132) (tg := 169) dX11_readTithe_129 rfl (by decide) (fun c_129 => ?_) (fun c_129 => ?_)
        · skip
          refine k_iload_n (pc' := 170) dX11_readTithe_169 rfl rfl ?_
          refine k_iconst (pc' := 171) (v := 1) dX11_readTithe_170 rfl (by decide) ?_
          refine k_icmp_ne (pc' := 174) (tg := 237) dX11_readTithe_171 rfl (by decide) (fun c_171 => ?_) (fun c_171 => ?_)
          · skip
            exact rg_237 R_119 (by omega) (fun κ2 R2 => ⟨rfl, PM_g (by unfold oOne oSg; rw [cIf_neg hf, cIf_neg w0, cIf_neg w2, cIf_neg w5, cIf_pos w6, cIf_pos n_119]) R2⟩)
          · exfalso
            exact absurd c_171 (by decide)
        · exfalso
          exact absurd c_129 (by decide)
      · exfalso
        exact absurd c_108 (by decide)

set_option maxHeartbeats 400000 in
set_option maxRecDepth 100000 in
theorem ev_readTithe {ν κ β : kH} {L T n t : Nat} {sN eN : Nat → Nat} {g : Nat → Int32} (X : LX β (ν.1 61) L T sN eN) (htp : ν.1 46 27 = nI L) (hn20 : n ≤ 20) (R : RS ν L T sN eN n g t κ) : Ev kX11_readTithe [kr 46] κ (fun r h' => r = ku ∧ PM ν L T sN eN n g (oOne β T sN eN n t) h') := by
  refine k_ev (ls := [_, _, _, _, _]) (by decide) (Nat.le_of_ble_eq_true rfl) rfl ?_
  refine k_aload_n (pc' := 1) dX11_readTithe_0 rfl rfl ?_
  refine k_bipush (pc' := 3) (v := 112) dX11_readTithe_1 rfl (by decide) ?_
  refine k_bipush (pc' := 5) (v := 97) dX11_readTithe_3 rfl (by decide) ?_
  refine k_bipush (pc' := 7) (v := 114) dX11_readTithe_5 rfl (by decide) ?_
  refine k_bipush (pc' := 9) (v := 116) dX11_readTithe_7 rfl (by decide) ?_
  refine k_iconst (pc' := 10) (v := 0) dX11_readTithe_9 rfl (by decide) ?_
  refine k_callV5 (pc' := 13) dX11_readTithe_10 rfl ml_RX11_219 rfl rfl ⟨(Nat.le_of_ble_eq_true rfl), (Nat.le_of_ble_eq_true rfl)⟩ (Nat.le_of_ble_eq_true rfl) (iw_0 X htp R) (fun r_10 h_10 q_10 => ?_)
  rcases q_10 with ⟨w0, e_10, g_10⟩ | ⟨w0, e_10, g_10⟩
  · rw [e_10, g_10]
    refine k_if_eq (pc' := 16) (tg := 20) dX11_readTithe_13 rfl (by decide) (fun c_13 => ?_) (fun c_13 => ?_)
    · exfalso
      exact absurd c_13 (by decide)
    · skip
      refine k_iconst (pc' := 17) (v := 0) dX11_readTithe_16 rfl (by decide) ?_
      refine k_goto (tg := 82) dX11_readTithe_17 (by decide) ?_
      exact rt_0 X htp hn20 R w0
  rw [e_10, g_10]
  refine k_if_eq (pc' := 16) (tg := 20) dX11_readTithe_13 rfl (by decide) (fun c_13 => ?_) (fun c_13 => ?_)
  · skip
    refine k_aload_n (pc' := 21) dX11_readTithe_20 rfl rfl ?_
    refine k_bipush (pc' := 23) (v := 118) dX11_readTithe_21 rfl (by decide) ?_
    refine k_bipush (pc' := 25) (v := 105) dX11_readTithe_23 rfl (by decide) ?_
    refine k_bipush (pc' := 27) (v := 110) dX11_readTithe_25 rfl (by decide) ?_
    refine k_bipush (pc' := 29) (v := 101) dX11_readTithe_27 rfl (by decide) ?_
    refine k_bipush (pc' := 31) (v := 115) dX11_readTithe_29 rfl (by decide) ?_
    refine k_callV5 (pc' := 34) dX11_readTithe_31 rfl ml_RX11_219 rfl rfl ⟨(Nat.le_of_ble_eq_true rfl), (Nat.le_of_ble_eq_true rfl)⟩ (Nat.le_of_ble_eq_true rfl) (iw_2 X htp R) (fun r_31 h_31 q_31 => ?_)
    rcases q_31 with ⟨w2, e_31, g_31⟩ | ⟨w2, e_31, g_31⟩
    · rw [e_31, g_31]
      refine k_if_eq (pc' := 37) (tg := 41) dX11_readTithe_34 rfl (by decide) (fun c_34 => ?_) (fun c_34 => ?_)
      · exfalso
        exact absurd c_34 (by decide)
      · skip
        refine k_iconst (pc' := 38) (v := 1) dX11_readTithe_37 rfl (by decide) ?_
        refine k_goto (tg := 82) dX11_readTithe_38 (by decide) ?_
        exact rt_1 X htp hn20 R w0 w2
    rw [e_31, g_31]
    refine k_if_eq (pc' := 37) (tg := 41) dX11_readTithe_34 rfl (by decide) (fun c_34 => ?_) (fun c_34 => ?_)
    · skip
      refine k_aload_n (pc' := 42) dX11_readTithe_41 rfl rfl ?_
      refine k_bipush (pc' := 44) (v := 102) dX11_readTithe_42 rfl (by decide) ?_
      refine k_bipush (pc' := 46) (v := 114) dX11_readTithe_44 rfl (by decide) ?_
      refine k_bipush (pc' := 48) (v := 101) dX11_readTithe_46 rfl (by decide) ?_
      refine k_bipush (pc' := 50) (v := 101) dX11_readTithe_48 rfl (by decide) ?_
      refine k_iconst (pc' := 51) (v := 0) dX11_readTithe_50 rfl (by decide) ?_
      refine k_callV5 (pc' := 54) dX11_readTithe_51 rfl ml_RX11_219 rfl rfl ⟨(Nat.le_of_ble_eq_true rfl), (Nat.le_of_ble_eq_true rfl)⟩ (Nat.le_of_ble_eq_true rfl) (iw_5 X htp R) (fun r_51 h_51 q_51 => ?_)
      rcases q_51 with ⟨w5, e_51, g_51⟩ | ⟨w5, e_51, g_51⟩
      · rw [e_51, g_51]
        refine k_if_eq (pc' := 57) (tg := 61) dX11_readTithe_54 rfl (by decide) (fun c_54 => ?_) (fun c_54 => ?_)
        · exfalso
          exact absurd c_54 (by decide)
        · skip
          refine k_iconst (pc' := 58) (v := 2) dX11_readTithe_57 rfl (by decide) ?_
          refine k_goto (tg := 82) dX11_readTithe_58 (by decide) ?_
          exact rt_2 X htp hn20 R w0 w2 w5
      rw [e_51, g_51]
      refine k_if_eq (pc' := 57) (tg := 61) dX11_readTithe_54 rfl (by decide) (fun c_54 => ?_) (fun c_54 => ?_)
      · skip
        refine k_aload_n (pc' := 62) dX11_readTithe_61 rfl rfl ?_
        refine k_bipush (pc' := 64) (v := 109) dX11_readTithe_62 rfl (by decide) ?_
        refine k_bipush (pc' := 66) (v := 111) dX11_readTithe_64 rfl (by decide) ?_
        refine k_bipush (pc' := 68) (v := 115) dX11_readTithe_66 rfl (by decide) ?_
        refine k_bipush (pc' := 70) (v := 116) dX11_readTithe_68 rfl (by decide) ?_
        refine k_iconst (pc' := 71) (v := 0) dX11_readTithe_70 rfl (by decide) ?_
        refine k_callV5 (pc' := 74) dX11_readTithe_71 rfl ml_RX11_219 rfl rfl ⟨(Nat.le_of_ble_eq_true rfl), (Nat.le_of_ble_eq_true rfl)⟩ (Nat.le_of_ble_eq_true rfl) (iw_6 X htp R) (fun r_71 h_71 q_71 => ?_)
        rcases q_71 with ⟨w6, e_71, g_71⟩ | ⟨w6, e_71, g_71⟩
        · rw [e_71, g_71]
          refine k_if_eq (pc' := 77) (tg := 81) dX11_readTithe_74 rfl (by decide) (fun c_74 => ?_) (fun c_74 => ?_)
          · exfalso
            exact absurd c_74 (by decide)
          · skip
            refine k_iconst (pc' := 78) (v := 3) dX11_readTithe_77 rfl (by decide) ?_
            refine k_goto (tg := 82) dX11_readTithe_78 (by decide) ?_
            exact rt_3 X htp hn20 R w0 w2 w5 w6
        rw [e_71, g_71]
        refine k_if_eq (pc' := 77) (tg := 81) dX11_readTithe_74 rfl (by decide) (fun c_74 => ?_) (fun c_74 => ?_)
        · skip
          refine k_iconst (pc' := 82) (v := (-1)) dX11_readTithe_81 rfl (by decide) ?_
          exact rt_m1 X htp hn20 R w0 w2 w5 w6
        · exfalso
          exact c_74 rfl
      · exfalso
        exact c_54 rfl
    · exfalso
      exact c_34 rfl
  · exfalso
    exact c_13 rfl

