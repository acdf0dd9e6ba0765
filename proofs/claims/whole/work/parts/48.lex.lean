def pE (eN : Nat → Nat) : Nat → Nat
  | 0 => 0
  | t + 1 => eN t
/-- a token of the bytes B of a tape of length L -/
def tkOk (B : Nat → Int32) (L a e : Nat) : Prop := (smB (B a) ∧ (∀ j, a ≤ j → j < e → smB (B j)) ∧ (e < L → ¬ smB (B e))) ∨ (¬ smB (B a) ∧ dgB (B a) ∧ (∀ j, a ≤ j → j < e → dgB (B j)) ∧ (e < L → ¬ dgB (B e))) ∨ (¬ smB (B a) ∧ ¬ dgB (B a) ∧ e = a + 1)
/-- the tape cut into T tokens, blanks between them -/
def TK (B : Nat → Int32) (L T : Nat) (sN eN : Nat → Nat) : Prop := (∀ t, t < T → pE eN t ≤ sN t ∧ sN t < eN t ∧ eN t ≤ L ∧ (∀ j, pE eN t ≤ j → j < sN t → B j = 32) ∧ ¬ B (sN t) = 32 ∧ tkOk B L (sN t) (eN t)) ∧ ∀ j, pE eN T ≤ j → j < L → B j = 32
def stT (L T : Nat) (sN : Nat → Nat) (t : Nat) : Nat := if t < T then sN t else L
def sM (B : Nat → Int32) (T : Nat) (sN : Nat → Nat) (t : Nat) : Int32 := if t < T then (if smB (B (sN t)) then 1 else if dgB (B (sN t)) then 2 else 3) else 0
def vM (B : Nat → Int32) (T : Nat) (sN eN : Nat → Nat) (t : Nat) : Int64 := if t < T then (if smB (B (sN t)) then hWd B (sN t) (eN t - sN t) else if dgB (B (sN t)) then hDg B (sN t) (eN t - sN t) else (B (sN t)).toInt64) else 0
/-- the reference's reader stands at token t -/
def AtT (B : Nat → Int32) (L T : Nat) (sN eN : Nat → Nat) (t : Nat) (κ : kH) : Prop := κ.1 46 28 = nI (stT L T sN t) ∧ κ.1 46 29 = nI (stT L T eN t) ∧ κ.1 46 30 = sM B T sN t ∧ κ.2 46 31 = vM B T sN eN t
theorem run_uniq {P : Nat → Prop} {f e e' L : Nat} (h1 : ∀ j, f ≤ j → j < e → P j) (h2 : e < L → ¬ P e) (h3 : f ≤ e) (h4 : e ≤ L) (g1 : ∀ j, f ≤ j → j < e' → P j) (g2 : e' < L → ¬ P e') (g3 : f ≤ e') (g4 : e' ≤ L) : e = e' := by
  rcases Nat.lt_trichotomy e e' with z | z | z
  · exact absurd (g1 e h3 z) (h2 (by omega))
  · exact z
  · exact absurd (h1 e' g3 z) (g2 (by omega))
theorem nx_tok {ν κ : kH} {L T t : Nat} {sN eN : Nat → Nat} (hT : TK (ν.1 61) L T sN eN) (ht : t ≤ T) (q : nxR ν L (pE eN t) κ) : AtT (ν.1 61) L T sN eN t κ := by
  obtain ⟨-, f, e, hpf, hfL, hbl, h28, h29, hk⟩ := q
  unfold AtT stT sM vM
  by_cases htT : t < T
  · obtain ⟨a1, a2, a3, a4, a5, a6⟩ := hT.1 t htT
    have hf : f = sN t := by
      rcases Nat.lt_trichotomy f (sN t) with z | z | z
      · have hb := a4 f hpf z
        rcases hk with k | k | k | k
        · omega
        · exact absurd hb k.2.1
        · exact absurd hb k.2.1
        · exact absurd hb k.2.1
      · exact z
      · exact absurd (hbl (sN t) a1 z) a5
    rw [hf] at hk h28
    rw [if_pos htT, if_pos htT, if_pos htT, if_pos htT]
    rcases hk with k | ⟨-, -, k1, k2, k3, k4, k5, k6, k7⟩ | ⟨-, -, k0, k1, k2, k3, k4, k5, k6, k7⟩ | ⟨-, -, k0, k1, k2, k3, k4⟩
    · omega
    · rcases a6 with ⟨b1, b2, b3⟩ | ⟨b1, -⟩ | ⟨b1, -⟩
      · have he : e = eN t := run_uniq (P := fun j => smB (ν.1 61 j)) k5 k6 k3 k4 b2 b3 (by omega) a3
        rw [he] at h29 k7
        rw [if_pos k1, if_pos k1]
        exact ⟨h28, h29, k2, k7⟩
      · exact absurd k1 b1
      · exact absurd k1 b1
    · rcases a6 with ⟨b1, -⟩ | ⟨-, b1, b2, b3⟩ | ⟨-, b1, -⟩
      · exact absurd b1 k0
      · have he : e = eN t := run_uniq (P := fun j => dgB (ν.1 61 j)) k5 k6 k3 k4 b2 b3 (by omega) a3
        rw [he] at h29 k7
        rw [if_neg k0, if_neg k0, if_pos k1, if_pos k1]
        exact ⟨h28, h29, k2, k7⟩
      · exact absurd k1 b1
    · rcases a6 with ⟨b1, -⟩ | ⟨-, b1, -⟩ | ⟨-, -, b1⟩
      · exact absurd b1 k0
      · exact absurd b1 k1
      · rw [k3, ← b1] at h29
        rw [if_neg k0, if_neg k0, if_neg k1, if_neg k1]
        exact ⟨h28, h29, k2, k4⟩
  · have hte : t = T := by omega
    rw [hte] at hpf hbl
    rw [if_neg htT, if_neg htT, if_neg htT, if_neg htT]
    have hfl : f = L := by
      rcases Nat.lt_or_ge f L with z | z
      · have hb := hT.2 f hpf z
        rcases hk with k | k | k | k
        · omega
        · exact absurd hb k.2.1
        · exact absurd hb k.2.1
        · exact absurd hb k.2.1
      · omega
    rcases hk with ⟨k1, k2, k3, k4⟩ | k | k | k
    · rw [k1] at h28
      rw [k2] at h29
      exact ⟨h28, h29, k3, k4⟩
    · omega
    · omega
    · omega
theorem kk0 {b : Int32} : k_kind b = 0 ↔ b = 32 := by
  unfold k_kind; (repeat' split) <;> simp_all
theorem kk1 {b : Int32} : k_kind b = 1 ↔ smB b := by
  unfold k_kind smB; simp only [k_eq, k_le, li_32, li_97, li_122, li_48, li_57]; (repeat' split) <;> first | exact ⟨fun _ => by omega, fun _ => rfl⟩ | exact ⟨fun z => absurd z (by decide), fun z => by omega⟩
theorem kk2 {b : Int32} : k_kind b = 2 ↔ dgB b := by
  unfold k_kind dgB; simp only [k_eq, k_le, li_32, li_97, li_122, li_48, li_57]; (repeat' split) <;> first | exact ⟨fun _ => by omega, fun _ => rfl⟩ | exact ⟨fun z => absurd z (by decide), fun z => by omega⟩
theorem kk3 {b : Int32} : k_kind b = 3 ↔ ¬ b = 32 ∧ ¬ smB b ∧ ¬ dgB b := by
  unfold k_kind smB dgB; simp only [k_eq, k_le, li_32, li_97, li_122, li_48, li_57]; (repeat' split) <;> first | exact ⟨fun _ => by omega, fun _ => rfl⟩ | exact ⟨fun z => absurd z (by decide), fun z => by omega⟩
theorem sm_ne {b : Int32} (z : smB b) : ¬ b = 32 := fun w => by rw [w] at z; exact absurd z (by decide)
theorem dg_ne {b : Int32} (z : dgB b) : ¬ b = 32 := fun w => by rw [w] at z; exact absurd z (by decide)
theorem tkOk_ext {B kd : Nat → Int32} {p a e : Nat} (hk : ∀ j, j ≤ p → kd j = k_kind (B j)) (he : a < e) (he2 : e ≤ p) (h0 : tkOk B p a e) (hn : e = p → ∀ q, p = q + 1 → ¬ (kd p = kd q ∧ ¬ kd p = 3)) : tkOk B (p + 1) a e := by
  rcases h0 with ⟨b1, b2, b3⟩ | ⟨b0, b1, b2, b3⟩ | h0
  · refine Or.inl ⟨b1, b2, fun _ hb => ?_⟩
    rcases Nat.lt_or_ge e p with z | z
    · exact b3 z hb
    · have ep : e = p := by omega
      have e1 : kd p = 1 := by rw [hk p (by omega)]; rw [ep] at hb; exact kk1.mpr hb
      have e2 : kd (p - 1) = 1 := by rw [hk (p - 1) (by omega)]; exact kk1.mpr (b2 (p - 1) (by omega) (by omega))
      exact hn ep (p - 1) (by omega) ⟨by rw [e1, e2], by rw [e1]; decide⟩
  · refine Or.inr (Or.inl ⟨b0, b1, b2, fun _ hb => ?_⟩)
    rcases Nat.lt_or_ge e p with z | z
    · exact b3 z hb
    · have ep : e = p := by omega
      have e1 : kd p = 2 := by rw [hk p (by omega)]; rw [ep] at hb; exact kk2.mpr hb
      have e2 : kd (p - 1) = 2 := by rw [hk (p - 1) (by omega)]; exact kk2.mpr (b2 (p - 1) (by omega) (by omega))
      exact hn ep (p - 1) (by omega) ⟨by rw [e1, e2], by rw [e1]; decide⟩
  · exact Or.inr (Or.inr h0)
theorem TK_mono {B : Nat → Int32} {L T : Nat} {sN eN : Nat → Nat} (hT : TK B L T sN eN) {t : Nat} : ∀ u, t < u → u < T → eN t ≤ sN u := by
  intro u
  induction u with
  | zero => intro z; omega
  | succ u ih =>
    intro h1 h2
    have a := (hT.1 (u + 1) h2).1
    by_cases z : t = u
    · subst z; exact a
    · have b := ih (by omega) (by omega)
      have c := (hT.1 u (by omega)).2.1
      have a' : eN u ≤ sN (u + 1) := a
      omega
theorem TK_pE {B : Nat → Int32} {L T : Nat} {sN eN : Nat → Nat} (hT : TK B L T sN eN) : pE eN T ≤ L := by
  cases T with
  | zero => exact Nat.zero_le _
  | succ m => exact (hT.1 m (by omega)).2.2.1
theorem pE_congr {eN eN' : Nat → Nat} {t : Nat} (h0 : ∀ u, u < t → eN' u = eN u) : pE eN' t = pE eN t := by
  cases t with
  | zero => rfl
  | succ m => exact h0 m (by omega)
theorem TK_congr {B : Nat → Int32} {L T : Nat} {sN eN sN' eN' : Nat → Nat} (hT : TK B L T sN eN) (h1 : ∀ t, t < T → sN' t = sN t) (h2 : ∀ t, t < T → eN' t = eN t) : TK B L T sN' eN' := by
  refine ⟨fun t ht => ?_, ?_⟩
  · rw [pE_congr (eN := eN) (fun u hu => h2 u (by omega)), h1 t ht, h2 t ht]
    exact hT.1 t ht
  · rw [pE_congr (eN := eN) h2]; exact hT.2
theorem fTk_TK {B kd S0 E0 K0 : Nat → Int32} : ∀ p, (∀ j, j < p → kd j = k_kind (B j)) → ∃ sN eN : Nat → Nat, TK B p (fTk kd S0 E0 K0 p).1 sN eN ∧ ∀ t, t < (fTk kd S0 E0 K0 p).1 → (fTk kd S0 E0 K0 p).2.1 t = nI (sN t) ∧ (fTk kd S0 E0 K0 p).2.2.1 t = nI (eN t) ∧ (fTk kd S0 E0 K0 p).2.2.2 t = kd (sN t) := by
  intro p
  induction p with
  | zero => intro _; exact ⟨fun _ => 0, fun _ => 0, ⟨fun t ht => absurd ht (Nat.not_lt_zero _), fun j _ hj => absurd hj (Nat.not_lt_zero _)⟩, fun t ht => absurd ht (Nat.not_lt_zero _)⟩
  | succ p ih =>
    intro hk
    obtain ⟨sN, eN, hT, hS⟩ := ih (fun j hj => hk j (by omega))
    have hk' : ∀ j, j ≤ p → kd j = k_kind (B j) := fun j hj => hk j (by omega)
    rw [fTk]
    generalize fTk kd S0 E0 K0 p = s at *
    by_cases z1 : kd p = 0
    · rw [if_pos z1]
      have hb : B p = 32 := kk0.mp (by rw [← hk' p (by omega)]; exact z1)
      refine ⟨sN, eN, ⟨fun t ht => ?_, fun j h1 h2 => ?_⟩, hS⟩
      · obtain ⟨a1, a2, a3, a4, a5, a6⟩ := hT.1 t ht
        refine ⟨a1, a2, by omega, a4, a5, tkOk_ext hk' a2 a3 a6 (fun he q hq w => ?_)⟩
        have hq0 : kd q = 0 := by rw [← w.1]; exact z1
        have hbq : B q = 32 := kk0.mp (by rw [← hk' q (by omega)]; exact hq0)
        rcases a6 with ⟨-, b2, -⟩ | ⟨-, -, b2, -⟩ | ⟨-, -, b2⟩
        · exact sm_ne (b2 q (by omega) (by omega)) hbq
        · exact dg_ne (b2 q (by omega) (by omega)) hbq
        · exact a5 (by rw [show sN t = q by omega]; exact hbq)
      · by_cases hj : j = p
        · rw [hj]; exact hb
        · exact hT.2 j h1 (by omega)
    · rw [if_neg z1]
      have hb : ¬ B p = 32 := fun w => z1 (by rw [hk' p (by omega)]; exact kk0.mpr w)
      by_cases z2 : kd p = lstX kd p ∧ ¬ kd p = 3
      · rw [if_pos z2]
        cases p with
        | zero => exact absurd z2.1 z1
        | succ q =>
          have z21 : kd (q + 1) = kd q := z2.1
          have hbq : ¬ B q = 32 := fun w => z1 (by rw [z21, hk' q (by omega)]; exact kk0.mpr w)
          have hlt : q < pE eN s.1 := Nat.lt_of_not_le (fun w => hbq (hT.2 q w (by omega)))
          have hT0 : 0 < s.1 := by
            rcases Nat.eq_zero_or_pos s.1 with w | w
            · rw [w] at hlt; exact absurd hlt (Nat.not_lt_zero _)
            · exact w
          obtain ⟨m, hm⟩ : ∃ m, s.1 = m + 1 := ⟨s.1 - 1, by omega⟩
          have hlt' : q < eN m := by rw [hm] at hlt; exact hlt
          obtain ⟨c1, c2, c3, c4, c5, c6⟩ := hT.1 m (by omega)
          have hem : eN m = q + 1 := by omega
          rw [if_pos hT0]
          dsimp only
          have hm1 : s.1 - 1 = m := by omega
          refine ⟨sN, fun t => if t = m then q + 1 + 1 else eN t, ⟨fun t ht => ?_, fun j h1 h2 => ?_⟩, fun t ht => ?_⟩
          · have hp : pE (fun t => if t = m then q + 1 + 1 else eN t) t = pE eN t := pE_congr (fun u hu => if_neg (by omega))
            rw [hp]
            dsimp only
            obtain ⟨a1, a2, a3, a4, a5, a6⟩ := hT.1 t ht
            by_cases htm : t = m
            · subst htm
              rw [if_pos rfl]
              refine ⟨a1, by omega, by omega, a4, a5, ?_⟩
              rcases c6 with ⟨b1, b2, b3⟩ | ⟨b0, b1, b2, b3⟩ | ⟨b0, b1, b2⟩
              · have e1 : kd q = 1 := by rw [hk' q (by omega)]; exact kk1.mpr (b2 q (by omega) (by omega))
                have e2 : smB (B (q + 1)) := kk1.mp (by rw [← hk' (q + 1) (by omega), z21]; exact e1)
                refine Or.inl ⟨b1, fun j h1 h2 => ?_, fun w => absurd w (by omega)⟩
                by_cases hj : j = q + 1
                · rw [hj]; exact e2
                · exact b2 j h1 (by omega)
              · have e1 : kd q = 2 := by rw [hk' q (by omega)]; exact kk2.mpr (b2 q (by omega) (by omega))
                have e2 : dgB (B (q + 1)) := kk2.mp (by rw [← hk' (q + 1) (by omega), z21]; exact e1)
                refine Or.inr (Or.inl ⟨b0, b1, fun j h1 h2 => ?_, fun w => absurd w (by omega)⟩)
                by_cases hj : j = q + 1
                · rw [hj]; exact e2
                · exact b2 j h1 (by omega)
              · exfalso
                have hsq : sN t = q := by omega
                rw [hsq] at b0 b1
                exact z2.2 (by rw [z21, hk' q (by omega)]; exact kk3.mpr ⟨hbq, b0, b1⟩)
            · rw [if_neg htm]
              have hmo := TK_mono hT m (show t < m by omega) (by omega)
              exact ⟨a1, a2, by omega, a4, a5, tkOk_ext hk' a2 a3 a6 (fun w => by omega)⟩
          · rw [hm] at h1
            have h1' : (if m = m then q + 1 + 1 else eN m) ≤ j := h1
            rw [if_pos rfl] at h1'
            omega
          · obtain ⟨d1, d2, d3⟩ := hS t ht
            refine ⟨d1, ?_, d3⟩
            simp only [upd]
            rw [hm1]
            by_cases htm : t = m
            · rw [if_pos htm, if_pos htm]
            · rw [if_neg htm, if_neg htm]; exact d2
      · rw [if_neg z2]
        dsimp only
        have hpl := TK_pE hT
        refine ⟨fun t => if t = s.1 then p else sN t, fun t => if t = s.1 then p + 1 else eN t, ⟨fun t ht => ?_, fun j h1 h2 => ?_⟩, fun t ht => ?_⟩
        · have hp : pE (fun t => if t = s.1 then p + 1 else eN t) t = pE eN t := pE_congr (fun u hu => if_neg (by omega))
          rw [hp]
          dsimp only
          by_cases htm : t = s.1
          · rw [if_pos htm, if_pos htm, htm]
            refine ⟨hpl, by omega, by omega, hT.2, hb, ?_⟩
            by_cases w1 : smB (B p)
            · exact Or.inl ⟨w1, fun j h1 h2 => by rw [show j = p by omega]; exact w1, fun w => absurd w (by omega)⟩
            · by_cases w2 : dgB (B p)
              · exact Or.inr (Or.inl ⟨w1, w2, fun j h1 h2 => by rw [show j = p by omega]; exact w2, fun w => absurd w (by omega)⟩)
              · exact Or.inr (Or.inr ⟨w1, w2, rfl⟩)
          · rw [if_neg htm, if_neg htm]
            obtain ⟨a1, a2, a3, a4, a5, a6⟩ := hT.1 t (by omega)
            refine ⟨a1, a2, by omega, a4, a5, tkOk_ext hk' a2 a3 a6 (fun he q hq w => z2 ?_)⟩
            subst hq
            exact w
        · have h1' : (if s.1 = s.1 then p + 1 else eN s.1) ≤ j := h1
          rw [if_pos rfl] at h1'
          omega
        · simp only [upd]
          by_cases htm : t = s.1
          · rw [if_pos htm, if_pos htm, if_pos htm, if_pos htm, if_pos htm]
            exact ⟨rfl, rfl, rfl⟩
          · rw [if_neg htm, if_neg htm, if_neg htm, if_neg htm, if_neg htm]
            exact hS t (by omega)
