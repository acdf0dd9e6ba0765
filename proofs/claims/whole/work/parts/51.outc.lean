def sameR (β μ : kH) : Prop := μ.1 14 = β.1 14 ∧ μ.1 15 = β.1 15 ∧ μ.1 29 = β.1 29
theorem kbyte_same {β μ : kH} (q : sameR β μ) : k_byte μ = k_byte β := by
  funext p; unfold k_byte; rw [q.1, q.2.1]
theorem fNm_same {β μ : kH} (q : sameR β μ) : fNm μ = fNm β := by
  funext a j
  induction j with
  | zero => rfl
  | succ j ih => rw [fNm, fNm, ih, kbyte_same q]
theorem wX_same {β μ : kH} (q : sameR β μ) {T : Nat} {sN eN : Nat → Nat} : wX μ T sN eN = wX β T sN eN := by
  funext i t; unfold wX mtX; rw [kbyte_same q]
theorem vXt_same {β μ : kH} (q : sameR β μ) {sN eN : Nat → Nat} : vXt μ sN eN = vXt β sN eN := by
  funext t; unfold vXt; rw [fNm_same q]
theorem nX_same {β μ : kH} (q : sameR β μ) {T : Nat} {sN eN : Nat → Nat} : nX μ T sN eN = nX β T sN eN := by
  funext lo hg t; unfold nX; rw [vXt_same q, q.2.2]
theorem oOne_same {β μ : kH} (q : sameR β μ) {T : Nat} {sN eN : Nat → Nat} : oOne μ T sN eN = oOne β T sN eN := by
  funext n t; unfold oOne oPt oVn oSg; rw [wX_same q, nX_same q, vXt_same q]
theorem sameR_put {β μ : kH} (q : sameR β μ) (a b c d : Int32) : sameR β (putH μ a b c d) := q
/-- the class behind a tithe that was read, or not -/
def CX (μ : kH) (T : Nat) (sN : Nat → Nat) (x : kO) (r : kV) (h' : kH) : Prop := match x with
  | (some q, t) => r = ki 1 ∧ h' = tk (putH μ q.1 q.2.1 q.2.2.1 q.2.2.2) t
  | (none, t) => koS μ T sN t r h'
theorem CX_g {μ : kH} {T t : Nat} {sN : Nat → Nat} {x : kO} {a b c d : Int32} {r : kV} {h' : kH} (e : x = (some (a, b, c, d), t)) (w : okS μ t a b c d r h') : CX μ T sN x r h' := by rw [e]; exact w
theorem CX_b {μ : kH} {T t : Nat} {sN : Nat → Nat} {x : kO} {r : kV} {h' : kH} (e : x = (none, t)) (w : koS μ T sN t r h') : CX μ T sN x r h' := by rw [e]; exact w
theorem pOne_o {μ : kH} {T n t : Nat} {sN eN : Nat → Nat} {r : kV} {h' : kH} (hn : μ.1 22 4 = nI n) (hn2 : n ≤ 20) (q : pOne μ T sN eN t r h') : CX μ T sN (oOne μ T sN eN n t) r h' := by
  have hf : 20 ≤ μ.1 22 4 ↔ 20 ≤ n := by rw [hn, k_le, li_20, nI_toInt (by omega)]; omega
  rcases q with ⟨f, q⟩ | ⟨f, q⟩
  · exact CX_b (by unfold oOne; rw [cIf_pos (hf.mp f)]) q
  · have f' : ¬ 20 ≤ n := fun z => f (hf.mpr z)
    rcases q with ⟨w0, q⟩ | ⟨w0, w2, q⟩ | ⟨w0, w2, w5, q⟩ | ⟨w0, w2, w5, w6, q⟩ | ⟨w0, w2, w5, w6, q⟩
    · rcases q with ⟨n1, w1, n2, e⟩ | ⟨n1, e⟩ | ⟨n1, w1, e⟩ | ⟨n1, w1, n2, e⟩
      · exact CX_g (by unfold oOne oPt; rw [cIf_neg f', cIf_pos w0, cIf_pos n1, cIf_pos w1, cIf_pos n2]) e
      · exact CX_b (by unfold oOne oPt; rw [cIf_neg f', cIf_pos w0, cIf_neg n1]) e
      · exact CX_b (by unfold oOne oPt; rw [cIf_neg f', cIf_pos w0, cIf_pos n1, cIf_neg w1]) e
      · exact CX_b (by unfold oOne oPt; rw [cIf_neg f', cIf_pos w0, cIf_pos n1, cIf_pos w1, cIf_neg n2]) e
    · rcases q with ⟨n1, e⟩ | ⟨n1, w1, e⟩ | ⟨n1, w1, n2, e⟩ | ⟨n1, w1, n2, w4, e⟩ | ⟨n1, w1, n2, w4, n3, e⟩ | ⟨n1, w1, n2, w4, n3, e⟩
      · exact CX_b (by unfold oOne oVn; rw [cIf_neg f', cIf_neg w0, cIf_pos w2, cIf_neg n1]) e
      · exact CX_b (by unfold oOne oVn; rw [cIf_neg f', cIf_neg w0, cIf_pos w2, cIf_pos n1, cIf_neg w1]) e
      · exact CX_b (by unfold oOne oVn; rw [cIf_neg f', cIf_neg w0, cIf_pos w2, cIf_pos n1, cIf_pos w1, cIf_neg n2]) e
      · exact CX_g (by unfold oOne oVn; rw [cIf_neg f', cIf_neg w0, cIf_pos w2, cIf_pos n1, cIf_pos w1, cIf_pos n2, cIf_neg w4]) e
      · exact CX_g (by unfold oOne oVn; rw [cIf_neg f', cIf_neg w0, cIf_pos w2, cIf_pos n1, cIf_pos w1, cIf_pos n2, cIf_pos w4, cIf_pos n3]) e
      · exact CX_b (by unfold oOne oVn; rw [cIf_neg f', cIf_neg w0, cIf_pos w2, cIf_pos n1, cIf_pos w1, cIf_pos n2, cIf_pos w4, cIf_neg n3]) e
    · rcases q with ⟨n1, e⟩ | ⟨n1, e⟩
      · exact CX_g (by unfold oOne oSg; rw [cIf_neg f', cIf_neg w0, cIf_neg w2, cIf_pos w5, cIf_pos n1]) e
      · exact CX_b (by unfold oOne oSg; rw [cIf_neg f', cIf_neg w0, cIf_neg w2, cIf_pos w5, cIf_neg n1]) e
    · rcases q with ⟨n1, e⟩ | ⟨n1, e⟩
      · exact CX_g (by unfold oOne oSg; rw [cIf_neg f', cIf_neg w0, cIf_neg w2, cIf_neg w5, cIf_pos w6, cIf_pos n1]) e
      · exact CX_b (by unfold oOne oSg; rw [cIf_neg f', cIf_neg w0, cIf_neg w2, cIf_neg w5, cIf_pos w6, cIf_neg n1]) e
    · exact CX_b (by unfold oOne; rw [cIf_neg f', cIf_neg w0, cIf_neg w2, cIf_neg w5, cIf_neg w6]) q
/-- what every tithe that was read keeps -/
def qOk (q : kQ4) : Prop := (q.1 = 0 → 1 ≤ q.2.2.1) ∧ (q.1 = 1 → 1 ≤ q.2.1)
def oOk (T n t : Nat) (x : kO) : Prop := match x with
  | (some q, t2) => qOk q ∧ t2 ≤ T ∧ n < 20 ∧ t < t2
  | (none, _) => True
theorem oOk_b {T n t t2 : Nat} {x : kO} (e : x = (none, t2)) : oOk T n t x := by rw [e]; trivial
theorem oOk_g {T n t t2 : Nat} {x : kO} {q : kQ4} (e : x = (some q, t2)) (w : qOk q ∧ t2 ≤ T ∧ n < 20 ∧ t < t2) : oOk T n t x := by rw [e]; exact w
theorem oOne_ok (β : kH) (T : Nat) (sN eN : Nat → Nat) (n t : Nat) : oOk T n t (oOne β T sN eN n t) := by
  unfold oOne
  by_cases f : 20 ≤ n
  · rw [cIf_pos f]; trivial
  rw [cIf_neg f]
  by_cases w0 : wX β T sN eN 0 t
  · rw [cIf_pos w0]
    unfold oPt
    by_cases n1 : nX β T sN eN 0 10000 (t + 1)
    · rw [cIf_pos n1]
      by_cases w1 : wX β T sN eN 1 (t + 1 + 1)
      · rw [cIf_pos w1]
        by_cases n2 : nX β T sN eN (if vXt β sN eN (t + 1) < 1 then 1 else vXt β sN eN (t + 1)) 10000 (t + 1 + 2)
        · rw [cIf_pos n2]
          refine ⟨⟨fun _ => ?_, fun z => absurd (show (0 : Int32) = 1 from z) (by decide)⟩, by have := n2.1; omega, by omega, by omega⟩
          have n3 := n2.2.2.1
          show 1 ≤ vXt β sN eN (t + 1 + 2)
          by_cases z : vXt β sN eN (t + 1) < 1
          · rw [if_pos z] at n3; exact n3
          · rw [if_neg z] at n3
            rw [k_lt, li_1] at z
            rw [k_le] at n3
            rw [k_le, li_1]; omega
        · rw [cIf_neg n2]; trivial
      · rw [cIf_neg w1]; trivial
    · rw [cIf_neg n1]; trivial
  rw [cIf_neg w0]
  by_cases w2 : wX β T sN eN 2 t
  · rw [cIf_pos w2]
    unfold oVn
    by_cases n1 : nX β T sN eN 1 10000 (t + 1)
    · rw [cIf_pos n1]
      by_cases w1 : wX β T sN eN 3 (t + 1 + 1)
      · rw [cIf_pos w1]
        by_cases n2 : nX β T sN eN 0 10000 (t + 1 + 2)
        · rw [cIf_pos n2]
          by_cases w4 : wX β T sN eN 4 (t + 1 + 3)
          · rw [cIf_pos w4]
            by_cases n3 : nX β T sN eN 0 24 (t + 1 + 4)
            · rw [cIf_pos n3]
              exact ⟨⟨fun z => absurd (show (1 : Int32) = 0 from z) (by decide), fun _ => n1.2.2.1⟩, by have := n3.1; omega, by omega, by omega⟩
            · rw [cIf_neg n3]; trivial
          · rw [cIf_neg w4]
            exact ⟨⟨fun z => absurd (show (1 : Int32) = 0 from z) (by decide), fun _ => n1.2.2.1⟩, by have := n2.1; omega, by omega, by omega⟩
        · rw [cIf_neg n2]; trivial
      · rw [cIf_neg w1]; trivial
    · rw [cIf_neg n1]; trivial
  rw [cIf_neg w2]
  by_cases w5 : wX β T sN eN 5 t
  · rw [cIf_pos w5]
    unfold oSg
    by_cases n1 : nX β T sN eN 0 10000 (t + 1)
    · rw [cIf_pos n1]
      exact ⟨⟨fun z => absurd (show (2 : Int32) = 0 from z) (by decide), fun z => absurd (show (2 : Int32) = 1 from z) (by decide)⟩, by have := n1.1; omega, by omega, by omega⟩
    · rw [cIf_neg n1]; trivial
  rw [cIf_neg w5]
  by_cases w6 : wX β T sN eN 6 t
  · rw [cIf_pos w6]
    unfold oSg
    by_cases n1 : nX β T sN eN 0 10000 (t + 1)
    · rw [cIf_pos n1]
      exact ⟨⟨fun z => absurd (show (3 : Int32) = 0 from z) (by decide), fun z => absurd (show (3 : Int32) = 1 from z) (by decide)⟩, by have := n1.1; omega, by omega, by omega⟩
    · rw [cIf_neg n1]; trivial
  rw [cIf_neg w6]; trivial
def updQ (R : Nat → kQ4) (n : Nat) (q : kQ4) : Nat → kQ4 := fun i => if i = n then q else R i
/-- the reading of all: how many, which, and the token that is wrong -/
noncomputable def rnO (β : kH) (T : Nat) (sN eN : Nat → Nat) : Nat → Nat → (Nat → kQ4) → Nat → Nat × (Nat → kQ4) × Option Nat
  | 0, n, R, _ => (n, R, none)
  | f + 1, n, R, t => match oOne β T sN eN n t with
    | (none, tf) => (n, R, some tf)
    | (some q, t2) => cIf (wX β T sN eN 7 t2) (rnO β T sN eN f (n + 1) (updQ R n q) (t2 + 1)) (n + 1, updQ R n q, if t2 < T then some t2 else none)
theorem rnO_b {β : kH} {T f n t tf : Nat} {sN eN : Nat → Nat} {R : Nat → kQ4} (e : oOne β T sN eN n t = (none, tf)) : rnO β T sN eN (f + 1) n R t = (n, R, some tf) := by rw [rnO, e]
theorem rnO_g {β : kH} {T f n t t2 : Nat} {sN eN : Nat → Nat} {R : Nat → kQ4} {q : kQ4} (e : oOne β T sN eN n t = (some q, t2)) : rnO β T sN eN (f + 1) n R t = cIf (wX β T sN eN 7 t2) (rnO β T sN eN f (n + 1) (updQ R n q) (t2 + 1)) (n + 1, updQ R n q, if t2 < T then some t2 else none) := by rw [rnO, e]
def rowX (μ : kH) (i : Nat) : kQ4 := (μ.1 23 i, μ.1 24 i, μ.1 25 i, μ.1 26 i)
theorem rowX_put {μ : kH} {n : Nat} {R : Nat → kQ4} {a b c d : Int32} (hn : μ.1 22 4 = nI n) (hn2 : n ≤ 20) (hR : ∀ i, i < n → rowX μ i = R i) : ∀ i, i < n + 1 → rowX (putH μ a b c d) i = updQ R n (a, b, c, d) i := by
  intro i hi
  have e : (μ.1 22 4).toNatClampNeg = n := by rw [hn, nI_clamp (by omega)]
  have e0 : rowX (putH μ a b c d) i = (upd (μ.1 23) (μ.1 22 4).toNatClampNeg a i, upd (μ.1 24) (μ.1 22 4).toNatClampNeg b i, upd (μ.1 25) (μ.1 22 4).toNatClampNeg c i, upd (μ.1 26) (μ.1 22 4).toNatClampNeg d i) := rfl
  rw [e0, e]
  simp only [upd, updQ]
  by_cases z : i = n
  · rw [if_pos z, if_pos z, if_pos z, if_pos z, if_pos z]
  · rw [if_neg z, if_neg z, if_neg z, if_neg z, if_neg z]
    exact hR i (by omega)
theorem fr_put {μ κ : kH} (q : fr [21, 22, 23, 24, 25, 26] μ κ) (a b c d : Int32) : fr [21, 22, 23, 24, 25, 26] μ (putH κ a b c d) := fr_I (fr_I (fr_I (fr_I (fr_I q (by decide)) (by decide)) (by decide)) (by decide)) (by decide)
theorem put_inj {μ : kH} {n t t2 : Nat} {a b c d a' b' c' d' : Int32} (ht : t ≤ 200) (ht2 : t2 ≤ 200) (e : tk (putH μ a b c d) t = tk (putH μ a' b' c' d') t2) : t = t2 ∧ (a, b, c, d) = (a', b', c', d') := by
  have e7 : nI t = nI t2 := congrArg (fun z : kH => z.1 21 7) e
  have ea : a = a' := by
    have z := congrArg (fun z : kH => z.1 23 (μ.1 22 4).toNatClampNeg) e
    have z' : upd (μ.1 23) (μ.1 22 4).toNatClampNeg a (μ.1 22 4).toNatClampNeg = upd (μ.1 23) (μ.1 22 4).toNatClampNeg a' (μ.1 22 4).toNatClampNeg := z
    rw [upd_at, upd_at] at z'; exact z'
  have eb : b = b' := by
    have z := congrArg (fun z : kH => z.1 24 (μ.1 22 4).toNatClampNeg) e
    have z' : upd (μ.1 24) (μ.1 22 4).toNatClampNeg b (μ.1 22 4).toNatClampNeg = upd (μ.1 24) (μ.1 22 4).toNatClampNeg b' (μ.1 22 4).toNatClampNeg := z
    rw [upd_at, upd_at] at z'; exact z'
  have ec : c = c' := by
    have z := congrArg (fun z : kH => z.1 25 (μ.1 22 4).toNatClampNeg) e
    have z' : upd (μ.1 25) (μ.1 22 4).toNatClampNeg c (μ.1 22 4).toNatClampNeg = upd (μ.1 25) (μ.1 22 4).toNatClampNeg c' (μ.1 22 4).toNatClampNeg := z
    rw [upd_at, upd_at] at z'; exact z'
  have ed : d = d' := by
    have z := congrArg (fun z : kH => z.1 26 (μ.1 22 4).toNatClampNeg) e
    have z' : upd (μ.1 26) (μ.1 22 4).toNatClampNeg d (μ.1 22 4).toNatClampNeg = upd (μ.1 26) (μ.1 22 4).toNatClampNeg d' (μ.1 22 4).toNatClampNeg := z
    rw [upd_at, upd_at] at z'; exact z'
  refine ⟨(nI_eq (by omega) (by omega)).mp e7, ?_⟩
  rw [ea, eb, ec, ed]
theorem ftV_st {β μ : kH} {L T t : Nat} {sN : Nat → Nat} (q : sameR β μ) (h14 : β.1 14 1 = nI L) : ftV μ T sN t = nI (stT L T sN t) := by
  unfold ftV stT
  by_cases z : t < T
  · rw [if_pos z, if_pos z]
  · rw [if_neg z, if_neg z, q.1]; exact h14
/-- the outcome of the class's reading -/
def endX (μ : kH) (L T : Nat) (sN : Nat → Nat) (x : Nat × (Nat → kQ4) × Option Nat) (h' : kH) : Prop := fr [21, 22, 23, 24, 25, 26] μ h' ∧ ((∃ tf, x.2.2 = some tf ∧ h'.1 21 1 = nI (stT L T sN tf)) ∨ (x.2.2 = none ∧ h'.1 21 1 = -1 ∧ h'.1 22 4 = nI x.1 ∧ x.1 ≤ 20 ∧ ∀ i, i < x.1 → rowX h' i = x.2.1 i ∧ qOk (x.2.1 i)))
theorem endX_tr {μ κ h' : kH} {L T : Nat} {sN : Nat → Nat} {x : Nat × (Nat → kQ4) × Option Nat} (q : fr [21, 22, 23, 24, 25, 26] μ κ) (w : endX κ L T sN x h') : endX μ L T sN x h' := ⟨fr_tr q w.1 (fun _ z => z), w.2⟩
theorem Rd_rn {β : kH} {L T : Nat} {sN eN : Nat → Nat} (hT2 : T ≤ 200) (h14 : β.1 14 1 = nI L) : ∀ (f : Nat) (μ : kH) (n : Nat) (R : Nat → kQ4) (t : Nat) (h' : kH), sameR β μ → μ.1 22 4 = nI n → n ≤ 20 → (∀ i, i < n → rowX μ i = R i ∧ qOk (R i)) → μ.1 21 1 = -1 → Rd T sN eN f μ t h' → endX μ L T sN (rnO β T sN eN f n R t) h' := by
  intro f
  induction f with
  | zero => intro μ n R t h' _ _ _ _ _ q; exact absurd q id
  | succ f ih =>
    intro μ n R t h' sm hn hn2 hR h1 q
    have ook := oOne_ok β T sN eN n t
    rcases q with ⟨r, k1, q, er, eh⟩ | ⟨a, b, c, d, t2, ht2, q, q2⟩
    · rw [eh]
      have c1 := pOne_o hn hn2 q
      rw [oOne_same sm] at c1
      cases ho : oOne β T sN eN n t with
      | mk x1 x2 =>
        rw [ho] at c1
        cases x1 with
        | none =>
          obtain ⟨-, e1⟩ := c1
          rw [rnO_b ho, e1]
          refine ⟨fr_I (fr_I (fr_rf _ μ) (by decide)) (by decide), Or.inl ⟨x2, rfl, ?_⟩⟩
          rw [hI_at]; exact ftV_st sm h14
        | some q4 =>
          obtain ⟨e1, -⟩ := c1
          rw [er] at e1
          exact absurd e1 (by decide)
    · have c1 := pOne_o hn hn2 q
      rw [oOne_same sm] at c1
      cases ho : oOne β T sN eN n t with
      | mk x1 x2 =>
        rw [ho] at c1 ook
        cases x1 with
        | none => exact absurd c1.1 (by decide)
        | some q4 =>
          obtain ⟨-, e1⟩ := c1
          obtain ⟨o1, o2, o3, o4⟩ := ook
          obtain ⟨q41, q42, q43, q44⟩ := q4
          obtain ⟨et, eq4⟩ := put_inj (n := n) (by omega) (by omega) e1
          subst et
          rw [rnO_g ho]
          have hput : (putH μ a b c d).1 22 4 = nI (n + 1) := by
            show (hI (hI (hI (hI (hI μ 23 _ a) 24 _ b) 25 _ c) 26 _ d) 22 4 (μ.1 22 4 + 1)).1 22 4 = _
            rw [hI_at, hn, nI_1]
          have hfr : fr [21, 22, 23, 24, 25, 26] μ (putH μ a b c d) := fr_put (fr_rf _ μ) a b c d
          have hrow : ∀ i, i < n + 1 → rowX (putH μ a b c d) i = updQ R n (q41, q42, q43, q44) i ∧ qOk (updQ R n (q41, q42, q43, q44) i) := fun i hi => by
            refine ⟨by rw [← eq4]; exact rowX_put hn hn2 (fun j hj => (hR j hj).1) i hi, ?_⟩
            simp only [updQ]
            by_cases z : i = n
            · rw [if_pos z]; exact o1
            · rw [if_neg z]; exact (hR i (by omega)).2
          rcases q2 with ⟨h2, p, eh⟩ | ⟨p, rd⟩
          · rw [eh]
            rcases p with ⟨-, p, -⟩ | ⟨p1, p2, p3⟩ | ⟨p1, -, p3⟩
            · exact absurd p (by decide)
            · rw [wX_same (sameR_put sm a b c d)] at p2
              rw [cIf_neg p2, if_pos p1]
              obtain ⟨-, e3⟩ := p3
              rw [e3]
              refine ⟨fr_I (fr_I hfr (by decide)) (by decide), Or.inl ⟨t2, rfl, ?_⟩⟩
              rw [hI_at]; exact ftV_st (sameR_put sm a b c d) h14
            · rw [cIf_neg (fun z => p1 z.1), if_neg p1, p3]
              refine ⟨fr_I hfr (by decide), Or.inr ⟨rfl, ?_, hput, by show n + 1 ≤ 20; omega, hrow⟩⟩
              exact h1
          · rcases p with ⟨p1, -, -⟩ | ⟨-, -, p3, -⟩ | ⟨-, p3, -⟩
            · rw [wX_same (sameR_put sm a b c d)] at p1
              rw [cIf_pos p1]
              exact endX_tr hfr (ih (putH μ a b c d) (n + 1) _ (t2 + 1) h' (sameR_put sm a b c d) hput (by omega) hrow h1 rd)
            · exact absurd p3 (by decide)
            · exact absurd p3 (by decide)
