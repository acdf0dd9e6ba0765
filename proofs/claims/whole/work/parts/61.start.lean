def kTm (i : Nat) : Term := .string "PepperYears$TitheReader" ([70, 101, 79, 112, 114, 84, 90, 92].getD i 0)
theorem kS_all {s : State} {b : Nat} (hgv : (Jvm.Cond.and given_1 narrow_1).before #[Value.ref b] s = true) : ∃ adK adV : Nat → Nat, vk_S 8 kLen kByt adK adV (fun q => s.heap.size ≤ q) s s.heap ∧ ∀ i : Nat, i < 8 → (kTm i).eval #[Value.ref b] s none [] s = some (.ref (adK i)) := by
  have hq := flat_of_before _ hgv
  refine vk_Sof (fun i hi => (by decide : ∀ i, i < 8 → kLen.getD i 0 < 2 ^ 31) i hi) (fun i hi => ?_) (fun i hi => ?_) (fun i hi => ?_) (fun i hi => ?_) (fun i hi => ?_) (fun i j hi hj hne => ?_) (fun a ha => Nat.not_le.mpr ha)
  · exact match i, hi with
    | 0, _ => hq _ (by decide +kernel)
    | 1, _ => hq _ (by decide +kernel)
    | 2, _ => hq _ (by decide +kernel)
    | 3, _ => hq _ (by decide +kernel)
    | 4, _ => hq _ (by decide +kernel)
    | 5, _ => hq _ (by decide +kernel)
    | 6, _ => hq _ (by decide +kernel)
    | 7, _ => hq _ (by decide +kernel)
    | n + 8, h9 => absurd h9 (by omega)
  · exact match i, hi with
    | 0, _ => hq _ (by decide +kernel)
    | 1, _ => hq _ (by decide +kernel)
    | 2, _ => hq _ (by decide +kernel)
    | 3, _ => hq _ (by decide +kernel)
    | 4, _ => hq _ (by decide +kernel)
    | 5, _ => hq _ (by decide +kernel)
    | 6, _ => hq _ (by decide +kernel)
    | 7, _ => hq _ (by decide +kernel)
    | n + 8, h9 => absurd h9 (by omega)
  · exact match i, hi with
    | 0, _ => hq _ (by decide +kernel)
    | 1, _ => hq _ (by decide +kernel)
    | 2, _ => hq _ (by decide +kernel)
    | 3, _ => hq _ (by decide +kernel)
    | 4, _ => hq _ (by decide +kernel)
    | 5, _ => hq _ (by decide +kernel)
    | 6, _ => hq _ (by decide +kernel)
    | 7, _ => hq _ (by decide +kernel)
    | n + 8, h9 => absurd h9 (by omega)
  · exact match i, hi with
    | 0, _ => hq _ (by decide +kernel)
    | 1, _ => hq _ (by decide +kernel)
    | 2, _ => hq _ (by decide +kernel)
    | 3, _ => hq _ (by decide +kernel)
    | 4, _ => hq _ (by decide +kernel)
    | 5, _ => hq _ (by decide +kernel)
    | 6, _ => hq _ (by decide +kernel)
    | 7, _ => hq _ (by decide +kernel)
    | n + 8, h9 => absurd h9 (by omega)
  · match i, hi with
    | 0, _ =>
      intro j hj
      have hj2 : j < 4 := hj
      exact match j, hj2 with
      | 0, _ => hq _ (by decide +kernel)
      | 1, _ => hq _ (by decide +kernel)
      | 2, _ => hq _ (by decide +kernel)
      | 3, _ => hq _ (by decide +kernel)
      | n + 4, h9 => absurd h9 (by omega)
    | 1, _ =>
      intro j hj
      have hj2 : j < 2 := hj
      exact match j, hj2 with
      | 0, _ => hq _ (by decide +kernel)
      | 1, _ => hq _ (by decide +kernel)
      | n + 2, h9 => absurd h9 (by omega)
    | 2, _ =>
      intro j hj
      have hj2 : j < 5 := hj
      exact match j, hj2 with
      | 0, _ => hq _ (by decide +kernel)
      | 1, _ => hq _ (by decide +kernel)
      | 2, _ => hq _ (by decide +kernel)
      | 3, _ => hq _ (by decide +kernel)
      | 4, _ => hq _ (by decide +kernel)
      | n + 5, h9 => absurd h9 (by omega)
    | 3, _ =>
      intro j hj
      have hj2 : j < 4 := hj
      exact match j, hj2 with
      | 0, _ => hq _ (by decide +kernel)
      | 1, _ => hq _ (by decide +kernel)
      | 2, _ => hq _ (by decide +kernel)
      | 3, _ => hq _ (by decide +kernel)
      | n + 4, h9 => absurd h9 (by omega)
    | 4, _ =>
      intro j hj
      have hj2 : j < 4 := hj
      exact match j, hj2 with
      | 0, _ => hq _ (by decide +kernel)
      | 1, _ => hq _ (by decide +kernel)
      | 2, _ => hq _ (by decide +kernel)
      | 3, _ => hq _ (by decide +kernel)
      | n + 4, h9 => absurd h9 (by omega)
    | 5, _ =>
      intro j hj
      have hj2 : j < 4 := hj
      exact match j, hj2 with
      | 0, _ => hq _ (by decide +kernel)
      | 1, _ => hq _ (by decide +kernel)
      | 2, _ => hq _ (by decide +kernel)
      | 3, _ => hq _ (by decide +kernel)
      | n + 4, h9 => absurd h9 (by omega)
    | 6, _ =>
      intro j hj
      have hj2 : j < 4 := hj
      exact match j, hj2 with
      | 0, _ => hq _ (by decide +kernel)
      | 1, _ => hq _ (by decide +kernel)
      | 2, _ => hq _ (by decide +kernel)
      | 3, _ => hq _ (by decide +kernel)
      | n + 4, h9 => absurd h9 (by omega)
    | 7, _ =>
      intro j hj
      have hj2 : j < 1 := hj
      exact match j, hj2 with
      | 0, _ => hq _ (by decide +kernel)
      | n + 1, h9 => absurd h9 (by omega)
    | n + 8, h9 => exact absurd h9 (by omega)
  · rcases Nat.lt_or_gt_of_ne hne with z | z
    · refine Or.inl ?_
      match i, j, hi, hj, z with
      | 0, 1, _, _, _ => exact hq _ (by decide +kernel)
      | 0, 2, _, _, _ => exact hq _ (by decide +kernel)
      | 0, 3, _, _, _ => exact hq _ (by decide +kernel)
      | 0, 4, _, _, _ => exact hq _ (by decide +kernel)
      | 0, 5, _, _, _ => exact hq _ (by decide +kernel)
      | 0, 6, _, _, _ => exact hq _ (by decide +kernel)
      | 0, 7, _, _, _ => exact hq _ (by decide +kernel)
      | 1, 2, _, _, _ => exact hq _ (by decide +kernel)
      | 1, 3, _, _, _ => exact hq _ (by decide +kernel)
      | 1, 4, _, _, _ => exact hq _ (by decide +kernel)
      | 1, 5, _, _, _ => exact hq _ (by decide +kernel)
      | 1, 6, _, _, _ => exact hq _ (by decide +kernel)
      | 1, 7, _, _, _ => exact hq _ (by decide +kernel)
      | 2, 3, _, _, _ => exact hq _ (by decide +kernel)
      | 2, 4, _, _, _ => exact hq _ (by decide +kernel)
      | 2, 5, _, _, _ => exact hq _ (by decide +kernel)
      | 2, 6, _, _, _ => exact hq _ (by decide +kernel)
      | 2, 7, _, _, _ => exact hq _ (by decide +kernel)
      | 3, 4, _, _, _ => exact hq _ (by decide +kernel)
      | 3, 5, _, _, _ => exact hq _ (by decide +kernel)
      | 3, 6, _, _, _ => exact hq _ (by decide +kernel)
      | 3, 7, _, _, _ => exact hq _ (by decide +kernel)
      | 4, 5, _, _, _ => exact hq _ (by decide +kernel)
      | 4, 6, _, _, _ => exact hq _ (by decide +kernel)
      | 4, 7, _, _, _ => exact hq _ (by decide +kernel)
      | 5, 6, _, _, _ => exact hq _ (by decide +kernel)
      | 5, 7, _, _, _ => exact hq _ (by decide +kernel)
      | 6, 7, _, _, _ => exact hq _ (by decide +kernel)
      | i, 0, _, _, z => exact absurd z (by omega)
      | i + 8, _, h9, _, _ => exact absurd h9 (by omega)
      | _, j + 8, _, h9, _ => exact absurd h9 (by omega)
      | 1, 1, _, _, z => exact absurd z (by omega)
      | 2, 1, _, _, z => exact absurd z (by omega)
      | 2, 2, _, _, z => exact absurd z (by omega)
      | 3, 1, _, _, z => exact absurd z (by omega)
      | 3, 2, _, _, z => exact absurd z (by omega)
      | 3, 3, _, _, z => exact absurd z (by omega)
      | 4, 1, _, _, z => exact absurd z (by omega)
      | 4, 2, _, _, z => exact absurd z (by omega)
      | 4, 3, _, _, z => exact absurd z (by omega)
      | 4, 4, _, _, z => exact absurd z (by omega)
      | 5, 1, _, _, z => exact absurd z (by omega)
      | 5, 2, _, _, z => exact absurd z (by omega)
      | 5, 3, _, _, z => exact absurd z (by omega)
      | 5, 4, _, _, z => exact absurd z (by omega)
      | 5, 5, _, _, z => exact absurd z (by omega)
      | 6, 1, _, _, z => exact absurd z (by omega)
      | 6, 2, _, _, z => exact absurd z (by omega)
      | 6, 3, _, _, z => exact absurd z (by omega)
      | 6, 4, _, _, z => exact absurd z (by omega)
      | 6, 5, _, _, z => exact absurd z (by omega)
      | 6, 6, _, _, z => exact absurd z (by omega)
      | 7, 1, _, _, z => exact absurd z (by omega)
      | 7, 2, _, _, z => exact absurd z (by omega)
      | 7, 3, _, _, z => exact absurd z (by omega)
      | 7, 4, _, _, z => exact absurd z (by omega)
      | 7, 5, _, _, z => exact absurd z (by omega)
      | 7, 6, _, _, z => exact absurd z (by omega)
      | 7, 7, _, _, z => exact absurd z (by omega)
    · refine Or.inr ?_
      match j, i, hj, hi, z with
      | 0, 1, _, _, _ => exact hq _ (by decide +kernel)
      | 0, 2, _, _, _ => exact hq _ (by decide +kernel)
      | 0, 3, _, _, _ => exact hq _ (by decide +kernel)
      | 0, 4, _, _, _ => exact hq _ (by decide +kernel)
      | 0, 5, _, _, _ => exact hq _ (by decide +kernel)
      | 0, 6, _, _, _ => exact hq _ (by decide +kernel)
      | 0, 7, _, _, _ => exact hq _ (by decide +kernel)
      | 1, 2, _, _, _ => exact hq _ (by decide +kernel)
      | 1, 3, _, _, _ => exact hq _ (by decide +kernel)
      | 1, 4, _, _, _ => exact hq _ (by decide +kernel)
      | 1, 5, _, _, _ => exact hq _ (by decide +kernel)
      | 1, 6, _, _, _ => exact hq _ (by decide +kernel)
      | 1, 7, _, _, _ => exact hq _ (by decide +kernel)
      | 2, 3, _, _, _ => exact hq _ (by decide +kernel)
      | 2, 4, _, _, _ => exact hq _ (by decide +kernel)
      | 2, 5, _, _, _ => exact hq _ (by decide +kernel)
      | 2, 6, _, _, _ => exact hq _ (by decide +kernel)
      | 2, 7, _, _, _ => exact hq _ (by decide +kernel)
      | 3, 4, _, _, _ => exact hq _ (by decide +kernel)
      | 3, 5, _, _, _ => exact hq _ (by decide +kernel)
      | 3, 6, _, _, _ => exact hq _ (by decide +kernel)
      | 3, 7, _, _, _ => exact hq _ (by decide +kernel)
      | 4, 5, _, _, _ => exact hq _ (by decide +kernel)
      | 4, 6, _, _, _ => exact hq _ (by decide +kernel)
      | 4, 7, _, _, _ => exact hq _ (by decide +kernel)
      | 5, 6, _, _, _ => exact hq _ (by decide +kernel)
      | 5, 7, _, _, _ => exact hq _ (by decide +kernel)
      | 6, 7, _, _, _ => exact hq _ (by decide +kernel)
      | j, 0, _, _, z => exact absurd z (by omega)
      | j + 8, _, h9, _, _ => exact absurd h9 (by omega)
      | _, i + 8, _, h9, _ => exact absurd h9 (by omega)
      | 1, 1, _, _, z => exact absurd z (by omega)
      | 2, 1, _, _, z => exact absurd z (by omega)
      | 2, 2, _, _, z => exact absurd z (by omega)
      | 3, 1, _, _, z => exact absurd z (by omega)
      | 3, 2, _, _, z => exact absurd z (by omega)
      | 3, 3, _, _, z => exact absurd z (by omega)
      | 4, 1, _, _, z => exact absurd z (by omega)
      | 4, 2, _, _, z => exact absurd z (by omega)
      | 4, 3, _, _, z => exact absurd z (by omega)
      | 4, 4, _, _, z => exact absurd z (by omega)
      | 5, 1, _, _, z => exact absurd z (by omega)
      | 5, 2, _, _, z => exact absurd z (by omega)
      | 5, 3, _, _, z => exact absurd z (by omega)
      | 5, 4, _, _, z => exact absurd z (by omega)
      | 5, 5, _, _, z => exact absurd z (by omega)
      | 6, 1, _, _, z => exact absurd z (by omega)
      | 6, 2, _, _, z => exact absurd z (by omega)
      | 6, 3, _, _, z => exact absurd z (by omega)
      | 6, 4, _, _, z => exact absurd z (by omega)
      | 6, 5, _, _, z => exact absurd z (by omega)
      | 6, 6, _, _, z => exact absurd z (by omega)
      | 7, 1, _, _, z => exact absurd z (by omega)
      | 7, 2, _, _, z => exact absurd z (by omega)
      | 7, 3, _, _, z => exact absurd z (by omega)
      | 7, 4, _, _, z => exact absurd z (by omega)
      | 7, 5, _, _, z => exact absurd z (by omega)
      | 7, 6, _, _, z => exact absurd z (by omega)
      | 7, 7, _, _, z => exact absurd z (by omega)
theorem kEnv_of {s : State} {b : Nat} (hts : ∀ w ∈ lw_tbl, w.before #[Value.ref b] s = true) (hgv : (Jvm.Cond.and given_1 narrow_1).before #[Value.ref b] s = true) : ∃ (adK adV : Nat → Nat) (t0 : Nat), ∀ a : Nat → Nat, (∀ i, i < 8 → a (1000 + i) = adK i ∧ a (2000 + i) = adV i) → a 3000 = t0 → kEnv a (fun q => s.heap.size ≤ q) s s.heap := by
  have hq := flat_of_before _ hgv
  have hA : ∀ a : Nat, a < s.heap.size → ¬ (fun q => s.heap.size ≤ q) a := fun a ha => Nat.not_le.mpr ha
  obtain ⟨adK, adV, hS, hT⟩ := kS_all hgv
  have hZ : va_Zq "jdk/internal/util/Preconditions" "SIOOBE_FORMATTER" "Ljava/util/function/BiFunction;" (fun q => s.heap.size ≤ q) s s.heap := va_Zqof (hts _ (List.mem_of_getElem? (i := 540) (by decide +kernel))) (hts _ (List.mem_of_getElem? (i := 48) (by decide +kernel))) (hq _ (by decide +kernel)) hA
  have hC : va_Z "java/lang/String" "COMPACT_STRINGS" "Z" (.int 1) (fun q => s.heap.size ≤ q) s s.heap := va_Zof (hts _ (List.mem_of_getElem? (i := 523) (by decide +kernel))) (hts _ (List.mem_of_getElem? (i := 46) (by decide +kernel))) (va_eqt (hq _ (by decide +kernel))) hA
  obtain ⟨t0, hZ0⟩ : ∃ t0 : Nat, va_Z "jdk/internal/util/Preconditions" "SIOOBE_FORMATTER" "Ljava/util/function/BiFunction;" .null (fun q => s.heap.size ≤ q) s s.heap ∨ va_Z "jdk/internal/util/Preconditions" "SIOOBE_FORMATTER" "Ljava/util/function/BiFunction;" (.ref t0) (fun q => s.heap.size ≤ q) s s.heap := by
    rcases hZ with h1 | ⟨t, h1⟩
    · exact ⟨0, Or.inl h1⟩
    · exact ⟨t, Or.inr h1⟩
  refine ⟨adK, adV, t0, fun a ha h3 => ⟨fun w hw => ?_, ⟨fun i hi => ?_, fun i j hi hj e => ?_⟩, fun i q hiq => ?_, hC, ?_⟩⟩
  · have h1 := List.mem_filter.mp hw
    have h2 := h1.2
    cases w <;> first | exact va_Nw.of rfl (hts _ h1.1) | exact absurd h2 (by simp [knst])
  · show va_O "java/lang/String" (a (1000 + i)) _ s s.heap ∧ va_OF "java/lang/String" "coder" "B" (.int 0) (a (1000 + i)) _ s s.heap ∧ va_OF "java/lang/String" "value" "[B" (.ref (a (2000 + i))) (a (1000 + i)) _ s s.heap ∧ va_T .byte (a (2000 + i)) _ _ _ s s.heap
    rw [(ha i hi).1, (ha i hi).2]
    exact hS.1 i hi
  · have e' : a (1000 + i) = a (1000 + j) := e
    rw [(ha i hi).1, (ha j hj).1] at e'
    exact hS.2 i j hi hj e'
  · have hi : i < 8 := (List.getElem?_eq_some_iff.mp hiq).1
    rw [(ha i hi).1]
    have hT2 := hT i hi
    match i, hi with
    | 0, _ => cases hiq; exact vk_R.of (hts _ (List.mem_of_getElem? (i := 509) (by decide +kernel))) hT2
    | 1, _ => cases hiq; exact vk_R.of (hts _ (List.mem_of_getElem? (i := 578) (by decide +kernel))) hT2
    | 2, _ => cases hiq; exact vk_R.of (hts _ (List.mem_of_getElem? (i := 591) (by decide +kernel))) hT2
    | 3, _ => cases hiq; exact vk_R.of (hts _ (List.mem_of_getElem? (i := 596) (by decide +kernel))) hT2
    | 4, _ => cases hiq; exact vk_R.of (hts _ (List.mem_of_getElem? (i := 597) (by decide +kernel))) hT2
    | 5, _ => cases hiq; exact vk_R.of (hts _ (List.mem_of_getElem? (i := 598) (by decide +kernel))) hT2
    | 6, _ => cases hiq; exact vk_R.of (hts _ (List.mem_of_getElem? (i := 603) (by decide +kernel))) hT2
    | 7, _ => cases hiq; exact vk_R.of (hts _ (List.mem_of_getElem? (i := 608) (by decide +kernel))) hT2
    | n + 8, h9 => exact absurd h9 (by omega)
  · rw [h3]; exact hZ0
theorem kK_of {s : State} {b : Nat} (hts : ∀ w ∈ kTbl, w.before #[Value.ref b] s = true) : ∃ (dC : Nat → ClassId) (dI : Nat → Nat → Nat) (cI cL : ClassId), va_K (dC, dI) kcl (kty cI cL) s := by
  obtain ⟨c0, j0, h0⟩ := u_known (C := RX0) (T := TX0) (N := 7) (n := 7) hts kin0 (hts (.instantiable RX0 7) (kw 294 (by decide +kernel) (by decide +kernel)))
  obtain ⟨c1, j1, h1⟩ := u_known (C := RX1) (T := TX1) (N := 3) (n := 3) hts kin1 (hts (.instantiable RX1 3) (kw 136 (by decide +kernel) (by decide +kernel)))
  obtain ⟨c2, j2, h2⟩ := u_known (C := RX2) (T := TX2) (N := 3) (n := 3) hts kin2 (hts (.instantiable RX2 3) (kw 62 (by decide +kernel) (by decide +kernel)))
  obtain ⟨c3, j3, h3⟩ := u_known (C := RX3) (T := TX3) (N := 5) (n := 5) hts kin3 (hts (.instantiable RX3 5) (kw 266 (by decide +kernel) (by decide +kernel)))
  obtain ⟨c4, j4, h4⟩ := u_known (C := RX4) (T := TX4) (N := 6) (n := 6) hts kin4 (hts (.instantiable RX4 6) (kw 106 (by decide +kernel) (by decide +kernel)))
  obtain ⟨c5, j5, h5⟩ := u_known (C := RX5) (T := TX5) (N := 9) (n := 9) hts kin5 (hts (.instantiable RX5 9) (kw 229 (by decide +kernel) (by decide +kernel)))
  obtain ⟨c6, j6, h6⟩ := u_known (C := RX6) (T := TX6) (N := 5) (n := 5) hts kin6 (hts (.instantiable RX6 5) (kw 83 (by decide +kernel) (by decide +kernel)))
  obtain ⟨c7, j7, h7⟩ := u_known (C := RX7) (T := TX7) (N := 2) (n := 2) hts kin7 (hts (.instantiable RX7 2) (kw 155 (by decide +kernel) (by decide +kernel)))
  obtain ⟨c8, j8, h8⟩ := u_known (C := RX8) (T := TX8) (N := 8) (n := 8) hts kin8 (hts (.instantiable RX8 8) (kw 194 (by decide +kernel) (by decide +kernel)))
  obtain ⟨c9, j9, h9⟩ := u_known (C := RX9) (T := TX9) (N := 5) (n := 5) hts kin9 (hts (.instantiable RX9 5) (kw 170 (by decide +kernel) (by decide +kernel)))
  obtain ⟨c10, j10, h10⟩ := u_known (C := RX10) (T := TX10) (N := 12) (n := 12) hts kin10 (hts (.instantiable RX10 12) (kw 54 (by decide +kernel) (by decide +kernel)))
  obtain ⟨c11, j11, h11⟩ := u_known (C := RX11) (T := TX11) (N := 50) (n := 50) hts kin11 (hts (.instantiable RX11 50) (kw 760 (by decide +kernel) (by decide +kernel)))
  obtain ⟨cI, kI, cpI, hI1, hI2, hI3⟩ := Cond.arrayClass_spec (hts _ ca_I)
  obtain ⟨cL, kL, cpL, hL1, hL2, hL3⟩ := Cond.arrayClass_spec (hts _ ca_L)
  refine ⟨fun k => [c0, c1, c2, c3, c4, c5, c6, c7, c8, c9, c10, c11].getD k c0, fun k => [j0, j1, j2, j3, j4, j5, j6, j7, j8, j9, j10, j11].getD k j0, cI, cL, fun k q hq => ?_, fun k q hq => ?_⟩
  · match k, hq with
    | 0, hq => cases hq; exact h0
    | 1, hq => cases hq; exact h1
    | 2, hq => cases hq; exact h2
    | 3, hq => cases hq; exact h3
    | 4, hq => cases hq; exact h4
    | 5, hq => cases hq; exact h5
    | 6, hq => cases hq; exact h6
    | 7, hq => cases hq; exact h7
    | 8, hq => cases hq; exact h8
    | 9, hq => cases hq; exact h9
    | 10, hq => cases hq; exact h10
    | 11, hq => cases hq; exact h11
    | k + 12, hq => simp [kcl] at hq
  · match k, hq with
    | 0, hq => cases hq; exact ⟨fun n z => ⟨fun k h => (by cases h), kI, hI2, cpI, hI3⟩, hI1⟩
    | 1, hq => cases hq; exact ⟨fun n z => ⟨fun k h => (by cases h), kL, hL2, cpL, hL3⟩, hL1⟩
    | k + 2, hq => simp [kty] at hq
def ra0 : Nat → Int32 := upd (upd (upd (upd (fun _ => 0) (0 : Int32).toNatClampNeg 100) (1 : Int32).toNatClampNeg 60) (2 : Int32).toNatClampNeg 35) (3 : Int32).toNatClampNeg 25
def h0I : Nat → Nat → Int32
  | 1 => fun j => if j = 1 then 1 else if j = 2 then 5 else 0
  | 9 => ra0
  | 21 => fun j => if j = 1 then -1 else 0
  | 30 => fun j => if j = 1 then -1 else 0
  | 46 => fun j => if j = 5 then 1 else if j = 6 then 5 else if j = 32 then -1 else if j = 36 then -1 else 0
  | 48 => ra0
  | _ => fun _ => 0
def kH0 : kH := (h0I, fun _ _ => 0)
theorem ra0_bd : ∀ j, j < 4 → bd 1 100 (ra0 j) := by
  intro j hj
  rcases (show j = 0 ∨ j = 1 ∨ j = 2 ∨ j = 3 by omega) with rfl | rfl | rfl | rfl <;> exact ⟨by decide, by decide⟩
theorem bd_0 {x y : Int} (h1 : x ≤ 0) (h2 : 0 ≤ y) : bd x y 0 := ⟨by rw [li_0]; exact h1, by rw [li_0]; exact h2⟩
theorem Inv0 : Inv kH0 := by
  have none : ∀ {Q : Nat → Prop} (j : Nat), j < 0 → Q j := fun j h => absurd h (Nat.not_lt_zero j)
  refine ⟨⟨rfl, bd_0 (by decide) (by decide)⟩, rfl, ⟨rfl, rfl, ⟨by decide, by decide⟩, ⟨by decide, by decide⟩⟩, ⟨rfl, fun j => bd_0 (by decide) (by decide)⟩, ⟨rfl, ra0_bd⟩, ⟨⟨rfl, rfl, rfl, rfl⟩, 0, by decide, rfl, rfl, none, none, none⟩, ⟨⟨rfl, rfl⟩, fun j => bd_0 (by decide) (by decide), fun j => bd_0 (by decide) (by decide), 0, by decide, rfl, rfl⟩, ⟨rfl, 0, by decide, rfl, rfl⟩, ⟨0, by decide, rfl, rfl, none⟩, rfl, ⟨rfl, Or.inl rfl⟩, ⟨⟨rfl, rfl, rfl⟩, rfl, 0, rfl, rfl, ?_, none, none⟩, ⟨⟨rfl, rfl, rfl, rfl⟩, rfl, fun j => ⟨?_, bd_0 (by decide) (by decide)⟩, 0, by decide, rfl, rfl, fun j _ => rfl⟩⟩
  · show ((0 : Nat) : Int) ≤ 12 * (0 : Int32).toInt
    decide
  · show (0 : Int32) = 0 - 0
    decide
def kW2 (a : Nat → Nat) (cI cL : ClassId) (μ : kH) : Nat → List (Nat × Nat × List Nat) → va_W
  | _, [] => []
  | k, q :: r => (a k, kE a cI cL μ k q) :: kW2 a cI cL μ (k + 1) r
theorem kW2_gen {a : Nat → Nat} {cI cL : ClassId} {μ : kH} : ∀ (l : List (Nat × Nat × List Nat)) (i : Nat), l.mapIdx (fun k q => (a (i + k), kE a cI cL μ (i + k) q)) = kW2 a cI cL μ i l := by
  intro l
  induction l with
  | nil => intro i; rfl
  | cons q r ih =>
    intro i
    rw [List.mapIdx_cons, kW2, ← ih (i + 1)]
    simp only [Nat.add_zero, Nat.add_assoc, Nat.add_comm 1]
theorem kW_2 {a : Nat → Nat} {cI cL : ClassId} {μ : kH} : kW a cI cL μ = kW2 a cI cL μ 0 ksh := by
  rw [← kW2_gen]
  unfold kW
  simp only [Nat.zero_add]
def aMap (adr : List Nat) (adK adV : Nat → Nat) (t0 b : Nat) (k : Nat) : Nat := if k < 1000 then adr.getD k 0 else if k < 2000 then adK (k - 1000) else if k < 3000 then adV (k - 2000) else if k = 3000 then t0 else b
theorem c_as {own : String} {cd : ByteArray} {nL : Nat} {p : Program} {l : Launch} {e : Env} {R : Room} {s : State} {m : MethodId} {args : Array Value} {below : List Frame} {meth : Method} {c : Code} {Qw : State → Prop} {dC : Nat → ClassId} {dI : Nat → Nat → Nat} {cI cL : ClassId} {A : Nat → Prop} {pc pc' : Nat} {lv lv' : cV} {st : List Value} {ws : va_W} {cells slots : Nat} (C : cC own cd nL p s m args c dC dI cI cL A) {k : Fin 4} {i x : Nat} (hd : decode cd pc = .ok (.astore_n k, 1)) (hp : pc + 1 = pc') (hi : (k : Nat) = i) (hn : i < nL) (hl : (i, Value.ref x) :: lv.filter (fun q => !(q.1 == i) && !(q.1 + 1 == i && q.2.category == 2)) = lv') (kk : CW p l e R s m args below meth c Qw dC dI A nL pc' lv' st ws cells slots) : CW p l e R s m args below meth c Qw dC dI A nL pc lv (.ref x :: st) ws cells slots := by
  subst hp
  exact fun H locs ls h hP hD hS => lv_astore_n C.1 C.2.1 hd hi h hn hl (fun ls' h' => kk H locs ls' h' hP hD hS)
theorem c_is {own : String} {cd : ByteArray} {nL : Nat} {p : Program} {l : Launch} {e : Env} {R : Room} {s : State} {m : MethodId} {args : Array Value} {below : List Frame} {meth : Method} {c : Code} {Qw : State → Prop} {dC : Nat → ClassId} {dI : Nat → Nat → Nat} {cI cL : ClassId} {A : Nat → Prop} {pc pc' : Nat} {lv lv' : cV} {st : List Value} {ws : va_W} {cells slots : Nat} (C : cC own cd nL p s m args c dC dI cI cL A) {k : Fin 4} {i : Nat} {x : Int32} (hd : decode cd pc = .ok (.istore_n k, 1)) (hp : pc + 1 = pc') (hi : (k : Nat) = i) (hn : i < nL) (hl : (i, Value.int x) :: lv.filter (fun q => !(q.1 == i) && !(q.1 + 1 == i && q.2.category == 2)) = lv') (kk : CW p l e R s m args below meth c Qw dC dI A nL pc' lv' st ws cells slots) : CW p l e R s m args below meth c Qw dC dI A nL pc lv (.int x :: st) ws cells slots := by
  subst hp
  exact fun H locs ls h hP hD hS => lv_istore_n C.1 C.2.1 hd hi h hn hl (fun ls' h' => kk H locs ls' h' hP hD hS)
theorem cn_RL_7 : cNw RL 7 10 12 [.null, .null, .null, .null, .null, .null, .null, .null, .null, .null, .int 0, .int 0] := ⟨RX10, TX10, rfl, kw 53 (by decide +kernel) (by decide +kernel), kw 54 (by decide +kernel) (by decide +kernel), kw 34 (by decide +kernel) (by decide +kernel), tyX10, tyX10_ok, fun j hj => match j, hj with
  | 0, _ => rfl
  | 1, _ => rfl
  | 2, _ => rfl
  | 3, _ => rfl
  | 4, _ => rfl
  | 5, _ => rfl
  | 6, _ => rfl
  | 7, _ => rfl
  | 8, _ => rfl
  | 9, _ => rfl
  | 10, _ => rfl
  | 11, _ => rfl
  | j + 12, h9 => absurd h9 (by omega)⟩
theorem cn_RL_10 : cNw RL 10 11 50 [.int 0, .int 0, .int 0, .null, .null, .int 0, .int 0, .int 0, .null, .null, .null, .null, .null, .int 0, .null, .null, .int 0, .int 0, .int 0, .int 0, .null, .null, .null, .null, .int 0, .null, .null, .int 0, .int 0, .int 0, .int 0, .long 0, .int 0, .int 0, .null, .null, .int 0, .int 0, .null, .null, .null, .int 0, .int 0, .int 0, .null, .null, .null, .null, .null, .null] := ⟨RX11, TX11, rfl, kw 759 (by decide +kernel) (by decide +kernel), kw 760 (by decide +kernel) (by decide +kernel), kw 45 (by decide +kernel) (by decide +kernel), tyX11, tyX11_ok, fun j hj => match j, hj with
  | 0, _ => rfl
  | 1, _ => rfl
  | 2, _ => rfl
  | 3, _ => rfl
  | 4, _ => rfl
  | 5, _ => rfl
  | 6, _ => rfl
  | 7, _ => rfl
  | 8, _ => rfl
  | 9, _ => rfl
  | 10, _ => rfl
  | 11, _ => rfl
  | 12, _ => rfl
  | 13, _ => rfl
  | 14, _ => rfl
  | 15, _ => rfl
  | 16, _ => rfl
  | 17, _ => rfl
  | 18, _ => rfl
  | 19, _ => rfl
  | 20, _ => rfl
  | 21, _ => rfl
  | 22, _ => rfl
  | 23, _ => rfl
  | 24, _ => rfl
  | 25, _ => rfl
  | 26, _ => rfl
  | 27, _ => rfl
  | 28, _ => rfl
  | 29, _ => rfl
  | 30, _ => rfl
  | 31, _ => rfl
  | 32, _ => rfl
  | 33, _ => rfl
  | 34, _ => rfl
  | 35, _ => rfl
  | 36, _ => rfl
  | 37, _ => rfl
  | 38, _ => rfl
  | 39, _ => rfl
  | 40, _ => rfl
  | 41, _ => rfl
  | 42, _ => rfl
  | 43, _ => rfl
  | 44, _ => rfl
  | 45, _ => rfl
  | 46, _ => rfl
  | 47, _ => rfl
  | 48, _ => rfl
  | 49, _ => rfl
  | j + 50, h9 => absurd h9 (by omega)⟩
theorem cm_RL_9 : cMk RL 9 yX10_init cX10_init 1 0 := ⟨⟨(by decide +kernel), (by decide +kernel), (by decide +kernel)⟩, rfl, kw 57 (by decide +kernel) (by decide +kernel), kw 34 (by decide +kernel) (by decide +kernel), kw 56 (by decide +kernel) (by decide +kernel), Or.inl (kw 55 (by decide +kernel) (by decide +kernel))⟩
theorem cm_RL_12 : cMk RL 12 yX11_init cX11_init 1 0 := ⟨⟨(by decide +kernel), (by decide +kernel), (by decide +kernel)⟩, rfl, kw 763 (by decide +kernel) (by decide +kernel), kw 45 (by decide +kernel) (by decide +kernel), kw 762 (by decide +kernel) (by decide +kernel), Or.inl (kw 761 (by decide +kernel) (by decide +kernel))⟩
