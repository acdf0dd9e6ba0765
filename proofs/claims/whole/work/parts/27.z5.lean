/-- the reference's frame: rows but those of l, and of its own object the places but those of js -/
def fr2 (l js : List Nat) (μ ν : kH) : Prop := (∀ k, k ∉ l → k ≠ 46 → ν.1 k = μ.1 k) ∧ (∀ j, j ∉ js → ν.1 46 j = μ.1 46 j) ∧ ν.2 = μ.2
theorem fr2_rf (l js : List Nat) (μ : kH) : fr2 l js μ μ := ⟨fun _ _ _ => rfl, fun _ _ => rfl, rfl⟩
theorem fr2_I {l js : List Nat} {μ ν : kH} (q : fr2 l js μ ν) {k j : Nat} {v : Int32} (hk : k ∈ l) (h46 : k ≠ 46) : fr2 l js μ (hI ν k j v) := ⟨fun k' hk' h' => by
  have e : (hI ν k j v).1 k' = ν.1 k' := hs_ne _ _ (fun z => hk' (z ▸ hk))
  rw [e]; exact q.1 k' hk' h', fun j' hj' => by
  have e : (hI ν k j v).1 46 = ν.1 46 := hs_ne _ _ (fun z => h46 z.symm)
  rw [e]; exact q.2.1 j' hj', q.2.2⟩
theorem fr2_J {l js : List Nat} {μ ν : kH} (q : fr2 l js μ ν) {j : Nat} {v : Int32} (hj : j ∈ js) : fr2 l js μ (hI ν 46 j v) := ⟨fun k' hk' h' => by
  have e : (hI ν 46 j v).1 k' = ν.1 k' := hs_ne _ _ h'
  rw [e]; exact q.1 k' hk' h', fun j' hj' => by
  have e : (hI ν 46 j v).1 46 = upd (ν.1 46) j v := by show hs ν.1 46 (upd (ν.1 46) j v) 46 = _; rw [hs_self]
  rw [e]; simp only [upd]; rw [if_neg (show ¬ j' = j from fun z => hj' (by rw [z]; exact hj))]; exact q.2.1 j' hj', q.2.2⟩
theorem fr2_T {l js : List Nat} {μ ν : kH} (q : fr2 l js μ ν) {k : Nat} {f : Nat → Int32} (hk : k ∈ l) (h46 : k ≠ 46) : fr2 l js μ (hs ν.1 k f, ν.2) := ⟨fun k' hk' h' => by
  have e : hs ν.1 k f k' = ν.1 k' := hs_ne _ _ (fun z => hk' (z ▸ hk))
  show hs ν.1 k f k' = _
  rw [e]; exact q.1 k' hk' h', fun j' hj' => by
  have e : hs ν.1 k f 46 = ν.1 46 := hs_ne _ _ (fun z => h46 z.symm)
  show hs ν.1 k f 46 j' = _
  rw [e]; exact q.2.1 j' hj', q.2.2⟩
theorem fr2_tr {l js : List Nat} {μ ν κ : kH} (q : fr2 l js μ ν) (q' : fr2 l js ν κ) : fr2 l js μ κ := ⟨fun k hk h' => by rw [q'.1 k hk h', q.1 k hk h'], fun j hj => by rw [q'.2.1 j hj, q.2.1 j hj], by rw [q'.2.2, q.2.2]⟩
theorem fr2_h3 {l js : List Nat} {μ ν : kH} (q : fr2 l js μ ν) {a b c : Nat} {x : Int32 × Int32 × Int32} (ha : a ∈ js) (hb : b ∈ js) (hc : c ∈ js) : fr2 l js μ (h3 ν 46 a b c x) := fr2_J (fr2_J (fr2_J q ha) hb) hc
theorem m3_a (μ : kH) (x : Int32 × Int32 × Int32) : (h3 μ 46 16 17 18 x).1 46 16 = x.1 := rfl
theorem m3_b (μ : kH) (x : Int32 × Int32 × Int32) : (h3 μ 46 16 17 18 x).1 46 17 = x.2.1 := rfl
theorem fFb_ind (ra tb : Nat → Int32) (f : Int32) (Y : Nat) (p0 b0 : Int32) : ∀ i, fFb ra tb f Y p0 b0 (i + 1) = fFb ra tb f Y 0 0 (i + 1) := by
  intro i
  induction i with
  | zero =>
    have key : ∀ p0 b0 : Int32, fFb ra tb f Y p0 b0 (0 + 1) = (nI 0, (f.toInt64 * (ra 0).toInt64 / 100).toInt32, (f.toInt64 * (ra 0).toInt64 / 100).toInt32 * tb (40 * 0 + Y)) := fun p0 b0 => by rw [fFb, if_pos (Or.inl (by show (-1 : Int32) < 0; decide))]
    rw [key, key]
  | succ i ih => rw [fFb, ih]; rfl
theorem fFb_congr {ra tb tb' : Nat → Int32} {f : Int32} {Y : Nat} {p0 b0 : Int32} (hp : ∀ s, s < 4 → tb (40 * s + Y) = tb' (40 * s + Y)) : ∀ i, i ≤ 4 → fFb ra tb f Y p0 b0 i = fFb ra tb' f Y p0 b0 i := by
  intro i
  induction i with
  | zero => intro _; rfl
  | succ i ih => intro hi; rw [fFb, fFb, ih (by omega), hp i (by omega)]
def olderM (n : Int32) : Int32 := if n = 25 ∨ n = 24 then n else n + 1
theorem ev_X11_older2 {n : Int32} {μ : kH} : Ev kX11_older [ki n] μ (fun r h' => r = ki (olderM n) ∧ h' = μ) := ev_X11_older
def stOfM (ν : kH) : kS8 := ((ν.1 55, ν.1 64, ν.1 65, ν.1 66), (ν.1 46 37, ν.1 46 41, 0, 0))
def stM (i : Nat) (S : kS8) (x : Int32 × Int32 × Int32) : kS8 := if S.1.1 i = -1 then S else if x.2.1 ≤ 0 then ((upd S.1.1 i (olderM (S.1.1 i)), S.1.2.1, S.1.2.2.1, S.1.2.2.2), S.2) else ((upd S.1.1 i (olderM (S.1.1 i)), upd S.1.2.1 S.2.1.toNatClampNeg x.1, upd S.1.2.2.1 S.2.1.toNatClampNeg (nI i), upd S.1.2.2.2 S.2.1.toNatClampNeg x.2.1), (S.2.1 + 1, S.2.2.1 + x.2.1, S.2.2.2))
def itM (vi yi ra tb : Nat → Int32) (Y : Nat) (S0 : kS8) : Nat → kS8
  | 0 => S0
  | i + 1 => stM i (itM vi yi ra tb Y S0 i) (fFb ra tb (vi i * yi ((itM vi yi ra tb Y S0 i).1.1 i).toNatClampNeg / 100) Y 0 0 4)
theorem itM_congr {vi yi ra tb tb' : Nat → Int32} {Y : Nat} {S0 : kS8} (hp : ∀ s, s < 4 → tb (40 * s + Y) = tb' (40 * s + Y)) : ∀ i, itM vi yi ra tb Y S0 i = itM vi yi ra tb' Y S0 i := by
  intro i
  induction i with
  | zero => rfl
  | succ i ih => rw [itM, itM, ih, fFb_congr hp 4 (Nat.le_refl _)]
def agesOk (A : Nat → Int32) : Prop := ∀ j, j < 12 → -1 ≤ (A j).toInt ∧ (A j).toInt ≤ 24
theorem stM_ok {i : Nat} {S : kS8} {x : Int32 × Int32 × Int32} {b : Nat} (hz : 0 ≤ S.2.1.toInt ∧ S.2.1.toInt ≤ b) (hb : b < 480) (ha : agesOk S.1.1) : (0 ≤ (stM i S x).2.1.toInt ∧ (stM i S x).2.1.toInt ≤ b + 1) ∧ agesOk (stM i S x).1.1 := by
  have key : agesOk (upd S.1.1 i (olderM (S.1.1 i))) ∨ S.1.1 i = -1 := by
    by_cases e : S.1.1 i = -1
    · exact Or.inr e
    · refine Or.inl (fun j hj => ?_)
      simp only [upd]
      split
      · next z =>
        subst z
        have u := ha j hj
        unfold olderM
        simp only [k_eq, li_25, li_24, li_m1] at *
        split
        · exact u
        · rw [k_add (by rw [li_1]; omega), li_1]; omega
      · exact ha j hj
  unfold stM
  split
  · exact ⟨⟨hz.1, by omega⟩, ha⟩
  · next z =>
    have key := key.resolve_right z
    split
    · exact ⟨⟨hz.1, by dsimp only; omega⟩, key⟩
    · refine ⟨?_, key⟩
      dsimp only
      rw [k_add (by rw [li_1]; omega), li_1]; omega
theorem itM_ok {vi yi ra tb : Nat → Int32} {Y : Nat} {S0 : kS8} {b : Nat} (hz : 0 ≤ S0.2.1.toInt ∧ S0.2.1.toInt ≤ b) (hb : b + 12 ≤ 480) (ha : agesOk S0.1.1) : ∀ i, i ≤ 12 → (0 ≤ (itM vi yi ra tb Y S0 i).2.1.toInt ∧ (itM vi yi ra tb Y S0 i).2.1.toInt ≤ b + i) ∧ agesOk (itM vi yi ra tb Y S0 i).1.1 := by
  intro i
  induction i with
  | zero => intro _; exact ⟨hz, ha⟩
  | succ i ih =>
    intro hi
    obtain ⟨h1, h2⟩ := ih (by omega)
    rw [itM]
    have e := stM_ok (i := i) (x := fFb ra tb (vi i * yi ((itM vi yi ra tb Y S0 i).1.1 i).toNatClampNeg / 100) Y 0 0 4) (b := b + i) (by rw [show ((b + i : Nat) : Int) = b + i by omega]; exact h1) (by omega) h2
    refine ⟨?_, e.2⟩
    have e1 := e.1
    omega

set_option maxHeartbeats 400000 in
set_option maxRecDepth 100000 in
theorem lp_X11_goI {yy kk : Int32} {ν : kH} {G Y b : Nat} {Φ : Nat → List kV → List kV → kH → Prop} (hY : Y < 40) (hnw : ν.1 46 2 = nI Y) (hG : G ≤ 12) (hgs : ν.1 46 13 = nI G) (hz : 0 ≤ (ν.1 46 37).toInt ∧ (ν.1 46 37).toInt ≤ b) (hb : b + 12 ≤ 480) (hag : agesOk (ν.1 55)) (K : ∀ κ : kH, fr2 [55, 64, 65, 66] [16, 17, 18, 37, 41] ν κ → stOfM κ = itM (ν.1 54) (ν.1 47) (ν.1 48) (ν.1 53) Y (stOfM ν) G → At kX11_go 183 [kr 46, ki yy, ki kk, ku] [] κ Φ) : ∀ (n i : Nat) (κ : kH), i + n = G → fr2 [55, 64, 65, 66] [16, 17, 18, 37, 41] ν κ → stOfM κ = itM (ν.1 54) (ν.1 47) (ν.1 48) (ν.1 53) Y (stOfM ν) i → At kX11_go 51 [kr 46, ki yy, ki kk, ki (nI i)] [] κ Φ := by
  intro n
  induction n with
  | zero =>
    intro i κ hi q hS
    refine k_iload_n (pc' := 52) dX11_go_51 rfl rfl ?_
    refine k_aload_n (pc' := 53) dX11_go_52 rfl rfl ?_
    refine k_getI (pc' := 56) fl_RX11_142 dX11_go_53 rfl rfl rfl ?_
    refine k_icmp_ge (pc' := 59) (tg := 183) dX11_go_56 rfl (by decide) (fun c_56 => ?_) (fun c_56 => ?_)
    · skip
      exact k_wk (by repeat' (first | exact trivial | exact rfl | apply And.intro)) (K κ q (by rw [hS, show i = G from by omega]))
    · exfalso
      exact c_56 (show κ.1 46 13 ≤ nI i by rw [q.2.1 13 (by decide), hgs, show i = G from by omega]; exact Int32.le_refl _)
  | succ n ih =>
    intro i κ hi q hS
    have hlt : i < G := by omega
    have hok := itM_ok (vi := ν.1 54) (yi := ν.1 47) (ra := ν.1 48) (tb := ν.1 53) (Y := Y) (S0 := stOfM ν) hz hb hag i (by omega)
    rw [← hS] at hok
    have hsz9 : 0 ≤ (κ.1 46 37).toInt ∧ (κ.1 46 37).toInt < 480 := ⟨hok.1.1, by have z : (κ.1 46 37).toInt ≤ b + i := hok.1.2; omega⟩
    have hag9 : agesOk (κ.1 55) := hok.2
    refine k_iload_n (pc' := 52) dX11_go_51 rfl rfl ?_
    refine k_aload_n (pc' := 53) dX11_go_52 rfl rfl ?_
    refine k_getI (pc' := 56) fl_RX11_142 dX11_go_53 rfl rfl rfl ?_
    refine k_icmp_ge (pc' := 59) (tg := 183) dX11_go_56 rfl (by decide) (fun c_56 => ?_) (fun c_56 => ?_)
    · exfalso
      have c9 : κ.1 46 13 ≤ nI i := c_56
      rw [q.2.1 13 (by decide), hgs] at c9
      exact nI_ge hlt (by omega) c9
    · skip
      refine k_aload_n (pc' := 60) dX11_go_59 rfl rfl ?_
      refine k_getR (pc' := 63) fl_RX11_41 dX11_go_60 rfl rfl rfl ?_
      refine k_iload_n (pc' := 64) dX11_go_63 rfl rfl ?_
      refine k_ialdN (pc' := 65) dX11_go_64 rfl rfl (by omega) (by decide) ?_
      refine k_iconst (pc' := 66) (v := (-1)) dX11_go_65 rfl (by decide) ?_
      refine k_icmp_ne (pc' := 69) (tg := 72) dX11_go_66 rfl (by decide) (fun c_66 => ?_) (fun c_66 => ?_)
      · skip
        refine k_aload_n (pc' := 73) dX11_go_72 rfl rfl ?_
        refine k_aload_n (pc' := 74) dX11_go_73 rfl rfl ?_
        refine k_aload_n (pc' := 75) dX11_go_74 rfl rfl ?_
        refine k_getR (pc' := 78) fl_RX11_38 dX11_go_75 rfl rfl rfl ?_
        refine k_iload_n (pc' := 79) dX11_go_78 rfl rfl ?_
        refine k_ialdN (pc' := 80) dX11_go_79 rfl rfl (by omega) (by decide) ?_
        refine k_aload_n (pc' := 81) dX11_go_80 rfl rfl ?_
        refine k_getR (pc' := 84) fl_RX11_41 dX11_go_81 rfl rfl rfl ?_
        refine k_iload_n (pc' := 85) dX11_go_84 rfl rfl ?_
        refine k_ialdN (pc' := 86) dX11_go_85 rfl rfl (by omega) (by decide) ?_
        refine k_callV2 (pc' := 89) dX11_go_86 rfl ml_RX11_152 rfl rfl ⟨(Nat.le_of_ble_eq_true rfl), (Nat.le_of_ble_eq_true rfl)⟩ (Nat.le_of_ble_eq_true rfl) (ev_X11_freshOf (fun z => vp_in_iff.mpr (by have u := hag9 i (by omega); have z2 : ¬ κ.1 55 i = -1 := z; simp only [k_eq, li_m1] at z2; show 0 ≤ (κ.1 55 i).toInt ∧ (κ.1 55 i).toInt < 25; omega))) (fun r_86 h_86 q_86 => ?_)
        obtain ⟨e_86, g_86⟩ := q_86
        rw [e_86, g_86, if_neg c_66, show κ.1 54 = ν.1 54 from q.1 54 (by decide) (by decide), show κ.1 47 = ν.1 47 from q.1 47 (by decide) (by decide)]
        refine k_aload_n (pc' := 90) dX11_go_89 rfl rfl ?_
        refine k_getI (pc' := 93) fl_RX11_247 dX11_go_90 rfl rfl rfl ?_
        rw [show κ.1 46 2 = nI Y from (q.2.1 2 (by decide)).trans hnw]
        refine k_callV2 (pc' := 96) dX11_go_93 rfl ml_RX11_169 rfl rfl ⟨(Nat.le_of_ble_eq_true rfl), (Nat.le_of_ble_eq_true rfl)⟩ (Nat.le_of_ble_eq_true rfl) (ev_X11_findBest2 (ra := ν.1 48) (tb := ν.1 53) (p0 := κ.1 46 17) (b0 := κ.1 46 18) hY (q.1 48 (by decide) (by decide)) (q.1 53 (by decide) (by decide)) rfl rfl) (fun r_93 h_93 q_93 => ?_)
        obtain ⟨e_93, g_93⟩ := q_93
        rw [e_93, g_93, fFb_ind _ _ _ _ (κ.1 46 17) (κ.1 46 18) 3]
        generalize hX : fFb (ν.1 48) (ν.1 53) (ν.1 54 i * ν.1 47 (κ.1 55 i).toNatClampNeg / 100) Y 0 0 (3 + 1) = X
        refine k_aload_n (pc' := 97) dX11_go_96 rfl rfl ?_
        refine k_getI (pc' := 100) fl_RX11_162 dX11_go_97 rfl rfl rfl ?_
        rw [m3_b]
        refine k_if_le (pc' := 103) (tg := 162) dX11_go_100 rfl (by decide) (fun c_100 => ?_) (fun c_100 => ?_)
        · skip
          refine k_aload_n (pc' := 163) dX11_go_162 rfl rfl ?_
          refine k_getR (pc' := 166) fl_RX11_41 dX11_go_163 rfl rfl rfl ?_
          refine k_iload_n (pc' := 167) dX11_go_166 rfl rfl ?_
          refine k_aload_n (pc' := 168) dX11_go_167 rfl rfl ?_
          refine k_getR (pc' := 171) fl_RX11_41 dX11_go_168 rfl rfl rfl ?_
          refine k_iload_n (pc' := 172) dX11_go_171 rfl rfl ?_
          refine k_ialdN (pc' := 173) dX11_go_172 rfl rfl (by omega) (by decide) ?_
          refine k_callS1 (pc' := 176) dX11_go_173 rfl ml_RX11_253 ⟨(Nat.le_of_ble_eq_true rfl), (Nat.le_of_ble_eq_true rfl)⟩ (Nat.le_of_ble_eq_true rfl) ev_X11_older2 (fun r_173 h_173 q_173 => ?_)
          obtain ⟨e_173, g_173⟩ := q_173
          rw [e_173, g_173]
          refine k_iastN (pc' := 177) dX11_go_176 rfl rfl (by omega) (by decide) ?_
          refine k_iinc (pc' := 180) (v := nI (_ + 1)) (ls' := [_, _, _, _]) dX11_go_177 rfl rfl (nI_1 _) (by decide) rfl ?_
          refine k_goto (tg := 51) dX11_go_180 (by decide) ?_
          refine ih (i + 1) _ (by omega) (fr2_I (fr2_h3 q (by decide) (by decide) (by decide)) (by decide) (by decide)) ?_
          rw [itM, ← hS]
          have hX2 : fFb (ν.1 48) (ν.1 53) (ν.1 54 i * ν.1 47 ((stOfM κ).1.1 i).toNatClampNeg / 100) Y 0 0 4 = X := hX
          rw [hX2, stM, if_neg (show ¬ (stOfM κ).1.1 i = -1 from c_66), if_pos c_100]
          rfl
        · skip
          refine k_aload_n (pc' := 104) dX11_go_103 rfl rfl ?_
          refine k_getR (pc' := 107) fl_RX11_75 dX11_go_104 rfl rfl rfl ?_
          refine k_aload_n (pc' := 108) dX11_go_107 rfl rfl ?_
          refine k_getI (pc' := 111) fl_RX11_268 dX11_go_108 rfl rfl rfl ?_
          refine k_aload_n (pc' := 112) dX11_go_111 rfl rfl ?_
          refine k_getI (pc' := 115) fl_RX11_156 dX11_go_112 rfl rfl rfl ?_
          refine k_iast (pc' := 116) dX11_go_115 rfl rfl (vp_in_iff.mpr (by show 0 ≤ (κ.1 46 37).toInt ∧ (κ.1 46 37).toInt < 480; exact hsz9)) ?_
          refine k_aload_n (pc' := 117) dX11_go_116 rfl rfl ?_
          refine k_getR (pc' := 120) fl_RX11_78 dX11_go_117 rfl rfl rfl ?_
          refine k_aload_n (pc' := 121) dX11_go_120 rfl rfl ?_
          refine k_getI (pc' := 124) fl_RX11_268 dX11_go_121 rfl rfl rfl ?_
          refine k_iload_n (pc' := 125) dX11_go_124 rfl rfl ?_
          refine k_iast (pc' := 126) dX11_go_125 rfl rfl (vp_in_iff.mpr (by show 0 ≤ (κ.1 46 37).toInt ∧ (κ.1 46 37).toInt < 480; exact hsz9)) ?_
          refine k_aload_n (pc' := 127) dX11_go_126 rfl rfl ?_
          refine k_getR (pc' := 130) fl_RX11_81 dX11_go_127 rfl rfl rfl ?_
          refine k_aload_n (pc' := 131) dX11_go_130 rfl rfl ?_
          refine k_getI (pc' := 134) fl_RX11_268 dX11_go_131 rfl rfl rfl ?_
          refine k_aload_n (pc' := 135) dX11_go_134 rfl rfl ?_
          refine k_getI (pc' := 138) fl_RX11_162 dX11_go_135 rfl rfl rfl ?_
          refine k_iast (pc' := 139) dX11_go_138 rfl rfl (vp_in_iff.mpr (by show 0 ≤ (κ.1 46 37).toInt ∧ (κ.1 46 37).toInt < 480; exact hsz9)) ?_
          refine k_aload_n (pc' := 140) dX11_go_139 rfl rfl ?_
          refine k_dup (pc' := 141) dX11_go_140 rfl rfl ?_
          refine k_getI (pc' := 144) fl_RX11_268 dX11_go_141 rfl rfl rfl ?_
          refine k_iconst (pc' := 145) (v := 1) dX11_go_144 rfl (by decide) ?_
          refine k_iadd (pc' := 146) dX11_go_145 rfl ?_
          refine k_putI (pc' := 149) fw_RX11_268 dX11_go_146 rfl rfl rfl ?_
          refine k_aload_n (pc' := 150) dX11_go_149 rfl rfl ?_
          refine k_dup (pc' := 151) dX11_go_150 rfl rfl ?_
          refine k_getI (pc' := 154) fl_RX11_271 dX11_go_151 rfl rfl rfl ?_
          refine k_aload_n (pc' := 155) dX11_go_154 rfl rfl ?_
          refine k_getI (pc' := 158) fl_RX11_162 dX11_go_155 rfl rfl rfl ?_
          refine k_iadd (pc' := 159) dX11_go_158 rfl ?_
          refine k_putI (pc' := 162) fw_RX11_271 dX11_go_159 rfl rfl rfl ?_
          refine k_aload_n (pc' := 163) dX11_go_162 rfl rfl ?_
          refine k_getR (pc' := 166) fl_RX11_41 dX11_go_163 rfl rfl rfl ?_
          refine k_iload_n (pc' := 167) dX11_go_166 rfl rfl ?_
          refine k_aload_n (pc' := 168) dX11_go_167 rfl rfl ?_
          refine k_getR (pc' := 171) fl_RX11_41 dX11_go_168 rfl rfl rfl ?_
          refine k_iload_n (pc' := 172) dX11_go_171 rfl rfl ?_
          refine k_ialdN (pc' := 173) dX11_go_172 rfl rfl (by omega) (by decide) ?_
          refine k_callS1 (pc' := 176) dX11_go_173 rfl ml_RX11_253 ⟨(Nat.le_of_ble_eq_true rfl), (Nat.le_of_ble_eq_true rfl)⟩ (Nat.le_of_ble_eq_true rfl) ev_X11_older2 (fun r_173 h_173 q_173 => ?_)
          obtain ⟨e_173, g_173⟩ := q_173
          rw [e_173, g_173]
          refine k_iastN (pc' := 177) dX11_go_176 rfl rfl (by omega) (by decide) ?_
          refine k_iinc (pc' := 180) (v := nI (_ + 1)) (ls' := [_, _, _, _]) dX11_go_177 rfl rfl (nI_1 _) (by decide) rfl ?_
          refine k_goto (tg := 51) dX11_go_180 (by decide) ?_
          refine ih (i + 1) _ (by omega) (fr2_I (fr2_J (fr2_J (fr2_I (fr2_I (fr2_I (fr2_h3 q (by decide) (by decide) (by decide)) (by decide) (by decide)) (by decide) (by decide)) (by decide) (by decide)) (by decide)) (by decide)) (by decide) (by decide)) ?_
          rw [itM, ← hS]
          have hX2 : fFb (ν.1 48) (ν.1 53) (ν.1 54 i * ν.1 47 ((stOfM κ).1.1 i).toNatClampNeg / 100) Y 0 0 4 = X := hX
          rw [hX2, stM, if_neg (show ¬ (stOfM κ).1.1 i = -1 from c_66), if_neg c_100]
          rfl
      · skip
        refine k_goto (tg := 177) dX11_go_69 (by decide) ?_
        refine k_iinc (pc' := 180) (v := nI (_ + 1)) (ls' := [_, _, _, _]) dX11_go_177 rfl rfl (nI_1 _) (by decide) rfl ?_
        refine k_goto (tg := 51) dX11_go_180 (by decide) ?_
        exact ih (i + 1) κ (by omega) q (by rw [itM, ← hS, stM, if_pos (show (stOfM κ).1.1 i = -1 from c_66)])

def tbM (ν : kH) (N : Nat) (now : Int32) : Nat → Int32 := fun j => fFill (fTab (ν.1 49) (ν.1 50) (ν.1 51) (ν.1 52) now N) (j / 40) (j % 40 + 1)
def goM (ν : kH) (N G : Nat) (Y0 : Nat) : Nat → kS8
  | 0 => stOfM ν
  | j + 1 => itM (ν.1 54) (ν.1 47) (ν.1 48) (tbM ν N (nI (Y0 + j))) (Y0 + j) (goM ν N G Y0 j) G
theorem goM_ok {ν : kH} {N G Y0 : Nat} (hG : G ≤ 12) (hz : 0 ≤ (ν.1 46 37).toInt ∧ (ν.1 46 37).toInt ≤ 12 * Y0) (hag : agesOk (ν.1 55)) : ∀ j, Y0 + j ≤ 39 → (0 ≤ (goM ν N G Y0 j).2.1.toInt ∧ (goM ν N G Y0 j).2.1.toInt ≤ 12 * (Y0 + j)) ∧ agesOk (goM ν N G Y0 j).1.1 := by
  intro j
  induction j with
  | zero => intro _; exact ⟨hz, hag⟩
  | succ j ih =>
    intro hj
    obtain ⟨h1, h2⟩ := ih (by omega)
    rw [goM]
    have e := itM_ok (vi := ν.1 54) (yi := ν.1 47) (ra := ν.1 48) (tb := tbM ν N (nI (Y0 + j))) (Y := Y0 + j) (S0 := goM ν N G Y0 j) (b := 12 * (Y0 + j)) (by constructor <;> omega) (by omega) h2 G hG
    refine ⟨?_, e.2⟩
    have e1 := e.1
    omega

set_option maxHeartbeats 400000 in
set_option maxRecDepth 100000 in
theorem lp_X11_goO {ν : kH} {G N Y Y0 : Nat} (hG : G ≤ 12) (hgs : ν.1 46 13 = nI G) (hN : N ≤ 300) (hsz : ν.1 46 7 = nI N) (hr : ∀ j, j < N → 0 ≤ (ν.1 49 j).toInt ∧ (ν.1 49 j).toInt ≤ 3 ∧ 0 ≤ (ν.1 50 j).toInt ∧ (ν.1 50 j).toInt ≤ 39) (hz : 0 ≤ (ν.1 46 37).toInt ∧ (ν.1 46 37).toInt ≤ 12 * Y0) (hag : agesOk (ν.1 55)) (hY1 : 1 ≤ Y) (hYr : Y ≤ 20) (hYY : Y0 + Y ≤ 39) : ∀ (n i : Nat) (κ : kH), i + n = Y → fr2 [53, 55, 64, 65, 66] [2, 16, 17, 18, 37, 41] ν κ → stOfM κ = goM ν N G Y0 i → κ.1 46 2 = nI (Y0 + i) → At kX11_go 36 [kr 46, ki (nI Y), ki (nI i), ku] [] κ (kRet kX11_go (fun r h' => ∃ κ : kH, r = ki (nI (Y0 + Y)) ∧ h' = hI κ 46 1 (kst (nI (Y0 + Y))) ∧ fr2 [53, 55, 64, 65, 66] [2, 16, 17, 18, 37, 41] ν κ ∧ stOfM κ = goM ν N G Y0 Y ∧ κ.1 46 2 = nI (Y0 + Y))) := by
  intro n
  induction n with
  | zero =>
    intro i κ hi q hS hn
    have ei : i = Y := by omega
    subst ei
    refine k_iload_n (pc' := 37) dX11_go_36 rfl rfl ?_
    refine k_iload_n (pc' := 38) dX11_go_37 rfl rfl ?_
    refine k_icmp_ge (pc' := 41) (tg := 199) dX11_go_38 rfl (by decide) (fun c_38 => ?_) (fun c_38 => ?_)
    · skip
      refine k_aload_n (pc' := 200) dX11_go_199 rfl rfl ?_
      refine k_aload_n (pc' := 201) dX11_go_200 rfl rfl ?_
      refine k_getI (pc' := 204) fl_RX11_247 dX11_go_201 rfl rfl rfl ?_
      rw [hn]
      refine k_callV1 (pc' := 207) dX11_go_204 rfl ml_RX11_120 rfl rfl ⟨(Nat.le_of_ble_eq_true rfl), (Nat.le_of_ble_eq_true rfl)⟩ (Nat.le_of_ble_eq_true rfl) ev_X11_told2 (fun r_204 h_204 q_204 => ?_)
      obtain ⟨e_204, g_204⟩ := q_204
      rw [e_204, g_204]
      exact k_iret dX11_go_207 rfl ⟨κ, rfl, rfl, q, hS, hn⟩
    · exfalso
      exact c_38 (Int32.le_refl _)
  | succ n ih =>
    intro i κ hi q hS hn
    have hlt : i < Y := by omega
    refine k_iload_n (pc' := 37) dX11_go_36 rfl rfl ?_
    refine k_iload_n (pc' := 38) dX11_go_37 rfl rfl ?_
    refine k_icmp_ge (pc' := 41) (tg := 199) dX11_go_38 rfl (by decide) (fun c_38 => ?_) (fun c_38 => ?_)
    · exfalso
      exact nI_ge hlt (by omega) c_38
    · skip
      refine k_aload_n (pc' := 42) dX11_go_41 rfl rfl ?_
      refine k_aload_n (pc' := 43) dX11_go_42 rfl rfl ?_
      refine k_getI (pc' := 46) fl_RX11_247 dX11_go_43 rfl rfl rfl ?_
      rw [hn]
      refine k_callV1 (pc' := 49) dX11_go_46 rfl ml_RX11_138 rfl rfl ⟨(Nat.le_of_ble_eq_true rfl), (Nat.le_of_ble_eq_true rfl)⟩ (Nat.le_of_ble_eq_true rfl) (ev_X11_findPrices hN (by rw [q.2.1 7 (by decide)]; exact hsz) (fun j hj => by rw [q.1 49 (by decide) (by decide), q.1 50 (by decide) (by decide)]; exact hr j hj)) (fun r_46 h_46 q_46 => ?_)
      obtain ⟨e_46, tb, g_46, t_46⟩ := q_46
      rw [e_46, g_46]
      refine k_iconst (pc' := 50) (v := 0) dX11_go_49 rfl (by decide) ?_
      refine k_istore_n (pc' := 51) (k0 := 0) (ls' := [_, _, _, _]) dX11_go_50 rfl (by decide) rfl ?_
      have hok := goM_ok (N := N) hG hz hag i (by omega)
      rw [← hS] at hok
      have hK : ∀ s, s < 4 → tb (40 * s + (Y0 + i)) = tbM ν N (nI (Y0 + i)) (40 * s + (Y0 + i)) := fun s hs4 => by
        rw [t_46 s hs4 (Y0 + i) (by omega), q.1 49 (by decide) (by decide), q.1 50 (by decide) (by decide), q.1 51 (by decide) (by decide), q.1 52 (by decide) (by decide)]
        show _ = fFill _ ((40 * s + (Y0 + i)) / 40) ((40 * s + (Y0 + i)) % 40 + 1)
        rw [show (40 * s + (Y0 + i)) / 40 = s by omega, show (40 * s + (Y0 + i)) % 40 = Y0 + i by omega]
      refine k_wk (by repeat' (first | exact trivial | exact rfl | apply And.intro)) (lp_X11_goI (ν := (hs κ.1 53 tb, κ.2)) (G := G) (Y := Y0 + i) (b := 12 * (Y0 + i)) (by omega) hn hG ((q.2.1 13 (by decide)).trans hgs) (by have z := hok.1; constructor; exact z.1; have z2 := z.2; exact (by omega : _)) (by omega) hok.2 (fun κ2 q2 hS2 => ?_) G 0 _ (by omega) (fr2_rf _ _ _) rfl)
      refine k_aload_n (pc' := 184) dX11_go_183 rfl rfl ?_
      refine k_dup (pc' := 185) dX11_go_184 rfl rfl ?_
      refine k_getI (pc' := 188) fl_RX11_247 dX11_go_185 rfl rfl rfl ?_
      refine k_iconst (pc' := 189) (v := 1) dX11_go_188 rfl (by decide) ?_
      refine k_iadd (pc' := 190) dX11_go_189 rfl ?_
      refine k_putI (pc' := 193) fw_RX11_247 dX11_go_190 rfl rfl rfl ?_
      refine k_iinc (pc' := 196) (v := nI (_ + 1)) (ls' := [_, _, _, _]) dX11_go_193 rfl rfl (nI_1 _) (by decide) rfl ?_
      refine k_goto (tg := 36) dX11_go_196 (by decide) ?_
      have e3 : κ2.1 46 2 = nI (Y0 + i) := (q2.2.1 2 (by decide)).trans hn
      refine k_wk (by repeat' (first | exact trivial | exact rfl | apply And.intro)) (ih (i + 1) _ (by omega) ?_ ?_ ?_)
      · refine fr2_J (fr2_tr q ?_) (by decide)
        exact fr2_tr (fr2_T (fr2_rf _ _ κ) (by decide) (by decide)) ⟨fun k' hk' h' => q2.1 k' (fun z => hk' (by revert z; simp; omega)) h', fun j' hj' => q2.2.1 j' (fun z => hj' (by revert z; simp; omega)), q2.2.2⟩
      · show stOfM κ2 = _
        rw [hS2, goM]
        show itM (κ.1 54) (κ.1 47) (κ.1 48) tb (Y0 + i) (stOfM κ) G = _
        rw [q.1 54 (by decide) (by decide), q.1 47 (by decide) (by decide), q.1 48 (by decide) (by decide), hS]
        exact itM_congr hK G
      · rw [hI_at, e3]; exact nI_1 (Y0 + i)

set_option maxHeartbeats 400000 in
set_option maxRecDepth 100000 in
theorem ev_X11_go_ok {μ ν : kH} (hν : hI μ 46 0 0 = ν) {G N Y Y0 : Nat} (hnw : ν.1 46 2 = nI Y0) (hG : G ≤ 12) (hgs : ν.1 46 13 = nI G) (hN : N ≤ 300) (hsz : ν.1 46 7 = nI N) (hr : ∀ j, j < N → 0 ≤ (ν.1 49 j).toInt ∧ (ν.1 49 j).toInt ≤ 3 ∧ 0 ≤ (ν.1 50 j).toInt ∧ (ν.1 50 j).toInt ≤ 39) (hz : 0 ≤ (ν.1 46 37).toInt ∧ (ν.1 46 37).toInt ≤ 12 * Y0) (hag : agesOk (ν.1 55)) (hY1 : 1 ≤ Y) (hYr : Y ≤ 20) (hYY : Y0 + Y ≤ 39) : Ev kX11_go [kr 46, ki (nI Y)] μ (fun r h' => ∃ κ : kH, r = ki (nI (Y0 + Y)) ∧ h' = hI κ 46 1 (kst (nI (Y0 + Y))) ∧ fr2 [53, 55, 64, 65, 66] [2, 16, 17, 18, 37, 41] ν κ ∧ stOfM κ = goM ν N G Y0 Y ∧ κ.1 46 2 = nI (Y0 + Y)) := by
  have eY := nI_toInt (n := Y) (by omega)
  have eN : (ν.1 46 2).toInt = Y0 := by rw [hnw, nI_toInt (by omega)]
  have eS : (ν.1 46 2 + nI Y).toInt = Y0 + Y := by rw [k_add (by rw [eY, eN]; omega), eY, eN]
  refine k_ev (ls := [_, _, _, _]) (by decide) (Nat.le_of_ble_eq_true rfl) rfl ?_
  refine k_aload_n (pc' := 1) dX11_go_0 rfl rfl ?_
  refine k_iconst (pc' := 2) (v := 0) dX11_go_1 rfl (by decide) ?_
  refine k_putI (pc' := 5) fw_RX11_102 dX11_go_2 rfl rfl rfl ?_
  rw [hν]
  refine k_iload_n (pc' := 6) dX11_go_5 rfl rfl ?_
  refine k_i2l (pc' := 7) dX11_go_6 rfl ?_
  refine k_lconst (pc' := 8) (v := 1) dX11_go_7 rfl (by decide) ?_
  refine k_ldc2 (pc' := 11) dX11_go_8 rfl kc_RX11_256 ?_
  refine k_callS3 (pc' := 14) dX11_go_11 rfl ml_RX11_110 ⟨(Nat.le_of_ble_eq_true rfl), (Nat.le_of_ble_eq_true rfl)⟩ (Nat.le_of_ble_eq_true rfl) ev_X11_in (fun r_11 h_11 q_11 => ?_)
  obtain ⟨e_11, g_11⟩ := q_11
  rw [e_11, g_11]
  refine k_if_eq (pc' := 17) (tg := 28) dX11_go_14 rfl (by decide) (fun c_14 => ?_) (fun c_14 => ?_)
  · exfalso
    clear hr; (try simp only [eq_self, not_true_eq_false, not_false_eq_true, k_b0, k_b1, k_c0, k_cl, k_cg, k_cle, k_cge] at *) <;> (try simp only [eY, eS, eN, eq_self, not_true_eq_false, not_false_eq_true, k_le, k_lt, k_eq, k_leL, k_ltL, k_eqL, k_il, li_m6, li_m5, li_m3, li_m2, li_m1, li_0, li_1, li_2, li_3, li_4, li_5, li_6, li_7, li_8, li_10, li_11, li_12, li_20, li_24, li_25, li_26, li_32, li_39, li_40, li_48, li_57, li_59, li_60, li_96, li_97, li_100, li_122, li_180, li_200, li_255, li_300, li_468, li_480, li_500, li_1000, li_2000, li_10000, li_10001, li_100000, li_1000000, li_100000000, lj_m1, lj_0, lj_1, lj_2, lj_3, lj_24, lj_39, lj_100, lj_500, lj_1000, lj_2000, lj_10000, lj_100000, lj_1000000, lj_100000000, lj_10, lj_20, lj_12, lj_32, lj_96] at *) <;> omega
  · skip
    refine k_aload_n (pc' := 18) dX11_go_17 rfl rfl ?_
    refine k_getI (pc' := 21) fl_RX11_247 dX11_go_18 rfl rfl rfl ?_
    refine k_iload_n (pc' := 22) dX11_go_21 rfl rfl ?_
    refine k_iadd (pc' := 23) dX11_go_22 rfl ?_
    refine k_bipush (pc' := 25) (v := 39) dX11_go_23 rfl (by decide) ?_
    refine k_icmp_le (pc' := 28) (tg := 34) dX11_go_25 rfl (by decide) (fun c_25 => ?_) (fun c_25 => ?_)
    · skip
      refine k_iconst (pc' := 35) (v := 0) dX11_go_34 rfl (by decide) ?_
      refine k_istore_n (pc' := 36) (k0 := 0) (ls' := [_, _, _, _]) dX11_go_35 rfl (by decide) rfl ?_
      exact lp_X11_goO hG hgs hN hsz hr hz hag hY1 hYr hYY Y 0 ν (by omega) (fr2_rf _ _ _) rfl hnw
    · exfalso
      clear hr; (try simp only [eq_self, not_true_eq_false, not_false_eq_true, k_b0, k_b1, k_c0, k_cl, k_cg, k_cle, k_cge] at *) <;> (try simp only [eY, eS, eN, eq_self, not_true_eq_false, not_false_eq_true, k_le, k_lt, k_eq, k_leL, k_ltL, k_eqL, k_il, li_m6, li_m5, li_m3, li_m2, li_m1, li_0, li_1, li_2, li_3, li_4, li_5, li_6, li_7, li_8, li_10, li_11, li_12, li_20, li_24, li_25, li_26, li_32, li_39, li_40, li_48, li_57, li_59, li_60, li_96, li_97, li_100, li_122, li_180, li_200, li_255, li_300, li_468, li_480, li_500, li_1000, li_2000, li_10000, li_10001, li_100000, li_1000000, li_100000000, lj_m1, lj_0, lj_1, lj_2, lj_3, lj_24, lj_39, lj_100, lj_500, lj_1000, lj_2000, lj_10000, lj_100000, lj_1000000, lj_100000000, lj_10, lj_20, lj_12, lj_32, lj_96] at *) <;> omega

set_option maxHeartbeats 400000 in
set_option maxRecDepth 100000 in
theorem ev_X11_go_bad {y : Int32} {μ ν : kH} (hν : hI μ 46 0 0 = ν) (hnow : 0 ≤ (ν.1 46 2).toInt ∧ (ν.1 46 2).toInt ≤ 39) (hb : ¬ ((1 ≤ y.toInt ∧ y.toInt ≤ 20) ∧ (ν.1 46 2).toInt + y.toInt ≤ 39)) : Ev kX11_go [kr 46, ki y] μ (fun r h' => r = ki (-1) ∧ h' = hI ν 46 1 (kst (-1))) := by
  refine k_ev (ls := [_, _, _, _]) (by decide) (Nat.le_of_ble_eq_true rfl) rfl ?_
  refine k_aload_n (pc' := 1) dX11_go_0 rfl rfl ?_
  refine k_iconst (pc' := 2) (v := 0) dX11_go_1 rfl (by decide) ?_
  refine k_putI (pc' := 5) fw_RX11_102 dX11_go_2 rfl rfl rfl ?_
  rw [hν]
  refine k_iload_n (pc' := 6) dX11_go_5 rfl rfl ?_
  refine k_i2l (pc' := 7) dX11_go_6 rfl ?_
  refine k_lconst (pc' := 8) (v := 1) dX11_go_7 rfl (by decide) ?_
  refine k_ldc2 (pc' := 11) dX11_go_8 rfl kc_RX11_256 ?_
  refine k_callS3 (pc' := 14) dX11_go_11 rfl ml_RX11_110 ⟨(Nat.le_of_ble_eq_true rfl), (Nat.le_of_ble_eq_true rfl)⟩ (Nat.le_of_ble_eq_true rfl) ev_X11_in (fun r_11 h_11 q_11 => ?_)
  obtain ⟨e_11, g_11⟩ := q_11
  rw [e_11, g_11]
  refine k_if_eq (pc' := 17) (tg := 28) dX11_go_14 rfl (by decide) (fun c_14 => ?_) (fun c_14 => ?_)
  · skip
    refine k_aload_n (pc' := 29) dX11_go_28 rfl rfl ?_
    refine k_iconst (pc' := 30) (v := (-1)) dX11_go_29 rfl (by decide) ?_
    refine k_callV1 (pc' := 33) dX11_go_30 rfl ml_RX11_120 rfl rfl ⟨(Nat.le_of_ble_eq_true rfl), (Nat.le_of_ble_eq_true rfl)⟩ (Nat.le_of_ble_eq_true rfl) ev_X11_told2 (fun r_30 h_30 q_30 => ?_)
    obtain ⟨e_30, g_30⟩ := q_30
    rw [e_30, g_30]
    exact k_iret dX11_go_33 rfl ⟨rfl, rfl⟩
  · skip
    refine k_aload_n (pc' := 18) dX11_go_17 rfl rfl ?_
    refine k_getI (pc' := 21) fl_RX11_247 dX11_go_18 rfl rfl rfl ?_
    refine k_iload_n (pc' := 22) dX11_go_21 rfl rfl ?_
    refine k_iadd (pc' := 23) dX11_go_22 rfl ?_
    refine k_bipush (pc' := 25) (v := 39) dX11_go_23 rfl (by decide) ?_
    refine k_icmp_le (pc' := 28) (tg := 34) dX11_go_25 rfl (by decide) (fun c_25 => ?_) (fun c_25 => ?_)
    · exfalso
      have b1 : 1 ≤ y.toInt ∧ y.toInt ≤ 20 := (by clear hb; (try simp only [eq_self, not_true_eq_false, not_false_eq_true, k_b0, k_b1, k_c0, k_cl, k_cg, k_cle, k_cge] at *) <;> (try simp only [eq_self, not_true_eq_false, not_false_eq_true, k_le, k_lt, k_eq, k_leL, k_ltL, k_eqL, k_il, li_m6, li_m5, li_m3, li_m2, li_m1, li_0, li_1, li_2, li_3, li_4, li_5, li_6, li_7, li_8, li_10, li_11, li_12, li_20, li_24, li_25, li_26, li_32, li_39, li_40, li_48, li_57, li_59, li_60, li_96, li_97, li_100, li_122, li_180, li_200, li_255, li_300, li_468, li_480, li_500, li_1000, li_2000, li_10000, li_10001, li_100000, li_1000000, li_100000000, lj_m1, lj_0, lj_1, lj_2, lj_3, lj_24, lj_39, lj_100, lj_500, lj_1000, lj_2000, lj_10000, lj_100000, lj_1000000, lj_100000000, lj_10, lj_20, lj_12, lj_32, lj_96] at *) <;> omega)
      have e9 : (ν.1 46 2 + y).toInt = (ν.1 46 2).toInt + y.toInt := by rw [k_add (by omega)]
      (try simp only [eq_self, not_true_eq_false, not_false_eq_true, k_b0, k_b1, k_c0, k_cl, k_cg, k_cle, k_cge] at *) <;> (try simp only [e9, eq_self, not_true_eq_false, not_false_eq_true, k_le, k_lt, k_eq, k_leL, k_ltL, k_eqL, k_il, li_m6, li_m5, li_m3, li_m2, li_m1, li_0, li_1, li_2, li_3, li_4, li_5, li_6, li_7, li_8, li_10, li_11, li_12, li_20, li_24, li_25, li_26, li_32, li_39, li_40, li_48, li_57, li_59, li_60, li_96, li_97, li_100, li_122, li_180, li_200, li_255, li_300, li_468, li_480, li_500, li_1000, li_2000, li_10000, li_10001, li_100000, li_1000000, li_100000000, lj_m1, lj_0, lj_1, lj_2, lj_3, lj_24, lj_39, lj_100, lj_500, lj_1000, lj_2000, lj_10000, lj_100000, lj_1000000, lj_100000000, lj_10, lj_20, lj_12, lj_32, lj_96] at *) <;> omega
    · skip
      refine k_aload_n (pc' := 29) dX11_go_28 rfl rfl ?_
      refine k_iconst (pc' := 30) (v := (-1)) dX11_go_29 rfl (by decide) ?_
      refine k_callV1 (pc' := 33) dX11_go_30 rfl ml_RX11_120 rfl rfl ⟨(Nat.le_of_ble_eq_true rfl), (Nat.le_of_ble_eq_true rfl)⟩ (Nat.le_of_ble_eq_true rfl) ev_X11_told2 (fun r_30 h_30 q_30 => ?_)
      obtain ⟨e_30, g_30⟩ := q_30
      rw [e_30, g_30]
      exact k_iret dX11_go_33 rfl ⟨rfl, rfl⟩

