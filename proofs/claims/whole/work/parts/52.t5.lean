def row4 (g : Nat → Int32) (i : Nat) : kQ4 := (g (4 * i), g (4 * i + 1), g (4 * i + 2), g (4 * i + 3))
def rowM (μ : kH) (i : Nat) : kQ4 := (μ.1 56 i, μ.1 57 i, μ.1 58 i, μ.1 59 i)
theorem row4_g4 {g : Nat → Int32} {n : Nat} {R : Nat → kQ4} {q : kQ4} (hR : ∀ i, i < n → row4 g i = R i) : ∀ i, i < n + 1 → row4 (g4 g n q) i = updQ R n q i := by
  intro i hi
  unfold row4 g4 updQ
  simp only [upd]
  by_cases z : i = n
  · subst z
    rw [if_pos rfl, if_neg (by omega), if_neg (by omega), if_neg (by omega), if_pos rfl, if_neg (by omega), if_neg (by omega), if_pos rfl, if_neg (by omega), if_pos rfl, if_pos rfl]
  · rw [if_neg z, if_neg (by omega), if_neg (by omega), if_neg (by omega), if_neg (by omega), if_neg (by omega), if_neg (by omega), if_neg (by omega), if_neg (by omega), if_neg (by omega), if_neg (by omega), if_neg (by omega), if_neg (by omega), if_neg (by omega), if_neg (by omega), if_neg (by omega), if_neg (by omega)]
    exact hR i (by omega)
/-- the reference has read all, or stopped at a fault -/
def midM (ν : kH) (L T : Nat) (sN : Nat → Nat) (x : Nat × (Nat → kQ4) × Option Nat) (κ : kH) : Prop := (∃ tf, x.2.2 = some tf ∧ BS ν L T sN tf κ) ∨ (x.2.2 = none ∧ frR ν κ ∧ κ.1 46 33 = 0 ∧ κ.1 46 24 = nI x.1 ∧ κ.1 46 32 = -1 ∧ x.1 ≤ 20 ∧ ∀ i, i < x.1 → row4 (κ.1 60) i = x.2.1 i)

set_option maxHeartbeats 400000 in
set_option maxRecDepth 100000 in
theorem lt_bad {ν β : kH} {L T : Nat} {sN eN : Nat → Nat} (X : LX β (ν.1 61) L T sN eN) (htp : ν.1 46 27 = nI L) {Φ : Nat → List kV → List kV → kH → Prop} {κ : kH} {t : Nat} {x : Nat × (Nat → kQ4) × Option Nat} (ex : x.2.2 = some t) (Bd : BS ν L T sN t κ) (K : ∀ κ2, midM ν L T sN x κ2 → At kX11_tithes 96 [kr 46, ku] [] κ2 Φ) : At kX11_tithes 40 [kr 46, ku] [] κ Φ := by
  refine k_aload_n (pc' := 41) dX11_tithes_40 rfl rfl ?_
  refine k_getZ (pc' := 44) fl_RX11_208 dX11_tithes_41 rfl rfl rfl ?_
  rw [Bd.2.1]
  refine k_if_ne (pc' := 47) (tg := 77) dX11_tithes_44 rfl (by decide) (fun c_44 => ?_) (fun c_44 => ?_)
  · skip
    refine k_aload_n (pc' := 78) dX11_tithes_77 rfl rfl ?_
    refine k_getZ (pc' := 81) fl_RX11_208 dX11_tithes_78 rfl rfl rfl ?_
    rw [Bd.2.1]
    refine k_if_ne (pc' := 84) (tg := 96) dX11_tithes_81 rfl (by decide) (fun c_81 => ?_) (fun c_81 => ?_)
    · skip
      exact K κ (Or.inl ⟨t, ex, Bd⟩)
    · exfalso
      exact absurd c_81 (by decide)
  · exfalso
    exact absurd c_44 (by decide)

set_option maxHeartbeats 400000 in
set_option maxRecDepth 100000 in
theorem lt_end {ν β : kH} {L T : Nat} {sN eN : Nat → Nat} (X : LX β (ν.1 61) L T sN eN) (htp : ν.1 46 27 = nI L) {Φ : Nat → List kV → List kV → kH → Prop} {κ : kH} {n t : Nat} {g : Nat → Int32} {x : Nat × (Nat → kQ4) × Option Nat} (R : RS ν L T sN eN n g t κ) (hn : n ≤ 20) (e1 : x.1 = n) (e2 : ∀ i, i < n → row4 g i = x.2.1 i) (e3 : x.2.2 = if t < T then some t else none) (K : ∀ κ2, midM ν L T sN x κ2 → At kX11_tithes 96 [kr 46, ku] [] κ2 Φ) : At kX11_tithes 77 [kr 46, ku] [] κ Φ := by
  have e30 : κ.1 46 30 = sM (ν.1 61) T sN t := R.2.2.2.2.2.2.2.2.1
  refine k_aload_n (pc' := 78) dX11_tithes_77 rfl rfl ?_
  refine k_getZ (pc' := 81) fl_RX11_208 dX11_tithes_78 rfl rfl rfl ?_
  rw [R.2.1]
  refine k_if_ne (pc' := 84) (tg := 96) dX11_tithes_81 rfl (by decide) (fun c_81 => ?_) (fun c_81 => ?_)
  · exfalso
    exact c_81 rfl
  · skip
    refine k_aload_n (pc' := 85) dX11_tithes_84 rfl rfl ?_
    refine k_getI (pc' := 88) fl_RX11_195 dX11_tithes_85 rfl rfl rfl ?_
    rw [e30]
    refine k_if_eq (pc' := 91) (tg := 96) dX11_tithes_88 rfl (by decide) (fun c_88 => ?_) (fun c_88 => ?_)
    · skip
      have z : ¬ t < T := sM_0.mp c_88
      rw [if_neg z] at e3
      exact K κ (Or.inr ⟨e3, R.1, R.2.1, by rw [e1]; exact R.2.2.1, R.2.2.2.2.1, by rw [e1]; exact hn, fun i hi => by rw [R.2.2.2.1]; exact e2 i (by rw [← e1]; exact hi)⟩)
    · skip
      have z : t < T := Classical.byContradiction (fun w => c_88 (sM_0.mpr w))
      rw [if_pos z] at e3
      refine k_aload_n (pc' := 92) dX11_tithes_91 rfl rfl ?_
      refine k_iconst (pc' := 93) (v := 0) dX11_tithes_92 rfl (by decide) ?_
      refine k_callV1 (pc' := 96) dX11_tithes_93 rfl ml_RX11_215 rfl rfl ⟨(Nat.le_of_ble_eq_true rfl), (Nat.le_of_ble_eq_true rfl)⟩ (Nat.le_of_ble_eq_true rfl) (mu_0 X htp R) (fun r_93 h_93 q_93 => ?_)
      obtain ⟨e_93, B_93⟩ := q_93
      rw [e_93]
      exact K h_93 (Or.inl ⟨t, e3, B_93⟩)

set_option maxHeartbeats 400000 in
set_option maxRecDepth 100000 in
theorem lt_loop {ν β : kH} {L T : Nat} {sN eN : Nat → Nat} (X : LX β (ν.1 61) L T sN eN) (htp : ν.1 46 27 = nI L) {Φ : Nat → List kV → List kV → kH → Prop} : ∀ (f n : Nat) (R : Nat → kQ4) (t : Nat) (κ : kH) (g : Nat → Int32), n + f = 20 → (∀ i, i < n → row4 g i = R i) → PM ν L T sN eN n g (oOne β T sN eN n t) κ → (∀ κ2, midM ν L T sN (rnO β T sN eN (f + 1) n R t) κ2 → At kX11_tithes 96 [kr 46, ku] [] κ2 Φ) → At kX11_tithes 40 [kr 46, ku] [] κ Φ := by
  intro f
  induction f with
  | zero =>
    intro n R t κ g hn hR hP K
    have ook := oOne_ok β T sN eN n t
    cases ho : oOne β T sN eN n t with
    | mk x1 x2 =>
      rw [ho] at hP ook
      cases x1 with
      | none => exact lt_bad X htp (by rw [rnO_b ho]) hP K
      | some q => have := ook.2.2.1; omega
  | succ f ih =>
    intro n R t κ g hn hR hP K
    have ook := oOne_ok β T sN eN n t
    cases ho : oOne β T sN eN n t with
    | mk x1 x2 =>
      rw [ho] at hP ook
      cases x1 with
      | none => exact lt_bad X htp (by rw [rnO_b ho]) hP K
      | some q =>
        have R0 : RS ν L T sN eN (n + 1) (g4 g n q) x2 κ := hP
        have hrow : ∀ i, i < n + 1 → row4 (g4 g n q) i = updQ R n q i := row4_g4 hR
        have e30 : κ.1 46 30 = sM (ν.1 61) T sN x2 := R0.2.2.2.2.2.2.2.2.1
        have e31 : κ.2 46 31 = vM (ν.1 61) T sN eN x2 := R0.2.2.2.2.2.2.2.2.2
        have wS := lexS X x2
        refine k_aload_n (pc' := 41) dX11_tithes_40 rfl rfl ?_
        refine k_getZ (pc' := 44) fl_RX11_208 dX11_tithes_41 rfl rfl rfl ?_
        rw [R0.2.1]
        refine k_if_ne (pc' := 47) (tg := 77) dX11_tithes_44 rfl (by decide) (fun c_44 => ?_) (fun c_44 => ?_)
        · exfalso
          exact c_44 rfl
        · skip
          refine k_aload_n (pc' := 48) dX11_tithes_47 rfl rfl ?_
          refine k_getI (pc' := 51) fl_RX11_195 dX11_tithes_48 rfl rfl rfl ?_
          refine k_iconst (pc' := 52) (v := 3) dX11_tithes_51 rfl (by decide) ?_
          rw [e30]
          refine k_icmp_ne (pc' := 55) (tg := 77) dX11_tithes_52 rfl (by decide) (fun c_52 => ?_) (fun c_52 => ?_)
          · skip
            have ex := rnO_g (f := f + 1) (R := R) ho
            rw [cIf_neg (fun z => c_52 (wS.mp z).1)] at ex
            exact lt_end X htp R0 (by omega) (by rw [ex]) (by rw [ex]; exact hrow) (by rw [ex]) K
          · skip
            refine k_aload_n (pc' := 56) dX11_tithes_55 rfl rfl ?_
            refine k_getL (pc' := 59) fl_RX11_185 dX11_tithes_56 rfl rfl rfl ?_
            rw [e31]
            refine k_ldc2 (pc' := 62) dX11_tithes_59 rfl kc_RX11_233 ?_
            refine k_lcmp (pc' := 63) dX11_tithes_62 rfl ?_
            refine k_if_ne (pc' := 66) (tg := 77) dX11_tithes_63 rfl (by decide) (fun c_63 => ?_) (fun c_63 => ?_)
            · skip
              have ex := rnO_g (f := f + 1) (R := R) ho
              rw [cIf_neg (fun z => c_63 (k_c0.mpr (wS.mp z).2))] at ex
              exact lt_end X htp R0 (by omega) (by rw [ex]) (by rw [ex]; exact hrow) (by rw [ex]) K
            · skip
              have ws : wX β T sN eN 7 x2 := wS.mpr ⟨c_52, k_c0.mp c_63⟩
              have ex := rnO_g (f := f + 1) (R := R) ho
              rw [cIf_pos ws] at ex
              refine k_aload_n (pc' := 67) dX11_tithes_66 rfl rfl ?_
              refine k_callV0 (pc' := 70) dX11_tithes_67 rfl ml_RX11_212 rfl rfl ⟨(Nat.le_of_ble_eq_true rfl), (Nat.le_of_ble_eq_true rfl)⟩ (Nat.le_of_ble_eq_true rfl) (nt_ok X htp R0 ws.1) (fun r_67 h_67 q_67 => ?_)
              obtain ⟨e_67, R_67⟩ := q_67
              rw [e_67]
              refine k_aload_n (pc' := 71) dX11_tithes_70 rfl rfl ?_
              refine k_callV0 (pc' := 74) dX11_tithes_71 rfl ml_RX11_230 rfl rfl ⟨(Nat.le_of_ble_eq_true rfl), (Nat.le_of_ble_eq_true rfl)⟩ (Nat.le_of_ble_eq_true rfl) (ev_readTithe X htp (by omega) R_67) (fun r_71 h_71 q_71 => ?_)
              obtain ⟨e_71, P_71⟩ := q_71
              rw [e_71]
              refine k_goto (tg := 40) dX11_tithes_74 (by decide) ?_
              exact ih (n + 1) (updQ R n q) (x2 + 1) h_71 (g4 g n q) (by omega) hrow P_71 (fun κ2 m => K κ2 (by rw [ex]; exact m))

theorem cp_row {κ : kH} {i : Nat} : ∀ j, rowM (hI (hI (hI (hI κ 56 i (κ.1 60 (4 * i))) 57 i (κ.1 60 (4 * i + 1))) 58 i (κ.1 60 (4 * i + 2))) 59 i (κ.1 60 (4 * i + 3))) j = if j = i then row4 (κ.1 60) i else rowM κ j := by
  intro j
  have e : rowM (hI (hI (hI (hI κ 56 i (κ.1 60 (4 * i))) 57 i (κ.1 60 (4 * i + 1))) 58 i (κ.1 60 (4 * i + 2))) 59 i (κ.1 60 (4 * i + 3))) j = (upd (κ.1 56) i (κ.1 60 (4 * i)) j, upd (κ.1 57) i (κ.1 60 (4 * i + 1)) j, upd (κ.1 58) i (κ.1 60 (4 * i + 2)) j, upd (κ.1 59) i (κ.1 60 (4 * i + 3)) j) := rfl
  rw [e]
  simp only [upd]
  by_cases z : j = i
  · rw [if_pos z, if_pos z, if_pos z, if_pos z, if_pos z]; rfl
  · rw [if_neg z, if_neg z, if_neg z, if_neg z, if_neg z]; rfl

set_option maxHeartbeats 400000 in
set_option maxRecDepth 100000 in
theorem lt_copy {κ0 : kH} {N : Nat} (hN : N ≤ 20) (h19 : κ0.1 46 19 = nI N) {Φ : Nat → List kV → List kV → kH → Prop} (K : ∀ κ, fr [56, 57, 58, 59] κ0 κ → (∀ j, j < N → rowM κ j = row4 (κ0.1 60) j) → At kX11_tithes 201 [kr 46, ki (nI N)] [] κ Φ) : ∀ (m i : Nat) (κ : kH), i + m = N → fr [56, 57, 58, 59] κ0 κ → (∀ j, j < i → rowM κ j = row4 (κ0.1 60) j) → At kX11_tithes 125 [kr 46, ki (nI i)] [] κ Φ := by
  intro m
  induction m with
  | zero =>
    intro i κ hi q hr
    have hiN : i = N := by omega
    subst hiN
    have g19 : κ.1 46 19 = nI i := by rw [q.1 46 (by decide)]; exact h19
    refine k_iload_n (pc' := 126) dX11_tithes_125 rfl rfl ?_
    refine k_aload_n (pc' := 127) dX11_tithes_126 rfl rfl ?_
    refine k_getI (pc' := 130) fl_RX11_235 dX11_tithes_127 rfl rfl rfl ?_
    rw [g19]
    refine k_icmp_ge (pc' := 133) (tg := 201) dX11_tithes_130 rfl (by decide) (fun c_130 => ?_) (fun c_130 => ?_)
    · skip
      exact K κ q hr
    · exfalso
      exact c_130 (Int32.le_refl _)
  | succ m ih =>
    intro i κ hi q hr
    have g19 : κ.1 46 19 = nI N := by rw [q.1 46 (by decide)]; exact h19
    have g60 : κ.1 60 = κ0.1 60 := q.1 60 (by decide)
    refine k_iload_n (pc' := 126) dX11_tithes_125 rfl rfl ?_
    refine k_aload_n (pc' := 127) dX11_tithes_126 rfl rfl ?_
    refine k_getI (pc' := 130) fl_RX11_235 dX11_tithes_127 rfl rfl rfl ?_
    rw [g19]
    refine k_icmp_ge (pc' := 133) (tg := 201) dX11_tithes_130 rfl (by decide) (fun c_130 => ?_) (fun c_130 => ?_)
    · exfalso
      exact nI_ge (show i < N by omega) (by omega) c_130
    · skip
      refine k_aload_n (pc' := 134) dX11_tithes_133 rfl rfl ?_
      refine k_getR (pc' := 137) fl_RX11_44 dX11_tithes_134 rfl rfl rfl ?_
      refine k_iload_n (pc' := 138) dX11_tithes_137 rfl rfl ?_
      refine k_aload_n (pc' := 139) dX11_tithes_138 rfl rfl ?_
      refine k_getR (pc' := 142) fl_RX11_56 dX11_tithes_139 rfl rfl rfl ?_
      refine k_iconst (pc' := 143) (v := 4) dX11_tithes_142 rfl (by decide) ?_
      refine k_iload_n (pc' := 144) dX11_tithes_143 rfl rfl ?_
      refine k_imul (pc' := 145) dX11_tithes_144 rfl ?_
      rw [nI_4]
      refine k_ialdN (pc' := 146) dX11_tithes_145 rfl rfl (by omega) (by decide) ?_
      refine k_iastN (pc' := 147) dX11_tithes_146 rfl rfl (by omega) (by decide) ?_
      refine k_aload_n (pc' := 148) dX11_tithes_147 rfl rfl ?_
      refine k_getR (pc' := 151) fl_RX11_47 dX11_tithes_148 rfl rfl rfl ?_
      refine k_iload_n (pc' := 152) dX11_tithes_151 rfl rfl ?_
      refine k_aload_n (pc' := 153) dX11_tithes_152 rfl rfl ?_
      refine k_getR (pc' := 156) fl_RX11_56 dX11_tithes_153 rfl rfl rfl ?_
      refine k_iconst (pc' := 157) (v := 4) dX11_tithes_156 rfl (by decide) ?_
      refine k_iload_n (pc' := 158) dX11_tithes_157 rfl rfl ?_
      refine k_imul (pc' := 159) dX11_tithes_158 rfl ?_
      refine k_iconst (pc' := 160) (v := 1) dX11_tithes_159 rfl (by decide) ?_
      refine k_iadd (pc' := 161) dX11_tithes_160 rfl ?_
      rw [nI_4a (c := 1) (k := 1) rfl]
      refine k_ialdN (pc' := 162) dX11_tithes_161 rfl rfl (by omega) (by decide) ?_
      rw [show (hI κ 56 i (κ.1 60 (4 * i))).1 60 = κ.1 60 from rfl]
      refine k_iastN (pc' := 163) dX11_tithes_162 rfl rfl (by omega) (by decide) ?_
      refine k_aload_n (pc' := 164) dX11_tithes_163 rfl rfl ?_
      refine k_getR (pc' := 167) fl_RX11_50 dX11_tithes_164 rfl rfl rfl ?_
      refine k_iload_n (pc' := 168) dX11_tithes_167 rfl rfl ?_
      refine k_aload_n (pc' := 169) dX11_tithes_168 rfl rfl ?_
      refine k_getR (pc' := 172) fl_RX11_56 dX11_tithes_169 rfl rfl rfl ?_
      refine k_iconst (pc' := 173) (v := 4) dX11_tithes_172 rfl (by decide) ?_
      refine k_iload_n (pc' := 174) dX11_tithes_173 rfl rfl ?_
      refine k_imul (pc' := 175) dX11_tithes_174 rfl ?_
      refine k_iconst (pc' := 176) (v := 2) dX11_tithes_175 rfl (by decide) ?_
      refine k_iadd (pc' := 177) dX11_tithes_176 rfl ?_
      rw [nI_4a (c := 2) (k := 2) rfl]
      refine k_ialdN (pc' := 178) dX11_tithes_177 rfl rfl (by omega) (by decide) ?_
      rw [show (hI (hI κ 56 i (κ.1 60 (4 * i))) 57 i (κ.1 60 (4 * i + 1))).1 60 = κ.1 60 from rfl]
      refine k_iastN (pc' := 179) dX11_tithes_178 rfl rfl (by omega) (by decide) ?_
      refine k_aload_n (pc' := 180) dX11_tithes_179 rfl rfl ?_
      refine k_getR (pc' := 183) fl_RX11_53 dX11_tithes_180 rfl rfl rfl ?_
      refine k_iload_n (pc' := 184) dX11_tithes_183 rfl rfl ?_
      refine k_aload_n (pc' := 185) dX11_tithes_184 rfl rfl ?_
      refine k_getR (pc' := 188) fl_RX11_56 dX11_tithes_185 rfl rfl rfl ?_
      refine k_iconst (pc' := 189) (v := 4) dX11_tithes_188 rfl (by decide) ?_
      refine k_iload_n (pc' := 190) dX11_tithes_189 rfl rfl ?_
      refine k_imul (pc' := 191) dX11_tithes_190 rfl ?_
      refine k_iconst (pc' := 192) (v := 3) dX11_tithes_191 rfl (by decide) ?_
      refine k_iadd (pc' := 193) dX11_tithes_192 rfl ?_
      rw [nI_4a (c := 3) (k := 3) rfl]
      refine k_ialdN (pc' := 194) dX11_tithes_193 rfl rfl (by omega) (by decide) ?_
      rw [show (hI (hI (hI κ 56 i (κ.1 60 (4 * i))) 57 i (κ.1 60 (4 * i + 1))) 58 i (κ.1 60 (4 * i + 2))).1 60 = κ.1 60 from rfl]
      refine k_iastN (pc' := 195) dX11_tithes_194 rfl rfl (by omega) (by decide) ?_
      refine k_iinc (pc' := 198) (v := nI (_ + 1)) (ls' := [_, _]) dX11_tithes_195 rfl rfl (nI_1 _) (by decide) rfl ?_
      refine k_goto (tg := 125) dX11_tithes_198 (by decide) ?_
      refine ih (i + 1) _ (by omega) (fr_I (fr_I (fr_I (fr_I q (by decide)) (by decide)) (by decide)) (by decide)) (fun j hj => ?_)
      rw [cp_row, g60]
      by_cases z : j = i
      · rw [if_pos z, z]
      · rw [if_neg z]; exact hr j (by omega)

def frT (ν κ : kH) : Prop := (∀ k, k ∉ [46, 56, 57, 58, 59, 60] → κ.1 k = ν.1 k) ∧ (∀ j, j ∉ [1, 19, 24, 27, 28, 29, 30, 32, 33] → κ.1 46 j = ν.1 46 j) ∧ ∀ k, k ≠ 46 → κ.2 k = ν.2 k
theorem frT_R {ν κ : kH} (q : frR ν κ) : frT ν κ := ⟨fun k hk => q.1 k (fun z => hk (by rw [z]; decide)) (fun z => hk (by rw [z]; decide)), fun j hj => q.2.1 j (fun z => hj (by simp only [List.mem_cons, List.not_mem_nil, or_false] at z ⊢; omega)), q.2.2⟩
theorem frT_J {ν κ : kH} (q : frT ν κ) {j : Nat} {v : Int32} (hj : j ∈ [1, 19, 24, 27, 28, 29, 30, 32, 33]) : frT ν (hI κ 46 j v) := ⟨fun k h1 => by
  have e : (hI κ 46 j v).1 k = κ.1 k := hs_ne _ _ (fun z => h1 (by rw [z]; decide))
  rw [e]; exact q.1 k h1, fun j' hj' => by
  have e : (hI κ 46 j v).1 46 = upd (κ.1 46) j v := by show hs κ.1 46 (upd (κ.1 46) j v) 46 = _; rw [hs_self]
  rw [e]; simp only [upd]; rw [if_neg (show ¬ j' = j from fun z => hj' (by rw [z]; exact hj))]; exact q.2.1 j' hj', q.2.2⟩
theorem frT_tr {ν κ κ2 : kH} (q : frT ν κ) (q2 : fr [56, 57, 58, 59] κ κ2) : frT ν κ2 := ⟨fun k hk => by rw [q2.1 k (fun z => hk (by simp only [List.mem_cons, List.not_mem_nil, or_false] at z ⊢; omega))]; exact q.1 k hk, fun j hj => by rw [q2.1 46 (by decide)]; exact q.2.1 j hj, fun k hk => by rw [q2.2]; exact q.2.2 k hk⟩
/-- the outcome of the reference's tithes -/
def endM (ν : kH) (L T : Nat) (sN : Nat → Nat) (x : Nat × (Nat → kQ4) × Option Nat) (r : kV) (h' : kH) : Prop := frT ν h' ∧ h'.1 46 27 = 0 ∧ ((∃ tf, x.2.2 = some tf ∧ r = ki (-6) ∧ h'.1 46 32 = nI (stT L T sN tf) ∧ h'.1 46 1 = -6 ∧ h'.1 46 19 = ν.1 46 19 ∧ h'.1 56 = ν.1 56 ∧ h'.1 57 = ν.1 57 ∧ h'.1 58 = ν.1 58 ∧ h'.1 59 = ν.1 59) ∨ (x.2.2 = none ∧ r = ki (nI x.1) ∧ h'.1 46 32 = -1 ∧ h'.1 46 1 = 0 ∧ h'.1 46 19 = nI x.1 ∧ ∀ i, i < x.1 → rowM h' i = x.2.1 i))
set_option maxHeartbeats 400000 in
set_option maxRecDepth 100000 in
theorem lt_96b {ν κ : kH} {L T tf : Nat} {sN : Nat → Nat} {x : Nat × (Nat → kQ4) × Option Nat} (ex : x.2.2 = some tf) (Bd : BS ν L T sN tf κ) : At kX11_tithes 96 [kr 46, ku] [] κ (kRet kX11_tithes (endM ν L T sN x)) := by
  refine k_aload_n (pc' := 97) dX11_tithes_96 rfl rfl ?_
  refine k_iconst (pc' := 98) (v := 0) dX11_tithes_97 rfl (by decide) ?_
  refine k_putI (pc' := 101) fw_RX11_173 dX11_tithes_98 rfl rfl rfl ?_
  refine k_aload_n (pc' := 102) dX11_tithes_101 rfl rfl ?_
  refine k_getZ (pc' := 105) fl_RX11_208 dX11_tithes_102 rfl rfl rfl ?_
  rw [show (hI κ 46 27 0).1 46 33 = 1 from Bd.2.1]
  refine k_if_eq (pc' := 108) (tg := 115) dX11_tithes_105 rfl (by decide) (fun c_105 => ?_) (fun c_105 => ?_)
  · exfalso
    exact absurd c_105 (by decide)
  · skip
    refine k_aload_n (pc' := 109) dX11_tithes_108 rfl rfl ?_
    refine k_bipush (pc' := 111) (v := (-6)) dX11_tithes_109 rfl (by decide) ?_
    refine k_callV1 (pc' := 114) dX11_tithes_111 rfl ml_RX11_120 rfl rfl ⟨(Nat.le_of_ble_eq_true rfl), (Nat.le_of_ble_eq_true rfl)⟩ (Nat.le_of_ble_eq_true rfl) ev_X11_told2 (fun r_111 h_111 q_111 => ?_)
    obtain ⟨e_111, g_111⟩ := q_111
    rw [e_111, g_111]
    exact k_iret dX11_tithes_114 rfl ⟨frT_J (frT_J (frT_R Bd.1) (by decide)) (by decide), (show (hI κ 46 27 0).1 46 27 = 0 from hI_at _ _ _ _), Or.inl ⟨tf, ex, rfl, Bd.2.2.1, hI_at _ _ _ _, Bd.1.2.1 19 (by decide), Bd.1.1 56 (by decide) (by decide), Bd.1.1 57 (by decide) (by decide), Bd.1.1 58 (by decide) (by decide), Bd.1.1 59 (by decide) (by decide)⟩⟩

theorem k_st {n : Nat} (hn : n ≤ 20) : kst (nI n) = 0 := by
  unfold kst
  rw [if_neg (fun z => by rw [k_lt, nI_toInt (by omega), li_0] at z; omega)]
set_option maxHeartbeats 400000 in
set_option maxRecDepth 100000 in
theorem lt_96g {ν κ : kH} {L T : Nat} {sN : Nat → Nat} {x : Nat × (Nat → kQ4) × Option Nat} (ex : x.2.2 = none) (m1 : frR ν κ) (m2 : κ.1 46 33 = 0) (m3 : κ.1 46 24 = nI x.1) (m4 : κ.1 46 32 = -1) (m5 : x.1 ≤ 20) (m6 : ∀ i, i < x.1 → row4 (κ.1 60) i = x.2.1 i) : At kX11_tithes 96 [kr 46, ku] [] κ (kRet kX11_tithes (endM ν L T sN x)) := by
  refine k_aload_n (pc' := 97) dX11_tithes_96 rfl rfl ?_
  refine k_iconst (pc' := 98) (v := 0) dX11_tithes_97 rfl (by decide) ?_
  refine k_putI (pc' := 101) fw_RX11_173 dX11_tithes_98 rfl rfl rfl ?_
  refine k_aload_n (pc' := 102) dX11_tithes_101 rfl rfl ?_
  refine k_getZ (pc' := 105) fl_RX11_208 dX11_tithes_102 rfl rfl rfl ?_
  rw [show (hI κ 46 27 0).1 46 33 = 0 from m2]
  refine k_if_eq (pc' := 108) (tg := 115) dX11_tithes_105 rfl (by decide) (fun c_105 => ?_) (fun c_105 => ?_)
  · skip
    refine k_aload_n (pc' := 116) dX11_tithes_115 rfl rfl ?_
    refine k_aload_n (pc' := 117) dX11_tithes_116 rfl rfl ?_
    refine k_getI (pc' := 120) fl_RX11_223 dX11_tithes_117 rfl rfl rfl ?_
    rw [show (hI κ 46 27 0).1 46 24 = nI x.1 from m3]
    refine k_putI (pc' := 123) fw_RX11_235 dX11_tithes_120 rfl rfl rfl ?_
    refine k_iconst (pc' := 124) (v := 0) dX11_tithes_123 rfl (by decide) ?_
    refine k_istore_n (pc' := 125) (k0 := 0) (ls' := [_, _]) dX11_tithes_124 rfl (by decide) rfl ?_
    refine lt_copy (κ0 := (hI (hI κ 46 27 0) 46 19 (nI x.1))) m5 (hI_at _ _ _ _) (fun κc qc rc => ?_) x.1 0 _ (by omega) (fr_rf _ _) (fun j hj => absurd hj (Nat.not_lt_zero _))
    have w19 : κc.1 46 19 = nI x.1 := by rw [qc.1 46 (by decide)]; exact hI_at _ _ _ _
    have w27 : κc.1 46 27 = 0 := by rw [qc.1 46 (by decide)]; show (hI κ 46 27 0).1 46 27 = 0; exact hI_at _ _ _ _
    have w32 : κc.1 46 32 = -1 := by rw [qc.1 46 (by decide)]; exact m4
    refine k_aload_n (pc' := 202) dX11_tithes_201 rfl rfl ?_
    refine k_aload_n (pc' := 203) dX11_tithes_202 rfl rfl ?_
    refine k_getI (pc' := 206) fl_RX11_235 dX11_tithes_203 rfl rfl rfl ?_
    rw [w19]
    refine k_callV1 (pc' := 209) dX11_tithes_206 rfl ml_RX11_120 rfl rfl ⟨(Nat.le_of_ble_eq_true rfl), (Nat.le_of_ble_eq_true rfl)⟩ (Nat.le_of_ble_eq_true rfl) ev_X11_told2 (fun r_206 h_206 q_206 => ?_)
    obtain ⟨e_206, g_206⟩ := q_206
    rw [e_206, g_206]
    exact k_iret dX11_tithes_209 rfl ⟨frT_J (frT_tr (frT_J (frT_J (frT_R m1) (by decide)) (by decide)) qc) (by decide), w27, Or.inr ⟨ex, rfl, w32, by rw [hI_at]; exact k_st m5, w19, fun i hi => (rc i hi).trans (m6 i hi)⟩⟩
  · exfalso
    exact c_105 rfl

/-- all that is read, also of an empty tape -/
noncomputable def xAll (β : kH) (T : Nat) (sN eN : Nat → Nat) (R : Nat → kQ4) : Nat × (Nat → kQ4) × Option Nat := if 0 < T then rnO β T sN eN 21 0 R 0 else (0, R, none)
set_option maxHeartbeats 400000 in
set_option maxRecDepth 100000 in
theorem ev_X11_tithes {μ ν β : kH} (hν : hI μ 46 0 0 = ν) {L T : Nat} {sN eN : Nat → Nat} (X : LX β (ν.1 61) L T sN eN) (htp : ν.1 46 27 = nI L) (R : Nat → kQ4) : Ev kX11_tithes [kr 46] μ (endM ν L T sN (xAll β T sN eN R)) := by
  refine k_ev (ls := [_, _]) (by decide) (Nat.le_of_ble_eq_true rfl) rfl ?_
  refine k_aload_n (pc' := 1) dX11_tithes_0 rfl rfl ?_
  refine k_iconst (pc' := 2) (v := 0) dX11_tithes_1 rfl (by decide) ?_
  refine k_putI (pc' := 5) fw_RX11_102 dX11_tithes_2 rfl rfl rfl ?_
  rw [hν]
  refine k_aload_n (pc' := 6) dX11_tithes_5 rfl rfl ?_
  refine k_iconst (pc' := 7) (v := 0) dX11_tithes_6 rfl (by decide) ?_
  refine k_putI (pc' := 10) fw_RX11_179 dX11_tithes_7 rfl rfl rfl ?_
  refine k_aload_n (pc' := 11) dX11_tithes_10 rfl rfl ?_
  refine k_iconst (pc' := 12) (v := 0) dX11_tithes_11 rfl (by decide) ?_
  refine k_putZ (pc' := 15) rfl rfl fw_RX11_208 dX11_tithes_12 rfl rfl rfl ?_
  refine k_aload_n (pc' := 16) dX11_tithes_15 rfl rfl ?_
  refine k_iconst (pc' := 17) (v := (-1)) dX11_tithes_16 rfl (by decide) ?_
  refine k_putI (pc' := 20) fw_RX11_62 dX11_tithes_17 rfl rfl rfl ?_
  refine k_aload_n (pc' := 21) dX11_tithes_20 rfl rfl ?_
  refine k_iconst (pc' := 22) (v := 0) dX11_tithes_21 rfl (by decide) ?_
  refine k_putI (pc' := 25) fw_RX11_223 dX11_tithes_22 rfl rfl rfl ?_
  refine k_aload_n (pc' := 26) dX11_tithes_25 rfl rfl ?_
  refine k_callV0 (pc' := 29) dX11_tithes_26 rfl ml_RX11_212 rfl rfl ⟨(Nat.le_of_ble_eq_true rfl), (Nat.le_of_ble_eq_true rfl)⟩ (Nat.le_of_ble_eq_true rfl) (ev_next (ν := (hI (hI (hI (hI ν 46 29 0) 46 33 0) 46 32 (-1)) 46 24 0)) (p := 0) X.1 htp (show (hI ν 46 29 0).1 46 29 = nI 0 from hI_at _ _ _ _) (Nat.zero_le L)) (fun r_26 h_26 q_26 => ?_)
  obtain ⟨e_26, n_26⟩ := q_26
  rw [e_26]
  have a0 := nx_tok (ν := (hI (hI (hI (hI ν 46 29 0) 46 33 0) 46 32 (-1)) 46 24 0)) (t := 0) X.2.2.2.1 (Nat.zero_le T) n_26
  have fN := n_26.1
  have fR : frR ν h_26 := frR_N (frR_J (frR_J (frR_J (frR_J ⟨fun _ _ _ => rfl, fun _ _ => rfl, fun _ _ => rfl⟩ (by decide)) (by decide)) (by decide)) (by decide)) fN
  have R0 : RS ν L T sN eN 0 (h_26.1 60) 0 h_26 := ⟨fR, by rw [fN.2.1 33 (by decide)]; show (hI (hI ν 46 29 0) 46 33 0).1 46 33 = 0; exact hI_at _ _ _ _, by rw [fN.2.1 24 (by decide)]; exact hI_at _ _ _ _, rfl, by rw [fN.2.1 32 (by decide)]; show (hI (hI (hI ν 46 29 0) 46 33 0) 46 32 (-1)).1 46 32 = -1; exact hI_at _ _ _ _, Nat.zero_le T, a0⟩
  have e30 : h_26.1 46 30 = sM (ν.1 61) T sN 0 := a0.2.2.1
  refine k_aload_n (pc' := 30) dX11_tithes_29 rfl rfl ?_
  refine k_getI (pc' := 33) fl_RX11_195 dX11_tithes_30 rfl rfl rfl ?_
  rw [e30]
  refine k_if_eq (pc' := 36) (tg := 96) dX11_tithes_33 rfl (by decide) (fun c_33 => ?_) (fun c_33 => ?_)
  · skip
    have zT : ¬ 0 < T := sM_0.mp c_33
    unfold xAll
    rw [if_neg zT]
    exact lt_96g rfl fR R0.2.1 R0.2.2.1 R0.2.2.2.2.1 (Nat.zero_le _) (fun i hi => absurd hi (Nat.not_lt_zero _))
  · skip
    have zT : 0 < T := Classical.byContradiction (fun w => c_33 (sM_0.mpr w))
    unfold xAll
    rw [if_pos zT]
    refine k_aload_n (pc' := 37) dX11_tithes_36 rfl rfl ?_
    refine k_callV0 (pc' := 40) dX11_tithes_37 rfl ml_RX11_230 rfl rfl ⟨(Nat.le_of_ble_eq_true rfl), (Nat.le_of_ble_eq_true rfl)⟩ (Nat.le_of_ble_eq_true rfl) (ev_readTithe X htp (by decide) R0) (fun r_37 h_37 q_37 => ?_)
    obtain ⟨e_37, P_37⟩ := q_37
    rw [e_37]
    refine lt_loop X htp 20 0 R 0 h_37 (h_26.1 60) rfl (fun i hi => absurd hi (Nat.not_lt_zero _)) P_37 (fun κ2 m => ?_)
    rcases m with ⟨tf, m1, m2⟩ | ⟨m0, m1, m2, m3, m4, m5, m6⟩
    · exact lt_96b m1 m2
    · exact lt_96g m0 m1 m2 m3 m4 m5 m6

