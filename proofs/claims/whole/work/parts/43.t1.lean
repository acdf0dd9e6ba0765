def frN (ν κ : kH) : Prop := (∀ k, k ≠ 46 → κ.1 k = ν.1 k) ∧ (∀ j, j ∉ [28, 29, 30] → κ.1 46 j = ν.1 46 j) ∧ ∀ k, k ≠ 46 → κ.2 k = ν.2 k
theorem frN_rf (ν : kH) : frN ν ν := ⟨fun _ _ => rfl, fun _ _ => rfl, fun _ _ => rfl⟩
theorem frN_J {ν κ : kH} (q : frN ν κ) {j : Nat} {v : Int32} (hj : j ∈ [28, 29, 30]) : frN ν (hI κ 46 j v) := ⟨fun k hk => by
  have e : (hI κ 46 j v).1 k = κ.1 k := hs_ne _ _ hk
  rw [e]; exact q.1 k hk, fun j' hj' => by
  have e : (hI κ 46 j v).1 46 = upd (κ.1 46) j v := by show hs κ.1 46 (upd (κ.1 46) j v) 46 = _; rw [hs_self]
  rw [e]; simp only [upd]; rw [if_neg (show ¬ j' = j from fun z => hj' (by rw [z]; exact hj))]; exact q.2.1 j' hj', q.2.2⟩
theorem frN_L {ν κ : kH} (q : frN ν κ) {j : Nat} {v : Int64} : frN ν (hL κ 46 j v) := ⟨q.1, q.2.1, fun k hk => by
  show hs κ.2 46 _ k = _
  rw [hs_ne _ _ hk]; exact q.2.2 k hk⟩
theorem hL_at (h : kH) (k j : Nat) (v : Int64) : (hL h k j v).2 k j = v := by simp [hL, hs, vp_updL]
abbrev smB (x : Int32) : Prop := 97 ≤ x ∧ x ≤ 122
abbrev dgB (x : Int32) : Prop := 48 ≤ x ∧ x ≤ 57
def hWd (B : Nat → Int32) (f : Nat) : Nat → Int64
  | 0 => 0
  | j + 1 => if j < 6 then hWd B f j * 32 + (B (f + j)).toInt64 - 96 else -1
def hDg (B : Nat → Int32) (f : Nat) : Nat → Int64
  | 0 => 0
  | j + 1 => if 10000 < hDg B f j then hDg B f j else hDg B f j * 10 + (B (f + j)).toInt64 - 48

theorem hL_1 (h : kH) (k j : Nat) (v : Int64) : (hL h k j v).1 = h.1 := rfl

set_option maxHeartbeats 400000 in
set_option maxRecDepth 100000 in
theorem lp_nB {ν : kH} {L : Nat} {Φ : Nat → List kV → List kV → kH → Prop} (hLL : L ≤ 200) (htp : ν.1 46 27 = nI L) {p : Nat} (K : ∀ (κ : kH) (f : Nat), frN ν κ → κ.1 46 28 = nI f → p ≤ f → f ≤ L → (∀ j, p ≤ j → j < f → ν.1 61 j = 32) → (f < L → ¬ ν.1 61 f = 32) → At kX11_next 46 [kr 46] [] κ Φ) : ∀ (n f : Nat) (κ : kH), f + n = L → frN ν κ → κ.1 46 28 = nI f → p ≤ f → (∀ j, p ≤ j → j < f → ν.1 61 j = 32) → At kX11_next 8 [kr 46] [] κ Φ := by
  intro n
  induction n with
  | zero =>
    intro f κ hf q h28 hp hb
    refine k_aload_n (pc' := 9) dX11_next_8 rfl rfl ?_
    refine k_getI (pc' := 12) fl_RX11_182 dX11_next_9 rfl rfl rfl ?_
    refine k_aload_n (pc' := 13) dX11_next_12 rfl rfl ?_
    refine k_getI (pc' := 16) fl_RX11_173 dX11_next_13 rfl rfl rfl ?_
    rw [h28, show κ.1 46 27 = nI L from (q.2.1 27 (by decide)).trans htp]
    refine k_icmp_ge (pc' := 19) (tg := 46) dX11_next_16 rfl (by decide) (fun c_16 => ?_) (fun c_16 => ?_)
    · skip
      exact K κ f q h28 hp (by omega) hb (fun z => absurd z (by omega))
    · exfalso
      exact c_16 (by rw [show f = L from by omega]; exact Int32.le_refl _)
  | succ n ih =>
    intro f κ hf q h28 hp hb
    have h61 : κ.1 61 = ν.1 61 := q.1 61 (by decide)
    refine k_aload_n (pc' := 9) dX11_next_8 rfl rfl ?_
    refine k_getI (pc' := 12) fl_RX11_182 dX11_next_9 rfl rfl rfl ?_
    refine k_aload_n (pc' := 13) dX11_next_12 rfl rfl ?_
    refine k_getI (pc' := 16) fl_RX11_173 dX11_next_13 rfl rfl rfl ?_
    rw [h28, show κ.1 46 27 = nI L from (q.2.1 27 (by decide)).trans htp]
    refine k_icmp_ge (pc' := 19) (tg := 46) dX11_next_16 rfl (by decide) (fun c_16 => ?_) (fun c_16 => ?_)
    · exfalso
      exact nI_ge (show f < L by omega) (by omega) c_16
    · skip
      refine k_aload_n (pc' := 20) dX11_next_19 rfl rfl ?_
      refine k_getR (pc' := 23) fl_RX11_59 dX11_next_20 rfl rfl rfl ?_
      refine k_aload_n (pc' := 24) dX11_next_23 rfl rfl ?_
      refine k_getI (pc' := 27) fl_RX11_182 dX11_next_24 rfl rfl rfl ?_
      rw [h28]
      refine k_ialdN (pc' := 28) dX11_next_27 rfl rfl (by omega) (by decide) ?_
      rw [h61]
      refine k_bipush (pc' := 30) (v := 32) dX11_next_28 rfl (by decide) ?_
      refine k_icmp_ne (pc' := 33) (tg := 46) dX11_next_30 rfl (by decide) (fun c_30 => ?_) (fun c_30 => ?_)
      · skip
        exact K κ f q h28 hp (by omega) hb (fun _ => c_30)
      · skip
        refine k_aload_n (pc' := 34) dX11_next_33 rfl rfl ?_
        refine k_dup (pc' := 35) dX11_next_34 rfl rfl ?_
        refine k_getI (pc' := 38) fl_RX11_182 dX11_next_35 rfl rfl rfl ?_
        refine k_iconst (pc' := 39) (v := 1) dX11_next_38 rfl (by decide) ?_
        refine k_iadd (pc' := 40) dX11_next_39 rfl ?_
        rw [h28, nI_1]
        refine k_putI (pc' := 43) fw_RX11_182 dX11_next_40 rfl rfl rfl ?_
        refine k_goto (tg := 8) dX11_next_43 (by decide) ?_
        exact ih (f + 1) _ (by omega) (frN_J q (by decide)) (hI_at _ _ _ _) (by omega) (fun j h1 h2 => by
          by_cases z : j = f
          · subst z; exact c_30
          · exact hb j h1 (by omega))

set_option maxHeartbeats 400000 in
set_option maxRecDepth 100000 in
theorem lp_nW {ν : kH} {L : Nat} {Φ : Nat → List kV → List kV → kH → Prop} (hLL : L ≤ 200) (htp : ν.1 46 27 = nI L) {f : Nat} (K : ∀ (κ : kH) (e : Nat), frN ν κ → κ.1 46 28 = nI f → κ.1 46 29 = nI e → κ.1 46 30 = 1 → κ.2 46 31 = hWd (ν.1 61) f (e - f) → f ≤ e → e ≤ L → (∀ j, f ≤ j → j < e → smB (ν.1 61 j)) → (e < L → ¬ smB (ν.1 61 e)) → At kX11_next 243 [kr 46] [] κ Φ) : ∀ (n e : Nat) (κ : kH), e + n = L → frN ν κ → κ.1 46 28 = nI f → κ.1 46 29 = nI e → κ.1 46 30 = 1 → κ.2 46 31 = hWd (ν.1 61) f (e - f) → f ≤ e → (∀ j, f ≤ j → j < e → smB (ν.1 61 j)) → At kX11_next 149 [kr 46] [] κ Φ := by
  intro n
  induction n with
  | zero =>
    intro e κ he q h28 h29 h30 hw hfe hb
    refine k_aload_n (pc' := 150) dX11_next_149 rfl rfl ?_
    refine k_getI (pc' := 153) fl_RX11_195 dX11_next_150 rfl rfl rfl ?_
    refine k_iconst (pc' := 154) (v := 1) dX11_next_153 rfl (by decide) ?_
    refine k_icmp_ne (pc' := 157) (tg := 243) dX11_next_154 rfl (by decide) (fun c_154 => ?_) (fun c_154 => ?_)
    · exfalso
      exact c_154 h30
    · skip
      refine k_aload_n (pc' := 158) dX11_next_157 rfl rfl ?_
      refine k_getI (pc' := 161) fl_RX11_179 dX11_next_158 rfl rfl rfl ?_
      refine k_aload_n (pc' := 162) dX11_next_161 rfl rfl ?_
      refine k_getI (pc' := 165) fl_RX11_173 dX11_next_162 rfl rfl rfl ?_
      rw [h29, show κ.1 46 27 = nI L from (q.2.1 27 (by decide)).trans htp]
      refine k_icmp_ge (pc' := 168) (tg := 243) dX11_next_165 rfl (by decide) (fun c_165 => ?_) (fun c_165 => ?_)
      · skip
        exact K κ e q h28 h29 h30 hw hfe (by omega) hb (fun z => absurd z (by omega))
      · exfalso
        exact c_165 (by rw [show e = L from by omega]; exact Int32.le_refl _)
  | succ n ih =>
    intro e κ he q h28 h29 h30 hw hfe hb
    have h61 : κ.1 61 = ν.1 61 := q.1 61 (by decide)
    refine k_aload_n (pc' := 150) dX11_next_149 rfl rfl ?_
    refine k_getI (pc' := 153) fl_RX11_195 dX11_next_150 rfl rfl rfl ?_
    refine k_iconst (pc' := 154) (v := 1) dX11_next_153 rfl (by decide) ?_
    refine k_icmp_ne (pc' := 157) (tg := 243) dX11_next_154 rfl (by decide) (fun c_154 => ?_) (fun c_154 => ?_)
    · exfalso
      exact c_154 h30
    · skip
      refine k_aload_n (pc' := 158) dX11_next_157 rfl rfl ?_
      refine k_getI (pc' := 161) fl_RX11_179 dX11_next_158 rfl rfl rfl ?_
      refine k_aload_n (pc' := 162) dX11_next_161 rfl rfl ?_
      refine k_getI (pc' := 165) fl_RX11_173 dX11_next_162 rfl rfl rfl ?_
      rw [h29, show κ.1 46 27 = nI L from (q.2.1 27 (by decide)).trans htp]
      refine k_icmp_ge (pc' := 168) (tg := 243) dX11_next_165 rfl (by decide) (fun c_165 => ?_) (fun c_165 => ?_)
      · exfalso
        exact nI_ge (show e < L by omega) (by omega) c_165
      · skip
        refine k_aload_n (pc' := 169) dX11_next_168 rfl rfl ?_
        refine k_getR (pc' := 172) fl_RX11_59 dX11_next_169 rfl rfl rfl ?_
        refine k_aload_n (pc' := 173) dX11_next_172 rfl rfl ?_
        refine k_getI (pc' := 176) fl_RX11_179 dX11_next_173 rfl rfl rfl ?_
        rw [h29]
        refine k_ialdN (pc' := 177) dX11_next_176 rfl rfl (by omega) (by decide) ?_
        rw [h61]
        refine k_callS1 (pc' := 180) dX11_next_177 rfl ml_RX11_189 ⟨(Nat.le_of_ble_eq_true rfl), (Nat.le_of_ble_eq_true rfl)⟩ (Nat.le_of_ble_eq_true rfl) ev_X11_isSmall (fun r_177 h_177 q_177 => ?_)
        obtain ⟨e_177, g_177⟩ := q_177
        rw [e_177, g_177]
        refine k_if_eq (pc' := 183) (tg := 243) dX11_next_180 rfl (by decide) (fun c_180 => ?_) (fun c_180 => ?_)
        · skip
          have hsm : ¬ smB (ν.1 61 e) := k_b0.mp c_180
          exact K κ e q h28 h29 h30 hw hfe (by omega) hb (fun _ => hsm)
        · skip
          have hsm : smB (ν.1 61 e) := k_b1.mp c_180
          refine k_aload_n (pc' := 184) dX11_next_183 rfl rfl ?_
          refine k_aload_n (pc' := 185) dX11_next_184 rfl rfl ?_
          refine k_getI (pc' := 188) fl_RX11_179 dX11_next_185 rfl rfl rfl ?_
          refine k_aload_n (pc' := 189) dX11_next_188 rfl rfl ?_
          refine k_getI (pc' := 192) fl_RX11_182 dX11_next_189 rfl rfl rfl ?_
          refine k_isub (pc' := 193) dX11_next_192 rfl ?_
          refine k_bipush (pc' := 195) (v := 6) dX11_next_193 rfl (by decide) ?_
          rw [h29, h28, nI_sub hfe]
          refine k_icmp_ge (pc' := 198) (tg := 224) dX11_next_195 rfl (by decide) (fun c_195 => ?_) (fun c_195 => ?_)
          · skip
            have h6 : ¬ e - f < 6 := fun z => nI_ge z (by decide) c_195
            refine k_ldc2 (pc' := 227) dX11_next_224 rfl kc_RX11_147 ?_
            refine k_putL (pc' := 230) fw_RX11_185 dX11_next_227 rfl rfl rfl ?_
            refine k_aload_n (pc' := 231) dX11_next_230 rfl rfl ?_
            refine k_dup (pc' := 232) dX11_next_231 rfl rfl ?_
            refine k_getI (pc' := 235) fl_RX11_179 dX11_next_232 rfl rfl rfl ?_
            refine k_iconst (pc' := 236) (v := 1) dX11_next_235 rfl (by decide) ?_
            refine k_iadd (pc' := 237) dX11_next_236 rfl ?_
            rw [hL_1, h29, nI_1]
            refine k_putI (pc' := 240) fw_RX11_179 dX11_next_237 rfl rfl rfl ?_
            refine k_goto (tg := 149) dX11_next_240 (by decide) ?_
            exact ih (e + 1) _ (by omega) (frN_J (frN_L q) (by decide)) h28 (hI_at _ _ _ _) h30 (by
              show (hL κ 46 31 _).2 46 31 = _
              rw [show e + 1 - f = (e - f) + 1 by omega, hWd, if_neg h6]
              exact hL_at _ _ _ _) (by omega) (fun j h1 h2 => by
              by_cases z : j = e
              · subst z; exact hsm
              · exact hb j h1 (by omega))
          · skip
            have h6 : e - f < 6 := by
              rcases Nat.lt_or_ge (e - f) 6 with z | z
              · exact z
              · exact absurd (nI_le (a := 6) z (by omega)) c_195
            refine k_aload_n (pc' := 199) dX11_next_198 rfl rfl ?_
            refine k_getL (pc' := 202) fl_RX11_185 dX11_next_199 rfl rfl rfl ?_
            refine k_ldc2 (pc' := 205) dX11_next_202 rfl kc_RX11_198 ?_
            rw [hw]
            refine k_lmul (pc' := 206) dX11_next_205 rfl ?_
            refine k_aload_n (pc' := 207) dX11_next_206 rfl rfl ?_
            refine k_getR (pc' := 210) fl_RX11_59 dX11_next_207 rfl rfl rfl ?_
            refine k_aload_n (pc' := 211) dX11_next_210 rfl rfl ?_
            refine k_getI (pc' := 214) fl_RX11_179 dX11_next_211 rfl rfl rfl ?_
            rw [h29]
            refine k_ialdN (pc' := 215) dX11_next_214 rfl rfl (by omega) (by decide) ?_
            rw [h61]
            refine k_i2l (pc' := 216) dX11_next_215 rfl ?_
            refine k_ladd (pc' := 217) dX11_next_216 rfl ?_
            refine k_ldc2 (pc' := 220) dX11_next_217 rfl kc_RX11_200 ?_
            refine k_lsub (pc' := 221) dX11_next_220 rfl ?_
            refine k_goto (tg := 227) dX11_next_221 (by decide) ?_
            refine k_putL (pc' := 230) fw_RX11_185 dX11_next_227 rfl rfl rfl ?_
            refine k_aload_n (pc' := 231) dX11_next_230 rfl rfl ?_
            refine k_dup (pc' := 232) dX11_next_231 rfl rfl ?_
            refine k_getI (pc' := 235) fl_RX11_179 dX11_next_232 rfl rfl rfl ?_
            refine k_iconst (pc' := 236) (v := 1) dX11_next_235 rfl (by decide) ?_
            refine k_iadd (pc' := 237) dX11_next_236 rfl ?_
            rw [hL_1, h29, nI_1]
            refine k_putI (pc' := 240) fw_RX11_179 dX11_next_237 rfl rfl rfl ?_
            refine k_goto (tg := 149) dX11_next_240 (by decide) ?_
            exact ih (e + 1) _ (by omega) (frN_J (frN_L q) (by decide)) h28 (hI_at _ _ _ _) h30 (by
              show (hL κ 46 31 _).2 46 31 = _
              rw [show e + 1 - f = (e - f) + 1 by omega, hWd, if_pos h6, show f + (e - f) = e by omega]
              exact hL_at _ _ _ _) (by omega) (fun j h1 h2 => by
              by_cases z : j = e
              · subst z; exact hsm
              · exact hb j h1 (by omega))

set_option maxHeartbeats 400000 in
set_option maxRecDepth 100000 in
theorem lp_nD {ν : kH} {L : Nat} {Φ : Nat → List kV → List kV → kH → Prop} (hLL : L ≤ 200) (htp : ν.1 46 27 = nI L) {f : Nat} (K : ∀ (κ : kH) (e : Nat), frN ν κ → κ.1 46 28 = nI f → κ.1 46 29 = nI e → κ.1 46 30 = 2 → κ.2 46 31 = hDg (ν.1 61) f (e - f) → f ≤ e → e ≤ L → (∀ j, f ≤ j → j < e → dgB (ν.1 61 j)) → (e < L → ¬ dgB (ν.1 61 e)) → At kX11_next 335 [kr 46] [] κ Φ) : ∀ (n e : Nat) (κ : kH), e + n = L → frN ν κ → κ.1 46 28 = nI f → κ.1 46 29 = nI e → κ.1 46 30 = 2 → κ.2 46 31 = hDg (ν.1 61) f (e - f) → f ≤ e → (∀ j, f ≤ j → j < e → dgB (ν.1 61 j)) → At kX11_next 243 [kr 46] [] κ Φ := by
  intro n
  induction n with
  | zero =>
    intro e κ he q h28 h29 h30 hw hfe hb
    refine k_aload_n (pc' := 244) dX11_next_243 rfl rfl ?_
    refine k_getI (pc' := 247) fl_RX11_195 dX11_next_244 rfl rfl rfl ?_
    refine k_iconst (pc' := 248) (v := 2) dX11_next_247 rfl (by decide) ?_
    refine k_icmp_ne (pc' := 251) (tg := 335) dX11_next_248 rfl (by decide) (fun c_248 => ?_) (fun c_248 => ?_)
    · exfalso
      exact c_248 h30
    · skip
      refine k_aload_n (pc' := 252) dX11_next_251 rfl rfl ?_
      refine k_getI (pc' := 255) fl_RX11_179 dX11_next_252 rfl rfl rfl ?_
      refine k_aload_n (pc' := 256) dX11_next_255 rfl rfl ?_
      refine k_getI (pc' := 259) fl_RX11_173 dX11_next_256 rfl rfl rfl ?_
      rw [h29, show κ.1 46 27 = nI L from (q.2.1 27 (by decide)).trans htp]
      refine k_icmp_ge (pc' := 262) (tg := 335) dX11_next_259 rfl (by decide) (fun c_259 => ?_) (fun c_259 => ?_)
      · skip
        exact K κ e q h28 h29 h30 hw hfe (by omega) hb (fun z => absurd z (by omega))
      · exfalso
        exact c_259 (by rw [show e = L from by omega]; exact Int32.le_refl _)
  | succ n ih =>
    intro e κ he q h28 h29 h30 hw hfe hb
    have h61 : κ.1 61 = ν.1 61 := q.1 61 (by decide)
    refine k_aload_n (pc' := 244) dX11_next_243 rfl rfl ?_
    refine k_getI (pc' := 247) fl_RX11_195 dX11_next_244 rfl rfl rfl ?_
    refine k_iconst (pc' := 248) (v := 2) dX11_next_247 rfl (by decide) ?_
    refine k_icmp_ne (pc' := 251) (tg := 335) dX11_next_248 rfl (by decide) (fun c_248 => ?_) (fun c_248 => ?_)
    · exfalso
      exact c_248 h30
    · skip
      refine k_aload_n (pc' := 252) dX11_next_251 rfl rfl ?_
      refine k_getI (pc' := 255) fl_RX11_179 dX11_next_252 rfl rfl rfl ?_
      refine k_aload_n (pc' := 256) dX11_next_255 rfl rfl ?_
      refine k_getI (pc' := 259) fl_RX11_173 dX11_next_256 rfl rfl rfl ?_
      rw [h29, show κ.1 46 27 = nI L from (q.2.1 27 (by decide)).trans htp]
      refine k_icmp_ge (pc' := 262) (tg := 335) dX11_next_259 rfl (by decide) (fun c_259 => ?_) (fun c_259 => ?_)
      · exfalso
        exact nI_ge (show e < L by omega) (by omega) c_259
      · skip
        refine k_aload_n (pc' := 263) dX11_next_262 rfl rfl ?_
        refine k_getR (pc' := 266) fl_RX11_59 dX11_next_263 rfl rfl rfl ?_
        refine k_aload_n (pc' := 267) dX11_next_266 rfl rfl ?_
        refine k_getI (pc' := 270) fl_RX11_179 dX11_next_267 rfl rfl rfl ?_
        rw [h29]
        refine k_ialdN (pc' := 271) dX11_next_270 rfl rfl (by omega) (by decide) ?_
        rw [h61]
        refine k_callS1 (pc' := 274) dX11_next_271 rfl ml_RX11_192 ⟨(Nat.le_of_ble_eq_true rfl), (Nat.le_of_ble_eq_true rfl)⟩ (Nat.le_of_ble_eq_true rfl) ev_X11_isDigit (fun r_271 h_271 q_271 => ?_)
        obtain ⟨e_271, g_271⟩ := q_271
        rw [e_271, g_271]
        refine k_if_eq (pc' := 277) (tg := 335) dX11_next_274 rfl (by decide) (fun c_274 => ?_) (fun c_274 => ?_)
        · skip
          have hsm : ¬ dgB (ν.1 61 e) := k_b0.mp c_274
          exact K κ e q h28 h29 h30 hw hfe (by omega) hb (fun _ => hsm)
        · skip
          have hsm : dgB (ν.1 61 e) := k_b1.mp c_274
          refine k_aload_n (pc' := 278) dX11_next_277 rfl rfl ?_
          refine k_aload_n (pc' := 279) dX11_next_278 rfl rfl ?_
          refine k_getL (pc' := 282) fl_RX11_185 dX11_next_279 rfl rfl rfl ?_
          refine k_ldc2 (pc' := 285) dX11_next_282 rfl kc_RX11_202 ?_
          rw [hw]
          refine k_lcmp (pc' := 286) dX11_next_285 rfl ?_
          skip
          refine k_if_le (pc' := 289) (tg := 296) dX11_next_286 rfl (by decide) (fun c_286 => ?_) (fun c_286 => ?_)
          · skip
            have h6 : ¬ 10000 < hDg (ν.1 61) f (e - f) := fun z => by have z1 := k_cle.mp c_286; simp only [k_ltL, k_leL] at z z1; omega
            refine k_aload_n (pc' := 297) dX11_next_296 rfl rfl ?_
            refine k_getL (pc' := 300) fl_RX11_185 dX11_next_297 rfl rfl rfl ?_
            refine k_ldc2 (pc' := 303) dX11_next_300 rfl kc_RX11_204 ?_
            rw [hw]
            refine k_lmul (pc' := 304) dX11_next_303 rfl ?_
            refine k_aload_n (pc' := 305) dX11_next_304 rfl rfl ?_
            refine k_getR (pc' := 308) fl_RX11_59 dX11_next_305 rfl rfl rfl ?_
            refine k_aload_n (pc' := 309) dX11_next_308 rfl rfl ?_
            refine k_getI (pc' := 312) fl_RX11_179 dX11_next_309 rfl rfl rfl ?_
            rw [h29]
            refine k_ialdN (pc' := 313) dX11_next_312 rfl rfl (by omega) (by decide) ?_
            rw [h61]
            refine k_i2l (pc' := 314) dX11_next_313 rfl ?_
            refine k_ladd (pc' := 315) dX11_next_314 rfl ?_
            refine k_ldc2 (pc' := 318) dX11_next_315 rfl kc_RX11_206 ?_
            refine k_lsub (pc' := 319) dX11_next_318 rfl ?_
            refine k_putL (pc' := 322) fw_RX11_185 dX11_next_319 rfl rfl rfl ?_
            refine k_aload_n (pc' := 323) dX11_next_322 rfl rfl ?_
            refine k_dup (pc' := 324) dX11_next_323 rfl rfl ?_
            refine k_getI (pc' := 327) fl_RX11_179 dX11_next_324 rfl rfl rfl ?_
            refine k_iconst (pc' := 328) (v := 1) dX11_next_327 rfl (by decide) ?_
            refine k_iadd (pc' := 329) dX11_next_328 rfl ?_
            rw [hL_1, h29, nI_1]
            refine k_putI (pc' := 332) fw_RX11_179 dX11_next_329 rfl rfl rfl ?_
            refine k_goto (tg := 243) dX11_next_332 (by decide) ?_
            exact ih (e + 1) _ (by omega) (frN_J (frN_L q) (by decide)) h28 (hI_at _ _ _ _) h30 (by
              show (hL κ 46 31 _).2 46 31 = _
              rw [show e + 1 - f = (e - f) + 1 by omega, hDg, if_neg h6, show f + (e - f) = e by omega]
              exact hL_at _ _ _ _) (by omega) (fun j h1 h2 => by
              by_cases z : j = e
              · subst z; exact hsm
              · exact hb j h1 (by omega))
          · skip
            have h6 : 10000 < hDg (ν.1 61) f (e - f) := by
              have z1 : ¬ hDg (ν.1 61) f (e - f) ≤ 10000 := fun z => c_286 (k_cle.mpr z)
              simp only [k_ltL, k_leL] at *
              omega
            refine k_aload_n (pc' := 290) dX11_next_289 rfl rfl ?_
            refine k_getL (pc' := 293) fl_RX11_185 dX11_next_290 rfl rfl rfl ?_
            rw [hw]
            refine k_goto (tg := 319) dX11_next_293 (by decide) ?_
            refine k_putL (pc' := 322) fw_RX11_185 dX11_next_319 rfl rfl rfl ?_
            refine k_aload_n (pc' := 323) dX11_next_322 rfl rfl ?_
            refine k_dup (pc' := 324) dX11_next_323 rfl rfl ?_
            refine k_getI (pc' := 327) fl_RX11_179 dX11_next_324 rfl rfl rfl ?_
            refine k_iconst (pc' := 328) (v := 1) dX11_next_327 rfl (by decide) ?_
            refine k_iadd (pc' := 329) dX11_next_328 rfl ?_
            rw [hL_1, h29, nI_1]
            refine k_putI (pc' := 332) fw_RX11_179 dX11_next_329 rfl rfl rfl ?_
            refine k_goto (tg := 243) dX11_next_332 (by decide) ?_
            exact ih (e + 1) _ (by omega) (frN_J (frN_L q) (by decide)) h28 (hI_at _ _ _ _) h30 (by
              show (hL κ 46 31 _).2 46 31 = _
              rw [show e + 1 - f = (e - f) + 1 by omega, hDg, if_pos h6]
              exact hL_at _ _ _ _) (by omega) (fun j h1 h2 => by
              by_cases z : j = e
              · subst z; exact hsm
              · exact hb j h1 (by omega))

