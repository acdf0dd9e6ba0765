set_option maxHeartbeats 400000 in
set_option maxRecDepth 100000 in
theorem lp_pF {v x1 : Int32} {al : Int64} {ν : kH} {tb : Nat → Int32} {lq0 : Nat → Nat → Int64} {N Y0 n A0 : Nat} (hN : N ≤ 20) (hsz : ν.1 46 19 = nI N) (hq : ∀ j, j < N → (ν.1 56 j = 0 → 1 ≤ ν.1 58 j) ∧ (ν.1 56 j = 1 → 1 ≤ ν.1 57 j)) (hnw : ν.1 46 2 = nI Y0) (hn : n ≤ 20) (hY : Y0 + n ≤ 40) (hA0 : A0 ≤ 25) (hu : ∀ i, i ≤ n → ∀ a, a < 26 → lq0 62 (26 * i + a) = uM ν tb N Y0 v n (n - i) a) : ∀ (m i : Nat) (κ : kH) (ds_ as_ : Nat → Nat), i + m = n → frQ ν κ → κ.1 53 = tb → κ.2 = lq0 → as_ 0 = A0 → as_ i ≤ 25 → (∀ j, j < i → isFst (as_ j) (wP ν tb N Y0 v j (uM ν tb N Y0 v n (n - 1 - j)) (as_ j)) (ds_ j) ∧ as_ (j + 1) = olN (agN (as_ j) (ds_ j)) ∧ κ.1 63 j = nI (ds_ j)) → At kX11_plan 238 [kr 46, ki x1, ki (nI n), ki v, ki (nI (as_ i)), kl al, ku, ki (nI i), ku, ku, ku] [] κ (kRet kX11_plan (fun r h' => r = kl al ∧ ∃ (κ : kH) (ds_ as_ : Nat → Nat), h' = hI κ 46 36 (nI n) ∧ frQ ν κ ∧ as_ 0 = A0 ∧ ∀ j, j < n → isFst (as_ j) (wP ν tb N Y0 v j (uM ν tb N Y0 v n (n - 1 - j)) (as_ j)) (ds_ j) ∧ as_ (j + 1) = olN (agN (as_ j) (ds_ j)) ∧ κ.1 63 j = nI (ds_ j))) := by
  intro m
  induction m with
  | zero =>
    intro i κ ds_ as_ hi q h53 hl h0 ha hs9
    have ei : i = n := by omega
    subst ei
    refine k_iload (pc' := 240) dX11_plan_238 rfl rfl ?_
    refine k_iload_n (pc' := 241) dX11_plan_240 rfl rfl ?_
    refine k_icmp_ge (pc' := 244) (tg := 318) dX11_plan_241 rfl (by decide) (fun c_241 => ?_) (fun c_241 => ?_)
    · skip
      refine k_aload_n (pc' := 319) dX11_plan_318 rfl rfl ?_
      refine k_iload_n (pc' := 320) dX11_plan_319 rfl rfl ?_
      refine k_putI (pc' := 323) fw_RX11_72 dX11_plan_320 rfl rfl rfl ?_
      refine k_lload (pc' := 325) dX11_plan_323 rfl rfl ?_
      exact k_lret dX11_plan_325 rfl ⟨rfl, κ, ds_, as_, rfl, q, h0, hs9⟩
    · exfalso
      exact c_241 (Int32.le_refl _)
  | succ m ih =>
    intro i κ ds_ as_ hi q h53 hl h0 ha hs9
    have hlt : i < n := by omega
    refine k_iload (pc' := 240) dX11_plan_238 rfl rfl ?_
    refine k_iload_n (pc' := 241) dX11_plan_240 rfl rfl ?_
    refine k_icmp_ge (pc' := 244) (tg := 318) dX11_plan_241 rfl (by decide) (fun c_241 => ?_) (fun c_241 => ?_)
    · exfalso
      exact nI_ge hlt (by omega) c_241
    · skip
      refine k_iconst (pc' := 245) (v := 0) dX11_plan_244 rfl (by decide) ?_
      refine k_istore (pc' := 247) (k0 := 0) (ls' := [_, _, _, _, _, _, _, _, _, _, _]) dX11_plan_245 rfl (by decide) rfl ?_
      refine lp_pS hN hsz hq hnw (I := i) (A := as_ i) (by omega) (by omega) ha (nx := uM ν tb N Y0 v n (n - 1 - i)) (lq0 := lq0) (rw0 := κ.1 63) (fun p hp => by
        have e := hu (i + 1) (by omega) p (by omega)
        rw [show 26 * (i + 1) + p = 26 * i + 26 + p by omega, show n - (i + 1) = n - 1 - i by omega] at e
        exact e.symm) (by
        rw [hu i (by omega) _ (by omega), show n - i = n - 1 - i + 1 by omega]
        show mxM (as_ i) (wP ν tb N Y0 v (n - 1 - (n - 1 - i)) (uM ν tb N Y0 v n (n - 1 - i)) (as_ i)) 3 = _
        rw [show n - 1 - (n - 1 - i) = i by omega]) (fun κ2 d q2 h532 hl2 h632 hf => ?_) 4 0 κ (by omega) q h53 hl rfl (fun e he => absurd he (by omega))
      refine k_aload_n (pc' := 292) dX11_plan_291 rfl rfl ?_
      refine k_getR (pc' := 295) fl_RX11_69 dX11_plan_292 rfl rfl rfl ?_
      refine k_iload (pc' := 297) dX11_plan_295 rfl rfl ?_
      refine k_iload (pc' := 299) dX11_plan_297 rfl rfl ?_
      refine k_iastN (pc' := 300) dX11_plan_299 rfl rfl (by omega) (by decide) ?_
      refine k_iload (pc' := 302) dX11_plan_300 rfl rfl ?_
      refine k_iload (pc' := 304) dX11_plan_302 rfl rfl ?_
      refine k_callS2 (pc' := 307) dX11_plan_304 rfl ml_RX11_244 ⟨(Nat.le_of_ble_eq_true rfl), (Nat.le_of_ble_eq_true rfl)⟩ (Nat.le_of_ble_eq_true rfl) ev_X11_ageBy (fun r_304 h_304 q_304 => ?_)
      obtain ⟨e_304, g_304⟩ := q_304
      rw [e_304, g_304, k_agN ha hf.1]
      refine k_callS1 (pc' := 310) dX11_plan_307 rfl ml_RX11_253 ⟨(Nat.le_of_ble_eq_true rfl), (Nat.le_of_ble_eq_true rfl)⟩ (Nat.le_of_ble_eq_true rfl) ev_X11_older (fun r_307 h_307 q_307 => ?_)
      obtain ⟨e_307, g_307⟩ := q_307
      rw [e_307, g_307, k_olN (agN_le ha)]
      refine k_istore (pc' := 312) (k0 := 0) (ls' := [_, _, _, _, _, _, _, _, _, _, _]) dX11_plan_310 rfl (by decide) rfl ?_
      refine k_iinc (pc' := 315) (v := nI (_ + 1)) (ls' := [_, _, _, _, _, _, _, _, _, _, _]) dX11_plan_312 rfl rfl (nI_1 _) (by decide) rfl ?_
      refine k_goto (tg := 238) dX11_plan_315 (by decide) ?_
      have hnew := ih (i + 1) (hI κ2 63 i (nI d)) (fun p => if p = i then d else ds_ p) (fun p => if p = i + 1 then olN (agN (as_ i) d) else as_ p) (by omega) (frQ_63 q2) h532 hl2 (by rw [if_neg (by omega)]; exact h0) (by rw [if_pos rfl]; exact olN_le (agN_le ha)) (fun j hj => by
        by_cases z : j = i
        · subst z
          rw [if_pos rfl, if_pos rfl, if_neg (by omega)]
          exact ⟨hf, rfl, hI_at _ _ _ _⟩
        · have e := hs9 j (by omega)
          rw [if_neg z, if_neg (by omega), if_neg (by omega)]
          refine ⟨e.1, e.2.1, ?_⟩
          show hs κ2.1 63 (upd (κ2.1 63) i _) 63 j = _
          rw [hs_self]
          simp only [upd]
          rw [if_neg z, h632]
          exact e.2.2)
      rw [if_pos rfl] at hnew
      exact k_wk (by repeat' (first | exact trivial | exact rfl | apply And.intro)) hnew

set_option maxHeartbeats 400000 in
set_option maxRecDepth 100000 in
theorem ev_X11_plan_ok {μ ν : kH} (hν : hI μ 46 0 0 = ν) {g GN n NP N Y0 A0 : Nat} (hN : N ≤ 20) (hsz : ν.1 46 19 = nI N) (hq : ∀ j, j < N → (ν.1 56 j = 0 → 1 ≤ ν.1 58 j) ∧ (ν.1 56 j = 1 → 1 ≤ ν.1 57 j)) (hnw : ν.1 46 2 = nI Y0) (hg0 : g < GN) (hGN : GN ≤ 12) (hgs : ν.1 46 13 = nI GN) (hn1 : 1 ≤ n) (hn : n ≤ 20) (hY : Y0 + n ≤ 40) (hNP : NP ≤ 300) (hps : ν.1 46 7 = nI NP) (hr : ∀ j, j < NP → 0 ≤ (ν.1 49 j).toInt ∧ (ν.1 49 j).toInt ≤ 3 ∧ 0 ≤ (ν.1 50 j).toInt ∧ (ν.1 50 j).toInt ≤ 39) (hA : (if ν.1 55 g = -1 then 25 else ν.1 55 g) = nI A0) (hA0 : A0 ≤ 25) : Ev kX11_plan [kr 46, ki (nI g), ki (nI n)] μ (fun r h' => ∃ tb : Nat → Int32, (∀ s, s < 4 → ∀ y, y < 40 → tb (40 * s + y) = fFill (fTab (ν.1 49) (ν.1 50) (ν.1 51) (ν.1 52) (nI Y0) NP) s (y + 1)) ∧ r = kl (uM ν tb N Y0 (ν.1 54 g) n n A0) ∧ ∃ (κ : kH) (ds_ as_ : Nat → Nat), h' = hI κ 46 36 (nI n) ∧ frQ ν κ ∧ as_ 0 = A0 ∧ ∀ j, j < n → isFst (as_ j) (wP ν tb N Y0 (ν.1 54 g) j (uM ν tb N Y0 (ν.1 54 g) n (n - 1 - j)) (as_ j)) (ds_ j) ∧ as_ (j + 1) = olN (agN (as_ j) (ds_ j)) ∧ κ.1 63 j = nI (ds_ j)) := by
  have eG : (ν.1 46 13).toInt = GN := by rw [hgs, nI_toInt (by omega)]
  have eg := nI_toInt (n := g) (by omega)
  have en := nI_toInt (n := n) (by omega)
  have eY : (ν.1 46 2).toInt = Y0 := by rw [hnw, nI_toInt (by omega)]
  have eS : (ν.1 46 2 + nI n).toInt = Y0 + n := by rw [k_add (by rw [eY, en]; omega), eY, en]
  refine k_ev (ls := [_, _, _, _, _, _, _, _, _, _, _]) (by decide) (Nat.le_of_ble_eq_true rfl) rfl ?_
  refine k_aload_n (pc' := 1) dX11_plan_0 rfl rfl ?_
  refine k_iconst (pc' := 2) (v := 0) dX11_plan_1 rfl (by decide) ?_
  refine k_putI (pc' := 5) fw_RX11_102 dX11_plan_2 rfl rfl rfl ?_
  rw [hν]
  refine k_aload_n (pc' := 6) dX11_plan_5 rfl rfl ?_
  refine k_iload_n (pc' := 7) dX11_plan_6 rfl rfl ?_
  refine k_callV1 (pc' := 10) dX11_plan_7 rfl ml_RX11_149 rfl rfl ⟨(Nat.le_of_ble_eq_true rfl), (Nat.le_of_ble_eq_true rfl)⟩ (Nat.le_of_ble_eq_true rfl) ev_X11_isGarden2 (fun r_7 h_7 q_7 => ?_)
  obtain ⟨e_7, g_7⟩ := q_7
  rw [e_7, g_7]
  refine k_if_eq (pc' := 13) (tg := 36) dX11_plan_10 rfl (by decide) (fun c_10 => ?_) (fun c_10 => ?_)
  · exfalso
    clear hA hr hq; (try simp only [eq_self, not_true_eq_false, not_false_eq_true, k_b0, k_b1, k_c0, k_cl, k_cg, k_cle, k_cge] at *) <;> (try simp only [eG, eg, en, eY, eS, eq_self, not_true_eq_false, not_false_eq_true, k_le, k_lt, k_eq, k_leL, k_ltL, k_eqL, k_il, li_m6, li_m5, li_m3, li_m2, li_m1, li_0, li_1, li_2, li_3, li_4, li_5, li_6, li_7, li_8, li_10, li_11, li_12, li_20, li_24, li_25, li_26, li_32, li_39, li_40, li_48, li_57, li_59, li_60, li_96, li_97, li_100, li_122, li_180, li_200, li_255, li_300, li_468, li_480, li_500, li_1000, li_2000, li_10000, li_10001, li_100000, li_1000000, li_100000000, lj_m1, lj_0, lj_1, lj_2, lj_3, lj_24, lj_39, lj_100, lj_500, lj_1000, lj_2000, lj_10000, lj_100000, lj_1000000, lj_100000000, lj_10, lj_20, lj_12, lj_32, lj_96] at *) <;> omega
  · skip
    refine k_iload_n (pc' := 14) dX11_plan_13 rfl rfl ?_
    refine k_i2l (pc' := 15) dX11_plan_14 rfl ?_
    refine k_lconst (pc' := 16) (v := 1) dX11_plan_15 rfl (by decide) ?_
    refine k_ldc2 (pc' := 19) dX11_plan_16 rfl kc_RX11_256 ?_
    refine k_callS3 (pc' := 22) dX11_plan_19 rfl ml_RX11_110 ⟨(Nat.le_of_ble_eq_true rfl), (Nat.le_of_ble_eq_true rfl)⟩ (Nat.le_of_ble_eq_true rfl) ev_X11_in (fun r_19 h_19 q_19 => ?_)
    obtain ⟨e_19, g_19⟩ := q_19
    rw [e_19, g_19]
    refine k_if_eq (pc' := 25) (tg := 36) dX11_plan_22 rfl (by decide) (fun c_22 => ?_) (fun c_22 => ?_)
    · exfalso
      clear hA hr hq; (try simp only [eq_self, not_true_eq_false, not_false_eq_true, k_b0, k_b1, k_c0, k_cl, k_cg, k_cle, k_cge] at *) <;> (try simp only [eG, eg, en, eY, eS, eq_self, not_true_eq_false, not_false_eq_true, k_le, k_lt, k_eq, k_leL, k_ltL, k_eqL, k_il, li_m6, li_m5, li_m3, li_m2, li_m1, li_0, li_1, li_2, li_3, li_4, li_5, li_6, li_7, li_8, li_10, li_11, li_12, li_20, li_24, li_25, li_26, li_32, li_39, li_40, li_48, li_57, li_59, li_60, li_96, li_97, li_100, li_122, li_180, li_200, li_255, li_300, li_468, li_480, li_500, li_1000, li_2000, li_10000, li_10001, li_100000, li_1000000, li_100000000, lj_m1, lj_0, lj_1, lj_2, lj_3, lj_24, lj_39, lj_100, lj_500, lj_1000, lj_2000, lj_10000, lj_100000, lj_1000000, lj_100000000, lj_10, lj_20, lj_12, lj_32, lj_96] at *) <;> omega
    · skip
      refine k_aload_n (pc' := 26) dX11_plan_25 rfl rfl ?_
      refine k_getI (pc' := 29) fl_RX11_247 dX11_plan_26 rfl rfl rfl ?_
      refine k_iload_n (pc' := 30) dX11_plan_29 rfl rfl ?_
      refine k_iadd (pc' := 31) dX11_plan_30 rfl ?_
      refine k_bipush (pc' := 33) (v := 40) dX11_plan_31 rfl (by decide) ?_
      refine k_icmp_le (pc' := 36) (tg := 40) dX11_plan_33 rfl (by decide) (fun c_33 => ?_) (fun c_33 => ?_)
      · skip
        refine k_aload_n (pc' := 41) dX11_plan_40 rfl rfl ?_
        refine k_aload_n (pc' := 42) dX11_plan_41 rfl rfl ?_
        refine k_getI (pc' := 45) fl_RX11_247 dX11_plan_42 rfl rfl rfl ?_
        rw [hnw]
        refine k_callV1 (pc' := 48) dX11_plan_45 rfl ml_RX11_138 rfl rfl ⟨(Nat.le_of_ble_eq_true rfl), (Nat.le_of_ble_eq_true rfl)⟩ (Nat.le_of_ble_eq_true rfl) (ev_X11_findPrices hNP hps hr) (fun r_45 h_45 q_45 => ?_)
        obtain ⟨e_45, tb, g_45, t_45⟩ := q_45
        rw [e_45, g_45]
        refine k_aload_n (pc' := 49) dX11_plan_48 rfl rfl ?_
        refine k_getR (pc' := 52) fl_RX11_38 dX11_plan_49 rfl rfl rfl ?_
        refine k_iload_n (pc' := 53) dX11_plan_52 rfl rfl ?_
        refine k_ialdN (pc' := 54) dX11_plan_53 rfl rfl (by omega) (by decide) ?_
        refine k_istore_n (pc' := 55) (k0 := 0) (ls' := [_, _, _, _, _, _, _, _, _, _, _]) dX11_plan_54 rfl (by decide) rfl ?_
        refine k_iconst (pc' := 56) (v := 0) dX11_plan_55 rfl (by decide) ?_
        refine k_istore (pc' := 58) (k0 := 0) (ls' := [_, _, _, _, _, _, _, _, _, _, _]) dX11_plan_56 rfl (by decide) rfl ?_
        have q0 : frQ ν (hs ν.1 53 tb, ν.2) := ⟨fun k hk h' => by
          show hs ν.1 53 tb k = _
          rw [hs_ne _ _ (fun z => hk (by rw [z]; decide))], fun j hj => rfl, fun r hr2 => rfl⟩
        refine lp_pZ (n := n) (tb := tb) (M := 26) hn rfl rfl (fun κ q h53 hz => ?_) 26 0 _ (by omega) q0 (show hs ν.1 53 tb 53 = tb from hs_self _ _ _) (fun a ha => absurd ha (by omega))
        refine k_iload_n (pc' := 85) dX11_plan_84 rfl rfl ?_
        refine k_iconst (pc' := 86) (v := 1) dX11_plan_85 rfl (by decide) ?_
        refine k_isub (pc' := 87) dX11_plan_86 rfl ?_
        refine k_istore (pc' := 89) (k0 := 0) (ls' := [_, _, _, _, _, _, _, _, _, _, _]) dX11_plan_87 rfl (by decide) rfl ?_
        refine lp_pI hN hsz hq hnw hn hY (fun κ2 q2 h532 hu => ?_) n κ (Nat.le_refl _) q h53 (fun i hi1 hi2 a ha => by
          have ei : i = n := by omega
          subst ei
          rw [hz a ha, Nat.sub_self]
          rfl)
        refine k_aload_n (pc' := 204) dX11_plan_203 rfl rfl ?_
        refine k_getR (pc' := 207) fl_RX11_41 dX11_plan_204 rfl rfl rfl ?_
        refine k_iload_n (pc' := 208) dX11_plan_207 rfl rfl ?_
        refine k_ialdN (pc' := 209) dX11_plan_208 rfl rfl (by omega) (by decide) ?_
        rw [q2.1 55 (by decide) (by decide)]
        refine k_iconst (pc' := 210) (v := (-1)) dX11_plan_209 rfl (by decide) ?_
        refine k_icmp_ne (pc' := 213) (tg := 218) dX11_plan_210 rfl (by decide) (fun c_210 => ?_) (fun c_210 => ?_)
        · skip
          rw [if_neg c_210] at hA
          refine k_aload_n (pc' := 219) dX11_plan_218 rfl rfl ?_
          refine k_getR (pc' := 222) fl_RX11_41 dX11_plan_219 rfl rfl rfl ?_
          refine k_iload_n (pc' := 223) dX11_plan_222 rfl rfl ?_
          refine k_ialdN (pc' := 224) dX11_plan_223 rfl rfl (by omega) (by decide) ?_
          try rw [q2.1 55 (by decide) (by decide)]
          rw [hA]
          refine k_istore (pc' := 226) (k0 := 0) (ls' := [_, _, _, _, _, _, _, _, _, _, _]) dX11_plan_224 rfl (by decide) rfl ?_
          refine k_aload_n (pc' := 227) dX11_plan_226 rfl rfl ?_
          refine k_getR (pc' := 230) fl_RX11_65 dX11_plan_227 rfl rfl rfl ?_
          refine k_iload (pc' := 232) dX11_plan_230 rfl rfl ?_
          refine k_laldN (pc' := 233) dX11_plan_232 rfl rfl (by omega) (by decide) ?_
          rw [show κ2.2 62 (A0) = uM ν tb N Y0 (ν.1 54 g) n n A0 from by have e := hu 0 (by omega) A0 (by omega); rw [Nat.sub_zero, Nat.mul_zero, Nat.zero_add] at e; exact e]
          refine k_lstore (pc' := 235) (k0 := 0) (ls' := [_, _, _, _, _, _, _, _, _, _, _]) dX11_plan_233 rfl (by decide) rfl ?_
          refine k_iconst (pc' := 236) (v := 0) dX11_plan_235 rfl (by decide) ?_
          refine k_istore (pc' := 238) (k0 := 0) (ls' := [_, _, _, _, _, _, _, _, _, _, _]) dX11_plan_236 rfl (by decide) rfl ?_
          refine k_seq (lp_pF hN hsz hq hnw hn hY hA0 (lq0 := κ2.2) hu n 0 κ2 (fun _ => 0) (fun _ => A0) (by omega) q2 h532 rfl rfl hA0 (fun j hj => absurd hj (by omega))) (fun pc1 ls1 st1 κ3 hκ => k_done ?_)
          rcases hκ with ⟨w, -, -, -, e, -⟩ | ⟨w, e1, e2, e3, e4, e5⟩ | ⟨-, -, -, e, -⟩
          · cases e
          · exact Or.inr (Or.inl ⟨w, e1, e2, e3, tb, t_45, e4, e5⟩)
          · cases e
        · skip
          rw [if_pos c_210] at hA
          refine k_bipush (pc' := 215) (v := 25) dX11_plan_213 rfl (by decide) ?_
          refine k_goto (tg := 224) dX11_plan_215 (by decide) ?_
          try rw [q2.1 55 (by decide) (by decide)]
          rw [hA]
          refine k_istore (pc' := 226) (k0 := 0) (ls' := [_, _, _, _, _, _, _, _, _, _, _]) dX11_plan_224 rfl (by decide) rfl ?_
          refine k_aload_n (pc' := 227) dX11_plan_226 rfl rfl ?_
          refine k_getR (pc' := 230) fl_RX11_65 dX11_plan_227 rfl rfl rfl ?_
          refine k_iload (pc' := 232) dX11_plan_230 rfl rfl ?_
          refine k_laldN (pc' := 233) dX11_plan_232 rfl rfl (by omega) (by decide) ?_
          rw [show κ2.2 62 (A0) = uM ν tb N Y0 (ν.1 54 g) n n A0 from by have e := hu 0 (by omega) A0 (by omega); rw [Nat.sub_zero, Nat.mul_zero, Nat.zero_add] at e; exact e]
          refine k_lstore (pc' := 235) (k0 := 0) (ls' := [_, _, _, _, _, _, _, _, _, _, _]) dX11_plan_233 rfl (by decide) rfl ?_
          refine k_iconst (pc' := 236) (v := 0) dX11_plan_235 rfl (by decide) ?_
          refine k_istore (pc' := 238) (k0 := 0) (ls' := [_, _, _, _, _, _, _, _, _, _, _]) dX11_plan_236 rfl (by decide) rfl ?_
          refine k_seq (lp_pF hN hsz hq hnw hn hY hA0 (lq0 := κ2.2) hu n 0 κ2 (fun _ => 0) (fun _ => A0) (by omega) q2 h532 rfl rfl hA0 (fun j hj => absurd hj (by omega))) (fun pc1 ls1 st1 κ3 hκ => k_done ?_)
          rcases hκ with ⟨w, -, -, -, e, -⟩ | ⟨w, e1, e2, e3, e4, e5⟩ | ⟨-, -, -, e, -⟩
          · cases e
          · exact Or.inr (Or.inl ⟨w, e1, e2, e3, tb, t_45, e4, e5⟩)
          · cases e
      · exfalso
        clear hA hr hq; (try simp only [eq_self, not_true_eq_false, not_false_eq_true, k_b0, k_b1, k_c0, k_cl, k_cg, k_cle, k_cge] at *) <;> (try simp only [eG, eg, en, eY, eS, eq_self, not_true_eq_false, not_false_eq_true, k_le, k_lt, k_eq, k_leL, k_ltL, k_eqL, k_il, li_m6, li_m5, li_m3, li_m2, li_m1, li_0, li_1, li_2, li_3, li_4, li_5, li_6, li_7, li_8, li_10, li_11, li_12, li_20, li_24, li_25, li_26, li_32, li_39, li_40, li_48, li_57, li_59, li_60, li_96, li_97, li_100, li_122, li_180, li_200, li_255, li_300, li_468, li_480, li_500, li_1000, li_2000, li_10000, li_10001, li_100000, li_1000000, li_100000000, lj_m1, lj_0, lj_1, lj_2, lj_3, lj_24, lj_39, lj_100, lj_500, lj_1000, lj_2000, lj_10000, lj_100000, lj_1000000, lj_100000000, lj_10, lj_20, lj_12, lj_32, lj_96] at *) <;> omega

set_option maxHeartbeats 400000 in
set_option maxRecDepth 100000 in
theorem ev_X11_plan_bad {g n : Int32} {μ ν : kH} (hν : hI μ 46 0 0 = ν) (hnw : 0 ≤ (ν.1 46 2).toInt ∧ (ν.1 46 2).toInt ≤ 39) (hb : ¬ ((0 ≤ g.toInt ∧ g.toInt < (ν.1 46 13).toInt) ∧ (1 ≤ n.toInt ∧ n.toInt ≤ 20) ∧ (ν.1 46 2).toInt + n.toInt ≤ 40)) : Ev kX11_plan [kr 46, ki g, ki n] μ (fun r h' => r = kl (-4000000000000000000) ∧ h' = ν) := by
  refine k_ev (ls := [_, _, _, _, _, _, _, _, _, _, _]) (by decide) (Nat.le_of_ble_eq_true rfl) rfl ?_
  refine k_aload_n (pc' := 1) dX11_plan_0 rfl rfl ?_
  refine k_iconst (pc' := 2) (v := 0) dX11_plan_1 rfl (by decide) ?_
  refine k_putI (pc' := 5) fw_RX11_102 dX11_plan_2 rfl rfl rfl ?_
  rw [hν]
  refine k_aload_n (pc' := 6) dX11_plan_5 rfl rfl ?_
  refine k_iload_n (pc' := 7) dX11_plan_6 rfl rfl ?_
  refine k_callV1 (pc' := 10) dX11_plan_7 rfl ml_RX11_149 rfl rfl ⟨(Nat.le_of_ble_eq_true rfl), (Nat.le_of_ble_eq_true rfl)⟩ (Nat.le_of_ble_eq_true rfl) ev_X11_isGarden2 (fun r_7 h_7 q_7 => ?_)
  obtain ⟨e_7, g_7⟩ := q_7
  rw [e_7, g_7]
  refine k_if_eq (pc' := 13) (tg := 36) dX11_plan_10 rfl (by decide) (fun c_10 => ?_) (fun c_10 => ?_)
  · skip
    refine k_ldc2 (pc' := 39) dX11_plan_36 rfl kc_RX11_258 ?_
    exact k_lret dX11_plan_39 rfl ⟨rfl, rfl⟩
  · skip
    refine k_iload_n (pc' := 14) dX11_plan_13 rfl rfl ?_
    refine k_i2l (pc' := 15) dX11_plan_14 rfl ?_
    refine k_lconst (pc' := 16) (v := 1) dX11_plan_15 rfl (by decide) ?_
    refine k_ldc2 (pc' := 19) dX11_plan_16 rfl kc_RX11_256 ?_
    refine k_callS3 (pc' := 22) dX11_plan_19 rfl ml_RX11_110 ⟨(Nat.le_of_ble_eq_true rfl), (Nat.le_of_ble_eq_true rfl)⟩ (Nat.le_of_ble_eq_true rfl) ev_X11_in (fun r_19 h_19 q_19 => ?_)
    obtain ⟨e_19, g_19⟩ := q_19
    rw [e_19, g_19]
    refine k_if_eq (pc' := 25) (tg := 36) dX11_plan_22 rfl (by decide) (fun c_22 => ?_) (fun c_22 => ?_)
    · skip
      refine k_ldc2 (pc' := 39) dX11_plan_36 rfl kc_RX11_258 ?_
      exact k_lret dX11_plan_39 rfl ⟨rfl, rfl⟩
    · skip
      refine k_aload_n (pc' := 26) dX11_plan_25 rfl rfl ?_
      refine k_getI (pc' := 29) fl_RX11_247 dX11_plan_26 rfl rfl rfl ?_
      refine k_iload_n (pc' := 30) dX11_plan_29 rfl rfl ?_
      refine k_iadd (pc' := 31) dX11_plan_30 rfl ?_
      refine k_bipush (pc' := 33) (v := 40) dX11_plan_31 rfl (by decide) ?_
      refine k_icmp_le (pc' := 36) (tg := 40) dX11_plan_33 rfl (by decide) (fun c_33 => ?_) (fun c_33 => ?_)
      · exfalso
        have b1 : 1 ≤ n.toInt ∧ n.toInt ≤ 20 := (by clear hb; (try simp only [eq_self, not_true_eq_false, not_false_eq_true, k_b0, k_b1, k_c0, k_cl, k_cg, k_cle, k_cge] at *) <;> (try simp only [eq_self, not_true_eq_false, not_false_eq_true, k_le, k_lt, k_eq, k_leL, k_ltL, k_eqL, k_il, li_m6, li_m5, li_m3, li_m2, li_m1, li_0, li_1, li_2, li_3, li_4, li_5, li_6, li_7, li_8, li_10, li_11, li_12, li_20, li_24, li_25, li_26, li_32, li_39, li_40, li_48, li_57, li_59, li_60, li_96, li_97, li_100, li_122, li_180, li_200, li_255, li_300, li_468, li_480, li_500, li_1000, li_2000, li_10000, li_10001, li_100000, li_1000000, li_100000000, lj_m1, lj_0, lj_1, lj_2, lj_3, lj_24, lj_39, lj_100, lj_500, lj_1000, lj_2000, lj_10000, lj_100000, lj_1000000, lj_100000000, lj_10, lj_20, lj_12, lj_32, lj_96] at *) <;> omega)
        have e9 : (ν.1 46 2 + n).toInt = (ν.1 46 2).toInt + n.toInt := by rw [k_add (by omega)]
        (try simp only [eq_self, not_true_eq_false, not_false_eq_true, k_b0, k_b1, k_c0, k_cl, k_cg, k_cle, k_cge] at *) <;> (try simp only [e9, eq_self, not_true_eq_false, not_false_eq_true, k_le, k_lt, k_eq, k_leL, k_ltL, k_eqL, k_il, li_m6, li_m5, li_m3, li_m2, li_m1, li_0, li_1, li_2, li_3, li_4, li_5, li_6, li_7, li_8, li_10, li_11, li_12, li_20, li_24, li_25, li_26, li_32, li_39, li_40, li_48, li_57, li_59, li_60, li_96, li_97, li_100, li_122, li_180, li_200, li_255, li_300, li_468, li_480, li_500, li_1000, li_2000, li_10000, li_10001, li_100000, li_1000000, li_100000000, lj_m1, lj_0, lj_1, lj_2, lj_3, lj_24, lj_39, lj_100, lj_500, lj_1000, lj_2000, lj_10000, lj_100000, lj_1000000, lj_100000000, lj_10, lj_20, lj_12, lj_32, lj_96] at *) <;> omega
      · skip
        refine k_ldc2 (pc' := 39) dX11_plan_36 rfl kc_RX11_258 ?_
        exact k_lret dX11_plan_39 rfl ⟨rfl, rfl⟩

