abbrev kLaw : kM := (yL_law, cL_law, 4, some .boolean, 13, 472)
abbrev kWk : Type := Nat → List kV → List kV → kH → Prop
/-- a judgement of the law's machine: all that a method's rules reach; the script's elements and length; the end with 1 -/
def kLK (Wk : kWk) : Prop := ∀ (pc : Nat) (ls st : List kV) (μ : kH) (Ψ : Nat → List kV → List kV → kH → Prop), At kLaw pc ls st μ Ψ → (∀ pc' ls' st' h', Ψ pc' ls' st' h' → Wk pc' ls' st' h') → Wk pc ls st μ
def kLS (Wk : kWk) (L : Nat) (xs : Nat → Int32) : Prop := ∀ (pc pc' : Nat) (ls st : List kV) (μ : kH) (i : Int32), decode cL_law pc = .ok (.iaload, 1) → pc + 1 = pc' → vp_in i L → Wk pc' ls (ki (xs i.toNatClampNeg) :: st) μ → Wk pc ls (ki i :: kr 4000 :: st) μ
def kLN (Wk : kWk) (L : Nat) : Prop := ∀ (pc pc' : Nat) (ls st : List kV) (μ : kH), decode cL_law pc = .ok (.arraylength, 1) → pc + 1 = pc' → Wk pc' ls (ki (nI L) :: st) μ → Wk pc ls (kr 4000 :: st) μ
def kLE (Wk : kWk) : Prop := ∀ (ls : List kV) (μ : kH), Wk 999 ls [ki 1] μ
theorem k_L {Wk : kWk} (HK : kLK Wk) {pc pc' : Nat} {ls ls' st st' : List kV} {μ μ' : kH} (r : ∀ Ψ, At kLaw pc' ls' st' μ' Ψ → At kLaw pc ls st μ Ψ) (kk : Wk pc' ls' st' μ') : Wk pc ls st μ := by
  refine HK pc ls st μ (fun a b c d => a = pc' ∧ b = ls' ∧ c = st' ∧ d = μ') (r _ (k_done ⟨rfl, rfl, rfl, rfl⟩)) (fun a b c d q => ?_)
  obtain ⟨e1, e2, e3, e4⟩ := q
  rw [e1, e2, e3, e4]; exact kk
theorem k_L2 {Wk : kWk} (HK : kLK Wk) {c : Prop} {pc p1 p2 : Nat} {ls l1 l2 st s1 s2 : List kV} {μ m1 m2 : kH} (r : ∀ Ψ, (c → At kLaw p1 l1 s1 m1 Ψ) → (¬ c → At kLaw p2 l2 s2 m2 Ψ) → At kLaw pc ls st μ Ψ) (k1 : c → Wk p1 l1 s1 m1) (k2 : ¬ c → Wk p2 l2 s2 m2) : Wk pc ls st μ := by
  by_cases z : c
  · exact k_L HK (fun Ψ kk => r Ψ (fun _ => kk) (fun w => absurd z w)) (k1 z)
  · exact k_L HK (fun Ψ kk => r Ψ (fun w => absurd w z) (fun _ => kk)) (k2 z)
theorem k_LC {Wk : kWk} (HK : kLK Wk) {Q : kV → kH → Prop} {pc pc' : Nat} {ls st0 st : List kV} {μ : kH} (r : ∀ Ψ, (∀ r h', Q r h' → At kLaw pc' ls (kpush r st) h' Ψ) → At kLaw pc ls st0 μ Ψ) (kk : ∀ r h', Q r h' → Wk pc' ls (kpush r st) h') : Wk pc ls st0 μ := by
  refine HK pc ls st0 μ (fun a b c d => ∃ x, Q x d ∧ a = pc' ∧ b = ls ∧ c = kpush x st) (r _ (fun x h' hq => k_done ⟨x, hq, rfl, rfl, rfl⟩)) (fun a b c d q => ?_)
  obtain ⟨x, hq, e1, e2, e3⟩ := q
  rw [e1, e2, e3]; exact kk x d hq
theorem vin {I L k : Nat} (h6 : I + 6 ≤ L) (hL1 : L ≤ 3072) (hk : k < 6) : vp_in (nI I + nI k) L := by
  rw [nI_add]; exact vp_in_nI (by omega) (by omega)

set_option maxHeartbeats 400000 in
set_option maxRecDepth 100000 in
theorem la_bears {Wk : kWk} (HK : kLK Wk) {L I : Nat} {xs : Nat → Int32} (HS : kLS Wk L xs) (h6 : I + 6 ≤ L) (hL1 : L ≤ 3072) {μ : kH} (hi : Inv μ) (K : ∀ h2, Inv h2 → Wk 992 [kr 4000, kr 0, kr 46, ki (nI I)] [] h2) : Wk 152 [kr 4000, kr 0, kr 46, ki (nI I)] [] μ := by
  refine k_L HK (fun Ψ kk => k_aload_n (pc' := 153) dL_law_152 rfl rfl kk) ?_
  refine k_L HK (fun Ψ kk => k_aload_n (pc' := 154) dL_law_153 rfl rfl kk) ?_
  refine k_L HK (fun Ψ kk => k_iload_n (pc' := 155) dL_law_154 rfl rfl kk) ?_
  refine k_L HK (fun Ψ kk => k_iconst (pc' := 156) (v := 1) dL_law_155 rfl (by decide) kk) ?_
  refine k_L HK (fun Ψ kk => k_iadd (pc' := 157) dL_law_156 rfl kk) ?_
  refine HS 157 158 _ _ _ _ dL_law_157 rfl (vin (k := 1) h6 hL1 (by decide)) ?_
  refine k_L HK (fun Ψ kk => k_aload_n (pc' := 159) dL_law_158 rfl rfl kk) ?_
  refine k_L HK (fun Ψ kk => k_iload_n (pc' := 160) dL_law_159 rfl rfl kk) ?_
  refine k_L HK (fun Ψ kk => k_iconst (pc' := 161) (v := 2) dL_law_160 rfl (by decide) kk) ?_
  refine k_L HK (fun Ψ kk => k_iadd (pc' := 162) dL_law_161 rfl kk) ?_
  refine HS 162 163 _ _ _ _ dL_law_162 rfl (vin (k := 2) h6 hL1 (by decide)) ?_
  refine k_LC HK (fun Ψ kk => k_callV2 (pc' := 166) dL_law_163 rfl ml_RL_13 rfl rfl ⟨(Nat.le_of_ble_eq_true rfl), (Nat.le_of_ble_eq_true rfl)⟩ (Nat.le_of_ble_eq_true rfl) (pr_bears hi) kk) (fun r1 h1 q1 => ?_)
  obtain ⟨⟨v, ev⟩, e2⟩ := q1
  rw [ev] at e2 ⊢
  refine k_L HK (fun Ψ kk => k_aload_n (pc' := 167) dL_law_166 rfl rfl kk) ?_
  refine k_L HK (fun Ψ kk => k_aload_n (pc' := 168) dL_law_167 rfl rfl kk) ?_
  refine k_L HK (fun Ψ kk => k_iload_n (pc' := 169) dL_law_168 rfl rfl kk) ?_
  refine k_L HK (fun Ψ kk => k_iconst (pc' := 170) (v := 1) dL_law_169 rfl (by decide) kk) ?_
  refine k_L HK (fun Ψ kk => k_iadd (pc' := 171) dL_law_170 rfl kk) ?_
  refine HS 171 172 _ _ _ _ dL_law_171 rfl (vin (k := 1) h6 hL1 (by decide)) ?_
  refine k_L HK (fun Ψ kk => k_aload_n (pc' := 173) dL_law_172 rfl rfl kk) ?_
  refine k_L HK (fun Ψ kk => k_iload_n (pc' := 174) dL_law_173 rfl rfl kk) ?_
  refine k_L HK (fun Ψ kk => k_iconst (pc' := 175) (v := 2) dL_law_174 rfl (by decide) kk) ?_
  refine k_L HK (fun Ψ kk => k_iadd (pc' := 176) dL_law_175 rfl kk) ?_
  refine HS 176 177 _ _ _ _ dL_law_176 rfl (vin (k := 2) h6 hL1 (by decide)) ?_
  refine k_LC HK (fun Ψ kk => k_callV2 (pc' := 180) dL_law_177 rfl ml_RL_17 rfl rfl ⟨(Nat.le_of_ble_eq_true rfl), (Nat.le_of_ble_eq_true rfl)⟩ (Nat.le_of_ble_eq_true rfl) e2 kk) (fun r2 h2 q2 => ?_)
  obtain ⟨e3, i2⟩ := q2
  rw [e3]
  exact k_L2 HK (fun Ψ k1 k2 => k_icmp_eq (pc' := 183) (tg := 992) dL_law_180 rfl (by decide) k1 k2) (fun _ => K h2 i2) (fun z => absurd rfl z)

set_option maxHeartbeats 400000 in
set_option maxRecDepth 100000 in
theorem la_ratio {Wk : kWk} (HK : kLK Wk) {L I : Nat} {xs : Nat → Int32} (HS : kLS Wk L xs) (h6 : I + 6 ≤ L) (hL1 : L ≤ 3072) {μ : kH} (hi : Inv μ) (K : ∀ h2, Inv h2 → Wk 992 [kr 4000, kr 0, kr 46, ki (nI I)] [] h2) : Wk 185 [kr 4000, kr 0, kr 46, ki (nI I)] [] μ := by
  refine k_L HK (fun Ψ kk => k_aload_n (pc' := 186) dL_law_185 rfl rfl kk) ?_
  refine k_L HK (fun Ψ kk => k_aload_n (pc' := 187) dL_law_186 rfl rfl kk) ?_
  refine k_L HK (fun Ψ kk => k_iload_n (pc' := 188) dL_law_187 rfl rfl kk) ?_
  refine k_L HK (fun Ψ kk => k_iconst (pc' := 189) (v := 1) dL_law_188 rfl (by decide) kk) ?_
  refine k_L HK (fun Ψ kk => k_iadd (pc' := 190) dL_law_189 rfl kk) ?_
  refine HS 190 191 _ _ _ _ dL_law_190 rfl (vin (k := 1) h6 hL1 (by decide)) ?_
  refine k_L HK (fun Ψ kk => k_aload_n (pc' := 192) dL_law_191 rfl rfl kk) ?_
  refine k_L HK (fun Ψ kk => k_iload_n (pc' := 193) dL_law_192 rfl rfl kk) ?_
  refine k_L HK (fun Ψ kk => k_iconst (pc' := 194) (v := 2) dL_law_193 rfl (by decide) kk) ?_
  refine k_L HK (fun Ψ kk => k_iadd (pc' := 195) dL_law_194 rfl kk) ?_
  refine HS 195 196 _ _ _ _ dL_law_195 rfl (vin (k := 2) h6 hL1 (by decide)) ?_
  refine k_LC HK (fun Ψ kk => k_callV2 (pc' := 199) dL_law_196 rfl ml_RL_18 rfl rfl ⟨(Nat.le_of_ble_eq_true rfl), (Nat.le_of_ble_eq_true rfl)⟩ (Nat.le_of_ble_eq_true rfl) (pr_ratio hi) kk) (fun r1 h1 q1 => ?_)
  obtain ⟨⟨v, ev⟩, e2⟩ := q1
  rw [ev] at e2 ⊢
  refine k_L HK (fun Ψ kk => k_aload_n (pc' := 200) dL_law_199 rfl rfl kk) ?_
  refine k_L HK (fun Ψ kk => k_aload_n (pc' := 201) dL_law_200 rfl rfl kk) ?_
  refine k_L HK (fun Ψ kk => k_iload_n (pc' := 202) dL_law_201 rfl rfl kk) ?_
  refine k_L HK (fun Ψ kk => k_iconst (pc' := 203) (v := 1) dL_law_202 rfl (by decide) kk) ?_
  refine k_L HK (fun Ψ kk => k_iadd (pc' := 204) dL_law_203 rfl kk) ?_
  refine HS 204 205 _ _ _ _ dL_law_204 rfl (vin (k := 1) h6 hL1 (by decide)) ?_
  refine k_L HK (fun Ψ kk => k_aload_n (pc' := 206) dL_law_205 rfl rfl kk) ?_
  refine k_L HK (fun Ψ kk => k_iload_n (pc' := 207) dL_law_206 rfl rfl kk) ?_
  refine k_L HK (fun Ψ kk => k_iconst (pc' := 208) (v := 2) dL_law_207 rfl (by decide) kk) ?_
  refine k_L HK (fun Ψ kk => k_iadd (pc' := 209) dL_law_208 rfl kk) ?_
  refine HS 209 210 _ _ _ _ dL_law_209 rfl (vin (k := 2) h6 hL1 (by decide)) ?_
  refine k_LC HK (fun Ψ kk => k_callV2 (pc' := 213) dL_law_210 rfl ml_RL_21 rfl rfl ⟨(Nat.le_of_ble_eq_true rfl), (Nat.le_of_ble_eq_true rfl)⟩ (Nat.le_of_ble_eq_true rfl) e2 kk) (fun r2 h2 q2 => ?_)
  obtain ⟨e3, i2⟩ := q2
  rw [e3]
  exact k_L2 HK (fun Ψ k1 k2 => k_icmp_eq (pc' := 216) (tg := 992) dL_law_213 rfl (by decide) k1 k2) (fun _ => K h2 i2) (fun z => absurd rfl z)

set_option maxHeartbeats 400000 in
set_option maxRecDepth 100000 in
theorem la_price {Wk : kWk} (HK : kLK Wk) {L I : Nat} {xs : Nat → Int32} (HS : kLS Wk L xs) (h6 : I + 6 ≤ L) (hL1 : L ≤ 3072) {μ : kH} (hi : Inv μ) (K : ∀ h2, Inv h2 → Wk 992 [kr 4000, kr 0, kr 46, ki (nI I)] [] h2) : Wk 218 [kr 4000, kr 0, kr 46, ki (nI I)] [] μ := by
  refine k_L HK (fun Ψ kk => k_aload_n (pc' := 219) dL_law_218 rfl rfl kk) ?_
  refine k_L HK (fun Ψ kk => k_aload_n (pc' := 220) dL_law_219 rfl rfl kk) ?_
  refine k_L HK (fun Ψ kk => k_iload_n (pc' := 221) dL_law_220 rfl rfl kk) ?_
  refine k_L HK (fun Ψ kk => k_iconst (pc' := 222) (v := 1) dL_law_221 rfl (by decide) kk) ?_
  refine k_L HK (fun Ψ kk => k_iadd (pc' := 223) dL_law_222 rfl kk) ?_
  refine HS 223 224 _ _ _ _ dL_law_223 rfl (vin (k := 1) h6 hL1 (by decide)) ?_
  refine k_L HK (fun Ψ kk => k_aload_n (pc' := 225) dL_law_224 rfl rfl kk) ?_
  refine k_L HK (fun Ψ kk => k_iload_n (pc' := 226) dL_law_225 rfl rfl kk) ?_
  refine k_L HK (fun Ψ kk => k_iconst (pc' := 227) (v := 2) dL_law_226 rfl (by decide) kk) ?_
  refine k_L HK (fun Ψ kk => k_iadd (pc' := 228) dL_law_227 rfl kk) ?_
  refine HS 228 229 _ _ _ _ dL_law_228 rfl (vin (k := 2) h6 hL1 (by decide)) ?_
  refine k_L HK (fun Ψ kk => k_aload_n (pc' := 230) dL_law_229 rfl rfl kk) ?_
  refine k_L HK (fun Ψ kk => k_iload_n (pc' := 231) dL_law_230 rfl rfl kk) ?_
  refine k_L HK (fun Ψ kk => k_iconst (pc' := 232) (v := 3) dL_law_231 rfl (by decide) kk) ?_
  refine k_L HK (fun Ψ kk => k_iadd (pc' := 233) dL_law_232 rfl kk) ?_
  refine HS 233 234 _ _ _ _ dL_law_233 rfl (vin (k := 3) h6 hL1 (by decide)) ?_
  refine k_L HK (fun Ψ kk => k_aload_n (pc' := 235) dL_law_234 rfl rfl kk) ?_
  refine k_L HK (fun Ψ kk => k_iload_n (pc' := 236) dL_law_235 rfl rfl kk) ?_
  refine k_L HK (fun Ψ kk => k_iconst (pc' := 237) (v := 4) dL_law_236 rfl (by decide) kk) ?_
  refine k_L HK (fun Ψ kk => k_iadd (pc' := 238) dL_law_237 rfl kk) ?_
  refine HS 238 239 _ _ _ _ dL_law_238 rfl (vin (k := 4) h6 hL1 (by decide)) ?_
  refine k_LC HK (fun Ψ kk => k_callV4 (pc' := 242) dL_law_239 rfl ml_RL_22 rfl rfl ⟨(Nat.le_of_ble_eq_true rfl), (Nat.le_of_ble_eq_true rfl)⟩ (Nat.le_of_ble_eq_true rfl) (pr_price hi) kk) (fun r1 h1 q1 => ?_)
  obtain ⟨⟨v, ev⟩, e2⟩ := q1
  rw [ev] at e2 ⊢
  refine k_L HK (fun Ψ kk => k_aload_n (pc' := 243) dL_law_242 rfl rfl kk) ?_
  refine k_L HK (fun Ψ kk => k_aload_n (pc' := 244) dL_law_243 rfl rfl kk) ?_
  refine k_L HK (fun Ψ kk => k_iload_n (pc' := 245) dL_law_244 rfl rfl kk) ?_
  refine k_L HK (fun Ψ kk => k_iconst (pc' := 246) (v := 1) dL_law_245 rfl (by decide) kk) ?_
  refine k_L HK (fun Ψ kk => k_iadd (pc' := 247) dL_law_246 rfl kk) ?_
  refine HS 247 248 _ _ _ _ dL_law_247 rfl (vin (k := 1) h6 hL1 (by decide)) ?_
  refine k_L HK (fun Ψ kk => k_aload_n (pc' := 249) dL_law_248 rfl rfl kk) ?_
  refine k_L HK (fun Ψ kk => k_iload_n (pc' := 250) dL_law_249 rfl rfl kk) ?_
  refine k_L HK (fun Ψ kk => k_iconst (pc' := 251) (v := 2) dL_law_250 rfl (by decide) kk) ?_
  refine k_L HK (fun Ψ kk => k_iadd (pc' := 252) dL_law_251 rfl kk) ?_
  refine HS 252 253 _ _ _ _ dL_law_252 rfl (vin (k := 2) h6 hL1 (by decide)) ?_
  refine k_L HK (fun Ψ kk => k_aload_n (pc' := 254) dL_law_253 rfl rfl kk) ?_
  refine k_L HK (fun Ψ kk => k_iload_n (pc' := 255) dL_law_254 rfl rfl kk) ?_
  refine k_L HK (fun Ψ kk => k_iconst (pc' := 256) (v := 3) dL_law_255 rfl (by decide) kk) ?_
  refine k_L HK (fun Ψ kk => k_iadd (pc' := 257) dL_law_256 rfl kk) ?_
  refine HS 257 258 _ _ _ _ dL_law_257 rfl (vin (k := 3) h6 hL1 (by decide)) ?_
  refine k_L HK (fun Ψ kk => k_aload_n (pc' := 259) dL_law_258 rfl rfl kk) ?_
  refine k_L HK (fun Ψ kk => k_iload_n (pc' := 260) dL_law_259 rfl rfl kk) ?_
  refine k_L HK (fun Ψ kk => k_iconst (pc' := 261) (v := 4) dL_law_260 rfl (by decide) kk) ?_
  refine k_L HK (fun Ψ kk => k_iadd (pc' := 262) dL_law_261 rfl kk) ?_
  refine HS 262 263 _ _ _ _ dL_law_262 rfl (vin (k := 4) h6 hL1 (by decide)) ?_
  refine k_LC HK (fun Ψ kk => k_callV4 (pc' := 266) dL_law_263 rfl ml_RL_26 rfl rfl ⟨(Nat.le_of_ble_eq_true rfl), (Nat.le_of_ble_eq_true rfl)⟩ (Nat.le_of_ble_eq_true rfl) e2 kk) (fun r2 h2 q2 => ?_)
  obtain ⟨e3, i2⟩ := q2
  rw [e3]
  exact k_L2 HK (fun Ψ k1 k2 => k_icmp_eq (pc' := 269) (tg := 992) dL_law_266 rfl (by decide) k1 k2) (fun _ => K h2 i2) (fun z => absurd rfl z)

set_option maxHeartbeats 400000 in
set_option maxRecDepth 100000 in
theorem la_at {Wk : kWk} (HK : kLK Wk) {L I : Nat} {xs : Nat → Int32} (HS : kLS Wk L xs) (h6 : I + 6 ≤ L) (hL1 : L ≤ 3072) {μ : kH} (hi : Inv μ) (K : ∀ h2, Inv h2 → Wk 992 [kr 4000, kr 0, kr 46, ki (nI I)] [] h2) : Wk 271 [kr 4000, kr 0, kr 46, ki (nI I)] [] μ := by
  refine k_L HK (fun Ψ kk => k_aload_n (pc' := 272) dL_law_271 rfl rfl kk) ?_
  refine k_L HK (fun Ψ kk => k_aload_n (pc' := 273) dL_law_272 rfl rfl kk) ?_
  refine k_L HK (fun Ψ kk => k_iload_n (pc' := 274) dL_law_273 rfl rfl kk) ?_
  refine k_L HK (fun Ψ kk => k_iconst (pc' := 275) (v := 1) dL_law_274 rfl (by decide) kk) ?_
  refine k_L HK (fun Ψ kk => k_iadd (pc' := 276) dL_law_275 rfl kk) ?_
  refine HS 276 277 _ _ _ _ dL_law_276 rfl (vin (k := 1) h6 hL1 (by decide)) ?_
  refine k_L HK (fun Ψ kk => k_aload_n (pc' := 278) dL_law_277 rfl rfl kk) ?_
  refine k_L HK (fun Ψ kk => k_iload_n (pc' := 279) dL_law_278 rfl rfl kk) ?_
  refine k_L HK (fun Ψ kk => k_iconst (pc' := 280) (v := 2) dL_law_279 rfl (by decide) kk) ?_
  refine k_L HK (fun Ψ kk => k_iadd (pc' := 281) dL_law_280 rfl kk) ?_
  refine HS 281 282 _ _ _ _ dL_law_281 rfl (vin (k := 2) h6 hL1 (by decide)) ?_
  refine k_L HK (fun Ψ kk => k_aload_n (pc' := 283) dL_law_282 rfl rfl kk) ?_
  refine k_L HK (fun Ψ kk => k_iload_n (pc' := 284) dL_law_283 rfl rfl kk) ?_
  refine k_L HK (fun Ψ kk => k_iconst (pc' := 285) (v := 3) dL_law_284 rfl (by decide) kk) ?_
  refine k_L HK (fun Ψ kk => k_iadd (pc' := 286) dL_law_285 rfl kk) ?_
  refine HS 286 287 _ _ _ _ dL_law_286 rfl (vin (k := 3) h6 hL1 (by decide)) ?_
  refine k_LC HK (fun Ψ kk => k_callV3 (pc' := 290) dL_law_287 rfl ml_RL_27 rfl rfl ⟨(Nat.le_of_ble_eq_true rfl), (Nat.le_of_ble_eq_true rfl)⟩ (Nat.le_of_ble_eq_true rfl) (pr_at hi) kk) (fun r1 h1 q1 => ?_)
  obtain ⟨⟨v, ev⟩, e2⟩ := q1
  rw [ev] at e2 ⊢
  refine k_L HK (fun Ψ kk => k_aload_n (pc' := 291) dL_law_290 rfl rfl kk) ?_
  refine k_L HK (fun Ψ kk => k_aload_n (pc' := 292) dL_law_291 rfl rfl kk) ?_
  refine k_L HK (fun Ψ kk => k_iload_n (pc' := 293) dL_law_292 rfl rfl kk) ?_
  refine k_L HK (fun Ψ kk => k_iconst (pc' := 294) (v := 1) dL_law_293 rfl (by decide) kk) ?_
  refine k_L HK (fun Ψ kk => k_iadd (pc' := 295) dL_law_294 rfl kk) ?_
  refine HS 295 296 _ _ _ _ dL_law_295 rfl (vin (k := 1) h6 hL1 (by decide)) ?_
  refine k_L HK (fun Ψ kk => k_aload_n (pc' := 297) dL_law_296 rfl rfl kk) ?_
  refine k_L HK (fun Ψ kk => k_iload_n (pc' := 298) dL_law_297 rfl rfl kk) ?_
  refine k_L HK (fun Ψ kk => k_iconst (pc' := 299) (v := 2) dL_law_298 rfl (by decide) kk) ?_
  refine k_L HK (fun Ψ kk => k_iadd (pc' := 300) dL_law_299 rfl kk) ?_
  refine HS 300 301 _ _ _ _ dL_law_300 rfl (vin (k := 2) h6 hL1 (by decide)) ?_
  refine k_L HK (fun Ψ kk => k_aload_n (pc' := 302) dL_law_301 rfl rfl kk) ?_
  refine k_L HK (fun Ψ kk => k_iload_n (pc' := 303) dL_law_302 rfl rfl kk) ?_
  refine k_L HK (fun Ψ kk => k_iconst (pc' := 304) (v := 3) dL_law_303 rfl (by decide) kk) ?_
  refine k_L HK (fun Ψ kk => k_iadd (pc' := 305) dL_law_304 rfl kk) ?_
  refine HS 305 306 _ _ _ _ dL_law_305 rfl (vin (k := 3) h6 hL1 (by decide)) ?_
  refine k_LC HK (fun Ψ kk => k_callV3 (pc' := 309) dL_law_306 rfl ml_RL_31 rfl rfl ⟨(Nat.le_of_ble_eq_true rfl), (Nat.le_of_ble_eq_true rfl)⟩ (Nat.le_of_ble_eq_true rfl) e2 kk) (fun r2 h2 q2 => ?_)
  obtain ⟨e3, i2⟩ := q2
  rw [e3]
  exact k_L2 HK (fun Ψ k1 k2 => k_icmp_eq (pc' := 312) (tg := 992) dL_law_309 rfl (by decide) k1 k2) (fun _ => K h2 i2) (fun z => absurd rfl z)

set_option maxHeartbeats 400000 in
set_option maxRecDepth 100000 in
theorem la_terms {Wk : kWk} (HK : kLK Wk) {L I : Nat} {xs : Nat → Int32} (HS : kLS Wk L xs) (h6 : I + 6 ≤ L) (hL1 : L ≤ 3072) {μ : kH} (hi : Inv μ) (K : ∀ h2, Inv h2 → Wk 992 [kr 4000, kr 0, kr 46, ki (nI I)] [] h2) : Wk 314 [kr 4000, kr 0, kr 46, ki (nI I)] [] μ := by
  refine k_L HK (fun Ψ kk => k_aload_n (pc' := 315) dL_law_314 rfl rfl kk) ?_
  refine k_L HK (fun Ψ kk => k_aload_n (pc' := 316) dL_law_315 rfl rfl kk) ?_
  refine k_L HK (fun Ψ kk => k_iload_n (pc' := 317) dL_law_316 rfl rfl kk) ?_
  refine k_L HK (fun Ψ kk => k_iconst (pc' := 318) (v := 1) dL_law_317 rfl (by decide) kk) ?_
  refine k_L HK (fun Ψ kk => k_iadd (pc' := 319) dL_law_318 rfl kk) ?_
  refine HS 319 320 _ _ _ _ dL_law_319 rfl (vin (k := 1) h6 hL1 (by decide)) ?_
  refine k_L HK (fun Ψ kk => k_aload_n (pc' := 321) dL_law_320 rfl rfl kk) ?_
  refine k_L HK (fun Ψ kk => k_iload_n (pc' := 322) dL_law_321 rfl rfl kk) ?_
  refine k_L HK (fun Ψ kk => k_iconst (pc' := 323) (v := 2) dL_law_322 rfl (by decide) kk) ?_
  refine k_L HK (fun Ψ kk => k_iadd (pc' := 324) dL_law_323 rfl kk) ?_
  refine HS 324 325 _ _ _ _ dL_law_324 rfl (vin (k := 2) h6 hL1 (by decide)) ?_
  refine k_LC HK (fun Ψ kk => k_callV2 (pc' := 328) dL_law_325 rfl ml_RL_32 rfl rfl ⟨(Nat.le_of_ble_eq_true rfl), (Nat.le_of_ble_eq_true rfl)⟩ (Nat.le_of_ble_eq_true rfl) (pr_terms hi) kk) (fun r1 h1 q1 => ?_)
  obtain ⟨⟨v, ev⟩, e2⟩ := q1
  rw [ev] at e2 ⊢
  refine k_L HK (fun Ψ kk => k_aload_n (pc' := 329) dL_law_328 rfl rfl kk) ?_
  refine k_L HK (fun Ψ kk => k_aload_n (pc' := 330) dL_law_329 rfl rfl kk) ?_
  refine k_L HK (fun Ψ kk => k_iload_n (pc' := 331) dL_law_330 rfl rfl kk) ?_
  refine k_L HK (fun Ψ kk => k_iconst (pc' := 332) (v := 1) dL_law_331 rfl (by decide) kk) ?_
  refine k_L HK (fun Ψ kk => k_iadd (pc' := 333) dL_law_332 rfl kk) ?_
  refine HS 333 334 _ _ _ _ dL_law_333 rfl (vin (k := 1) h6 hL1 (by decide)) ?_
  refine k_L HK (fun Ψ kk => k_aload_n (pc' := 335) dL_law_334 rfl rfl kk) ?_
  refine k_L HK (fun Ψ kk => k_iload_n (pc' := 336) dL_law_335 rfl rfl kk) ?_
  refine k_L HK (fun Ψ kk => k_iconst (pc' := 337) (v := 2) dL_law_336 rfl (by decide) kk) ?_
  refine k_L HK (fun Ψ kk => k_iadd (pc' := 338) dL_law_337 rfl kk) ?_
  refine HS 338 339 _ _ _ _ dL_law_338 rfl (vin (k := 2) h6 hL1 (by decide)) ?_
  refine k_LC HK (fun Ψ kk => k_callV2 (pc' := 342) dL_law_339 rfl ml_RL_35 rfl rfl ⟨(Nat.le_of_ble_eq_true rfl), (Nat.le_of_ble_eq_true rfl)⟩ (Nat.le_of_ble_eq_true rfl) e2 kk) (fun r2 h2 q2 => ?_)
  obtain ⟨e3, i2⟩ := q2
  rw [e3]
  exact k_L2 HK (fun Ψ k1 k2 => k_icmp_eq (pc' := 345) (tg := 992) dL_law_342 rfl (by decide) k1 k2) (fun _ => K h2 i2) (fun z => absurd rfl z)

set_option maxHeartbeats 400000 in
set_option maxRecDepth 100000 in
theorem la_garden {Wk : kWk} (HK : kLK Wk) {L I : Nat} {xs : Nat → Int32} (HS : kLS Wk L xs) (h6 : I + 6 ≤ L) (hL1 : L ≤ 3072) {μ : kH} (hi : Inv μ) (K : ∀ h2, Inv h2 → Wk 992 [kr 4000, kr 0, kr 46, ki (nI I)] [] h2) : Wk 347 [kr 4000, kr 0, kr 46, ki (nI I)] [] μ := by
  refine k_L HK (fun Ψ kk => k_aload_n (pc' := 348) dL_law_347 rfl rfl kk) ?_
  refine k_L HK (fun Ψ kk => k_aload_n (pc' := 349) dL_law_348 rfl rfl kk) ?_
  refine k_L HK (fun Ψ kk => k_iload_n (pc' := 350) dL_law_349 rfl rfl kk) ?_
  refine k_L HK (fun Ψ kk => k_iconst (pc' := 351) (v := 1) dL_law_350 rfl (by decide) kk) ?_
  refine k_L HK (fun Ψ kk => k_iadd (pc' := 352) dL_law_351 rfl kk) ?_
  refine HS 352 353 _ _ _ _ dL_law_352 rfl (vin (k := 1) h6 hL1 (by decide)) ?_
  refine k_L HK (fun Ψ kk => k_aload_n (pc' := 354) dL_law_353 rfl rfl kk) ?_
  refine k_L HK (fun Ψ kk => k_iload_n (pc' := 355) dL_law_354 rfl rfl kk) ?_
  refine k_L HK (fun Ψ kk => k_iconst (pc' := 356) (v := 2) dL_law_355 rfl (by decide) kk) ?_
  refine k_L HK (fun Ψ kk => k_iadd (pc' := 357) dL_law_356 rfl kk) ?_
  refine HS 357 358 _ _ _ _ dL_law_357 rfl (vin (k := 2) h6 hL1 (by decide)) ?_
  refine k_LC HK (fun Ψ kk => k_callV2 (pc' := 361) dL_law_358 rfl ml_RL_36 rfl rfl ⟨(Nat.le_of_ble_eq_true rfl), (Nat.le_of_ble_eq_true rfl)⟩ (Nat.le_of_ble_eq_true rfl) (pr_garden hi) kk) (fun r1 h1 q1 => ?_)
  obtain ⟨⟨v, ev⟩, e2⟩ := q1
  rw [ev] at e2 ⊢
  refine k_L HK (fun Ψ kk => k_aload_n (pc' := 362) dL_law_361 rfl rfl kk) ?_
  refine k_L HK (fun Ψ kk => k_aload_n (pc' := 363) dL_law_362 rfl rfl kk) ?_
  refine k_L HK (fun Ψ kk => k_iload_n (pc' := 364) dL_law_363 rfl rfl kk) ?_
  refine k_L HK (fun Ψ kk => k_iconst (pc' := 365) (v := 1) dL_law_364 rfl (by decide) kk) ?_
  refine k_L HK (fun Ψ kk => k_iadd (pc' := 366) dL_law_365 rfl kk) ?_
  refine HS 366 367 _ _ _ _ dL_law_366 rfl (vin (k := 1) h6 hL1 (by decide)) ?_
  refine k_L HK (fun Ψ kk => k_aload_n (pc' := 368) dL_law_367 rfl rfl kk) ?_
  refine k_L HK (fun Ψ kk => k_iload_n (pc' := 369) dL_law_368 rfl rfl kk) ?_
  refine k_L HK (fun Ψ kk => k_iconst (pc' := 370) (v := 2) dL_law_369 rfl (by decide) kk) ?_
  refine k_L HK (fun Ψ kk => k_iadd (pc' := 371) dL_law_370 rfl kk) ?_
  refine HS 371 372 _ _ _ _ dL_law_371 rfl (vin (k := 2) h6 hL1 (by decide)) ?_
  refine k_LC HK (fun Ψ kk => k_callV2 (pc' := 375) dL_law_372 rfl ml_RL_39 rfl rfl ⟨(Nat.le_of_ble_eq_true rfl), (Nat.le_of_ble_eq_true rfl)⟩ (Nat.le_of_ble_eq_true rfl) e2 kk) (fun r2 h2 q2 => ?_)
  obtain ⟨e3, i2⟩ := q2
  rw [e3]
  exact k_L2 HK (fun Ψ k1 k2 => k_icmp_eq (pc' := 378) (tg := 992) dL_law_375 rfl (by decide) k1 k2) (fun _ => K h2 i2) (fun z => absurd rfl z)

set_option maxHeartbeats 400000 in
set_option maxRecDepth 100000 in
theorem la_of {Wk : kWk} (HK : kLK Wk) {L I : Nat} {xs : Nat → Int32} (HS : kLS Wk L xs) (h6 : I + 6 ≤ L) (hL1 : L ≤ 3072) {μ : kH} (hi : Inv μ) (K : ∀ h2, Inv h2 → Wk 992 [kr 4000, kr 0, kr 46, ki (nI I)] [] h2) : Wk 380 [kr 4000, kr 0, kr 46, ki (nI I)] [] μ := by
  refine k_L HK (fun Ψ kk => k_aload_n (pc' := 381) dL_law_380 rfl rfl kk) ?_
  refine k_L HK (fun Ψ kk => k_aload_n (pc' := 382) dL_law_381 rfl rfl kk) ?_
  refine k_L HK (fun Ψ kk => k_iload_n (pc' := 383) dL_law_382 rfl rfl kk) ?_
  refine k_L HK (fun Ψ kk => k_iconst (pc' := 384) (v := 1) dL_law_383 rfl (by decide) kk) ?_
  refine k_L HK (fun Ψ kk => k_iadd (pc' := 385) dL_law_384 rfl kk) ?_
  refine HS 385 386 _ _ _ _ dL_law_385 rfl (vin (k := 1) h6 hL1 (by decide)) ?_
  refine k_L HK (fun Ψ kk => k_aload_n (pc' := 387) dL_law_386 rfl rfl kk) ?_
  refine k_L HK (fun Ψ kk => k_iload_n (pc' := 388) dL_law_387 rfl rfl kk) ?_
  refine k_L HK (fun Ψ kk => k_iconst (pc' := 389) (v := 2) dL_law_388 rfl (by decide) kk) ?_
  refine k_L HK (fun Ψ kk => k_iadd (pc' := 390) dL_law_389 rfl kk) ?_
  refine HS 390 391 _ _ _ _ dL_law_390 rfl (vin (k := 2) h6 hL1 (by decide)) ?_
  refine k_LC HK (fun Ψ kk => k_callV2 (pc' := 394) dL_law_391 rfl ml_RL_40 rfl rfl ⟨(Nat.le_of_ble_eq_true rfl), (Nat.le_of_ble_eq_true rfl)⟩ (Nat.le_of_ble_eq_true rfl) (pr_of hi) kk) (fun r1 h1 q1 => ?_)
  obtain ⟨⟨v, ev⟩, e2⟩ := q1
  rw [ev] at e2 ⊢
  refine k_L HK (fun Ψ kk => k_aload_n (pc' := 395) dL_law_394 rfl rfl kk) ?_
  refine k_L HK (fun Ψ kk => k_aload_n (pc' := 396) dL_law_395 rfl rfl kk) ?_
  refine k_L HK (fun Ψ kk => k_iload_n (pc' := 397) dL_law_396 rfl rfl kk) ?_
  refine k_L HK (fun Ψ kk => k_iconst (pc' := 398) (v := 1) dL_law_397 rfl (by decide) kk) ?_
  refine k_L HK (fun Ψ kk => k_iadd (pc' := 399) dL_law_398 rfl kk) ?_
  refine HS 399 400 _ _ _ _ dL_law_399 rfl (vin (k := 1) h6 hL1 (by decide)) ?_
  refine k_L HK (fun Ψ kk => k_aload_n (pc' := 401) dL_law_400 rfl rfl kk) ?_
  refine k_L HK (fun Ψ kk => k_iload_n (pc' := 402) dL_law_401 rfl rfl kk) ?_
  refine k_L HK (fun Ψ kk => k_iconst (pc' := 403) (v := 2) dL_law_402 rfl (by decide) kk) ?_
  refine k_L HK (fun Ψ kk => k_iadd (pc' := 404) dL_law_403 rfl kk) ?_
  refine HS 404 405 _ _ _ _ dL_law_404 rfl (vin (k := 2) h6 hL1 (by decide)) ?_
  refine k_LC HK (fun Ψ kk => k_callV2 (pc' := 408) dL_law_405 rfl ml_RL_43 rfl rfl ⟨(Nat.le_of_ble_eq_true rfl), (Nat.le_of_ble_eq_true rfl)⟩ (Nat.le_of_ble_eq_true rfl) e2 kk) (fun r2 h2 q2 => ?_)
  obtain ⟨e3, i2⟩ := q2
  rw [e3]
  exact k_L2 HK (fun Ψ k1 k2 => k_icmp_eq (pc' := 411) (tg := 992) dL_law_408 rfl (by decide) k1 k2) (fun _ => K h2 i2) (fun z => absurd rfl z)

set_option maxHeartbeats 400000 in
set_option maxRecDepth 100000 in
theorem la_plant {Wk : kWk} (HK : kLK Wk) {L I : Nat} {xs : Nat → Int32} (HS : kLS Wk L xs) (h6 : I + 6 ≤ L) (hL1 : L ≤ 3072) {μ : kH} (hi : Inv μ) (K : ∀ h2, Inv h2 → Wk 992 [kr 4000, kr 0, kr 46, ki (nI I)] [] h2) : Wk 413 [kr 4000, kr 0, kr 46, ki (nI I)] [] μ := by
  refine k_L HK (fun Ψ kk => k_aload_n (pc' := 414) dL_law_413 rfl rfl kk) ?_
  refine k_L HK (fun Ψ kk => k_aload_n (pc' := 415) dL_law_414 rfl rfl kk) ?_
  refine k_L HK (fun Ψ kk => k_iload_n (pc' := 416) dL_law_415 rfl rfl kk) ?_
  refine k_L HK (fun Ψ kk => k_iconst (pc' := 417) (v := 1) dL_law_416 rfl (by decide) kk) ?_
  refine k_L HK (fun Ψ kk => k_iadd (pc' := 418) dL_law_417 rfl kk) ?_
  refine HS 418 419 _ _ _ _ dL_law_418 rfl (vin (k := 1) h6 hL1 (by decide)) ?_
  refine k_LC HK (fun Ψ kk => k_callV1 (pc' := 422) dL_law_419 rfl ml_RL_44 rfl rfl ⟨(Nat.le_of_ble_eq_true rfl), (Nat.le_of_ble_eq_true rfl)⟩ (Nat.le_of_ble_eq_true rfl) (pr_plant hi) kk) (fun r1 h1 q1 => ?_)
  obtain ⟨⟨v, ev⟩, e2⟩ := q1
  rw [ev] at e2 ⊢
  refine k_L HK (fun Ψ kk => k_aload_n (pc' := 423) dL_law_422 rfl rfl kk) ?_
  refine k_L HK (fun Ψ kk => k_aload_n (pc' := 424) dL_law_423 rfl rfl kk) ?_
  refine k_L HK (fun Ψ kk => k_iload_n (pc' := 425) dL_law_424 rfl rfl kk) ?_
  refine k_L HK (fun Ψ kk => k_iconst (pc' := 426) (v := 1) dL_law_425 rfl (by decide) kk) ?_
  refine k_L HK (fun Ψ kk => k_iadd (pc' := 427) dL_law_426 rfl kk) ?_
  refine HS 427 428 _ _ _ _ dL_law_427 rfl (vin (k := 1) h6 hL1 (by decide)) ?_
  refine k_LC HK (fun Ψ kk => k_callV1 (pc' := 431) dL_law_428 rfl ml_RL_48 rfl rfl ⟨(Nat.le_of_ble_eq_true rfl), (Nat.le_of_ble_eq_true rfl)⟩ (Nat.le_of_ble_eq_true rfl) e2 kk) (fun r2 h2 q2 => ?_)
  obtain ⟨e3, i2⟩ := q2
  rw [e3]
  exact k_L2 HK (fun Ψ k1 k2 => k_icmp_eq (pc' := 434) (tg := 992) dL_law_431 rfl (by decide) k1 k2) (fun _ => K h2 i2) (fun z => absurd rfl z)

set_option maxHeartbeats 400000 in
set_option maxRecDepth 100000 in
theorem la_fell {Wk : kWk} (HK : kLK Wk) {L I : Nat} {xs : Nat → Int32} (HS : kLS Wk L xs) (h6 : I + 6 ≤ L) (hL1 : L ≤ 3072) {μ : kH} (hi : Inv μ) (K : ∀ h2, Inv h2 → Wk 992 [kr 4000, kr 0, kr 46, ki (nI I)] [] h2) : Wk 436 [kr 4000, kr 0, kr 46, ki (nI I)] [] μ := by
  refine k_L HK (fun Ψ kk => k_aload_n (pc' := 437) dL_law_436 rfl rfl kk) ?_
  refine k_L HK (fun Ψ kk => k_aload_n (pc' := 438) dL_law_437 rfl rfl kk) ?_
  refine k_L HK (fun Ψ kk => k_iload_n (pc' := 439) dL_law_438 rfl rfl kk) ?_
  refine k_L HK (fun Ψ kk => k_iconst (pc' := 440) (v := 1) dL_law_439 rfl (by decide) kk) ?_
  refine k_L HK (fun Ψ kk => k_iadd (pc' := 441) dL_law_440 rfl kk) ?_
  refine HS 441 442 _ _ _ _ dL_law_441 rfl (vin (k := 1) h6 hL1 (by decide)) ?_
  refine k_LC HK (fun Ψ kk => k_callV1 (pc' := 445) dL_law_442 rfl ml_RL_49 rfl rfl ⟨(Nat.le_of_ble_eq_true rfl), (Nat.le_of_ble_eq_true rfl)⟩ (Nat.le_of_ble_eq_true rfl) (pr_fell hi) kk) (fun r1 h1 q1 => ?_)
  obtain ⟨⟨v, ev⟩, e2⟩ := q1
  rw [ev] at e2 ⊢
  refine k_L HK (fun Ψ kk => k_aload_n (pc' := 446) dL_law_445 rfl rfl kk) ?_
  refine k_L HK (fun Ψ kk => k_aload_n (pc' := 447) dL_law_446 rfl rfl kk) ?_
  refine k_L HK (fun Ψ kk => k_iload_n (pc' := 448) dL_law_447 rfl rfl kk) ?_
  refine k_L HK (fun Ψ kk => k_iconst (pc' := 449) (v := 1) dL_law_448 rfl (by decide) kk) ?_
  refine k_L HK (fun Ψ kk => k_iadd (pc' := 450) dL_law_449 rfl kk) ?_
  refine HS 450 451 _ _ _ _ dL_law_450 rfl (vin (k := 1) h6 hL1 (by decide)) ?_
  refine k_LC HK (fun Ψ kk => k_callV1 (pc' := 454) dL_law_451 rfl ml_RL_52 rfl rfl ⟨(Nat.le_of_ble_eq_true rfl), (Nat.le_of_ble_eq_true rfl)⟩ (Nat.le_of_ble_eq_true rfl) e2 kk) (fun r2 h2 q2 => ?_)
  obtain ⟨e3, i2⟩ := q2
  rw [e3]
  exact k_L2 HK (fun Ψ k1 k2 => k_icmp_eq (pc' := 457) (tg := 992) dL_law_454 rfl (by decide) k1 k2) (fun _ => K h2 i2) (fun z => absurd rfl z)

set_option maxHeartbeats 400000 in
set_option maxRecDepth 100000 in
theorem la_fresh {Wk : kWk} (HK : kLK Wk) {L I : Nat} {xs : Nat → Int32} (HS : kLS Wk L xs) (h6 : I + 6 ≤ L) (hL1 : L ≤ 3072) {μ : kH} (hi : Inv μ) (K : ∀ h2, Inv h2 → Wk 992 [kr 4000, kr 0, kr 46, ki (nI I)] [] h2) : Wk 459 [kr 4000, kr 0, kr 46, ki (nI I)] [] μ := by
  refine k_L HK (fun Ψ kk => k_aload_n (pc' := 460) dL_law_459 rfl rfl kk) ?_
  refine k_L HK (fun Ψ kk => k_aload_n (pc' := 461) dL_law_460 rfl rfl kk) ?_
  refine k_L HK (fun Ψ kk => k_iload_n (pc' := 462) dL_law_461 rfl rfl kk) ?_
  refine k_L HK (fun Ψ kk => k_iconst (pc' := 463) (v := 1) dL_law_462 rfl (by decide) kk) ?_
  refine k_L HK (fun Ψ kk => k_iadd (pc' := 464) dL_law_463 rfl kk) ?_
  refine HS 464 465 _ _ _ _ dL_law_464 rfl (vin (k := 1) h6 hL1 (by decide)) ?_
  refine k_LC HK (fun Ψ kk => k_callV1 (pc' := 468) dL_law_465 rfl ml_RL_53 rfl rfl ⟨(Nat.le_of_ble_eq_true rfl), (Nat.le_of_ble_eq_true rfl)⟩ (Nat.le_of_ble_eq_true rfl) (pr_fresh hi) kk) (fun r1 h1 q1 => ?_)
  obtain ⟨⟨v, ev⟩, e2⟩ := q1
  rw [ev] at e2 ⊢
  refine k_L HK (fun Ψ kk => k_aload_n (pc' := 469) dL_law_468 rfl rfl kk) ?_
  refine k_L HK (fun Ψ kk => k_aload_n (pc' := 470) dL_law_469 rfl rfl kk) ?_
  refine k_L HK (fun Ψ kk => k_iload_n (pc' := 471) dL_law_470 rfl rfl kk) ?_
  refine k_L HK (fun Ψ kk => k_iconst (pc' := 472) (v := 1) dL_law_471 rfl (by decide) kk) ?_
  refine k_L HK (fun Ψ kk => k_iadd (pc' := 473) dL_law_472 rfl kk) ?_
  refine HS 473 474 _ _ _ _ dL_law_473 rfl (vin (k := 1) h6 hL1 (by decide)) ?_
  refine k_LC HK (fun Ψ kk => k_callV1 (pc' := 477) dL_law_474 rfl ml_RL_56 rfl rfl ⟨(Nat.le_of_ble_eq_true rfl), (Nat.le_of_ble_eq_true rfl)⟩ (Nat.le_of_ble_eq_true rfl) e2 kk) (fun r2 h2 q2 => ?_)
  obtain ⟨e3, i2⟩ := q2
  rw [e3]
  exact k_L2 HK (fun Ψ k1 k2 => k_icmp_eq (pc' := 480) (tg := 992) dL_law_477 rfl (by decide) k1 k2) (fun _ => K h2 i2) (fun z => absurd rfl z)

set_option maxHeartbeats 400000 in
set_option maxRecDepth 100000 in
theorem la_best {Wk : kWk} (HK : kLK Wk) {L I : Nat} {xs : Nat → Int32} (HS : kLS Wk L xs) (h6 : I + 6 ≤ L) (hL1 : L ≤ 3072) {μ : kH} (hi : Inv μ) (K : ∀ h2, Inv h2 → Wk 992 [kr 4000, kr 0, kr 46, ki (nI I)] [] h2) : Wk 482 [kr 4000, kr 0, kr 46, ki (nI I)] [] μ := by
  refine k_L HK (fun Ψ kk => k_aload_n (pc' := 483) dL_law_482 rfl rfl kk) ?_
  refine k_L HK (fun Ψ kk => k_aload_n (pc' := 484) dL_law_483 rfl rfl kk) ?_
  refine k_L HK (fun Ψ kk => k_iload_n (pc' := 485) dL_law_484 rfl rfl kk) ?_
  refine k_L HK (fun Ψ kk => k_iconst (pc' := 486) (v := 1) dL_law_485 rfl (by decide) kk) ?_
  refine k_L HK (fun Ψ kk => k_iadd (pc' := 487) dL_law_486 rfl kk) ?_
  refine HS 487 488 _ _ _ _ dL_law_487 rfl (vin (k := 1) h6 hL1 (by decide)) ?_
  refine k_L HK (fun Ψ kk => k_aload_n (pc' := 489) dL_law_488 rfl rfl kk) ?_
  refine k_L HK (fun Ψ kk => k_iload_n (pc' := 490) dL_law_489 rfl rfl kk) ?_
  refine k_L HK (fun Ψ kk => k_iconst (pc' := 491) (v := 2) dL_law_490 rfl (by decide) kk) ?_
  refine k_L HK (fun Ψ kk => k_iadd (pc' := 492) dL_law_491 rfl kk) ?_
  refine HS 492 493 _ _ _ _ dL_law_492 rfl (vin (k := 2) h6 hL1 (by decide)) ?_
  refine k_L HK (fun Ψ kk => k_aload_n (pc' := 494) dL_law_493 rfl rfl kk) ?_
  refine k_L HK (fun Ψ kk => k_iload_n (pc' := 495) dL_law_494 rfl rfl kk) ?_
  refine k_L HK (fun Ψ kk => k_iconst (pc' := 496) (v := 3) dL_law_495 rfl (by decide) kk) ?_
  refine k_L HK (fun Ψ kk => k_iadd (pc' := 497) dL_law_496 rfl kk) ?_
  refine HS 497 498 _ _ _ _ dL_law_497 rfl (vin (k := 3) h6 hL1 (by decide)) ?_
  refine k_L HK (fun Ψ kk => k_aload_n (pc' := 499) dL_law_498 rfl rfl kk) ?_
  refine k_L HK (fun Ψ kk => k_iload_n (pc' := 500) dL_law_499 rfl rfl kk) ?_
  refine k_L HK (fun Ψ kk => k_iconst (pc' := 501) (v := 4) dL_law_500 rfl (by decide) kk) ?_
  refine k_L HK (fun Ψ kk => k_iadd (pc' := 502) dL_law_501 rfl kk) ?_
  refine HS 502 503 _ _ _ _ dL_law_502 rfl (vin (k := 4) h6 hL1 (by decide)) ?_
  refine k_LC HK (fun Ψ kk => k_callV4 (pc' := 506) dL_law_503 rfl ml_RL_57 rfl rfl ⟨(Nat.le_of_ble_eq_true rfl), (Nat.le_of_ble_eq_true rfl)⟩ (Nat.le_of_ble_eq_true rfl) (pr_best hi) kk) (fun r1 h1 q1 => ?_)
  obtain ⟨⟨v, ev⟩, e2⟩ := q1
  rw [ev] at e2 ⊢
  refine k_L HK (fun Ψ kk => k_aload_n (pc' := 507) dL_law_506 rfl rfl kk) ?_
  refine k_L HK (fun Ψ kk => k_aload_n (pc' := 508) dL_law_507 rfl rfl kk) ?_
  refine k_L HK (fun Ψ kk => k_iload_n (pc' := 509) dL_law_508 rfl rfl kk) ?_
  refine k_L HK (fun Ψ kk => k_iconst (pc' := 510) (v := 1) dL_law_509 rfl (by decide) kk) ?_
  refine k_L HK (fun Ψ kk => k_iadd (pc' := 511) dL_law_510 rfl kk) ?_
  refine HS 511 512 _ _ _ _ dL_law_511 rfl (vin (k := 1) h6 hL1 (by decide)) ?_
  refine k_L HK (fun Ψ kk => k_aload_n (pc' := 513) dL_law_512 rfl rfl kk) ?_
  refine k_L HK (fun Ψ kk => k_iload_n (pc' := 514) dL_law_513 rfl rfl kk) ?_
  refine k_L HK (fun Ψ kk => k_iconst (pc' := 515) (v := 2) dL_law_514 rfl (by decide) kk) ?_
  refine k_L HK (fun Ψ kk => k_iadd (pc' := 516) dL_law_515 rfl kk) ?_
  refine HS 516 517 _ _ _ _ dL_law_516 rfl (vin (k := 2) h6 hL1 (by decide)) ?_
  refine k_L HK (fun Ψ kk => k_aload_n (pc' := 518) dL_law_517 rfl rfl kk) ?_
  refine k_L HK (fun Ψ kk => k_iload_n (pc' := 519) dL_law_518 rfl rfl kk) ?_
  refine k_L HK (fun Ψ kk => k_iconst (pc' := 520) (v := 3) dL_law_519 rfl (by decide) kk) ?_
  refine k_L HK (fun Ψ kk => k_iadd (pc' := 521) dL_law_520 rfl kk) ?_
  refine HS 521 522 _ _ _ _ dL_law_521 rfl (vin (k := 3) h6 hL1 (by decide)) ?_
  refine k_L HK (fun Ψ kk => k_aload_n (pc' := 523) dL_law_522 rfl rfl kk) ?_
  refine k_L HK (fun Ψ kk => k_iload_n (pc' := 524) dL_law_523 rfl rfl kk) ?_
  refine k_L HK (fun Ψ kk => k_iconst (pc' := 525) (v := 4) dL_law_524 rfl (by decide) kk) ?_
  refine k_L HK (fun Ψ kk => k_iadd (pc' := 526) dL_law_525 rfl kk) ?_
  refine HS 526 527 _ _ _ _ dL_law_526 rfl (vin (k := 4) h6 hL1 (by decide)) ?_
  refine k_LC HK (fun Ψ kk => k_callV4 (pc' := 530) dL_law_527 rfl ml_RL_60 rfl rfl ⟨(Nat.le_of_ble_eq_true rfl), (Nat.le_of_ble_eq_true rfl)⟩ (Nat.le_of_ble_eq_true rfl) e2 kk) (fun r2 h2 q2 => ?_)
  obtain ⟨e3, i2⟩ := q2
  rw [e3]
  exact k_L2 HK (fun Ψ k1 k2 => k_icmp_eq (pc' := 533) (tg := 992) dL_law_530 rfl (by decide) k1 k2) (fun _ => K h2 i2) (fun z => absurd rfl z)

set_option maxHeartbeats 400000 in
set_option maxRecDepth 100000 in
theorem la_feed {Wk : kWk} (HK : kLK Wk) {L I : Nat} {xs : Nat → Int32} (HS : kLS Wk L xs) (h6 : I + 6 ≤ L) (hL1 : L ≤ 3072) {μ : kH} (hi : Inv μ) (K : ∀ h2, Inv h2 → Wk 992 [kr 4000, kr 0, kr 46, ki (nI I)] [] h2) : Wk 535 [kr 4000, kr 0, kr 46, ki (nI I)] [] μ := by
  refine k_L HK (fun Ψ kk => k_aload_n (pc' := 536) dL_law_535 rfl rfl kk) ?_
  refine k_L HK (fun Ψ kk => k_aload_n (pc' := 537) dL_law_536 rfl rfl kk) ?_
  refine k_L HK (fun Ψ kk => k_iload_n (pc' := 538) dL_law_537 rfl rfl kk) ?_
  refine k_L HK (fun Ψ kk => k_iconst (pc' := 539) (v := 1) dL_law_538 rfl (by decide) kk) ?_
  refine k_L HK (fun Ψ kk => k_iadd (pc' := 540) dL_law_539 rfl kk) ?_
  refine HS 540 541 _ _ _ _ dL_law_540 rfl (vin (k := 1) h6 hL1 (by decide)) ?_
  refine k_L HK (fun Ψ kk => k_aload_n (pc' := 542) dL_law_541 rfl rfl kk) ?_
  refine k_L HK (fun Ψ kk => k_iload_n (pc' := 543) dL_law_542 rfl rfl kk) ?_
  refine k_L HK (fun Ψ kk => k_iconst (pc' := 544) (v := 2) dL_law_543 rfl (by decide) kk) ?_
  refine k_L HK (fun Ψ kk => k_iadd (pc' := 545) dL_law_544 rfl kk) ?_
  refine HS 545 546 _ _ _ _ dL_law_545 rfl (vin (k := 2) h6 hL1 (by decide)) ?_
  refine k_L HK (fun Ψ kk => k_aload_n (pc' := 547) dL_law_546 rfl rfl kk) ?_
  refine k_L HK (fun Ψ kk => k_iload_n (pc' := 548) dL_law_547 rfl rfl kk) ?_
  refine k_L HK (fun Ψ kk => k_iconst (pc' := 549) (v := 3) dL_law_548 rfl (by decide) kk) ?_
  refine k_L HK (fun Ψ kk => k_iadd (pc' := 550) dL_law_549 rfl kk) ?_
  refine HS 550 551 _ _ _ _ dL_law_550 rfl (vin (k := 3) h6 hL1 (by decide)) ?_
  refine k_L HK (fun Ψ kk => k_aload_n (pc' := 552) dL_law_551 rfl rfl kk) ?_
  refine k_L HK (fun Ψ kk => k_iload_n (pc' := 553) dL_law_552 rfl rfl kk) ?_
  refine k_L HK (fun Ψ kk => k_iconst (pc' := 554) (v := 4) dL_law_553 rfl (by decide) kk) ?_
  refine k_L HK (fun Ψ kk => k_iadd (pc' := 555) dL_law_554 rfl kk) ?_
  refine HS 555 556 _ _ _ _ dL_law_555 rfl (vin (k := 4) h6 hL1 (by decide)) ?_
  refine k_L HK (fun Ψ kk => k_aload_n (pc' := 557) dL_law_556 rfl rfl kk) ?_
  refine k_L HK (fun Ψ kk => k_iload_n (pc' := 558) dL_law_557 rfl rfl kk) ?_
  refine k_L HK (fun Ψ kk => k_iconst (pc' := 559) (v := 5) dL_law_558 rfl (by decide) kk) ?_
  refine k_L HK (fun Ψ kk => k_iadd (pc' := 560) dL_law_559 rfl kk) ?_
  refine HS 560 561 _ _ _ _ dL_law_560 rfl (vin (k := 5) h6 hL1 (by decide)) ?_
  refine k_LC HK (fun Ψ kk => k_callV5 (pc' := 564) dL_law_561 rfl ml_RL_61 rfl rfl ⟨(Nat.le_of_ble_eq_true rfl), (Nat.le_of_ble_eq_true rfl)⟩ (Nat.le_of_ble_eq_true rfl) (pr_feed hi) kk) (fun r1 h1 q1 => ?_)
  obtain ⟨⟨v, ev⟩, e2⟩ := q1
  rw [ev] at e2 ⊢
  refine k_L HK (fun Ψ kk => k_aload_n (pc' := 565) dL_law_564 rfl rfl kk) ?_
  refine k_L HK (fun Ψ kk => k_aload_n (pc' := 566) dL_law_565 rfl rfl kk) ?_
  refine k_L HK (fun Ψ kk => k_iload_n (pc' := 567) dL_law_566 rfl rfl kk) ?_
  refine k_L HK (fun Ψ kk => k_iconst (pc' := 568) (v := 1) dL_law_567 rfl (by decide) kk) ?_
  refine k_L HK (fun Ψ kk => k_iadd (pc' := 569) dL_law_568 rfl kk) ?_
  refine HS 569 570 _ _ _ _ dL_law_569 rfl (vin (k := 1) h6 hL1 (by decide)) ?_
  refine k_L HK (fun Ψ kk => k_aload_n (pc' := 571) dL_law_570 rfl rfl kk) ?_
  refine k_L HK (fun Ψ kk => k_iload_n (pc' := 572) dL_law_571 rfl rfl kk) ?_
  refine k_L HK (fun Ψ kk => k_iconst (pc' := 573) (v := 2) dL_law_572 rfl (by decide) kk) ?_
  refine k_L HK (fun Ψ kk => k_iadd (pc' := 574) dL_law_573 rfl kk) ?_
  refine HS 574 575 _ _ _ _ dL_law_574 rfl (vin (k := 2) h6 hL1 (by decide)) ?_
  refine k_L HK (fun Ψ kk => k_aload_n (pc' := 576) dL_law_575 rfl rfl kk) ?_
  refine k_L HK (fun Ψ kk => k_iload_n (pc' := 577) dL_law_576 rfl rfl kk) ?_
  refine k_L HK (fun Ψ kk => k_iconst (pc' := 578) (v := 3) dL_law_577 rfl (by decide) kk) ?_
  refine k_L HK (fun Ψ kk => k_iadd (pc' := 579) dL_law_578 rfl kk) ?_
  refine HS 579 580 _ _ _ _ dL_law_579 rfl (vin (k := 3) h6 hL1 (by decide)) ?_
  refine k_L HK (fun Ψ kk => k_aload_n (pc' := 581) dL_law_580 rfl rfl kk) ?_
  refine k_L HK (fun Ψ kk => k_iload_n (pc' := 582) dL_law_581 rfl rfl kk) ?_
  refine k_L HK (fun Ψ kk => k_iconst (pc' := 583) (v := 4) dL_law_582 rfl (by decide) kk) ?_
  refine k_L HK (fun Ψ kk => k_iadd (pc' := 584) dL_law_583 rfl kk) ?_
  refine HS 584 585 _ _ _ _ dL_law_584 rfl (vin (k := 4) h6 hL1 (by decide)) ?_
  refine k_L HK (fun Ψ kk => k_aload_n (pc' := 586) dL_law_585 rfl rfl kk) ?_
  refine k_L HK (fun Ψ kk => k_iload_n (pc' := 587) dL_law_586 rfl rfl kk) ?_
  refine k_L HK (fun Ψ kk => k_iconst (pc' := 588) (v := 5) dL_law_587 rfl (by decide) kk) ?_
  refine k_L HK (fun Ψ kk => k_iadd (pc' := 589) dL_law_588 rfl kk) ?_
  refine HS 589 590 _ _ _ _ dL_law_589 rfl (vin (k := 5) h6 hL1 (by decide)) ?_
  refine k_LC HK (fun Ψ kk => k_callV5 (pc' := 593) dL_law_590 rfl ml_RL_65 rfl rfl ⟨(Nat.le_of_ble_eq_true rfl), (Nat.le_of_ble_eq_true rfl)⟩ (Nat.le_of_ble_eq_true rfl) e2 kk) (fun r2 h2 q2 => ?_)
  obtain ⟨e3, i2⟩ := q2
  rw [e3]
  exact k_L2 HK (fun Ψ k1 k2 => k_icmp_eq (pc' := 596) (tg := 992) dL_law_593 rfl (by decide) k1 k2) (fun _ => K h2 i2) (fun z => absurd rfl z)

set_option maxHeartbeats 400000 in
set_option maxRecDepth 100000 in
theorem la_end {Wk : kWk} (HK : kLK Wk) {L I : Nat} {xs : Nat → Int32} (HS : kLS Wk L xs) (h6 : I + 6 ≤ L) (hL1 : L ≤ 3072) {μ : kH} (hi : Inv μ) (K : ∀ h2, Inv h2 → Wk 992 [kr 4000, kr 0, kr 46, ki (nI I)] [] h2) : Wk 598 [kr 4000, kr 0, kr 46, ki (nI I)] [] μ := by
  refine k_L HK (fun Ψ kk => k_aload_n (pc' := 599) dL_law_598 rfl rfl kk) ?_
  refine k_L HK (fun Ψ kk => k_aload_n (pc' := 600) dL_law_599 rfl rfl kk) ?_
  refine k_L HK (fun Ψ kk => k_iload_n (pc' := 601) dL_law_600 rfl rfl kk) ?_
  refine k_L HK (fun Ψ kk => k_iconst (pc' := 602) (v := 1) dL_law_601 rfl (by decide) kk) ?_
  refine k_L HK (fun Ψ kk => k_iadd (pc' := 603) dL_law_602 rfl kk) ?_
  refine HS 603 604 _ _ _ _ dL_law_603 rfl (vin (k := 1) h6 hL1 (by decide)) ?_
  refine k_LC HK (fun Ψ kk => k_callV1 (pc' := 607) dL_law_604 rfl ml_RL_66 rfl rfl ⟨(Nat.le_of_ble_eq_true rfl), (Nat.le_of_ble_eq_true rfl)⟩ (Nat.le_of_ble_eq_true rfl) (pr_end hi) kk) (fun r1 h1 q1 => ?_)
  obtain ⟨⟨v, ev⟩, e2⟩ := q1
  rw [ev] at e2 ⊢
  refine k_L HK (fun Ψ kk => k_aload_n (pc' := 608) dL_law_607 rfl rfl kk) ?_
  refine k_L HK (fun Ψ kk => k_aload_n (pc' := 609) dL_law_608 rfl rfl kk) ?_
  refine k_L HK (fun Ψ kk => k_iload_n (pc' := 610) dL_law_609 rfl rfl kk) ?_
  refine k_L HK (fun Ψ kk => k_iconst (pc' := 611) (v := 1) dL_law_610 rfl (by decide) kk) ?_
  refine k_L HK (fun Ψ kk => k_iadd (pc' := 612) dL_law_611 rfl kk) ?_
  refine HS 612 613 _ _ _ _ dL_law_612 rfl (vin (k := 1) h6 hL1 (by decide)) ?_
  refine k_LC HK (fun Ψ kk => k_callV1 (pc' := 616) dL_law_613 rfl ml_RL_69 rfl rfl ⟨(Nat.le_of_ble_eq_true rfl), (Nat.le_of_ble_eq_true rfl)⟩ (Nat.le_of_ble_eq_true rfl) e2 kk) (fun r2 h2 q2 => ?_)
  obtain ⟨e3, i2⟩ := q2
  rw [e3]
  exact k_L2 HK (fun Ψ k1 k2 => k_icmp_eq (pc' := 619) (tg := 992) dL_law_616 rfl (by decide) k1 k2) (fun _ => K h2 i2) (fun z => absurd rfl z)

set_option maxHeartbeats 400000 in
set_option maxRecDepth 100000 in
theorem la_tithes {Wk : kWk} (HK : kLK Wk) {L I : Nat} {xs : Nat → Int32} (HS : kLS Wk L xs) (h6 : I + 6 ≤ L) (hL1 : L ≤ 3072) {μ : kH} (hi : Inv μ) (K : ∀ h2, Inv h2 → Wk 992 [kr 4000, kr 0, kr 46, ki (nI I)] [] h2) : Wk 621 [kr 4000, kr 0, kr 46, ki (nI I)] [] μ := by
  refine k_L HK (fun Ψ kk => k_aload_n (pc' := 622) dL_law_621 rfl rfl kk) ?_
  refine k_LC HK (fun Ψ kk => k_callV0 (pc' := 625) dL_law_622 rfl ml_RL_70 rfl rfl ⟨(Nat.le_of_ble_eq_true rfl), (Nat.le_of_ble_eq_true rfl)⟩ (Nat.le_of_ble_eq_true rfl) (pr_tithes hi) kk) (fun r1 h1 q1 => ?_)
  obtain ⟨⟨v, ev⟩, e2⟩ := q1
  rw [ev] at e2 ⊢
  refine k_L HK (fun Ψ kk => k_aload_n (pc' := 626) dL_law_625 rfl rfl kk) ?_
  refine k_LC HK (fun Ψ kk => k_callV0 (pc' := 629) dL_law_626 rfl ml_RL_74 rfl rfl ⟨(Nat.le_of_ble_eq_true rfl), (Nat.le_of_ble_eq_true rfl)⟩ (Nat.le_of_ble_eq_true rfl) e2 kk) (fun r2 h2 q2 => ?_)
  obtain ⟨e3, i2⟩ := q2
  rw [e3]
  exact k_L2 HK (fun Ψ k1 k2 => k_icmp_eq (pc' := 632) (tg := 992) dL_law_629 rfl (by decide) k1 k2) (fun _ => K h2 i2) (fun z => absurd rfl z)

set_option maxHeartbeats 400000 in
set_option maxRecDepth 100000 in
theorem la_fault {Wk : kWk} (HK : kLK Wk) {L I : Nat} {xs : Nat → Int32} (HS : kLS Wk L xs) (h6 : I + 6 ≤ L) (hL1 : L ≤ 3072) {μ : kH} (hi : Inv μ) (K : ∀ h2, Inv h2 → Wk 992 [kr 4000, kr 0, kr 46, ki (nI I)] [] h2) : Wk 634 [kr 4000, kr 0, kr 46, ki (nI I)] [] μ := by
  refine k_L HK (fun Ψ kk => k_aload_n (pc' := 635) dL_law_634 rfl rfl kk) ?_
  refine k_LC HK (fun Ψ kk => k_callV0 (pc' := 638) dL_law_635 rfl ml_RL_75 rfl rfl ⟨(Nat.le_of_ble_eq_true rfl), (Nat.le_of_ble_eq_true rfl)⟩ (Nat.le_of_ble_eq_true rfl) (pr_fault hi) kk) (fun r1 h1 q1 => ?_)
  obtain ⟨⟨v, ev⟩, e2⟩ := q1
  rw [ev] at e2 ⊢
  refine k_L HK (fun Ψ kk => k_aload_n (pc' := 639) dL_law_638 rfl rfl kk) ?_
  refine k_LC HK (fun Ψ kk => k_callV0 (pc' := 642) dL_law_639 rfl ml_RL_78 rfl rfl ⟨(Nat.le_of_ble_eq_true rfl), (Nat.le_of_ble_eq_true rfl)⟩ (Nat.le_of_ble_eq_true rfl) e2 kk) (fun r2 h2 q2 => ?_)
  obtain ⟨e3, i2⟩ := q2
  rw [e3]
  exact k_L2 HK (fun Ψ k1 k2 => k_icmp_eq (pc' := 645) (tg := 992) dL_law_642 rfl (by decide) k1 k2) (fun _ => K h2 i2) (fun z => absurd rfl z)

set_option maxHeartbeats 400000 in
set_option maxRecDepth 100000 in
theorem la_tithe {Wk : kWk} (HK : kLK Wk) {L I : Nat} {xs : Nat → Int32} (HS : kLS Wk L xs) (h6 : I + 6 ≤ L) (hL1 : L ≤ 3072) {μ : kH} (hi : Inv μ) (K : ∀ h2, Inv h2 → Wk 992 [kr 4000, kr 0, kr 46, ki (nI I)] [] h2) : Wk 647 [kr 4000, kr 0, kr 46, ki (nI I)] [] μ := by
  refine k_L HK (fun Ψ kk => k_aload_n (pc' := 648) dL_law_647 rfl rfl kk) ?_
  refine k_L HK (fun Ψ kk => k_aload_n (pc' := 649) dL_law_648 rfl rfl kk) ?_
  refine k_L HK (fun Ψ kk => k_iload_n (pc' := 650) dL_law_649 rfl rfl kk) ?_
  refine k_L HK (fun Ψ kk => k_iconst (pc' := 651) (v := 1) dL_law_650 rfl (by decide) kk) ?_
  refine k_L HK (fun Ψ kk => k_iadd (pc' := 652) dL_law_651 rfl kk) ?_
  refine HS 652 653 _ _ _ _ dL_law_652 rfl (vin (k := 1) h6 hL1 (by decide)) ?_
  refine k_L HK (fun Ψ kk => k_aload_n (pc' := 654) dL_law_653 rfl rfl kk) ?_
  refine k_L HK (fun Ψ kk => k_iload_n (pc' := 655) dL_law_654 rfl rfl kk) ?_
  refine k_L HK (fun Ψ kk => k_iconst (pc' := 656) (v := 2) dL_law_655 rfl (by decide) kk) ?_
  refine k_L HK (fun Ψ kk => k_iadd (pc' := 657) dL_law_656 rfl kk) ?_
  refine HS 657 658 _ _ _ _ dL_law_657 rfl (vin (k := 2) h6 hL1 (by decide)) ?_
  refine k_L HK (fun Ψ kk => k_aload_n (pc' := 659) dL_law_658 rfl rfl kk) ?_
  refine k_L HK (fun Ψ kk => k_iload_n (pc' := 660) dL_law_659 rfl rfl kk) ?_
  refine k_L HK (fun Ψ kk => k_iconst (pc' := 661) (v := 3) dL_law_660 rfl (by decide) kk) ?_
  refine k_L HK (fun Ψ kk => k_iadd (pc' := 662) dL_law_661 rfl kk) ?_
  refine HS 662 663 _ _ _ _ dL_law_662 rfl (vin (k := 3) h6 hL1 (by decide)) ?_
  refine k_LC HK (fun Ψ kk => k_callV3 (pc' := 666) dL_law_663 rfl ml_RL_79 rfl rfl ⟨(Nat.le_of_ble_eq_true rfl), (Nat.le_of_ble_eq_true rfl)⟩ (Nat.le_of_ble_eq_true rfl) (pr_tithe hi) kk) (fun r1 h1 q1 => ?_)
  obtain ⟨⟨v, ev⟩, e2⟩ := q1
  rw [ev] at e2 ⊢
  refine k_L HK (fun Ψ kk => k_aload_n (pc' := 667) dL_law_666 rfl rfl kk) ?_
  refine k_L HK (fun Ψ kk => k_aload_n (pc' := 668) dL_law_667 rfl rfl kk) ?_
  refine k_L HK (fun Ψ kk => k_iload_n (pc' := 669) dL_law_668 rfl rfl kk) ?_
  refine k_L HK (fun Ψ kk => k_iconst (pc' := 670) (v := 1) dL_law_669 rfl (by decide) kk) ?_
  refine k_L HK (fun Ψ kk => k_iadd (pc' := 671) dL_law_670 rfl kk) ?_
  refine HS 671 672 _ _ _ _ dL_law_671 rfl (vin (k := 1) h6 hL1 (by decide)) ?_
  refine k_L HK (fun Ψ kk => k_aload_n (pc' := 673) dL_law_672 rfl rfl kk) ?_
  refine k_L HK (fun Ψ kk => k_iload_n (pc' := 674) dL_law_673 rfl rfl kk) ?_
  refine k_L HK (fun Ψ kk => k_iconst (pc' := 675) (v := 2) dL_law_674 rfl (by decide) kk) ?_
  refine k_L HK (fun Ψ kk => k_iadd (pc' := 676) dL_law_675 rfl kk) ?_
  refine HS 676 677 _ _ _ _ dL_law_676 rfl (vin (k := 2) h6 hL1 (by decide)) ?_
  refine k_L HK (fun Ψ kk => k_aload_n (pc' := 678) dL_law_677 rfl rfl kk) ?_
  refine k_L HK (fun Ψ kk => k_iload_n (pc' := 679) dL_law_678 rfl rfl kk) ?_
  refine k_L HK (fun Ψ kk => k_iconst (pc' := 680) (v := 3) dL_law_679 rfl (by decide) kk) ?_
  refine k_L HK (fun Ψ kk => k_iadd (pc' := 681) dL_law_680 rfl kk) ?_
  refine HS 681 682 _ _ _ _ dL_law_681 rfl (vin (k := 3) h6 hL1 (by decide)) ?_
  refine k_LC HK (fun Ψ kk => k_callV3 (pc' := 685) dL_law_682 rfl ml_RL_83 rfl rfl ⟨(Nat.le_of_ble_eq_true rfl), (Nat.le_of_ble_eq_true rfl)⟩ (Nat.le_of_ble_eq_true rfl) e2 kk) (fun r2 h2 q2 => ?_)
  obtain ⟨e3, i2⟩ := q2
  rw [e3]
  refine k_L HK (fun Ψ kk => k_lcmp (pc' := 686) dL_law_685 rfl kk) ?_
  exact k_L2 HK (fun Ψ k1 k2 => k_if_eq (pc' := 689) (tg := 992) dL_law_686 rfl (by decide) k1 k2) (fun _ => K h2 i2) (fun z => absurd (k_c0.mpr rfl) z)

set_option maxHeartbeats 400000 in
set_option maxRecDepth 100000 in
theorem la_plan {Wk : kWk} (HK : kLK Wk) {L I : Nat} {xs : Nat → Int32} (HS : kLS Wk L xs) (h6 : I + 6 ≤ L) (hL1 : L ≤ 3072) {μ : kH} (hi : Inv μ) (K : ∀ h2, Inv h2 → Wk 992 [kr 4000, kr 0, kr 46, ki (nI I)] [] h2) : Wk 691 [kr 4000, kr 0, kr 46, ki (nI I)] [] μ := by
  refine k_L HK (fun Ψ kk => k_aload_n (pc' := 692) dL_law_691 rfl rfl kk) ?_
  refine k_L HK (fun Ψ kk => k_aload_n (pc' := 693) dL_law_692 rfl rfl kk) ?_
  refine k_L HK (fun Ψ kk => k_iload_n (pc' := 694) dL_law_693 rfl rfl kk) ?_
  refine k_L HK (fun Ψ kk => k_iconst (pc' := 695) (v := 1) dL_law_694 rfl (by decide) kk) ?_
  refine k_L HK (fun Ψ kk => k_iadd (pc' := 696) dL_law_695 rfl kk) ?_
  refine HS 696 697 _ _ _ _ dL_law_696 rfl (vin (k := 1) h6 hL1 (by decide)) ?_
  refine k_L HK (fun Ψ kk => k_aload_n (pc' := 698) dL_law_697 rfl rfl kk) ?_
  refine k_L HK (fun Ψ kk => k_iload_n (pc' := 699) dL_law_698 rfl rfl kk) ?_
  refine k_L HK (fun Ψ kk => k_iconst (pc' := 700) (v := 2) dL_law_699 rfl (by decide) kk) ?_
  refine k_L HK (fun Ψ kk => k_iadd (pc' := 701) dL_law_700 rfl kk) ?_
  refine HS 701 702 _ _ _ _ dL_law_701 rfl (vin (k := 2) h6 hL1 (by decide)) ?_
  refine k_LC HK (fun Ψ kk => k_callV2 (pc' := 705) dL_law_702 rfl ml_RL_84 rfl rfl ⟨(Nat.le_of_ble_eq_true rfl), (Nat.le_of_ble_eq_true rfl)⟩ (Nat.le_of_ble_eq_true rfl) (pr_plan hi) kk) (fun r1 h1 q1 => ?_)
  obtain ⟨⟨v, ev⟩, e2⟩ := q1
  rw [ev] at e2 ⊢
  refine k_L HK (fun Ψ kk => k_aload_n (pc' := 706) dL_law_705 rfl rfl kk) ?_
  refine k_L HK (fun Ψ kk => k_aload_n (pc' := 707) dL_law_706 rfl rfl kk) ?_
  refine k_L HK (fun Ψ kk => k_iload_n (pc' := 708) dL_law_707 rfl rfl kk) ?_
  refine k_L HK (fun Ψ kk => k_iconst (pc' := 709) (v := 1) dL_law_708 rfl (by decide) kk) ?_
  refine k_L HK (fun Ψ kk => k_iadd (pc' := 710) dL_law_709 rfl kk) ?_
  refine HS 710 711 _ _ _ _ dL_law_710 rfl (vin (k := 1) h6 hL1 (by decide)) ?_
  refine k_L HK (fun Ψ kk => k_aload_n (pc' := 712) dL_law_711 rfl rfl kk) ?_
  refine k_L HK (fun Ψ kk => k_iload_n (pc' := 713) dL_law_712 rfl rfl kk) ?_
  refine k_L HK (fun Ψ kk => k_iconst (pc' := 714) (v := 2) dL_law_713 rfl (by decide) kk) ?_
  refine k_L HK (fun Ψ kk => k_iadd (pc' := 715) dL_law_714 rfl kk) ?_
  refine HS 715 716 _ _ _ _ dL_law_715 rfl (vin (k := 2) h6 hL1 (by decide)) ?_
  refine k_LC HK (fun Ψ kk => k_callV2 (pc' := 719) dL_law_716 rfl ml_RL_88 rfl rfl ⟨(Nat.le_of_ble_eq_true rfl), (Nat.le_of_ble_eq_true rfl)⟩ (Nat.le_of_ble_eq_true rfl) e2 kk) (fun r2 h2 q2 => ?_)
  obtain ⟨e3, i2⟩ := q2
  rw [e3]
  refine k_L HK (fun Ψ kk => k_lcmp (pc' := 720) dL_law_719 rfl kk) ?_
  exact k_L2 HK (fun Ψ k1 k2 => k_if_eq (pc' := 723) (tg := 992) dL_law_720 rfl (by decide) k1 k2) (fun _ => K h2 i2) (fun z => absurd (k_c0.mpr rfl) z)

set_option maxHeartbeats 400000 in
set_option maxRecDepth 100000 in
theorem la_planned {Wk : kWk} (HK : kLK Wk) {L I : Nat} {xs : Nat → Int32} (HS : kLS Wk L xs) (h6 : I + 6 ≤ L) (hL1 : L ≤ 3072) {μ : kH} (hi : Inv μ) (K : ∀ h2, Inv h2 → Wk 992 [kr 4000, kr 0, kr 46, ki (nI I)] [] h2) : Wk 725 [kr 4000, kr 0, kr 46, ki (nI I)] [] μ := by
  refine k_L HK (fun Ψ kk => k_aload_n (pc' := 726) dL_law_725 rfl rfl kk) ?_
  refine k_L HK (fun Ψ kk => k_aload_n (pc' := 727) dL_law_726 rfl rfl kk) ?_
  refine k_L HK (fun Ψ kk => k_iload_n (pc' := 728) dL_law_727 rfl rfl kk) ?_
  refine k_L HK (fun Ψ kk => k_iconst (pc' := 729) (v := 1) dL_law_728 rfl (by decide) kk) ?_
  refine k_L HK (fun Ψ kk => k_iadd (pc' := 730) dL_law_729 rfl kk) ?_
  refine HS 730 731 _ _ _ _ dL_law_730 rfl (vin (k := 1) h6 hL1 (by decide)) ?_
  refine k_LC HK (fun Ψ kk => k_callV1 (pc' := 734) dL_law_731 rfl ml_RL_89 rfl rfl ⟨(Nat.le_of_ble_eq_true rfl), (Nat.le_of_ble_eq_true rfl)⟩ (Nat.le_of_ble_eq_true rfl) (pr_planned hi) kk) (fun r1 h1 q1 => ?_)
  obtain ⟨⟨v, ev⟩, e2⟩ := q1
  rw [ev] at e2 ⊢
  refine k_L HK (fun Ψ kk => k_aload_n (pc' := 735) dL_law_734 rfl rfl kk) ?_
  refine k_L HK (fun Ψ kk => k_aload_n (pc' := 736) dL_law_735 rfl rfl kk) ?_
  refine k_L HK (fun Ψ kk => k_iload_n (pc' := 737) dL_law_736 rfl rfl kk) ?_
  refine k_L HK (fun Ψ kk => k_iconst (pc' := 738) (v := 1) dL_law_737 rfl (by decide) kk) ?_
  refine k_L HK (fun Ψ kk => k_iadd (pc' := 739) dL_law_738 rfl kk) ?_
  refine HS 739 740 _ _ _ _ dL_law_739 rfl (vin (k := 1) h6 hL1 (by decide)) ?_
  refine k_LC HK (fun Ψ kk => k_callV1 (pc' := 743) dL_law_740 rfl ml_RL_92 rfl rfl ⟨(Nat.le_of_ble_eq_true rfl), (Nat.le_of_ble_eq_true rfl)⟩ (Nat.le_of_ble_eq_true rfl) e2 kk) (fun r2 h2 q2 => ?_)
  obtain ⟨e3, i2⟩ := q2
  rw [e3]
  exact k_L2 HK (fun Ψ k1 k2 => k_icmp_eq (pc' := 746) (tg := 992) dL_law_743 rfl (by decide) k1 k2) (fun _ => K h2 i2) (fun z => absurd rfl z)

set_option maxHeartbeats 400000 in
set_option maxRecDepth 100000 in
theorem la_go {Wk : kWk} (HK : kLK Wk) {L I : Nat} {xs : Nat → Int32} (HS : kLS Wk L xs) (h6 : I + 6 ≤ L) (hL1 : L ≤ 3072) {μ : kH} (hi : Inv μ) (K : ∀ h2, Inv h2 → Wk 992 [kr 4000, kr 0, kr 46, ki (nI I)] [] h2) : Wk 748 [kr 4000, kr 0, kr 46, ki (nI I)] [] μ := by
  refine k_L HK (fun Ψ kk => k_aload_n (pc' := 749) dL_law_748 rfl rfl kk) ?_
  refine k_L HK (fun Ψ kk => k_aload_n (pc' := 750) dL_law_749 rfl rfl kk) ?_
  refine k_L HK (fun Ψ kk => k_iload_n (pc' := 751) dL_law_750 rfl rfl kk) ?_
  refine k_L HK (fun Ψ kk => k_iconst (pc' := 752) (v := 1) dL_law_751 rfl (by decide) kk) ?_
  refine k_L HK (fun Ψ kk => k_iadd (pc' := 753) dL_law_752 rfl kk) ?_
  refine HS 753 754 _ _ _ _ dL_law_753 rfl (vin (k := 1) h6 hL1 (by decide)) ?_
  refine k_LC HK (fun Ψ kk => k_callV1 (pc' := 757) dL_law_754 rfl ml_RL_93 rfl rfl ⟨(Nat.le_of_ble_eq_true rfl), (Nat.le_of_ble_eq_true rfl)⟩ (Nat.le_of_ble_eq_true rfl) (pr_go hi) kk) (fun r1 h1 q1 => ?_)
  obtain ⟨⟨v, ev⟩, e2⟩ := q1
  rw [ev] at e2 ⊢
  refine k_L HK (fun Ψ kk => k_aload_n (pc' := 758) dL_law_757 rfl rfl kk) ?_
  refine k_L HK (fun Ψ kk => k_aload_n (pc' := 759) dL_law_758 rfl rfl kk) ?_
  refine k_L HK (fun Ψ kk => k_iload_n (pc' := 760) dL_law_759 rfl rfl kk) ?_
  refine k_L HK (fun Ψ kk => k_iconst (pc' := 761) (v := 1) dL_law_760 rfl (by decide) kk) ?_
  refine k_L HK (fun Ψ kk => k_iadd (pc' := 762) dL_law_761 rfl kk) ?_
  refine HS 762 763 _ _ _ _ dL_law_762 rfl (vin (k := 1) h6 hL1 (by decide)) ?_
  refine k_LC HK (fun Ψ kk => k_callV1 (pc' := 766) dL_law_763 rfl ml_RL_96 rfl rfl ⟨(Nat.le_of_ble_eq_true rfl), (Nat.le_of_ble_eq_true rfl)⟩ (Nat.le_of_ble_eq_true rfl) e2 kk) (fun r2 h2 q2 => ?_)
  obtain ⟨e3, i2⟩ := q2
  rw [e3]
  exact k_L2 HK (fun Ψ k1 k2 => k_icmp_eq (pc' := 769) (tg := 992) dL_law_766 rfl (by decide) k1 k2) (fun _ => K h2 i2) (fun z => absurd rfl z)

set_option maxHeartbeats 400000 in
set_option maxRecDepth 100000 in
theorem la_stock {Wk : kWk} (HK : kLK Wk) {L I : Nat} {xs : Nat → Int32} (HS : kLS Wk L xs) (h6 : I + 6 ≤ L) (hL1 : L ≤ 3072) {μ : kH} (hi : Inv μ) (K : ∀ h2, Inv h2 → Wk 992 [kr 4000, kr 0, kr 46, ki (nI I)] [] h2) : Wk 771 [kr 4000, kr 0, kr 46, ki (nI I)] [] μ := by
  refine k_L HK (fun Ψ kk => k_aload_n (pc' := 772) dL_law_771 rfl rfl kk) ?_
  refine k_L HK (fun Ψ kk => k_aload_n (pc' := 773) dL_law_772 rfl rfl kk) ?_
  refine k_L HK (fun Ψ kk => k_iload_n (pc' := 774) dL_law_773 rfl rfl kk) ?_
  refine k_L HK (fun Ψ kk => k_iconst (pc' := 775) (v := 1) dL_law_774 rfl (by decide) kk) ?_
  refine k_L HK (fun Ψ kk => k_iadd (pc' := 776) dL_law_775 rfl kk) ?_
  refine HS 776 777 _ _ _ _ dL_law_776 rfl (vin (k := 1) h6 hL1 (by decide)) ?_
  refine k_L HK (fun Ψ kk => k_aload_n (pc' := 778) dL_law_777 rfl rfl kk) ?_
  refine k_L HK (fun Ψ kk => k_iload_n (pc' := 779) dL_law_778 rfl rfl kk) ?_
  refine k_L HK (fun Ψ kk => k_iconst (pc' := 780) (v := 2) dL_law_779 rfl (by decide) kk) ?_
  refine k_L HK (fun Ψ kk => k_iadd (pc' := 781) dL_law_780 rfl kk) ?_
  refine HS 781 782 _ _ _ _ dL_law_781 rfl (vin (k := 2) h6 hL1 (by decide)) ?_
  refine k_LC HK (fun Ψ kk => k_callV2 (pc' := 785) dL_law_782 rfl ml_RL_97 rfl rfl ⟨(Nat.le_of_ble_eq_true rfl), (Nat.le_of_ble_eq_true rfl)⟩ (Nat.le_of_ble_eq_true rfl) (pr_stock hi) kk) (fun r1 h1 q1 => ?_)
  obtain ⟨⟨v, ev⟩, e2⟩ := q1
  rw [ev] at e2 ⊢
  refine k_L HK (fun Ψ kk => k_aload_n (pc' := 786) dL_law_785 rfl rfl kk) ?_
  refine k_L HK (fun Ψ kk => k_aload_n (pc' := 787) dL_law_786 rfl rfl kk) ?_
  refine k_L HK (fun Ψ kk => k_iload_n (pc' := 788) dL_law_787 rfl rfl kk) ?_
  refine k_L HK (fun Ψ kk => k_iconst (pc' := 789) (v := 1) dL_law_788 rfl (by decide) kk) ?_
  refine k_L HK (fun Ψ kk => k_iadd (pc' := 790) dL_law_789 rfl kk) ?_
  refine HS 790 791 _ _ _ _ dL_law_790 rfl (vin (k := 1) h6 hL1 (by decide)) ?_
  refine k_L HK (fun Ψ kk => k_aload_n (pc' := 792) dL_law_791 rfl rfl kk) ?_
  refine k_L HK (fun Ψ kk => k_iload_n (pc' := 793) dL_law_792 rfl rfl kk) ?_
  refine k_L HK (fun Ψ kk => k_iconst (pc' := 794) (v := 2) dL_law_793 rfl (by decide) kk) ?_
  refine k_L HK (fun Ψ kk => k_iadd (pc' := 795) dL_law_794 rfl kk) ?_
  refine HS 795 796 _ _ _ _ dL_law_795 rfl (vin (k := 2) h6 hL1 (by decide)) ?_
  refine k_LC HK (fun Ψ kk => k_callV2 (pc' := 799) dL_law_796 rfl ml_RL_100 rfl rfl ⟨(Nat.le_of_ble_eq_true rfl), (Nat.le_of_ble_eq_true rfl)⟩ (Nat.le_of_ble_eq_true rfl) e2 kk) (fun r2 h2 q2 => ?_)
  obtain ⟨e3, i2⟩ := q2
  rw [e3]
  exact k_L2 HK (fun Ψ k1 k2 => k_icmp_eq (pc' := 802) (tg := 992) dL_law_799 rfl (by decide) k1 k2) (fun _ => K h2 i2) (fun z => absurd rfl z)

set_option maxHeartbeats 400000 in
set_option maxRecDepth 100000 in
theorem la_advance {Wk : kWk} (HK : kLK Wk) {L I : Nat} {xs : Nat → Int32} (HS : kLS Wk L xs) (h6 : I + 6 ≤ L) (hL1 : L ≤ 3072) {μ : kH} (hi : Inv μ) (K : ∀ h2, Inv h2 → Wk 992 [kr 4000, kr 0, kr 46, ki (nI I)] [] h2) : Wk 804 [kr 4000, kr 0, kr 46, ki (nI I)] [] μ := by
  refine k_L HK (fun Ψ kk => k_aload_n (pc' := 805) dL_law_804 rfl rfl kk) ?_
  refine k_L HK (fun Ψ kk => k_aload_n (pc' := 806) dL_law_805 rfl rfl kk) ?_
  refine k_L HK (fun Ψ kk => k_iload_n (pc' := 807) dL_law_806 rfl rfl kk) ?_
  refine k_L HK (fun Ψ kk => k_iconst (pc' := 808) (v := 1) dL_law_807 rfl (by decide) kk) ?_
  refine k_L HK (fun Ψ kk => k_iadd (pc' := 809) dL_law_808 rfl kk) ?_
  refine HS 809 810 _ _ _ _ dL_law_809 rfl (vin (k := 1) h6 hL1 (by decide)) ?_
  refine k_L HK (fun Ψ kk => k_aload_n (pc' := 811) dL_law_810 rfl rfl kk) ?_
  refine k_L HK (fun Ψ kk => k_iload_n (pc' := 812) dL_law_811 rfl rfl kk) ?_
  refine k_L HK (fun Ψ kk => k_iconst (pc' := 813) (v := 2) dL_law_812 rfl (by decide) kk) ?_
  refine k_L HK (fun Ψ kk => k_iadd (pc' := 814) dL_law_813 rfl kk) ?_
  refine HS 814 815 _ _ _ _ dL_law_814 rfl (vin (k := 2) h6 hL1 (by decide)) ?_
  refine k_L HK (fun Ψ kk => k_aload_n (pc' := 816) dL_law_815 rfl rfl kk) ?_
  refine k_L HK (fun Ψ kk => k_iload_n (pc' := 817) dL_law_816 rfl rfl kk) ?_
  refine k_L HK (fun Ψ kk => k_iconst (pc' := 818) (v := 3) dL_law_817 rfl (by decide) kk) ?_
  refine k_L HK (fun Ψ kk => k_iadd (pc' := 819) dL_law_818 rfl kk) ?_
  refine HS 819 820 _ _ _ _ dL_law_819 rfl (vin (k := 3) h6 hL1 (by decide)) ?_
  refine k_L HK (fun Ψ kk => k_aload_n (pc' := 821) dL_law_820 rfl rfl kk) ?_
  refine k_L HK (fun Ψ kk => k_iload_n (pc' := 822) dL_law_821 rfl rfl kk) ?_
  refine k_L HK (fun Ψ kk => k_iconst (pc' := 823) (v := 4) dL_law_822 rfl (by decide) kk) ?_
  refine k_L HK (fun Ψ kk => k_iadd (pc' := 824) dL_law_823 rfl kk) ?_
  refine HS 824 825 _ _ _ _ dL_law_824 rfl (vin (k := 4) h6 hL1 (by decide)) ?_
  refine k_L HK (fun Ψ kk => k_aload_n (pc' := 826) dL_law_825 rfl rfl kk) ?_
  refine k_L HK (fun Ψ kk => k_iload_n (pc' := 827) dL_law_826 rfl rfl kk) ?_
  refine k_L HK (fun Ψ kk => k_iconst (pc' := 828) (v := 5) dL_law_827 rfl (by decide) kk) ?_
  refine k_L HK (fun Ψ kk => k_iadd (pc' := 829) dL_law_828 rfl kk) ?_
  refine HS 829 830 _ _ _ _ dL_law_829 rfl (vin (k := 5) h6 hL1 (by decide)) ?_
  refine k_LC HK (fun Ψ kk => k_callV5 (pc' := 833) dL_law_830 rfl ml_RL_101 rfl rfl ⟨(Nat.le_of_ble_eq_true rfl), (Nat.le_of_ble_eq_true rfl)⟩ (Nat.le_of_ble_eq_true rfl) (pr_advance hi) kk) (fun r1 h1 q1 => ?_)
  obtain ⟨⟨v, ev⟩, e2⟩ := q1
  rw [ev] at e2 ⊢
  refine k_L HK (fun Ψ kk => k_aload_n (pc' := 834) dL_law_833 rfl rfl kk) ?_
  refine k_L HK (fun Ψ kk => k_aload_n (pc' := 835) dL_law_834 rfl rfl kk) ?_
  refine k_L HK (fun Ψ kk => k_iload_n (pc' := 836) dL_law_835 rfl rfl kk) ?_
  refine k_L HK (fun Ψ kk => k_iconst (pc' := 837) (v := 1) dL_law_836 rfl (by decide) kk) ?_
  refine k_L HK (fun Ψ kk => k_iadd (pc' := 838) dL_law_837 rfl kk) ?_
  refine HS 838 839 _ _ _ _ dL_law_838 rfl (vin (k := 1) h6 hL1 (by decide)) ?_
  refine k_L HK (fun Ψ kk => k_aload_n (pc' := 840) dL_law_839 rfl rfl kk) ?_
  refine k_L HK (fun Ψ kk => k_iload_n (pc' := 841) dL_law_840 rfl rfl kk) ?_
  refine k_L HK (fun Ψ kk => k_iconst (pc' := 842) (v := 2) dL_law_841 rfl (by decide) kk) ?_
  refine k_L HK (fun Ψ kk => k_iadd (pc' := 843) dL_law_842 rfl kk) ?_
  refine HS 843 844 _ _ _ _ dL_law_843 rfl (vin (k := 2) h6 hL1 (by decide)) ?_
  refine k_L HK (fun Ψ kk => k_aload_n (pc' := 845) dL_law_844 rfl rfl kk) ?_
  refine k_L HK (fun Ψ kk => k_iload_n (pc' := 846) dL_law_845 rfl rfl kk) ?_
  refine k_L HK (fun Ψ kk => k_iconst (pc' := 847) (v := 3) dL_law_846 rfl (by decide) kk) ?_
  refine k_L HK (fun Ψ kk => k_iadd (pc' := 848) dL_law_847 rfl kk) ?_
  refine HS 848 849 _ _ _ _ dL_law_848 rfl (vin (k := 3) h6 hL1 (by decide)) ?_
  refine k_L HK (fun Ψ kk => k_aload_n (pc' := 850) dL_law_849 rfl rfl kk) ?_
  refine k_L HK (fun Ψ kk => k_iload_n (pc' := 851) dL_law_850 rfl rfl kk) ?_
  refine k_L HK (fun Ψ kk => k_iconst (pc' := 852) (v := 4) dL_law_851 rfl (by decide) kk) ?_
  refine k_L HK (fun Ψ kk => k_iadd (pc' := 853) dL_law_852 rfl kk) ?_
  refine HS 853 854 _ _ _ _ dL_law_853 rfl (vin (k := 4) h6 hL1 (by decide)) ?_
  refine k_L HK (fun Ψ kk => k_aload_n (pc' := 855) dL_law_854 rfl rfl kk) ?_
  refine k_L HK (fun Ψ kk => k_iload_n (pc' := 856) dL_law_855 rfl rfl kk) ?_
  refine k_L HK (fun Ψ kk => k_iconst (pc' := 857) (v := 5) dL_law_856 rfl (by decide) kk) ?_
  refine k_L HK (fun Ψ kk => k_iadd (pc' := 858) dL_law_857 rfl kk) ?_
  refine HS 858 859 _ _ _ _ dL_law_858 rfl (vin (k := 5) h6 hL1 (by decide)) ?_
  refine k_LC HK (fun Ψ kk => k_callV5 (pc' := 862) dL_law_859 rfl ml_RL_104 rfl rfl ⟨(Nat.le_of_ble_eq_true rfl), (Nat.le_of_ble_eq_true rfl)⟩ (Nat.le_of_ble_eq_true rfl) e2 kk) (fun r2 h2 q2 => ?_)
  obtain ⟨e3, i2⟩ := q2
  rw [e3]
  exact k_L2 HK (fun Ψ k1 k2 => k_icmp_eq (pc' := 865) (tg := 992) dL_law_862 rfl (by decide) k1 k2) (fun _ => K h2 i2) (fun z => absurd rfl z)

set_option maxHeartbeats 400000 in
set_option maxRecDepth 100000 in
theorem la_bring {Wk : kWk} (HK : kLK Wk) {L I : Nat} {xs : Nat → Int32} (HS : kLS Wk L xs) (h6 : I + 6 ≤ L) (hL1 : L ≤ 3072) {μ : kH} (hi : Inv μ) (K : ∀ h2, Inv h2 → Wk 992 [kr 4000, kr 0, kr 46, ki (nI I)] [] h2) : Wk 867 [kr 4000, kr 0, kr 46, ki (nI I)] [] μ := by
  refine k_L HK (fun Ψ kk => k_aload_n (pc' := 868) dL_law_867 rfl rfl kk) ?_
  refine k_L HK (fun Ψ kk => k_aload_n (pc' := 869) dL_law_868 rfl rfl kk) ?_
  refine k_L HK (fun Ψ kk => k_iload_n (pc' := 870) dL_law_869 rfl rfl kk) ?_
  refine k_L HK (fun Ψ kk => k_iconst (pc' := 871) (v := 1) dL_law_870 rfl (by decide) kk) ?_
  refine k_L HK (fun Ψ kk => k_iadd (pc' := 872) dL_law_871 rfl kk) ?_
  refine HS 872 873 _ _ _ _ dL_law_872 rfl (vin (k := 1) h6 hL1 (by decide)) ?_
  refine k_LC HK (fun Ψ kk => k_callV1 (pc' := 876) dL_law_873 rfl ml_RL_105 rfl rfl ⟨(Nat.le_of_ble_eq_true rfl), (Nat.le_of_ble_eq_true rfl)⟩ (Nat.le_of_ble_eq_true rfl) (pr_bring hi) kk) (fun r1 h1 q1 => ?_)
  obtain ⟨⟨v, ev⟩, e2⟩ := q1
  rw [ev] at e2 ⊢
  refine k_L HK (fun Ψ kk => k_aload_n (pc' := 877) dL_law_876 rfl rfl kk) ?_
  refine k_L HK (fun Ψ kk => k_aload_n (pc' := 878) dL_law_877 rfl rfl kk) ?_
  refine k_L HK (fun Ψ kk => k_iload_n (pc' := 879) dL_law_878 rfl rfl kk) ?_
  refine k_L HK (fun Ψ kk => k_iconst (pc' := 880) (v := 1) dL_law_879 rfl (by decide) kk) ?_
  refine k_L HK (fun Ψ kk => k_iadd (pc' := 881) dL_law_880 rfl kk) ?_
  refine HS 881 882 _ _ _ _ dL_law_881 rfl (vin (k := 1) h6 hL1 (by decide)) ?_
  refine k_LC HK (fun Ψ kk => k_callV1 (pc' := 885) dL_law_882 rfl ml_RL_108 rfl rfl ⟨(Nat.le_of_ble_eq_true rfl), (Nat.le_of_ble_eq_true rfl)⟩ (Nat.le_of_ble_eq_true rfl) e2 kk) (fun r2 h2 q2 => ?_)
  obtain ⟨e3, i2⟩ := q2
  rw [e3]
  exact k_L2 HK (fun Ψ k1 k2 => k_icmp_eq (pc' := 888) (tg := 992) dL_law_885 rfl (by decide) k1 k2) (fun _ => K h2 i2) (fun z => absurd rfl z)

set_option maxHeartbeats 400000 in
set_option maxRecDepth 100000 in
theorem la_owed {Wk : kWk} (HK : kLK Wk) {L I : Nat} {xs : Nat → Int32} (HS : kLS Wk L xs) (h6 : I + 6 ≤ L) (hL1 : L ≤ 3072) {μ : kH} (hi : Inv μ) (K : ∀ h2, Inv h2 → Wk 992 [kr 4000, kr 0, kr 46, ki (nI I)] [] h2) : Wk 890 [kr 4000, kr 0, kr 46, ki (nI I)] [] μ := by
  refine k_L HK (fun Ψ kk => k_aload_n (pc' := 891) dL_law_890 rfl rfl kk) ?_
  refine k_L HK (fun Ψ kk => k_aload_n (pc' := 892) dL_law_891 rfl rfl kk) ?_
  refine k_L HK (fun Ψ kk => k_iload_n (pc' := 893) dL_law_892 rfl rfl kk) ?_
  refine k_L HK (fun Ψ kk => k_iconst (pc' := 894) (v := 1) dL_law_893 rfl (by decide) kk) ?_
  refine k_L HK (fun Ψ kk => k_iadd (pc' := 895) dL_law_894 rfl kk) ?_
  refine HS 895 896 _ _ _ _ dL_law_895 rfl (vin (k := 1) h6 hL1 (by decide)) ?_
  refine k_L HK (fun Ψ kk => k_aload_n (pc' := 897) dL_law_896 rfl rfl kk) ?_
  refine k_L HK (fun Ψ kk => k_iload_n (pc' := 898) dL_law_897 rfl rfl kk) ?_
  refine k_L HK (fun Ψ kk => k_iconst (pc' := 899) (v := 2) dL_law_898 rfl (by decide) kk) ?_
  refine k_L HK (fun Ψ kk => k_iadd (pc' := 900) dL_law_899 rfl kk) ?_
  refine HS 900 901 _ _ _ _ dL_law_900 rfl (vin (k := 2) h6 hL1 (by decide)) ?_
  refine k_LC HK (fun Ψ kk => k_callV2 (pc' := 904) dL_law_901 rfl ml_RL_109 rfl rfl ⟨(Nat.le_of_ble_eq_true rfl), (Nat.le_of_ble_eq_true rfl)⟩ (Nat.le_of_ble_eq_true rfl) (pr_owed hi) kk) (fun r1 h1 q1 => ?_)
  obtain ⟨⟨v, ev⟩, e2⟩ := q1
  rw [ev] at e2 ⊢
  refine k_L HK (fun Ψ kk => k_aload_n (pc' := 905) dL_law_904 rfl rfl kk) ?_
  refine k_L HK (fun Ψ kk => k_aload_n (pc' := 906) dL_law_905 rfl rfl kk) ?_
  refine k_L HK (fun Ψ kk => k_iload_n (pc' := 907) dL_law_906 rfl rfl kk) ?_
  refine k_L HK (fun Ψ kk => k_iconst (pc' := 908) (v := 1) dL_law_907 rfl (by decide) kk) ?_
  refine k_L HK (fun Ψ kk => k_iadd (pc' := 909) dL_law_908 rfl kk) ?_
  refine HS 909 910 _ _ _ _ dL_law_909 rfl (vin (k := 1) h6 hL1 (by decide)) ?_
  refine k_L HK (fun Ψ kk => k_aload_n (pc' := 911) dL_law_910 rfl rfl kk) ?_
  refine k_L HK (fun Ψ kk => k_iload_n (pc' := 912) dL_law_911 rfl rfl kk) ?_
  refine k_L HK (fun Ψ kk => k_iconst (pc' := 913) (v := 2) dL_law_912 rfl (by decide) kk) ?_
  refine k_L HK (fun Ψ kk => k_iadd (pc' := 914) dL_law_913 rfl kk) ?_
  refine HS 914 915 _ _ _ _ dL_law_914 rfl (vin (k := 2) h6 hL1 (by decide)) ?_
  refine k_LC HK (fun Ψ kk => k_callV2 (pc' := 918) dL_law_915 rfl ml_RL_112 rfl rfl ⟨(Nat.le_of_ble_eq_true rfl), (Nat.le_of_ble_eq_true rfl)⟩ (Nat.le_of_ble_eq_true rfl) e2 kk) (fun r2 h2 q2 => ?_)
  obtain ⟨e3, i2⟩ := q2
  rw [e3]
  exact k_L2 HK (fun Ψ k1 k2 => k_icmp_eq (pc' := 921) (tg := 992) dL_law_918 rfl (by decide) k1 k2) (fun _ => K h2 i2) (fun z => absurd rfl z)

set_option maxHeartbeats 400000 in
set_option maxRecDepth 100000 in
theorem la_led {Wk : kWk} (HK : kLK Wk) {L I : Nat} {xs : Nat → Int32} (HS : kLS Wk L xs) (h6 : I + 6 ≤ L) (hL1 : L ≤ 3072) {μ : kH} (hi : Inv μ) (K : ∀ h2, Inv h2 → Wk 992 [kr 4000, kr 0, kr 46, ki (nI I)] [] h2) : Wk 923 [kr 4000, kr 0, kr 46, ki (nI I)] [] μ := by
  refine k_L HK (fun Ψ kk => k_aload_n (pc' := 924) dL_law_923 rfl rfl kk) ?_
  refine k_L HK (fun Ψ kk => k_aload_n (pc' := 925) dL_law_924 rfl rfl kk) ?_
  refine k_L HK (fun Ψ kk => k_iload_n (pc' := 926) dL_law_925 rfl rfl kk) ?_
  refine k_L HK (fun Ψ kk => k_iconst (pc' := 927) (v := 1) dL_law_926 rfl (by decide) kk) ?_
  refine k_L HK (fun Ψ kk => k_iadd (pc' := 928) dL_law_927 rfl kk) ?_
  refine HS 928 929 _ _ _ _ dL_law_928 rfl (vin (k := 1) h6 hL1 (by decide)) ?_
  refine k_L HK (fun Ψ kk => k_aload_n (pc' := 930) dL_law_929 rfl rfl kk) ?_
  refine k_L HK (fun Ψ kk => k_iload_n (pc' := 931) dL_law_930 rfl rfl kk) ?_
  refine k_L HK (fun Ψ kk => k_iconst (pc' := 932) (v := 2) dL_law_931 rfl (by decide) kk) ?_
  refine k_L HK (fun Ψ kk => k_iadd (pc' := 933) dL_law_932 rfl kk) ?_
  refine HS 933 934 _ _ _ _ dL_law_933 rfl (vin (k := 2) h6 hL1 (by decide)) ?_
  refine k_LC HK (fun Ψ kk => k_callV2 (pc' := 937) dL_law_934 rfl ml_RL_113 rfl rfl ⟨(Nat.le_of_ble_eq_true rfl), (Nat.le_of_ble_eq_true rfl)⟩ (Nat.le_of_ble_eq_true rfl) (pr_led hi) kk) (fun r1 h1 q1 => ?_)
  obtain ⟨⟨v, ev⟩, e2⟩ := q1
  rw [ev] at e2 ⊢
  refine k_L HK (fun Ψ kk => k_aload_n (pc' := 938) dL_law_937 rfl rfl kk) ?_
  refine k_L HK (fun Ψ kk => k_aload_n (pc' := 939) dL_law_938 rfl rfl kk) ?_
  refine k_L HK (fun Ψ kk => k_iload_n (pc' := 940) dL_law_939 rfl rfl kk) ?_
  refine k_L HK (fun Ψ kk => k_iconst (pc' := 941) (v := 1) dL_law_940 rfl (by decide) kk) ?_
  refine k_L HK (fun Ψ kk => k_iadd (pc' := 942) dL_law_941 rfl kk) ?_
  refine HS 942 943 _ _ _ _ dL_law_942 rfl (vin (k := 1) h6 hL1 (by decide)) ?_
  refine k_L HK (fun Ψ kk => k_aload_n (pc' := 944) dL_law_943 rfl rfl kk) ?_
  refine k_L HK (fun Ψ kk => k_iload_n (pc' := 945) dL_law_944 rfl rfl kk) ?_
  refine k_L HK (fun Ψ kk => k_iconst (pc' := 946) (v := 2) dL_law_945 rfl (by decide) kk) ?_
  refine k_L HK (fun Ψ kk => k_iadd (pc' := 947) dL_law_946 rfl kk) ?_
  refine HS 947 948 _ _ _ _ dL_law_947 rfl (vin (k := 2) h6 hL1 (by decide)) ?_
  refine k_LC HK (fun Ψ kk => k_callV2 (pc' := 951) dL_law_948 rfl ml_RL_116 rfl rfl ⟨(Nat.le_of_ble_eq_true rfl), (Nat.le_of_ble_eq_true rfl)⟩ (Nat.le_of_ble_eq_true rfl) e2 kk) (fun r2 h2 q2 => ?_)
  obtain ⟨e3, i2⟩ := q2
  rw [e3]
  exact k_L2 HK (fun Ψ k1 k2 => k_icmp_eq (pc' := 954) (tg := 992) dL_law_951 rfl (by decide) k1 k2) (fun _ => K h2 i2) (fun z => absurd rfl z)

set_option maxHeartbeats 400000 in
set_option maxRecDepth 100000 in
theorem la_count {Wk : kWk} (HK : kLK Wk) {L I : Nat} {xs : Nat → Int32} (HS : kLS Wk L xs) (h6 : I + 6 ≤ L) (hL1 : L ≤ 3072) {μ : kH} (hi : Inv μ) (K : ∀ h2, Inv h2 → Wk 992 [kr 4000, kr 0, kr 46, ki (nI I)] [] h2) : Wk 956 [kr 4000, kr 0, kr 46, ki (nI I)] [] μ := by
  refine k_L HK (fun Ψ kk => k_aload_n (pc' := 957) dL_law_956 rfl rfl kk) ?_
  refine k_L HK (fun Ψ kk => k_aload_n (pc' := 958) dL_law_957 rfl rfl kk) ?_
  refine k_L HK (fun Ψ kk => k_iload_n (pc' := 959) dL_law_958 rfl rfl kk) ?_
  refine k_L HK (fun Ψ kk => k_iconst (pc' := 960) (v := 1) dL_law_959 rfl (by decide) kk) ?_
  refine k_L HK (fun Ψ kk => k_iadd (pc' := 961) dL_law_960 rfl kk) ?_
  refine HS 961 962 _ _ _ _ dL_law_961 rfl (vin (k := 1) h6 hL1 (by decide)) ?_
  refine k_LC HK (fun Ψ kk => k_callV1 (pc' := 965) dL_law_962 rfl ml_RL_117 rfl rfl ⟨(Nat.le_of_ble_eq_true rfl), (Nat.le_of_ble_eq_true rfl)⟩ (Nat.le_of_ble_eq_true rfl) (pr_count hi) kk) (fun r1 h1 q1 => ?_)
  obtain ⟨⟨v, ev⟩, e2⟩ := q1
  rw [ev] at e2 ⊢
  refine k_L HK (fun Ψ kk => k_aload_n (pc' := 966) dL_law_965 rfl rfl kk) ?_
  refine k_L HK (fun Ψ kk => k_aload_n (pc' := 967) dL_law_966 rfl rfl kk) ?_
  refine k_L HK (fun Ψ kk => k_iload_n (pc' := 968) dL_law_967 rfl rfl kk) ?_
  refine k_L HK (fun Ψ kk => k_iconst (pc' := 969) (v := 1) dL_law_968 rfl (by decide) kk) ?_
  refine k_L HK (fun Ψ kk => k_iadd (pc' := 970) dL_law_969 rfl kk) ?_
  refine HS 970 971 _ _ _ _ dL_law_970 rfl (vin (k := 1) h6 hL1 (by decide)) ?_
  refine k_LC HK (fun Ψ kk => k_callV1 (pc' := 974) dL_law_971 rfl ml_RL_120 rfl rfl ⟨(Nat.le_of_ble_eq_true rfl), (Nat.le_of_ble_eq_true rfl)⟩ (Nat.le_of_ble_eq_true rfl) e2 kk) (fun r2 h2 q2 => ?_)
  obtain ⟨e3, i2⟩ := q2
  rw [e3]
  exact k_L2 HK (fun Ψ k1 k2 => k_icmp_eq (pc' := 977) (tg := 992) dL_law_974 rfl (by decide) k1 k2) (fun _ => K h2 i2) (fun z => absurd rfl z)

set_option maxHeartbeats 400000 in
set_option maxRecDepth 100000 in
theorem la_status {Wk : kWk} (HK : kLK Wk) {L I : Nat} {xs : Nat → Int32} (HS : kLS Wk L xs) (h6 : I + 6 ≤ L) (hL1 : L ≤ 3072) {μ : kH} (hi : Inv μ) (K : ∀ h2, Inv h2 → Wk 992 [kr 4000, kr 0, kr 46, ki (nI I)] [] h2) : Wk 979 [kr 4000, kr 0, kr 46, ki (nI I)] [] μ := by
  refine k_L HK (fun Ψ kk => k_aload_n (pc' := 980) dL_law_979 rfl rfl kk) ?_
  refine k_LC HK (fun Ψ kk => k_callV0 (pc' := 983) dL_law_980 rfl ml_RL_121 rfl rfl ⟨(Nat.le_of_ble_eq_true rfl), (Nat.le_of_ble_eq_true rfl)⟩ (Nat.le_of_ble_eq_true rfl) (pr_status hi) kk) (fun r1 h1 q1 => ?_)
  obtain ⟨⟨v, ev⟩, e2⟩ := q1
  rw [ev] at e2 ⊢
  refine k_L HK (fun Ψ kk => k_aload_n (pc' := 984) dL_law_983 rfl rfl kk) ?_
  refine k_LC HK (fun Ψ kk => k_callV0 (pc' := 987) dL_law_984 rfl ml_RL_124 rfl rfl ⟨(Nat.le_of_ble_eq_true rfl), (Nat.le_of_ble_eq_true rfl)⟩ (Nat.le_of_ble_eq_true rfl) e2 kk) (fun r2 h2 q2 => ?_)
  obtain ⟨e3, i2⟩ := q2
  rw [e3]
  exact k_L2 HK (fun Ψ k1 k2 => k_icmp_eq (pc' := 990) (tg := 992) dL_law_987 rfl (by decide) k1 k2) (fun _ => K h2 i2) (fun z => absurd rfl z)

set_option maxHeartbeats 400000 in
set_option maxRecDepth 100000 in
theorem la_switch {Wk : kWk} (HK : kLK Wk) {L I : Nat} {xs : Nat → Int32} (HS : kLS Wk L xs) (h6 : I + 6 ≤ L) (hL1 : L ≤ 3072) {μ : kH} (hi : Inv μ) (K : ∀ h2, Inv h2 → Wk 992 [kr 4000, kr 0, kr 46, ki (nI I)] [] h2) (y : Int32) : Wk 33 [kr 4000, kr 0, kr 46, ki (nI I)] [ki y] μ := by
  by_cases z : bd 0 25 y
  · obtain ⟨n, hn, en⟩ := ns_of (lo := 0) (hg := 25) z (by decide)
    rw [en]
    match n, hn with
    | 0, _ => exact k_L HK (fun Ψ kk => k_tableIn (x := 0) (tg := 152) (off := 119) dL_law_33 (by decide) (by decide) (by decide) (by decide) kk) (la_bears HK HS h6 hL1 hi K)
    | 1, _ => exact k_L HK (fun Ψ kk => k_tableIn (x := 1) (tg := 185) (off := 152) dL_law_33 (by decide) (by decide) (by decide) (by decide) kk) (la_ratio HK HS h6 hL1 hi K)
    | 2, _ => exact k_L HK (fun Ψ kk => k_tableIn (x := 2) (tg := 218) (off := 185) dL_law_33 (by decide) (by decide) (by decide) (by decide) kk) (la_price HK HS h6 hL1 hi K)
    | 3, _ => exact k_L HK (fun Ψ kk => k_tableIn (x := 3) (tg := 271) (off := 238) dL_law_33 (by decide) (by decide) (by decide) (by decide) kk) (la_at HK HS h6 hL1 hi K)
    | 4, _ => exact k_L HK (fun Ψ kk => k_tableIn (x := 4) (tg := 314) (off := 281) dL_law_33 (by decide) (by decide) (by decide) (by decide) kk) (la_terms HK HS h6 hL1 hi K)
    | 5, _ => exact k_L HK (fun Ψ kk => k_tableIn (x := 5) (tg := 347) (off := 314) dL_law_33 (by decide) (by decide) (by decide) (by decide) kk) (la_garden HK HS h6 hL1 hi K)
    | 6, _ => exact k_L HK (fun Ψ kk => k_tableIn (x := 6) (tg := 380) (off := 347) dL_law_33 (by decide) (by decide) (by decide) (by decide) kk) (la_of HK HS h6 hL1 hi K)
    | 7, _ => exact k_L HK (fun Ψ kk => k_tableIn (x := 7) (tg := 413) (off := 380) dL_law_33 (by decide) (by decide) (by decide) (by decide) kk) (la_plant HK HS h6 hL1 hi K)
    | 8, _ => exact k_L HK (fun Ψ kk => k_tableIn (x := 8) (tg := 436) (off := 403) dL_law_33 (by decide) (by decide) (by decide) (by decide) kk) (la_fell HK HS h6 hL1 hi K)
    | 9, _ => exact k_L HK (fun Ψ kk => k_tableIn (x := 9) (tg := 459) (off := 426) dL_law_33 (by decide) (by decide) (by decide) (by decide) kk) (la_fresh HK HS h6 hL1 hi K)
    | 10, _ => exact k_L HK (fun Ψ kk => k_tableIn (x := 10) (tg := 482) (off := 449) dL_law_33 (by decide) (by decide) (by decide) (by decide) kk) (la_best HK HS h6 hL1 hi K)
    | 11, _ => exact k_L HK (fun Ψ kk => k_tableIn (x := 11) (tg := 535) (off := 502) dL_law_33 (by decide) (by decide) (by decide) (by decide) kk) (la_feed HK HS h6 hL1 hi K)
    | 12, _ => exact k_L HK (fun Ψ kk => k_tableIn (x := 12) (tg := 598) (off := 565) dL_law_33 (by decide) (by decide) (by decide) (by decide) kk) (la_end HK HS h6 hL1 hi K)
    | 13, _ => exact k_L HK (fun Ψ kk => k_tableIn (x := 13) (tg := 621) (off := 588) dL_law_33 (by decide) (by decide) (by decide) (by decide) kk) (la_tithes HK HS h6 hL1 hi K)
    | 14, _ => exact k_L HK (fun Ψ kk => k_tableIn (x := 14) (tg := 634) (off := 601) dL_law_33 (by decide) (by decide) (by decide) (by decide) kk) (la_fault HK HS h6 hL1 hi K)
    | 15, _ => exact k_L HK (fun Ψ kk => k_tableIn (x := 15) (tg := 647) (off := 614) dL_law_33 (by decide) (by decide) (by decide) (by decide) kk) (la_tithe HK HS h6 hL1 hi K)
    | 16, _ => exact k_L HK (fun Ψ kk => k_tableIn (x := 16) (tg := 691) (off := 658) dL_law_33 (by decide) (by decide) (by decide) (by decide) kk) (la_plan HK HS h6 hL1 hi K)
    | 17, _ => exact k_L HK (fun Ψ kk => k_tableIn (x := 17) (tg := 725) (off := 692) dL_law_33 (by decide) (by decide) (by decide) (by decide) kk) (la_planned HK HS h6 hL1 hi K)
    | 18, _ => exact k_L HK (fun Ψ kk => k_tableIn (x := 18) (tg := 748) (off := 715) dL_law_33 (by decide) (by decide) (by decide) (by decide) kk) (la_go HK HS h6 hL1 hi K)
    | 19, _ => exact k_L HK (fun Ψ kk => k_tableIn (x := 19) (tg := 771) (off := 738) dL_law_33 (by decide) (by decide) (by decide) (by decide) kk) (la_stock HK HS h6 hL1 hi K)
    | 20, _ => exact k_L HK (fun Ψ kk => k_tableIn (x := 20) (tg := 804) (off := 771) dL_law_33 (by decide) (by decide) (by decide) (by decide) kk) (la_advance HK HS h6 hL1 hi K)
    | 21, _ => exact k_L HK (fun Ψ kk => k_tableIn (x := 21) (tg := 867) (off := 834) dL_law_33 (by decide) (by decide) (by decide) (by decide) kk) (la_bring HK HS h6 hL1 hi K)
    | 22, _ => exact k_L HK (fun Ψ kk => k_tableIn (x := 22) (tg := 890) (off := 857) dL_law_33 (by decide) (by decide) (by decide) (by decide) kk) (la_owed HK HS h6 hL1 hi K)
    | 23, _ => exact k_L HK (fun Ψ kk => k_tableIn (x := 23) (tg := 923) (off := 890) dL_law_33 (by decide) (by decide) (by decide) (by decide) kk) (la_led HK HS h6 hL1 hi K)
    | 24, _ => exact k_L HK (fun Ψ kk => k_tableIn (x := 24) (tg := 956) (off := 923) dL_law_33 (by decide) (by decide) (by decide) (by decide) kk) (la_count HK HS h6 hL1 hi K)
    | 25, _ => exact k_L HK (fun Ψ kk => k_tableIn (x := 25) (tg := 979) (off := 946) dL_law_33 (by decide) (by decide) (by decide) (by decide) kk) (la_status HK HS h6 hL1 hi K)
    | n + 26, h9 => exact absurd h9 (by omega)
  · exact k_L HK (fun Ψ kk => k_tableOut (tg := 992) dL_law_33 (by have z1 : ¬ (0 ≤ y.toInt ∧ y.toInt ≤ 25) := z; omega) (by decide) kk) (K μ hi)

set_option maxHeartbeats 400000 in
set_option maxRecDepth 100000 in
theorem la_loop {Wk : kWk} (HK : kLK Wk) {L : Nat} {xs : Nat → Int32} (HS : kLS Wk L xs) (HN : kLN Wk L) (HE : kLE Wk) (hL1 : L ≤ 3072) : ∀ (n I : Nat) (μ : kH), L ≤ I + n → I ≤ L + 6 → Inv μ → Wk 18 [kr 4000, kr 0, kr 46, ki (nI I)] [] μ := by
  intro n
  induction n with
  | zero =>
    intro I μ hn hI6 hi
    have e1 : (nI L - 6).toInt = (L : Int) - 6 := by rw [k_sub (by rw [nI_toInt (by omega), li_6]; omega), nI_toInt (by omega), li_6]
    refine k_L HK (fun Ψ kk => k_iload_n (pc' := 19) dL_law_18 rfl rfl kk) ?_
    refine k_L HK (fun Ψ kk => k_aload_n (pc' := 20) dL_law_19 rfl rfl kk) ?_
    refine HN 20 21 _ _ _ dL_law_20 rfl ?_
    refine k_L HK (fun Ψ kk => k_bipush (pc' := 23) (v := 6) dL_law_21 rfl (by decide) kk) ?_
    refine k_L HK (fun Ψ kk => k_isub (pc' := 24) dL_law_23 rfl kk) ?_
    refine k_L2 HK (fun Ψ k1 k2 => k_icmp_gt (pc' := 27) (tg := 998) dL_law_24 rfl (by decide) k1 k2) (fun _ => ?_) (fun z => ?_)
    · refine k_L HK (fun Ψ kk => k_iconst (pc' := 999) (v := 1) dL_law_998 rfl (by decide) kk) ?_
      exact HE _ _
    · exfalso
      apply z
      rw [k_lt, e1, nI_toInt (by omega)]; omega
  | succ n ih =>
    intro I μ hn hI6 hi
    have e1 : (nI L - 6).toInt = (L : Int) - 6 := by rw [k_sub (by rw [nI_toInt (by omega), li_6]; omega), nI_toInt (by omega), li_6]
    refine k_L HK (fun Ψ kk => k_iload_n (pc' := 19) dL_law_18 rfl rfl kk) ?_
    refine k_L HK (fun Ψ kk => k_aload_n (pc' := 20) dL_law_19 rfl rfl kk) ?_
    refine HN 20 21 _ _ _ dL_law_20 rfl ?_
    refine k_L HK (fun Ψ kk => k_bipush (pc' := 23) (v := 6) dL_law_21 rfl (by decide) kk) ?_
    refine k_L HK (fun Ψ kk => k_isub (pc' := 24) dL_law_23 rfl kk) ?_
    refine k_L2 HK (fun Ψ k1 k2 => k_icmp_gt (pc' := 27) (tg := 998) dL_law_24 rfl (by decide) k1 k2) (fun _ => ?_) (fun z => ?_)
    · refine k_L HK (fun Ψ kk => k_iconst (pc' := 999) (v := 1) dL_law_998 rfl (by decide) kk) ?_
      exact HE _ _
    · have h6 : I + 6 ≤ L := by rw [k_lt, e1, nI_toInt (by omega)] at z; omega
      refine k_L HK (fun Ψ kk => k_aload_n (pc' := 28) dL_law_27 rfl rfl kk) ?_
      refine k_L HK (fun Ψ kk => k_iload_n (pc' := 29) dL_law_28 rfl rfl kk) ?_
      refine HS 29 30 _ _ _ _ dL_law_29 rfl (vp_in_nI (by omega) (by omega)) ?_
      refine k_L HK (fun Ψ kk => k_bipush (pc' := 32) (v := 31) dL_law_30 rfl (by decide) kk) ?_
      refine k_L HK (fun Ψ kk => k_iand (pc' := 33) dL_law_32 rfl kk) ?_
      refine la_switch HK HS h6 hL1 hi (fun h2 i2 => ?_) _
      refine k_L HK (fun Ψ kk => k_iinc (pc' := 995) (v := nI (I + 6)) (ls' := [kr 4000, kr 0, kr 46, ki (nI (I + 6))]) dL_law_992 rfl rfl (nI_add I 6) (by decide) rfl kk) ?_
      refine k_L HK (fun Ψ kk => k_goto (tg := 18) dL_law_995 (by decide) kk) ?_
      exact ih (I + 6) h2 (by omega) (by omega) i2

