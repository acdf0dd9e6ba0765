theorem k_ialdN {t : kM} {pc pc' : Nat} {ls st : List kV} {h : kH} {Φ : Nat → List kV → List kV → kH → Prop} {k n j : Nat} {ts : List Nat} (hd : decode t.2.1 pc = .ok (.iaload, 1)) (hp : pc + 1 = pc') (hs : ksh[k]? = some (1, n, ts)) (hj : j < n) (hn : n < 2 ^ 31) (kk : At t pc' ls (ki (h.1 k j) :: st) h Φ) : At t pc ls (ki (nI j) :: kr k :: st) h Φ := k_iald hd hp hs (vp_in_nI hj hn) (by rw [nI_clamp (by omega)]; exact kk)
theorem k_laldN {t : kM} {pc pc' : Nat} {ls st : List kV} {h : kH} {Φ : Nat → List kV → List kV → kH → Prop} {k n j : Nat} {ts : List Nat} (hd : decode t.2.1 pc = .ok (.laload, 1)) (hp : pc + 1 = pc') (hs : ksh[k]? = some (2, n, ts)) (hj : j < n) (hn : n < 2 ^ 31) (kk : At t pc' ls (kl (h.2 k j) :: st) h Φ) : At t pc ls (ki (nI j) :: kr k :: st) h Φ := k_lald hd hp hs (vp_in_nI hj hn) (by rw [nI_clamp (by omega)]; exact kk)
theorem k_iastN {t : kM} {pc pc' : Nat} {ls st : List kV} {h : kH} {Φ : Nat → List kV → List kV → kH → Prop} {k n j : Nat} {ts : List Nat} {x : Int32} (hd : decode t.2.1 pc = .ok (.iastore, 1)) (hp : pc + 1 = pc') (hs : ksh[k]? = some (1, n, ts)) (hj : j < n) (hn : n < 2 ^ 31) (kk : At t pc' ls st (hI h k j x) Φ) : At t pc ls (ki x :: ki (nI j) :: kr k :: st) h Φ := k_iast hd hp hs (vp_in_nI hj hn) (by rw [nI_clamp (by omega)]; exact kk)
theorem k_lastN {t : kM} {pc pc' : Nat} {ls st : List kV} {h : kH} {Φ : Nat → List kV → List kV → kH → Prop} {k n j : Nat} {ts : List Nat} {x : Int64} (hd : decode t.2.1 pc = .ok (.lastore, 1)) (hp : pc + 1 = pc') (hs : ksh[k]? = some (2, n, ts)) (hj : j < n) (hn : n < 2 ^ 31) (kk : At t pc' ls st (hL h k j x) Φ) : At t pc ls (kl x :: ki (nI j) :: kr k :: st) h Φ := k_last hd hp hs (vp_in_nI hj hn) (by rw [nI_clamp (by omega)]; exact kk)
theorem hs_hs {α : Type} (f : Nat → Nat → α) (k : Nat) (g g' : Nat → α) : hs (hs f k g) k g' = hs f k g' := by
  funext q; simp only [hs]; split <;> rfl
theorem hL_row (f1 : Nat → Nat → Int32) (f2 : Nat → Nat → Int64) (k : Nat) (g : Nat → Int64) (i : Nat) (v : Int64) : hL (f1, hs f2 k g) k i v = (f1, hs f2 k (vp_updL g i v)) := by
  show (f1, hs (hs f2 k g) k (vp_updL (hs f2 k g k) i v)) = _
  rw [hs_self, hs_hs]
theorem hI_row (f1 : Nat → Nat → Int32) (f2 : Nat → Nat → Int64) (k : Nat) (g : Nat → Int32) (i : Nat) (v : Int32) : hI (hs f1 k g, f2) k i v = (hs f1 k (upd g i v), f2) := by
  show (hs (hs f1 k g) k (upd (hs f1 k g k) i v), f2) = _
  rw [hs_self, hs_hs]
theorem hs_id {α : Type} (f : Nat → Nat → α) (k : Nat) : hs f k (f k) = f := by
  funext q; simp only [hs]; split
  · next z => rw [z]
  · rfl
def kle : List kV → List kV → Prop
  | [], _ => True
  | none :: r, _ :: r' => kle r r'
  | some v :: r, w :: r' => w = some v ∧ kle r r'
  | _ :: _, [] => False
theorem kle_at : ∀ {ls ls' : List kV} {k : Nat} {v : Nat ⊕ (Int32 ⊕ Int64)}, kle ls ls' → ls[k]? = some (some v) → ls'[k]? = some (some v)
  | [], _, k, v, _, h => by simp at h
  | none :: r, w :: r', 0, v, _, h => by simp at h
  | none :: r, w :: r', k + 1, v, hk, h => by simpa using kle_at (ls := r) (ls' := r') hk (by simpa using h)
  | some x :: r, w :: r', 0, v, hk, h => by
    simp at h; subst h; simpa using hk.1
  | some x :: r, w :: r', k + 1, v, hk, h => by simpa using kle_at (ls := r) (ls' := r') hk.2 (by simpa using h)
  | none :: r, [], k, v, hk, h => by cases hk
  | some x :: r, [], k, v, hk, h => by cases hk
theorem k_wk {t : kM} {pc : Nat} {ls ls' st : List kV} {h : kH} {Φ : Nat → List kV → List kV → kH → Prop} (hw : kle ls ls') (at0 : At t pc ls st h Φ) : At t pc ls' st h Φ := fun p l e R s m args below meth c cells slots Qw dC dI a cI cL A C K H locs lsA hl hP hS => at0 p l e R s m args below meth c cells slots Qw dC dI a cI cL A C K H locs lsA (lv_less hl (fun q hq => by
    obtain ⟨k, v, h1, rfl⟩ := lvl_mem.mp hq
    exact lvl_mem.mpr ⟨k, v, kle_at hw h1, rfl⟩)) hP hS
theorem k_40 (i j : Nat) : (40 : Int32) * nI i + nI j = nI (40 * i + j) := by
  rw [show (40 : Int32) = nI 40 from rfl]
  simp only [nI]
  rw [← Int32.ofNat_mul, ← Int32.ofNat_add]
/-- sums and folds that both sides do -/
def fStock (so ga le : Nat → Int32) (s g : Int32) : Nat → Int32
  | 0 => 0
  | k + 1 => fStock so ga le s g k + (if so k = s ∧ (g = -1 ∨ ga k = g) then le k else 0)
def fMiss (so kn du mi : Nat → Int32) (s y : Int32) : Nat → Int32
  | 0 => 0
  | k + 1 => fMiss so kn du mi s y k + (if so k = s ∧ kn k ≤ y ∧ du k ≤ y then mi k else 0)
def fKnown (so ye am kn : Nat → Int32) (s y k : Int32) : Nat → Int32 × Int32
  | 0 => (0, 0)
  | i + 1 => if so i = s ∧ kn i ≤ k ∧ ye i ≤ y ∧ (fKnown so ye am kn s y k i).2 ≤ ye i then (am i, ye i) else fKnown so ye am kn s y k i
def fT (k f s a : Nat → Int32) (v ag m : Int32) : Nat → Int64 × Int32
  | 0 => (0, 0)
  | i + 1 => if k i = 0 then ((fT k f s a v ag m i).1 + (if s i < 1 then 0 else m.toInt64 * (f i).toInt64 / (s i).toInt64), (fT k f s a v ag m i).2) else if k i = 1 then ((fT k f s a v ag m i).1 + (if a i ≤ ag then (if f i < 1 then 0 else (v / f i).toInt64 * (s i).toInt64) else 0), (fT k f s a v ag m i).2) else if k i = 2 then ((fT k f s a v ag m i).1, f i) else (if (f i).toInt64 < (fT k f s a v ag m i).1 then (f i).toInt64 else (fT k f s a v ag m i).1, (fT k f s a v ag m i).2)

def fCh (ra pr : Nat → Int32) (f s0 p0 : Int32) : Nat → Int32 × Int32 × Int32
  | 0 => (s0, p0, -1)
  | i + 1 => if (fCh ra pr f s0 p0 i).2.2 < f * ra i / 100 * pr i then (nI i, f * ra i / 100, f * ra i / 100 * pr i) else fCh ra pr f s0 p0 i
def fFb (ra tb : Nat → Int32) (f : Int32) (Y : Nat) (p0 b0 : Int32) : Nat → Int32 × Int32 × Int32
  | 0 => (-1, p0, b0)
  | i + 1 => if (fFb ra tb f Y p0 b0 i).1 < 0 ∨ (fFb ra tb f Y p0 b0 i).2.2 < (f.toInt64 * (ra i).toInt64 / 100).toInt32 * tb (40 * i + Y) then (nI i, (f.toInt64 * (ra i).toInt64 / 100).toInt32, (f.toInt64 * (ra i).toInt64 / 100).toInt32 * tb (40 * i + Y)) else fFb ra tb f Y p0 b0 i
/-- three fields of one object -/
def h3 (μ : kH) (k j1 j2 j3 : Nat) (x : Int32 × Int32 × Int32) : kH := hI (hI (hI μ k j1 x.1) k j2 x.2.1) k j3 x.2.2
theorem upd_upd (f : Nat → Int32) (i : Nat) (v w : Int32) : upd (upd f i v) i w = upd f i w := by funext q; simp only [upd]; split <;> rfl
theorem upd_id (f : Nat → Int32) (i : Nat) : upd f i (f i) = f := by
  funext q; simp only [upd]; split
  · next z => rw [z]
  · rfl
theorem hI_eq (μ : kH) (k j : Nat) (v : Int32) : hI μ k j v = (hs μ.1 k (upd (μ.1 k) j v), μ.2) := rfl
theorem h3_eq (μ : kH) (k j1 j2 j3 : Nat) (x : Int32 × Int32 × Int32) : h3 μ k j1 j2 j3 x = (hs μ.1 k (upd (upd (upd (μ.1 k) j1 x.1) j2 x.2.1) j3 x.2.2), μ.2) := by
  unfold h3; rw [hI_eq μ, hI_row, hI_row]
theorem h3_h3 (μ : kH) (k j1 j2 j3 : Nat) (x y : Int32 × Int32 × Int32) : h3 (h3 μ k j1 j2 j3 x) k j1 j2 j3 y = h3 μ k j1 j2 j3 y := by
  rw [h3_eq, h3_eq, h3_eq]
  simp only [hs_self, hs_hs]
  congr 2
  funext q; simp only [upd]; (repeat' split) <;> rfl
def wrX (μ : kH) (b : Int32) : kH := hI (hI μ 15 (μ.1 14 1).toNatClampNeg b) 14 1 (μ.1 14 1 + 1)
def wrM (μ : kH) (b : Int32) : kH := hI (hI μ 61 (μ.1 46 27).toNatClampNeg b) 46 27 (μ.1 46 27 + 1)

set_option maxHeartbeats 4000000 in
set_option maxRecDepth 100000 in
theorem lp_X3_lying {s g : Int32} {μ : kH} {N : Nat} (hN : N ≤ 468) (hsz : μ.1 36 3 = nI N) : ∀ (n i : Nat) (sum : Int32), i + n = N → sum = fStock (μ.1 37) (μ.1 38) (μ.1 39) s g i → At kX3_lying 5 [kr 36, ki s, ki g, ki sum, ki (nI i)] [] μ (kRet kX3_lying (fun r h' => r = ki (fStock (μ.1 37) (μ.1 38) (μ.1 39) s g N) ∧ h' = μ)) := by
  intro n
  induction n with
  | zero =>
    intro i sum hi hsum
    refine k_iload (pc' := 7) dX3_lying_5 rfl rfl ?_
    refine k_aload_n (pc' := 8) dX3_lying_7 rfl rfl ?_
    refine k_getI (pc' := 11) fl_RX3_21 dX3_lying_8 rfl rfl rfl ?_
    refine k_icmp_ge (pc' := 14) (tg := 57) dX3_lying_11 rfl (by decide) (fun c_11 => ?_) (fun c_11 => ?_)
    · skip
      refine k_iload_n (pc' := 58) dX3_lying_57 rfl rfl ?_
      exact k_iret dX3_lying_58 rfl ⟨by rw [hsum, show i = N from by omega], rfl⟩
    · exfalso
      exact c_11 (by rw [hsz]; first | exact Int32.le_refl _ | (rw [show i = N from by omega]; exact Int32.le_refl _))
  | succ n ih =>
    intro i sum hi hsum
    have hlt : i < N := by omega
    refine k_iload (pc' := 7) dX3_lying_5 rfl rfl ?_
    refine k_aload_n (pc' := 8) dX3_lying_7 rfl rfl ?_
    refine k_getI (pc' := 11) fl_RX3_21 dX3_lying_8 rfl rfl rfl ?_
    refine k_icmp_ge (pc' := 14) (tg := 57) dX3_lying_11 rfl (by decide) (fun c_11 => ?_) (fun c_11 => ?_)
    · exfalso
      rw [hsz] at c_11
      exact nI_ge hlt (by omega) c_11
    · skip
      refine k_aload_n (pc' := 15) dX3_lying_14 rfl rfl ?_
      refine k_getR (pc' := 18) fl_RX3_9 dX3_lying_15 rfl rfl rfl ?_
      refine k_iload (pc' := 20) dX3_lying_18 rfl rfl ?_
      refine k_ialdN (pc' := 21) dX3_lying_20 rfl rfl (by omega) (by decide) ?_
      refine k_iload_n (pc' := 22) dX3_lying_21 rfl rfl ?_
      refine k_icmp_ne (pc' := 25) (tg := 51) dX3_lying_22 rfl (by decide) (fun c_22 => ?_) (fun c_22 => ?_)
      · skip
        refine k_iinc (pc' := 54) (v := nI (_ + 1)) (ls' := [_, _, _, _, _]) dX3_lying_51 rfl rfl (nI_1 _) (by decide) rfl ?_
        refine k_goto (tg := 5) dX3_lying_54 (by decide) ?_
        exact ih (i + 1) _ (by omega) (by rw [hsum, fStock]; (repeat' split) <;> first | rfl | exact (Int32.add_zero _).symm | (exfalso; (try simp only [eq_self, not_true_eq_false, not_false_eq_true, k_b0, k_b1, k_c0, k_cl, k_cg, k_cle, k_cge] at *) <;> (try simp only [eq_self, not_true_eq_false, not_false_eq_true, k_le, k_lt, k_eq, k_leL, k_ltL, k_eqL, k_il, li_m6, li_m5, li_m3, li_m2, li_m1, li_0, li_1, li_2, li_3, li_4, li_5, li_6, li_7, li_8, li_10, li_11, li_12, li_20, li_24, li_25, li_26, li_32, li_39, li_40, li_48, li_57, li_59, li_60, li_96, li_97, li_100, li_122, li_180, li_200, li_255, li_300, li_468, li_480, li_500, li_1000, li_2000, li_10000, li_10001, li_100000, li_1000000, li_100000000, lj_m1, lj_0, lj_1, lj_2, lj_3, lj_24, lj_39, lj_100, lj_500, lj_1000, lj_2000, lj_10000, lj_100000, lj_1000000, lj_100000000, lj_10, lj_20, lj_12, lj_32, lj_96] at *) <;> omega))
      · skip
        refine k_iload_n (pc' := 26) dX3_lying_25 rfl rfl ?_
        refine k_iconst (pc' := 27) (v := (-1)) dX3_lying_26 rfl (by decide) ?_
        refine k_icmp_eq (pc' := 30) (tg := 41) dX3_lying_27 rfl (by decide) (fun c_27 => ?_) (fun c_27 => ?_)
        · skip
          refine k_iload_n (pc' := 42) dX3_lying_41 rfl rfl ?_
          refine k_aload_n (pc' := 43) dX3_lying_42 rfl rfl ?_
          refine k_getR (pc' := 46) fl_RX3_18 dX3_lying_43 rfl rfl rfl ?_
          refine k_iload (pc' := 48) dX3_lying_46 rfl rfl ?_
          refine k_ialdN (pc' := 49) dX3_lying_48 rfl rfl (by omega) (by decide) ?_
          refine k_iadd (pc' := 50) dX3_lying_49 rfl ?_
          refine k_istore_n (pc' := 51) (k0 := 0) (ls' := [_, _, _, _, _]) dX3_lying_50 rfl (by decide) rfl ?_
          refine k_iinc (pc' := 54) (v := nI (_ + 1)) (ls' := [_, _, _, _, _]) dX3_lying_51 rfl rfl (nI_1 _) (by decide) rfl ?_
          refine k_goto (tg := 5) dX3_lying_54 (by decide) ?_
          exact ih (i + 1) _ (by omega) (by rw [hsum, fStock]; (repeat' split) <;> first | rfl | exact (Int32.add_zero _).symm | (exfalso; (try simp only [eq_self, not_true_eq_false, not_false_eq_true, k_b0, k_b1, k_c0, k_cl, k_cg, k_cle, k_cge] at *) <;> (try simp only [eq_self, not_true_eq_false, not_false_eq_true, k_le, k_lt, k_eq, k_leL, k_ltL, k_eqL, k_il, li_m6, li_m5, li_m3, li_m2, li_m1, li_0, li_1, li_2, li_3, li_4, li_5, li_6, li_7, li_8, li_10, li_11, li_12, li_20, li_24, li_25, li_26, li_32, li_39, li_40, li_48, li_57, li_59, li_60, li_96, li_97, li_100, li_122, li_180, li_200, li_255, li_300, li_468, li_480, li_500, li_1000, li_2000, li_10000, li_10001, li_100000, li_1000000, li_100000000, lj_m1, lj_0, lj_1, lj_2, lj_3, lj_24, lj_39, lj_100, lj_500, lj_1000, lj_2000, lj_10000, lj_100000, lj_1000000, lj_100000000, lj_10, lj_20, lj_12, lj_32, lj_96] at *) <;> omega))
        · skip
          refine k_aload_n (pc' := 31) dX3_lying_30 rfl rfl ?_
          refine k_getR (pc' := 34) fl_RX3_15 dX3_lying_31 rfl rfl rfl ?_
          refine k_iload (pc' := 36) dX3_lying_34 rfl rfl ?_
          refine k_ialdN (pc' := 37) dX3_lying_36 rfl rfl (by omega) (by decide) ?_
          refine k_iload_n (pc' := 38) dX3_lying_37 rfl rfl ?_
          refine k_icmp_ne (pc' := 41) (tg := 51) dX3_lying_38 rfl (by decide) (fun c_38 => ?_) (fun c_38 => ?_)
          · skip
            refine k_iinc (pc' := 54) (v := nI (_ + 1)) (ls' := [_, _, _, _, _]) dX3_lying_51 rfl rfl (nI_1 _) (by decide) rfl ?_
            refine k_goto (tg := 5) dX3_lying_54 (by decide) ?_
            exact ih (i + 1) _ (by omega) (by rw [hsum, fStock]; (repeat' split) <;> first | rfl | exact (Int32.add_zero _).symm | (exfalso; (try simp only [eq_self, not_true_eq_false, not_false_eq_true, k_b0, k_b1, k_c0, k_cl, k_cg, k_cle, k_cge] at *) <;> (try simp only [eq_self, not_true_eq_false, not_false_eq_true, k_le, k_lt, k_eq, k_leL, k_ltL, k_eqL, k_il, li_m6, li_m5, li_m3, li_m2, li_m1, li_0, li_1, li_2, li_3, li_4, li_5, li_6, li_7, li_8, li_10, li_11, li_12, li_20, li_24, li_25, li_26, li_32, li_39, li_40, li_48, li_57, li_59, li_60, li_96, li_97, li_100, li_122, li_180, li_200, li_255, li_300, li_468, li_480, li_500, li_1000, li_2000, li_10000, li_10001, li_100000, li_1000000, li_100000000, lj_m1, lj_0, lj_1, lj_2, lj_3, lj_24, lj_39, lj_100, lj_500, lj_1000, lj_2000, lj_10000, lj_100000, lj_1000000, lj_100000000, lj_10, lj_20, lj_12, lj_32, lj_96] at *) <;> omega))
          · skip
            refine k_iload_n (pc' := 42) dX3_lying_41 rfl rfl ?_
            refine k_aload_n (pc' := 43) dX3_lying_42 rfl rfl ?_
            refine k_getR (pc' := 46) fl_RX3_18 dX3_lying_43 rfl rfl rfl ?_
            refine k_iload (pc' := 48) dX3_lying_46 rfl rfl ?_
            refine k_ialdN (pc' := 49) dX3_lying_48 rfl rfl (by omega) (by decide) ?_
            refine k_iadd (pc' := 50) dX3_lying_49 rfl ?_
            refine k_istore_n (pc' := 51) (k0 := 0) (ls' := [_, _, _, _, _]) dX3_lying_50 rfl (by decide) rfl ?_
            refine k_iinc (pc' := 54) (v := nI (_ + 1)) (ls' := [_, _, _, _, _]) dX3_lying_51 rfl rfl (nI_1 _) (by decide) rfl ?_
            refine k_goto (tg := 5) dX3_lying_54 (by decide) ?_
            exact ih (i + 1) _ (by omega) (by rw [hsum, fStock]; (repeat' split) <;> first | rfl | exact (Int32.add_zero _).symm | (exfalso; (try simp only [eq_self, not_true_eq_false, not_false_eq_true, k_b0, k_b1, k_c0, k_cl, k_cg, k_cle, k_cge] at *) <;> (try simp only [eq_self, not_true_eq_false, not_false_eq_true, k_le, k_lt, k_eq, k_leL, k_ltL, k_eqL, k_il, li_m6, li_m5, li_m3, li_m2, li_m1, li_0, li_1, li_2, li_3, li_4, li_5, li_6, li_7, li_8, li_10, li_11, li_12, li_20, li_24, li_25, li_26, li_32, li_39, li_40, li_48, li_57, li_59, li_60, li_96, li_97, li_100, li_122, li_180, li_200, li_255, li_300, li_468, li_480, li_500, li_1000, li_2000, li_10000, li_10001, li_100000, li_1000000, li_100000000, lj_m1, lj_0, lj_1, lj_2, lj_3, lj_24, lj_39, lj_100, lj_500, lj_1000, lj_2000, lj_10000, lj_100000, lj_1000000, lj_100000000, lj_10, lj_20, lj_12, lj_32, lj_96] at *) <;> omega))

set_option maxHeartbeats 4000000 in
set_option maxRecDepth 100000 in
theorem ev_X3_lying {s g : Int32} {μ : kH} {N : Nat} (hN : N ≤ 468) (hsz : μ.1 36 3 = nI N) : Ev kX3_lying [kr 36, ki s, ki g] μ (fun r h' => r = ki (fStock (μ.1 37) (μ.1 38) (μ.1 39) s g N) ∧ h' = μ) := by
  refine k_ev (ls := [_, _, _, _, _]) (by decide) (Nat.le_of_ble_eq_true rfl) rfl ?_
  refine k_iconst (pc' := 1) (v := 0) dX3_lying_0 rfl (by decide) ?_
  refine k_istore_n (pc' := 2) (k0 := 0) (ls' := [_, _, _, _, _]) dX3_lying_1 rfl (by decide) rfl ?_
  refine k_iconst (pc' := 3) (v := 0) dX3_lying_2 rfl (by decide) ?_
  refine k_istore (pc' := 5) (k0 := 0) (ls' := [_, _, _, _, _]) dX3_lying_3 rfl (by decide) rfl ?_
  exact lp_X3_lying hN hsz N 0 0 (by omega) rfl

set_option maxHeartbeats 4000000 in
set_option maxRecDepth 100000 in
theorem lp_X0_missingBy {s y : Int32} {μ : kH} {N : Nat} (hN : N ≤ 60) (hsz : μ.1 40 5 = nI N) : ∀ (n i : Nat) (sum : Int32), i + n = N → sum = fMiss (μ.1 41) (μ.1 44) (μ.1 43) (μ.1 42) s y i → At kX0_missingBy 5 [kr 40, ki s, ki y, ki sum, ki (nI i)] [] μ (kRet kX0_missingBy (fun r h' => r = ki (fMiss (μ.1 41) (μ.1 44) (μ.1 43) (μ.1 42) s y N) ∧ h' = μ)) := by
  intro n
  induction n with
  | zero =>
    intro i sum hi hsum
    refine k_iload (pc' := 7) dX0_missingBy_5 rfl rfl ?_
    refine k_aload_n (pc' := 8) dX0_missingBy_7 rfl rfl ?_
    refine k_getI (pc' := 11) fl_RX0_27 dX0_missingBy_8 rfl rfl rfl ?_
    refine k_icmp_ge (pc' := 14) (tg := 63) dX0_missingBy_11 rfl (by decide) (fun c_11 => ?_) (fun c_11 => ?_)
    · skip
      refine k_iload_n (pc' := 64) dX0_missingBy_63 rfl rfl ?_
      exact k_iret dX0_missingBy_64 rfl ⟨by rw [hsum, show i = N from by omega], rfl⟩
    · exfalso
      exact c_11 (by rw [hsz]; first | exact Int32.le_refl _ | (rw [show i = N from by omega]; exact Int32.le_refl _))
  | succ n ih =>
    intro i sum hi hsum
    have hlt : i < N := by omega
    refine k_iload (pc' := 7) dX0_missingBy_5 rfl rfl ?_
    refine k_aload_n (pc' := 8) dX0_missingBy_7 rfl rfl ?_
    refine k_getI (pc' := 11) fl_RX0_27 dX0_missingBy_8 rfl rfl rfl ?_
    refine k_icmp_ge (pc' := 14) (tg := 63) dX0_missingBy_11 rfl (by decide) (fun c_11 => ?_) (fun c_11 => ?_)
    · exfalso
      rw [hsz] at c_11
      exact nI_ge hlt (by omega) c_11
    · skip
      refine k_aload_n (pc' := 15) dX0_missingBy_14 rfl rfl ?_
      refine k_getR (pc' := 18) fl_RX0_9 dX0_missingBy_15 rfl rfl rfl ?_
      refine k_iload (pc' := 20) dX0_missingBy_18 rfl rfl ?_
      refine k_ialdN (pc' := 21) dX0_missingBy_20 rfl rfl (by omega) (by decide) ?_
      refine k_iload_n (pc' := 22) dX0_missingBy_21 rfl rfl ?_
      refine k_icmp_ne (pc' := 25) (tg := 57) dX0_missingBy_22 rfl (by decide) (fun c_22 => ?_) (fun c_22 => ?_)
      · skip
        refine k_iinc (pc' := 60) (v := nI (_ + 1)) (ls' := [_, _, _, _, _]) dX0_missingBy_57 rfl rfl (nI_1 _) (by decide) rfl ?_
        refine k_goto (tg := 5) dX0_missingBy_60 (by decide) ?_
        exact ih (i + 1) _ (by omega) (by rw [hsum, fMiss]; (repeat' split) <;> first | rfl | exact (Int32.add_zero _).symm | (exfalso; (try simp only [eq_self, not_true_eq_false, not_false_eq_true, k_b0, k_b1, k_c0, k_cl, k_cg, k_cle, k_cge] at *) <;> (try simp only [eq_self, not_true_eq_false, not_false_eq_true, k_le, k_lt, k_eq, k_leL, k_ltL, k_eqL, k_il, li_m6, li_m5, li_m3, li_m2, li_m1, li_0, li_1, li_2, li_3, li_4, li_5, li_6, li_7, li_8, li_10, li_11, li_12, li_20, li_24, li_25, li_26, li_32, li_39, li_40, li_48, li_57, li_59, li_60, li_96, li_97, li_100, li_122, li_180, li_200, li_255, li_300, li_468, li_480, li_500, li_1000, li_2000, li_10000, li_10001, li_100000, li_1000000, li_100000000, lj_m1, lj_0, lj_1, lj_2, lj_3, lj_24, lj_39, lj_100, lj_500, lj_1000, lj_2000, lj_10000, lj_100000, lj_1000000, lj_100000000, lj_10, lj_20, lj_12, lj_32, lj_96] at *) <;> omega))
      · skip
        refine k_aload_n (pc' := 26) dX0_missingBy_25 rfl rfl ?_
        refine k_getR (pc' := 29) fl_RX0_21 dX0_missingBy_26 rfl rfl rfl ?_
        refine k_iload (pc' := 31) dX0_missingBy_29 rfl rfl ?_
        refine k_ialdN (pc' := 32) dX0_missingBy_31 rfl rfl (by omega) (by decide) ?_
        refine k_iload_n (pc' := 33) dX0_missingBy_32 rfl rfl ?_
        refine k_icmp_gt (pc' := 36) (tg := 57) dX0_missingBy_33 rfl (by decide) (fun c_33 => ?_) (fun c_33 => ?_)
        · skip
          refine k_iinc (pc' := 60) (v := nI (_ + 1)) (ls' := [_, _, _, _, _]) dX0_missingBy_57 rfl rfl (nI_1 _) (by decide) rfl ?_
          refine k_goto (tg := 5) dX0_missingBy_60 (by decide) ?_
          exact ih (i + 1) _ (by omega) (by rw [hsum, fMiss]; (repeat' split) <;> first | rfl | exact (Int32.add_zero _).symm | (exfalso; (try simp only [eq_self, not_true_eq_false, not_false_eq_true, k_b0, k_b1, k_c0, k_cl, k_cg, k_cle, k_cge] at *) <;> (try simp only [eq_self, not_true_eq_false, not_false_eq_true, k_le, k_lt, k_eq, k_leL, k_ltL, k_eqL, k_il, li_m6, li_m5, li_m3, li_m2, li_m1, li_0, li_1, li_2, li_3, li_4, li_5, li_6, li_7, li_8, li_10, li_11, li_12, li_20, li_24, li_25, li_26, li_32, li_39, li_40, li_48, li_57, li_59, li_60, li_96, li_97, li_100, li_122, li_180, li_200, li_255, li_300, li_468, li_480, li_500, li_1000, li_2000, li_10000, li_10001, li_100000, li_1000000, li_100000000, lj_m1, lj_0, lj_1, lj_2, lj_3, lj_24, lj_39, lj_100, lj_500, lj_1000, lj_2000, lj_10000, lj_100000, lj_1000000, lj_100000000, lj_10, lj_20, lj_12, lj_32, lj_96] at *) <;> omega))
        · skip
          refine k_aload_n (pc' := 37) dX0_missingBy_36 rfl rfl ?_
          refine k_getR (pc' := 40) fl_RX0_18 dX0_missingBy_37 rfl rfl rfl ?_
          refine k_iload (pc' := 42) dX0_missingBy_40 rfl rfl ?_
          refine k_ialdN (pc' := 43) dX0_missingBy_42 rfl rfl (by omega) (by decide) ?_
          refine k_iload_n (pc' := 44) dX0_missingBy_43 rfl rfl ?_
          refine k_icmp_gt (pc' := 47) (tg := 57) dX0_missingBy_44 rfl (by decide) (fun c_44 => ?_) (fun c_44 => ?_)
          · skip
            refine k_iinc (pc' := 60) (v := nI (_ + 1)) (ls' := [_, _, _, _, _]) dX0_missingBy_57 rfl rfl (nI_1 _) (by decide) rfl ?_
            refine k_goto (tg := 5) dX0_missingBy_60 (by decide) ?_
            exact ih (i + 1) _ (by omega) (by rw [hsum, fMiss]; (repeat' split) <;> first | rfl | exact (Int32.add_zero _).symm | (exfalso; (try simp only [eq_self, not_true_eq_false, not_false_eq_true, k_b0, k_b1, k_c0, k_cl, k_cg, k_cle, k_cge] at *) <;> (try simp only [eq_self, not_true_eq_false, not_false_eq_true, k_le, k_lt, k_eq, k_leL, k_ltL, k_eqL, k_il, li_m6, li_m5, li_m3, li_m2, li_m1, li_0, li_1, li_2, li_3, li_4, li_5, li_6, li_7, li_8, li_10, li_11, li_12, li_20, li_24, li_25, li_26, li_32, li_39, li_40, li_48, li_57, li_59, li_60, li_96, li_97, li_100, li_122, li_180, li_200, li_255, li_300, li_468, li_480, li_500, li_1000, li_2000, li_10000, li_10001, li_100000, li_1000000, li_100000000, lj_m1, lj_0, lj_1, lj_2, lj_3, lj_24, lj_39, lj_100, lj_500, lj_1000, lj_2000, lj_10000, lj_100000, lj_1000000, lj_100000000, lj_10, lj_20, lj_12, lj_32, lj_96] at *) <;> omega))
          · skip
            refine k_iload_n (pc' := 48) dX0_missingBy_47 rfl rfl ?_
            refine k_aload_n (pc' := 49) dX0_missingBy_48 rfl rfl ?_
            refine k_getR (pc' := 52) fl_RX0_15 dX0_missingBy_49 rfl rfl rfl ?_
            refine k_iload (pc' := 54) dX0_missingBy_52 rfl rfl ?_
            refine k_ialdN (pc' := 55) dX0_missingBy_54 rfl rfl (by omega) (by decide) ?_
            refine k_iadd (pc' := 56) dX0_missingBy_55 rfl ?_
            refine k_istore_n (pc' := 57) (k0 := 0) (ls' := [_, _, _, _, _]) dX0_missingBy_56 rfl (by decide) rfl ?_
            refine k_iinc (pc' := 60) (v := nI (_ + 1)) (ls' := [_, _, _, _, _]) dX0_missingBy_57 rfl rfl (nI_1 _) (by decide) rfl ?_
            refine k_goto (tg := 5) dX0_missingBy_60 (by decide) ?_
            exact ih (i + 1) _ (by omega) (by rw [hsum, fMiss]; (repeat' split) <;> first | rfl | exact (Int32.add_zero _).symm | (exfalso; (try simp only [eq_self, not_true_eq_false, not_false_eq_true, k_b0, k_b1, k_c0, k_cl, k_cg, k_cle, k_cge] at *) <;> (try simp only [eq_self, not_true_eq_false, not_false_eq_true, k_le, k_lt, k_eq, k_leL, k_ltL, k_eqL, k_il, li_m6, li_m5, li_m3, li_m2, li_m1, li_0, li_1, li_2, li_3, li_4, li_5, li_6, li_7, li_8, li_10, li_11, li_12, li_20, li_24, li_25, li_26, li_32, li_39, li_40, li_48, li_57, li_59, li_60, li_96, li_97, li_100, li_122, li_180, li_200, li_255, li_300, li_468, li_480, li_500, li_1000, li_2000, li_10000, li_10001, li_100000, li_1000000, li_100000000, lj_m1, lj_0, lj_1, lj_2, lj_3, lj_24, lj_39, lj_100, lj_500, lj_1000, lj_2000, lj_10000, lj_100000, lj_1000000, lj_100000000, lj_10, lj_20, lj_12, lj_32, lj_96] at *) <;> omega))

set_option maxHeartbeats 4000000 in
set_option maxRecDepth 100000 in
theorem ev_X0_missingBy {s y : Int32} {μ : kH} {N : Nat} (hN : N ≤ 60) (hsz : μ.1 40 5 = nI N) : Ev kX0_missingBy [kr 40, ki s, ki y] μ (fun r h' => r = ki (fMiss (μ.1 41) (μ.1 44) (μ.1 43) (μ.1 42) s y N) ∧ h' = μ) := by
  refine k_ev (ls := [_, _, _, _, _]) (by decide) (Nat.le_of_ble_eq_true rfl) rfl ?_
  refine k_iconst (pc' := 1) (v := 0) dX0_missingBy_0 rfl (by decide) ?_
  refine k_istore_n (pc' := 2) (k0 := 0) (ls' := [_, _, _, _, _]) dX0_missingBy_1 rfl (by decide) rfl ?_
  refine k_iconst (pc' := 3) (v := 0) dX0_missingBy_2 rfl (by decide) ?_
  refine k_istore (pc' := 5) (k0 := 0) (ls' := [_, _, _, _, _]) dX0_missingBy_3 rfl (by decide) rfl ?_
  exact lp_X0_missingBy hN hsz N 0 0 (by omega) rfl

set_option maxHeartbeats 4000000 in
set_option maxRecDepth 100000 in
theorem lp_X6_asKnown {s y k : Int32} {μ : kH} {N : Nat} (hN : N ≤ 300) (hsz : μ.1 3 4 = nI N) : ∀ (n i : Nat) (f fy : Int32), i + n = N → (f, fy) = fKnown (μ.1 4) (μ.1 5) (μ.1 6) (μ.1 7) s y k i → At kX6_asKnown 9 [kr 3, ki s, ki y, ki k, ki f, ki fy, ki (nI i), ku] [] μ (kRet kX6_asKnown (fun r h' => r = ki (fKnown (μ.1 4) (μ.1 5) (μ.1 6) (μ.1 7) s y k N).1 ∧ h' = μ)) := by
  intro n
  induction n with
  | zero =>
    intro i f fy hi hsum
    refine k_iload (pc' := 11) dX6_asKnown_9 rfl rfl ?_
    refine k_aload_n (pc' := 12) dX6_asKnown_11 rfl rfl ?_
    refine k_getI (pc' := 15) fl_RX6_24 dX6_asKnown_12 rfl rfl rfl ?_
    refine k_icmp_ge (pc' := 18) (tg := 99) dX6_asKnown_15 rfl (by decide) (fun c_15 => ?_) (fun c_15 => ?_)
    · skip
      refine k_iload (pc' := 101) dX6_asKnown_99 rfl rfl ?_
      exact k_iret dX6_asKnown_101 rfl ⟨by rw [show i = N from by omega] at hsum; rw [← hsum], rfl⟩
    · exfalso
      exact c_15 (by rw [hsz]; first | exact Int32.le_refl _ | (rw [show i = N from by omega]; exact Int32.le_refl _))
  | succ n ih =>
    intro i f fy hi hsum
    have hlt : i < N := by omega
    refine k_iload (pc' := 11) dX6_asKnown_9 rfl rfl ?_
    refine k_aload_n (pc' := 12) dX6_asKnown_11 rfl rfl ?_
    refine k_getI (pc' := 15) fl_RX6_24 dX6_asKnown_12 rfl rfl rfl ?_
    refine k_icmp_ge (pc' := 18) (tg := 99) dX6_asKnown_15 rfl (by decide) (fun c_15 => ?_) (fun c_15 => ?_)
    · exfalso
      rw [hsz] at c_15
      exact nI_ge hlt (by omega) c_15
    · skip
      refine k_aload_n (pc' := 19) dX6_asKnown_18 rfl rfl ?_
      refine k_getR (pc' := 22) fl_RX6_9 dX6_asKnown_19 rfl rfl rfl ?_
      refine k_iload (pc' := 24) dX6_asKnown_22 rfl rfl ?_
      refine k_ialdN (pc' := 25) dX6_asKnown_24 rfl rfl (by omega) (by decide) ?_
      refine k_iload_n (pc' := 26) dX6_asKnown_25 rfl rfl ?_
      refine k_icmp_ne (pc' := 29) (tg := 55) dX6_asKnown_26 rfl (by decide) (fun c_26 => ?_) (fun c_26 => ?_)
      · skip
        refine k_iconst (pc' := 56) (v := 0) dX6_asKnown_55 rfl (by decide) ?_
        refine k_istore (pc' := 58) (k0 := 0) (ls' := [_, _, _, _, _, _, _, _]) dX6_asKnown_56 rfl (by decide) rfl ?_
        refine k_iload (pc' := 60) dX6_asKnown_58 rfl rfl ?_
        refine k_if_eq (pc' := 63) (tg := 93) dX6_asKnown_60 rfl (by decide) (fun c_60 => ?_) (fun c_60 => ?_)
        · skip
          refine k_iinc (pc' := 96) (v := nI (_ + 1)) (ls' := [_, _, _, _, _, _, _, _]) dX6_asKnown_93 rfl rfl (nI_1 _) (by decide) rfl ?_
          refine k_goto (tg := 9) dX6_asKnown_96 (by decide) ?_
          exact k_wk (by repeat' (first | exact trivial | exact rfl | apply And.intro)) (ih (i + 1) _ _ (by omega) (by rw [fKnown, ← hsum]; (repeat' split) <;> first | rfl | (exfalso; (try simp only [eq_self, not_true_eq_false, not_false_eq_true, k_b0, k_b1, k_c0, k_cl, k_cg, k_cle, k_cge] at *) <;> (try simp only [eq_self, not_true_eq_false, not_false_eq_true, k_le, k_lt, k_eq, k_leL, k_ltL, k_eqL, k_il, li_m6, li_m5, li_m3, li_m2, li_m1, li_0, li_1, li_2, li_3, li_4, li_5, li_6, li_7, li_8, li_10, li_11, li_12, li_20, li_24, li_25, li_26, li_32, li_39, li_40, li_48, li_57, li_59, li_60, li_96, li_97, li_100, li_122, li_180, li_200, li_255, li_300, li_468, li_480, li_500, li_1000, li_2000, li_10000, li_10001, li_100000, li_1000000, li_100000000, lj_m1, lj_0, lj_1, lj_2, lj_3, lj_24, lj_39, lj_100, lj_500, lj_1000, lj_2000, lj_10000, lj_100000, lj_1000000, lj_100000000, lj_10, lj_20, lj_12, lj_32, lj_96] at *) <;> omega)))
        · skip
          refine k_aload_n (pc' := 64) dX6_asKnown_63 rfl rfl ?_
          refine k_getR (pc' := 67) fl_RX6_15 dX6_asKnown_64 rfl rfl rfl ?_
          refine k_iload (pc' := 69) dX6_asKnown_67 rfl rfl ?_
          refine k_ialdN (pc' := 70) dX6_asKnown_69 rfl rfl (by omega) (by decide) ?_
          refine k_iload (pc' := 72) dX6_asKnown_70 rfl rfl ?_
          refine k_icmp_lt (pc' := 75) (tg := 93) dX6_asKnown_72 rfl (by decide) (fun c_72 => ?_) (fun c_72 => ?_)
          · skip
            refine k_iinc (pc' := 96) (v := nI (_ + 1)) (ls' := [_, _, _, _, _, _, _, _]) dX6_asKnown_93 rfl rfl (nI_1 _) (by decide) rfl ?_
            refine k_goto (tg := 9) dX6_asKnown_96 (by decide) ?_
            exact k_wk (by repeat' (first | exact trivial | exact rfl | apply And.intro)) (ih (i + 1) _ _ (by omega) (by rw [fKnown, ← hsum]; (repeat' split) <;> first | rfl | (exfalso; (try simp only [eq_self, not_true_eq_false, not_false_eq_true, k_b0, k_b1, k_c0, k_cl, k_cg, k_cle, k_cge] at *) <;> (try simp only [eq_self, not_true_eq_false, not_false_eq_true, k_le, k_lt, k_eq, k_leL, k_ltL, k_eqL, k_il, li_m6, li_m5, li_m3, li_m2, li_m1, li_0, li_1, li_2, li_3, li_4, li_5, li_6, li_7, li_8, li_10, li_11, li_12, li_20, li_24, li_25, li_26, li_32, li_39, li_40, li_48, li_57, li_59, li_60, li_96, li_97, li_100, li_122, li_180, li_200, li_255, li_300, li_468, li_480, li_500, li_1000, li_2000, li_10000, li_10001, li_100000, li_1000000, li_100000000, lj_m1, lj_0, lj_1, lj_2, lj_3, lj_24, lj_39, lj_100, lj_500, lj_1000, lj_2000, lj_10000, lj_100000, lj_1000000, lj_100000000, lj_10, lj_20, lj_12, lj_32, lj_96] at *) <;> omega)))
          · skip
            refine k_aload_n (pc' := 76) dX6_asKnown_75 rfl rfl ?_
            refine k_getR (pc' := 79) fl_RX6_18 dX6_asKnown_76 rfl rfl rfl ?_
            refine k_iload (pc' := 81) dX6_asKnown_79 rfl rfl ?_
            refine k_ialdN (pc' := 82) dX6_asKnown_81 rfl rfl (by omega) (by decide) ?_
            refine k_istore (pc' := 84) (k0 := 0) (ls' := [_, _, _, _, _, _, _, _]) dX6_asKnown_82 rfl (by decide) rfl ?_
            refine k_aload_n (pc' := 85) dX6_asKnown_84 rfl rfl ?_
            refine k_getR (pc' := 88) fl_RX6_15 dX6_asKnown_85 rfl rfl rfl ?_
            refine k_iload (pc' := 90) dX6_asKnown_88 rfl rfl ?_
            refine k_ialdN (pc' := 91) dX6_asKnown_90 rfl rfl (by omega) (by decide) ?_
            refine k_istore (pc' := 93) (k0 := 0) (ls' := [_, _, _, _, _, _, _, _]) dX6_asKnown_91 rfl (by decide) rfl ?_
            refine k_iinc (pc' := 96) (v := nI (_ + 1)) (ls' := [_, _, _, _, _, _, _, _]) dX6_asKnown_93 rfl rfl (nI_1 _) (by decide) rfl ?_
            refine k_goto (tg := 9) dX6_asKnown_96 (by decide) ?_
            exact k_wk (by repeat' (first | exact trivial | exact rfl | apply And.intro)) (ih (i + 1) _ _ (by omega) (by rw [fKnown, ← hsum]; (repeat' split) <;> first | rfl | (exfalso; (try simp only [eq_self, not_true_eq_false, not_false_eq_true, k_b0, k_b1, k_c0, k_cl, k_cg, k_cle, k_cge] at *) <;> (try simp only [eq_self, not_true_eq_false, not_false_eq_true, k_le, k_lt, k_eq, k_leL, k_ltL, k_eqL, k_il, li_m6, li_m5, li_m3, li_m2, li_m1, li_0, li_1, li_2, li_3, li_4, li_5, li_6, li_7, li_8, li_10, li_11, li_12, li_20, li_24, li_25, li_26, li_32, li_39, li_40, li_48, li_57, li_59, li_60, li_96, li_97, li_100, li_122, li_180, li_200, li_255, li_300, li_468, li_480, li_500, li_1000, li_2000, li_10000, li_10001, li_100000, li_1000000, li_100000000, lj_m1, lj_0, lj_1, lj_2, lj_3, lj_24, lj_39, lj_100, lj_500, lj_1000, lj_2000, lj_10000, lj_100000, lj_1000000, lj_100000000, lj_10, lj_20, lj_12, lj_32, lj_96] at *) <;> omega)))
      · skip
        refine k_aload_n (pc' := 30) dX6_asKnown_29 rfl rfl ?_
        refine k_getR (pc' := 33) fl_RX6_21 dX6_asKnown_30 rfl rfl rfl ?_
        refine k_iload (pc' := 35) dX6_asKnown_33 rfl rfl ?_
        refine k_ialdN (pc' := 36) dX6_asKnown_35 rfl rfl (by omega) (by decide) ?_
        refine k_iload_n (pc' := 37) dX6_asKnown_36 rfl rfl ?_
        refine k_icmp_gt (pc' := 40) (tg := 55) dX6_asKnown_37 rfl (by decide) (fun c_37 => ?_) (fun c_37 => ?_)
        · skip
          refine k_iconst (pc' := 56) (v := 0) dX6_asKnown_55 rfl (by decide) ?_
          refine k_istore (pc' := 58) (k0 := 0) (ls' := [_, _, _, _, _, _, _, _]) dX6_asKnown_56 rfl (by decide) rfl ?_
          refine k_iload (pc' := 60) dX6_asKnown_58 rfl rfl ?_
          refine k_if_eq (pc' := 63) (tg := 93) dX6_asKnown_60 rfl (by decide) (fun c_60 => ?_) (fun c_60 => ?_)
          · skip
            refine k_iinc (pc' := 96) (v := nI (_ + 1)) (ls' := [_, _, _, _, _, _, _, _]) dX6_asKnown_93 rfl rfl (nI_1 _) (by decide) rfl ?_
            refine k_goto (tg := 9) dX6_asKnown_96 (by decide) ?_
            exact k_wk (by repeat' (first | exact trivial | exact rfl | apply And.intro)) (ih (i + 1) _ _ (by omega) (by rw [fKnown, ← hsum]; (repeat' split) <;> first | rfl | (exfalso; (try simp only [eq_self, not_true_eq_false, not_false_eq_true, k_b0, k_b1, k_c0, k_cl, k_cg, k_cle, k_cge] at *) <;> (try simp only [eq_self, not_true_eq_false, not_false_eq_true, k_le, k_lt, k_eq, k_leL, k_ltL, k_eqL, k_il, li_m6, li_m5, li_m3, li_m2, li_m1, li_0, li_1, li_2, li_3, li_4, li_5, li_6, li_7, li_8, li_10, li_11, li_12, li_20, li_24, li_25, li_26, li_32, li_39, li_40, li_48, li_57, li_59, li_60, li_96, li_97, li_100, li_122, li_180, li_200, li_255, li_300, li_468, li_480, li_500, li_1000, li_2000, li_10000, li_10001, li_100000, li_1000000, li_100000000, lj_m1, lj_0, lj_1, lj_2, lj_3, lj_24, lj_39, lj_100, lj_500, lj_1000, lj_2000, lj_10000, lj_100000, lj_1000000, lj_100000000, lj_10, lj_20, lj_12, lj_32, lj_96] at *) <;> omega)))
          · skip
            refine k_aload_n (pc' := 64) dX6_asKnown_63 rfl rfl ?_
            refine k_getR (pc' := 67) fl_RX6_15 dX6_asKnown_64 rfl rfl rfl ?_
            refine k_iload (pc' := 69) dX6_asKnown_67 rfl rfl ?_
            refine k_ialdN (pc' := 70) dX6_asKnown_69 rfl rfl (by omega) (by decide) ?_
            refine k_iload (pc' := 72) dX6_asKnown_70 rfl rfl ?_
            refine k_icmp_lt (pc' := 75) (tg := 93) dX6_asKnown_72 rfl (by decide) (fun c_72 => ?_) (fun c_72 => ?_)
            · skip
              refine k_iinc (pc' := 96) (v := nI (_ + 1)) (ls' := [_, _, _, _, _, _, _, _]) dX6_asKnown_93 rfl rfl (nI_1 _) (by decide) rfl ?_
              refine k_goto (tg := 9) dX6_asKnown_96 (by decide) ?_
              exact k_wk (by repeat' (first | exact trivial | exact rfl | apply And.intro)) (ih (i + 1) _ _ (by omega) (by rw [fKnown, ← hsum]; (repeat' split) <;> first | rfl | (exfalso; (try simp only [eq_self, not_true_eq_false, not_false_eq_true, k_b0, k_b1, k_c0, k_cl, k_cg, k_cle, k_cge] at *) <;> (try simp only [eq_self, not_true_eq_false, not_false_eq_true, k_le, k_lt, k_eq, k_leL, k_ltL, k_eqL, k_il, li_m6, li_m5, li_m3, li_m2, li_m1, li_0, li_1, li_2, li_3, li_4, li_5, li_6, li_7, li_8, li_10, li_11, li_12, li_20, li_24, li_25, li_26, li_32, li_39, li_40, li_48, li_57, li_59, li_60, li_96, li_97, li_100, li_122, li_180, li_200, li_255, li_300, li_468, li_480, li_500, li_1000, li_2000, li_10000, li_10001, li_100000, li_1000000, li_100000000, lj_m1, lj_0, lj_1, lj_2, lj_3, lj_24, lj_39, lj_100, lj_500, lj_1000, lj_2000, lj_10000, lj_100000, lj_1000000, lj_100000000, lj_10, lj_20, lj_12, lj_32, lj_96] at *) <;> omega)))
            · skip
              refine k_aload_n (pc' := 76) dX6_asKnown_75 rfl rfl ?_
              refine k_getR (pc' := 79) fl_RX6_18 dX6_asKnown_76 rfl rfl rfl ?_
              refine k_iload (pc' := 81) dX6_asKnown_79 rfl rfl ?_
              refine k_ialdN (pc' := 82) dX6_asKnown_81 rfl rfl (by omega) (by decide) ?_
              refine k_istore (pc' := 84) (k0 := 0) (ls' := [_, _, _, _, _, _, _, _]) dX6_asKnown_82 rfl (by decide) rfl ?_
              refine k_aload_n (pc' := 85) dX6_asKnown_84 rfl rfl ?_
              refine k_getR (pc' := 88) fl_RX6_15 dX6_asKnown_85 rfl rfl rfl ?_
              refine k_iload (pc' := 90) dX6_asKnown_88 rfl rfl ?_
              refine k_ialdN (pc' := 91) dX6_asKnown_90 rfl rfl (by omega) (by decide) ?_
              refine k_istore (pc' := 93) (k0 := 0) (ls' := [_, _, _, _, _, _, _, _]) dX6_asKnown_91 rfl (by decide) rfl ?_
              refine k_iinc (pc' := 96) (v := nI (_ + 1)) (ls' := [_, _, _, _, _, _, _, _]) dX6_asKnown_93 rfl rfl (nI_1 _) (by decide) rfl ?_
              refine k_goto (tg := 9) dX6_asKnown_96 (by decide) ?_
              exact k_wk (by repeat' (first | exact trivial | exact rfl | apply And.intro)) (ih (i + 1) _ _ (by omega) (by rw [fKnown, ← hsum]; (repeat' split) <;> first | rfl | (exfalso; (try simp only [eq_self, not_true_eq_false, not_false_eq_true, k_b0, k_b1, k_c0, k_cl, k_cg, k_cle, k_cge] at *) <;> (try simp only [eq_self, not_true_eq_false, not_false_eq_true, k_le, k_lt, k_eq, k_leL, k_ltL, k_eqL, k_il, li_m6, li_m5, li_m3, li_m2, li_m1, li_0, li_1, li_2, li_3, li_4, li_5, li_6, li_7, li_8, li_10, li_11, li_12, li_20, li_24, li_25, li_26, li_32, li_39, li_40, li_48, li_57, li_59, li_60, li_96, li_97, li_100, li_122, li_180, li_200, li_255, li_300, li_468, li_480, li_500, li_1000, li_2000, li_10000, li_10001, li_100000, li_1000000, li_100000000, lj_m1, lj_0, lj_1, lj_2, lj_3, lj_24, lj_39, lj_100, lj_500, lj_1000, lj_2000, lj_10000, lj_100000, lj_1000000, lj_100000000, lj_10, lj_20, lj_12, lj_32, lj_96] at *) <;> omega)))
        · skip
          refine k_aload_n (pc' := 41) dX6_asKnown_40 rfl rfl ?_
          refine k_getR (pc' := 44) fl_RX6_15 dX6_asKnown_41 rfl rfl rfl ?_
          refine k_iload (pc' := 46) dX6_asKnown_44 rfl rfl ?_
          refine k_ialdN (pc' := 47) dX6_asKnown_46 rfl rfl (by omega) (by decide) ?_
          refine k_iload_n (pc' := 48) dX6_asKnown_47 rfl rfl ?_
          refine k_icmp_gt (pc' := 51) (tg := 55) dX6_asKnown_48 rfl (by decide) (fun c_48 => ?_) (fun c_48 => ?_)
          · skip
            refine k_iconst (pc' := 56) (v := 0) dX6_asKnown_55 rfl (by decide) ?_
            refine k_istore (pc' := 58) (k0 := 0) (ls' := [_, _, _, _, _, _, _, _]) dX6_asKnown_56 rfl (by decide) rfl ?_
            refine k_iload (pc' := 60) dX6_asKnown_58 rfl rfl ?_
            refine k_if_eq (pc' := 63) (tg := 93) dX6_asKnown_60 rfl (by decide) (fun c_60 => ?_) (fun c_60 => ?_)
            · skip
              refine k_iinc (pc' := 96) (v := nI (_ + 1)) (ls' := [_, _, _, _, _, _, _, _]) dX6_asKnown_93 rfl rfl (nI_1 _) (by decide) rfl ?_
              refine k_goto (tg := 9) dX6_asKnown_96 (by decide) ?_
              exact k_wk (by repeat' (first | exact trivial | exact rfl | apply And.intro)) (ih (i + 1) _ _ (by omega) (by rw [fKnown, ← hsum]; (repeat' split) <;> first | rfl | (exfalso; (try simp only [eq_self, not_true_eq_false, not_false_eq_true, k_b0, k_b1, k_c0, k_cl, k_cg, k_cle, k_cge] at *) <;> (try simp only [eq_self, not_true_eq_false, not_false_eq_true, k_le, k_lt, k_eq, k_leL, k_ltL, k_eqL, k_il, li_m6, li_m5, li_m3, li_m2, li_m1, li_0, li_1, li_2, li_3, li_4, li_5, li_6, li_7, li_8, li_10, li_11, li_12, li_20, li_24, li_25, li_26, li_32, li_39, li_40, li_48, li_57, li_59, li_60, li_96, li_97, li_100, li_122, li_180, li_200, li_255, li_300, li_468, li_480, li_500, li_1000, li_2000, li_10000, li_10001, li_100000, li_1000000, li_100000000, lj_m1, lj_0, lj_1, lj_2, lj_3, lj_24, lj_39, lj_100, lj_500, lj_1000, lj_2000, lj_10000, lj_100000, lj_1000000, lj_100000000, lj_10, lj_20, lj_12, lj_32, lj_96] at *) <;> omega)))
            · skip
              refine k_aload_n (pc' := 64) dX6_asKnown_63 rfl rfl ?_
              refine k_getR (pc' := 67) fl_RX6_15 dX6_asKnown_64 rfl rfl rfl ?_
              refine k_iload (pc' := 69) dX6_asKnown_67 rfl rfl ?_
              refine k_ialdN (pc' := 70) dX6_asKnown_69 rfl rfl (by omega) (by decide) ?_
              refine k_iload (pc' := 72) dX6_asKnown_70 rfl rfl ?_
              refine k_icmp_lt (pc' := 75) (tg := 93) dX6_asKnown_72 rfl (by decide) (fun c_72 => ?_) (fun c_72 => ?_)
              · skip
                refine k_iinc (pc' := 96) (v := nI (_ + 1)) (ls' := [_, _, _, _, _, _, _, _]) dX6_asKnown_93 rfl rfl (nI_1 _) (by decide) rfl ?_
                refine k_goto (tg := 9) dX6_asKnown_96 (by decide) ?_
                exact k_wk (by repeat' (first | exact trivial | exact rfl | apply And.intro)) (ih (i + 1) _ _ (by omega) (by rw [fKnown, ← hsum]; (repeat' split) <;> first | rfl | (exfalso; (try simp only [eq_self, not_true_eq_false, not_false_eq_true, k_b0, k_b1, k_c0, k_cl, k_cg, k_cle, k_cge] at *) <;> (try simp only [eq_self, not_true_eq_false, not_false_eq_true, k_le, k_lt, k_eq, k_leL, k_ltL, k_eqL, k_il, li_m6, li_m5, li_m3, li_m2, li_m1, li_0, li_1, li_2, li_3, li_4, li_5, li_6, li_7, li_8, li_10, li_11, li_12, li_20, li_24, li_25, li_26, li_32, li_39, li_40, li_48, li_57, li_59, li_60, li_96, li_97, li_100, li_122, li_180, li_200, li_255, li_300, li_468, li_480, li_500, li_1000, li_2000, li_10000, li_10001, li_100000, li_1000000, li_100000000, lj_m1, lj_0, lj_1, lj_2, lj_3, lj_24, lj_39, lj_100, lj_500, lj_1000, lj_2000, lj_10000, lj_100000, lj_1000000, lj_100000000, lj_10, lj_20, lj_12, lj_32, lj_96] at *) <;> omega)))
              · skip
                refine k_aload_n (pc' := 76) dX6_asKnown_75 rfl rfl ?_
                refine k_getR (pc' := 79) fl_RX6_18 dX6_asKnown_76 rfl rfl rfl ?_
                refine k_iload (pc' := 81) dX6_asKnown_79 rfl rfl ?_
                refine k_ialdN (pc' := 82) dX6_asKnown_81 rfl rfl (by omega) (by decide) ?_
                refine k_istore (pc' := 84) (k0 := 0) (ls' := [_, _, _, _, _, _, _, _]) dX6_asKnown_82 rfl (by decide) rfl ?_
                refine k_aload_n (pc' := 85) dX6_asKnown_84 rfl rfl ?_
                refine k_getR (pc' := 88) fl_RX6_15 dX6_asKnown_85 rfl rfl rfl ?_
                refine k_iload (pc' := 90) dX6_asKnown_88 rfl rfl ?_
                refine k_ialdN (pc' := 91) dX6_asKnown_90 rfl rfl (by omega) (by decide) ?_
                refine k_istore (pc' := 93) (k0 := 0) (ls' := [_, _, _, _, _, _, _, _]) dX6_asKnown_91 rfl (by decide) rfl ?_
                refine k_iinc (pc' := 96) (v := nI (_ + 1)) (ls' := [_, _, _, _, _, _, _, _]) dX6_asKnown_93 rfl rfl (nI_1 _) (by decide) rfl ?_
                refine k_goto (tg := 9) dX6_asKnown_96 (by decide) ?_
                exact k_wk (by repeat' (first | exact trivial | exact rfl | apply And.intro)) (ih (i + 1) _ _ (by omega) (by rw [fKnown, ← hsum]; (repeat' split) <;> first | rfl | (exfalso; (try simp only [eq_self, not_true_eq_false, not_false_eq_true, k_b0, k_b1, k_c0, k_cl, k_cg, k_cle, k_cge] at *) <;> (try simp only [eq_self, not_true_eq_false, not_false_eq_true, k_le, k_lt, k_eq, k_leL, k_ltL, k_eqL, k_il, li_m6, li_m5, li_m3, li_m2, li_m1, li_0, li_1, li_2, li_3, li_4, li_5, li_6, li_7, li_8, li_10, li_11, li_12, li_20, li_24, li_25, li_26, li_32, li_39, li_40, li_48, li_57, li_59, li_60, li_96, li_97, li_100, li_122, li_180, li_200, li_255, li_300, li_468, li_480, li_500, li_1000, li_2000, li_10000, li_10001, li_100000, li_1000000, li_100000000, lj_m1, lj_0, lj_1, lj_2, lj_3, lj_24, lj_39, lj_100, lj_500, lj_1000, lj_2000, lj_10000, lj_100000, lj_1000000, lj_100000000, lj_10, lj_20, lj_12, lj_32, lj_96] at *) <;> omega)))
          · skip
            refine k_iconst (pc' := 52) (v := 1) dX6_asKnown_51 rfl (by decide) ?_
            refine k_goto (tg := 56) dX6_asKnown_52 (by decide) ?_
            refine k_istore (pc' := 58) (k0 := 0) (ls' := [_, _, _, _, _, _, _, _]) dX6_asKnown_56 rfl (by decide) rfl ?_
            refine k_iload (pc' := 60) dX6_asKnown_58 rfl rfl ?_
            refine k_if_eq (pc' := 63) (tg := 93) dX6_asKnown_60 rfl (by decide) (fun c_60 => ?_) (fun c_60 => ?_)
            · skip
              refine k_iinc (pc' := 96) (v := nI (_ + 1)) (ls' := [_, _, _, _, _, _, _, _]) dX6_asKnown_93 rfl rfl (nI_1 _) (by decide) rfl ?_
              refine k_goto (tg := 9) dX6_asKnown_96 (by decide) ?_
              exact k_wk (by repeat' (first | exact trivial | exact rfl | apply And.intro)) (ih (i + 1) _ _ (by omega) (by rw [fKnown, ← hsum]; (repeat' split) <;> first | rfl | (exfalso; (try simp only [eq_self, not_true_eq_false, not_false_eq_true, k_b0, k_b1, k_c0, k_cl, k_cg, k_cle, k_cge] at *) <;> (try simp only [eq_self, not_true_eq_false, not_false_eq_true, k_le, k_lt, k_eq, k_leL, k_ltL, k_eqL, k_il, li_m6, li_m5, li_m3, li_m2, li_m1, li_0, li_1, li_2, li_3, li_4, li_5, li_6, li_7, li_8, li_10, li_11, li_12, li_20, li_24, li_25, li_26, li_32, li_39, li_40, li_48, li_57, li_59, li_60, li_96, li_97, li_100, li_122, li_180, li_200, li_255, li_300, li_468, li_480, li_500, li_1000, li_2000, li_10000, li_10001, li_100000, li_1000000, li_100000000, lj_m1, lj_0, lj_1, lj_2, lj_3, lj_24, lj_39, lj_100, lj_500, lj_1000, lj_2000, lj_10000, lj_100000, lj_1000000, lj_100000000, lj_10, lj_20, lj_12, lj_32, lj_96] at *) <;> omega)))
            · skip
              refine k_aload_n (pc' := 64) dX6_asKnown_63 rfl rfl ?_
              refine k_getR (pc' := 67) fl_RX6_15 dX6_asKnown_64 rfl rfl rfl ?_
              refine k_iload (pc' := 69) dX6_asKnown_67 rfl rfl ?_
              refine k_ialdN (pc' := 70) dX6_asKnown_69 rfl rfl (by omega) (by decide) ?_
              refine k_iload (pc' := 72) dX6_asKnown_70 rfl rfl ?_
              refine k_icmp_lt (pc' := 75) (tg := 93) dX6_asKnown_72 rfl (by decide) (fun c_72 => ?_) (fun c_72 => ?_)
              · skip
                refine k_iinc (pc' := 96) (v := nI (_ + 1)) (ls' := [_, _, _, _, _, _, _, _]) dX6_asKnown_93 rfl rfl (nI_1 _) (by decide) rfl ?_
                refine k_goto (tg := 9) dX6_asKnown_96 (by decide) ?_
                exact k_wk (by repeat' (first | exact trivial | exact rfl | apply And.intro)) (ih (i + 1) _ _ (by omega) (by rw [fKnown, ← hsum]; (repeat' split) <;> first | rfl | (exfalso; (try simp only [eq_self, not_true_eq_false, not_false_eq_true, k_b0, k_b1, k_c0, k_cl, k_cg, k_cle, k_cge] at *) <;> (try simp only [eq_self, not_true_eq_false, not_false_eq_true, k_le, k_lt, k_eq, k_leL, k_ltL, k_eqL, k_il, li_m6, li_m5, li_m3, li_m2, li_m1, li_0, li_1, li_2, li_3, li_4, li_5, li_6, li_7, li_8, li_10, li_11, li_12, li_20, li_24, li_25, li_26, li_32, li_39, li_40, li_48, li_57, li_59, li_60, li_96, li_97, li_100, li_122, li_180, li_200, li_255, li_300, li_468, li_480, li_500, li_1000, li_2000, li_10000, li_10001, li_100000, li_1000000, li_100000000, lj_m1, lj_0, lj_1, lj_2, lj_3, lj_24, lj_39, lj_100, lj_500, lj_1000, lj_2000, lj_10000, lj_100000, lj_1000000, lj_100000000, lj_10, lj_20, lj_12, lj_32, lj_96] at *) <;> omega)))
              · skip
                refine k_aload_n (pc' := 76) dX6_asKnown_75 rfl rfl ?_
                refine k_getR (pc' := 79) fl_RX6_18 dX6_asKnown_76 rfl rfl rfl ?_
                refine k_iload (pc' := 81) dX6_asKnown_79 rfl rfl ?_
                refine k_ialdN (pc' := 82) dX6_asKnown_81 rfl rfl (by omega) (by decide) ?_
                refine k_istore (pc' := 84) (k0 := 0) (ls' := [_, _, _, _, _, _, _, _]) dX6_asKnown_82 rfl (by decide) rfl ?_
                refine k_aload_n (pc' := 85) dX6_asKnown_84 rfl rfl ?_
                refine k_getR (pc' := 88) fl_RX6_15 dX6_asKnown_85 rfl rfl rfl ?_
                refine k_iload (pc' := 90) dX6_asKnown_88 rfl rfl ?_
                refine k_ialdN (pc' := 91) dX6_asKnown_90 rfl rfl (by omega) (by decide) ?_
                refine k_istore (pc' := 93) (k0 := 0) (ls' := [_, _, _, _, _, _, _, _]) dX6_asKnown_91 rfl (by decide) rfl ?_
                refine k_iinc (pc' := 96) (v := nI (_ + 1)) (ls' := [_, _, _, _, _, _, _, _]) dX6_asKnown_93 rfl rfl (nI_1 _) (by decide) rfl ?_
                refine k_goto (tg := 9) dX6_asKnown_96 (by decide) ?_
                exact k_wk (by repeat' (first | exact trivial | exact rfl | apply And.intro)) (ih (i + 1) _ _ (by omega) (by rw [fKnown, ← hsum]; (repeat' split) <;> first | rfl | (exfalso; (try simp only [eq_self, not_true_eq_false, not_false_eq_true, k_b0, k_b1, k_c0, k_cl, k_cg, k_cle, k_cge] at *) <;> (try simp only [eq_self, not_true_eq_false, not_false_eq_true, k_le, k_lt, k_eq, k_leL, k_ltL, k_eqL, k_il, li_m6, li_m5, li_m3, li_m2, li_m1, li_0, li_1, li_2, li_3, li_4, li_5, li_6, li_7, li_8, li_10, li_11, li_12, li_20, li_24, li_25, li_26, li_32, li_39, li_40, li_48, li_57, li_59, li_60, li_96, li_97, li_100, li_122, li_180, li_200, li_255, li_300, li_468, li_480, li_500, li_1000, li_2000, li_10000, li_10001, li_100000, li_1000000, li_100000000, lj_m1, lj_0, lj_1, lj_2, lj_3, lj_24, lj_39, lj_100, lj_500, lj_1000, lj_2000, lj_10000, lj_100000, lj_1000000, lj_100000000, lj_10, lj_20, lj_12, lj_32, lj_96] at *) <;> omega)))

set_option maxHeartbeats 4000000 in
set_option maxRecDepth 100000 in
theorem ev_X6_asKnown {s y k : Int32} {μ : kH} {N : Nat} (hN : N ≤ 300) (hsz : μ.1 3 4 = nI N) : Ev kX6_asKnown [kr 3, ki s, ki y, ki k] μ (fun r h' => r = ki (fKnown (μ.1 4) (μ.1 5) (μ.1 6) (μ.1 7) s y k N).1 ∧ h' = μ) := by
  refine k_ev (ls := [_, _, _, _, _, _, _, _]) (by decide) (Nat.le_of_ble_eq_true rfl) rfl ?_
  refine k_iconst (pc' := 1) (v := 0) dX6_asKnown_0 rfl (by decide) ?_
  refine k_istore (pc' := 3) (k0 := 0) (ls' := [_, _, _, _, _, _, _, _]) dX6_asKnown_1 rfl (by decide) rfl ?_
  refine k_iconst (pc' := 4) (v := 0) dX6_asKnown_3 rfl (by decide) ?_
  refine k_istore (pc' := 6) (k0 := 0) (ls' := [_, _, _, _, _, _, _, _]) dX6_asKnown_4 rfl (by decide) rfl ?_
  refine k_iconst (pc' := 7) (v := 0) dX6_asKnown_6 rfl (by decide) ?_
  refine k_istore (pc' := 9) (k0 := 0) (ls' := [_, _, _, _, _, _, _, _]) dX6_asKnown_7 rfl (by decide) rfl ?_
  exact lp_X6_asKnown hN hsz N 0 0 0 (by omega) rfl

