theorem k_strval {t : kM} {pc pc' : Nat} {ls st : List kV} {h : kH} {Φ : Nat → List kV → List kV → kH → Prop} {idx i : Nat} (hi : i < 8) (hd : decode t.2.1 pc = .ok (.getfield idx, 3)) (hp : pc + 3 = pc') (hw : Cond.fieldLink t.1.cls idx "java/lang/String" "value" "[B" ∈ kTbl) (kk : At t pc' ls (kr (2000 + i) :: st) h Φ) : At t pc ls (kr (1000 + i) :: st) h Φ := by
  subst hp
  intro p l e R s m args below meth c cells slots Qw dC dI a cI cL A C K H locs lsA hl hP hS
  exact vk_getf C.1 C.2.1 (C.2.2.2.2.2.2.2.2.2.1.2.1.1 i hi).2.2.1 hS C.2.2.2.1 (C.2.2.2.2.1 _ hw) (fun _ z => z) hd (kk p l e R s m args below meth c cells slots Qw dC dI a cI cL A C K H locs lsA hl hP hS)
theorem k_strcod {t : kM} {pc pc' : Nat} {ls st : List kV} {h : kH} {Φ : Nat → List kV → List kV → kH → Prop} {idx i : Nat} (hi : i < 8) (hd : decode t.2.1 pc = .ok (.getfield idx, 3)) (hp : pc + 3 = pc') (hw : Cond.fieldLink t.1.cls idx "java/lang/String" "coder" "B" ∈ kTbl) (kk : At t pc' ls (ki 0 :: st) h Φ) : At t pc ls (kr (1000 + i) :: st) h Φ := by
  subst hp
  intro p l e R s m args below meth c cells slots Qw dC dI a cI cL A C K H locs lsA hl hP hS
  exact vk_getf C.1 C.2.1 (C.2.2.2.2.2.2.2.2.2.1.2.1.1 i hi).2.1 hS C.2.2.2.1 (C.2.2.2.2.1 _ hw) (fun _ z => z) hd (kk p l e R s m args below meth c cells slots Qw dC dI a cI cL A C K H locs lsA hl hP hS)
theorem k_gsCS {t : kM} {pc pc' : Nat} {ls st : List kV} {h : kH} {Φ : Nat → List kV → List kV → kH → Prop} {idx : Nat} (hd : decode t.2.1 pc = .ok (.getstatic idx, 3)) (hp : pc + 3 = pc') (hw : Cond.fieldLink t.1.cls idx "java/lang/String" "COMPACT_STRINGS" "Z" ∈ kTbl) (kk : At t pc' ls (ki 1 :: st) h Φ) : At t pc ls st h Φ := by
  subst hp
  intro p l e R s m args below meth c cells slots Qw dC dI a cI cL A C K H locs lsA hl hP hS
  exact va_gets C.1 C.2.1 C.2.2.2.2.2.2.2.2.2.1.2.2.2.1 hS C.2.2.2.1 (C.2.2.2.2.1 _ hw) (fun _ z => z) hd (kk p l e R s m args below meth c cells slots Qw dC dI a cI cL A C K H locs lsA hl hP hS)
theorem k_gsSF {t : kM} {pc pc' : Nat} {ls st : List kV} {h : kH} {Φ : Nat → List kV → List kV → kH → Prop} {idx : Nat} (hd : decode t.2.1 pc = .ok (.getstatic idx, 3)) (hp : pc + 3 = pc') (hw : Cond.fieldLink t.1.cls idx "jdk/internal/util/Preconditions" "SIOOBE_FORMATTER" "Ljava/util/function/BiFunction;" ∈ kTbl) (kk : ∀ z : kV, (z = ku ∨ z = kr 3000) → At t pc' ls (z :: st) h Φ) : At t pc ls st h Φ := by
  subst hp
  intro p l e R s m args below meth c cells slots Qw dC dI a cI cL A C K H locs lsA hl hP hS
  rcases C.2.2.2.2.2.2.2.2.2.1.2.2.2.2 with hz | hz
  · exact va_gets C.1 C.2.1 hz hS C.2.2.2.1 (C.2.2.2.2.1 _ hw) (fun _ z => z) hd (kk ku (Or.inl rfl) p l e R s m args below meth c cells slots Qw dC dI a cI cL A C K H locs lsA hl hP hS)
  · exact va_gets C.1 C.2.1 hz hS C.2.2.2.1 (C.2.2.2.2.1 _ hw) (fun _ z => z) hd (kk (kr 3000) (Or.inr rfl) p l e R s m args below meth c cells slots Qw dC dI a cI cL A C K H locs lsA hl hP hS)
theorem k_strlen {t : kM} {pc pc' : Nat} {ls st : List kV} {h : kH} {Φ : Nat → List kV → List kV → kH → Prop} {i : Nat} (hi : i < 8) (hd : decode t.2.1 pc = .ok (.arraylength, 1)) (hp : pc + 1 = pc') (kk : At t pc' ls (ki (nI (kLen.getD i 0)) :: st) h Φ) : At t pc ls (kr (2000 + i) :: st) h Φ := by
  subst hp
  intro p l e R s m args below meth c cells slots Qw dC dI a cI cL A C K H locs lsA hl hP hS
  exact va_tlen C.1 C.2.1 (C.2.2.2.2.2.2.2.2.2.1.2.1.1 i hi).2.2.2 hS rfl hd (kk p l e R s m args below meth c cells slots Qw dC dI a cI cL A C K H locs lsA hl hP hS)
theorem k_strbyt {t : kM} {pc pc' : Nat} {ls st : List kV} {h : kH} {Φ : Nat → List kV → List kV → kH → Prop} {i : Nat} {x : Int32} (hi : i < 8) (hx : vp_in x (kLen.getD i 0)) (hd : decode t.2.1 pc = .ok (.baload, 1)) (hp : pc + 1 = pc') (kk : At t pc' ls (ki ((kByt.getD i []).getD x.toNatClampNeg 0) :: st) h Φ) : At t pc ls (ki x :: kr (2000 + i) :: st) h Φ := by
  subst hp
  intro p l e R s m args below meth c cells slots Qw dC dI a cI cL A C K H locs lsA hl hP hS
  exact va_tb C.1 C.2.1 (C.2.2.2.2.2.2.2.2.2.1.2.1.1 i hi).2.2.2 hS hx rfl hd (kk p l e R s m args below meth c cells slots Qw dC dI a cI cL A C K H locs lsA hl hP hS)
theorem k_i2c {t : kM} {pc pc' : Nat} {ls st : List kV} {h : kH} {Φ : Nat → List kV → List kV → kH → Prop} {x : Int32} (hd : decode t.2.1 pc = .ok (.i2c, 1)) (hp : pc + 1 = pc') (kk : At t pc' ls (ki ((x.toUInt32 % 65536).toInt32) :: st) h Φ) : At t pc ls (ki x :: st) h Φ := by
  subst hp
  intro p l e R s m args below meth c cells slots Qw dC dI a cI cL A C K H locs lsA hl hP hS
  exact lv_i2c C.1 C.2.1 hd rfl (kk p l e R s m args below meth c cells slots Qw dC dI a cI cL A C K H locs lsA hl hP hS)
theorem k_nret {t : kM} {pc : Nat} {ls : List kV} {h : kH} {Q : kV → kH → Prop} {v : Int32} {ty : FieldType} (hd : decode t.2.1 pc = .ok (.ireturn, 1)) (hr : t.2.2.2.1 = some ty) (hn : narrow ty (.int v) = .int v) (hq : Q (ki v) h) : At t pc ls [ki v] h (kRet t Q) := k_done (Or.inl ⟨v, rfl, hd, ⟨ty, hr, hn⟩, hq⟩)
theorem k_callVS {t t2 : kM} {pc pc' : Nat} {ls st as : List kV} {h : kH} {Φ : Nat → List kV → List kV → kH → Prop} {idx n i : Nat} {Q : kV → kH → Prop} (hi : i < 8) (hcl : t2.1.cls = "java/lang/String") (hd : decode t.2.1 pc = .ok (.invokevirtual idx, 3)) (hp : pc + 3 = pc') (hm : kMV t.1.cls idx t2 n) (hn : as.length = n) (hroom : t2.2.2.2.2.1 + 1 ≤ t.2.2.2.2.1 ∧ 8 + (t2.2.2.1 + 11) + t2.2.2.2.2.2 ≤ t.2.2.2.2.2) (hst : (st.map kcat).sum ≤ 8) (ev : Ev t2 (kr (1000 + i) :: as) h Q) (kk : ∀ r h', Q r h' → At t pc' ls (kpush r st) h' Φ) : At t pc ls (as.reverse ++ kr (1000 + i) :: st) h Φ := by
  subst hp
  intro p l e R s m args below meth c cells slots Qw dC dI a cI cL A C K H locs lsA hl hP hS
  have hA : ∀ q, kA a H.size q → A q := fun q hq => by
    rcases hq with ⟨k', hk', rfl⟩ | hq
    · exact C.2.2.2.2.2.2.2.1 k' hk'
    · exact C.2.2.2.2.2.2.2.2.1 q (Nat.le_trans hS.1 hq)
  have hE : ∀ U : State, U.heap = H → s.WarmedH U.vm → kEnv a (kA a H.size) U U.heap := fun U hU hW => by
    rw [hU]
    exact (kEnv.warm hW (C.2.2.2.2.2.2.2.2.2.1.kept hS.2.1)).narrow hA
  obtain ⟨⟨hdd, hcd, hini⟩, hlk, hinst, hsel⟩ := hm
  have ht := C.2.2.2.2.1
  have hfr := C.2.2.2.2.2.2.2.2.2.2
  have cw : CallW R s args t.1.cls t2.1.cls idx t2.1 t2.2.1 t2.2.2.1 t2.2.2.2.1 (kcode t2 :: kTbl) (krm t2) 0 0 n := ⟨callB_of n ht (k_goodIn (t := t) hcd) rfl rfl rfl (ht _ hini) (ht _ hlk) hdd ⟨Nat.le_trans hroom.1 hfr.1, Nat.le_trans hroom.2 hfr.2.1⟩, ht _ hinst, ht _ hsel⟩
  refine k_run (va_runV (As := as.map (cv a)) (rest := st.map (cv a)) ⟨C.1, C.2.1, C.2.2.1, C.2.2.2.1, ht⟩ (ev l dC dI a cI cL H.size) cw ⟨k_Pblind, (by rw [hcl]; exact vk_recv (adK := fun i => a (1000 + i)) (i := i) C.2.2.2.2.2.2.2.2.2.1.2.1 hi hS), fun U hU hW => ⟨rfl, by rw [hU], by rw [hU]; exact hP, va_K.moved hW.alike C.2.2.2.2.2.1, C.2.2.2.2.2.2.1, hE U hU hW⟩⟩ rfl (by rw [List.length_map]; exact hn) hl.1 (by simp [cv]) (lv_room (by rw [List.map_map]; exact (by simpa [Function.comp_def, kcat_cv] using hst))) hd ⟨hfr.2.2.1, hfr.2.2.2⟩) hS hA (fun r h' H1 locs1 hQ hP1 hS1 => ?_)
  rw [kpush_ret]
  exact kk r h' hQ p l e R s m args below meth c cells slots Qw dC dI a cI cL A C K H1 locs1 lsA hl hP1 hS1
theorem k_callVS0 {t t2 : kM} {pc pc' : Nat} {ls st : List kV} {h : kH} {Φ : Nat → List kV → List kV → kH → Prop} {idx i : Nat} {Q : kV → kH → Prop} (hi : i < 8) (hcl : t2.1.cls = "java/lang/String") (hd : decode t.2.1 pc = .ok (.invokevirtual idx, 3)) (hp : pc + 3 = pc') (hm : kMV t.1.cls idx t2 0) (hroom : t2.2.2.2.2.1 + 1 ≤ t.2.2.2.2.1 ∧ 8 + (t2.2.2.1 + 11) + t2.2.2.2.2.2 ≤ t.2.2.2.2.2) (hst : (st.map kcat).sum ≤ 8) (ev : Ev t2 (kr (1000 + i) :: []) h Q) (kk : ∀ r h', Q r h' → At t pc' ls (kpush r st) h' Φ) : At t pc ls (kr (1000 + i) :: st) h Φ := k_callVS (as := []) hi hcl hd hp hm rfl hroom hst ev kk
theorem k_callVS1 {t t2 : kM} {pc pc' : Nat} {ls st : List kV} {x1 : kV} {h : kH} {Φ : Nat → List kV → List kV → kH → Prop} {idx i : Nat} {Q : kV → kH → Prop} (hi : i < 8) (hcl : t2.1.cls = "java/lang/String") (hd : decode t.2.1 pc = .ok (.invokevirtual idx, 3)) (hp : pc + 3 = pc') (hm : kMV t.1.cls idx t2 1) (hroom : t2.2.2.2.2.1 + 1 ≤ t.2.2.2.2.1 ∧ 8 + (t2.2.2.1 + 11) + t2.2.2.2.2.2 ≤ t.2.2.2.2.2) (hst : (st.map kcat).sum ≤ 8) (ev : Ev t2 (kr (1000 + i) :: [x1]) h Q) (kk : ∀ r h', Q r h' → At t pc' ls (kpush r st) h' Φ) : At t pc ls (x1 :: kr (1000 + i) :: st) h Φ := k_callVS (as := [x1]) hi hcl hd hp hm rfl hroom hst ev kk
theorem sd_J0_coder_7d493 : kMd kJ0_coder_7d493 0 := ⟨⟨(by decide +kernel), (by decide +kernel), (by decide +kernel)⟩, kw 521 (by decide +kernel) (by decide +kernel), kw 46 (by decide +kernel) (by decide +kernel)⟩
theorem sl_RJ0_335 : kMV RJ0 335 kJ0_coder_7d493 0 := ⟨sd_J0_coder_7d493, kw 518 (by decide +kernel) (by decide +kernel), kw 519 (by decide +kernel) (by decide +kernel), kw 520 (by decide +kernel) (by decide +kernel)⟩
theorem sd_J0_isLatin1_aae02 : kMd kJ0_isLatin1_aae02 0 := ⟨⟨(by decide +kernel), (by decide +kernel), (by decide +kernel)⟩, kw 532 (by decide +kernel) (by decide +kernel), kw 46 (by decide +kernel) (by decide +kernel)⟩
theorem sl_RJ0_492 : kMV RJ0 492 kJ0_isLatin1_aae02 0 := ⟨sd_J0_isLatin1_aae02, kw 529 (by decide +kernel) (by decide +kernel), kw 530 (by decide +kernel) (by decide +kernel), kw 531 (by decide +kernel) (by decide +kernel)⟩
theorem sd_J1_charAt_3b067 : kMd kJ1_charAt_3b067 2 := ⟨⟨(by decide +kernel), (by decide +kernel), (by decide +kernel)⟩, kw 535 (by decide +kernel) (by decide +kernel), kw 47 (by decide +kernel) (by decide +kernel)⟩
theorem sl_RJ0_495 : kMS RJ0 495 kJ1_charAt_3b067 2 := ⟨sd_J1_charAt_3b067, kw 534 (by decide +kernel) (by decide +kernel), Or.inl (kw 533 (by decide +kernel) (by decide +kernel))⟩
theorem sd_J0_checkIndex_df160 : kMd kJ0_checkIndex_df160 2 := ⟨⟨(by decide +kernel), (by decide +kernel), (by decide +kernel)⟩, kw 538 (by decide +kernel) (by decide +kernel), kw 46 (by decide +kernel) (by decide +kernel)⟩
theorem sl_RJ1_9 : kMS RJ1 9 kJ0_checkIndex_df160 2 := ⟨sd_J0_checkIndex_df160, kw 537 (by decide +kernel) (by decide +kernel), Or.inl (kw 536 (by decide +kernel) (by decide +kernel))⟩
theorem sd_J3_checkIndex_8e157 : kMd kJ3_checkIndex_8e157 3 := ⟨⟨(by decide +kernel), (by decide +kernel), (by decide +kernel)⟩, kw 543 (by decide +kernel) (by decide +kernel), kw 48 (by decide +kernel) (by decide +kernel)⟩
theorem sl_RJ0_1059 : kMS RJ0 1059 kJ3_checkIndex_8e157 3 := ⟨sd_J3_checkIndex_8e157, kw 542 (by decide +kernel) (by decide +kernel), Or.inl (kw 541 (by decide +kernel) (by decide +kernel))⟩
theorem sf_9 : Cond.fieldLink RJ0 9 "java/lang/String" "value" "[B" ∈ kTbl := kw 1120 (by decide +kernel) (by decide +kernel)
theorem sf_15 : Cond.fieldLink RJ0 15 "java/lang/String" "coder" "B" ∈ kTbl := kw 1121 (by decide +kernel) (by decide +kernel)
theorem sf_38 : Cond.fieldLink RJ0 38 "java/lang/String" "COMPACT_STRINGS" "Z" ∈ kTbl := kw 522 (by decide +kernel) (by decide +kernel)
theorem sf_1053 : Cond.fieldLink RJ0 1053 "jdk/internal/util/Preconditions" "SIOOBE_FORMATTER" "Ljava/util/function/BiFunction;" ∈ kTbl := kw 539 (by decide +kernel) (by decide +kernel)
set_option maxHeartbeats 400000 in
set_option maxRecDepth 100000 in
theorem ev_J0_coder_7d493 {i : Nat} (hi : i < 8) {μ : kH} : Ev kJ0_coder_7d493 [kr (1000 + i)] μ (fun r h' => r = ki 0 ∧ h' = μ) := by
  refine k_ev (ls := [_]) (by decide) (Nat.le_of_ble_eq_true rfl) rfl ?_
  refine k_gsCS (pc' := 3) dJ0_coder_7d493_0 rfl sf_38 ?_
  refine k_if_eq (pc' := 6) (tg := 13) dJ0_coder_7d493_3 rfl (by decide) (fun c => absurd c (by decide)) (fun c => ?_)
  refine k_aload_n (pc' := 7) dJ0_coder_7d493_6 rfl rfl ?_
  refine k_strcod (pc' := 10) hi dJ0_coder_7d493_7 rfl sf_15 ?_
  refine k_goto (tg := 14) dJ0_coder_7d493_10 (by decide) ?_
  exact k_nret dJ0_coder_7d493_14 rfl (by decide) ⟨rfl, rfl⟩
set_option maxHeartbeats 400000 in
set_option maxRecDepth 100000 in
theorem ev_J0_isLatin1_aae02 {i : Nat} (hi : i < 8) {μ : kH} : Ev kJ0_isLatin1_aae02 [kr (1000 + i)] μ (fun r h' => r = ki 1 ∧ h' = μ) := by
  refine k_ev (ls := [_]) (by decide) (Nat.le_of_ble_eq_true rfl) rfl ?_
  refine k_gsCS (pc' := 3) dJ0_isLatin1_aae02_0 rfl sf_38 ?_
  refine k_if_eq (pc' := 6) (tg := 17) dJ0_isLatin1_aae02_3 rfl (by decide) (fun c => absurd c (by decide)) (fun c => ?_)
  refine k_aload_n (pc' := 7) dJ0_isLatin1_aae02_6 rfl rfl ?_
  refine k_strcod (pc' := 10) hi dJ0_isLatin1_aae02_7 rfl sf_15 ?_
  refine k_if_ne (pc' := 13) (tg := 17) dJ0_isLatin1_aae02_10 rfl (by decide) (fun c => absurd rfl c) (fun c => ?_)
  refine k_iconst (pc' := 14) (v := 1) dJ0_isLatin1_aae02_13 rfl (by decide) ?_
  refine k_goto (tg := 18) dJ0_isLatin1_aae02_14 (by decide) ?_
  exact k_nret dJ0_isLatin1_aae02_18 rfl (by decide) ⟨rfl, rfl⟩
theorem k_shr0 : ∀ i, i < 8 → nI (kLen.getD i 0) >>> ((0 : Int32) &&& 31) = nI (kLen.getD i 0) := by decide +kernel
theorem k_chr : ∀ i, i < 8 → ∀ k, k < kLen.getD i 0 → ((((kByt.getD i []).getD k 0) &&& 255).toUInt32 % 65536).toInt32 = (kByt.getD i []).getD k 0 ∧ narrow .char (.int ((kByt.getD i []).getD k 0)) = .int ((kByt.getD i []).getD k 0) := by decide +kernel
theorem k_len8 : ∀ i, i < 8 → kLen.getD i 0 < 10 := by decide +kernel
set_option maxHeartbeats 400000 in
set_option maxRecDepth 100000 in
theorem ev_J0_length_8abf5 {i : Nat} (hi : i < 8) {μ : kH} : Ev kJ0_length_8abf5 [kr (1000 + i)] μ (fun r h' => r = ki (nI (kLen.getD i 0)) ∧ h' = μ) := by
  refine k_ev (ls := [_]) (by decide) (Nat.le_of_ble_eq_true rfl) rfl ?_
  refine k_aload_n (pc' := 1) dJ0_length_8abf5_0 rfl rfl ?_
  refine k_strval (pc' := 4) hi dJ0_length_8abf5_1 rfl sf_9 ?_
  refine k_strlen (pc' := 5) hi dJ0_length_8abf5_4 rfl ?_
  refine k_aload_n (pc' := 6) dJ0_length_8abf5_5 rfl rfl ?_
  refine k_callVS0 (pc' := 9) hi rfl dJ0_length_8abf5_6 rfl sl_RJ0_335 ⟨(Nat.le_of_ble_eq_true rfl), (Nat.le_of_ble_eq_true rfl)⟩ (Nat.le_of_ble_eq_true rfl) (ev_J0_coder_7d493 hi) (fun r1 h1 q1 => ?_)
  obtain ⟨e1, e2⟩ := q1
  rw [e1, e2]
  refine k_ishr (pc' := 10) dJ0_length_8abf5_9 rfl ?_
  exact k_nret dJ0_length_8abf5_10 rfl rfl ⟨congrArg (fun z => ki z) (k_shr0 i hi), rfl⟩
set_option maxHeartbeats 400000 in
set_option maxRecDepth 100000 in
theorem ev_J3_checkIndex_8e157 {x n : Nat} {z : kV} (hx : x < n) (hn : n < 10) (hz : z = ku ∨ z = kr 3000) {μ : kH} : Ev kJ3_checkIndex_8e157 [ki (nI x), ki (nI n), z] μ (fun r h' => r = ki (nI x) ∧ h' = μ) := by
  rcases hz with rfl | rfl
  · refine k_ev (ls := [_, _, _]) (by decide) (Nat.le_of_ble_eq_true rfl) rfl ?_
    refine k_iload_n (pc' := 1) dJ3_checkIndex_8e157_0 rfl rfl ?_
    refine k_if_lt (pc' := 4) (tg := 9) dJ3_checkIndex_8e157_1 rfl (by decide) (fun c => absurd c (nI_pos (by omega))) (fun c => ?_)
    refine k_iload_n (pc' := 5) dJ3_checkIndex_8e157_4 rfl rfl ?_
    refine k_iload_n (pc' := 6) dJ3_checkIndex_8e157_5 rfl rfl ?_
    refine k_icmp_lt (pc' := 9) (tg := 16) dJ3_checkIndex_8e157_6 rfl (by decide) (fun c => ?_) (fun c => absurd (nI_lt hx (by omega)) c)
    refine k_iload_n (pc' := 17) dJ3_checkIndex_8e157_16 rfl rfl ?_
    exact k_nret dJ3_checkIndex_8e157_17 rfl rfl ⟨rfl, rfl⟩
  · refine k_ev (ls := [_, _, _]) (by decide) (Nat.le_of_ble_eq_true rfl) rfl ?_
    refine k_iload_n (pc' := 1) dJ3_checkIndex_8e157_0 rfl rfl ?_
    refine k_if_lt (pc' := 4) (tg := 9) dJ3_checkIndex_8e157_1 rfl (by decide) (fun c => absurd c (nI_pos (by omega))) (fun c => ?_)
    refine k_iload_n (pc' := 5) dJ3_checkIndex_8e157_4 rfl rfl ?_
    refine k_iload_n (pc' := 6) dJ3_checkIndex_8e157_5 rfl rfl ?_
    refine k_icmp_lt (pc' := 9) (tg := 16) dJ3_checkIndex_8e157_6 rfl (by decide) (fun c => ?_) (fun c => absurd (nI_lt hx (by omega)) c)
    refine k_iload_n (pc' := 17) dJ3_checkIndex_8e157_16 rfl rfl ?_
    exact k_nret dJ3_checkIndex_8e157_17 rfl rfl ⟨rfl, rfl⟩
set_option maxHeartbeats 400000 in
set_option maxRecDepth 100000 in
theorem ev_J0_checkIndex_df160 {x n : Nat} (hx : x < n) (hn : n < 10) {μ : kH} : Ev kJ0_checkIndex_df160 [ki (nI x), ki (nI n)] μ (fun r h' => r = ku ∧ h' = μ) := by
  refine k_ev (ls := [_, _]) (by decide) (Nat.le_of_ble_eq_true rfl) rfl ?_
  refine k_iload_n (pc' := 1) dJ0_checkIndex_df160_0 rfl rfl ?_
  refine k_iload_n (pc' := 2) dJ0_checkIndex_df160_1 rfl rfl ?_
  refine k_gsSF (pc' := 5) dJ0_checkIndex_df160_2 rfl sf_1053 (fun z hz => ?_)
  refine k_callS3 (pc' := 8) dJ0_checkIndex_df160_5 rfl sl_RJ0_1059 ⟨(Nat.le_of_ble_eq_true rfl), (Nat.le_of_ble_eq_true rfl)⟩ (Nat.le_of_ble_eq_true rfl) (ev_J3_checkIndex_8e157 hx hn hz) (fun r1 h1 q1 => ?_)
  obtain ⟨e1, e2⟩ := q1
  rw [e1, e2]
  refine k_pop (pc' := 9) dJ0_checkIndex_df160_8 rfl rfl ?_
  exact k_vret dJ0_checkIndex_df160_9 rfl ⟨rfl, rfl⟩
set_option maxHeartbeats 400000 in
set_option maxRecDepth 100000 in
theorem ev_J1_charAt_3b067 {i : Nat} (hi : i < 8) {k : Nat} (hk : k < kLen.getD i 0) {μ : kH} : Ev kJ1_charAt_3b067 [kr (2000 + i), ki (nI k)] μ (fun r h' => r = ki ((kByt.getD i []).getD k 0) ∧ h' = μ) := by
  refine k_ev (ls := [_, _]) (by decide) (Nat.le_of_ble_eq_true rfl) rfl ?_
  have h10 := k_len8 i hi
  refine k_iload_n (pc' := 1) dJ1_charAt_3b067_0 rfl rfl ?_
  refine k_aload_n (pc' := 2) dJ1_charAt_3b067_1 rfl rfl ?_
  refine k_strlen (pc' := 3) hi dJ1_charAt_3b067_2 rfl ?_
  refine k_callS2 (pc' := 6) dJ1_charAt_3b067_3 rfl sl_RJ1_9 ⟨(Nat.le_of_ble_eq_true rfl), (Nat.le_of_ble_eq_true rfl)⟩ (Nat.le_of_ble_eq_true rfl) (ev_J0_checkIndex_df160 hk h10) (fun r1 h1 q1 => ?_)
  obtain ⟨e1, e2⟩ := q1
  rw [e1, e2]
  refine k_aload_n (pc' := 7) dJ1_charAt_3b067_6 rfl rfl ?_
  refine k_iload_n (pc' := 8) dJ1_charAt_3b067_7 rfl rfl ?_
  refine k_strbyt (pc' := 9) hi (vp_in_nI hk (by omega)) dJ1_charAt_3b067_8 rfl ?_
  rw [nI_clamp (by omega)]
  refine k_sipush (pc' := 12) (v := 255) dJ1_charAt_3b067_9 rfl (by decide) ?_
  refine k_iand (pc' := 13) dJ1_charAt_3b067_12 rfl ?_
  refine k_i2c (pc' := 14) dJ1_charAt_3b067_13 rfl ?_
  rw [(k_chr i hi k hk).1]
  exact k_nret dJ1_charAt_3b067_14 rfl (k_chr i hi k hk).2 ⟨rfl, rfl⟩
set_option maxHeartbeats 400000 in
set_option maxRecDepth 100000 in
theorem ev_J0_charAt_5068e {i : Nat} (hi : i < 8) {k : Nat} (hk : k < kLen.getD i 0) {μ : kH} : Ev kJ0_charAt_5068e [kr (1000 + i), ki (nI k)] μ (fun r h' => r = ki ((kByt.getD i []).getD k 0) ∧ h' = μ) := by
  refine k_ev (ls := [_, _]) (by decide) (Nat.le_of_ble_eq_true rfl) rfl ?_
  refine k_aload_n (pc' := 1) dJ0_charAt_5068e_0 rfl rfl ?_
  refine k_callVS0 (pc' := 4) hi rfl dJ0_charAt_5068e_1 rfl sl_RJ0_492 ⟨(Nat.le_of_ble_eq_true rfl), (Nat.le_of_ble_eq_true rfl)⟩ (Nat.le_of_ble_eq_true rfl) (ev_J0_isLatin1_aae02 hi) (fun r1 h1 q1 => ?_)
  obtain ⟨e1, e2⟩ := q1
  rw [e1, e2]
  refine k_if_eq (pc' := 7) (tg := 16) dJ0_charAt_5068e_4 rfl (by decide) (fun c => absurd c (by decide)) (fun c => ?_)
  refine k_aload_n (pc' := 8) dJ0_charAt_5068e_7 rfl rfl ?_
  refine k_strval (pc' := 11) hi dJ0_charAt_5068e_8 rfl sf_9 ?_
  refine k_iload_n (pc' := 12) dJ0_charAt_5068e_11 rfl rfl ?_
  refine k_callS2 (pc' := 15) dJ0_charAt_5068e_12 rfl sl_RJ0_495 ⟨(Nat.le_of_ble_eq_true rfl), (Nat.le_of_ble_eq_true rfl)⟩ (Nat.le_of_ble_eq_true rfl) (ev_J1_charAt_3b067 hi hk) (fun r2 h2 q2 => ?_)
  obtain ⟨e3, e4⟩ := q2
  rw [e3, e4]
  exact k_nret dJ0_charAt_5068e_15 rfl (k_chr i hi k hk).2 ⟨rfl, rfl⟩
