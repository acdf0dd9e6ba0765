def w2M (a b : Int32) : Int64 := (a.toInt64 - 96) * 32 + b.toInt64 - 96
def wNM (v : Int64) (c : Int32) : Int64 := if c = 0 then v else v * 32 + c.toInt64 - 96
/-- what must holds, or the fault, or nothing any more -/
def mustR (μ : kH) (L p : Nat) (c : Prop) (h' : kH) : Prop := (¬ μ.1 46 33 = 0 ∧ h' = μ) ∨ (μ.1 46 33 = 0 ∧ ¬ c ∧ h' = hI (hI μ 46 33 1) 46 32 (μ.1 46 28)) ∨ (μ.1 46 33 = 0 ∧ c ∧ nxR μ L p h')

set_option maxHeartbeats 400000 in
set_option maxRecDepth 100000 in
theorem ev_X11_isWord {a b c d e : Int32} {μ : kH} : Ev kX11_isWord [kr 46, ki a, ki b, ki c, ki d, ki e] μ (fun r h' => r = ki (if μ.1 46 30 = 1 ∧ μ.2 46 31 = wNM (wNM (wNM (w2M a b) c) d) e then 1 else 0) ∧ h' = μ) := by
  refine k_ev (ls := [_, _, _, _, _, _, _, _]) (by decide) (Nat.le_of_ble_eq_true rfl) rfl ?_
  refine k_iload_n (pc' := 1) dX11_isWord_0 rfl rfl ?_
  refine k_i2l (pc' := 2) dX11_isWord_1 rfl ?_
  refine k_ldc2 (pc' := 5) dX11_isWord_2 rfl kc_RX11_200 ?_
  refine k_lsub (pc' := 6) dX11_isWord_5 rfl ?_
  refine k_ldc2 (pc' := 9) dX11_isWord_6 rfl kc_RX11_198 ?_
  refine k_lmul (pc' := 10) dX11_isWord_9 rfl ?_
  refine k_iload_n (pc' := 11) dX11_isWord_10 rfl rfl ?_
  refine k_i2l (pc' := 12) dX11_isWord_11 rfl ?_
  refine k_ladd (pc' := 13) dX11_isWord_12 rfl ?_
  refine k_ldc2 (pc' := 16) dX11_isWord_13 rfl kc_RX11_200 ?_
  refine k_lsub (pc' := 17) dX11_isWord_16 rfl ?_
  refine k_topl (fun y_17 e_17 => ?_)
  have f_17 : y_17 = w2M a b := by rw [e_17]; rfl
  rw [f_17]
  refine k_lstore (pc' := 19) (k0 := 0) (ls' := [_, _, _, _, _, _, _, _]) dX11_isWord_17 rfl (by decide) rfl ?_
  refine k_iload_n (pc' := 20) dX11_isWord_19 rfl rfl ?_
  refine k_if_ne (pc' := 23) (tg := 28) dX11_isWord_20 rfl (by decide) (fun c_20 => ?_) (fun c_20 => ?_)
  · skip
    refine k_lload (pc' := 30) dX11_isWord_28 rfl rfl ?_
    refine k_ldc2 (pc' := 33) dX11_isWord_30 rfl kc_RX11_198 ?_
    refine k_lmul (pc' := 34) dX11_isWord_33 rfl ?_
    refine k_iload_n (pc' := 35) dX11_isWord_34 rfl rfl ?_
    refine k_i2l (pc' := 36) dX11_isWord_35 rfl ?_
    refine k_ladd (pc' := 37) dX11_isWord_36 rfl ?_
    refine k_ldc2 (pc' := 40) dX11_isWord_37 rfl kc_RX11_200 ?_
    refine k_lsub (pc' := 41) dX11_isWord_40 rfl ?_
    refine k_topl (fun y_41 e_41 => ?_)
    have f_41 : y_41 = wNM (w2M a b) c := by rw [e_41]; unfold wNM; first | rw [if_pos c_20] | rw [if_neg c_20]
    rw [f_41]
    refine k_lstore (pc' := 43) (k0 := 0) (ls' := [_, _, _, _, _, _, _, _]) dX11_isWord_41 rfl (by decide) rfl ?_
    refine k_iload (pc' := 45) dX11_isWord_43 rfl rfl ?_
    refine k_if_ne (pc' := 48) (tg := 53) dX11_isWord_45 rfl (by decide) (fun c_45 => ?_) (fun c_45 => ?_)
    · skip
      refine k_lload (pc' := 55) dX11_isWord_53 rfl rfl ?_
      refine k_ldc2 (pc' := 58) dX11_isWord_55 rfl kc_RX11_198 ?_
      refine k_lmul (pc' := 59) dX11_isWord_58 rfl ?_
      refine k_iload (pc' := 61) dX11_isWord_59 rfl rfl ?_
      refine k_i2l (pc' := 62) dX11_isWord_61 rfl ?_
      refine k_ladd (pc' := 63) dX11_isWord_62 rfl ?_
      refine k_ldc2 (pc' := 66) dX11_isWord_63 rfl kc_RX11_200 ?_
      refine k_lsub (pc' := 67) dX11_isWord_66 rfl ?_
      refine k_topl (fun y_67 e_67 => ?_)
      have f_67 : y_67 = wNM (wNM (w2M a b) c) d := by rw [e_67]; unfold wNM; first | rw [if_pos c_45] | rw [if_neg c_45]
      rw [f_67]
      refine k_lstore (pc' := 69) (k0 := 0) (ls' := [_, _, _, _, _, _, _, _]) dX11_isWord_67 rfl (by decide) rfl ?_
      refine k_iload (pc' := 71) dX11_isWord_69 rfl rfl ?_
      refine k_if_ne (pc' := 74) (tg := 79) dX11_isWord_71 rfl (by decide) (fun c_71 => ?_) (fun c_71 => ?_)
      · skip
        refine k_lload (pc' := 81) dX11_isWord_79 rfl rfl ?_
        refine k_ldc2 (pc' := 84) dX11_isWord_81 rfl kc_RX11_198 ?_
        refine k_lmul (pc' := 85) dX11_isWord_84 rfl ?_
        refine k_iload (pc' := 87) dX11_isWord_85 rfl rfl ?_
        refine k_i2l (pc' := 88) dX11_isWord_87 rfl ?_
        refine k_ladd (pc' := 89) dX11_isWord_88 rfl ?_
        refine k_ldc2 (pc' := 92) dX11_isWord_89 rfl kc_RX11_200 ?_
        refine k_lsub (pc' := 93) dX11_isWord_92 rfl ?_
        refine k_topl (fun y_93 e_93 => ?_)
        have f_93 : y_93 = wNM (wNM (wNM (w2M a b) c) d) e := by rw [e_93]; unfold wNM; first | rw [if_pos c_71] | rw [if_neg c_71]
        rw [f_93]
        refine k_lstore (pc' := 95) (k0 := 0) (ls' := [_, _, _, _, _, _, _, _]) dX11_isWord_93 rfl (by decide) rfl ?_
        refine k_aload_n (pc' := 96) dX11_isWord_95 rfl rfl ?_
        refine k_getI (pc' := 99) fl_RX11_195 dX11_isWord_96 rfl rfl rfl ?_
        refine k_iconst (pc' := 100) (v := 1) dX11_isWord_99 rfl (by decide) ?_
        refine k_icmp_ne (pc' := 103) (tg := 117) dX11_isWord_100 rfl (by decide) (fun c_100 => ?_) (fun c_100 => ?_)
        · skip
          have hno : ¬ (μ.1 46 30 = 1 ∧ μ.2 46 31 = wNM (wNM (wNM (w2M a b) c) d) e) := fun z => c_100 z.1
          refine k_iconst (pc' := 118) (v := 0) dX11_isWord_117 rfl (by decide) ?_
          exact k_zret dX11_isWord_118 rfl (by first | decide | exact k_nz) (by rw [if_neg hno]; exact ⟨rfl, rfl⟩)
        · skip
          refine k_aload_n (pc' := 104) dX11_isWord_103 rfl rfl ?_
          refine k_getL (pc' := 107) fl_RX11_185 dX11_isWord_104 rfl rfl rfl ?_
          refine k_lload (pc' := 109) dX11_isWord_107 rfl rfl ?_
          refine k_lcmp (pc' := 110) dX11_isWord_109 rfl ?_
          refine k_if_ne (pc' := 113) (tg := 117) dX11_isWord_110 rfl (by decide) (fun c_110 => ?_) (fun c_110 => ?_)
          · skip
            have hno : ¬ (μ.1 46 30 = 1 ∧ μ.2 46 31 = wNM (wNM (wNM (w2M a b) c) d) e) := fun z => c_110 (k_c0.mpr z.2)
            refine k_iconst (pc' := 118) (v := 0) dX11_isWord_117 rfl (by decide) ?_
            exact k_zret dX11_isWord_118 rfl (by first | decide | exact k_nz) (by rw [if_neg hno]; exact ⟨rfl, rfl⟩)
          · skip
            have hys : μ.1 46 30 = 1 ∧ μ.2 46 31 = wNM (wNM (wNM (w2M a b) c) d) e := ⟨c_100, k_c0.mp c_110⟩
            refine k_iconst (pc' := 114) (v := 1) dX11_isWord_113 rfl (by decide) ?_
            refine k_goto (tg := 118) dX11_isWord_114 (by decide) ?_
            exact k_zret dX11_isWord_118 rfl (by first | decide | exact k_nz) (by rw [if_pos hys]; exact ⟨rfl, rfl⟩)
      · skip
        refine k_lload (pc' := 76) dX11_isWord_74 rfl rfl ?_
        refine k_goto (tg := 93) dX11_isWord_76 (by decide) ?_
        refine k_topl (fun y_93 e_93 => ?_)
        have f_93 : y_93 = wNM (wNM (wNM (w2M a b) c) d) e := by rw [e_93]; unfold wNM; first | rw [if_pos c_71] | rw [if_neg c_71]
        rw [f_93]
        refine k_lstore (pc' := 95) (k0 := 0) (ls' := [_, _, _, _, _, _, _, _]) dX11_isWord_93 rfl (by decide) rfl ?_
        refine k_aload_n (pc' := 96) dX11_isWord_95 rfl rfl ?_
        refine k_getI (pc' := 99) fl_RX11_195 dX11_isWord_96 rfl rfl rfl ?_
        refine k_iconst (pc' := 100) (v := 1) dX11_isWord_99 rfl (by decide) ?_
        refine k_icmp_ne (pc' := 103) (tg := 117) dX11_isWord_100 rfl (by decide) (fun c_100 => ?_) (fun c_100 => ?_)
        · skip
          have hno : ¬ (μ.1 46 30 = 1 ∧ μ.2 46 31 = wNM (wNM (wNM (w2M a b) c) d) e) := fun z => c_100 z.1
          refine k_iconst (pc' := 118) (v := 0) dX11_isWord_117 rfl (by decide) ?_
          exact k_zret dX11_isWord_118 rfl (by first | decide | exact k_nz) (by rw [if_neg hno]; exact ⟨rfl, rfl⟩)
        · skip
          refine k_aload_n (pc' := 104) dX11_isWord_103 rfl rfl ?_
          refine k_getL (pc' := 107) fl_RX11_185 dX11_isWord_104 rfl rfl rfl ?_
          refine k_lload (pc' := 109) dX11_isWord_107 rfl rfl ?_
          refine k_lcmp (pc' := 110) dX11_isWord_109 rfl ?_
          refine k_if_ne (pc' := 113) (tg := 117) dX11_isWord_110 rfl (by decide) (fun c_110 => ?_) (fun c_110 => ?_)
          · skip
            have hno : ¬ (μ.1 46 30 = 1 ∧ μ.2 46 31 = wNM (wNM (wNM (w2M a b) c) d) e) := fun z => c_110 (k_c0.mpr z.2)
            refine k_iconst (pc' := 118) (v := 0) dX11_isWord_117 rfl (by decide) ?_
            exact k_zret dX11_isWord_118 rfl (by first | decide | exact k_nz) (by rw [if_neg hno]; exact ⟨rfl, rfl⟩)
          · skip
            have hys : μ.1 46 30 = 1 ∧ μ.2 46 31 = wNM (wNM (wNM (w2M a b) c) d) e := ⟨c_100, k_c0.mp c_110⟩
            refine k_iconst (pc' := 114) (v := 1) dX11_isWord_113 rfl (by decide) ?_
            refine k_goto (tg := 118) dX11_isWord_114 (by decide) ?_
            exact k_zret dX11_isWord_118 rfl (by first | decide | exact k_nz) (by rw [if_pos hys]; exact ⟨rfl, rfl⟩)
    · skip
      refine k_lload (pc' := 50) dX11_isWord_48 rfl rfl ?_
      refine k_goto (tg := 67) dX11_isWord_50 (by decide) ?_
      refine k_topl (fun y_67 e_67 => ?_)
      have f_67 : y_67 = wNM (wNM (w2M a b) c) d := by rw [e_67]; unfold wNM; first | rw [if_pos c_45] | rw [if_neg c_45]
      rw [f_67]
      refine k_lstore (pc' := 69) (k0 := 0) (ls' := [_, _, _, _, _, _, _, _]) dX11_isWord_67 rfl (by decide) rfl ?_
      refine k_iload (pc' := 71) dX11_isWord_69 rfl rfl ?_
      refine k_if_ne (pc' := 74) (tg := 79) dX11_isWord_71 rfl (by decide) (fun c_71 => ?_) (fun c_71 => ?_)
      · skip
        refine k_lload (pc' := 81) dX11_isWord_79 rfl rfl ?_
        refine k_ldc2 (pc' := 84) dX11_isWord_81 rfl kc_RX11_198 ?_
        refine k_lmul (pc' := 85) dX11_isWord_84 rfl ?_
        refine k_iload (pc' := 87) dX11_isWord_85 rfl rfl ?_
        refine k_i2l (pc' := 88) dX11_isWord_87 rfl ?_
        refine k_ladd (pc' := 89) dX11_isWord_88 rfl ?_
        refine k_ldc2 (pc' := 92) dX11_isWord_89 rfl kc_RX11_200 ?_
        refine k_lsub (pc' := 93) dX11_isWord_92 rfl ?_
        refine k_topl (fun y_93 e_93 => ?_)
        have f_93 : y_93 = wNM (wNM (wNM (w2M a b) c) d) e := by rw [e_93]; unfold wNM; first | rw [if_pos c_71] | rw [if_neg c_71]
        rw [f_93]
        refine k_lstore (pc' := 95) (k0 := 0) (ls' := [_, _, _, _, _, _, _, _]) dX11_isWord_93 rfl (by decide) rfl ?_
        refine k_aload_n (pc' := 96) dX11_isWord_95 rfl rfl ?_
        refine k_getI (pc' := 99) fl_RX11_195 dX11_isWord_96 rfl rfl rfl ?_
        refine k_iconst (pc' := 100) (v := 1) dX11_isWord_99 rfl (by decide) ?_
        refine k_icmp_ne (pc' := 103) (tg := 117) dX11_isWord_100 rfl (by decide) (fun c_100 => ?_) (fun c_100 => ?_)
        · skip
          have hno : ¬ (μ.1 46 30 = 1 ∧ μ.2 46 31 = wNM (wNM (wNM (w2M a b) c) d) e) := fun z => c_100 z.1
          refine k_iconst (pc' := 118) (v := 0) dX11_isWord_117 rfl (by decide) ?_
          exact k_zret dX11_isWord_118 rfl (by first | decide | exact k_nz) (by rw [if_neg hno]; exact ⟨rfl, rfl⟩)
        · skip
          refine k_aload_n (pc' := 104) dX11_isWord_103 rfl rfl ?_
          refine k_getL (pc' := 107) fl_RX11_185 dX11_isWord_104 rfl rfl rfl ?_
          refine k_lload (pc' := 109) dX11_isWord_107 rfl rfl ?_
          refine k_lcmp (pc' := 110) dX11_isWord_109 rfl ?_
          refine k_if_ne (pc' := 113) (tg := 117) dX11_isWord_110 rfl (by decide) (fun c_110 => ?_) (fun c_110 => ?_)
          · skip
            have hno : ¬ (μ.1 46 30 = 1 ∧ μ.2 46 31 = wNM (wNM (wNM (w2M a b) c) d) e) := fun z => c_110 (k_c0.mpr z.2)
            refine k_iconst (pc' := 118) (v := 0) dX11_isWord_117 rfl (by decide) ?_
            exact k_zret dX11_isWord_118 rfl (by first | decide | exact k_nz) (by rw [if_neg hno]; exact ⟨rfl, rfl⟩)
          · skip
            have hys : μ.1 46 30 = 1 ∧ μ.2 46 31 = wNM (wNM (wNM (w2M a b) c) d) e := ⟨c_100, k_c0.mp c_110⟩
            refine k_iconst (pc' := 114) (v := 1) dX11_isWord_113 rfl (by decide) ?_
            refine k_goto (tg := 118) dX11_isWord_114 (by decide) ?_
            exact k_zret dX11_isWord_118 rfl (by first | decide | exact k_nz) (by rw [if_pos hys]; exact ⟨rfl, rfl⟩)
      · skip
        refine k_lload (pc' := 76) dX11_isWord_74 rfl rfl ?_
        refine k_goto (tg := 93) dX11_isWord_76 (by decide) ?_
        refine k_topl (fun y_93 e_93 => ?_)
        have f_93 : y_93 = wNM (wNM (wNM (w2M a b) c) d) e := by rw [e_93]; unfold wNM; first | rw [if_pos c_71] | rw [if_neg c_71]
        rw [f_93]
        refine k_lstore (pc' := 95) (k0 := 0) (ls' := [_, _, _, _, _, _, _, _]) dX11_isWord_93 rfl (by decide) rfl ?_
        refine k_aload_n (pc' := 96) dX11_isWord_95 rfl rfl ?_
        refine k_getI (pc' := 99) fl_RX11_195 dX11_isWord_96 rfl rfl rfl ?_
        refine k_iconst (pc' := 100) (v := 1) dX11_isWord_99 rfl (by decide) ?_
        refine k_icmp_ne (pc' := 103) (tg := 117) dX11_isWord_100 rfl (by decide) (fun c_100 => ?_) (fun c_100 => ?_)
        · skip
          have hno : ¬ (μ.1 46 30 = 1 ∧ μ.2 46 31 = wNM (wNM (wNM (w2M a b) c) d) e) := fun z => c_100 z.1
          refine k_iconst (pc' := 118) (v := 0) dX11_isWord_117 rfl (by decide) ?_
          exact k_zret dX11_isWord_118 rfl (by first | decide | exact k_nz) (by rw [if_neg hno]; exact ⟨rfl, rfl⟩)
        · skip
          refine k_aload_n (pc' := 104) dX11_isWord_103 rfl rfl ?_
          refine k_getL (pc' := 107) fl_RX11_185 dX11_isWord_104 rfl rfl rfl ?_
          refine k_lload (pc' := 109) dX11_isWord_107 rfl rfl ?_
          refine k_lcmp (pc' := 110) dX11_isWord_109 rfl ?_
          refine k_if_ne (pc' := 113) (tg := 117) dX11_isWord_110 rfl (by decide) (fun c_110 => ?_) (fun c_110 => ?_)
          · skip
            have hno : ¬ (μ.1 46 30 = 1 ∧ μ.2 46 31 = wNM (wNM (wNM (w2M a b) c) d) e) := fun z => c_110 (k_c0.mpr z.2)
            refine k_iconst (pc' := 118) (v := 0) dX11_isWord_117 rfl (by decide) ?_
            exact k_zret dX11_isWord_118 rfl (by first | decide | exact k_nz) (by rw [if_neg hno]; exact ⟨rfl, rfl⟩)
          · skip
            have hys : μ.1 46 30 = 1 ∧ μ.2 46 31 = wNM (wNM (wNM (w2M a b) c) d) e := ⟨c_100, k_c0.mp c_110⟩
            refine k_iconst (pc' := 114) (v := 1) dX11_isWord_113 rfl (by decide) ?_
            refine k_goto (tg := 118) dX11_isWord_114 (by decide) ?_
            exact k_zret dX11_isWord_118 rfl (by first | decide | exact k_nz) (by rw [if_pos hys]; exact ⟨rfl, rfl⟩)
  · skip
    refine k_lload (pc' := 25) dX11_isWord_23 rfl rfl ?_
    refine k_goto (tg := 41) dX11_isWord_25 (by decide) ?_
    refine k_topl (fun y_41 e_41 => ?_)
    have f_41 : y_41 = wNM (w2M a b) c := by rw [e_41]; unfold wNM; first | rw [if_pos c_20] | rw [if_neg c_20]
    rw [f_41]
    refine k_lstore (pc' := 43) (k0 := 0) (ls' := [_, _, _, _, _, _, _, _]) dX11_isWord_41 rfl (by decide) rfl ?_
    refine k_iload (pc' := 45) dX11_isWord_43 rfl rfl ?_
    refine k_if_ne (pc' := 48) (tg := 53) dX11_isWord_45 rfl (by decide) (fun c_45 => ?_) (fun c_45 => ?_)
    · skip
      refine k_lload (pc' := 55) dX11_isWord_53 rfl rfl ?_
      refine k_ldc2 (pc' := 58) dX11_isWord_55 rfl kc_RX11_198 ?_
      refine k_lmul (pc' := 59) dX11_isWord_58 rfl ?_
      refine k_iload (pc' := 61) dX11_isWord_59 rfl rfl ?_
      refine k_i2l (pc' := 62) dX11_isWord_61 rfl ?_
      refine k_ladd (pc' := 63) dX11_isWord_62 rfl ?_
      refine k_ldc2 (pc' := 66) dX11_isWord_63 rfl kc_RX11_200 ?_
      refine k_lsub (pc' := 67) dX11_isWord_66 rfl ?_
      refine k_topl (fun y_67 e_67 => ?_)
      have f_67 : y_67 = wNM (wNM (w2M a b) c) d := by rw [e_67]; unfold wNM; first | rw [if_pos c_45] | rw [if_neg c_45]
      rw [f_67]
      refine k_lstore (pc' := 69) (k0 := 0) (ls' := [_, _, _, _, _, _, _, _]) dX11_isWord_67 rfl (by decide) rfl ?_
      refine k_iload (pc' := 71) dX11_isWord_69 rfl rfl ?_
      refine k_if_ne (pc' := 74) (tg := 79) dX11_isWord_71 rfl (by decide) (fun c_71 => ?_) (fun c_71 => ?_)
      · skip
        refine k_lload (pc' := 81) dX11_isWord_79 rfl rfl ?_
        refine k_ldc2 (pc' := 84) dX11_isWord_81 rfl kc_RX11_198 ?_
        refine k_lmul (pc' := 85) dX11_isWord_84 rfl ?_
        refine k_iload (pc' := 87) dX11_isWord_85 rfl rfl ?_
        refine k_i2l (pc' := 88) dX11_isWord_87 rfl ?_
        refine k_ladd (pc' := 89) dX11_isWord_88 rfl ?_
        refine k_ldc2 (pc' := 92) dX11_isWord_89 rfl kc_RX11_200 ?_
        refine k_lsub (pc' := 93) dX11_isWord_92 rfl ?_
        refine k_topl (fun y_93 e_93 => ?_)
        have f_93 : y_93 = wNM (wNM (wNM (w2M a b) c) d) e := by rw [e_93]; unfold wNM; first | rw [if_pos c_71] | rw [if_neg c_71]
        rw [f_93]
        refine k_lstore (pc' := 95) (k0 := 0) (ls' := [_, _, _, _, _, _, _, _]) dX11_isWord_93 rfl (by decide) rfl ?_
        refine k_aload_n (pc' := 96) dX11_isWord_95 rfl rfl ?_
        refine k_getI (pc' := 99) fl_RX11_195 dX11_isWord_96 rfl rfl rfl ?_
        refine k_iconst (pc' := 100) (v := 1) dX11_isWord_99 rfl (by decide) ?_
        refine k_icmp_ne (pc' := 103) (tg := 117) dX11_isWord_100 rfl (by decide) (fun c_100 => ?_) (fun c_100 => ?_)
        · skip
          have hno : ¬ (μ.1 46 30 = 1 ∧ μ.2 46 31 = wNM (wNM (wNM (w2M a b) c) d) e) := fun z => c_100 z.1
          refine k_iconst (pc' := 118) (v := 0) dX11_isWord_117 rfl (by decide) ?_
          exact k_zret dX11_isWord_118 rfl (by first | decide | exact k_nz) (by rw [if_neg hno]; exact ⟨rfl, rfl⟩)
        · skip
          refine k_aload_n (pc' := 104) dX11_isWord_103 rfl rfl ?_
          refine k_getL (pc' := 107) fl_RX11_185 dX11_isWord_104 rfl rfl rfl ?_
          refine k_lload (pc' := 109) dX11_isWord_107 rfl rfl ?_
          refine k_lcmp (pc' := 110) dX11_isWord_109 rfl ?_
          refine k_if_ne (pc' := 113) (tg := 117) dX11_isWord_110 rfl (by decide) (fun c_110 => ?_) (fun c_110 => ?_)
          · skip
            have hno : ¬ (μ.1 46 30 = 1 ∧ μ.2 46 31 = wNM (wNM (wNM (w2M a b) c) d) e) := fun z => c_110 (k_c0.mpr z.2)
            refine k_iconst (pc' := 118) (v := 0) dX11_isWord_117 rfl (by decide) ?_
            exact k_zret dX11_isWord_118 rfl (by first | decide | exact k_nz) (by rw [if_neg hno]; exact ⟨rfl, rfl⟩)
          · skip
            have hys : μ.1 46 30 = 1 ∧ μ.2 46 31 = wNM (wNM (wNM (w2M a b) c) d) e := ⟨c_100, k_c0.mp c_110⟩
            refine k_iconst (pc' := 114) (v := 1) dX11_isWord_113 rfl (by decide) ?_
            refine k_goto (tg := 118) dX11_isWord_114 (by decide) ?_
            exact k_zret dX11_isWord_118 rfl (by first | decide | exact k_nz) (by rw [if_pos hys]; exact ⟨rfl, rfl⟩)
      · skip
        refine k_lload (pc' := 76) dX11_isWord_74 rfl rfl ?_
        refine k_goto (tg := 93) dX11_isWord_76 (by decide) ?_
        refine k_topl (fun y_93 e_93 => ?_)
        have f_93 : y_93 = wNM (wNM (wNM (w2M a b) c) d) e := by rw [e_93]; unfold wNM; first | rw [if_pos c_71] | rw [if_neg c_71]
        rw [f_93]
        refine k_lstore (pc' := 95) (k0 := 0) (ls' := [_, _, _, _, _, _, _, _]) dX11_isWord_93 rfl (by decide) rfl ?_
        refine k_aload_n (pc' := 96) dX11_isWord_95 rfl rfl ?_
        refine k_getI (pc' := 99) fl_RX11_195 dX11_isWord_96 rfl rfl rfl ?_
        refine k_iconst (pc' := 100) (v := 1) dX11_isWord_99 rfl (by decide) ?_
        refine k_icmp_ne (pc' := 103) (tg := 117) dX11_isWord_100 rfl (by decide) (fun c_100 => ?_) (fun c_100 => ?_)
        · skip
          have hno : ¬ (μ.1 46 30 = 1 ∧ μ.2 46 31 = wNM (wNM (wNM (w2M a b) c) d) e) := fun z => c_100 z.1
          refine k_iconst (pc' := 118) (v := 0) dX11_isWord_117 rfl (by decide) ?_
          exact k_zret dX11_isWord_118 rfl (by first | decide | exact k_nz) (by rw [if_neg hno]; exact ⟨rfl, rfl⟩)
        · skip
          refine k_aload_n (pc' := 104) dX11_isWord_103 rfl rfl ?_
          refine k_getL (pc' := 107) fl_RX11_185 dX11_isWord_104 rfl rfl rfl ?_
          refine k_lload (pc' := 109) dX11_isWord_107 rfl rfl ?_
          refine k_lcmp (pc' := 110) dX11_isWord_109 rfl ?_
          refine k_if_ne (pc' := 113) (tg := 117) dX11_isWord_110 rfl (by decide) (fun c_110 => ?_) (fun c_110 => ?_)
          · skip
            have hno : ¬ (μ.1 46 30 = 1 ∧ μ.2 46 31 = wNM (wNM (wNM (w2M a b) c) d) e) := fun z => c_110 (k_c0.mpr z.2)
            refine k_iconst (pc' := 118) (v := 0) dX11_isWord_117 rfl (by decide) ?_
            exact k_zret dX11_isWord_118 rfl (by first | decide | exact k_nz) (by rw [if_neg hno]; exact ⟨rfl, rfl⟩)
          · skip
            have hys : μ.1 46 30 = 1 ∧ μ.2 46 31 = wNM (wNM (wNM (w2M a b) c) d) e := ⟨c_100, k_c0.mp c_110⟩
            refine k_iconst (pc' := 114) (v := 1) dX11_isWord_113 rfl (by decide) ?_
            refine k_goto (tg := 118) dX11_isWord_114 (by decide) ?_
            exact k_zret dX11_isWord_118 rfl (by first | decide | exact k_nz) (by rw [if_pos hys]; exact ⟨rfl, rfl⟩)
    · skip
      refine k_lload (pc' := 50) dX11_isWord_48 rfl rfl ?_
      refine k_goto (tg := 67) dX11_isWord_50 (by decide) ?_
      refine k_topl (fun y_67 e_67 => ?_)
      have f_67 : y_67 = wNM (wNM (w2M a b) c) d := by rw [e_67]; unfold wNM; first | rw [if_pos c_45] | rw [if_neg c_45]
      rw [f_67]
      refine k_lstore (pc' := 69) (k0 := 0) (ls' := [_, _, _, _, _, _, _, _]) dX11_isWord_67 rfl (by decide) rfl ?_
      refine k_iload (pc' := 71) dX11_isWord_69 rfl rfl ?_
      refine k_if_ne (pc' := 74) (tg := 79) dX11_isWord_71 rfl (by decide) (fun c_71 => ?_) (fun c_71 => ?_)
      · skip
        refine k_lload (pc' := 81) dX11_isWord_79 rfl rfl ?_
        refine k_ldc2 (pc' := 84) dX11_isWord_81 rfl kc_RX11_198 ?_
        refine k_lmul (pc' := 85) dX11_isWord_84 rfl ?_
        refine k_iload (pc' := 87) dX11_isWord_85 rfl rfl ?_
        refine k_i2l (pc' := 88) dX11_isWord_87 rfl ?_
        refine k_ladd (pc' := 89) dX11_isWord_88 rfl ?_
        refine k_ldc2 (pc' := 92) dX11_isWord_89 rfl kc_RX11_200 ?_
        refine k_lsub (pc' := 93) dX11_isWord_92 rfl ?_
        refine k_topl (fun y_93 e_93 => ?_)
        have f_93 : y_93 = wNM (wNM (wNM (w2M a b) c) d) e := by rw [e_93]; unfold wNM; first | rw [if_pos c_71] | rw [if_neg c_71]
        rw [f_93]
        refine k_lstore (pc' := 95) (k0 := 0) (ls' := [_, _, _, _, _, _, _, _]) dX11_isWord_93 rfl (by decide) rfl ?_
        refine k_aload_n (pc' := 96) dX11_isWord_95 rfl rfl ?_
        refine k_getI (pc' := 99) fl_RX11_195 dX11_isWord_96 rfl rfl rfl ?_
        refine k_iconst (pc' := 100) (v := 1) dX11_isWord_99 rfl (by decide) ?_
        refine k_icmp_ne (pc' := 103) (tg := 117) dX11_isWord_100 rfl (by decide) (fun c_100 => ?_) (fun c_100 => ?_)
        · skip
          have hno : ¬ (μ.1 46 30 = 1 ∧ μ.2 46 31 = wNM (wNM (wNM (w2M a b) c) d) e) := fun z => c_100 z.1
          refine k_iconst (pc' := 118) (v := 0) dX11_isWord_117 rfl (by decide) ?_
          exact k_zret dX11_isWord_118 rfl (by first | decide | exact k_nz) (by rw [if_neg hno]; exact ⟨rfl, rfl⟩)
        · skip
          refine k_aload_n (pc' := 104) dX11_isWord_103 rfl rfl ?_
          refine k_getL (pc' := 107) fl_RX11_185 dX11_isWord_104 rfl rfl rfl ?_
          refine k_lload (pc' := 109) dX11_isWord_107 rfl rfl ?_
          refine k_lcmp (pc' := 110) dX11_isWord_109 rfl ?_
          refine k_if_ne (pc' := 113) (tg := 117) dX11_isWord_110 rfl (by decide) (fun c_110 => ?_) (fun c_110 => ?_)
          · skip
            have hno : ¬ (μ.1 46 30 = 1 ∧ μ.2 46 31 = wNM (wNM (wNM (w2M a b) c) d) e) := fun z => c_110 (k_c0.mpr z.2)
            refine k_iconst (pc' := 118) (v := 0) dX11_isWord_117 rfl (by decide) ?_
            exact k_zret dX11_isWord_118 rfl (by first | decide | exact k_nz) (by rw [if_neg hno]; exact ⟨rfl, rfl⟩)
          · skip
            have hys : μ.1 46 30 = 1 ∧ μ.2 46 31 = wNM (wNM (wNM (w2M a b) c) d) e := ⟨c_100, k_c0.mp c_110⟩
            refine k_iconst (pc' := 114) (v := 1) dX11_isWord_113 rfl (by decide) ?_
            refine k_goto (tg := 118) dX11_isWord_114 (by decide) ?_
            exact k_zret dX11_isWord_118 rfl (by first | decide | exact k_nz) (by rw [if_pos hys]; exact ⟨rfl, rfl⟩)
      · skip
        refine k_lload (pc' := 76) dX11_isWord_74 rfl rfl ?_
        refine k_goto (tg := 93) dX11_isWord_76 (by decide) ?_
        refine k_topl (fun y_93 e_93 => ?_)
        have f_93 : y_93 = wNM (wNM (wNM (w2M a b) c) d) e := by rw [e_93]; unfold wNM; first | rw [if_pos c_71] | rw [if_neg c_71]
        rw [f_93]
        refine k_lstore (pc' := 95) (k0 := 0) (ls' := [_, _, _, _, _, _, _, _]) dX11_isWord_93 rfl (by decide) rfl ?_
        refine k_aload_n (pc' := 96) dX11_isWord_95 rfl rfl ?_
        refine k_getI (pc' := 99) fl_RX11_195 dX11_isWord_96 rfl rfl rfl ?_
        refine k_iconst (pc' := 100) (v := 1) dX11_isWord_99 rfl (by decide) ?_
        refine k_icmp_ne (pc' := 103) (tg := 117) dX11_isWord_100 rfl (by decide) (fun c_100 => ?_) (fun c_100 => ?_)
        · skip
          have hno : ¬ (μ.1 46 30 = 1 ∧ μ.2 46 31 = wNM (wNM (wNM (w2M a b) c) d) e) := fun z => c_100 z.1
          refine k_iconst (pc' := 118) (v := 0) dX11_isWord_117 rfl (by decide) ?_
          exact k_zret dX11_isWord_118 rfl (by first | decide | exact k_nz) (by rw [if_neg hno]; exact ⟨rfl, rfl⟩)
        · skip
          refine k_aload_n (pc' := 104) dX11_isWord_103 rfl rfl ?_
          refine k_getL (pc' := 107) fl_RX11_185 dX11_isWord_104 rfl rfl rfl ?_
          refine k_lload (pc' := 109) dX11_isWord_107 rfl rfl ?_
          refine k_lcmp (pc' := 110) dX11_isWord_109 rfl ?_
          refine k_if_ne (pc' := 113) (tg := 117) dX11_isWord_110 rfl (by decide) (fun c_110 => ?_) (fun c_110 => ?_)
          · skip
            have hno : ¬ (μ.1 46 30 = 1 ∧ μ.2 46 31 = wNM (wNM (wNM (w2M a b) c) d) e) := fun z => c_110 (k_c0.mpr z.2)
            refine k_iconst (pc' := 118) (v := 0) dX11_isWord_117 rfl (by decide) ?_
            exact k_zret dX11_isWord_118 rfl (by first | decide | exact k_nz) (by rw [if_neg hno]; exact ⟨rfl, rfl⟩)
          · skip
            have hys : μ.1 46 30 = 1 ∧ μ.2 46 31 = wNM (wNM (wNM (w2M a b) c) d) e := ⟨c_100, k_c0.mp c_110⟩
            refine k_iconst (pc' := 114) (v := 1) dX11_isWord_113 rfl (by decide) ?_
            refine k_goto (tg := 118) dX11_isWord_114 (by decide) ?_
            exact k_zret dX11_isWord_118 rfl (by first | decide | exact k_nz) (by rw [if_pos hys]; exact ⟨rfl, rfl⟩)

set_option maxHeartbeats 400000 in
set_option maxRecDepth 100000 in
theorem ev_must {z : Int32} {c : Prop} (hc : z = 0 ↔ ¬ c) {μ : kH} {L p : Nat} (hLL : L ≤ 200) (htp : μ.1 46 27 = nI L) (hto : μ.1 46 29 = nI p) (hpL : p ≤ L) : Ev kX11_must [kr 46, ki z] μ (fun r h' => r = ku ∧ mustR μ L p c h') := by
  refine k_ev (ls := [_, _]) (by decide) (Nat.le_of_ble_eq_true rfl) rfl ?_
  refine k_aload_n (pc' := 1) dX11_must_0 rfl rfl ?_
  refine k_getZ (pc' := 4) fl_RX11_208 dX11_must_1 rfl rfl rfl ?_
  refine k_if_ne (pc' := 7) (tg := 24) dX11_must_4 rfl (by decide) (fun c_4 => ?_) (fun c_4 => ?_)
  · skip
    refine k_aload_n (pc' := 25) dX11_must_24 rfl rfl ?_
    refine k_getZ (pc' := 28) fl_RX11_208 dX11_must_25 rfl rfl rfl ?_
    refine k_if_ne (pc' := 31) (tg := 35) dX11_must_28 rfl (by decide) (fun c_28 => ?_) (fun c_28 => ?_)
    · skip
      exact k_vret dX11_must_35 rfl ⟨rfl, Or.inl ⟨c_4, rfl⟩⟩
    · exfalso
      exact c_4 c_28
  · skip
    refine k_iload_n (pc' := 8) dX11_must_7 rfl rfl ?_
    refine k_if_ne (pc' := 11) (tg := 24) dX11_must_8 rfl (by decide) (fun c_8 => ?_) (fun c_8 => ?_)
    · skip
      refine k_aload_n (pc' := 25) dX11_must_24 rfl rfl ?_
      refine k_getZ (pc' := 28) fl_RX11_208 dX11_must_25 rfl rfl rfl ?_
      refine k_if_ne (pc' := 31) (tg := 35) dX11_must_28 rfl (by decide) (fun c_28 => ?_) (fun c_28 => ?_)
      · exfalso
        exact c_28 c_4
      · skip
        refine k_aload_n (pc' := 32) dX11_must_31 rfl rfl ?_
        refine k_callV0 (pc' := 35) dX11_must_32 rfl ml_RX11_212 rfl rfl ⟨(Nat.le_of_ble_eq_true rfl), (Nat.le_of_ble_eq_true rfl)⟩ (Nat.le_of_ble_eq_true rfl) (ev_next hLL htp hto hpL) (fun r_32 h_32 q_32 => ?_)
        obtain ⟨e_32, n_32⟩ := q_32
        rw [e_32]
        exact k_vret dX11_must_35 rfl ⟨rfl, Or.inr (Or.inr ⟨c_4, Classical.byContradiction (fun w => c_8 (hc.mpr w)), n_32⟩)⟩
    · skip
      refine k_aload_n (pc' := 12) dX11_must_11 rfl rfl ?_
      refine k_iconst (pc' := 13) (v := 1) dX11_must_12 rfl (by decide) ?_
      refine k_putZ (pc' := 16) rfl rfl fw_RX11_208 dX11_must_13 rfl rfl rfl ?_
      refine k_aload_n (pc' := 17) dX11_must_16 rfl rfl ?_
      refine k_aload_n (pc' := 18) dX11_must_17 rfl rfl ?_
      refine k_getI (pc' := 21) fl_RX11_182 dX11_must_18 rfl rfl rfl ?_
      refine k_putI (pc' := 24) fw_RX11_62 dX11_must_21 rfl rfl rfl ?_
      refine k_aload_n (pc' := 25) dX11_must_24 rfl rfl ?_
      refine k_getZ (pc' := 28) fl_RX11_208 dX11_must_25 rfl rfl rfl ?_
      refine k_if_ne (pc' := 31) (tg := 35) dX11_must_28 rfl (by decide) (fun c_28 => ?_) (fun c_28 => ?_)
      · skip
        exact k_vret dX11_must_35 rfl ⟨rfl, Or.inr (Or.inl ⟨c_4, hc.mp c_8, rfl⟩)⟩
      · exfalso
        exact absurd (show (1 : Int32) = 0 from (show (hI μ 46 33 1).1 46 33 = 1 from hI_at _ _ _ _).symm.trans c_28) (by decide)

set_option maxHeartbeats 400000 in
set_option maxRecDepth 100000 in
theorem ev_number {lo hg : Int64} {μ : kH} {L p : Nat} (hLL : L ≤ 200) (htp : μ.1 46 27 = nI L) (hto : μ.1 46 29 = nI p) (hpL : p ≤ L) : Ev kX11_number [kr 46, kl lo, kl hg] μ (fun r h' => r = ki (μ.2 46 31).toInt32 ∧ mustR μ L p (μ.1 46 30 = 2 ∧ lo ≤ μ.2 46 31 ∧ μ.2 46 31 ≤ hg) h') := by
  refine k_ev (ls := [_, _, _, _, _, _]) (by decide) (Nat.le_of_ble_eq_true rfl) rfl ?_
  refine k_aload_n (pc' := 1) dX11_number_0 rfl rfl ?_
  refine k_getL (pc' := 4) fl_RX11_185 dX11_number_1 rfl rfl rfl ?_
  refine k_l2i (pc' := 5) dX11_number_4 rfl ?_
  refine k_istore (pc' := 7) (k0 := 0) (ls' := [_, _, _, _, _, _]) dX11_number_5 rfl (by decide) rfl ?_
  refine k_aload_n (pc' := 8) dX11_number_7 rfl rfl ?_
  refine k_aload_n (pc' := 9) dX11_number_8 rfl rfl ?_
  refine k_getI (pc' := 12) fl_RX11_195 dX11_number_9 rfl rfl rfl ?_
  refine k_iconst (pc' := 13) (v := 2) dX11_number_12 rfl (by decide) ?_
  refine k_icmp_ne (pc' := 16) (tg := 32) dX11_number_13 rfl (by decide) (fun c_13 => ?_) (fun c_13 => ?_)
  · skip
    refine k_iconst (pc' := 33) (v := 0) dX11_number_32 rfl (by decide) ?_
    refine k_callV1 (pc' := 36) dX11_number_33 rfl ml_RX11_215 rfl rfl ⟨(Nat.le_of_ble_eq_true rfl), (Nat.le_of_ble_eq_true rfl)⟩ (Nat.le_of_ble_eq_true rfl) (ev_must (c := (μ.1 46 30 = 2 ∧ lo ≤ μ.2 46 31 ∧ μ.2 46 31 ≤ hg)) ⟨fun _ w => c_13 w.1, fun _ => rfl⟩ hLL htp hto hpL) (fun r_33 h_33 q_33 => ?_)
    obtain ⟨e_33, m_33⟩ := q_33
    rw [e_33]
    refine k_iload (pc' := 38) dX11_number_36 rfl rfl ?_
    exact k_iret dX11_number_38 rfl ⟨rfl, m_33⟩
  · skip
    refine k_aload_n (pc' := 17) dX11_number_16 rfl rfl ?_
    refine k_getL (pc' := 20) fl_RX11_185 dX11_number_17 rfl rfl rfl ?_
    refine k_lload_n (pc' := 21) dX11_number_20 rfl rfl ?_
    refine k_lload_n (pc' := 22) dX11_number_21 rfl rfl ?_
    refine k_callS3 (pc' := 25) dX11_number_22 rfl ml_RX11_110 ⟨(Nat.le_of_ble_eq_true rfl), (Nat.le_of_ble_eq_true rfl)⟩ (Nat.le_of_ble_eq_true rfl) ev_X11_in (fun r_22 h_22 q_22 => ?_)
    obtain ⟨e_22, g_22⟩ := q_22
    rw [e_22, g_22]
    refine k_if_eq (pc' := 28) (tg := 32) dX11_number_25 rfl (by decide) (fun c_25 => ?_) (fun c_25 => ?_)
    · skip
      refine k_iconst (pc' := 33) (v := 0) dX11_number_32 rfl (by decide) ?_
      refine k_callV1 (pc' := 36) dX11_number_33 rfl ml_RX11_215 rfl rfl ⟨(Nat.le_of_ble_eq_true rfl), (Nat.le_of_ble_eq_true rfl)⟩ (Nat.le_of_ble_eq_true rfl) (ev_must (c := (μ.1 46 30 = 2 ∧ lo ≤ μ.2 46 31 ∧ μ.2 46 31 ≤ hg)) ⟨fun _ w => (k_b0.mp c_25) w.2, fun _ => rfl⟩ hLL htp hto hpL) (fun r_33 h_33 q_33 => ?_)
      obtain ⟨e_33, m_33⟩ := q_33
      rw [e_33]
      refine k_iload (pc' := 38) dX11_number_36 rfl rfl ?_
      exact k_iret dX11_number_38 rfl ⟨rfl, m_33⟩
    · skip
      refine k_iconst (pc' := 29) (v := 1) dX11_number_28 rfl (by decide) ?_
      refine k_goto (tg := 33) dX11_number_29 (by decide) ?_
      refine k_callV1 (pc' := 36) dX11_number_33 rfl ml_RX11_215 rfl rfl ⟨(Nat.le_of_ble_eq_true rfl), (Nat.le_of_ble_eq_true rfl)⟩ (Nat.le_of_ble_eq_true rfl) (ev_must (c := (μ.1 46 30 = 2 ∧ lo ≤ μ.2 46 31 ∧ μ.2 46 31 ≤ hg)) ⟨fun w => absurd w (by decide), fun w => absurd ⟨c_13, k_b1.mp c_25⟩ w⟩ hLL htp hto hpL) (fun r_33 h_33 q_33 => ?_)
      obtain ⟨e_33, m_33⟩ := q_33
      rw [e_33]
      refine k_iload (pc' := 38) dX11_number_36 rfl rfl ?_
      exact k_iret dX11_number_38 rfl ⟨rfl, m_33⟩

