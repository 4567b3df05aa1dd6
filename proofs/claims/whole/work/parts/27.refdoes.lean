/-! the reference: does -/
def do_ok (g : Md) (kn en : Nat) : Prop := (g.1 0 en = 1 → ∃ j, j < 60 ∧ g.1 6 en = nI j) ∧ (g.1 0 en = 2 → ∃ i j, i < 60 ∧ j + 1 < 60 ∧ g.1 2 en = nI i ∧ g.1 6 en = nI j ∧ (¬ i = j ∧ ¬ i = j + 1) ∧ ¬ (g.1 12 i).toInt64 = 0) ∧ (g.1 0 en = 3 → ∃ i i2 j, i < 60 ∧ i2 < 60 ∧ j < 60 ∧ g.1 2 en = nI i ∧ g.1 3 en = nI i2 ∧ g.1 6 en = nI j) ∧ (g.1 0 en = 5 → av_ok g kn en ∧ ¬ mws g 60 = 0) ∧ ((¬ g.1 0 en = 1 ∧ ¬ g.1 0 en = 2 ∧ ¬ g.1 0 en = 3 ∧ ¬ g.1 0 en = 5) → ∃ i, i < 60 ∧ g.1 2 en = nI i)
def g_buy (g : Md) (i : Nat) : Md := md_c3 (md_row g 16 i 1) i
def g_does (g : Md) (kn en : Nat) : Md := if g.1 0 en = 1 then md_come g (g.1 6 en).toNatClampNeg (g.1 4 en) (g.1 3 en) (g.1 5 en) 0 else if g.1 0 en = 2 then md_part g en (g.1 2 en).toNatClampNeg (g.1 6 en).toNatClampNeg else if g.1 0 en = 3 then md_join g (g.1 2 en).toNatClampNeg (g.1 3 en).toNatClampNeg (g.1 6 en).toNatClampNeg else if g.1 0 en = 4 then md_row g 14 (g.1 2 en).toNatClampNeg (g.1 4 en) else if g.1 0 en = 5 then g_settle g kn en (mws g 60) else g_buy g (g.1 2 en).toNatClampNeg
theorem fX3_does_16 : Cond.fieldLink RX3 16 "TitheMapModel" "one" "[I" ∈ wsX3_does := by decide +kernel
theorem fX3_does_19 : Cond.fieldLink RX3 19 "TitheMapModel" "two" "[I" ∈ wsX3_does := by decide +kernel
theorem fX3_does_22 : Cond.fieldLink RX3 22 "TitheMapModel" "more" "[I" ∈ wsX3_does := by decide +kernel
theorem fX3_does_25 : Cond.fieldLink RX3 25 "TitheMapModel" "most" "[I" ∈ wsX3_does := by decide +kernel
theorem fX3_does_28 : Cond.fieldLink RX3 28 "TitheMapModel" "made" "[I" ∈ wsX3_does := by decide +kernel
theorem fX3_does_53 : Cond.fieldLink RX3 53 "TitheMapModel" "owner" "[I" ∈ wsX3_does := by decide +kernel
theorem fX3_does_56 : Cond.fieldLink RX3 56 "TitheMapModel" "charge" "[I" ∈ wsX3_does := by decide +kernel
theorem fX3_does_59 : Cond.fieldLink RX3 59 "TitheMapModel" "isBought" "[Z" ∈ wsX3_does := by decide +kernel
theorem fX3_does_7 : Cond.fieldLink RX3 7 "TitheMapModel" "sort" "[I" ∈ wsX3_does := by decide +kernel
theorem iX3_does_X3 : ∀ w ∈ wsX30, w ∈ wsX3_does := by decide +kernel
set_option maxHeartbeats 4000000 in
set_option maxRecDepth 100000 in
/-- does(k, e) -/
theorem qX3_does (l : Launch) (D : va_G) (K : Nat → ClassId) (am : Nat → Nat) (g : Md) (kn en : Nat) (hkn : kn ≤ 80) (hen : en < 80) (hok : do_ok g kn en) : zw_V l yX3_does wsX3_does rmX3_does D (zT K) [.ref (am 0), .int (nI kn), .int (nI en)] (md_W K am g) (md_W K am (g_does g kn en)) := by
  refine zw_ofV (cc := cX3_does) (nL := 5) (ret := none) (own := RX3) (lv := [(0, .ref (am 0)), (1, .int (nI kn)), (2, .int (nI en))]) (by decide) rfl (Nat.le_of_ble_eq_true rfl) rfl rfl ?_
  intro p e s m below meth c A E hr hlk
  refine zw_aload_n (i := 0) (x := am 0) E 0 dX3_does_0 rfl rfl (pc' := 1) rfl ?_
  refine zw_get (v := .ref (am 3)) E 0 4 iX3_does_X3 fX3_does_16 rfl rfl (by decide) rfl rfl dX3_does_1 (pc' := 4) rfl ?_
  refine zw_iload_n (i := 2) (x := nI en) E 2 dX3_does_4 rfl rfl (pc' := 5) rfl ?_
  refine zw_iald (j := en) (x := g.1 2 en) E 3 0 rfl rfl (vp_in_nI hen (by decide)) (zw_clamp hen (by decide)) rfl dX3_does_5 (pc' := 6) rfl ?_
  refine zw_istore_n (lv' := [(3, .int (g.1 2 en)), (0, .ref (am 0)), (1, .int (nI kn)), (2, .int (nI en))]) E dX3_does_6 rfl (by decide) rfl (pc' := 7) rfl ?_
  refine zw_aload_n (i := 0) (x := am 0) E 1 dX3_does_7 rfl rfl (pc' := 8) rfl ?_
  refine zw_get (v := .ref (am 1)) E 0 2 iX3_does_X3 fX3_does_7 rfl rfl (by decide) rfl rfl dX3_does_8 (pc' := 11) rfl ?_
  refine zw_iload_n (i := 2) (x := nI en) E 3 dX3_does_11 rfl rfl (pc' := 12) rfl ?_
  refine zw_iald (j := en) (x := g.1 0 en) E 1 0 rfl rfl (vp_in_nI hen (by decide)) (zw_clamp hen (by decide)) rfl dX3_does_12 (pc' := 13) rfl ?_
  by_cases s_1 : g.1 0 en = 1
  · refine zw_tableIn (tgt := 48) (off := 35) E dX3_does_13 (by rw [s_1]; decide) (by rw [s_1]; decide) (by rw [s_1]; rfl) (by decide) ?_
    obtain ⟨j, hj, ej⟩ := hok.1 s_1
    refine zw_aload_n (i := 0) (x := am 0) E 1 dX3_does_48 rfl rfl (pc' := 49) rfl ?_
    refine zw_aload_n (i := 0) (x := am 0) E 1 dX3_does_49 rfl rfl (pc' := 50) rfl ?_
    refine zw_get (v := .ref (am 7)) E 0 8 iX3_does_X3 fX3_does_28 rfl rfl (by decide) rfl rfl dX3_does_50 (pc' := 53) rfl ?_
    refine zw_iload_n (i := 2) (x := nI en) E 3 dX3_does_53 rfl rfl (pc' := 54) rfl ?_
    refine zw_iald (j := en) (x := g.1 6 en) E 7 0 rfl rfl (vp_in_nI hen (by decide)) (zw_clamp hen (by decide)) rfl dX3_does_54 (pc' := 55) rfl ?_
    refine zw_topi (x' := nI j) ej ?_
    refine zw_aload_n (i := 0) (x := am 0) E 1 dX3_does_55 rfl rfl (pc' := 56) rfl ?_
    refine zw_get (v := .ref (am 5)) E 0 6 iX3_does_X3 fX3_does_22 rfl rfl (by decide) rfl rfl dX3_does_56 (pc' := 59) rfl ?_
    refine zw_iload_n (i := 2) (x := nI en) E 3 dX3_does_59 rfl rfl (pc' := 60) rfl ?_
    refine zw_iald (j := en) (x := g.1 4 en) E 5 0 rfl rfl (vp_in_nI hen (by decide)) (zw_clamp hen (by decide)) rfl dX3_does_60 (pc' := 61) rfl ?_
    refine zw_aload_n (i := 0) (x := am 0) E 1 dX3_does_61 rfl rfl (pc' := 62) rfl ?_
    refine zw_get (v := .ref (am 4)) E 0 5 iX3_does_X3 fX3_does_19 rfl rfl (by decide) rfl rfl dX3_does_62 (pc' := 65) rfl ?_
    refine zw_iload_n (i := 2) (x := nI en) E 3 dX3_does_65 rfl rfl (pc' := 66) rfl ?_
    refine zw_iald (j := en) (x := g.1 3 en) E 4 0 rfl rfl (vp_in_nI hen (by decide)) (zw_clamp hen (by decide)) rfl dX3_does_66 (pc' := 67) rfl ?_
    refine zw_aload_n (i := 0) (x := am 0) E 1 dX3_does_67 rfl rfl (pc' := 68) rfl ?_
    refine zw_get (v := .ref (am 6)) E 0 7 iX3_does_X3 fX3_does_25 rfl rfl (by decide) rfl rfl dX3_does_68 (pc' := 71) rfl ?_
    refine zw_iload_n (i := 2) (x := nI en) E 3 dX3_does_71 rfl rfl (pc' := 72) rfl ?_
    refine zw_iald (j := en) (x := g.1 5 en) E 6 0 rfl rfl (vp_in_nI hen (by decide)) (zw_clamp hen (by decide)) rfl dX3_does_72 (pc' := 73) rfl ?_
    refine zw_iconst (v := 0) E dX3_does_73 (by decide) (pc' := 74) rfl ?_
    refine zw_callVw E (As := [.int (nI j), .int (g.1 4 en), .int (g.1 3 en), .int (g.1 5 en), .int 0]) (rest := []) (ws' := (md_W K am (md_come g j (g.1 4 en) (g.1 3 en) (g.1 5 en) 0))) (qX3_comes l D K am g j hj (g.1 4 en) (g.1 3 en) (g.1 5 en) 0) (cwV 5 E.2.2.2.2.1 gX3_does_X3_comes rfl rfl rfl (by decide +kernel) ⟨Nat.le_of_ble_eq_true rfl, Nat.le_of_ble_eq_true rfl⟩) 0 rfl rfl rfl (md_ad _ _ _ _) rfl rfl (Nat.le_of_ble_eq_true rfl) ⟨Nat.zero_le _, Nat.zero_le _⟩ dX3_does_74 (pc' := 77) rfl ?_
    refine zw_gen_md_g (md_come g j (g.1 4 en) (g.1 3 en) (g.1 5 en) 0) (fun g_1 hg_1 => ?_)
    refine zw_goto (tgt := 154) E dX3_does_77 (by decide) ?_
    exact zw_vret E hr hlk dX3_does_154 (congrArg (md_W K am) (by subst hg_1; unfold g_does; rw [if_pos s_1, ej, nI_clamp (by omega)]))
  · skip
    by_cases s_2 : g.1 0 en = 2
    · refine zw_tableIn (tgt := 80) (off := 67) E dX3_does_13 (by rw [s_2]; decide) (by rw [s_2]; decide) (by rw [s_2]; rfl) (by decide) ?_
      obtain ⟨i, j, hi, hj, hf, hm, hij, h0⟩ := hok.2.1 s_2
      refine zw_aload_n (i := 0) (x := am 0) E 1 dX3_does_80 rfl rfl (pc' := 81) rfl ?_
      refine zw_iload_n (i := 2) (x := nI en) E 3 dX3_does_81 rfl rfl (pc' := 82) rfl ?_
      refine zw_callVw E (As := [.int (nI en)]) (rest := []) (ws' := (md_W K am (md_part g en i j))) (qX3_parts l D K am g en i j hen hi hj hf hm hij h0) (cwV 1 E.2.2.2.2.1 gX3_does_X3_parts rfl rfl rfl (by decide +kernel) ⟨Nat.le_of_ble_eq_true rfl, Nat.le_of_ble_eq_true rfl⟩) 0 rfl rfl rfl (md_ad _ _ _ _) rfl rfl (Nat.le_of_ble_eq_true rfl) ⟨Nat.zero_le _, Nat.zero_le _⟩ dX3_does_82 (pc' := 85) rfl ?_
      refine zw_gen_md_g (md_part g en i j) (fun g_2 hg_2 => ?_)
      refine zw_goto (tgt := 154) E dX3_does_85 (by decide) ?_
      exact zw_vret E hr hlk dX3_does_154 (congrArg (md_W K am) (by subst hg_2; unfold g_does; rw [if_neg s_1, if_pos s_2, hf, hm, nI_clamp (by omega), nI_clamp (by omega)]))
    · skip
      by_cases s_3 : g.1 0 en = 3
      · refine zw_tableIn (tgt := 88) (off := 75) E dX3_does_13 (by rw [s_3]; decide) (by rw [s_3]; decide) (by rw [s_3]; rfl) (by decide) ?_
        obtain ⟨i, i2, j, hi, hi2, hj, hf, hf2, hm⟩ := hok.2.2.1 s_3
        refine zw_aload_n (i := 0) (x := am 0) E 1 dX3_does_88 rfl rfl (pc' := 89) rfl ?_
        refine zw_iload_n (i := 2) (x := nI en) E 3 dX3_does_89 rfl rfl (pc' := 90) rfl ?_
        refine zw_callVw E (As := [.int (nI en)]) (rest := []) (ws' := (md_W K am (md_join g i i2 j))) (qX3_joins l D K am g en i i2 j hen hi hi2 hj hf hf2 hm) (cwV 1 E.2.2.2.2.1 gX3_does_X3_joins rfl rfl rfl (by decide +kernel) ⟨Nat.le_of_ble_eq_true rfl, Nat.le_of_ble_eq_true rfl⟩) 0 rfl rfl rfl (md_ad _ _ _ _) rfl rfl (Nat.le_of_ble_eq_true rfl) ⟨Nat.zero_le _, Nat.zero_le _⟩ dX3_does_90 (pc' := 93) rfl ?_
        refine zw_gen_md_g (md_join g i i2 j) (fun g_3 hg_3 => ?_)
        refine zw_goto (tgt := 154) E dX3_does_93 (by decide) ?_
        exact zw_vret E hr hlk dX3_does_154 (congrArg (md_W K am) (by subst hg_3; unfold g_does; rw [if_neg s_1, if_neg s_2, if_pos s_3, hf, hf2, hm, nI_clamp (by omega), nI_clamp (by omega), nI_clamp (by omega)]))
      · skip
        by_cases s_4 : g.1 0 en = 4
        · refine zw_tableIn (tgt := 96) (off := 83) E dX3_does_13 (by rw [s_4]; decide) (by rw [s_4]; decide) (by rw [s_4]; rfl) (by decide) ?_
          obtain ⟨i, hi, ei⟩ := hok.2.2.2.2 ⟨s_1, s_2, s_3, fun q => absurd (s_4.symm.trans q) (by decide)⟩
          refine zw_aload_n (i := 0) (x := am 0) E 1 dX3_does_96 rfl rfl (pc' := 97) rfl ?_
          refine zw_get (v := .ref (am 15)) E 0 16 iX3_does_X3 fX3_does_53 rfl rfl (by decide) rfl rfl dX3_does_97 (pc' := 100) rfl ?_
          refine zw_iload_n (i := 3) (x := g.1 2 en) E 0 dX3_does_100 rfl rfl (pc' := 101) rfl ?_
          refine zw_topi (x' := nI i) ei ?_
          refine zw_aload_n (i := 0) (x := am 0) E 1 dX3_does_101 rfl rfl (pc' := 102) rfl ?_
          refine zw_get (v := .ref (am 5)) E 0 6 iX3_does_X3 fX3_does_22 rfl rfl (by decide) rfl rfl dX3_does_102 (pc' := 105) rfl ?_
          refine zw_iload_n (i := 2) (x := nI en) E 3 dX3_does_105 rfl rfl (pc' := 106) rfl ?_
          refine zw_iald (j := en) (x := g.1 4 en) E 5 0 rfl rfl (vp_in_nI hen (by decide)) (zw_clamp hen (by decide)) rfl dX3_does_106 (pc' := 107) rfl ?_
          refine zw_iast (j := i) (ws' := (md_W K am (md_row g 14 i (g.1 4 en)))) E 15 0 rfl rfl (vp_in_nI hi (by decide)) (zw_clamp hi (by decide)) rfl dX3_does_107 (pc' := 108) rfl ?_
          refine zw_gen_md_g (md_row g 14 i (g.1 4 en)) (fun g_4 hg_4 => ?_)
          refine zw_goto (tgt := 154) E dX3_does_108 (by decide) ?_
          exact zw_vret E hr hlk dX3_does_154 (congrArg (md_W K am) (by subst hg_4; unfold g_does; rw [if_neg s_1, if_neg s_2, if_neg s_3, if_pos s_4, ei, nI_clamp (by omega)]))
        · skip
          by_cases s_5 : g.1 0 en = 5
          · refine zw_tableIn (tgt := 111) (off := 98) E dX3_does_13 (by rw [s_5]; decide) (by rw [s_5]; decide) (by rw [s_5]; rfl) (by decide) ?_
            obtain ⟨hav, htz⟩ := hok.2.2.2.1 s_5
            refine zw_aload_n (i := 0) (x := am 0) E 1 dX3_does_111 rfl rfl (pc' := 112) rfl ?_
            refine zw_iload_n (i := 1) (x := nI kn) E 2 dX3_does_112 rfl rfl (pc' := 113) rfl ?_
            refine zw_iload_n (i := 2) (x := nI en) E 3 dX3_does_113 rfl rfl (pc' := 114) rfl ?_
            refine zw_callVw E (As := [.int (nI kn), .int (nI en)]) (rest := []) (ws' := (md_W K am (g_settle g kn en (mws g 60)))) (qX3_settles l D K am g kn en hkn hen hav htz) (cwV 2 E.2.2.2.2.1 gX3_does_X3_settles rfl rfl rfl (by decide +kernel) ⟨Nat.le_of_ble_eq_true rfl, Nat.le_of_ble_eq_true rfl⟩) 0 rfl rfl rfl (md_ad _ _ _ _) rfl rfl (Nat.le_of_ble_eq_true rfl) ⟨Nat.zero_le _, Nat.zero_le _⟩ dX3_does_114 (pc' := 117) rfl ?_
            refine zw_gen_md_g (g_settle g kn en (mws g 60)) (fun g_5 hg_5 => ?_)
            refine zw_goto (tgt := 154) E dX3_does_117 (by decide) ?_
            exact zw_vret E hr hlk dX3_does_154 (congrArg (md_W K am) (by subst hg_5; unfold g_does; rw [if_neg s_1, if_neg s_2, if_neg s_3, if_neg s_4, if_pos s_5]))
          · skip
            refine zw_tableOut (tgt := 120) E dX3_does_13 (by have q0 := lv_neT (a := 1) s_1 rfl; have q1 := lv_neT (a := 2) s_2 rfl; have q2 := lv_neT (a := 3) s_3 rfl; have q3 := lv_neT (a := 4) s_4 rfl; have q4 := lv_neT (a := 5) s_5 rfl; omega) (by decide) ?_
            obtain ⟨i, hi, ei⟩ := hok.2.2.2.2 ⟨s_1, s_2, s_3, s_5⟩
            refine zw_aload_n (i := 0) (x := am 0) E 1 dX3_does_120 rfl rfl (pc' := 121) rfl ?_
            refine zw_get (v := .ref (am 17)) E 0 18 iX3_does_X3 fX3_does_59 rfl rfl (by decide) rfl rfl dX3_does_121 (pc' := 124) rfl ?_
            refine zw_iload_n (i := 3) (x := g.1 2 en) E 0 dX3_does_124 rfl rfl (pc' := 125) rfl ?_
            refine zw_topi (x' := nI i) ei ?_
            refine zw_iconst (v := 1) E dX3_does_125 (by decide) (pc' := 126) rfl ?_
            refine zw_zast (j := i) (ws' := (md_W K am (md_row g 16 i 1))) E 17 1 rfl rfl (vp_in_nI hi (by decide)) (zw_clamp hi (by decide)) rfl dX3_does_126 (pc' := 127) rfl ?_
            refine zw_gen_md_g (md_row g 16 i 1) (fun g_6 hg_6 => ?_)
            refine zw_iconst (v := 0) E dX3_does_127 (by decide) (pc' := 128) rfl ?_
            refine zw_istore (lv' := [(4, .int 0), (3, .int (g.1 2 en)), (0, .ref (am 0)), (1, .int (nI kn)), (2, .int (nI en))]) E dX3_does_128 (by decide) rfl (pc' := 130) rfl ?_
            refine zw_iload (x := 0) E 0 dX3_does_130 rfl (pc' := 132) rfl ?_
            refine zw_iconst (v := 3) E dX3_does_132 (by decide) (pc' := 133) rfl ?_
            refine zw_icmp_ge (tgt := 154) E dX3_does_133 (by decide) (pc' := 136) rfl (fun c9 => absurd c9 (by decide)) (fun _ => ?_)
            refine zw_aload_n (i := 0) (x := am 0) E 2 dX3_does_136 rfl rfl (pc' := 137) rfl ?_
            refine zw_get (v := .ref (am 16)) E 0 17 iX3_does_X3 fX3_does_56 rfl rfl (by decide) rfl rfl dX3_does_137 (pc' := 140) rfl ?_
            refine zw_iconst (v := 3) E dX3_does_140 (by decide) (pc' := 141) rfl ?_
            refine zw_iload_n (i := 3) (x := g.1 2 en) E 1 dX3_does_141 rfl rfl (pc' := 142) rfl ?_
            refine zw_topi (x' := nI i) ei ?_
            refine zw_imul E dX3_does_142 (pc' := 143) rfl ?_
            refine zw_topi (x' := nI (3 * i)) (pk_mul 3 i) ?_
            refine zw_iload (x := 0) E 0 dX3_does_143 rfl (pc' := 145) rfl ?_
            refine zw_iadd E dX3_does_145 (pc' := 146) rfl ?_
            refine zw_topi (x' := nI (3 * i + 0)) (nI_add (3 * i) 0) ?_
            refine zw_iconst (v := 0) E dX3_does_146 (by decide) (pc' := 147) rfl ?_
            refine zw_iast (j := 3 * i + 0) (ws' := (md_W K am (md_row g_6 15 (3 * i + 0) 0))) E 16 0 rfl rfl (vp_in_nI (show 3 * i + 0 < 180 by omega) (by decide)) (zw_clamp (show 3 * i + 0 < 180 by omega) (by decide)) rfl dX3_does_147 (pc' := 148) rfl ?_
            refine zw_gen_md_g (md_row g_6 15 (3 * i + 0) 0) (fun g_7 hg_7 => ?_)
            refine zw_iinc (x := 0) (v := 1) (lv' := [(4, .int 1), (3, .int (g.1 2 en)), (0, .ref (am 0)), (1, .int (nI kn)), (2, .int (nI en))]) E 0 dX3_does_148 rfl (by decide) (by decide) rfl (pc' := 151) rfl ?_
            refine zw_goto (tgt := 130) E dX3_does_151 (by decide) ?_
            refine zw_iload (x := 1) E 0 dX3_does_130 rfl (pc' := 132) rfl ?_
            refine zw_iconst (v := 3) E dX3_does_132 (by decide) (pc' := 133) rfl ?_
            refine zw_icmp_ge (tgt := 154) E dX3_does_133 (by decide) (pc' := 136) rfl (fun c9 => absurd c9 (by decide)) (fun _ => ?_)
            refine zw_aload_n (i := 0) (x := am 0) E 2 dX3_does_136 rfl rfl (pc' := 137) rfl ?_
            refine zw_get (v := .ref (am 16)) E 0 17 iX3_does_X3 fX3_does_56 rfl rfl (by decide) rfl rfl dX3_does_137 (pc' := 140) rfl ?_
            refine zw_iconst (v := 3) E dX3_does_140 (by decide) (pc' := 141) rfl ?_
            refine zw_iload_n (i := 3) (x := g.1 2 en) E 1 dX3_does_141 rfl rfl (pc' := 142) rfl ?_
            refine zw_topi (x' := nI i) ei ?_
            refine zw_imul E dX3_does_142 (pc' := 143) rfl ?_
            refine zw_topi (x' := nI (3 * i)) (pk_mul 3 i) ?_
            refine zw_iload (x := 1) E 0 dX3_does_143 rfl (pc' := 145) rfl ?_
            refine zw_iadd E dX3_does_145 (pc' := 146) rfl ?_
            refine zw_topi (x' := nI (3 * i + 1)) (nI_add (3 * i) 1) ?_
            refine zw_iconst (v := 0) E dX3_does_146 (by decide) (pc' := 147) rfl ?_
            refine zw_iast (j := 3 * i + 1) (ws' := (md_W K am (md_row g_7 15 (3 * i + 1) 0))) E 16 0 rfl rfl (vp_in_nI (show 3 * i + 1 < 180 by omega) (by decide)) (zw_clamp (show 3 * i + 1 < 180 by omega) (by decide)) rfl dX3_does_147 (pc' := 148) rfl ?_
            refine zw_gen_md_g (md_row g_7 15 (3 * i + 1) 0) (fun g_8 hg_8 => ?_)
            refine zw_iinc (x := 1) (v := 2) (lv' := [(4, .int 2), (3, .int (g.1 2 en)), (0, .ref (am 0)), (1, .int (nI kn)), (2, .int (nI en))]) E 0 dX3_does_148 rfl (by decide) (by decide) rfl (pc' := 151) rfl ?_
            refine zw_goto (tgt := 130) E dX3_does_151 (by decide) ?_
            refine zw_iload (x := 2) E 0 dX3_does_130 rfl (pc' := 132) rfl ?_
            refine zw_iconst (v := 3) E dX3_does_132 (by decide) (pc' := 133) rfl ?_
            refine zw_icmp_ge (tgt := 154) E dX3_does_133 (by decide) (pc' := 136) rfl (fun c9 => absurd c9 (by decide)) (fun _ => ?_)
            refine zw_aload_n (i := 0) (x := am 0) E 2 dX3_does_136 rfl rfl (pc' := 137) rfl ?_
            refine zw_get (v := .ref (am 16)) E 0 17 iX3_does_X3 fX3_does_56 rfl rfl (by decide) rfl rfl dX3_does_137 (pc' := 140) rfl ?_
            refine zw_iconst (v := 3) E dX3_does_140 (by decide) (pc' := 141) rfl ?_
            refine zw_iload_n (i := 3) (x := g.1 2 en) E 1 dX3_does_141 rfl rfl (pc' := 142) rfl ?_
            refine zw_topi (x' := nI i) ei ?_
            refine zw_imul E dX3_does_142 (pc' := 143) rfl ?_
            refine zw_topi (x' := nI (3 * i)) (pk_mul 3 i) ?_
            refine zw_iload (x := 2) E 0 dX3_does_143 rfl (pc' := 145) rfl ?_
            refine zw_iadd E dX3_does_145 (pc' := 146) rfl ?_
            refine zw_topi (x' := nI (3 * i + 2)) (nI_add (3 * i) 2) ?_
            refine zw_iconst (v := 0) E dX3_does_146 (by decide) (pc' := 147) rfl ?_
            refine zw_iast (j := 3 * i + 2) (ws' := (md_W K am (md_row g_8 15 (3 * i + 2) 0))) E 16 0 rfl rfl (vp_in_nI (show 3 * i + 2 < 180 by omega) (by decide)) (zw_clamp (show 3 * i + 2 < 180 by omega) (by decide)) rfl dX3_does_147 (pc' := 148) rfl ?_
            refine zw_gen_md_g (md_row g_8 15 (3 * i + 2) 0) (fun g_9 hg_9 => ?_)
            refine zw_iinc (x := 2) (v := 3) (lv' := [(4, .int 3), (3, .int (g.1 2 en)), (0, .ref (am 0)), (1, .int (nI kn)), (2, .int (nI en))]) E 0 dX3_does_148 rfl (by decide) (by decide) rfl (pc' := 151) rfl ?_
            refine zw_goto (tgt := 130) E dX3_does_151 (by decide) ?_
            refine zw_iload (x := 3) E 0 dX3_does_130 rfl (pc' := 132) rfl ?_
            refine zw_iconst (v := 3) E dX3_does_132 (by decide) (pc' := 133) rfl ?_
            refine zw_icmp_ge (tgt := 154) E dX3_does_133 (by decide) (pc' := 136) rfl (fun _ => ?_) (fun c9 => absurd (by decide) c9)
            exact zw_vret E hr hlk dX3_does_154 (congrArg (md_W K am) (by subst hg_6 hg_7 hg_8 hg_9; unfold g_does g_buy md_c3; rw [if_neg s_1, if_neg s_2, if_neg s_3, if_neg s_4, if_neg s_5, ei, nI_clamp (by omega)]))
