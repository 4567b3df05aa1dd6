/-! the reference: average, tells, moneyOf, entry, count, price -/
def m_average (g : Md) (k y cn : Int32) : Int32 := if (0 ≤ k ∧ k ≤ nI (g.2.2.1 0)) then if (1 ≤ y ∧ y ≤ 200) then if (0 ≤ cn ∧ cn ≤ 2) then m_avg g k.toNatClampNeg y cn else -1 else -1 else -1
set_option maxHeartbeats 4000000 in
set_option maxRecDepth 100000 in
/-- average(k, y, corn) -/
theorem qX3_average (l : Launch) (D : va_G) (K : Nat → ClassId) (am : Nat → Nat) (g : Md) (k y cn : Int32) (hs80 : g.2.2.1 0 ≤ 80) : zw_I l yX3_average wsX3_average rmX3_average D (zT K) [.ref (am 0), .int k, .int y, .int cn] (md_W K am g) (m_average g k y cn) (md_W K am g) := by
  refine zw_ofI (cc := cX3_average) (nL := 4) (ret := (some .int)) (own := RX3) (lv := [(0, .ref (am 0)), (1, .int k), (2, .int y), (3, .int cn)]) (by decide) rfl (Nat.le_of_ble_eq_true rfl) rfl rfl ?_
  intro p e s m below meth c A E hr hlk
  refine zw_aload_n (i := 0) (x := am 0) E 0 dX3_average_0 rfl rfl (pc' := 1) rfl ?_
  refine zw_iload_n (i := 1) (x := k) E 1 dX3_average_1 rfl rfl (pc' := 2) rfl ?_
  refine zw_callIw E (r := zb (0 ≤ k ∧ k ≤ nI (g.2.2.1 0))) (As := [.int k]) (rest := []) (ws' := (md_W K am g)) (qX3_isKnowing l D K am g k) (cwV 1 E.2.2.2.2.1 gX3_average_X3_isKnowing rfl rfl rfl (by decide +kernel) ⟨Nat.le_of_ble_eq_true rfl, Nat.le_of_ble_eq_true rfl⟩) 0 rfl rfl rfl rfl rfl rfl (Nat.le_of_ble_eq_true rfl) ⟨Nat.zero_le _, Nat.zero_le _⟩ dX3_average_2 (pc' := 5) rfl ?_
  refine zw_ifb_eq (tgt := 38) E dX3_average_5 (by decide) (pc' := 8) rfl (fun c_1 => ?_) (fun c_1 => ?_)
  · skip
    refine zw_iconst (v := (-1)) E dX3_average_38 (by decide) (pc' := 39) rfl ?_
    exact zw_iret E hr hlk dX3_average_39 (by unfold m_average; rw [if_neg c_1]) rfl
  · skip
    obtain ⟨kn, hkn, ek⟩ := zw_kn hs80 c_1
    have ek2 : k.toNatClampNeg = kn := by rw [ek]; exact nI_clamp (by omega)
    have hkn80 : kn ≤ 80 := Nat.le_trans hkn hs80
    refine zw_iload_n (i := 2) (x := y) E 2 dX3_average_8 rfl rfl (pc' := 9) rfl ?_
    refine zw_iconst (v := 1) E dX3_average_9 (by decide) (pc' := 10) rfl ?_
    refine zw_sipush (v := 200) E dX3_average_10 (by decide) (pc' := 13) rfl ?_
    refine zw_callIs E (r := zb (1 ≤ y ∧ y ≤ 200)) (As := [.int y, .int 1, .int 200]) (rest := []) (ws' := (md_W K am g)) (qX3_lies l D K y 1 200) (va_cwS 3 E.2.2.2.2.1 gX3_average_X3_lies rfl rfl rfl (by decide +kernel) ⟨Nat.le_of_ble_eq_true rfl, Nat.le_of_ble_eq_true rfl⟩) [] (by decide) rfl rfl (zw_put_same _ _ _ rfl) rfl rfl (Nat.le_of_ble_eq_true rfl) ⟨Nat.zero_le _, Nat.zero_le _⟩ dX3_average_13 (pc' := 16) rfl ?_
    refine zw_ifb_eq (tgt := 38) E dX3_average_16 (by decide) (pc' := 19) rfl (fun c_2 => ?_) (fun c_2 => ?_)
    · skip
      refine zw_iconst (v := (-1)) E dX3_average_38 (by decide) (pc' := 39) rfl ?_
      exact zw_iret E hr hlk dX3_average_39 (by unfold m_average; rw [if_pos c_1, if_neg c_2]) rfl
    · skip
      refine zw_iload_n (i := 3) (x := cn) E 3 dX3_average_19 rfl rfl (pc' := 20) rfl ?_
      refine zw_iconst (v := 0) E dX3_average_20 (by decide) (pc' := 21) rfl ?_
      refine zw_iconst (v := 2) E dX3_average_21 (by decide) (pc' := 22) rfl ?_
      refine zw_callIs E (r := zb (0 ≤ cn ∧ cn ≤ 2)) (As := [.int cn, .int 0, .int 2]) (rest := []) (ws' := (md_W K am g)) (qX3_lies l D K cn 0 2) (va_cwS 3 E.2.2.2.2.1 gX3_average_X3_lies rfl rfl rfl (by decide +kernel) ⟨Nat.le_of_ble_eq_true rfl, Nat.le_of_ble_eq_true rfl⟩) [] (by decide) rfl rfl (zw_put_same _ _ _ rfl) rfl rfl (Nat.le_of_ble_eq_true rfl) ⟨Nat.zero_le _, Nat.zero_le _⟩ dX3_average_22 (pc' := 25) rfl ?_
      refine zw_ifb_eq (tgt := 38) E dX3_average_25 (by decide) (pc' := 28) rfl (fun c_3 => ?_) (fun c_3 => ?_)
      · skip
        refine zw_iconst (v := (-1)) E dX3_average_38 (by decide) (pc' := 39) rfl ?_
        exact zw_iret E hr hlk dX3_average_39 (by unfold m_average; rw [if_pos c_1, if_pos c_2, if_neg c_3]) rfl
      · skip
        refine zw_aload_n (i := 0) (x := am 0) E 0 dX3_average_28 rfl rfl (pc' := 29) rfl ?_
        refine zw_iload_n (i := 1) (x := k) E 1 dX3_average_29 rfl rfl (pc' := 30) rfl ?_
        refine zw_topi (x' := nI kn) ek ?_
        refine zw_iload_n (i := 2) (x := y) E 2 dX3_average_30 rfl rfl (pc' := 31) rfl ?_
        refine zw_iload_n (i := 3) (x := cn) E 3 dX3_average_31 rfl rfl (pc' := 32) rfl ?_
        refine zw_callIw E (r := m_avg g kn y cn) (As := [.int (nI kn), .int y, .int cn]) (rest := []) (ws' := (md_W K am g)) (qX3_averageOf l D K am g kn hkn80 y cn c_2) (cwV 3 E.2.2.2.2.1 gX3_average_X3_averageOf rfl rfl rfl (by decide +kernel) ⟨Nat.le_of_ble_eq_true rfl, Nat.le_of_ble_eq_true rfl⟩) 0 rfl rfl rfl rfl rfl rfl (Nat.le_of_ble_eq_true rfl) ⟨Nat.zero_le _, Nat.zero_le _⟩ dX3_average_32 (pc' := 35) rfl ?_
        refine zw_goto (tgt := 39) E dX3_average_35 (by decide) ?_
        exact zw_iret E hr hlk dX3_average_39 (by unfold m_average; rw [if_pos c_1, if_pos c_2, if_pos c_3, ek2]) rfl

theorem zw_chg (i v : Nat) (h : 3 ≤ v) : nI (3 * i + v) - 3 = nI (3 * i + (v - 3)) := (pk_sub (a := 3 * i + v) (b := 3) (by omega)).trans (congrArg nI (by omega))
def m_tell (g : Md) (f what : Int32) : Int32 := if m_is g f then if what = 0 then g.1 12 f.toNatClampNeg else if what = 1 then g.1 13 f.toNatClampNeg else if what = 2 then g.1 14 f.toNatClampNeg else if what = 3 then g.1 15 (3 * f.toNatClampNeg + 0) else if what = 4 then g.1 15 (3 * f.toNatClampNeg + 1) else if what = 5 then g.1 15 (3 * f.toNatClampNeg + 2) else if what = 6 then if g.1 16 f.toNatClampNeg = 0 then 0 else 1 else -1 else -1
theorem fX3_tells_47 : Cond.fieldLink RX3 47 "TitheMapModel" "area" "[I" ∈ wsX3_tells := by decide +kernel
theorem fX3_tells_50 : Cond.fieldLink RX3 50 "TitheMapModel" "kind" "[I" ∈ wsX3_tells := by decide +kernel
theorem fX3_tells_53 : Cond.fieldLink RX3 53 "TitheMapModel" "owner" "[I" ∈ wsX3_tells := by decide +kernel
theorem fX3_tells_56 : Cond.fieldLink RX3 56 "TitheMapModel" "charge" "[I" ∈ wsX3_tells := by decide +kernel
theorem fX3_tells_59 : Cond.fieldLink RX3 59 "TitheMapModel" "isBought" "[Z" ∈ wsX3_tells := by decide +kernel
theorem iX3_tells_X3 : ∀ w ∈ wsX30, w ∈ wsX3_tells := by decide +kernel
set_option maxHeartbeats 4000000 in
set_option maxRecDepth 100000 in
/-- tells(f, what) -/
theorem qX3_tells (l : Launch) (D : va_G) (K : Nat → ClassId) (am : Nat → Nat) (g : Md) (hf60 : g.2.2.1 1 ≤ 60) (f what : Int32) : zw_I l yX3_tells wsX3_tells rmX3_tells D (zT K) [.ref (am 0), .int f, .int what] (md_W K am g) (m_tell g f what) (md_W K am g) := by
  refine zw_ofI (cc := cX3_tells) (nL := 3) (ret := (some .int)) (own := RX3) (lv := [(0, .ref (am 0)), (1, .int f), (2, .int what)]) (by decide) rfl (Nat.le_of_ble_eq_true rfl) rfl rfl ?_
  intro p e s m below meth c A E hr hlk
  refine zw_aload_n (i := 0) (x := am 0) E 0 dX3_tells_0 rfl rfl (pc' := 1) rfl ?_
  refine zw_iload_n (i := 1) (x := f) E 1 dX3_tells_1 rfl rfl (pc' := 2) rfl ?_
  refine zw_callIw E (r := zb (m_is g f)) (As := [.int f]) (rest := []) (ws' := (md_W K am g)) (qX3_is l D K am g hf60 f) (cwV 1 E.2.2.2.2.1 gX3_tells_X3_is rfl rfl rfl (by decide +kernel) ⟨Nat.le_of_ble_eq_true rfl, Nat.le_of_ble_eq_true rfl⟩) 0 rfl rfl rfl rfl rfl rfl (Nat.le_of_ble_eq_true rfl) ⟨Nat.zero_le _, Nat.zero_le _⟩ dX3_tells_2 (pc' := 5) rfl ?_
  refine zw_ifb_ne (tgt := 10) E dX3_tells_5 (by decide) (pc' := 8) rfl (fun c_1 => ?_) (fun c_1 => ?_)
  · skip
    refine zw_iload_n (i := 2) (x := what) E 2 dX3_tells_10 rfl rfl (pc' := 11) rfl ?_
    by_cases s_2 : what = 0
    · refine zw_tableIn (tgt := 52) (off := 41) E dX3_tells_11 (by rw [s_2]; decide) (by rw [s_2]; decide) (by rw [s_2]; rfl) (by decide) ?_
      refine zw_aload_n (i := 0) (x := am 0) E 0 dX3_tells_52 rfl rfl (pc' := 53) rfl ?_
      refine zw_get (v := .ref (am 13)) E 0 14 iX3_tells_X3 fX3_tells_47 rfl rfl (by decide) rfl rfl dX3_tells_53 (pc' := 56) rfl ?_
      refine zw_iload_n (i := 1) (x := f) E 1 dX3_tells_56 rfl rfl (pc' := 57) rfl ?_
      refine zw_iald (j := f.toNatClampNeg) (x := g.1 12 f.toNatClampNeg) E 13 0 rfl rfl (zw_mfin hf60 c_1.1) rfl rfl dX3_tells_57 (pc' := 58) rfl ?_
      exact zw_iret E hr hlk dX3_tells_58 (by unfold m_tell; rw [if_pos c_1, if_pos s_2]) rfl
    · skip
      by_cases s_3 : what = 1
      · refine zw_tableIn (tgt := 59) (off := 48) E dX3_tells_11 (by rw [s_3]; decide) (by rw [s_3]; decide) (by rw [s_3]; rfl) (by decide) ?_
        refine zw_aload_n (i := 0) (x := am 0) E 0 dX3_tells_59 rfl rfl (pc' := 60) rfl ?_
        refine zw_get (v := .ref (am 14)) E 0 15 iX3_tells_X3 fX3_tells_50 rfl rfl (by decide) rfl rfl dX3_tells_60 (pc' := 63) rfl ?_
        refine zw_iload_n (i := 1) (x := f) E 1 dX3_tells_63 rfl rfl (pc' := 64) rfl ?_
        refine zw_iald (j := f.toNatClampNeg) (x := g.1 13 f.toNatClampNeg) E 14 0 rfl rfl (zw_mfin hf60 c_1.1) rfl rfl dX3_tells_64 (pc' := 65) rfl ?_
        exact zw_iret E hr hlk dX3_tells_65 (by unfold m_tell; rw [if_pos c_1, if_neg s_2, if_pos s_3]) rfl
      · skip
        by_cases s_4 : what = 2
        · refine zw_tableIn (tgt := 66) (off := 55) E dX3_tells_11 (by rw [s_4]; decide) (by rw [s_4]; decide) (by rw [s_4]; rfl) (by decide) ?_
          refine zw_aload_n (i := 0) (x := am 0) E 0 dX3_tells_66 rfl rfl (pc' := 67) rfl ?_
          refine zw_get (v := .ref (am 15)) E 0 16 iX3_tells_X3 fX3_tells_53 rfl rfl (by decide) rfl rfl dX3_tells_67 (pc' := 70) rfl ?_
          refine zw_iload_n (i := 1) (x := f) E 1 dX3_tells_70 rfl rfl (pc' := 71) rfl ?_
          refine zw_iald (j := f.toNatClampNeg) (x := g.1 14 f.toNatClampNeg) E 15 0 rfl rfl (zw_mfin hf60 c_1.1) rfl rfl dX3_tells_71 (pc' := 72) rfl ?_
          exact zw_iret E hr hlk dX3_tells_72 (by unfold m_tell; rw [if_pos c_1, if_neg s_2, if_neg s_3, if_pos s_4]) rfl
        · skip
          by_cases s_5 : what = 3
          · refine zw_tableIn (tgt := 73) (off := 62) E dX3_tells_11 (by rw [s_5]; decide) (by rw [s_5]; decide) (by rw [s_5]; rfl) (by decide) ?_
            obtain ⟨i, hi, ei⟩ := zw_mf hf60 c_1.1
            have ei2 : f.toNatClampNeg = i := by rw [ei]; exact nI_clamp (by omega)
            refine zw_aload_n (i := 0) (x := am 0) E 0 dX3_tells_73 rfl rfl (pc' := 74) rfl ?_
            refine zw_get (v := .ref (am 16)) E 0 17 iX3_tells_X3 fX3_tells_56 rfl rfl (by decide) rfl rfl dX3_tells_74 (pc' := 77) rfl ?_
            refine zw_iconst (v := 3) E dX3_tells_77 (by decide) (pc' := 78) rfl ?_
            refine zw_iload_n (i := 1) (x := f) E 1 dX3_tells_78 rfl rfl (pc' := 79) rfl ?_
            refine zw_topi (x' := nI i) ei ?_
            refine zw_imul E dX3_tells_79 (pc' := 80) rfl ?_
            refine zw_topi (x' := nI (3 * i)) (pk_mul 3 i) ?_
            refine zw_iload_n (i := 2) (x := what) E 2 dX3_tells_80 rfl rfl (pc' := 81) rfl ?_
            refine zw_iadd E dX3_tells_81 (pc' := 82) rfl ?_
            refine zw_topi (x' := nI (3 * i + 3)) (by rw [s_5]; exact nI_add (3 * i) 3) ?_
            refine zw_iconst (v := 3) E dX3_tells_82 (by decide) (pc' := 83) rfl ?_
            refine zw_isub E dX3_tells_83 (pc' := 84) rfl ?_
            refine zw_topi (x' := nI (3 * i + 0)) (zw_chg i 3 (by decide)) ?_
            refine zw_iald (j := 3 * i + 0) (x := g.1 15 (3 * i + 0)) E 16 0 rfl rfl (vp_in_nI (show 3 * i + 0 < 180 by omega) (by decide)) (zw_clamp (show 3 * i + 0 < 180 by omega) (by decide)) rfl dX3_tells_84 (pc' := 85) rfl ?_
            exact zw_iret E hr hlk dX3_tells_85 (by unfold m_tell; rw [if_pos c_1, if_neg s_2, if_neg s_3, if_neg s_4, if_pos s_5, ei2]) rfl
          · skip
            by_cases s_6 : what = 4
            · refine zw_tableIn (tgt := 73) (off := 62) E dX3_tells_11 (by rw [s_6]; decide) (by rw [s_6]; decide) (by rw [s_6]; rfl) (by decide) ?_
              obtain ⟨i, hi, ei⟩ := zw_mf hf60 c_1.1
              have ei2 : f.toNatClampNeg = i := by rw [ei]; exact nI_clamp (by omega)
              refine zw_aload_n (i := 0) (x := am 0) E 0 dX3_tells_73 rfl rfl (pc' := 74) rfl ?_
              refine zw_get (v := .ref (am 16)) E 0 17 iX3_tells_X3 fX3_tells_56 rfl rfl (by decide) rfl rfl dX3_tells_74 (pc' := 77) rfl ?_
              refine zw_iconst (v := 3) E dX3_tells_77 (by decide) (pc' := 78) rfl ?_
              refine zw_iload_n (i := 1) (x := f) E 1 dX3_tells_78 rfl rfl (pc' := 79) rfl ?_
              refine zw_topi (x' := nI i) ei ?_
              refine zw_imul E dX3_tells_79 (pc' := 80) rfl ?_
              refine zw_topi (x' := nI (3 * i)) (pk_mul 3 i) ?_
              refine zw_iload_n (i := 2) (x := what) E 2 dX3_tells_80 rfl rfl (pc' := 81) rfl ?_
              refine zw_iadd E dX3_tells_81 (pc' := 82) rfl ?_
              refine zw_topi (x' := nI (3 * i + 4)) (by rw [s_6]; exact nI_add (3 * i) 4) ?_
              refine zw_iconst (v := 3) E dX3_tells_82 (by decide) (pc' := 83) rfl ?_
              refine zw_isub E dX3_tells_83 (pc' := 84) rfl ?_
              refine zw_topi (x' := nI (3 * i + 1)) (zw_chg i 4 (by decide)) ?_
              refine zw_iald (j := 3 * i + 1) (x := g.1 15 (3 * i + 1)) E 16 0 rfl rfl (vp_in_nI (show 3 * i + 1 < 180 by omega) (by decide)) (zw_clamp (show 3 * i + 1 < 180 by omega) (by decide)) rfl dX3_tells_84 (pc' := 85) rfl ?_
              exact zw_iret E hr hlk dX3_tells_85 (by unfold m_tell; rw [if_pos c_1, if_neg s_2, if_neg s_3, if_neg s_4, if_neg s_5, if_pos s_6, ei2]) rfl
            · skip
              by_cases s_7 : what = 5
              · refine zw_tableIn (tgt := 73) (off := 62) E dX3_tells_11 (by rw [s_7]; decide) (by rw [s_7]; decide) (by rw [s_7]; rfl) (by decide) ?_
                obtain ⟨i, hi, ei⟩ := zw_mf hf60 c_1.1
                have ei2 : f.toNatClampNeg = i := by rw [ei]; exact nI_clamp (by omega)
                refine zw_aload_n (i := 0) (x := am 0) E 0 dX3_tells_73 rfl rfl (pc' := 74) rfl ?_
                refine zw_get (v := .ref (am 16)) E 0 17 iX3_tells_X3 fX3_tells_56 rfl rfl (by decide) rfl rfl dX3_tells_74 (pc' := 77) rfl ?_
                refine zw_iconst (v := 3) E dX3_tells_77 (by decide) (pc' := 78) rfl ?_
                refine zw_iload_n (i := 1) (x := f) E 1 dX3_tells_78 rfl rfl (pc' := 79) rfl ?_
                refine zw_topi (x' := nI i) ei ?_
                refine zw_imul E dX3_tells_79 (pc' := 80) rfl ?_
                refine zw_topi (x' := nI (3 * i)) (pk_mul 3 i) ?_
                refine zw_iload_n (i := 2) (x := what) E 2 dX3_tells_80 rfl rfl (pc' := 81) rfl ?_
                refine zw_iadd E dX3_tells_81 (pc' := 82) rfl ?_
                refine zw_topi (x' := nI (3 * i + 5)) (by rw [s_7]; exact nI_add (3 * i) 5) ?_
                refine zw_iconst (v := 3) E dX3_tells_82 (by decide) (pc' := 83) rfl ?_
                refine zw_isub E dX3_tells_83 (pc' := 84) rfl ?_
                refine zw_topi (x' := nI (3 * i + 2)) (zw_chg i 5 (by decide)) ?_
                refine zw_iald (j := 3 * i + 2) (x := g.1 15 (3 * i + 2)) E 16 0 rfl rfl (vp_in_nI (show 3 * i + 2 < 180 by omega) (by decide)) (zw_clamp (show 3 * i + 2 < 180 by omega) (by decide)) rfl dX3_tells_84 (pc' := 85) rfl ?_
                exact zw_iret E hr hlk dX3_tells_85 (by unfold m_tell; rw [if_pos c_1, if_neg s_2, if_neg s_3, if_neg s_4, if_neg s_5, if_neg s_6, if_pos s_7, ei2]) rfl
              · skip
                by_cases s_8 : what = 6
                · refine zw_tableIn (tgt := 86) (off := 75) E dX3_tells_11 (by rw [s_8]; decide) (by rw [s_8]; decide) (by rw [s_8]; rfl) (by decide) ?_
                  refine zw_aload_n (i := 0) (x := am 0) E 0 dX3_tells_86 rfl rfl (pc' := 87) rfl ?_
                  refine zw_get (v := .ref (am 17)) E 0 18 iX3_tells_X3 fX3_tells_59 rfl rfl (by decide) rfl rfl dX3_tells_87 (pc' := 90) rfl ?_
                  refine zw_iload_n (i := 1) (x := f) E 1 dX3_tells_90 rfl rfl (pc' := 91) rfl ?_
                  refine zw_zald (j := f.toNatClampNeg) (x := g.1 16 f.toNatClampNeg) E 17 1 rfl rfl (zw_mfin hf60 c_1.1) rfl rfl dX3_tells_91 (pc' := 92) rfl ?_
                  refine zw_if_eq (tgt := 99) E dX3_tells_92 (by decide) (pc' := 95) rfl (fun c_9 => ?_) (fun c_9 => ?_)
                  · skip
                    refine zw_iconst (v := 0) E dX3_tells_99 (by decide) (pc' := 100) rfl ?_
                    exact zw_iret E hr hlk dX3_tells_100 (by unfold m_tell; rw [if_pos c_1, if_neg s_2, if_neg s_3, if_neg s_4, if_neg s_5, if_neg s_6, if_neg s_7, if_pos s_8, if_pos c_9]) rfl
                  · skip
                    refine zw_iconst (v := 1) E dX3_tells_95 (by decide) (pc' := 96) rfl ?_
                    refine zw_goto (tgt := 100) E dX3_tells_96 (by decide) ?_
                    exact zw_iret E hr hlk dX3_tells_100 (by unfold m_tell; rw [if_pos c_1, if_neg s_2, if_neg s_3, if_neg s_4, if_neg s_5, if_neg s_6, if_neg s_7, if_pos s_8, if_neg c_9]) rfl
                · skip
                  refine zw_tableOut (tgt := 101) E dX3_tells_11 (by have q0 := lv_neT (a := 0) s_2 rfl; have q1 := lv_neT (a := 1) s_3 rfl; have q2 := lv_neT (a := 2) s_4 rfl; have q3 := lv_neT (a := 3) s_5 rfl; have q4 := lv_neT (a := 4) s_6 rfl; have q5 := lv_neT (a := 5) s_7 rfl; have q6 := lv_neT (a := 6) s_8 rfl; omega) (by decide) ?_
                  refine zw_iconst (v := (-1)) E dX3_tells_101 (by decide) (pc' := 102) rfl ?_
                  exact zw_iret E hr hlk dX3_tells_102 (by unfold m_tell; rw [if_pos c_1, if_neg s_2, if_neg s_3, if_neg s_4, if_neg s_5, if_neg s_6, if_neg s_7, if_neg s_8]) rfl
  · skip
    refine zw_iconst (v := (-1)) E dX3_tells_8 (by decide) (pc' := 9) rfl ?_
    exact zw_iret E hr hlk dX3_tells_9 (by unfold m_tell; rw [if_neg c_1]) rfl

def m_money (g : Md) (n : Nat) (y : Int32) (i : Nat) : Int64 := if m_avg g n y 0 = -1 then -1 else if m_avg g n y 1 = -1 then -1 else if m_avg g n y 2 = -1 then -1 else z_near (0 + (g.1 15 (3 * i + 0)).toInt64 * (m_avg g n y 0).toInt64 + (g.1 15 (3 * i + 1)).toInt64 * (m_avg g n y 1).toInt64 + (g.1 15 (3 * i + 2)).toInt64 * (m_avg g n y 2).toInt64) 100
theorem kX3_moneyOf_104 : Cond.constantLong RX3 104 (-1) ∈ wsX3_moneyOf := by decide +kernel
theorem kX3_moneyOf_108 : Cond.constantLong RX3 108 (100) ∈ wsX3_moneyOf := by decide +kernel
theorem fX3_moneyOf_56 : Cond.fieldLink RX3 56 "TitheMapModel" "charge" "[I" ∈ wsX3_moneyOf := by decide +kernel
theorem iX3_moneyOf_X3 : ∀ w ∈ wsX30, w ∈ wsX3_moneyOf := by decide +kernel
set_option maxHeartbeats 4000000 in
set_option maxRecDepth 100000 in
/-- moneyOf(k, y, f) -/
theorem qX3_moneyOf (l : Launch) (D : va_G) (K : Nat → ClassId) (am : Nat → Nat) (g : Md) (n : Nat) (hn : n ≤ 80) (y : Int32) (hy : 1 ≤ y ∧ y ≤ 200) (i : Nat) (hi : i < 60) : zw_L l yX3_moneyOf wsX3_moneyOf rmX3_moneyOf D (zT K) [.ref (am 0), .int (nI n), .int y, .int (nI i)] (md_W K am g) (m_money g n y i) (md_W K am g) := by
  refine zw_ofL (cc := cX3_moneyOf) (nL := 8) (ret := (some .long)) (own := RX3) (lv := [(0, .ref (am 0)), (1, .int (nI n)), (2, .int y), (3, .int (nI i))]) (by decide) rfl (Nat.le_of_ble_eq_true rfl) rfl rfl ?_
  intro p e s m below meth c A E hr hlk
  refine zw_lconst (v := 0) E dX3_moneyOf_0 (by decide) (pc' := 1) rfl ?_
  refine zw_lstore (lv' := [(4, .long 0), (0, .ref (am 0)), (1, .int (nI n)), (2, .int y), (3, .int (nI i))]) E dX3_moneyOf_1 (by decide) rfl (pc' := 3) rfl ?_
  refine zw_iconst (v := 0) E dX3_moneyOf_3 (by decide) (pc' := 4) rfl ?_
  refine zw_istore (lv' := [(6, .int 0), (4, .long 0), (0, .ref (am 0)), (1, .int (nI n)), (2, .int y), (3, .int (nI i))]) E dX3_moneyOf_4 (by decide) rfl (pc' := 6) rfl ?_
  refine zw_iload (x := 0) E 0 dX3_moneyOf_6 rfl (pc' := 8) rfl ?_
  refine zw_iconst (v := 3) E dX3_moneyOf_8 (by decide) (pc' := 9) rfl ?_
  refine zw_icmp_ge (tgt := 59) E dX3_moneyOf_9 (by decide) (pc' := 12) rfl (fun c9 => absurd c9 (by decide)) (fun _ => ?_)
  refine zw_aload_n (i := 0) (x := am 0) E 2 dX3_moneyOf_12 rfl rfl (pc' := 13) rfl ?_
  refine zw_iload_n (i := 1) (x := nI n) E 3 dX3_moneyOf_13 rfl rfl (pc' := 14) rfl ?_
  refine zw_iload_n (i := 2) (x := y) E 4 dX3_moneyOf_14 rfl rfl (pc' := 15) rfl ?_
  refine zw_iload (x := 0) E 0 dX3_moneyOf_15 rfl (pc' := 17) rfl ?_
  refine zw_callIw E (r := m_avg g n y 0) (As := [.int (nI n), .int y, .int 0]) (rest := []) (ws' := (md_W K am g)) (qX3_averageOf l D K am g n hn y 0 hy) (cwV 3 E.2.2.2.2.1 gX3_moneyOf_X3_averageOf rfl rfl rfl (by decide +kernel) ⟨Nat.le_of_ble_eq_true rfl, Nat.le_of_ble_eq_true rfl⟩) 0 rfl rfl rfl rfl rfl rfl (Nat.le_of_ble_eq_true rfl) ⟨Nat.zero_le _, Nat.zero_le _⟩ dX3_moneyOf_17 (pc' := 20) rfl ?_
  refine zw_istore (lv' := [(7, .int (m_avg g n y 0)), (6, .int 0), (4, .long 0), (0, .ref (am 0)), (1, .int (nI n)), (2, .int y), (3, .int (nI i))]) E dX3_moneyOf_20 (by decide) rfl (pc' := 22) rfl ?_
  refine zw_iload (x := m_avg g n y 0) E 0 dX3_moneyOf_22 rfl (pc' := 24) rfl ?_
  refine zw_iconst (v := (-1)) E dX3_moneyOf_24 (by decide) (pc' := 25) rfl ?_
  refine zw_icmp_ne (tgt := 32) E dX3_moneyOf_25 (by decide) (pc' := 28) rfl (fun c_1 => ?_) (fun c_1 => ?_)
  · skip
    refine zw_lload (x := 0) E 2 dX3_moneyOf_32 rfl (pc' := 34) rfl ?_
    refine zw_aload_n (i := 0) (x := am 0) E 3 dX3_moneyOf_34 rfl rfl (pc' := 35) rfl ?_
    refine zw_get (v := .ref (am 16)) E 0 17 iX3_moneyOf_X3 fX3_moneyOf_56 rfl rfl (by decide) rfl rfl dX3_moneyOf_35 (pc' := 38) rfl ?_
    refine zw_iconst (v := 3) E dX3_moneyOf_38 (by decide) (pc' := 39) rfl ?_
    refine zw_iload_n (i := 3) (x := nI i) E 6 dX3_moneyOf_39 rfl rfl (pc' := 40) rfl ?_
    refine zw_imul E dX3_moneyOf_40 (pc' := 41) rfl ?_
    refine zw_topi (x' := nI (3 * i)) (pk_mul 3 i) ?_
    refine zw_iload (x := 0) E 1 dX3_moneyOf_41 rfl (pc' := 43) rfl ?_
    refine zw_iadd E dX3_moneyOf_43 (pc' := 44) rfl ?_
    refine zw_topi (x' := nI (3 * i + 0)) (nI_add (3 * i) 0) ?_
    refine zw_iald (j := 3 * i + 0) (x := g.1 15 (3 * i + 0)) E 16 0 rfl rfl (vp_in_nI (show 3 * i + 0 < 180 by omega) (by decide)) (zw_clamp (show 3 * i + 0 < 180 by omega) (by decide)) rfl dX3_moneyOf_44 (pc' := 45) rfl ?_
    refine zw_i2l E dX3_moneyOf_45 (pc' := 46) rfl ?_
    refine zw_iload (x := m_avg g n y 0) E 0 dX3_moneyOf_46 rfl (pc' := 48) rfl ?_
    refine zw_i2l E dX3_moneyOf_48 (pc' := 49) rfl ?_
    refine zw_lmul E dX3_moneyOf_49 (pc' := 50) rfl ?_
    refine zw_ladd E dX3_moneyOf_50 (pc' := 51) rfl ?_
    refine zw_lstore (lv' := [(4, .long (0 + (((g.1 15 (3 * i + 0)).toInt64) * ((m_avg g n y 0).toInt64)))), (7, .int (m_avg g n y 0)), (6, .int 0), (0, .ref (am 0)), (1, .int (nI n)), (2, .int y), (3, .int (nI i))]) E dX3_moneyOf_51 (by decide) rfl (pc' := 53) rfl ?_
    refine zw_iinc (x := 0) (v := 1) (lv' := [(6, .int 1), (4, .long (0 + (((g.1 15 (3 * i + 0)).toInt64) * ((m_avg g n y 0).toInt64)))), (7, .int (m_avg g n y 0)), (0, .ref (am 0)), (1, .int (nI n)), (2, .int y), (3, .int (nI i))]) E 2 dX3_moneyOf_53 rfl (by decide) (by decide) rfl (pc' := 56) rfl ?_
    refine zw_goto (tgt := 6) E dX3_moneyOf_56 (by decide) ?_
    refine zw_iload (x := 1) E 0 dX3_moneyOf_6 rfl (pc' := 8) rfl ?_
    refine zw_iconst (v := 3) E dX3_moneyOf_8 (by decide) (pc' := 9) rfl ?_
    refine zw_icmp_ge (tgt := 59) E dX3_moneyOf_9 (by decide) (pc' := 12) rfl (fun c9 => absurd c9 (by decide)) (fun _ => ?_)
    refine zw_aload_n (i := 0) (x := am 0) E 3 dX3_moneyOf_12 rfl rfl (pc' := 13) rfl ?_
    refine zw_iload_n (i := 1) (x := nI n) E 4 dX3_moneyOf_13 rfl rfl (pc' := 14) rfl ?_
    refine zw_iload_n (i := 2) (x := y) E 5 dX3_moneyOf_14 rfl rfl (pc' := 15) rfl ?_
    refine zw_iload (x := 1) E 0 dX3_moneyOf_15 rfl (pc' := 17) rfl ?_
    refine zw_callIw E (r := m_avg g n y 1) (As := [.int (nI n), .int y, .int 1]) (rest := []) (ws' := (md_W K am g)) (qX3_averageOf l D K am g n hn y 1 hy) (cwV 3 E.2.2.2.2.1 gX3_moneyOf_X3_averageOf rfl rfl rfl (by decide +kernel) ⟨Nat.le_of_ble_eq_true rfl, Nat.le_of_ble_eq_true rfl⟩) 0 rfl rfl rfl rfl rfl rfl (Nat.le_of_ble_eq_true rfl) ⟨Nat.zero_le _, Nat.zero_le _⟩ dX3_moneyOf_17 (pc' := 20) rfl ?_
    refine zw_istore (lv' := [(7, .int (m_avg g n y 1)), (6, .int 1), (4, .long (0 + (((g.1 15 (3 * i + 0)).toInt64) * ((m_avg g n y 0).toInt64)))), (0, .ref (am 0)), (1, .int (nI n)), (2, .int y), (3, .int (nI i))]) E dX3_moneyOf_20 (by decide) rfl (pc' := 22) rfl ?_
    refine zw_iload (x := m_avg g n y 1) E 0 dX3_moneyOf_22 rfl (pc' := 24) rfl ?_
    refine zw_iconst (v := (-1)) E dX3_moneyOf_24 (by decide) (pc' := 25) rfl ?_
    refine zw_icmp_ne (tgt := 32) E dX3_moneyOf_25 (by decide) (pc' := 28) rfl (fun c_2 => ?_) (fun c_2 => ?_)
    · skip
      refine zw_lload (x := 0 + (((g.1 15 (3 * i + 0)).toInt64) * ((m_avg g n y 0).toInt64))) E 2 dX3_moneyOf_32 rfl (pc' := 34) rfl ?_
      refine zw_aload_n (i := 0) (x := am 0) E 3 dX3_moneyOf_34 rfl rfl (pc' := 35) rfl ?_
      refine zw_get (v := .ref (am 16)) E 0 17 iX3_moneyOf_X3 fX3_moneyOf_56 rfl rfl (by decide) rfl rfl dX3_moneyOf_35 (pc' := 38) rfl ?_
      refine zw_iconst (v := 3) E dX3_moneyOf_38 (by decide) (pc' := 39) rfl ?_
      refine zw_iload_n (i := 3) (x := nI i) E 6 dX3_moneyOf_39 rfl rfl (pc' := 40) rfl ?_
      refine zw_imul E dX3_moneyOf_40 (pc' := 41) rfl ?_
      refine zw_topi (x' := nI (3 * i)) (pk_mul 3 i) ?_
      refine zw_iload (x := 1) E 1 dX3_moneyOf_41 rfl (pc' := 43) rfl ?_
      refine zw_iadd E dX3_moneyOf_43 (pc' := 44) rfl ?_
      refine zw_topi (x' := nI (3 * i + 1)) (nI_add (3 * i) 1) ?_
      refine zw_iald (j := 3 * i + 1) (x := g.1 15 (3 * i + 1)) E 16 0 rfl rfl (vp_in_nI (show 3 * i + 1 < 180 by omega) (by decide)) (zw_clamp (show 3 * i + 1 < 180 by omega) (by decide)) rfl dX3_moneyOf_44 (pc' := 45) rfl ?_
      refine zw_i2l E dX3_moneyOf_45 (pc' := 46) rfl ?_
      refine zw_iload (x := m_avg g n y 1) E 0 dX3_moneyOf_46 rfl (pc' := 48) rfl ?_
      refine zw_i2l E dX3_moneyOf_48 (pc' := 49) rfl ?_
      refine zw_lmul E dX3_moneyOf_49 (pc' := 50) rfl ?_
      refine zw_ladd E dX3_moneyOf_50 (pc' := 51) rfl ?_
      refine zw_lstore (lv' := [(4, .long ((0 + (((g.1 15 (3 * i + 0)).toInt64) * ((m_avg g n y 0).toInt64))) + (((g.1 15 (3 * i + 1)).toInt64) * ((m_avg g n y 1).toInt64)))), (7, .int (m_avg g n y 1)), (6, .int 1), (0, .ref (am 0)), (1, .int (nI n)), (2, .int y), (3, .int (nI i))]) E dX3_moneyOf_51 (by decide) rfl (pc' := 53) rfl ?_
      refine zw_iinc (x := 1) (v := 2) (lv' := [(6, .int 2), (4, .long ((0 + (((g.1 15 (3 * i + 0)).toInt64) * ((m_avg g n y 0).toInt64))) + (((g.1 15 (3 * i + 1)).toInt64) * ((m_avg g n y 1).toInt64)))), (7, .int (m_avg g n y 1)), (0, .ref (am 0)), (1, .int (nI n)), (2, .int y), (3, .int (nI i))]) E 2 dX3_moneyOf_53 rfl (by decide) (by decide) rfl (pc' := 56) rfl ?_
      refine zw_goto (tgt := 6) E dX3_moneyOf_56 (by decide) ?_
      refine zw_iload (x := 2) E 0 dX3_moneyOf_6 rfl (pc' := 8) rfl ?_
      refine zw_iconst (v := 3) E dX3_moneyOf_8 (by decide) (pc' := 9) rfl ?_
      refine zw_icmp_ge (tgt := 59) E dX3_moneyOf_9 (by decide) (pc' := 12) rfl (fun c9 => absurd c9 (by decide)) (fun _ => ?_)
      refine zw_aload_n (i := 0) (x := am 0) E 3 dX3_moneyOf_12 rfl rfl (pc' := 13) rfl ?_
      refine zw_iload_n (i := 1) (x := nI n) E 4 dX3_moneyOf_13 rfl rfl (pc' := 14) rfl ?_
      refine zw_iload_n (i := 2) (x := y) E 5 dX3_moneyOf_14 rfl rfl (pc' := 15) rfl ?_
      refine zw_iload (x := 2) E 0 dX3_moneyOf_15 rfl (pc' := 17) rfl ?_
      refine zw_callIw E (r := m_avg g n y 2) (As := [.int (nI n), .int y, .int 2]) (rest := []) (ws' := (md_W K am g)) (qX3_averageOf l D K am g n hn y 2 hy) (cwV 3 E.2.2.2.2.1 gX3_moneyOf_X3_averageOf rfl rfl rfl (by decide +kernel) ⟨Nat.le_of_ble_eq_true rfl, Nat.le_of_ble_eq_true rfl⟩) 0 rfl rfl rfl rfl rfl rfl (Nat.le_of_ble_eq_true rfl) ⟨Nat.zero_le _, Nat.zero_le _⟩ dX3_moneyOf_17 (pc' := 20) rfl ?_
      refine zw_istore (lv' := [(7, .int (m_avg g n y 2)), (6, .int 2), (4, .long ((0 + (((g.1 15 (3 * i + 0)).toInt64) * ((m_avg g n y 0).toInt64))) + (((g.1 15 (3 * i + 1)).toInt64) * ((m_avg g n y 1).toInt64)))), (0, .ref (am 0)), (1, .int (nI n)), (2, .int y), (3, .int (nI i))]) E dX3_moneyOf_20 (by decide) rfl (pc' := 22) rfl ?_
      refine zw_iload (x := m_avg g n y 2) E 0 dX3_moneyOf_22 rfl (pc' := 24) rfl ?_
      refine zw_iconst (v := (-1)) E dX3_moneyOf_24 (by decide) (pc' := 25) rfl ?_
      refine zw_icmp_ne (tgt := 32) E dX3_moneyOf_25 (by decide) (pc' := 28) rfl (fun c_3 => ?_) (fun c_3 => ?_)
      · skip
        refine zw_lload (x := (0 + (((g.1 15 (3 * i + 0)).toInt64) * ((m_avg g n y 0).toInt64))) + (((g.1 15 (3 * i + 1)).toInt64) * ((m_avg g n y 1).toInt64))) E 2 dX3_moneyOf_32 rfl (pc' := 34) rfl ?_
        refine zw_aload_n (i := 0) (x := am 0) E 3 dX3_moneyOf_34 rfl rfl (pc' := 35) rfl ?_
        refine zw_get (v := .ref (am 16)) E 0 17 iX3_moneyOf_X3 fX3_moneyOf_56 rfl rfl (by decide) rfl rfl dX3_moneyOf_35 (pc' := 38) rfl ?_
        refine zw_iconst (v := 3) E dX3_moneyOf_38 (by decide) (pc' := 39) rfl ?_
        refine zw_iload_n (i := 3) (x := nI i) E 6 dX3_moneyOf_39 rfl rfl (pc' := 40) rfl ?_
        refine zw_imul E dX3_moneyOf_40 (pc' := 41) rfl ?_
        refine zw_topi (x' := nI (3 * i)) (pk_mul 3 i) ?_
        refine zw_iload (x := 2) E 1 dX3_moneyOf_41 rfl (pc' := 43) rfl ?_
        refine zw_iadd E dX3_moneyOf_43 (pc' := 44) rfl ?_
        refine zw_topi (x' := nI (3 * i + 2)) (nI_add (3 * i) 2) ?_
        refine zw_iald (j := 3 * i + 2) (x := g.1 15 (3 * i + 2)) E 16 0 rfl rfl (vp_in_nI (show 3 * i + 2 < 180 by omega) (by decide)) (zw_clamp (show 3 * i + 2 < 180 by omega) (by decide)) rfl dX3_moneyOf_44 (pc' := 45) rfl ?_
        refine zw_i2l E dX3_moneyOf_45 (pc' := 46) rfl ?_
        refine zw_iload (x := m_avg g n y 2) E 0 dX3_moneyOf_46 rfl (pc' := 48) rfl ?_
        refine zw_i2l E dX3_moneyOf_48 (pc' := 49) rfl ?_
        refine zw_lmul E dX3_moneyOf_49 (pc' := 50) rfl ?_
        refine zw_ladd E dX3_moneyOf_50 (pc' := 51) rfl ?_
        refine zw_lstore (lv' := [(4, .long (((0 + (((g.1 15 (3 * i + 0)).toInt64) * ((m_avg g n y 0).toInt64))) + (((g.1 15 (3 * i + 1)).toInt64) * ((m_avg g n y 1).toInt64))) + (((g.1 15 (3 * i + 2)).toInt64) * ((m_avg g n y 2).toInt64)))), (7, .int (m_avg g n y 2)), (6, .int 2), (0, .ref (am 0)), (1, .int (nI n)), (2, .int y), (3, .int (nI i))]) E dX3_moneyOf_51 (by decide) rfl (pc' := 53) rfl ?_
        refine zw_iinc (x := 2) (v := 3) (lv' := [(6, .int 3), (4, .long (((0 + (((g.1 15 (3 * i + 0)).toInt64) * ((m_avg g n y 0).toInt64))) + (((g.1 15 (3 * i + 1)).toInt64) * ((m_avg g n y 1).toInt64))) + (((g.1 15 (3 * i + 2)).toInt64) * ((m_avg g n y 2).toInt64)))), (7, .int (m_avg g n y 2)), (0, .ref (am 0)), (1, .int (nI n)), (2, .int y), (3, .int (nI i))]) E 2 dX3_moneyOf_53 rfl (by decide) (by decide) rfl (pc' := 56) rfl ?_
        refine zw_goto (tgt := 6) E dX3_moneyOf_56 (by decide) ?_
        refine zw_iload (x := 3) E 0 dX3_moneyOf_6 rfl (pc' := 8) rfl ?_
        refine zw_iconst (v := 3) E dX3_moneyOf_8 (by decide) (pc' := 9) rfl ?_
        refine zw_icmp_ge (tgt := 59) E dX3_moneyOf_9 (by decide) (pc' := 12) rfl (fun _ => ?_) (fun c9 => absurd (by decide) c9)
        refine zw_lload (x := ((0 + (((g.1 15 (3 * i + 0)).toInt64) * ((m_avg g n y 0).toInt64))) + (((g.1 15 (3 * i + 1)).toInt64) * ((m_avg g n y 1).toInt64))) + (((g.1 15 (3 * i + 2)).toInt64) * ((m_avg g n y 2).toInt64))) E 1 dX3_moneyOf_59 rfl (pc' := 61) rfl ?_
        refine zw_ldc2 (v := 100) E dX3_moneyOf_61 kX3_moneyOf_108 (pc' := 64) rfl ?_
        refine zw_callLs E (r := z_near (((0 + (((g.1 15 (3 * i + 0)).toInt64) * ((m_avg g n y 0).toInt64))) + (((g.1 15 (3 * i + 1)).toInt64) * ((m_avg g n y 1).toInt64))) + (((g.1 15 (3 * i + 2)).toInt64) * ((m_avg g n y 2).toInt64))) 100) (As := [.long (((0 + (((g.1 15 (3 * i + 0)).toInt64) * ((m_avg g n y 0).toInt64))) + (((g.1 15 (3 * i + 1)).toInt64) * ((m_avg g n y 1).toInt64))) + (((g.1 15 (3 * i + 2)).toInt64) * ((m_avg g n y 2).toInt64))), .long 100]) (rest := []) (ws' := (md_W K am g)) (qX3_nearest l D K (((0 + (((g.1 15 (3 * i + 0)).toInt64) * ((m_avg g n y 0).toInt64))) + (((g.1 15 (3 * i + 1)).toInt64) * ((m_avg g n y 1).toInt64))) + (((g.1 15 (3 * i + 2)).toInt64) * ((m_avg g n y 2).toInt64))) 100 (by decide)) (va_cwS 2 E.2.2.2.2.1 gX3_moneyOf_X3_nearest rfl rfl rfl (by decide +kernel) ⟨Nat.le_of_ble_eq_true rfl, Nat.le_of_ble_eq_true rfl⟩) [] (by decide) rfl rfl (zw_put_same _ _ _ rfl) rfl rfl (Nat.le_of_ble_eq_true rfl) ⟨Nat.zero_le _, Nat.zero_le _⟩ dX3_moneyOf_64 (pc' := 67) rfl ?_
        exact zw_lret E hr hlk dX3_moneyOf_67 (by unfold m_money; rw [if_neg c_1, if_neg c_2, if_neg c_3]) rfl
      · skip
        refine zw_ldc2 (v := (-1)) E dX3_moneyOf_28 kX3_moneyOf_104 (pc' := 31) rfl ?_
        exact zw_lret E hr hlk dX3_moneyOf_31 (by unfold m_money; rw [if_neg c_1, if_neg c_2, if_pos c_3]) rfl
    · skip
      refine zw_ldc2 (v := (-1)) E dX3_moneyOf_28 kX3_moneyOf_104 (pc' := 31) rfl ?_
      exact zw_lret E hr hlk dX3_moneyOf_31 (by unfold m_money; rw [if_neg c_1, if_pos c_2]) rfl
  · skip
    refine zw_ldc2 (v := (-1)) E dX3_moneyOf_28 kX3_moneyOf_104 (pc' := 31) rfl ?_
    exact zw_lret E hr hlk dX3_moneyOf_31 (by unfold m_money; rw [if_pos c_1]) rfl

theorem zw_mf80 {f : Int32} {n : Nat} (hn : n ≤ 80) (h : 0 ≤ f ∧ f ≤ nI n - 1) : ∃ i, i < n ∧ f = nI i := by
  cases n with
  | zero =>
    exfalso
    have h2 := h.2
    rw [show nI 0 - 1 = (-1 : Int32) by decide] at h2
    exact absurd (Int32.le_trans h.1 h2) (by decide)
  | succ n =>
    have h2 := h.2
    rw [nI_pred] at h2
    obtain ⟨j, hj, e⟩ := nI_of2 (n := n) (nI_toInt (by omega)) (Int32.not_lt.mpr h.1) h2
    exact ⟨j, by omega, e⟩
theorem zw_mein {f : Int32} {n : Nat} (hn : n ≤ 80) (h : 0 ≤ f ∧ f ≤ nI n - 1) : vp_in f 80 := by
  obtain ⟨i, hi, e⟩ := zw_mf80 hn h
  rw [e]
  exact vp_in_nI (by omega) (by decide)
def m_entry (g : Md) (x what : Int32) : Int32 := if (0 ≤ x ∧ x ≤ nI (g.2.2.1 0) - 1) then if what = 0 then g.1 0 x.toNatClampNeg else if what = 1 then g.1 1 x.toNatClampNeg else if what = 2 then g.1 2 x.toNatClampNeg else if what = 3 then g.1 6 x.toNatClampNeg else -1 else -1
theorem fX3_entry_13 : Cond.fieldLink RX3 13 "TitheMapModel" "year" "[I" ∈ wsX3_entry := by decide +kernel
theorem fX3_entry_16 : Cond.fieldLink RX3 16 "TitheMapModel" "one" "[I" ∈ wsX3_entry := by decide +kernel
theorem fX3_entry_28 : Cond.fieldLink RX3 28 "TitheMapModel" "made" "[I" ∈ wsX3_entry := by decide +kernel
theorem fX3_entry_7 : Cond.fieldLink RX3 7 "TitheMapModel" "sort" "[I" ∈ wsX3_entry := by decide +kernel
theorem fX3_entry_72 : Cond.fieldLink RX3 72 "TitheMapModel" "entries" "I" ∈ wsX3_entry := by decide +kernel
theorem iX3_entry_X3 : ∀ w ∈ wsX30, w ∈ wsX3_entry := by decide +kernel
set_option maxHeartbeats 4000000 in
set_option maxRecDepth 100000 in
/-- entry(e, what) -/
theorem qX3_entry (l : Launch) (D : va_G) (K : Nat → ClassId) (am : Nat → Nat) (g : Md) (hs80 : g.2.2.1 0 ≤ 80) (x what : Int32) : zw_I l yX3_entry wsX3_entry rmX3_entry D (zT K) [.ref (am 0), .int x, .int what] (md_W K am g) (m_entry g x what) (md_W K am g) := by
  refine zw_ofI (cc := cX3_entry) (nL := 3) (ret := (some .int)) (own := RX3) (lv := [(0, .ref (am 0)), (1, .int x), (2, .int what)]) (by decide) rfl (Nat.le_of_ble_eq_true rfl) rfl rfl ?_
  intro p e s m below meth c A E hr hlk
  refine zw_iload_n (i := 1) (x := x) E 1 dX3_entry_0 rfl rfl (pc' := 1) rfl ?_
  refine zw_iconst (v := 0) E dX3_entry_1 (by decide) (pc' := 2) rfl ?_
  refine zw_aload_n (i := 0) (x := am 0) E 0 dX3_entry_2 rfl rfl (pc' := 3) rfl ?_
  refine zw_get (v := .int (nI (g.2.2.1 0))) E 0 0 iX3_entry_X3 fX3_entry_72 rfl rfl (by decide) rfl rfl dX3_entry_3 (pc' := 6) rfl ?_
  refine zw_iconst (v := 1) E dX3_entry_6 (by decide) (pc' := 7) rfl ?_
  refine zw_isub E dX3_entry_7 (pc' := 8) rfl ?_
  refine zw_callIs E (r := zb (0 ≤ x ∧ x ≤ (nI (g.2.2.1 0)) - 1)) (As := [.int x, .int 0, .int ((nI (g.2.2.1 0)) - 1)]) (rest := []) (ws' := (md_W K am g)) (qX3_lies l D K x 0 ((nI (g.2.2.1 0)) - 1)) (va_cwS 3 E.2.2.2.2.1 gX3_entry_X3_lies rfl rfl rfl (by decide +kernel) ⟨Nat.le_of_ble_eq_true rfl, Nat.le_of_ble_eq_true rfl⟩) [] (by decide) rfl rfl (zw_put_same _ _ _ rfl) rfl rfl (Nat.le_of_ble_eq_true rfl) ⟨Nat.zero_le _, Nat.zero_le _⟩ dX3_entry_8 (pc' := 11) rfl ?_
  refine zw_ifb_ne (tgt := 16) E dX3_entry_11 (by decide) (pc' := 14) rfl (fun c_1 => ?_) (fun c_1 => ?_)
  · skip
    refine zw_iload_n (i := 2) (x := what) E 2 dX3_entry_16 rfl rfl (pc' := 17) rfl ?_
    by_cases s_2 : what = 0
    · refine zw_tableIn (tgt := 48) (off := 31) E dX3_entry_17 (by rw [s_2]; decide) (by rw [s_2]; decide) (by rw [s_2]; rfl) (by decide) ?_
      refine zw_aload_n (i := 0) (x := am 0) E 0 dX3_entry_48 rfl rfl (pc' := 49) rfl ?_
      refine zw_get (v := .ref (am 1)) E 0 2 iX3_entry_X3 fX3_entry_7 rfl rfl (by decide) rfl rfl dX3_entry_49 (pc' := 52) rfl ?_
      refine zw_iload_n (i := 1) (x := x) E 1 dX3_entry_52 rfl rfl (pc' := 53) rfl ?_
      refine zw_iald (j := x.toNatClampNeg) (x := g.1 0 x.toNatClampNeg) E 1 0 rfl rfl (zw_mein hs80 c_1) rfl rfl dX3_entry_53 (pc' := 54) rfl ?_
      exact zw_iret E hr hlk dX3_entry_54 (by unfold m_entry; rw [if_pos c_1, if_pos s_2]) rfl
    · skip
      by_cases s_3 : what = 1
      · refine zw_tableIn (tgt := 55) (off := 38) E dX3_entry_17 (by rw [s_3]; decide) (by rw [s_3]; decide) (by rw [s_3]; rfl) (by decide) ?_
        refine zw_aload_n (i := 0) (x := am 0) E 0 dX3_entry_55 rfl rfl (pc' := 56) rfl ?_
        refine zw_get (v := .ref (am 2)) E 0 3 iX3_entry_X3 fX3_entry_13 rfl rfl (by decide) rfl rfl dX3_entry_56 (pc' := 59) rfl ?_
        refine zw_iload_n (i := 1) (x := x) E 1 dX3_entry_59 rfl rfl (pc' := 60) rfl ?_
        refine zw_iald (j := x.toNatClampNeg) (x := g.1 1 x.toNatClampNeg) E 2 0 rfl rfl (zw_mein hs80 c_1) rfl rfl dX3_entry_60 (pc' := 61) rfl ?_
        exact zw_iret E hr hlk dX3_entry_61 (by unfold m_entry; rw [if_pos c_1, if_neg s_2, if_pos s_3]) rfl
      · skip
        by_cases s_4 : what = 2
        · refine zw_tableIn (tgt := 62) (off := 45) E dX3_entry_17 (by rw [s_4]; decide) (by rw [s_4]; decide) (by rw [s_4]; rfl) (by decide) ?_
          refine zw_aload_n (i := 0) (x := am 0) E 0 dX3_entry_62 rfl rfl (pc' := 63) rfl ?_
          refine zw_get (v := .ref (am 3)) E 0 4 iX3_entry_X3 fX3_entry_16 rfl rfl (by decide) rfl rfl dX3_entry_63 (pc' := 66) rfl ?_
          refine zw_iload_n (i := 1) (x := x) E 1 dX3_entry_66 rfl rfl (pc' := 67) rfl ?_
          refine zw_iald (j := x.toNatClampNeg) (x := g.1 2 x.toNatClampNeg) E 3 0 rfl rfl (zw_mein hs80 c_1) rfl rfl dX3_entry_67 (pc' := 68) rfl ?_
          exact zw_iret E hr hlk dX3_entry_68 (by unfold m_entry; rw [if_pos c_1, if_neg s_2, if_neg s_3, if_pos s_4]) rfl
        · skip
          by_cases s_5 : what = 3
          · refine zw_tableIn (tgt := 69) (off := 52) E dX3_entry_17 (by rw [s_5]; decide) (by rw [s_5]; decide) (by rw [s_5]; rfl) (by decide) ?_
            refine zw_aload_n (i := 0) (x := am 0) E 0 dX3_entry_69 rfl rfl (pc' := 70) rfl ?_
            refine zw_get (v := .ref (am 7)) E 0 8 iX3_entry_X3 fX3_entry_28 rfl rfl (by decide) rfl rfl dX3_entry_70 (pc' := 73) rfl ?_
            refine zw_iload_n (i := 1) (x := x) E 1 dX3_entry_73 rfl rfl (pc' := 74) rfl ?_
            refine zw_iald (j := x.toNatClampNeg) (x := g.1 6 x.toNatClampNeg) E 7 0 rfl rfl (zw_mein hs80 c_1) rfl rfl dX3_entry_74 (pc' := 75) rfl ?_
            exact zw_iret E hr hlk dX3_entry_75 (by unfold m_entry; rw [if_pos c_1, if_neg s_2, if_neg s_3, if_neg s_4, if_pos s_5]) rfl
          · skip
            refine zw_tableOut (tgt := 76) E dX3_entry_17 (by have q0 := lv_neT (a := 0) s_2 rfl; have q1 := lv_neT (a := 1) s_3 rfl; have q2 := lv_neT (a := 2) s_4 rfl; have q3 := lv_neT (a := 3) s_5 rfl; omega) (by decide) ?_
            refine zw_iconst (v := (-1)) E dX3_entry_76 (by decide) (pc' := 77) rfl ?_
            exact zw_iret E hr hlk dX3_entry_77 (by unfold m_entry; rw [if_pos c_1, if_neg s_2, if_neg s_3, if_neg s_4, if_neg s_5]) rfl
  · skip
    refine zw_iconst (v := (-1)) E dX3_entry_14 (by decide) (pc' := 15) rfl ?_
    exact zw_iret E hr hlk dX3_entry_15 (by unfold m_entry; rw [if_neg c_1]) rfl

def m_count (g : Md) (what : Int32) : Int32 := if what = 0 then nI (g.2.2.1 0) else if what = 1 then nI (g.2.2.1 1) else -1
theorem fX3_count_72 : Cond.fieldLink RX3 72 "TitheMapModel" "entries" "I" ∈ wsX3_count := by decide +kernel
theorem fX3_count_80 : Cond.fieldLink RX3 80 "TitheMapModel" "fields" "I" ∈ wsX3_count := by decide +kernel
theorem iX3_count_X3 : ∀ w ∈ wsX30, w ∈ wsX3_count := by decide +kernel
set_option maxHeartbeats 4000000 in
set_option maxRecDepth 100000 in
/-- count(what) -/
theorem qX3_count (l : Launch) (D : va_G) (K : Nat → ClassId) (am : Nat → Nat) (g : Md) (what : Int32) : zw_I l yX3_count wsX3_count rmX3_count D (zT K) [.ref (am 0), .int what] (md_W K am g) (m_count g what) (md_W K am g) := by
  refine zw_ofI (cc := cX3_count) (nL := 2) (ret := (some .int)) (own := RX3) (lv := [(0, .ref (am 0)), (1, .int what)]) (by decide) rfl (Nat.le_of_ble_eq_true rfl) rfl rfl ?_
  intro p e s m below meth c A E hr hlk
  refine zw_iload_n (i := 1) (x := what) E 1 dX3_count_0 rfl rfl (pc' := 1) rfl ?_
  refine zw_if_ne (tgt := 11) E dX3_count_1 (by decide) (pc' := 4) rfl (fun c_1 => ?_) (fun c_1 => ?_)
  · skip
    refine zw_iload_n (i := 1) (x := what) E 1 dX3_count_11 rfl rfl (pc' := 12) rfl ?_
    refine zw_iconst (v := 1) E dX3_count_12 (by decide) (pc' := 13) rfl ?_
    refine zw_icmp_ne (tgt := 23) E dX3_count_13 (by decide) (pc' := 16) rfl (fun c_2 => ?_) (fun c_2 => ?_)
    · skip
      refine zw_iconst (v := (-1)) E dX3_count_23 (by decide) (pc' := 24) rfl ?_
      exact zw_iret E hr hlk dX3_count_24 (by unfold m_count; rw [if_neg c_1, if_neg c_2]) rfl
    · skip
      refine zw_aload_n (i := 0) (x := am 0) E 0 dX3_count_16 rfl rfl (pc' := 17) rfl ?_
      refine zw_get (v := .int (nI (g.2.2.1 1))) E 0 1 iX3_count_X3 fX3_count_80 rfl rfl (by decide) rfl rfl dX3_count_17 (pc' := 20) rfl ?_
      refine zw_goto (tgt := 24) E dX3_count_20 (by decide) ?_
      exact zw_iret E hr hlk dX3_count_24 (by unfold m_count; rw [if_neg c_1, if_pos c_2]) rfl
  · skip
    refine zw_aload_n (i := 0) (x := am 0) E 0 dX3_count_4 rfl rfl (pc' := 5) rfl ?_
    refine zw_get (v := .int (nI (g.2.2.1 0))) E 0 0 iX3_count_X3 fX3_count_72 rfl rfl (by decide) rfl rfl dX3_count_5 (pc' := 8) rfl ?_
    refine zw_goto (tgt := 24) E dX3_count_8 (by decide) ?_
    exact zw_iret E hr hlk dX3_count_24 (by unfold m_count; rw [if_pos c_1]) rfl

def m_price (g : Md) (y cn q : Int32) : Int32 := if nI (g.2.2.1 0) = 80 then -1 else if (1 ≤ y ∧ y ≤ 200) then if (0 ≤ cn ∧ cn ≤ 2) then if (1 ≤ q ∧ q ≤ 1000) then nI (g.2.2.1 0) else -1 else -1 else -1
def g_price (g : Md) (y cn q : Int32) : Md := if nI (g.2.2.1 0) = 80 then g else if (1 ≤ y ∧ y ≤ 200) then if (0 ≤ cn ∧ cn ≤ 2) then if (1 ≤ q ∧ q ≤ 1000) then md_sc (md_writes g 0 y cn (-1) q 0) 0 (g.2.2.1 0 + 1) else g else g else g
theorem zw_ne80 {n : Nat} (hn : n ≤ 80) (h : ¬ nI n = 80) : n < 80 := by
  rcases Nat.lt_or_ge n 80 with q | q
  · exact q
  · exact absurd (by rw [show n = 80 by omega]; rfl) h
theorem fX3_price_72 : Cond.fieldLink RX3 72 "TitheMapModel" "entries" "I" ∈ wsX3_price := by decide +kernel
theorem iX3_price_X3 : ∀ w ∈ wsX30, w ∈ wsX3_price := by decide +kernel
set_option maxHeartbeats 4000000 in
set_option maxRecDepth 100000 in
/-- price(y, corn, pence) -/
theorem qX3_price (l : Launch) (D : va_G) (K : Nat → ClassId) (am : Nat → Nat) (g : Md) (hs80 : g.2.2.1 0 ≤ 80) (y cn q : Int32) : zw_I l yX3_price wsX3_price rmX3_price D (zT K) [.ref (am 0), .int y, .int cn, .int q] (md_W K am g) (m_price g y cn q) (md_W K am (g_price g y cn q)) := by
  refine zw_ofI (cc := cX3_price) (nL := 4) (ret := (some .int)) (own := RX3) (lv := [(0, .ref (am 0)), (1, .int y), (2, .int cn), (3, .int q)]) (by decide) rfl (Nat.le_of_ble_eq_true rfl) rfl rfl ?_
  intro p e s m below meth c A E hr hlk
  refine zw_aload_n (i := 0) (x := am 0) E 0 dX3_price_0 rfl rfl (pc' := 1) rfl ?_
  refine zw_get (v := .int (nI (g.2.2.1 0))) E 0 0 iX3_price_X3 fX3_price_72 rfl rfl (by decide) rfl rfl dX3_price_1 (pc' := 4) rfl ?_
  refine zw_bipush (v := 80) E dX3_price_4 (by decide) (pc' := 6) rfl ?_
  refine zw_icmp_eq (tgt := 40) E dX3_price_6 (by decide) (pc' := 9) rfl (fun c_1 => ?_) (fun c_1 => ?_)
  · skip
    refine zw_iconst (v := (-1)) E dX3_price_40 (by decide) (pc' := 41) rfl ?_
    exact zw_iret E hr hlk dX3_price_41 (by unfold m_price; rw [if_pos c_1]) (congrArg (md_W K am) (by unfold g_price; rw [if_pos c_1]))
  · skip
    have hn : g.2.2.1 0 < 80 := zw_ne80 hs80 c_1
    refine zw_iload_n (i := 1) (x := y) E 1 dX3_price_9 rfl rfl (pc' := 10) rfl ?_
    refine zw_iconst (v := 1) E dX3_price_10 (by decide) (pc' := 11) rfl ?_
    refine zw_sipush (v := 200) E dX3_price_11 (by decide) (pc' := 14) rfl ?_
    refine zw_callIs E (r := zb (1 ≤ y ∧ y ≤ 200)) (As := [.int y, .int 1, .int 200]) (rest := []) (ws' := (md_W K am g)) (qX3_lies l D K y 1 200) (va_cwS 3 E.2.2.2.2.1 gX3_price_X3_lies rfl rfl rfl (by decide +kernel) ⟨Nat.le_of_ble_eq_true rfl, Nat.le_of_ble_eq_true rfl⟩) [] (by decide) rfl rfl (zw_put_same _ _ _ rfl) rfl rfl (Nat.le_of_ble_eq_true rfl) ⟨Nat.zero_le _, Nat.zero_le _⟩ dX3_price_14 (pc' := 17) rfl ?_
    refine zw_ifb_eq (tgt := 40) E dX3_price_17 (by decide) (pc' := 20) rfl (fun c_2 => ?_) (fun c_2 => ?_)
    · skip
      refine zw_iconst (v := (-1)) E dX3_price_40 (by decide) (pc' := 41) rfl ?_
      exact zw_iret E hr hlk dX3_price_41 (by unfold m_price; rw [if_neg c_1, if_neg c_2]) (congrArg (md_W K am) (by unfold g_price; rw [if_neg c_1, if_neg c_2]))
    · skip
      refine zw_iload_n (i := 2) (x := cn) E 2 dX3_price_20 rfl rfl (pc' := 21) rfl ?_
      refine zw_iconst (v := 0) E dX3_price_21 (by decide) (pc' := 22) rfl ?_
      refine zw_iconst (v := 2) E dX3_price_22 (by decide) (pc' := 23) rfl ?_
      refine zw_callIs E (r := zb (0 ≤ cn ∧ cn ≤ 2)) (As := [.int cn, .int 0, .int 2]) (rest := []) (ws' := (md_W K am g)) (qX3_lies l D K cn 0 2) (va_cwS 3 E.2.2.2.2.1 gX3_price_X3_lies rfl rfl rfl (by decide +kernel) ⟨Nat.le_of_ble_eq_true rfl, Nat.le_of_ble_eq_true rfl⟩) [] (by decide) rfl rfl (zw_put_same _ _ _ rfl) rfl rfl (Nat.le_of_ble_eq_true rfl) ⟨Nat.zero_le _, Nat.zero_le _⟩ dX3_price_23 (pc' := 26) rfl ?_
      refine zw_ifb_eq (tgt := 40) E dX3_price_26 (by decide) (pc' := 29) rfl (fun c_3 => ?_) (fun c_3 => ?_)
      · skip
        refine zw_iconst (v := (-1)) E dX3_price_40 (by decide) (pc' := 41) rfl ?_
        exact zw_iret E hr hlk dX3_price_41 (by unfold m_price; rw [if_neg c_1, if_pos c_2, if_neg c_3]) (congrArg (md_W K am) (by unfold g_price; rw [if_neg c_1, if_pos c_2, if_neg c_3]))
      · skip
        refine zw_iload_n (i := 3) (x := q) E 3 dX3_price_29 rfl rfl (pc' := 30) rfl ?_
        refine zw_iconst (v := 1) E dX3_price_30 (by decide) (pc' := 31) rfl ?_
        refine zw_sipush (v := 1000) E dX3_price_31 (by decide) (pc' := 34) rfl ?_
        refine zw_callIs E (r := zb (1 ≤ q ∧ q ≤ 1000)) (As := [.int q, .int 1, .int 1000]) (rest := []) (ws' := (md_W K am g)) (qX3_lies l D K q 1 1000) (va_cwS 3 E.2.2.2.2.1 gX3_price_X3_lies rfl rfl rfl (by decide +kernel) ⟨Nat.le_of_ble_eq_true rfl, Nat.le_of_ble_eq_true rfl⟩) [] (by decide) rfl rfl (zw_put_same _ _ _ rfl) rfl rfl (Nat.le_of_ble_eq_true rfl) ⟨Nat.zero_le _, Nat.zero_le _⟩ dX3_price_34 (pc' := 37) rfl ?_
        refine zw_ifb_ne (tgt := 42) E dX3_price_37 (by decide) (pc' := 40) rfl (fun c_4 => ?_) (fun c_4 => ?_)
        · skip
          refine zw_aload_n (i := 0) (x := am 0) E 0 dX3_price_42 rfl rfl (pc' := 43) rfl ?_
          refine zw_iconst (v := 0) E dX3_price_43 (by decide) (pc' := 44) rfl ?_
          refine zw_iload_n (i := 1) (x := y) E 1 dX3_price_44 rfl rfl (pc' := 45) rfl ?_
          refine zw_iload_n (i := 2) (x := cn) E 2 dX3_price_45 rfl rfl (pc' := 46) rfl ?_
          refine zw_iconst (v := (-1)) E dX3_price_46 (by decide) (pc' := 47) rfl ?_
          refine zw_iload_n (i := 3) (x := q) E 3 dX3_price_47 rfl rfl (pc' := 48) rfl ?_
          refine zw_iconst (v := 0) E dX3_price_48 (by decide) (pc' := 49) rfl ?_
          refine zw_callVw E (As := [.int 0, .int y, .int cn, .int (-1), .int q, .int 0]) (rest := []) (ws' := (md_W K am (md_writes g 0 y cn (-1) q 0))) (qX3_writes l D K am g hn 0 y cn (-1) q 0) (cwV 6 E.2.2.2.2.1 gX3_price_X3_writes rfl rfl rfl (by decide +kernel) ⟨Nat.le_of_ble_eq_true rfl, Nat.le_of_ble_eq_true rfl⟩) 0 rfl rfl rfl (md_ad _ _ _ _) rfl rfl (Nat.le_of_ble_eq_true rfl) ⟨Nat.zero_le _, Nat.zero_le _⟩ dX3_price_49 (pc' := 52) rfl ?_
          refine zw_gen_md_g (md_writes g 0 y cn (-1) q 0) (fun g_1 hg_1 => ?_)
          have h2_g_1 : g_1.2.2 = g.2.2 := by rw [← hg_1]; rfl
          refine zw_aload_n (i := 0) (x := am 0) E 0 dX3_price_52 rfl rfl (pc' := 53) rfl ?_
          refine zw_dup E dX3_price_53 rfl (pc' := 54) rfl ?_
          refine zw_get (v := .int (nI (g_1.2.2.1 0))) E 0 0 iX3_price_X3 fX3_price_72 rfl rfl (by decide) rfl rfl dX3_price_54 (pc' := 57) rfl ?_
          refine zw_topi (x' := nI (g.2.2.1 0)) (congrArg (fun z => nI (z.1 0)) h2_g_1) ?_
          refine zw_iconst (v := 1) E dX3_price_57 (by decide) (pc' := 58) rfl ?_
          refine zw_iadd E dX3_price_58 (pc' := 59) rfl ?_
          refine zw_topi (x' := nI (g.2.2.1 0 + 1)) (nI_1 _) ?_
          refine zw_putf (v := .int (nI (g.2.2.1 0 + 1))) (ty := .int) (ws' := (md_W K am (md_sc g_1 0 (g.2.2.1 0 + 1)))) E 0 0 iX3_price_X3 tyX3_ok nmX3 fX3_price_72 rfl rfl (by decide) rfl rfl rfl rfl rfl (Nat.le_of_ble_eq_true rfl) rfl dX3_price_59 (pc' := 62) rfl ?_
          refine zw_gen_md_g (md_sc g_1 0 (g.2.2.1 0 + 1)) (fun g_2 hg_2 => ?_)
          have e0_g_2 : g_2.2.2.1 0 = g.2.2.1 0 + 1 := by rw [← hg_2]; rfl
          refine zw_aload_n (i := 0) (x := am 0) E 0 dX3_price_62 rfl rfl (pc' := 63) rfl ?_
          refine zw_get (v := .int (nI (g_2.2.2.1 0))) E 0 0 iX3_price_X3 fX3_price_72 rfl rfl (by decide) rfl rfl dX3_price_63 (pc' := 66) rfl ?_
          refine zw_topi (x' := nI (g.2.2.1 0 + 1)) (congrArg nI e0_g_2) ?_
          refine zw_iconst (v := 1) E dX3_price_66 (by decide) (pc' := 67) rfl ?_
          refine zw_isub E dX3_price_67 (pc' := 68) rfl ?_
          refine zw_topi (x' := nI (g.2.2.1 0)) (nI_pred _) ?_
          exact zw_iret E hr hlk dX3_price_68 (by unfold m_price; rw [if_neg c_1, if_pos c_2, if_pos c_3, if_pos c_4]) (congrArg (md_W K am) (by unfold g_price; rw [if_neg c_1, if_pos c_2, if_pos c_3, if_pos c_4, hg_1, hg_2]))
        · skip
          refine zw_iconst (v := (-1)) E dX3_price_40 (by decide) (pc' := 41) rfl ?_
          exact zw_iret E hr hlk dX3_price_41 (by unfold m_price; rw [if_neg c_1, if_pos c_2, if_pos c_3, if_neg c_4]) (congrArg (md_W K am) (by unfold g_price; rw [if_neg c_1, if_pos c_2, if_pos c_3, if_neg c_4]))
