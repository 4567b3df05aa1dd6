/-! the reference: owed, parish -/
def m_ow (g : Md) (n : Nat) (y o : Int32) : Nat → Nat → Int64 → Int64
  | 0, _, t => t
  | r + 1, k, t => if g.1 11 k = 0 then m_ow g n y o r (k + 1) t else if o = -1 then (if m_money g n y k = -1 then -1 else m_ow g n y o r (k + 1) (t + m_money g n y k)) else if g.1 14 k = o then (if m_money g n y k = -1 then -1 else m_ow g n y o r (k + 1) (t + m_money g n y k)) else m_ow g n y o r (k + 1) t
def m_owed (g : Md) (k y o : Int32) : Int64 := if (0 ≤ k ∧ k ≤ nI (g.2.2.1 0)) then if (1 ≤ y ∧ y ≤ 200) then if (-1 ≤ o ∧ o ≤ 9) then m_ow (g_works g k.toNatClampNeg y.toNatClampNeg (-1)).2 k.toNatClampNeg y o (g.2.2.1 1) 0 0 else -1 else -1 else -1
def g_owed (g : Md) (k y o : Int32) : Md := if (0 ≤ k ∧ k ≤ nI (g.2.2.1 0)) then if (1 ≤ y ∧ y ≤ 200) then if (-1 ≤ o ∧ o ≤ 9) then (g_works g k.toNatClampNeg y.toNatClampNeg (-1)).2 else g else g else g
theorem kX3_owed_104 : Cond.constantLong RX3 104 (-1) ∈ wsX3_owed := by decide +kernel
theorem fX3_owed_43 : Cond.fieldLink RX3 43 "TitheMapModel" "isThere" "[Z" ∈ wsX3_owed := by decide +kernel
theorem fX3_owed_53 : Cond.fieldLink RX3 53 "TitheMapModel" "owner" "[I" ∈ wsX3_owed := by decide +kernel
theorem fX3_owed_80 : Cond.fieldLink RX3 80 "TitheMapModel" "fields" "I" ∈ wsX3_owed := by decide +kernel
theorem iX3_owed_X3 : ∀ w ∈ wsX30, w ∈ wsX3_owed := by decide +kernel
set_option maxHeartbeats 4000000 in
set_option maxRecDepth 100000 in
theorem lX3_owed {l : Launch} {D : va_G} {K : Nat → ClassId} {p : Program} {e : Env} {s : State} {m : MethodId} {below : List Frame} {meth : Method} {c : Code} {A : Nat → Prop} {args : Array Value} (E : zw_E p s m args c cX3_owed 10 RX3 wsX3_owed D (zT K) A) (hr : meth.sig.returnType = (some .long)) (hlk : meth.locks = false) (am : Nat → Nat) (g : Md) (hf60 : g.2.2.1 1 ≤ 60) (kn : Nat) (hkn : kn ≤ 80) (y o : Int32) (hy : 1 ≤ y ∧ y ≤ 200) : ∀ (r k : Nat) (t : Int64), r + k = g.2.2.1 1 → zw_W p l e rmX3_owed s m args below meth c 10 D A 0 0 (zw_Ql D A below args s (m_ow g kn y o r k t) (md_W K am g)) 48 [(0, .ref (am 0)), (1, .int (nI kn)), (2, .int y), (3, .int o), (5, .long t), (7, .int (nI k))] [] (md_W K am g) := by
  intro r
  induction r with
  | zero =>
    intro k t hri
    have hk0 : g.2.2.1 1 ≤ k := by omega
    refine zw_iload (x := nI k) E 5 dX3_owed_48 rfl (pc' := 50) rfl ?_
    refine zw_aload_n (i := 0) (x := am 0) E 0 dX3_owed_50 rfl rfl (pc' := 51) rfl ?_
    refine zw_get (v := .int (nI (g.2.2.1 1))) E 0 1 iX3_owed_X3 fX3_owed_80 rfl rfl (by decide) rfl rfl dX3_owed_51 (pc' := 54) rfl ?_
    refine zw_icmp_ge (tgt := 122) E dX3_owed_54 (by decide) (pc' := 57) rfl (fun c_1 => ?_) (fun c_1 => ?_)
    · skip
      refine zw_lload (x := t) E 4 dX3_owed_122 rfl (pc' := 124) rfl ?_
      exact zw_lret E hr hlk dX3_owed_124 rfl rfl
    · exact absurd (nI_le hk0 (by omega)) c_1
  | succ r ih =>
    intro k t hri
    have hkf : k < g.2.2.1 1 := by omega
    have hk : k < 60 := by omega
    refine zw_iload (x := nI k) E 5 dX3_owed_48 rfl (pc' := 50) rfl ?_
    refine zw_aload_n (i := 0) (x := am 0) E 0 dX3_owed_50 rfl rfl (pc' := 51) rfl ?_
    refine zw_get (v := .int (nI (g.2.2.1 1))) E 0 1 iX3_owed_X3 fX3_owed_80 rfl rfl (by decide) rfl rfl dX3_owed_51 (pc' := 54) rfl ?_
    refine zw_icmp_ge (tgt := 122) E dX3_owed_54 (by decide) (pc' := 57) rfl (fun c_1 => ?_) (fun c_1 => ?_)
    · exact absurd c_1 (nI_ge hkf (by omega))
    · skip
      refine zw_aload_n (i := 0) (x := am 0) E 0 dX3_owed_57 rfl rfl (pc' := 58) rfl ?_
      refine zw_get (v := .ref (am 12)) E 0 13 iX3_owed_X3 fX3_owed_43 rfl rfl (by decide) rfl rfl dX3_owed_58 (pc' := 61) rfl ?_
      refine zw_iload (x := nI k) E 5 dX3_owed_61 rfl (pc' := 63) rfl ?_
      refine zw_zald (j := k) (x := g.1 11 k) E 12 1 rfl rfl (vp_in_nI hk (by decide)) (zw_clamp hk (by decide)) rfl dX3_owed_63 (pc' := 64) rfl ?_
      refine zw_if_eq (tgt := 116) E dX3_owed_64 (by decide) (pc' := 67) rfl (fun c_2 => ?_) (fun c_2 => ?_)
      · skip
        refine zw_iinc (x := nI k) (v := nI (k + 1)) (lv' := [(7, .int (nI (k + 1))), (0, .ref (am 0)), (1, .int (nI kn)), (2, .int y), (3, .int o), (5, .long t)]) E 5 dX3_owed_116 rfl (zw_inc1 k) (by decide) rfl (pc' := 119) rfl ?_
        refine zw_goto (tgt := 48) E dX3_owed_119 (by decide) ?_
        have e1 : m_ow g kn y o (r + 1) k t = m_ow g kn y o r (k + 1) t := by rw [m_ow, if_pos c_2]
        rw [e1]
        refine zw_sub [1, 2, 3, 4, 5, 0] (lv' := [(0, .ref (am 0)), (1, .int (nI kn)), (2, .int y), (3, .int o), (5, .long t), (7, .int (nI (k + 1)))]) rfl ?_
        exact ih (k + 1) t (by omega)
      · skip
        refine zw_iload_n (i := 3) (x := o) E 3 dX3_owed_67 rfl rfl (pc' := 68) rfl ?_
        refine zw_iconst (v := (-1)) E dX3_owed_68 (by decide) (pc' := 69) rfl ?_
        refine zw_icmp_eq (tgt := 86) E dX3_owed_69 (by decide) (pc' := 72) rfl (fun c_3 => ?_) (fun c_3 => ?_)
        · skip
          refine zw_aload_n (i := 0) (x := am 0) E 0 dX3_owed_86 rfl rfl (pc' := 87) rfl ?_
          refine zw_iload_n (i := 1) (x := nI kn) E 1 dX3_owed_87 rfl rfl (pc' := 88) rfl ?_
          refine zw_iload_n (i := 2) (x := y) E 2 dX3_owed_88 rfl rfl (pc' := 89) rfl ?_
          refine zw_iload (x := nI k) E 5 dX3_owed_89 rfl (pc' := 91) rfl ?_
          refine zw_callLw E (r := m_money g kn y k) (As := [.int (nI kn), .int y, .int (nI k)]) (rest := []) (ws' := (md_W K am g)) (qX3_moneyOf l D K am g kn hkn y hy k hk) (cwV 3 E.2.2.2.2.1 gX3_owed_X3_moneyOf rfl rfl rfl (by decide +kernel) ⟨Nat.le_of_ble_eq_true rfl, Nat.le_of_ble_eq_true rfl⟩) 0 rfl rfl rfl rfl rfl rfl (Nat.le_of_ble_eq_true rfl) ⟨Nat.zero_le _, Nat.zero_le _⟩ dX3_owed_91 (pc' := 94) rfl ?_
          refine zw_lstore (lv' := [(8, .long (m_money g kn y k)), (0, .ref (am 0)), (1, .int (nI kn)), (2, .int y), (3, .int o), (5, .long t), (7, .int (nI k))]) E dX3_owed_94 (by decide) rfl (pc' := 96) rfl ?_
          refine zw_lload (x := m_money g kn y k) E 0 dX3_owed_96 rfl (pc' := 98) rfl ?_
          refine zw_ldc2 (v := (-1)) E dX3_owed_98 kX3_owed_104 (pc' := 101) rfl ?_
          refine zw_lcmp E dX3_owed_101 (pc' := 102) rfl ?_
          refine zw_ifl_ne (tgt := 109) E dX3_owed_102 (by decide) (pc' := 105) rfl (fun c_4 => ?_) (fun c_4 => ?_)
          · skip
            refine zw_lload (x := t) E 5 dX3_owed_109 rfl (pc' := 111) rfl ?_
            refine zw_lload (x := m_money g kn y k) E 0 dX3_owed_111 rfl (pc' := 113) rfl ?_
            refine zw_ladd E dX3_owed_113 (pc' := 114) rfl ?_
            refine zw_lstore (lv' := [(5, .long (t + (m_money g kn y k))), (8, .long (m_money g kn y k)), (0, .ref (am 0)), (1, .int (nI kn)), (2, .int y), (3, .int o), (7, .int (nI k))]) E dX3_owed_114 (by decide) rfl (pc' := 116) rfl ?_
            refine zw_iinc (x := nI k) (v := nI (k + 1)) (lv' := [(7, .int (nI (k + 1))), (5, .long (t + (m_money g kn y k))), (8, .long (m_money g kn y k)), (0, .ref (am 0)), (1, .int (nI kn)), (2, .int y), (3, .int o)]) E 6 dX3_owed_116 rfl (zw_inc1 k) (by decide) rfl (pc' := 119) rfl ?_
            refine zw_goto (tgt := 48) E dX3_owed_119 (by decide) ?_
            have e1 : m_ow g kn y o (r + 1) k t = m_ow g kn y o r (k + 1) (t + (m_money g kn y k)) := by rw [m_ow, if_neg c_2, if_pos c_3, if_neg c_4]
            rw [e1]
            refine zw_sub [3, 4, 5, 6, 1, 0] (lv' := [(0, .ref (am 0)), (1, .int (nI kn)), (2, .int y), (3, .int o), (5, .long (t + (m_money g kn y k))), (7, .int (nI (k + 1)))]) rfl ?_
            exact ih (k + 1) (t + (m_money g kn y k)) (by omega)
          · skip
            refine zw_ldc2 (v := (-1)) E dX3_owed_105 kX3_owed_104 (pc' := 108) rfl ?_
            exact zw_lret E hr hlk dX3_owed_108 (by rw [m_ow, if_neg c_2, if_pos c_3, if_pos c_4]) rfl
        · skip
          refine zw_aload_n (i := 0) (x := am 0) E 0 dX3_owed_72 rfl rfl (pc' := 73) rfl ?_
          refine zw_get (v := .ref (am 15)) E 0 16 iX3_owed_X3 fX3_owed_53 rfl rfl (by decide) rfl rfl dX3_owed_73 (pc' := 76) rfl ?_
          refine zw_iload (x := nI k) E 5 dX3_owed_76 rfl (pc' := 78) rfl ?_
          refine zw_iald (j := k) (x := g.1 14 k) E 15 0 rfl rfl (vp_in_nI hk (by decide)) (zw_clamp hk (by decide)) rfl dX3_owed_78 (pc' := 79) rfl ?_
          refine zw_iload_n (i := 3) (x := o) E 3 dX3_owed_79 rfl rfl (pc' := 80) rfl ?_
          refine zw_icmp_eq (tgt := 86) E dX3_owed_80 (by decide) (pc' := 83) rfl (fun c_5 => ?_) (fun c_5 => ?_)
          · skip
            refine zw_aload_n (i := 0) (x := am 0) E 0 dX3_owed_86 rfl rfl (pc' := 87) rfl ?_
            refine zw_iload_n (i := 1) (x := nI kn) E 1 dX3_owed_87 rfl rfl (pc' := 88) rfl ?_
            refine zw_iload_n (i := 2) (x := y) E 2 dX3_owed_88 rfl rfl (pc' := 89) rfl ?_
            refine zw_iload (x := nI k) E 5 dX3_owed_89 rfl (pc' := 91) rfl ?_
            refine zw_callLw E (r := m_money g kn y k) (As := [.int (nI kn), .int y, .int (nI k)]) (rest := []) (ws' := (md_W K am g)) (qX3_moneyOf l D K am g kn hkn y hy k hk) (cwV 3 E.2.2.2.2.1 gX3_owed_X3_moneyOf rfl rfl rfl (by decide +kernel) ⟨Nat.le_of_ble_eq_true rfl, Nat.le_of_ble_eq_true rfl⟩) 0 rfl rfl rfl rfl rfl rfl (Nat.le_of_ble_eq_true rfl) ⟨Nat.zero_le _, Nat.zero_le _⟩ dX3_owed_91 (pc' := 94) rfl ?_
            refine zw_lstore (lv' := [(8, .long (m_money g kn y k)), (0, .ref (am 0)), (1, .int (nI kn)), (2, .int y), (3, .int o), (5, .long t), (7, .int (nI k))]) E dX3_owed_94 (by decide) rfl (pc' := 96) rfl ?_
            refine zw_lload (x := m_money g kn y k) E 0 dX3_owed_96 rfl (pc' := 98) rfl ?_
            refine zw_ldc2 (v := (-1)) E dX3_owed_98 kX3_owed_104 (pc' := 101) rfl ?_
            refine zw_lcmp E dX3_owed_101 (pc' := 102) rfl ?_
            refine zw_ifl_ne (tgt := 109) E dX3_owed_102 (by decide) (pc' := 105) rfl (fun c_6 => ?_) (fun c_6 => ?_)
            · skip
              refine zw_lload (x := t) E 5 dX3_owed_109 rfl (pc' := 111) rfl ?_
              refine zw_lload (x := m_money g kn y k) E 0 dX3_owed_111 rfl (pc' := 113) rfl ?_
              refine zw_ladd E dX3_owed_113 (pc' := 114) rfl ?_
              refine zw_lstore (lv' := [(5, .long (t + (m_money g kn y k))), (8, .long (m_money g kn y k)), (0, .ref (am 0)), (1, .int (nI kn)), (2, .int y), (3, .int o), (7, .int (nI k))]) E dX3_owed_114 (by decide) rfl (pc' := 116) rfl ?_
              refine zw_iinc (x := nI k) (v := nI (k + 1)) (lv' := [(7, .int (nI (k + 1))), (5, .long (t + (m_money g kn y k))), (8, .long (m_money g kn y k)), (0, .ref (am 0)), (1, .int (nI kn)), (2, .int y), (3, .int o)]) E 6 dX3_owed_116 rfl (zw_inc1 k) (by decide) rfl (pc' := 119) rfl ?_
              refine zw_goto (tgt := 48) E dX3_owed_119 (by decide) ?_
              have e1 : m_ow g kn y o (r + 1) k t = m_ow g kn y o r (k + 1) (t + (m_money g kn y k)) := by rw [m_ow, if_neg c_2, if_neg c_3, if_pos c_5, if_neg c_6]
              rw [e1]
              refine zw_sub [3, 4, 5, 6, 1, 0] (lv' := [(0, .ref (am 0)), (1, .int (nI kn)), (2, .int y), (3, .int o), (5, .long (t + (m_money g kn y k))), (7, .int (nI (k + 1)))]) rfl ?_
              exact ih (k + 1) (t + (m_money g kn y k)) (by omega)
            · skip
              refine zw_ldc2 (v := (-1)) E dX3_owed_105 kX3_owed_104 (pc' := 108) rfl ?_
              exact zw_lret E hr hlk dX3_owed_108 (by rw [m_ow, if_neg c_2, if_neg c_3, if_pos c_5, if_pos c_6]) rfl
          · skip
            refine zw_goto (tgt := 116) E dX3_owed_83 (by decide) ?_
            refine zw_iinc (x := nI k) (v := nI (k + 1)) (lv' := [(7, .int (nI (k + 1))), (0, .ref (am 0)), (1, .int (nI kn)), (2, .int y), (3, .int o), (5, .long t)]) E 5 dX3_owed_116 rfl (zw_inc1 k) (by decide) rfl (pc' := 119) rfl ?_
            refine zw_goto (tgt := 48) E dX3_owed_119 (by decide) ?_
            have e1 : m_ow g kn y o (r + 1) k t = m_ow g kn y o r (k + 1) t := by rw [m_ow, if_neg c_2, if_neg c_3, if_neg c_5]
            rw [e1]
            refine zw_sub [1, 2, 3, 4, 5, 0] (lv' := [(0, .ref (am 0)), (1, .int (nI kn)), (2, .int y), (3, .int o), (5, .long t), (7, .int (nI (k + 1)))]) rfl ?_
            exact ih (k + 1) t (by omega)

set_option maxHeartbeats 4000000 in
set_option maxRecDepth 100000 in
/-- owed -/
theorem qX3_owed (l : Launch) (D : va_G) (K : Nat → ClassId) (am : Nat → Nat) (g : Md) (k y o : Int32) (hs80 : g.2.2.1 0 ≤ 80) (hf60 : g.2.2.1 1 ≤ 60) (hw : ∀ kn, kn ≤ g.2.2.1 0 → wk_ok g kn) : zw_L l yX3_owed wsX3_owed rmX3_owed D (zT K) [.ref (am 0), .int k, .int y, .int o] (md_W K am g) (m_owed g k y o) (md_W K am (g_owed g k y o)) := by
  refine zw_ofL (cc := cX3_owed) (nL := 10) (ret := (some .long)) (own := RX3) (lv := [(0, .ref (am 0)), (1, .int k), (2, .int y), (3, .int o)]) (by decide) rfl (Nat.le_of_ble_eq_true rfl) rfl rfl ?_
  intro p e s m below meth c A E hr hlk
  refine zw_aload_n (i := 0) (x := am 0) E 0 dX3_owed_0 rfl rfl (pc' := 1) rfl ?_
  refine zw_iload_n (i := 1) (x := k) E 1 dX3_owed_1 rfl rfl (pc' := 2) rfl ?_
  refine zw_callIw E (r := zb (0 ≤ k ∧ k ≤ nI (g.2.2.1 0))) (As := [.int k]) (rest := []) (ws' := (md_W K am g)) (qX3_isKnowing l D K am g k) (cwV 1 E.2.2.2.2.1 gX3_owed_X3_isKnowing rfl rfl rfl (by decide +kernel) ⟨Nat.le_of_ble_eq_true rfl, Nat.le_of_ble_eq_true rfl⟩) 0 rfl rfl rfl rfl rfl rfl (Nat.le_of_ble_eq_true rfl) ⟨Nat.zero_le _, Nat.zero_le _⟩ dX3_owed_2 (pc' := 5) rfl ?_
  refine zw_ifb_eq (tgt := 29) E dX3_owed_5 (by decide) (pc' := 8) rfl (fun c_1 => ?_) (fun c_1 => ?_)
  · skip
    refine zw_ldc2 (v := (-1)) E dX3_owed_29 kX3_owed_104 (pc' := 32) rfl ?_
    exact zw_lret E hr hlk dX3_owed_32 (by unfold m_owed; rw [if_neg c_1]) (congrArg (md_W K am) (by unfold g_owed; rw [if_neg c_1]))
  · skip
    obtain ⟨kn, hkn, ek⟩ := zw_kn hs80 c_1
    have ek2 : k.toNatClampNeg = kn := by rw [ek]; exact nI_clamp (by omega)
    have hkn80 : kn ≤ 80 := Nat.le_trans hkn hs80
    refine zw_iload_n (i := 2) (x := y) E 2 dX3_owed_8 rfl rfl (pc' := 9) rfl ?_
    refine zw_iconst (v := 1) E dX3_owed_9 (by decide) (pc' := 10) rfl ?_
    refine zw_sipush (v := 200) E dX3_owed_10 (by decide) (pc' := 13) rfl ?_
    refine zw_callIs E (r := zb (1 ≤ y ∧ y ≤ 200)) (As := [.int y, .int 1, .int 200]) (rest := []) (ws' := (md_W K am g)) (qX3_lies l D K y 1 200) (va_cwS 3 E.2.2.2.2.1 gX3_owed_X3_lies rfl rfl rfl (by decide +kernel) ⟨Nat.le_of_ble_eq_true rfl, Nat.le_of_ble_eq_true rfl⟩) [] (by decide) rfl rfl (zw_put_same _ _ _ rfl) rfl rfl (Nat.le_of_ble_eq_true rfl) ⟨Nat.zero_le _, Nat.zero_le _⟩ dX3_owed_13 (pc' := 16) rfl ?_
    refine zw_ifb_eq (tgt := 29) E dX3_owed_16 (by decide) (pc' := 19) rfl (fun c_2 => ?_) (fun c_2 => ?_)
    · skip
      refine zw_ldc2 (v := (-1)) E dX3_owed_29 kX3_owed_104 (pc' := 32) rfl ?_
      exact zw_lret E hr hlk dX3_owed_32 (by unfold m_owed; rw [if_pos c_1, if_neg c_2]) (congrArg (md_W K am) (by unfold g_owed; rw [if_pos c_1, if_neg c_2]))
    · skip
      obtain ⟨yn, hyn, ey⟩ := zw_y1 c_2
      have ey2 : y.toNatClampNeg = yn := by rw [ey]; exact nI_clamp (by omega)
      refine zw_iload_n (i := 3) (x := o) E 3 dX3_owed_19 rfl rfl (pc' := 20) rfl ?_
      refine zw_iconst (v := (-1)) E dX3_owed_20 (by decide) (pc' := 21) rfl ?_
      refine zw_bipush (v := 9) E dX3_owed_21 (by decide) (pc' := 23) rfl ?_
      refine zw_callIs E (r := zb ((-1) ≤ o ∧ o ≤ 9)) (As := [.int o, .int (-1), .int 9]) (rest := []) (ws' := (md_W K am g)) (qX3_lies l D K o (-1) 9) (va_cwS 3 E.2.2.2.2.1 gX3_owed_X3_lies rfl rfl rfl (by decide +kernel) ⟨Nat.le_of_ble_eq_true rfl, Nat.le_of_ble_eq_true rfl⟩) [] (by decide) rfl rfl (zw_put_same _ _ _ rfl) rfl rfl (Nat.le_of_ble_eq_true rfl) ⟨Nat.zero_le _, Nat.zero_le _⟩ dX3_owed_23 (pc' := 26) rfl ?_
      refine zw_ifb_ne (tgt := 33) E dX3_owed_26 (by decide) (pc' := 29) rfl (fun c_3 => ?_) (fun c_3 => ?_)
      · skip
        refine zw_aload_n (i := 0) (x := am 0) E 0 dX3_owed_33 rfl rfl (pc' := 34) rfl ?_
        refine zw_iload_n (i := 1) (x := k) E 1 dX3_owed_34 rfl rfl (pc' := 35) rfl ?_
        refine zw_topi (x' := nI kn) ek ?_
        refine zw_iload_n (i := 2) (x := y) E 2 dX3_owed_35 rfl rfl (pc' := 36) rfl ?_
        refine zw_topi (x' := nI yn) ey ?_
        refine zw_iconst (v := (-1)) E dX3_owed_36 (by decide) (pc' := 37) rfl ?_
        refine zw_callIw E (r := (g_works g kn yn (-1)).1) (As := [.int (nI kn), .int (nI yn), .int (-1)]) (rest := []) (ws' := (md_W K am ((g_works g kn yn (-1)).2))) (qX3_works l D K am g kn hkn80 yn hyn (-1) (hw kn hkn)) (cwV 3 E.2.2.2.2.1 gX3_owed_X3_works rfl rfl rfl (by decide +kernel) ⟨Nat.le_of_ble_eq_true rfl, Nat.le_of_ble_eq_true rfl⟩) 0 rfl rfl rfl (md_ad _ _ _ _) rfl rfl (Nat.le_of_ble_eq_true rfl) ⟨Nat.zero_le _, Nat.zero_le _⟩ dX3_owed_37 (pc' := 40) rfl ?_
        refine zw_gen_md_g ((g_works g kn yn (-1)).2) (fun gw hgw => ?_)
        have hkp : kept g gw := by rw [← hgw]; exact kept_works _ _ _ _
        have hfw : gw.2.2.1 1 ≤ 60 := by rw [hkp.1]; exact hf60
        refine zw_istore (lv' := [(4, .int ((g_works g kn yn (-1)).1)), (0, .ref (am 0)), (1, .int k), (2, .int y), (3, .int o)]) E dX3_owed_40 (by decide) rfl (pc' := 42) rfl ?_
        refine zw_lconst (v := 0) E dX3_owed_42 (by decide) (pc' := 43) rfl ?_
        refine zw_lstore (lv' := [(5, .long 0), (4, .int ((g_works g kn yn (-1)).1)), (0, .ref (am 0)), (1, .int k), (2, .int y), (3, .int o)]) E dX3_owed_43 (by decide) rfl (pc' := 45) rfl ?_
        refine zw_iconst (v := 0) E dX3_owed_45 (by decide) (pc' := 46) rfl ?_
        refine zw_istore (lv' := [(7, .int 0), (5, .long 0), (4, .int ((g_works g kn yn (-1)).1)), (0, .ref (am 0)), (1, .int k), (2, .int y), (3, .int o)]) E dX3_owed_46 (by decide) rfl (pc' := 48) rfl ?_
        have e1 : m_owed g k y o = m_ow gw kn y o (gw.2.2.1 1) 0 0 := by unfold m_owed; rw [if_pos c_1, if_pos c_2, if_pos c_3, ek2, ey2, hgw, show g.2.2.1 1 = gw.2.2.1 1 by rw [hkp.1]]
        have e2 : g_owed g k y o = gw := by unfold g_owed; rw [if_pos c_1, if_pos c_2, if_pos c_3, ek2, ey2, hgw]
        rw [e1, e2]
        refine zw_sub [3, 4, 5, 6, 1, 0] (lv' := [(0, .ref (am 0)), (1, .int k), (2, .int y), (3, .int o), (5, .long 0), (7, .int 0)]) rfl ?_
        refine zw_as (lv' := [(0, .ref (am 0)), (1, .int (nI kn)), (2, .int y), (3, .int o), (5, .long 0), (7, .int (nI 0))]) (by rw [ek]; rfl) rfl rfl ?_
        exact lX3_owed E hr hlk am gw hfw kn hkn80 y o c_2 (gw.2.2.1 1) 0 0 (by omega)
      · skip
        refine zw_ldc2 (v := (-1)) E dX3_owed_29 kX3_owed_104 (pc' := 32) rfl ?_
        exact zw_lret E hr hlk dX3_owed_32 (by unfold m_owed; rw [if_pos c_1, if_pos c_2, if_neg c_3]) (congrArg (md_W K am) (by unfold g_owed; rw [if_pos c_1, if_pos c_2, if_neg c_3]))

def m_pt (g : Md) (what : Int32) (k : Nat) (t : Int64) : Int64 :=
  (if what = 5 then (if (2 ≤ what ∧ what ≤ 4) then (if what = 1 then (if what = 0 then t + 1 else t) + (g.1 12 k).toInt64 else (if what = 0 then t + 1 else t)) + (g.1 15 (3 * k + what.toNatClampNeg - 2)).toInt64 else (if what = 1 then (if what = 0 then t + 1 else t) + (g.1 12 k).toInt64 else (if what = 0 then t + 1 else t))) + (if g.1 16 k = 0 then 0 else 1) else (if (2 ≤ what ∧ what ≤ 4) then (if what = 1 then (if what = 0 then t + 1 else t) + (g.1 12 k).toInt64 else (if what = 0 then t + 1 else t)) + (g.1 15 (3 * k + what.toNatClampNeg - 2)).toInt64 else (if what = 1 then (if what = 0 then t + 1 else t) + (g.1 12 k).toInt64 else (if what = 0 then t + 1 else t))))
def m_pa (g : Md) (what : Int32) : Nat → Int64
  | 0 => 0
  | k + 1 => if g.1 11 k = 0 then m_pa g what k else m_pt g what k (m_pa g what k)
def m_pl (g : Md) (what : Int32) (n : Nat) : Int64 := if what = 6 then (if g.2.2.2 = 0 then 0 else 1) else if (0 ≤ what ∧ what ≤ 5) then m_pa g what n else -1
theorem zw_w4 {what : Int32} (h : 2 ≤ what ∧ what ≤ 4) : ∃ v, (2 ≤ v ∧ v ≤ 4) ∧ what = nI v := by
  obtain ⟨v, hv, e⟩ := nI_of2 (x := what) (M := 4) (n := 4) rfl (Int32.not_lt.mpr (Int32.le_trans (by decide) h.1)) h.2
  subst e
  exact ⟨v, ⟨(nI_leI (a := 2) (by decide) (by omega)).mp h.1, hv⟩, rfl⟩
theorem zw_c4 {k v : Nat} (h : 2 ≤ v ∧ v ≤ 4) : nI (3 * k + v) - 2 = nI (3 * k + v - 2) := pk_sub (a := 3 * k + v) (b := 2) (by omega)
def m_parish (g : Md) (k y what : Int32) : Int64 := if (0 ≤ k ∧ k ≤ nI (g.2.2.1 0)) then if (0 ≤ y ∧ y ≤ 200) then m_pl (g_works g k.toNatClampNeg y.toNatClampNeg (-1)).2 what (g.2.2.1 1) else -1 else -1
def g_parish (g : Md) (k y what : Int32) : Md := if (0 ≤ k ∧ k ≤ nI (g.2.2.1 0)) then if (0 ≤ y ∧ y ≤ 200) then (g_works g k.toNatClampNeg y.toNatClampNeg (-1)).2 else g else g
theorem kX3_parish_104 : Cond.constantLong RX3 104 (-1) ∈ wsX3_parish := by decide +kernel
theorem fX3_parish_110 : Cond.fieldLink RX3 110 "TitheMapModel" "isSettled" "Z" ∈ wsX3_parish := by decide +kernel
theorem fX3_parish_43 : Cond.fieldLink RX3 43 "TitheMapModel" "isThere" "[Z" ∈ wsX3_parish := by decide +kernel
theorem fX3_parish_47 : Cond.fieldLink RX3 47 "TitheMapModel" "area" "[I" ∈ wsX3_parish := by decide +kernel
theorem fX3_parish_56 : Cond.fieldLink RX3 56 "TitheMapModel" "charge" "[I" ∈ wsX3_parish := by decide +kernel
theorem fX3_parish_59 : Cond.fieldLink RX3 59 "TitheMapModel" "isBought" "[Z" ∈ wsX3_parish := by decide +kernel
theorem fX3_parish_80 : Cond.fieldLink RX3 80 "TitheMapModel" "fields" "I" ∈ wsX3_parish := by decide +kernel
theorem iX3_parish_X3 : ∀ w ∈ wsX30, w ∈ wsX3_parish := by decide +kernel
set_option maxHeartbeats 4000000 in
set_option maxRecDepth 100000 in
theorem lX3_parish {l : Launch} {D : va_G} {K : Nat → ClassId} {p : Program} {e : Env} {s : State} {m : MethodId} {below : List Frame} {meth : Method} {c : Code} {A : Nat → Prop} {args : Array Value} (E : zw_E p s m args c cX3_parish 8 RX3 wsX3_parish D (zT K) A) (hr : meth.sig.returnType = some .long) (hlk : meth.locks = false) (am : Nat → Nat) (g : Md) (hf60 : g.2.2.1 1 ≤ 60) (k1 y1 what : Int32) : ∀ (r k : Nat), r + k = g.2.2.1 1 → zw_W p l e rmX3_parish s m args below meth c 8 D A 0 0 (zw_Ql D A below args s (m_pl g what (g.2.2.1 1)) (md_W K am g)) 38 [(0, .ref (am 0)), (1, .int k1), (2, .int y1), (3, .int what), (5, .long (m_pa g what k)), (7, .int (nI k))] [] (md_W K am g) := by
  intro r
  induction r with
  | zero =>
    intro k hri
    have hk0 : g.2.2.1 1 ≤ k := by omega
    refine zw_iload (x := nI k) E 5 dX3_parish_38 rfl (pc' := 40) rfl ?_
    refine zw_aload_n (i := 0) (x := am 0) E 0 dX3_parish_40 rfl rfl (pc' := 41) rfl ?_
    refine zw_get (v := .int (nI (g.2.2.1 1))) E 0 1 iX3_parish_X3 fX3_parish_80 rfl rfl (by decide) rfl rfl dX3_parish_41 (pc' := 44) rfl ?_
    refine zw_icmp_ge (tgt := 147) E dX3_parish_44 (by decide) (pc' := 47) rfl (fun c_1 => ?_) (fun c_1 => ?_)
    · skip
      have hke : k = g.2.2.1 1 := by omega
      refine zw_iload_n (i := 3) (x := what) E 3 dX3_parish_147 rfl rfl (pc' := 148) rfl ?_
      refine zw_bipush (v := 6) E dX3_parish_148 (by decide) (pc' := 150) rfl ?_
      refine zw_icmp_ne (tgt := 168) E dX3_parish_150 (by decide) (pc' := 153) rfl (fun c_2 => ?_) (fun c_2 => ?_)
      · skip
        refine zw_iload_n (i := 3) (x := what) E 3 dX3_parish_168 rfl rfl (pc' := 169) rfl ?_
        refine zw_iconst (v := 0) E dX3_parish_169 (by decide) (pc' := 170) rfl ?_
        refine zw_iconst (v := 5) E dX3_parish_170 (by decide) (pc' := 171) rfl ?_
        refine zw_callIs E (r := zb (0 ≤ what ∧ what ≤ 5)) (As := [.int what, .int 0, .int 5]) (rest := []) (ws' := (md_W K am g)) (qX3_lies l D K what 0 5) (va_cwS 3 E.2.2.2.2.1 gX3_parish_X3_lies rfl rfl rfl (by decide +kernel) ⟨Nat.le_of_ble_eq_true rfl, Nat.le_of_ble_eq_true rfl⟩) [] (by decide) rfl rfl (zw_put_same _ _ _ rfl) rfl rfl (Nat.le_of_ble_eq_true rfl) ⟨Nat.zero_le _, Nat.zero_le _⟩ dX3_parish_171 (pc' := 174) rfl ?_
        refine zw_ifb_eq (tgt := 182) E dX3_parish_174 (by decide) (pc' := 177) rfl (fun c_3 => ?_) (fun c_3 => ?_)
        · skip
          refine zw_ldc2 (v := (-1)) E dX3_parish_182 kX3_parish_104 (pc' := 185) rfl ?_
          exact zw_lret E hr hlk dX3_parish_185 (by rw [← hke]; unfold m_pl; rw [if_neg c_2, if_neg c_3]) rfl
        · skip
          refine zw_lload (x := m_pa g what k) E 4 dX3_parish_177 rfl (pc' := 179) rfl ?_
          refine zw_goto (tgt := 185) E dX3_parish_179 (by decide) ?_
          exact zw_lret E hr hlk dX3_parish_185 (by rw [← hke]; unfold m_pl; rw [if_neg c_2, if_pos c_3]) rfl
      · skip
        refine zw_aload_n (i := 0) (x := am 0) E 0 dX3_parish_153 rfl rfl (pc' := 154) rfl ?_
        refine zw_get (v := .int g.2.2.2) E 0 19 iX3_parish_X3 fX3_parish_110 rfl rfl (by decide) rfl rfl dX3_parish_154 (pc' := 157) rfl ?_
        refine zw_if_eq (tgt := 164) E dX3_parish_157 (by decide) (pc' := 160) rfl (fun c_4 => ?_) (fun c_4 => ?_)
        · skip
          refine zw_lconst (v := 0) E dX3_parish_164 (by decide) (pc' := 165) rfl ?_
          refine zw_goto (tgt := 185) E dX3_parish_165 (by decide) ?_
          exact zw_lret E hr hlk dX3_parish_185 (by rw [← hke]; unfold m_pl; rw [if_pos c_2, if_pos c_4]) rfl
        · skip
          refine zw_lconst (v := 1) E dX3_parish_160 (by decide) (pc' := 161) rfl ?_
          refine zw_goto (tgt := 185) E dX3_parish_161 (by decide) ?_
          exact zw_lret E hr hlk dX3_parish_185 (by rw [← hke]; unfold m_pl; rw [if_pos c_2, if_neg c_4]) rfl
    · exact absurd (nI_le hk0 (by omega)) c_1
  | succ r ih =>
    intro k hri
    have hkf : k < g.2.2.1 1 := by omega
    have hk : k < 60 := by omega
    refine zw_iload (x := nI k) E 5 dX3_parish_38 rfl (pc' := 40) rfl ?_
    refine zw_aload_n (i := 0) (x := am 0) E 0 dX3_parish_40 rfl rfl (pc' := 41) rfl ?_
    refine zw_get (v := .int (nI (g.2.2.1 1))) E 0 1 iX3_parish_X3 fX3_parish_80 rfl rfl (by decide) rfl rfl dX3_parish_41 (pc' := 44) rfl ?_
    refine zw_icmp_ge (tgt := 147) E dX3_parish_44 (by decide) (pc' := 47) rfl (fun c_1 => ?_) (fun c_1 => ?_)
    · exact absurd c_1 (nI_ge hkf (by omega))
    · skip
      refine zw_aload_n (i := 0) (x := am 0) E 0 dX3_parish_47 rfl rfl (pc' := 48) rfl ?_
      refine zw_get (v := .ref (am 12)) E 0 13 iX3_parish_X3 fX3_parish_43 rfl rfl (by decide) rfl rfl dX3_parish_48 (pc' := 51) rfl ?_
      refine zw_iload (x := nI k) E 5 dX3_parish_51 rfl (pc' := 53) rfl ?_
      refine zw_zald (j := k) (x := g.1 11 k) E 12 1 rfl rfl (vp_in_nI hk (by decide)) (zw_clamp hk (by decide)) rfl dX3_parish_53 (pc' := 54) rfl ?_
      refine zw_if_ne (tgt := 60) E dX3_parish_54 (by decide) (pc' := 57) rfl (fun c_2 => ?_) (fun c_2 => ?_)
      · skip
        refine zw_iload_n (i := 3) (x := what) E 3 dX3_parish_60 rfl rfl (pc' := 61) rfl ?_
        refine zw_if_ne (tgt := 70) E dX3_parish_61 (by decide) (pc' := 64) rfl (fun c_3 => ?_) (fun c_3 => ?_)
        · skip
          refine zw_iload_n (i := 3) (x := what) E 3 dX3_parish_70 rfl rfl (pc' := 71) rfl ?_
          refine zw_iconst (v := 1) E dX3_parish_71 (by decide) (pc' := 72) rfl ?_
          refine zw_icmp_ne (tgt := 88) E dX3_parish_72 (by decide) (pc' := 75) rfl (fun c_4 => ?_) (fun c_4 => ?_)
          · skip
            refine zw_iload_n (i := 3) (x := what) E 3 dX3_parish_88 rfl rfl (pc' := 89) rfl ?_
            refine zw_iconst (v := 2) E dX3_parish_89 (by decide) (pc' := 90) rfl ?_
            refine zw_iconst (v := 4) E dX3_parish_90 (by decide) (pc' := 91) rfl ?_
            refine zw_callIs E (r := zb (2 ≤ what ∧ what ≤ 4)) (As := [.int what, .int 2, .int 4]) (rest := []) (ws' := (md_W K am g)) (qX3_lies l D K what 2 4) (va_cwS 3 E.2.2.2.2.1 gX3_parish_X3_lies rfl rfl rfl (by decide +kernel) ⟨Nat.le_of_ble_eq_true rfl, Nat.le_of_ble_eq_true rfl⟩) [] (by decide) rfl rfl (zw_put_same _ _ _ rfl) rfl rfl (Nat.le_of_ble_eq_true rfl) ⟨Nat.zero_le _, Nat.zero_le _⟩ dX3_parish_91 (pc' := 94) rfl ?_
            refine zw_ifb_eq (tgt := 116) E dX3_parish_94 (by decide) (pc' := 97) rfl (fun c_5 => ?_) (fun c_5 => ?_)
            · skip
              refine zw_iload_n (i := 3) (x := what) E 3 dX3_parish_116 rfl rfl (pc' := 117) rfl ?_
              refine zw_iconst (v := 5) E dX3_parish_117 (by decide) (pc' := 118) rfl ?_
              refine zw_icmp_ne (tgt := 141) E dX3_parish_118 (by decide) (pc' := 121) rfl (fun c_6 => ?_) (fun c_6 => ?_)
              · skip
                refine zw_iinc (x := nI k) (v := nI (k + 1)) (lv' := [(7, .int (nI (k + 1))), (0, .ref (am 0)), (1, .int k1), (2, .int y1), (3, .int what), (5, .long (m_pa g what k))]) E 5 dX3_parish_141 rfl (zw_inc1 k) (by decide) rfl (pc' := 144) rfl ?_
                refine zw_goto (tgt := 38) E dX3_parish_144 (by decide) ?_
                have e1 : m_pa g what (k + 1) = m_pa g what k := by rw [m_pa, if_neg c_2, m_pt, if_neg c_3, if_neg c_4, if_neg c_5, if_neg c_6]
                refine zw_sub [1, 2, 3, 4, 5, 0] (lv' := [(0, .ref (am 0)), (1, .int k1), (2, .int y1), (3, .int what), (5, .long (m_pa g what k)), (7, .int (nI (k + 1)))]) rfl ?_
                refine zw_as (lv' := [(0, .ref (am 0)), (1, .int k1), (2, .int y1), (3, .int what), (5, .long (m_pa g what (k + 1))), (7, .int (nI (k + 1)))]) (by rw [e1]) rfl rfl ?_
                exact ih (k + 1) (by omega)
              · skip
                refine zw_lload (x := m_pa g what k) E 4 dX3_parish_121 rfl (pc' := 123) rfl ?_
                refine zw_aload_n (i := 0) (x := am 0) E 0 dX3_parish_123 rfl rfl (pc' := 124) rfl ?_
                refine zw_get (v := .ref (am 17)) E 0 18 iX3_parish_X3 fX3_parish_59 rfl rfl (by decide) rfl rfl dX3_parish_124 (pc' := 127) rfl ?_
                refine zw_iload (x := nI k) E 5 dX3_parish_127 rfl (pc' := 129) rfl ?_
                refine zw_zald (j := k) (x := g.1 16 k) E 17 1 rfl rfl (vp_in_nI hk (by decide)) (zw_clamp hk (by decide)) rfl dX3_parish_129 (pc' := 130) rfl ?_
                refine zw_if_eq (tgt := 137) E dX3_parish_130 (by decide) (pc' := 133) rfl (fun c_7 => ?_) (fun c_7 => ?_)
                · skip
                  refine zw_lconst (v := 0) E dX3_parish_137 (by decide) (pc' := 138) rfl ?_
                  refine zw_ladd E dX3_parish_138 (pc' := 139) rfl ?_
                  refine zw_lstore (lv' := [(5, .long ((m_pa g what k) + 0)), (0, .ref (am 0)), (1, .int k1), (2, .int y1), (3, .int what), (7, .int (nI k))]) E dX3_parish_139 (by decide) rfl (pc' := 141) rfl ?_
                  refine zw_iinc (x := nI k) (v := nI (k + 1)) (lv' := [(7, .int (nI (k + 1))), (5, .long ((m_pa g what k) + 0)), (0, .ref (am 0)), (1, .int k1), (2, .int y1), (3, .int what)]) E 5 dX3_parish_141 rfl (zw_inc1 k) (by decide) rfl (pc' := 144) rfl ?_
                  refine zw_goto (tgt := 38) E dX3_parish_144 (by decide) ?_
                  have e1 : m_pa g what (k + 1) = (m_pa g what k) + 0 := by rw [m_pa, if_neg c_2, m_pt, if_neg c_3, if_neg c_4, if_neg c_5, if_pos c_6, if_pos c_7]
                  refine zw_sub [2, 3, 4, 5, 1, 0] (lv' := [(0, .ref (am 0)), (1, .int k1), (2, .int y1), (3, .int what), (5, .long ((m_pa g what k) + 0)), (7, .int (nI (k + 1)))]) rfl ?_
                  refine zw_as (lv' := [(0, .ref (am 0)), (1, .int k1), (2, .int y1), (3, .int what), (5, .long (m_pa g what (k + 1))), (7, .int (nI (k + 1)))]) (by rw [e1]) rfl rfl ?_
                  exact ih (k + 1) (by omega)
                · skip
                  refine zw_lconst (v := 1) E dX3_parish_133 (by decide) (pc' := 134) rfl ?_
                  refine zw_goto (tgt := 138) E dX3_parish_134 (by decide) ?_
                  refine zw_ladd E dX3_parish_138 (pc' := 139) rfl ?_
                  refine zw_lstore (lv' := [(5, .long ((m_pa g what k) + 1)), (0, .ref (am 0)), (1, .int k1), (2, .int y1), (3, .int what), (7, .int (nI k))]) E dX3_parish_139 (by decide) rfl (pc' := 141) rfl ?_
                  refine zw_iinc (x := nI k) (v := nI (k + 1)) (lv' := [(7, .int (nI (k + 1))), (5, .long ((m_pa g what k) + 1)), (0, .ref (am 0)), (1, .int k1), (2, .int y1), (3, .int what)]) E 5 dX3_parish_141 rfl (zw_inc1 k) (by decide) rfl (pc' := 144) rfl ?_
                  refine zw_goto (tgt := 38) E dX3_parish_144 (by decide) ?_
                  have e1 : m_pa g what (k + 1) = (m_pa g what k) + 1 := by rw [m_pa, if_neg c_2, m_pt, if_neg c_3, if_neg c_4, if_neg c_5, if_pos c_6, if_neg c_7]
                  refine zw_sub [2, 3, 4, 5, 1, 0] (lv' := [(0, .ref (am 0)), (1, .int k1), (2, .int y1), (3, .int what), (5, .long ((m_pa g what k) + 1)), (7, .int (nI (k + 1)))]) rfl ?_
                  refine zw_as (lv' := [(0, .ref (am 0)), (1, .int k1), (2, .int y1), (3, .int what), (5, .long (m_pa g what (k + 1))), (7, .int (nI (k + 1)))]) (by rw [e1]) rfl rfl ?_
                  exact ih (k + 1) (by omega)
            · skip
              obtain ⟨v, hv, ev⟩ := zw_w4 c_5
              refine zw_lload (x := m_pa g what k) E 4 dX3_parish_97 rfl (pc' := 99) rfl ?_
              refine zw_aload_n (i := 0) (x := am 0) E 0 dX3_parish_99 rfl rfl (pc' := 100) rfl ?_
              refine zw_get (v := .ref (am 16)) E 0 17 iX3_parish_X3 fX3_parish_56 rfl rfl (by decide) rfl rfl dX3_parish_100 (pc' := 103) rfl ?_
              refine zw_iconst (v := 3) E dX3_parish_103 (by decide) (pc' := 104) rfl ?_
              refine zw_iload (x := nI k) E 5 dX3_parish_104 rfl (pc' := 106) rfl ?_
              refine zw_imul E dX3_parish_106 (pc' := 107) rfl ?_
              refine zw_topi (x' := nI (3 * k)) (pk_mul 3 k) ?_
              refine zw_iload_n (i := 3) (x := what) E 3 dX3_parish_107 rfl rfl (pc' := 108) rfl ?_
              refine zw_iadd E dX3_parish_108 (pc' := 109) rfl ?_
              refine zw_topi (x' := nI (3 * k + v)) (by rw [ev]; exact nI_add (3 * k) v) ?_
              refine zw_iconst (v := 2) E dX3_parish_109 (by decide) (pc' := 110) rfl ?_
              refine zw_isub E dX3_parish_110 (pc' := 111) rfl ?_
              refine zw_topi (x' := nI (3 * k + v - 2)) (zw_c4 hv) ?_
              refine zw_iald (j := 3 * k + v - 2) (x := g.1 15 (3 * k + v - 2)) E 16 0 rfl rfl (vp_in_nI (show 3 * k + v - 2 < 180 by omega) (by decide)) (zw_clamp (show 3 * k + v - 2 < 180 by omega) (by decide)) rfl dX3_parish_111 (pc' := 112) rfl ?_
              refine zw_i2l E dX3_parish_112 (pc' := 113) rfl ?_
              refine zw_ladd E dX3_parish_113 (pc' := 114) rfl ?_
              refine zw_lstore (lv' := [(5, .long ((m_pa g what k) + ((g.1 15 (3 * k + v - 2)).toInt64))), (0, .ref (am 0)), (1, .int k1), (2, .int y1), (3, .int what), (7, .int (nI k))]) E dX3_parish_114 (by decide) rfl (pc' := 116) rfl ?_
              refine zw_iload_n (i := 3) (x := what) E 4 dX3_parish_116 rfl rfl (pc' := 117) rfl ?_
              refine zw_iconst (v := 5) E dX3_parish_117 (by decide) (pc' := 118) rfl ?_
              refine zw_icmp_ne (tgt := 141) E dX3_parish_118 (by decide) (pc' := 121) rfl (fun c_8 => ?_) (fun c_8 => ?_)
              · skip
                refine zw_iinc (x := nI k) (v := nI (k + 1)) (lv' := [(7, .int (nI (k + 1))), (5, .long ((m_pa g what k) + ((g.1 15 (3 * k + v - 2)).toInt64))), (0, .ref (am 0)), (1, .int k1), (2, .int y1), (3, .int what)]) E 5 dX3_parish_141 rfl (zw_inc1 k) (by decide) rfl (pc' := 144) rfl ?_
                refine zw_goto (tgt := 38) E dX3_parish_144 (by decide) ?_
                have e1 : m_pa g what (k + 1) = (m_pa g what k) + ((g.1 15 (3 * k + v - 2)).toInt64) := by rw [m_pa, if_neg c_2, m_pt, show what.toNatClampNeg = v by rw [ev]; exact nI_clamp (by omega), if_neg c_3, if_neg c_4, if_pos c_5, if_neg c_8]
                refine zw_sub [2, 3, 4, 5, 1, 0] (lv' := [(0, .ref (am 0)), (1, .int k1), (2, .int y1), (3, .int what), (5, .long ((m_pa g what k) + ((g.1 15 (3 * k + v - 2)).toInt64))), (7, .int (nI (k + 1)))]) rfl ?_
                refine zw_as (lv' := [(0, .ref (am 0)), (1, .int k1), (2, .int y1), (3, .int what), (5, .long (m_pa g what (k + 1))), (7, .int (nI (k + 1)))]) (by rw [e1]) rfl rfl ?_
                exact ih (k + 1) (by omega)
              · skip
                refine zw_lload (x := (m_pa g what k) + ((g.1 15 (3 * k + v - 2)).toInt64)) E 0 dX3_parish_121 rfl (pc' := 123) rfl ?_
                refine zw_aload_n (i := 0) (x := am 0) E 1 dX3_parish_123 rfl rfl (pc' := 124) rfl ?_
                refine zw_get (v := .ref (am 17)) E 0 18 iX3_parish_X3 fX3_parish_59 rfl rfl (by decide) rfl rfl dX3_parish_124 (pc' := 127) rfl ?_
                refine zw_iload (x := nI k) E 5 dX3_parish_127 rfl (pc' := 129) rfl ?_
                refine zw_zald (j := k) (x := g.1 16 k) E 17 1 rfl rfl (vp_in_nI hk (by decide)) (zw_clamp hk (by decide)) rfl dX3_parish_129 (pc' := 130) rfl ?_
                refine zw_if_eq (tgt := 137) E dX3_parish_130 (by decide) (pc' := 133) rfl (fun c_9 => ?_) (fun c_9 => ?_)
                · skip
                  refine zw_lconst (v := 0) E dX3_parish_137 (by decide) (pc' := 138) rfl ?_
                  refine zw_ladd E dX3_parish_138 (pc' := 139) rfl ?_
                  refine zw_lstore (lv' := [(5, .long (((m_pa g what k) + ((g.1 15 (3 * k + v - 2)).toInt64)) + 0)), (0, .ref (am 0)), (1, .int k1), (2, .int y1), (3, .int what), (7, .int (nI k))]) E dX3_parish_139 (by decide) rfl (pc' := 141) rfl ?_
                  refine zw_iinc (x := nI k) (v := nI (k + 1)) (lv' := [(7, .int (nI (k + 1))), (5, .long (((m_pa g what k) + ((g.1 15 (3 * k + v - 2)).toInt64)) + 0)), (0, .ref (am 0)), (1, .int k1), (2, .int y1), (3, .int what)]) E 5 dX3_parish_141 rfl (zw_inc1 k) (by decide) rfl (pc' := 144) rfl ?_
                  refine zw_goto (tgt := 38) E dX3_parish_144 (by decide) ?_
                  have e1 : m_pa g what (k + 1) = ((m_pa g what k) + ((g.1 15 (3 * k + v - 2)).toInt64)) + 0 := by rw [m_pa, if_neg c_2, m_pt, show what.toNatClampNeg = v by rw [ev]; exact nI_clamp (by omega), if_neg c_3, if_neg c_4, if_pos c_5, if_pos c_8, if_pos c_9]
                  refine zw_sub [2, 3, 4, 5, 1, 0] (lv' := [(0, .ref (am 0)), (1, .int k1), (2, .int y1), (3, .int what), (5, .long (((m_pa g what k) + ((g.1 15 (3 * k + v - 2)).toInt64)) + 0)), (7, .int (nI (k + 1)))]) rfl ?_
                  refine zw_as (lv' := [(0, .ref (am 0)), (1, .int k1), (2, .int y1), (3, .int what), (5, .long (m_pa g what (k + 1))), (7, .int (nI (k + 1)))]) (by rw [e1]) rfl rfl ?_
                  exact ih (k + 1) (by omega)
                · skip
                  refine zw_lconst (v := 1) E dX3_parish_133 (by decide) (pc' := 134) rfl ?_
                  refine zw_goto (tgt := 138) E dX3_parish_134 (by decide) ?_
                  refine zw_ladd E dX3_parish_138 (pc' := 139) rfl ?_
                  refine zw_lstore (lv' := [(5, .long (((m_pa g what k) + ((g.1 15 (3 * k + v - 2)).toInt64)) + 1)), (0, .ref (am 0)), (1, .int k1), (2, .int y1), (3, .int what), (7, .int (nI k))]) E dX3_parish_139 (by decide) rfl (pc' := 141) rfl ?_
                  refine zw_iinc (x := nI k) (v := nI (k + 1)) (lv' := [(7, .int (nI (k + 1))), (5, .long (((m_pa g what k) + ((g.1 15 (3 * k + v - 2)).toInt64)) + 1)), (0, .ref (am 0)), (1, .int k1), (2, .int y1), (3, .int what)]) E 5 dX3_parish_141 rfl (zw_inc1 k) (by decide) rfl (pc' := 144) rfl ?_
                  refine zw_goto (tgt := 38) E dX3_parish_144 (by decide) ?_
                  have e1 : m_pa g what (k + 1) = ((m_pa g what k) + ((g.1 15 (3 * k + v - 2)).toInt64)) + 1 := by rw [m_pa, if_neg c_2, m_pt, show what.toNatClampNeg = v by rw [ev]; exact nI_clamp (by omega), if_neg c_3, if_neg c_4, if_pos c_5, if_pos c_8, if_neg c_9]
                  refine zw_sub [2, 3, 4, 5, 1, 0] (lv' := [(0, .ref (am 0)), (1, .int k1), (2, .int y1), (3, .int what), (5, .long (((m_pa g what k) + ((g.1 15 (3 * k + v - 2)).toInt64)) + 1)), (7, .int (nI (k + 1)))]) rfl ?_
                  refine zw_as (lv' := [(0, .ref (am 0)), (1, .int k1), (2, .int y1), (3, .int what), (5, .long (m_pa g what (k + 1))), (7, .int (nI (k + 1)))]) (by rw [e1]) rfl rfl ?_
                  exact ih (k + 1) (by omega)
          · skip
            refine zw_lload (x := m_pa g what k) E 4 dX3_parish_75 rfl (pc' := 77) rfl ?_
            refine zw_aload_n (i := 0) (x := am 0) E 0 dX3_parish_77 rfl rfl (pc' := 78) rfl ?_
            refine zw_get (v := .ref (am 13)) E 0 14 iX3_parish_X3 fX3_parish_47 rfl rfl (by decide) rfl rfl dX3_parish_78 (pc' := 81) rfl ?_
            refine zw_iload (x := nI k) E 5 dX3_parish_81 rfl (pc' := 83) rfl ?_
            refine zw_iald (j := k) (x := g.1 12 k) E 13 0 rfl rfl (vp_in_nI hk (by decide)) (zw_clamp hk (by decide)) rfl dX3_parish_83 (pc' := 84) rfl ?_
            refine zw_i2l E dX3_parish_84 (pc' := 85) rfl ?_
            refine zw_ladd E dX3_parish_85 (pc' := 86) rfl ?_
            refine zw_lstore (lv' := [(5, .long ((m_pa g what k) + ((g.1 12 k).toInt64))), (0, .ref (am 0)), (1, .int k1), (2, .int y1), (3, .int what), (7, .int (nI k))]) E dX3_parish_86 (by decide) rfl (pc' := 88) rfl ?_
            refine zw_iload_n (i := 3) (x := what) E 4 dX3_parish_88 rfl rfl (pc' := 89) rfl ?_
            refine zw_iconst (v := 2) E dX3_parish_89 (by decide) (pc' := 90) rfl ?_
            refine zw_iconst (v := 4) E dX3_parish_90 (by decide) (pc' := 91) rfl ?_
            refine zw_callIs E (r := zb (2 ≤ what ∧ what ≤ 4)) (As := [.int what, .int 2, .int 4]) (rest := []) (ws' := (md_W K am g)) (qX3_lies l D K what 2 4) (va_cwS 3 E.2.2.2.2.1 gX3_parish_X3_lies rfl rfl rfl (by decide +kernel) ⟨Nat.le_of_ble_eq_true rfl, Nat.le_of_ble_eq_true rfl⟩) [] (by decide) rfl rfl (zw_put_same _ _ _ rfl) rfl rfl (Nat.le_of_ble_eq_true rfl) ⟨Nat.zero_le _, Nat.zero_le _⟩ dX3_parish_91 (pc' := 94) rfl ?_
            refine zw_ifb_eq (tgt := 116) E dX3_parish_94 (by decide) (pc' := 97) rfl (fun c_10 => ?_) (fun c_10 => ?_)
            · skip
              refine zw_iload_n (i := 3) (x := what) E 4 dX3_parish_116 rfl rfl (pc' := 117) rfl ?_
              refine zw_iconst (v := 5) E dX3_parish_117 (by decide) (pc' := 118) rfl ?_
              refine zw_icmp_ne (tgt := 141) E dX3_parish_118 (by decide) (pc' := 121) rfl (fun c_11 => ?_) (fun c_11 => ?_)
              · skip
                refine zw_iinc (x := nI k) (v := nI (k + 1)) (lv' := [(7, .int (nI (k + 1))), (5, .long ((m_pa g what k) + ((g.1 12 k).toInt64))), (0, .ref (am 0)), (1, .int k1), (2, .int y1), (3, .int what)]) E 5 dX3_parish_141 rfl (zw_inc1 k) (by decide) rfl (pc' := 144) rfl ?_
                refine zw_goto (tgt := 38) E dX3_parish_144 (by decide) ?_
                have e1 : m_pa g what (k + 1) = (m_pa g what k) + ((g.1 12 k).toInt64) := by rw [m_pa, if_neg c_2, m_pt, if_neg c_3, if_pos c_4, if_neg c_10, if_neg c_11]
                refine zw_sub [2, 3, 4, 5, 1, 0] (lv' := [(0, .ref (am 0)), (1, .int k1), (2, .int y1), (3, .int what), (5, .long ((m_pa g what k) + ((g.1 12 k).toInt64))), (7, .int (nI (k + 1)))]) rfl ?_
                refine zw_as (lv' := [(0, .ref (am 0)), (1, .int k1), (2, .int y1), (3, .int what), (5, .long (m_pa g what (k + 1))), (7, .int (nI (k + 1)))]) (by rw [e1]) rfl rfl ?_
                exact ih (k + 1) (by omega)
              · skip
                refine zw_lload (x := (m_pa g what k) + ((g.1 12 k).toInt64)) E 0 dX3_parish_121 rfl (pc' := 123) rfl ?_
                refine zw_aload_n (i := 0) (x := am 0) E 1 dX3_parish_123 rfl rfl (pc' := 124) rfl ?_
                refine zw_get (v := .ref (am 17)) E 0 18 iX3_parish_X3 fX3_parish_59 rfl rfl (by decide) rfl rfl dX3_parish_124 (pc' := 127) rfl ?_
                refine zw_iload (x := nI k) E 5 dX3_parish_127 rfl (pc' := 129) rfl ?_
                refine zw_zald (j := k) (x := g.1 16 k) E 17 1 rfl rfl (vp_in_nI hk (by decide)) (zw_clamp hk (by decide)) rfl dX3_parish_129 (pc' := 130) rfl ?_
                refine zw_if_eq (tgt := 137) E dX3_parish_130 (by decide) (pc' := 133) rfl (fun c_12 => ?_) (fun c_12 => ?_)
                · skip
                  refine zw_lconst (v := 0) E dX3_parish_137 (by decide) (pc' := 138) rfl ?_
                  refine zw_ladd E dX3_parish_138 (pc' := 139) rfl ?_
                  refine zw_lstore (lv' := [(5, .long (((m_pa g what k) + ((g.1 12 k).toInt64)) + 0)), (0, .ref (am 0)), (1, .int k1), (2, .int y1), (3, .int what), (7, .int (nI k))]) E dX3_parish_139 (by decide) rfl (pc' := 141) rfl ?_
                  refine zw_iinc (x := nI k) (v := nI (k + 1)) (lv' := [(7, .int (nI (k + 1))), (5, .long (((m_pa g what k) + ((g.1 12 k).toInt64)) + 0)), (0, .ref (am 0)), (1, .int k1), (2, .int y1), (3, .int what)]) E 5 dX3_parish_141 rfl (zw_inc1 k) (by decide) rfl (pc' := 144) rfl ?_
                  refine zw_goto (tgt := 38) E dX3_parish_144 (by decide) ?_
                  have e1 : m_pa g what (k + 1) = ((m_pa g what k) + ((g.1 12 k).toInt64)) + 0 := by rw [m_pa, if_neg c_2, m_pt, if_neg c_3, if_pos c_4, if_neg c_10, if_pos c_11, if_pos c_12]
                  refine zw_sub [2, 3, 4, 5, 1, 0] (lv' := [(0, .ref (am 0)), (1, .int k1), (2, .int y1), (3, .int what), (5, .long (((m_pa g what k) + ((g.1 12 k).toInt64)) + 0)), (7, .int (nI (k + 1)))]) rfl ?_
                  refine zw_as (lv' := [(0, .ref (am 0)), (1, .int k1), (2, .int y1), (3, .int what), (5, .long (m_pa g what (k + 1))), (7, .int (nI (k + 1)))]) (by rw [e1]) rfl rfl ?_
                  exact ih (k + 1) (by omega)
                · skip
                  refine zw_lconst (v := 1) E dX3_parish_133 (by decide) (pc' := 134) rfl ?_
                  refine zw_goto (tgt := 138) E dX3_parish_134 (by decide) ?_
                  refine zw_ladd E dX3_parish_138 (pc' := 139) rfl ?_
                  refine zw_lstore (lv' := [(5, .long (((m_pa g what k) + ((g.1 12 k).toInt64)) + 1)), (0, .ref (am 0)), (1, .int k1), (2, .int y1), (3, .int what), (7, .int (nI k))]) E dX3_parish_139 (by decide) rfl (pc' := 141) rfl ?_
                  refine zw_iinc (x := nI k) (v := nI (k + 1)) (lv' := [(7, .int (nI (k + 1))), (5, .long (((m_pa g what k) + ((g.1 12 k).toInt64)) + 1)), (0, .ref (am 0)), (1, .int k1), (2, .int y1), (3, .int what)]) E 5 dX3_parish_141 rfl (zw_inc1 k) (by decide) rfl (pc' := 144) rfl ?_
                  refine zw_goto (tgt := 38) E dX3_parish_144 (by decide) ?_
                  have e1 : m_pa g what (k + 1) = ((m_pa g what k) + ((g.1 12 k).toInt64)) + 1 := by rw [m_pa, if_neg c_2, m_pt, if_neg c_3, if_pos c_4, if_neg c_10, if_pos c_11, if_neg c_12]
                  refine zw_sub [2, 3, 4, 5, 1, 0] (lv' := [(0, .ref (am 0)), (1, .int k1), (2, .int y1), (3, .int what), (5, .long (((m_pa g what k) + ((g.1 12 k).toInt64)) + 1)), (7, .int (nI (k + 1)))]) rfl ?_
                  refine zw_as (lv' := [(0, .ref (am 0)), (1, .int k1), (2, .int y1), (3, .int what), (5, .long (m_pa g what (k + 1))), (7, .int (nI (k + 1)))]) (by rw [e1]) rfl rfl ?_
                  exact ih (k + 1) (by omega)
            · skip
              obtain ⟨v, hv, ev⟩ := zw_w4 c_10
              refine zw_lload (x := (m_pa g what k) + ((g.1 12 k).toInt64)) E 0 dX3_parish_97 rfl (pc' := 99) rfl ?_
              refine zw_aload_n (i := 0) (x := am 0) E 1 dX3_parish_99 rfl rfl (pc' := 100) rfl ?_
              refine zw_get (v := .ref (am 16)) E 0 17 iX3_parish_X3 fX3_parish_56 rfl rfl (by decide) rfl rfl dX3_parish_100 (pc' := 103) rfl ?_
              refine zw_iconst (v := 3) E dX3_parish_103 (by decide) (pc' := 104) rfl ?_
              refine zw_iload (x := nI k) E 5 dX3_parish_104 rfl (pc' := 106) rfl ?_
              refine zw_imul E dX3_parish_106 (pc' := 107) rfl ?_
              refine zw_topi (x' := nI (3 * k)) (pk_mul 3 k) ?_
              refine zw_iload_n (i := 3) (x := what) E 4 dX3_parish_107 rfl rfl (pc' := 108) rfl ?_
              refine zw_iadd E dX3_parish_108 (pc' := 109) rfl ?_
              refine zw_topi (x' := nI (3 * k + v)) (by rw [ev]; exact nI_add (3 * k) v) ?_
              refine zw_iconst (v := 2) E dX3_parish_109 (by decide) (pc' := 110) rfl ?_
              refine zw_isub E dX3_parish_110 (pc' := 111) rfl ?_
              refine zw_topi (x' := nI (3 * k + v - 2)) (zw_c4 hv) ?_
              refine zw_iald (j := 3 * k + v - 2) (x := g.1 15 (3 * k + v - 2)) E 16 0 rfl rfl (vp_in_nI (show 3 * k + v - 2 < 180 by omega) (by decide)) (zw_clamp (show 3 * k + v - 2 < 180 by omega) (by decide)) rfl dX3_parish_111 (pc' := 112) rfl ?_
              refine zw_i2l E dX3_parish_112 (pc' := 113) rfl ?_
              refine zw_ladd E dX3_parish_113 (pc' := 114) rfl ?_
              refine zw_lstore (lv' := [(5, .long (((m_pa g what k) + ((g.1 12 k).toInt64)) + ((g.1 15 (3 * k + v - 2)).toInt64))), (0, .ref (am 0)), (1, .int k1), (2, .int y1), (3, .int what), (7, .int (nI k))]) E dX3_parish_114 (by decide) rfl (pc' := 116) rfl ?_
              refine zw_iload_n (i := 3) (x := what) E 4 dX3_parish_116 rfl rfl (pc' := 117) rfl ?_
              refine zw_iconst (v := 5) E dX3_parish_117 (by decide) (pc' := 118) rfl ?_
              refine zw_icmp_ne (tgt := 141) E dX3_parish_118 (by decide) (pc' := 121) rfl (fun c_13 => ?_) (fun c_13 => ?_)
              · skip
                refine zw_iinc (x := nI k) (v := nI (k + 1)) (lv' := [(7, .int (nI (k + 1))), (5, .long (((m_pa g what k) + ((g.1 12 k).toInt64)) + ((g.1 15 (3 * k + v - 2)).toInt64))), (0, .ref (am 0)), (1, .int k1), (2, .int y1), (3, .int what)]) E 5 dX3_parish_141 rfl (zw_inc1 k) (by decide) rfl (pc' := 144) rfl ?_
                refine zw_goto (tgt := 38) E dX3_parish_144 (by decide) ?_
                have e1 : m_pa g what (k + 1) = ((m_pa g what k) + ((g.1 12 k).toInt64)) + ((g.1 15 (3 * k + v - 2)).toInt64) := by rw [m_pa, if_neg c_2, m_pt, show what.toNatClampNeg = v by rw [ev]; exact nI_clamp (by omega), if_neg c_3, if_pos c_4, if_pos c_10, if_neg c_13]
                refine zw_sub [2, 3, 4, 5, 1, 0] (lv' := [(0, .ref (am 0)), (1, .int k1), (2, .int y1), (3, .int what), (5, .long (((m_pa g what k) + ((g.1 12 k).toInt64)) + ((g.1 15 (3 * k + v - 2)).toInt64))), (7, .int (nI (k + 1)))]) rfl ?_
                refine zw_as (lv' := [(0, .ref (am 0)), (1, .int k1), (2, .int y1), (3, .int what), (5, .long (m_pa g what (k + 1))), (7, .int (nI (k + 1)))]) (by rw [e1]) rfl rfl ?_
                exact ih (k + 1) (by omega)
              · skip
                refine zw_lload (x := ((m_pa g what k) + ((g.1 12 k).toInt64)) + ((g.1 15 (3 * k + v - 2)).toInt64)) E 0 dX3_parish_121 rfl (pc' := 123) rfl ?_
                refine zw_aload_n (i := 0) (x := am 0) E 1 dX3_parish_123 rfl rfl (pc' := 124) rfl ?_
                refine zw_get (v := .ref (am 17)) E 0 18 iX3_parish_X3 fX3_parish_59 rfl rfl (by decide) rfl rfl dX3_parish_124 (pc' := 127) rfl ?_
                refine zw_iload (x := nI k) E 5 dX3_parish_127 rfl (pc' := 129) rfl ?_
                refine zw_zald (j := k) (x := g.1 16 k) E 17 1 rfl rfl (vp_in_nI hk (by decide)) (zw_clamp hk (by decide)) rfl dX3_parish_129 (pc' := 130) rfl ?_
                refine zw_if_eq (tgt := 137) E dX3_parish_130 (by decide) (pc' := 133) rfl (fun c_14 => ?_) (fun c_14 => ?_)
                · skip
                  refine zw_lconst (v := 0) E dX3_parish_137 (by decide) (pc' := 138) rfl ?_
                  refine zw_ladd E dX3_parish_138 (pc' := 139) rfl ?_
                  refine zw_lstore (lv' := [(5, .long ((((m_pa g what k) + ((g.1 12 k).toInt64)) + ((g.1 15 (3 * k + v - 2)).toInt64)) + 0)), (0, .ref (am 0)), (1, .int k1), (2, .int y1), (3, .int what), (7, .int (nI k))]) E dX3_parish_139 (by decide) rfl (pc' := 141) rfl ?_
                  refine zw_iinc (x := nI k) (v := nI (k + 1)) (lv' := [(7, .int (nI (k + 1))), (5, .long ((((m_pa g what k) + ((g.1 12 k).toInt64)) + ((g.1 15 (3 * k + v - 2)).toInt64)) + 0)), (0, .ref (am 0)), (1, .int k1), (2, .int y1), (3, .int what)]) E 5 dX3_parish_141 rfl (zw_inc1 k) (by decide) rfl (pc' := 144) rfl ?_
                  refine zw_goto (tgt := 38) E dX3_parish_144 (by decide) ?_
                  have e1 : m_pa g what (k + 1) = (((m_pa g what k) + ((g.1 12 k).toInt64)) + ((g.1 15 (3 * k + v - 2)).toInt64)) + 0 := by rw [m_pa, if_neg c_2, m_pt, show what.toNatClampNeg = v by rw [ev]; exact nI_clamp (by omega), if_neg c_3, if_pos c_4, if_pos c_10, if_pos c_13, if_pos c_14]
                  refine zw_sub [2, 3, 4, 5, 1, 0] (lv' := [(0, .ref (am 0)), (1, .int k1), (2, .int y1), (3, .int what), (5, .long ((((m_pa g what k) + ((g.1 12 k).toInt64)) + ((g.1 15 (3 * k + v - 2)).toInt64)) + 0)), (7, .int (nI (k + 1)))]) rfl ?_
                  refine zw_as (lv' := [(0, .ref (am 0)), (1, .int k1), (2, .int y1), (3, .int what), (5, .long (m_pa g what (k + 1))), (7, .int (nI (k + 1)))]) (by rw [e1]) rfl rfl ?_
                  exact ih (k + 1) (by omega)
                · skip
                  refine zw_lconst (v := 1) E dX3_parish_133 (by decide) (pc' := 134) rfl ?_
                  refine zw_goto (tgt := 138) E dX3_parish_134 (by decide) ?_
                  refine zw_ladd E dX3_parish_138 (pc' := 139) rfl ?_
                  refine zw_lstore (lv' := [(5, .long ((((m_pa g what k) + ((g.1 12 k).toInt64)) + ((g.1 15 (3 * k + v - 2)).toInt64)) + 1)), (0, .ref (am 0)), (1, .int k1), (2, .int y1), (3, .int what), (7, .int (nI k))]) E dX3_parish_139 (by decide) rfl (pc' := 141) rfl ?_
                  refine zw_iinc (x := nI k) (v := nI (k + 1)) (lv' := [(7, .int (nI (k + 1))), (5, .long ((((m_pa g what k) + ((g.1 12 k).toInt64)) + ((g.1 15 (3 * k + v - 2)).toInt64)) + 1)), (0, .ref (am 0)), (1, .int k1), (2, .int y1), (3, .int what)]) E 5 dX3_parish_141 rfl (zw_inc1 k) (by decide) rfl (pc' := 144) rfl ?_
                  refine zw_goto (tgt := 38) E dX3_parish_144 (by decide) ?_
                  have e1 : m_pa g what (k + 1) = (((m_pa g what k) + ((g.1 12 k).toInt64)) + ((g.1 15 (3 * k + v - 2)).toInt64)) + 1 := by rw [m_pa, if_neg c_2, m_pt, show what.toNatClampNeg = v by rw [ev]; exact nI_clamp (by omega), if_neg c_3, if_pos c_4, if_pos c_10, if_pos c_13, if_neg c_14]
                  refine zw_sub [2, 3, 4, 5, 1, 0] (lv' := [(0, .ref (am 0)), (1, .int k1), (2, .int y1), (3, .int what), (5, .long ((((m_pa g what k) + ((g.1 12 k).toInt64)) + ((g.1 15 (3 * k + v - 2)).toInt64)) + 1)), (7, .int (nI (k + 1)))]) rfl ?_
                  refine zw_as (lv' := [(0, .ref (am 0)), (1, .int k1), (2, .int y1), (3, .int what), (5, .long (m_pa g what (k + 1))), (7, .int (nI (k + 1)))]) (by rw [e1]) rfl rfl ?_
                  exact ih (k + 1) (by omega)
        · skip
          refine zw_lload (x := m_pa g what k) E 4 dX3_parish_64 rfl (pc' := 66) rfl ?_
          refine zw_lconst (v := 1) E dX3_parish_66 (by decide) (pc' := 67) rfl ?_
          refine zw_ladd E dX3_parish_67 (pc' := 68) rfl ?_
          refine zw_lstore (lv' := [(5, .long ((m_pa g what k) + 1)), (0, .ref (am 0)), (1, .int k1), (2, .int y1), (3, .int what), (7, .int (nI k))]) E dX3_parish_68 (by decide) rfl (pc' := 70) rfl ?_
          refine zw_iload_n (i := 3) (x := what) E 4 dX3_parish_70 rfl rfl (pc' := 71) rfl ?_
          refine zw_iconst (v := 1) E dX3_parish_71 (by decide) (pc' := 72) rfl ?_
          refine zw_icmp_ne (tgt := 88) E dX3_parish_72 (by decide) (pc' := 75) rfl (fun c_15 => ?_) (fun c_15 => ?_)
          · skip
            refine zw_iload_n (i := 3) (x := what) E 4 dX3_parish_88 rfl rfl (pc' := 89) rfl ?_
            refine zw_iconst (v := 2) E dX3_parish_89 (by decide) (pc' := 90) rfl ?_
            refine zw_iconst (v := 4) E dX3_parish_90 (by decide) (pc' := 91) rfl ?_
            refine zw_callIs E (r := zb (2 ≤ what ∧ what ≤ 4)) (As := [.int what, .int 2, .int 4]) (rest := []) (ws' := (md_W K am g)) (qX3_lies l D K what 2 4) (va_cwS 3 E.2.2.2.2.1 gX3_parish_X3_lies rfl rfl rfl (by decide +kernel) ⟨Nat.le_of_ble_eq_true rfl, Nat.le_of_ble_eq_true rfl⟩) [] (by decide) rfl rfl (zw_put_same _ _ _ rfl) rfl rfl (Nat.le_of_ble_eq_true rfl) ⟨Nat.zero_le _, Nat.zero_le _⟩ dX3_parish_91 (pc' := 94) rfl ?_
            refine zw_ifb_eq (tgt := 116) E dX3_parish_94 (by decide) (pc' := 97) rfl (fun c_16 => ?_) (fun c_16 => ?_)
            · skip
              refine zw_iload_n (i := 3) (x := what) E 4 dX3_parish_116 rfl rfl (pc' := 117) rfl ?_
              refine zw_iconst (v := 5) E dX3_parish_117 (by decide) (pc' := 118) rfl ?_
              refine zw_icmp_ne (tgt := 141) E dX3_parish_118 (by decide) (pc' := 121) rfl (fun c_17 => ?_) (fun c_17 => ?_)
              · skip
                refine zw_iinc (x := nI k) (v := nI (k + 1)) (lv' := [(7, .int (nI (k + 1))), (5, .long ((m_pa g what k) + 1)), (0, .ref (am 0)), (1, .int k1), (2, .int y1), (3, .int what)]) E 5 dX3_parish_141 rfl (zw_inc1 k) (by decide) rfl (pc' := 144) rfl ?_
                refine zw_goto (tgt := 38) E dX3_parish_144 (by decide) ?_
                have e1 : m_pa g what (k + 1) = (m_pa g what k) + 1 := by rw [m_pa, if_neg c_2, m_pt, if_pos c_3, if_neg c_15, if_neg c_16, if_neg c_17]
                refine zw_sub [2, 3, 4, 5, 1, 0] (lv' := [(0, .ref (am 0)), (1, .int k1), (2, .int y1), (3, .int what), (5, .long ((m_pa g what k) + 1)), (7, .int (nI (k + 1)))]) rfl ?_
                refine zw_as (lv' := [(0, .ref (am 0)), (1, .int k1), (2, .int y1), (3, .int what), (5, .long (m_pa g what (k + 1))), (7, .int (nI (k + 1)))]) (by rw [e1]) rfl rfl ?_
                exact ih (k + 1) (by omega)
              · skip
                refine zw_lload (x := (m_pa g what k) + 1) E 0 dX3_parish_121 rfl (pc' := 123) rfl ?_
                refine zw_aload_n (i := 0) (x := am 0) E 1 dX3_parish_123 rfl rfl (pc' := 124) rfl ?_
                refine zw_get (v := .ref (am 17)) E 0 18 iX3_parish_X3 fX3_parish_59 rfl rfl (by decide) rfl rfl dX3_parish_124 (pc' := 127) rfl ?_
                refine zw_iload (x := nI k) E 5 dX3_parish_127 rfl (pc' := 129) rfl ?_
                refine zw_zald (j := k) (x := g.1 16 k) E 17 1 rfl rfl (vp_in_nI hk (by decide)) (zw_clamp hk (by decide)) rfl dX3_parish_129 (pc' := 130) rfl ?_
                refine zw_if_eq (tgt := 137) E dX3_parish_130 (by decide) (pc' := 133) rfl (fun c_18 => ?_) (fun c_18 => ?_)
                · skip
                  refine zw_lconst (v := 0) E dX3_parish_137 (by decide) (pc' := 138) rfl ?_
                  refine zw_ladd E dX3_parish_138 (pc' := 139) rfl ?_
                  refine zw_lstore (lv' := [(5, .long (((m_pa g what k) + 1) + 0)), (0, .ref (am 0)), (1, .int k1), (2, .int y1), (3, .int what), (7, .int (nI k))]) E dX3_parish_139 (by decide) rfl (pc' := 141) rfl ?_
                  refine zw_iinc (x := nI k) (v := nI (k + 1)) (lv' := [(7, .int (nI (k + 1))), (5, .long (((m_pa g what k) + 1) + 0)), (0, .ref (am 0)), (1, .int k1), (2, .int y1), (3, .int what)]) E 5 dX3_parish_141 rfl (zw_inc1 k) (by decide) rfl (pc' := 144) rfl ?_
                  refine zw_goto (tgt := 38) E dX3_parish_144 (by decide) ?_
                  have e1 : m_pa g what (k + 1) = ((m_pa g what k) + 1) + 0 := by rw [m_pa, if_neg c_2, m_pt, if_pos c_3, if_neg c_15, if_neg c_16, if_pos c_17, if_pos c_18]
                  refine zw_sub [2, 3, 4, 5, 1, 0] (lv' := [(0, .ref (am 0)), (1, .int k1), (2, .int y1), (3, .int what), (5, .long (((m_pa g what k) + 1) + 0)), (7, .int (nI (k + 1)))]) rfl ?_
                  refine zw_as (lv' := [(0, .ref (am 0)), (1, .int k1), (2, .int y1), (3, .int what), (5, .long (m_pa g what (k + 1))), (7, .int (nI (k + 1)))]) (by rw [e1]) rfl rfl ?_
                  exact ih (k + 1) (by omega)
                · skip
                  refine zw_lconst (v := 1) E dX3_parish_133 (by decide) (pc' := 134) rfl ?_
                  refine zw_goto (tgt := 138) E dX3_parish_134 (by decide) ?_
                  refine zw_ladd E dX3_parish_138 (pc' := 139) rfl ?_
                  refine zw_lstore (lv' := [(5, .long (((m_pa g what k) + 1) + 1)), (0, .ref (am 0)), (1, .int k1), (2, .int y1), (3, .int what), (7, .int (nI k))]) E dX3_parish_139 (by decide) rfl (pc' := 141) rfl ?_
                  refine zw_iinc (x := nI k) (v := nI (k + 1)) (lv' := [(7, .int (nI (k + 1))), (5, .long (((m_pa g what k) + 1) + 1)), (0, .ref (am 0)), (1, .int k1), (2, .int y1), (3, .int what)]) E 5 dX3_parish_141 rfl (zw_inc1 k) (by decide) rfl (pc' := 144) rfl ?_
                  refine zw_goto (tgt := 38) E dX3_parish_144 (by decide) ?_
                  have e1 : m_pa g what (k + 1) = ((m_pa g what k) + 1) + 1 := by rw [m_pa, if_neg c_2, m_pt, if_pos c_3, if_neg c_15, if_neg c_16, if_pos c_17, if_neg c_18]
                  refine zw_sub [2, 3, 4, 5, 1, 0] (lv' := [(0, .ref (am 0)), (1, .int k1), (2, .int y1), (3, .int what), (5, .long (((m_pa g what k) + 1) + 1)), (7, .int (nI (k + 1)))]) rfl ?_
                  refine zw_as (lv' := [(0, .ref (am 0)), (1, .int k1), (2, .int y1), (3, .int what), (5, .long (m_pa g what (k + 1))), (7, .int (nI (k + 1)))]) (by rw [e1]) rfl rfl ?_
                  exact ih (k + 1) (by omega)
            · skip
              obtain ⟨v, hv, ev⟩ := zw_w4 c_16
              refine zw_lload (x := (m_pa g what k) + 1) E 0 dX3_parish_97 rfl (pc' := 99) rfl ?_
              refine zw_aload_n (i := 0) (x := am 0) E 1 dX3_parish_99 rfl rfl (pc' := 100) rfl ?_
              refine zw_get (v := .ref (am 16)) E 0 17 iX3_parish_X3 fX3_parish_56 rfl rfl (by decide) rfl rfl dX3_parish_100 (pc' := 103) rfl ?_
              refine zw_iconst (v := 3) E dX3_parish_103 (by decide) (pc' := 104) rfl ?_
              refine zw_iload (x := nI k) E 5 dX3_parish_104 rfl (pc' := 106) rfl ?_
              refine zw_imul E dX3_parish_106 (pc' := 107) rfl ?_
              refine zw_topi (x' := nI (3 * k)) (pk_mul 3 k) ?_
              refine zw_iload_n (i := 3) (x := what) E 4 dX3_parish_107 rfl rfl (pc' := 108) rfl ?_
              refine zw_iadd E dX3_parish_108 (pc' := 109) rfl ?_
              refine zw_topi (x' := nI (3 * k + v)) (by rw [ev]; exact nI_add (3 * k) v) ?_
              refine zw_iconst (v := 2) E dX3_parish_109 (by decide) (pc' := 110) rfl ?_
              refine zw_isub E dX3_parish_110 (pc' := 111) rfl ?_
              refine zw_topi (x' := nI (3 * k + v - 2)) (zw_c4 hv) ?_
              refine zw_iald (j := 3 * k + v - 2) (x := g.1 15 (3 * k + v - 2)) E 16 0 rfl rfl (vp_in_nI (show 3 * k + v - 2 < 180 by omega) (by decide)) (zw_clamp (show 3 * k + v - 2 < 180 by omega) (by decide)) rfl dX3_parish_111 (pc' := 112) rfl ?_
              refine zw_i2l E dX3_parish_112 (pc' := 113) rfl ?_
              refine zw_ladd E dX3_parish_113 (pc' := 114) rfl ?_
              refine zw_lstore (lv' := [(5, .long (((m_pa g what k) + 1) + ((g.1 15 (3 * k + v - 2)).toInt64))), (0, .ref (am 0)), (1, .int k1), (2, .int y1), (3, .int what), (7, .int (nI k))]) E dX3_parish_114 (by decide) rfl (pc' := 116) rfl ?_
              refine zw_iload_n (i := 3) (x := what) E 4 dX3_parish_116 rfl rfl (pc' := 117) rfl ?_
              refine zw_iconst (v := 5) E dX3_parish_117 (by decide) (pc' := 118) rfl ?_
              refine zw_icmp_ne (tgt := 141) E dX3_parish_118 (by decide) (pc' := 121) rfl (fun c_19 => ?_) (fun c_19 => ?_)
              · skip
                refine zw_iinc (x := nI k) (v := nI (k + 1)) (lv' := [(7, .int (nI (k + 1))), (5, .long (((m_pa g what k) + 1) + ((g.1 15 (3 * k + v - 2)).toInt64))), (0, .ref (am 0)), (1, .int k1), (2, .int y1), (3, .int what)]) E 5 dX3_parish_141 rfl (zw_inc1 k) (by decide) rfl (pc' := 144) rfl ?_
                refine zw_goto (tgt := 38) E dX3_parish_144 (by decide) ?_
                have e1 : m_pa g what (k + 1) = ((m_pa g what k) + 1) + ((g.1 15 (3 * k + v - 2)).toInt64) := by rw [m_pa, if_neg c_2, m_pt, show what.toNatClampNeg = v by rw [ev]; exact nI_clamp (by omega), if_pos c_3, if_neg c_15, if_pos c_16, if_neg c_19]
                refine zw_sub [2, 3, 4, 5, 1, 0] (lv' := [(0, .ref (am 0)), (1, .int k1), (2, .int y1), (3, .int what), (5, .long (((m_pa g what k) + 1) + ((g.1 15 (3 * k + v - 2)).toInt64))), (7, .int (nI (k + 1)))]) rfl ?_
                refine zw_as (lv' := [(0, .ref (am 0)), (1, .int k1), (2, .int y1), (3, .int what), (5, .long (m_pa g what (k + 1))), (7, .int (nI (k + 1)))]) (by rw [e1]) rfl rfl ?_
                exact ih (k + 1) (by omega)
              · skip
                refine zw_lload (x := ((m_pa g what k) + 1) + ((g.1 15 (3 * k + v - 2)).toInt64)) E 0 dX3_parish_121 rfl (pc' := 123) rfl ?_
                refine zw_aload_n (i := 0) (x := am 0) E 1 dX3_parish_123 rfl rfl (pc' := 124) rfl ?_
                refine zw_get (v := .ref (am 17)) E 0 18 iX3_parish_X3 fX3_parish_59 rfl rfl (by decide) rfl rfl dX3_parish_124 (pc' := 127) rfl ?_
                refine zw_iload (x := nI k) E 5 dX3_parish_127 rfl (pc' := 129) rfl ?_
                refine zw_zald (j := k) (x := g.1 16 k) E 17 1 rfl rfl (vp_in_nI hk (by decide)) (zw_clamp hk (by decide)) rfl dX3_parish_129 (pc' := 130) rfl ?_
                refine zw_if_eq (tgt := 137) E dX3_parish_130 (by decide) (pc' := 133) rfl (fun c_20 => ?_) (fun c_20 => ?_)
                · skip
                  refine zw_lconst (v := 0) E dX3_parish_137 (by decide) (pc' := 138) rfl ?_
                  refine zw_ladd E dX3_parish_138 (pc' := 139) rfl ?_
                  refine zw_lstore (lv' := [(5, .long ((((m_pa g what k) + 1) + ((g.1 15 (3 * k + v - 2)).toInt64)) + 0)), (0, .ref (am 0)), (1, .int k1), (2, .int y1), (3, .int what), (7, .int (nI k))]) E dX3_parish_139 (by decide) rfl (pc' := 141) rfl ?_
                  refine zw_iinc (x := nI k) (v := nI (k + 1)) (lv' := [(7, .int (nI (k + 1))), (5, .long ((((m_pa g what k) + 1) + ((g.1 15 (3 * k + v - 2)).toInt64)) + 0)), (0, .ref (am 0)), (1, .int k1), (2, .int y1), (3, .int what)]) E 5 dX3_parish_141 rfl (zw_inc1 k) (by decide) rfl (pc' := 144) rfl ?_
                  refine zw_goto (tgt := 38) E dX3_parish_144 (by decide) ?_
                  have e1 : m_pa g what (k + 1) = (((m_pa g what k) + 1) + ((g.1 15 (3 * k + v - 2)).toInt64)) + 0 := by rw [m_pa, if_neg c_2, m_pt, show what.toNatClampNeg = v by rw [ev]; exact nI_clamp (by omega), if_pos c_3, if_neg c_15, if_pos c_16, if_pos c_19, if_pos c_20]
                  refine zw_sub [2, 3, 4, 5, 1, 0] (lv' := [(0, .ref (am 0)), (1, .int k1), (2, .int y1), (3, .int what), (5, .long ((((m_pa g what k) + 1) + ((g.1 15 (3 * k + v - 2)).toInt64)) + 0)), (7, .int (nI (k + 1)))]) rfl ?_
                  refine zw_as (lv' := [(0, .ref (am 0)), (1, .int k1), (2, .int y1), (3, .int what), (5, .long (m_pa g what (k + 1))), (7, .int (nI (k + 1)))]) (by rw [e1]) rfl rfl ?_
                  exact ih (k + 1) (by omega)
                · skip
                  refine zw_lconst (v := 1) E dX3_parish_133 (by decide) (pc' := 134) rfl ?_
                  refine zw_goto (tgt := 138) E dX3_parish_134 (by decide) ?_
                  refine zw_ladd E dX3_parish_138 (pc' := 139) rfl ?_
                  refine zw_lstore (lv' := [(5, .long ((((m_pa g what k) + 1) + ((g.1 15 (3 * k + v - 2)).toInt64)) + 1)), (0, .ref (am 0)), (1, .int k1), (2, .int y1), (3, .int what), (7, .int (nI k))]) E dX3_parish_139 (by decide) rfl (pc' := 141) rfl ?_
                  refine zw_iinc (x := nI k) (v := nI (k + 1)) (lv' := [(7, .int (nI (k + 1))), (5, .long ((((m_pa g what k) + 1) + ((g.1 15 (3 * k + v - 2)).toInt64)) + 1)), (0, .ref (am 0)), (1, .int k1), (2, .int y1), (3, .int what)]) E 5 dX3_parish_141 rfl (zw_inc1 k) (by decide) rfl (pc' := 144) rfl ?_
                  refine zw_goto (tgt := 38) E dX3_parish_144 (by decide) ?_
                  have e1 : m_pa g what (k + 1) = (((m_pa g what k) + 1) + ((g.1 15 (3 * k + v - 2)).toInt64)) + 1 := by rw [m_pa, if_neg c_2, m_pt, show what.toNatClampNeg = v by rw [ev]; exact nI_clamp (by omega), if_pos c_3, if_neg c_15, if_pos c_16, if_pos c_19, if_neg c_20]
                  refine zw_sub [2, 3, 4, 5, 1, 0] (lv' := [(0, .ref (am 0)), (1, .int k1), (2, .int y1), (3, .int what), (5, .long ((((m_pa g what k) + 1) + ((g.1 15 (3 * k + v - 2)).toInt64)) + 1)), (7, .int (nI (k + 1)))]) rfl ?_
                  refine zw_as (lv' := [(0, .ref (am 0)), (1, .int k1), (2, .int y1), (3, .int what), (5, .long (m_pa g what (k + 1))), (7, .int (nI (k + 1)))]) (by rw [e1]) rfl rfl ?_
                  exact ih (k + 1) (by omega)
          · skip
            refine zw_lload (x := (m_pa g what k) + 1) E 0 dX3_parish_75 rfl (pc' := 77) rfl ?_
            refine zw_aload_n (i := 0) (x := am 0) E 1 dX3_parish_77 rfl rfl (pc' := 78) rfl ?_
            refine zw_get (v := .ref (am 13)) E 0 14 iX3_parish_X3 fX3_parish_47 rfl rfl (by decide) rfl rfl dX3_parish_78 (pc' := 81) rfl ?_
            refine zw_iload (x := nI k) E 5 dX3_parish_81 rfl (pc' := 83) rfl ?_
            refine zw_iald (j := k) (x := g.1 12 k) E 13 0 rfl rfl (vp_in_nI hk (by decide)) (zw_clamp hk (by decide)) rfl dX3_parish_83 (pc' := 84) rfl ?_
            refine zw_i2l E dX3_parish_84 (pc' := 85) rfl ?_
            refine zw_ladd E dX3_parish_85 (pc' := 86) rfl ?_
            refine zw_lstore (lv' := [(5, .long (((m_pa g what k) + 1) + ((g.1 12 k).toInt64))), (0, .ref (am 0)), (1, .int k1), (2, .int y1), (3, .int what), (7, .int (nI k))]) E dX3_parish_86 (by decide) rfl (pc' := 88) rfl ?_
            refine zw_iload_n (i := 3) (x := what) E 4 dX3_parish_88 rfl rfl (pc' := 89) rfl ?_
            refine zw_iconst (v := 2) E dX3_parish_89 (by decide) (pc' := 90) rfl ?_
            refine zw_iconst (v := 4) E dX3_parish_90 (by decide) (pc' := 91) rfl ?_
            refine zw_callIs E (r := zb (2 ≤ what ∧ what ≤ 4)) (As := [.int what, .int 2, .int 4]) (rest := []) (ws' := (md_W K am g)) (qX3_lies l D K what 2 4) (va_cwS 3 E.2.2.2.2.1 gX3_parish_X3_lies rfl rfl rfl (by decide +kernel) ⟨Nat.le_of_ble_eq_true rfl, Nat.le_of_ble_eq_true rfl⟩) [] (by decide) rfl rfl (zw_put_same _ _ _ rfl) rfl rfl (Nat.le_of_ble_eq_true rfl) ⟨Nat.zero_le _, Nat.zero_le _⟩ dX3_parish_91 (pc' := 94) rfl ?_
            refine zw_ifb_eq (tgt := 116) E dX3_parish_94 (by decide) (pc' := 97) rfl (fun c_21 => ?_) (fun c_21 => ?_)
            · skip
              refine zw_iload_n (i := 3) (x := what) E 4 dX3_parish_116 rfl rfl (pc' := 117) rfl ?_
              refine zw_iconst (v := 5) E dX3_parish_117 (by decide) (pc' := 118) rfl ?_
              refine zw_icmp_ne (tgt := 141) E dX3_parish_118 (by decide) (pc' := 121) rfl (fun c_22 => ?_) (fun c_22 => ?_)
              · skip
                refine zw_iinc (x := nI k) (v := nI (k + 1)) (lv' := [(7, .int (nI (k + 1))), (5, .long (((m_pa g what k) + 1) + ((g.1 12 k).toInt64))), (0, .ref (am 0)), (1, .int k1), (2, .int y1), (3, .int what)]) E 5 dX3_parish_141 rfl (zw_inc1 k) (by decide) rfl (pc' := 144) rfl ?_
                refine zw_goto (tgt := 38) E dX3_parish_144 (by decide) ?_
                have e1 : m_pa g what (k + 1) = ((m_pa g what k) + 1) + ((g.1 12 k).toInt64) := by rw [m_pa, if_neg c_2, m_pt, if_pos c_3, if_pos c_15, if_neg c_21, if_neg c_22]
                refine zw_sub [2, 3, 4, 5, 1, 0] (lv' := [(0, .ref (am 0)), (1, .int k1), (2, .int y1), (3, .int what), (5, .long (((m_pa g what k) + 1) + ((g.1 12 k).toInt64))), (7, .int (nI (k + 1)))]) rfl ?_
                refine zw_as (lv' := [(0, .ref (am 0)), (1, .int k1), (2, .int y1), (3, .int what), (5, .long (m_pa g what (k + 1))), (7, .int (nI (k + 1)))]) (by rw [e1]) rfl rfl ?_
                exact ih (k + 1) (by omega)
              · skip
                refine zw_lload (x := ((m_pa g what k) + 1) + ((g.1 12 k).toInt64)) E 0 dX3_parish_121 rfl (pc' := 123) rfl ?_
                refine zw_aload_n (i := 0) (x := am 0) E 1 dX3_parish_123 rfl rfl (pc' := 124) rfl ?_
                refine zw_get (v := .ref (am 17)) E 0 18 iX3_parish_X3 fX3_parish_59 rfl rfl (by decide) rfl rfl dX3_parish_124 (pc' := 127) rfl ?_
                refine zw_iload (x := nI k) E 5 dX3_parish_127 rfl (pc' := 129) rfl ?_
                refine zw_zald (j := k) (x := g.1 16 k) E 17 1 rfl rfl (vp_in_nI hk (by decide)) (zw_clamp hk (by decide)) rfl dX3_parish_129 (pc' := 130) rfl ?_
                refine zw_if_eq (tgt := 137) E dX3_parish_130 (by decide) (pc' := 133) rfl (fun c_23 => ?_) (fun c_23 => ?_)
                · skip
                  refine zw_lconst (v := 0) E dX3_parish_137 (by decide) (pc' := 138) rfl ?_
                  refine zw_ladd E dX3_parish_138 (pc' := 139) rfl ?_
                  refine zw_lstore (lv' := [(5, .long ((((m_pa g what k) + 1) + ((g.1 12 k).toInt64)) + 0)), (0, .ref (am 0)), (1, .int k1), (2, .int y1), (3, .int what), (7, .int (nI k))]) E dX3_parish_139 (by decide) rfl (pc' := 141) rfl ?_
                  refine zw_iinc (x := nI k) (v := nI (k + 1)) (lv' := [(7, .int (nI (k + 1))), (5, .long ((((m_pa g what k) + 1) + ((g.1 12 k).toInt64)) + 0)), (0, .ref (am 0)), (1, .int k1), (2, .int y1), (3, .int what)]) E 5 dX3_parish_141 rfl (zw_inc1 k) (by decide) rfl (pc' := 144) rfl ?_
                  refine zw_goto (tgt := 38) E dX3_parish_144 (by decide) ?_
                  have e1 : m_pa g what (k + 1) = (((m_pa g what k) + 1) + ((g.1 12 k).toInt64)) + 0 := by rw [m_pa, if_neg c_2, m_pt, if_pos c_3, if_pos c_15, if_neg c_21, if_pos c_22, if_pos c_23]
                  refine zw_sub [2, 3, 4, 5, 1, 0] (lv' := [(0, .ref (am 0)), (1, .int k1), (2, .int y1), (3, .int what), (5, .long ((((m_pa g what k) + 1) + ((g.1 12 k).toInt64)) + 0)), (7, .int (nI (k + 1)))]) rfl ?_
                  refine zw_as (lv' := [(0, .ref (am 0)), (1, .int k1), (2, .int y1), (3, .int what), (5, .long (m_pa g what (k + 1))), (7, .int (nI (k + 1)))]) (by rw [e1]) rfl rfl ?_
                  exact ih (k + 1) (by omega)
                · skip
                  refine zw_lconst (v := 1) E dX3_parish_133 (by decide) (pc' := 134) rfl ?_
                  refine zw_goto (tgt := 138) E dX3_parish_134 (by decide) ?_
                  refine zw_ladd E dX3_parish_138 (pc' := 139) rfl ?_
                  refine zw_lstore (lv' := [(5, .long ((((m_pa g what k) + 1) + ((g.1 12 k).toInt64)) + 1)), (0, .ref (am 0)), (1, .int k1), (2, .int y1), (3, .int what), (7, .int (nI k))]) E dX3_parish_139 (by decide) rfl (pc' := 141) rfl ?_
                  refine zw_iinc (x := nI k) (v := nI (k + 1)) (lv' := [(7, .int (nI (k + 1))), (5, .long ((((m_pa g what k) + 1) + ((g.1 12 k).toInt64)) + 1)), (0, .ref (am 0)), (1, .int k1), (2, .int y1), (3, .int what)]) E 5 dX3_parish_141 rfl (zw_inc1 k) (by decide) rfl (pc' := 144) rfl ?_
                  refine zw_goto (tgt := 38) E dX3_parish_144 (by decide) ?_
                  have e1 : m_pa g what (k + 1) = (((m_pa g what k) + 1) + ((g.1 12 k).toInt64)) + 1 := by rw [m_pa, if_neg c_2, m_pt, if_pos c_3, if_pos c_15, if_neg c_21, if_pos c_22, if_neg c_23]
                  refine zw_sub [2, 3, 4, 5, 1, 0] (lv' := [(0, .ref (am 0)), (1, .int k1), (2, .int y1), (3, .int what), (5, .long ((((m_pa g what k) + 1) + ((g.1 12 k).toInt64)) + 1)), (7, .int (nI (k + 1)))]) rfl ?_
                  refine zw_as (lv' := [(0, .ref (am 0)), (1, .int k1), (2, .int y1), (3, .int what), (5, .long (m_pa g what (k + 1))), (7, .int (nI (k + 1)))]) (by rw [e1]) rfl rfl ?_
                  exact ih (k + 1) (by omega)
            · skip
              obtain ⟨v, hv, ev⟩ := zw_w4 c_21
              refine zw_lload (x := ((m_pa g what k) + 1) + ((g.1 12 k).toInt64)) E 0 dX3_parish_97 rfl (pc' := 99) rfl ?_
              refine zw_aload_n (i := 0) (x := am 0) E 1 dX3_parish_99 rfl rfl (pc' := 100) rfl ?_
              refine zw_get (v := .ref (am 16)) E 0 17 iX3_parish_X3 fX3_parish_56 rfl rfl (by decide) rfl rfl dX3_parish_100 (pc' := 103) rfl ?_
              refine zw_iconst (v := 3) E dX3_parish_103 (by decide) (pc' := 104) rfl ?_
              refine zw_iload (x := nI k) E 5 dX3_parish_104 rfl (pc' := 106) rfl ?_
              refine zw_imul E dX3_parish_106 (pc' := 107) rfl ?_
              refine zw_topi (x' := nI (3 * k)) (pk_mul 3 k) ?_
              refine zw_iload_n (i := 3) (x := what) E 4 dX3_parish_107 rfl rfl (pc' := 108) rfl ?_
              refine zw_iadd E dX3_parish_108 (pc' := 109) rfl ?_
              refine zw_topi (x' := nI (3 * k + v)) (by rw [ev]; exact nI_add (3 * k) v) ?_
              refine zw_iconst (v := 2) E dX3_parish_109 (by decide) (pc' := 110) rfl ?_
              refine zw_isub E dX3_parish_110 (pc' := 111) rfl ?_
              refine zw_topi (x' := nI (3 * k + v - 2)) (zw_c4 hv) ?_
              refine zw_iald (j := 3 * k + v - 2) (x := g.1 15 (3 * k + v - 2)) E 16 0 rfl rfl (vp_in_nI (show 3 * k + v - 2 < 180 by omega) (by decide)) (zw_clamp (show 3 * k + v - 2 < 180 by omega) (by decide)) rfl dX3_parish_111 (pc' := 112) rfl ?_
              refine zw_i2l E dX3_parish_112 (pc' := 113) rfl ?_
              refine zw_ladd E dX3_parish_113 (pc' := 114) rfl ?_
              refine zw_lstore (lv' := [(5, .long ((((m_pa g what k) + 1) + ((g.1 12 k).toInt64)) + ((g.1 15 (3 * k + v - 2)).toInt64))), (0, .ref (am 0)), (1, .int k1), (2, .int y1), (3, .int what), (7, .int (nI k))]) E dX3_parish_114 (by decide) rfl (pc' := 116) rfl ?_
              refine zw_iload_n (i := 3) (x := what) E 4 dX3_parish_116 rfl rfl (pc' := 117) rfl ?_
              refine zw_iconst (v := 5) E dX3_parish_117 (by decide) (pc' := 118) rfl ?_
              refine zw_icmp_ne (tgt := 141) E dX3_parish_118 (by decide) (pc' := 121) rfl (fun c_24 => ?_) (fun c_24 => ?_)
              · skip
                refine zw_iinc (x := nI k) (v := nI (k + 1)) (lv' := [(7, .int (nI (k + 1))), (5, .long ((((m_pa g what k) + 1) + ((g.1 12 k).toInt64)) + ((g.1 15 (3 * k + v - 2)).toInt64))), (0, .ref (am 0)), (1, .int k1), (2, .int y1), (3, .int what)]) E 5 dX3_parish_141 rfl (zw_inc1 k) (by decide) rfl (pc' := 144) rfl ?_
                refine zw_goto (tgt := 38) E dX3_parish_144 (by decide) ?_
                have e1 : m_pa g what (k + 1) = (((m_pa g what k) + 1) + ((g.1 12 k).toInt64)) + ((g.1 15 (3 * k + v - 2)).toInt64) := by rw [m_pa, if_neg c_2, m_pt, show what.toNatClampNeg = v by rw [ev]; exact nI_clamp (by omega), if_pos c_3, if_pos c_15, if_pos c_21, if_neg c_24]
                refine zw_sub [2, 3, 4, 5, 1, 0] (lv' := [(0, .ref (am 0)), (1, .int k1), (2, .int y1), (3, .int what), (5, .long ((((m_pa g what k) + 1) + ((g.1 12 k).toInt64)) + ((g.1 15 (3 * k + v - 2)).toInt64))), (7, .int (nI (k + 1)))]) rfl ?_
                refine zw_as (lv' := [(0, .ref (am 0)), (1, .int k1), (2, .int y1), (3, .int what), (5, .long (m_pa g what (k + 1))), (7, .int (nI (k + 1)))]) (by rw [e1]) rfl rfl ?_
                exact ih (k + 1) (by omega)
              · skip
                refine zw_lload (x := (((m_pa g what k) + 1) + ((g.1 12 k).toInt64)) + ((g.1 15 (3 * k + v - 2)).toInt64)) E 0 dX3_parish_121 rfl (pc' := 123) rfl ?_
                refine zw_aload_n (i := 0) (x := am 0) E 1 dX3_parish_123 rfl rfl (pc' := 124) rfl ?_
                refine zw_get (v := .ref (am 17)) E 0 18 iX3_parish_X3 fX3_parish_59 rfl rfl (by decide) rfl rfl dX3_parish_124 (pc' := 127) rfl ?_
                refine zw_iload (x := nI k) E 5 dX3_parish_127 rfl (pc' := 129) rfl ?_
                refine zw_zald (j := k) (x := g.1 16 k) E 17 1 rfl rfl (vp_in_nI hk (by decide)) (zw_clamp hk (by decide)) rfl dX3_parish_129 (pc' := 130) rfl ?_
                refine zw_if_eq (tgt := 137) E dX3_parish_130 (by decide) (pc' := 133) rfl (fun c_25 => ?_) (fun c_25 => ?_)
                · skip
                  refine zw_lconst (v := 0) E dX3_parish_137 (by decide) (pc' := 138) rfl ?_
                  refine zw_ladd E dX3_parish_138 (pc' := 139) rfl ?_
                  refine zw_lstore (lv' := [(5, .long (((((m_pa g what k) + 1) + ((g.1 12 k).toInt64)) + ((g.1 15 (3 * k + v - 2)).toInt64)) + 0)), (0, .ref (am 0)), (1, .int k1), (2, .int y1), (3, .int what), (7, .int (nI k))]) E dX3_parish_139 (by decide) rfl (pc' := 141) rfl ?_
                  refine zw_iinc (x := nI k) (v := nI (k + 1)) (lv' := [(7, .int (nI (k + 1))), (5, .long (((((m_pa g what k) + 1) + ((g.1 12 k).toInt64)) + ((g.1 15 (3 * k + v - 2)).toInt64)) + 0)), (0, .ref (am 0)), (1, .int k1), (2, .int y1), (3, .int what)]) E 5 dX3_parish_141 rfl (zw_inc1 k) (by decide) rfl (pc' := 144) rfl ?_
                  refine zw_goto (tgt := 38) E dX3_parish_144 (by decide) ?_
                  have e1 : m_pa g what (k + 1) = ((((m_pa g what k) + 1) + ((g.1 12 k).toInt64)) + ((g.1 15 (3 * k + v - 2)).toInt64)) + 0 := by rw [m_pa, if_neg c_2, m_pt, show what.toNatClampNeg = v by rw [ev]; exact nI_clamp (by omega), if_pos c_3, if_pos c_15, if_pos c_21, if_pos c_24, if_pos c_25]
                  refine zw_sub [2, 3, 4, 5, 1, 0] (lv' := [(0, .ref (am 0)), (1, .int k1), (2, .int y1), (3, .int what), (5, .long (((((m_pa g what k) + 1) + ((g.1 12 k).toInt64)) + ((g.1 15 (3 * k + v - 2)).toInt64)) + 0)), (7, .int (nI (k + 1)))]) rfl ?_
                  refine zw_as (lv' := [(0, .ref (am 0)), (1, .int k1), (2, .int y1), (3, .int what), (5, .long (m_pa g what (k + 1))), (7, .int (nI (k + 1)))]) (by rw [e1]) rfl rfl ?_
                  exact ih (k + 1) (by omega)
                · skip
                  refine zw_lconst (v := 1) E dX3_parish_133 (by decide) (pc' := 134) rfl ?_
                  refine zw_goto (tgt := 138) E dX3_parish_134 (by decide) ?_
                  refine zw_ladd E dX3_parish_138 (pc' := 139) rfl ?_
                  refine zw_lstore (lv' := [(5, .long (((((m_pa g what k) + 1) + ((g.1 12 k).toInt64)) + ((g.1 15 (3 * k + v - 2)).toInt64)) + 1)), (0, .ref (am 0)), (1, .int k1), (2, .int y1), (3, .int what), (7, .int (nI k))]) E dX3_parish_139 (by decide) rfl (pc' := 141) rfl ?_
                  refine zw_iinc (x := nI k) (v := nI (k + 1)) (lv' := [(7, .int (nI (k + 1))), (5, .long (((((m_pa g what k) + 1) + ((g.1 12 k).toInt64)) + ((g.1 15 (3 * k + v - 2)).toInt64)) + 1)), (0, .ref (am 0)), (1, .int k1), (2, .int y1), (3, .int what)]) E 5 dX3_parish_141 rfl (zw_inc1 k) (by decide) rfl (pc' := 144) rfl ?_
                  refine zw_goto (tgt := 38) E dX3_parish_144 (by decide) ?_
                  have e1 : m_pa g what (k + 1) = ((((m_pa g what k) + 1) + ((g.1 12 k).toInt64)) + ((g.1 15 (3 * k + v - 2)).toInt64)) + 1 := by rw [m_pa, if_neg c_2, m_pt, show what.toNatClampNeg = v by rw [ev]; exact nI_clamp (by omega), if_pos c_3, if_pos c_15, if_pos c_21, if_pos c_24, if_neg c_25]
                  refine zw_sub [2, 3, 4, 5, 1, 0] (lv' := [(0, .ref (am 0)), (1, .int k1), (2, .int y1), (3, .int what), (5, .long (((((m_pa g what k) + 1) + ((g.1 12 k).toInt64)) + ((g.1 15 (3 * k + v - 2)).toInt64)) + 1)), (7, .int (nI (k + 1)))]) rfl ?_
                  refine zw_as (lv' := [(0, .ref (am 0)), (1, .int k1), (2, .int y1), (3, .int what), (5, .long (m_pa g what (k + 1))), (7, .int (nI (k + 1)))]) (by rw [e1]) rfl rfl ?_
                  exact ih (k + 1) (by omega)
      · skip
        refine zw_goto (tgt := 141) E dX3_parish_57 (by decide) ?_
        refine zw_iinc (x := nI k) (v := nI (k + 1)) (lv' := [(7, .int (nI (k + 1))), (0, .ref (am 0)), (1, .int k1), (2, .int y1), (3, .int what), (5, .long (m_pa g what k))]) E 5 dX3_parish_141 rfl (zw_inc1 k) (by decide) rfl (pc' := 144) rfl ?_
        refine zw_goto (tgt := 38) E dX3_parish_144 (by decide) ?_
        have e1 : m_pa g what (k + 1) = m_pa g what k := by rw [m_pa, if_pos c_2]
        refine zw_sub [1, 2, 3, 4, 5, 0] (lv' := [(0, .ref (am 0)), (1, .int k1), (2, .int y1), (3, .int what), (5, .long (m_pa g what k)), (7, .int (nI (k + 1)))]) rfl ?_
        refine zw_as (lv' := [(0, .ref (am 0)), (1, .int k1), (2, .int y1), (3, .int what), (5, .long (m_pa g what (k + 1))), (7, .int (nI (k + 1)))]) (by rw [e1]) rfl rfl ?_
        exact ih (k + 1) (by omega)

set_option maxHeartbeats 4000000 in
set_option maxRecDepth 100000 in
/-- parish -/
theorem qX3_parish (l : Launch) (D : va_G) (K : Nat → ClassId) (am : Nat → Nat) (g : Md) (k y what : Int32) (hs80 : g.2.2.1 0 ≤ 80) (hf60 : g.2.2.1 1 ≤ 60) (hw : ∀ kn, kn ≤ g.2.2.1 0 → wk_ok g kn) : zw_L l yX3_parish wsX3_parish rmX3_parish D (zT K) [.ref (am 0), .int k, .int y, .int what] (md_W K am g) (m_parish g k y what) (md_W K am (g_parish g k y what)) := by
  refine zw_ofL (cc := cX3_parish) (nL := 8) (ret := (some .long)) (own := RX3) (lv := [(0, .ref (am 0)), (1, .int k), (2, .int y), (3, .int what)]) (by decide) rfl (Nat.le_of_ble_eq_true rfl) rfl rfl ?_
  intro p e s m below meth c A E hr hlk
  refine zw_aload_n (i := 0) (x := am 0) E 0 dX3_parish_0 rfl rfl (pc' := 1) rfl ?_
  refine zw_iload_n (i := 1) (x := k) E 1 dX3_parish_1 rfl rfl (pc' := 2) rfl ?_
  refine zw_callIw E (r := zb (0 ≤ k ∧ k ≤ nI (g.2.2.1 0))) (As := [.int k]) (rest := []) (ws' := (md_W K am g)) (qX3_isKnowing l D K am g k) (cwV 1 E.2.2.2.2.1 gX3_parish_X3_isKnowing rfl rfl rfl (by decide +kernel) ⟨Nat.le_of_ble_eq_true rfl, Nat.le_of_ble_eq_true rfl⟩) 0 rfl rfl rfl rfl rfl rfl (Nat.le_of_ble_eq_true rfl) ⟨Nat.zero_le _, Nat.zero_le _⟩ dX3_parish_2 (pc' := 5) rfl ?_
  refine zw_ifb_eq (tgt := 19) E dX3_parish_5 (by decide) (pc' := 8) rfl (fun c_1 => ?_) (fun c_1 => ?_)
  · skip
    refine zw_ldc2 (v := (-1)) E dX3_parish_19 kX3_parish_104 (pc' := 22) rfl ?_
    exact zw_lret E hr hlk dX3_parish_22 (by unfold m_parish; rw [if_neg c_1]) (congrArg (md_W K am) (by unfold g_parish; rw [if_neg c_1]))
  · skip
    obtain ⟨kn, hkn, ek⟩ := zw_kn hs80 c_1
    have ek2 : k.toNatClampNeg = kn := by rw [ek]; exact nI_clamp (by omega)
    have hkn80 : kn ≤ 80 := Nat.le_trans hkn hs80
    refine zw_iload_n (i := 2) (x := y) E 2 dX3_parish_8 rfl rfl (pc' := 9) rfl ?_
    refine zw_iconst (v := 0) E dX3_parish_9 (by decide) (pc' := 10) rfl ?_
    refine zw_sipush (v := 200) E dX3_parish_10 (by decide) (pc' := 13) rfl ?_
    refine zw_callIs E (r := zb (0 ≤ y ∧ y ≤ 200)) (As := [.int y, .int 0, .int 200]) (rest := []) (ws' := (md_W K am g)) (qX3_lies l D K y 0 200) (va_cwS 3 E.2.2.2.2.1 gX3_parish_X3_lies rfl rfl rfl (by decide +kernel) ⟨Nat.le_of_ble_eq_true rfl, Nat.le_of_ble_eq_true rfl⟩) [] (by decide) rfl rfl (zw_put_same _ _ _ rfl) rfl rfl (Nat.le_of_ble_eq_true rfl) ⟨Nat.zero_le _, Nat.zero_le _⟩ dX3_parish_13 (pc' := 16) rfl ?_
    refine zw_ifb_ne (tgt := 23) E dX3_parish_16 (by decide) (pc' := 19) rfl (fun c_2 => ?_) (fun c_2 => ?_)
    · skip
      obtain ⟨yn, hyn, ey⟩ := zw_y0 c_2
      have ey2 : y.toNatClampNeg = yn := by rw [ey]; exact nI_clamp (by omega)
      refine zw_aload_n (i := 0) (x := am 0) E 0 dX3_parish_23 rfl rfl (pc' := 24) rfl ?_
      refine zw_iload_n (i := 1) (x := k) E 1 dX3_parish_24 rfl rfl (pc' := 25) rfl ?_
      refine zw_topi (x' := nI kn) ek ?_
      refine zw_iload_n (i := 2) (x := y) E 2 dX3_parish_25 rfl rfl (pc' := 26) rfl ?_
      refine zw_topi (x' := nI yn) ey ?_
      refine zw_iconst (v := (-1)) E dX3_parish_26 (by decide) (pc' := 27) rfl ?_
      refine zw_callIw E (r := (g_works g kn yn (-1)).1) (As := [.int (nI kn), .int (nI yn), .int (-1)]) (rest := []) (ws' := (md_W K am ((g_works g kn yn (-1)).2))) (qX3_works l D K am g kn hkn80 yn hyn (-1) (hw kn hkn)) (cwV 3 E.2.2.2.2.1 gX3_parish_X3_works rfl rfl rfl (by decide +kernel) ⟨Nat.le_of_ble_eq_true rfl, Nat.le_of_ble_eq_true rfl⟩) 0 rfl rfl rfl (md_ad _ _ _ _) rfl rfl (Nat.le_of_ble_eq_true rfl) ⟨Nat.zero_le _, Nat.zero_le _⟩ dX3_parish_27 (pc' := 30) rfl ?_
      refine zw_gen_md_g ((g_works g kn yn (-1)).2) (fun gw hgw => ?_)
      have hkp : kept g gw := by rw [← hgw]; exact kept_works _ _ _ _
      have hfw : gw.2.2.1 1 ≤ 60 := by rw [hkp.1]; exact hf60
      refine zw_istore (lv' := [(4, .int ((g_works g kn yn (-1)).1)), (0, .ref (am 0)), (1, .int k), (2, .int y), (3, .int what)]) E dX3_parish_30 (by decide) rfl (pc' := 32) rfl ?_
      refine zw_lconst (v := 0) E dX3_parish_32 (by decide) (pc' := 33) rfl ?_
      refine zw_lstore (lv' := [(5, .long 0), (4, .int ((g_works g kn yn (-1)).1)), (0, .ref (am 0)), (1, .int k), (2, .int y), (3, .int what)]) E dX3_parish_33 (by decide) rfl (pc' := 35) rfl ?_
      refine zw_iconst (v := 0) E dX3_parish_35 (by decide) (pc' := 36) rfl ?_
      refine zw_istore (lv' := [(7, .int 0), (5, .long 0), (4, .int ((g_works g kn yn (-1)).1)), (0, .ref (am 0)), (1, .int k), (2, .int y), (3, .int what)]) E dX3_parish_36 (by decide) rfl (pc' := 38) rfl ?_
      have e1 : m_parish g k y what = m_pl gw what (gw.2.2.1 1) := by unfold m_parish; rw [if_pos c_1, if_pos c_2, ek2, ey2, hgw, show g.2.2.1 1 = gw.2.2.1 1 by rw [hkp.1]]
      have e2 : g_parish g k y what = gw := by unfold g_parish; rw [if_pos c_1, if_pos c_2, ek2, ey2, hgw]
      rw [e1, e2]
      refine zw_sub [3, 4, 5, 6, 1, 0] (lv' := [(0, .ref (am 0)), (1, .int k), (2, .int y), (3, .int what), (5, .long 0), (7, .int 0)]) rfl ?_
      exact lX3_parish E hr hlk am gw hfw k y what (gw.2.2.1 1) 0 (by omega)
    · skip
      refine zw_ldc2 (v := (-1)) E dX3_parish_19 kX3_parish_104 (pc' := 22) rfl ?_
      exact zw_lret E hr hlk dX3_parish_22 (by unfold m_parish; rw [if_pos c_1, if_neg c_2]) (congrArg (md_W K am) (by unfold g_parish; rw [if_pos c_1, if_neg c_2]))
