/-! the reference: look, money, cost, field, owed, parish -/
theorem zw_y0 {y : Int32} (h : 0 ≤ y ∧ y ≤ 200) : ∃ yn, yn ≤ 200 ∧ y = nI yn := nI_of2 (M := 200) (n := 200) rfl (Int32.not_lt.mpr h.1) h.2
theorem zw_y1 {y : Int32} (h : 1 ≤ y ∧ y ≤ 200) : ∃ yn, yn ≤ 200 ∧ y = nI yn := zw_y0 ⟨Int32.le_trans (by decide) h.1, h.2⟩
theorem zw_rk {g g2 : Md} (h : kept g g2) (r i : Nat) (hr : r ≤ 10) : g2.1 r i = g.1 r i := congrFun (h.2 r hr) i
def m_look (g : Md) (k y f what : Int32) : Int32 := if (0 ≤ k ∧ k ≤ nI (g.2.2.1 0)) then if (0 ≤ y ∧ y ≤ 200) then if (0 ≤ f ∧ f ≤ nI (g.2.2.1 1) - 1) then m_tell (g_works g k.toNatClampNeg y.toNatClampNeg (-1)).2 f what else -1 else -1 else -1
def g_look (g : Md) (k y f : Int32) : Md := if (0 ≤ k ∧ k ≤ nI (g.2.2.1 0)) then if (0 ≤ y ∧ y ≤ 200) then if (0 ≤ f ∧ f ≤ nI (g.2.2.1 1) - 1) then (g_works g k.toNatClampNeg y.toNatClampNeg (-1)).2 else g else g else g
set_option maxHeartbeats 4000000 in
set_option maxRecDepth 100000 in
/-- look -/
theorem qX3_look (l : Launch) (D : va_G) (K : Nat → ClassId) (am : Nat → Nat) (g : Md) (k y f what : Int32) (hs80 : g.2.2.1 0 ≤ 80) (hf60 : g.2.2.1 1 ≤ 60) (hw : ∀ kn, kn ≤ g.2.2.1 0 → wk_ok g kn) : zw_I l yX3_look wsX3_look rmX3_look D (zT K) [.ref (am 0), .int k, .int y, .int f, .int what] (md_W K am g) (m_look g k y f what) (md_W K am (g_look g k y f)) := by
  refine zw_ofI (cc := cX3_look) (nL := 6) (ret := (some .int)) (own := RX3) (lv := [(0, .ref (am 0)), (1, .int k), (2, .int y), (3, .int f), (4, .int what)]) (by decide) rfl (Nat.le_of_ble_eq_true rfl) rfl rfl ?_
  intro p e s m below meth c A E hr hlk
  refine zw_aload_n (i := 0) (x := am 0) E 0 dX3_look_0 rfl rfl (pc' := 1) rfl ?_
  refine zw_iload_n (i := 1) (x := k) E 1 dX3_look_1 rfl rfl (pc' := 2) rfl ?_
  refine zw_callIw E (r := zb (0 ≤ k ∧ k ≤ nI (g.2.2.1 0))) (As := [.int k]) (rest := []) (ws' := (md_W K am g)) (qX3_isKnowing l D K am g k) (cwV 1 E.2.2.2.2.1 gX3_look_X3_isKnowing rfl rfl rfl (by decide +kernel) ⟨Nat.le_of_ble_eq_true rfl, Nat.le_of_ble_eq_true rfl⟩) 0 rfl rfl rfl rfl rfl rfl (Nat.le_of_ble_eq_true rfl) ⟨Nat.zero_le _, Nat.zero_le _⟩ dX3_look_2 (pc' := 5) rfl ?_
  refine zw_ifb_eq (tgt := 27) E dX3_look_5 (by decide) (pc' := 8) rfl (fun c_1 => ?_) (fun c_1 => ?_)
  · skip
    refine zw_iconst (v := (-1)) E dX3_look_27 (by decide) (pc' := 28) rfl ?_
    exact zw_iret E hr hlk dX3_look_28 (by unfold m_look; rw [if_neg c_1]) (congrArg (md_W K am) (by unfold g_look; rw [if_neg c_1]))
  · skip
    obtain ⟨kn, hkn, ek⟩ := zw_kn hs80 c_1
    have ek2 : k.toNatClampNeg = kn := by rw [ek]; exact nI_clamp (by omega)
    have hkn80 : kn ≤ 80 := Nat.le_trans hkn hs80
    refine zw_iload_n (i := 2) (x := y) E 2 dX3_look_8 rfl rfl (pc' := 9) rfl ?_
    refine zw_iconst (v := 0) E dX3_look_9 (by decide) (pc' := 10) rfl ?_
    refine zw_sipush (v := 200) E dX3_look_10 (by decide) (pc' := 13) rfl ?_
    refine zw_callIs E (r := zb (0 ≤ y ∧ y ≤ 200)) (As := [.int y, .int 0, .int 200]) (rest := []) (ws' := (md_W K am g)) (qX3_lies l D K y 0 200) (va_cwS 3 E.2.2.2.2.1 gX3_look_X3_lies rfl rfl rfl (by decide +kernel) ⟨Nat.le_of_ble_eq_true rfl, Nat.le_of_ble_eq_true rfl⟩) [] (by decide) rfl rfl (zw_put_same _ _ _ rfl) rfl rfl (Nat.le_of_ble_eq_true rfl) ⟨Nat.zero_le _, Nat.zero_le _⟩ dX3_look_13 (pc' := 16) rfl ?_
    refine zw_ifb_eq (tgt := 27) E dX3_look_16 (by decide) (pc' := 19) rfl (fun c_2 => ?_) (fun c_2 => ?_)
    · skip
      refine zw_iconst (v := (-1)) E dX3_look_27 (by decide) (pc' := 28) rfl ?_
      exact zw_iret E hr hlk dX3_look_28 (by unfold m_look; rw [if_pos c_1, if_neg c_2]) (congrArg (md_W K am) (by unfold g_look; rw [if_pos c_1, if_neg c_2]))
    · skip
      obtain ⟨yn, hyn, ey⟩ := zw_y0 c_2
      have ey2 : y.toNatClampNeg = yn := by rw [ey]; exact nI_clamp (by omega)
      refine zw_aload_n (i := 0) (x := am 0) E 0 dX3_look_19 rfl rfl (pc' := 20) rfl ?_
      refine zw_iload_n (i := 3) (x := f) E 3 dX3_look_20 rfl rfl (pc' := 21) rfl ?_
      refine zw_callIw E (r := zb (0 ≤ f ∧ f ≤ nI (g.2.2.1 1) - 1)) (As := [.int f]) (rest := []) (ws' := (md_W K am g)) (qX3_isField l D K am g f) (cwV 1 E.2.2.2.2.1 gX3_look_X3_isField rfl rfl rfl (by decide +kernel) ⟨Nat.le_of_ble_eq_true rfl, Nat.le_of_ble_eq_true rfl⟩) 0 rfl rfl rfl rfl rfl rfl (Nat.le_of_ble_eq_true rfl) ⟨Nat.zero_le _, Nat.zero_le _⟩ dX3_look_21 (pc' := 24) rfl ?_
      refine zw_ifb_ne (tgt := 29) E dX3_look_24 (by decide) (pc' := 27) rfl (fun c_3 => ?_) (fun c_3 => ?_)
      · skip
        refine zw_aload_n (i := 0) (x := am 0) E 0 dX3_look_29 rfl rfl (pc' := 30) rfl ?_
        refine zw_iload_n (i := 1) (x := k) E 1 dX3_look_30 rfl rfl (pc' := 31) rfl ?_
        refine zw_topi (x' := nI kn) ek ?_
        refine zw_iload_n (i := 2) (x := y) E 2 dX3_look_31 rfl rfl (pc' := 32) rfl ?_
        refine zw_topi (x' := nI yn) ey ?_
        refine zw_iconst (v := (-1)) E dX3_look_32 (by decide) (pc' := 33) rfl ?_
        refine zw_callIw E (r := (g_works g kn yn (-1)).1) (As := [.int (nI kn), .int (nI yn), .int (-1)]) (rest := []) (ws' := (md_W K am ((g_works g kn yn (-1)).2))) (qX3_works l D K am g kn hkn80 yn hyn (-1) (hw kn hkn)) (cwV 3 E.2.2.2.2.1 gX3_look_X3_works rfl rfl rfl (by decide +kernel) ⟨Nat.le_of_ble_eq_true rfl, Nat.le_of_ble_eq_true rfl⟩) 0 rfl rfl rfl (md_ad _ _ _ _) rfl rfl (Nat.le_of_ble_eq_true rfl) ⟨Nat.zero_le _, Nat.zero_le _⟩ dX3_look_33 (pc' := 36) rfl ?_
        refine zw_gen_md_g ((g_works g kn yn (-1)).2) (fun gw hgw => ?_)
        have hkp : kept g gw := by rw [← hgw]; exact kept_works _ _ _ _
        have hfw : gw.2.2.1 1 ≤ 60 := by rw [hkp.1]; exact hf60
        refine zw_istore (lv' := [(5, .int ((g_works g kn yn (-1)).1)), (0, .ref (am 0)), (1, .int k), (2, .int y), (3, .int f), (4, .int what)]) E dX3_look_36 (by decide) rfl (pc' := 38) rfl ?_
        refine zw_aload_n (i := 0) (x := am 0) E 1 dX3_look_38 rfl rfl (pc' := 39) rfl ?_
        refine zw_iload_n (i := 3) (x := f) E 4 dX3_look_39 rfl rfl (pc' := 40) rfl ?_
        refine zw_iload (x := what) E 5 dX3_look_40 rfl (pc' := 42) rfl ?_
        refine zw_callIw E (r := m_tell gw f what) (As := [.int f, .int what]) (rest := []) (ws' := (md_W K am gw)) (qX3_tells l D K am gw hfw f what) (cwV 2 E.2.2.2.2.1 gX3_look_X3_tells rfl rfl rfl (by decide +kernel) ⟨Nat.le_of_ble_eq_true rfl, Nat.le_of_ble_eq_true rfl⟩) 0 rfl rfl rfl rfl rfl rfl (Nat.le_of_ble_eq_true rfl) ⟨Nat.zero_le _, Nat.zero_le _⟩ dX3_look_42 (pc' := 45) rfl ?_
        exact zw_iret E hr hlk dX3_look_45 (by unfold m_look; rw [if_pos c_1, if_pos c_2, if_pos c_3, ek2, ey2, hgw]) (congrArg (md_W K am) (by unfold g_look; rw [if_pos c_1, if_pos c_2, if_pos c_3, ek2, ey2, hgw]))
      · skip
        refine zw_iconst (v := (-1)) E dX3_look_27 (by decide) (pc' := 28) rfl ?_
        exact zw_iret E hr hlk dX3_look_28 (by unfold m_look; rw [if_pos c_1, if_pos c_2, if_neg c_3]) (congrArg (md_W K am) (by unfold g_look; rw [if_pos c_1, if_pos c_2, if_neg c_3]))

def m_money1 (g : Md) (k y f : Int32) : Int64 := if (0 ≤ k ∧ k ≤ nI (g.2.2.1 0)) then if (1 ≤ y ∧ y ≤ 200) then if (0 ≤ f ∧ f ≤ nI (g.2.2.1 1) - 1) then if ((g_works g k.toNatClampNeg y.toNatClampNeg (-1)).2).1 11 f.toNatClampNeg = 0 then -1 else m_money (g_works g k.toNatClampNeg y.toNatClampNeg (-1)).2 k.toNatClampNeg y f.toNatClampNeg else -1 else -1 else -1
def g_money1 (g : Md) (k y f : Int32) : Md := if (0 ≤ k ∧ k ≤ nI (g.2.2.1 0)) then if (1 ≤ y ∧ y ≤ 200) then if (0 ≤ f ∧ f ≤ nI (g.2.2.1 1) - 1) then (g_works g k.toNatClampNeg y.toNatClampNeg (-1)).2 else g else g else g
theorem kX3_money_104 : Cond.constantLong RX3 104 (-1) ∈ wsX3_money := by decide +kernel
theorem fX3_money_43 : Cond.fieldLink RX3 43 "TitheMapModel" "isThere" "[Z" ∈ wsX3_money := by decide +kernel
theorem iX3_money_X3 : ∀ w ∈ wsX30, w ∈ wsX3_money := by decide +kernel
set_option maxHeartbeats 4000000 in
set_option maxRecDepth 100000 in
/-- money -/
theorem qX3_money (l : Launch) (D : va_G) (K : Nat → ClassId) (am : Nat → Nat) (g : Md) (k y f : Int32) (hs80 : g.2.2.1 0 ≤ 80) (hf60 : g.2.2.1 1 ≤ 60) (hw : ∀ kn, kn ≤ g.2.2.1 0 → wk_ok g kn) : zw_L l yX3_money wsX3_money rmX3_money D (zT K) [.ref (am 0), .int k, .int y, .int f] (md_W K am g) (m_money1 g k y f) (md_W K am (g_money1 g k y f)) := by
  refine zw_ofL (cc := cX3_money) (nL := 5) (ret := (some .long)) (own := RX3) (lv := [(0, .ref (am 0)), (1, .int k), (2, .int y), (3, .int f)]) (by decide) rfl (Nat.le_of_ble_eq_true rfl) rfl rfl ?_
  intro p e s m below meth c A E hr hlk
  refine zw_aload_n (i := 0) (x := am 0) E 0 dX3_money_0 rfl rfl (pc' := 1) rfl ?_
  refine zw_iload_n (i := 1) (x := k) E 1 dX3_money_1 rfl rfl (pc' := 2) rfl ?_
  refine zw_callIw E (r := zb (0 ≤ k ∧ k ≤ nI (g.2.2.1 0))) (As := [.int k]) (rest := []) (ws' := (md_W K am g)) (qX3_isKnowing l D K am g k) (cwV 1 E.2.2.2.2.1 gX3_money_X3_isKnowing rfl rfl rfl (by decide +kernel) ⟨Nat.le_of_ble_eq_true rfl, Nat.le_of_ble_eq_true rfl⟩) 0 rfl rfl rfl rfl rfl rfl (Nat.le_of_ble_eq_true rfl) ⟨Nat.zero_le _, Nat.zero_le _⟩ dX3_money_2 (pc' := 5) rfl ?_
  refine zw_ifb_eq (tgt := 27) E dX3_money_5 (by decide) (pc' := 8) rfl (fun c_1 => ?_) (fun c_1 => ?_)
  · skip
    refine zw_ldc2 (v := (-1)) E dX3_money_27 kX3_money_104 (pc' := 30) rfl ?_
    exact zw_lret E hr hlk dX3_money_30 (by unfold m_money1; rw [if_neg c_1]) (congrArg (md_W K am) (by unfold g_money1; rw [if_neg c_1]))
  · skip
    obtain ⟨kn, hkn, ek⟩ := zw_kn hs80 c_1
    have ek2 : k.toNatClampNeg = kn := by rw [ek]; exact nI_clamp (by omega)
    have hkn80 : kn ≤ 80 := Nat.le_trans hkn hs80
    refine zw_iload_n (i := 2) (x := y) E 2 dX3_money_8 rfl rfl (pc' := 9) rfl ?_
    refine zw_iconst (v := 1) E dX3_money_9 (by decide) (pc' := 10) rfl ?_
    refine zw_sipush (v := 200) E dX3_money_10 (by decide) (pc' := 13) rfl ?_
    refine zw_callIs E (r := zb (1 ≤ y ∧ y ≤ 200)) (As := [.int y, .int 1, .int 200]) (rest := []) (ws' := (md_W K am g)) (qX3_lies l D K y 1 200) (va_cwS 3 E.2.2.2.2.1 gX3_money_X3_lies rfl rfl rfl (by decide +kernel) ⟨Nat.le_of_ble_eq_true rfl, Nat.le_of_ble_eq_true rfl⟩) [] (by decide) rfl rfl (zw_put_same _ _ _ rfl) rfl rfl (Nat.le_of_ble_eq_true rfl) ⟨Nat.zero_le _, Nat.zero_le _⟩ dX3_money_13 (pc' := 16) rfl ?_
    refine zw_ifb_eq (tgt := 27) E dX3_money_16 (by decide) (pc' := 19) rfl (fun c_2 => ?_) (fun c_2 => ?_)
    · skip
      refine zw_ldc2 (v := (-1)) E dX3_money_27 kX3_money_104 (pc' := 30) rfl ?_
      exact zw_lret E hr hlk dX3_money_30 (by unfold m_money1; rw [if_pos c_1, if_neg c_2]) (congrArg (md_W K am) (by unfold g_money1; rw [if_pos c_1, if_neg c_2]))
    · skip
      obtain ⟨yn, hyn, ey⟩ := zw_y1 c_2
      have ey2 : y.toNatClampNeg = yn := by rw [ey]; exact nI_clamp (by omega)
      refine zw_aload_n (i := 0) (x := am 0) E 0 dX3_money_19 rfl rfl (pc' := 20) rfl ?_
      refine zw_iload_n (i := 3) (x := f) E 3 dX3_money_20 rfl rfl (pc' := 21) rfl ?_
      refine zw_callIw E (r := zb (0 ≤ f ∧ f ≤ nI (g.2.2.1 1) - 1)) (As := [.int f]) (rest := []) (ws' := (md_W K am g)) (qX3_isField l D K am g f) (cwV 1 E.2.2.2.2.1 gX3_money_X3_isField rfl rfl rfl (by decide +kernel) ⟨Nat.le_of_ble_eq_true rfl, Nat.le_of_ble_eq_true rfl⟩) 0 rfl rfl rfl rfl rfl rfl (Nat.le_of_ble_eq_true rfl) ⟨Nat.zero_le _, Nat.zero_le _⟩ dX3_money_21 (pc' := 24) rfl ?_
      refine zw_ifb_ne (tgt := 31) E dX3_money_24 (by decide) (pc' := 27) rfl (fun c_3 => ?_) (fun c_3 => ?_)
      · skip
        obtain ⟨i, hi, ei⟩ := zw_mf hf60 c_3
        have hi60 : i < 60 := by omega
        have ei2 : f.toNatClampNeg = i := by rw [ei]; exact nI_clamp (by omega)
        refine zw_aload_n (i := 0) (x := am 0) E 0 dX3_money_31 rfl rfl (pc' := 32) rfl ?_
        refine zw_iload_n (i := 1) (x := k) E 1 dX3_money_32 rfl rfl (pc' := 33) rfl ?_
        refine zw_topi (x' := nI kn) ek ?_
        refine zw_iload_n (i := 2) (x := y) E 2 dX3_money_33 rfl rfl (pc' := 34) rfl ?_
        refine zw_topi (x' := nI yn) ey ?_
        refine zw_iconst (v := (-1)) E dX3_money_34 (by decide) (pc' := 35) rfl ?_
        refine zw_callIw E (r := (g_works g kn yn (-1)).1) (As := [.int (nI kn), .int (nI yn), .int (-1)]) (rest := []) (ws' := (md_W K am ((g_works g kn yn (-1)).2))) (qX3_works l D K am g kn hkn80 yn hyn (-1) (hw kn hkn)) (cwV 3 E.2.2.2.2.1 gX3_money_X3_works rfl rfl rfl (by decide +kernel) ⟨Nat.le_of_ble_eq_true rfl, Nat.le_of_ble_eq_true rfl⟩) 0 rfl rfl rfl (md_ad _ _ _ _) rfl rfl (Nat.le_of_ble_eq_true rfl) ⟨Nat.zero_le _, Nat.zero_le _⟩ dX3_money_35 (pc' := 38) rfl ?_
        refine zw_gen_md_g ((g_works g kn yn (-1)).2) (fun gw hgw => ?_)
        have hkp : kept g gw := by rw [← hgw]; exact kept_works _ _ _ _
        have hfw : gw.2.2.1 1 ≤ 60 := by rw [hkp.1]; exact hf60
        refine zw_istore (lv' := [(4, .int ((g_works g kn yn (-1)).1)), (0, .ref (am 0)), (1, .int k), (2, .int y), (3, .int f)]) E dX3_money_38 (by decide) rfl (pc' := 40) rfl ?_
        refine zw_aload_n (i := 0) (x := am 0) E 1 dX3_money_40 rfl rfl (pc' := 41) rfl ?_
        refine zw_get (v := .ref (am 12)) E 0 13 iX3_money_X3 fX3_money_43 rfl rfl (by decide) rfl rfl dX3_money_41 (pc' := 44) rfl ?_
        refine zw_iload_n (i := 3) (x := f) E 4 dX3_money_44 rfl rfl (pc' := 45) rfl ?_
        refine zw_topi (x' := nI i) ei ?_
        refine zw_zald (j := i) (x := gw.1 11 i) E 12 1 rfl rfl (vp_in_nI hi60 (by decide)) (zw_clamp hi60 (by decide)) rfl dX3_money_45 (pc' := 46) rfl ?_
        refine zw_if_eq (tgt := 59) E dX3_money_46 (by decide) (pc' := 49) rfl (fun c_4 => ?_) (fun c_4 => ?_)
        · skip
          refine zw_ldc2 (v := (-1)) E dX3_money_59 kX3_money_104 (pc' := 62) rfl ?_
          exact zw_lret E hr hlk dX3_money_62 (by unfold m_money1; rw [if_pos c_1, if_pos c_2, if_pos c_3, ek2, ey2, hgw, ei2, if_pos c_4]) (congrArg (md_W K am) (by unfold g_money1; rw [if_pos c_1, if_pos c_2, if_pos c_3, ek2, ey2, hgw]))
        · skip
          refine zw_aload_n (i := 0) (x := am 0) E 1 dX3_money_49 rfl rfl (pc' := 50) rfl ?_
          refine zw_iload_n (i := 1) (x := k) E 2 dX3_money_50 rfl rfl (pc' := 51) rfl ?_
          refine zw_topi (x' := nI kn) ek ?_
          refine zw_iload_n (i := 2) (x := y) E 3 dX3_money_51 rfl rfl (pc' := 52) rfl ?_
          refine zw_iload_n (i := 3) (x := f) E 4 dX3_money_52 rfl rfl (pc' := 53) rfl ?_
          refine zw_topi (x' := nI i) ei ?_
          refine zw_callLw E (r := m_money gw kn y i) (As := [.int (nI kn), .int y, .int (nI i)]) (rest := []) (ws' := (md_W K am gw)) (qX3_moneyOf l D K am gw kn hkn80 y c_2 i hi60) (cwV 3 E.2.2.2.2.1 gX3_money_X3_moneyOf rfl rfl rfl (by decide +kernel) ⟨Nat.le_of_ble_eq_true rfl, Nat.le_of_ble_eq_true rfl⟩) 0 rfl rfl rfl rfl rfl rfl (Nat.le_of_ble_eq_true rfl) ⟨Nat.zero_le _, Nat.zero_le _⟩ dX3_money_53 (pc' := 56) rfl ?_
          refine zw_goto (tgt := 62) E dX3_money_56 (by decide) ?_
          exact zw_lret E hr hlk dX3_money_62 (by unfold m_money1; rw [if_pos c_1, if_pos c_2, if_pos c_3, ek2, ey2, hgw, ei2, if_neg c_4]) (congrArg (md_W K am) (by unfold g_money1; rw [if_pos c_1, if_pos c_2, if_pos c_3, ek2, ey2, hgw]))
      · skip
        refine zw_ldc2 (v := (-1)) E dX3_money_27 kX3_money_104 (pc' := 30) rfl ?_
        exact zw_lret E hr hlk dX3_money_30 (by unfold m_money1; rw [if_pos c_1, if_pos c_2, if_neg c_3]) (congrArg (md_W K am) (by unfold g_money1; rw [if_pos c_1, if_pos c_2, if_neg c_3]))

def m_cost (g : Md) (k x : Int32) : Int64 := if (0 ≤ k ∧ k ≤ nI (g.2.2.1 0)) then if (0 ≤ x ∧ x ≤ k - 1) then if g.1 0 x.toNatClampNeg = 6 then if m_money (g_works g k.toNatClampNeg 200 x).2 k.toNatClampNeg (g.1 1 x.toNatClampNeg) (g.1 2 x.toNatClampNeg).toNatClampNeg = -1 then -1 else 25 * m_money (g_works g k.toNatClampNeg 200 x).2 k.toNatClampNeg (g.1 1 x.toNatClampNeg) (g.1 2 x.toNatClampNeg).toNatClampNeg else -1 else -1 else -1
def g_cost (g : Md) (k x : Int32) : Md := if (0 ≤ k ∧ k ≤ nI (g.2.2.1 0)) then if (0 ≤ x ∧ x ≤ k - 1) then if g.1 0 x.toNatClampNeg = 6 then (g_works g k.toNatClampNeg 200 x).2 else g else g else g
theorem zw_x80 {x k : Int32} {kn : Nat} (hk : kn ≤ 80) (ek : k = nI kn) (h : 0 ≤ x ∧ x ≤ k - 1) : ∃ i, i < kn ∧ x = nI i := zw_mf80 hk ⟨h.1, by rw [← ek]; exact h.2⟩
theorem kX3_cost_104 : Cond.constantLong RX3 104 (-1) ∈ wsX3_cost := by decide +kernel
theorem kX3_cost_166 : Cond.constantLong RX3 166 (25) ∈ wsX3_cost := by decide +kernel
theorem fX3_cost_13 : Cond.fieldLink RX3 13 "TitheMapModel" "year" "[I" ∈ wsX3_cost := by decide +kernel
theorem fX3_cost_16 : Cond.fieldLink RX3 16 "TitheMapModel" "one" "[I" ∈ wsX3_cost := by decide +kernel
theorem fX3_cost_7 : Cond.fieldLink RX3 7 "TitheMapModel" "sort" "[I" ∈ wsX3_cost := by decide +kernel
theorem iX3_cost_X3 : ∀ w ∈ wsX30, w ∈ wsX3_cost := by decide +kernel
set_option maxHeartbeats 4000000 in
set_option maxRecDepth 100000 in
/-- cost -/
theorem qX3_cost (l : Launch) (D : va_G) (K : Nat → ClassId) (am : Nat → Nat) (g : Md) (k x : Int32) (hs80 : g.2.2.1 0 ≤ 80) (hf60 : g.2.2.1 1 ≤ 60) (hw : ∀ kn, kn ≤ g.2.2.1 0 → wk_ok g kn) (hb : ∀ j, j < g.2.2.1 0 → g.1 0 j = 6 → (∃ i, i < 60 ∧ g.1 2 j = nI i) ∧ (1 ≤ g.1 1 j ∧ g.1 1 j ≤ 200)) : zw_L l yX3_cost wsX3_cost rmX3_cost D (zT K) [.ref (am 0), .int k, .int x] (md_W K am g) (m_cost g k x) (md_W K am (g_cost g k x)) := by
  refine zw_ofL (cc := cX3_cost) (nL := 6) (ret := (some .long)) (own := RX3) (lv := [(0, .ref (am 0)), (1, .int k), (2, .int x)]) (by decide) rfl (Nat.le_of_ble_eq_true rfl) rfl rfl ?_
  intro p e s m below meth c A E hr hlk
  refine zw_aload_n (i := 0) (x := am 0) E 0 dX3_cost_0 rfl rfl (pc' := 1) rfl ?_
  refine zw_iload_n (i := 1) (x := k) E 1 dX3_cost_1 rfl rfl (pc' := 2) rfl ?_
  refine zw_callIw E (r := zb (0 ≤ k ∧ k ≤ nI (g.2.2.1 0))) (As := [.int k]) (rest := []) (ws' := (md_W K am g)) (qX3_isKnowing l D K am g k) (cwV 1 E.2.2.2.2.1 gX3_cost_X3_isKnowing rfl rfl rfl (by decide +kernel) ⟨Nat.le_of_ble_eq_true rfl, Nat.le_of_ble_eq_true rfl⟩) 0 rfl rfl rfl rfl rfl rfl (Nat.le_of_ble_eq_true rfl) ⟨Nat.zero_le _, Nat.zero_le _⟩ dX3_cost_2 (pc' := 5) rfl ?_
  refine zw_ifb_eq (tgt := 30) E dX3_cost_5 (by decide) (pc' := 8) rfl (fun c_1 => ?_) (fun c_1 => ?_)
  · skip
    refine zw_ldc2 (v := (-1)) E dX3_cost_30 kX3_cost_104 (pc' := 33) rfl ?_
    exact zw_lret E hr hlk dX3_cost_33 (by unfold m_cost; rw [if_neg c_1]) (congrArg (md_W K am) (by unfold g_cost; rw [if_neg c_1]))
  · skip
    obtain ⟨kn, hkn, ek⟩ := zw_kn hs80 c_1
    have ek2 : k.toNatClampNeg = kn := by rw [ek]; exact nI_clamp (by omega)
    have hkn80 : kn ≤ 80 := Nat.le_trans hkn hs80
    refine zw_iload_n (i := 2) (x := x) E 2 dX3_cost_8 rfl rfl (pc' := 9) rfl ?_
    refine zw_iconst (v := 0) E dX3_cost_9 (by decide) (pc' := 10) rfl ?_
    refine zw_iload_n (i := 1) (x := k) E 1 dX3_cost_10 rfl rfl (pc' := 11) rfl ?_
    refine zw_iconst (v := 1) E dX3_cost_11 (by decide) (pc' := 12) rfl ?_
    refine zw_isub E dX3_cost_12 (pc' := 13) rfl ?_
    refine zw_callIs E (r := zb (0 ≤ x ∧ x ≤ k - 1)) (As := [.int x, .int 0, .int (k - 1)]) (rest := []) (ws' := (md_W K am g)) (qX3_lies l D K x 0 (k - 1)) (va_cwS 3 E.2.2.2.2.1 gX3_cost_X3_lies rfl rfl rfl (by decide +kernel) ⟨Nat.le_of_ble_eq_true rfl, Nat.le_of_ble_eq_true rfl⟩) [] (by decide) rfl rfl (zw_put_same _ _ _ rfl) rfl rfl (Nat.le_of_ble_eq_true rfl) ⟨Nat.zero_le _, Nat.zero_le _⟩ dX3_cost_13 (pc' := 16) rfl ?_
    refine zw_ifb_eq (tgt := 30) E dX3_cost_16 (by decide) (pc' := 19) rfl (fun c_2 => ?_) (fun c_2 => ?_)
    · skip
      refine zw_ldc2 (v := (-1)) E dX3_cost_30 kX3_cost_104 (pc' := 33) rfl ?_
      exact zw_lret E hr hlk dX3_cost_33 (by unfold m_cost; rw [if_pos c_1, if_neg c_2]) (congrArg (md_W K am) (by unfold g_cost; rw [if_pos c_1, if_neg c_2]))
    · skip
      obtain ⟨j, hj, ej⟩ := zw_x80 hkn80 ek c_2
      have hj80 : j < 80 := by omega
      have ej2 : x.toNatClampNeg = j := by rw [ej]; exact nI_clamp (by omega)
      refine zw_aload_n (i := 0) (x := am 0) E 0 dX3_cost_19 rfl rfl (pc' := 20) rfl ?_
      refine zw_get (v := .ref (am 1)) E 0 2 iX3_cost_X3 fX3_cost_7 rfl rfl (by decide) rfl rfl dX3_cost_20 (pc' := 23) rfl ?_
      refine zw_iload_n (i := 2) (x := x) E 2 dX3_cost_23 rfl rfl (pc' := 24) rfl ?_
      refine zw_topi (x' := nI j) ej ?_
      refine zw_iald (j := j) (x := g.1 0 j) E 1 0 rfl rfl (vp_in_nI hj80 (by decide)) (zw_clamp hj80 (by decide)) rfl dX3_cost_24 (pc' := 25) rfl ?_
      refine zw_bipush (v := 6) E dX3_cost_25 (by decide) (pc' := 27) rfl ?_
      refine zw_icmp_eq (tgt := 34) E dX3_cost_27 (by decide) (pc' := 30) rfl (fun c_3 => ?_) (fun c_3 => ?_)
      · skip
        obtain ⟨⟨i, hi60, ei⟩, hyx⟩ := hb j (by omega) c_3
        have ei2 : (g.1 2 j).toNatClampNeg = i := by rw [ei]; exact nI_clamp (by omega)
        refine zw_aload_n (i := 0) (x := am 0) E 0 dX3_cost_34 rfl rfl (pc' := 35) rfl ?_
        refine zw_iload_n (i := 1) (x := k) E 1 dX3_cost_35 rfl rfl (pc' := 36) rfl ?_
        refine zw_topi (x' := nI kn) ek ?_
        refine zw_sipush (v := 200) E dX3_cost_36 (by decide) (pc' := 39) rfl ?_
        refine zw_topi (x' := nI 200) rfl ?_
        refine zw_iload_n (i := 2) (x := x) E 2 dX3_cost_39 rfl rfl (pc' := 40) rfl ?_
        refine zw_callIw E (r := (g_works g kn 200 x).1) (As := [.int (nI kn), .int (nI 200), .int x]) (rest := []) (ws' := (md_W K am ((g_works g kn 200 x).2))) (qX3_works l D K am g kn hkn80 200 (by decide) x (hw kn hkn)) (cwV 3 E.2.2.2.2.1 gX3_cost_X3_works rfl rfl rfl (by decide +kernel) ⟨Nat.le_of_ble_eq_true rfl, Nat.le_of_ble_eq_true rfl⟩) 0 rfl rfl rfl (md_ad _ _ _ _) rfl rfl (Nat.le_of_ble_eq_true rfl) ⟨Nat.zero_le _, Nat.zero_le _⟩ dX3_cost_40 (pc' := 43) rfl ?_
        refine zw_gen_md_g ((g_works g kn 200 x).2) (fun gw hgw => ?_)
        have hkp : kept g gw := by rw [← hgw]; exact kept_works _ _ _ _
        refine zw_istore_n (lv' := [(3, .int ((g_works g kn 200 x).1)), (0, .ref (am 0)), (1, .int k), (2, .int x)]) E dX3_cost_43 rfl (by decide) rfl (pc' := 44) rfl ?_
        refine zw_aload_n (i := 0) (x := am 0) E 1 dX3_cost_44 rfl rfl (pc' := 45) rfl ?_
        refine zw_iload_n (i := 1) (x := k) E 2 dX3_cost_45 rfl rfl (pc' := 46) rfl ?_
        refine zw_topi (x' := nI kn) ek ?_
        refine zw_aload_n (i := 0) (x := am 0) E 1 dX3_cost_46 rfl rfl (pc' := 47) rfl ?_
        refine zw_get (v := .ref (am 2)) E 0 3 iX3_cost_X3 fX3_cost_13 rfl rfl (by decide) rfl rfl dX3_cost_47 (pc' := 50) rfl ?_
        refine zw_iload_n (i := 2) (x := x) E 3 dX3_cost_50 rfl rfl (pc' := 51) rfl ?_
        refine zw_topi (x' := nI j) ej ?_
        refine zw_iald (j := j) (x := gw.1 1 j) E 2 0 rfl rfl (vp_in_nI hj80 (by decide)) (zw_clamp hj80 (by decide)) rfl dX3_cost_51 (pc' := 52) rfl ?_
        refine zw_topi (x' := g.1 1 j) (zw_rk hkp 1 j (by decide)) ?_
        refine zw_aload_n (i := 0) (x := am 0) E 1 dX3_cost_52 rfl rfl (pc' := 53) rfl ?_
        refine zw_get (v := .ref (am 3)) E 0 4 iX3_cost_X3 fX3_cost_16 rfl rfl (by decide) rfl rfl dX3_cost_53 (pc' := 56) rfl ?_
        refine zw_iload_n (i := 2) (x := x) E 3 dX3_cost_56 rfl rfl (pc' := 57) rfl ?_
        refine zw_topi (x' := nI j) ej ?_
        refine zw_iald (j := j) (x := gw.1 2 j) E 3 0 rfl rfl (vp_in_nI hj80 (by decide)) (zw_clamp hj80 (by decide)) rfl dX3_cost_57 (pc' := 58) rfl ?_
        refine zw_topi (x' := nI i) ((zw_rk hkp 2 j (by decide)).trans ei) ?_
        refine zw_callLw E (r := m_money gw kn (g.1 1 j) i) (As := [.int (nI kn), .int (g.1 1 j), .int (nI i)]) (rest := []) (ws' := (md_W K am gw)) (qX3_moneyOf l D K am gw kn hkn80 (g.1 1 j) hyx i hi60) (cwV 3 E.2.2.2.2.1 gX3_cost_X3_moneyOf rfl rfl rfl (by decide +kernel) ⟨Nat.le_of_ble_eq_true rfl, Nat.le_of_ble_eq_true rfl⟩) 0 rfl rfl rfl rfl rfl rfl (Nat.le_of_ble_eq_true rfl) ⟨Nat.zero_le _, Nat.zero_le _⟩ dX3_cost_58 (pc' := 61) rfl ?_
        refine zw_lstore (lv' := [(4, .long (m_money gw kn (g.1 1 j) i)), (3, .int ((g_works g kn 200 x).1)), (0, .ref (am 0)), (1, .int k), (2, .int x)]) E dX3_cost_61 (by decide) rfl (pc' := 63) rfl ?_
        refine zw_lload (x := m_money gw kn (g.1 1 j) i) E 0 dX3_cost_63 rfl (pc' := 65) rfl ?_
        refine zw_ldc2 (v := (-1)) E dX3_cost_65 kX3_cost_104 (pc' := 68) rfl ?_
        refine zw_lcmp E dX3_cost_68 (pc' := 69) rfl ?_
        refine zw_ifl_ne (tgt := 78) E dX3_cost_69 (by decide) (pc' := 72) rfl (fun c_4 => ?_) (fun c_4 => ?_)
        · skip
          refine zw_ldc2 (v := 25) E dX3_cost_78 kX3_cost_166 (pc' := 81) rfl ?_
          refine zw_lload (x := m_money gw kn (g.1 1 j) i) E 0 dX3_cost_81 rfl (pc' := 83) rfl ?_
          refine zw_lmul E dX3_cost_83 (pc' := 84) rfl ?_
          exact zw_lret E hr hlk dX3_cost_84 (by unfold m_cost; rw [if_pos c_1, if_pos c_2, ej2, if_pos c_3, ek2, hgw, ei2, if_neg c_4]) (congrArg (md_W K am) (by unfold g_cost; rw [if_pos c_1, if_pos c_2, ej2, if_pos c_3, ek2, hgw]))
        · skip
          refine zw_ldc2 (v := (-1)) E dX3_cost_72 kX3_cost_104 (pc' := 75) rfl ?_
          refine zw_goto (tgt := 84) E dX3_cost_75 (by decide) ?_
          exact zw_lret E hr hlk dX3_cost_84 (by unfold m_cost; rw [if_pos c_1, if_pos c_2, ej2, if_pos c_3, ek2, hgw, ei2, if_pos c_4]) (congrArg (md_W K am) (by unfold g_cost; rw [if_pos c_1, if_pos c_2, ej2, if_pos c_3, ek2, hgw]))
      · skip
        refine zw_ldc2 (v := (-1)) E dX3_cost_30 kX3_cost_104 (pc' := 33) rfl ?_
        exact zw_lret E hr hlk dX3_cost_33 (by unfold m_cost; rw [if_pos c_1, if_pos c_2, ej2, if_neg c_3]) (congrArg (md_W K am) (by unfold g_cost; rw [if_pos c_1, if_pos c_2, ej2, if_neg c_3]))

def m_field (g : Md) (f what : Int32) : Int32 := if (0 ≤ f ∧ f ≤ nI (g.2.2.1 1) - 1) then if what = 0 then g.1 1 (g.1 7 f.toNatClampNeg).toNatClampNeg else if what = 1 then if g.1 8 f.toNatClampNeg = -1 then -1 else g.1 1 (g.1 8 f.toNatClampNeg).toNatClampNeg else if what = 2 then g.1 7 f.toNatClampNeg else if what = 3 then g.1 8 f.toNatClampNeg else if what = 4 then g.1 9 f.toNatClampNeg else if what = 5 then g.1 10 f.toNatClampNeg else -1 else -1
theorem fX3_field_13 : Cond.fieldLink RX3 13 "TitheMapModel" "year" "[I" ∈ wsX3_field := by decide +kernel
theorem fX3_field_31 : Cond.fieldLink RX3 31 "TitheMapModel" "madeBy" "[I" ∈ wsX3_field := by decide +kernel
theorem fX3_field_34 : Cond.fieldLink RX3 34 "TitheMapModel" "endedBy" "[I" ∈ wsX3_field := by decide +kernel
theorem fX3_field_37 : Cond.fieldLink RX3 37 "TitheMapModel" "firstOf" "[I" ∈ wsX3_field := by decide +kernel
theorem fX3_field_40 : Cond.fieldLink RX3 40 "TitheMapModel" "secondOf" "[I" ∈ wsX3_field := by decide +kernel
theorem iX3_field_X3 : ∀ w ∈ wsX30, w ∈ wsX3_field := by decide +kernel
set_option maxHeartbeats 4000000 in
set_option maxRecDepth 100000 in
/-- field -/
theorem qX3_field (l : Launch) (D : va_G) (K : Nat → ClassId) (am : Nat → Nat) (g : Md) (f what : Int32) (hf60 : g.2.2.1 1 ≤ 60) (hm : ∀ i, i < g.2.2.1 1 → vp_in (g.1 7 i) 80 ∧ (¬ g.1 8 i = -1 → vp_in (g.1 8 i) 80)) : zw_I l yX3_field wsX3_field rmX3_field D (zT K) [.ref (am 0), .int f, .int what] (md_W K am g) (m_field g f what) (md_W K am g) := by
  refine zw_ofI (cc := cX3_field) (nL := 3) (ret := (some .int)) (own := RX3) (lv := [(0, .ref (am 0)), (1, .int f), (2, .int what)]) (by decide) rfl (Nat.le_of_ble_eq_true rfl) rfl rfl ?_
  intro p e s m below meth c A E hr hlk
  refine zw_aload_n (i := 0) (x := am 0) E 0 dX3_field_0 rfl rfl (pc' := 1) rfl ?_
  refine zw_iload_n (i := 1) (x := f) E 1 dX3_field_1 rfl rfl (pc' := 2) rfl ?_
  refine zw_callIw E (r := zb (0 ≤ f ∧ f ≤ nI (g.2.2.1 1) - 1)) (As := [.int f]) (rest := []) (ws' := (md_W K am g)) (qX3_isField l D K am g f) (cwV 1 E.2.2.2.2.1 gX3_field_X3_isField rfl rfl rfl (by decide +kernel) ⟨Nat.le_of_ble_eq_true rfl, Nat.le_of_ble_eq_true rfl⟩) 0 rfl rfl rfl rfl rfl rfl (Nat.le_of_ble_eq_true rfl) ⟨Nat.zero_le _, Nat.zero_le _⟩ dX3_field_2 (pc' := 5) rfl ?_
  refine zw_ifb_ne (tgt := 10) E dX3_field_5 (by decide) (pc' := 8) rfl (fun c_1 => ?_) (fun c_1 => ?_)
  · skip
    obtain ⟨i, hi, ei⟩ := zw_mf hf60 c_1
    have hi60 : i < 60 := by omega
    have ei2 : f.toNatClampNeg = i := by rw [ei]; exact nI_clamp (by omega)
    refine zw_iload_n (i := 2) (x := what) E 2 dX3_field_10 rfl rfl (pc' := 11) rfl ?_
    by_cases s_2 : what = 0
    · refine zw_tableIn (tgt := 48) (off := 37) E dX3_field_11 (by rw [s_2]; decide) (by rw [s_2]; decide) (by rw [s_2]; rfl) (by decide) ?_
      refine zw_aload_n (i := 0) (x := am 0) E 0 dX3_field_48 rfl rfl (pc' := 49) rfl ?_
      refine zw_get (v := .ref (am 2)) E 0 3 iX3_field_X3 fX3_field_13 rfl rfl (by decide) rfl rfl dX3_field_49 (pc' := 52) rfl ?_
      refine zw_aload_n (i := 0) (x := am 0) E 0 dX3_field_52 rfl rfl (pc' := 53) rfl ?_
      refine zw_get (v := .ref (am 8)) E 0 9 iX3_field_X3 fX3_field_31 rfl rfl (by decide) rfl rfl dX3_field_53 (pc' := 56) rfl ?_
      refine zw_iload_n (i := 1) (x := f) E 1 dX3_field_56 rfl rfl (pc' := 57) rfl ?_
      refine zw_topi (x' := nI i) ei ?_
      refine zw_iald (j := i) (x := g.1 7 i) E 8 0 rfl rfl (vp_in_nI hi60 (by decide)) (zw_clamp hi60 (by decide)) rfl dX3_field_57 (pc' := 58) rfl ?_
      refine zw_iald (j := (g.1 7 i).toNatClampNeg) (x := g.1 1 ((g.1 7 i).toNatClampNeg)) E 2 0 rfl rfl (hm i hi).1 rfl rfl dX3_field_58 (pc' := 59) rfl ?_
      exact zw_iret E hr hlk dX3_field_59 (by unfold m_field; rw [if_pos c_1, ei2, if_pos s_2]) rfl
    · skip
      by_cases s_3 : what = 1
      · refine zw_tableIn (tgt := 60) (off := 49) E dX3_field_11 (by rw [s_3]; decide) (by rw [s_3]; decide) (by rw [s_3]; rfl) (by decide) ?_
        refine zw_aload_n (i := 0) (x := am 0) E 0 dX3_field_60 rfl rfl (pc' := 61) rfl ?_
        refine zw_get (v := .ref (am 9)) E 0 10 iX3_field_X3 fX3_field_34 rfl rfl (by decide) rfl rfl dX3_field_61 (pc' := 64) rfl ?_
        refine zw_iload_n (i := 1) (x := f) E 1 dX3_field_64 rfl rfl (pc' := 65) rfl ?_
        refine zw_topi (x' := nI i) ei ?_
        refine zw_iald (j := i) (x := g.1 8 i) E 9 0 rfl rfl (vp_in_nI hi60 (by decide)) (zw_clamp hi60 (by decide)) rfl dX3_field_65 (pc' := 66) rfl ?_
        refine zw_iconst (v := (-1)) E dX3_field_66 (by decide) (pc' := 67) rfl ?_
        refine zw_icmp_ne (tgt := 74) E dX3_field_67 (by decide) (pc' := 70) rfl (fun c_4 => ?_) (fun c_4 => ?_)
        · skip
          refine zw_aload_n (i := 0) (x := am 0) E 0 dX3_field_74 rfl rfl (pc' := 75) rfl ?_
          refine zw_get (v := .ref (am 2)) E 0 3 iX3_field_X3 fX3_field_13 rfl rfl (by decide) rfl rfl dX3_field_75 (pc' := 78) rfl ?_
          refine zw_aload_n (i := 0) (x := am 0) E 0 dX3_field_78 rfl rfl (pc' := 79) rfl ?_
          refine zw_get (v := .ref (am 9)) E 0 10 iX3_field_X3 fX3_field_34 rfl rfl (by decide) rfl rfl dX3_field_79 (pc' := 82) rfl ?_
          refine zw_iload_n (i := 1) (x := f) E 1 dX3_field_82 rfl rfl (pc' := 83) rfl ?_
          refine zw_topi (x' := nI i) ei ?_
          refine zw_iald (j := i) (x := g.1 8 i) E 9 0 rfl rfl (vp_in_nI hi60 (by decide)) (zw_clamp hi60 (by decide)) rfl dX3_field_83 (pc' := 84) rfl ?_
          refine zw_iald (j := (g.1 8 i).toNatClampNeg) (x := g.1 1 ((g.1 8 i).toNatClampNeg)) E 2 0 rfl rfl ((hm i hi).2 c_4) rfl rfl dX3_field_84 (pc' := 85) rfl ?_
          exact zw_iret E hr hlk dX3_field_85 (by unfold m_field; rw [if_pos c_1, ei2, if_neg s_2, if_pos s_3, if_neg c_4]) rfl
        · skip
          refine zw_iconst (v := (-1)) E dX3_field_70 (by decide) (pc' := 71) rfl ?_
          refine zw_goto (tgt := 85) E dX3_field_71 (by decide) ?_
          exact zw_iret E hr hlk dX3_field_85 (by unfold m_field; rw [if_pos c_1, ei2, if_neg s_2, if_pos s_3, if_pos c_4]) rfl
      · skip
        by_cases s_5 : what = 2
        · refine zw_tableIn (tgt := 86) (off := 75) E dX3_field_11 (by rw [s_5]; decide) (by rw [s_5]; decide) (by rw [s_5]; rfl) (by decide) ?_
          refine zw_aload_n (i := 0) (x := am 0) E 0 dX3_field_86 rfl rfl (pc' := 87) rfl ?_
          refine zw_get (v := .ref (am 8)) E 0 9 iX3_field_X3 fX3_field_31 rfl rfl (by decide) rfl rfl dX3_field_87 (pc' := 90) rfl ?_
          refine zw_iload_n (i := 1) (x := f) E 1 dX3_field_90 rfl rfl (pc' := 91) rfl ?_
          refine zw_topi (x' := nI i) ei ?_
          refine zw_iald (j := i) (x := g.1 7 i) E 8 0 rfl rfl (vp_in_nI hi60 (by decide)) (zw_clamp hi60 (by decide)) rfl dX3_field_91 (pc' := 92) rfl ?_
          exact zw_iret E hr hlk dX3_field_92 (by unfold m_field; rw [if_pos c_1, ei2, if_neg s_2, if_neg s_3, if_pos s_5]) rfl
        · skip
          by_cases s_6 : what = 3
          · refine zw_tableIn (tgt := 93) (off := 82) E dX3_field_11 (by rw [s_6]; decide) (by rw [s_6]; decide) (by rw [s_6]; rfl) (by decide) ?_
            refine zw_aload_n (i := 0) (x := am 0) E 0 dX3_field_93 rfl rfl (pc' := 94) rfl ?_
            refine zw_get (v := .ref (am 9)) E 0 10 iX3_field_X3 fX3_field_34 rfl rfl (by decide) rfl rfl dX3_field_94 (pc' := 97) rfl ?_
            refine zw_iload_n (i := 1) (x := f) E 1 dX3_field_97 rfl rfl (pc' := 98) rfl ?_
            refine zw_topi (x' := nI i) ei ?_
            refine zw_iald (j := i) (x := g.1 8 i) E 9 0 rfl rfl (vp_in_nI hi60 (by decide)) (zw_clamp hi60 (by decide)) rfl dX3_field_98 (pc' := 99) rfl ?_
            exact zw_iret E hr hlk dX3_field_99 (by unfold m_field; rw [if_pos c_1, ei2, if_neg s_2, if_neg s_3, if_neg s_5, if_pos s_6]) rfl
          · skip
            by_cases s_7 : what = 4
            · refine zw_tableIn (tgt := 100) (off := 89) E dX3_field_11 (by rw [s_7]; decide) (by rw [s_7]; decide) (by rw [s_7]; rfl) (by decide) ?_
              refine zw_aload_n (i := 0) (x := am 0) E 0 dX3_field_100 rfl rfl (pc' := 101) rfl ?_
              refine zw_get (v := .ref (am 10)) E 0 11 iX3_field_X3 fX3_field_37 rfl rfl (by decide) rfl rfl dX3_field_101 (pc' := 104) rfl ?_
              refine zw_iload_n (i := 1) (x := f) E 1 dX3_field_104 rfl rfl (pc' := 105) rfl ?_
              refine zw_topi (x' := nI i) ei ?_
              refine zw_iald (j := i) (x := g.1 9 i) E 10 0 rfl rfl (vp_in_nI hi60 (by decide)) (zw_clamp hi60 (by decide)) rfl dX3_field_105 (pc' := 106) rfl ?_
              exact zw_iret E hr hlk dX3_field_106 (by unfold m_field; rw [if_pos c_1, ei2, if_neg s_2, if_neg s_3, if_neg s_5, if_neg s_6, if_pos s_7]) rfl
            · skip
              by_cases s_8 : what = 5
              · refine zw_tableIn (tgt := 107) (off := 96) E dX3_field_11 (by rw [s_8]; decide) (by rw [s_8]; decide) (by rw [s_8]; rfl) (by decide) ?_
                refine zw_aload_n (i := 0) (x := am 0) E 0 dX3_field_107 rfl rfl (pc' := 108) rfl ?_
                refine zw_get (v := .ref (am 11)) E 0 12 iX3_field_X3 fX3_field_40 rfl rfl (by decide) rfl rfl dX3_field_108 (pc' := 111) rfl ?_
                refine zw_iload_n (i := 1) (x := f) E 1 dX3_field_111 rfl rfl (pc' := 112) rfl ?_
                refine zw_topi (x' := nI i) ei ?_
                refine zw_iald (j := i) (x := g.1 10 i) E 11 0 rfl rfl (vp_in_nI hi60 (by decide)) (zw_clamp hi60 (by decide)) rfl dX3_field_112 (pc' := 113) rfl ?_
                exact zw_iret E hr hlk dX3_field_113 (by unfold m_field; rw [if_pos c_1, ei2, if_neg s_2, if_neg s_3, if_neg s_5, if_neg s_6, if_neg s_7, if_pos s_8]) rfl
              · skip
                refine zw_tableOut (tgt := 114) E dX3_field_11 (by have q0 := lv_neT (a := 0) s_2 rfl; have q1 := lv_neT (a := 1) s_3 rfl; have q2 := lv_neT (a := 2) s_5 rfl; have q3 := lv_neT (a := 3) s_6 rfl; have q4 := lv_neT (a := 4) s_7 rfl; have q5 := lv_neT (a := 5) s_8 rfl; omega) (by decide) ?_
                refine zw_iconst (v := (-1)) E dX3_field_114 (by decide) (pc' := 115) rfl ?_
                exact zw_iret E hr hlk dX3_field_115 (by unfold m_field; rw [if_pos c_1, ei2, if_neg s_2, if_neg s_3, if_neg s_5, if_neg s_6, if_neg s_7, if_neg s_8]) rfl
  · skip
    refine zw_iconst (v := (-1)) E dX3_field_8 (by decide) (pc' := 9) rfl ?_
    exact zw_iret E hr hlk dX3_field_9 (by unfold m_field; rw [if_neg c_1]) rfl
