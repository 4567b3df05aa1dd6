/-! the land: tryAct, show -/
abbrev en_ok (b : Bk) (x : Int32) : Prop := (z_at 80 (b.1 0) x = 1 → ∃ j, j < 60 ∧ z_at 80 (b.1 7) x = nI j) ∧ (z_at 80 (b.1 0) x = 2 → ∃ j, j + 1 < 60 ∧ z_at 80 (b.1 7) x = nI j) ∧ (z_at 80 (b.1 0) x = 3 → ∃ j, j < 60 ∧ z_at 80 (b.1 7) x = nI j)
def e_mk (b : Bk) (x : Int32) : Nat := (z_at 80 (b.1 7) x).toNatClampNeg
def r_act (d : Ld) (b : Bk) (kn : Nat) (x : Int32) : Int32 :=
  if z_at 80 (b.1 0) x = 1 then 1 else if z_at 80 (b.1 0) x = 2 then r_part d (z_at 80 (b.1 2) x) (z_at 80 (b.1 4) x) else if z_at 80 (b.1 0) x = 3 then r_join d (z_at 80 (b.1 2) x) (z_at 80 (b.1 3) x)
  else if z_at 80 (b.1 0) x = 4 then r_sell d (z_at 80 (b.1 2) x) (z_at 80 (b.1 6) x) else if z_at 80 (b.1 0) x = 5 then r_settle d b kn (z_at 80 (b.1 1) x) else if z_at 80 (b.1 0) x = 6 then r_buy d (z_at 80 (b.1 2) x) else 0
def d_act (d : Ld) (b : Bk) (kn : Nat) (x : Int32) : Ld :=
  if z_at 80 (b.1 0) x = 1 then ld_make d (e_mk b x) (z_at 80 (b.1 4) x) (z_at 80 (b.1 5) x) (z_at 80 (b.1 6) x) else if z_at 80 (b.1 0) x = 2 then d_part d (z_at 80 (b.1 2) x) (z_at 80 (b.1 4) x) (e_mk b x) else if z_at 80 (b.1 0) x = 3 then d_join d (z_at 80 (b.1 2) x) (z_at 80 (b.1 3) x) (e_mk b x)
  else if z_at 80 (b.1 0) x = 4 then d_sell d (z_at 80 (b.1 2) x) (z_at 80 (b.1 6) x) else if z_at 80 (b.1 0) x = 5 then d_settle d b (z_at 80 (b.1 4) x) kn (z_at 80 (b.1 1) x) else if z_at 80 (b.1 0) x = 6 then d_buy d (z_at 80 (b.1 2) x) else d
theorem zw_inc1' (k : Nat) : nI k + 1 = nI (k + 1) := nI_1 k
theorem r_sell_01 (d : Ld) (f o : Int32) : r_sell d f o = 0 ∨ r_sell d f o = 1 := by
  unfold r_sell; repeat' split
  all_goals simp
theorem r_buy_01 (d : Ld) (f : Int32) : r_buy d f = 0 ∨ r_buy d f = 1 := by
  unfold r_buy; repeat' split
  all_goals simp
theorem r_part_01 (d : Ld) (f o : Int32) : r_part d f o = 0 ∨ r_part d f o = 1 := by
  unfold r_part; repeat' split
  all_goals simp
theorem r_join_01 (d : Ld) (f o : Int32) : r_join d f o = 0 ∨ r_join d f o = 1 := by
  unfold r_join; repeat' split
  all_goals simp
theorem r_settle_01 (d : Ld) (b : Bk) (k : Nat) (y : Int32) : r_settle d b k y = 0 ∨ r_settle d b k y = 1 := by
  unfold r_settle; repeat' split
  all_goals simp
theorem zw_01 {x : Int32} (h : x = 0 ∨ x = 1) : narrow .boolean (.int x) = .int x := by
  rcases h with h | h <;> rw [h] <;> rfl
theorem r_act_01 (d : Ld) (b : Bk) (k : Nat) (x : Int32) : r_act d b k x = 0 ∨ r_act d b k x = 1 := by
  unfold r_act
  split
  · exact Or.inr rfl
  · split
    · exact r_part_01 _ _ _
    · split
      · exact r_join_01 _ _ _
      · split
        · exact r_sell_01 _ _ _
        · split
          · exact r_settle_01 _ _ _ _
          · split
            · exact r_buy_01 _ _
            · exact Or.inl rfl
theorem fX1_tryAct_46 : Cond.fieldLink RX1 46 "TitheMap$Land" "book" "LTitheMap$Book;" ∈ wsX1_tryAct := by decide +kernel
theorem fX1_tryAct_67 : Cond.fieldLink RX1 67 "TitheMap$Book" "year" "[I" ∈ wsX1_tryAct := by decide +kernel
theorem fX1_tryAct_74 : Cond.fieldLink RX1 74 "TitheMap$Book" "first" "[I" ∈ wsX1_tryAct := by decide +kernel
theorem fX1_tryAct_77 : Cond.fieldLink RX1 77 "TitheMap$Book" "made" "[I" ∈ wsX1_tryAct := by decide +kernel
theorem fX1_tryAct_80 : Cond.fieldLink RX1 80 "TitheMap$Book" "amount" "[I" ∈ wsX1_tryAct := by decide +kernel
theorem fX1_tryAct_83 : Cond.fieldLink RX1 83 "TitheMap$Book" "act" "[I" ∈ wsX1_tryAct := by decide +kernel
theorem fX1_tryAct_86 : Cond.fieldLink RX1 86 "TitheMap$Book" "kind" "[I" ∈ wsX1_tryAct := by decide +kernel
theorem fX1_tryAct_87 : Cond.fieldLink RX1 87 "TitheMap$Book" "owner" "[I" ∈ wsX1_tryAct := by decide +kernel
theorem fX1_tryAct_95 : Cond.fieldLink RX1 95 "TitheMap$Book" "second" "[I" ∈ wsX1_tryAct := by decide +kernel
theorem iX1_tryAct_X0 : ∀ w ∈ wsX00, w ∈ wsX1_tryAct := by decide +kernel
theorem iX1_tryAct_X1 : ∀ w ∈ wsX10, w ∈ wsX1_tryAct := by decide +kernel
set_option maxHeartbeats 4000000 in
set_option maxRecDepth 100000 in
/-- tryAct(e, k) -/
theorem qX1_tryAct (l : Launch) (D : va_G) (K : Nat → ClassId) (al ab : Nat → Nat) (d : Ld) (b : Bk) (x : Int32) (kn : Nat) (hkn : kn ≤ 80) (hok : en_ok b x) : zw_I l yX1_tryAct wsX1_tryAct rmX1_tryAct D (zT K) [.ref (al 0), .int x, .int (nI kn)] (lb_W K al ab d b) (r_act d b kn x) (lb_W K al ab (d_act d b kn x) b) := by
  refine zw_ofI (cc := cX1_tryAct) (nL := 6) (ret := (some .boolean)) (own := RX1) (lv := [(0, .ref (al 0)), (1, .int x), (2, .int (nI kn))]) (by decide) rfl (Nat.le_of_ble_eq_true rfl) rfl rfl ?_
  intro p e s m below meth c A E hr hlk
  refine zw_aload_n (i := 0) (x := al 0) E 0 dX1_tryAct_0 rfl rfl (pc' := 1) rfl ?_
  refine zw_get (v := .ref (ab 0)) E 0 0 iX1_tryAct_X1 fX1_tryAct_46 rfl rfl (by decide) rfl rfl dX1_tryAct_1 (pc' := 4) rfl ?_
  refine zw_get (v := .ref (ab 3)) E 14 2 iX1_tryAct_X0 fX1_tryAct_74 rfl rfl (by decide) rfl rfl dX1_tryAct_4 (pc' := 7) rfl ?_
  refine zw_iload_n (i := 1) (x := x) E 1 dX1_tryAct_7 rfl rfl (pc' := 8) rfl ?_
  refine zw_callIn E (r := z_at 80 (b.1 2) x) (As := [.ref (ab 3), .int x]) (rest := []) (ws' := (lb_W K al ab d b)) (qX2_at l D K (ab 3) 80 (b.1 2) x (by decide)) ⟨va_cnB 2 E.2.2.2.2.1 gX1_tryAct_X2_at_n63 rfl rfl rfl E.2.2.2.2.2.2.2.2.2 (E.2.2.2.2.1 _ (by decide +kernel)) (by decide +kernel) ⟨Nat.le_of_ble_eq_true rfl, Nat.le_of_ble_eq_true rfl⟩, E.2.2.2.2.1 _ (by decide +kernel), trivial⟩ [17] (by decide) rfl rfl (zw_put_same _ _ _ rfl) rfl rfl (Nat.le_of_ble_eq_true rfl) ⟨Nat.zero_le _, Nat.zero_le _⟩ dX1_tryAct_8 (pc' := 11) rfl ?_
  refine zw_istore_n (lv' := [(3, .int (z_at 80 (b.1 2) x)), (0, .ref (al 0)), (1, .int x), (2, .int (nI kn))]) E dX1_tryAct_11 rfl (by decide) rfl (pc' := 12) rfl ?_
  refine zw_aload_n (i := 0) (x := al 0) E 1 dX1_tryAct_12 rfl rfl (pc' := 13) rfl ?_
  refine zw_get (v := .ref (ab 0)) E 0 0 iX1_tryAct_X1 fX1_tryAct_46 rfl rfl (by decide) rfl rfl dX1_tryAct_13 (pc' := 16) rfl ?_
  refine zw_get (v := .ref (ab 8)) E 14 7 iX1_tryAct_X0 fX1_tryAct_77 rfl rfl (by decide) rfl rfl dX1_tryAct_16 (pc' := 19) rfl ?_
  refine zw_iload_n (i := 1) (x := x) E 2 dX1_tryAct_19 rfl rfl (pc' := 20) rfl ?_
  refine zw_callIn E (r := z_at 80 (b.1 7) x) (As := [.ref (ab 8), .int x]) (rest := []) (ws' := (lb_W K al ab d b)) (qX2_at l D K (ab 8) 80 (b.1 7) x (by decide)) ⟨va_cnB 2 E.2.2.2.2.1 gX1_tryAct_X2_at_n63 rfl rfl rfl E.2.2.2.2.2.2.2.2.2 (E.2.2.2.2.1 _ (by decide +kernel)) (by decide +kernel) ⟨Nat.le_of_ble_eq_true rfl, Nat.le_of_ble_eq_true rfl⟩, E.2.2.2.2.1 _ (by decide +kernel), trivial⟩ [22] (by decide) rfl rfl (zw_put_same _ _ _ rfl) rfl rfl (Nat.le_of_ble_eq_true rfl) ⟨Nat.zero_le _, Nat.zero_le _⟩ dX1_tryAct_20 (pc' := 23) rfl ?_
  refine zw_istore (lv' := [(4, .int (z_at 80 (b.1 7) x)), (3, .int (z_at 80 (b.1 2) x)), (0, .ref (al 0)), (1, .int x), (2, .int (nI kn))]) E dX1_tryAct_23 (by decide) rfl (pc' := 25) rfl ?_
  refine zw_aload_n (i := 0) (x := al 0) E 2 dX1_tryAct_25 rfl rfl (pc' := 26) rfl ?_
  refine zw_get (v := .ref (ab 0)) E 0 0 iX1_tryAct_X1 fX1_tryAct_46 rfl rfl (by decide) rfl rfl dX1_tryAct_26 (pc' := 29) rfl ?_
  refine zw_get (v := .ref (ab 5)) E 14 4 iX1_tryAct_X0 fX1_tryAct_80 rfl rfl (by decide) rfl rfl dX1_tryAct_29 (pc' := 32) rfl ?_
  refine zw_iload_n (i := 1) (x := x) E 3 dX1_tryAct_32 rfl rfl (pc' := 33) rfl ?_
  refine zw_callIn E (r := z_at 80 (b.1 4) x) (As := [.ref (ab 5), .int x]) (rest := []) (ws' := (lb_W K al ab d b)) (qX2_at l D K (ab 5) 80 (b.1 4) x (by decide)) ⟨va_cnB 2 E.2.2.2.2.1 gX1_tryAct_X2_at_n63 rfl rfl rfl E.2.2.2.2.2.2.2.2.2 (E.2.2.2.2.1 _ (by decide +kernel)) (by decide +kernel) ⟨Nat.le_of_ble_eq_true rfl, Nat.le_of_ble_eq_true rfl⟩, E.2.2.2.2.1 _ (by decide +kernel), trivial⟩ [19] (by decide) rfl rfl (zw_put_same _ _ _ rfl) rfl rfl (Nat.le_of_ble_eq_true rfl) ⟨Nat.zero_le _, Nat.zero_le _⟩ dX1_tryAct_33 (pc' := 36) rfl ?_
  refine zw_istore (lv' := [(5, .int (z_at 80 (b.1 4) x)), (4, .int (z_at 80 (b.1 7) x)), (3, .int (z_at 80 (b.1 2) x)), (0, .ref (al 0)), (1, .int x), (2, .int (nI kn))]) E dX1_tryAct_36 (by decide) rfl (pc' := 38) rfl ?_
  refine zw_aload_n (i := 0) (x := al 0) E 3 dX1_tryAct_38 rfl rfl (pc' := 39) rfl ?_
  refine zw_get (v := .ref (ab 0)) E 0 0 iX1_tryAct_X1 fX1_tryAct_46 rfl rfl (by decide) rfl rfl dX1_tryAct_39 (pc' := 42) rfl ?_
  refine zw_get (v := .ref (ab 1)) E 14 0 iX1_tryAct_X0 fX1_tryAct_83 rfl rfl (by decide) rfl rfl dX1_tryAct_42 (pc' := 45) rfl ?_
  refine zw_iload_n (i := 1) (x := x) E 4 dX1_tryAct_45 rfl rfl (pc' := 46) rfl ?_
  refine zw_callIn E (r := z_at 80 (b.1 0) x) (As := [.ref (ab 1), .int x]) (rest := []) (ws' := (lb_W K al ab d b)) (qX2_at l D K (ab 1) 80 (b.1 0) x (by decide)) ⟨va_cnB 2 E.2.2.2.2.1 gX1_tryAct_X2_at_n63 rfl rfl rfl E.2.2.2.2.2.2.2.2.2 (E.2.2.2.2.1 _ (by decide +kernel)) (by decide +kernel) ⟨Nat.le_of_ble_eq_true rfl, Nat.le_of_ble_eq_true rfl⟩, E.2.2.2.2.1 _ (by decide +kernel), trivial⟩ [15] (by decide) rfl rfl (zw_put_same _ _ _ rfl) rfl rfl (Nat.le_of_ble_eq_true rfl) ⟨Nat.zero_le _, Nat.zero_le _⟩ dX1_tryAct_46 (pc' := 49) rfl ?_
  by_cases s_1 : z_at 80 (b.1 0) x = 1
  · refine zw_tableIn (tgt := 88) (off := 39) E dX1_tryAct_49 (by rw [s_1]; decide) (by rw [s_1]; decide) (by rw [s_1]; rfl) (by decide) ?_
    obtain ⟨j, hj, ej⟩ := hok.1 s_1
    refine zw_aload_n (i := 0) (x := al 0) E 3 dX1_tryAct_88 rfl rfl (pc' := 89) rfl ?_
    refine zw_iload (x := z_at 80 (b.1 7) x) E 1 dX1_tryAct_89 rfl (pc' := 91) rfl ?_
    refine zw_topi (x' := nI j) ej ?_
    refine zw_iload (x := z_at 80 (b.1 4) x) E 0 dX1_tryAct_91 rfl (pc' := 93) rfl ?_
    refine zw_aload_n (i := 0) (x := al 0) E 3 dX1_tryAct_93 rfl rfl (pc' := 94) rfl ?_
    refine zw_get (v := .ref (ab 0)) E 0 0 iX1_tryAct_X1 fX1_tryAct_46 rfl rfl (by decide) rfl rfl dX1_tryAct_94 (pc' := 97) rfl ?_
    refine zw_get (v := .ref (ab 6)) E 14 5 iX1_tryAct_X0 fX1_tryAct_86 rfl rfl (by decide) rfl rfl dX1_tryAct_97 (pc' := 100) rfl ?_
    refine zw_iload_n (i := 1) (x := x) E 4 dX1_tryAct_100 rfl rfl (pc' := 101) rfl ?_
    refine zw_callIn E (r := z_at 80 (b.1 5) x) (As := [.ref (ab 6), .int x]) (rest := [.int (z_at 80 (b.1 4) x), .int (nI j), .ref (al 0)]) (ws' := (lb_W K al ab d b)) (qX2_at l D K (ab 6) 80 (b.1 5) x (by decide)) ⟨va_cnB 2 E.2.2.2.2.1 gX1_tryAct_X2_at_n63 rfl rfl rfl E.2.2.2.2.2.2.2.2.2 (E.2.2.2.2.1 _ (by decide +kernel)) (by decide +kernel) ⟨Nat.le_of_ble_eq_true rfl, Nat.le_of_ble_eq_true rfl⟩, E.2.2.2.2.1 _ (by decide +kernel), trivial⟩ [20] (by decide) rfl rfl (zw_put_same _ _ _ rfl) rfl rfl (Nat.le_of_ble_eq_true rfl) ⟨Nat.zero_le _, Nat.zero_le _⟩ dX1_tryAct_101 (pc' := 104) rfl ?_
    refine zw_aload_n (i := 0) (x := al 0) E 3 dX1_tryAct_104 rfl rfl (pc' := 105) rfl ?_
    refine zw_get (v := .ref (ab 0)) E 0 0 iX1_tryAct_X1 fX1_tryAct_46 rfl rfl (by decide) rfl rfl dX1_tryAct_105 (pc' := 108) rfl ?_
    refine zw_get (v := .ref (ab 7)) E 14 6 iX1_tryAct_X0 fX1_tryAct_87 rfl rfl (by decide) rfl rfl dX1_tryAct_108 (pc' := 111) rfl ?_
    refine zw_iload_n (i := 1) (x := x) E 4 dX1_tryAct_111 rfl rfl (pc' := 112) rfl ?_
    refine zw_callIn E (r := z_at 80 (b.1 6) x) (As := [.ref (ab 7), .int x]) (rest := [.int (z_at 80 (b.1 5) x), .int (z_at 80 (b.1 4) x), .int (nI j), .ref (al 0)]) (ws' := (lb_W K al ab d b)) (qX2_at l D K (ab 7) 80 (b.1 6) x (by decide)) ⟨va_cnB 2 E.2.2.2.2.1 gX1_tryAct_X2_at_n63 rfl rfl rfl E.2.2.2.2.2.2.2.2.2 (E.2.2.2.2.1 _ (by decide +kernel)) (by decide +kernel) ⟨Nat.le_of_ble_eq_true rfl, Nat.le_of_ble_eq_true rfl⟩, E.2.2.2.2.1 _ (by decide +kernel), trivial⟩ [21] (by decide) rfl rfl (zw_put_same _ _ _ rfl) rfl rfl (Nat.le_of_ble_eq_true rfl) ⟨Nat.zero_le _, Nat.zero_le _⟩ dX1_tryAct_112 (pc' := 115) rfl ?_
    refine zw_callIv E (r := 1) (As := [.int (nI j), .int (z_at 80 (b.1 4) x), .int (z_at 80 (b.1 5) x), .int (z_at 80 (b.1 6) x)]) (rest := []) (ws' := (lb_W K al ab (ld_make d j (z_at 80 (b.1 4) x) (z_at 80 (b.1 5) x) (z_at 80 (b.1 6) x)) b)) (qX1_tryMake l D K al (ab 0) d j hj (z_at 80 (b.1 4) x) (z_at 80 (b.1 5) x) (z_at 80 (b.1 6) x)) (cwV 4 E.2.2.2.2.1 gX1_tryAct_X1_tryMake rfl rfl rfl (by decide +kernel) ⟨Nat.le_of_ble_eq_true rfl, Nat.le_of_ble_eq_true rfl⟩) 0 rfl rfl rfl [0, 1, 2, 3, 4, 5, 6, 7, 8, 9, 10, 11, 12, 13] (by decide) emC_lb_d (ld_ad _ _ _ _ _) emP_lb_d rfl rfl (Nat.le_of_ble_eq_true rfl) ⟨Nat.zero_le _, Nat.zero_le _⟩ dX1_tryAct_115 (pc' := 118) rfl ?_
    exact zw_zret E hr hlk dX1_tryAct_118 rfl (by unfold r_act; rw [if_pos s_1]) (by unfold d_act; rw [if_pos s_1]; unfold e_mk; rw [ej, nI_clamp (by omega)])
  · skip
    by_cases s_2 : z_at 80 (b.1 0) x = 2
    · refine zw_tableIn (tgt := 119) (off := 70) E dX1_tryAct_49 (by rw [s_2]; decide) (by rw [s_2]; decide) (by rw [s_2]; rfl) (by decide) ?_
      obtain ⟨j, hj, ej⟩ := hok.2.1 s_2
      refine zw_aload_n (i := 0) (x := al 0) E 3 dX1_tryAct_119 rfl rfl (pc' := 120) rfl ?_
      refine zw_iload_n (i := 3) (x := z_at 80 (b.1 2) x) E 2 dX1_tryAct_120 rfl rfl (pc' := 121) rfl ?_
      refine zw_iload (x := z_at 80 (b.1 4) x) E 0 dX1_tryAct_121 rfl (pc' := 123) rfl ?_
      refine zw_iload (x := z_at 80 (b.1 7) x) E 1 dX1_tryAct_123 rfl (pc' := 125) rfl ?_
      refine zw_topi (x' := nI j) ej ?_
      refine zw_iload (x := z_at 80 (b.1 7) x) E 1 dX1_tryAct_125 rfl (pc' := 127) rfl ?_
      refine zw_topi (x' := nI j) ej ?_
      refine zw_iconst (v := 1) E dX1_tryAct_127 (by decide) (pc' := 128) rfl ?_
      refine zw_iadd E dX1_tryAct_128 (pc' := 129) rfl ?_
      refine zw_topi (x' := nI (j + 1)) (nI_1 j) ?_
      refine zw_callIv E (r := r_part d (z_at 80 (b.1 2) x) (z_at 80 (b.1 4) x)) (As := [.int (z_at 80 (b.1 2) x), .int (z_at 80 (b.1 4) x), .int (nI j), .int (nI (j + 1))]) (rest := []) (ws' := (lb_W K al ab (d_part d (z_at 80 (b.1 2) x) (z_at 80 (b.1 4) x) j) b)) (qX1_tryPart l D K al (ab 0) d (z_at 80 (b.1 2) x) (z_at 80 (b.1 4) x) j hj) (cwV 4 E.2.2.2.2.1 gX1_tryAct_X1_tryPart rfl rfl rfl (by decide +kernel) ⟨Nat.le_of_ble_eq_true rfl, Nat.le_of_ble_eq_true rfl⟩) 0 rfl rfl rfl [0, 1, 2, 3, 4, 5, 6, 7, 8, 9, 10, 11, 12, 13] (by decide) emC_lb_d (ld_ad _ _ _ _ _) emP_lb_d rfl rfl (Nat.le_of_ble_eq_true rfl) ⟨Nat.zero_le _, Nat.zero_le _⟩ dX1_tryAct_129 (pc' := 132) rfl ?_
      exact zw_zret E hr hlk dX1_tryAct_132 (zw_01 (r_part_01 _ _ _)) (by unfold r_act; rw [if_neg s_1, if_pos s_2]) (by unfold d_act; rw [if_neg s_1, if_pos s_2]; unfold e_mk; rw [ej, nI_clamp (by omega)])
    · skip
      by_cases s_3 : z_at 80 (b.1 0) x = 3
      · refine zw_tableIn (tgt := 133) (off := 84) E dX1_tryAct_49 (by rw [s_3]; decide) (by rw [s_3]; decide) (by rw [s_3]; rfl) (by decide) ?_
        obtain ⟨j, hj, ej⟩ := hok.2.2 s_3
        refine zw_aload_n (i := 0) (x := al 0) E 3 dX1_tryAct_133 rfl rfl (pc' := 134) rfl ?_
        refine zw_iload_n (i := 3) (x := z_at 80 (b.1 2) x) E 2 dX1_tryAct_134 rfl rfl (pc' := 135) rfl ?_
        refine zw_aload_n (i := 0) (x := al 0) E 3 dX1_tryAct_135 rfl rfl (pc' := 136) rfl ?_
        refine zw_get (v := .ref (ab 0)) E 0 0 iX1_tryAct_X1 fX1_tryAct_46 rfl rfl (by decide) rfl rfl dX1_tryAct_136 (pc' := 139) rfl ?_
        refine zw_get (v := .ref (ab 4)) E 14 3 iX1_tryAct_X0 fX1_tryAct_95 rfl rfl (by decide) rfl rfl dX1_tryAct_139 (pc' := 142) rfl ?_
        refine zw_iload_n (i := 1) (x := x) E 4 dX1_tryAct_142 rfl rfl (pc' := 143) rfl ?_
        refine zw_callIn E (r := z_at 80 (b.1 3) x) (As := [.ref (ab 4), .int x]) (rest := [.int (z_at 80 (b.1 2) x), .ref (al 0)]) (ws' := (lb_W K al ab d b)) (qX2_at l D K (ab 4) 80 (b.1 3) x (by decide)) ⟨va_cnB 2 E.2.2.2.2.1 gX1_tryAct_X2_at_n63 rfl rfl rfl E.2.2.2.2.2.2.2.2.2 (E.2.2.2.2.1 _ (by decide +kernel)) (by decide +kernel) ⟨Nat.le_of_ble_eq_true rfl, Nat.le_of_ble_eq_true rfl⟩, E.2.2.2.2.1 _ (by decide +kernel), trivial⟩ [18] (by decide) rfl rfl (zw_put_same _ _ _ rfl) rfl rfl (Nat.le_of_ble_eq_true rfl) ⟨Nat.zero_le _, Nat.zero_le _⟩ dX1_tryAct_143 (pc' := 146) rfl ?_
        refine zw_iload (x := z_at 80 (b.1 7) x) E 1 dX1_tryAct_146 rfl (pc' := 148) rfl ?_
        refine zw_topi (x' := nI j) ej ?_
        refine zw_callIv E (r := r_join d (z_at 80 (b.1 2) x) (z_at 80 (b.1 3) x)) (As := [.int (z_at 80 (b.1 2) x), .int (z_at 80 (b.1 3) x), .int (nI j)]) (rest := []) (ws' := (lb_W K al ab (d_join d (z_at 80 (b.1 2) x) (z_at 80 (b.1 3) x) j) b)) (qX1_tryJoin l D K al (ab 0) d (z_at 80 (b.1 2) x) (z_at 80 (b.1 3) x) j hj) (cwV 3 E.2.2.2.2.1 gX1_tryAct_X1_tryJoin rfl rfl rfl (by decide +kernel) ⟨Nat.le_of_ble_eq_true rfl, Nat.le_of_ble_eq_true rfl⟩) 0 rfl rfl rfl [0, 1, 2, 3, 4, 5, 6, 7, 8, 9, 10, 11, 12, 13] (by decide) emC_lb_d (ld_ad _ _ _ _ _) emP_lb_d rfl rfl (Nat.le_of_ble_eq_true rfl) ⟨Nat.zero_le _, Nat.zero_le _⟩ dX1_tryAct_148 (pc' := 151) rfl ?_
        exact zw_zret E hr hlk dX1_tryAct_151 (zw_01 (r_join_01 _ _ _)) (by unfold r_act; rw [if_neg s_1, if_neg s_2, if_pos s_3]) (by unfold d_act; rw [if_neg s_1, if_neg s_2, if_pos s_3]; unfold e_mk; rw [ej, nI_clamp (by omega)])
      · skip
        by_cases s_4 : z_at 80 (b.1 0) x = 4
        · refine zw_tableIn (tgt := 152) (off := 103) E dX1_tryAct_49 (by rw [s_4]; decide) (by rw [s_4]; decide) (by rw [s_4]; rfl) (by decide) ?_
          refine zw_aload_n (i := 0) (x := al 0) E 3 dX1_tryAct_152 rfl rfl (pc' := 153) rfl ?_
          refine zw_iload_n (i := 3) (x := z_at 80 (b.1 2) x) E 2 dX1_tryAct_153 rfl rfl (pc' := 154) rfl ?_
          refine zw_aload_n (i := 0) (x := al 0) E 3 dX1_tryAct_154 rfl rfl (pc' := 155) rfl ?_
          refine zw_get (v := .ref (ab 0)) E 0 0 iX1_tryAct_X1 fX1_tryAct_46 rfl rfl (by decide) rfl rfl dX1_tryAct_155 (pc' := 158) rfl ?_
          refine zw_get (v := .ref (ab 7)) E 14 6 iX1_tryAct_X0 fX1_tryAct_87 rfl rfl (by decide) rfl rfl dX1_tryAct_158 (pc' := 161) rfl ?_
          refine zw_iload_n (i := 1) (x := x) E 4 dX1_tryAct_161 rfl rfl (pc' := 162) rfl ?_
          refine zw_callIn E (r := z_at 80 (b.1 6) x) (As := [.ref (ab 7), .int x]) (rest := [.int (z_at 80 (b.1 2) x), .ref (al 0)]) (ws' := (lb_W K al ab d b)) (qX2_at l D K (ab 7) 80 (b.1 6) x (by decide)) ⟨va_cnB 2 E.2.2.2.2.1 gX1_tryAct_X2_at_n63 rfl rfl rfl E.2.2.2.2.2.2.2.2.2 (E.2.2.2.2.1 _ (by decide +kernel)) (by decide +kernel) ⟨Nat.le_of_ble_eq_true rfl, Nat.le_of_ble_eq_true rfl⟩, E.2.2.2.2.1 _ (by decide +kernel), trivial⟩ [21] (by decide) rfl rfl (zw_put_same _ _ _ rfl) rfl rfl (Nat.le_of_ble_eq_true rfl) ⟨Nat.zero_le _, Nat.zero_le _⟩ dX1_tryAct_162 (pc' := 165) rfl ?_
          refine zw_callIv E (r := r_sell d (z_at 80 (b.1 2) x) (z_at 80 (b.1 6) x)) (As := [.int (z_at 80 (b.1 2) x), .int (z_at 80 (b.1 6) x)]) (rest := []) (ws' := (lb_W K al ab (d_sell d (z_at 80 (b.1 2) x) (z_at 80 (b.1 6) x)) b)) (qX1_trySell l D K al (ab 0) d (z_at 80 (b.1 2) x) (z_at 80 (b.1 6) x) ) (cwV 2 E.2.2.2.2.1 gX1_tryAct_X1_trySell rfl rfl rfl (by decide +kernel) ⟨Nat.le_of_ble_eq_true rfl, Nat.le_of_ble_eq_true rfl⟩) 0 rfl rfl rfl [0, 1, 2, 3, 4, 5, 6, 7, 8, 9, 10, 11, 12, 13] (by decide) emC_lb_d (ld_ad _ _ _ _ _) emP_lb_d rfl rfl (Nat.le_of_ble_eq_true rfl) ⟨Nat.zero_le _, Nat.zero_le _⟩ dX1_tryAct_165 (pc' := 168) rfl ?_
          exact zw_zret E hr hlk dX1_tryAct_168 (zw_01 (r_sell_01 _ _ _)) (by unfold r_act; rw [if_neg s_1, if_neg s_2, if_neg s_3, if_pos s_4]) (by unfold d_act; rw [if_neg s_1, if_neg s_2, if_neg s_3, if_pos s_4])
        · skip
          by_cases s_5 : z_at 80 (b.1 0) x = 5
          · refine zw_tableIn (tgt := 169) (off := 120) E dX1_tryAct_49 (by rw [s_5]; decide) (by rw [s_5]; decide) (by rw [s_5]; rfl) (by decide) ?_
            refine zw_aload_n (i := 0) (x := al 0) E 3 dX1_tryAct_169 rfl rfl (pc' := 170) rfl ?_
            refine zw_iload (x := z_at 80 (b.1 4) x) E 0 dX1_tryAct_170 rfl (pc' := 172) rfl ?_
            refine zw_iload_n (i := 2) (x := nI kn) E 5 dX1_tryAct_172 rfl rfl (pc' := 173) rfl ?_
            refine zw_aload_n (i := 0) (x := al 0) E 3 dX1_tryAct_173 rfl rfl (pc' := 174) rfl ?_
            refine zw_get (v := .ref (ab 0)) E 0 0 iX1_tryAct_X1 fX1_tryAct_46 rfl rfl (by decide) rfl rfl dX1_tryAct_174 (pc' := 177) rfl ?_
            refine zw_get (v := .ref (ab 2)) E 14 1 iX1_tryAct_X0 fX1_tryAct_67 rfl rfl (by decide) rfl rfl dX1_tryAct_177 (pc' := 180) rfl ?_
            refine zw_iload_n (i := 1) (x := x) E 4 dX1_tryAct_180 rfl rfl (pc' := 181) rfl ?_
            refine zw_callIn E (r := z_at 80 (b.1 1) x) (As := [.ref (ab 2), .int x]) (rest := [.int (nI kn), .int (z_at 80 (b.1 4) x), .ref (al 0)]) (ws' := (lb_W K al ab d b)) (qX2_at l D K (ab 2) 80 (b.1 1) x (by decide)) ⟨va_cnB 2 E.2.2.2.2.1 gX1_tryAct_X2_at_n63 rfl rfl rfl E.2.2.2.2.2.2.2.2.2 (E.2.2.2.2.1 _ (by decide +kernel)) (by decide +kernel) ⟨Nat.le_of_ble_eq_true rfl, Nat.le_of_ble_eq_true rfl⟩, E.2.2.2.2.1 _ (by decide +kernel), trivial⟩ [16] (by decide) rfl rfl (zw_put_same _ _ _ rfl) rfl rfl (Nat.le_of_ble_eq_true rfl) ⟨Nat.zero_le _, Nat.zero_le _⟩ dX1_tryAct_181 (pc' := 184) rfl ?_
            refine zw_callIw E (r := r_settle d b kn (z_at 80 (b.1 1) x)) (As := [.int (z_at 80 (b.1 4) x), .int (nI kn), .int (z_at 80 (b.1 1) x)]) (rest := []) (ws' := (lb_W K al ab (d_settle d b (z_at 80 (b.1 4) x) kn (z_at 80 (b.1 1) x)) b)) (qX1_trySettle l D K al ab d b (z_at 80 (b.1 4) x) kn hkn (z_at 80 (b.1 1) x)) (cwV 3 E.2.2.2.2.1 gX1_tryAct_X1_trySettle rfl rfl rfl (by decide +kernel) ⟨Nat.le_of_ble_eq_true rfl, Nat.le_of_ble_eq_true rfl⟩) 0 rfl rfl rfl (lb_ad _ _ _ _ _ _ _) rfl rfl (Nat.le_of_ble_eq_true rfl) ⟨Nat.zero_le _, Nat.zero_le _⟩ dX1_tryAct_184 (pc' := 187) rfl ?_
            exact zw_zret E hr hlk dX1_tryAct_187 (zw_01 (r_settle_01 _ _ _ _)) (by unfold r_act; rw [if_neg s_1, if_neg s_2, if_neg s_3, if_neg s_4, if_pos s_5]) (by unfold d_act; rw [if_neg s_1, if_neg s_2, if_neg s_3, if_neg s_4, if_pos s_5])
          · skip
            by_cases s_6 : z_at 80 (b.1 0) x = 6
            · refine zw_tableIn (tgt := 188) (off := 139) E dX1_tryAct_49 (by rw [s_6]; decide) (by rw [s_6]; decide) (by rw [s_6]; rfl) (by decide) ?_
              refine zw_aload_n (i := 0) (x := al 0) E 3 dX1_tryAct_188 rfl rfl (pc' := 189) rfl ?_
              refine zw_iload_n (i := 3) (x := z_at 80 (b.1 2) x) E 2 dX1_tryAct_189 rfl rfl (pc' := 190) rfl ?_
              refine zw_callIv E (r := r_buy d (z_at 80 (b.1 2) x)) (As := [.int (z_at 80 (b.1 2) x)]) (rest := []) (ws' := (lb_W K al ab (d_buy d (z_at 80 (b.1 2) x)) b)) (qX1_tryBuy l D K al (ab 0) d (z_at 80 (b.1 2) x) ) (cwV 1 E.2.2.2.2.1 gX1_tryAct_X1_tryBuy rfl rfl rfl (by decide +kernel) ⟨Nat.le_of_ble_eq_true rfl, Nat.le_of_ble_eq_true rfl⟩) 0 rfl rfl rfl [0, 1, 2, 3, 4, 5, 6, 7, 8, 9, 10, 11, 12, 13] (by decide) emC_lb_d (ld_ad _ _ _ _ _) emP_lb_d rfl rfl (Nat.le_of_ble_eq_true rfl) ⟨Nat.zero_le _, Nat.zero_le _⟩ dX1_tryAct_190 (pc' := 193) rfl ?_
              exact zw_zret E hr hlk dX1_tryAct_193 (zw_01 (r_buy_01 _ _)) (by unfold r_act; rw [if_neg s_1, if_neg s_2, if_neg s_3, if_neg s_4, if_neg s_5, if_pos s_6]) (by unfold d_act; rw [if_neg s_1, if_neg s_2, if_neg s_3, if_neg s_4, if_neg s_5, if_pos s_6])
            · skip
              refine zw_tableOut (tgt := 194) E dX1_tryAct_49 (by have q0 := lv_neT (a := 1) s_1 rfl; have q1 := lv_neT (a := 2) s_2 rfl; have q2 := lv_neT (a := 3) s_3 rfl; have q3 := lv_neT (a := 4) s_4 rfl; have q4 := lv_neT (a := 5) s_5 rfl; have q5 := lv_neT (a := 6) s_6 rfl; omega) (by decide) ?_
              refine zw_iconst (v := 0) E dX1_tryAct_194 (by decide) (pc' := 195) rfl ?_
              exact zw_zret E hr hlk dX1_tryAct_195 rfl (by unfold r_act; rw [if_neg s_1, if_neg s_2, if_neg s_3, if_neg s_4, if_neg s_5, if_neg s_6]) (by unfold d_act; rw [if_neg s_1, if_neg s_2, if_neg s_3, if_neg s_4, if_neg s_5, if_neg s_6])

def ld_wipe (d : Ld) (k : Nat) : Ld := ((fun r => if r = 0 then (fun f => if f < k then 0 else d.1 0 f) else d.1 r), d.2)
theorem ld_wipe_0 (d : Ld) : ld_wipe d 0 = d := by
  refine Prod.ext (funext fun r => ?_) rfl
  show (if r = 0 then (fun f => if f < 0 then 0 else d.1 0 f) else d.1 r) = d.1 r
  by_cases h : r = 0
  · subst h
    rw [if_pos rfl]
    funext f
    rw [if_neg (Nat.not_lt_zero f)]
  · rw [if_neg h]
theorem ld_wipe_succ (d : Ld) (k : Nat) : ld_row (ld_wipe d k) 0 k 0 = ld_wipe d (k + 1) := by
  refine Prod.ext (funext fun r => ?_) rfl
  show (if r = 0 then upd ((ld_wipe d k).1 0) k 0 else (ld_wipe d k).1 r) = (if r = 0 then (fun f => if f < k + 1 then 0 else d.1 0 f) else d.1 r)
  by_cases h : r = 0
  · subst h
    rw [if_pos rfl, if_pos rfl]
    funext f
    show (if f = k then 0 else (if f < k then 0 else d.1 0 f)) = _
    by_cases h1 : f = k
    · subst h1
      rw [if_pos rfl, if_pos (Nat.lt_succ_self f)]
    · rw [if_neg h1]
      by_cases h2 : f < k
      · rw [if_pos h2, if_pos (by omega)]
      · rw [if_neg h2, if_neg (by omega)]
  · rw [if_neg h, if_neg h]
    show (if r = 0 then _ else _) = _
    rw [if_neg h]
/-- the acts from place i on, so many are left -/
def shw (b : Bk) (kn : Nat) (y ut : Int32) : Nat → Nat → Ld → Int32 × Ld
  | 0, _, d => (1, d)
  | r + 1, i, d =>
    if z_at 80 (b.1 8) (nI i) = ut then (1, d) else
    if z_at 80 (b.1 1) (z_at 80 (b.1 8) (nI i)) ≤ y then
      if nI kn ≤ z_at 80 (b.1 8) (nI i) then shw b kn y ut r (i + 1) d else
      if r_act d b kn (z_at 80 (b.1 8) (nI i)) = 0 then (0, d_act d b kn (z_at 80 (b.1 8) (nI i))) else shw b kn y ut r (i + 1) (d_act d b kn (z_at 80 (b.1 8) (nI i)))
    else (1, d)
def ld_show (d : Ld) (b : Bk) (kn : Nat) (y ut : Int32) : Int32 × Ld := shw b kn y ut (b.2 0) 0 (ld_set (ld_wipe d 60) 0)
theorem shw_01 (b : Bk) (kn : Nat) (y ut : Int32) : ∀ (r i : Nat) (d : Ld), (shw b kn y ut r i d).1 = 0 ∨ (shw b kn y ut r i d).1 = 1
  | 0, _, d => Or.inr rfl
  | r + 1, i, d => by
    rw [shw]
    split
    · exact Or.inr rfl
    · split
      · split
        · exact shw_01 b kn y ut r (i + 1) d
        · split
          · exact Or.inl rfl
          · exact shw_01 b kn y ut r (i + 1) _
      · exact Or.inr rfl
theorem fX1_show_46 : Cond.fieldLink RX1 46 "TitheMap$Land" "book" "LTitheMap$Book;" ∈ wsX1_show := by decide +kernel
theorem fX1_show_50 : Cond.fieldLink RX1 50 "TitheMap$Land" "settled" "Z" ∈ wsX1_show := by decide +kernel
theorem fX1_show_54 : Cond.fieldLink RX1 54 "TitheMap$Book" "acts" "I" ∈ wsX1_show := by decide +kernel
theorem fX1_show_60 : Cond.fieldLink RX1 60 "TitheMap$Book" "order" "[I" ∈ wsX1_show := by decide +kernel
theorem fX1_show_67 : Cond.fieldLink RX1 67 "TitheMap$Book" "year" "[I" ∈ wsX1_show := by decide +kernel
theorem fX1_show_9 : Cond.fieldLink RX1 9 "TitheMap$Land" "there" "[Z" ∈ wsX1_show := by decide +kernel
theorem iX1_show_X0 : ∀ w ∈ wsX00, w ∈ wsX1_show := by decide +kernel
theorem iX1_show_X1 : ∀ w ∈ wsX10, w ∈ wsX1_show := by decide +kernel
set_option maxHeartbeats 4000000 in
set_option maxRecDepth 100000 in
theorem lX1_show2 {l : Launch} {D : va_G} {K : Nat → ClassId} {p : Program} {e : Env} {s : State} {m : MethodId} {below : List Frame} {meth : Method} {c : Code} {A : Nat → Prop} {args : Array Value} (E : zw_E p s m args c cX1_show 6 RX1 wsX1_show D (zT K) A) (hr : meth.sig.returnType = some .boolean) (hlk : meth.locks = false) (al ab : Nat → Nat) (b : Bk) (kn : Nat) (hkn : kn ≤ 80) (y ut : Int32) (h80 : b.2 0 ≤ 80) (hok : ∀ i, i < b.2 0 → en_ok b (z_at 80 (b.1 8) (nI i))) : ∀ (r i : Nat) (d : Ld), r + i = b.2 0 → zw_W p l e rmX1_show s m args below meth c 6 D A 0 0 (zw_Qi D A below args s (shw b kn y ut r i d).1 (lb_W K al ab (shw b kn y ut r i d).2 b)) 32 [(0, .ref (al 0)), (1, .int (nI kn)), (2, .int y), (3, .int ut), (4, .int (nI i))] [] (lb_W K al ab d b) := by
  intro r
  induction r with
  | zero =>
    intro i d hri
    have hi0 : b.2 0 ≤ i := by omega
    refine zw_iload (x := nI i) E 4 dX1_show_32 rfl (pc' := 34) rfl ?_
    refine zw_aload_n (i := 0) (x := al 0) E 0 dX1_show_34 rfl rfl (pc' := 35) rfl ?_
    refine zw_get (v := .ref (ab 0)) E 0 0 iX1_show_X1 fX1_show_46 rfl rfl (by decide) rfl rfl dX1_show_35 (pc' := 38) rfl ?_
    refine zw_get (v := .int (nI (b.2 0))) E 14 11 iX1_show_X0 fX1_show_54 rfl rfl (by decide) rfl rfl dX1_show_38 (pc' := 41) rfl ?_
    refine zw_icmp_ge (tgt := 106) E dX1_show_41 (by decide) (pc' := 44) rfl (fun c_1 => ?_) (fun c_1 => ?_)
    · skip
      refine zw_iconst (v := 1) E dX1_show_106 (by decide) (pc' := 107) rfl ?_
      exact zw_zret E hr hlk dX1_show_107 rfl rfl rfl
    · exact absurd (nI_le hi0 (by omega)) c_1
  | succ r ih =>
    intro i d hri
    have hi : i < b.2 0 := by omega
    refine zw_iload (x := nI i) E 4 dX1_show_32 rfl (pc' := 34) rfl ?_
    refine zw_aload_n (i := 0) (x := al 0) E 0 dX1_show_34 rfl rfl (pc' := 35) rfl ?_
    refine zw_get (v := .ref (ab 0)) E 0 0 iX1_show_X1 fX1_show_46 rfl rfl (by decide) rfl rfl dX1_show_35 (pc' := 38) rfl ?_
    refine zw_get (v := .int (nI (b.2 0))) E 14 11 iX1_show_X0 fX1_show_54 rfl rfl (by decide) rfl rfl dX1_show_38 (pc' := 41) rfl ?_
    refine zw_icmp_ge (tgt := 106) E dX1_show_41 (by decide) (pc' := 44) rfl (fun c_1 => ?_) (fun c_1 => ?_)
    · exact absurd c_1 (nI_ge hi (by omega))
    · skip
      refine zw_aload_n (i := 0) (x := al 0) E 0 dX1_show_44 rfl rfl (pc' := 45) rfl ?_
      refine zw_get (v := .ref (ab 0)) E 0 0 iX1_show_X1 fX1_show_46 rfl rfl (by decide) rfl rfl dX1_show_45 (pc' := 48) rfl ?_
      refine zw_get (v := .ref (ab 9)) E 14 8 iX1_show_X0 fX1_show_60 rfl rfl (by decide) rfl rfl dX1_show_48 (pc' := 51) rfl ?_
      refine zw_iload (x := nI i) E 4 dX1_show_51 rfl (pc' := 53) rfl ?_
      refine zw_callIn E (r := z_at 80 (b.1 8) (nI i)) (As := [.ref (ab 9), .int (nI i)]) (rest := []) (ws' := (lb_W K al ab d b)) (qX2_at l D K (ab 9) 80 (b.1 8) (nI i) (by decide)) ⟨va_cnB 2 E.2.2.2.2.1 gX1_show_X2_at_n63 rfl rfl rfl E.2.2.2.2.2.2.2.2.2 (E.2.2.2.2.1 _ (by decide +kernel)) (by decide +kernel) ⟨Nat.le_of_ble_eq_true rfl, Nat.le_of_ble_eq_true rfl⟩, E.2.2.2.2.1 _ (by decide +kernel), trivial⟩ [23] (by decide) rfl rfl (zw_put_same _ _ _ rfl) rfl rfl (Nat.le_of_ble_eq_true rfl) ⟨Nat.zero_le _, Nat.zero_le _⟩ dX1_show_53 (pc' := 56) rfl ?_
      refine zw_istore (lv' := [(5, .int (z_at 80 (b.1 8) (nI i))), (0, .ref (al 0)), (1, .int (nI kn)), (2, .int y), (3, .int ut), (4, .int (nI i))]) E dX1_show_56 (by decide) rfl (pc' := 58) rfl ?_
      refine zw_iload (x := z_at 80 (b.1 8) (nI i)) E 0 dX1_show_58 rfl (pc' := 60) rfl ?_
      refine zw_iload_n (i := 3) (x := ut) E 4 dX1_show_60 rfl rfl (pc' := 61) rfl ?_
      refine zw_icmp_eq (tgt := 80) E dX1_show_61 (by decide) (pc' := 64) rfl (fun c_2 => ?_) (fun c_2 => ?_)
      · skip
        refine zw_iconst (v := 1) E dX1_show_80 (by decide) (pc' := 81) rfl ?_
        exact zw_zret E hr hlk dX1_show_81 rfl (by rw [shw, if_pos c_2]) (by rw [shw, if_pos c_2])
      · skip
        refine zw_aload_n (i := 0) (x := al 0) E 1 dX1_show_64 rfl rfl (pc' := 65) rfl ?_
        refine zw_get (v := .ref (ab 0)) E 0 0 iX1_show_X1 fX1_show_46 rfl rfl (by decide) rfl rfl dX1_show_65 (pc' := 68) rfl ?_
        refine zw_get (v := .ref (ab 2)) E 14 1 iX1_show_X0 fX1_show_67 rfl rfl (by decide) rfl rfl dX1_show_68 (pc' := 71) rfl ?_
        refine zw_iload (x := z_at 80 (b.1 8) (nI i)) E 0 dX1_show_71 rfl (pc' := 73) rfl ?_
        refine zw_callIn E (r := z_at 80 (b.1 1) (z_at 80 (b.1 8) (nI i))) (As := [.ref (ab 2), .int (z_at 80 (b.1 8) (nI i))]) (rest := []) (ws' := (lb_W K al ab d b)) (qX2_at l D K (ab 2) 80 (b.1 1) (z_at 80 (b.1 8) (nI i)) (by decide)) ⟨va_cnB 2 E.2.2.2.2.1 gX1_show_X2_at_n63 rfl rfl rfl E.2.2.2.2.2.2.2.2.2 (E.2.2.2.2.1 _ (by decide +kernel)) (by decide +kernel) ⟨Nat.le_of_ble_eq_true rfl, Nat.le_of_ble_eq_true rfl⟩, E.2.2.2.2.1 _ (by decide +kernel), trivial⟩ [16] (by decide) rfl rfl (zw_put_same _ _ _ rfl) rfl rfl (Nat.le_of_ble_eq_true rfl) ⟨Nat.zero_le _, Nat.zero_le _⟩ dX1_show_73 (pc' := 76) rfl ?_
        refine zw_iload_n (i := 2) (x := y) E 3 dX1_show_76 rfl rfl (pc' := 77) rfl ?_
        refine zw_icmp_le (tgt := 82) E dX1_show_77 (by decide) (pc' := 80) rfl (fun c_3 => ?_) (fun c_3 => ?_)
        · skip
          refine zw_iload (x := z_at 80 (b.1 8) (nI i)) E 0 dX1_show_82 rfl (pc' := 84) rfl ?_
          refine zw_iload_n (i := 1) (x := nI kn) E 2 dX1_show_84 rfl rfl (pc' := 85) rfl ?_
          refine zw_icmp_ge (tgt := 100) E dX1_show_85 (by decide) (pc' := 88) rfl (fun c_4 => ?_) (fun c_4 => ?_)
          · skip
            refine zw_iinc (x := nI i) (v := nI (i + 1)) (lv' := [(4, .int (nI (i + 1))), (5, .int (z_at 80 (b.1 8) (nI i))), (0, .ref (al 0)), (1, .int (nI kn)), (2, .int y), (3, .int ut)]) E 5 dX1_show_100 rfl (zw_inc1 i) (by decide) rfl (pc' := 103) rfl ?_
            refine zw_goto (tgt := 32) E dX1_show_103 (by decide) ?_
            have e1 : shw b kn y ut (r + 1) i d = shw b kn y ut r (i + 1) d := by rw [shw, if_neg c_2, if_pos c_3, if_pos c_4]
            rw [e1]
            refine zw_sub [2, 3, 4, 5, 0] (lv' := [(0, .ref (al 0)), (1, .int (nI kn)), (2, .int y), (3, .int ut), (4, .int (nI (i + 1)))]) rfl ?_
            exact ih (i + 1) d (by omega)
          · skip
            refine zw_aload_n (i := 0) (x := al 0) E 1 dX1_show_88 rfl rfl (pc' := 89) rfl ?_
            refine zw_iload (x := z_at 80 (b.1 8) (nI i)) E 0 dX1_show_89 rfl (pc' := 91) rfl ?_
            refine zw_iload_n (i := 1) (x := nI kn) E 2 dX1_show_91 rfl rfl (pc' := 92) rfl ?_
            refine zw_callIw E (r := r_act d b kn (z_at 80 (b.1 8) (nI i))) (As := [.int (z_at 80 (b.1 8) (nI i)), .int (nI kn)]) (rest := []) (ws' := (lb_W K al ab (d_act d b kn (z_at 80 (b.1 8) (nI i))) b)) (qX1_tryAct l D K al ab d b (z_at 80 (b.1 8) (nI i)) kn hkn (hok i hi)) (cwV 2 E.2.2.2.2.1 gX1_show_X1_tryAct rfl rfl rfl (by decide +kernel) ⟨Nat.le_of_ble_eq_true rfl, Nat.le_of_ble_eq_true rfl⟩) 0 rfl rfl rfl (lb_ad _ _ _ _ _ _ _) rfl rfl (Nat.le_of_ble_eq_true rfl) ⟨Nat.zero_le _, Nat.zero_le _⟩ dX1_show_92 (pc' := 95) rfl ?_
            refine zw_if_ne (tgt := 100) E dX1_show_95 (by decide) (pc' := 98) rfl (fun c_5 => ?_) (fun c_5 => ?_)
            · skip
              refine zw_iinc (x := nI i) (v := nI (i + 1)) (lv' := [(4, .int (nI (i + 1))), (5, .int (z_at 80 (b.1 8) (nI i))), (0, .ref (al 0)), (1, .int (nI kn)), (2, .int y), (3, .int ut)]) E 5 dX1_show_100 rfl (zw_inc1 i) (by decide) rfl (pc' := 103) rfl ?_
              refine zw_goto (tgt := 32) E dX1_show_103 (by decide) ?_
              have e1 : shw b kn y ut (r + 1) i d = shw b kn y ut r (i + 1) (d_act d b kn (z_at 80 (b.1 8) (nI i))) := by rw [shw, if_neg c_2, if_pos c_3, if_neg c_4, if_neg c_5]
              rw [e1]
              refine zw_sub [2, 3, 4, 5, 0] (lv' := [(0, .ref (al 0)), (1, .int (nI kn)), (2, .int y), (3, .int ut), (4, .int (nI (i + 1)))]) rfl ?_
              exact ih (i + 1) (d_act d b kn (z_at 80 (b.1 8) (nI i))) (by omega)
            · skip
              refine zw_iconst (v := 0) E dX1_show_98 (by decide) (pc' := 99) rfl ?_
              exact zw_zret E hr hlk dX1_show_99 rfl (by rw [shw, if_neg c_2, if_pos c_3, if_neg c_4, if_pos c_5]) (by rw [shw, if_neg c_2, if_pos c_3, if_neg c_4, if_pos c_5])
        · skip
          refine zw_iconst (v := 1) E dX1_show_80 (by decide) (pc' := 81) rfl ?_
          exact zw_zret E hr hlk dX1_show_81 rfl (by rw [shw, if_neg c_2, if_neg c_3]) (by rw [shw, if_neg c_2, if_neg c_3])

set_option maxHeartbeats 4000000 in
set_option maxRecDepth 100000 in
theorem lX1_show {l : Launch} {D : va_G} {K : Nat → ClassId} {p : Program} {e : Env} {s : State} {m : MethodId} {below : List Frame} {meth : Method} {c : Code} {A : Nat → Prop} {args : Array Value} (E : zw_E p s m args c cX1_show 6 RX1 wsX1_show D (zT K) A) (hr : meth.sig.returnType = (some .boolean)) (hlk : meth.locks = false) (al ab : Nat → Nat) (d : Ld) (b : Bk) (kn : Nat) (hkn : kn ≤ 80) (y ut : Int32) (h80 : b.2 0 ≤ 80) (hok : ∀ i, i < b.2 0 → en_ok b (z_at 80 (b.1 8) (nI i))) : ∀ (fu k : Nat), k ≤ 60 → 60 + 1 ≤ k + fu → zw_W p l e rmX1_show s m args below meth c 6 D A 0 0 (zw_Qi D A below args s (ld_show d b kn y ut).1 (lb_W K al ab (ld_show d b kn y ut).2 b)) 3 [(0, .ref (al 0)), (1, .int (nI kn)), (2, .int y), (3, .int ut), (4, .int (nI k))] [] (lb_W K al ab (ld_wipe d k) b) := by
  intro fu
  induction fu with
  | zero => intro k h1 h2; exact absurd h2 (by omega)
  | succ fu ih =>
    intro k hle hfu
    refine zw_iload (x := nI k) E 4 dX1_show_3 rfl (pc' := 5) rfl ?_
    refine zw_bipush (v := 60) E dX1_show_5 (by decide) (pc' := 7) rfl ?_
    refine zw_icmp_ge (tgt := 24) E dX1_show_7 (by decide) (pc' := 10) rfl (fun c_1 => ?_) (fun c_1 => ?_)
    · skip
      have hk60 : k = 60 := zw_ge60 c_1 hle
      refine zw_aload_n (i := 0) (x := al 0) E 0 dX1_show_24 rfl rfl (pc' := 25) rfl ?_
      refine zw_iconst (v := 0) E dX1_show_25 (by decide) (pc' := 26) rfl ?_
      refine zw_putf (v := .int 0) (ty := .boolean) (ws' := (lb_W K al ab (ld_set (ld_wipe d k) 0) b)) E 0 11 iX1_show_X1 tyX1_ok nmX1 fX1_show_50 rfl rfl (by decide) rfl rfl rfl rfl rfl (Nat.le_of_ble_eq_true rfl) rfl dX1_show_26 (pc' := 29) rfl ?_
      refine zw_iconst (v := 0) E dX1_show_29 (by decide) (pc' := 30) rfl ?_
      refine zw_istore (lv' := [(4, .int 0), (0, .ref (al 0)), (1, .int (nI kn)), (2, .int y), (3, .int ut)]) E dX1_show_30 (by decide) rfl (pc' := 32) rfl ?_
      refine zw_sub [1, 2, 3, 4, 0] (lv' := [(0, .ref (al 0)), (1, .int (nI kn)), (2, .int y), (3, .int ut), (4, .int 0)]) rfl ?_
      rw [hk60]
      exact lX1_show2 E hr hlk al ab b kn hkn y ut h80 hok (b.2 0) 0 _ (by omega)
    · skip
      have hk : k < 60 := zw_lt60 c_1 hle
      refine zw_aload_n (i := 0) (x := al 0) E 0 dX1_show_10 rfl rfl (pc' := 11) rfl ?_
      refine zw_get (v := .ref (al 1)) E 0 1 iX1_show_X1 fX1_show_9 rfl rfl (by decide) rfl rfl dX1_show_11 (pc' := 14) rfl ?_
      refine zw_iload (x := nI k) E 4 dX1_show_14 rfl (pc' := 16) rfl ?_
      refine zw_iconst (v := 0) E dX1_show_16 (by decide) (pc' := 17) rfl ?_
      refine zw_zast (j := k) (ws' := (lb_W K al ab (ld_row (ld_wipe d k) 0 k 0) b)) E 1 1 rfl rfl (vp_in_nI hk (by decide)) (zw_clamp hk (by decide)) rfl dX1_show_17 (pc' := 18) rfl ?_
      refine zw_iinc (x := nI k) (v := nI (k + 1)) (lv' := [(4, .int (nI (k + 1))), (0, .ref (al 0)), (1, .int (nI kn)), (2, .int y), (3, .int ut)]) E 4 dX1_show_18 rfl (zw_inc1 k) (by decide) rfl (pc' := 21) rfl ?_
      refine zw_goto (tgt := 3) E dX1_show_21 (by decide) ?_
      refine zw_ws (ws' := lb_W K al ab (ld_wipe d (k + 1)) b) (congrArg (fun z => lb_W K al ab z b) (ld_wipe_succ d k)) ?_
      refine zw_sub [1, 2, 3, 4, 0] (lv' := [(0, .ref (al 0)), (1, .int (nI kn)), (2, .int y), (3, .int ut), (4, .int (nI (k + 1)))]) rfl ?_
      exact ih (k + 1) (by omega) (by omega)

set_option maxHeartbeats 4000000 in
set_option maxRecDepth 100000 in
/-- show(k, y, until) -/
theorem qX1_show (l : Launch) (D : va_G) (K : Nat → ClassId) (al ab : Nat → Nat) (d : Ld) (b : Bk) (kn : Nat) (hkn : kn ≤ 80) (y ut : Int32) (h80 : b.2 0 ≤ 80) (hok : ∀ i, i < b.2 0 → en_ok b (z_at 80 (b.1 8) (nI i))) : zw_I l yX1_show wsX1_show rmX1_show D (zT K) [.ref (al 0), .int (nI kn), .int y, .int ut] (lb_W K al ab d b) ((ld_show d b kn y ut).1) (lb_W K al ab (ld_show d b kn y ut).2 b) := by
  refine zw_ofI (cc := cX1_show) (nL := 6) (ret := (some .boolean)) (own := RX1) (lv := [(0, .ref (al 0)), (1, .int (nI kn)), (2, .int y), (3, .int ut)]) (by decide) rfl (Nat.le_of_ble_eq_true rfl) rfl rfl ?_
  intro p e s m below meth c A E hr hlk
  refine zw_iconst (v := 0) E dX1_show_0 (by decide) (pc' := 1) rfl ?_
  refine zw_istore (lv' := [(4, .int 0), (0, .ref (al 0)), (1, .int (nI kn)), (2, .int y), (3, .int ut)]) E dX1_show_1 (by decide) rfl (pc' := 3) rfl ?_
  refine zw_ws (ws' := lb_W K al ab (ld_wipe d 0) b) (congrArg (fun z => lb_W K al ab z b) (ld_wipe_0 d).symm) ?_
  refine zw_sub [1, 2, 3, 4, 0] (lv' := [(0, .ref (al 0)), (1, .int (nI kn)), (2, .int y), (3, .int ut), (4, .int 0)]) rfl ?_
  exact lX1_show E hr hlk al ab d b kn hkn y ut h80 hok 61 0 (by omega) (by omega)
