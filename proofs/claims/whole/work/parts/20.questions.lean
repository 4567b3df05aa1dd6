/-! the map: the questions -/
def r_average (b : Bk) (k y cn : Int32) : Int32 := if (0 ≤ k ∧ k ≤ nI (b.2 1)) then if (1 ≤ y ∧ y ≤ 200) then if (0 ≤ cn ∧ cn ≤ 2) then bk_mean b k.toNatClampNeg y cn else -1 else -1 else -1
theorem fX2_average_10 : Cond.fieldLink RX2 10 "TitheMap" "book" "LTitheMap$Book;" ∈ wsX2_average := by decide +kernel
theorem iX2_average_X2 : ∀ w ∈ wsX20, w ∈ wsX2_average := by decide +kernel
set_option maxHeartbeats 4000000 in
set_option maxRecDepth 100000 in
/-- average(k, y, corn) -/
theorem qX2_average (l : Launch) (D : va_G) (K : Nat → ClassId) (a0 : Nat) (ab al ao : Nat → Nat) (b : Bk) (d o : Ld) (k y cn : Int32) (hs80 : b.2 1 ≤ 80) (ha80 : b.2 0 ≤ b.2 1) : zw_I l yX2_average wsX2_average rmX2_average D (zT K) [.ref a0, .int k, .int y, .int cn] (tm_W K a0 ab al ao b d o) (r_average b k y cn) (tm_W K a0 ab al ao b d o) := by
  refine zw_ofI (cc := cX2_average) (nL := 4) (ret := (some .int)) (own := RX2) (lv := [(0, .ref a0), (1, .int k), (2, .int y), (3, .int cn)]) (by decide) rfl (Nat.le_of_ble_eq_true rfl) rfl rfl ?_
  intro p e s m below meth c A E hr hlk
  refine zw_aload_n (i := 0) (x := a0) E 0 dX2_average_0 rfl rfl (pc' := 1) rfl ?_
  refine zw_iload_n (i := 1) (x := k) E 1 dX2_average_1 rfl rfl (pc' := 2) rfl ?_
  refine zw_callIw E (r := zb (0 ≤ k ∧ k ≤ nI (b.2 1))) (As := [.int k]) (rest := []) (ws' := (tm_W K a0 ab al ao b d o)) (qX2_isKnowing l D K a0 ab al ao b d o k) (cwV 1 E.2.2.2.2.1 gX2_average_X2_isKnowing rfl rfl rfl (by decide +kernel) ⟨Nat.le_of_ble_eq_true rfl, Nat.le_of_ble_eq_true rfl⟩) 0 rfl rfl rfl rfl rfl rfl (Nat.le_of_ble_eq_true rfl) ⟨Nat.zero_le _, Nat.zero_le _⟩ dX2_average_2 (pc' := 5) rfl ?_
  refine zw_ifb_eq (tgt := 28) E dX2_average_5 (by decide) (pc' := 8) rfl (fun c_1 => ?_) (fun c_1 => ?_)
  · skip
    refine zw_iconst (v := (-1)) E dX2_average_28 (by decide) (pc' := 29) rfl ?_
    exact zw_iret E hr hlk dX2_average_29 (by unfold r_average; rw [if_neg c_1]) rfl
  · skip
    obtain ⟨kn, hkn, ek⟩ := zw_kn hs80 c_1
    have ek2 : k.toNatClampNeg = kn := by rw [ek]; exact nI_clamp (by omega)
    have hkn80 : kn ≤ 80 := Nat.le_trans hkn hs80
    have hb80 : b.2 0 ≤ 80 := Nat.le_trans ha80 hs80
    refine zw_iload_n (i := 2) (x := y) E 2 dX2_average_8 rfl rfl (pc' := 9) rfl ?_
    refine zw_iconst (v := 1) E dX2_average_9 (by decide) (pc' := 10) rfl ?_
    refine zw_sipush (v := 200) E dX2_average_10 (by decide) (pc' := 13) rfl ?_
    refine zw_callIs E (r := zb (1 ≤ y ∧ y ≤ 200)) (As := [.int y, .int 1, .int 200]) (rest := []) (ws' := (tm_W K a0 ab al ao b d o)) (qX2_isWithin l D K y 1 200) (va_cwS 3 E.2.2.2.2.1 gX2_average_X2_isWithin rfl rfl rfl (by decide +kernel) ⟨Nat.le_of_ble_eq_true rfl, Nat.le_of_ble_eq_true rfl⟩) [] (by decide) rfl rfl (zw_put_same _ _ _ rfl) rfl rfl (Nat.le_of_ble_eq_true rfl) ⟨Nat.zero_le _, Nat.zero_le _⟩ dX2_average_13 (pc' := 16) rfl ?_
    refine zw_ifb_eq (tgt := 28) E dX2_average_16 (by decide) (pc' := 19) rfl (fun c_2 => ?_) (fun c_2 => ?_)
    · skip
      refine zw_iconst (v := (-1)) E dX2_average_28 (by decide) (pc' := 29) rfl ?_
      exact zw_iret E hr hlk dX2_average_29 (by unfold r_average; rw [if_pos c_1, if_neg c_2]) rfl
    · skip
      refine zw_iload_n (i := 3) (x := cn) E 3 dX2_average_19 rfl rfl (pc' := 20) rfl ?_
      refine zw_iconst (v := 0) E dX2_average_20 (by decide) (pc' := 21) rfl ?_
      refine zw_iconst (v := 2) E dX2_average_21 (by decide) (pc' := 22) rfl ?_
      refine zw_callIs E (r := zb (0 ≤ cn ∧ cn ≤ 2)) (As := [.int cn, .int 0, .int 2]) (rest := []) (ws' := (tm_W K a0 ab al ao b d o)) (qX2_isWithin l D K cn 0 2) (va_cwS 3 E.2.2.2.2.1 gX2_average_X2_isWithin rfl rfl rfl (by decide +kernel) ⟨Nat.le_of_ble_eq_true rfl, Nat.le_of_ble_eq_true rfl⟩) [] (by decide) rfl rfl (zw_put_same _ _ _ rfl) rfl rfl (Nat.le_of_ble_eq_true rfl) ⟨Nat.zero_le _, Nat.zero_le _⟩ dX2_average_22 (pc' := 25) rfl ?_
      refine zw_ifb_ne (tgt := 30) E dX2_average_25 (by decide) (pc' := 28) rfl (fun c_3 => ?_) (fun c_3 => ?_)
      · skip
        refine zw_aload_n (i := 0) (x := a0) E 0 dX2_average_30 rfl rfl (pc' := 31) rfl ?_
        refine zw_get (v := .ref (ab 0)) E 0 0 iX2_average_X2 fX2_average_10 rfl rfl (by decide) rfl rfl dX2_average_31 (pc' := 34) rfl ?_
        refine zw_iload_n (i := 1) (x := k) E 1 dX2_average_34 rfl rfl (pc' := 35) rfl ?_
        refine zw_topi (x' := nI kn) ek ?_
        refine zw_iload_n (i := 2) (x := y) E 2 dX2_average_35 rfl rfl (pc' := 36) rfl ?_
        refine zw_iload_n (i := 3) (x := cn) E 3 dX2_average_36 rfl rfl (pc' := 37) rfl ?_
        refine zw_callIv E (r := bk_mean b kn y cn) (As := [.int (nI kn), .int y, .int cn]) (rest := []) (ws' := (tm_W K a0 ab al ao b d o)) (qX0_mean l D K ab b kn hkn80 y cn) (cwV 3 E.2.2.2.2.1 gX2_average_X0_mean rfl rfl rfl (by decide +kernel) ⟨Nat.le_of_ble_eq_true rfl, Nat.le_of_ble_eq_true rfl⟩) 0 rfl rfl rfl [1, 2, 3, 4, 5, 6, 7, 8, 9, 10, 11, 12] (by decide) emC_tm_b rfl (zw_put_same _ _ _ emC_tm_b) rfl rfl (Nat.le_of_ble_eq_true rfl) ⟨Nat.zero_le _, Nat.zero_le _⟩ dX2_average_37 (pc' := 40) rfl ?_
        exact zw_iret E hr hlk dX2_average_40 (by unfold r_average; rw [if_pos c_1, if_pos c_2, if_pos c_3, ek2]) rfl
      · skip
        refine zw_iconst (v := (-1)) E dX2_average_28 (by decide) (pc' := 29) rfl ?_
        exact zw_iret E hr hlk dX2_average_29 (by unfold r_average; rw [if_pos c_1, if_pos c_2, if_neg c_3]) rfl

def r_look (b : Bk) (d : Ld) (k y f what : Int32) : Int32 := if (0 ≤ k ∧ k ≤ nI (b.2 1)) then if (0 ≤ y ∧ y ≤ 200) then if (0 ≤ f ∧ f ≤ nI (b.2 2) - 1) then t_tell (ld_show d b k.toNatClampNeg y (-1)).2 f what else -1 else -1 else -1
def d_look (b : Bk) (d : Ld) (k y f what : Int32) : Ld := if (0 ≤ k ∧ k ≤ nI (b.2 1)) then if (0 ≤ y ∧ y ≤ 200) then if (0 ≤ f ∧ f ≤ nI (b.2 2) - 1) then (ld_show d b k.toNatClampNeg y (-1)).2 else d else d else d
theorem fX2_look_21 : Cond.fieldLink RX2 21 "TitheMap" "land" "LTitheMap$Land;" ∈ wsX2_look := by decide +kernel
theorem iX2_look_X2 : ∀ w ∈ wsX20, w ∈ wsX2_look := by decide +kernel
set_option maxHeartbeats 4000000 in
set_option maxRecDepth 100000 in
/-- look -/
theorem qX2_look (l : Launch) (D : va_G) (K : Nat → ClassId) (a0 : Nat) (ab al ao : Nat → Nat) (b : Bk) (d o : Ld) (k y f what : Int32) (hs80 : b.2 1 ≤ 80) (ha80 : b.2 0 ≤ b.2 1) (hok : ∀ i, i < b.2 0 → en_ok b (z_at 80 (b.1 8) (nI i))) : zw_I l yX2_look wsX2_look rmX2_look D (zT K) [.ref a0, .int k, .int y, .int f, .int what] (tm_W K a0 ab al ao b d o) (r_look b d k y f what) (tm_W K a0 ab al ao b (d_look b d k y f what) o) := by
  refine zw_ofI (cc := cX2_look) (nL := 5) (ret := (some .int)) (own := RX2) (lv := [(0, .ref a0), (1, .int k), (2, .int y), (3, .int f), (4, .int what)]) (by decide) rfl (Nat.le_of_ble_eq_true rfl) rfl rfl ?_
  intro p e s m below meth c A E hr hlk
  refine zw_aload_n (i := 0) (x := a0) E 0 dX2_look_0 rfl rfl (pc' := 1) rfl ?_
  refine zw_iload_n (i := 1) (x := k) E 1 dX2_look_1 rfl rfl (pc' := 2) rfl ?_
  refine zw_callIw E (r := zb (0 ≤ k ∧ k ≤ nI (b.2 1))) (As := [.int k]) (rest := []) (ws' := (tm_W K a0 ab al ao b d o)) (qX2_isKnowing l D K a0 ab al ao b d o k) (cwV 1 E.2.2.2.2.1 gX2_look_X2_isKnowing rfl rfl rfl (by decide +kernel) ⟨Nat.le_of_ble_eq_true rfl, Nat.le_of_ble_eq_true rfl⟩) 0 rfl rfl rfl rfl rfl rfl (Nat.le_of_ble_eq_true rfl) ⟨Nat.zero_le _, Nat.zero_le _⟩ dX2_look_2 (pc' := 5) rfl ?_
  refine zw_ifb_eq (tgt := 27) E dX2_look_5 (by decide) (pc' := 8) rfl (fun c_1 => ?_) (fun c_1 => ?_)
  · skip
    refine zw_iconst (v := (-1)) E dX2_look_27 (by decide) (pc' := 28) rfl ?_
    exact zw_iret E hr hlk dX2_look_28 (by unfold r_look; rw [if_neg c_1]) (zw_tm2 rfl (by unfold d_look; rw [if_neg c_1]) rfl)
  · skip
    obtain ⟨kn, hkn, ek⟩ := zw_kn hs80 c_1
    have ek2 : k.toNatClampNeg = kn := by rw [ek]; exact nI_clamp (by omega)
    have hkn80 : kn ≤ 80 := Nat.le_trans hkn hs80
    have hb80 : b.2 0 ≤ 80 := Nat.le_trans ha80 hs80
    refine zw_iload_n (i := 2) (x := y) E 2 dX2_look_8 rfl rfl (pc' := 9) rfl ?_
    refine zw_iconst (v := 0) E dX2_look_9 (by decide) (pc' := 10) rfl ?_
    refine zw_sipush (v := 200) E dX2_look_10 (by decide) (pc' := 13) rfl ?_
    refine zw_callIs E (r := zb (0 ≤ y ∧ y ≤ 200)) (As := [.int y, .int 0, .int 200]) (rest := []) (ws' := (tm_W K a0 ab al ao b d o)) (qX2_isWithin l D K y 0 200) (va_cwS 3 E.2.2.2.2.1 gX2_look_X2_isWithin rfl rfl rfl (by decide +kernel) ⟨Nat.le_of_ble_eq_true rfl, Nat.le_of_ble_eq_true rfl⟩) [] (by decide) rfl rfl (zw_put_same _ _ _ rfl) rfl rfl (Nat.le_of_ble_eq_true rfl) ⟨Nat.zero_le _, Nat.zero_le _⟩ dX2_look_13 (pc' := 16) rfl ?_
    refine zw_ifb_eq (tgt := 27) E dX2_look_16 (by decide) (pc' := 19) rfl (fun c_2 => ?_) (fun c_2 => ?_)
    · skip
      refine zw_iconst (v := (-1)) E dX2_look_27 (by decide) (pc' := 28) rfl ?_
      exact zw_iret E hr hlk dX2_look_28 (by unfold r_look; rw [if_pos c_1, if_neg c_2]) (zw_tm2 rfl (by unfold d_look; rw [if_pos c_1, if_neg c_2]) rfl)
    · skip
      refine zw_aload_n (i := 0) (x := a0) E 0 dX2_look_19 rfl rfl (pc' := 20) rfl ?_
      refine zw_iload_n (i := 3) (x := f) E 3 dX2_look_20 rfl rfl (pc' := 21) rfl ?_
      refine zw_callIw E (r := zb (0 ≤ f ∧ f ≤ nI (b.2 2) - 1)) (As := [.int f]) (rest := []) (ws' := (tm_W K a0 ab al ao b d o)) (qX2_isField l D K a0 ab al ao b d o f) (cwV 1 E.2.2.2.2.1 gX2_look_X2_isField rfl rfl rfl (by decide +kernel) ⟨Nat.le_of_ble_eq_true rfl, Nat.le_of_ble_eq_true rfl⟩) 0 rfl rfl rfl rfl rfl rfl (Nat.le_of_ble_eq_true rfl) ⟨Nat.zero_le _, Nat.zero_le _⟩ dX2_look_21 (pc' := 24) rfl ?_
      refine zw_ifb_ne (tgt := 29) E dX2_look_24 (by decide) (pc' := 27) rfl (fun c_3 => ?_) (fun c_3 => ?_)
      · skip
        refine zw_aload_n (i := 0) (x := a0) E 0 dX2_look_29 rfl rfl (pc' := 30) rfl ?_
        refine zw_get (v := .ref (al 0)) E 0 1 iX2_look_X2 fX2_look_21 rfl rfl (by decide) rfl rfl dX2_look_30 (pc' := 33) rfl ?_
        refine zw_iload_n (i := 1) (x := k) E 1 dX2_look_33 rfl rfl (pc' := 34) rfl ?_
        refine zw_topi (x' := nI kn) ek ?_
        refine zw_iload_n (i := 2) (x := y) E 2 dX2_look_34 rfl rfl (pc' := 35) rfl ?_
        refine zw_iconst (v := (-1)) E dX2_look_35 (by decide) (pc' := 36) rfl ?_
        refine zw_callIv E (r := (ld_show d b kn y (-1)).1) (As := [.int (nI kn), .int y, .int (-1)]) (rest := []) (ws' := (tm_W K a0 ab al ao b ((ld_show d b kn y (-1)).2) o)) (qX1_show l D K al ab d b kn hkn80 y (-1) hb80 hok) (cwV 3 E.2.2.2.2.1 gX2_look_X1_show rfl rfl rfl (by decide +kernel) ⟨Nat.le_of_ble_eq_true rfl, Nat.le_of_ble_eq_true rfl⟩) 0 rfl rfl rfl [13, 14, 15, 16, 17, 18, 19, 20, 21, 22, 23, 24, 25, 26, 1, 2, 3, 4, 5, 6, 7, 8, 9, 10, 11, 12] (by decide) emC_tm_lbd (lb_ad _ _ _ _ _ _ _) emP_tm_lbd rfl rfl (Nat.le_of_ble_eq_true rfl) ⟨Nat.zero_le _, Nat.zero_le _⟩ dX2_look_36 (pc' := 39) rfl ?_
        refine zw_pop E dX2_look_39 rfl (pc' := 40) rfl ?_
        refine zw_aload_n (i := 0) (x := a0) E 0 dX2_look_40 rfl rfl (pc' := 41) rfl ?_
        refine zw_get (v := .ref (al 0)) E 0 1 iX2_look_X2 fX2_look_21 rfl rfl (by decide) rfl rfl dX2_look_41 (pc' := 44) rfl ?_
        refine zw_iload_n (i := 3) (x := f) E 3 dX2_look_44 rfl rfl (pc' := 45) rfl ?_
        refine zw_iload (x := what) E 4 dX2_look_45 rfl (pc' := 47) rfl ?_
        refine zw_callIv E (r := t_tell ((ld_show d b kn y (-1)).2) f what) (As := [.int f, .int what]) (rest := []) (ws' := (tm_W K a0 ab al ao b ((ld_show d b kn y (-1)).2) o)) (qX1_tell l D K al (ab 0) ((ld_show d b kn y (-1)).2) f what) (cwV 2 E.2.2.2.2.1 gX2_look_X1_tell rfl rfl rfl (by decide +kernel) ⟨Nat.le_of_ble_eq_true rfl, Nat.le_of_ble_eq_true rfl⟩) 0 rfl rfl rfl [13, 14, 15, 16, 17, 18, 19, 20, 21, 22, 23, 24, 25, 26] (by decide) emC_tm_d rfl (zw_put_same _ _ _ emC_tm_d) rfl rfl (Nat.le_of_ble_eq_true rfl) ⟨Nat.zero_le _, Nat.zero_le _⟩ dX2_look_47 (pc' := 50) rfl ?_
        exact zw_iret E hr hlk dX2_look_50 (by unfold r_look; rw [if_pos c_1, if_pos c_2, if_pos c_3, ek2]) (zw_tm2 rfl (by unfold d_look; rw [if_pos c_1, if_pos c_2, if_pos c_3, ek2]) rfl)
      · skip
        refine zw_iconst (v := (-1)) E dX2_look_27 (by decide) (pc' := 28) rfl ?_
        exact zw_iret E hr hlk dX2_look_28 (by unfold r_look; rw [if_pos c_1, if_pos c_2, if_neg c_3]) (zw_tm2 rfl (by unfold d_look; rw [if_pos c_1, if_pos c_2, if_neg c_3]) rfl)

def r_money (b : Bk) (d : Ld) (k y f : Int32) : Int64 := if (0 ≤ k ∧ k ≤ nI (b.2 1)) then if (1 ≤ y ∧ y ≤ 200) then if (0 ≤ f ∧ f ≤ nI (b.2 2) - 1) then r_worth (ld_show d b k.toNatClampNeg y (-1)).2 b k.toNatClampNeg y f else -1 else -1 else -1
def d_money (b : Bk) (d : Ld) (k y f : Int32) : Ld := if (0 ≤ k ∧ k ≤ nI (b.2 1)) then if (1 ≤ y ∧ y ≤ 200) then if (0 ≤ f ∧ f ≤ nI (b.2 2) - 1) then d_worth (ld_show d b k.toNatClampNeg y (-1)).2 b k.toNatClampNeg y f else d else d else d
theorem kX2_money_96 : Cond.constantLong RX2 96 (-1) ∈ wsX2_money := by decide +kernel
theorem fX2_money_21 : Cond.fieldLink RX2 21 "TitheMap" "land" "LTitheMap$Land;" ∈ wsX2_money := by decide +kernel
theorem iX2_money_X2 : ∀ w ∈ wsX20, w ∈ wsX2_money := by decide +kernel
set_option maxHeartbeats 4000000 in
set_option maxRecDepth 100000 in
/-- money -/
theorem qX2_money (l : Launch) (D : va_G) (K : Nat → ClassId) (a0 : Nat) (ab al ao : Nat → Nat) (b : Bk) (d o : Ld) (k y f : Int32) (hs80 : b.2 1 ≤ 80) (ha80 : b.2 0 ≤ b.2 1) (hok : ∀ i, i < b.2 0 → en_ok b (z_at 80 (b.1 8) (nI i))) : zw_L l yX2_money wsX2_money rmX2_money D (zT K) [.ref a0, .int k, .int y, .int f] (tm_W K a0 ab al ao b d o) (r_money b d k y f) (tm_W K a0 ab al ao b (d_money b d k y f) o) := by
  refine zw_ofL (cc := cX2_money) (nL := 4) (ret := (some .long)) (own := RX2) (lv := [(0, .ref a0), (1, .int k), (2, .int y), (3, .int f)]) (by decide) rfl (Nat.le_of_ble_eq_true rfl) rfl rfl ?_
  intro p e s m below meth c A E hr hlk
  refine zw_aload_n (i := 0) (x := a0) E 0 dX2_money_0 rfl rfl (pc' := 1) rfl ?_
  refine zw_iload_n (i := 1) (x := k) E 1 dX2_money_1 rfl rfl (pc' := 2) rfl ?_
  refine zw_callIw E (r := zb (0 ≤ k ∧ k ≤ nI (b.2 1))) (As := [.int k]) (rest := []) (ws' := (tm_W K a0 ab al ao b d o)) (qX2_isKnowing l D K a0 ab al ao b d o k) (cwV 1 E.2.2.2.2.1 gX2_money_X2_isKnowing rfl rfl rfl (by decide +kernel) ⟨Nat.le_of_ble_eq_true rfl, Nat.le_of_ble_eq_true rfl⟩) 0 rfl rfl rfl rfl rfl rfl (Nat.le_of_ble_eq_true rfl) ⟨Nat.zero_le _, Nat.zero_le _⟩ dX2_money_2 (pc' := 5) rfl ?_
  refine zw_ifb_eq (tgt := 27) E dX2_money_5 (by decide) (pc' := 8) rfl (fun c_1 => ?_) (fun c_1 => ?_)
  · skip
    refine zw_ldc2 (v := (-1)) E dX2_money_27 kX2_money_96 (pc' := 30) rfl ?_
    exact zw_lret E hr hlk dX2_money_30 (by unfold r_money; rw [if_neg c_1]) (zw_tm2 rfl (by unfold d_money; rw [if_neg c_1]) rfl)
  · skip
    obtain ⟨kn, hkn, ek⟩ := zw_kn hs80 c_1
    have ek2 : k.toNatClampNeg = kn := by rw [ek]; exact nI_clamp (by omega)
    have hkn80 : kn ≤ 80 := Nat.le_trans hkn hs80
    have hb80 : b.2 0 ≤ 80 := Nat.le_trans ha80 hs80
    refine zw_iload_n (i := 2) (x := y) E 2 dX2_money_8 rfl rfl (pc' := 9) rfl ?_
    refine zw_iconst (v := 1) E dX2_money_9 (by decide) (pc' := 10) rfl ?_
    refine zw_sipush (v := 200) E dX2_money_10 (by decide) (pc' := 13) rfl ?_
    refine zw_callIs E (r := zb (1 ≤ y ∧ y ≤ 200)) (As := [.int y, .int 1, .int 200]) (rest := []) (ws' := (tm_W K a0 ab al ao b d o)) (qX2_isWithin l D K y 1 200) (va_cwS 3 E.2.2.2.2.1 gX2_money_X2_isWithin rfl rfl rfl (by decide +kernel) ⟨Nat.le_of_ble_eq_true rfl, Nat.le_of_ble_eq_true rfl⟩) [] (by decide) rfl rfl (zw_put_same _ _ _ rfl) rfl rfl (Nat.le_of_ble_eq_true rfl) ⟨Nat.zero_le _, Nat.zero_le _⟩ dX2_money_13 (pc' := 16) rfl ?_
    refine zw_ifb_eq (tgt := 27) E dX2_money_16 (by decide) (pc' := 19) rfl (fun c_2 => ?_) (fun c_2 => ?_)
    · skip
      refine zw_ldc2 (v := (-1)) E dX2_money_27 kX2_money_96 (pc' := 30) rfl ?_
      exact zw_lret E hr hlk dX2_money_30 (by unfold r_money; rw [if_pos c_1, if_neg c_2]) (zw_tm2 rfl (by unfold d_money; rw [if_pos c_1, if_neg c_2]) rfl)
    · skip
      refine zw_aload_n (i := 0) (x := a0) E 0 dX2_money_19 rfl rfl (pc' := 20) rfl ?_
      refine zw_iload_n (i := 3) (x := f) E 3 dX2_money_20 rfl rfl (pc' := 21) rfl ?_
      refine zw_callIw E (r := zb (0 ≤ f ∧ f ≤ nI (b.2 2) - 1)) (As := [.int f]) (rest := []) (ws' := (tm_W K a0 ab al ao b d o)) (qX2_isField l D K a0 ab al ao b d o f) (cwV 1 E.2.2.2.2.1 gX2_money_X2_isField rfl rfl rfl (by decide +kernel) ⟨Nat.le_of_ble_eq_true rfl, Nat.le_of_ble_eq_true rfl⟩) 0 rfl rfl rfl rfl rfl rfl (Nat.le_of_ble_eq_true rfl) ⟨Nat.zero_le _, Nat.zero_le _⟩ dX2_money_21 (pc' := 24) rfl ?_
      refine zw_ifb_ne (tgt := 31) E dX2_money_24 (by decide) (pc' := 27) rfl (fun c_3 => ?_) (fun c_3 => ?_)
      · skip
        refine zw_aload_n (i := 0) (x := a0) E 0 dX2_money_31 rfl rfl (pc' := 32) rfl ?_
        refine zw_get (v := .ref (al 0)) E 0 1 iX2_money_X2 fX2_money_21 rfl rfl (by decide) rfl rfl dX2_money_32 (pc' := 35) rfl ?_
        refine zw_iload_n (i := 1) (x := k) E 1 dX2_money_35 rfl rfl (pc' := 36) rfl ?_
        refine zw_topi (x' := nI kn) ek ?_
        refine zw_iload_n (i := 2) (x := y) E 2 dX2_money_36 rfl rfl (pc' := 37) rfl ?_
        refine zw_iconst (v := (-1)) E dX2_money_37 (by decide) (pc' := 38) rfl ?_
        refine zw_callIv E (r := (ld_show d b kn y (-1)).1) (As := [.int (nI kn), .int y, .int (-1)]) (rest := []) (ws' := (tm_W K a0 ab al ao b ((ld_show d b kn y (-1)).2) o)) (qX1_show l D K al ab d b kn hkn80 y (-1) hb80 hok) (cwV 3 E.2.2.2.2.1 gX2_money_X1_show rfl rfl rfl (by decide +kernel) ⟨Nat.le_of_ble_eq_true rfl, Nat.le_of_ble_eq_true rfl⟩) 0 rfl rfl rfl [13, 14, 15, 16, 17, 18, 19, 20, 21, 22, 23, 24, 25, 26, 1, 2, 3, 4, 5, 6, 7, 8, 9, 10, 11, 12] (by decide) emC_tm_lbd (lb_ad _ _ _ _ _ _ _) emP_tm_lbd rfl rfl (Nat.le_of_ble_eq_true rfl) ⟨Nat.zero_le _, Nat.zero_le _⟩ dX2_money_38 (pc' := 41) rfl ?_
        refine zw_pop E dX2_money_41 rfl (pc' := 42) rfl ?_
        refine zw_aload_n (i := 0) (x := a0) E 0 dX2_money_42 rfl rfl (pc' := 43) rfl ?_
        refine zw_get (v := .ref (al 0)) E 0 1 iX2_money_X2 fX2_money_21 rfl rfl (by decide) rfl rfl dX2_money_43 (pc' := 46) rfl ?_
        refine zw_iload_n (i := 1) (x := k) E 1 dX2_money_46 rfl rfl (pc' := 47) rfl ?_
        refine zw_topi (x' := nI kn) ek ?_
        refine zw_iload_n (i := 2) (x := y) E 2 dX2_money_47 rfl rfl (pc' := 48) rfl ?_
        refine zw_iload_n (i := 3) (x := f) E 3 dX2_money_48 rfl rfl (pc' := 49) rfl ?_
        refine zw_callLv E (r := r_worth ((ld_show d b kn y (-1)).2) b kn y f) (As := [.int (nI kn), .int y, .int f]) (rest := []) (ws' := (tm_W K a0 ab al ao b (d_worth ((ld_show d b kn y (-1)).2) b kn y f) o)) (qX1_worth l D K al ab ((ld_show d b kn y (-1)).2) b kn hkn80 y f) (cwV 3 E.2.2.2.2.1 gX2_money_X1_worth rfl rfl rfl (by decide +kernel) ⟨Nat.le_of_ble_eq_true rfl, Nat.le_of_ble_eq_true rfl⟩) 0 rfl rfl rfl [13, 14, 15, 16, 17, 18, 19, 20, 21, 22, 23, 24, 25, 26, 1, 2, 3, 4, 5, 6, 7, 8, 9, 10, 11, 12] (by decide) emC_tm_lbd (lb_ad _ _ _ _ _ _ _) emP_tm_lbd rfl rfl (Nat.le_of_ble_eq_true rfl) ⟨Nat.zero_le _, Nat.zero_le _⟩ dX2_money_49 (pc' := 52) rfl ?_
        exact zw_lret E hr hlk dX2_money_52 (by unfold r_money; rw [if_pos c_1, if_pos c_2, if_pos c_3, ek2]) (zw_tm2 rfl (by unfold d_money; rw [if_pos c_1, if_pos c_2, if_pos c_3, ek2]) rfl)
      · skip
        refine zw_ldc2 (v := (-1)) E dX2_money_27 kX2_money_96 (pc' := 30) rfl ?_
        exact zw_lret E hr hlk dX2_money_30 (by unfold r_money; rw [if_pos c_1, if_pos c_2, if_neg c_3]) (zw_tm2 rfl (by unfold d_money; rw [if_pos c_1, if_pos c_2, if_neg c_3]) rfl)

def r_owed (b : Bk) (d : Ld) (k y who : Int32) : Int64 := if (0 ≤ k ∧ k ≤ nI (b.2 1)) then if (1 ≤ y ∧ y ≤ 200) then if who = -1 then ld_owed (ld_show d b k.toNatClampNeg y (-1)).2 b k.toNatClampNeg y who else if (0 ≤ who ∧ who ≤ 9) then ld_owed (ld_show d b k.toNatClampNeg y (-1)).2 b k.toNatClampNeg y who else -1 else -1 else -1
def d_owed (b : Bk) (d : Ld) (k y who : Int32) : Ld := if (0 ≤ k ∧ k ≤ nI (b.2 1)) then if (1 ≤ y ∧ y ≤ 200) then if who = -1 then ld_means (ld_show d b k.toNatClampNeg y (-1)).2 b k.toNatClampNeg y else if (0 ≤ who ∧ who ≤ 9) then ld_means (ld_show d b k.toNatClampNeg y (-1)).2 b k.toNatClampNeg y else d else d else d
theorem kX2_owed_96 : Cond.constantLong RX2 96 (-1) ∈ wsX2_owed := by decide +kernel
theorem fX2_owed_21 : Cond.fieldLink RX2 21 "TitheMap" "land" "LTitheMap$Land;" ∈ wsX2_owed := by decide +kernel
theorem iX2_owed_X2 : ∀ w ∈ wsX20, w ∈ wsX2_owed := by decide +kernel
set_option maxHeartbeats 4000000 in
set_option maxRecDepth 100000 in
/-- owed(k, y, owner) -/
theorem qX2_owed (l : Launch) (D : va_G) (K : Nat → ClassId) (a0 : Nat) (ab al ao : Nat → Nat) (b : Bk) (d o : Ld) (k y who : Int32) (hs80 : b.2 1 ≤ 80) (ha80 : b.2 0 ≤ b.2 1) (hok : ∀ i, i < b.2 0 → en_ok b (z_at 80 (b.1 8) (nI i))) : zw_L l yX2_owed wsX2_owed rmX2_owed D (zT K) [.ref a0, .int k, .int y, .int who] (tm_W K a0 ab al ao b d o) (r_owed b d k y who) (tm_W K a0 ab al ao b (d_owed b d k y who) o) := by
  refine zw_ofL (cc := cX2_owed) (nL := 4) (ret := (some .long)) (own := RX2) (lv := [(0, .ref a0), (1, .int k), (2, .int y), (3, .int who)]) (by decide) rfl (Nat.le_of_ble_eq_true rfl) rfl rfl ?_
  intro p e s m below meth c A E hr hlk
  refine zw_aload_n (i := 0) (x := a0) E 0 dX2_owed_0 rfl rfl (pc' := 1) rfl ?_
  refine zw_iload_n (i := 1) (x := k) E 1 dX2_owed_1 rfl rfl (pc' := 2) rfl ?_
  refine zw_callIw E (r := zb (0 ≤ k ∧ k ≤ nI (b.2 1))) (As := [.int k]) (rest := []) (ws' := (tm_W K a0 ab al ao b d o)) (qX2_isKnowing l D K a0 ab al ao b d o k) (cwV 1 E.2.2.2.2.1 gX2_owed_X2_isKnowing rfl rfl rfl (by decide +kernel) ⟨Nat.le_of_ble_eq_true rfl, Nat.le_of_ble_eq_true rfl⟩) 0 rfl rfl rfl rfl rfl rfl (Nat.le_of_ble_eq_true rfl) ⟨Nat.zero_le _, Nat.zero_le _⟩ dX2_owed_2 (pc' := 5) rfl ?_
  refine zw_ifb_eq (tgt := 31) E dX2_owed_5 (by decide) (pc' := 8) rfl (fun c_1 => ?_) (fun c_1 => ?_)
  · skip
    refine zw_ldc2 (v := (-1)) E dX2_owed_31 kX2_owed_96 (pc' := 34) rfl ?_
    exact zw_lret E hr hlk dX2_owed_34 (by unfold r_owed; rw [if_neg c_1]) (zw_tm2 rfl (by unfold d_owed; rw [if_neg c_1]) rfl)
  · skip
    obtain ⟨kn, hkn, ek⟩ := zw_kn hs80 c_1
    have ek2 : k.toNatClampNeg = kn := by rw [ek]; exact nI_clamp (by omega)
    have hkn80 : kn ≤ 80 := Nat.le_trans hkn hs80
    have hb80 : b.2 0 ≤ 80 := Nat.le_trans ha80 hs80
    refine zw_iload_n (i := 2) (x := y) E 2 dX2_owed_8 rfl rfl (pc' := 9) rfl ?_
    refine zw_iconst (v := 1) E dX2_owed_9 (by decide) (pc' := 10) rfl ?_
    refine zw_sipush (v := 200) E dX2_owed_10 (by decide) (pc' := 13) rfl ?_
    refine zw_callIs E (r := zb (1 ≤ y ∧ y ≤ 200)) (As := [.int y, .int 1, .int 200]) (rest := []) (ws' := (tm_W K a0 ab al ao b d o)) (qX2_isWithin l D K y 1 200) (va_cwS 3 E.2.2.2.2.1 gX2_owed_X2_isWithin rfl rfl rfl (by decide +kernel) ⟨Nat.le_of_ble_eq_true rfl, Nat.le_of_ble_eq_true rfl⟩) [] (by decide) rfl rfl (zw_put_same _ _ _ rfl) rfl rfl (Nat.le_of_ble_eq_true rfl) ⟨Nat.zero_le _, Nat.zero_le _⟩ dX2_owed_13 (pc' := 16) rfl ?_
    refine zw_ifb_eq (tgt := 31) E dX2_owed_16 (by decide) (pc' := 19) rfl (fun c_2 => ?_) (fun c_2 => ?_)
    · skip
      refine zw_ldc2 (v := (-1)) E dX2_owed_31 kX2_owed_96 (pc' := 34) rfl ?_
      exact zw_lret E hr hlk dX2_owed_34 (by unfold r_owed; rw [if_pos c_1, if_neg c_2]) (zw_tm2 rfl (by unfold d_owed; rw [if_pos c_1, if_neg c_2]) rfl)
    · skip
      refine zw_iload_n (i := 3) (x := who) E 3 dX2_owed_19 rfl rfl (pc' := 20) rfl ?_
      refine zw_iconst (v := (-1)) E dX2_owed_20 (by decide) (pc' := 21) rfl ?_
      refine zw_icmp_eq (tgt := 35) E dX2_owed_21 (by decide) (pc' := 24) rfl (fun c_3 => ?_) (fun c_3 => ?_)
      · skip
        refine zw_aload_n (i := 0) (x := a0) E 0 dX2_owed_35 rfl rfl (pc' := 36) rfl ?_
        refine zw_get (v := .ref (al 0)) E 0 1 iX2_owed_X2 fX2_owed_21 rfl rfl (by decide) rfl rfl dX2_owed_36 (pc' := 39) rfl ?_
        refine zw_iload_n (i := 1) (x := k) E 1 dX2_owed_39 rfl rfl (pc' := 40) rfl ?_
        refine zw_topi (x' := nI kn) ek ?_
        refine zw_iload_n (i := 2) (x := y) E 2 dX2_owed_40 rfl rfl (pc' := 41) rfl ?_
        refine zw_iconst (v := (-1)) E dX2_owed_41 (by decide) (pc' := 42) rfl ?_
        refine zw_callIv E (r := (ld_show d b kn y (-1)).1) (As := [.int (nI kn), .int y, .int (-1)]) (rest := []) (ws' := (tm_W K a0 ab al ao b ((ld_show d b kn y (-1)).2) o)) (qX1_show l D K al ab d b kn hkn80 y (-1) hb80 hok) (cwV 3 E.2.2.2.2.1 gX2_owed_X1_show rfl rfl rfl (by decide +kernel) ⟨Nat.le_of_ble_eq_true rfl, Nat.le_of_ble_eq_true rfl⟩) 0 rfl rfl rfl [13, 14, 15, 16, 17, 18, 19, 20, 21, 22, 23, 24, 25, 26, 1, 2, 3, 4, 5, 6, 7, 8, 9, 10, 11, 12] (by decide) emC_tm_lbd (lb_ad _ _ _ _ _ _ _) emP_tm_lbd rfl rfl (Nat.le_of_ble_eq_true rfl) ⟨Nat.zero_le _, Nat.zero_le _⟩ dX2_owed_42 (pc' := 45) rfl ?_
        refine zw_pop E dX2_owed_45 rfl (pc' := 46) rfl ?_
        refine zw_aload_n (i := 0) (x := a0) E 0 dX2_owed_46 rfl rfl (pc' := 47) rfl ?_
        refine zw_get (v := .ref (al 0)) E 0 1 iX2_owed_X2 fX2_owed_21 rfl rfl (by decide) rfl rfl dX2_owed_47 (pc' := 50) rfl ?_
        refine zw_iload_n (i := 1) (x := k) E 1 dX2_owed_50 rfl rfl (pc' := 51) rfl ?_
        refine zw_topi (x' := nI kn) ek ?_
        refine zw_iload_n (i := 2) (x := y) E 2 dX2_owed_51 rfl rfl (pc' := 52) rfl ?_
        refine zw_iload_n (i := 3) (x := who) E 3 dX2_owed_52 rfl rfl (pc' := 53) rfl ?_
        refine zw_callLv E (r := ld_owed ((ld_show d b kn y (-1)).2) b kn y who) (As := [.int (nI kn), .int y, .int who]) (rest := []) (ws' := (tm_W K a0 ab al ao b (ld_means ((ld_show d b kn y (-1)).2) b kn y) o)) (qX1_worthOfAll l D K al ab ((ld_show d b kn y (-1)).2) b kn hkn80 y who) (cwV 3 E.2.2.2.2.1 gX2_owed_X1_worthOfAll rfl rfl rfl (by decide +kernel) ⟨Nat.le_of_ble_eq_true rfl, Nat.le_of_ble_eq_true rfl⟩) 0 rfl rfl rfl [13, 14, 15, 16, 17, 18, 19, 20, 21, 22, 23, 24, 25, 26, 1, 2, 3, 4, 5, 6, 7, 8, 9, 10, 11, 12] (by decide) emC_tm_lbd (lb_ad _ _ _ _ _ _ _) emP_tm_lbd rfl rfl (Nat.le_of_ble_eq_true rfl) ⟨Nat.zero_le _, Nat.zero_le _⟩ dX2_owed_53 (pc' := 56) rfl ?_
        exact zw_lret E hr hlk dX2_owed_56 (by unfold r_owed; rw [if_pos c_1, if_pos c_2, if_pos c_3, ek2]) (zw_tm2 rfl (by unfold d_owed; rw [if_pos c_1, if_pos c_2, if_pos c_3, ek2]) rfl)
      · skip
        refine zw_iload_n (i := 3) (x := who) E 3 dX2_owed_24 rfl rfl (pc' := 25) rfl ?_
        refine zw_callIs E (r := zb (0 ≤ who ∧ who ≤ 9)) (As := [.int who]) (rest := []) (ws' := (tm_W K a0 ab al ao b d o)) (qX2_isOwner l D K who) (va_cwS 1 E.2.2.2.2.1 gX2_owed_X2_isOwner rfl rfl rfl (by decide +kernel) ⟨Nat.le_of_ble_eq_true rfl, Nat.le_of_ble_eq_true rfl⟩) [] (by decide) rfl rfl (zw_put_same _ _ _ rfl) rfl rfl (Nat.le_of_ble_eq_true rfl) ⟨Nat.zero_le _, Nat.zero_le _⟩ dX2_owed_25 (pc' := 28) rfl ?_
        refine zw_ifb_ne (tgt := 35) E dX2_owed_28 (by decide) (pc' := 31) rfl (fun c_4 => ?_) (fun c_4 => ?_)
        · skip
          refine zw_aload_n (i := 0) (x := a0) E 0 dX2_owed_35 rfl rfl (pc' := 36) rfl ?_
          refine zw_get (v := .ref (al 0)) E 0 1 iX2_owed_X2 fX2_owed_21 rfl rfl (by decide) rfl rfl dX2_owed_36 (pc' := 39) rfl ?_
          refine zw_iload_n (i := 1) (x := k) E 1 dX2_owed_39 rfl rfl (pc' := 40) rfl ?_
          refine zw_topi (x' := nI kn) ek ?_
          refine zw_iload_n (i := 2) (x := y) E 2 dX2_owed_40 rfl rfl (pc' := 41) rfl ?_
          refine zw_iconst (v := (-1)) E dX2_owed_41 (by decide) (pc' := 42) rfl ?_
          refine zw_callIv E (r := (ld_show d b kn y (-1)).1) (As := [.int (nI kn), .int y, .int (-1)]) (rest := []) (ws' := (tm_W K a0 ab al ao b ((ld_show d b kn y (-1)).2) o)) (qX1_show l D K al ab d b kn hkn80 y (-1) hb80 hok) (cwV 3 E.2.2.2.2.1 gX2_owed_X1_show rfl rfl rfl (by decide +kernel) ⟨Nat.le_of_ble_eq_true rfl, Nat.le_of_ble_eq_true rfl⟩) 0 rfl rfl rfl [13, 14, 15, 16, 17, 18, 19, 20, 21, 22, 23, 24, 25, 26, 1, 2, 3, 4, 5, 6, 7, 8, 9, 10, 11, 12] (by decide) emC_tm_lbd (lb_ad _ _ _ _ _ _ _) emP_tm_lbd rfl rfl (Nat.le_of_ble_eq_true rfl) ⟨Nat.zero_le _, Nat.zero_le _⟩ dX2_owed_42 (pc' := 45) rfl ?_
          refine zw_pop E dX2_owed_45 rfl (pc' := 46) rfl ?_
          refine zw_aload_n (i := 0) (x := a0) E 0 dX2_owed_46 rfl rfl (pc' := 47) rfl ?_
          refine zw_get (v := .ref (al 0)) E 0 1 iX2_owed_X2 fX2_owed_21 rfl rfl (by decide) rfl rfl dX2_owed_47 (pc' := 50) rfl ?_
          refine zw_iload_n (i := 1) (x := k) E 1 dX2_owed_50 rfl rfl (pc' := 51) rfl ?_
          refine zw_topi (x' := nI kn) ek ?_
          refine zw_iload_n (i := 2) (x := y) E 2 dX2_owed_51 rfl rfl (pc' := 52) rfl ?_
          refine zw_iload_n (i := 3) (x := who) E 3 dX2_owed_52 rfl rfl (pc' := 53) rfl ?_
          refine zw_callLv E (r := ld_owed ((ld_show d b kn y (-1)).2) b kn y who) (As := [.int (nI kn), .int y, .int who]) (rest := []) (ws' := (tm_W K a0 ab al ao b (ld_means ((ld_show d b kn y (-1)).2) b kn y) o)) (qX1_worthOfAll l D K al ab ((ld_show d b kn y (-1)).2) b kn hkn80 y who) (cwV 3 E.2.2.2.2.1 gX2_owed_X1_worthOfAll rfl rfl rfl (by decide +kernel) ⟨Nat.le_of_ble_eq_true rfl, Nat.le_of_ble_eq_true rfl⟩) 0 rfl rfl rfl [13, 14, 15, 16, 17, 18, 19, 20, 21, 22, 23, 24, 25, 26, 1, 2, 3, 4, 5, 6, 7, 8, 9, 10, 11, 12] (by decide) emC_tm_lbd (lb_ad _ _ _ _ _ _ _) emP_tm_lbd rfl rfl (Nat.le_of_ble_eq_true rfl) ⟨Nat.zero_le _, Nat.zero_le _⟩ dX2_owed_53 (pc' := 56) rfl ?_
          exact zw_lret E hr hlk dX2_owed_56 (by unfold r_owed; rw [if_pos c_1, if_pos c_2, if_neg c_3, if_pos c_4, ek2]) (zw_tm2 rfl (by unfold d_owed; rw [if_pos c_1, if_pos c_2, if_neg c_3, if_pos c_4, ek2]) rfl)
        · skip
          refine zw_ldc2 (v := (-1)) E dX2_owed_31 kX2_owed_96 (pc' := 34) rfl ?_
          exact zw_lret E hr hlk dX2_owed_34 (by unfold r_owed; rw [if_pos c_1, if_pos c_2, if_neg c_3, if_neg c_4]) (zw_tm2 rfl (by unfold d_owed; rw [if_pos c_1, if_pos c_2, if_neg c_3, if_neg c_4]) rfl)

def r_parish (b : Bk) (d : Ld) (k y what : Int32) : Int64 := if (0 ≤ k ∧ k ≤ nI (b.2 1)) then if (0 ≤ y ∧ y ≤ 200) then if what = 0 then (h_many (ld_show d b k.toNatClampNeg y (-1)).2 60).toInt64 else if what = 1 then s_of (ld_show d b k.toNatClampNeg y (-1)).2 0 60 else if what = 2 then s_of (ld_show d b k.toNatClampNeg y (-1)).2 3 60 else if what = 3 then s_of (ld_show d b k.toNatClampNeg y (-1)).2 4 60 else if what = 4 then s_of (ld_show d b k.toNatClampNeg y (-1)).2 5 60 else if what = 5 then s_of (ld_show d b k.toNatClampNeg y (-1)).2 6 60 else if what = 6 then (if ((ld_show d b k.toNatClampNeg y (-1)).2).2.2 = 0 then 0 else 1) else -1 else -1 else -1
def d_parish (b : Bk) (d : Ld) (k y what : Int32) : Ld := if (0 ≤ k ∧ k ≤ nI (b.2 1)) then if (0 ≤ y ∧ y ≤ 200) then (ld_show d b k.toNatClampNeg y (-1)).2 else d else d
theorem kX2_parish_96 : Cond.constantLong RX2 96 (-1) ∈ wsX2_parish := by decide +kernel
theorem fX2_parish_113 : Cond.fieldLink RX2 113 "TitheMap$Land" "settled" "Z" ∈ wsX2_parish := by decide +kernel
theorem fX2_parish_21 : Cond.fieldLink RX2 21 "TitheMap" "land" "LTitheMap$Land;" ∈ wsX2_parish := by decide +kernel
theorem iX2_parish_X1 : ∀ w ∈ wsX10, w ∈ wsX2_parish := by decide +kernel
theorem iX2_parish_X2 : ∀ w ∈ wsX20, w ∈ wsX2_parish := by decide +kernel
set_option maxHeartbeats 4000000 in
set_option maxRecDepth 100000 in
/-- parish(k, y, what) -/
theorem qX2_parish (l : Launch) (D : va_G) (K : Nat → ClassId) (a0 : Nat) (ab al ao : Nat → Nat) (b : Bk) (d o : Ld) (k y what : Int32) (hs80 : b.2 1 ≤ 80) (ha80 : b.2 0 ≤ b.2 1) (hok : ∀ i, i < b.2 0 → en_ok b (z_at 80 (b.1 8) (nI i))) : zw_L l yX2_parish wsX2_parish rmX2_parish D (zT K) [.ref a0, .int k, .int y, .int what] (tm_W K a0 ab al ao b d o) (r_parish b d k y what) (tm_W K a0 ab al ao b (d_parish b d k y what) o) := by
  refine zw_ofL (cc := cX2_parish) (nL := 4) (ret := (some .long)) (own := RX2) (lv := [(0, .ref a0), (1, .int k), (2, .int y), (3, .int what)]) (by decide) rfl (Nat.le_of_ble_eq_true rfl) rfl rfl ?_
  intro p e s m below meth c A E hr hlk
  refine zw_aload_n (i := 0) (x := a0) E 0 dX2_parish_0 rfl rfl (pc' := 1) rfl ?_
  refine zw_iload_n (i := 1) (x := k) E 1 dX2_parish_1 rfl rfl (pc' := 2) rfl ?_
  refine zw_callIw E (r := zb (0 ≤ k ∧ k ≤ nI (b.2 1))) (As := [.int k]) (rest := []) (ws' := (tm_W K a0 ab al ao b d o)) (qX2_isKnowing l D K a0 ab al ao b d o k) (cwV 1 E.2.2.2.2.1 gX2_parish_X2_isKnowing rfl rfl rfl (by decide +kernel) ⟨Nat.le_of_ble_eq_true rfl, Nat.le_of_ble_eq_true rfl⟩) 0 rfl rfl rfl rfl rfl rfl (Nat.le_of_ble_eq_true rfl) ⟨Nat.zero_le _, Nat.zero_le _⟩ dX2_parish_2 (pc' := 5) rfl ?_
  refine zw_ifb_eq (tgt := 19) E dX2_parish_5 (by decide) (pc' := 8) rfl (fun c_1 => ?_) (fun c_1 => ?_)
  · skip
    refine zw_ldc2 (v := (-1)) E dX2_parish_19 kX2_parish_96 (pc' := 22) rfl ?_
    exact zw_lret E hr hlk dX2_parish_22 (by unfold r_parish; rw [if_neg c_1]) (zw_tm2 rfl (by unfold d_parish; rw [if_neg c_1]) rfl)
  · skip
    obtain ⟨kn, hkn, ek⟩ := zw_kn hs80 c_1
    have ek2 : k.toNatClampNeg = kn := by rw [ek]; exact nI_clamp (by omega)
    have hkn80 : kn ≤ 80 := Nat.le_trans hkn hs80
    have hb80 : b.2 0 ≤ 80 := Nat.le_trans ha80 hs80
    refine zw_iload_n (i := 2) (x := y) E 2 dX2_parish_8 rfl rfl (pc' := 9) rfl ?_
    refine zw_iconst (v := 0) E dX2_parish_9 (by decide) (pc' := 10) rfl ?_
    refine zw_sipush (v := 200) E dX2_parish_10 (by decide) (pc' := 13) rfl ?_
    refine zw_callIs E (r := zb (0 ≤ y ∧ y ≤ 200)) (As := [.int y, .int 0, .int 200]) (rest := []) (ws' := (tm_W K a0 ab al ao b d o)) (qX2_isWithin l D K y 0 200) (va_cwS 3 E.2.2.2.2.1 gX2_parish_X2_isWithin rfl rfl rfl (by decide +kernel) ⟨Nat.le_of_ble_eq_true rfl, Nat.le_of_ble_eq_true rfl⟩) [] (by decide) rfl rfl (zw_put_same _ _ _ rfl) rfl rfl (Nat.le_of_ble_eq_true rfl) ⟨Nat.zero_le _, Nat.zero_le _⟩ dX2_parish_13 (pc' := 16) rfl ?_
    refine zw_ifb_ne (tgt := 23) E dX2_parish_16 (by decide) (pc' := 19) rfl (fun c_2 => ?_) (fun c_2 => ?_)
    · skip
      refine zw_aload_n (i := 0) (x := a0) E 0 dX2_parish_23 rfl rfl (pc' := 24) rfl ?_
      refine zw_get (v := .ref (al 0)) E 0 1 iX2_parish_X2 fX2_parish_21 rfl rfl (by decide) rfl rfl dX2_parish_24 (pc' := 27) rfl ?_
      refine zw_iload_n (i := 1) (x := k) E 1 dX2_parish_27 rfl rfl (pc' := 28) rfl ?_
      refine zw_topi (x' := nI kn) ek ?_
      refine zw_iload_n (i := 2) (x := y) E 2 dX2_parish_28 rfl rfl (pc' := 29) rfl ?_
      refine zw_iconst (v := (-1)) E dX2_parish_29 (by decide) (pc' := 30) rfl ?_
      refine zw_callIv E (r := (ld_show d b kn y (-1)).1) (As := [.int (nI kn), .int y, .int (-1)]) (rest := []) (ws' := (tm_W K a0 ab al ao b ((ld_show d b kn y (-1)).2) o)) (qX1_show l D K al ab d b kn hkn80 y (-1) hb80 hok) (cwV 3 E.2.2.2.2.1 gX2_parish_X1_show rfl rfl rfl (by decide +kernel) ⟨Nat.le_of_ble_eq_true rfl, Nat.le_of_ble_eq_true rfl⟩) 0 rfl rfl rfl [13, 14, 15, 16, 17, 18, 19, 20, 21, 22, 23, 24, 25, 26, 1, 2, 3, 4, 5, 6, 7, 8, 9, 10, 11, 12] (by decide) emC_tm_lbd (lb_ad _ _ _ _ _ _ _) emP_tm_lbd rfl rfl (Nat.le_of_ble_eq_true rfl) ⟨Nat.zero_le _, Nat.zero_le _⟩ dX2_parish_30 (pc' := 33) rfl ?_
      refine zw_pop E dX2_parish_33 rfl (pc' := 34) rfl ?_
      refine zw_iload_n (i := 3) (x := what) E 3 dX2_parish_34 rfl rfl (pc' := 35) rfl ?_
      by_cases s_3 : what = 0
      · refine zw_tableIn (tgt := 76) (off := 41) E dX2_parish_35 (by rw [s_3]; decide) (by rw [s_3]; decide) (by rw [s_3]; rfl) (by decide) ?_
        refine zw_aload_n (i := 0) (x := a0) E 0 dX2_parish_76 rfl rfl (pc' := 77) rfl ?_
        refine zw_get (v := .ref (al 0)) E 0 1 iX2_parish_X2 fX2_parish_21 rfl rfl (by decide) rfl rfl dX2_parish_77 (pc' := 80) rfl ?_
        refine zw_callIv E (r := h_many ((ld_show d b kn y (-1)).2) 60) (As := []) (rest := []) (ws' := (tm_W K a0 ab al ao b ((ld_show d b kn y (-1)).2) o)) (qX1_howMany l D K al (ab 0) ((ld_show d b kn y (-1)).2) ) (cwV 0 E.2.2.2.2.1 gX2_parish_X1_howMany rfl rfl rfl (by decide +kernel) ⟨Nat.le_of_ble_eq_true rfl, Nat.le_of_ble_eq_true rfl⟩) 0 rfl rfl rfl [13, 14, 15, 16, 17, 18, 19, 20, 21, 22, 23, 24, 25, 26] (by decide) emC_tm_d rfl (zw_put_same _ _ _ emC_tm_d) rfl rfl (Nat.le_of_ble_eq_true rfl) ⟨Nat.zero_le _, Nat.zero_le _⟩ dX2_parish_80 (pc' := 83) rfl ?_
        refine zw_i2l E dX2_parish_83 (pc' := 84) rfl ?_
        exact zw_lret E hr hlk dX2_parish_84 (by unfold r_parish; rw [ek2, if_pos c_1, if_pos c_2, if_pos s_3]) (zw_tm2 rfl (by unfold d_parish; rw [if_pos c_1, if_pos c_2, ek2]) rfl)
      · skip
        by_cases s_4 : what = 1
        · refine zw_tableIn (tgt := 85) (off := 50) E dX2_parish_35 (by rw [s_4]; decide) (by rw [s_4]; decide) (by rw [s_4]; rfl) (by decide) ?_
          refine zw_aload_n (i := 0) (x := a0) E 0 dX2_parish_85 rfl rfl (pc' := 86) rfl ?_
          refine zw_get (v := .ref (al 0)) E 0 1 iX2_parish_X2 fX2_parish_21 rfl rfl (by decide) rfl rfl dX2_parish_86 (pc' := 89) rfl ?_
          refine zw_iconst (v := 0) E dX2_parish_89 (by decide) (pc' := 90) rfl ?_
          refine zw_callLv E (r := s_of ((ld_show d b kn y (-1)).2) 0 60) (As := [.int 0]) (rest := []) (ws' := (tm_W K a0 ab al ao b ((ld_show d b kn y (-1)).2) o)) (qX1_sumOf l D K al (ab 0) ((ld_show d b kn y (-1)).2) 0) (cwV 1 E.2.2.2.2.1 gX2_parish_X1_sumOf rfl rfl rfl (by decide +kernel) ⟨Nat.le_of_ble_eq_true rfl, Nat.le_of_ble_eq_true rfl⟩) 0 rfl rfl rfl [13, 14, 15, 16, 17, 18, 19, 20, 21, 22, 23, 24, 25, 26] (by decide) emC_tm_d rfl (zw_put_same _ _ _ emC_tm_d) rfl rfl (Nat.le_of_ble_eq_true rfl) ⟨Nat.zero_le _, Nat.zero_le _⟩ dX2_parish_90 (pc' := 93) rfl ?_
          exact zw_lret E hr hlk dX2_parish_93 (by unfold r_parish; rw [ek2, if_pos c_1, if_pos c_2, if_neg s_3, if_pos s_4]) (zw_tm2 rfl (by unfold d_parish; rw [if_pos c_1, if_pos c_2, ek2]) rfl)
        · skip
          by_cases s_5 : what = 2
          · refine zw_tableIn (tgt := 94) (off := 59) E dX2_parish_35 (by rw [s_5]; decide) (by rw [s_5]; decide) (by rw [s_5]; rfl) (by decide) ?_
            refine zw_aload_n (i := 0) (x := a0) E 0 dX2_parish_94 rfl rfl (pc' := 95) rfl ?_
            refine zw_get (v := .ref (al 0)) E 0 1 iX2_parish_X2 fX2_parish_21 rfl rfl (by decide) rfl rfl dX2_parish_95 (pc' := 98) rfl ?_
            refine zw_iload_n (i := 3) (x := what) E 3 dX2_parish_98 rfl rfl (pc' := 99) rfl ?_
            refine zw_iconst (v := 1) E dX2_parish_99 (by decide) (pc' := 100) rfl ?_
            refine zw_iadd E dX2_parish_100 (pc' := 101) rfl ?_
            refine zw_topi (x' := 3) (by rw [s_5]; rfl) ?_
            refine zw_callLv E (r := s_of ((ld_show d b kn y (-1)).2) 3 60) (As := [.int 3]) (rest := []) (ws' := (tm_W K a0 ab al ao b ((ld_show d b kn y (-1)).2) o)) (qX1_sumOf l D K al (ab 0) ((ld_show d b kn y (-1)).2) 3) (cwV 1 E.2.2.2.2.1 gX2_parish_X1_sumOf rfl rfl rfl (by decide +kernel) ⟨Nat.le_of_ble_eq_true rfl, Nat.le_of_ble_eq_true rfl⟩) 0 rfl rfl rfl [13, 14, 15, 16, 17, 18, 19, 20, 21, 22, 23, 24, 25, 26] (by decide) emC_tm_d rfl (zw_put_same _ _ _ emC_tm_d) rfl rfl (Nat.le_of_ble_eq_true rfl) ⟨Nat.zero_le _, Nat.zero_le _⟩ dX2_parish_101 (pc' := 104) rfl ?_
            exact zw_lret E hr hlk dX2_parish_104 (by unfold r_parish; rw [ek2, if_pos c_1, if_pos c_2, if_neg s_3, if_neg s_4, if_pos s_5]) (zw_tm2 rfl (by unfold d_parish; rw [if_pos c_1, if_pos c_2, ek2]) rfl)
          · skip
            by_cases s_6 : what = 3
            · refine zw_tableIn (tgt := 94) (off := 59) E dX2_parish_35 (by rw [s_6]; decide) (by rw [s_6]; decide) (by rw [s_6]; rfl) (by decide) ?_
              refine zw_aload_n (i := 0) (x := a0) E 0 dX2_parish_94 rfl rfl (pc' := 95) rfl ?_
              refine zw_get (v := .ref (al 0)) E 0 1 iX2_parish_X2 fX2_parish_21 rfl rfl (by decide) rfl rfl dX2_parish_95 (pc' := 98) rfl ?_
              refine zw_iload_n (i := 3) (x := what) E 3 dX2_parish_98 rfl rfl (pc' := 99) rfl ?_
              refine zw_iconst (v := 1) E dX2_parish_99 (by decide) (pc' := 100) rfl ?_
              refine zw_iadd E dX2_parish_100 (pc' := 101) rfl ?_
              refine zw_topi (x' := 4) (by rw [s_6]; rfl) ?_
              refine zw_callLv E (r := s_of ((ld_show d b kn y (-1)).2) 4 60) (As := [.int 4]) (rest := []) (ws' := (tm_W K a0 ab al ao b ((ld_show d b kn y (-1)).2) o)) (qX1_sumOf l D K al (ab 0) ((ld_show d b kn y (-1)).2) 4) (cwV 1 E.2.2.2.2.1 gX2_parish_X1_sumOf rfl rfl rfl (by decide +kernel) ⟨Nat.le_of_ble_eq_true rfl, Nat.le_of_ble_eq_true rfl⟩) 0 rfl rfl rfl [13, 14, 15, 16, 17, 18, 19, 20, 21, 22, 23, 24, 25, 26] (by decide) emC_tm_d rfl (zw_put_same _ _ _ emC_tm_d) rfl rfl (Nat.le_of_ble_eq_true rfl) ⟨Nat.zero_le _, Nat.zero_le _⟩ dX2_parish_101 (pc' := 104) rfl ?_
              exact zw_lret E hr hlk dX2_parish_104 (by unfold r_parish; rw [ek2, if_pos c_1, if_pos c_2, if_neg s_3, if_neg s_4, if_neg s_5, if_pos s_6]) (zw_tm2 rfl (by unfold d_parish; rw [if_pos c_1, if_pos c_2, ek2]) rfl)
            · skip
              by_cases s_7 : what = 4
              · refine zw_tableIn (tgt := 94) (off := 59) E dX2_parish_35 (by rw [s_7]; decide) (by rw [s_7]; decide) (by rw [s_7]; rfl) (by decide) ?_
                refine zw_aload_n (i := 0) (x := a0) E 0 dX2_parish_94 rfl rfl (pc' := 95) rfl ?_
                refine zw_get (v := .ref (al 0)) E 0 1 iX2_parish_X2 fX2_parish_21 rfl rfl (by decide) rfl rfl dX2_parish_95 (pc' := 98) rfl ?_
                refine zw_iload_n (i := 3) (x := what) E 3 dX2_parish_98 rfl rfl (pc' := 99) rfl ?_
                refine zw_iconst (v := 1) E dX2_parish_99 (by decide) (pc' := 100) rfl ?_
                refine zw_iadd E dX2_parish_100 (pc' := 101) rfl ?_
                refine zw_topi (x' := 5) (by rw [s_7]; rfl) ?_
                refine zw_callLv E (r := s_of ((ld_show d b kn y (-1)).2) 5 60) (As := [.int 5]) (rest := []) (ws' := (tm_W K a0 ab al ao b ((ld_show d b kn y (-1)).2) o)) (qX1_sumOf l D K al (ab 0) ((ld_show d b kn y (-1)).2) 5) (cwV 1 E.2.2.2.2.1 gX2_parish_X1_sumOf rfl rfl rfl (by decide +kernel) ⟨Nat.le_of_ble_eq_true rfl, Nat.le_of_ble_eq_true rfl⟩) 0 rfl rfl rfl [13, 14, 15, 16, 17, 18, 19, 20, 21, 22, 23, 24, 25, 26] (by decide) emC_tm_d rfl (zw_put_same _ _ _ emC_tm_d) rfl rfl (Nat.le_of_ble_eq_true rfl) ⟨Nat.zero_le _, Nat.zero_le _⟩ dX2_parish_101 (pc' := 104) rfl ?_
                exact zw_lret E hr hlk dX2_parish_104 (by unfold r_parish; rw [ek2, if_pos c_1, if_pos c_2, if_neg s_3, if_neg s_4, if_neg s_5, if_neg s_6, if_pos s_7]) (zw_tm2 rfl (by unfold d_parish; rw [if_pos c_1, if_pos c_2, ek2]) rfl)
              · skip
                by_cases s_8 : what = 5
                · refine zw_tableIn (tgt := 105) (off := 70) E dX2_parish_35 (by rw [s_8]; decide) (by rw [s_8]; decide) (by rw [s_8]; rfl) (by decide) ?_
                  refine zw_aload_n (i := 0) (x := a0) E 0 dX2_parish_105 rfl rfl (pc' := 106) rfl ?_
                  refine zw_get (v := .ref (al 0)) E 0 1 iX2_parish_X2 fX2_parish_21 rfl rfl (by decide) rfl rfl dX2_parish_106 (pc' := 109) rfl ?_
                  refine zw_bipush (v := 6) E dX2_parish_109 (by decide) (pc' := 111) rfl ?_
                  refine zw_callLv E (r := s_of ((ld_show d b kn y (-1)).2) 6 60) (As := [.int 6]) (rest := []) (ws' := (tm_W K a0 ab al ao b ((ld_show d b kn y (-1)).2) o)) (qX1_sumOf l D K al (ab 0) ((ld_show d b kn y (-1)).2) 6) (cwV 1 E.2.2.2.2.1 gX2_parish_X1_sumOf rfl rfl rfl (by decide +kernel) ⟨Nat.le_of_ble_eq_true rfl, Nat.le_of_ble_eq_true rfl⟩) 0 rfl rfl rfl [13, 14, 15, 16, 17, 18, 19, 20, 21, 22, 23, 24, 25, 26] (by decide) emC_tm_d rfl (zw_put_same _ _ _ emC_tm_d) rfl rfl (Nat.le_of_ble_eq_true rfl) ⟨Nat.zero_le _, Nat.zero_le _⟩ dX2_parish_111 (pc' := 114) rfl ?_
                  exact zw_lret E hr hlk dX2_parish_114 (by unfold r_parish; rw [ek2, if_pos c_1, if_pos c_2, if_neg s_3, if_neg s_4, if_neg s_5, if_neg s_6, if_neg s_7, if_pos s_8]) (zw_tm2 rfl (by unfold d_parish; rw [if_pos c_1, if_pos c_2, ek2]) rfl)
                · skip
                  by_cases s_9 : what = 6
                  · refine zw_tableIn (tgt := 115) (off := 80) E dX2_parish_35 (by rw [s_9]; decide) (by rw [s_9]; decide) (by rw [s_9]; rfl) (by decide) ?_
                    refine zw_aload_n (i := 0) (x := a0) E 0 dX2_parish_115 rfl rfl (pc' := 116) rfl ?_
                    refine zw_get (v := .ref (al 0)) E 0 1 iX2_parish_X2 fX2_parish_21 rfl rfl (by decide) rfl rfl dX2_parish_116 (pc' := 119) rfl ?_
                    refine zw_get (v := .int (((ld_show d b kn y (-1)).2).2.2)) E 13 11 iX2_parish_X1 fX2_parish_113 rfl rfl (by decide) rfl rfl dX2_parish_119 (pc' := 122) rfl ?_
                    refine zw_if_eq (tgt := 129) E dX2_parish_122 (by decide) (pc' := 125) rfl (fun c_10 => ?_) (fun c_10 => ?_)
                    · skip
                      refine zw_lconst (v := 0) E dX2_parish_129 (by decide) (pc' := 130) rfl ?_
                      exact zw_lret E hr hlk dX2_parish_130 (by unfold r_parish; rw [ek2, if_pos c_1, if_pos c_2, if_neg s_3, if_neg s_4, if_neg s_5, if_neg s_6, if_neg s_7, if_neg s_8, if_pos s_9, if_pos c_10]) (zw_tm2 rfl (by unfold d_parish; rw [if_pos c_1, if_pos c_2, ek2]) rfl)
                    · skip
                      refine zw_lconst (v := 1) E dX2_parish_125 (by decide) (pc' := 126) rfl ?_
                      refine zw_goto (tgt := 130) E dX2_parish_126 (by decide) ?_
                      exact zw_lret E hr hlk dX2_parish_130 (by unfold r_parish; rw [ek2, if_pos c_1, if_pos c_2, if_neg s_3, if_neg s_4, if_neg s_5, if_neg s_6, if_neg s_7, if_neg s_8, if_pos s_9, if_neg c_10]) (zw_tm2 rfl (by unfold d_parish; rw [if_pos c_1, if_pos c_2, ek2]) rfl)
                  · skip
                    refine zw_tableOut (tgt := 131) E dX2_parish_35 (by have q0 := lv_neT (a := 0) s_3 rfl; have q1 := lv_neT (a := 1) s_4 rfl; have q2 := lv_neT (a := 2) s_5 rfl; have q3 := lv_neT (a := 3) s_6 rfl; have q4 := lv_neT (a := 4) s_7 rfl; have q5 := lv_neT (a := 5) s_8 rfl; have q6 := lv_neT (a := 6) s_9 rfl; omega) (by decide) ?_
                    refine zw_ldc2 (v := (-1)) E dX2_parish_131 kX2_parish_96 (pc' := 134) rfl ?_
                    exact zw_lret E hr hlk dX2_parish_134 (by unfold r_parish; rw [ek2, if_pos c_1, if_pos c_2, if_neg s_3, if_neg s_4, if_neg s_5, if_neg s_6, if_neg s_7, if_neg s_8, if_neg s_9]) (zw_tm2 rfl (by unfold d_parish; rw [if_pos c_1, if_pos c_2, ek2]) rfl)
    · skip
      refine zw_ldc2 (v := (-1)) E dX2_parish_19 kX2_parish_96 (pc' := 22) rfl ?_
      exact zw_lret E hr hlk dX2_parish_22 (by unfold r_parish; rw [if_pos c_1, if_neg c_2]) (zw_tm2 rfl (by unfold d_parish; rw [if_pos c_1, if_neg c_2]) rfl)

def r_cost (b : Bk) (d : Ld) (k x : Int32) : Int64 := if (0 ≤ k ∧ k ≤ nI (b.2 1)) then if (0 ≤ x ∧ x ≤ k - 1) then if z_at 80 (b.1 0) x = 6 then if (r_worth (ld_show d b k.toNatClampNeg (z_at 80 (b.1 1) x) x).2 b k.toNatClampNeg (z_at 80 (b.1 1) x) (z_at 80 (b.1 2) x)) = -1 then -1 else 25 * (r_worth (ld_show d b k.toNatClampNeg (z_at 80 (b.1 1) x) x).2 b k.toNatClampNeg (z_at 80 (b.1 1) x) (z_at 80 (b.1 2) x)) else -1 else -1 else -1
def d_cost (b : Bk) (d : Ld) (k x : Int32) : Ld := if (0 ≤ k ∧ k ≤ nI (b.2 1)) then if (0 ≤ x ∧ x ≤ k - 1) then if z_at 80 (b.1 0) x = 6 then d_worth (ld_show d b k.toNatClampNeg (z_at 80 (b.1 1) x) x).2 b k.toNatClampNeg (z_at 80 (b.1 1) x) (z_at 80 (b.1 2) x) else d else d else d
theorem kX2_cost_127 : Cond.constantLong RX2 127 (25) ∈ wsX2_cost := by decide +kernel
theorem kX2_cost_96 : Cond.constantLong RX2 96 (-1) ∈ wsX2_cost := by decide +kernel
theorem fX2_cost_10 : Cond.fieldLink RX2 10 "TitheMap" "book" "LTitheMap$Book;" ∈ wsX2_cost := by decide +kernel
theorem fX2_cost_117 : Cond.fieldLink RX2 117 "TitheMap$Book" "act" "[I" ∈ wsX2_cost := by decide +kernel
theorem fX2_cost_124 : Cond.fieldLink RX2 124 "TitheMap$Book" "year" "[I" ∈ wsX2_cost := by decide +kernel
theorem fX2_cost_21 : Cond.fieldLink RX2 21 "TitheMap" "land" "LTitheMap$Land;" ∈ wsX2_cost := by decide +kernel
theorem fX2_cost_40 : Cond.fieldLink RX2 40 "TitheMap$Book" "first" "[I" ∈ wsX2_cost := by decide +kernel
theorem iX2_cost_X0 : ∀ w ∈ wsX00, w ∈ wsX2_cost := by decide +kernel
theorem iX2_cost_X2 : ∀ w ∈ wsX20, w ∈ wsX2_cost := by decide +kernel
set_option maxHeartbeats 4000000 in
set_option maxRecDepth 100000 in
/-- cost(k, e) -/
theorem qX2_cost (l : Launch) (D : va_G) (K : Nat → ClassId) (a0 : Nat) (ab al ao : Nat → Nat) (b : Bk) (d o : Ld) (k x : Int32) (hs80 : b.2 1 ≤ 80) (ha80 : b.2 0 ≤ b.2 1) (hok : ∀ i, i < b.2 0 → en_ok b (z_at 80 (b.1 8) (nI i))) : zw_L l yX2_cost wsX2_cost rmX2_cost D (zT K) [.ref a0, .int k, .int x] (tm_W K a0 ab al ao b d o) (r_cost b d k x) (tm_W K a0 ab al ao b (d_cost b d k x) o) := by
  refine zw_ofL (cc := cX2_cost) (nL := 6) (ret := (some .long)) (own := RX2) (lv := [(0, .ref a0), (1, .int k), (2, .int x)]) (by decide) rfl (Nat.le_of_ble_eq_true rfl) rfl rfl ?_
  intro p e s m below meth c A E hr hlk
  refine zw_aload_n (i := 0) (x := a0) E 0 dX2_cost_0 rfl rfl (pc' := 1) rfl ?_
  refine zw_iload_n (i := 1) (x := k) E 1 dX2_cost_1 rfl rfl (pc' := 2) rfl ?_
  refine zw_callIw E (r := zb (0 ≤ k ∧ k ≤ nI (b.2 1))) (As := [.int k]) (rest := []) (ws' := (tm_W K a0 ab al ao b d o)) (qX2_isKnowing l D K a0 ab al ao b d o k) (cwV 1 E.2.2.2.2.1 gX2_cost_X2_isKnowing rfl rfl rfl (by decide +kernel) ⟨Nat.le_of_ble_eq_true rfl, Nat.le_of_ble_eq_true rfl⟩) 0 rfl rfl rfl rfl rfl rfl (Nat.le_of_ble_eq_true rfl) ⟨Nat.zero_le _, Nat.zero_le _⟩ dX2_cost_2 (pc' := 5) rfl ?_
  refine zw_ifb_eq (tgt := 35) E dX2_cost_5 (by decide) (pc' := 8) rfl (fun c_1 => ?_) (fun c_1 => ?_)
  · skip
    refine zw_ldc2 (v := (-1)) E dX2_cost_35 kX2_cost_96 (pc' := 38) rfl ?_
    exact zw_lret E hr hlk dX2_cost_38 (by unfold r_cost; rw [if_neg c_1]) (zw_tm2 rfl (by unfold d_cost; rw [if_neg c_1]) rfl)
  · skip
    obtain ⟨kn, hkn, ek⟩ := zw_kn hs80 c_1
    have ek2 : k.toNatClampNeg = kn := by rw [ek]; exact nI_clamp (by omega)
    have hkn80 : kn ≤ 80 := Nat.le_trans hkn hs80
    have hb80 : b.2 0 ≤ 80 := Nat.le_trans ha80 hs80
    refine zw_iload_n (i := 2) (x := x) E 2 dX2_cost_8 rfl rfl (pc' := 9) rfl ?_
    refine zw_iconst (v := 0) E dX2_cost_9 (by decide) (pc' := 10) rfl ?_
    refine zw_iload_n (i := 1) (x := k) E 1 dX2_cost_10 rfl rfl (pc' := 11) rfl ?_
    refine zw_iconst (v := 1) E dX2_cost_11 (by decide) (pc' := 12) rfl ?_
    refine zw_isub E dX2_cost_12 (pc' := 13) rfl ?_
    refine zw_callIs E (r := zb (0 ≤ x ∧ x ≤ k - 1)) (As := [.int x, .int 0, .int (k - 1)]) (rest := []) (ws' := (tm_W K a0 ab al ao b d o)) (qX2_isWithin l D K x 0 (k - 1)) (va_cwS 3 E.2.2.2.2.1 gX2_cost_X2_isWithin rfl rfl rfl (by decide +kernel) ⟨Nat.le_of_ble_eq_true rfl, Nat.le_of_ble_eq_true rfl⟩) [] (by decide) rfl rfl (zw_put_same _ _ _ rfl) rfl rfl (Nat.le_of_ble_eq_true rfl) ⟨Nat.zero_le _, Nat.zero_le _⟩ dX2_cost_13 (pc' := 16) rfl ?_
    refine zw_ifb_eq (tgt := 35) E dX2_cost_16 (by decide) (pc' := 19) rfl (fun c_2 => ?_) (fun c_2 => ?_)
    · skip
      refine zw_ldc2 (v := (-1)) E dX2_cost_35 kX2_cost_96 (pc' := 38) rfl ?_
      exact zw_lret E hr hlk dX2_cost_38 (by unfold r_cost; rw [if_pos c_1, if_neg c_2]) (zw_tm2 rfl (by unfold d_cost; rw [if_pos c_1, if_neg c_2]) rfl)
    · skip
      refine zw_aload_n (i := 0) (x := a0) E 0 dX2_cost_19 rfl rfl (pc' := 20) rfl ?_
      refine zw_get (v := .ref (ab 0)) E 0 0 iX2_cost_X2 fX2_cost_10 rfl rfl (by decide) rfl rfl dX2_cost_20 (pc' := 23) rfl ?_
      refine zw_get (v := .ref (ab 1)) E 1 0 iX2_cost_X0 fX2_cost_117 rfl rfl (by decide) rfl rfl dX2_cost_23 (pc' := 26) rfl ?_
      refine zw_iload_n (i := 2) (x := x) E 2 dX2_cost_26 rfl rfl (pc' := 27) rfl ?_
      refine zw_callIs E (r := z_at 80 (b.1 0) x) (As := [.ref (ab 1), .int x]) (rest := []) (ws' := (tm_W K a0 ab al ao b d o)) (qX2_at l D K (ab 1) 80 (b.1 0) x (by decide)) (va_cwS 2 E.2.2.2.2.1 gX2_cost_X2_at rfl rfl rfl (by decide +kernel) ⟨Nat.le_of_ble_eq_true rfl, Nat.le_of_ble_eq_true rfl⟩) [2] (by decide) rfl rfl (zw_put_same _ _ _ rfl) rfl rfl (Nat.le_of_ble_eq_true rfl) ⟨Nat.zero_le _, Nat.zero_le _⟩ dX2_cost_27 (pc' := 30) rfl ?_
      refine zw_bipush (v := 6) E dX2_cost_30 (by decide) (pc' := 32) rfl ?_
      refine zw_icmp_eq (tgt := 39) E dX2_cost_32 (by decide) (pc' := 35) rfl (fun c_3 => ?_) (fun c_3 => ?_)
      · skip
        refine zw_aload_n (i := 0) (x := a0) E 0 dX2_cost_39 rfl rfl (pc' := 40) rfl ?_
        refine zw_get (v := .ref (ab 0)) E 0 0 iX2_cost_X2 fX2_cost_10 rfl rfl (by decide) rfl rfl dX2_cost_40 (pc' := 43) rfl ?_
        refine zw_get (v := .ref (ab 2)) E 1 1 iX2_cost_X0 fX2_cost_124 rfl rfl (by decide) rfl rfl dX2_cost_43 (pc' := 46) rfl ?_
        refine zw_iload_n (i := 2) (x := x) E 2 dX2_cost_46 rfl rfl (pc' := 47) rfl ?_
        refine zw_callIs E (r := z_at 80 (b.1 1) x) (As := [.ref (ab 2), .int x]) (rest := []) (ws' := (tm_W K a0 ab al ao b d o)) (qX2_at l D K (ab 2) 80 (b.1 1) x (by decide)) (va_cwS 2 E.2.2.2.2.1 gX2_cost_X2_at rfl rfl rfl (by decide +kernel) ⟨Nat.le_of_ble_eq_true rfl, Nat.le_of_ble_eq_true rfl⟩) [3] (by decide) rfl rfl (zw_put_same _ _ _ rfl) rfl rfl (Nat.le_of_ble_eq_true rfl) ⟨Nat.zero_le _, Nat.zero_le _⟩ dX2_cost_47 (pc' := 50) rfl ?_
        refine zw_istore_n (lv' := [(3, .int (z_at 80 (b.1 1) x)), (0, .ref a0), (1, .int k), (2, .int x)]) E dX2_cost_50 rfl (by decide) rfl (pc' := 51) rfl ?_
        refine zw_aload_n (i := 0) (x := a0) E 1 dX2_cost_51 rfl rfl (pc' := 52) rfl ?_
        refine zw_get (v := .ref (al 0)) E 0 1 iX2_cost_X2 fX2_cost_21 rfl rfl (by decide) rfl rfl dX2_cost_52 (pc' := 55) rfl ?_
        refine zw_iload_n (i := 1) (x := k) E 2 dX2_cost_55 rfl rfl (pc' := 56) rfl ?_
        refine zw_topi (x' := nI kn) ek ?_
        refine zw_iload_n (i := 3) (x := z_at 80 (b.1 1) x) E 0 dX2_cost_56 rfl rfl (pc' := 57) rfl ?_
        refine zw_iload_n (i := 2) (x := x) E 3 dX2_cost_57 rfl rfl (pc' := 58) rfl ?_
        refine zw_callIv E (r := (ld_show d b kn (z_at 80 (b.1 1) x) x).1) (As := [.int (nI kn), .int (z_at 80 (b.1 1) x), .int x]) (rest := []) (ws' := (tm_W K a0 ab al ao b ((ld_show d b kn (z_at 80 (b.1 1) x) x).2) o)) (qX1_show l D K al ab d b kn hkn80 (z_at 80 (b.1 1) x) x hb80 hok) (cwV 3 E.2.2.2.2.1 gX2_cost_X1_show rfl rfl rfl (by decide +kernel) ⟨Nat.le_of_ble_eq_true rfl, Nat.le_of_ble_eq_true rfl⟩) 0 rfl rfl rfl [13, 14, 15, 16, 17, 18, 19, 20, 21, 22, 23, 24, 25, 26, 1, 2, 3, 4, 5, 6, 7, 8, 9, 10, 11, 12] (by decide) emC_tm_lbd (lb_ad _ _ _ _ _ _ _) emP_tm_lbd rfl rfl (Nat.le_of_ble_eq_true rfl) ⟨Nat.zero_le _, Nat.zero_le _⟩ dX2_cost_58 (pc' := 61) rfl ?_
        refine zw_pop E dX2_cost_61 rfl (pc' := 62) rfl ?_
        refine zw_aload_n (i := 0) (x := a0) E 1 dX2_cost_62 rfl rfl (pc' := 63) rfl ?_
        refine zw_get (v := .ref (al 0)) E 0 1 iX2_cost_X2 fX2_cost_21 rfl rfl (by decide) rfl rfl dX2_cost_63 (pc' := 66) rfl ?_
        refine zw_iload_n (i := 1) (x := k) E 2 dX2_cost_66 rfl rfl (pc' := 67) rfl ?_
        refine zw_topi (x' := nI kn) ek ?_
        refine zw_iload_n (i := 3) (x := z_at 80 (b.1 1) x) E 0 dX2_cost_67 rfl rfl (pc' := 68) rfl ?_
        refine zw_aload_n (i := 0) (x := a0) E 1 dX2_cost_68 rfl rfl (pc' := 69) rfl ?_
        refine zw_get (v := .ref (ab 0)) E 0 0 iX2_cost_X2 fX2_cost_10 rfl rfl (by decide) rfl rfl dX2_cost_69 (pc' := 72) rfl ?_
        refine zw_get (v := .ref (ab 3)) E 1 2 iX2_cost_X0 fX2_cost_40 rfl rfl (by decide) rfl rfl dX2_cost_72 (pc' := 75) rfl ?_
        refine zw_iload_n (i := 2) (x := x) E 3 dX2_cost_75 rfl rfl (pc' := 76) rfl ?_
        refine zw_callIs E (r := z_at 80 (b.1 2) x) (As := [.ref (ab 3), .int x]) (rest := [.int (z_at 80 (b.1 1) x), .int (nI kn), .ref (al 0)]) (ws' := (tm_W K a0 ab al ao b ((ld_show d b kn (z_at 80 (b.1 1) x) x).2) o)) (qX2_at l D K (ab 3) 80 (b.1 2) x (by decide)) (va_cwS 2 E.2.2.2.2.1 gX2_cost_X2_at rfl rfl rfl (by decide +kernel) ⟨Nat.le_of_ble_eq_true rfl, Nat.le_of_ble_eq_true rfl⟩) [4] (by decide) rfl rfl (zw_put_same _ _ _ rfl) rfl rfl (Nat.le_of_ble_eq_true rfl) ⟨Nat.zero_le _, Nat.zero_le _⟩ dX2_cost_76 (pc' := 79) rfl ?_
        refine zw_callLv E (r := r_worth ((ld_show d b kn (z_at 80 (b.1 1) x) x).2) b kn (z_at 80 (b.1 1) x) (z_at 80 (b.1 2) x)) (As := [.int (nI kn), .int (z_at 80 (b.1 1) x), .int (z_at 80 (b.1 2) x)]) (rest := []) (ws' := (tm_W K a0 ab al ao b (d_worth ((ld_show d b kn (z_at 80 (b.1 1) x) x).2) b kn (z_at 80 (b.1 1) x) (z_at 80 (b.1 2) x)) o)) (qX1_worth l D K al ab ((ld_show d b kn (z_at 80 (b.1 1) x) x).2) b kn hkn80 (z_at 80 (b.1 1) x) (z_at 80 (b.1 2) x)) (cwV 3 E.2.2.2.2.1 gX2_cost_X1_worth rfl rfl rfl (by decide +kernel) ⟨Nat.le_of_ble_eq_true rfl, Nat.le_of_ble_eq_true rfl⟩) 0 rfl rfl rfl [13, 14, 15, 16, 17, 18, 19, 20, 21, 22, 23, 24, 25, 26, 1, 2, 3, 4, 5, 6, 7, 8, 9, 10, 11, 12] (by decide) emC_tm_lbd (lb_ad _ _ _ _ _ _ _) emP_tm_lbd rfl rfl (Nat.le_of_ble_eq_true rfl) ⟨Nat.zero_le _, Nat.zero_le _⟩ dX2_cost_79 (pc' := 82) rfl ?_
        refine zw_lstore (lv' := [(4, .long (r_worth ((ld_show d b kn (z_at 80 (b.1 1) x) x).2) b kn (z_at 80 (b.1 1) x) (z_at 80 (b.1 2) x))), (3, .int (z_at 80 (b.1 1) x)), (0, .ref a0), (1, .int k), (2, .int x)]) E dX2_cost_82 (by decide) rfl (pc' := 84) rfl ?_
        refine zw_lload (x := r_worth ((ld_show d b kn (z_at 80 (b.1 1) x) x).2) b kn (z_at 80 (b.1 1) x) (z_at 80 (b.1 2) x)) E 0 dX2_cost_84 rfl (pc' := 86) rfl ?_
        refine zw_ldc2 (v := (-1)) E dX2_cost_86 kX2_cost_96 (pc' := 89) rfl ?_
        refine zw_lcmp E dX2_cost_89 (pc' := 90) rfl ?_
        refine zw_ifl_ne (tgt := 99) E dX2_cost_90 (by decide) (pc' := 93) rfl (fun c_4 => ?_) (fun c_4 => ?_)
        · skip
          refine zw_ldc2 (v := 25) E dX2_cost_99 kX2_cost_127 (pc' := 102) rfl ?_
          refine zw_lload (x := r_worth ((ld_show d b kn (z_at 80 (b.1 1) x) x).2) b kn (z_at 80 (b.1 1) x) (z_at 80 (b.1 2) x)) E 0 dX2_cost_102 rfl (pc' := 104) rfl ?_
          refine zw_lmul E dX2_cost_104 (pc' := 105) rfl ?_
          exact zw_lret E hr hlk dX2_cost_105 (by unfold r_cost; rw [ek2, if_pos c_1, if_pos c_2, if_pos c_3, if_neg c_4]) (zw_tm2 rfl (by unfold d_cost; rw [if_pos c_1, if_pos c_2, if_pos c_3, ek2]) rfl)
        · skip
          refine zw_ldc2 (v := (-1)) E dX2_cost_93 kX2_cost_96 (pc' := 96) rfl ?_
          refine zw_goto (tgt := 105) E dX2_cost_96 (by decide) ?_
          exact zw_lret E hr hlk dX2_cost_105 (by unfold r_cost; rw [ek2, if_pos c_1, if_pos c_2, if_pos c_3, if_pos c_4]) (zw_tm2 rfl (by unfold d_cost; rw [if_pos c_1, if_pos c_2, if_pos c_3, ek2]) rfl)
      · skip
        refine zw_ldc2 (v := (-1)) E dX2_cost_35 kX2_cost_96 (pc' := 38) rfl ?_
        exact zw_lret E hr hlk dX2_cost_38 (by unfold r_cost; rw [if_pos c_1, if_pos c_2, if_neg c_3]) (zw_tm2 rfl (by unfold d_cost; rw [if_pos c_1, if_pos c_2, if_neg c_3]) rfl)

def r_field (b : Bk) (f what : Int32) : Int32 := if (0 ≤ f ∧ f ≤ nI (b.2 2) - 1) then if what = 0 then z_at 80 (b.1 1) (z_at 60 (b.1 9) f) else if what = 1 then z_at 80 (b.1 1) (z_at 60 (b.1 10) f) else if what = 2 then (z_at 60 (b.1 9) f) else if what = 3 then (z_at 60 (b.1 10) f) else if what = 4 then z_at 80 (b.1 2) (z_at 60 (b.1 9) f) else if what = 5 then z_at 80 (b.1 3) (z_at 60 (b.1 9) f) else -1 else -1
theorem fX2_field_10 : Cond.fieldLink RX2 10 "TitheMap" "book" "LTitheMap$Book;" ∈ wsX2_field := by decide +kernel
theorem fX2_field_124 : Cond.fieldLink RX2 124 "TitheMap$Book" "year" "[I" ∈ wsX2_field := by decide +kernel
theorem fX2_field_129 : Cond.fieldLink RX2 129 "TitheMap$Book" "maker" "[I" ∈ wsX2_field := by decide +kernel
theorem fX2_field_132 : Cond.fieldLink RX2 132 "TitheMap$Book" "ender" "[I" ∈ wsX2_field := by decide +kernel
theorem fX2_field_40 : Cond.fieldLink RX2 40 "TitheMap$Book" "first" "[I" ∈ wsX2_field := by decide +kernel
theorem fX2_field_78 : Cond.fieldLink RX2 78 "TitheMap$Book" "second" "[I" ∈ wsX2_field := by decide +kernel
theorem iX2_field_X0 : ∀ w ∈ wsX00, w ∈ wsX2_field := by decide +kernel
theorem iX2_field_X2 : ∀ w ∈ wsX20, w ∈ wsX2_field := by decide +kernel
set_option maxHeartbeats 4000000 in
set_option maxRecDepth 100000 in
/-- field(f, what) -/
theorem qX2_field (l : Launch) (D : va_G) (K : Nat → ClassId) (a0 : Nat) (ab al ao : Nat → Nat) (b : Bk) (d o : Ld) (f what : Int32) : zw_I l yX2_field wsX2_field rmX2_field D (zT K) [.ref a0, .int f, .int what] (tm_W K a0 ab al ao b d o) (r_field b f what) (tm_W K a0 ab al ao b d o) := by
  refine zw_ofI (cc := cX2_field) (nL := 5) (ret := (some .int)) (own := RX2) (lv := [(0, .ref a0), (1, .int f), (2, .int what)]) (by decide) rfl (Nat.le_of_ble_eq_true rfl) rfl rfl ?_
  intro p e s m below meth c A E hr hlk
  refine zw_aload_n (i := 0) (x := a0) E 0 dX2_field_0 rfl rfl (pc' := 1) rfl ?_
  refine zw_iload_n (i := 1) (x := f) E 1 dX2_field_1 rfl rfl (pc' := 2) rfl ?_
  refine zw_callIw E (r := zb (0 ≤ f ∧ f ≤ nI (b.2 2) - 1)) (As := [.int f]) (rest := []) (ws' := (tm_W K a0 ab al ao b d o)) (qX2_isField l D K a0 ab al ao b d o f) (cwV 1 E.2.2.2.2.1 gX2_field_X2_isField rfl rfl rfl (by decide +kernel) ⟨Nat.le_of_ble_eq_true rfl, Nat.le_of_ble_eq_true rfl⟩) 0 rfl rfl rfl rfl rfl rfl (Nat.le_of_ble_eq_true rfl) ⟨Nat.zero_le _, Nat.zero_le _⟩ dX2_field_2 (pc' := 5) rfl ?_
  refine zw_ifb_ne (tgt := 10) E dX2_field_5 (by decide) (pc' := 8) rfl (fun c_1 => ?_) (fun c_1 => ?_)
  · skip
    refine zw_aload_n (i := 0) (x := a0) E 0 dX2_field_10 rfl rfl (pc' := 11) rfl ?_
    refine zw_get (v := .ref (ab 0)) E 0 0 iX2_field_X2 fX2_field_10 rfl rfl (by decide) rfl rfl dX2_field_11 (pc' := 14) rfl ?_
    refine zw_get (v := .ref (ab 10)) E 1 9 iX2_field_X0 fX2_field_129 rfl rfl (by decide) rfl rfl dX2_field_14 (pc' := 17) rfl ?_
    refine zw_iload_n (i := 1) (x := f) E 1 dX2_field_17 rfl rfl (pc' := 18) rfl ?_
    refine zw_callIs E (r := z_at 60 (b.1 9) f) (As := [.ref (ab 10), .int f]) (rest := []) (ws' := (tm_W K a0 ab al ao b d o)) (qX2_at l D K (ab 10) 60 (b.1 9) f (by decide)) (va_cwS 2 E.2.2.2.2.1 gX2_field_X2_at rfl rfl rfl (by decide +kernel) ⟨Nat.le_of_ble_eq_true rfl, Nat.le_of_ble_eq_true rfl⟩) [11] (by decide) rfl rfl (zw_put_same _ _ _ rfl) rfl rfl (Nat.le_of_ble_eq_true rfl) ⟨Nat.zero_le _, Nat.zero_le _⟩ dX2_field_18 (pc' := 21) rfl ?_
    refine zw_istore_n (lv' := [(3, .int (z_at 60 (b.1 9) f)), (0, .ref a0), (1, .int f), (2, .int what)]) E dX2_field_21 rfl (by decide) rfl (pc' := 22) rfl ?_
    refine zw_aload_n (i := 0) (x := a0) E 1 dX2_field_22 rfl rfl (pc' := 23) rfl ?_
    refine zw_get (v := .ref (ab 0)) E 0 0 iX2_field_X2 fX2_field_10 rfl rfl (by decide) rfl rfl dX2_field_23 (pc' := 26) rfl ?_
    refine zw_get (v := .ref (ab 11)) E 1 10 iX2_field_X0 fX2_field_132 rfl rfl (by decide) rfl rfl dX2_field_26 (pc' := 29) rfl ?_
    refine zw_iload_n (i := 1) (x := f) E 2 dX2_field_29 rfl rfl (pc' := 30) rfl ?_
    refine zw_callIs E (r := z_at 60 (b.1 10) f) (As := [.ref (ab 11), .int f]) (rest := []) (ws' := (tm_W K a0 ab al ao b d o)) (qX2_at l D K (ab 11) 60 (b.1 10) f (by decide)) (va_cwS 2 E.2.2.2.2.1 gX2_field_X2_at rfl rfl rfl (by decide +kernel) ⟨Nat.le_of_ble_eq_true rfl, Nat.le_of_ble_eq_true rfl⟩) [12] (by decide) rfl rfl (zw_put_same _ _ _ rfl) rfl rfl (Nat.le_of_ble_eq_true rfl) ⟨Nat.zero_le _, Nat.zero_le _⟩ dX2_field_30 (pc' := 33) rfl ?_
    refine zw_istore (lv' := [(4, .int (z_at 60 (b.1 10) f)), (3, .int (z_at 60 (b.1 9) f)), (0, .ref a0), (1, .int f), (2, .int what)]) E dX2_field_33 (by decide) rfl (pc' := 35) rfl ?_
    refine zw_iload_n (i := 2) (x := what) E 4 dX2_field_35 rfl rfl (pc' := 36) rfl ?_
    by_cases s_2 : what = 0
    · refine zw_tableIn (tgt := 76) (off := 40) E dX2_field_36 (by rw [s_2]; decide) (by rw [s_2]; decide) (by rw [s_2]; rfl) (by decide) ?_
      refine zw_aload_n (i := 0) (x := a0) E 2 dX2_field_76 rfl rfl (pc' := 77) rfl ?_
      refine zw_get (v := .ref (ab 0)) E 0 0 iX2_field_X2 fX2_field_10 rfl rfl (by decide) rfl rfl dX2_field_77 (pc' := 80) rfl ?_
      refine zw_get (v := .ref (ab 2)) E 1 1 iX2_field_X0 fX2_field_124 rfl rfl (by decide) rfl rfl dX2_field_80 (pc' := 83) rfl ?_
      refine zw_iload_n (i := 3) (x := z_at 60 (b.1 9) f) E 1 dX2_field_83 rfl rfl (pc' := 84) rfl ?_
      refine zw_callIs E (r := z_at 80 (b.1 1) (z_at 60 (b.1 9) f)) (As := [.ref (ab 2), .int (z_at 60 (b.1 9) f)]) (rest := []) (ws' := (tm_W K a0 ab al ao b d o)) (qX2_at l D K (ab 2) 80 (b.1 1) (z_at 60 (b.1 9) f) (by decide)) (va_cwS 2 E.2.2.2.2.1 gX2_field_X2_at rfl rfl rfl (by decide +kernel) ⟨Nat.le_of_ble_eq_true rfl, Nat.le_of_ble_eq_true rfl⟩) [3] (by decide) rfl rfl (zw_put_same _ _ _ rfl) rfl rfl (Nat.le_of_ble_eq_true rfl) ⟨Nat.zero_le _, Nat.zero_le _⟩ dX2_field_84 (pc' := 87) rfl ?_
      exact zw_iret E hr hlk dX2_field_87 (by unfold r_field; rw [if_pos c_1, if_pos s_2]) rfl
    · skip
      by_cases s_3 : what = 1
      · refine zw_tableIn (tgt := 88) (off := 52) E dX2_field_36 (by rw [s_3]; decide) (by rw [s_3]; decide) (by rw [s_3]; rfl) (by decide) ?_
        refine zw_aload_n (i := 0) (x := a0) E 2 dX2_field_88 rfl rfl (pc' := 89) rfl ?_
        refine zw_get (v := .ref (ab 0)) E 0 0 iX2_field_X2 fX2_field_10 rfl rfl (by decide) rfl rfl dX2_field_89 (pc' := 92) rfl ?_
        refine zw_get (v := .ref (ab 2)) E 1 1 iX2_field_X0 fX2_field_124 rfl rfl (by decide) rfl rfl dX2_field_92 (pc' := 95) rfl ?_
        refine zw_iload (x := z_at 60 (b.1 10) f) E 0 dX2_field_95 rfl (pc' := 97) rfl ?_
        refine zw_callIs E (r := z_at 80 (b.1 1) (z_at 60 (b.1 10) f)) (As := [.ref (ab 2), .int (z_at 60 (b.1 10) f)]) (rest := []) (ws' := (tm_W K a0 ab al ao b d o)) (qX2_at l D K (ab 2) 80 (b.1 1) (z_at 60 (b.1 10) f) (by decide)) (va_cwS 2 E.2.2.2.2.1 gX2_field_X2_at rfl rfl rfl (by decide +kernel) ⟨Nat.le_of_ble_eq_true rfl, Nat.le_of_ble_eq_true rfl⟩) [3] (by decide) rfl rfl (zw_put_same _ _ _ rfl) rfl rfl (Nat.le_of_ble_eq_true rfl) ⟨Nat.zero_le _, Nat.zero_le _⟩ dX2_field_97 (pc' := 100) rfl ?_
        exact zw_iret E hr hlk dX2_field_100 (by unfold r_field; rw [if_pos c_1, if_neg s_2, if_pos s_3]) rfl
      · skip
        by_cases s_4 : what = 2
        · refine zw_tableIn (tgt := 101) (off := 65) E dX2_field_36 (by rw [s_4]; decide) (by rw [s_4]; decide) (by rw [s_4]; rfl) (by decide) ?_
          refine zw_iload_n (i := 3) (x := z_at 60 (b.1 9) f) E 1 dX2_field_101 rfl rfl (pc' := 102) rfl ?_
          exact zw_iret E hr hlk dX2_field_102 (by unfold r_field; rw [if_pos c_1, if_neg s_2, if_neg s_3, if_pos s_4]) rfl
        · skip
          by_cases s_5 : what = 3
          · refine zw_tableIn (tgt := 103) (off := 67) E dX2_field_36 (by rw [s_5]; decide) (by rw [s_5]; decide) (by rw [s_5]; rfl) (by decide) ?_
            refine zw_iload (x := z_at 60 (b.1 10) f) E 0 dX2_field_103 rfl (pc' := 105) rfl ?_
            exact zw_iret E hr hlk dX2_field_105 (by unfold r_field; rw [if_pos c_1, if_neg s_2, if_neg s_3, if_neg s_4, if_pos s_5]) rfl
          · skip
            by_cases s_6 : what = 4
            · refine zw_tableIn (tgt := 106) (off := 70) E dX2_field_36 (by rw [s_6]; decide) (by rw [s_6]; decide) (by rw [s_6]; rfl) (by decide) ?_
              refine zw_aload_n (i := 0) (x := a0) E 2 dX2_field_106 rfl rfl (pc' := 107) rfl ?_
              refine zw_get (v := .ref (ab 0)) E 0 0 iX2_field_X2 fX2_field_10 rfl rfl (by decide) rfl rfl dX2_field_107 (pc' := 110) rfl ?_
              refine zw_get (v := .ref (ab 3)) E 1 2 iX2_field_X0 fX2_field_40 rfl rfl (by decide) rfl rfl dX2_field_110 (pc' := 113) rfl ?_
              refine zw_iload_n (i := 3) (x := z_at 60 (b.1 9) f) E 1 dX2_field_113 rfl rfl (pc' := 114) rfl ?_
              refine zw_callIs E (r := z_at 80 (b.1 2) (z_at 60 (b.1 9) f)) (As := [.ref (ab 3), .int (z_at 60 (b.1 9) f)]) (rest := []) (ws' := (tm_W K a0 ab al ao b d o)) (qX2_at l D K (ab 3) 80 (b.1 2) (z_at 60 (b.1 9) f) (by decide)) (va_cwS 2 E.2.2.2.2.1 gX2_field_X2_at rfl rfl rfl (by decide +kernel) ⟨Nat.le_of_ble_eq_true rfl, Nat.le_of_ble_eq_true rfl⟩) [4] (by decide) rfl rfl (zw_put_same _ _ _ rfl) rfl rfl (Nat.le_of_ble_eq_true rfl) ⟨Nat.zero_le _, Nat.zero_le _⟩ dX2_field_114 (pc' := 117) rfl ?_
              exact zw_iret E hr hlk dX2_field_117 (by unfold r_field; rw [if_pos c_1, if_neg s_2, if_neg s_3, if_neg s_4, if_neg s_5, if_pos s_6]) rfl
            · skip
              by_cases s_7 : what = 5
              · refine zw_tableIn (tgt := 118) (off := 82) E dX2_field_36 (by rw [s_7]; decide) (by rw [s_7]; decide) (by rw [s_7]; rfl) (by decide) ?_
                refine zw_aload_n (i := 0) (x := a0) E 2 dX2_field_118 rfl rfl (pc' := 119) rfl ?_
                refine zw_get (v := .ref (ab 0)) E 0 0 iX2_field_X2 fX2_field_10 rfl rfl (by decide) rfl rfl dX2_field_119 (pc' := 122) rfl ?_
                refine zw_get (v := .ref (ab 4)) E 1 3 iX2_field_X0 fX2_field_78 rfl rfl (by decide) rfl rfl dX2_field_122 (pc' := 125) rfl ?_
                refine zw_iload_n (i := 3) (x := z_at 60 (b.1 9) f) E 1 dX2_field_125 rfl rfl (pc' := 126) rfl ?_
                refine zw_callIs E (r := z_at 80 (b.1 3) (z_at 60 (b.1 9) f)) (As := [.ref (ab 4), .int (z_at 60 (b.1 9) f)]) (rest := []) (ws' := (tm_W K a0 ab al ao b d o)) (qX2_at l D K (ab 4) 80 (b.1 3) (z_at 60 (b.1 9) f) (by decide)) (va_cwS 2 E.2.2.2.2.1 gX2_field_X2_at rfl rfl rfl (by decide +kernel) ⟨Nat.le_of_ble_eq_true rfl, Nat.le_of_ble_eq_true rfl⟩) [5] (by decide) rfl rfl (zw_put_same _ _ _ rfl) rfl rfl (Nat.le_of_ble_eq_true rfl) ⟨Nat.zero_le _, Nat.zero_le _⟩ dX2_field_126 (pc' := 129) rfl ?_
                exact zw_iret E hr hlk dX2_field_129 (by unfold r_field; rw [if_pos c_1, if_neg s_2, if_neg s_3, if_neg s_4, if_neg s_5, if_neg s_6, if_pos s_7]) rfl
              · skip
                refine zw_tableOut (tgt := 130) E dX2_field_36 (by have q0 := lv_neT (a := 0) s_2 rfl; have q1 := lv_neT (a := 1) s_3 rfl; have q2 := lv_neT (a := 2) s_4 rfl; have q3 := lv_neT (a := 3) s_5 rfl; have q4 := lv_neT (a := 4) s_6 rfl; have q5 := lv_neT (a := 5) s_7 rfl; omega) (by decide) ?_
                refine zw_iconst (v := (-1)) E dX2_field_130 (by decide) (pc' := 131) rfl ?_
                exact zw_iret E hr hlk dX2_field_131 (by unfold r_field; rw [if_pos c_1, if_neg s_2, if_neg s_3, if_neg s_4, if_neg s_5, if_neg s_6, if_neg s_7]) rfl
  · skip
    refine zw_iconst (v := (-1)) E dX2_field_8 (by decide) (pc' := 9) rfl ?_
    exact zw_iret E hr hlk dX2_field_9 (by unfold r_field; rw [if_neg c_1]) rfl

def r_entry (b : Bk) (x what : Int32) : Int32 := if (0 ≤ x ∧ x ≤ nI (b.2 1) - 1) then if what = 0 then z_at 80 (b.1 0) x else if what = 1 then z_at 80 (b.1 1) x else if what = 2 then z_at 80 (b.1 2) x else if what = 3 then z_at 80 (b.1 7) x else -1 else -1
theorem fX2_entry_10 : Cond.fieldLink RX2 10 "TitheMap" "book" "LTitheMap$Book;" ∈ wsX2_entry := by decide +kernel
theorem fX2_entry_117 : Cond.fieldLink RX2 117 "TitheMap$Book" "act" "[I" ∈ wsX2_entry := by decide +kernel
theorem fX2_entry_124 : Cond.fieldLink RX2 124 "TitheMap$Book" "year" "[I" ∈ wsX2_entry := by decide +kernel
theorem fX2_entry_139 : Cond.fieldLink RX2 139 "TitheMap$Book" "size" "I" ∈ wsX2_entry := by decide +kernel
theorem fX2_entry_40 : Cond.fieldLink RX2 40 "TitheMap$Book" "first" "[I" ∈ wsX2_entry := by decide +kernel
theorem iX2_entry_X0 : ∀ w ∈ wsX00, w ∈ wsX2_entry := by decide +kernel
theorem iX2_entry_X2 : ∀ w ∈ wsX20, w ∈ wsX2_entry := by decide +kernel
set_option maxHeartbeats 4000000 in
set_option maxRecDepth 100000 in
/-- entry(e, what) -/
theorem qX2_entry (l : Launch) (D : va_G) (K : Nat → ClassId) (a0 : Nat) (ab al ao : Nat → Nat) (b : Bk) (d o : Ld) (x what : Int32) : zw_I l yX2_entry wsX2_entry rmX2_entry D (zT K) [.ref a0, .int x, .int what] (tm_W K a0 ab al ao b d o) (r_entry b x what) (tm_W K a0 ab al ao b d o) := by
  refine zw_ofI (cc := cX2_entry) (nL := 3) (ret := (some .int)) (own := RX2) (lv := [(0, .ref a0), (1, .int x), (2, .int what)]) (by decide) rfl (Nat.le_of_ble_eq_true rfl) rfl rfl ?_
  intro p e s m below meth c A E hr hlk
  refine zw_iload_n (i := 1) (x := x) E 1 dX2_entry_0 rfl rfl (pc' := 1) rfl ?_
  refine zw_iconst (v := 0) E dX2_entry_1 (by decide) (pc' := 2) rfl ?_
  refine zw_aload_n (i := 0) (x := a0) E 0 dX2_entry_2 rfl rfl (pc' := 3) rfl ?_
  refine zw_get (v := .ref (ab 0)) E 0 0 iX2_entry_X2 fX2_entry_10 rfl rfl (by decide) rfl rfl dX2_entry_3 (pc' := 6) rfl ?_
  refine zw_get (v := .int (nI (b.2 1))) E 1 12 iX2_entry_X0 fX2_entry_139 rfl rfl (by decide) rfl rfl dX2_entry_6 (pc' := 9) rfl ?_
  refine zw_iconst (v := 1) E dX2_entry_9 (by decide) (pc' := 10) rfl ?_
  refine zw_isub E dX2_entry_10 (pc' := 11) rfl ?_
  refine zw_callIs E (r := zb (0 ≤ x ∧ x ≤ (nI (b.2 1)) - 1)) (As := [.int x, .int 0, .int ((nI (b.2 1)) - 1)]) (rest := []) (ws' := (tm_W K a0 ab al ao b d o)) (qX2_isWithin l D K x 0 ((nI (b.2 1)) - 1)) (va_cwS 3 E.2.2.2.2.1 gX2_entry_X2_isWithin rfl rfl rfl (by decide +kernel) ⟨Nat.le_of_ble_eq_true rfl, Nat.le_of_ble_eq_true rfl⟩) [] (by decide) rfl rfl (zw_put_same _ _ _ rfl) rfl rfl (Nat.le_of_ble_eq_true rfl) ⟨Nat.zero_le _, Nat.zero_le _⟩ dX2_entry_11 (pc' := 14) rfl ?_
  refine zw_ifb_ne (tgt := 19) E dX2_entry_14 (by decide) (pc' := 17) rfl (fun c_1 => ?_) (fun c_1 => ?_)
  · skip
    refine zw_iload_n (i := 2) (x := what) E 2 dX2_entry_19 rfl rfl (pc' := 20) rfl ?_
    by_cases s_2 : what = 0
    · refine zw_tableIn (tgt := 52) (off := 32) E dX2_entry_20 (by rw [s_2]; decide) (by rw [s_2]; decide) (by rw [s_2]; rfl) (by decide) ?_
      refine zw_aload_n (i := 0) (x := a0) E 0 dX2_entry_52 rfl rfl (pc' := 53) rfl ?_
      refine zw_get (v := .ref (ab 0)) E 0 0 iX2_entry_X2 fX2_entry_10 rfl rfl (by decide) rfl rfl dX2_entry_53 (pc' := 56) rfl ?_
      refine zw_get (v := .ref (ab 1)) E 1 0 iX2_entry_X0 fX2_entry_117 rfl rfl (by decide) rfl rfl dX2_entry_56 (pc' := 59) rfl ?_
      refine zw_iload_n (i := 1) (x := x) E 1 dX2_entry_59 rfl rfl (pc' := 60) rfl ?_
      refine zw_callIs E (r := z_at 80 (b.1 0) x) (As := [.ref (ab 1), .int x]) (rest := []) (ws' := (tm_W K a0 ab al ao b d o)) (qX2_at l D K (ab 1) 80 (b.1 0) x (by decide)) (va_cwS 2 E.2.2.2.2.1 gX2_entry_X2_at rfl rfl rfl (by decide +kernel) ⟨Nat.le_of_ble_eq_true rfl, Nat.le_of_ble_eq_true rfl⟩) [2] (by decide) rfl rfl (zw_put_same _ _ _ rfl) rfl rfl (Nat.le_of_ble_eq_true rfl) ⟨Nat.zero_le _, Nat.zero_le _⟩ dX2_entry_60 (pc' := 63) rfl ?_
      exact zw_iret E hr hlk dX2_entry_63 (by unfold r_entry; rw [if_pos c_1, if_pos s_2]) rfl
    · skip
      by_cases s_3 : what = 1
      · refine zw_tableIn (tgt := 64) (off := 44) E dX2_entry_20 (by rw [s_3]; decide) (by rw [s_3]; decide) (by rw [s_3]; rfl) (by decide) ?_
        refine zw_aload_n (i := 0) (x := a0) E 0 dX2_entry_64 rfl rfl (pc' := 65) rfl ?_
        refine zw_get (v := .ref (ab 0)) E 0 0 iX2_entry_X2 fX2_entry_10 rfl rfl (by decide) rfl rfl dX2_entry_65 (pc' := 68) rfl ?_
        refine zw_get (v := .ref (ab 2)) E 1 1 iX2_entry_X0 fX2_entry_124 rfl rfl (by decide) rfl rfl dX2_entry_68 (pc' := 71) rfl ?_
        refine zw_iload_n (i := 1) (x := x) E 1 dX2_entry_71 rfl rfl (pc' := 72) rfl ?_
        refine zw_callIs E (r := z_at 80 (b.1 1) x) (As := [.ref (ab 2), .int x]) (rest := []) (ws' := (tm_W K a0 ab al ao b d o)) (qX2_at l D K (ab 2) 80 (b.1 1) x (by decide)) (va_cwS 2 E.2.2.2.2.1 gX2_entry_X2_at rfl rfl rfl (by decide +kernel) ⟨Nat.le_of_ble_eq_true rfl, Nat.le_of_ble_eq_true rfl⟩) [3] (by decide) rfl rfl (zw_put_same _ _ _ rfl) rfl rfl (Nat.le_of_ble_eq_true rfl) ⟨Nat.zero_le _, Nat.zero_le _⟩ dX2_entry_72 (pc' := 75) rfl ?_
        exact zw_iret E hr hlk dX2_entry_75 (by unfold r_entry; rw [if_pos c_1, if_neg s_2, if_pos s_3]) rfl
      · skip
        by_cases s_4 : what = 2
        · refine zw_tableIn (tgt := 76) (off := 56) E dX2_entry_20 (by rw [s_4]; decide) (by rw [s_4]; decide) (by rw [s_4]; rfl) (by decide) ?_
          refine zw_aload_n (i := 0) (x := a0) E 0 dX2_entry_76 rfl rfl (pc' := 77) rfl ?_
          refine zw_get (v := .ref (ab 0)) E 0 0 iX2_entry_X2 fX2_entry_10 rfl rfl (by decide) rfl rfl dX2_entry_77 (pc' := 80) rfl ?_
          refine zw_get (v := .ref (ab 3)) E 1 2 iX2_entry_X0 fX2_entry_40 rfl rfl (by decide) rfl rfl dX2_entry_80 (pc' := 83) rfl ?_
          refine zw_iload_n (i := 1) (x := x) E 1 dX2_entry_83 rfl rfl (pc' := 84) rfl ?_
          refine zw_callIs E (r := z_at 80 (b.1 2) x) (As := [.ref (ab 3), .int x]) (rest := []) (ws' := (tm_W K a0 ab al ao b d o)) (qX2_at l D K (ab 3) 80 (b.1 2) x (by decide)) (va_cwS 2 E.2.2.2.2.1 gX2_entry_X2_at rfl rfl rfl (by decide +kernel) ⟨Nat.le_of_ble_eq_true rfl, Nat.le_of_ble_eq_true rfl⟩) [4] (by decide) rfl rfl (zw_put_same _ _ _ rfl) rfl rfl (Nat.le_of_ble_eq_true rfl) ⟨Nat.zero_le _, Nat.zero_le _⟩ dX2_entry_84 (pc' := 87) rfl ?_
          exact zw_iret E hr hlk dX2_entry_87 (by unfold r_entry; rw [if_pos c_1, if_neg s_2, if_neg s_3, if_pos s_4]) rfl
        · skip
          by_cases s_5 : what = 3
          · refine zw_tableIn (tgt := 88) (off := 68) E dX2_entry_20 (by rw [s_5]; decide) (by rw [s_5]; decide) (by rw [s_5]; rfl) (by decide) ?_
            refine zw_aload_n (i := 0) (x := a0) E 0 dX2_entry_88 rfl rfl (pc' := 89) rfl ?_
            refine zw_iload_n (i := 1) (x := x) E 1 dX2_entry_89 rfl rfl (pc' := 90) rfl ?_
            refine zw_callIw E (r := z_at 80 (b.1 7) x) (As := [.int x]) (rest := []) (ws' := (tm_W K a0 ab al ao b d o)) (qX2_firstMadeBy l D K a0 ab al ao b d o x) (cwV 1 E.2.2.2.2.1 gX2_entry_X2_firstMadeBy rfl rfl rfl (by decide +kernel) ⟨Nat.le_of_ble_eq_true rfl, Nat.le_of_ble_eq_true rfl⟩) 0 rfl rfl rfl rfl rfl rfl (Nat.le_of_ble_eq_true rfl) ⟨Nat.zero_le _, Nat.zero_le _⟩ dX2_entry_90 (pc' := 93) rfl ?_
            exact zw_iret E hr hlk dX2_entry_93 (by unfold r_entry; rw [if_pos c_1, if_neg s_2, if_neg s_3, if_neg s_4, if_pos s_5]) rfl
          · skip
            refine zw_tableOut (tgt := 94) E dX2_entry_20 (by have q0 := lv_neT (a := 0) s_2 rfl; have q1 := lv_neT (a := 1) s_3 rfl; have q2 := lv_neT (a := 2) s_4 rfl; have q3 := lv_neT (a := 3) s_5 rfl; omega) (by decide) ?_
            refine zw_iconst (v := (-1)) E dX2_entry_94 (by decide) (pc' := 95) rfl ?_
            exact zw_iret E hr hlk dX2_entry_95 (by unfold r_entry; rw [if_pos c_1, if_neg s_2, if_neg s_3, if_neg s_4, if_neg s_5]) rfl
  · skip
    refine zw_iconst (v := (-1)) E dX2_entry_17 (by decide) (pc' := 18) rfl ?_
    exact zw_iret E hr hlk dX2_entry_18 (by unfold r_entry; rw [if_neg c_1]) rfl

def r_count (b : Bk) (what : Int32) : Int32 := if what = 0 then nI (b.2 1) else if what = 1 then nI (b.2 2) else -1
theorem fX2_count_10 : Cond.fieldLink RX2 10 "TitheMap" "book" "LTitheMap$Book;" ∈ wsX2_count := by decide +kernel
theorem fX2_count_139 : Cond.fieldLink RX2 139 "TitheMap$Book" "size" "I" ∈ wsX2_count := by decide +kernel
theorem fX2_count_143 : Cond.fieldLink RX2 143 "TitheMap$Book" "fields" "I" ∈ wsX2_count := by decide +kernel
theorem iX2_count_X0 : ∀ w ∈ wsX00, w ∈ wsX2_count := by decide +kernel
theorem iX2_count_X2 : ∀ w ∈ wsX20, w ∈ wsX2_count := by decide +kernel
set_option maxHeartbeats 4000000 in
set_option maxRecDepth 100000 in
/-- count(what) -/
theorem qX2_count (l : Launch) (D : va_G) (K : Nat → ClassId) (a0 : Nat) (ab al ao : Nat → Nat) (b : Bk) (d o : Ld) (what : Int32) : zw_I l yX2_count wsX2_count rmX2_count D (zT K) [.ref a0, .int what] (tm_W K a0 ab al ao b d o) (r_count b what) (tm_W K a0 ab al ao b d o) := by
  refine zw_ofI (cc := cX2_count) (nL := 2) (ret := (some .int)) (own := RX2) (lv := [(0, .ref a0), (1, .int what)]) (by decide) rfl (Nat.le_of_ble_eq_true rfl) rfl rfl ?_
  intro p e s m below meth c A E hr hlk
  refine zw_iload_n (i := 1) (x := what) E 1 dX2_count_0 rfl rfl (pc' := 1) rfl ?_
  by_cases s_1 : what = 0
  · refine zw_lookup (tgt := 28) (off := 27) E dX2_count_1 (by decide) (by rw [s_1]; decide) (by decide) ?_
    refine zw_aload_n (i := 0) (x := a0) E 0 dX2_count_28 rfl rfl (pc' := 29) rfl ?_
    refine zw_get (v := .ref (ab 0)) E 0 0 iX2_count_X2 fX2_count_10 rfl rfl (by decide) rfl rfl dX2_count_29 (pc' := 32) rfl ?_
    refine zw_get (v := .int (nI (b.2 1))) E 1 12 iX2_count_X0 fX2_count_139 rfl rfl (by decide) rfl rfl dX2_count_32 (pc' := 35) rfl ?_
    exact zw_iret E hr hlk dX2_count_35 (by unfold r_count; rw [if_pos s_1]) rfl
  · by_cases s_2 : what = 1
    · refine zw_lookup (tgt := 36) (off := 35) E dX2_count_1 (by decide) (by rw [s_2]; decide) (by decide) ?_
      refine zw_aload_n (i := 0) (x := a0) E 0 dX2_count_36 rfl rfl (pc' := 37) rfl ?_
      refine zw_get (v := .ref (ab 0)) E 0 0 iX2_count_X2 fX2_count_10 rfl rfl (by decide) rfl rfl dX2_count_37 (pc' := 40) rfl ?_
      refine zw_get (v := .int (nI (b.2 2))) E 1 13 iX2_count_X0 fX2_count_143 rfl rfl (by decide) rfl rfl dX2_count_40 (pc' := 43) rfl ?_
      exact zw_iret E hr hlk dX2_count_43 (by unfold r_count; rw [if_neg s_1, if_pos s_2]) rfl
    · refine zw_lookup (tgt := 44) (off := 43) E dX2_count_1 (by decide) (by rw [show (#[(0, 27), (1, 35)] : Array (Int × Int)).toList = [(0, 27), (1, 35)] from rfl, lv_osw (a := 0) s_1 rfl, lv_osw (a := 1) s_2 rfl]; rfl) (by decide) ?_
      refine zw_iconst (v := (-1)) E dX2_count_44 (by decide) (pc' := 45) rfl ?_
      exact zw_iret E hr hlk dX2_count_45 (by unfold r_count; rw [if_neg s_1, if_neg s_2]) rfl

def dfr (d o : Ld) (i : Int32) : Nat → Nat → Int32 → Int32
  | 0, _, _ => -1
  | r + 1, k, n => if l_other d o (nI k) = 0 then dfr d o i r (k + 1) n else if n = i then nI k else dfr d o i r (k + 1) (n + 1)
def r_differ (b : Bk) (d o : Ld) (k k2 y i : Int32) : Int32 := if (0 ≤ k ∧ k ≤ nI (b.2 1)) then if (0 ≤ k2 ∧ k2 ≤ nI (b.2 1)) then if (0 ≤ y ∧ y ≤ 200) then dfr (ld_show d b k.toNatClampNeg y (-1)).2 (ld_show o b k2.toNatClampNeg y (-1)).2 i 60 0 0 else -1 else -1 else -1
def d_differ (b : Bk) (d : Ld) (k k2 y : Int32) : Ld := if (0 ≤ k ∧ k ≤ nI (b.2 1)) then if (0 ≤ k2 ∧ k2 ≤ nI (b.2 1)) then if (0 ≤ y ∧ y ≤ 200) then (ld_show d b k.toNatClampNeg y (-1)).2 else d else d else d
def o_differ (b : Bk) (o : Ld) (k k2 y : Int32) : Ld := if (0 ≤ k ∧ k ≤ nI (b.2 1)) then if (0 ≤ k2 ∧ k2 ≤ nI (b.2 1)) then if (0 ≤ y ∧ y ≤ 200) then (ld_show o b k2.toNatClampNeg y (-1)).2 else o else o else o
theorem fX2_differ_21 : Cond.fieldLink RX2 21 "TitheMap" "land" "LTitheMap$Land;" ∈ wsX2_differ := by decide +kernel
theorem fX2_differ_25 : Cond.fieldLink RX2 25 "TitheMap" "otherLand" "LTitheMap$Land;" ∈ wsX2_differ := by decide +kernel
theorem iX2_differ_X2 : ∀ w ∈ wsX20, w ∈ wsX2_differ := by decide +kernel
set_option maxHeartbeats 4000000 in
set_option maxRecDepth 100000 in
theorem lX2_differ {l : Launch} {D : va_G} {K : Nat → ClassId} {p : Program} {e : Env} {s : State} {m : MethodId} {below : List Frame} {meth : Method} {c : Code} {A : Nat → Prop} {args : Array Value} (E : zw_E p s m args c cX2_differ 7 RX2 wsX2_differ D (zT K) A) (hr : meth.sig.returnType = some .int) (hlk : meth.locks = false) (a0 : Nat) (ab al ao : Nat → Nat) (b : Bk) (d o : Ld) (k1 k2 y i : Int32) : ∀ (r k : Nat) (n : Int32), r + k = 60 → zw_W p l e rmX2_differ s m args below meth c 7 D A 0 0 (zw_Qi D A below args s (dfr d o i r k n) (tm_W K a0 ab al ao b d o)) 57 [(0, .ref a0), (1, .int k1), (2, .int k2), (3, .int y), (4, .int i), (5, .int n), (6, .int (nI k))] [] (tm_W K a0 ab al ao b d o) := by
  intro r
  induction r with
  | zero =>
    intro k n hri
    have hk0 : 60 ≤ k := by omega
    refine zw_iload (x := nI k) E 6 dX2_differ_57 rfl (pc' := 59) rfl ?_
    refine zw_bipush (v := 60) E dX2_differ_59 (by decide) (pc' := 61) rfl ?_
    refine zw_icmp_ge (tgt := 99) E dX2_differ_61 (by decide) (pc' := 64) rfl (fun c_1 => ?_) (fun c_1 => ?_)
    · skip
      refine zw_iconst (v := (-1)) E dX2_differ_99 (by decide) (pc' := 100) rfl ?_
      exact zw_iret E hr hlk dX2_differ_100 rfl rfl
    · exact absurd (nI_le (a := 60) hk0 (by omega)) c_1
  | succ r ih =>
    intro k n hri
    have hk : k < 60 := by omega
    refine zw_iload (x := nI k) E 6 dX2_differ_57 rfl (pc' := 59) rfl ?_
    refine zw_bipush (v := 60) E dX2_differ_59 (by decide) (pc' := 61) rfl ?_
    refine zw_icmp_ge (tgt := 99) E dX2_differ_61 (by decide) (pc' := 64) rfl (fun c_1 => ?_) (fun c_1 => ?_)
    · exact absurd c_1 (zw_n60 hk)
    · skip
      refine zw_aload_n (i := 0) (x := a0) E 0 dX2_differ_64 rfl rfl (pc' := 65) rfl ?_
      refine zw_get (v := .ref (al 0)) E 0 1 iX2_differ_X2 fX2_differ_21 rfl rfl (by decide) rfl rfl dX2_differ_65 (pc' := 68) rfl ?_
      refine zw_aload_n (i := 0) (x := a0) E 0 dX2_differ_68 rfl rfl (pc' := 69) rfl ?_
      refine zw_get (v := .ref (ao 0)) E 0 2 iX2_differ_X2 fX2_differ_25 rfl rfl (by decide) rfl rfl dX2_differ_69 (pc' := 72) rfl ?_
      refine zw_iload (x := nI k) E 6 dX2_differ_72 rfl (pc' := 74) rfl ?_
      refine zw_callIv E (r := l_other d o (nI k)) (As := [.ref (ao 0), .int (nI k)]) (rest := []) (ws' := (tm_W K a0 ab al ao b d o)) (qX1_isOtherwise l D K al ao (ab 0) d o (nI k)) (cwV 2 E.2.2.2.2.1 gX2_differ_X1_isOtherwise rfl rfl rfl (by decide +kernel) ⟨Nat.le_of_ble_eq_true rfl, Nat.le_of_ble_eq_true rfl⟩) 0 rfl rfl rfl [13, 14, 15, 16, 17, 18, 19, 20, 21, 22, 23, 24, 25, 26, 27, 28, 29, 30, 31, 32, 33, 34, 35, 36, 37, 38, 39, 40] (by decide) emC_tm_l2 rfl (zw_put_same _ _ _ emC_tm_l2) rfl rfl (Nat.le_of_ble_eq_true rfl) ⟨Nat.zero_le _, Nat.zero_le _⟩ dX2_differ_74 (pc' := 77) rfl ?_
      refine zw_if_eq (tgt := 93) E dX2_differ_77 (by decide) (pc' := 80) rfl (fun c_2 => ?_) (fun c_2 => ?_)
      · skip
        refine zw_iinc (x := nI k) (v := nI (k + 1)) (lv' := [(6, .int (nI (k + 1))), (0, .ref a0), (1, .int k1), (2, .int k2), (3, .int y), (4, .int i), (5, .int n)]) E 6 dX2_differ_93 rfl (zw_inc1 k) (by decide) rfl (pc' := 96) rfl ?_
        refine zw_goto (tgt := 57) E dX2_differ_96 (by decide) ?_
        have e1 : dfr d o i (r + 1) k n = dfr d o i r (k + 1) n := by rw [dfr, if_pos c_2]
        rw [e1]
        refine zw_sub [1, 2, 3, 4, 5, 6, 0] (lv' := [(0, .ref a0), (1, .int k1), (2, .int k2), (3, .int y), (4, .int i), (5, .int n), (6, .int (nI (k + 1)))]) rfl ?_
        exact ih (k + 1) n (by omega)
      · skip
        refine zw_iload (x := n) E 5 dX2_differ_80 rfl (pc' := 82) rfl ?_
        refine zw_iload (x := i) E 4 dX2_differ_82 rfl (pc' := 84) rfl ?_
        refine zw_icmp_ne (tgt := 90) E dX2_differ_84 (by decide) (pc' := 87) rfl (fun c_3 => ?_) (fun c_3 => ?_)
        · skip
          refine zw_iinc (x := n) (v := n + 1) (lv' := [(5, .int (n + 1)), (0, .ref a0), (1, .int k1), (2, .int k2), (3, .int y), (4, .int i), (6, .int (nI k))]) E 5 dX2_differ_90 rfl (by rfl) (by decide) rfl (pc' := 93) rfl ?_
          refine zw_iinc (x := nI k) (v := nI (k + 1)) (lv' := [(6, .int (nI (k + 1))), (5, .int (n + 1)), (0, .ref a0), (1, .int k1), (2, .int k2), (3, .int y), (4, .int i)]) E 6 dX2_differ_93 rfl (zw_inc1 k) (by decide) rfl (pc' := 96) rfl ?_
          refine zw_goto (tgt := 57) E dX2_differ_96 (by decide) ?_
          have e1 : dfr d o i (r + 1) k n = dfr d o i r (k + 1) (n + 1) := by rw [dfr, if_neg c_2, if_neg c_3]
          rw [e1]
          refine zw_sub [2, 3, 4, 5, 6, 1, 0] (lv' := [(0, .ref a0), (1, .int k1), (2, .int k2), (3, .int y), (4, .int i), (5, .int (n + 1)), (6, .int (nI (k + 1)))]) rfl ?_
          exact ih (k + 1) (n + 1) (by omega)
        · skip
          refine zw_iload (x := nI k) E 6 dX2_differ_87 rfl (pc' := 89) rfl ?_
          exact zw_iret E hr hlk dX2_differ_89 (by rw [dfr, if_neg c_2, if_pos c_3]) rfl

set_option maxHeartbeats 4000000 in
set_option maxRecDepth 100000 in
/-- differ(k, l, y, i) -/
theorem qX2_differ (l : Launch) (D : va_G) (K : Nat → ClassId) (a0 : Nat) (ab al ao : Nat → Nat) (b : Bk) (d o : Ld) (k k2 y i : Int32) (hs80 : b.2 1 ≤ 80) (ha80 : b.2 0 ≤ b.2 1) (hok : ∀ i, i < b.2 0 → en_ok b (z_at 80 (b.1 8) (nI i))) : zw_I l yX2_differ wsX2_differ rmX2_differ D (zT K) [.ref a0, .int k, .int k2, .int y, .int i] (tm_W K a0 ab al ao b d o) (r_differ b d o k k2 y i) (tm_W K a0 ab al ao b (d_differ b d k k2 y) (o_differ b o k k2 y)) := by
  refine zw_ofI (cc := cX2_differ) (nL := 7) (ret := (some .int)) (own := RX2) (lv := [(0, .ref a0), (1, .int k), (2, .int k2), (3, .int y), (4, .int i)]) (by decide) rfl (Nat.le_of_ble_eq_true rfl) rfl rfl ?_
  intro p e s m below meth c A E hr hlk
  refine zw_aload_n (i := 0) (x := a0) E 0 dX2_differ_0 rfl rfl (pc' := 1) rfl ?_
  refine zw_iload_n (i := 1) (x := k) E 1 dX2_differ_1 rfl rfl (pc' := 2) rfl ?_
  refine zw_callIw E (r := zb (0 ≤ k ∧ k ≤ nI (b.2 1))) (As := [.int k]) (rest := []) (ws' := (tm_W K a0 ab al ao b d o)) (qX2_isKnowing l D K a0 ab al ao b d o k) (cwV 1 E.2.2.2.2.1 gX2_differ_X2_isKnowing rfl rfl rfl (by decide +kernel) ⟨Nat.le_of_ble_eq_true rfl, Nat.le_of_ble_eq_true rfl⟩) 0 rfl rfl rfl rfl rfl rfl (Nat.le_of_ble_eq_true rfl) ⟨Nat.zero_le _, Nat.zero_le _⟩ dX2_differ_2 (pc' := 5) rfl ?_
  refine zw_ifb_eq (tgt := 27) E dX2_differ_5 (by decide) (pc' := 8) rfl (fun c_1 => ?_) (fun c_1 => ?_)
  · skip
    refine zw_iconst (v := (-1)) E dX2_differ_27 (by decide) (pc' := 28) rfl ?_
    exact zw_iret E hr hlk dX2_differ_28 (by unfold r_differ; rw [if_neg c_1]) (zw_tm2 rfl (by unfold d_differ; rw [if_neg c_1]) (by unfold o_differ; rw [if_neg c_1]))
  · skip
    obtain ⟨kn, hkn, ek⟩ := zw_kn hs80 c_1
    have ek2 : k.toNatClampNeg = kn := by rw [ek]; exact nI_clamp (by omega)
    have hkn80 : kn ≤ 80 := Nat.le_trans hkn hs80
    have hb80 : b.2 0 ≤ 80 := Nat.le_trans ha80 hs80
    refine zw_aload_n (i := 0) (x := a0) E 0 dX2_differ_8 rfl rfl (pc' := 9) rfl ?_
    refine zw_iload_n (i := 2) (x := k2) E 2 dX2_differ_9 rfl rfl (pc' := 10) rfl ?_
    refine zw_callIw E (r := zb (0 ≤ k2 ∧ k2 ≤ nI (b.2 1))) (As := [.int k2]) (rest := []) (ws' := (tm_W K a0 ab al ao b d o)) (qX2_isKnowing l D K a0 ab al ao b d o k2) (cwV 1 E.2.2.2.2.1 gX2_differ_X2_isKnowing rfl rfl rfl (by decide +kernel) ⟨Nat.le_of_ble_eq_true rfl, Nat.le_of_ble_eq_true rfl⟩) 0 rfl rfl rfl rfl rfl rfl (Nat.le_of_ble_eq_true rfl) ⟨Nat.zero_le _, Nat.zero_le _⟩ dX2_differ_10 (pc' := 13) rfl ?_
    refine zw_ifb_eq (tgt := 27) E dX2_differ_13 (by decide) (pc' := 16) rfl (fun c_2 => ?_) (fun c_2 => ?_)
    · skip
      refine zw_iconst (v := (-1)) E dX2_differ_27 (by decide) (pc' := 28) rfl ?_
      exact zw_iret E hr hlk dX2_differ_28 (by unfold r_differ; rw [if_pos c_1, if_neg c_2]) (zw_tm2 rfl (by unfold d_differ; rw [if_pos c_1, if_neg c_2]) (by unfold o_differ; rw [if_pos c_1, if_neg c_2]))
    · skip
      obtain ⟨kn2, hkn2, ek3⟩ := zw_kn hs80 c_2
      have ek4 : k2.toNatClampNeg = kn2 := by rw [ek3]; exact nI_clamp (by omega)
      have hkn280 : kn2 ≤ 80 := Nat.le_trans hkn2 hs80
      refine zw_iload_n (i := 3) (x := y) E 3 dX2_differ_16 rfl rfl (pc' := 17) rfl ?_
      refine zw_iconst (v := 0) E dX2_differ_17 (by decide) (pc' := 18) rfl ?_
      refine zw_sipush (v := 200) E dX2_differ_18 (by decide) (pc' := 21) rfl ?_
      refine zw_callIs E (r := zb (0 ≤ y ∧ y ≤ 200)) (As := [.int y, .int 0, .int 200]) (rest := []) (ws' := (tm_W K a0 ab al ao b d o)) (qX2_isWithin l D K y 0 200) (va_cwS 3 E.2.2.2.2.1 gX2_differ_X2_isWithin rfl rfl rfl (by decide +kernel) ⟨Nat.le_of_ble_eq_true rfl, Nat.le_of_ble_eq_true rfl⟩) [] (by decide) rfl rfl (zw_put_same _ _ _ rfl) rfl rfl (Nat.le_of_ble_eq_true rfl) ⟨Nat.zero_le _, Nat.zero_le _⟩ dX2_differ_21 (pc' := 24) rfl ?_
      refine zw_ifb_ne (tgt := 29) E dX2_differ_24 (by decide) (pc' := 27) rfl (fun c_3 => ?_) (fun c_3 => ?_)
      · skip
        refine zw_aload_n (i := 0) (x := a0) E 0 dX2_differ_29 rfl rfl (pc' := 30) rfl ?_
        refine zw_get (v := .ref (al 0)) E 0 1 iX2_differ_X2 fX2_differ_21 rfl rfl (by decide) rfl rfl dX2_differ_30 (pc' := 33) rfl ?_
        refine zw_iload_n (i := 1) (x := k) E 1 dX2_differ_33 rfl rfl (pc' := 34) rfl ?_
        refine zw_topi (x' := nI kn) ek ?_
        refine zw_iload_n (i := 3) (x := y) E 3 dX2_differ_34 rfl rfl (pc' := 35) rfl ?_
        refine zw_iconst (v := (-1)) E dX2_differ_35 (by decide) (pc' := 36) rfl ?_
        refine zw_callIv E (r := (ld_show d b kn y (-1)).1) (As := [.int (nI kn), .int y, .int (-1)]) (rest := []) (ws' := (tm_W K a0 ab al ao b ((ld_show d b kn y (-1)).2) o)) (qX1_show l D K al ab d b kn hkn80 y (-1) hb80 hok) (cwV 3 E.2.2.2.2.1 gX2_differ_X1_show rfl rfl rfl (by decide +kernel) ⟨Nat.le_of_ble_eq_true rfl, Nat.le_of_ble_eq_true rfl⟩) 0 rfl rfl rfl [13, 14, 15, 16, 17, 18, 19, 20, 21, 22, 23, 24, 25, 26, 1, 2, 3, 4, 5, 6, 7, 8, 9, 10, 11, 12] (by decide) emC_tm_lbd (lb_ad _ _ _ _ _ _ _) emP_tm_lbd rfl rfl (Nat.le_of_ble_eq_true rfl) ⟨Nat.zero_le _, Nat.zero_le _⟩ dX2_differ_36 (pc' := 39) rfl ?_
        refine zw_pop E dX2_differ_39 rfl (pc' := 40) rfl ?_
        refine zw_aload_n (i := 0) (x := a0) E 0 dX2_differ_40 rfl rfl (pc' := 41) rfl ?_
        refine zw_get (v := .ref (ao 0)) E 0 2 iX2_differ_X2 fX2_differ_25 rfl rfl (by decide) rfl rfl dX2_differ_41 (pc' := 44) rfl ?_
        refine zw_iload_n (i := 2) (x := k2) E 2 dX2_differ_44 rfl rfl (pc' := 45) rfl ?_
        refine zw_topi (x' := nI kn2) ek3 ?_
        refine zw_iload_n (i := 3) (x := y) E 3 dX2_differ_45 rfl rfl (pc' := 46) rfl ?_
        refine zw_iconst (v := (-1)) E dX2_differ_46 (by decide) (pc' := 47) rfl ?_
        refine zw_callIv E (r := (ld_show o b kn2 y (-1)).1) (As := [.int (nI kn2), .int y, .int (-1)]) (rest := []) (ws' := (tm_W K a0 ab al ao b ((ld_show d b kn y (-1)).2) ((ld_show o b kn2 y (-1)).2))) (qX1_show l D K ao ab o b kn2 hkn280 y (-1) hb80 hok) (cwV 3 E.2.2.2.2.1 gX2_differ_X1_show rfl rfl rfl (by decide +kernel) ⟨Nat.le_of_ble_eq_true rfl, Nat.le_of_ble_eq_true rfl⟩) 0 rfl rfl rfl [27, 28, 29, 30, 31, 32, 33, 34, 35, 36, 37, 38, 39, 40, 1, 2, 3, 4, 5, 6, 7, 8, 9, 10, 11, 12] (by decide) emC_tm_lbo (lb_ad _ _ _ _ _ _ _) emP_tm_lbo rfl rfl (Nat.le_of_ble_eq_true rfl) ⟨Nat.zero_le _, Nat.zero_le _⟩ dX2_differ_47 (pc' := 50) rfl ?_
        refine zw_pop E dX2_differ_50 rfl (pc' := 51) rfl ?_
        refine zw_iconst (v := 0) E dX2_differ_51 (by decide) (pc' := 52) rfl ?_
        refine zw_istore (lv' := [(5, .int 0), (0, .ref a0), (1, .int k), (2, .int k2), (3, .int y), (4, .int i)]) E dX2_differ_52 (by decide) rfl (pc' := 54) rfl ?_
        refine zw_iconst (v := 0) E dX2_differ_54 (by decide) (pc' := 55) rfl ?_
        refine zw_istore (lv' := [(6, .int 0), (5, .int 0), (0, .ref a0), (1, .int k), (2, .int k2), (3, .int y), (4, .int i)]) E dX2_differ_55 (by decide) rfl (pc' := 57) rfl ?_
        have e1 : r_differ b d o k k2 y i = dfr (ld_show d b kn y (-1)).2 (ld_show o b kn2 y (-1)).2 i 60 0 0 := by unfold r_differ; rw [if_pos c_1, if_pos c_2, if_pos c_3, ek2, ek4]
        have e2 : d_differ b d k k2 y = (ld_show d b kn y (-1)).2 := by unfold d_differ; rw [if_pos c_1, if_pos c_2, if_pos c_3, ek2]
        have e3 : o_differ b o k k2 y = (ld_show o b kn2 y (-1)).2 := by unfold o_differ; rw [if_pos c_1, if_pos c_2, if_pos c_3, ek4]
        rw [e1, e2, e3]
        refine zw_sub [2, 3, 4, 5, 6, 1, 0] (lv' := [(0, .ref a0), (1, .int k), (2, .int k2), (3, .int y), (4, .int i), (5, .int 0), (6, .int 0)]) rfl ?_
        exact lX2_differ E hr hlk a0 ab al ao b _ _ k k2 y i 60 0 0 (by omega)
      · skip
        refine zw_iconst (v := (-1)) E dX2_differ_27 (by decide) (pc' := 28) rfl ?_
        exact zw_iret E hr hlk dX2_differ_28 (by unfold r_differ; rw [if_pos c_1, if_pos c_2, if_neg c_3]) (zw_tm2 rfl (by unfold d_differ; rw [if_pos c_1, if_pos c_2, if_neg c_3]) (by unfold o_differ; rw [if_pos c_1, if_pos c_2, if_neg c_3]))
