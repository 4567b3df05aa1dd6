/-! the land: isNumber, isThere, clearCharge, tryMake, trySell, tryBuy, tryPart, tryJoin -/
theorem zw_in3 {f : Int32} (h0 : 0 ≤ f) (h1 : f < 60) : vp_in f 60 := zw_in2 (n := 60) (by decide) (Int32.not_lt.mpr h0) h1
theorem zw_num {j : Nat} (h : j < 60) : 0 ≤ nI j ∧ nI j < 60 := ⟨nI_pos' (by omega), nI_lt (b := 60) h (by decide)⟩
abbrev is_there (d : Ld) (f : Int32) : Prop := 0 ≤ f ∧ f < 60 ∧ ¬ d.1 0 f.toNatClampNeg = 0
def ld_clear (d : Ld) (i : Nat) : Ld := ld_row (ld_row (ld_row d 7 i 0) 8 i 0) 9 i 0
def ld_make (d : Ld) (j : Nat) (a k o : Int32) : Ld := ld_clear (ld_row (ld_row (ld_row (ld_row (ld_row d 0 j 1) 1 j a) 2 j k) 3 j o) 4 j 0) j
set_option maxHeartbeats 4000000 in
set_option maxRecDepth 100000 in
/-- isNumber(f) -/
theorem qX1_isNumber (l : Launch) (D : va_G) (K : Nat → ClassId) (f : Int32) : zw_I l yX1_isNumber wsX1_isNumber rmX1_isNumber D (zT K) [.int f] [] (zb (0 ≤ f ∧ f < 60)) [] := by
  refine zw_ofI (cc := cX1_isNumber) (nL := 1) (ret := (some .boolean)) (own := RX1) (lv := [(0, .int f)]) (by decide) rfl (Nat.le_of_ble_eq_true rfl) rfl rfl ?_
  intro p e s m below meth c A E hr hlk
  refine zw_iload_n (i := 0) (x := f) E 0 dX1_isNumber_0 rfl rfl (pc' := 1) rfl ?_
  refine zw_if_lt (tgt := 14) E dX1_isNumber_1 (by decide) (pc' := 4) rfl (fun c_1 => ?_) (fun c_1 => ?_)
  · skip
    refine zw_iconst (v := 0) E dX1_isNumber_14 (by decide) (pc' := 15) rfl ?_
    exact zw_zret E hr hlk dX1_isNumber_15 rfl (zb_f (fun h => absurd c_1 (Int32.not_lt.mpr h.1))).symm rfl
  · skip
    refine zw_iload_n (i := 0) (x := f) E 0 dX1_isNumber_4 rfl rfl (pc' := 5) rfl ?_
    refine zw_bipush (v := 60) E dX1_isNumber_5 (by decide) (pc' := 7) rfl ?_
    refine zw_icmp_ge (tgt := 14) E dX1_isNumber_7 (by decide) (pc' := 10) rfl (fun c_2 => ?_) (fun c_2 => ?_)
    · skip
      refine zw_iconst (v := 0) E dX1_isNumber_14 (by decide) (pc' := 15) rfl ?_
      exact zw_zret E hr hlk dX1_isNumber_15 rfl (zb_f (fun h => absurd h.2 (Int32.not_lt.mpr c_2))).symm rfl
    · skip
      refine zw_iconst (v := 1) E dX1_isNumber_10 (by decide) (pc' := 11) rfl ?_
      refine zw_goto (tgt := 15) E dX1_isNumber_11 (by decide) ?_
      exact zw_zret E hr hlk dX1_isNumber_15 rfl (zb_t ⟨Int32.not_lt.mp c_1, Int32.not_le.mp c_2⟩).symm rfl

theorem fX1_isThere_9 : Cond.fieldLink RX1 9 "TitheMap$Land" "there" "[Z" ∈ wsX1_isThere := by decide +kernel
theorem iX1_isThere_X1 : ∀ w ∈ wsX10, w ∈ wsX1_isThere := by decide +kernel
set_option maxHeartbeats 4000000 in
set_option maxRecDepth 100000 in
/-- isThere(f) -/
theorem qX1_isThere (l : Launch) (D : va_G) (K : Nat → ClassId) (al : Nat → Nat) (bq : Nat) (d : Ld) (f : Int32) : zw_I l yX1_isThere wsX1_isThere rmX1_isThere D (zT K) [.ref (al 0), .int f] (ld_W K al bq d) (zb (is_there d f)) (ld_W K al bq d) := by
  refine zw_ofI (cc := cX1_isThere) (nL := 2) (ret := (some .boolean)) (own := RX1) (lv := [(0, .ref (al 0)), (1, .int f)]) (by decide) rfl (Nat.le_of_ble_eq_true rfl) rfl rfl ?_
  intro p e s m below meth c A E hr hlk
  refine zw_iload_n (i := 1) (x := f) E 1 dX1_isThere_0 rfl rfl (pc' := 1) rfl ?_
  refine zw_if_lt (tgt := 23) E dX1_isThere_1 (by decide) (pc' := 4) rfl (fun c_1 => ?_) (fun c_1 => ?_)
  · skip
    refine zw_iconst (v := 0) E dX1_isThere_23 (by decide) (pc' := 24) rfl ?_
    exact zw_zret E hr hlk dX1_isThere_24 rfl (zb_f (fun h => absurd c_1 (Int32.not_lt.mpr h.1))).symm rfl
  · skip
    refine zw_iload_n (i := 1) (x := f) E 1 dX1_isThere_4 rfl rfl (pc' := 5) rfl ?_
    refine zw_bipush (v := 60) E dX1_isThere_5 (by decide) (pc' := 7) rfl ?_
    refine zw_icmp_ge (tgt := 23) E dX1_isThere_7 (by decide) (pc' := 10) rfl (fun c_2 => ?_) (fun c_2 => ?_)
    · skip
      refine zw_iconst (v := 0) E dX1_isThere_23 (by decide) (pc' := 24) rfl ?_
      exact zw_zret E hr hlk dX1_isThere_24 rfl (zb_f (fun h => absurd h.2.1 (Int32.not_lt.mpr c_2))).symm rfl
    · skip
      refine zw_aload_n (i := 0) (x := al 0) E 0 dX1_isThere_10 rfl rfl (pc' := 11) rfl ?_
      refine zw_get (v := .ref (al 1)) E 0 1 iX1_isThere_X1 fX1_isThere_9 rfl rfl (by decide) rfl rfl dX1_isThere_11 (pc' := 14) rfl ?_
      refine zw_iload_n (i := 1) (x := f) E 1 dX1_isThere_14 rfl rfl (pc' := 15) rfl ?_
      refine zw_zald (j := f.toNatClampNeg) (x := d.1 0 f.toNatClampNeg) E 1 1 rfl rfl (zw_in60 c_1 c_2) rfl rfl dX1_isThere_15 (pc' := 16) rfl ?_
      refine zw_if_eq (tgt := 23) E dX1_isThere_16 (by decide) (pc' := 19) rfl (fun c_3 => ?_) (fun c_3 => ?_)
      · skip
        refine zw_iconst (v := 0) E dX1_isThere_23 (by decide) (pc' := 24) rfl ?_
        exact zw_zret E hr hlk dX1_isThere_24 rfl (zb_f (fun h => h.2.2 c_3)).symm rfl
      · skip
        refine zw_iconst (v := 1) E dX1_isThere_19 (by decide) (pc' := 20) rfl ?_
        refine zw_goto (tgt := 24) E dX1_isThere_20 (by decide) ?_
        exact zw_zret E hr hlk dX1_isThere_24 rfl (zb_t ⟨Int32.not_lt.mp c_1, Int32.not_le.mp c_2, c_3⟩).symm rfl

theorem fX1_clearCharge_27 : Cond.fieldLink RX1 27 "TitheMap$Land" "charge" "[[I" ∈ wsX1_clearCharge := by decide +kernel
theorem iX1_clearCharge_X1 : ∀ w ∈ wsX10, w ∈ wsX1_clearCharge := by decide +kernel
set_option maxHeartbeats 4000000 in
set_option maxRecDepth 100000 in
/-- clearCharge(f) -/
theorem qX1_clearCharge (l : Launch) (D : va_G) (K : Nat → ClassId) (al : Nat → Nat) (bq : Nat) (d : Ld) (f : Int32) (i : Nat) (h0 : ¬ f < 0) (h1 : ¬ 60 ≤ f) (hi : f.toNatClampNeg = i) : zw_V l yX1_clearCharge wsX1_clearCharge rmX1_clearCharge D (zT K) [.ref (al 0), .int f] (ld_W K al bq d) (ld_W K al bq (ld_clear d i)) := by
  refine zw_ofV (cc := cX1_clearCharge) (nL := 3) (ret := none) (own := RX1) (lv := [(0, .ref (al 0)), (1, .int f)]) (by decide) rfl (Nat.le_of_ble_eq_true rfl) rfl rfl ?_
  intro p e s m below meth c A E hr hlk
  refine zw_iconst (v := 0) E dX1_clearCharge_0 (by decide) (pc' := 1) rfl ?_
  refine zw_istore_n (lv' := [(2, .int 0), (0, .ref (al 0)), (1, .int f)]) E dX1_clearCharge_1 rfl (by decide) rfl (pc' := 2) rfl ?_
  refine zw_iload_n (i := 2) (x := 0) E 0 dX1_clearCharge_2 rfl rfl (pc' := 3) rfl ?_
  refine zw_iconst (v := 3) E dX1_clearCharge_3 (by decide) (pc' := 4) rfl ?_
  refine zw_icmp_ge (tgt := 32) E dX1_clearCharge_4 (by decide) (pc' := 7) rfl (fun c9 => absurd c9 (by decide)) (fun _ => ?_)
  refine zw_iload_n (i := 1) (x := f) E 2 dX1_clearCharge_7 rfl rfl (pc' := 8) rfl ?_
  refine zw_if_lt (tgt := 32) E dX1_clearCharge_8 (by decide) (pc' := 11) rfl (fun c_1 => ?_) (fun c_1 => ?_)
  · exact absurd c_1 h0
  · skip
    refine zw_iload_n (i := 1) (x := f) E 2 dX1_clearCharge_11 rfl rfl (pc' := 12) rfl ?_
    refine zw_bipush (v := 60) E dX1_clearCharge_12 (by decide) (pc' := 14) rfl ?_
    refine zw_icmp_ge (tgt := 32) E dX1_clearCharge_14 (by decide) (pc' := 17) rfl (fun c_2 => ?_) (fun c_2 => ?_)
    · exact absurd c_2 h1
    · skip
      refine zw_aload_n (i := 0) (x := al 0) E 1 dX1_clearCharge_17 rfl rfl (pc' := 18) rfl ?_
      refine zw_get (v := .ref (al 5)) E 0 5 iX1_clearCharge_X1 fX1_clearCharge_27 rfl rfl (by decide) rfl rfl dX1_clearCharge_18 (pc' := 21) rfl ?_
      refine zw_iload_n (i := 2) (x := 0) E 0 dX1_clearCharge_21 rfl rfl (pc' := 22) rfl ?_
      refine zw_aald (j := 0) (b := al 11) E 5 3 rfl rfl (vp_in_nI (n := 0) (N := 3) (by decide) (by decide)) rfl rfl dX1_clearCharge_22 (pc' := 23) rfl ?_
      refine zw_iload_n (i := 1) (x := f) E 2 dX1_clearCharge_23 rfl rfl (pc' := 24) rfl ?_
      refine zw_iconst (v := 0) E dX1_clearCharge_24 (by decide) (pc' := 25) rfl ?_
      refine zw_iast (j := i) (ws' := (ld_W K al bq (ld_row d 7 i 0))) E 11 0 rfl rfl (zw_in60 h0 h1) hi rfl dX1_clearCharge_25 (pc' := 26) rfl ?_
      refine zw_gen_ld_d (ld_row d 7 i 0) (fun d_1 hg_1 => ?_)
      refine zw_iinc (x := 0) (v := 1) (lv' := [(2, .int 1), (0, .ref (al 0)), (1, .int f)]) E 0 dX1_clearCharge_26 rfl (by decide) (by decide) rfl (pc' := 29) rfl ?_
      refine zw_goto (tgt := 2) E dX1_clearCharge_29 (by decide) ?_
      refine zw_iload_n (i := 2) (x := 1) E 0 dX1_clearCharge_2 rfl rfl (pc' := 3) rfl ?_
      refine zw_iconst (v := 3) E dX1_clearCharge_3 (by decide) (pc' := 4) rfl ?_
      refine zw_icmp_ge (tgt := 32) E dX1_clearCharge_4 (by decide) (pc' := 7) rfl (fun c9 => absurd c9 (by decide)) (fun _ => ?_)
      refine zw_iload_n (i := 1) (x := f) E 2 dX1_clearCharge_7 rfl rfl (pc' := 8) rfl ?_
      refine zw_if_lt (tgt := 32) E dX1_clearCharge_8 (by decide) (pc' := 11) rfl (fun c_3 => ?_) (fun c_3 => ?_)
      · exact absurd c_3 h0
      · skip
        refine zw_iload_n (i := 1) (x := f) E 2 dX1_clearCharge_11 rfl rfl (pc' := 12) rfl ?_
        refine zw_bipush (v := 60) E dX1_clearCharge_12 (by decide) (pc' := 14) rfl ?_
        refine zw_icmp_ge (tgt := 32) E dX1_clearCharge_14 (by decide) (pc' := 17) rfl (fun c_4 => ?_) (fun c_4 => ?_)
        · exact absurd c_4 h1
        · skip
          refine zw_aload_n (i := 0) (x := al 0) E 1 dX1_clearCharge_17 rfl rfl (pc' := 18) rfl ?_
          refine zw_get (v := .ref (al 5)) E 0 5 iX1_clearCharge_X1 fX1_clearCharge_27 rfl rfl (by decide) rfl rfl dX1_clearCharge_18 (pc' := 21) rfl ?_
          refine zw_iload_n (i := 2) (x := 1) E 0 dX1_clearCharge_21 rfl rfl (pc' := 22) rfl ?_
          refine zw_aald (j := 1) (b := al 12) E 5 3 rfl rfl (vp_in_nI (n := 1) (N := 3) (by decide) (by decide)) rfl rfl dX1_clearCharge_22 (pc' := 23) rfl ?_
          refine zw_iload_n (i := 1) (x := f) E 2 dX1_clearCharge_23 rfl rfl (pc' := 24) rfl ?_
          refine zw_iconst (v := 0) E dX1_clearCharge_24 (by decide) (pc' := 25) rfl ?_
          refine zw_iast (j := i) (ws' := (ld_W K al bq (ld_row d_1 8 i 0))) E 12 0 rfl rfl (zw_in60 h0 h1) hi rfl dX1_clearCharge_25 (pc' := 26) rfl ?_
          refine zw_gen_ld_d (ld_row d_1 8 i 0) (fun d_2 hg_2 => ?_)
          refine zw_iinc (x := 1) (v := 2) (lv' := [(2, .int 2), (0, .ref (al 0)), (1, .int f)]) E 0 dX1_clearCharge_26 rfl (by decide) (by decide) rfl (pc' := 29) rfl ?_
          refine zw_goto (tgt := 2) E dX1_clearCharge_29 (by decide) ?_
          refine zw_iload_n (i := 2) (x := 2) E 0 dX1_clearCharge_2 rfl rfl (pc' := 3) rfl ?_
          refine zw_iconst (v := 3) E dX1_clearCharge_3 (by decide) (pc' := 4) rfl ?_
          refine zw_icmp_ge (tgt := 32) E dX1_clearCharge_4 (by decide) (pc' := 7) rfl (fun c9 => absurd c9 (by decide)) (fun _ => ?_)
          refine zw_iload_n (i := 1) (x := f) E 2 dX1_clearCharge_7 rfl rfl (pc' := 8) rfl ?_
          refine zw_if_lt (tgt := 32) E dX1_clearCharge_8 (by decide) (pc' := 11) rfl (fun c_5 => ?_) (fun c_5 => ?_)
          · exact absurd c_5 h0
          · skip
            refine zw_iload_n (i := 1) (x := f) E 2 dX1_clearCharge_11 rfl rfl (pc' := 12) rfl ?_
            refine zw_bipush (v := 60) E dX1_clearCharge_12 (by decide) (pc' := 14) rfl ?_
            refine zw_icmp_ge (tgt := 32) E dX1_clearCharge_14 (by decide) (pc' := 17) rfl (fun c_6 => ?_) (fun c_6 => ?_)
            · exact absurd c_6 h1
            · skip
              refine zw_aload_n (i := 0) (x := al 0) E 1 dX1_clearCharge_17 rfl rfl (pc' := 18) rfl ?_
              refine zw_get (v := .ref (al 5)) E 0 5 iX1_clearCharge_X1 fX1_clearCharge_27 rfl rfl (by decide) rfl rfl dX1_clearCharge_18 (pc' := 21) rfl ?_
              refine zw_iload_n (i := 2) (x := 2) E 0 dX1_clearCharge_21 rfl rfl (pc' := 22) rfl ?_
              refine zw_aald (j := 2) (b := al 13) E 5 3 rfl rfl (vp_in_nI (n := 2) (N := 3) (by decide) (by decide)) rfl rfl dX1_clearCharge_22 (pc' := 23) rfl ?_
              refine zw_iload_n (i := 1) (x := f) E 2 dX1_clearCharge_23 rfl rfl (pc' := 24) rfl ?_
              refine zw_iconst (v := 0) E dX1_clearCharge_24 (by decide) (pc' := 25) rfl ?_
              refine zw_iast (j := i) (ws' := (ld_W K al bq (ld_row d_2 9 i 0))) E 13 0 rfl rfl (zw_in60 h0 h1) hi rfl dX1_clearCharge_25 (pc' := 26) rfl ?_
              refine zw_gen_ld_d (ld_row d_2 9 i 0) (fun d_3 hg_3 => ?_)
              refine zw_iinc (x := 2) (v := 3) (lv' := [(2, .int 3), (0, .ref (al 0)), (1, .int f)]) E 0 dX1_clearCharge_26 rfl (by decide) (by decide) rfl (pc' := 29) rfl ?_
              refine zw_goto (tgt := 2) E dX1_clearCharge_29 (by decide) ?_
              refine zw_iload_n (i := 2) (x := 3) E 0 dX1_clearCharge_2 rfl rfl (pc' := 3) rfl ?_
              refine zw_iconst (v := 3) E dX1_clearCharge_3 (by decide) (pc' := 4) rfl ?_
              refine zw_icmp_ge (tgt := 32) E dX1_clearCharge_4 (by decide) (pc' := 7) rfl (fun _ => ?_) (fun c9 => absurd (by decide) c9)
              exact zw_vret E hr hlk dX1_clearCharge_32 (by subst hg_1 hg_2 hg_3; rfl)

theorem fX1_tryMake_15 : Cond.fieldLink RX1 15 "TitheMap$Land" "area" "[I" ∈ wsX1_tryMake := by decide +kernel
theorem fX1_tryMake_19 : Cond.fieldLink RX1 19 "TitheMap$Land" "kind" "[I" ∈ wsX1_tryMake := by decide +kernel
theorem fX1_tryMake_22 : Cond.fieldLink RX1 22 "TitheMap$Land" "owner" "[I" ∈ wsX1_tryMake := by decide +kernel
theorem fX1_tryMake_30 : Cond.fieldLink RX1 30 "TitheMap$Land" "bought" "[Z" ∈ wsX1_tryMake := by decide +kernel
theorem fX1_tryMake_9 : Cond.fieldLink RX1 9 "TitheMap$Land" "there" "[Z" ∈ wsX1_tryMake := by decide +kernel
theorem iX1_tryMake_X1 : ∀ w ∈ wsX10, w ∈ wsX1_tryMake := by decide +kernel
set_option maxHeartbeats 4000000 in
set_option maxRecDepth 100000 in
/-- tryMake(f, area, kind, owner) -/
theorem qX1_tryMake (l : Launch) (D : va_G) (K : Nat → ClassId) (al : Nat → Nat) (bq : Nat) (d : Ld) (j : Nat) (hj : j < 60) (a k o : Int32) : zw_I l yX1_tryMake wsX1_tryMake rmX1_tryMake D (zT K) [.ref (al 0), .int (nI j), .int a, .int k, .int o] (ld_W K al bq d) 1 (ld_W K al bq (ld_make d j a k o)) := by
  refine zw_ofI (cc := cX1_tryMake) (nL := 5) (ret := (some .boolean)) (own := RX1) (lv := [(0, .ref (al 0)), (1, .int (nI j)), (2, .int a), (3, .int k), (4, .int o)]) (by decide) rfl (Nat.le_of_ble_eq_true rfl) rfl rfl ?_
  intro p e s m below meth c A E hr hlk
  refine zw_iload_n (i := 1) (x := nI j) E 1 dX1_tryMake_0 rfl rfl (pc' := 1) rfl ?_
  refine zw_callIs E (r := zb (0 ≤ nI j ∧ nI j < 60)) (As := [.int (nI j)]) (rest := []) (ws' := (ld_W K al bq d)) (qX1_isNumber l D K (nI j)) (va_cwS 1 E.2.2.2.2.1 gX1_tryMake_X1_isNumber rfl rfl rfl (by decide +kernel) ⟨Nat.le_of_ble_eq_true rfl, Nat.le_of_ble_eq_true rfl⟩) [] (by decide) rfl rfl (zw_put_same _ _ _ rfl) rfl rfl (Nat.le_of_ble_eq_true rfl) ⟨Nat.zero_le _, Nat.zero_le _⟩ dX1_tryMake_1 (pc' := 4) rfl ?_
  refine zw_ifb_ne (tgt := 9) E dX1_tryMake_4 (by decide) (pc' := 7) rfl (fun c_1 => ?_) (fun c_1 => ?_)
  · skip
    refine zw_aload_n (i := 0) (x := al 0) E 0 dX1_tryMake_9 rfl rfl (pc' := 10) rfl ?_
    refine zw_get (v := .ref (al 1)) E 0 1 iX1_tryMake_X1 fX1_tryMake_9 rfl rfl (by decide) rfl rfl dX1_tryMake_10 (pc' := 13) rfl ?_
    refine zw_iload_n (i := 1) (x := nI j) E 1 dX1_tryMake_13 rfl rfl (pc' := 14) rfl ?_
    refine zw_iconst (v := 1) E dX1_tryMake_14 (by decide) (pc' := 15) rfl ?_
    refine zw_zast (j := j) (ws' := (ld_W K al bq (ld_row d 0 j 1))) E 1 1 rfl rfl (vp_in_nI hj (by decide)) (zw_clamp hj (by decide)) rfl dX1_tryMake_15 (pc' := 16) rfl ?_
    refine zw_gen_ld_d (ld_row d 0 j 1) (fun d_1 hg_1 => ?_)
    refine zw_aload_n (i := 0) (x := al 0) E 0 dX1_tryMake_16 rfl rfl (pc' := 17) rfl ?_
    refine zw_get (v := .ref (al 2)) E 0 2 iX1_tryMake_X1 fX1_tryMake_15 rfl rfl (by decide) rfl rfl dX1_tryMake_17 (pc' := 20) rfl ?_
    refine zw_iload_n (i := 1) (x := nI j) E 1 dX1_tryMake_20 rfl rfl (pc' := 21) rfl ?_
    refine zw_iload_n (i := 2) (x := a) E 2 dX1_tryMake_21 rfl rfl (pc' := 22) rfl ?_
    refine zw_iast (j := j) (ws' := (ld_W K al bq (ld_row d_1 1 j a))) E 2 0 rfl rfl (vp_in_nI hj (by decide)) (zw_clamp hj (by decide)) rfl dX1_tryMake_22 (pc' := 23) rfl ?_
    refine zw_gen_ld_d (ld_row d_1 1 j a) (fun d_2 hg_2 => ?_)
    refine zw_aload_n (i := 0) (x := al 0) E 0 dX1_tryMake_23 rfl rfl (pc' := 24) rfl ?_
    refine zw_get (v := .ref (al 3)) E 0 3 iX1_tryMake_X1 fX1_tryMake_19 rfl rfl (by decide) rfl rfl dX1_tryMake_24 (pc' := 27) rfl ?_
    refine zw_iload_n (i := 1) (x := nI j) E 1 dX1_tryMake_27 rfl rfl (pc' := 28) rfl ?_
    refine zw_iload_n (i := 3) (x := k) E 3 dX1_tryMake_28 rfl rfl (pc' := 29) rfl ?_
    refine zw_iast (j := j) (ws' := (ld_W K al bq (ld_row d_2 2 j k))) E 3 0 rfl rfl (vp_in_nI hj (by decide)) (zw_clamp hj (by decide)) rfl dX1_tryMake_29 (pc' := 30) rfl ?_
    refine zw_gen_ld_d (ld_row d_2 2 j k) (fun d_3 hg_3 => ?_)
    refine zw_aload_n (i := 0) (x := al 0) E 0 dX1_tryMake_30 rfl rfl (pc' := 31) rfl ?_
    refine zw_get (v := .ref (al 4)) E 0 4 iX1_tryMake_X1 fX1_tryMake_22 rfl rfl (by decide) rfl rfl dX1_tryMake_31 (pc' := 34) rfl ?_
    refine zw_iload_n (i := 1) (x := nI j) E 1 dX1_tryMake_34 rfl rfl (pc' := 35) rfl ?_
    refine zw_iload (x := o) E 4 dX1_tryMake_35 rfl (pc' := 37) rfl ?_
    refine zw_iast (j := j) (ws' := (ld_W K al bq (ld_row d_3 3 j o))) E 4 0 rfl rfl (vp_in_nI hj (by decide)) (zw_clamp hj (by decide)) rfl dX1_tryMake_37 (pc' := 38) rfl ?_
    refine zw_gen_ld_d (ld_row d_3 3 j o) (fun d_4 hg_4 => ?_)
    refine zw_aload_n (i := 0) (x := al 0) E 0 dX1_tryMake_38 rfl rfl (pc' := 39) rfl ?_
    refine zw_get (v := .ref (al 6)) E 0 6 iX1_tryMake_X1 fX1_tryMake_30 rfl rfl (by decide) rfl rfl dX1_tryMake_39 (pc' := 42) rfl ?_
    refine zw_iload_n (i := 1) (x := nI j) E 1 dX1_tryMake_42 rfl rfl (pc' := 43) rfl ?_
    refine zw_iconst (v := 0) E dX1_tryMake_43 (by decide) (pc' := 44) rfl ?_
    refine zw_zast (j := j) (ws' := (ld_W K al bq (ld_row d_4 4 j 0))) E 6 1 rfl rfl (vp_in_nI hj (by decide)) (zw_clamp hj (by decide)) rfl dX1_tryMake_44 (pc' := 45) rfl ?_
    refine zw_gen_ld_d (ld_row d_4 4 j 0) (fun d_5 hg_5 => ?_)
    refine zw_aload_n (i := 0) (x := al 0) E 0 dX1_tryMake_45 rfl rfl (pc' := 46) rfl ?_
    refine zw_iload_n (i := 1) (x := nI j) E 1 dX1_tryMake_46 rfl rfl (pc' := 47) rfl ?_
    refine zw_callVw E (As := [.int (nI j)]) (rest := []) (ws' := (ld_W K al bq (ld_clear d_5 j))) (qX1_clearCharge l D K al bq d_5 (nI j) j (nI_pos (by omega)) (zw_n60 hj) (nI_clamp (by omega))) (cwV 1 E.2.2.2.2.1 gX1_tryMake_X1_clearCharge rfl rfl rfl (by decide +kernel) ⟨Nat.le_of_ble_eq_true rfl, Nat.le_of_ble_eq_true rfl⟩) 0 rfl rfl rfl (ld_ad _ _ _ _ _) rfl rfl (Nat.le_of_ble_eq_true rfl) ⟨Nat.zero_le _, Nat.zero_le _⟩ dX1_tryMake_47 (pc' := 50) rfl ?_
    refine zw_gen_ld_d (ld_clear d_5 j) (fun d_6 hg_6 => ?_)
    refine zw_iconst (v := 1) E dX1_tryMake_50 (by decide) (pc' := 51) rfl ?_
    exact zw_zret E hr hlk dX1_tryMake_51 rfl rfl (by subst hg_1 hg_2 hg_3 hg_4 hg_5 hg_6; rfl)
  · exact absurd (zw_num hj) c_1

def ld_sell_ok (d : Ld) (f o : Int32) : Prop := is_there d f ∧ ¬ d.1 3 f.toNatClampNeg = o
theorem zw_if2 {α : Type} {c : Prop} [Decidable c] {a b : α} (h : c) : (if c then a else b) = a := if_pos h
/-- the six acts, tried: the answer and the land behind it -/
def r_sell (d : Ld) (f o : Int32) : Int32 := if is_there d f then if d.1 3 f.toNatClampNeg = o then 0 else 1 else 0
def d_sell (d : Ld) (f o : Int32) : Ld := if is_there d f then if d.1 3 f.toNatClampNeg = o then d else ld_row d 3 f.toNatClampNeg o else d
def r_buy (d : Ld) (f : Int32) : Int32 := if d.2.2 = 0 then 0 else if is_there d f then if d.1 4 f.toNatClampNeg = 0 then 1 else 0 else 0
def d_buy (d : Ld) (f : Int32) : Ld := if d.2.2 = 0 then d else if is_there d f then if d.1 4 f.toNatClampNeg = 0 then ld_clear (ld_row d 4 f.toNatClampNeg 1) f.toNatClampNeg else d else d
theorem fX1_trySell_22 : Cond.fieldLink RX1 22 "TitheMap$Land" "owner" "[I" ∈ wsX1_trySell := by decide +kernel
theorem iX1_trySell_X1 : ∀ w ∈ wsX10, w ∈ wsX1_trySell := by decide +kernel
set_option maxHeartbeats 4000000 in
set_option maxRecDepth 100000 in
/-- trySell(f, owner) -/
theorem qX1_trySell (l : Launch) (D : va_G) (K : Nat → ClassId) (al : Nat → Nat) (bq : Nat) (d : Ld) (f o : Int32) : zw_I l yX1_trySell wsX1_trySell rmX1_trySell D (zT K) [.ref (al 0), .int f, .int o] (ld_W K al bq d) (r_sell d f o) (ld_W K al bq (d_sell d f o)) := by
  refine zw_ofI (cc := cX1_trySell) (nL := 3) (ret := (some .boolean)) (own := RX1) (lv := [(0, .ref (al 0)), (1, .int f), (2, .int o)]) (by decide) rfl (Nat.le_of_ble_eq_true rfl) rfl rfl ?_
  intro p e s m below meth c A E hr hlk
  refine zw_aload_n (i := 0) (x := al 0) E 0 dX1_trySell_0 rfl rfl (pc' := 1) rfl ?_
  refine zw_iload_n (i := 1) (x := f) E 1 dX1_trySell_1 rfl rfl (pc' := 2) rfl ?_
  refine zw_callIw E (r := zb (is_there d f)) (As := [.int f]) (rest := []) (ws' := (ld_W K al bq d)) (qX1_isThere l D K al bq d f) (cwV 1 E.2.2.2.2.1 gX1_trySell_X1_isThere rfl rfl rfl (by decide +kernel) ⟨Nat.le_of_ble_eq_true rfl, Nat.le_of_ble_eq_true rfl⟩) 0 rfl rfl rfl rfl rfl rfl (Nat.le_of_ble_eq_true rfl) ⟨Nat.zero_le _, Nat.zero_le _⟩ dX1_trySell_2 (pc' := 5) rfl ?_
  refine zw_ifb_eq (tgt := 18) E dX1_trySell_5 (by decide) (pc' := 8) rfl (fun c_1 => ?_) (fun c_1 => ?_)
  · skip
    refine zw_iconst (v := 0) E dX1_trySell_18 (by decide) (pc' := 19) rfl ?_
    exact zw_zret E hr hlk dX1_trySell_19 rfl (by unfold r_sell; rw [if_neg c_1]) (by unfold d_sell; rw [if_neg c_1])
  · skip
    refine zw_aload_n (i := 0) (x := al 0) E 0 dX1_trySell_8 rfl rfl (pc' := 9) rfl ?_
    refine zw_get (v := .ref (al 4)) E 0 4 iX1_trySell_X1 fX1_trySell_22 rfl rfl (by decide) rfl rfl dX1_trySell_9 (pc' := 12) rfl ?_
    refine zw_iload_n (i := 1) (x := f) E 1 dX1_trySell_12 rfl rfl (pc' := 13) rfl ?_
    refine zw_iald (j := f.toNatClampNeg) (x := d.1 3 f.toNatClampNeg) E 4 0 rfl rfl (zw_in3 c_1.1 c_1.2.1) rfl rfl dX1_trySell_13 (pc' := 14) rfl ?_
    refine zw_iload_n (i := 2) (x := o) E 2 dX1_trySell_14 rfl rfl (pc' := 15) rfl ?_
    refine zw_icmp_ne (tgt := 20) E dX1_trySell_15 (by decide) (pc' := 18) rfl (fun c_2 => ?_) (fun c_2 => ?_)
    · skip
      refine zw_aload_n (i := 0) (x := al 0) E 0 dX1_trySell_20 rfl rfl (pc' := 21) rfl ?_
      refine zw_get (v := .ref (al 4)) E 0 4 iX1_trySell_X1 fX1_trySell_22 rfl rfl (by decide) rfl rfl dX1_trySell_21 (pc' := 24) rfl ?_
      refine zw_iload_n (i := 1) (x := f) E 1 dX1_trySell_24 rfl rfl (pc' := 25) rfl ?_
      refine zw_iload_n (i := 2) (x := o) E 2 dX1_trySell_25 rfl rfl (pc' := 26) rfl ?_
      refine zw_iast (j := f.toNatClampNeg) (ws' := (ld_W K al bq (ld_row d 3 f.toNatClampNeg o))) E 4 0 rfl rfl (zw_in3 c_1.1 c_1.2.1) rfl rfl dX1_trySell_26 (pc' := 27) rfl ?_
      refine zw_iconst (v := 1) E dX1_trySell_27 (by decide) (pc' := 28) rfl ?_
      exact zw_zret E hr hlk dX1_trySell_28 rfl (by unfold r_sell; rw [if_pos c_1, if_neg c_2]) (by unfold d_sell; rw [if_pos c_1, if_neg c_2])
    · skip
      refine zw_iconst (v := 0) E dX1_trySell_18 (by decide) (pc' := 19) rfl ?_
      exact zw_zret E hr hlk dX1_trySell_19 rfl (by unfold r_sell; rw [if_pos c_1, if_pos c_2]) (by unfold d_sell; rw [if_pos c_1, if_pos c_2])

theorem fX1_tryBuy_30 : Cond.fieldLink RX1 30 "TitheMap$Land" "bought" "[Z" ∈ wsX1_tryBuy := by decide +kernel
theorem fX1_tryBuy_50 : Cond.fieldLink RX1 50 "TitheMap$Land" "settled" "Z" ∈ wsX1_tryBuy := by decide +kernel
theorem iX1_tryBuy_X1 : ∀ w ∈ wsX10, w ∈ wsX1_tryBuy := by decide +kernel
set_option maxHeartbeats 4000000 in
set_option maxRecDepth 100000 in
/-- tryBuy(f) -/
theorem qX1_tryBuy (l : Launch) (D : va_G) (K : Nat → ClassId) (al : Nat → Nat) (bq : Nat) (d : Ld) (f : Int32) : zw_I l yX1_tryBuy wsX1_tryBuy rmX1_tryBuy D (zT K) [.ref (al 0), .int f] (ld_W K al bq d) (r_buy d f) (ld_W K al bq (d_buy d f)) := by
  refine zw_ofI (cc := cX1_tryBuy) (nL := 2) (ret := (some .boolean)) (own := RX1) (lv := [(0, .ref (al 0)), (1, .int f)]) (by decide) rfl (Nat.le_of_ble_eq_true rfl) rfl rfl ?_
  intro p e s m below meth c A E hr hlk
  refine zw_aload_n (i := 0) (x := al 0) E 0 dX1_tryBuy_0 rfl rfl (pc' := 1) rfl ?_
  refine zw_get (v := .int d.2.2) E 0 11 iX1_tryBuy_X1 fX1_tryBuy_50 rfl rfl (by decide) rfl rfl dX1_tryBuy_1 (pc' := 4) rfl ?_
  refine zw_if_eq (tgt := 24) E dX1_tryBuy_4 (by decide) (pc' := 7) rfl (fun c_1 => ?_) (fun c_1 => ?_)
  · skip
    refine zw_iconst (v := 0) E dX1_tryBuy_24 (by decide) (pc' := 25) rfl ?_
    exact zw_zret E hr hlk dX1_tryBuy_25 rfl (by unfold r_buy; rw [if_pos c_1]) (by unfold d_buy; rw [if_pos c_1])
  · skip
    refine zw_aload_n (i := 0) (x := al 0) E 0 dX1_tryBuy_7 rfl rfl (pc' := 8) rfl ?_
    refine zw_iload_n (i := 1) (x := f) E 1 dX1_tryBuy_8 rfl rfl (pc' := 9) rfl ?_
    refine zw_callIw E (r := zb (is_there d f)) (As := [.int f]) (rest := []) (ws' := (ld_W K al bq d)) (qX1_isThere l D K al bq d f) (cwV 1 E.2.2.2.2.1 gX1_tryBuy_X1_isThere rfl rfl rfl (by decide +kernel) ⟨Nat.le_of_ble_eq_true rfl, Nat.le_of_ble_eq_true rfl⟩) 0 rfl rfl rfl rfl rfl rfl (Nat.le_of_ble_eq_true rfl) ⟨Nat.zero_le _, Nat.zero_le _⟩ dX1_tryBuy_9 (pc' := 12) rfl ?_
    refine zw_ifb_eq (tgt := 24) E dX1_tryBuy_12 (by decide) (pc' := 15) rfl (fun c_2 => ?_) (fun c_2 => ?_)
    · skip
      refine zw_iconst (v := 0) E dX1_tryBuy_24 (by decide) (pc' := 25) rfl ?_
      exact zw_zret E hr hlk dX1_tryBuy_25 rfl (by unfold r_buy; rw [if_neg c_1, if_neg c_2]) (by unfold d_buy; rw [if_neg c_1, if_neg c_2])
    · skip
      refine zw_aload_n (i := 0) (x := al 0) E 0 dX1_tryBuy_15 rfl rfl (pc' := 16) rfl ?_
      refine zw_get (v := .ref (al 6)) E 0 6 iX1_tryBuy_X1 fX1_tryBuy_30 rfl rfl (by decide) rfl rfl dX1_tryBuy_16 (pc' := 19) rfl ?_
      refine zw_iload_n (i := 1) (x := f) E 1 dX1_tryBuy_19 rfl rfl (pc' := 20) rfl ?_
      refine zw_zald (j := f.toNatClampNeg) (x := d.1 4 f.toNatClampNeg) E 6 1 rfl rfl (zw_in3 c_2.1 c_2.2.1) rfl rfl dX1_tryBuy_20 (pc' := 21) rfl ?_
      refine zw_if_eq (tgt := 26) E dX1_tryBuy_21 (by decide) (pc' := 24) rfl (fun c_3 => ?_) (fun c_3 => ?_)
      · skip
        refine zw_aload_n (i := 0) (x := al 0) E 0 dX1_tryBuy_26 rfl rfl (pc' := 27) rfl ?_
        refine zw_get (v := .ref (al 6)) E 0 6 iX1_tryBuy_X1 fX1_tryBuy_30 rfl rfl (by decide) rfl rfl dX1_tryBuy_27 (pc' := 30) rfl ?_
        refine zw_iload_n (i := 1) (x := f) E 1 dX1_tryBuy_30 rfl rfl (pc' := 31) rfl ?_
        refine zw_iconst (v := 1) E dX1_tryBuy_31 (by decide) (pc' := 32) rfl ?_
        refine zw_zast (j := f.toNatClampNeg) (ws' := (ld_W K al bq (ld_row d 4 f.toNatClampNeg 1))) E 6 1 rfl rfl (zw_in3 c_2.1 c_2.2.1) rfl rfl dX1_tryBuy_32 (pc' := 33) rfl ?_
        refine zw_aload_n (i := 0) (x := al 0) E 0 dX1_tryBuy_33 rfl rfl (pc' := 34) rfl ?_
        refine zw_iload_n (i := 1) (x := f) E 1 dX1_tryBuy_34 rfl rfl (pc' := 35) rfl ?_
        refine zw_callVw E (As := [.int f]) (rest := []) (ws' := (ld_W K al bq (ld_clear (ld_row d 4 f.toNatClampNeg 1) f.toNatClampNeg))) (qX1_clearCharge l D K al bq (ld_row d 4 f.toNatClampNeg 1) f f.toNatClampNeg (Int32.not_lt.mpr c_2.1) (Int32.not_le.mpr c_2.2.1) rfl) (cwV 1 E.2.2.2.2.1 gX1_tryBuy_X1_clearCharge rfl rfl rfl (by decide +kernel) ⟨Nat.le_of_ble_eq_true rfl, Nat.le_of_ble_eq_true rfl⟩) 0 rfl rfl rfl (ld_ad _ _ _ _ _) rfl rfl (Nat.le_of_ble_eq_true rfl) ⟨Nat.zero_le _, Nat.zero_le _⟩ dX1_tryBuy_35 (pc' := 38) rfl ?_
        refine zw_iconst (v := 1) E dX1_tryBuy_38 (by decide) (pc' := 39) rfl ?_
        exact zw_zret E hr hlk dX1_tryBuy_39 rfl (by unfold r_buy; rw [if_neg c_1, if_pos c_2, if_pos c_3]) (by unfold d_buy; rw [if_neg c_1, if_pos c_2, if_pos c_3])
      · skip
        refine zw_iconst (v := 0) E dX1_tryBuy_24 (by decide) (pc' := 25) rfl ?_
        exact zw_zret E hr hlk dX1_tryBuy_25 rfl (by unfold r_buy; rw [if_neg c_1, if_pos c_2, if_neg c_3]) (by unfold d_buy; rw [if_neg c_1, if_pos c_2, if_neg c_3])

def p_b1 (d : Ld) (i j : Nat) : Ld := ld_row d 4 j (vp_nar .boolean (d.1 4 i))
def p_x (d : Ld) (r i : Nat) (told old : Int32) : Int32 := ((d.1 r i).toInt64 * told.toInt64 / old.toInt64).toInt32
def p_c1 (d : Ld) (r i j : Nat) (told old : Int32) : Ld := ld_row d r j (p_x d r i told old)
def p_c2 (d : Ld) (r j : Nat) (v : Int32) : Ld := ld_row d r (j + 1) (v - d.1 r j)
def p_c (d : Ld) (r i j : Nat) (told old : Int32) : Ld := p_c2 (p_c1 d r i j told old) r j (d.1 r i)
def ld_part2 (d : Ld) (i j : Nat) (told old : Int32) : Ld := ld_row (p_c (p_c (p_c (p_b1 (p_b1 d i j) i (j + 1)) 7 i j told old) 8 i j told old) 9 i j told old) 0 i 0
def ld_part1 (d : Ld) (i j : Nat) (told old : Int32) : Ld := ld_make d (j + 1) (old - told) (d.1 2 i) (d.1 3 i)
def ld_part (d : Ld) (i j : Nat) (told : Int32) : Ld := ld_part2 (ld_part1 (ld_make d j told (d.1 2 i) (d.1 3 i)) i j told (d.1 1 i)) i j told (d.1 1 i)
def r_part (d : Ld) (f told : Int32) : Int32 := if is_there d f then if told < 1 then 0 else if told < d.1 1 f.toNatClampNeg then 1 else 0 else 0
def d_part (d : Ld) (f told : Int32) (j : Nat) : Ld := if is_there d f then if told < 1 then d else if told < d.1 1 f.toNatClampNeg then ld_part d f.toNatClampNeg j told else d else d
theorem zw_old {told old : Int32} (h1 : ¬ told < 1) (h2 : told < old) : ¬ old.toInt64 = 0 := by
  intro h
  have e : old.toInt = 0 := by
    have := congrArg Int64.toInt h
    rw [Int32.toInt_toInt64] at this
    exact this
  rw [Int32.lt_iff_toInt_lt] at h2
  have a := Int32.not_lt.mp h1
  rw [Int32.le_iff_toInt_le] at a
  have : (1 : Int32).toInt = 1 := rfl
  omega
theorem fX1_tryPart_15 : Cond.fieldLink RX1 15 "TitheMap$Land" "area" "[I" ∈ wsX1_tryPart := by decide +kernel
theorem fX1_tryPart_19 : Cond.fieldLink RX1 19 "TitheMap$Land" "kind" "[I" ∈ wsX1_tryPart := by decide +kernel
theorem fX1_tryPart_22 : Cond.fieldLink RX1 22 "TitheMap$Land" "owner" "[I" ∈ wsX1_tryPart := by decide +kernel
theorem fX1_tryPart_27 : Cond.fieldLink RX1 27 "TitheMap$Land" "charge" "[[I" ∈ wsX1_tryPart := by decide +kernel
theorem fX1_tryPart_30 : Cond.fieldLink RX1 30 "TitheMap$Land" "bought" "[Z" ∈ wsX1_tryPart := by decide +kernel
theorem fX1_tryPart_9 : Cond.fieldLink RX1 9 "TitheMap$Land" "there" "[Z" ∈ wsX1_tryPart := by decide +kernel
theorem iX1_tryPart_X1 : ∀ w ∈ wsX10, w ∈ wsX1_tryPart := by decide +kernel
set_option maxHeartbeats 4000000 in
set_option maxRecDepth 100000 in
/-- tryPart(f, told, g, h) -/
theorem qX1_tryPart (l : Launch) (D : va_G) (K : Nat → ClassId) (al : Nat → Nat) (bq : Nat) (d : Ld) (f told : Int32) (j : Nat) (hj : j + 1 < 60) : zw_I l yX1_tryPart wsX1_tryPart rmX1_tryPart D (zT K) [.ref (al 0), .int f, .int told, .int (nI j), .int (nI (j + 1))] (ld_W K al bq d) (r_part d f told) (ld_W K al bq (d_part d f told j)) := by
  refine zw_ofI (cc := cX1_tryPart) (nL := 8) (ret := (some .boolean)) (own := RX1) (lv := [(0, .ref (al 0)), (1, .int f), (2, .int told), (3, .int (nI j)), (4, .int (nI (j + 1)))]) (by decide) rfl (Nat.le_of_ble_eq_true rfl) rfl rfl ?_
  intro p e s m below meth c A E hr hlk
  refine zw_aload_n (i := 0) (x := al 0) E 0 dX1_tryPart_0 rfl rfl (pc' := 1) rfl ?_
  refine zw_iload_n (i := 1) (x := f) E 1 dX1_tryPart_1 rfl rfl (pc' := 2) rfl ?_
  refine zw_callIw E (r := zb (is_there d f)) (As := [.int f]) (rest := []) (ws' := (ld_W K al bq d)) (qX1_isThere l D K al bq d f) (cwV 1 E.2.2.2.2.1 gX1_tryPart_X1_isThere rfl rfl rfl (by decide +kernel) ⟨Nat.le_of_ble_eq_true rfl, Nat.le_of_ble_eq_true rfl⟩) 0 rfl rfl rfl rfl rfl rfl (Nat.le_of_ble_eq_true rfl) ⟨Nat.zero_le _, Nat.zero_le _⟩ dX1_tryPart_2 (pc' := 5) rfl ?_
  refine zw_ifb_eq (tgt := 38) E dX1_tryPart_5 (by decide) (pc' := 8) rfl (fun c_1 => ?_) (fun c_1 => ?_)
  · skip
    refine zw_iconst (v := 0) E dX1_tryPart_38 (by decide) (pc' := 39) rfl ?_
    exact zw_zret E hr hlk dX1_tryPart_39 rfl (by unfold r_part; rw [if_neg c_1]) (by unfold d_part; rw [if_neg c_1])
  · skip
    refine zw_iload_n (i := 3) (x := nI j) E 3 dX1_tryPart_8 rfl rfl (pc' := 9) rfl ?_
    refine zw_callIs E (r := zb (0 ≤ nI j ∧ nI j < 60)) (As := [.int (nI j)]) (rest := []) (ws' := (ld_W K al bq d)) (qX1_isNumber l D K (nI j)) (va_cwS 1 E.2.2.2.2.1 gX1_tryPart_X1_isNumber rfl rfl rfl (by decide +kernel) ⟨Nat.le_of_ble_eq_true rfl, Nat.le_of_ble_eq_true rfl⟩) [] (by decide) rfl rfl (zw_put_same _ _ _ rfl) rfl rfl (Nat.le_of_ble_eq_true rfl) ⟨Nat.zero_le _, Nat.zero_le _⟩ dX1_tryPart_9 (pc' := 12) rfl ?_
    refine zw_ifb_eq (tgt := 38) E dX1_tryPart_12 (by decide) (pc' := 15) rfl (fun c_2 => ?_) (fun c_2 => ?_)
    · exact absurd (zw_num (Nat.lt_of_succ_lt hj)) c_2
    · skip
      refine zw_iload (x := nI (j + 1)) E 4 dX1_tryPart_15 rfl (pc' := 17) rfl ?_
      refine zw_callIs E (r := zb (0 ≤ nI (j + 1) ∧ nI (j + 1) < 60)) (As := [.int (nI (j + 1))]) (rest := []) (ws' := (ld_W K al bq d)) (qX1_isNumber l D K (nI (j + 1))) (va_cwS 1 E.2.2.2.2.1 gX1_tryPart_X1_isNumber rfl rfl rfl (by decide +kernel) ⟨Nat.le_of_ble_eq_true rfl, Nat.le_of_ble_eq_true rfl⟩) [] (by decide) rfl rfl (zw_put_same _ _ _ rfl) rfl rfl (Nat.le_of_ble_eq_true rfl) ⟨Nat.zero_le _, Nat.zero_le _⟩ dX1_tryPart_17 (pc' := 20) rfl ?_
      refine zw_ifb_eq (tgt := 38) E dX1_tryPart_20 (by decide) (pc' := 23) rfl (fun c_3 => ?_) (fun c_3 => ?_)
      · exact absurd (zw_num hj) c_3
      · skip
        refine zw_iload_n (i := 2) (x := told) E 2 dX1_tryPart_23 rfl rfl (pc' := 24) rfl ?_
        refine zw_iconst (v := 1) E dX1_tryPart_24 (by decide) (pc' := 25) rfl ?_
        refine zw_icmp_lt (tgt := 38) E dX1_tryPart_25 (by decide) (pc' := 28) rfl (fun c_4 => ?_) (fun c_4 => ?_)
        · skip
          refine zw_iconst (v := 0) E dX1_tryPart_38 (by decide) (pc' := 39) rfl ?_
          exact zw_zret E hr hlk dX1_tryPart_39 rfl (by unfold r_part; rw [if_pos c_1, if_pos c_4]) (by unfold d_part; rw [if_pos c_1, if_pos c_4])
        · skip
          refine zw_aload_n (i := 0) (x := al 0) E 0 dX1_tryPart_28 rfl rfl (pc' := 29) rfl ?_
          refine zw_get (v := .ref (al 2)) E 0 2 iX1_tryPart_X1 fX1_tryPart_15 rfl rfl (by decide) rfl rfl dX1_tryPart_29 (pc' := 32) rfl ?_
          refine zw_iload_n (i := 1) (x := f) E 1 dX1_tryPart_32 rfl rfl (pc' := 33) rfl ?_
          refine zw_iald (j := f.toNatClampNeg) (x := d.1 1 f.toNatClampNeg) E 2 0 rfl rfl (zw_in3 c_1.1 c_1.2.1) rfl rfl dX1_tryPart_33 (pc' := 34) rfl ?_
          refine zw_iload_n (i := 2) (x := told) E 2 dX1_tryPart_34 rfl rfl (pc' := 35) rfl ?_
          refine zw_icmp_gt (tgt := 40) E dX1_tryPart_35 (by decide) (pc' := 38) rfl (fun c_5 => ?_) (fun c_5 => ?_)
          · skip
            refine zw_aload_n (i := 0) (x := al 0) E 0 dX1_tryPart_40 rfl rfl (pc' := 41) rfl ?_
            refine zw_get (v := .ref (al 2)) E 0 2 iX1_tryPart_X1 fX1_tryPart_15 rfl rfl (by decide) rfl rfl dX1_tryPart_41 (pc' := 44) rfl ?_
            refine zw_iload_n (i := 1) (x := f) E 1 dX1_tryPart_44 rfl rfl (pc' := 45) rfl ?_
            refine zw_iald (j := f.toNatClampNeg) (x := d.1 1 f.toNatClampNeg) E 2 0 rfl rfl (zw_in3 c_1.1 c_1.2.1) rfl rfl dX1_tryPart_45 (pc' := 46) rfl ?_
            refine zw_istore (lv' := [(5, .int (d.1 1 f.toNatClampNeg)), (0, .ref (al 0)), (1, .int f), (2, .int told), (3, .int (nI j)), (4, .int (nI (j + 1)))]) E dX1_tryPart_46 (by decide) rfl (pc' := 48) rfl ?_
            refine zw_aload_n (i := 0) (x := al 0) E 1 dX1_tryPart_48 rfl rfl (pc' := 49) rfl ?_
            refine zw_iload_n (i := 3) (x := nI j) E 4 dX1_tryPart_49 rfl rfl (pc' := 50) rfl ?_
            refine zw_iload_n (i := 2) (x := told) E 3 dX1_tryPart_50 rfl rfl (pc' := 51) rfl ?_
            refine zw_aload_n (i := 0) (x := al 0) E 1 dX1_tryPart_51 rfl rfl (pc' := 52) rfl ?_
            refine zw_get (v := .ref (al 3)) E 0 3 iX1_tryPart_X1 fX1_tryPart_19 rfl rfl (by decide) rfl rfl dX1_tryPart_52 (pc' := 55) rfl ?_
            refine zw_iload_n (i := 1) (x := f) E 2 dX1_tryPart_55 rfl rfl (pc' := 56) rfl ?_
            refine zw_iald (j := f.toNatClampNeg) (x := d.1 2 f.toNatClampNeg) E 3 0 rfl rfl (zw_in3 c_1.1 c_1.2.1) rfl rfl dX1_tryPart_56 (pc' := 57) rfl ?_
            refine zw_aload_n (i := 0) (x := al 0) E 1 dX1_tryPart_57 rfl rfl (pc' := 58) rfl ?_
            refine zw_get (v := .ref (al 4)) E 0 4 iX1_tryPart_X1 fX1_tryPart_22 rfl rfl (by decide) rfl rfl dX1_tryPart_58 (pc' := 61) rfl ?_
            refine zw_iload_n (i := 1) (x := f) E 2 dX1_tryPart_61 rfl rfl (pc' := 62) rfl ?_
            refine zw_iald (j := f.toNatClampNeg) (x := d.1 3 f.toNatClampNeg) E 4 0 rfl rfl (zw_in3 c_1.1 c_1.2.1) rfl rfl dX1_tryPart_62 (pc' := 63) rfl ?_
            refine zw_callIw E (r := 1) (As := [.int (nI j), .int told, .int (d.1 2 f.toNatClampNeg), .int (d.1 3 f.toNatClampNeg)]) (rest := []) (ws' := (ld_W K al bq (ld_make d j told (d.1 2 f.toNatClampNeg) (d.1 3 f.toNatClampNeg)))) (qX1_tryMake l D K al bq d j (Nat.lt_of_succ_lt hj) told (d.1 2 f.toNatClampNeg) (d.1 3 f.toNatClampNeg)) (cwV 4 E.2.2.2.2.1 gX1_tryPart_X1_tryMake rfl rfl rfl (by decide +kernel) ⟨Nat.le_of_ble_eq_true rfl, Nat.le_of_ble_eq_true rfl⟩) 0 rfl rfl rfl (ld_ad _ _ _ _ _) rfl rfl (Nat.le_of_ble_eq_true rfl) ⟨Nat.zero_le _, Nat.zero_le _⟩ dX1_tryPart_63 (pc' := 66) rfl ?_
            refine zw_gen_ld_d (ld_make d j told (d.1 2 f.toNatClampNeg) (d.1 3 f.toNatClampNeg)) (fun d_1 hg_1 => ?_)
            refine zw_pop E dX1_tryPart_66 rfl (pc' := 67) rfl ?_
            refine zw_aload_n (i := 0) (x := al 0) E 1 dX1_tryPart_67 rfl rfl (pc' := 68) rfl ?_
            refine zw_iload (x := nI (j + 1)) E 5 dX1_tryPart_68 rfl (pc' := 70) rfl ?_
            refine zw_iload (x := d.1 1 f.toNatClampNeg) E 0 dX1_tryPart_70 rfl (pc' := 72) rfl ?_
            refine zw_iload_n (i := 2) (x := told) E 3 dX1_tryPart_72 rfl rfl (pc' := 73) rfl ?_
            refine zw_isub E dX1_tryPart_73 (pc' := 74) rfl ?_
            refine zw_aload_n (i := 0) (x := al 0) E 1 dX1_tryPart_74 rfl rfl (pc' := 75) rfl ?_
            refine zw_get (v := .ref (al 3)) E 0 3 iX1_tryPart_X1 fX1_tryPart_19 rfl rfl (by decide) rfl rfl dX1_tryPart_75 (pc' := 78) rfl ?_
            refine zw_iload_n (i := 1) (x := f) E 2 dX1_tryPart_78 rfl rfl (pc' := 79) rfl ?_
            refine zw_iald (j := f.toNatClampNeg) (x := d_1.1 2 f.toNatClampNeg) E 3 0 rfl rfl (zw_in3 c_1.1 c_1.2.1) rfl rfl dX1_tryPart_79 (pc' := 80) rfl ?_
            refine zw_aload_n (i := 0) (x := al 0) E 1 dX1_tryPart_80 rfl rfl (pc' := 81) rfl ?_
            refine zw_get (v := .ref (al 4)) E 0 4 iX1_tryPart_X1 fX1_tryPart_22 rfl rfl (by decide) rfl rfl dX1_tryPart_81 (pc' := 84) rfl ?_
            refine zw_iload_n (i := 1) (x := f) E 2 dX1_tryPart_84 rfl rfl (pc' := 85) rfl ?_
            refine zw_iald (j := f.toNatClampNeg) (x := d_1.1 3 f.toNatClampNeg) E 4 0 rfl rfl (zw_in3 c_1.1 c_1.2.1) rfl rfl dX1_tryPart_85 (pc' := 86) rfl ?_
            refine zw_callIw E (r := 1) (As := [.int (nI (j + 1)), .int ((d.1 1 f.toNatClampNeg) - told), .int (d_1.1 2 f.toNatClampNeg), .int (d_1.1 3 f.toNatClampNeg)]) (rest := []) (ws' := (ld_W K al bq (ld_make d_1 (j + 1) ((d.1 1 f.toNatClampNeg) - told) (d_1.1 2 f.toNatClampNeg) (d_1.1 3 f.toNatClampNeg)))) (qX1_tryMake l D K al bq d_1 (j + 1) hj ((d.1 1 f.toNatClampNeg) - told) (d_1.1 2 f.toNatClampNeg) (d_1.1 3 f.toNatClampNeg)) (cwV 4 E.2.2.2.2.1 gX1_tryPart_X1_tryMake rfl rfl rfl (by decide +kernel) ⟨Nat.le_of_ble_eq_true rfl, Nat.le_of_ble_eq_true rfl⟩) 0 rfl rfl rfl (ld_ad _ _ _ _ _) rfl rfl (Nat.le_of_ble_eq_true rfl) ⟨Nat.zero_le _, Nat.zero_le _⟩ dX1_tryPart_86 (pc' := 89) rfl ?_
            refine zw_gen_ld_d (ld_make d_1 (j + 1) ((d.1 1 f.toNatClampNeg) - told) (d_1.1 2 f.toNatClampNeg) (d_1.1 3 f.toNatClampNeg)) (fun d_2 hg_2 => ?_)
            refine zw_pop E dX1_tryPart_89 rfl (pc' := 90) rfl ?_
            refine zw_aload_n (i := 0) (x := al 0) E 1 dX1_tryPart_90 rfl rfl (pc' := 91) rfl ?_
            refine zw_get (v := .ref (al 6)) E 0 6 iX1_tryPart_X1 fX1_tryPart_30 rfl rfl (by decide) rfl rfl dX1_tryPart_91 (pc' := 94) rfl ?_
            refine zw_iload_n (i := 3) (x := nI j) E 4 dX1_tryPart_94 rfl rfl (pc' := 95) rfl ?_
            refine zw_aload_n (i := 0) (x := al 0) E 1 dX1_tryPart_95 rfl rfl (pc' := 96) rfl ?_
            refine zw_get (v := .ref (al 6)) E 0 6 iX1_tryPart_X1 fX1_tryPart_30 rfl rfl (by decide) rfl rfl dX1_tryPart_96 (pc' := 99) rfl ?_
            refine zw_iload_n (i := 1) (x := f) E 2 dX1_tryPart_99 rfl rfl (pc' := 100) rfl ?_
            refine zw_zald (j := f.toNatClampNeg) (x := d_2.1 4 f.toNatClampNeg) E 6 1 rfl rfl (zw_in3 c_1.1 c_1.2.1) rfl rfl dX1_tryPart_100 (pc' := 101) rfl ?_
            refine zw_zast (j := j) (ws' := (ld_W K al bq (ld_row d_2 4 j (vp_nar .boolean (d_2.1 4 f.toNatClampNeg))))) E 6 1 rfl rfl (vp_in_nI (Nat.lt_of_succ_lt hj) (by decide)) (zw_clamp (Nat.lt_of_succ_lt hj) (by decide)) rfl dX1_tryPart_101 (pc' := 102) rfl ?_
            refine zw_gen_ld_d (ld_row d_2 4 j (vp_nar .boolean (d_2.1 4 f.toNatClampNeg))) (fun d_3 hg_3 => ?_)
            refine zw_aload_n (i := 0) (x := al 0) E 1 dX1_tryPart_102 rfl rfl (pc' := 103) rfl ?_
            refine zw_get (v := .ref (al 6)) E 0 6 iX1_tryPart_X1 fX1_tryPart_30 rfl rfl (by decide) rfl rfl dX1_tryPart_103 (pc' := 106) rfl ?_
            refine zw_iload (x := nI (j + 1)) E 5 dX1_tryPart_106 rfl (pc' := 108) rfl ?_
            refine zw_aload_n (i := 0) (x := al 0) E 1 dX1_tryPart_108 rfl rfl (pc' := 109) rfl ?_
            refine zw_get (v := .ref (al 6)) E 0 6 iX1_tryPart_X1 fX1_tryPart_30 rfl rfl (by decide) rfl rfl dX1_tryPart_109 (pc' := 112) rfl ?_
            refine zw_iload_n (i := 1) (x := f) E 2 dX1_tryPart_112 rfl rfl (pc' := 113) rfl ?_
            refine zw_zald (j := f.toNatClampNeg) (x := d_3.1 4 f.toNatClampNeg) E 6 1 rfl rfl (zw_in3 c_1.1 c_1.2.1) rfl rfl dX1_tryPart_113 (pc' := 114) rfl ?_
            refine zw_zast (j := j + 1) (ws' := (ld_W K al bq (ld_row d_3 4 (j + 1) (vp_nar .boolean (d_3.1 4 f.toNatClampNeg))))) E 6 1 rfl rfl (vp_in_nI hj (by decide)) (zw_clamp hj (by decide)) rfl dX1_tryPart_114 (pc' := 115) rfl ?_
            refine zw_gen_ld_d (ld_row d_3 4 (j + 1) (vp_nar .boolean (d_3.1 4 f.toNatClampNeg))) (fun d_4 hg_4 => ?_)
            refine zw_iconst (v := 0) E dX1_tryPart_115 (by decide) (pc' := 116) rfl ?_
            refine zw_istore (lv' := [(6, .int 0), (5, .int (d.1 1 f.toNatClampNeg)), (0, .ref (al 0)), (1, .int f), (2, .int told), (3, .int (nI j)), (4, .int (nI (j + 1)))]) E dX1_tryPart_116 (by decide) rfl (pc' := 118) rfl ?_
            refine zw_iload (x := 0) E 0 dX1_tryPart_118 rfl (pc' := 120) rfl ?_
            refine zw_iconst (v := 3) E dX1_tryPart_120 (by decide) (pc' := 121) rfl ?_
            refine zw_icmp_ge (tgt := 183) E dX1_tryPart_121 (by decide) (pc' := 124) rfl (fun c9 => absurd c9 (by decide)) (fun _ => ?_)
            refine zw_aload_n (i := 0) (x := al 0) E 2 dX1_tryPart_124 rfl rfl (pc' := 125) rfl ?_
            refine zw_get (v := .ref (al 5)) E 0 5 iX1_tryPart_X1 fX1_tryPart_27 rfl rfl (by decide) rfl rfl dX1_tryPart_125 (pc' := 128) rfl ?_
            refine zw_iload (x := 0) E 0 dX1_tryPart_128 rfl (pc' := 130) rfl ?_
            refine zw_aald (j := 0) (b := al 11) E 5 3 rfl rfl (vp_in_nI (n := 0) (N := 3) (by decide) (by decide)) rfl rfl dX1_tryPart_130 (pc' := 131) rfl ?_
            refine zw_iload_n (i := 1) (x := f) E 3 dX1_tryPart_131 rfl rfl (pc' := 132) rfl ?_
            refine zw_iald (j := f.toNatClampNeg) (x := d_4.1 7 f.toNatClampNeg) E 11 0 rfl rfl (zw_in3 c_1.1 c_1.2.1) rfl rfl dX1_tryPart_132 (pc' := 133) rfl ?_
            refine zw_istore (lv' := [(7, .int (d_4.1 7 f.toNatClampNeg)), (6, .int 0), (5, .int (d.1 1 f.toNatClampNeg)), (0, .ref (al 0)), (1, .int f), (2, .int told), (3, .int (nI j)), (4, .int (nI (j + 1)))]) E dX1_tryPart_133 (by decide) rfl (pc' := 135) rfl ?_
            refine zw_aload_n (i := 0) (x := al 0) E 3 dX1_tryPart_135 rfl rfl (pc' := 136) rfl ?_
            refine zw_get (v := .ref (al 5)) E 0 5 iX1_tryPart_X1 fX1_tryPart_27 rfl rfl (by decide) rfl rfl dX1_tryPart_136 (pc' := 139) rfl ?_
            refine zw_iload (x := 0) E 1 dX1_tryPart_139 rfl (pc' := 141) rfl ?_
            refine zw_aald (j := 0) (b := al 11) E 5 3 rfl rfl (vp_in_nI (n := 0) (N := 3) (by decide) (by decide)) rfl rfl dX1_tryPart_141 (pc' := 142) rfl ?_
            refine zw_iload_n (i := 3) (x := nI j) E 6 dX1_tryPart_142 rfl rfl (pc' := 143) rfl ?_
            refine zw_iload (x := d_4.1 7 f.toNatClampNeg) E 0 dX1_tryPart_143 rfl (pc' := 145) rfl ?_
            refine zw_i2l E dX1_tryPart_145 (pc' := 146) rfl ?_
            refine zw_iload_n (i := 2) (x := told) E 5 dX1_tryPart_146 rfl rfl (pc' := 147) rfl ?_
            refine zw_i2l E dX1_tryPart_147 (pc' := 148) rfl ?_
            refine zw_lmul E dX1_tryPart_148 (pc' := 149) rfl ?_
            refine zw_iload (x := d.1 1 f.toNatClampNeg) E 2 dX1_tryPart_149 rfl (pc' := 151) rfl ?_
            refine zw_i2l E dX1_tryPart_151 (pc' := 152) rfl ?_
            refine zw_ldiv E dX1_tryPart_152 (zw_old c_4 c_5) (pc' := 153) rfl ?_
            refine zw_l2i E dX1_tryPart_153 (pc' := 154) rfl ?_
            refine zw_iast (j := j) (ws' := (ld_W K al bq (ld_row d_4 7 j (((((d_4.1 7 f.toNatClampNeg).toInt64) * told.toInt64) / ((d.1 1 f.toNatClampNeg).toInt64)).toInt32)))) E 11 0 rfl rfl (vp_in_nI (Nat.lt_of_succ_lt hj) (by decide)) (zw_clamp (Nat.lt_of_succ_lt hj) (by decide)) rfl dX1_tryPart_154 (pc' := 155) rfl ?_
            refine zw_gen_ld_d (ld_row d_4 7 j (((((d_4.1 7 f.toNatClampNeg).toInt64) * told.toInt64) / ((d.1 1 f.toNatClampNeg).toInt64)).toInt32)) (fun d_5 hg_5 => ?_)
            refine zw_aload_n (i := 0) (x := al 0) E 3 dX1_tryPart_155 rfl rfl (pc' := 156) rfl ?_
            refine zw_get (v := .ref (al 5)) E 0 5 iX1_tryPart_X1 fX1_tryPart_27 rfl rfl (by decide) rfl rfl dX1_tryPart_156 (pc' := 159) rfl ?_
            refine zw_iload (x := 0) E 1 dX1_tryPart_159 rfl (pc' := 161) rfl ?_
            refine zw_aald (j := 0) (b := al 11) E 5 3 rfl rfl (vp_in_nI (n := 0) (N := 3) (by decide) (by decide)) rfl rfl dX1_tryPart_161 (pc' := 162) rfl ?_
            refine zw_iload (x := nI (j + 1)) E 7 dX1_tryPart_162 rfl (pc' := 164) rfl ?_
            refine zw_iload (x := d_4.1 7 f.toNatClampNeg) E 0 dX1_tryPart_164 rfl (pc' := 166) rfl ?_
            refine zw_aload_n (i := 0) (x := al 0) E 3 dX1_tryPart_166 rfl rfl (pc' := 167) rfl ?_
            refine zw_get (v := .ref (al 5)) E 0 5 iX1_tryPart_X1 fX1_tryPart_27 rfl rfl (by decide) rfl rfl dX1_tryPart_167 (pc' := 170) rfl ?_
            refine zw_iload (x := 0) E 1 dX1_tryPart_170 rfl (pc' := 172) rfl ?_
            refine zw_aald (j := 0) (b := al 11) E 5 3 rfl rfl (vp_in_nI (n := 0) (N := 3) (by decide) (by decide)) rfl rfl dX1_tryPart_172 (pc' := 173) rfl ?_
            refine zw_iload_n (i := 3) (x := nI j) E 6 dX1_tryPart_173 rfl rfl (pc' := 174) rfl ?_
            refine zw_iald (j := j) (x := d_5.1 7 j) E 11 0 rfl rfl (vp_in_nI (Nat.lt_of_succ_lt hj) (by decide)) (zw_clamp (Nat.lt_of_succ_lt hj) (by decide)) rfl dX1_tryPart_174 (pc' := 175) rfl ?_
            refine zw_isub E dX1_tryPart_175 (pc' := 176) rfl ?_
            refine zw_iast (j := j + 1) (ws' := (ld_W K al bq (ld_row d_5 7 (j + 1) ((d_4.1 7 f.toNatClampNeg) - (d_5.1 7 j))))) E 11 0 rfl rfl (vp_in_nI hj (by decide)) (zw_clamp hj (by decide)) rfl dX1_tryPart_176 (pc' := 177) rfl ?_
            refine zw_gen_ld_d (ld_row d_5 7 (j + 1) ((d_4.1 7 f.toNatClampNeg) - (d_5.1 7 j))) (fun d_6 hg_6 => ?_)
            refine zw_iinc (x := 0) (v := 1) (lv' := [(6, .int 1), (7, .int (d_4.1 7 f.toNatClampNeg)), (5, .int (d.1 1 f.toNatClampNeg)), (0, .ref (al 0)), (1, .int f), (2, .int told), (3, .int (nI j)), (4, .int (nI (j + 1)))]) E 1 dX1_tryPart_177 rfl (by decide) (by decide) rfl (pc' := 180) rfl ?_
            refine zw_goto (tgt := 118) E dX1_tryPart_180 (by decide) ?_
            refine zw_iload (x := 1) E 0 dX1_tryPart_118 rfl (pc' := 120) rfl ?_
            refine zw_iconst (v := 3) E dX1_tryPart_120 (by decide) (pc' := 121) rfl ?_
            refine zw_icmp_ge (tgt := 183) E dX1_tryPart_121 (by decide) (pc' := 124) rfl (fun c9 => absurd c9 (by decide)) (fun _ => ?_)
            refine zw_aload_n (i := 0) (x := al 0) E 3 dX1_tryPart_124 rfl rfl (pc' := 125) rfl ?_
            refine zw_get (v := .ref (al 5)) E 0 5 iX1_tryPart_X1 fX1_tryPart_27 rfl rfl (by decide) rfl rfl dX1_tryPart_125 (pc' := 128) rfl ?_
            refine zw_iload (x := 1) E 0 dX1_tryPart_128 rfl (pc' := 130) rfl ?_
            refine zw_aald (j := 1) (b := al 12) E 5 3 rfl rfl (vp_in_nI (n := 1) (N := 3) (by decide) (by decide)) rfl rfl dX1_tryPart_130 (pc' := 131) rfl ?_
            refine zw_iload_n (i := 1) (x := f) E 4 dX1_tryPart_131 rfl rfl (pc' := 132) rfl ?_
            refine zw_iald (j := f.toNatClampNeg) (x := d_6.1 8 f.toNatClampNeg) E 12 0 rfl rfl (zw_in3 c_1.1 c_1.2.1) rfl rfl dX1_tryPart_132 (pc' := 133) rfl ?_
            refine zw_istore (lv' := [(7, .int (d_6.1 8 f.toNatClampNeg)), (6, .int 1), (5, .int (d.1 1 f.toNatClampNeg)), (0, .ref (al 0)), (1, .int f), (2, .int told), (3, .int (nI j)), (4, .int (nI (j + 1)))]) E dX1_tryPart_133 (by decide) rfl (pc' := 135) rfl ?_
            refine zw_aload_n (i := 0) (x := al 0) E 3 dX1_tryPart_135 rfl rfl (pc' := 136) rfl ?_
            refine zw_get (v := .ref (al 5)) E 0 5 iX1_tryPart_X1 fX1_tryPart_27 rfl rfl (by decide) rfl rfl dX1_tryPart_136 (pc' := 139) rfl ?_
            refine zw_iload (x := 1) E 1 dX1_tryPart_139 rfl (pc' := 141) rfl ?_
            refine zw_aald (j := 1) (b := al 12) E 5 3 rfl rfl (vp_in_nI (n := 1) (N := 3) (by decide) (by decide)) rfl rfl dX1_tryPart_141 (pc' := 142) rfl ?_
            refine zw_iload_n (i := 3) (x := nI j) E 6 dX1_tryPart_142 rfl rfl (pc' := 143) rfl ?_
            refine zw_iload (x := d_6.1 8 f.toNatClampNeg) E 0 dX1_tryPart_143 rfl (pc' := 145) rfl ?_
            refine zw_i2l E dX1_tryPart_145 (pc' := 146) rfl ?_
            refine zw_iload_n (i := 2) (x := told) E 5 dX1_tryPart_146 rfl rfl (pc' := 147) rfl ?_
            refine zw_i2l E dX1_tryPart_147 (pc' := 148) rfl ?_
            refine zw_lmul E dX1_tryPart_148 (pc' := 149) rfl ?_
            refine zw_iload (x := d.1 1 f.toNatClampNeg) E 2 dX1_tryPart_149 rfl (pc' := 151) rfl ?_
            refine zw_i2l E dX1_tryPart_151 (pc' := 152) rfl ?_
            refine zw_ldiv E dX1_tryPart_152 (zw_old c_4 c_5) (pc' := 153) rfl ?_
            refine zw_l2i E dX1_tryPart_153 (pc' := 154) rfl ?_
            refine zw_iast (j := j) (ws' := (ld_W K al bq (ld_row d_6 8 j (((((d_6.1 8 f.toNatClampNeg).toInt64) * told.toInt64) / ((d.1 1 f.toNatClampNeg).toInt64)).toInt32)))) E 12 0 rfl rfl (vp_in_nI (Nat.lt_of_succ_lt hj) (by decide)) (zw_clamp (Nat.lt_of_succ_lt hj) (by decide)) rfl dX1_tryPart_154 (pc' := 155) rfl ?_
            refine zw_gen_ld_d (ld_row d_6 8 j (((((d_6.1 8 f.toNatClampNeg).toInt64) * told.toInt64) / ((d.1 1 f.toNatClampNeg).toInt64)).toInt32)) (fun d_7 hg_7 => ?_)
            refine zw_aload_n (i := 0) (x := al 0) E 3 dX1_tryPart_155 rfl rfl (pc' := 156) rfl ?_
            refine zw_get (v := .ref (al 5)) E 0 5 iX1_tryPart_X1 fX1_tryPart_27 rfl rfl (by decide) rfl rfl dX1_tryPart_156 (pc' := 159) rfl ?_
            refine zw_iload (x := 1) E 1 dX1_tryPart_159 rfl (pc' := 161) rfl ?_
            refine zw_aald (j := 1) (b := al 12) E 5 3 rfl rfl (vp_in_nI (n := 1) (N := 3) (by decide) (by decide)) rfl rfl dX1_tryPart_161 (pc' := 162) rfl ?_
            refine zw_iload (x := nI (j + 1)) E 7 dX1_tryPart_162 rfl (pc' := 164) rfl ?_
            refine zw_iload (x := d_6.1 8 f.toNatClampNeg) E 0 dX1_tryPart_164 rfl (pc' := 166) rfl ?_
            refine zw_aload_n (i := 0) (x := al 0) E 3 dX1_tryPart_166 rfl rfl (pc' := 167) rfl ?_
            refine zw_get (v := .ref (al 5)) E 0 5 iX1_tryPart_X1 fX1_tryPart_27 rfl rfl (by decide) rfl rfl dX1_tryPart_167 (pc' := 170) rfl ?_
            refine zw_iload (x := 1) E 1 dX1_tryPart_170 rfl (pc' := 172) rfl ?_
            refine zw_aald (j := 1) (b := al 12) E 5 3 rfl rfl (vp_in_nI (n := 1) (N := 3) (by decide) (by decide)) rfl rfl dX1_tryPart_172 (pc' := 173) rfl ?_
            refine zw_iload_n (i := 3) (x := nI j) E 6 dX1_tryPart_173 rfl rfl (pc' := 174) rfl ?_
            refine zw_iald (j := j) (x := d_7.1 8 j) E 12 0 rfl rfl (vp_in_nI (Nat.lt_of_succ_lt hj) (by decide)) (zw_clamp (Nat.lt_of_succ_lt hj) (by decide)) rfl dX1_tryPart_174 (pc' := 175) rfl ?_
            refine zw_isub E dX1_tryPart_175 (pc' := 176) rfl ?_
            refine zw_iast (j := j + 1) (ws' := (ld_W K al bq (ld_row d_7 8 (j + 1) ((d_6.1 8 f.toNatClampNeg) - (d_7.1 8 j))))) E 12 0 rfl rfl (vp_in_nI hj (by decide)) (zw_clamp hj (by decide)) rfl dX1_tryPart_176 (pc' := 177) rfl ?_
            refine zw_gen_ld_d (ld_row d_7 8 (j + 1) ((d_6.1 8 f.toNatClampNeg) - (d_7.1 8 j))) (fun d_8 hg_8 => ?_)
            refine zw_iinc (x := 1) (v := 2) (lv' := [(6, .int 2), (7, .int (d_6.1 8 f.toNatClampNeg)), (5, .int (d.1 1 f.toNatClampNeg)), (0, .ref (al 0)), (1, .int f), (2, .int told), (3, .int (nI j)), (4, .int (nI (j + 1)))]) E 1 dX1_tryPart_177 rfl (by decide) (by decide) rfl (pc' := 180) rfl ?_
            refine zw_goto (tgt := 118) E dX1_tryPart_180 (by decide) ?_
            refine zw_iload (x := 2) E 0 dX1_tryPart_118 rfl (pc' := 120) rfl ?_
            refine zw_iconst (v := 3) E dX1_tryPart_120 (by decide) (pc' := 121) rfl ?_
            refine zw_icmp_ge (tgt := 183) E dX1_tryPart_121 (by decide) (pc' := 124) rfl (fun c9 => absurd c9 (by decide)) (fun _ => ?_)
            refine zw_aload_n (i := 0) (x := al 0) E 3 dX1_tryPart_124 rfl rfl (pc' := 125) rfl ?_
            refine zw_get (v := .ref (al 5)) E 0 5 iX1_tryPart_X1 fX1_tryPart_27 rfl rfl (by decide) rfl rfl dX1_tryPart_125 (pc' := 128) rfl ?_
            refine zw_iload (x := 2) E 0 dX1_tryPart_128 rfl (pc' := 130) rfl ?_
            refine zw_aald (j := 2) (b := al 13) E 5 3 rfl rfl (vp_in_nI (n := 2) (N := 3) (by decide) (by decide)) rfl rfl dX1_tryPart_130 (pc' := 131) rfl ?_
            refine zw_iload_n (i := 1) (x := f) E 4 dX1_tryPart_131 rfl rfl (pc' := 132) rfl ?_
            refine zw_iald (j := f.toNatClampNeg) (x := d_8.1 9 f.toNatClampNeg) E 13 0 rfl rfl (zw_in3 c_1.1 c_1.2.1) rfl rfl dX1_tryPart_132 (pc' := 133) rfl ?_
            refine zw_istore (lv' := [(7, .int (d_8.1 9 f.toNatClampNeg)), (6, .int 2), (5, .int (d.1 1 f.toNatClampNeg)), (0, .ref (al 0)), (1, .int f), (2, .int told), (3, .int (nI j)), (4, .int (nI (j + 1)))]) E dX1_tryPart_133 (by decide) rfl (pc' := 135) rfl ?_
            refine zw_aload_n (i := 0) (x := al 0) E 3 dX1_tryPart_135 rfl rfl (pc' := 136) rfl ?_
            refine zw_get (v := .ref (al 5)) E 0 5 iX1_tryPart_X1 fX1_tryPart_27 rfl rfl (by decide) rfl rfl dX1_tryPart_136 (pc' := 139) rfl ?_
            refine zw_iload (x := 2) E 1 dX1_tryPart_139 rfl (pc' := 141) rfl ?_
            refine zw_aald (j := 2) (b := al 13) E 5 3 rfl rfl (vp_in_nI (n := 2) (N := 3) (by decide) (by decide)) rfl rfl dX1_tryPart_141 (pc' := 142) rfl ?_
            refine zw_iload_n (i := 3) (x := nI j) E 6 dX1_tryPart_142 rfl rfl (pc' := 143) rfl ?_
            refine zw_iload (x := d_8.1 9 f.toNatClampNeg) E 0 dX1_tryPart_143 rfl (pc' := 145) rfl ?_
            refine zw_i2l E dX1_tryPart_145 (pc' := 146) rfl ?_
            refine zw_iload_n (i := 2) (x := told) E 5 dX1_tryPart_146 rfl rfl (pc' := 147) rfl ?_
            refine zw_i2l E dX1_tryPart_147 (pc' := 148) rfl ?_
            refine zw_lmul E dX1_tryPart_148 (pc' := 149) rfl ?_
            refine zw_iload (x := d.1 1 f.toNatClampNeg) E 2 dX1_tryPart_149 rfl (pc' := 151) rfl ?_
            refine zw_i2l E dX1_tryPart_151 (pc' := 152) rfl ?_
            refine zw_ldiv E dX1_tryPart_152 (zw_old c_4 c_5) (pc' := 153) rfl ?_
            refine zw_l2i E dX1_tryPart_153 (pc' := 154) rfl ?_
            refine zw_iast (j := j) (ws' := (ld_W K al bq (ld_row d_8 9 j (((((d_8.1 9 f.toNatClampNeg).toInt64) * told.toInt64) / ((d.1 1 f.toNatClampNeg).toInt64)).toInt32)))) E 13 0 rfl rfl (vp_in_nI (Nat.lt_of_succ_lt hj) (by decide)) (zw_clamp (Nat.lt_of_succ_lt hj) (by decide)) rfl dX1_tryPart_154 (pc' := 155) rfl ?_
            refine zw_gen_ld_d (ld_row d_8 9 j (((((d_8.1 9 f.toNatClampNeg).toInt64) * told.toInt64) / ((d.1 1 f.toNatClampNeg).toInt64)).toInt32)) (fun d_9 hg_9 => ?_)
            refine zw_aload_n (i := 0) (x := al 0) E 3 dX1_tryPart_155 rfl rfl (pc' := 156) rfl ?_
            refine zw_get (v := .ref (al 5)) E 0 5 iX1_tryPart_X1 fX1_tryPart_27 rfl rfl (by decide) rfl rfl dX1_tryPart_156 (pc' := 159) rfl ?_
            refine zw_iload (x := 2) E 1 dX1_tryPart_159 rfl (pc' := 161) rfl ?_
            refine zw_aald (j := 2) (b := al 13) E 5 3 rfl rfl (vp_in_nI (n := 2) (N := 3) (by decide) (by decide)) rfl rfl dX1_tryPart_161 (pc' := 162) rfl ?_
            refine zw_iload (x := nI (j + 1)) E 7 dX1_tryPart_162 rfl (pc' := 164) rfl ?_
            refine zw_iload (x := d_8.1 9 f.toNatClampNeg) E 0 dX1_tryPart_164 rfl (pc' := 166) rfl ?_
            refine zw_aload_n (i := 0) (x := al 0) E 3 dX1_tryPart_166 rfl rfl (pc' := 167) rfl ?_
            refine zw_get (v := .ref (al 5)) E 0 5 iX1_tryPart_X1 fX1_tryPart_27 rfl rfl (by decide) rfl rfl dX1_tryPart_167 (pc' := 170) rfl ?_
            refine zw_iload (x := 2) E 1 dX1_tryPart_170 rfl (pc' := 172) rfl ?_
            refine zw_aald (j := 2) (b := al 13) E 5 3 rfl rfl (vp_in_nI (n := 2) (N := 3) (by decide) (by decide)) rfl rfl dX1_tryPart_172 (pc' := 173) rfl ?_
            refine zw_iload_n (i := 3) (x := nI j) E 6 dX1_tryPart_173 rfl rfl (pc' := 174) rfl ?_
            refine zw_iald (j := j) (x := d_9.1 9 j) E 13 0 rfl rfl (vp_in_nI (Nat.lt_of_succ_lt hj) (by decide)) (zw_clamp (Nat.lt_of_succ_lt hj) (by decide)) rfl dX1_tryPart_174 (pc' := 175) rfl ?_
            refine zw_isub E dX1_tryPart_175 (pc' := 176) rfl ?_
            refine zw_iast (j := j + 1) (ws' := (ld_W K al bq (ld_row d_9 9 (j + 1) ((d_8.1 9 f.toNatClampNeg) - (d_9.1 9 j))))) E 13 0 rfl rfl (vp_in_nI hj (by decide)) (zw_clamp hj (by decide)) rfl dX1_tryPart_176 (pc' := 177) rfl ?_
            refine zw_gen_ld_d (ld_row d_9 9 (j + 1) ((d_8.1 9 f.toNatClampNeg) - (d_9.1 9 j))) (fun d_10 hg_10 => ?_)
            refine zw_iinc (x := 2) (v := 3) (lv' := [(6, .int 3), (7, .int (d_8.1 9 f.toNatClampNeg)), (5, .int (d.1 1 f.toNatClampNeg)), (0, .ref (al 0)), (1, .int f), (2, .int told), (3, .int (nI j)), (4, .int (nI (j + 1)))]) E 1 dX1_tryPart_177 rfl (by decide) (by decide) rfl (pc' := 180) rfl ?_
            refine zw_goto (tgt := 118) E dX1_tryPart_180 (by decide) ?_
            refine zw_iload (x := 3) E 0 dX1_tryPart_118 rfl (pc' := 120) rfl ?_
            refine zw_iconst (v := 3) E dX1_tryPart_120 (by decide) (pc' := 121) rfl ?_
            refine zw_icmp_ge (tgt := 183) E dX1_tryPart_121 (by decide) (pc' := 124) rfl (fun _ => ?_) (fun c9 => absurd (by decide) c9)
            refine zw_aload_n (i := 0) (x := al 0) E 3 dX1_tryPart_183 rfl rfl (pc' := 184) rfl ?_
            refine zw_get (v := .ref (al 1)) E 0 1 iX1_tryPart_X1 fX1_tryPart_9 rfl rfl (by decide) rfl rfl dX1_tryPart_184 (pc' := 187) rfl ?_
            refine zw_iload_n (i := 1) (x := f) E 4 dX1_tryPart_187 rfl rfl (pc' := 188) rfl ?_
            refine zw_iconst (v := 0) E dX1_tryPart_188 (by decide) (pc' := 189) rfl ?_
            refine zw_zast (j := f.toNatClampNeg) (ws' := (ld_W K al bq (ld_row d_10 0 f.toNatClampNeg 0))) E 1 1 rfl rfl (zw_in3 c_1.1 c_1.2.1) rfl rfl dX1_tryPart_189 (pc' := 190) rfl ?_
            refine zw_gen_ld_d (ld_row d_10 0 f.toNatClampNeg 0) (fun d_11 hg_11 => ?_)
            refine zw_iconst (v := 1) E dX1_tryPart_190 (by decide) (pc' := 191) rfl ?_
            exact zw_zret E hr hlk dX1_tryPart_191 rfl (by unfold r_part; rw [if_pos c_1, if_neg c_4, if_pos c_5]) (by unfold d_part; rw [if_pos c_1, if_neg c_4, if_pos c_5]; unfold ld_part ld_part1 ld_part2 p_c; rw [hg_1, hg_2, show p_b1 d_2 f.toNatClampNeg j = d_3 from hg_3, show p_b1 d_3 f.toNatClampNeg (j + 1) = d_4 from hg_4, show p_c1 d_4 7 f.toNatClampNeg j told (d.1 1 f.toNatClampNeg) = d_5 from hg_5, show p_c2 d_5 7 j (d_4.1 7 f.toNatClampNeg) = d_6 from hg_6, show p_c1 d_6 8 f.toNatClampNeg j told (d.1 1 f.toNatClampNeg) = d_7 from hg_7, show p_c2 d_7 8 j (d_6.1 8 f.toNatClampNeg) = d_8 from hg_8, show p_c1 d_8 9 f.toNatClampNeg j told (d.1 1 f.toNatClampNeg) = d_9 from hg_9, show p_c2 d_9 9 j (d_8.1 9 f.toNatClampNeg) = d_10 from hg_10, hg_11])
          · skip
            refine zw_iconst (v := 0) E dX1_tryPart_38 (by decide) (pc' := 39) rfl ?_
            exact zw_zret E hr hlk dX1_tryPart_39 rfl (by unfold r_part; rw [if_pos c_1, if_neg c_4, if_neg c_5]) (by unfold d_part; rw [if_pos c_1, if_neg c_4, if_neg c_5])

def j_c (d : Ld) (r i i2 j : Nat) : Ld := ld_row d r j (d.1 r i + d.1 r i2)
def ld_join2 (d : Ld) (i i2 j : Nat) : Ld := ld_row (ld_row (j_c (j_c (j_c (p_b1 d i j) 7 i i2 j) 8 i i2 j) 9 i i2 j) 0 i 0) 0 i2 0
def ld_join (d : Ld) (i i2 j : Nat) : Ld := ld_join2 (ld_make d j (d.1 1 i + d.1 1 i2) (d.1 2 i) (d.1 3 i)) i i2 j
def r_join (d : Ld) (f h : Int32) : Int32 := if f = h then 0 else if is_there d f then if is_there d h then if d.1 2 f.toNatClampNeg = d.1 2 h.toNatClampNeg then if d.1 3 f.toNatClampNeg = d.1 3 h.toNatClampNeg then if d.1 4 f.toNatClampNeg = d.1 4 h.toNatClampNeg then 1 else 0 else 0 else 0 else 0 else 0
def d_join (d : Ld) (f h : Int32) (j : Nat) : Ld := if f = h then d else if is_there d f then if is_there d h then if d.1 2 f.toNatClampNeg = d.1 2 h.toNatClampNeg then if d.1 3 f.toNatClampNeg = d.1 3 h.toNatClampNeg then if d.1 4 f.toNatClampNeg = d.1 4 h.toNatClampNeg then ld_join d f.toNatClampNeg h.toNatClampNeg j else d else d else d else d else d
theorem fX1_tryJoin_15 : Cond.fieldLink RX1 15 "TitheMap$Land" "area" "[I" ∈ wsX1_tryJoin := by decide +kernel
theorem fX1_tryJoin_19 : Cond.fieldLink RX1 19 "TitheMap$Land" "kind" "[I" ∈ wsX1_tryJoin := by decide +kernel
theorem fX1_tryJoin_22 : Cond.fieldLink RX1 22 "TitheMap$Land" "owner" "[I" ∈ wsX1_tryJoin := by decide +kernel
theorem fX1_tryJoin_27 : Cond.fieldLink RX1 27 "TitheMap$Land" "charge" "[[I" ∈ wsX1_tryJoin := by decide +kernel
theorem fX1_tryJoin_30 : Cond.fieldLink RX1 30 "TitheMap$Land" "bought" "[Z" ∈ wsX1_tryJoin := by decide +kernel
theorem fX1_tryJoin_9 : Cond.fieldLink RX1 9 "TitheMap$Land" "there" "[Z" ∈ wsX1_tryJoin := by decide +kernel
theorem iX1_tryJoin_X1 : ∀ w ∈ wsX10, w ∈ wsX1_tryJoin := by decide +kernel
set_option maxHeartbeats 4000000 in
set_option maxRecDepth 100000 in
/-- tryJoin(f, g, h) -/
theorem qX1_tryJoin (l : Launch) (D : va_G) (K : Nat → ClassId) (al : Nat → Nat) (bq : Nat) (d : Ld) (f h : Int32) (j : Nat) (hj : j < 60) : zw_I l yX1_tryJoin wsX1_tryJoin rmX1_tryJoin D (zT K) [.ref (al 0), .int f, .int h, .int (nI j)] (ld_W K al bq d) (r_join d f h) (ld_W K al bq (d_join d f h j)) := by
  refine zw_ofI (cc := cX1_tryJoin) (nL := 5) (ret := (some .boolean)) (own := RX1) (lv := [(0, .ref (al 0)), (1, .int f), (2, .int h), (3, .int (nI j))]) (by decide) rfl (Nat.le_of_ble_eq_true rfl) rfl rfl ?_
  intro p e s m below meth c A E hr hlk
  refine zw_iload_n (i := 1) (x := f) E 1 dX1_tryJoin_0 rfl rfl (pc' := 1) rfl ?_
  refine zw_iload_n (i := 2) (x := h) E 2 dX1_tryJoin_1 rfl rfl (pc' := 2) rfl ?_
  refine zw_icmp_eq (tgt := 73) E dX1_tryJoin_2 (by decide) (pc' := 5) rfl (fun c_1 => ?_) (fun c_1 => ?_)
  · skip
    refine zw_iconst (v := 0) E dX1_tryJoin_73 (by decide) (pc' := 74) rfl ?_
    exact zw_zret E hr hlk dX1_tryJoin_74 rfl (by unfold r_join; rw [if_pos c_1]) (by unfold d_join; rw [if_pos c_1])
  · skip
    refine zw_aload_n (i := 0) (x := al 0) E 0 dX1_tryJoin_5 rfl rfl (pc' := 6) rfl ?_
    refine zw_iload_n (i := 1) (x := f) E 1 dX1_tryJoin_6 rfl rfl (pc' := 7) rfl ?_
    refine zw_callIw E (r := zb (is_there d f)) (As := [.int f]) (rest := []) (ws' := (ld_W K al bq d)) (qX1_isThere l D K al bq d f) (cwV 1 E.2.2.2.2.1 gX1_tryJoin_X1_isThere rfl rfl rfl (by decide +kernel) ⟨Nat.le_of_ble_eq_true rfl, Nat.le_of_ble_eq_true rfl⟩) 0 rfl rfl rfl rfl rfl rfl (Nat.le_of_ble_eq_true rfl) ⟨Nat.zero_le _, Nat.zero_le _⟩ dX1_tryJoin_7 (pc' := 10) rfl ?_
    refine zw_ifb_eq (tgt := 73) E dX1_tryJoin_10 (by decide) (pc' := 13) rfl (fun c_2 => ?_) (fun c_2 => ?_)
    · skip
      refine zw_iconst (v := 0) E dX1_tryJoin_73 (by decide) (pc' := 74) rfl ?_
      exact zw_zret E hr hlk dX1_tryJoin_74 rfl (by unfold r_join; rw [if_neg c_1, if_neg c_2]) (by unfold d_join; rw [if_neg c_1, if_neg c_2])
    · skip
      refine zw_aload_n (i := 0) (x := al 0) E 0 dX1_tryJoin_13 rfl rfl (pc' := 14) rfl ?_
      refine zw_iload_n (i := 2) (x := h) E 2 dX1_tryJoin_14 rfl rfl (pc' := 15) rfl ?_
      refine zw_callIw E (r := zb (is_there d h)) (As := [.int h]) (rest := []) (ws' := (ld_W K al bq d)) (qX1_isThere l D K al bq d h) (cwV 1 E.2.2.2.2.1 gX1_tryJoin_X1_isThere rfl rfl rfl (by decide +kernel) ⟨Nat.le_of_ble_eq_true rfl, Nat.le_of_ble_eq_true rfl⟩) 0 rfl rfl rfl rfl rfl rfl (Nat.le_of_ble_eq_true rfl) ⟨Nat.zero_le _, Nat.zero_le _⟩ dX1_tryJoin_15 (pc' := 18) rfl ?_
      refine zw_ifb_eq (tgt := 73) E dX1_tryJoin_18 (by decide) (pc' := 21) rfl (fun c_3 => ?_) (fun c_3 => ?_)
      · skip
        refine zw_iconst (v := 0) E dX1_tryJoin_73 (by decide) (pc' := 74) rfl ?_
        exact zw_zret E hr hlk dX1_tryJoin_74 rfl (by unfold r_join; rw [if_neg c_1, if_pos c_2, if_neg c_3]) (by unfold d_join; rw [if_neg c_1, if_pos c_2, if_neg c_3])
      · skip
        refine zw_iload_n (i := 3) (x := nI j) E 3 dX1_tryJoin_21 rfl rfl (pc' := 22) rfl ?_
        refine zw_callIs E (r := zb (0 ≤ nI j ∧ nI j < 60)) (As := [.int (nI j)]) (rest := []) (ws' := (ld_W K al bq d)) (qX1_isNumber l D K (nI j)) (va_cwS 1 E.2.2.2.2.1 gX1_tryJoin_X1_isNumber rfl rfl rfl (by decide +kernel) ⟨Nat.le_of_ble_eq_true rfl, Nat.le_of_ble_eq_true rfl⟩) [] (by decide) rfl rfl (zw_put_same _ _ _ rfl) rfl rfl (Nat.le_of_ble_eq_true rfl) ⟨Nat.zero_le _, Nat.zero_le _⟩ dX1_tryJoin_22 (pc' := 25) rfl ?_
        refine zw_ifb_eq (tgt := 73) E dX1_tryJoin_25 (by decide) (pc' := 28) rfl (fun c_4 => ?_) (fun c_4 => ?_)
        · exact absurd (zw_num hj) c_4
        · skip
          refine zw_aload_n (i := 0) (x := al 0) E 0 dX1_tryJoin_28 rfl rfl (pc' := 29) rfl ?_
          refine zw_get (v := .ref (al 3)) E 0 3 iX1_tryJoin_X1 fX1_tryJoin_19 rfl rfl (by decide) rfl rfl dX1_tryJoin_29 (pc' := 32) rfl ?_
          refine zw_iload_n (i := 1) (x := f) E 1 dX1_tryJoin_32 rfl rfl (pc' := 33) rfl ?_
          refine zw_iald (j := f.toNatClampNeg) (x := d.1 2 f.toNatClampNeg) E 3 0 rfl rfl (zw_in3 c_2.1 c_2.2.1) rfl rfl dX1_tryJoin_33 (pc' := 34) rfl ?_
          refine zw_aload_n (i := 0) (x := al 0) E 0 dX1_tryJoin_34 rfl rfl (pc' := 35) rfl ?_
          refine zw_get (v := .ref (al 3)) E 0 3 iX1_tryJoin_X1 fX1_tryJoin_19 rfl rfl (by decide) rfl rfl dX1_tryJoin_35 (pc' := 38) rfl ?_
          refine zw_iload_n (i := 2) (x := h) E 2 dX1_tryJoin_38 rfl rfl (pc' := 39) rfl ?_
          refine zw_iald (j := h.toNatClampNeg) (x := d.1 2 h.toNatClampNeg) E 3 0 rfl rfl (zw_in3 c_3.1 c_3.2.1) rfl rfl dX1_tryJoin_39 (pc' := 40) rfl ?_
          refine zw_icmp_ne (tgt := 73) E dX1_tryJoin_40 (by decide) (pc' := 43) rfl (fun c_5 => ?_) (fun c_5 => ?_)
          · skip
            refine zw_iconst (v := 0) E dX1_tryJoin_73 (by decide) (pc' := 74) rfl ?_
            exact zw_zret E hr hlk dX1_tryJoin_74 rfl (by unfold r_join; rw [if_neg c_1, if_pos c_2, if_pos c_3, if_neg c_5]) (by unfold d_join; rw [if_neg c_1, if_pos c_2, if_pos c_3, if_neg c_5])
          · skip
            refine zw_aload_n (i := 0) (x := al 0) E 0 dX1_tryJoin_43 rfl rfl (pc' := 44) rfl ?_
            refine zw_get (v := .ref (al 4)) E 0 4 iX1_tryJoin_X1 fX1_tryJoin_22 rfl rfl (by decide) rfl rfl dX1_tryJoin_44 (pc' := 47) rfl ?_
            refine zw_iload_n (i := 1) (x := f) E 1 dX1_tryJoin_47 rfl rfl (pc' := 48) rfl ?_
            refine zw_iald (j := f.toNatClampNeg) (x := d.1 3 f.toNatClampNeg) E 4 0 rfl rfl (zw_in3 c_2.1 c_2.2.1) rfl rfl dX1_tryJoin_48 (pc' := 49) rfl ?_
            refine zw_aload_n (i := 0) (x := al 0) E 0 dX1_tryJoin_49 rfl rfl (pc' := 50) rfl ?_
            refine zw_get (v := .ref (al 4)) E 0 4 iX1_tryJoin_X1 fX1_tryJoin_22 rfl rfl (by decide) rfl rfl dX1_tryJoin_50 (pc' := 53) rfl ?_
            refine zw_iload_n (i := 2) (x := h) E 2 dX1_tryJoin_53 rfl rfl (pc' := 54) rfl ?_
            refine zw_iald (j := h.toNatClampNeg) (x := d.1 3 h.toNatClampNeg) E 4 0 rfl rfl (zw_in3 c_3.1 c_3.2.1) rfl rfl dX1_tryJoin_54 (pc' := 55) rfl ?_
            refine zw_icmp_ne (tgt := 73) E dX1_tryJoin_55 (by decide) (pc' := 58) rfl (fun c_6 => ?_) (fun c_6 => ?_)
            · skip
              refine zw_iconst (v := 0) E dX1_tryJoin_73 (by decide) (pc' := 74) rfl ?_
              exact zw_zret E hr hlk dX1_tryJoin_74 rfl (by unfold r_join; rw [if_neg c_1, if_pos c_2, if_pos c_3, if_pos c_5, if_neg c_6]) (by unfold d_join; rw [if_neg c_1, if_pos c_2, if_pos c_3, if_pos c_5, if_neg c_6])
            · skip
              refine zw_aload_n (i := 0) (x := al 0) E 0 dX1_tryJoin_58 rfl rfl (pc' := 59) rfl ?_
              refine zw_get (v := .ref (al 6)) E 0 6 iX1_tryJoin_X1 fX1_tryJoin_30 rfl rfl (by decide) rfl rfl dX1_tryJoin_59 (pc' := 62) rfl ?_
              refine zw_iload_n (i := 1) (x := f) E 1 dX1_tryJoin_62 rfl rfl (pc' := 63) rfl ?_
              refine zw_zald (j := f.toNatClampNeg) (x := d.1 4 f.toNatClampNeg) E 6 1 rfl rfl (zw_in3 c_2.1 c_2.2.1) rfl rfl dX1_tryJoin_63 (pc' := 64) rfl ?_
              refine zw_aload_n (i := 0) (x := al 0) E 0 dX1_tryJoin_64 rfl rfl (pc' := 65) rfl ?_
              refine zw_get (v := .ref (al 6)) E 0 6 iX1_tryJoin_X1 fX1_tryJoin_30 rfl rfl (by decide) rfl rfl dX1_tryJoin_65 (pc' := 68) rfl ?_
              refine zw_iload_n (i := 2) (x := h) E 2 dX1_tryJoin_68 rfl rfl (pc' := 69) rfl ?_
              refine zw_zald (j := h.toNatClampNeg) (x := d.1 4 h.toNatClampNeg) E 6 1 rfl rfl (zw_in3 c_3.1 c_3.2.1) rfl rfl dX1_tryJoin_69 (pc' := 70) rfl ?_
              refine zw_icmp_eq (tgt := 75) E dX1_tryJoin_70 (by decide) (pc' := 73) rfl (fun c_7 => ?_) (fun c_7 => ?_)
              · skip
                refine zw_aload_n (i := 0) (x := al 0) E 0 dX1_tryJoin_75 rfl rfl (pc' := 76) rfl ?_
                refine zw_iload_n (i := 3) (x := nI j) E 3 dX1_tryJoin_76 rfl rfl (pc' := 77) rfl ?_
                refine zw_aload_n (i := 0) (x := al 0) E 0 dX1_tryJoin_77 rfl rfl (pc' := 78) rfl ?_
                refine zw_get (v := .ref (al 2)) E 0 2 iX1_tryJoin_X1 fX1_tryJoin_15 rfl rfl (by decide) rfl rfl dX1_tryJoin_78 (pc' := 81) rfl ?_
                refine zw_iload_n (i := 1) (x := f) E 1 dX1_tryJoin_81 rfl rfl (pc' := 82) rfl ?_
                refine zw_iald (j := f.toNatClampNeg) (x := d.1 1 f.toNatClampNeg) E 2 0 rfl rfl (zw_in3 c_2.1 c_2.2.1) rfl rfl dX1_tryJoin_82 (pc' := 83) rfl ?_
                refine zw_aload_n (i := 0) (x := al 0) E 0 dX1_tryJoin_83 rfl rfl (pc' := 84) rfl ?_
                refine zw_get (v := .ref (al 2)) E 0 2 iX1_tryJoin_X1 fX1_tryJoin_15 rfl rfl (by decide) rfl rfl dX1_tryJoin_84 (pc' := 87) rfl ?_
                refine zw_iload_n (i := 2) (x := h) E 2 dX1_tryJoin_87 rfl rfl (pc' := 88) rfl ?_
                refine zw_iald (j := h.toNatClampNeg) (x := d.1 1 h.toNatClampNeg) E 2 0 rfl rfl (zw_in3 c_3.1 c_3.2.1) rfl rfl dX1_tryJoin_88 (pc' := 89) rfl ?_
                refine zw_iadd E dX1_tryJoin_89 (pc' := 90) rfl ?_
                refine zw_aload_n (i := 0) (x := al 0) E 0 dX1_tryJoin_90 rfl rfl (pc' := 91) rfl ?_
                refine zw_get (v := .ref (al 3)) E 0 3 iX1_tryJoin_X1 fX1_tryJoin_19 rfl rfl (by decide) rfl rfl dX1_tryJoin_91 (pc' := 94) rfl ?_
                refine zw_iload_n (i := 1) (x := f) E 1 dX1_tryJoin_94 rfl rfl (pc' := 95) rfl ?_
                refine zw_iald (j := f.toNatClampNeg) (x := d.1 2 f.toNatClampNeg) E 3 0 rfl rfl (zw_in3 c_2.1 c_2.2.1) rfl rfl dX1_tryJoin_95 (pc' := 96) rfl ?_
                refine zw_aload_n (i := 0) (x := al 0) E 0 dX1_tryJoin_96 rfl rfl (pc' := 97) rfl ?_
                refine zw_get (v := .ref (al 4)) E 0 4 iX1_tryJoin_X1 fX1_tryJoin_22 rfl rfl (by decide) rfl rfl dX1_tryJoin_97 (pc' := 100) rfl ?_
                refine zw_iload_n (i := 1) (x := f) E 1 dX1_tryJoin_100 rfl rfl (pc' := 101) rfl ?_
                refine zw_iald (j := f.toNatClampNeg) (x := d.1 3 f.toNatClampNeg) E 4 0 rfl rfl (zw_in3 c_2.1 c_2.2.1) rfl rfl dX1_tryJoin_101 (pc' := 102) rfl ?_
                refine zw_callIw E (r := 1) (As := [.int (nI j), .int ((d.1 1 f.toNatClampNeg) + (d.1 1 h.toNatClampNeg)), .int (d.1 2 f.toNatClampNeg), .int (d.1 3 f.toNatClampNeg)]) (rest := []) (ws' := (ld_W K al bq (ld_make d j ((d.1 1 f.toNatClampNeg) + (d.1 1 h.toNatClampNeg)) (d.1 2 f.toNatClampNeg) (d.1 3 f.toNatClampNeg)))) (qX1_tryMake l D K al bq d j hj ((d.1 1 f.toNatClampNeg) + (d.1 1 h.toNatClampNeg)) (d.1 2 f.toNatClampNeg) (d.1 3 f.toNatClampNeg)) (cwV 4 E.2.2.2.2.1 gX1_tryJoin_X1_tryMake rfl rfl rfl (by decide +kernel) ⟨Nat.le_of_ble_eq_true rfl, Nat.le_of_ble_eq_true rfl⟩) 0 rfl rfl rfl (ld_ad _ _ _ _ _) rfl rfl (Nat.le_of_ble_eq_true rfl) ⟨Nat.zero_le _, Nat.zero_le _⟩ dX1_tryJoin_102 (pc' := 105) rfl ?_
                refine zw_gen_ld_d (ld_make d j ((d.1 1 f.toNatClampNeg) + (d.1 1 h.toNatClampNeg)) (d.1 2 f.toNatClampNeg) (d.1 3 f.toNatClampNeg)) (fun d_1 hg_1 => ?_)
                refine zw_pop E dX1_tryJoin_105 rfl (pc' := 106) rfl ?_
                refine zw_aload_n (i := 0) (x := al 0) E 0 dX1_tryJoin_106 rfl rfl (pc' := 107) rfl ?_
                refine zw_get (v := .ref (al 6)) E 0 6 iX1_tryJoin_X1 fX1_tryJoin_30 rfl rfl (by decide) rfl rfl dX1_tryJoin_107 (pc' := 110) rfl ?_
                refine zw_iload_n (i := 3) (x := nI j) E 3 dX1_tryJoin_110 rfl rfl (pc' := 111) rfl ?_
                refine zw_aload_n (i := 0) (x := al 0) E 0 dX1_tryJoin_111 rfl rfl (pc' := 112) rfl ?_
                refine zw_get (v := .ref (al 6)) E 0 6 iX1_tryJoin_X1 fX1_tryJoin_30 rfl rfl (by decide) rfl rfl dX1_tryJoin_112 (pc' := 115) rfl ?_
                refine zw_iload_n (i := 1) (x := f) E 1 dX1_tryJoin_115 rfl rfl (pc' := 116) rfl ?_
                refine zw_zald (j := f.toNatClampNeg) (x := d_1.1 4 f.toNatClampNeg) E 6 1 rfl rfl (zw_in3 c_2.1 c_2.2.1) rfl rfl dX1_tryJoin_116 (pc' := 117) rfl ?_
                refine zw_zast (j := j) (ws' := (ld_W K al bq (ld_row d_1 4 j (vp_nar .boolean (d_1.1 4 f.toNatClampNeg))))) E 6 1 rfl rfl (vp_in_nI hj (by decide)) (zw_clamp hj (by decide)) rfl dX1_tryJoin_117 (pc' := 118) rfl ?_
                refine zw_gen_ld_d (ld_row d_1 4 j (vp_nar .boolean (d_1.1 4 f.toNatClampNeg))) (fun d_2 hg_2 => ?_)
                refine zw_iconst (v := 0) E dX1_tryJoin_118 (by decide) (pc' := 119) rfl ?_
                refine zw_istore (lv' := [(4, .int 0), (0, .ref (al 0)), (1, .int f), (2, .int h), (3, .int (nI j))]) E dX1_tryJoin_119 (by decide) rfl (pc' := 121) rfl ?_
                refine zw_iload (x := 0) E 0 dX1_tryJoin_121 rfl (pc' := 123) rfl ?_
                refine zw_iconst (v := 3) E dX1_tryJoin_123 (by decide) (pc' := 124) rfl ?_
                refine zw_icmp_ge (tgt := 161) E dX1_tryJoin_124 (by decide) (pc' := 127) rfl (fun c9 => absurd c9 (by decide)) (fun _ => ?_)
                refine zw_aload_n (i := 0) (x := al 0) E 1 dX1_tryJoin_127 rfl rfl (pc' := 128) rfl ?_
                refine zw_get (v := .ref (al 5)) E 0 5 iX1_tryJoin_X1 fX1_tryJoin_27 rfl rfl (by decide) rfl rfl dX1_tryJoin_128 (pc' := 131) rfl ?_
                refine zw_iload (x := 0) E 0 dX1_tryJoin_131 rfl (pc' := 133) rfl ?_
                refine zw_aald (j := 0) (b := al 11) E 5 3 rfl rfl (vp_in_nI (n := 0) (N := 3) (by decide) (by decide)) rfl rfl dX1_tryJoin_133 (pc' := 134) rfl ?_
                refine zw_iload_n (i := 3) (x := nI j) E 4 dX1_tryJoin_134 rfl rfl (pc' := 135) rfl ?_
                refine zw_aload_n (i := 0) (x := al 0) E 1 dX1_tryJoin_135 rfl rfl (pc' := 136) rfl ?_
                refine zw_get (v := .ref (al 5)) E 0 5 iX1_tryJoin_X1 fX1_tryJoin_27 rfl rfl (by decide) rfl rfl dX1_tryJoin_136 (pc' := 139) rfl ?_
                refine zw_iload (x := 0) E 0 dX1_tryJoin_139 rfl (pc' := 141) rfl ?_
                refine zw_aald (j := 0) (b := al 11) E 5 3 rfl rfl (vp_in_nI (n := 0) (N := 3) (by decide) (by decide)) rfl rfl dX1_tryJoin_141 (pc' := 142) rfl ?_
                refine zw_iload_n (i := 1) (x := f) E 2 dX1_tryJoin_142 rfl rfl (pc' := 143) rfl ?_
                refine zw_iald (j := f.toNatClampNeg) (x := d_2.1 7 f.toNatClampNeg) E 11 0 rfl rfl (zw_in3 c_2.1 c_2.2.1) rfl rfl dX1_tryJoin_143 (pc' := 144) rfl ?_
                refine zw_aload_n (i := 0) (x := al 0) E 1 dX1_tryJoin_144 rfl rfl (pc' := 145) rfl ?_
                refine zw_get (v := .ref (al 5)) E 0 5 iX1_tryJoin_X1 fX1_tryJoin_27 rfl rfl (by decide) rfl rfl dX1_tryJoin_145 (pc' := 148) rfl ?_
                refine zw_iload (x := 0) E 0 dX1_tryJoin_148 rfl (pc' := 150) rfl ?_
                refine zw_aald (j := 0) (b := al 11) E 5 3 rfl rfl (vp_in_nI (n := 0) (N := 3) (by decide) (by decide)) rfl rfl dX1_tryJoin_150 (pc' := 151) rfl ?_
                refine zw_iload_n (i := 2) (x := h) E 3 dX1_tryJoin_151 rfl rfl (pc' := 152) rfl ?_
                refine zw_iald (j := h.toNatClampNeg) (x := d_2.1 7 h.toNatClampNeg) E 11 0 rfl rfl (zw_in3 c_3.1 c_3.2.1) rfl rfl dX1_tryJoin_152 (pc' := 153) rfl ?_
                refine zw_iadd E dX1_tryJoin_153 (pc' := 154) rfl ?_
                refine zw_iast (j := j) (ws' := (ld_W K al bq (ld_row d_2 7 j ((d_2.1 7 f.toNatClampNeg) + (d_2.1 7 h.toNatClampNeg))))) E 11 0 rfl rfl (vp_in_nI hj (by decide)) (zw_clamp hj (by decide)) rfl dX1_tryJoin_154 (pc' := 155) rfl ?_
                refine zw_gen_ld_d (ld_row d_2 7 j ((d_2.1 7 f.toNatClampNeg) + (d_2.1 7 h.toNatClampNeg))) (fun d_3 hg_3 => ?_)
                refine zw_iinc (x := 0) (v := 1) (lv' := [(4, .int 1), (0, .ref (al 0)), (1, .int f), (2, .int h), (3, .int (nI j))]) E 0 dX1_tryJoin_155 rfl (by decide) (by decide) rfl (pc' := 158) rfl ?_
                refine zw_goto (tgt := 121) E dX1_tryJoin_158 (by decide) ?_
                refine zw_iload (x := 1) E 0 dX1_tryJoin_121 rfl (pc' := 123) rfl ?_
                refine zw_iconst (v := 3) E dX1_tryJoin_123 (by decide) (pc' := 124) rfl ?_
                refine zw_icmp_ge (tgt := 161) E dX1_tryJoin_124 (by decide) (pc' := 127) rfl (fun c9 => absurd c9 (by decide)) (fun _ => ?_)
                refine zw_aload_n (i := 0) (x := al 0) E 1 dX1_tryJoin_127 rfl rfl (pc' := 128) rfl ?_
                refine zw_get (v := .ref (al 5)) E 0 5 iX1_tryJoin_X1 fX1_tryJoin_27 rfl rfl (by decide) rfl rfl dX1_tryJoin_128 (pc' := 131) rfl ?_
                refine zw_iload (x := 1) E 0 dX1_tryJoin_131 rfl (pc' := 133) rfl ?_
                refine zw_aald (j := 1) (b := al 12) E 5 3 rfl rfl (vp_in_nI (n := 1) (N := 3) (by decide) (by decide)) rfl rfl dX1_tryJoin_133 (pc' := 134) rfl ?_
                refine zw_iload_n (i := 3) (x := nI j) E 4 dX1_tryJoin_134 rfl rfl (pc' := 135) rfl ?_
                refine zw_aload_n (i := 0) (x := al 0) E 1 dX1_tryJoin_135 rfl rfl (pc' := 136) rfl ?_
                refine zw_get (v := .ref (al 5)) E 0 5 iX1_tryJoin_X1 fX1_tryJoin_27 rfl rfl (by decide) rfl rfl dX1_tryJoin_136 (pc' := 139) rfl ?_
                refine zw_iload (x := 1) E 0 dX1_tryJoin_139 rfl (pc' := 141) rfl ?_
                refine zw_aald (j := 1) (b := al 12) E 5 3 rfl rfl (vp_in_nI (n := 1) (N := 3) (by decide) (by decide)) rfl rfl dX1_tryJoin_141 (pc' := 142) rfl ?_
                refine zw_iload_n (i := 1) (x := f) E 2 dX1_tryJoin_142 rfl rfl (pc' := 143) rfl ?_
                refine zw_iald (j := f.toNatClampNeg) (x := d_3.1 8 f.toNatClampNeg) E 12 0 rfl rfl (zw_in3 c_2.1 c_2.2.1) rfl rfl dX1_tryJoin_143 (pc' := 144) rfl ?_
                refine zw_aload_n (i := 0) (x := al 0) E 1 dX1_tryJoin_144 rfl rfl (pc' := 145) rfl ?_
                refine zw_get (v := .ref (al 5)) E 0 5 iX1_tryJoin_X1 fX1_tryJoin_27 rfl rfl (by decide) rfl rfl dX1_tryJoin_145 (pc' := 148) rfl ?_
                refine zw_iload (x := 1) E 0 dX1_tryJoin_148 rfl (pc' := 150) rfl ?_
                refine zw_aald (j := 1) (b := al 12) E 5 3 rfl rfl (vp_in_nI (n := 1) (N := 3) (by decide) (by decide)) rfl rfl dX1_tryJoin_150 (pc' := 151) rfl ?_
                refine zw_iload_n (i := 2) (x := h) E 3 dX1_tryJoin_151 rfl rfl (pc' := 152) rfl ?_
                refine zw_iald (j := h.toNatClampNeg) (x := d_3.1 8 h.toNatClampNeg) E 12 0 rfl rfl (zw_in3 c_3.1 c_3.2.1) rfl rfl dX1_tryJoin_152 (pc' := 153) rfl ?_
                refine zw_iadd E dX1_tryJoin_153 (pc' := 154) rfl ?_
                refine zw_iast (j := j) (ws' := (ld_W K al bq (ld_row d_3 8 j ((d_3.1 8 f.toNatClampNeg) + (d_3.1 8 h.toNatClampNeg))))) E 12 0 rfl rfl (vp_in_nI hj (by decide)) (zw_clamp hj (by decide)) rfl dX1_tryJoin_154 (pc' := 155) rfl ?_
                refine zw_gen_ld_d (ld_row d_3 8 j ((d_3.1 8 f.toNatClampNeg) + (d_3.1 8 h.toNatClampNeg))) (fun d_4 hg_4 => ?_)
                refine zw_iinc (x := 1) (v := 2) (lv' := [(4, .int 2), (0, .ref (al 0)), (1, .int f), (2, .int h), (3, .int (nI j))]) E 0 dX1_tryJoin_155 rfl (by decide) (by decide) rfl (pc' := 158) rfl ?_
                refine zw_goto (tgt := 121) E dX1_tryJoin_158 (by decide) ?_
                refine zw_iload (x := 2) E 0 dX1_tryJoin_121 rfl (pc' := 123) rfl ?_
                refine zw_iconst (v := 3) E dX1_tryJoin_123 (by decide) (pc' := 124) rfl ?_
                refine zw_icmp_ge (tgt := 161) E dX1_tryJoin_124 (by decide) (pc' := 127) rfl (fun c9 => absurd c9 (by decide)) (fun _ => ?_)
                refine zw_aload_n (i := 0) (x := al 0) E 1 dX1_tryJoin_127 rfl rfl (pc' := 128) rfl ?_
                refine zw_get (v := .ref (al 5)) E 0 5 iX1_tryJoin_X1 fX1_tryJoin_27 rfl rfl (by decide) rfl rfl dX1_tryJoin_128 (pc' := 131) rfl ?_
                refine zw_iload (x := 2) E 0 dX1_tryJoin_131 rfl (pc' := 133) rfl ?_
                refine zw_aald (j := 2) (b := al 13) E 5 3 rfl rfl (vp_in_nI (n := 2) (N := 3) (by decide) (by decide)) rfl rfl dX1_tryJoin_133 (pc' := 134) rfl ?_
                refine zw_iload_n (i := 3) (x := nI j) E 4 dX1_tryJoin_134 rfl rfl (pc' := 135) rfl ?_
                refine zw_aload_n (i := 0) (x := al 0) E 1 dX1_tryJoin_135 rfl rfl (pc' := 136) rfl ?_
                refine zw_get (v := .ref (al 5)) E 0 5 iX1_tryJoin_X1 fX1_tryJoin_27 rfl rfl (by decide) rfl rfl dX1_tryJoin_136 (pc' := 139) rfl ?_
                refine zw_iload (x := 2) E 0 dX1_tryJoin_139 rfl (pc' := 141) rfl ?_
                refine zw_aald (j := 2) (b := al 13) E 5 3 rfl rfl (vp_in_nI (n := 2) (N := 3) (by decide) (by decide)) rfl rfl dX1_tryJoin_141 (pc' := 142) rfl ?_
                refine zw_iload_n (i := 1) (x := f) E 2 dX1_tryJoin_142 rfl rfl (pc' := 143) rfl ?_
                refine zw_iald (j := f.toNatClampNeg) (x := d_4.1 9 f.toNatClampNeg) E 13 0 rfl rfl (zw_in3 c_2.1 c_2.2.1) rfl rfl dX1_tryJoin_143 (pc' := 144) rfl ?_
                refine zw_aload_n (i := 0) (x := al 0) E 1 dX1_tryJoin_144 rfl rfl (pc' := 145) rfl ?_
                refine zw_get (v := .ref (al 5)) E 0 5 iX1_tryJoin_X1 fX1_tryJoin_27 rfl rfl (by decide) rfl rfl dX1_tryJoin_145 (pc' := 148) rfl ?_
                refine zw_iload (x := 2) E 0 dX1_tryJoin_148 rfl (pc' := 150) rfl ?_
                refine zw_aald (j := 2) (b := al 13) E 5 3 rfl rfl (vp_in_nI (n := 2) (N := 3) (by decide) (by decide)) rfl rfl dX1_tryJoin_150 (pc' := 151) rfl ?_
                refine zw_iload_n (i := 2) (x := h) E 3 dX1_tryJoin_151 rfl rfl (pc' := 152) rfl ?_
                refine zw_iald (j := h.toNatClampNeg) (x := d_4.1 9 h.toNatClampNeg) E 13 0 rfl rfl (zw_in3 c_3.1 c_3.2.1) rfl rfl dX1_tryJoin_152 (pc' := 153) rfl ?_
                refine zw_iadd E dX1_tryJoin_153 (pc' := 154) rfl ?_
                refine zw_iast (j := j) (ws' := (ld_W K al bq (ld_row d_4 9 j ((d_4.1 9 f.toNatClampNeg) + (d_4.1 9 h.toNatClampNeg))))) E 13 0 rfl rfl (vp_in_nI hj (by decide)) (zw_clamp hj (by decide)) rfl dX1_tryJoin_154 (pc' := 155) rfl ?_
                refine zw_gen_ld_d (ld_row d_4 9 j ((d_4.1 9 f.toNatClampNeg) + (d_4.1 9 h.toNatClampNeg))) (fun d_5 hg_5 => ?_)
                refine zw_iinc (x := 2) (v := 3) (lv' := [(4, .int 3), (0, .ref (al 0)), (1, .int f), (2, .int h), (3, .int (nI j))]) E 0 dX1_tryJoin_155 rfl (by decide) (by decide) rfl (pc' := 158) rfl ?_
                refine zw_goto (tgt := 121) E dX1_tryJoin_158 (by decide) ?_
                refine zw_iload (x := 3) E 0 dX1_tryJoin_121 rfl (pc' := 123) rfl ?_
                refine zw_iconst (v := 3) E dX1_tryJoin_123 (by decide) (pc' := 124) rfl ?_
                refine zw_icmp_ge (tgt := 161) E dX1_tryJoin_124 (by decide) (pc' := 127) rfl (fun _ => ?_) (fun c9 => absurd (by decide) c9)
                refine zw_aload_n (i := 0) (x := al 0) E 1 dX1_tryJoin_161 rfl rfl (pc' := 162) rfl ?_
                refine zw_get (v := .ref (al 1)) E 0 1 iX1_tryJoin_X1 fX1_tryJoin_9 rfl rfl (by decide) rfl rfl dX1_tryJoin_162 (pc' := 165) rfl ?_
                refine zw_iload_n (i := 1) (x := f) E 2 dX1_tryJoin_165 rfl rfl (pc' := 166) rfl ?_
                refine zw_iconst (v := 0) E dX1_tryJoin_166 (by decide) (pc' := 167) rfl ?_
                refine zw_zast (j := f.toNatClampNeg) (ws' := (ld_W K al bq (ld_row d_5 0 f.toNatClampNeg 0))) E 1 1 rfl rfl (zw_in3 c_2.1 c_2.2.1) rfl rfl dX1_tryJoin_167 (pc' := 168) rfl ?_
                refine zw_gen_ld_d (ld_row d_5 0 f.toNatClampNeg 0) (fun d_6 hg_6 => ?_)
                refine zw_aload_n (i := 0) (x := al 0) E 1 dX1_tryJoin_168 rfl rfl (pc' := 169) rfl ?_
                refine zw_get (v := .ref (al 1)) E 0 1 iX1_tryJoin_X1 fX1_tryJoin_9 rfl rfl (by decide) rfl rfl dX1_tryJoin_169 (pc' := 172) rfl ?_
                refine zw_iload_n (i := 2) (x := h) E 3 dX1_tryJoin_172 rfl rfl (pc' := 173) rfl ?_
                refine zw_iconst (v := 0) E dX1_tryJoin_173 (by decide) (pc' := 174) rfl ?_
                refine zw_zast (j := h.toNatClampNeg) (ws' := (ld_W K al bq (ld_row d_6 0 h.toNatClampNeg 0))) E 1 1 rfl rfl (zw_in3 c_3.1 c_3.2.1) rfl rfl dX1_tryJoin_174 (pc' := 175) rfl ?_
                refine zw_gen_ld_d (ld_row d_6 0 h.toNatClampNeg 0) (fun d_7 hg_7 => ?_)
                refine zw_iconst (v := 1) E dX1_tryJoin_175 (by decide) (pc' := 176) rfl ?_
                exact zw_zret E hr hlk dX1_tryJoin_176 rfl (by unfold r_join; rw [if_neg c_1, if_pos c_2, if_pos c_3, if_pos c_5, if_pos c_6, if_pos c_7]) (by unfold d_join; rw [if_neg c_1, if_pos c_2, if_pos c_3, if_pos c_5, if_pos c_6, if_pos c_7]; unfold ld_join ld_join2; rw [hg_1, show p_b1 d_1 f.toNatClampNeg j = d_2 from hg_2, show j_c d_2 7 f.toNatClampNeg h.toNatClampNeg j = d_3 from hg_3, show j_c d_3 8 f.toNatClampNeg h.toNatClampNeg j = d_4 from hg_4, show j_c d_4 9 f.toNatClampNeg h.toNatClampNeg j = d_5 from hg_5, hg_6, hg_7])
              · skip
                refine zw_iconst (v := 0) E dX1_tryJoin_73 (by decide) (pc' := 74) rfl ?_
                exact zw_zret E hr hlk dX1_tryJoin_74 rfl (by unfold r_join; rw [if_neg c_1, if_pos c_2, if_pos c_3, if_pos c_5, if_pos c_6, if_neg c_7]) (by unfold d_join; rw [if_neg c_1, if_pos c_2, if_pos c_3, if_pos c_5, if_pos c_6, if_neg c_7])
