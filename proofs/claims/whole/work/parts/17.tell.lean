/-! the land: worthByMeans, worth, worthOfAll, tell, howMany, sumOf, isOtherwise -/
def w_money (d : Ld) (i : Nat) : Int64 := (0 + (d.1 7 i).toInt64 * (d.1 6 0).toInt64 + (d.1 8 i).toInt64 * (d.1 6 1).toInt64 + (d.1 9 i).toInt64 * (d.1 6 2).toInt64 + 50) / 100
theorem kX1_worthByMeans_154 : Cond.constantLong RX1 154 (50) ∈ wsX1_worthByMeans := by decide +kernel
theorem kX1_worthByMeans_156 : Cond.constantLong RX1 156 (100) ∈ wsX1_worthByMeans := by decide +kernel
theorem fX1_worthByMeans_27 : Cond.fieldLink RX1 27 "TitheMap$Land" "charge" "[[I" ∈ wsX1_worthByMeans := by decide +kernel
theorem fX1_worthByMeans_43 : Cond.fieldLink RX1 43 "TitheMap$Land" "means" "[I" ∈ wsX1_worthByMeans := by decide +kernel
theorem iX1_worthByMeans_X1 : ∀ w ∈ wsX10, w ∈ wsX1_worthByMeans := by decide +kernel
set_option maxHeartbeats 4000000 in
set_option maxRecDepth 100000 in
/-- worthByMeans(f) -/
theorem qX1_worthByMeans (l : Launch) (D : va_G) (K : Nat → ClassId) (al : Nat → Nat) (bq : Nat) (d : Ld) (f : Int32) (i : Nat) (hf : 0 ≤ f ∧ f < 60) (hi : f.toNatClampNeg = i) : zw_L l yX1_worthByMeans wsX1_worthByMeans rmX1_worthByMeans D (zT K) [.ref (al 0), .int f] (ld_W K al bq d) (w_money d i) (ld_W K al bq d) := by
  refine zw_ofL (cc := cX1_worthByMeans) (nL := 5) (ret := (some .long)) (own := RX1) (lv := [(0, .ref (al 0)), (1, .int f)]) (by decide) rfl (Nat.le_of_ble_eq_true rfl) rfl rfl ?_
  intro p e s m below meth c A E hr hlk
  refine zw_lconst (v := 0) E dX1_worthByMeans_0 (by decide) (pc' := 1) rfl ?_
  refine zw_lstore_n (lv' := [(2, .long 0), (0, .ref (al 0)), (1, .int f)]) E dX1_worthByMeans_1 rfl (by decide) rfl (pc' := 2) rfl ?_
  refine zw_iconst (v := 0) E dX1_worthByMeans_2 (by decide) (pc' := 3) rfl ?_
  refine zw_istore (lv' := [(4, .int 0), (2, .long 0), (0, .ref (al 0)), (1, .int f)]) E dX1_worthByMeans_3 (by decide) rfl (pc' := 5) rfl ?_
  refine zw_iload (x := 0) E 0 dX1_worthByMeans_5 rfl (pc' := 7) rfl ?_
  refine zw_iconst (v := 3) E dX1_worthByMeans_7 (by decide) (pc' := 8) rfl ?_
  refine zw_icmp_ge (tgt := 46) E dX1_worthByMeans_8 (by decide) (pc' := 11) rfl (fun c9 => absurd c9 (by decide)) (fun _ => ?_)
  refine zw_iload_n (i := 1) (x := f) E 3 dX1_worthByMeans_11 rfl rfl (pc' := 12) rfl ?_
  refine zw_callIs E (r := zb (0 ≤ f ∧ f < 60)) (As := [.int f]) (rest := []) (ws' := (ld_W K al bq d)) (qX1_isNumber l D K f) (va_cwS 1 E.2.2.2.2.1 gX1_worthByMeans_X1_isNumber rfl rfl rfl (by decide +kernel) ⟨Nat.le_of_ble_eq_true rfl, Nat.le_of_ble_eq_true rfl⟩) [] (by decide) rfl rfl (zw_put_same _ _ _ rfl) rfl rfl (Nat.le_of_ble_eq_true rfl) ⟨Nat.zero_le _, Nat.zero_le _⟩ dX1_worthByMeans_12 (pc' := 15) rfl ?_
  refine zw_ifb_eq (tgt := 46) E dX1_worthByMeans_15 (by decide) (pc' := 18) rfl (fun c_1 => ?_) (fun c_1 => ?_)
  · exact absurd hf c_1
  · skip
    refine zw_lload_n (i := 2) (x := 0) E 1 dX1_worthByMeans_18 rfl rfl (pc' := 19) rfl ?_
    refine zw_aload_n (i := 0) (x := al 0) E 2 dX1_worthByMeans_19 rfl rfl (pc' := 20) rfl ?_
    refine zw_get (v := .ref (al 5)) E 0 5 iX1_worthByMeans_X1 fX1_worthByMeans_27 rfl rfl (by decide) rfl rfl dX1_worthByMeans_20 (pc' := 23) rfl ?_
    refine zw_iload (x := 0) E 0 dX1_worthByMeans_23 rfl (pc' := 25) rfl ?_
    refine zw_aald (j := 0) (b := al 11) E 5 3 rfl rfl (vp_in_nI (n := 0) (N := 3) (by decide) (by decide)) rfl rfl dX1_worthByMeans_25 (pc' := 26) rfl ?_
    refine zw_iload_n (i := 1) (x := f) E 3 dX1_worthByMeans_26 rfl rfl (pc' := 27) rfl ?_
    refine zw_iald (j := i) (x := d.1 7 i) E 11 0 rfl rfl (zw_in3 hf.1 hf.2) hi rfl dX1_worthByMeans_27 (pc' := 28) rfl ?_
    refine zw_i2l E dX1_worthByMeans_28 (pc' := 29) rfl ?_
    refine zw_aload_n (i := 0) (x := al 0) E 2 dX1_worthByMeans_29 rfl rfl (pc' := 30) rfl ?_
    refine zw_get (v := .ref (al 10)) E 0 10 iX1_worthByMeans_X1 fX1_worthByMeans_43 rfl rfl (by decide) rfl rfl dX1_worthByMeans_30 (pc' := 33) rfl ?_
    refine zw_iload (x := 0) E 0 dX1_worthByMeans_33 rfl (pc' := 35) rfl ?_
    refine zw_iald (j := 0) (x := d.1 6 0) E 10 0 rfl rfl (vp_in_nI (n := 0) (N := 3) (by decide) (by decide)) rfl rfl dX1_worthByMeans_35 (pc' := 36) rfl ?_
    refine zw_i2l E dX1_worthByMeans_36 (pc' := 37) rfl ?_
    refine zw_lmul E dX1_worthByMeans_37 (pc' := 38) rfl ?_
    refine zw_ladd E dX1_worthByMeans_38 (pc' := 39) rfl ?_
    refine zw_lstore_n (lv' := [(2, .long (0 + (((d.1 7 i).toInt64) * ((d.1 6 0).toInt64)))), (4, .int 0), (0, .ref (al 0)), (1, .int f)]) E dX1_worthByMeans_39 rfl (by decide) rfl (pc' := 40) rfl ?_
    refine zw_iinc (x := 0) (v := 1) (lv' := [(4, .int 1), (2, .long (0 + (((d.1 7 i).toInt64) * ((d.1 6 0).toInt64)))), (0, .ref (al 0)), (1, .int f)]) E 1 dX1_worthByMeans_40 rfl (by decide) (by decide) rfl (pc' := 43) rfl ?_
    refine zw_goto (tgt := 5) E dX1_worthByMeans_43 (by decide) ?_
    refine zw_iload (x := 1) E 0 dX1_worthByMeans_5 rfl (pc' := 7) rfl ?_
    refine zw_iconst (v := 3) E dX1_worthByMeans_7 (by decide) (pc' := 8) rfl ?_
    refine zw_icmp_ge (tgt := 46) E dX1_worthByMeans_8 (by decide) (pc' := 11) rfl (fun c9 => absurd c9 (by decide)) (fun _ => ?_)
    refine zw_iload_n (i := 1) (x := f) E 3 dX1_worthByMeans_11 rfl rfl (pc' := 12) rfl ?_
    refine zw_callIs E (r := zb (0 ≤ f ∧ f < 60)) (As := [.int f]) (rest := []) (ws' := (ld_W K al bq d)) (qX1_isNumber l D K f) (va_cwS 1 E.2.2.2.2.1 gX1_worthByMeans_X1_isNumber rfl rfl rfl (by decide +kernel) ⟨Nat.le_of_ble_eq_true rfl, Nat.le_of_ble_eq_true rfl⟩) [] (by decide) rfl rfl (zw_put_same _ _ _ rfl) rfl rfl (Nat.le_of_ble_eq_true rfl) ⟨Nat.zero_le _, Nat.zero_le _⟩ dX1_worthByMeans_12 (pc' := 15) rfl ?_
    refine zw_ifb_eq (tgt := 46) E dX1_worthByMeans_15 (by decide) (pc' := 18) rfl (fun c_2 => ?_) (fun c_2 => ?_)
    · exact absurd hf c_2
    · skip
      refine zw_lload_n (i := 2) (x := 0 + (((d.1 7 i).toInt64) * ((d.1 6 0).toInt64))) E 1 dX1_worthByMeans_18 rfl rfl (pc' := 19) rfl ?_
      refine zw_aload_n (i := 0) (x := al 0) E 2 dX1_worthByMeans_19 rfl rfl (pc' := 20) rfl ?_
      refine zw_get (v := .ref (al 5)) E 0 5 iX1_worthByMeans_X1 fX1_worthByMeans_27 rfl rfl (by decide) rfl rfl dX1_worthByMeans_20 (pc' := 23) rfl ?_
      refine zw_iload (x := 1) E 0 dX1_worthByMeans_23 rfl (pc' := 25) rfl ?_
      refine zw_aald (j := 1) (b := al 12) E 5 3 rfl rfl (vp_in_nI (n := 1) (N := 3) (by decide) (by decide)) rfl rfl dX1_worthByMeans_25 (pc' := 26) rfl ?_
      refine zw_iload_n (i := 1) (x := f) E 3 dX1_worthByMeans_26 rfl rfl (pc' := 27) rfl ?_
      refine zw_iald (j := i) (x := d.1 8 i) E 12 0 rfl rfl (zw_in3 hf.1 hf.2) hi rfl dX1_worthByMeans_27 (pc' := 28) rfl ?_
      refine zw_i2l E dX1_worthByMeans_28 (pc' := 29) rfl ?_
      refine zw_aload_n (i := 0) (x := al 0) E 2 dX1_worthByMeans_29 rfl rfl (pc' := 30) rfl ?_
      refine zw_get (v := .ref (al 10)) E 0 10 iX1_worthByMeans_X1 fX1_worthByMeans_43 rfl rfl (by decide) rfl rfl dX1_worthByMeans_30 (pc' := 33) rfl ?_
      refine zw_iload (x := 1) E 0 dX1_worthByMeans_33 rfl (pc' := 35) rfl ?_
      refine zw_iald (j := 1) (x := d.1 6 1) E 10 0 rfl rfl (vp_in_nI (n := 1) (N := 3) (by decide) (by decide)) rfl rfl dX1_worthByMeans_35 (pc' := 36) rfl ?_
      refine zw_i2l E dX1_worthByMeans_36 (pc' := 37) rfl ?_
      refine zw_lmul E dX1_worthByMeans_37 (pc' := 38) rfl ?_
      refine zw_ladd E dX1_worthByMeans_38 (pc' := 39) rfl ?_
      refine zw_lstore_n (lv' := [(2, .long ((0 + (((d.1 7 i).toInt64) * ((d.1 6 0).toInt64))) + (((d.1 8 i).toInt64) * ((d.1 6 1).toInt64)))), (4, .int 1), (0, .ref (al 0)), (1, .int f)]) E dX1_worthByMeans_39 rfl (by decide) rfl (pc' := 40) rfl ?_
      refine zw_iinc (x := 1) (v := 2) (lv' := [(4, .int 2), (2, .long ((0 + (((d.1 7 i).toInt64) * ((d.1 6 0).toInt64))) + (((d.1 8 i).toInt64) * ((d.1 6 1).toInt64)))), (0, .ref (al 0)), (1, .int f)]) E 1 dX1_worthByMeans_40 rfl (by decide) (by decide) rfl (pc' := 43) rfl ?_
      refine zw_goto (tgt := 5) E dX1_worthByMeans_43 (by decide) ?_
      refine zw_iload (x := 2) E 0 dX1_worthByMeans_5 rfl (pc' := 7) rfl ?_
      refine zw_iconst (v := 3) E dX1_worthByMeans_7 (by decide) (pc' := 8) rfl ?_
      refine zw_icmp_ge (tgt := 46) E dX1_worthByMeans_8 (by decide) (pc' := 11) rfl (fun c9 => absurd c9 (by decide)) (fun _ => ?_)
      refine zw_iload_n (i := 1) (x := f) E 3 dX1_worthByMeans_11 rfl rfl (pc' := 12) rfl ?_
      refine zw_callIs E (r := zb (0 ≤ f ∧ f < 60)) (As := [.int f]) (rest := []) (ws' := (ld_W K al bq d)) (qX1_isNumber l D K f) (va_cwS 1 E.2.2.2.2.1 gX1_worthByMeans_X1_isNumber rfl rfl rfl (by decide +kernel) ⟨Nat.le_of_ble_eq_true rfl, Nat.le_of_ble_eq_true rfl⟩) [] (by decide) rfl rfl (zw_put_same _ _ _ rfl) rfl rfl (Nat.le_of_ble_eq_true rfl) ⟨Nat.zero_le _, Nat.zero_le _⟩ dX1_worthByMeans_12 (pc' := 15) rfl ?_
      refine zw_ifb_eq (tgt := 46) E dX1_worthByMeans_15 (by decide) (pc' := 18) rfl (fun c_3 => ?_) (fun c_3 => ?_)
      · exact absurd hf c_3
      · skip
        refine zw_lload_n (i := 2) (x := (0 + (((d.1 7 i).toInt64) * ((d.1 6 0).toInt64))) + (((d.1 8 i).toInt64) * ((d.1 6 1).toInt64))) E 1 dX1_worthByMeans_18 rfl rfl (pc' := 19) rfl ?_
        refine zw_aload_n (i := 0) (x := al 0) E 2 dX1_worthByMeans_19 rfl rfl (pc' := 20) rfl ?_
        refine zw_get (v := .ref (al 5)) E 0 5 iX1_worthByMeans_X1 fX1_worthByMeans_27 rfl rfl (by decide) rfl rfl dX1_worthByMeans_20 (pc' := 23) rfl ?_
        refine zw_iload (x := 2) E 0 dX1_worthByMeans_23 rfl (pc' := 25) rfl ?_
        refine zw_aald (j := 2) (b := al 13) E 5 3 rfl rfl (vp_in_nI (n := 2) (N := 3) (by decide) (by decide)) rfl rfl dX1_worthByMeans_25 (pc' := 26) rfl ?_
        refine zw_iload_n (i := 1) (x := f) E 3 dX1_worthByMeans_26 rfl rfl (pc' := 27) rfl ?_
        refine zw_iald (j := i) (x := d.1 9 i) E 13 0 rfl rfl (zw_in3 hf.1 hf.2) hi rfl dX1_worthByMeans_27 (pc' := 28) rfl ?_
        refine zw_i2l E dX1_worthByMeans_28 (pc' := 29) rfl ?_
        refine zw_aload_n (i := 0) (x := al 0) E 2 dX1_worthByMeans_29 rfl rfl (pc' := 30) rfl ?_
        refine zw_get (v := .ref (al 10)) E 0 10 iX1_worthByMeans_X1 fX1_worthByMeans_43 rfl rfl (by decide) rfl rfl dX1_worthByMeans_30 (pc' := 33) rfl ?_
        refine zw_iload (x := 2) E 0 dX1_worthByMeans_33 rfl (pc' := 35) rfl ?_
        refine zw_iald (j := 2) (x := d.1 6 2) E 10 0 rfl rfl (vp_in_nI (n := 2) (N := 3) (by decide) (by decide)) rfl rfl dX1_worthByMeans_35 (pc' := 36) rfl ?_
        refine zw_i2l E dX1_worthByMeans_36 (pc' := 37) rfl ?_
        refine zw_lmul E dX1_worthByMeans_37 (pc' := 38) rfl ?_
        refine zw_ladd E dX1_worthByMeans_38 (pc' := 39) rfl ?_
        refine zw_lstore_n (lv' := [(2, .long (((0 + (((d.1 7 i).toInt64) * ((d.1 6 0).toInt64))) + (((d.1 8 i).toInt64) * ((d.1 6 1).toInt64))) + (((d.1 9 i).toInt64) * ((d.1 6 2).toInt64)))), (4, .int 2), (0, .ref (al 0)), (1, .int f)]) E dX1_worthByMeans_39 rfl (by decide) rfl (pc' := 40) rfl ?_
        refine zw_iinc (x := 2) (v := 3) (lv' := [(4, .int 3), (2, .long (((0 + (((d.1 7 i).toInt64) * ((d.1 6 0).toInt64))) + (((d.1 8 i).toInt64) * ((d.1 6 1).toInt64))) + (((d.1 9 i).toInt64) * ((d.1 6 2).toInt64)))), (0, .ref (al 0)), (1, .int f)]) E 1 dX1_worthByMeans_40 rfl (by decide) (by decide) rfl (pc' := 43) rfl ?_
        refine zw_goto (tgt := 5) E dX1_worthByMeans_43 (by decide) ?_
        refine zw_iload (x := 3) E 0 dX1_worthByMeans_5 rfl (pc' := 7) rfl ?_
        refine zw_iconst (v := 3) E dX1_worthByMeans_7 (by decide) (pc' := 8) rfl ?_
        refine zw_icmp_ge (tgt := 46) E dX1_worthByMeans_8 (by decide) (pc' := 11) rfl (fun _ => ?_) (fun c9 => absurd (by decide) c9)
        refine zw_lload_n (i := 2) (x := ((0 + (((d.1 7 i).toInt64) * ((d.1 6 0).toInt64))) + (((d.1 8 i).toInt64) * ((d.1 6 1).toInt64))) + (((d.1 9 i).toInt64) * ((d.1 6 2).toInt64))) E 1 dX1_worthByMeans_46 rfl rfl (pc' := 47) rfl ?_
        refine zw_ldc2 (v := 50) E dX1_worthByMeans_47 kX1_worthByMeans_154 (pc' := 50) rfl ?_
        refine zw_ladd E dX1_worthByMeans_50 (pc' := 51) rfl ?_
        refine zw_ldc2 (v := 100) E dX1_worthByMeans_51 kX1_worthByMeans_156 (pc' := 54) rfl ?_
        refine zw_ldiv E dX1_worthByMeans_54 (by decide) (pc' := 55) rfl ?_
        exact zw_lret E hr hlk dX1_worthByMeans_55 rfl rfl

def r_worth (d : Ld) (b : Bk) (kn : Nat) (y f : Int32) : Int64 := if is_there d f then if means_known b kn y then w_money (ld_means d b kn y) f.toNatClampNeg else -1 else -1
def d_worth (d : Ld) (b : Bk) (kn : Nat) (y f : Int32) : Ld := if is_there d f then ld_means d b kn y else d
theorem kX1_worth_152 : Cond.constantLong RX1 152 (-1) ∈ wsX1_worth := by decide +kernel
set_option maxHeartbeats 4000000 in
set_option maxRecDepth 100000 in
/-- worth(k, y, f) -/
theorem qX1_worth (l : Launch) (D : va_G) (K : Nat → ClassId) (al ab : Nat → Nat) (d : Ld) (b : Bk) (n : Nat) (hn : n ≤ 80) (y f : Int32) : zw_L l yX1_worth wsX1_worth rmX1_worth D (zT K) [.ref (al 0), .int (nI n), .int y, .int f] (lb_W K al ab d b) (r_worth d b n y f) (lb_W K al ab (d_worth d b n y f) b) := by
  refine zw_ofL (cc := cX1_worth) (nL := 4) (ret := (some .long)) (own := RX1) (lv := [(0, .ref (al 0)), (1, .int (nI n)), (2, .int y), (3, .int f)]) (by decide) rfl (Nat.le_of_ble_eq_true rfl) rfl rfl ?_
  intro p e s m below meth c A E hr hlk
  refine zw_aload_n (i := 0) (x := al 0) E 0 dX1_worth_0 rfl rfl (pc' := 1) rfl ?_
  refine zw_iload_n (i := 3) (x := f) E 3 dX1_worth_1 rfl rfl (pc' := 2) rfl ?_
  refine zw_callIv E (r := zb (is_there d f)) (As := [.int f]) (rest := []) (ws' := (lb_W K al ab d b)) (qX1_isThere l D K al (ab 0) d f) (cwV 1 E.2.2.2.2.1 gX1_worth_X1_isThere rfl rfl rfl (by decide +kernel) ⟨Nat.le_of_ble_eq_true rfl, Nat.le_of_ble_eq_true rfl⟩) 0 rfl rfl rfl [0, 1, 2, 3, 4, 5, 6, 7, 8, 9, 10, 11, 12, 13] (by decide) emC_lb_d rfl (zw_put_same _ _ _ emC_lb_d) rfl rfl (Nat.le_of_ble_eq_true rfl) ⟨Nat.zero_le _, Nat.zero_le _⟩ dX1_worth_2 (pc' := 5) rfl ?_
  refine zw_ifb_eq (tgt := 25) E dX1_worth_5 (by decide) (pc' := 8) rfl (fun c_1 => ?_) (fun c_1 => ?_)
  · skip
    refine zw_ldc2 (v := (-1)) E dX1_worth_25 kX1_worth_152 (pc' := 28) rfl ?_
    exact zw_lret E hr hlk dX1_worth_28 (by unfold r_worth; rw [if_neg c_1]) (by unfold d_worth; rw [if_neg c_1])
  · skip
    refine zw_aload_n (i := 0) (x := al 0) E 0 dX1_worth_8 rfl rfl (pc' := 9) rfl ?_
    refine zw_iload_n (i := 1) (x := nI n) E 1 dX1_worth_9 rfl rfl (pc' := 10) rfl ?_
    refine zw_iload_n (i := 2) (x := y) E 2 dX1_worth_10 rfl rfl (pc' := 11) rfl ?_
    refine zw_callIw E (r := zb (means_known b n y)) (As := [.int (nI n), .int y]) (rest := []) (ws' := (lb_W K al ab (ld_means d b n y) b)) (qX1_areMeansKnown l D K al ab d b n hn y) (cwV 2 E.2.2.2.2.1 gX1_worth_X1_areMeansKnown rfl rfl rfl (by decide +kernel) ⟨Nat.le_of_ble_eq_true rfl, Nat.le_of_ble_eq_true rfl⟩) 0 rfl rfl rfl (lb_ad _ _ _ _ _ _ _) rfl rfl (Nat.le_of_ble_eq_true rfl) ⟨Nat.zero_le _, Nat.zero_le _⟩ dX1_worth_11 (pc' := 14) rfl ?_
    refine zw_ifb_eq (tgt := 25) E dX1_worth_14 (by decide) (pc' := 17) rfl (fun c_2 => ?_) (fun c_2 => ?_)
    · skip
      refine zw_ldc2 (v := (-1)) E dX1_worth_25 kX1_worth_152 (pc' := 28) rfl ?_
      exact zw_lret E hr hlk dX1_worth_28 (by unfold r_worth; rw [if_pos c_1, if_neg c_2]) (by unfold d_worth; rw [if_pos c_1])
    · skip
      refine zw_aload_n (i := 0) (x := al 0) E 0 dX1_worth_17 rfl rfl (pc' := 18) rfl ?_
      refine zw_iload_n (i := 3) (x := f) E 3 dX1_worth_18 rfl rfl (pc' := 19) rfl ?_
      refine zw_callLv E (r := w_money (ld_means d b n y) f.toNatClampNeg) (As := [.int f]) (rest := []) (ws' := (lb_W K al ab (ld_means d b n y) b)) (qX1_worthByMeans l D K al (ab 0) (ld_means d b n y) f f.toNatClampNeg ⟨c_1.1, c_1.2.1⟩ rfl) (cwV 1 E.2.2.2.2.1 gX1_worth_X1_worthByMeans rfl rfl rfl (by decide +kernel) ⟨Nat.le_of_ble_eq_true rfl, Nat.le_of_ble_eq_true rfl⟩) 0 rfl rfl rfl [0, 1, 2, 3, 4, 5, 6, 7, 8, 9, 10, 11, 12, 13] (by decide) emC_lb_d rfl (zw_put_same _ _ _ emC_lb_d) rfl rfl (Nat.le_of_ble_eq_true rfl) ⟨Nat.zero_le _, Nat.zero_le _⟩ dX1_worth_19 (pc' := 22) rfl ?_
      refine zw_goto (tgt := 28) E dX1_worth_22 (by decide) ?_
      exact zw_lret E hr hlk dX1_worth_28 (by unfold r_worth; rw [if_pos c_1, if_pos c_2]) (by unfold d_worth; rw [if_pos c_1])

def woa (d : Ld) (P : Prop) [Decidable P] (who : Int32) : Nat → Nat → Int64 → Int64
  | 0, _, sm => sm
  | r + 1, k, sm => if d.1 0 k = 0 then woa d P who r (k + 1) sm else if who = -1 then if P then woa d P who r (k + 1) (sm + w_money d k) else -1 else if d.1 3 k = who then if P then woa d P who r (k + 1) (sm + w_money d k) else -1 else woa d P who r (k + 1) sm
def ld_owed (d : Ld) (b : Bk) (kn : Nat) (y who : Int32) : Int64 := woa (ld_means d b kn y) (means_known b kn y) who 60 0 0
theorem kX1_worthOfAll_152 : Cond.constantLong RX1 152 (-1) ∈ wsX1_worthOfAll := by decide +kernel
theorem fX1_worthOfAll_22 : Cond.fieldLink RX1 22 "TitheMap$Land" "owner" "[I" ∈ wsX1_worthOfAll := by decide +kernel
theorem fX1_worthOfAll_9 : Cond.fieldLink RX1 9 "TitheMap$Land" "there" "[Z" ∈ wsX1_worthOfAll := by decide +kernel
theorem iX1_worthOfAll_X1 : ∀ w ∈ wsX10, w ∈ wsX1_worthOfAll := by decide +kernel
set_option maxHeartbeats 4000000 in
set_option maxRecDepth 100000 in
theorem lX1_worthOfAll {l : Launch} {D : va_G} {K : Nat → ClassId} {p : Program} {e : Env} {s : State} {m : MethodId} {below : List Frame} {meth : Method} {c : Code} {A : Nat → Prop} {args : Array Value} (E : zw_E p s m args c cX1_worthOfAll 8 RX1 wsX1_worthOfAll D (zT K) A) (hr : meth.sig.returnType = some .long) (hlk : meth.locks = false) (al ab : Nat → Nat) (d : Ld) (b : Bk) (n : Nat) (y who : Int32) (P : Prop) [Decidable P] : ∀ (r k : Nat) (sm : Int64), r + k = 60 → zw_W p l e rmX1_worthOfAll s m args below meth c 8 D A 0 0 (zw_Ql D A below args s (woa d P who r k sm) (lb_W K al ab d b)) 14 [(0, .ref (al 0)), (1, .int (nI n)), (2, .int y), (3, .int who), (4, .int (zb P)), (5, .long sm), (7, .int (nI k))] [] (lb_W K al ab d b) := by
  intro r
  induction r with
  | zero =>
    intro k sm hri
    have hk0 : 60 ≤ k := by omega
    refine zw_iload (x := nI k) E 6 dX1_worthOfAll_14 rfl (pc' := 16) rfl ?_
    refine zw_bipush (v := 60) E dX1_worthOfAll_16 (by decide) (pc' := 18) rfl ?_
    refine zw_icmp_ge (tgt := 73) E dX1_worthOfAll_18 (by decide) (pc' := 21) rfl (fun c_1 => ?_) (fun c_1 => ?_)
    · skip
      refine zw_lload (x := sm) E 5 dX1_worthOfAll_73 rfl (pc' := 75) rfl ?_
      exact zw_lret E hr hlk dX1_worthOfAll_75 rfl rfl
    · exact absurd (nI_le (a := 60) hk0 (by omega)) c_1
  | succ r ih =>
    intro k sm hri
    have hk : k < 60 := by omega
    refine zw_iload (x := nI k) E 6 dX1_worthOfAll_14 rfl (pc' := 16) rfl ?_
    refine zw_bipush (v := 60) E dX1_worthOfAll_16 (by decide) (pc' := 18) rfl ?_
    refine zw_icmp_ge (tgt := 73) E dX1_worthOfAll_18 (by decide) (pc' := 21) rfl (fun c_1 => ?_) (fun c_1 => ?_)
    · exact absurd c_1 (zw_n60 hk)
    · skip
      refine zw_aload_n (i := 0) (x := al 0) E 0 dX1_worthOfAll_21 rfl rfl (pc' := 22) rfl ?_
      refine zw_get (v := .ref (al 1)) E 0 1 iX1_worthOfAll_X1 fX1_worthOfAll_9 rfl rfl (by decide) rfl rfl dX1_worthOfAll_22 (pc' := 25) rfl ?_
      refine zw_iload (x := nI k) E 6 dX1_worthOfAll_25 rfl (pc' := 27) rfl ?_
      refine zw_zald (j := k) (x := d.1 0 k) E 1 1 rfl rfl (vp_in_nI hk (by decide)) (zw_clamp hk (by decide)) rfl dX1_worthOfAll_27 (pc' := 28) rfl ?_
      refine zw_if_eq (tgt := 67) E dX1_worthOfAll_28 (by decide) (pc' := 31) rfl (fun c_2 => ?_) (fun c_2 => ?_)
      · skip
        refine zw_iinc (x := nI k) (v := nI (k + 1)) (lv' := [(7, .int (nI (k + 1))), (0, .ref (al 0)), (1, .int (nI n)), (2, .int y), (3, .int who), (4, .int (zb P)), (5, .long sm)]) E 6 dX1_worthOfAll_67 rfl (zw_inc1 k) (by decide) rfl (pc' := 70) rfl ?_
        refine zw_goto (tgt := 14) E dX1_worthOfAll_70 (by decide) ?_
        have e1 : woa d P who (r + 1) k sm = woa d P who r (k + 1) sm := by rw [woa, if_pos c_2]
        rw [e1]
        refine zw_sub [1, 2, 3, 4, 5, 6, 0] (lv' := [(0, .ref (al 0)), (1, .int (nI n)), (2, .int y), (3, .int who), (4, .int (zb P)), (5, .long sm), (7, .int (nI (k + 1)))]) rfl ?_
        exact ih (k + 1) sm (by omega)
      · skip
        refine zw_iload_n (i := 3) (x := who) E 3 dX1_worthOfAll_31 rfl rfl (pc' := 32) rfl ?_
        refine zw_iconst (v := (-1)) E dX1_worthOfAll_32 (by decide) (pc' := 33) rfl ?_
        refine zw_icmp_eq (tgt := 47) E dX1_worthOfAll_33 (by decide) (pc' := 36) rfl (fun c_3 => ?_) (fun c_3 => ?_)
        · skip
          refine zw_iload (x := zb P) E 4 dX1_worthOfAll_47 rfl (pc' := 49) rfl ?_
          refine zw_ifb_ne (tgt := 56) E dX1_worthOfAll_49 (by decide) (pc' := 52) rfl (fun c_4 => ?_) (fun c_4 => ?_)
          · skip
            refine zw_lload (x := sm) E 5 dX1_worthOfAll_56 rfl (pc' := 58) rfl ?_
            refine zw_aload_n (i := 0) (x := al 0) E 0 dX1_worthOfAll_58 rfl rfl (pc' := 59) rfl ?_
            refine zw_iload (x := nI k) E 6 dX1_worthOfAll_59 rfl (pc' := 61) rfl ?_
            refine zw_callLv E (r := w_money d k) (As := [.int (nI k)]) (rest := [.long sm]) (ws' := (lb_W K al ab d b)) (qX1_worthByMeans l D K al (ab 0) d (nI k) k (zw_num hk) (nI_clamp (by omega))) (cwV 1 E.2.2.2.2.1 gX1_worthOfAll_X1_worthByMeans rfl rfl rfl (by decide +kernel) ⟨Nat.le_of_ble_eq_true rfl, Nat.le_of_ble_eq_true rfl⟩) 0 rfl rfl rfl [0, 1, 2, 3, 4, 5, 6, 7, 8, 9, 10, 11, 12, 13] (by decide) emC_lb_d rfl (zw_put_same _ _ _ emC_lb_d) rfl rfl (Nat.le_of_ble_eq_true rfl) ⟨Nat.zero_le _, Nat.zero_le _⟩ dX1_worthOfAll_61 (pc' := 64) rfl ?_
            refine zw_ladd E dX1_worthOfAll_64 (pc' := 65) rfl ?_
            refine zw_lstore (lv' := [(5, .long (sm + (w_money d k))), (0, .ref (al 0)), (1, .int (nI n)), (2, .int y), (3, .int who), (4, .int (zb P)), (7, .int (nI k))]) E dX1_worthOfAll_65 (by decide) rfl (pc' := 67) rfl ?_
            refine zw_iinc (x := nI k) (v := nI (k + 1)) (lv' := [(7, .int (nI (k + 1))), (5, .long (sm + (w_money d k))), (0, .ref (al 0)), (1, .int (nI n)), (2, .int y), (3, .int who), (4, .int (zb P))]) E 6 dX1_worthOfAll_67 rfl (zw_inc1 k) (by decide) rfl (pc' := 70) rfl ?_
            refine zw_goto (tgt := 14) E dX1_worthOfAll_70 (by decide) ?_
            have e1 : woa d P who (r + 1) k sm = woa d P who r (k + 1) (sm + (w_money d k)) := by rw [woa, if_neg c_2, if_pos c_3, if_pos c_4]
            rw [e1]
            refine zw_sub [2, 3, 4, 5, 6, 1, 0] (lv' := [(0, .ref (al 0)), (1, .int (nI n)), (2, .int y), (3, .int who), (4, .int (zb P)), (5, .long (sm + (w_money d k))), (7, .int (nI (k + 1)))]) rfl ?_
            exact ih (k + 1) (sm + (w_money d k)) (by omega)
          · skip
            refine zw_ldc2 (v := (-1)) E dX1_worthOfAll_52 kX1_worthOfAll_152 (pc' := 55) rfl ?_
            exact zw_lret E hr hlk dX1_worthOfAll_55 (by rw [woa, if_neg c_2, if_pos c_3, if_neg c_4]) rfl
        · skip
          refine zw_aload_n (i := 0) (x := al 0) E 0 dX1_worthOfAll_36 rfl rfl (pc' := 37) rfl ?_
          refine zw_get (v := .ref (al 4)) E 0 4 iX1_worthOfAll_X1 fX1_worthOfAll_22 rfl rfl (by decide) rfl rfl dX1_worthOfAll_37 (pc' := 40) rfl ?_
          refine zw_iload (x := nI k) E 6 dX1_worthOfAll_40 rfl (pc' := 42) rfl ?_
          refine zw_iald (j := k) (x := d.1 3 k) E 4 0 rfl rfl (vp_in_nI hk (by decide)) (zw_clamp hk (by decide)) rfl dX1_worthOfAll_42 (pc' := 43) rfl ?_
          refine zw_iload_n (i := 3) (x := who) E 3 dX1_worthOfAll_43 rfl rfl (pc' := 44) rfl ?_
          refine zw_icmp_ne (tgt := 67) E dX1_worthOfAll_44 (by decide) (pc' := 47) rfl (fun c_5 => ?_) (fun c_5 => ?_)
          · skip
            refine zw_iinc (x := nI k) (v := nI (k + 1)) (lv' := [(7, .int (nI (k + 1))), (0, .ref (al 0)), (1, .int (nI n)), (2, .int y), (3, .int who), (4, .int (zb P)), (5, .long sm)]) E 6 dX1_worthOfAll_67 rfl (zw_inc1 k) (by decide) rfl (pc' := 70) rfl ?_
            refine zw_goto (tgt := 14) E dX1_worthOfAll_70 (by decide) ?_
            have e1 : woa d P who (r + 1) k sm = woa d P who r (k + 1) sm := by rw [woa, if_neg c_2, if_neg c_3, if_neg c_5]
            rw [e1]
            refine zw_sub [1, 2, 3, 4, 5, 6, 0] (lv' := [(0, .ref (al 0)), (1, .int (nI n)), (2, .int y), (3, .int who), (4, .int (zb P)), (5, .long sm), (7, .int (nI (k + 1)))]) rfl ?_
            exact ih (k + 1) sm (by omega)
          · skip
            refine zw_iload (x := zb P) E 4 dX1_worthOfAll_47 rfl (pc' := 49) rfl ?_
            refine zw_ifb_ne (tgt := 56) E dX1_worthOfAll_49 (by decide) (pc' := 52) rfl (fun c_6 => ?_) (fun c_6 => ?_)
            · skip
              refine zw_lload (x := sm) E 5 dX1_worthOfAll_56 rfl (pc' := 58) rfl ?_
              refine zw_aload_n (i := 0) (x := al 0) E 0 dX1_worthOfAll_58 rfl rfl (pc' := 59) rfl ?_
              refine zw_iload (x := nI k) E 6 dX1_worthOfAll_59 rfl (pc' := 61) rfl ?_
              refine zw_callLv E (r := w_money d k) (As := [.int (nI k)]) (rest := [.long sm]) (ws' := (lb_W K al ab d b)) (qX1_worthByMeans l D K al (ab 0) d (nI k) k (zw_num hk) (nI_clamp (by omega))) (cwV 1 E.2.2.2.2.1 gX1_worthOfAll_X1_worthByMeans rfl rfl rfl (by decide +kernel) ⟨Nat.le_of_ble_eq_true rfl, Nat.le_of_ble_eq_true rfl⟩) 0 rfl rfl rfl [0, 1, 2, 3, 4, 5, 6, 7, 8, 9, 10, 11, 12, 13] (by decide) emC_lb_d rfl (zw_put_same _ _ _ emC_lb_d) rfl rfl (Nat.le_of_ble_eq_true rfl) ⟨Nat.zero_le _, Nat.zero_le _⟩ dX1_worthOfAll_61 (pc' := 64) rfl ?_
              refine zw_ladd E dX1_worthOfAll_64 (pc' := 65) rfl ?_
              refine zw_lstore (lv' := [(5, .long (sm + (w_money d k))), (0, .ref (al 0)), (1, .int (nI n)), (2, .int y), (3, .int who), (4, .int (zb P)), (7, .int (nI k))]) E dX1_worthOfAll_65 (by decide) rfl (pc' := 67) rfl ?_
              refine zw_iinc (x := nI k) (v := nI (k + 1)) (lv' := [(7, .int (nI (k + 1))), (5, .long (sm + (w_money d k))), (0, .ref (al 0)), (1, .int (nI n)), (2, .int y), (3, .int who), (4, .int (zb P))]) E 6 dX1_worthOfAll_67 rfl (zw_inc1 k) (by decide) rfl (pc' := 70) rfl ?_
              refine zw_goto (tgt := 14) E dX1_worthOfAll_70 (by decide) ?_
              have e1 : woa d P who (r + 1) k sm = woa d P who r (k + 1) (sm + (w_money d k)) := by rw [woa, if_neg c_2, if_neg c_3, if_pos c_5, if_pos c_6]
              rw [e1]
              refine zw_sub [2, 3, 4, 5, 6, 1, 0] (lv' := [(0, .ref (al 0)), (1, .int (nI n)), (2, .int y), (3, .int who), (4, .int (zb P)), (5, .long (sm + (w_money d k))), (7, .int (nI (k + 1)))]) rfl ?_
              exact ih (k + 1) (sm + (w_money d k)) (by omega)
            · skip
              refine zw_ldc2 (v := (-1)) E dX1_worthOfAll_52 kX1_worthOfAll_152 (pc' := 55) rfl ?_
              exact zw_lret E hr hlk dX1_worthOfAll_55 (by rw [woa, if_neg c_2, if_neg c_3, if_pos c_5, if_neg c_6]) rfl

set_option maxHeartbeats 4000000 in
set_option maxRecDepth 100000 in
/-- worthOfAll(k, y, whose) -/
theorem qX1_worthOfAll (l : Launch) (D : va_G) (K : Nat → ClassId) (al ab : Nat → Nat) (d : Ld) (b : Bk) (n : Nat) (hn : n ≤ 80) (y who : Int32) : zw_L l yX1_worthOfAll wsX1_worthOfAll rmX1_worthOfAll D (zT K) [.ref (al 0), .int (nI n), .int y, .int who] (lb_W K al ab d b) (ld_owed d b n y who) (lb_W K al ab (ld_means d b n y) b) := by
  refine zw_ofL (cc := cX1_worthOfAll) (nL := 8) (ret := (some .long)) (own := RX1) (lv := [(0, .ref (al 0)), (1, .int (nI n)), (2, .int y), (3, .int who)]) (by decide) rfl (Nat.le_of_ble_eq_true rfl) rfl rfl ?_
  intro p e s m below meth c A E hr hlk
  refine zw_aload_n (i := 0) (x := al 0) E 0 dX1_worthOfAll_0 rfl rfl (pc' := 1) rfl ?_
  refine zw_iload_n (i := 1) (x := nI n) E 1 dX1_worthOfAll_1 rfl rfl (pc' := 2) rfl ?_
  refine zw_iload_n (i := 2) (x := y) E 2 dX1_worthOfAll_2 rfl rfl (pc' := 3) rfl ?_
  refine zw_callIw E (r := zb (means_known b n y)) (As := [.int (nI n), .int y]) (rest := []) (ws' := (lb_W K al ab (ld_means d b n y) b)) (qX1_areMeansKnown l D K al ab d b n hn y) (cwV 2 E.2.2.2.2.1 gX1_worthOfAll_X1_areMeansKnown rfl rfl rfl (by decide +kernel) ⟨Nat.le_of_ble_eq_true rfl, Nat.le_of_ble_eq_true rfl⟩) 0 rfl rfl rfl (lb_ad _ _ _ _ _ _ _) rfl rfl (Nat.le_of_ble_eq_true rfl) ⟨Nat.zero_le _, Nat.zero_le _⟩ dX1_worthOfAll_3 (pc' := 6) rfl ?_
  refine zw_istore (lv' := [(4, .int (zb (means_known b n y))), (0, .ref (al 0)), (1, .int (nI n)), (2, .int y), (3, .int who)]) E dX1_worthOfAll_6 (by decide) rfl (pc' := 8) rfl ?_
  refine zw_lconst (v := 0) E dX1_worthOfAll_8 (by decide) (pc' := 9) rfl ?_
  refine zw_lstore (lv' := [(5, .long 0), (4, .int (zb (means_known b n y))), (0, .ref (al 0)), (1, .int (nI n)), (2, .int y), (3, .int who)]) E dX1_worthOfAll_9 (by decide) rfl (pc' := 11) rfl ?_
  refine zw_iconst (v := 0) E dX1_worthOfAll_11 (by decide) (pc' := 12) rfl ?_
  refine zw_istore (lv' := [(7, .int 0), (5, .long 0), (4, .int (zb (means_known b n y))), (0, .ref (al 0)), (1, .int (nI n)), (2, .int y), (3, .int who)]) E dX1_worthOfAll_12 (by decide) rfl (pc' := 14) rfl ?_
  refine zw_sub [3, 4, 5, 6, 2, 1, 0] (lv' := [(0, .ref (al 0)), (1, .int (nI n)), (2, .int y), (3, .int who), (4, .int (zb (means_known b n y))), (5, .long 0), (7, .int 0)]) rfl ?_
  exact lX1_worthOfAll E hr hlk al ab _ b n y who (means_known b n y) 60 0 0 (by omega)

def t_tell (d : Ld) (f what : Int32) : Int32 := if is_there d f then if what = 0 then d.1 1 f.toNatClampNeg else if what = 1 then d.1 2 f.toNatClampNeg else if what = 2 then d.1 3 f.toNatClampNeg else if what = 3 then d.1 7 f.toNatClampNeg else if what = 4 then d.1 8 f.toNatClampNeg else if what = 5 then d.1 9 f.toNatClampNeg else if what = 6 then if d.1 4 f.toNatClampNeg = 0 then 0 else 1 else -1 else -1
theorem fX1_tell_15 : Cond.fieldLink RX1 15 "TitheMap$Land" "area" "[I" ∈ wsX1_tell := by decide +kernel
theorem fX1_tell_19 : Cond.fieldLink RX1 19 "TitheMap$Land" "kind" "[I" ∈ wsX1_tell := by decide +kernel
theorem fX1_tell_22 : Cond.fieldLink RX1 22 "TitheMap$Land" "owner" "[I" ∈ wsX1_tell := by decide +kernel
theorem fX1_tell_27 : Cond.fieldLink RX1 27 "TitheMap$Land" "charge" "[[I" ∈ wsX1_tell := by decide +kernel
theorem fX1_tell_30 : Cond.fieldLink RX1 30 "TitheMap$Land" "bought" "[Z" ∈ wsX1_tell := by decide +kernel
theorem iX1_tell_X1 : ∀ w ∈ wsX10, w ∈ wsX1_tell := by decide +kernel
set_option maxHeartbeats 4000000 in
set_option maxRecDepth 100000 in
/-- tell(f, what) -/
theorem qX1_tell (l : Launch) (D : va_G) (K : Nat → ClassId) (al : Nat → Nat) (bq : Nat) (d : Ld) (f what : Int32) : zw_I l yX1_tell wsX1_tell rmX1_tell D (zT K) [.ref (al 0), .int f, .int what] (ld_W K al bq d) (t_tell d f what) (ld_W K al bq d) := by
  refine zw_ofI (cc := cX1_tell) (nL := 3) (ret := (some .int)) (own := RX1) (lv := [(0, .ref (al 0)), (1, .int f), (2, .int what)]) (by decide) rfl (Nat.le_of_ble_eq_true rfl) rfl rfl ?_
  intro p e s m below meth c A E hr hlk
  refine zw_aload_n (i := 0) (x := al 0) E 0 dX1_tell_0 rfl rfl (pc' := 1) rfl ?_
  refine zw_iload_n (i := 1) (x := f) E 1 dX1_tell_1 rfl rfl (pc' := 2) rfl ?_
  refine zw_callIw E (r := zb (is_there d f)) (As := [.int f]) (rest := []) (ws' := (ld_W K al bq d)) (qX1_isThere l D K al bq d f) (cwV 1 E.2.2.2.2.1 gX1_tell_X1_isThere rfl rfl rfl (by decide +kernel) ⟨Nat.le_of_ble_eq_true rfl, Nat.le_of_ble_eq_true rfl⟩) 0 rfl rfl rfl rfl rfl rfl (Nat.le_of_ble_eq_true rfl) ⟨Nat.zero_le _, Nat.zero_le _⟩ dX1_tell_2 (pc' := 5) rfl ?_
  refine zw_ifb_ne (tgt := 10) E dX1_tell_5 (by decide) (pc' := 8) rfl (fun c_1 => ?_) (fun c_1 => ?_)
  · skip
    refine zw_iload_n (i := 2) (x := what) E 2 dX1_tell_10 rfl rfl (pc' := 11) rfl ?_
    by_cases s_2 : what = 0
    · refine zw_tableIn (tgt := 52) (off := 41) E dX1_tell_11 (by rw [s_2]; decide) (by rw [s_2]; decide) (by rw [s_2]; rfl) (by decide) ?_
      refine zw_aload_n (i := 0) (x := al 0) E 0 dX1_tell_52 rfl rfl (pc' := 53) rfl ?_
      refine zw_get (v := .ref (al 2)) E 0 2 iX1_tell_X1 fX1_tell_15 rfl rfl (by decide) rfl rfl dX1_tell_53 (pc' := 56) rfl ?_
      refine zw_iload_n (i := 1) (x := f) E 1 dX1_tell_56 rfl rfl (pc' := 57) rfl ?_
      refine zw_iald (j := f.toNatClampNeg) (x := d.1 1 f.toNatClampNeg) E 2 0 rfl rfl (zw_in3 c_1.1 c_1.2.1) rfl rfl dX1_tell_57 (pc' := 58) rfl ?_
      exact zw_iret E hr hlk dX1_tell_58 (by unfold t_tell; rw [if_pos c_1, if_pos s_2]) rfl
    · skip
      by_cases s_3 : what = 1
      · refine zw_tableIn (tgt := 59) (off := 48) E dX1_tell_11 (by rw [s_3]; decide) (by rw [s_3]; decide) (by rw [s_3]; rfl) (by decide) ?_
        refine zw_aload_n (i := 0) (x := al 0) E 0 dX1_tell_59 rfl rfl (pc' := 60) rfl ?_
        refine zw_get (v := .ref (al 3)) E 0 3 iX1_tell_X1 fX1_tell_19 rfl rfl (by decide) rfl rfl dX1_tell_60 (pc' := 63) rfl ?_
        refine zw_iload_n (i := 1) (x := f) E 1 dX1_tell_63 rfl rfl (pc' := 64) rfl ?_
        refine zw_iald (j := f.toNatClampNeg) (x := d.1 2 f.toNatClampNeg) E 3 0 rfl rfl (zw_in3 c_1.1 c_1.2.1) rfl rfl dX1_tell_64 (pc' := 65) rfl ?_
        exact zw_iret E hr hlk dX1_tell_65 (by unfold t_tell; rw [if_pos c_1, if_neg s_2, if_pos s_3]) rfl
      · skip
        by_cases s_4 : what = 2
        · refine zw_tableIn (tgt := 66) (off := 55) E dX1_tell_11 (by rw [s_4]; decide) (by rw [s_4]; decide) (by rw [s_4]; rfl) (by decide) ?_
          refine zw_aload_n (i := 0) (x := al 0) E 0 dX1_tell_66 rfl rfl (pc' := 67) rfl ?_
          refine zw_get (v := .ref (al 4)) E 0 4 iX1_tell_X1 fX1_tell_22 rfl rfl (by decide) rfl rfl dX1_tell_67 (pc' := 70) rfl ?_
          refine zw_iload_n (i := 1) (x := f) E 1 dX1_tell_70 rfl rfl (pc' := 71) rfl ?_
          refine zw_iald (j := f.toNatClampNeg) (x := d.1 3 f.toNatClampNeg) E 4 0 rfl rfl (zw_in3 c_1.1 c_1.2.1) rfl rfl dX1_tell_71 (pc' := 72) rfl ?_
          exact zw_iret E hr hlk dX1_tell_72 (by unfold t_tell; rw [if_pos c_1, if_neg s_2, if_neg s_3, if_pos s_4]) rfl
        · skip
          by_cases s_5 : what = 3
          · refine zw_tableIn (tgt := 73) (off := 62) E dX1_tell_11 (by rw [s_5]; decide) (by rw [s_5]; decide) (by rw [s_5]; rfl) (by decide) ?_
            refine zw_aload_n (i := 0) (x := al 0) E 0 dX1_tell_73 rfl rfl (pc' := 74) rfl ?_
            refine zw_get (v := .ref (al 5)) E 0 5 iX1_tell_X1 fX1_tell_27 rfl rfl (by decide) rfl rfl dX1_tell_74 (pc' := 77) rfl ?_
            refine zw_iload_n (i := 2) (x := what) E 2 dX1_tell_77 rfl rfl (pc' := 78) rfl ?_
            refine zw_iconst (v := 3) E dX1_tell_78 (by decide) (pc' := 79) rfl ?_
            refine zw_isub E dX1_tell_79 (pc' := 80) rfl ?_
            refine zw_topi (x' := 0) (by rw [s_5]; rfl) ?_
            refine zw_aald (j := 0) (b := al 11) E 5 3 rfl rfl (vp_in_nI (n := 0) (N := 3) (by decide) (by decide)) rfl rfl dX1_tell_80 (pc' := 81) rfl ?_
            refine zw_iload_n (i := 1) (x := f) E 1 dX1_tell_81 rfl rfl (pc' := 82) rfl ?_
            refine zw_iald (j := f.toNatClampNeg) (x := d.1 7 f.toNatClampNeg) E 11 0 rfl rfl (zw_in3 c_1.1 c_1.2.1) rfl rfl dX1_tell_82 (pc' := 83) rfl ?_
            exact zw_iret E hr hlk dX1_tell_83 (by unfold t_tell; rw [if_pos c_1, if_neg s_2, if_neg s_3, if_neg s_4, if_pos s_5]) rfl
          · skip
            by_cases s_6 : what = 4
            · refine zw_tableIn (tgt := 73) (off := 62) E dX1_tell_11 (by rw [s_6]; decide) (by rw [s_6]; decide) (by rw [s_6]; rfl) (by decide) ?_
              refine zw_aload_n (i := 0) (x := al 0) E 0 dX1_tell_73 rfl rfl (pc' := 74) rfl ?_
              refine zw_get (v := .ref (al 5)) E 0 5 iX1_tell_X1 fX1_tell_27 rfl rfl (by decide) rfl rfl dX1_tell_74 (pc' := 77) rfl ?_
              refine zw_iload_n (i := 2) (x := what) E 2 dX1_tell_77 rfl rfl (pc' := 78) rfl ?_
              refine zw_iconst (v := 3) E dX1_tell_78 (by decide) (pc' := 79) rfl ?_
              refine zw_isub E dX1_tell_79 (pc' := 80) rfl ?_
              refine zw_topi (x' := 1) (by rw [s_6]; rfl) ?_
              refine zw_aald (j := 1) (b := al 12) E 5 3 rfl rfl (vp_in_nI (n := 1) (N := 3) (by decide) (by decide)) rfl rfl dX1_tell_80 (pc' := 81) rfl ?_
              refine zw_iload_n (i := 1) (x := f) E 1 dX1_tell_81 rfl rfl (pc' := 82) rfl ?_
              refine zw_iald (j := f.toNatClampNeg) (x := d.1 8 f.toNatClampNeg) E 12 0 rfl rfl (zw_in3 c_1.1 c_1.2.1) rfl rfl dX1_tell_82 (pc' := 83) rfl ?_
              exact zw_iret E hr hlk dX1_tell_83 (by unfold t_tell; rw [if_pos c_1, if_neg s_2, if_neg s_3, if_neg s_4, if_neg s_5, if_pos s_6]) rfl
            · skip
              by_cases s_7 : what = 5
              · refine zw_tableIn (tgt := 73) (off := 62) E dX1_tell_11 (by rw [s_7]; decide) (by rw [s_7]; decide) (by rw [s_7]; rfl) (by decide) ?_
                refine zw_aload_n (i := 0) (x := al 0) E 0 dX1_tell_73 rfl rfl (pc' := 74) rfl ?_
                refine zw_get (v := .ref (al 5)) E 0 5 iX1_tell_X1 fX1_tell_27 rfl rfl (by decide) rfl rfl dX1_tell_74 (pc' := 77) rfl ?_
                refine zw_iload_n (i := 2) (x := what) E 2 dX1_tell_77 rfl rfl (pc' := 78) rfl ?_
                refine zw_iconst (v := 3) E dX1_tell_78 (by decide) (pc' := 79) rfl ?_
                refine zw_isub E dX1_tell_79 (pc' := 80) rfl ?_
                refine zw_topi (x' := 2) (by rw [s_7]; rfl) ?_
                refine zw_aald (j := 2) (b := al 13) E 5 3 rfl rfl (vp_in_nI (n := 2) (N := 3) (by decide) (by decide)) rfl rfl dX1_tell_80 (pc' := 81) rfl ?_
                refine zw_iload_n (i := 1) (x := f) E 1 dX1_tell_81 rfl rfl (pc' := 82) rfl ?_
                refine zw_iald (j := f.toNatClampNeg) (x := d.1 9 f.toNatClampNeg) E 13 0 rfl rfl (zw_in3 c_1.1 c_1.2.1) rfl rfl dX1_tell_82 (pc' := 83) rfl ?_
                exact zw_iret E hr hlk dX1_tell_83 (by unfold t_tell; rw [if_pos c_1, if_neg s_2, if_neg s_3, if_neg s_4, if_neg s_5, if_neg s_6, if_pos s_7]) rfl
              · skip
                by_cases s_8 : what = 6
                · refine zw_tableIn (tgt := 84) (off := 73) E dX1_tell_11 (by rw [s_8]; decide) (by rw [s_8]; decide) (by rw [s_8]; rfl) (by decide) ?_
                  refine zw_aload_n (i := 0) (x := al 0) E 0 dX1_tell_84 rfl rfl (pc' := 85) rfl ?_
                  refine zw_get (v := .ref (al 6)) E 0 6 iX1_tell_X1 fX1_tell_30 rfl rfl (by decide) rfl rfl dX1_tell_85 (pc' := 88) rfl ?_
                  refine zw_iload_n (i := 1) (x := f) E 1 dX1_tell_88 rfl rfl (pc' := 89) rfl ?_
                  refine zw_zald (j := f.toNatClampNeg) (x := d.1 4 f.toNatClampNeg) E 6 1 rfl rfl (zw_in3 c_1.1 c_1.2.1) rfl rfl dX1_tell_89 (pc' := 90) rfl ?_
                  refine zw_if_eq (tgt := 97) E dX1_tell_90 (by decide) (pc' := 93) rfl (fun c_9 => ?_) (fun c_9 => ?_)
                  · skip
                    refine zw_iconst (v := 0) E dX1_tell_97 (by decide) (pc' := 98) rfl ?_
                    exact zw_iret E hr hlk dX1_tell_98 (by unfold t_tell; rw [if_pos c_1, if_neg s_2, if_neg s_3, if_neg s_4, if_neg s_5, if_neg s_6, if_neg s_7, if_pos s_8, if_pos c_9]) rfl
                  · skip
                    refine zw_iconst (v := 1) E dX1_tell_93 (by decide) (pc' := 94) rfl ?_
                    refine zw_goto (tgt := 98) E dX1_tell_94 (by decide) ?_
                    exact zw_iret E hr hlk dX1_tell_98 (by unfold t_tell; rw [if_pos c_1, if_neg s_2, if_neg s_3, if_neg s_4, if_neg s_5, if_neg s_6, if_neg s_7, if_pos s_8, if_neg c_9]) rfl
                · skip
                  refine zw_tableOut (tgt := 99) E dX1_tell_11 (by have q0 := lv_neT (a := 0) s_2 rfl; have q1 := lv_neT (a := 1) s_3 rfl; have q2 := lv_neT (a := 2) s_4 rfl; have q3 := lv_neT (a := 3) s_5 rfl; have q4 := lv_neT (a := 4) s_6 rfl; have q5 := lv_neT (a := 5) s_7 rfl; have q6 := lv_neT (a := 6) s_8 rfl; omega) (by decide) ?_
                  refine zw_iconst (v := (-1)) E dX1_tell_99 (by decide) (pc' := 100) rfl ?_
                  exact zw_iret E hr hlk dX1_tell_100 (by unfold t_tell; rw [if_pos c_1, if_neg s_2, if_neg s_3, if_neg s_4, if_neg s_5, if_neg s_6, if_neg s_7, if_neg s_8]) rfl
  · skip
    refine zw_iconst (v := (-1)) E dX1_tell_8 (by decide) (pc' := 9) rfl ?_
    exact zw_iret E hr hlk dX1_tell_9 (by unfold t_tell; rw [if_neg c_1]) rfl

def h_many (d : Ld) : Nat → Int32
  | 0 => 0
  | k + 1 => h_many d k + (if d.1 0 k = 0 then 0 else 1)
def s_of (d : Ld) (what : Int32) : Nat → Int64
  | 0 => 0
  | k + 1 => s_of d what k + (if d.1 0 k = 0 then 0 else (t_tell d (nI k) what).toInt64)
theorem fX1_howMany_9 : Cond.fieldLink RX1 9 "TitheMap$Land" "there" "[Z" ∈ wsX1_howMany := by decide +kernel
theorem iX1_howMany_X1 : ∀ w ∈ wsX10, w ∈ wsX1_howMany := by decide +kernel
set_option maxHeartbeats 4000000 in
set_option maxRecDepth 100000 in
theorem lX1_howMany {l : Launch} {D : va_G} {K : Nat → ClassId} {p : Program} {e : Env} {s : State} {m : MethodId} {below : List Frame} {meth : Method} {c : Code} {A : Nat → Prop} {args : Array Value} (E : zw_E p s m args c cX1_howMany 3 RX1 wsX1_howMany D (zT K) A) (hr : meth.sig.returnType = (some .int)) (hlk : meth.locks = false) (al : Nat → Nat) (bq : Nat) (d : Ld) : ∀ (fu k : Nat), k ≤ 60 → 60 + 1 ≤ k + fu → zw_W p l e rmX1_howMany s m args below meth c 3 D A 0 0 (zw_Qi D A below args s (h_many d 60) (ld_W K al bq d)) 4 [(0, .ref (al 0)), (1, .int (h_many d k)), (2, .int (nI k))] [] (ld_W K al bq d) := by
  intro fu
  induction fu with
  | zero => intro k h1 h2; exact absurd h2 (by omega)
  | succ fu ih =>
    intro k hle hfu
    refine zw_iload_n (i := 2) (x := nI k) E 2 dX1_howMany_4 rfl rfl (pc' := 5) rfl ?_
    refine zw_bipush (v := 60) E dX1_howMany_5 (by decide) (pc' := 7) rfl ?_
    refine zw_icmp_ge (tgt := 33) E dX1_howMany_7 (by decide) (pc' := 10) rfl (fun c_1 => ?_) (fun c_1 => ?_)
    · skip
      have hk60 : k = 60 := zw_ge60 c_1 hle
      refine zw_iload_n (i := 1) (x := h_many d k) E 1 dX1_howMany_33 rfl rfl (pc' := 34) rfl ?_
      exact zw_iret E hr hlk dX1_howMany_34 (by rw [hk60]) rfl
    · skip
      have hk : k < 60 := zw_lt60 c_1 hle
      refine zw_iload_n (i := 1) (x := h_many d k) E 1 dX1_howMany_10 rfl rfl (pc' := 11) rfl ?_
      refine zw_aload_n (i := 0) (x := al 0) E 0 dX1_howMany_11 rfl rfl (pc' := 12) rfl ?_
      refine zw_get (v := .ref (al 1)) E 0 1 iX1_howMany_X1 fX1_howMany_9 rfl rfl (by decide) rfl rfl dX1_howMany_12 (pc' := 15) rfl ?_
      refine zw_iload_n (i := 2) (x := nI k) E 2 dX1_howMany_15 rfl rfl (pc' := 16) rfl ?_
      refine zw_zald (j := k) (x := d.1 0 k) E 1 1 rfl rfl (vp_in_nI hk (by decide)) (zw_clamp hk (by decide)) rfl dX1_howMany_16 (pc' := 17) rfl ?_
      refine zw_if_eq (tgt := 24) E dX1_howMany_17 (by decide) (pc' := 20) rfl (fun c_2 => ?_) (fun c_2 => ?_)
      · skip
        refine zw_iconst (v := 0) E dX1_howMany_24 (by decide) (pc' := 25) rfl ?_
        refine zw_iadd E dX1_howMany_25 (pc' := 26) rfl ?_
        refine zw_istore_n (lv' := [(1, .int ((h_many d k) + 0)), (0, .ref (al 0)), (2, .int (nI k))]) E dX1_howMany_26 rfl (by decide) rfl (pc' := 27) rfl ?_
        refine zw_iinc (x := nI k) (v := nI (k + 1)) (lv' := [(2, .int (nI (k + 1))), (1, .int ((h_many d k) + 0)), (0, .ref (al 0))]) E 2 dX1_howMany_27 rfl (zw_inc1 k) (by decide) rfl (pc' := 30) rfl ?_
        refine zw_goto (tgt := 4) E dX1_howMany_30 (by decide) ?_
        have e1 : h_many d (k + 1) = h_many d k + 0 := by rw [h_many, if_pos c_2]
        refine zw_sub [2, 1, 0] (lv' := [(0, .ref (al 0)), (1, .int ((h_many d k) + 0)), (2, .int (nI (k + 1)))]) rfl ?_
        rw [← e1]
        exact ih (k + 1) (by omega) (by omega)
      · skip
        refine zw_iconst (v := 1) E dX1_howMany_20 (by decide) (pc' := 21) rfl ?_
        refine zw_goto (tgt := 25) E dX1_howMany_21 (by decide) ?_
        refine zw_iadd E dX1_howMany_25 (pc' := 26) rfl ?_
        refine zw_istore_n (lv' := [(1, .int ((h_many d k) + 1)), (0, .ref (al 0)), (2, .int (nI k))]) E dX1_howMany_26 rfl (by decide) rfl (pc' := 27) rfl ?_
        refine zw_iinc (x := nI k) (v := nI (k + 1)) (lv' := [(2, .int (nI (k + 1))), (1, .int ((h_many d k) + 1)), (0, .ref (al 0))]) E 2 dX1_howMany_27 rfl (zw_inc1 k) (by decide) rfl (pc' := 30) rfl ?_
        refine zw_goto (tgt := 4) E dX1_howMany_30 (by decide) ?_
        have e1 : h_many d (k + 1) = h_many d k + 1 := by rw [h_many, if_neg c_2]
        refine zw_sub [2, 1, 0] (lv' := [(0, .ref (al 0)), (1, .int ((h_many d k) + 1)), (2, .int (nI (k + 1)))]) rfl ?_
        rw [← e1]
        exact ih (k + 1) (by omega) (by omega)

set_option maxHeartbeats 4000000 in
set_option maxRecDepth 100000 in
/-- howMany() -/
theorem qX1_howMany (l : Launch) (D : va_G) (K : Nat → ClassId) (al : Nat → Nat) (bq : Nat) (d : Ld) : zw_I l yX1_howMany wsX1_howMany rmX1_howMany D (zT K) [.ref (al 0)] (ld_W K al bq d) (h_many d 60) (ld_W K al bq d) := by
  refine zw_ofI (cc := cX1_howMany) (nL := 3) (ret := (some .int)) (own := RX1) (lv := [(0, .ref (al 0))]) (by decide) rfl (Nat.le_of_ble_eq_true rfl) rfl rfl ?_
  intro p e s m below meth c A E hr hlk
  refine zw_iconst (v := 0) E dX1_howMany_0 (by decide) (pc' := 1) rfl ?_
  refine zw_istore_n (lv' := [(1, .int 0), (0, .ref (al 0))]) E dX1_howMany_1 rfl (by decide) rfl (pc' := 2) rfl ?_
  refine zw_iconst (v := 0) E dX1_howMany_2 (by decide) (pc' := 3) rfl ?_
  refine zw_istore_n (lv' := [(2, .int 0), (1, .int 0), (0, .ref (al 0))]) E dX1_howMany_3 rfl (by decide) rfl (pc' := 4) rfl ?_
  refine zw_sub [2, 1, 0] (lv' := [(0, .ref (al 0)), (1, .int 0), (2, .int 0)]) rfl ?_
  exact lX1_howMany E hr hlk al bq d 61 0 (by omega) (by omega)

theorem fX1_sumOf_9 : Cond.fieldLink RX1 9 "TitheMap$Land" "there" "[Z" ∈ wsX1_sumOf := by decide +kernel
theorem iX1_sumOf_X1 : ∀ w ∈ wsX10, w ∈ wsX1_sumOf := by decide +kernel
set_option maxHeartbeats 4000000 in
set_option maxRecDepth 100000 in
theorem lX1_sumOf {l : Launch} {D : va_G} {K : Nat → ClassId} {p : Program} {e : Env} {s : State} {m : MethodId} {below : List Frame} {meth : Method} {c : Code} {A : Nat → Prop} {args : Array Value} (E : zw_E p s m args c cX1_sumOf 5 RX1 wsX1_sumOf D (zT K) A) (hr : meth.sig.returnType = (some .long)) (hlk : meth.locks = false) (al : Nat → Nat) (bq : Nat) (d : Ld) (what : Int32) : ∀ (fu k : Nat), k ≤ 60 → 60 + 1 ≤ k + fu → zw_W p l e rmX1_sumOf s m args below meth c 5 D A 0 0 (zw_Ql D A below args s (s_of d what 60) (ld_W K al bq d)) 5 [(0, .ref (al 0)), (1, .int what), (2, .long (s_of d what k)), (4, .int (nI k))] [] (ld_W K al bq d) := by
  intro fu
  induction fu with
  | zero => intro k h1 h2; exact absurd h2 (by omega)
  | succ fu ih =>
    intro k hle hfu
    refine zw_iload (x := nI k) E 3 dX1_sumOf_5 rfl (pc' := 7) rfl ?_
    refine zw_bipush (v := 60) E dX1_sumOf_7 (by decide) (pc' := 9) rfl ?_
    refine zw_icmp_ge (tgt := 43) E dX1_sumOf_9 (by decide) (pc' := 12) rfl (fun c_1 => ?_) (fun c_1 => ?_)
    · skip
      have hk60 : k = 60 := zw_ge60 c_1 hle
      refine zw_lload_n (i := 2) (x := s_of d what k) E 2 dX1_sumOf_43 rfl rfl (pc' := 44) rfl ?_
      exact zw_lret E hr hlk dX1_sumOf_44 (by rw [hk60]) rfl
    · skip
      have hk : k < 60 := zw_lt60 c_1 hle
      refine zw_lload_n (i := 2) (x := s_of d what k) E 2 dX1_sumOf_12 rfl rfl (pc' := 13) rfl ?_
      refine zw_aload_n (i := 0) (x := al 0) E 0 dX1_sumOf_13 rfl rfl (pc' := 14) rfl ?_
      refine zw_get (v := .ref (al 1)) E 0 1 iX1_sumOf_X1 fX1_sumOf_9 rfl rfl (by decide) rfl rfl dX1_sumOf_14 (pc' := 17) rfl ?_
      refine zw_iload (x := nI k) E 3 dX1_sumOf_17 rfl (pc' := 19) rfl ?_
      refine zw_zald (j := k) (x := d.1 0 k) E 1 1 rfl rfl (vp_in_nI hk (by decide)) (zw_clamp hk (by decide)) rfl dX1_sumOf_19 (pc' := 20) rfl ?_
      refine zw_if_eq (tgt := 34) E dX1_sumOf_20 (by decide) (pc' := 23) rfl (fun c_2 => ?_) (fun c_2 => ?_)
      · skip
        refine zw_lconst (v := 0) E dX1_sumOf_34 (by decide) (pc' := 35) rfl ?_
        refine zw_ladd E dX1_sumOf_35 (pc' := 36) rfl ?_
        refine zw_lstore_n (lv' := [(2, .long ((s_of d what k) + 0)), (0, .ref (al 0)), (1, .int what), (4, .int (nI k))]) E dX1_sumOf_36 rfl (by decide) rfl (pc' := 37) rfl ?_
        refine zw_iinc (x := nI k) (v := nI (k + 1)) (lv' := [(4, .int (nI (k + 1))), (2, .long ((s_of d what k) + 0)), (0, .ref (al 0)), (1, .int what)]) E 3 dX1_sumOf_37 rfl (zw_inc1 k) (by decide) rfl (pc' := 40) rfl ?_
        refine zw_goto (tgt := 5) E dX1_sumOf_40 (by decide) ?_
        have e1 : s_of d what (k + 1) = s_of d what k + 0 := by rw [s_of, if_pos c_2]
        refine zw_sub [2, 3, 1, 0] (lv' := [(0, .ref (al 0)), (1, .int what), (2, .long ((s_of d what k) + 0)), (4, .int (nI (k + 1)))]) rfl ?_
        rw [← e1]
        exact ih (k + 1) (by omega) (by omega)
      · skip
        refine zw_aload_n (i := 0) (x := al 0) E 0 dX1_sumOf_23 rfl rfl (pc' := 24) rfl ?_
        refine zw_iload (x := nI k) E 3 dX1_sumOf_24 rfl (pc' := 26) rfl ?_
        refine zw_iload_n (i := 1) (x := what) E 1 dX1_sumOf_26 rfl rfl (pc' := 27) rfl ?_
        refine zw_callIw E (r := t_tell d (nI k) what) (As := [.int (nI k), .int what]) (rest := [.long (s_of d what k)]) (ws' := (ld_W K al bq d)) (qX1_tell l D K al bq d (nI k) what) (cwV 2 E.2.2.2.2.1 gX1_sumOf_X1_tell rfl rfl rfl (by decide +kernel) ⟨Nat.le_of_ble_eq_true rfl, Nat.le_of_ble_eq_true rfl⟩) 0 rfl rfl rfl rfl rfl rfl (Nat.le_of_ble_eq_true rfl) ⟨Nat.zero_le _, Nat.zero_le _⟩ dX1_sumOf_27 (pc' := 30) rfl ?_
        refine zw_i2l E dX1_sumOf_30 (pc' := 31) rfl ?_
        refine zw_goto (tgt := 35) E dX1_sumOf_31 (by decide) ?_
        refine zw_ladd E dX1_sumOf_35 (pc' := 36) rfl ?_
        refine zw_lstore_n (lv' := [(2, .long ((s_of d what k) + ((t_tell d (nI k) what).toInt64))), (0, .ref (al 0)), (1, .int what), (4, .int (nI k))]) E dX1_sumOf_36 rfl (by decide) rfl (pc' := 37) rfl ?_
        refine zw_iinc (x := nI k) (v := nI (k + 1)) (lv' := [(4, .int (nI (k + 1))), (2, .long ((s_of d what k) + ((t_tell d (nI k) what).toInt64))), (0, .ref (al 0)), (1, .int what)]) E 3 dX1_sumOf_37 rfl (zw_inc1 k) (by decide) rfl (pc' := 40) rfl ?_
        refine zw_goto (tgt := 5) E dX1_sumOf_40 (by decide) ?_
        have e1 : s_of d what (k + 1) = s_of d what k + (t_tell d (nI k) what).toInt64 := by rw [s_of, if_neg c_2]
        refine zw_sub [2, 3, 1, 0] (lv' := [(0, .ref (al 0)), (1, .int what), (2, .long ((s_of d what k) + ((t_tell d (nI k) what).toInt64))), (4, .int (nI (k + 1)))]) rfl ?_
        rw [← e1]
        exact ih (k + 1) (by omega) (by omega)

set_option maxHeartbeats 4000000 in
set_option maxRecDepth 100000 in
/-- sumOf(what) -/
theorem qX1_sumOf (l : Launch) (D : va_G) (K : Nat → ClassId) (al : Nat → Nat) (bq : Nat) (d : Ld) (what : Int32) : zw_L l yX1_sumOf wsX1_sumOf rmX1_sumOf D (zT K) [.ref (al 0), .int what] (ld_W K al bq d) (s_of d what 60) (ld_W K al bq d) := by
  refine zw_ofL (cc := cX1_sumOf) (nL := 5) (ret := (some .long)) (own := RX1) (lv := [(0, .ref (al 0)), (1, .int what)]) (by decide) rfl (Nat.le_of_ble_eq_true rfl) rfl rfl ?_
  intro p e s m below meth c A E hr hlk
  refine zw_lconst (v := 0) E dX1_sumOf_0 (by decide) (pc' := 1) rfl ?_
  refine zw_lstore_n (lv' := [(2, .long 0), (0, .ref (al 0)), (1, .int what)]) E dX1_sumOf_1 rfl (by decide) rfl (pc' := 2) rfl ?_
  refine zw_iconst (v := 0) E dX1_sumOf_2 (by decide) (pc' := 3) rfl ?_
  refine zw_istore (lv' := [(4, .int 0), (2, .long 0), (0, .ref (al 0)), (1, .int what)]) E dX1_sumOf_3 (by decide) rfl (pc' := 5) rfl ?_
  refine zw_sub [2, 3, 1, 0] (lv' := [(0, .ref (al 0)), (1, .int what), (2, .long 0), (4, .int 0)]) rfl ?_
  exact lX1_sumOf E hr hlk al bq d what 61 0 (by omega) (by omega)

def l_other (d o : Ld) (f : Int32) : Int32 := if t_tell d f 0 = t_tell o f 0 then if t_tell d f 1 = t_tell o f 1 then if t_tell d f 2 = t_tell o f 2 then if t_tell d f 3 = t_tell o f 3 then if t_tell d f 4 = t_tell o f 4 then if t_tell d f 5 = t_tell o f 5 then if t_tell d f 6 = t_tell o f 6 then 0 else 1 else 1 else 1 else 1 else 1 else 1 else 1
set_option maxHeartbeats 4000000 in
set_option maxRecDepth 100000 in
/-- isOtherwise(other, f) -/
theorem qX1_isOtherwise (l : Launch) (D : va_G) (K : Nat → ClassId) (al ao : Nat → Nat) (bq : Nat) (d o : Ld) (f : Int32) : zw_I l yX1_isOtherwise wsX1_isOtherwise rmX1_isOtherwise D (zT K) [.ref (al 0), .ref (ao 0), .int f] (l2_W K al ao bq d o) (l_other d o f) (l2_W K al ao bq d o) := by
  refine zw_ofI (cc := cX1_isOtherwise) (nL := 4) (ret := (some .boolean)) (own := RX1) (lv := [(0, .ref (al 0)), (1, .ref (ao 0)), (2, .int f)]) (by decide) rfl (Nat.le_of_ble_eq_true rfl) rfl rfl ?_
  intro p e s m below meth c A E hr hlk
  refine zw_iconst (v := 0) E dX1_isOtherwise_0 (by decide) (pc' := 1) rfl ?_
  refine zw_istore_n (lv' := [(3, .int 0), (0, .ref (al 0)), (1, .ref (ao 0)), (2, .int f)]) E dX1_isOtherwise_1 rfl (by decide) rfl (pc' := 2) rfl ?_
  refine zw_iload_n (i := 3) (x := 0) E 0 dX1_isOtherwise_2 rfl rfl (pc' := 3) rfl ?_
  refine zw_bipush (v := 7) E dX1_isOtherwise_3 (by decide) (pc' := 5) rfl ?_
  refine zw_icmp_ge (tgt := 31) E dX1_isOtherwise_5 (by decide) (pc' := 8) rfl (fun c9 => absurd c9 (by decide)) (fun _ => ?_)
  refine zw_aload_n (i := 0) (x := al 0) E 1 dX1_isOtherwise_8 rfl rfl (pc' := 9) rfl ?_
  refine zw_iload_n (i := 2) (x := f) E 3 dX1_isOtherwise_9 rfl rfl (pc' := 10) rfl ?_
  refine zw_iload_n (i := 3) (x := 0) E 0 dX1_isOtherwise_10 rfl rfl (pc' := 11) rfl ?_
  refine zw_callIv E (r := t_tell d f 0) (As := [.int f, .int 0]) (rest := []) (ws' := (l2_W K al ao bq d o)) (qX1_tell l D K al bq d f 0) (cwV 2 E.2.2.2.2.1 gX1_isOtherwise_X1_tell rfl rfl rfl (by decide +kernel) ⟨Nat.le_of_ble_eq_true rfl, Nat.le_of_ble_eq_true rfl⟩) 0 rfl rfl rfl [0, 1, 2, 3, 4, 5, 6, 7, 8, 9, 10, 11, 12, 13] (by decide) emC_l2_d rfl (zw_put_same _ _ _ emC_l2_d) rfl rfl (Nat.le_of_ble_eq_true rfl) ⟨Nat.zero_le _, Nat.zero_le _⟩ dX1_isOtherwise_11 (pc' := 14) rfl ?_
  refine zw_aload_n (i := 1) (x := ao 0) E 2 dX1_isOtherwise_14 rfl rfl (pc' := 15) rfl ?_
  refine zw_iload_n (i := 2) (x := f) E 3 dX1_isOtherwise_15 rfl rfl (pc' := 16) rfl ?_
  refine zw_iload_n (i := 3) (x := 0) E 0 dX1_isOtherwise_16 rfl rfl (pc' := 17) rfl ?_
  refine zw_callIv E (r := t_tell o f 0) (As := [.int f, .int 0]) (rest := [.int (t_tell d f 0)]) (ws' := (l2_W K al ao bq d o)) (qX1_tell l D K ao bq o f 0) (cwV 2 E.2.2.2.2.1 gX1_isOtherwise_X1_tell rfl rfl rfl (by decide +kernel) ⟨Nat.le_of_ble_eq_true rfl, Nat.le_of_ble_eq_true rfl⟩) 0 rfl rfl rfl [14, 15, 16, 17, 18, 19, 20, 21, 22, 23, 24, 25, 26, 27] (by decide) emC_l2_o rfl (zw_put_same _ _ _ emC_l2_o) rfl rfl (Nat.le_of_ble_eq_true rfl) ⟨Nat.zero_le _, Nat.zero_le _⟩ dX1_isOtherwise_17 (pc' := 20) rfl ?_
  refine zw_icmp_eq (tgt := 25) E dX1_isOtherwise_20 (by decide) (pc' := 23) rfl (fun c_1 => ?_) (fun c_1 => ?_)
  · skip
    refine zw_iinc (x := 0) (v := 1) (lv' := [(3, .int 1), (0, .ref (al 0)), (1, .ref (ao 0)), (2, .int f)]) E 0 dX1_isOtherwise_25 rfl (by decide) (by decide) rfl (pc' := 28) rfl ?_
    refine zw_goto (tgt := 2) E dX1_isOtherwise_28 (by decide) ?_
    refine zw_iload_n (i := 3) (x := 1) E 0 dX1_isOtherwise_2 rfl rfl (pc' := 3) rfl ?_
    refine zw_bipush (v := 7) E dX1_isOtherwise_3 (by decide) (pc' := 5) rfl ?_
    refine zw_icmp_ge (tgt := 31) E dX1_isOtherwise_5 (by decide) (pc' := 8) rfl (fun c9 => absurd c9 (by decide)) (fun _ => ?_)
    refine zw_aload_n (i := 0) (x := al 0) E 1 dX1_isOtherwise_8 rfl rfl (pc' := 9) rfl ?_
    refine zw_iload_n (i := 2) (x := f) E 3 dX1_isOtherwise_9 rfl rfl (pc' := 10) rfl ?_
    refine zw_iload_n (i := 3) (x := 1) E 0 dX1_isOtherwise_10 rfl rfl (pc' := 11) rfl ?_
    refine zw_callIv E (r := t_tell d f 1) (As := [.int f, .int 1]) (rest := []) (ws' := (l2_W K al ao bq d o)) (qX1_tell l D K al bq d f 1) (cwV 2 E.2.2.2.2.1 gX1_isOtherwise_X1_tell rfl rfl rfl (by decide +kernel) ⟨Nat.le_of_ble_eq_true rfl, Nat.le_of_ble_eq_true rfl⟩) 0 rfl rfl rfl [0, 1, 2, 3, 4, 5, 6, 7, 8, 9, 10, 11, 12, 13] (by decide) emC_l2_d rfl (zw_put_same _ _ _ emC_l2_d) rfl rfl (Nat.le_of_ble_eq_true rfl) ⟨Nat.zero_le _, Nat.zero_le _⟩ dX1_isOtherwise_11 (pc' := 14) rfl ?_
    refine zw_aload_n (i := 1) (x := ao 0) E 2 dX1_isOtherwise_14 rfl rfl (pc' := 15) rfl ?_
    refine zw_iload_n (i := 2) (x := f) E 3 dX1_isOtherwise_15 rfl rfl (pc' := 16) rfl ?_
    refine zw_iload_n (i := 3) (x := 1) E 0 dX1_isOtherwise_16 rfl rfl (pc' := 17) rfl ?_
    refine zw_callIv E (r := t_tell o f 1) (As := [.int f, .int 1]) (rest := [.int (t_tell d f 1)]) (ws' := (l2_W K al ao bq d o)) (qX1_tell l D K ao bq o f 1) (cwV 2 E.2.2.2.2.1 gX1_isOtherwise_X1_tell rfl rfl rfl (by decide +kernel) ⟨Nat.le_of_ble_eq_true rfl, Nat.le_of_ble_eq_true rfl⟩) 0 rfl rfl rfl [14, 15, 16, 17, 18, 19, 20, 21, 22, 23, 24, 25, 26, 27] (by decide) emC_l2_o rfl (zw_put_same _ _ _ emC_l2_o) rfl rfl (Nat.le_of_ble_eq_true rfl) ⟨Nat.zero_le _, Nat.zero_le _⟩ dX1_isOtherwise_17 (pc' := 20) rfl ?_
    refine zw_icmp_eq (tgt := 25) E dX1_isOtherwise_20 (by decide) (pc' := 23) rfl (fun c_2 => ?_) (fun c_2 => ?_)
    · skip
      refine zw_iinc (x := 1) (v := 2) (lv' := [(3, .int 2), (0, .ref (al 0)), (1, .ref (ao 0)), (2, .int f)]) E 0 dX1_isOtherwise_25 rfl (by decide) (by decide) rfl (pc' := 28) rfl ?_
      refine zw_goto (tgt := 2) E dX1_isOtherwise_28 (by decide) ?_
      refine zw_iload_n (i := 3) (x := 2) E 0 dX1_isOtherwise_2 rfl rfl (pc' := 3) rfl ?_
      refine zw_bipush (v := 7) E dX1_isOtherwise_3 (by decide) (pc' := 5) rfl ?_
      refine zw_icmp_ge (tgt := 31) E dX1_isOtherwise_5 (by decide) (pc' := 8) rfl (fun c9 => absurd c9 (by decide)) (fun _ => ?_)
      refine zw_aload_n (i := 0) (x := al 0) E 1 dX1_isOtherwise_8 rfl rfl (pc' := 9) rfl ?_
      refine zw_iload_n (i := 2) (x := f) E 3 dX1_isOtherwise_9 rfl rfl (pc' := 10) rfl ?_
      refine zw_iload_n (i := 3) (x := 2) E 0 dX1_isOtherwise_10 rfl rfl (pc' := 11) rfl ?_
      refine zw_callIv E (r := t_tell d f 2) (As := [.int f, .int 2]) (rest := []) (ws' := (l2_W K al ao bq d o)) (qX1_tell l D K al bq d f 2) (cwV 2 E.2.2.2.2.1 gX1_isOtherwise_X1_tell rfl rfl rfl (by decide +kernel) ⟨Nat.le_of_ble_eq_true rfl, Nat.le_of_ble_eq_true rfl⟩) 0 rfl rfl rfl [0, 1, 2, 3, 4, 5, 6, 7, 8, 9, 10, 11, 12, 13] (by decide) emC_l2_d rfl (zw_put_same _ _ _ emC_l2_d) rfl rfl (Nat.le_of_ble_eq_true rfl) ⟨Nat.zero_le _, Nat.zero_le _⟩ dX1_isOtherwise_11 (pc' := 14) rfl ?_
      refine zw_aload_n (i := 1) (x := ao 0) E 2 dX1_isOtherwise_14 rfl rfl (pc' := 15) rfl ?_
      refine zw_iload_n (i := 2) (x := f) E 3 dX1_isOtherwise_15 rfl rfl (pc' := 16) rfl ?_
      refine zw_iload_n (i := 3) (x := 2) E 0 dX1_isOtherwise_16 rfl rfl (pc' := 17) rfl ?_
      refine zw_callIv E (r := t_tell o f 2) (As := [.int f, .int 2]) (rest := [.int (t_tell d f 2)]) (ws' := (l2_W K al ao bq d o)) (qX1_tell l D K ao bq o f 2) (cwV 2 E.2.2.2.2.1 gX1_isOtherwise_X1_tell rfl rfl rfl (by decide +kernel) ⟨Nat.le_of_ble_eq_true rfl, Nat.le_of_ble_eq_true rfl⟩) 0 rfl rfl rfl [14, 15, 16, 17, 18, 19, 20, 21, 22, 23, 24, 25, 26, 27] (by decide) emC_l2_o rfl (zw_put_same _ _ _ emC_l2_o) rfl rfl (Nat.le_of_ble_eq_true rfl) ⟨Nat.zero_le _, Nat.zero_le _⟩ dX1_isOtherwise_17 (pc' := 20) rfl ?_
      refine zw_icmp_eq (tgt := 25) E dX1_isOtherwise_20 (by decide) (pc' := 23) rfl (fun c_3 => ?_) (fun c_3 => ?_)
      · skip
        refine zw_iinc (x := 2) (v := 3) (lv' := [(3, .int 3), (0, .ref (al 0)), (1, .ref (ao 0)), (2, .int f)]) E 0 dX1_isOtherwise_25 rfl (by decide) (by decide) rfl (pc' := 28) rfl ?_
        refine zw_goto (tgt := 2) E dX1_isOtherwise_28 (by decide) ?_
        refine zw_iload_n (i := 3) (x := 3) E 0 dX1_isOtherwise_2 rfl rfl (pc' := 3) rfl ?_
        refine zw_bipush (v := 7) E dX1_isOtherwise_3 (by decide) (pc' := 5) rfl ?_
        refine zw_icmp_ge (tgt := 31) E dX1_isOtherwise_5 (by decide) (pc' := 8) rfl (fun c9 => absurd c9 (by decide)) (fun _ => ?_)
        refine zw_aload_n (i := 0) (x := al 0) E 1 dX1_isOtherwise_8 rfl rfl (pc' := 9) rfl ?_
        refine zw_iload_n (i := 2) (x := f) E 3 dX1_isOtherwise_9 rfl rfl (pc' := 10) rfl ?_
        refine zw_iload_n (i := 3) (x := 3) E 0 dX1_isOtherwise_10 rfl rfl (pc' := 11) rfl ?_
        refine zw_callIv E (r := t_tell d f 3) (As := [.int f, .int 3]) (rest := []) (ws' := (l2_W K al ao bq d o)) (qX1_tell l D K al bq d f 3) (cwV 2 E.2.2.2.2.1 gX1_isOtherwise_X1_tell rfl rfl rfl (by decide +kernel) ⟨Nat.le_of_ble_eq_true rfl, Nat.le_of_ble_eq_true rfl⟩) 0 rfl rfl rfl [0, 1, 2, 3, 4, 5, 6, 7, 8, 9, 10, 11, 12, 13] (by decide) emC_l2_d rfl (zw_put_same _ _ _ emC_l2_d) rfl rfl (Nat.le_of_ble_eq_true rfl) ⟨Nat.zero_le _, Nat.zero_le _⟩ dX1_isOtherwise_11 (pc' := 14) rfl ?_
        refine zw_aload_n (i := 1) (x := ao 0) E 2 dX1_isOtherwise_14 rfl rfl (pc' := 15) rfl ?_
        refine zw_iload_n (i := 2) (x := f) E 3 dX1_isOtherwise_15 rfl rfl (pc' := 16) rfl ?_
        refine zw_iload_n (i := 3) (x := 3) E 0 dX1_isOtherwise_16 rfl rfl (pc' := 17) rfl ?_
        refine zw_callIv E (r := t_tell o f 3) (As := [.int f, .int 3]) (rest := [.int (t_tell d f 3)]) (ws' := (l2_W K al ao bq d o)) (qX1_tell l D K ao bq o f 3) (cwV 2 E.2.2.2.2.1 gX1_isOtherwise_X1_tell rfl rfl rfl (by decide +kernel) ⟨Nat.le_of_ble_eq_true rfl, Nat.le_of_ble_eq_true rfl⟩) 0 rfl rfl rfl [14, 15, 16, 17, 18, 19, 20, 21, 22, 23, 24, 25, 26, 27] (by decide) emC_l2_o rfl (zw_put_same _ _ _ emC_l2_o) rfl rfl (Nat.le_of_ble_eq_true rfl) ⟨Nat.zero_le _, Nat.zero_le _⟩ dX1_isOtherwise_17 (pc' := 20) rfl ?_
        refine zw_icmp_eq (tgt := 25) E dX1_isOtherwise_20 (by decide) (pc' := 23) rfl (fun c_4 => ?_) (fun c_4 => ?_)
        · skip
          refine zw_iinc (x := 3) (v := 4) (lv' := [(3, .int 4), (0, .ref (al 0)), (1, .ref (ao 0)), (2, .int f)]) E 0 dX1_isOtherwise_25 rfl (by decide) (by decide) rfl (pc' := 28) rfl ?_
          refine zw_goto (tgt := 2) E dX1_isOtherwise_28 (by decide) ?_
          refine zw_iload_n (i := 3) (x := 4) E 0 dX1_isOtherwise_2 rfl rfl (pc' := 3) rfl ?_
          refine zw_bipush (v := 7) E dX1_isOtherwise_3 (by decide) (pc' := 5) rfl ?_
          refine zw_icmp_ge (tgt := 31) E dX1_isOtherwise_5 (by decide) (pc' := 8) rfl (fun c9 => absurd c9 (by decide)) (fun _ => ?_)
          refine zw_aload_n (i := 0) (x := al 0) E 1 dX1_isOtherwise_8 rfl rfl (pc' := 9) rfl ?_
          refine zw_iload_n (i := 2) (x := f) E 3 dX1_isOtherwise_9 rfl rfl (pc' := 10) rfl ?_
          refine zw_iload_n (i := 3) (x := 4) E 0 dX1_isOtherwise_10 rfl rfl (pc' := 11) rfl ?_
          refine zw_callIv E (r := t_tell d f 4) (As := [.int f, .int 4]) (rest := []) (ws' := (l2_W K al ao bq d o)) (qX1_tell l D K al bq d f 4) (cwV 2 E.2.2.2.2.1 gX1_isOtherwise_X1_tell rfl rfl rfl (by decide +kernel) ⟨Nat.le_of_ble_eq_true rfl, Nat.le_of_ble_eq_true rfl⟩) 0 rfl rfl rfl [0, 1, 2, 3, 4, 5, 6, 7, 8, 9, 10, 11, 12, 13] (by decide) emC_l2_d rfl (zw_put_same _ _ _ emC_l2_d) rfl rfl (Nat.le_of_ble_eq_true rfl) ⟨Nat.zero_le _, Nat.zero_le _⟩ dX1_isOtherwise_11 (pc' := 14) rfl ?_
          refine zw_aload_n (i := 1) (x := ao 0) E 2 dX1_isOtherwise_14 rfl rfl (pc' := 15) rfl ?_
          refine zw_iload_n (i := 2) (x := f) E 3 dX1_isOtherwise_15 rfl rfl (pc' := 16) rfl ?_
          refine zw_iload_n (i := 3) (x := 4) E 0 dX1_isOtherwise_16 rfl rfl (pc' := 17) rfl ?_
          refine zw_callIv E (r := t_tell o f 4) (As := [.int f, .int 4]) (rest := [.int (t_tell d f 4)]) (ws' := (l2_W K al ao bq d o)) (qX1_tell l D K ao bq o f 4) (cwV 2 E.2.2.2.2.1 gX1_isOtherwise_X1_tell rfl rfl rfl (by decide +kernel) ⟨Nat.le_of_ble_eq_true rfl, Nat.le_of_ble_eq_true rfl⟩) 0 rfl rfl rfl [14, 15, 16, 17, 18, 19, 20, 21, 22, 23, 24, 25, 26, 27] (by decide) emC_l2_o rfl (zw_put_same _ _ _ emC_l2_o) rfl rfl (Nat.le_of_ble_eq_true rfl) ⟨Nat.zero_le _, Nat.zero_le _⟩ dX1_isOtherwise_17 (pc' := 20) rfl ?_
          refine zw_icmp_eq (tgt := 25) E dX1_isOtherwise_20 (by decide) (pc' := 23) rfl (fun c_5 => ?_) (fun c_5 => ?_)
          · skip
            refine zw_iinc (x := 4) (v := 5) (lv' := [(3, .int 5), (0, .ref (al 0)), (1, .ref (ao 0)), (2, .int f)]) E 0 dX1_isOtherwise_25 rfl (by decide) (by decide) rfl (pc' := 28) rfl ?_
            refine zw_goto (tgt := 2) E dX1_isOtherwise_28 (by decide) ?_
            refine zw_iload_n (i := 3) (x := 5) E 0 dX1_isOtherwise_2 rfl rfl (pc' := 3) rfl ?_
            refine zw_bipush (v := 7) E dX1_isOtherwise_3 (by decide) (pc' := 5) rfl ?_
            refine zw_icmp_ge (tgt := 31) E dX1_isOtherwise_5 (by decide) (pc' := 8) rfl (fun c9 => absurd c9 (by decide)) (fun _ => ?_)
            refine zw_aload_n (i := 0) (x := al 0) E 1 dX1_isOtherwise_8 rfl rfl (pc' := 9) rfl ?_
            refine zw_iload_n (i := 2) (x := f) E 3 dX1_isOtherwise_9 rfl rfl (pc' := 10) rfl ?_
            refine zw_iload_n (i := 3) (x := 5) E 0 dX1_isOtherwise_10 rfl rfl (pc' := 11) rfl ?_
            refine zw_callIv E (r := t_tell d f 5) (As := [.int f, .int 5]) (rest := []) (ws' := (l2_W K al ao bq d o)) (qX1_tell l D K al bq d f 5) (cwV 2 E.2.2.2.2.1 gX1_isOtherwise_X1_tell rfl rfl rfl (by decide +kernel) ⟨Nat.le_of_ble_eq_true rfl, Nat.le_of_ble_eq_true rfl⟩) 0 rfl rfl rfl [0, 1, 2, 3, 4, 5, 6, 7, 8, 9, 10, 11, 12, 13] (by decide) emC_l2_d rfl (zw_put_same _ _ _ emC_l2_d) rfl rfl (Nat.le_of_ble_eq_true rfl) ⟨Nat.zero_le _, Nat.zero_le _⟩ dX1_isOtherwise_11 (pc' := 14) rfl ?_
            refine zw_aload_n (i := 1) (x := ao 0) E 2 dX1_isOtherwise_14 rfl rfl (pc' := 15) rfl ?_
            refine zw_iload_n (i := 2) (x := f) E 3 dX1_isOtherwise_15 rfl rfl (pc' := 16) rfl ?_
            refine zw_iload_n (i := 3) (x := 5) E 0 dX1_isOtherwise_16 rfl rfl (pc' := 17) rfl ?_
            refine zw_callIv E (r := t_tell o f 5) (As := [.int f, .int 5]) (rest := [.int (t_tell d f 5)]) (ws' := (l2_W K al ao bq d o)) (qX1_tell l D K ao bq o f 5) (cwV 2 E.2.2.2.2.1 gX1_isOtherwise_X1_tell rfl rfl rfl (by decide +kernel) ⟨Nat.le_of_ble_eq_true rfl, Nat.le_of_ble_eq_true rfl⟩) 0 rfl rfl rfl [14, 15, 16, 17, 18, 19, 20, 21, 22, 23, 24, 25, 26, 27] (by decide) emC_l2_o rfl (zw_put_same _ _ _ emC_l2_o) rfl rfl (Nat.le_of_ble_eq_true rfl) ⟨Nat.zero_le _, Nat.zero_le _⟩ dX1_isOtherwise_17 (pc' := 20) rfl ?_
            refine zw_icmp_eq (tgt := 25) E dX1_isOtherwise_20 (by decide) (pc' := 23) rfl (fun c_6 => ?_) (fun c_6 => ?_)
            · skip
              refine zw_iinc (x := 5) (v := 6) (lv' := [(3, .int 6), (0, .ref (al 0)), (1, .ref (ao 0)), (2, .int f)]) E 0 dX1_isOtherwise_25 rfl (by decide) (by decide) rfl (pc' := 28) rfl ?_
              refine zw_goto (tgt := 2) E dX1_isOtherwise_28 (by decide) ?_
              refine zw_iload_n (i := 3) (x := 6) E 0 dX1_isOtherwise_2 rfl rfl (pc' := 3) rfl ?_
              refine zw_bipush (v := 7) E dX1_isOtherwise_3 (by decide) (pc' := 5) rfl ?_
              refine zw_icmp_ge (tgt := 31) E dX1_isOtherwise_5 (by decide) (pc' := 8) rfl (fun c9 => absurd c9 (by decide)) (fun _ => ?_)
              refine zw_aload_n (i := 0) (x := al 0) E 1 dX1_isOtherwise_8 rfl rfl (pc' := 9) rfl ?_
              refine zw_iload_n (i := 2) (x := f) E 3 dX1_isOtherwise_9 rfl rfl (pc' := 10) rfl ?_
              refine zw_iload_n (i := 3) (x := 6) E 0 dX1_isOtherwise_10 rfl rfl (pc' := 11) rfl ?_
              refine zw_callIv E (r := t_tell d f 6) (As := [.int f, .int 6]) (rest := []) (ws' := (l2_W K al ao bq d o)) (qX1_tell l D K al bq d f 6) (cwV 2 E.2.2.2.2.1 gX1_isOtherwise_X1_tell rfl rfl rfl (by decide +kernel) ⟨Nat.le_of_ble_eq_true rfl, Nat.le_of_ble_eq_true rfl⟩) 0 rfl rfl rfl [0, 1, 2, 3, 4, 5, 6, 7, 8, 9, 10, 11, 12, 13] (by decide) emC_l2_d rfl (zw_put_same _ _ _ emC_l2_d) rfl rfl (Nat.le_of_ble_eq_true rfl) ⟨Nat.zero_le _, Nat.zero_le _⟩ dX1_isOtherwise_11 (pc' := 14) rfl ?_
              refine zw_aload_n (i := 1) (x := ao 0) E 2 dX1_isOtherwise_14 rfl rfl (pc' := 15) rfl ?_
              refine zw_iload_n (i := 2) (x := f) E 3 dX1_isOtherwise_15 rfl rfl (pc' := 16) rfl ?_
              refine zw_iload_n (i := 3) (x := 6) E 0 dX1_isOtherwise_16 rfl rfl (pc' := 17) rfl ?_
              refine zw_callIv E (r := t_tell o f 6) (As := [.int f, .int 6]) (rest := [.int (t_tell d f 6)]) (ws' := (l2_W K al ao bq d o)) (qX1_tell l D K ao bq o f 6) (cwV 2 E.2.2.2.2.1 gX1_isOtherwise_X1_tell rfl rfl rfl (by decide +kernel) ⟨Nat.le_of_ble_eq_true rfl, Nat.le_of_ble_eq_true rfl⟩) 0 rfl rfl rfl [14, 15, 16, 17, 18, 19, 20, 21, 22, 23, 24, 25, 26, 27] (by decide) emC_l2_o rfl (zw_put_same _ _ _ emC_l2_o) rfl rfl (Nat.le_of_ble_eq_true rfl) ⟨Nat.zero_le _, Nat.zero_le _⟩ dX1_isOtherwise_17 (pc' := 20) rfl ?_
              refine zw_icmp_eq (tgt := 25) E dX1_isOtherwise_20 (by decide) (pc' := 23) rfl (fun c_7 => ?_) (fun c_7 => ?_)
              · skip
                refine zw_iinc (x := 6) (v := 7) (lv' := [(3, .int 7), (0, .ref (al 0)), (1, .ref (ao 0)), (2, .int f)]) E 0 dX1_isOtherwise_25 rfl (by decide) (by decide) rfl (pc' := 28) rfl ?_
                refine zw_goto (tgt := 2) E dX1_isOtherwise_28 (by decide) ?_
                refine zw_iload_n (i := 3) (x := 7) E 0 dX1_isOtherwise_2 rfl rfl (pc' := 3) rfl ?_
                refine zw_bipush (v := 7) E dX1_isOtherwise_3 (by decide) (pc' := 5) rfl ?_
                refine zw_icmp_ge (tgt := 31) E dX1_isOtherwise_5 (by decide) (pc' := 8) rfl (fun _ => ?_) (fun c9 => absurd (by decide) c9)
                refine zw_iconst (v := 0) E dX1_isOtherwise_31 (by decide) (pc' := 32) rfl ?_
                exact zw_zret E hr hlk dX1_isOtherwise_32 rfl (by unfold l_other; rw [if_pos c_1, if_pos c_2, if_pos c_3, if_pos c_4, if_pos c_5, if_pos c_6, if_pos c_7]) rfl
              · skip
                refine zw_iconst (v := 1) E dX1_isOtherwise_23 (by decide) (pc' := 24) rfl ?_
                exact zw_zret E hr hlk dX1_isOtherwise_24 rfl (by unfold l_other; rw [if_pos c_1, if_pos c_2, if_pos c_3, if_pos c_4, if_pos c_5, if_pos c_6, if_neg c_7]) rfl
            · skip
              refine zw_iconst (v := 1) E dX1_isOtherwise_23 (by decide) (pc' := 24) rfl ?_
              exact zw_zret E hr hlk dX1_isOtherwise_24 rfl (by unfold l_other; rw [if_pos c_1, if_pos c_2, if_pos c_3, if_pos c_4, if_pos c_5, if_neg c_6]) rfl
          · skip
            refine zw_iconst (v := 1) E dX1_isOtherwise_23 (by decide) (pc' := 24) rfl ?_
            exact zw_zret E hr hlk dX1_isOtherwise_24 rfl (by unfold l_other; rw [if_pos c_1, if_pos c_2, if_pos c_3, if_pos c_4, if_neg c_5]) rfl
        · skip
          refine zw_iconst (v := 1) E dX1_isOtherwise_23 (by decide) (pc' := 24) rfl ?_
          exact zw_zret E hr hlk dX1_isOtherwise_24 rfl (by unfold l_other; rw [if_pos c_1, if_pos c_2, if_pos c_3, if_neg c_4]) rfl
      · skip
        refine zw_iconst (v := 1) E dX1_isOtherwise_23 (by decide) (pc' := 24) rfl ?_
        exact zw_zret E hr hlk dX1_isOtherwise_24 rfl (by unfold l_other; rw [if_pos c_1, if_pos c_2, if_neg c_3]) rfl
    · skip
      refine zw_iconst (v := 1) E dX1_isOtherwise_23 (by decide) (pc' := 24) rfl ?_
      exact zw_zret E hr hlk dX1_isOtherwise_24 rfl (by unfold l_other; rw [if_pos c_1, if_neg c_2]) rfl
  · skip
    refine zw_iconst (v := 1) E dX1_isOtherwise_23 (by decide) (pc' := 24) rfl ?_
    exact zw_zret E hr hlk dX1_isOtherwise_24 rfl (by unfold l_other; rw [if_neg c_1]) rfl
