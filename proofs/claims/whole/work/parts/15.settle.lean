/-! the land: chargeShare, areMeansKnown, trySettle -/
def c_third (d : Ld) (i : Nat) (c odd : Int32) : Int64 := (d.1 5 i / 3 + (if odd ≤ c then 0 else 1)).toInt64
def cs (d : Ld) (i cn : Nat) (c odd : Int32) : Ld := if (d.1 6 cn).toInt64 ≤ 0 then d else ld_row d (7 + cn) i ((200 * c_third d i c odd + (d.1 6 cn).toInt64) / (2 * (d.1 6 cn).toInt64)).toInt32
def c_odd (d : Ld) (i : Nat) : Int32 := d.1 5 i - d.1 5 i / 3 * 3
def ld_charge (d : Ld) (i : Nat) : Ld := if is_there d (nI i) then cs (cs (cs d i 0 0 (c_odd d i)) i 1 1 (c_odd d i)) i 2 2 (c_odd d i) else d
theorem zw_m2 {x : Int32} (h : ¬ x.toInt64 ≤ 0) : ¬ (2 : Int64) * x.toInt64 = 0 := by
  intro e
  have a := Int64.not_le.mp h
  rw [Int64.lt_iff_toInt_lt, Int32.toInt_toInt64] at a
  have e2 := congrArg Int64.toInt e
  rw [Int64.toInt_mul, Int32.toInt_toInt64] at e2
  have e0 : (0 : Int64).toInt = 0 := rfl
  have e3 : (2 : Int64).toInt = 2 := rfl
  have hx := Int32.toInt_lt x
  have hx0 := Int32.le_toInt x
  rw [e0] at a e2
  rw [e3] at e2
  rw [Int.bmod_eq_of_le (by omega) (by omega)] at e2
  omega
theorem kX1_chargeShare_140 : Cond.constantLong RX1 140 (200) ∈ wsX1_chargeShare := by decide +kernel
theorem kX1_chargeShare_142 : Cond.constantLong RX1 142 (2) ∈ wsX1_chargeShare := by decide +kernel
theorem fX1_chargeShare_27 : Cond.fieldLink RX1 27 "TitheMap$Land" "charge" "[[I" ∈ wsX1_chargeShare := by decide +kernel
theorem fX1_chargeShare_37 : Cond.fieldLink RX1 37 "TitheMap$Land" "share" "[I" ∈ wsX1_chargeShare := by decide +kernel
theorem fX1_chargeShare_43 : Cond.fieldLink RX1 43 "TitheMap$Land" "means" "[I" ∈ wsX1_chargeShare := by decide +kernel
theorem iX1_chargeShare_X1 : ∀ w ∈ wsX10, w ∈ wsX1_chargeShare := by decide +kernel
set_option maxHeartbeats 4000000 in
set_option maxRecDepth 100000 in
theorem lX1_cs_0 {l : Launch} {D : va_G} {K : Nat → ClassId} {p : Program} {e : Env} {s : State} {m : MethodId} {below : List Frame} {meth : Method} {c : Code} {A : Nat → Prop} {args : Array Value} {Q : State → Prop} (E : zw_E p s m args c cX1_chargeShare 8 RX1 wsX1_chargeShare D (zT K) A) (al : Nat → Nat) (bq : Nat) (d : Ld) (i : Nat) (hi : i < 60) (odd : Int32) (kk : zw_W p l e rmX1_chargeShare s m args below meth c 8 D A 0 0 Q 20 [(0, .ref (al 0)), (1, .int (nI i)), (2, .int odd), (3, .int 1)] [] (ld_W K al bq (cs d i 0 0 odd))) : zw_W p l e rmX1_chargeShare s m args below meth c 8 D A 0 0 Q 20 [(0, .ref (al 0)), (1, .int (nI i)), (2, .int odd), (3, .int 0)] [] (ld_W K al bq d) := by
  refine zw_iload_n (i := 3) (x := 0) E 3 dX1_chargeShare_20 rfl rfl (pc' := 21) rfl ?_
  refine zw_iconst (v := 3) E dX1_chargeShare_21 (by decide) (pc' := 22) rfl ?_
  refine zw_icmp_ge (tgt := 94) E dX1_chargeShare_22 (by decide) (pc' := 25) rfl (fun c9 => absurd c9 (by decide)) (fun _ => ?_)
  refine zw_aload_n (i := 0) (x := al 0) E 0 dX1_chargeShare_25 rfl rfl (pc' := 26) rfl ?_
  refine zw_get (v := .ref (al 8)) E 0 8 iX1_chargeShare_X1 fX1_chargeShare_37 rfl rfl (by decide) rfl rfl dX1_chargeShare_26 (pc' := 29) rfl ?_
  refine zw_iload_n (i := 1) (x := nI i) E 1 dX1_chargeShare_29 rfl rfl (pc' := 30) rfl ?_
  refine zw_iald (j := i) (x := d.1 5 i) E 8 0 rfl rfl (vp_in_nI hi (by decide)) (zw_clamp hi (by decide)) rfl dX1_chargeShare_30 (pc' := 31) rfl ?_
  refine zw_iconst (v := 3) E dX1_chargeShare_31 (by decide) (pc' := 32) rfl ?_
  refine zw_idiv E dX1_chargeShare_32 (by decide) (pc' := 33) rfl ?_
  refine zw_iload_n (i := 3) (x := 0) E 3 dX1_chargeShare_33 rfl rfl (pc' := 34) rfl ?_
  refine zw_iload_n (i := 2) (x := odd) E 2 dX1_chargeShare_34 rfl rfl (pc' := 35) rfl ?_
  refine zw_icmp_ge (tgt := 42) E dX1_chargeShare_35 (by decide) (pc' := 38) rfl (fun c_1 => ?_) (fun c_1 => ?_)
  · skip
    refine zw_iconst (v := 0) E dX1_chargeShare_42 (by decide) (pc' := 43) rfl ?_
    refine zw_iadd E dX1_chargeShare_43 (pc' := 44) rfl ?_
    refine zw_i2l E dX1_chargeShare_44 (pc' := 45) rfl ?_
    refine zw_lstore (lv' := [(4, .long ((((d.1 5 i) / 3) + 0).toInt64)), (0, .ref (al 0)), (1, .int (nI i)), (2, .int odd), (3, .int 0)]) E dX1_chargeShare_45 (by decide) rfl (pc' := 47) rfl ?_
    refine zw_aload_n (i := 0) (x := al 0) E 1 dX1_chargeShare_47 rfl rfl (pc' := 48) rfl ?_
    refine zw_get (v := .ref (al 10)) E 0 10 iX1_chargeShare_X1 fX1_chargeShare_43 rfl rfl (by decide) rfl rfl dX1_chargeShare_48 (pc' := 51) rfl ?_
    refine zw_iload_n (i := 3) (x := 0) E 4 dX1_chargeShare_51 rfl rfl (pc' := 52) rfl ?_
    refine zw_iald (j := 0) (x := d.1 6 0) E 10 0 rfl rfl (vp_in_nI (n := 0) (N := 3) (by decide) (by decide)) rfl rfl dX1_chargeShare_52 (pc' := 53) rfl ?_
    refine zw_i2l E dX1_chargeShare_53 (pc' := 54) rfl ?_
    refine zw_lstore (lv' := [(6, .long ((d.1 6 0).toInt64)), (4, .long ((((d.1 5 i) / 3) + 0).toInt64)), (0, .ref (al 0)), (1, .int (nI i)), (2, .int odd), (3, .int 0)]) E dX1_chargeShare_54 (by decide) rfl (pc' := 56) rfl ?_
    refine zw_lload (x := (d.1 6 0).toInt64) E 0 dX1_chargeShare_56 rfl (pc' := 58) rfl ?_
    refine zw_lconst (v := 0) E dX1_chargeShare_58 (by decide) (pc' := 59) rfl ?_
    refine zw_lcmp E dX1_chargeShare_59 (pc' := 60) rfl ?_
    refine zw_ifl_le (tgt := 88) E dX1_chargeShare_60 (by decide) (pc' := 63) rfl (fun c_2 => ?_) (fun c_2 => ?_)
    · skip
      refine zw_iinc (x := 0) (v := 1) (lv' := [(3, .int 1), (6, .long ((d.1 6 0).toInt64)), (4, .long ((((d.1 5 i) / 3) + 0).toInt64)), (0, .ref (al 0)), (1, .int (nI i)), (2, .int odd)]) E 5 dX1_chargeShare_88 rfl (by decide) (by decide) rfl (pc' := 91) rfl ?_
      refine zw_goto (tgt := 20) E dX1_chargeShare_91 (by decide) ?_
      refine zw_ws (ws' := ld_W K al bq (cs d i 0 0 odd)) (by unfold cs; rw [if_pos c_2]) ?_
      refine zw_sub [3, 4, 5, 0] (lv' := [(0, .ref (al 0)), (1, .int (nI i)), (2, .int odd), (3, .int 1)]) rfl ?_
      exact kk
    · skip
      refine zw_aload_n (i := 0) (x := al 0) E 2 dX1_chargeShare_63 rfl rfl (pc' := 64) rfl ?_
      refine zw_get (v := .ref (al 5)) E 0 5 iX1_chargeShare_X1 fX1_chargeShare_27 rfl rfl (by decide) rfl rfl dX1_chargeShare_64 (pc' := 67) rfl ?_
      refine zw_iload_n (i := 3) (x := 0) E 5 dX1_chargeShare_67 rfl rfl (pc' := 68) rfl ?_
      refine zw_aald (j := 0) (b := al 11) E 5 3 rfl rfl (vp_in_nI (n := 0) (N := 3) (by decide) (by decide)) rfl rfl dX1_chargeShare_68 (pc' := 69) rfl ?_
      refine zw_iload_n (i := 1) (x := nI i) E 3 dX1_chargeShare_69 rfl rfl (pc' := 70) rfl ?_
      refine zw_ldc2 (v := 200) E dX1_chargeShare_70 kX1_chargeShare_140 (pc' := 73) rfl ?_
      refine zw_lload (x := (((d.1 5 i) / 3) + 0).toInt64) E 1 dX1_chargeShare_73 rfl (pc' := 75) rfl ?_
      refine zw_lmul E dX1_chargeShare_75 (pc' := 76) rfl ?_
      refine zw_lload (x := (d.1 6 0).toInt64) E 0 dX1_chargeShare_76 rfl (pc' := 78) rfl ?_
      refine zw_ladd E dX1_chargeShare_78 (pc' := 79) rfl ?_
      refine zw_ldc2 (v := 2) E dX1_chargeShare_79 kX1_chargeShare_142 (pc' := 82) rfl ?_
      refine zw_lload (x := (d.1 6 0).toInt64) E 0 dX1_chargeShare_82 rfl (pc' := 84) rfl ?_
      refine zw_lmul E dX1_chargeShare_84 (pc' := 85) rfl ?_
      refine zw_ldiv E dX1_chargeShare_85 (zw_m2 c_2) (pc' := 86) rfl ?_
      refine zw_l2i E dX1_chargeShare_86 (pc' := 87) rfl ?_
      refine zw_iast (j := i) (ws' := (ld_W K al bq (ld_row d 7 i ((((200 * ((((d.1 5 i) / 3) + 0).toInt64)) + ((d.1 6 0).toInt64)) / (2 * ((d.1 6 0).toInt64))).toInt32)))) E 11 0 rfl rfl (vp_in_nI hi (by decide)) (zw_clamp hi (by decide)) rfl dX1_chargeShare_87 (pc' := 88) rfl ?_
      refine zw_iinc (x := 0) (v := 1) (lv' := [(3, .int 1), (6, .long ((d.1 6 0).toInt64)), (4, .long ((((d.1 5 i) / 3) + 0).toInt64)), (0, .ref (al 0)), (1, .int (nI i)), (2, .int odd)]) E 5 dX1_chargeShare_88 rfl (by decide) (by decide) rfl (pc' := 91) rfl ?_
      refine zw_goto (tgt := 20) E dX1_chargeShare_91 (by decide) ?_
      refine zw_ws (ws' := ld_W K al bq (cs d i 0 0 odd)) (by unfold cs c_third; rw [if_neg c_2, if_pos c_1]) ?_
      refine zw_sub [3, 4, 5, 0] (lv' := [(0, .ref (al 0)), (1, .int (nI i)), (2, .int odd), (3, .int 1)]) rfl ?_
      exact kk
  · skip
    refine zw_iconst (v := 1) E dX1_chargeShare_38 (by decide) (pc' := 39) rfl ?_
    refine zw_goto (tgt := 43) E dX1_chargeShare_39 (by decide) ?_
    refine zw_iadd E dX1_chargeShare_43 (pc' := 44) rfl ?_
    refine zw_i2l E dX1_chargeShare_44 (pc' := 45) rfl ?_
    refine zw_lstore (lv' := [(4, .long ((((d.1 5 i) / 3) + 1).toInt64)), (0, .ref (al 0)), (1, .int (nI i)), (2, .int odd), (3, .int 0)]) E dX1_chargeShare_45 (by decide) rfl (pc' := 47) rfl ?_
    refine zw_aload_n (i := 0) (x := al 0) E 1 dX1_chargeShare_47 rfl rfl (pc' := 48) rfl ?_
    refine zw_get (v := .ref (al 10)) E 0 10 iX1_chargeShare_X1 fX1_chargeShare_43 rfl rfl (by decide) rfl rfl dX1_chargeShare_48 (pc' := 51) rfl ?_
    refine zw_iload_n (i := 3) (x := 0) E 4 dX1_chargeShare_51 rfl rfl (pc' := 52) rfl ?_
    refine zw_iald (j := 0) (x := d.1 6 0) E 10 0 rfl rfl (vp_in_nI (n := 0) (N := 3) (by decide) (by decide)) rfl rfl dX1_chargeShare_52 (pc' := 53) rfl ?_
    refine zw_i2l E dX1_chargeShare_53 (pc' := 54) rfl ?_
    refine zw_lstore (lv' := [(6, .long ((d.1 6 0).toInt64)), (4, .long ((((d.1 5 i) / 3) + 1).toInt64)), (0, .ref (al 0)), (1, .int (nI i)), (2, .int odd), (3, .int 0)]) E dX1_chargeShare_54 (by decide) rfl (pc' := 56) rfl ?_
    refine zw_lload (x := (d.1 6 0).toInt64) E 0 dX1_chargeShare_56 rfl (pc' := 58) rfl ?_
    refine zw_lconst (v := 0) E dX1_chargeShare_58 (by decide) (pc' := 59) rfl ?_
    refine zw_lcmp E dX1_chargeShare_59 (pc' := 60) rfl ?_
    refine zw_ifl_le (tgt := 88) E dX1_chargeShare_60 (by decide) (pc' := 63) rfl (fun c_3 => ?_) (fun c_3 => ?_)
    · skip
      refine zw_iinc (x := 0) (v := 1) (lv' := [(3, .int 1), (6, .long ((d.1 6 0).toInt64)), (4, .long ((((d.1 5 i) / 3) + 1).toInt64)), (0, .ref (al 0)), (1, .int (nI i)), (2, .int odd)]) E 5 dX1_chargeShare_88 rfl (by decide) (by decide) rfl (pc' := 91) rfl ?_
      refine zw_goto (tgt := 20) E dX1_chargeShare_91 (by decide) ?_
      refine zw_ws (ws' := ld_W K al bq (cs d i 0 0 odd)) (by unfold cs; rw [if_pos c_3]) ?_
      refine zw_sub [3, 4, 5, 0] (lv' := [(0, .ref (al 0)), (1, .int (nI i)), (2, .int odd), (3, .int 1)]) rfl ?_
      exact kk
    · skip
      refine zw_aload_n (i := 0) (x := al 0) E 2 dX1_chargeShare_63 rfl rfl (pc' := 64) rfl ?_
      refine zw_get (v := .ref (al 5)) E 0 5 iX1_chargeShare_X1 fX1_chargeShare_27 rfl rfl (by decide) rfl rfl dX1_chargeShare_64 (pc' := 67) rfl ?_
      refine zw_iload_n (i := 3) (x := 0) E 5 dX1_chargeShare_67 rfl rfl (pc' := 68) rfl ?_
      refine zw_aald (j := 0) (b := al 11) E 5 3 rfl rfl (vp_in_nI (n := 0) (N := 3) (by decide) (by decide)) rfl rfl dX1_chargeShare_68 (pc' := 69) rfl ?_
      refine zw_iload_n (i := 1) (x := nI i) E 3 dX1_chargeShare_69 rfl rfl (pc' := 70) rfl ?_
      refine zw_ldc2 (v := 200) E dX1_chargeShare_70 kX1_chargeShare_140 (pc' := 73) rfl ?_
      refine zw_lload (x := (((d.1 5 i) / 3) + 1).toInt64) E 1 dX1_chargeShare_73 rfl (pc' := 75) rfl ?_
      refine zw_lmul E dX1_chargeShare_75 (pc' := 76) rfl ?_
      refine zw_lload (x := (d.1 6 0).toInt64) E 0 dX1_chargeShare_76 rfl (pc' := 78) rfl ?_
      refine zw_ladd E dX1_chargeShare_78 (pc' := 79) rfl ?_
      refine zw_ldc2 (v := 2) E dX1_chargeShare_79 kX1_chargeShare_142 (pc' := 82) rfl ?_
      refine zw_lload (x := (d.1 6 0).toInt64) E 0 dX1_chargeShare_82 rfl (pc' := 84) rfl ?_
      refine zw_lmul E dX1_chargeShare_84 (pc' := 85) rfl ?_
      refine zw_ldiv E dX1_chargeShare_85 (zw_m2 c_3) (pc' := 86) rfl ?_
      refine zw_l2i E dX1_chargeShare_86 (pc' := 87) rfl ?_
      refine zw_iast (j := i) (ws' := (ld_W K al bq (ld_row d 7 i ((((200 * ((((d.1 5 i) / 3) + 1).toInt64)) + ((d.1 6 0).toInt64)) / (2 * ((d.1 6 0).toInt64))).toInt32)))) E 11 0 rfl rfl (vp_in_nI hi (by decide)) (zw_clamp hi (by decide)) rfl dX1_chargeShare_87 (pc' := 88) rfl ?_
      refine zw_iinc (x := 0) (v := 1) (lv' := [(3, .int 1), (6, .long ((d.1 6 0).toInt64)), (4, .long ((((d.1 5 i) / 3) + 1).toInt64)), (0, .ref (al 0)), (1, .int (nI i)), (2, .int odd)]) E 5 dX1_chargeShare_88 rfl (by decide) (by decide) rfl (pc' := 91) rfl ?_
      refine zw_goto (tgt := 20) E dX1_chargeShare_91 (by decide) ?_
      refine zw_ws (ws' := ld_W K al bq (cs d i 0 0 odd)) (by unfold cs c_third; rw [if_neg c_3, if_neg c_1]) ?_
      refine zw_sub [3, 4, 5, 0] (lv' := [(0, .ref (al 0)), (1, .int (nI i)), (2, .int odd), (3, .int 1)]) rfl ?_
      exact kk

set_option maxHeartbeats 4000000 in
set_option maxRecDepth 100000 in
theorem lX1_cs_1 {l : Launch} {D : va_G} {K : Nat → ClassId} {p : Program} {e : Env} {s : State} {m : MethodId} {below : List Frame} {meth : Method} {c : Code} {A : Nat → Prop} {args : Array Value} {Q : State → Prop} (E : zw_E p s m args c cX1_chargeShare 8 RX1 wsX1_chargeShare D (zT K) A) (al : Nat → Nat) (bq : Nat) (d : Ld) (i : Nat) (hi : i < 60) (odd : Int32) (kk : zw_W p l e rmX1_chargeShare s m args below meth c 8 D A 0 0 Q 20 [(0, .ref (al 0)), (1, .int (nI i)), (2, .int odd), (3, .int 2)] [] (ld_W K al bq (cs d i 1 1 odd))) : zw_W p l e rmX1_chargeShare s m args below meth c 8 D A 0 0 Q 20 [(0, .ref (al 0)), (1, .int (nI i)), (2, .int odd), (3, .int 1)] [] (ld_W K al bq d) := by
  refine zw_iload_n (i := 3) (x := 1) E 3 dX1_chargeShare_20 rfl rfl (pc' := 21) rfl ?_
  refine zw_iconst (v := 3) E dX1_chargeShare_21 (by decide) (pc' := 22) rfl ?_
  refine zw_icmp_ge (tgt := 94) E dX1_chargeShare_22 (by decide) (pc' := 25) rfl (fun c9 => absurd c9 (by decide)) (fun _ => ?_)
  refine zw_aload_n (i := 0) (x := al 0) E 0 dX1_chargeShare_25 rfl rfl (pc' := 26) rfl ?_
  refine zw_get (v := .ref (al 8)) E 0 8 iX1_chargeShare_X1 fX1_chargeShare_37 rfl rfl (by decide) rfl rfl dX1_chargeShare_26 (pc' := 29) rfl ?_
  refine zw_iload_n (i := 1) (x := nI i) E 1 dX1_chargeShare_29 rfl rfl (pc' := 30) rfl ?_
  refine zw_iald (j := i) (x := d.1 5 i) E 8 0 rfl rfl (vp_in_nI hi (by decide)) (zw_clamp hi (by decide)) rfl dX1_chargeShare_30 (pc' := 31) rfl ?_
  refine zw_iconst (v := 3) E dX1_chargeShare_31 (by decide) (pc' := 32) rfl ?_
  refine zw_idiv E dX1_chargeShare_32 (by decide) (pc' := 33) rfl ?_
  refine zw_iload_n (i := 3) (x := 1) E 3 dX1_chargeShare_33 rfl rfl (pc' := 34) rfl ?_
  refine zw_iload_n (i := 2) (x := odd) E 2 dX1_chargeShare_34 rfl rfl (pc' := 35) rfl ?_
  refine zw_icmp_ge (tgt := 42) E dX1_chargeShare_35 (by decide) (pc' := 38) rfl (fun c_1 => ?_) (fun c_1 => ?_)
  · skip
    refine zw_iconst (v := 0) E dX1_chargeShare_42 (by decide) (pc' := 43) rfl ?_
    refine zw_iadd E dX1_chargeShare_43 (pc' := 44) rfl ?_
    refine zw_i2l E dX1_chargeShare_44 (pc' := 45) rfl ?_
    refine zw_lstore (lv' := [(4, .long ((((d.1 5 i) / 3) + 0).toInt64)), (0, .ref (al 0)), (1, .int (nI i)), (2, .int odd), (3, .int 1)]) E dX1_chargeShare_45 (by decide) rfl (pc' := 47) rfl ?_
    refine zw_aload_n (i := 0) (x := al 0) E 1 dX1_chargeShare_47 rfl rfl (pc' := 48) rfl ?_
    refine zw_get (v := .ref (al 10)) E 0 10 iX1_chargeShare_X1 fX1_chargeShare_43 rfl rfl (by decide) rfl rfl dX1_chargeShare_48 (pc' := 51) rfl ?_
    refine zw_iload_n (i := 3) (x := 1) E 4 dX1_chargeShare_51 rfl rfl (pc' := 52) rfl ?_
    refine zw_iald (j := 1) (x := d.1 6 1) E 10 0 rfl rfl (vp_in_nI (n := 1) (N := 3) (by decide) (by decide)) rfl rfl dX1_chargeShare_52 (pc' := 53) rfl ?_
    refine zw_i2l E dX1_chargeShare_53 (pc' := 54) rfl ?_
    refine zw_lstore (lv' := [(6, .long ((d.1 6 1).toInt64)), (4, .long ((((d.1 5 i) / 3) + 0).toInt64)), (0, .ref (al 0)), (1, .int (nI i)), (2, .int odd), (3, .int 1)]) E dX1_chargeShare_54 (by decide) rfl (pc' := 56) rfl ?_
    refine zw_lload (x := (d.1 6 1).toInt64) E 0 dX1_chargeShare_56 rfl (pc' := 58) rfl ?_
    refine zw_lconst (v := 0) E dX1_chargeShare_58 (by decide) (pc' := 59) rfl ?_
    refine zw_lcmp E dX1_chargeShare_59 (pc' := 60) rfl ?_
    refine zw_ifl_le (tgt := 88) E dX1_chargeShare_60 (by decide) (pc' := 63) rfl (fun c_2 => ?_) (fun c_2 => ?_)
    · skip
      refine zw_iinc (x := 1) (v := 2) (lv' := [(3, .int 2), (6, .long ((d.1 6 1).toInt64)), (4, .long ((((d.1 5 i) / 3) + 0).toInt64)), (0, .ref (al 0)), (1, .int (nI i)), (2, .int odd)]) E 5 dX1_chargeShare_88 rfl (by decide) (by decide) rfl (pc' := 91) rfl ?_
      refine zw_goto (tgt := 20) E dX1_chargeShare_91 (by decide) ?_
      refine zw_ws (ws' := ld_W K al bq (cs d i 1 1 odd)) (by unfold cs; rw [if_pos c_2]) ?_
      refine zw_sub [3, 4, 5, 0] (lv' := [(0, .ref (al 0)), (1, .int (nI i)), (2, .int odd), (3, .int 2)]) rfl ?_
      exact kk
    · skip
      refine zw_aload_n (i := 0) (x := al 0) E 2 dX1_chargeShare_63 rfl rfl (pc' := 64) rfl ?_
      refine zw_get (v := .ref (al 5)) E 0 5 iX1_chargeShare_X1 fX1_chargeShare_27 rfl rfl (by decide) rfl rfl dX1_chargeShare_64 (pc' := 67) rfl ?_
      refine zw_iload_n (i := 3) (x := 1) E 5 dX1_chargeShare_67 rfl rfl (pc' := 68) rfl ?_
      refine zw_aald (j := 1) (b := al 12) E 5 3 rfl rfl (vp_in_nI (n := 1) (N := 3) (by decide) (by decide)) rfl rfl dX1_chargeShare_68 (pc' := 69) rfl ?_
      refine zw_iload_n (i := 1) (x := nI i) E 3 dX1_chargeShare_69 rfl rfl (pc' := 70) rfl ?_
      refine zw_ldc2 (v := 200) E dX1_chargeShare_70 kX1_chargeShare_140 (pc' := 73) rfl ?_
      refine zw_lload (x := (((d.1 5 i) / 3) + 0).toInt64) E 1 dX1_chargeShare_73 rfl (pc' := 75) rfl ?_
      refine zw_lmul E dX1_chargeShare_75 (pc' := 76) rfl ?_
      refine zw_lload (x := (d.1 6 1).toInt64) E 0 dX1_chargeShare_76 rfl (pc' := 78) rfl ?_
      refine zw_ladd E dX1_chargeShare_78 (pc' := 79) rfl ?_
      refine zw_ldc2 (v := 2) E dX1_chargeShare_79 kX1_chargeShare_142 (pc' := 82) rfl ?_
      refine zw_lload (x := (d.1 6 1).toInt64) E 0 dX1_chargeShare_82 rfl (pc' := 84) rfl ?_
      refine zw_lmul E dX1_chargeShare_84 (pc' := 85) rfl ?_
      refine zw_ldiv E dX1_chargeShare_85 (zw_m2 c_2) (pc' := 86) rfl ?_
      refine zw_l2i E dX1_chargeShare_86 (pc' := 87) rfl ?_
      refine zw_iast (j := i) (ws' := (ld_W K al bq (ld_row d 8 i ((((200 * ((((d.1 5 i) / 3) + 0).toInt64)) + ((d.1 6 1).toInt64)) / (2 * ((d.1 6 1).toInt64))).toInt32)))) E 12 0 rfl rfl (vp_in_nI hi (by decide)) (zw_clamp hi (by decide)) rfl dX1_chargeShare_87 (pc' := 88) rfl ?_
      refine zw_iinc (x := 1) (v := 2) (lv' := [(3, .int 2), (6, .long ((d.1 6 1).toInt64)), (4, .long ((((d.1 5 i) / 3) + 0).toInt64)), (0, .ref (al 0)), (1, .int (nI i)), (2, .int odd)]) E 5 dX1_chargeShare_88 rfl (by decide) (by decide) rfl (pc' := 91) rfl ?_
      refine zw_goto (tgt := 20) E dX1_chargeShare_91 (by decide) ?_
      refine zw_ws (ws' := ld_W K al bq (cs d i 1 1 odd)) (by unfold cs c_third; rw [if_neg c_2, if_pos c_1]) ?_
      refine zw_sub [3, 4, 5, 0] (lv' := [(0, .ref (al 0)), (1, .int (nI i)), (2, .int odd), (3, .int 2)]) rfl ?_
      exact kk
  · skip
    refine zw_iconst (v := 1) E dX1_chargeShare_38 (by decide) (pc' := 39) rfl ?_
    refine zw_goto (tgt := 43) E dX1_chargeShare_39 (by decide) ?_
    refine zw_iadd E dX1_chargeShare_43 (pc' := 44) rfl ?_
    refine zw_i2l E dX1_chargeShare_44 (pc' := 45) rfl ?_
    refine zw_lstore (lv' := [(4, .long ((((d.1 5 i) / 3) + 1).toInt64)), (0, .ref (al 0)), (1, .int (nI i)), (2, .int odd), (3, .int 1)]) E dX1_chargeShare_45 (by decide) rfl (pc' := 47) rfl ?_
    refine zw_aload_n (i := 0) (x := al 0) E 1 dX1_chargeShare_47 rfl rfl (pc' := 48) rfl ?_
    refine zw_get (v := .ref (al 10)) E 0 10 iX1_chargeShare_X1 fX1_chargeShare_43 rfl rfl (by decide) rfl rfl dX1_chargeShare_48 (pc' := 51) rfl ?_
    refine zw_iload_n (i := 3) (x := 1) E 4 dX1_chargeShare_51 rfl rfl (pc' := 52) rfl ?_
    refine zw_iald (j := 1) (x := d.1 6 1) E 10 0 rfl rfl (vp_in_nI (n := 1) (N := 3) (by decide) (by decide)) rfl rfl dX1_chargeShare_52 (pc' := 53) rfl ?_
    refine zw_i2l E dX1_chargeShare_53 (pc' := 54) rfl ?_
    refine zw_lstore (lv' := [(6, .long ((d.1 6 1).toInt64)), (4, .long ((((d.1 5 i) / 3) + 1).toInt64)), (0, .ref (al 0)), (1, .int (nI i)), (2, .int odd), (3, .int 1)]) E dX1_chargeShare_54 (by decide) rfl (pc' := 56) rfl ?_
    refine zw_lload (x := (d.1 6 1).toInt64) E 0 dX1_chargeShare_56 rfl (pc' := 58) rfl ?_
    refine zw_lconst (v := 0) E dX1_chargeShare_58 (by decide) (pc' := 59) rfl ?_
    refine zw_lcmp E dX1_chargeShare_59 (pc' := 60) rfl ?_
    refine zw_ifl_le (tgt := 88) E dX1_chargeShare_60 (by decide) (pc' := 63) rfl (fun c_3 => ?_) (fun c_3 => ?_)
    · skip
      refine zw_iinc (x := 1) (v := 2) (lv' := [(3, .int 2), (6, .long ((d.1 6 1).toInt64)), (4, .long ((((d.1 5 i) / 3) + 1).toInt64)), (0, .ref (al 0)), (1, .int (nI i)), (2, .int odd)]) E 5 dX1_chargeShare_88 rfl (by decide) (by decide) rfl (pc' := 91) rfl ?_
      refine zw_goto (tgt := 20) E dX1_chargeShare_91 (by decide) ?_
      refine zw_ws (ws' := ld_W K al bq (cs d i 1 1 odd)) (by unfold cs; rw [if_pos c_3]) ?_
      refine zw_sub [3, 4, 5, 0] (lv' := [(0, .ref (al 0)), (1, .int (nI i)), (2, .int odd), (3, .int 2)]) rfl ?_
      exact kk
    · skip
      refine zw_aload_n (i := 0) (x := al 0) E 2 dX1_chargeShare_63 rfl rfl (pc' := 64) rfl ?_
      refine zw_get (v := .ref (al 5)) E 0 5 iX1_chargeShare_X1 fX1_chargeShare_27 rfl rfl (by decide) rfl rfl dX1_chargeShare_64 (pc' := 67) rfl ?_
      refine zw_iload_n (i := 3) (x := 1) E 5 dX1_chargeShare_67 rfl rfl (pc' := 68) rfl ?_
      refine zw_aald (j := 1) (b := al 12) E 5 3 rfl rfl (vp_in_nI (n := 1) (N := 3) (by decide) (by decide)) rfl rfl dX1_chargeShare_68 (pc' := 69) rfl ?_
      refine zw_iload_n (i := 1) (x := nI i) E 3 dX1_chargeShare_69 rfl rfl (pc' := 70) rfl ?_
      refine zw_ldc2 (v := 200) E dX1_chargeShare_70 kX1_chargeShare_140 (pc' := 73) rfl ?_
      refine zw_lload (x := (((d.1 5 i) / 3) + 1).toInt64) E 1 dX1_chargeShare_73 rfl (pc' := 75) rfl ?_
      refine zw_lmul E dX1_chargeShare_75 (pc' := 76) rfl ?_
      refine zw_lload (x := (d.1 6 1).toInt64) E 0 dX1_chargeShare_76 rfl (pc' := 78) rfl ?_
      refine zw_ladd E dX1_chargeShare_78 (pc' := 79) rfl ?_
      refine zw_ldc2 (v := 2) E dX1_chargeShare_79 kX1_chargeShare_142 (pc' := 82) rfl ?_
      refine zw_lload (x := (d.1 6 1).toInt64) E 0 dX1_chargeShare_82 rfl (pc' := 84) rfl ?_
      refine zw_lmul E dX1_chargeShare_84 (pc' := 85) rfl ?_
      refine zw_ldiv E dX1_chargeShare_85 (zw_m2 c_3) (pc' := 86) rfl ?_
      refine zw_l2i E dX1_chargeShare_86 (pc' := 87) rfl ?_
      refine zw_iast (j := i) (ws' := (ld_W K al bq (ld_row d 8 i ((((200 * ((((d.1 5 i) / 3) + 1).toInt64)) + ((d.1 6 1).toInt64)) / (2 * ((d.1 6 1).toInt64))).toInt32)))) E 12 0 rfl rfl (vp_in_nI hi (by decide)) (zw_clamp hi (by decide)) rfl dX1_chargeShare_87 (pc' := 88) rfl ?_
      refine zw_iinc (x := 1) (v := 2) (lv' := [(3, .int 2), (6, .long ((d.1 6 1).toInt64)), (4, .long ((((d.1 5 i) / 3) + 1).toInt64)), (0, .ref (al 0)), (1, .int (nI i)), (2, .int odd)]) E 5 dX1_chargeShare_88 rfl (by decide) (by decide) rfl (pc' := 91) rfl ?_
      refine zw_goto (tgt := 20) E dX1_chargeShare_91 (by decide) ?_
      refine zw_ws (ws' := ld_W K al bq (cs d i 1 1 odd)) (by unfold cs c_third; rw [if_neg c_3, if_neg c_1]) ?_
      refine zw_sub [3, 4, 5, 0] (lv' := [(0, .ref (al 0)), (1, .int (nI i)), (2, .int odd), (3, .int 2)]) rfl ?_
      exact kk

set_option maxHeartbeats 4000000 in
set_option maxRecDepth 100000 in
theorem lX1_cs_2 {l : Launch} {D : va_G} {K : Nat → ClassId} {p : Program} {e : Env} {s : State} {m : MethodId} {below : List Frame} {meth : Method} {c : Code} {A : Nat → Prop} {args : Array Value} {Q : State → Prop} (E : zw_E p s m args c cX1_chargeShare 8 RX1 wsX1_chargeShare D (zT K) A) (al : Nat → Nat) (bq : Nat) (d : Ld) (i : Nat) (hi : i < 60) (odd : Int32) (kk : zw_W p l e rmX1_chargeShare s m args below meth c 8 D A 0 0 Q 20 [(0, .ref (al 0)), (1, .int (nI i)), (2, .int odd), (3, .int 3)] [] (ld_W K al bq (cs d i 2 2 odd))) : zw_W p l e rmX1_chargeShare s m args below meth c 8 D A 0 0 Q 20 [(0, .ref (al 0)), (1, .int (nI i)), (2, .int odd), (3, .int 2)] [] (ld_W K al bq d) := by
  refine zw_iload_n (i := 3) (x := 2) E 3 dX1_chargeShare_20 rfl rfl (pc' := 21) rfl ?_
  refine zw_iconst (v := 3) E dX1_chargeShare_21 (by decide) (pc' := 22) rfl ?_
  refine zw_icmp_ge (tgt := 94) E dX1_chargeShare_22 (by decide) (pc' := 25) rfl (fun c9 => absurd c9 (by decide)) (fun _ => ?_)
  refine zw_aload_n (i := 0) (x := al 0) E 0 dX1_chargeShare_25 rfl rfl (pc' := 26) rfl ?_
  refine zw_get (v := .ref (al 8)) E 0 8 iX1_chargeShare_X1 fX1_chargeShare_37 rfl rfl (by decide) rfl rfl dX1_chargeShare_26 (pc' := 29) rfl ?_
  refine zw_iload_n (i := 1) (x := nI i) E 1 dX1_chargeShare_29 rfl rfl (pc' := 30) rfl ?_
  refine zw_iald (j := i) (x := d.1 5 i) E 8 0 rfl rfl (vp_in_nI hi (by decide)) (zw_clamp hi (by decide)) rfl dX1_chargeShare_30 (pc' := 31) rfl ?_
  refine zw_iconst (v := 3) E dX1_chargeShare_31 (by decide) (pc' := 32) rfl ?_
  refine zw_idiv E dX1_chargeShare_32 (by decide) (pc' := 33) rfl ?_
  refine zw_iload_n (i := 3) (x := 2) E 3 dX1_chargeShare_33 rfl rfl (pc' := 34) rfl ?_
  refine zw_iload_n (i := 2) (x := odd) E 2 dX1_chargeShare_34 rfl rfl (pc' := 35) rfl ?_
  refine zw_icmp_ge (tgt := 42) E dX1_chargeShare_35 (by decide) (pc' := 38) rfl (fun c_1 => ?_) (fun c_1 => ?_)
  · skip
    refine zw_iconst (v := 0) E dX1_chargeShare_42 (by decide) (pc' := 43) rfl ?_
    refine zw_iadd E dX1_chargeShare_43 (pc' := 44) rfl ?_
    refine zw_i2l E dX1_chargeShare_44 (pc' := 45) rfl ?_
    refine zw_lstore (lv' := [(4, .long ((((d.1 5 i) / 3) + 0).toInt64)), (0, .ref (al 0)), (1, .int (nI i)), (2, .int odd), (3, .int 2)]) E dX1_chargeShare_45 (by decide) rfl (pc' := 47) rfl ?_
    refine zw_aload_n (i := 0) (x := al 0) E 1 dX1_chargeShare_47 rfl rfl (pc' := 48) rfl ?_
    refine zw_get (v := .ref (al 10)) E 0 10 iX1_chargeShare_X1 fX1_chargeShare_43 rfl rfl (by decide) rfl rfl dX1_chargeShare_48 (pc' := 51) rfl ?_
    refine zw_iload_n (i := 3) (x := 2) E 4 dX1_chargeShare_51 rfl rfl (pc' := 52) rfl ?_
    refine zw_iald (j := 2) (x := d.1 6 2) E 10 0 rfl rfl (vp_in_nI (n := 2) (N := 3) (by decide) (by decide)) rfl rfl dX1_chargeShare_52 (pc' := 53) rfl ?_
    refine zw_i2l E dX1_chargeShare_53 (pc' := 54) rfl ?_
    refine zw_lstore (lv' := [(6, .long ((d.1 6 2).toInt64)), (4, .long ((((d.1 5 i) / 3) + 0).toInt64)), (0, .ref (al 0)), (1, .int (nI i)), (2, .int odd), (3, .int 2)]) E dX1_chargeShare_54 (by decide) rfl (pc' := 56) rfl ?_
    refine zw_lload (x := (d.1 6 2).toInt64) E 0 dX1_chargeShare_56 rfl (pc' := 58) rfl ?_
    refine zw_lconst (v := 0) E dX1_chargeShare_58 (by decide) (pc' := 59) rfl ?_
    refine zw_lcmp E dX1_chargeShare_59 (pc' := 60) rfl ?_
    refine zw_ifl_le (tgt := 88) E dX1_chargeShare_60 (by decide) (pc' := 63) rfl (fun c_2 => ?_) (fun c_2 => ?_)
    · skip
      refine zw_iinc (x := 2) (v := 3) (lv' := [(3, .int 3), (6, .long ((d.1 6 2).toInt64)), (4, .long ((((d.1 5 i) / 3) + 0).toInt64)), (0, .ref (al 0)), (1, .int (nI i)), (2, .int odd)]) E 5 dX1_chargeShare_88 rfl (by decide) (by decide) rfl (pc' := 91) rfl ?_
      refine zw_goto (tgt := 20) E dX1_chargeShare_91 (by decide) ?_
      refine zw_ws (ws' := ld_W K al bq (cs d i 2 2 odd)) (by unfold cs; rw [if_pos c_2]) ?_
      refine zw_sub [3, 4, 5, 0] (lv' := [(0, .ref (al 0)), (1, .int (nI i)), (2, .int odd), (3, .int 3)]) rfl ?_
      exact kk
    · skip
      refine zw_aload_n (i := 0) (x := al 0) E 2 dX1_chargeShare_63 rfl rfl (pc' := 64) rfl ?_
      refine zw_get (v := .ref (al 5)) E 0 5 iX1_chargeShare_X1 fX1_chargeShare_27 rfl rfl (by decide) rfl rfl dX1_chargeShare_64 (pc' := 67) rfl ?_
      refine zw_iload_n (i := 3) (x := 2) E 5 dX1_chargeShare_67 rfl rfl (pc' := 68) rfl ?_
      refine zw_aald (j := 2) (b := al 13) E 5 3 rfl rfl (vp_in_nI (n := 2) (N := 3) (by decide) (by decide)) rfl rfl dX1_chargeShare_68 (pc' := 69) rfl ?_
      refine zw_iload_n (i := 1) (x := nI i) E 3 dX1_chargeShare_69 rfl rfl (pc' := 70) rfl ?_
      refine zw_ldc2 (v := 200) E dX1_chargeShare_70 kX1_chargeShare_140 (pc' := 73) rfl ?_
      refine zw_lload (x := (((d.1 5 i) / 3) + 0).toInt64) E 1 dX1_chargeShare_73 rfl (pc' := 75) rfl ?_
      refine zw_lmul E dX1_chargeShare_75 (pc' := 76) rfl ?_
      refine zw_lload (x := (d.1 6 2).toInt64) E 0 dX1_chargeShare_76 rfl (pc' := 78) rfl ?_
      refine zw_ladd E dX1_chargeShare_78 (pc' := 79) rfl ?_
      refine zw_ldc2 (v := 2) E dX1_chargeShare_79 kX1_chargeShare_142 (pc' := 82) rfl ?_
      refine zw_lload (x := (d.1 6 2).toInt64) E 0 dX1_chargeShare_82 rfl (pc' := 84) rfl ?_
      refine zw_lmul E dX1_chargeShare_84 (pc' := 85) rfl ?_
      refine zw_ldiv E dX1_chargeShare_85 (zw_m2 c_2) (pc' := 86) rfl ?_
      refine zw_l2i E dX1_chargeShare_86 (pc' := 87) rfl ?_
      refine zw_iast (j := i) (ws' := (ld_W K al bq (ld_row d 9 i ((((200 * ((((d.1 5 i) / 3) + 0).toInt64)) + ((d.1 6 2).toInt64)) / (2 * ((d.1 6 2).toInt64))).toInt32)))) E 13 0 rfl rfl (vp_in_nI hi (by decide)) (zw_clamp hi (by decide)) rfl dX1_chargeShare_87 (pc' := 88) rfl ?_
      refine zw_iinc (x := 2) (v := 3) (lv' := [(3, .int 3), (6, .long ((d.1 6 2).toInt64)), (4, .long ((((d.1 5 i) / 3) + 0).toInt64)), (0, .ref (al 0)), (1, .int (nI i)), (2, .int odd)]) E 5 dX1_chargeShare_88 rfl (by decide) (by decide) rfl (pc' := 91) rfl ?_
      refine zw_goto (tgt := 20) E dX1_chargeShare_91 (by decide) ?_
      refine zw_ws (ws' := ld_W K al bq (cs d i 2 2 odd)) (by unfold cs c_third; rw [if_neg c_2, if_pos c_1]) ?_
      refine zw_sub [3, 4, 5, 0] (lv' := [(0, .ref (al 0)), (1, .int (nI i)), (2, .int odd), (3, .int 3)]) rfl ?_
      exact kk
  · skip
    refine zw_iconst (v := 1) E dX1_chargeShare_38 (by decide) (pc' := 39) rfl ?_
    refine zw_goto (tgt := 43) E dX1_chargeShare_39 (by decide) ?_
    refine zw_iadd E dX1_chargeShare_43 (pc' := 44) rfl ?_
    refine zw_i2l E dX1_chargeShare_44 (pc' := 45) rfl ?_
    refine zw_lstore (lv' := [(4, .long ((((d.1 5 i) / 3) + 1).toInt64)), (0, .ref (al 0)), (1, .int (nI i)), (2, .int odd), (3, .int 2)]) E dX1_chargeShare_45 (by decide) rfl (pc' := 47) rfl ?_
    refine zw_aload_n (i := 0) (x := al 0) E 1 dX1_chargeShare_47 rfl rfl (pc' := 48) rfl ?_
    refine zw_get (v := .ref (al 10)) E 0 10 iX1_chargeShare_X1 fX1_chargeShare_43 rfl rfl (by decide) rfl rfl dX1_chargeShare_48 (pc' := 51) rfl ?_
    refine zw_iload_n (i := 3) (x := 2) E 4 dX1_chargeShare_51 rfl rfl (pc' := 52) rfl ?_
    refine zw_iald (j := 2) (x := d.1 6 2) E 10 0 rfl rfl (vp_in_nI (n := 2) (N := 3) (by decide) (by decide)) rfl rfl dX1_chargeShare_52 (pc' := 53) rfl ?_
    refine zw_i2l E dX1_chargeShare_53 (pc' := 54) rfl ?_
    refine zw_lstore (lv' := [(6, .long ((d.1 6 2).toInt64)), (4, .long ((((d.1 5 i) / 3) + 1).toInt64)), (0, .ref (al 0)), (1, .int (nI i)), (2, .int odd), (3, .int 2)]) E dX1_chargeShare_54 (by decide) rfl (pc' := 56) rfl ?_
    refine zw_lload (x := (d.1 6 2).toInt64) E 0 dX1_chargeShare_56 rfl (pc' := 58) rfl ?_
    refine zw_lconst (v := 0) E dX1_chargeShare_58 (by decide) (pc' := 59) rfl ?_
    refine zw_lcmp E dX1_chargeShare_59 (pc' := 60) rfl ?_
    refine zw_ifl_le (tgt := 88) E dX1_chargeShare_60 (by decide) (pc' := 63) rfl (fun c_3 => ?_) (fun c_3 => ?_)
    · skip
      refine zw_iinc (x := 2) (v := 3) (lv' := [(3, .int 3), (6, .long ((d.1 6 2).toInt64)), (4, .long ((((d.1 5 i) / 3) + 1).toInt64)), (0, .ref (al 0)), (1, .int (nI i)), (2, .int odd)]) E 5 dX1_chargeShare_88 rfl (by decide) (by decide) rfl (pc' := 91) rfl ?_
      refine zw_goto (tgt := 20) E dX1_chargeShare_91 (by decide) ?_
      refine zw_ws (ws' := ld_W K al bq (cs d i 2 2 odd)) (by unfold cs; rw [if_pos c_3]) ?_
      refine zw_sub [3, 4, 5, 0] (lv' := [(0, .ref (al 0)), (1, .int (nI i)), (2, .int odd), (3, .int 3)]) rfl ?_
      exact kk
    · skip
      refine zw_aload_n (i := 0) (x := al 0) E 2 dX1_chargeShare_63 rfl rfl (pc' := 64) rfl ?_
      refine zw_get (v := .ref (al 5)) E 0 5 iX1_chargeShare_X1 fX1_chargeShare_27 rfl rfl (by decide) rfl rfl dX1_chargeShare_64 (pc' := 67) rfl ?_
      refine zw_iload_n (i := 3) (x := 2) E 5 dX1_chargeShare_67 rfl rfl (pc' := 68) rfl ?_
      refine zw_aald (j := 2) (b := al 13) E 5 3 rfl rfl (vp_in_nI (n := 2) (N := 3) (by decide) (by decide)) rfl rfl dX1_chargeShare_68 (pc' := 69) rfl ?_
      refine zw_iload_n (i := 1) (x := nI i) E 3 dX1_chargeShare_69 rfl rfl (pc' := 70) rfl ?_
      refine zw_ldc2 (v := 200) E dX1_chargeShare_70 kX1_chargeShare_140 (pc' := 73) rfl ?_
      refine zw_lload (x := (((d.1 5 i) / 3) + 1).toInt64) E 1 dX1_chargeShare_73 rfl (pc' := 75) rfl ?_
      refine zw_lmul E dX1_chargeShare_75 (pc' := 76) rfl ?_
      refine zw_lload (x := (d.1 6 2).toInt64) E 0 dX1_chargeShare_76 rfl (pc' := 78) rfl ?_
      refine zw_ladd E dX1_chargeShare_78 (pc' := 79) rfl ?_
      refine zw_ldc2 (v := 2) E dX1_chargeShare_79 kX1_chargeShare_142 (pc' := 82) rfl ?_
      refine zw_lload (x := (d.1 6 2).toInt64) E 0 dX1_chargeShare_82 rfl (pc' := 84) rfl ?_
      refine zw_lmul E dX1_chargeShare_84 (pc' := 85) rfl ?_
      refine zw_ldiv E dX1_chargeShare_85 (zw_m2 c_3) (pc' := 86) rfl ?_
      refine zw_l2i E dX1_chargeShare_86 (pc' := 87) rfl ?_
      refine zw_iast (j := i) (ws' := (ld_W K al bq (ld_row d 9 i ((((200 * ((((d.1 5 i) / 3) + 1).toInt64)) + ((d.1 6 2).toInt64)) / (2 * ((d.1 6 2).toInt64))).toInt32)))) E 13 0 rfl rfl (vp_in_nI hi (by decide)) (zw_clamp hi (by decide)) rfl dX1_chargeShare_87 (pc' := 88) rfl ?_
      refine zw_iinc (x := 2) (v := 3) (lv' := [(3, .int 3), (6, .long ((d.1 6 2).toInt64)), (4, .long ((((d.1 5 i) / 3) + 1).toInt64)), (0, .ref (al 0)), (1, .int (nI i)), (2, .int odd)]) E 5 dX1_chargeShare_88 rfl (by decide) (by decide) rfl (pc' := 91) rfl ?_
      refine zw_goto (tgt := 20) E dX1_chargeShare_91 (by decide) ?_
      refine zw_ws (ws' := ld_W K al bq (cs d i 2 2 odd)) (by unfold cs c_third; rw [if_neg c_3, if_neg c_1]) ?_
      refine zw_sub [3, 4, 5, 0] (lv' := [(0, .ref (al 0)), (1, .int (nI i)), (2, .int odd), (3, .int 3)]) rfl ?_
      exact kk

set_option maxHeartbeats 4000000 in
set_option maxRecDepth 100000 in
/-- chargeShare(f) -/
theorem qX1_chargeShare (l : Launch) (D : va_G) (K : Nat → ClassId) (al : Nat → Nat) (bq : Nat) (d : Ld) (i : Nat) (hi : i < 60) : zw_V l yX1_chargeShare wsX1_chargeShare rmX1_chargeShare D (zT K) [.ref (al 0), .int (nI i)] (ld_W K al bq d) (ld_W K al bq (ld_charge d i)) := by
  refine zw_ofV (cc := cX1_chargeShare) (nL := 8) (ret := none) (own := RX1) (lv := [(0, .ref (al 0)), (1, .int (nI i))]) (by decide) rfl (Nat.le_of_ble_eq_true rfl) rfl rfl ?_
  intro p e s m below meth c A E hr hlk
  refine zw_aload_n (i := 0) (x := al 0) E 0 dX1_chargeShare_0 rfl rfl (pc' := 1) rfl ?_
  refine zw_iload_n (i := 1) (x := nI i) E 1 dX1_chargeShare_1 rfl rfl (pc' := 2) rfl ?_
  refine zw_callIw E (r := zb (is_there d (nI i))) (As := [.int (nI i)]) (rest := []) (ws' := (ld_W K al bq d)) (qX1_isThere l D K al bq d (nI i)) (cwV 1 E.2.2.2.2.1 gX1_chargeShare_X1_isThere rfl rfl rfl (by decide +kernel) ⟨Nat.le_of_ble_eq_true rfl, Nat.le_of_ble_eq_true rfl⟩) 0 rfl rfl rfl rfl rfl rfl (Nat.le_of_ble_eq_true rfl) ⟨Nat.zero_le _, Nat.zero_le _⟩ dX1_chargeShare_2 (pc' := 5) rfl ?_
  refine zw_ifb_ne (tgt := 9) E dX1_chargeShare_5 (by decide) (pc' := 8) rfl (fun c_1 => ?_) (fun c_1 => ?_)
  · skip
    refine zw_aload_n (i := 0) (x := al 0) E 0 dX1_chargeShare_9 rfl rfl (pc' := 10) rfl ?_
    refine zw_get (v := .ref (al 8)) E 0 8 iX1_chargeShare_X1 fX1_chargeShare_37 rfl rfl (by decide) rfl rfl dX1_chargeShare_10 (pc' := 13) rfl ?_
    refine zw_iload_n (i := 1) (x := nI i) E 1 dX1_chargeShare_13 rfl rfl (pc' := 14) rfl ?_
    refine zw_iald (j := i) (x := d.1 5 i) E 8 0 rfl rfl (vp_in_nI hi (by decide)) (zw_clamp hi (by decide)) rfl dX1_chargeShare_14 (pc' := 15) rfl ?_
    refine zw_iconst (v := 3) E dX1_chargeShare_15 (by decide) (pc' := 16) rfl ?_
    refine zw_irem E dX1_chargeShare_16 (by decide) (pc' := 17) rfl ?_
    refine zw_topi (x' := c_odd d i) rfl ?_
    refine zw_istore_n (lv' := [(2, .int (c_odd d i)), (0, .ref (al 0)), (1, .int (nI i))]) E dX1_chargeShare_17 rfl (by decide) rfl (pc' := 18) rfl ?_
    refine zw_iconst (v := 0) E dX1_chargeShare_18 (by decide) (pc' := 19) rfl ?_
    refine zw_istore_n (lv' := [(3, .int 0), (2, .int (c_odd d i)), (0, .ref (al 0)), (1, .int (nI i))]) E dX1_chargeShare_19 rfl (by decide) rfl (pc' := 20) rfl ?_
    refine zw_sub [2, 3, 1, 0] (lv' := [(0, .ref (al 0)), (1, .int (nI i)), (2, .int (c_odd d i)), (3, .int 0)]) rfl ?_
    refine lX1_cs_0 E al bq d i hi (c_odd d i) ?_
    refine lX1_cs_1 E al bq (cs d i 0 0 (c_odd d i)) i hi (c_odd d i) ?_
    refine lX1_cs_2 E al bq (cs (cs d i 0 0 (c_odd d i)) i 1 1 (c_odd d i)) i hi (c_odd d i) ?_
    refine zw_iload_n (i := 3) (x := 3) E 3 dX1_chargeShare_20 rfl rfl (pc' := 21) rfl ?_
    refine zw_iconst (v := 3) E dX1_chargeShare_21 (by decide) (pc' := 22) rfl ?_
    refine zw_icmp_ge (tgt := 94) E dX1_chargeShare_22 (by decide) (pc' := 25) rfl (fun _ => ?_) (fun c9 => absurd (by decide) c9)
    exact zw_vret E hr hlk dX1_chargeShare_94 (by unfold ld_charge; rw [if_pos c_1])
  · skip
    exact zw_vret E hr hlk dX1_chargeShare_8 (by unfold ld_charge; rw [if_neg c_1])

def ld_means (d : Ld) (b : Bk) (k : Nat) (y : Int32) : Ld := ((if bk_mean b k y 0 = -1 then up2 d.1 6 0 (bk_mean b k y 0) else if bk_mean b k y 1 = -1 then up2 (up2 d.1 6 0 (bk_mean b k y 0)) 6 1 (bk_mean b k y 1) else up2 (up2 (up2 d.1 6 0 (bk_mean b k y 0)) 6 1 (bk_mean b k y 1)) 6 2 (bk_mean b k y 2)), d.2)
abbrev means_known (b : Bk) (k : Nat) (y : Int32) : Prop := ¬ bk_mean b k y 0 = -1 ∧ ¬ bk_mean b k y 1 = -1 ∧ ¬ bk_mean b k y 2 = -1
theorem fX1_areMeansKnown_43 : Cond.fieldLink RX1 43 "TitheMap$Land" "means" "[I" ∈ wsX1_areMeansKnown := by decide +kernel
theorem fX1_areMeansKnown_46 : Cond.fieldLink RX1 46 "TitheMap$Land" "book" "LTitheMap$Book;" ∈ wsX1_areMeansKnown := by decide +kernel
theorem iX1_areMeansKnown_X1 : ∀ w ∈ wsX10, w ∈ wsX1_areMeansKnown := by decide +kernel
set_option maxHeartbeats 4000000 in
set_option maxRecDepth 100000 in
/-- areMeansKnown(k, y) -/
theorem qX1_areMeansKnown (l : Launch) (D : va_G) (K : Nat → ClassId) (al ab : Nat → Nat) (d : Ld) (b : Bk) (n : Nat) (hn : n ≤ 80) (y : Int32) : zw_I l yX1_areMeansKnown wsX1_areMeansKnown rmX1_areMeansKnown D (zT K) [.ref (al 0), .int (nI n), .int y] (lb_W K al ab d b) (zb (means_known b n y)) (lb_W K al ab (ld_means d b n y) b) := by
  refine zw_ofI (cc := cX1_areMeansKnown) (nL := 4) (ret := (some .boolean)) (own := RX1) (lv := [(0, .ref (al 0)), (1, .int (nI n)), (2, .int y)]) (by decide) rfl (Nat.le_of_ble_eq_true rfl) rfl rfl ?_
  intro p e s m below meth c A E hr hlk
  refine zw_iconst (v := 0) E dX1_areMeansKnown_0 (by decide) (pc' := 1) rfl ?_
  refine zw_istore_n (lv' := [(3, .int 0), (0, .ref (al 0)), (1, .int (nI n)), (2, .int y)]) E dX1_areMeansKnown_1 rfl (by decide) rfl (pc' := 2) rfl ?_
  refine zw_iload_n (i := 3) (x := 0) E 0 dX1_areMeansKnown_2 rfl rfl (pc' := 3) rfl ?_
  refine zw_iconst (v := 3) E dX1_areMeansKnown_3 (by decide) (pc' := 4) rfl ?_
  refine zw_icmp_ge (tgt := 41) E dX1_areMeansKnown_4 (by decide) (pc' := 7) rfl (fun c9 => absurd c9 (by decide)) (fun _ => ?_)
  refine zw_aload_n (i := 0) (x := al 0) E 1 dX1_areMeansKnown_7 rfl rfl (pc' := 8) rfl ?_
  refine zw_get (v := .ref (al 10)) E 0 10 iX1_areMeansKnown_X1 fX1_areMeansKnown_43 rfl rfl (by decide) rfl rfl dX1_areMeansKnown_8 (pc' := 11) rfl ?_
  refine zw_iload_n (i := 3) (x := 0) E 0 dX1_areMeansKnown_11 rfl rfl (pc' := 12) rfl ?_
  refine zw_aload_n (i := 0) (x := al 0) E 1 dX1_areMeansKnown_12 rfl rfl (pc' := 13) rfl ?_
  refine zw_get (v := .ref (ab 0)) E 0 0 iX1_areMeansKnown_X1 fX1_areMeansKnown_46 rfl rfl (by decide) rfl rfl dX1_areMeansKnown_13 (pc' := 16) rfl ?_
  refine zw_iload_n (i := 1) (x := nI n) E 2 dX1_areMeansKnown_16 rfl rfl (pc' := 17) rfl ?_
  refine zw_iload_n (i := 2) (x := y) E 3 dX1_areMeansKnown_17 rfl rfl (pc' := 18) rfl ?_
  refine zw_iload_n (i := 3) (x := 0) E 0 dX1_areMeansKnown_18 rfl rfl (pc' := 19) rfl ?_
  refine zw_callIv E (r := bk_mean b n y 0) (As := [.int (nI n), .int y, .int 0]) (rest := [.int 0, .ref (al 10)]) (ws' := (lb_W K al ab d b)) (qX0_mean l D K ab b n hn y 0) (cwV 3 E.2.2.2.2.1 gX1_areMeansKnown_X0_mean rfl rfl rfl (by decide +kernel) ⟨Nat.le_of_ble_eq_true rfl, Nat.le_of_ble_eq_true rfl⟩) 0 rfl rfl rfl [14, 15, 16, 17, 18, 19, 20, 21, 22, 23, 24, 25] (by decide) emC_lb_b rfl (zw_put_same _ _ _ emC_lb_b) rfl rfl (Nat.le_of_ble_eq_true rfl) ⟨Nat.zero_le _, Nat.zero_le _⟩ dX1_areMeansKnown_19 (pc' := 22) rfl ?_
  refine zw_iast (j := 0) (ws' := (lb_W K al ab (ld_row d 6 0 (bk_mean b n y 0)) b)) E 10 0 rfl rfl (vp_in_nI (n := 0) (N := 3) (by decide) (by decide)) rfl rfl dX1_areMeansKnown_22 (pc' := 23) rfl ?_
  refine zw_gen_lb_d (ld_row d 6 0 (bk_mean b n y 0)) (fun d_1 hg_1 => ?_)
  refine zw_aload_n (i := 0) (x := al 0) E 1 dX1_areMeansKnown_23 rfl rfl (pc' := 24) rfl ?_
  refine zw_get (v := .ref (al 10)) E 0 10 iX1_areMeansKnown_X1 fX1_areMeansKnown_43 rfl rfl (by decide) rfl rfl dX1_areMeansKnown_24 (pc' := 27) rfl ?_
  refine zw_iload_n (i := 3) (x := 0) E 0 dX1_areMeansKnown_27 rfl rfl (pc' := 28) rfl ?_
  refine zw_iald (j := 0) (x := d_1.1 6 0) E 10 0 rfl rfl (vp_in_nI (n := 0) (N := 3) (by decide) (by decide)) rfl rfl dX1_areMeansKnown_28 (pc' := 29) rfl ?_
  refine zw_topi (x' := bk_mean b n y 0) (by rw [← hg_1]; exact ld_row_same _ _ _ _) ?_
  refine zw_iconst (v := (-1)) E dX1_areMeansKnown_29 (by decide) (pc' := 30) rfl ?_
  refine zw_icmp_ne (tgt := 35) E dX1_areMeansKnown_30 (by decide) (pc' := 33) rfl (fun c_1 => ?_) (fun c_1 => ?_)
  · skip
    refine zw_iinc (x := 0) (v := 1) (lv' := [(3, .int 1), (0, .ref (al 0)), (1, .int (nI n)), (2, .int y)]) E 0 dX1_areMeansKnown_35 rfl (by decide) (by decide) rfl (pc' := 38) rfl ?_
    refine zw_goto (tgt := 2) E dX1_areMeansKnown_38 (by decide) ?_
    refine zw_iload_n (i := 3) (x := 1) E 0 dX1_areMeansKnown_2 rfl rfl (pc' := 3) rfl ?_
    refine zw_iconst (v := 3) E dX1_areMeansKnown_3 (by decide) (pc' := 4) rfl ?_
    refine zw_icmp_ge (tgt := 41) E dX1_areMeansKnown_4 (by decide) (pc' := 7) rfl (fun c9 => absurd c9 (by decide)) (fun _ => ?_)
    refine zw_aload_n (i := 0) (x := al 0) E 1 dX1_areMeansKnown_7 rfl rfl (pc' := 8) rfl ?_
    refine zw_get (v := .ref (al 10)) E 0 10 iX1_areMeansKnown_X1 fX1_areMeansKnown_43 rfl rfl (by decide) rfl rfl dX1_areMeansKnown_8 (pc' := 11) rfl ?_
    refine zw_iload_n (i := 3) (x := 1) E 0 dX1_areMeansKnown_11 rfl rfl (pc' := 12) rfl ?_
    refine zw_aload_n (i := 0) (x := al 0) E 1 dX1_areMeansKnown_12 rfl rfl (pc' := 13) rfl ?_
    refine zw_get (v := .ref (ab 0)) E 0 0 iX1_areMeansKnown_X1 fX1_areMeansKnown_46 rfl rfl (by decide) rfl rfl dX1_areMeansKnown_13 (pc' := 16) rfl ?_
    refine zw_iload_n (i := 1) (x := nI n) E 2 dX1_areMeansKnown_16 rfl rfl (pc' := 17) rfl ?_
    refine zw_iload_n (i := 2) (x := y) E 3 dX1_areMeansKnown_17 rfl rfl (pc' := 18) rfl ?_
    refine zw_iload_n (i := 3) (x := 1) E 0 dX1_areMeansKnown_18 rfl rfl (pc' := 19) rfl ?_
    refine zw_callIv E (r := bk_mean b n y 1) (As := [.int (nI n), .int y, .int 1]) (rest := [.int 1, .ref (al 10)]) (ws' := (lb_W K al ab d_1 b)) (qX0_mean l D K ab b n hn y 1) (cwV 3 E.2.2.2.2.1 gX1_areMeansKnown_X0_mean rfl rfl rfl (by decide +kernel) ⟨Nat.le_of_ble_eq_true rfl, Nat.le_of_ble_eq_true rfl⟩) 0 rfl rfl rfl [14, 15, 16, 17, 18, 19, 20, 21, 22, 23, 24, 25] (by decide) emC_lb_b rfl (zw_put_same _ _ _ emC_lb_b) rfl rfl (Nat.le_of_ble_eq_true rfl) ⟨Nat.zero_le _, Nat.zero_le _⟩ dX1_areMeansKnown_19 (pc' := 22) rfl ?_
    refine zw_iast (j := 1) (ws' := (lb_W K al ab (ld_row d_1 6 1 (bk_mean b n y 1)) b)) E 10 0 rfl rfl (vp_in_nI (n := 1) (N := 3) (by decide) (by decide)) rfl rfl dX1_areMeansKnown_22 (pc' := 23) rfl ?_
    refine zw_gen_lb_d (ld_row d_1 6 1 (bk_mean b n y 1)) (fun d_2 hg_2 => ?_)
    refine zw_aload_n (i := 0) (x := al 0) E 1 dX1_areMeansKnown_23 rfl rfl (pc' := 24) rfl ?_
    refine zw_get (v := .ref (al 10)) E 0 10 iX1_areMeansKnown_X1 fX1_areMeansKnown_43 rfl rfl (by decide) rfl rfl dX1_areMeansKnown_24 (pc' := 27) rfl ?_
    refine zw_iload_n (i := 3) (x := 1) E 0 dX1_areMeansKnown_27 rfl rfl (pc' := 28) rfl ?_
    refine zw_iald (j := 1) (x := d_2.1 6 1) E 10 0 rfl rfl (vp_in_nI (n := 1) (N := 3) (by decide) (by decide)) rfl rfl dX1_areMeansKnown_28 (pc' := 29) rfl ?_
    refine zw_topi (x' := bk_mean b n y 1) (by rw [← hg_2]; exact ld_row_same _ _ _ _) ?_
    refine zw_iconst (v := (-1)) E dX1_areMeansKnown_29 (by decide) (pc' := 30) rfl ?_
    refine zw_icmp_ne (tgt := 35) E dX1_areMeansKnown_30 (by decide) (pc' := 33) rfl (fun c_2 => ?_) (fun c_2 => ?_)
    · skip
      refine zw_iinc (x := 1) (v := 2) (lv' := [(3, .int 2), (0, .ref (al 0)), (1, .int (nI n)), (2, .int y)]) E 0 dX1_areMeansKnown_35 rfl (by decide) (by decide) rfl (pc' := 38) rfl ?_
      refine zw_goto (tgt := 2) E dX1_areMeansKnown_38 (by decide) ?_
      refine zw_iload_n (i := 3) (x := 2) E 0 dX1_areMeansKnown_2 rfl rfl (pc' := 3) rfl ?_
      refine zw_iconst (v := 3) E dX1_areMeansKnown_3 (by decide) (pc' := 4) rfl ?_
      refine zw_icmp_ge (tgt := 41) E dX1_areMeansKnown_4 (by decide) (pc' := 7) rfl (fun c9 => absurd c9 (by decide)) (fun _ => ?_)
      refine zw_aload_n (i := 0) (x := al 0) E 1 dX1_areMeansKnown_7 rfl rfl (pc' := 8) rfl ?_
      refine zw_get (v := .ref (al 10)) E 0 10 iX1_areMeansKnown_X1 fX1_areMeansKnown_43 rfl rfl (by decide) rfl rfl dX1_areMeansKnown_8 (pc' := 11) rfl ?_
      refine zw_iload_n (i := 3) (x := 2) E 0 dX1_areMeansKnown_11 rfl rfl (pc' := 12) rfl ?_
      refine zw_aload_n (i := 0) (x := al 0) E 1 dX1_areMeansKnown_12 rfl rfl (pc' := 13) rfl ?_
      refine zw_get (v := .ref (ab 0)) E 0 0 iX1_areMeansKnown_X1 fX1_areMeansKnown_46 rfl rfl (by decide) rfl rfl dX1_areMeansKnown_13 (pc' := 16) rfl ?_
      refine zw_iload_n (i := 1) (x := nI n) E 2 dX1_areMeansKnown_16 rfl rfl (pc' := 17) rfl ?_
      refine zw_iload_n (i := 2) (x := y) E 3 dX1_areMeansKnown_17 rfl rfl (pc' := 18) rfl ?_
      refine zw_iload_n (i := 3) (x := 2) E 0 dX1_areMeansKnown_18 rfl rfl (pc' := 19) rfl ?_
      refine zw_callIv E (r := bk_mean b n y 2) (As := [.int (nI n), .int y, .int 2]) (rest := [.int 2, .ref (al 10)]) (ws' := (lb_W K al ab d_2 b)) (qX0_mean l D K ab b n hn y 2) (cwV 3 E.2.2.2.2.1 gX1_areMeansKnown_X0_mean rfl rfl rfl (by decide +kernel) ⟨Nat.le_of_ble_eq_true rfl, Nat.le_of_ble_eq_true rfl⟩) 0 rfl rfl rfl [14, 15, 16, 17, 18, 19, 20, 21, 22, 23, 24, 25] (by decide) emC_lb_b rfl (zw_put_same _ _ _ emC_lb_b) rfl rfl (Nat.le_of_ble_eq_true rfl) ⟨Nat.zero_le _, Nat.zero_le _⟩ dX1_areMeansKnown_19 (pc' := 22) rfl ?_
      refine zw_iast (j := 2) (ws' := (lb_W K al ab (ld_row d_2 6 2 (bk_mean b n y 2)) b)) E 10 0 rfl rfl (vp_in_nI (n := 2) (N := 3) (by decide) (by decide)) rfl rfl dX1_areMeansKnown_22 (pc' := 23) rfl ?_
      refine zw_gen_lb_d (ld_row d_2 6 2 (bk_mean b n y 2)) (fun d_3 hg_3 => ?_)
      refine zw_aload_n (i := 0) (x := al 0) E 1 dX1_areMeansKnown_23 rfl rfl (pc' := 24) rfl ?_
      refine zw_get (v := .ref (al 10)) E 0 10 iX1_areMeansKnown_X1 fX1_areMeansKnown_43 rfl rfl (by decide) rfl rfl dX1_areMeansKnown_24 (pc' := 27) rfl ?_
      refine zw_iload_n (i := 3) (x := 2) E 0 dX1_areMeansKnown_27 rfl rfl (pc' := 28) rfl ?_
      refine zw_iald (j := 2) (x := d_3.1 6 2) E 10 0 rfl rfl (vp_in_nI (n := 2) (N := 3) (by decide) (by decide)) rfl rfl dX1_areMeansKnown_28 (pc' := 29) rfl ?_
      refine zw_topi (x' := bk_mean b n y 2) (by rw [← hg_3]; exact ld_row_same _ _ _ _) ?_
      refine zw_iconst (v := (-1)) E dX1_areMeansKnown_29 (by decide) (pc' := 30) rfl ?_
      refine zw_icmp_ne (tgt := 35) E dX1_areMeansKnown_30 (by decide) (pc' := 33) rfl (fun c_3 => ?_) (fun c_3 => ?_)
      · skip
        refine zw_iinc (x := 2) (v := 3) (lv' := [(3, .int 3), (0, .ref (al 0)), (1, .int (nI n)), (2, .int y)]) E 0 dX1_areMeansKnown_35 rfl (by decide) (by decide) rfl (pc' := 38) rfl ?_
        refine zw_goto (tgt := 2) E dX1_areMeansKnown_38 (by decide) ?_
        refine zw_iload_n (i := 3) (x := 3) E 0 dX1_areMeansKnown_2 rfl rfl (pc' := 3) rfl ?_
        refine zw_iconst (v := 3) E dX1_areMeansKnown_3 (by decide) (pc' := 4) rfl ?_
        refine zw_icmp_ge (tgt := 41) E dX1_areMeansKnown_4 (by decide) (pc' := 7) rfl (fun _ => ?_) (fun c9 => absurd (by decide) c9)
        refine zw_iconst (v := 1) E dX1_areMeansKnown_41 (by decide) (pc' := 42) rfl ?_
        exact zw_zret E hr hlk dX1_areMeansKnown_42 rfl (zb_t ⟨c_1, c_2, c_3⟩).symm (by subst hg_1 hg_2 hg_3; unfold ld_means; rw [if_neg c_1, if_neg c_2]; rfl)
      · skip
        refine zw_iconst (v := 0) E dX1_areMeansKnown_33 (by decide) (pc' := 34) rfl ?_
        exact zw_zret E hr hlk dX1_areMeansKnown_34 rfl (zb_f (fun h => h.2.2 c_3)).symm (by subst hg_1 hg_2 hg_3; unfold ld_means; rw [if_neg c_1, if_neg c_2]; rfl)
    · skip
      refine zw_iconst (v := 0) E dX1_areMeansKnown_33 (by decide) (pc' := 34) rfl ?_
      exact zw_zret E hr hlk dX1_areMeansKnown_34 rfl (zb_f (fun h => h.2.1 c_2)).symm (by subst hg_1 hg_2; unfold ld_means; rw [if_neg c_1, if_pos c_2]; rfl)
  · skip
    refine zw_iconst (v := 0) E dX1_areMeansKnown_33 (by decide) (pc' := 34) rfl ?_
    exact zw_zret E hr hlk dX1_areMeansKnown_34 rfl (zb_f (fun h => h.1 c_1)).symm (by subst hg_1; unfold ld_means; rw [if_pos c_1]; rfl)

def ch_all (d : Ld) : Nat → Ld
  | 0 => d
  | k + 1 => ld_charge (ch_all d k) k
def ld_settle (d : Ld) (b : Bk) (q : Int32) (k : Nat) (y : Int32) : Ld := ld_set (ch_all (ld_share (ld_means (wst d 60) b k y) q (wsum d 60)) 60) 1
def r_settle (d : Ld) (b : Bk) (k : Nat) (y : Int32) : Int32 := if d.2.2 = 0 then if wsum d 60 ≤ 0 then 0 else if means_known b k y then 1 else 0 else 0
def d_settle (d : Ld) (b : Bk) (q : Int32) (k : Nat) (y : Int32) : Ld := if d.2.2 = 0 then if wsum d 60 ≤ 0 then wst d 60 else if means_known b k y then ld_settle d b q k y else ld_means (wst d 60) b k y else wst d 60
theorem fX1_trySettle_50 : Cond.fieldLink RX1 50 "TitheMap$Land" "settled" "Z" ∈ wsX1_trySettle := by decide +kernel
theorem iX1_trySettle_X1 : ∀ w ∈ wsX10, w ∈ wsX1_trySettle := by decide +kernel
set_option maxHeartbeats 4000000 in
set_option maxRecDepth 100000 in
theorem lX1_trySettle {l : Launch} {D : va_G} {K : Nat → ClassId} {p : Program} {e : Env} {s : State} {m : MethodId} {below : List Frame} {meth : Method} {c : Code} {A : Nat → Prop} {args : Array Value} (E : zw_E p s m args c cX1_trySettle 7 RX1 wsX1_trySettle D (zT K) A) (hr : meth.sig.returnType = (some .boolean)) (hlk : meth.locks = false) (al ab : Nat → Nat) (d : Ld) (b : Bk) (q : Int32) (n : Nat) (y : Int32) (t : Int64) : ∀ (fu k : Nat), k ≤ 60 → 60 + 1 ≤ k + fu → zw_W p l e rmX1_trySettle s m args below meth c 7 D A 0 0 (zw_Qi D A below args s 1 (lb_W K al ab (ld_set (ch_all d 60) 1) b)) 41 [(0, .ref (al 0)), (1, .int q), (2, .int (nI n)), (3, .int y), (4, .long t), (6, .int (nI k))] [] (lb_W K al ab (ch_all d k) b) := by
  intro fu
  induction fu with
  | zero => intro k h1 h2; exact absurd h2 (by omega)
  | succ fu ih =>
    intro k hle hfu
    refine zw_iload (x := nI k) E 5 dX1_trySettle_41 rfl (pc' := 43) rfl ?_
    refine zw_bipush (v := 60) E dX1_trySettle_43 (by decide) (pc' := 45) rfl ?_
    refine zw_icmp_ge (tgt := 60) E dX1_trySettle_45 (by decide) (pc' := 48) rfl (fun c_1 => ?_) (fun c_1 => ?_)
    · skip
      have hk60 : k = 60 := zw_ge60 c_1 hle
      refine zw_aload_n (i := 0) (x := al 0) E 0 dX1_trySettle_60 rfl rfl (pc' := 61) rfl ?_
      refine zw_iconst (v := 1) E dX1_trySettle_61 (by decide) (pc' := 62) rfl ?_
      refine zw_putf (v := .int 1) (ty := .boolean) (ws' := (lb_W K al ab (ld_set (ch_all d k) 1) b)) E 0 11 iX1_trySettle_X1 tyX1_ok nmX1 fX1_trySettle_50 rfl rfl (by decide) rfl rfl rfl rfl rfl (Nat.le_of_ble_eq_true rfl) rfl dX1_trySettle_62 (pc' := 65) rfl ?_
      refine zw_iconst (v := 1) E dX1_trySettle_65 (by decide) (pc' := 66) rfl ?_
      exact zw_zret E hr hlk dX1_trySettle_66 rfl rfl (by rw [hk60])
    · skip
      have hk : k < 60 := zw_lt60 c_1 hle
      refine zw_aload_n (i := 0) (x := al 0) E 0 dX1_trySettle_48 rfl rfl (pc' := 49) rfl ?_
      refine zw_iload (x := nI k) E 5 dX1_trySettle_49 rfl (pc' := 51) rfl ?_
      refine zw_callVv E (As := [.int (nI k)]) (rest := []) (ws' := (lb_W K al ab (ld_charge (ch_all d k) k) b)) (qX1_chargeShare l D K al (ab 0) (ch_all d k) k hk) (cwV 1 E.2.2.2.2.1 gX1_trySettle_X1_chargeShare rfl rfl rfl (by decide +kernel) ⟨Nat.le_of_ble_eq_true rfl, Nat.le_of_ble_eq_true rfl⟩) 0 rfl rfl rfl [0, 1, 2, 3, 4, 5, 6, 7, 8, 9, 10, 11, 12, 13] (by decide) emC_lb_d (ld_ad _ _ _ _ _) emP_lb_d rfl rfl (Nat.le_of_ble_eq_true rfl) ⟨Nat.zero_le _, Nat.zero_le _⟩ dX1_trySettle_51 (pc' := 54) rfl ?_
      refine zw_iinc (x := nI k) (v := nI (k + 1)) (lv' := [(6, .int (nI (k + 1))), (0, .ref (al 0)), (1, .int q), (2, .int (nI n)), (3, .int y), (4, .long t)]) E 5 dX1_trySettle_54 rfl (zw_inc1 k) (by decide) rfl (pc' := 57) rfl ?_
      refine zw_goto (tgt := 41) E dX1_trySettle_57 (by decide) ?_
      refine zw_sub [1, 2, 3, 4, 5, 0] (lv' := [(0, .ref (al 0)), (1, .int q), (2, .int (nI n)), (3, .int y), (4, .long t), (6, .int (nI (k + 1)))]) rfl ?_
      exact ih (k + 1) (by omega) (by omega)

set_option maxHeartbeats 4000000 in
set_option maxRecDepth 100000 in
/-- trySettle(pence, k, year) -/
theorem qX1_trySettle (l : Launch) (D : va_G) (K : Nat → ClassId) (al ab : Nat → Nat) (d : Ld) (b : Bk) (q : Int32) (n : Nat) (hn : n ≤ 80) (y : Int32) : zw_I l yX1_trySettle wsX1_trySettle rmX1_trySettle D (zT K) [.ref (al 0), .int q, .int (nI n), .int y] (lb_W K al ab d b) (r_settle d b n y) (lb_W K al ab (d_settle d b q n y) b) := by
  refine zw_ofI (cc := cX1_trySettle) (nL := 7) (ret := (some .boolean)) (own := RX1) (lv := [(0, .ref (al 0)), (1, .int q), (2, .int (nI n)), (3, .int y)]) (by decide) rfl (Nat.le_of_ble_eq_true rfl) rfl rfl ?_
  intro p e s m below meth c A E hr hlk
  refine zw_aload_n (i := 0) (x := al 0) E 0 dX1_trySettle_0 rfl rfl (pc' := 1) rfl ?_
  refine zw_callLv E (r := wsum d 60) (As := []) (rest := []) (ws' := (lb_W K al ab (wst d 60) b)) (qX1_weighAll l D K al (ab 0) d ) (cwV 0 E.2.2.2.2.1 gX1_trySettle_X1_weighAll rfl rfl rfl (by decide +kernel) ⟨Nat.le_of_ble_eq_true rfl, Nat.le_of_ble_eq_true rfl⟩) 0 rfl rfl rfl [0, 1, 2, 3, 4, 5, 6, 7, 8, 9, 10, 11, 12, 13] (by decide) emC_lb_d (ld_ad _ _ _ _ _) emP_lb_d rfl rfl (Nat.le_of_ble_eq_true rfl) ⟨Nat.zero_le _, Nat.zero_le _⟩ dX1_trySettle_1 (pc' := 4) rfl ?_
  refine zw_lstore (lv' := [(4, .long (wsum d 60)), (0, .ref (al 0)), (1, .int q), (2, .int (nI n)), (3, .int y)]) E dX1_trySettle_4 (by decide) rfl (pc' := 6) rfl ?_
  refine zw_aload_n (i := 0) (x := al 0) E 1 dX1_trySettle_6 rfl rfl (pc' := 7) rfl ?_
  refine zw_get (v := .int ((wst d 60).2.2)) E 0 11 iX1_trySettle_X1 fX1_trySettle_50 rfl rfl (by decide) rfl rfl dX1_trySettle_7 (pc' := 10) rfl ?_
  refine zw_topi (x' := d.2.2) rfl ?_
  refine zw_if_ne (tgt := 29) E dX1_trySettle_10 (by decide) (pc' := 13) rfl (fun c_1 => ?_) (fun c_1 => ?_)
  · skip
    refine zw_iconst (v := 0) E dX1_trySettle_29 (by decide) (pc' := 30) rfl ?_
    exact zw_zret E hr hlk dX1_trySettle_30 rfl (by unfold r_settle; rw [if_neg c_1]) (by unfold d_settle; rw [if_neg c_1])
  · skip
    refine zw_lload (x := wsum d 60) E 0 dX1_trySettle_13 rfl (pc' := 15) rfl ?_
    refine zw_lconst (v := 0) E dX1_trySettle_15 (by decide) (pc' := 16) rfl ?_
    refine zw_lcmp E dX1_trySettle_16 (pc' := 17) rfl ?_
    refine zw_ifl_le (tgt := 29) E dX1_trySettle_17 (by decide) (pc' := 20) rfl (fun c_2 => ?_) (fun c_2 => ?_)
    · skip
      refine zw_iconst (v := 0) E dX1_trySettle_29 (by decide) (pc' := 30) rfl ?_
      exact zw_zret E hr hlk dX1_trySettle_30 rfl (by unfold r_settle; rw [if_pos c_1, if_pos c_2]) (by unfold d_settle; rw [if_pos c_1, if_pos c_2])
    · skip
      refine zw_aload_n (i := 0) (x := al 0) E 1 dX1_trySettle_20 rfl rfl (pc' := 21) rfl ?_
      refine zw_iload_n (i := 2) (x := nI n) E 3 dX1_trySettle_21 rfl rfl (pc' := 22) rfl ?_
      refine zw_iload_n (i := 3) (x := y) E 4 dX1_trySettle_22 rfl rfl (pc' := 23) rfl ?_
      refine zw_callIw E (r := zb (means_known b n y)) (As := [.int (nI n), .int y]) (rest := []) (ws' := (lb_W K al ab (ld_means (wst d 60) b n y) b)) (qX1_areMeansKnown l D K al ab (wst d 60) b n hn y) (cwV 2 E.2.2.2.2.1 gX1_trySettle_X1_areMeansKnown rfl rfl rfl (by decide +kernel) ⟨Nat.le_of_ble_eq_true rfl, Nat.le_of_ble_eq_true rfl⟩) 0 rfl rfl rfl (lb_ad _ _ _ _ _ _ _) rfl rfl (Nat.le_of_ble_eq_true rfl) ⟨Nat.zero_le _, Nat.zero_le _⟩ dX1_trySettle_23 (pc' := 26) rfl ?_
      refine zw_ifb_ne (tgt := 31) E dX1_trySettle_26 (by decide) (pc' := 29) rfl (fun c_3 => ?_) (fun c_3 => ?_)
      · skip
        refine zw_aload_n (i := 0) (x := al 0) E 1 dX1_trySettle_31 rfl rfl (pc' := 32) rfl ?_
        refine zw_iload_n (i := 1) (x := q) E 2 dX1_trySettle_32 rfl rfl (pc' := 33) rfl ?_
        refine zw_lload (x := wsum d 60) E 0 dX1_trySettle_33 rfl (pc' := 35) rfl ?_
        refine zw_callVv E (As := [.int q, .long (wsum d 60)]) (rest := []) (ws' := (lb_W K al ab (ld_share (ld_means (wst d 60) b n y) q (wsum d 60)) b)) (qX1_shareOut l D K al (ab 0) (ld_means (wst d 60) b n y) q (wsum d 60) c_2) (cwV 2 E.2.2.2.2.1 gX1_trySettle_X1_shareOut rfl rfl rfl (by decide +kernel) ⟨Nat.le_of_ble_eq_true rfl, Nat.le_of_ble_eq_true rfl⟩) 0 rfl rfl rfl [0, 1, 2, 3, 4, 5, 6, 7, 8, 9, 10, 11, 12, 13] (by decide) emC_lb_d (ld_ad _ _ _ _ _) emP_lb_d rfl rfl (Nat.le_of_ble_eq_true rfl) ⟨Nat.zero_le _, Nat.zero_le _⟩ dX1_trySettle_35 (pc' := 38) rfl ?_
        refine zw_iconst (v := 0) E dX1_trySettle_38 (by decide) (pc' := 39) rfl ?_
        refine zw_istore (lv' := [(6, .int 0), (4, .long (wsum d 60)), (0, .ref (al 0)), (1, .int q), (2, .int (nI n)), (3, .int y)]) E dX1_trySettle_39 (by decide) rfl (pc' := 41) rfl ?_
        have e1 : r_settle d b n y = 1 := by unfold r_settle; rw [if_pos c_1, if_neg c_2, if_pos c_3]
        have e2 : d_settle d b q n y = ld_settle d b q n y := by unfold d_settle; rw [if_pos c_1, if_neg c_2, if_pos c_3]
        rw [e1, e2]
        refine zw_sub [2, 3, 4, 5, 1, 0] (lv' := [(0, .ref (al 0)), (1, .int q), (2, .int (nI n)), (3, .int y), (4, .long (wsum d 60)), (6, .int 0)]) rfl ?_
        exact lX1_trySettle E hr hlk al ab _ b q n y _ 61 0 (by omega) (by omega)
      · skip
        refine zw_iconst (v := 0) E dX1_trySettle_29 (by decide) (pc' := 30) rfl ?_
        exact zw_zret E hr hlk dX1_trySettle_30 rfl (by unfold r_settle; rw [if_pos c_1, if_neg c_2, if_neg c_3]) (by unfold d_settle; rw [if_pos c_1, if_neg c_2, if_neg c_3])
