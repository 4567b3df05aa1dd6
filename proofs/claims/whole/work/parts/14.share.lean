/-! the land: weighAll, greatestRemainder, shareOut, chargeShare -/
theorem zw_ge60 {k : Nat} (h : (60 : Int32) ≤ nI k) (hk : k ≤ 60) : k = 60 := Nat.le_antisymm hk ((nI_leI (a := 60) (by decide) (by omega)).mp h)
theorem zw_lt60 {k : Nat} (h : ¬ (60 : Int32) ≤ nI k) (hk : k ≤ 60) : k < 60 := Nat.lt_of_not_le (fun q => h (nI_le (a := 60) q (by omega)))
theorem ld_row_same (d : Ld) (r i : Nat) (x : Int32) : (ld_row d r i x).1 r i = x := by simp [ld_row, up2, upd]
theorem ld_rowL_same (d : Ld) (r i : Nat) (x : Int64) : (ld_rowL d r i x).2.1 r i = x := by simp [ld_rowL, up2L, vp_updL]
/-- a field's weight in the sharing out -/
def wt (d : Ld) (f : Nat) : Int64 := if d.1 0 f = 0 then 0 else (d.1 1 f).toInt64 * (3 - d.1 2 f).toInt64
def wsum (d : Ld) : Nat → Int64
  | 0 => 0
  | k + 1 => wsum d k + wt d k
def wst (d : Ld) (k : Nat) : Ld := (d.1, (fun r => if r = 0 then (fun f => if f < k then wt d f else d.2.1 0 f) else d.2.1 r), d.2.2)
theorem wst_0 (d : Ld) : wst d 0 = d := by
  refine Prod.ext rfl (Prod.ext (funext fun r => ?_) rfl)
  show (if r = 0 then (fun f => if f < 0 then wt d f else d.2.1 0 f) else d.2.1 r) = d.2.1 r
  by_cases h : r = 0
  · subst h
    rw [if_pos rfl]
    funext f
    rw [if_neg (Nat.not_lt_zero f)]
  · rw [if_neg h]
theorem wst_succ (d : Ld) (k : Nat) (x : Int64) (h : wt d k = x) : ld_rowL (wst d k) 0 k x = wst d (k + 1) := by
  subst h
  refine Prod.ext rfl (Prod.ext (funext fun r => ?_) rfl)
  show (if r = 0 then vp_updL ((wst d k).2.1 0) k (wt d k) else (wst d k).2.1 r) = (if r = 0 then (fun f => if f < k + 1 then wt d f else d.2.1 0 f) else d.2.1 r)
  by_cases h : r = 0
  · subst h
    rw [if_pos rfl, if_pos rfl]
    funext f
    show (if f = k then wt d k else (if f < k then wt d f else d.2.1 0 f)) = _
    by_cases h1 : f = k
    · subst h1
      rw [if_pos rfl, if_pos (Nat.lt_succ_self f)]
    · rw [if_neg h1]
      by_cases h2 : f < k
      · rw [if_pos h2, if_pos (by omega)]
      · rw [if_neg h2, if_neg (by omega)]
  · rw [if_neg h, if_neg h]
    show (if r = 0 then _ else _) = _
    rw [if_neg h]
theorem fX1_weighAll_15 : Cond.fieldLink RX1 15 "TitheMap$Land" "area" "[I" ∈ wsX1_weighAll := by decide +kernel
theorem fX1_weighAll_19 : Cond.fieldLink RX1 19 "TitheMap$Land" "kind" "[I" ∈ wsX1_weighAll := by decide +kernel
theorem fX1_weighAll_33 : Cond.fieldLink RX1 33 "TitheMap$Land" "weight" "[J" ∈ wsX1_weighAll := by decide +kernel
theorem fX1_weighAll_9 : Cond.fieldLink RX1 9 "TitheMap$Land" "there" "[Z" ∈ wsX1_weighAll := by decide +kernel
theorem iX1_weighAll_X1 : ∀ w ∈ wsX10, w ∈ wsX1_weighAll := by decide +kernel
set_option maxHeartbeats 4000000 in
set_option maxRecDepth 100000 in
theorem lX1_weighAll {l : Launch} {D : va_G} {K : Nat → ClassId} {p : Program} {e : Env} {s : State} {m : MethodId} {below : List Frame} {meth : Method} {c : Code} {A : Nat → Prop} {args : Array Value} (E : zw_E p s m args c cX1_weighAll 4 RX1 wsX1_weighAll D (zT K) A) (hr : meth.sig.returnType = (some .long)) (hlk : meth.locks = false) (al : Nat → Nat) (bq : Nat) (d : Ld) : ∀ (fu k : Nat), k ≤ 60 → 60 + 1 ≤ k + fu → zw_W p l e rmX1_weighAll s m args below meth c 4 D A 0 0 (zw_Ql D A below args s (wsum d 60) (ld_W K al bq (wst d 60))) 4 [(0, .ref (al 0)), (1, .long (wsum d k)), (3, .int (nI k))] [] (ld_W K al bq (wst d k)) := by
  intro fu
  induction fu with
  | zero => intro k h1 h2; exact absurd h2 (by omega)
  | succ fu ih =>
    intro k hle hfu
    refine zw_iload_n (i := 3) (x := nI k) E 2 dX1_weighAll_4 rfl rfl (pc' := 5) rfl ?_
    refine zw_bipush (v := 60) E dX1_weighAll_5 (by decide) (pc' := 7) rfl ?_
    refine zw_icmp_ge (tgt := 61) E dX1_weighAll_7 (by decide) (pc' := 10) rfl (fun c_1 => ?_) (fun c_1 => ?_)
    · skip
      have hk60 : k = 60 := zw_ge60 c_1 hle
      refine zw_lload_n (i := 1) (x := wsum d k) E 1 dX1_weighAll_61 rfl rfl (pc' := 62) rfl ?_
      exact zw_lret E hr hlk dX1_weighAll_62 (by rw [hk60]) (by rw [hk60])
    · skip
      have hk : k < 60 := zw_lt60 c_1 hle
      refine zw_aload_n (i := 0) (x := al 0) E 0 dX1_weighAll_10 rfl rfl (pc' := 11) rfl ?_
      refine zw_get (v := .ref (al 7)) E 0 7 iX1_weighAll_X1 fX1_weighAll_33 rfl rfl (by decide) rfl rfl dX1_weighAll_11 (pc' := 14) rfl ?_
      refine zw_iload_n (i := 3) (x := nI k) E 2 dX1_weighAll_14 rfl rfl (pc' := 15) rfl ?_
      refine zw_aload_n (i := 0) (x := al 0) E 0 dX1_weighAll_15 rfl rfl (pc' := 16) rfl ?_
      refine zw_get (v := .ref (al 1)) E 0 1 iX1_weighAll_X1 fX1_weighAll_9 rfl rfl (by decide) rfl rfl dX1_weighAll_16 (pc' := 19) rfl ?_
      refine zw_iload_n (i := 3) (x := nI k) E 2 dX1_weighAll_19 rfl rfl (pc' := 20) rfl ?_
      refine zw_zald (j := k) (x := (wst d k).1 0 k) E 1 1 rfl rfl (vp_in_nI hk (by decide)) (zw_clamp hk (by decide)) rfl dX1_weighAll_20 (pc' := 21) rfl ?_
      refine zw_topi (x' := d.1 0 k) rfl ?_
      refine zw_if_eq (tgt := 44) E dX1_weighAll_21 (by decide) (pc' := 24) rfl (fun c_2 => ?_) (fun c_2 => ?_)
      · skip
        refine zw_lconst (v := 0) E dX1_weighAll_44 (by decide) (pc' := 45) rfl ?_
        refine zw_last (j := k) (ws' := (ld_W K al bq (ld_rowL (wst d k) 0 k 0))) E 7 2 rfl rfl (vp_in_nI hk (by decide)) (zw_clamp hk (by decide)) rfl dX1_weighAll_45 (pc' := 46) rfl ?_
        refine zw_lload_n (i := 1) (x := wsum d k) E 1 dX1_weighAll_46 rfl rfl (pc' := 47) rfl ?_
        refine zw_aload_n (i := 0) (x := al 0) E 0 dX1_weighAll_47 rfl rfl (pc' := 48) rfl ?_
        refine zw_get (v := .ref (al 7)) E 0 7 iX1_weighAll_X1 fX1_weighAll_33 rfl rfl (by decide) rfl rfl dX1_weighAll_48 (pc' := 51) rfl ?_
        refine zw_iload_n (i := 3) (x := nI k) E 2 dX1_weighAll_51 rfl rfl (pc' := 52) rfl ?_
        refine zw_lald (j := k) (x := (ld_rowL (wst d k) 0 k 0).2.1 0 k) E 7 2 rfl rfl (vp_in_nI hk (by decide)) (zw_clamp hk (by decide)) rfl dX1_weighAll_52 (pc' := 53) rfl ?_
        refine zw_topl (x' := 0) (ld_rowL_same _ _ _ _) ?_
        refine zw_ladd E dX1_weighAll_53 (pc' := 54) rfl ?_
        refine zw_lstore_n (lv' := [(1, .long ((wsum d k) + 0)), (0, .ref (al 0)), (3, .int (nI k))]) E dX1_weighAll_54 rfl (by decide) rfl (pc' := 55) rfl ?_
        refine zw_iinc (x := nI k) (v := nI (k + 1)) (lv' := [(3, .int (nI (k + 1))), (1, .long ((wsum d k) + 0)), (0, .ref (al 0))]) E 2 dX1_weighAll_55 rfl (zw_inc1 k) (by decide) rfl (pc' := 58) rfl ?_
        refine zw_goto (tgt := 4) E dX1_weighAll_58 (by decide) ?_
        have e1 : wt d k = 0 := by unfold wt; rw [if_pos c_2]
        refine zw_ws (ws' := ld_W K al bq (wst d (k + 1))) (congrArg (ld_W K al bq) (wst_succ d k _ e1)) ?_
        refine zw_sub [2, 1, 0] (lv' := [(0, .ref (al 0)), (1, .long ((wsum d k) + 0)), (3, .int (nI (k + 1)))]) rfl ?_
        rw [← e1]
        exact ih (k + 1) (by omega) (by omega)
      · skip
        refine zw_aload_n (i := 0) (x := al 0) E 0 dX1_weighAll_24 rfl rfl (pc' := 25) rfl ?_
        refine zw_get (v := .ref (al 2)) E 0 2 iX1_weighAll_X1 fX1_weighAll_15 rfl rfl (by decide) rfl rfl dX1_weighAll_25 (pc' := 28) rfl ?_
        refine zw_iload_n (i := 3) (x := nI k) E 2 dX1_weighAll_28 rfl rfl (pc' := 29) rfl ?_
        refine zw_iald (j := k) (x := (wst d k).1 1 k) E 2 0 rfl rfl (vp_in_nI hk (by decide)) (zw_clamp hk (by decide)) rfl dX1_weighAll_29 (pc' := 30) rfl ?_
        refine zw_topi (x' := d.1 1 k) rfl ?_
        refine zw_i2l E dX1_weighAll_30 (pc' := 31) rfl ?_
        refine zw_iconst (v := 3) E dX1_weighAll_31 (by decide) (pc' := 32) rfl ?_
        refine zw_aload_n (i := 0) (x := al 0) E 0 dX1_weighAll_32 rfl rfl (pc' := 33) rfl ?_
        refine zw_get (v := .ref (al 3)) E 0 3 iX1_weighAll_X1 fX1_weighAll_19 rfl rfl (by decide) rfl rfl dX1_weighAll_33 (pc' := 36) rfl ?_
        refine zw_iload_n (i := 3) (x := nI k) E 2 dX1_weighAll_36 rfl rfl (pc' := 37) rfl ?_
        refine zw_iald (j := k) (x := (wst d k).1 2 k) E 3 0 rfl rfl (vp_in_nI hk (by decide)) (zw_clamp hk (by decide)) rfl dX1_weighAll_37 (pc' := 38) rfl ?_
        refine zw_topi (x' := d.1 2 k) rfl ?_
        refine zw_isub E dX1_weighAll_38 (pc' := 39) rfl ?_
        refine zw_i2l E dX1_weighAll_39 (pc' := 40) rfl ?_
        refine zw_lmul E dX1_weighAll_40 (pc' := 41) rfl ?_
        refine zw_goto (tgt := 45) E dX1_weighAll_41 (by decide) ?_
        refine zw_last (j := k) (ws' := (ld_W K al bq (ld_rowL (wst d k) 0 k (((d.1 1 k).toInt64) * ((3 - (d.1 2 k)).toInt64))))) E 7 2 rfl rfl (vp_in_nI hk (by decide)) (zw_clamp hk (by decide)) rfl dX1_weighAll_45 (pc' := 46) rfl ?_
        refine zw_lload_n (i := 1) (x := wsum d k) E 1 dX1_weighAll_46 rfl rfl (pc' := 47) rfl ?_
        refine zw_aload_n (i := 0) (x := al 0) E 0 dX1_weighAll_47 rfl rfl (pc' := 48) rfl ?_
        refine zw_get (v := .ref (al 7)) E 0 7 iX1_weighAll_X1 fX1_weighAll_33 rfl rfl (by decide) rfl rfl dX1_weighAll_48 (pc' := 51) rfl ?_
        refine zw_iload_n (i := 3) (x := nI k) E 2 dX1_weighAll_51 rfl rfl (pc' := 52) rfl ?_
        refine zw_lald (j := k) (x := (ld_rowL (wst d k) 0 k (((d.1 1 k).toInt64) * ((3 - (d.1 2 k)).toInt64))).2.1 0 k) E 7 2 rfl rfl (vp_in_nI hk (by decide)) (zw_clamp hk (by decide)) rfl dX1_weighAll_52 (pc' := 53) rfl ?_
        refine zw_topl (x' := (((d.1 1 k).toInt64) * ((3 - (d.1 2 k)).toInt64))) (ld_rowL_same _ _ _ _) ?_
        refine zw_ladd E dX1_weighAll_53 (pc' := 54) rfl ?_
        refine zw_lstore_n (lv' := [(1, .long ((wsum d k) + (((d.1 1 k).toInt64) * ((3 - (d.1 2 k)).toInt64)))), (0, .ref (al 0)), (3, .int (nI k))]) E dX1_weighAll_54 rfl (by decide) rfl (pc' := 55) rfl ?_
        refine zw_iinc (x := nI k) (v := nI (k + 1)) (lv' := [(3, .int (nI (k + 1))), (1, .long ((wsum d k) + (((d.1 1 k).toInt64) * ((3 - (d.1 2 k)).toInt64)))), (0, .ref (al 0))]) E 2 dX1_weighAll_55 rfl (zw_inc1 k) (by decide) rfl (pc' := 58) rfl ?_
        refine zw_goto (tgt := 4) E dX1_weighAll_58 (by decide) ?_
        have e1 : wt d k = (d.1 1 k).toInt64 * (3 - d.1 2 k).toInt64 := by unfold wt; rw [if_neg c_2]
        refine zw_ws (ws' := ld_W K al bq (wst d (k + 1))) (congrArg (ld_W K al bq) (wst_succ d k _ e1)) ?_
        refine zw_sub [2, 1, 0] (lv' := [(0, .ref (al 0)), (1, .long ((wsum d k) + (((d.1 1 k).toInt64) * ((3 - (d.1 2 k)).toInt64)))), (3, .int (nI (k + 1)))]) rfl ?_
        rw [← e1]
        exact ih (k + 1) (by omega) (by omega)

set_option maxHeartbeats 4000000 in
set_option maxRecDepth 100000 in
/-- weighAll() -/
theorem qX1_weighAll (l : Launch) (D : va_G) (K : Nat → ClassId) (al : Nat → Nat) (bq : Nat) (d : Ld) : zw_L l yX1_weighAll wsX1_weighAll rmX1_weighAll D (zT K) [.ref (al 0)] (ld_W K al bq d) (wsum d 60) (ld_W K al bq (wst d 60)) := by
  refine zw_ofL (cc := cX1_weighAll) (nL := 4) (ret := (some .long)) (own := RX1) (lv := [(0, .ref (al 0))]) (by decide) rfl (Nat.le_of_ble_eq_true rfl) rfl rfl ?_
  intro p e s m below meth c A E hr hlk
  refine zw_lconst (v := 0) E dX1_weighAll_0 (by decide) (pc' := 1) rfl ?_
  refine zw_lstore_n (lv' := [(1, .long 0), (0, .ref (al 0))]) E dX1_weighAll_1 rfl (by decide) rfl (pc' := 2) rfl ?_
  refine zw_iconst (v := 0) E dX1_weighAll_2 (by decide) (pc' := 3) rfl ?_
  refine zw_istore_n (lv' := [(3, .int 0), (1, .long 0), (0, .ref (al 0))]) E dX1_weighAll_3 rfl (by decide) rfl (pc' := 4) rfl ?_
  refine zw_ws (ws' := ld_W K al bq (wst d 0)) (congrArg (ld_W K al bq) (wst_0 d).symm) ?_
  refine zw_sub [2, 1, 0] (lv' := [(0, .ref (al 0)), (1, .long 0), (3, .int 0)]) rfl ?_
  exact lX1_weighAll E hr hlk al bq d 61 0 (by omega) (by omega)

/-- the lowest of the first k with the greatest number -/
def gbest (f : Nat → Int64) : Nat → Nat
  | 0 => 0
  | k + 1 => if f k ≤ f (gbest f k) then gbest f k else k
theorem gbest_lt (f : Nat → Int64) : ∀ k, gbest f (k + 1) < k + 1
  | 0 => by
    rw [gbest]
    split
    · exact Nat.zero_lt_one
    · exact Nat.zero_lt_one
  | k + 1 => by
    have h := gbest_lt f k
    rw [gbest]
    split
    · omega
    · omega
theorem gbest_1 (f : Nat → Int64) : gbest f 1 = 0 := Nat.lt_one_iff.mp (gbest_lt f 0)
theorem gbest_60 (f : Nat → Int64) : gbest f 60 < 60 := gbest_lt f 59
theorem fX1_greatestRemainder_40 : Cond.fieldLink RX1 40 "TitheMap$Land" "remainder" "[J" ∈ wsX1_greatestRemainder := by decide +kernel
theorem iX1_greatestRemainder_X1 : ∀ w ∈ wsX10, w ∈ wsX1_greatestRemainder := by decide +kernel
set_option maxHeartbeats 4000000 in
set_option maxRecDepth 100000 in
theorem lX1_greatestRemainder {l : Launch} {D : va_G} {K : Nat → ClassId} {p : Program} {e : Env} {s : State} {m : MethodId} {below : List Frame} {meth : Method} {c : Code} {A : Nat → Prop} {args : Array Value} (E : zw_E p s m args c cX1_greatestRemainder 3 RX1 wsX1_greatestRemainder D (zT K) A) (hr : meth.sig.returnType = (some .int)) (hlk : meth.locks = false) (al : Nat → Nat) (bq : Nat) (d : Ld) : ∀ (fu k : Nat), k ≤ 60 → 60 + 1 ≤ k + fu → 1 ≤ k → zw_W p l e rmX1_greatestRemainder s m args below meth c 3 D A 0 0 (zw_Qi D A below args s (nI (gbest (d.2.1 1) 60)) (ld_W K al bq d)) 4 [(0, .ref (al 0)), (1, .int (nI (gbest (d.2.1 1) k))), (2, .int (nI k))] [] (ld_W K al bq d) := by
  intro fu
  induction fu with
  | zero => intro k h1 h2; exact absurd h2 (by omega)
  | succ fu ih =>
    intro k hle hfu h1
    refine zw_iload_n (i := 2) (x := nI k) E 2 dX1_greatestRemainder_4 rfl rfl (pc' := 5) rfl ?_
    refine zw_bipush (v := 60) E dX1_greatestRemainder_5 (by decide) (pc' := 7) rfl ?_
    refine zw_icmp_ge (tgt := 34) E dX1_greatestRemainder_7 (by decide) (pc' := 10) rfl (fun c_1 => ?_) (fun c_1 => ?_)
    · skip
      have hk60 : k = 60 := zw_ge60 c_1 hle
      refine zw_iload_n (i := 1) (x := nI (gbest (d.2.1 1) k)) E 1 dX1_greatestRemainder_34 rfl rfl (pc' := 35) rfl ?_
      exact zw_iret E hr hlk dX1_greatestRemainder_35 (by rw [hk60]) rfl
    · skip
      have hk : k < 60 := zw_lt60 c_1 hle
      have hb : gbest (d.2.1 1) k < 60 := by obtain ⟨j, rfl⟩ : ∃ j, k = j + 1 := ⟨k - 1, by omega⟩; exact Nat.lt_trans (gbest_lt _ j) hk
      refine zw_aload_n (i := 0) (x := al 0) E 0 dX1_greatestRemainder_10 rfl rfl (pc' := 11) rfl ?_
      refine zw_get (v := .ref (al 9)) E 0 9 iX1_greatestRemainder_X1 fX1_greatestRemainder_40 rfl rfl (by decide) rfl rfl dX1_greatestRemainder_11 (pc' := 14) rfl ?_
      refine zw_iload_n (i := 2) (x := nI k) E 2 dX1_greatestRemainder_14 rfl rfl (pc' := 15) rfl ?_
      refine zw_lald (j := k) (x := d.2.1 1 k) E 9 2 rfl rfl (vp_in_nI hk (by decide)) (zw_clamp hk (by decide)) rfl dX1_greatestRemainder_15 (pc' := 16) rfl ?_
      refine zw_aload_n (i := 0) (x := al 0) E 0 dX1_greatestRemainder_16 rfl rfl (pc' := 17) rfl ?_
      refine zw_get (v := .ref (al 9)) E 0 9 iX1_greatestRemainder_X1 fX1_greatestRemainder_40 rfl rfl (by decide) rfl rfl dX1_greatestRemainder_17 (pc' := 20) rfl ?_
      refine zw_iload_n (i := 1) (x := nI (gbest (d.2.1 1) k)) E 1 dX1_greatestRemainder_20 rfl rfl (pc' := 21) rfl ?_
      refine zw_lald (j := gbest (d.2.1 1) k) (x := d.2.1 1 (gbest (d.2.1 1) k)) E 9 2 rfl rfl (vp_in_nI hb (by decide)) (zw_clamp hb (by decide)) rfl dX1_greatestRemainder_21 (pc' := 22) rfl ?_
      refine zw_lcmp E dX1_greatestRemainder_22 (pc' := 23) rfl ?_
      refine zw_ifl_le (tgt := 28) E dX1_greatestRemainder_23 (by decide) (pc' := 26) rfl (fun c_2 => ?_) (fun c_2 => ?_)
      · skip
        refine zw_iinc (x := nI k) (v := nI (k + 1)) (lv' := [(2, .int (nI (k + 1))), (0, .ref (al 0)), (1, .int (nI (gbest (d.2.1 1) k)))]) E 2 dX1_greatestRemainder_28 rfl (zw_inc1 k) (by decide) rfl (pc' := 31) rfl ?_
        refine zw_goto (tgt := 4) E dX1_greatestRemainder_31 (by decide) ?_
        have e1 : gbest (d.2.1 1) (k + 1) = gbest (d.2.1 1) k := by rw [gbest, if_pos c_2]
        refine zw_sub [1, 2, 0] (lv' := [(0, .ref (al 0)), (1, .int (nI (gbest (d.2.1 1) k))), (2, .int (nI (k + 1)))]) rfl ?_
        refine zw_as (lv' := [(0, .ref (al 0)), (1, .int (nI (gbest (d.2.1 1) (k + 1)))), (2, .int (nI (k + 1)))]) (by rw [e1]) rfl rfl ?_
        exact ih (k + 1) (by omega) (by omega) (by omega)
      · skip
        refine zw_iload_n (i := 2) (x := nI k) E 2 dX1_greatestRemainder_26 rfl rfl (pc' := 27) rfl ?_
        refine zw_istore_n (lv' := [(1, .int (nI k)), (0, .ref (al 0)), (2, .int (nI k))]) E dX1_greatestRemainder_27 rfl (by decide) rfl (pc' := 28) rfl ?_
        refine zw_iinc (x := nI k) (v := nI (k + 1)) (lv' := [(2, .int (nI (k + 1))), (1, .int (nI k)), (0, .ref (al 0))]) E 2 dX1_greatestRemainder_28 rfl (zw_inc1 k) (by decide) rfl (pc' := 31) rfl ?_
        refine zw_goto (tgt := 4) E dX1_greatestRemainder_31 (by decide) ?_
        have e1 : gbest (d.2.1 1) (k + 1) = k := by rw [gbest, if_neg c_2]
        refine zw_sub [2, 1, 0] (lv' := [(0, .ref (al 0)), (1, .int (nI k)), (2, .int (nI (k + 1)))]) rfl ?_
        refine zw_as (lv' := [(0, .ref (al 0)), (1, .int (nI (gbest (d.2.1 1) (k + 1)))), (2, .int (nI (k + 1)))]) (by rw [e1]) rfl rfl ?_
        exact ih (k + 1) (by omega) (by omega) (by omega)

set_option maxHeartbeats 4000000 in
set_option maxRecDepth 100000 in
/-- greatestRemainder() -/
theorem qX1_greatestRemainder (l : Launch) (D : va_G) (K : Nat → ClassId) (al : Nat → Nat) (bq : Nat) (d : Ld) : zw_I l yX1_greatestRemainder wsX1_greatestRemainder rmX1_greatestRemainder D (zT K) [.ref (al 0)] (ld_W K al bq d) (nI (gbest (d.2.1 1) 60)) (ld_W K al bq d) := by
  refine zw_ofI (cc := cX1_greatestRemainder) (nL := 3) (ret := (some .int)) (own := RX1) (lv := [(0, .ref (al 0))]) (by decide) rfl (Nat.le_of_ble_eq_true rfl) rfl rfl ?_
  intro p e s m below meth c A E hr hlk
  refine zw_iconst (v := 0) E dX1_greatestRemainder_0 (by decide) (pc' := 1) rfl ?_
  refine zw_istore_n (lv' := [(1, .int 0), (0, .ref (al 0))]) E dX1_greatestRemainder_1 rfl (by decide) rfl (pc' := 2) rfl ?_
  refine zw_iconst (v := 1) E dX1_greatestRemainder_2 (by decide) (pc' := 3) rfl ?_
  refine zw_istore_n (lv' := [(2, .int 1), (1, .int 0), (0, .ref (al 0))]) E dX1_greatestRemainder_3 rfl (by decide) rfl (pc' := 4) rfl ?_
  refine zw_sub [2, 1, 0] (lv' := [(0, .ref (al 0)), (1, .int 0), (2, .int 1)]) rfl ?_
  refine zw_as (lv' := [(0, .ref (al 0)), (1, .int (nI (gbest (d.2.1 1) 1))), (2, .int (nI 1))]) (by rw [gbest_1]; rfl) rfl rfl ?_
  exact lX1_greatestRemainder E hr hlk al bq d 60 1 (by omega) (by omega) (by omega)

def sh_p (d : Ld) (q : Int32) (f : Nat) : Int64 := q.toInt64 * d.2.1 0 f
def so1 (d : Ld) (q : Int32) (t : Int64) (k : Nat) : Ld := ((fun r => if r = 5 then (fun f => if f < k then (sh_p d q f / t).toInt32 else d.1 5 f) else d.1 r), (fun r => if r = 1 then (fun f => if f < k then sh_p d q f - sh_p d q f / t * t else d.2.1 1 f) else d.2.1 r), d.2.2)
def lft (d : Ld) (q : Int32) (t : Int64) : Nat → Int32
  | 0 => q
  | k + 1 => lft d q t k - (sh_p d q k / t).toInt32
theorem so1_0 (d : Ld) (q : Int32) (t : Int64) : so1 d q t 0 = d := by
  refine Prod.ext (funext fun r => ?_) (Prod.ext (funext fun r => ?_) rfl)
  · show (if r = 5 then (fun f => if f < 0 then (sh_p d q f / t).toInt32 else d.1 5 f) else d.1 r) = d.1 r
    by_cases h : r = 5
    · subst h
      rw [if_pos rfl]
      funext f
      rw [if_neg (Nat.not_lt_zero f)]
    · rw [if_neg h]
  · show (if r = 1 then (fun f => if f < 0 then sh_p d q f - sh_p d q f / t * t else d.2.1 1 f) else d.2.1 r) = d.2.1 r
    by_cases h : r = 1
    · subst h
      rw [if_pos rfl]
      funext f
      rw [if_neg (Nat.not_lt_zero f)]
    · rw [if_neg h]
theorem so1_succ (d : Ld) (q : Int32) (t : Int64) (k : Nat) : ld_rowL (ld_row (so1 d q t k) 5 k (sh_p d q k / t).toInt32) 1 k (sh_p d q k - sh_p d q k / t * t) = so1 d q t (k + 1) := by
  refine Prod.ext (funext fun r => ?_) (Prod.ext (funext fun r => ?_) rfl)
  · show (if r = 5 then upd ((so1 d q t k).1 5) k (sh_p d q k / t).toInt32 else (so1 d q t k).1 r) = (if r = 5 then (fun f => if f < k + 1 then (sh_p d q f / t).toInt32 else d.1 5 f) else d.1 r)
    by_cases h : r = 5
    · subst h
      rw [if_pos rfl, if_pos rfl]
      funext f
      show (if f = k then (sh_p d q k / t).toInt32 else (if f < k then (sh_p d q f / t).toInt32 else d.1 5 f)) = _
      by_cases h1 : f = k
      · subst h1
        rw [if_pos rfl, if_pos (Nat.lt_succ_self f)]
      · rw [if_neg h1]
        by_cases h2 : f < k
        · rw [if_pos h2, if_pos (by omega)]
        · rw [if_neg h2, if_neg (by omega)]
    · rw [if_neg h, if_neg h]
      show (if r = 5 then _ else _) = _
      rw [if_neg h]
  · show (if r = 1 then vp_updL ((so1 d q t k).2.1 1) k (sh_p d q k - sh_p d q k / t * t) else (so1 d q t k).2.1 r) = (if r = 1 then (fun f => if f < k + 1 then sh_p d q f - sh_p d q f / t * t else d.2.1 1 f) else d.2.1 r)
    by_cases h : r = 1
    · subst h
      rw [if_pos rfl, if_pos rfl]
      funext f
      show (if f = k then sh_p d q k - sh_p d q k / t * t else (if f < k then sh_p d q f - sh_p d q f / t * t else d.2.1 1 f)) = _
      by_cases h1 : f = k
      · subst h1
        rw [if_pos rfl, if_pos (Nat.lt_succ_self f)]
      · rw [if_neg h1]
        by_cases h2 : f < k
        · rw [if_pos h2, if_pos (by omega)]
        · rw [if_neg h2, if_neg (by omega)]
    · rw [if_neg h, if_neg h]
      show (if r = 1 then _ else _) = _
      rw [if_neg h]
/-- one penny more for the greatest remainder -/
def so_step (d : Ld) : Ld := ld_rowL (ld_row d 5 (gbest (d.2.1 1) 60) (d.1 5 (gbest (d.2.1 1) 60) + 1)) 1 (gbest (d.2.1 1) 60) 0
def so2 (d : Ld) : Nat → Ld
  | 0 => d
  | k + 1 => so_step (so2 d k)
/-- how many pence are left to give, at most 60 -/
def itN (x : Int32) : Nat := if x ≤ 0 then 0 else if 60 ≤ x then 60 else x.toNatClampNeg
theorem itN_le (x : Int32) : itN x ≤ 60 := by
  unfold itN
  split
  · omega
  · split
    · omega
    · rename_i h1 h2
      have a := Int32.not_le.mp h2
      have b := Int32.not_le.mp h1
      rw [Int32.lt_iff_toInt_lt] at a b
      have e1 : (60 : Int32).toInt = 60 := rfl
      have e0 : (0 : Int32).toInt = 0 := rfl
      have e : x.toNatClampNeg = x.toInt.toNat := rfl
      omega
theorem itN_ex {x : Int32} {k : Nat} (hk : k ≤ itN x) (h : x ≤ nI k) : k = itN x := by
  have h60 := itN_le x
  rw [Int32.le_iff_toInt_le, nI_toInt (by omega)] at h
  unfold itN at *
  split at hk
  · rename_i h1; rw [if_pos h1]; omega
  · rename_i h1
    rw [if_neg h1]
    split at hk
    · rename_i h2
      rw [if_pos h2]
      rw [Int32.le_iff_toInt_le] at h2
      have e1 : (60 : Int32).toInt = 60 := rfl
      omega
    · rename_i h2
      rw [if_neg h2]
      have e : x.toNatClampNeg = x.toInt.toNat := rfl
      omega
theorem itN_lt {x : Int32} {k : Nat} (hk : k ≤ itN x) (h : ¬ x ≤ nI k) (h2 : ¬ (60 : Int32) ≤ nI k) : k < itN x := by
  have h60 := itN_le x
  have hl := zw_lt60 h2 (by omega)
  have a := Int32.not_le.mp h
  rw [Int32.lt_iff_toInt_lt, nI_toInt (by omega)] at a
  unfold itN
  split
  · rename_i h1
    rw [Int32.le_iff_toInt_le] at h1
    have e0 : (0 : Int32).toInt = 0 := rfl
    omega
  · split
    · exact hl
    · have e : x.toNatClampNeg = x.toInt.toNat := rfl
      omega
def ld_share (d : Ld) (q : Int32) (t : Int64) : Ld := so2 (so1 d q t 60) (itN (lft d q t 60))
theorem zw_tne {t : Int64} (h : ¬ t ≤ 0) : ¬ t = 0 := fun e => h (by rw [e]; exact Int64.le_refl 0)
theorem fX1_shareOut_33 : Cond.fieldLink RX1 33 "TitheMap$Land" "weight" "[J" ∈ wsX1_shareOut := by decide +kernel
theorem fX1_shareOut_37 : Cond.fieldLink RX1 37 "TitheMap$Land" "share" "[I" ∈ wsX1_shareOut := by decide +kernel
theorem fX1_shareOut_40 : Cond.fieldLink RX1 40 "TitheMap$Land" "remainder" "[J" ∈ wsX1_shareOut := by decide +kernel
theorem iX1_shareOut_X1 : ∀ w ∈ wsX10, w ∈ wsX1_shareOut := by decide +kernel
set_option maxHeartbeats 4000000 in
set_option maxRecDepth 100000 in
theorem lX1_shareOut2 {l : Launch} {D : va_G} {K : Nat → ClassId} {p : Program} {e : Env} {s : State} {m : MethodId} {below : List Frame} {meth : Method} {c : Code} {A : Nat → Prop} {args : Array Value} (E : zw_E p s m args c cX1_shareOut 8 RX1 wsX1_shareOut D (zT K) A) (hr : meth.sig.returnType = none) (hlk : meth.locks = false) (al : Nat → Nat) (bq : Nat) (d : Ld) (q L : Int32) (t : Int64) : ∀ (fu k : Nat), k ≤ itN L → itN L + 1 ≤ k + fu → zw_W p l e rmX1_shareOut s m args below meth c 8 D A 0 0 (zw_Qv D A below args s (ld_W K al bq (so2 d (itN L)))) 75 [(0, .ref (al 0)), (1, .int q), (2, .long t), (4, .int L), (5, .int (nI k))] [] (ld_W K al bq (so2 d k)) := by
  intro fu
  induction fu with
  | zero => intro k h1 h2; exact absurd h2 (by omega)
  | succ fu ih =>
    intro k hle hfu
    refine zw_iload (x := nI k) E 4 dX1_shareOut_75 rfl (pc' := 77) rfl ?_
    refine zw_iload (x := L) E 3 dX1_shareOut_77 rfl (pc' := 79) rfl ?_
    refine zw_icmp_ge (tgt := 120) E dX1_shareOut_79 (by decide) (pc' := 82) rfl (fun c_1 => ?_) (fun c_1 => ?_)
    · skip
      have hke : k = itN L := itN_ex hle c_1
      exact zw_vret E hr hlk dX1_shareOut_120 (by rw [hke])
    · skip
      refine zw_iload (x := nI k) E 4 dX1_shareOut_82 rfl (pc' := 84) rfl ?_
      refine zw_bipush (v := 60) E dX1_shareOut_84 (by decide) (pc' := 86) rfl ?_
      refine zw_icmp_ge (tgt := 120) E dX1_shareOut_86 (by decide) (pc' := 89) rfl (fun c_2 => ?_) (fun c_2 => ?_)
      · skip
        have hke : k = itN L := by have := zw_ge60 c_2 (Nat.le_trans hle (itN_le L)); have := itN_le L; omega
        exact zw_vret E hr hlk dX1_shareOut_120 (by rw [hke])
      · skip
        have hk : k < itN L := itN_lt hle c_1 c_2
        have hg : gbest ((so2 d k).2.1 1) 60 < 60 := gbest_60 _
        refine zw_aload_n (i := 0) (x := al 0) E 0 dX1_shareOut_89 rfl rfl (pc' := 90) rfl ?_
        refine zw_callIw E (r := nI (gbest ((so2 d k).2.1 1) 60)) (As := []) (rest := []) (ws' := (ld_W K al bq (so2 d k))) (qX1_greatestRemainder l D K al bq (so2 d k)) (cwV 0 E.2.2.2.2.1 gX1_shareOut_X1_greatestRemainder rfl rfl rfl (by decide +kernel) ⟨Nat.le_of_ble_eq_true rfl, Nat.le_of_ble_eq_true rfl⟩) 0 rfl rfl rfl rfl rfl rfl (Nat.le_of_ble_eq_true rfl) ⟨Nat.zero_le _, Nat.zero_le _⟩ dX1_shareOut_90 (pc' := 93) rfl ?_
        refine zw_istore (lv' := [(6, .int (nI (gbest ((so2 d k).2.1 1) 60))), (0, .ref (al 0)), (1, .int q), (2, .long t), (4, .int L), (5, .int (nI k))]) E dX1_shareOut_93 (by decide) rfl (pc' := 95) rfl ?_
        refine zw_aload_n (i := 0) (x := al 0) E 1 dX1_shareOut_95 rfl rfl (pc' := 96) rfl ?_
        refine zw_get (v := .ref (al 8)) E 0 8 iX1_shareOut_X1 fX1_shareOut_37 rfl rfl (by decide) rfl rfl dX1_shareOut_96 (pc' := 99) rfl ?_
        refine zw_iload (x := nI (gbest ((so2 d k).2.1 1) 60)) E 0 dX1_shareOut_99 rfl (pc' := 101) rfl ?_
        refine zw_dup2 E dX1_shareOut_101 rfl rfl (pc' := 102) rfl ?_
        refine zw_iald (j := gbest ((so2 d k).2.1 1) 60) (x := (so2 d k).1 5 (gbest ((so2 d k).2.1 1) 60)) E 8 0 rfl rfl (vp_in_nI hg (by decide)) (zw_clamp hg (by decide)) rfl dX1_shareOut_102 (pc' := 103) rfl ?_
        refine zw_iconst (v := 1) E dX1_shareOut_103 (by decide) (pc' := 104) rfl ?_
        refine zw_iadd E dX1_shareOut_104 (pc' := 105) rfl ?_
        refine zw_iast (j := gbest ((so2 d k).2.1 1) 60) (ws' := (ld_W K al bq (ld_row (so2 d k) 5 (gbest ((so2 d k).2.1 1) 60) (((so2 d k).1 5 (gbest ((so2 d k).2.1 1) 60)) + 1)))) E 8 0 rfl rfl (vp_in_nI hg (by decide)) (zw_clamp hg (by decide)) rfl dX1_shareOut_105 (pc' := 106) rfl ?_
        refine zw_aload_n (i := 0) (x := al 0) E 1 dX1_shareOut_106 rfl rfl (pc' := 107) rfl ?_
        refine zw_get (v := .ref (al 9)) E 0 9 iX1_shareOut_X1 fX1_shareOut_40 rfl rfl (by decide) rfl rfl dX1_shareOut_107 (pc' := 110) rfl ?_
        refine zw_iload (x := nI (gbest ((so2 d k).2.1 1) 60)) E 0 dX1_shareOut_110 rfl (pc' := 112) rfl ?_
        refine zw_lconst (v := 0) E dX1_shareOut_112 (by decide) (pc' := 113) rfl ?_
        refine zw_last (j := gbest ((so2 d k).2.1 1) 60) (ws' := (ld_W K al bq (ld_rowL (ld_row (so2 d k) 5 (gbest ((so2 d k).2.1 1) 60) (((so2 d k).1 5 (gbest ((so2 d k).2.1 1) 60)) + 1)) 1 (gbest ((so2 d k).2.1 1) 60) 0))) E 9 2 rfl rfl (vp_in_nI hg (by decide)) (zw_clamp hg (by decide)) rfl dX1_shareOut_113 (pc' := 114) rfl ?_
        refine zw_iinc (x := nI k) (v := nI (k + 1)) (lv' := [(5, .int (nI (k + 1))), (6, .int (nI (gbest ((so2 d k).2.1 1) 60))), (0, .ref (al 0)), (1, .int q), (2, .long t), (4, .int L)]) E 5 dX1_shareOut_114 rfl (zw_inc1 k) (by decide) rfl (pc' := 117) rfl ?_
        refine zw_goto (tgt := 75) E dX1_shareOut_117 (by decide) ?_
        refine zw_sub [2, 3, 4, 5, 0] (lv' := [(0, .ref (al 0)), (1, .int q), (2, .long t), (4, .int L), (5, .int (nI (k + 1)))]) rfl ?_
        exact ih (k + 1) (by omega) (by omega)

set_option maxHeartbeats 4000000 in
set_option maxRecDepth 100000 in
theorem lX1_shareOut {l : Launch} {D : va_G} {K : Nat → ClassId} {p : Program} {e : Env} {s : State} {m : MethodId} {below : List Frame} {meth : Method} {c : Code} {A : Nat → Prop} {args : Array Value} (E : zw_E p s m args c cX1_shareOut 8 RX1 wsX1_shareOut D (zT K) A) (hr : meth.sig.returnType = none) (hlk : meth.locks = false) (al : Nat → Nat) (bq : Nat) (d : Ld) (q : Int32) (t : Int64) (ht : ¬ t ≤ 0) : ∀ (fu k : Nat), k ≤ 60 → 60 + 1 ≤ k + fu → zw_W p l e rmX1_shareOut s m args below meth c 8 D A 0 0 (zw_Qv D A below args s (ld_W K al bq (ld_share d q t))) 6 [(0, .ref (al 0)), (1, .int q), (2, .long t), (4, .int (lft d q t k)), (5, .int (nI k))] [] (ld_W K al bq (so1 d q t k)) := by
  intro fu
  induction fu with
  | zero => intro k h1 h2; exact absurd h2 (by omega)
  | succ fu ih =>
    intro k hle hfu
    refine zw_iload (x := nI k) E 4 dX1_shareOut_6 rfl (pc' := 8) rfl ?_
    refine zw_bipush (v := 60) E dX1_shareOut_8 (by decide) (pc' := 10) rfl ?_
    refine zw_icmp_ge (tgt := 72) E dX1_shareOut_10 (by decide) (pc' := 13) rfl (fun c_1 => ?_) (fun c_1 => ?_)
    · skip
      have hk60 : k = 60 := zw_ge60 c_1 hle
      refine zw_iconst (v := 0) E dX1_shareOut_72 (by decide) (pc' := 73) rfl ?_
      refine zw_istore (lv' := [(5, .int 0), (0, .ref (al 0)), (1, .int q), (2, .long t), (4, .int (lft d q t k))]) E dX1_shareOut_73 (by decide) rfl (pc' := 75) rfl ?_
      refine zw_sub [1, 2, 3, 4, 0] (lv' := [(0, .ref (al 0)), (1, .int q), (2, .long t), (4, .int (lft d q t k)), (5, .int 0)]) rfl ?_
      rw [hk60]
      exact lX1_shareOut2 E hr hlk al bq (so1 d q t 60) q (lft d q t 60) t (itN (lft d q t 60) + 1) 0 (Nat.zero_le _) (by omega)
    · skip
      have hk : k < 60 := zw_lt60 c_1 hle
      refine zw_lload_n (i := 2) (x := t) E 2 dX1_shareOut_13 rfl rfl (pc' := 14) rfl ?_
      refine zw_lconst (v := 0) E dX1_shareOut_14 (by decide) (pc' := 15) rfl ?_
      refine zw_lcmp E dX1_shareOut_15 (pc' := 16) rfl ?_
      refine zw_ifl_le (tgt := 72) E dX1_shareOut_16 (by decide) (pc' := 19) rfl (fun c_2 => ?_) (fun c_2 => ?_)
      · exact absurd c_2 ht
      · skip
        refine zw_iload_n (i := 1) (x := q) E 1 dX1_shareOut_19 rfl rfl (pc' := 20) rfl ?_
        refine zw_i2l E dX1_shareOut_20 (pc' := 21) rfl ?_
        refine zw_aload_n (i := 0) (x := al 0) E 0 dX1_shareOut_21 rfl rfl (pc' := 22) rfl ?_
        refine zw_get (v := .ref (al 7)) E 0 7 iX1_shareOut_X1 fX1_shareOut_33 rfl rfl (by decide) rfl rfl dX1_shareOut_22 (pc' := 25) rfl ?_
        refine zw_iload (x := nI k) E 4 dX1_shareOut_25 rfl (pc' := 27) rfl ?_
        refine zw_lald (j := k) (x := (so1 d q t k).2.1 0 k) E 7 2 rfl rfl (vp_in_nI hk (by decide)) (zw_clamp hk (by decide)) rfl dX1_shareOut_27 (pc' := 28) rfl ?_
        refine zw_topl (x' := d.2.1 0 k) rfl ?_
        refine zw_lmul E dX1_shareOut_28 (pc' := 29) rfl ?_
        refine zw_topl (x' := sh_p d q k) rfl ?_
        refine zw_lstore (lv' := [(6, .long (sh_p d q k)), (0, .ref (al 0)), (1, .int q), (2, .long t), (4, .int (lft d q t k)), (5, .int (nI k))]) E dX1_shareOut_29 (by decide) rfl (pc' := 31) rfl ?_
        refine zw_aload_n (i := 0) (x := al 0) E 1 dX1_shareOut_31 rfl rfl (pc' := 32) rfl ?_
        refine zw_get (v := .ref (al 8)) E 0 8 iX1_shareOut_X1 fX1_shareOut_37 rfl rfl (by decide) rfl rfl dX1_shareOut_32 (pc' := 35) rfl ?_
        refine zw_iload (x := nI k) E 5 dX1_shareOut_35 rfl (pc' := 37) rfl ?_
        refine zw_lload (x := sh_p d q k) E 0 dX1_shareOut_37 rfl (pc' := 39) rfl ?_
        refine zw_lload_n (i := 2) (x := t) E 3 dX1_shareOut_39 rfl rfl (pc' := 40) rfl ?_
        refine zw_ldiv E dX1_shareOut_40 (zw_tne ht) (pc' := 41) rfl ?_
        refine zw_l2i E dX1_shareOut_41 (pc' := 42) rfl ?_
        refine zw_iast (j := k) (ws' := (ld_W K al bq (ld_row (so1 d q t k) 5 k (((sh_p d q k) / t).toInt32)))) E 8 0 rfl rfl (vp_in_nI hk (by decide)) (zw_clamp hk (by decide)) rfl dX1_shareOut_42 (pc' := 43) rfl ?_
        refine zw_aload_n (i := 0) (x := al 0) E 1 dX1_shareOut_43 rfl rfl (pc' := 44) rfl ?_
        refine zw_get (v := .ref (al 9)) E 0 9 iX1_shareOut_X1 fX1_shareOut_40 rfl rfl (by decide) rfl rfl dX1_shareOut_44 (pc' := 47) rfl ?_
        refine zw_iload (x := nI k) E 5 dX1_shareOut_47 rfl (pc' := 49) rfl ?_
        refine zw_lload (x := sh_p d q k) E 0 dX1_shareOut_49 rfl (pc' := 51) rfl ?_
        refine zw_lload_n (i := 2) (x := t) E 3 dX1_shareOut_51 rfl rfl (pc' := 52) rfl ?_
        refine zw_lrem E dX1_shareOut_52 (zw_tne ht) (pc' := 53) rfl ?_
        refine zw_last (j := k) (ws' := (ld_W K al bq (ld_rowL (ld_row (so1 d q t k) 5 k (((sh_p d q k) / t).toInt32)) 1 k ((sh_p d q k) - (sh_p d q k) / t * t)))) E 9 2 rfl rfl (vp_in_nI hk (by decide)) (zw_clamp hk (by decide)) rfl dX1_shareOut_53 (pc' := 54) rfl ?_
        refine zw_iload (x := lft d q t k) E 4 dX1_shareOut_54 rfl (pc' := 56) rfl ?_
        refine zw_aload_n (i := 0) (x := al 0) E 1 dX1_shareOut_56 rfl rfl (pc' := 57) rfl ?_
        refine zw_get (v := .ref (al 8)) E 0 8 iX1_shareOut_X1 fX1_shareOut_37 rfl rfl (by decide) rfl rfl dX1_shareOut_57 (pc' := 60) rfl ?_
        refine zw_iload (x := nI k) E 5 dX1_shareOut_60 rfl (pc' := 62) rfl ?_
        refine zw_iald (j := k) (x := (ld_rowL (ld_row (so1 d q t k) 5 k (((sh_p d q k) / t).toInt32)) 1 k ((sh_p d q k) - (sh_p d q k) / t * t)).1 5 k) E 8 0 rfl rfl (vp_in_nI hk (by decide)) (zw_clamp hk (by decide)) rfl dX1_shareOut_62 (pc' := 63) rfl ?_
        refine zw_topi (x' := (sh_p d q k / t).toInt32) (ld_row_same (so1 d q t k) 5 k (sh_p d q k / t).toInt32) ?_
        refine zw_isub E dX1_shareOut_63 (pc' := 64) rfl ?_
        refine zw_istore (lv' := [(4, .int ((lft d q t k) - ((sh_p d q k / t).toInt32))), (6, .long (sh_p d q k)), (0, .ref (al 0)), (1, .int q), (2, .long t), (5, .int (nI k))]) E dX1_shareOut_64 (by decide) rfl (pc' := 66) rfl ?_
        refine zw_iinc (x := nI k) (v := nI (k + 1)) (lv' := [(5, .int (nI (k + 1))), (4, .int ((lft d q t k) - ((sh_p d q k / t).toInt32))), (6, .long (sh_p d q k)), (0, .ref (al 0)), (1, .int q), (2, .long t)]) E 5 dX1_shareOut_66 rfl (zw_inc1 k) (by decide) rfl (pc' := 69) rfl ?_
        refine zw_goto (tgt := 6) E dX1_shareOut_69 (by decide) ?_
        refine zw_ws (ws' := ld_W K al bq (so1 d q t (k + 1))) (congrArg (ld_W K al bq) (so1_succ d q t k)) ?_
        refine zw_sub [3, 4, 5, 1, 0] (lv' := [(0, .ref (al 0)), (1, .int q), (2, .long t), (4, .int ((lft d q t k) - ((sh_p d q k / t).toInt32))), (5, .int (nI (k + 1)))]) rfl ?_
        exact ih (k + 1) (by omega) (by omega)

set_option maxHeartbeats 4000000 in
set_option maxRecDepth 100000 in
/-- shareOut(pence, total) -/
theorem qX1_shareOut (l : Launch) (D : va_G) (K : Nat → ClassId) (al : Nat → Nat) (bq : Nat) (d : Ld) (q : Int32) (t : Int64) (ht : ¬ t ≤ 0) : zw_V l yX1_shareOut wsX1_shareOut rmX1_shareOut D (zT K) [.ref (al 0), .int q, .long t] (ld_W K al bq d) (ld_W K al bq (ld_share d q t)) := by
  refine zw_ofV (cc := cX1_shareOut) (nL := 8) (ret := none) (own := RX1) (lv := [(0, .ref (al 0)), (1, .int q), (2, .long t)]) (by decide) rfl (Nat.le_of_ble_eq_true rfl) rfl rfl ?_
  intro p e s m below meth c A E hr hlk
  refine zw_iload_n (i := 1) (x := q) E 1 dX1_shareOut_0 rfl rfl (pc' := 1) rfl ?_
  refine zw_istore (lv' := [(4, .int q), (0, .ref (al 0)), (1, .int q), (2, .long t)]) E dX1_shareOut_1 (by decide) rfl (pc' := 3) rfl ?_
  refine zw_iconst (v := 0) E dX1_shareOut_3 (by decide) (pc' := 4) rfl ?_
  refine zw_istore (lv' := [(5, .int 0), (4, .int q), (0, .ref (al 0)), (1, .int q), (2, .long t)]) E dX1_shareOut_4 (by decide) rfl (pc' := 6) rfl ?_
  refine zw_ws (ws' := ld_W K al bq (so1 d q t 0)) (congrArg (ld_W K al bq) (so1_0 d q t).symm) ?_
  refine zw_sub [2, 3, 4, 1, 0] (lv' := [(0, .ref (al 0)), (1, .int q), (2, .long t), (4, .int q), (5, .int 0)]) rfl ?_
  exact lX1_shareOut E hr hlk al bq d q t ht 61 0 (by omega) (by omega)
