/-! the reference: lies, isKnowing, isField, nearest, priceOf, averageOf, average, comes -/
set_option maxHeartbeats 4000000 in
set_option maxRecDepth 100000 in
/-- lies(v, low, high) -/
theorem qX3_lies (l : Launch) (D : va_G) (K : Nat → ClassId) (v lo hi : Int32) : zw_I l yX3_lies wsX3_lies rmX3_lies D (zT K) [.int v, .int lo, .int hi] [] (zb (lo ≤ v ∧ v ≤ hi)) [] := by
  refine zw_ofI (cc := cX3_lies) (nL := 3) (ret := (some .boolean)) (own := RX3) (lv := [(0, .int v), (1, .int lo), (2, .int hi)]) (by decide) rfl (Nat.le_of_ble_eq_true rfl) rfl rfl ?_
  intro p e s m below meth c A E hr hlk
  refine zw_iload_n (i := 0) (x := v) E 0 dX3_lies_0 rfl rfl (pc' := 1) rfl ?_
  refine zw_iload_n (i := 1) (x := lo) E 1 dX3_lies_1 rfl rfl (pc' := 2) rfl ?_
  refine zw_icmp_lt (tgt := 14) E dX3_lies_2 (by decide) (pc' := 5) rfl (fun c_1 => ?_) (fun c_1 => ?_)
  · skip
    refine zw_iconst (v := 0) E dX3_lies_14 (by decide) (pc' := 15) rfl ?_
    exact zw_zret E hr hlk dX3_lies_15 rfl (zb_f (fun h => absurd c_1 (Int32.not_lt.mpr h.1))).symm rfl
  · skip
    refine zw_iload_n (i := 0) (x := v) E 0 dX3_lies_5 rfl rfl (pc' := 6) rfl ?_
    refine zw_iload_n (i := 2) (x := hi) E 2 dX3_lies_6 rfl rfl (pc' := 7) rfl ?_
    refine zw_icmp_gt (tgt := 14) E dX3_lies_7 (by decide) (pc' := 10) rfl (fun c_2 => ?_) (fun c_2 => ?_)
    · skip
      refine zw_iconst (v := 0) E dX3_lies_14 (by decide) (pc' := 15) rfl ?_
      exact zw_zret E hr hlk dX3_lies_15 rfl (zb_f (fun h => absurd c_2 (Int32.not_lt.mpr h.2))).symm rfl
    · skip
      refine zw_iconst (v := 1) E dX3_lies_10 (by decide) (pc' := 11) rfl ?_
      refine zw_goto (tgt := 15) E dX3_lies_11 (by decide) ?_
      exact zw_zret E hr hlk dX3_lies_15 rfl (zb_t ⟨Int32.not_lt.mp c_1, Int32.not_lt.mp c_2⟩).symm rfl

theorem fX3_isKnowing_72 : Cond.fieldLink RX3 72 "TitheMapModel" "entries" "I" ∈ wsX3_isKnowing := by decide +kernel
theorem iX3_isKnowing_X3 : ∀ w ∈ wsX30, w ∈ wsX3_isKnowing := by decide +kernel
set_option maxHeartbeats 4000000 in
set_option maxRecDepth 100000 in
/-- isKnowing(k) -/
theorem qX3_isKnowing (l : Launch) (D : va_G) (K : Nat → ClassId) (am : Nat → Nat) (g : Md) (k : Int32) : zw_I l yX3_isKnowing wsX3_isKnowing rmX3_isKnowing D (zT K) [.ref (am 0), .int k] (md_W K am g) (zb (0 ≤ k ∧ k ≤ nI (g.2.2.1 0))) (md_W K am g) := by
  refine zw_ofI (cc := cX3_isKnowing) (nL := 2) (ret := (some .boolean)) (own := RX3) (lv := [(0, .ref (am 0)), (1, .int k)]) (by decide) rfl (Nat.le_of_ble_eq_true rfl) rfl rfl ?_
  intro p e s m below meth c A E hr hlk
  refine zw_iload_n (i := 1) (x := k) E 1 dX3_isKnowing_0 rfl rfl (pc' := 1) rfl ?_
  refine zw_iconst (v := 0) E dX3_isKnowing_1 (by decide) (pc' := 2) rfl ?_
  refine zw_aload_n (i := 0) (x := am 0) E 0 dX3_isKnowing_2 rfl rfl (pc' := 3) rfl ?_
  refine zw_get (v := .int (nI (g.2.2.1 0))) E 0 0 iX3_isKnowing_X3 fX3_isKnowing_72 rfl rfl (by decide) rfl rfl dX3_isKnowing_3 (pc' := 6) rfl ?_
  refine zw_callIs E (r := zb (0 ≤ k ∧ k ≤ nI (g.2.2.1 0))) (As := [.int k, .int 0, .int (nI (g.2.2.1 0))]) (rest := []) (ws' := (md_W K am g)) (qX3_lies l D K k 0 (nI (g.2.2.1 0))) (va_cwS 3 E.2.2.2.2.1 gX3_isKnowing_X3_lies rfl rfl rfl (by decide +kernel) ⟨Nat.le_of_ble_eq_true rfl, Nat.le_of_ble_eq_true rfl⟩) [] (by decide) rfl rfl (zw_put_same _ _ _ rfl) rfl rfl (Nat.le_of_ble_eq_true rfl) ⟨Nat.zero_le _, Nat.zero_le _⟩ dX3_isKnowing_6 (pc' := 9) rfl ?_
  exact zw_zret E hr hlk dX3_isKnowing_9 zb_nar rfl rfl

theorem fX3_isField_80 : Cond.fieldLink RX3 80 "TitheMapModel" "fields" "I" ∈ wsX3_isField := by decide +kernel
theorem iX3_isField_X3 : ∀ w ∈ wsX30, w ∈ wsX3_isField := by decide +kernel
set_option maxHeartbeats 4000000 in
set_option maxRecDepth 100000 in
/-- isField(f) -/
theorem qX3_isField (l : Launch) (D : va_G) (K : Nat → ClassId) (am : Nat → Nat) (g : Md) (f : Int32) : zw_I l yX3_isField wsX3_isField rmX3_isField D (zT K) [.ref (am 0), .int f] (md_W K am g) (zb (0 ≤ f ∧ f ≤ nI (g.2.2.1 1) - 1)) (md_W K am g) := by
  refine zw_ofI (cc := cX3_isField) (nL := 2) (ret := (some .boolean)) (own := RX3) (lv := [(0, .ref (am 0)), (1, .int f)]) (by decide) rfl (Nat.le_of_ble_eq_true rfl) rfl rfl ?_
  intro p e s m below meth c A E hr hlk
  refine zw_iload_n (i := 1) (x := f) E 1 dX3_isField_0 rfl rfl (pc' := 1) rfl ?_
  refine zw_iconst (v := 0) E dX3_isField_1 (by decide) (pc' := 2) rfl ?_
  refine zw_aload_n (i := 0) (x := am 0) E 0 dX3_isField_2 rfl rfl (pc' := 3) rfl ?_
  refine zw_get (v := .int (nI (g.2.2.1 1))) E 0 1 iX3_isField_X3 fX3_isField_80 rfl rfl (by decide) rfl rfl dX3_isField_3 (pc' := 6) rfl ?_
  refine zw_iconst (v := 1) E dX3_isField_6 (by decide) (pc' := 7) rfl ?_
  refine zw_isub E dX3_isField_7 (pc' := 8) rfl ?_
  refine zw_callIs E (r := zb (0 ≤ f ∧ f ≤ (nI (g.2.2.1 1)) - 1)) (As := [.int f, .int 0, .int ((nI (g.2.2.1 1)) - 1)]) (rest := []) (ws' := (md_W K am g)) (qX3_lies l D K f 0 ((nI (g.2.2.1 1)) - 1)) (va_cwS 3 E.2.2.2.2.1 gX3_isField_X3_lies rfl rfl rfl (by decide +kernel) ⟨Nat.le_of_ble_eq_true rfl, Nat.le_of_ble_eq_true rfl⟩) [] (by decide) rfl rfl (zw_put_same _ _ _ rfl) rfl rfl (Nat.le_of_ble_eq_true rfl) ⟨Nat.zero_le _, Nat.zero_le _⟩ dX3_isField_8 (pc' := 11) rfl ?_
  exact zw_zret E hr hlk dX3_isField_11 zb_nar rfl rfl

def z_near (n x : Int64) : Int64 := (2 * n + x) / (2 * x)
theorem kX3_nearest_83 : Cond.constantLong RX3 83 (2) ∈ wsX3_nearest := by decide +kernel
set_option maxHeartbeats 4000000 in
set_option maxRecDepth 100000 in
/-- nearest(n, d) -/
theorem qX3_nearest (l : Launch) (D : va_G) (K : Nat → ClassId) (n x : Int64) (hx : ¬ (2 : Int64) * x = 0) : zw_L l yX3_nearest wsX3_nearest rmX3_nearest D (zT K) [.long n, .long x] [] (z_near n x) [] := by
  refine zw_ofL (cc := cX3_nearest) (nL := 4) (ret := (some .long)) (own := RX3) (lv := [(0, .long n), (2, .long x)]) (by decide) rfl (Nat.le_of_ble_eq_true rfl) rfl rfl ?_
  intro p e s m below meth c A E hr hlk
  refine zw_ldc2 (v := 2) E dX3_nearest_0 kX3_nearest_83 (pc' := 3) rfl ?_
  refine zw_lload_n (i := 0) (x := n) E 0 dX3_nearest_3 rfl rfl (pc' := 4) rfl ?_
  refine zw_lmul E dX3_nearest_4 (pc' := 5) rfl ?_
  refine zw_lload_n (i := 2) (x := x) E 1 dX3_nearest_5 rfl rfl (pc' := 6) rfl ?_
  refine zw_ladd E dX3_nearest_6 (pc' := 7) rfl ?_
  refine zw_ldc2 (v := 2) E dX3_nearest_7 kX3_nearest_83 (pc' := 10) rfl ?_
  refine zw_lload_n (i := 2) (x := x) E 1 dX3_nearest_10 rfl rfl (pc' := 11) rfl ?_
  refine zw_lmul E dX3_nearest_11 (pc' := 12) rfl ?_
  refine zw_ldiv E dX3_nearest_12 hx (pc' := 13) rfl ?_
  exact zw_lret E hr hlk dX3_nearest_13 rfl rfl

def p_of (g : Md) (y cn : Int32) : Nat → Int32
  | 0 => 0
  | k + 1 => if g.1 0 k = 0 then if g.1 1 k = y then if g.1 2 k = cn then g.1 4 k else p_of g y cn k else p_of g y cn k else p_of g y cn k
theorem fX3_priceOf_13 : Cond.fieldLink RX3 13 "TitheMapModel" "year" "[I" ∈ wsX3_priceOf := by decide +kernel
theorem fX3_priceOf_16 : Cond.fieldLink RX3 16 "TitheMapModel" "one" "[I" ∈ wsX3_priceOf := by decide +kernel
theorem fX3_priceOf_22 : Cond.fieldLink RX3 22 "TitheMapModel" "more" "[I" ∈ wsX3_priceOf := by decide +kernel
theorem fX3_priceOf_7 : Cond.fieldLink RX3 7 "TitheMapModel" "sort" "[I" ∈ wsX3_priceOf := by decide +kernel
theorem iX3_priceOf_X3 : ∀ w ∈ wsX30, w ∈ wsX3_priceOf := by decide +kernel
set_option maxHeartbeats 4000000 in
set_option maxRecDepth 100000 in
theorem lX3_priceOf {l : Launch} {D : va_G} {K : Nat → ClassId} {p : Program} {e : Env} {s : State} {m : MethodId} {below : List Frame} {meth : Method} {c : Code} {A : Nat → Prop} {args : Array Value} (E : zw_E p s m args c cX3_priceOf 6 RX3 wsX3_priceOf D (zT K) A) (hr : meth.sig.returnType = (some .int)) (hlk : meth.locks = false) (am : Nat → Nat) (g : Md) (n : Nat) (hn : n ≤ 80) (y cn : Int32) : ∀ (fu k : Nat), k ≤ n → n + 1 ≤ k + fu → zw_W p l e rmX3_priceOf s m args below meth c 6 D A 0 0 (zw_Qi D A below args s (p_of g y cn n) (md_W K am g)) 6 [(0, .ref (am 0)), (1, .int (nI n)), (2, .int y), (3, .int cn), (4, .int (p_of g y cn k)), (5, .int (nI k))] [] (md_W K am g) := by
  intro fu
  induction fu with
  | zero => intro k h1 h2; exact absurd h2 (by omega)
  | succ fu ih =>
    intro k hle hfu
    refine zw_iload (x := nI k) E 5 dX3_priceOf_6 rfl (pc' := 8) rfl ?_
    refine zw_iload_n (i := 1) (x := nI n) E 1 dX3_priceOf_8 rfl rfl (pc' := 9) rfl ?_
    refine zw_icmp_ge (tgt := 59) E dX3_priceOf_9 (by decide) (pc' := 12) rfl (fun c_1 => ?_) (fun c_1 => ?_)
    · skip
      have hke : k = n := Nat.le_antisymm hle ((nI_leI (by omega) (by omega)).mp c_1)
      refine zw_iload (x := p_of g y cn k) E 4 dX3_priceOf_59 rfl (pc' := 61) rfl ?_
      exact zw_iret E hr hlk dX3_priceOf_61 (by rw [hke]) rfl
    · skip
      have hlt : k < n := Nat.lt_of_not_le (fun h => c_1 (nI_le h (by omega)))
      have hk : k < 80 := by omega
      refine zw_aload_n (i := 0) (x := am 0) E 0 dX3_priceOf_12 rfl rfl (pc' := 13) rfl ?_
      refine zw_get (v := .ref (am 1)) E 0 2 iX3_priceOf_X3 fX3_priceOf_7 rfl rfl (by decide) rfl rfl dX3_priceOf_13 (pc' := 16) rfl ?_
      refine zw_iload (x := nI k) E 5 dX3_priceOf_16 rfl (pc' := 18) rfl ?_
      refine zw_iald (j := k) (x := g.1 0 k) E 1 0 rfl rfl (vp_in_nI hk (by decide)) (zw_clamp hk (by decide)) rfl dX3_priceOf_18 (pc' := 19) rfl ?_
      refine zw_if_ne (tgt := 53) E dX3_priceOf_19 (by decide) (pc' := 22) rfl (fun c_2 => ?_) (fun c_2 => ?_)
      · skip
        refine zw_iinc (x := nI k) (v := nI (k + 1)) (lv' := [(5, .int (nI (k + 1))), (0, .ref (am 0)), (1, .int (nI n)), (2, .int y), (3, .int cn), (4, .int (p_of g y cn k))]) E 5 dX3_priceOf_53 rfl (zw_inc1 k) (by decide) rfl (pc' := 56) rfl ?_
        refine zw_goto (tgt := 6) E dX3_priceOf_56 (by decide) ?_
        have e1 : p_of g y cn (k + 1) = p_of g y cn k := by rw [p_of, if_neg c_2]
        refine zw_sub [1, 2, 3, 4, 5, 0] (lv' := [(0, .ref (am 0)), (1, .int (nI n)), (2, .int y), (3, .int cn), (4, .int (p_of g y cn k)), (5, .int (nI (k + 1)))]) rfl ?_
        refine zw_as (lv' := [(0, .ref (am 0)), (1, .int (nI n)), (2, .int y), (3, .int cn), (4, .int (p_of g y cn (k + 1))), (5, .int (nI (k + 1)))]) (by rw [e1]) rfl rfl ?_
        exact ih (k + 1) (by omega) (by omega)
      · skip
        refine zw_aload_n (i := 0) (x := am 0) E 0 dX3_priceOf_22 rfl rfl (pc' := 23) rfl ?_
        refine zw_get (v := .ref (am 2)) E 0 3 iX3_priceOf_X3 fX3_priceOf_13 rfl rfl (by decide) rfl rfl dX3_priceOf_23 (pc' := 26) rfl ?_
        refine zw_iload (x := nI k) E 5 dX3_priceOf_26 rfl (pc' := 28) rfl ?_
        refine zw_iald (j := k) (x := g.1 1 k) E 2 0 rfl rfl (vp_in_nI hk (by decide)) (zw_clamp hk (by decide)) rfl dX3_priceOf_28 (pc' := 29) rfl ?_
        refine zw_iload_n (i := 2) (x := y) E 2 dX3_priceOf_29 rfl rfl (pc' := 30) rfl ?_
        refine zw_icmp_ne (tgt := 53) E dX3_priceOf_30 (by decide) (pc' := 33) rfl (fun c_3 => ?_) (fun c_3 => ?_)
        · skip
          refine zw_iinc (x := nI k) (v := nI (k + 1)) (lv' := [(5, .int (nI (k + 1))), (0, .ref (am 0)), (1, .int (nI n)), (2, .int y), (3, .int cn), (4, .int (p_of g y cn k))]) E 5 dX3_priceOf_53 rfl (zw_inc1 k) (by decide) rfl (pc' := 56) rfl ?_
          refine zw_goto (tgt := 6) E dX3_priceOf_56 (by decide) ?_
          have e1 : p_of g y cn (k + 1) = p_of g y cn k := by rw [p_of, if_pos c_2, if_neg c_3]
          refine zw_sub [1, 2, 3, 4, 5, 0] (lv' := [(0, .ref (am 0)), (1, .int (nI n)), (2, .int y), (3, .int cn), (4, .int (p_of g y cn k)), (5, .int (nI (k + 1)))]) rfl ?_
          refine zw_as (lv' := [(0, .ref (am 0)), (1, .int (nI n)), (2, .int y), (3, .int cn), (4, .int (p_of g y cn (k + 1))), (5, .int (nI (k + 1)))]) (by rw [e1]) rfl rfl ?_
          exact ih (k + 1) (by omega) (by omega)
        · skip
          refine zw_aload_n (i := 0) (x := am 0) E 0 dX3_priceOf_33 rfl rfl (pc' := 34) rfl ?_
          refine zw_get (v := .ref (am 3)) E 0 4 iX3_priceOf_X3 fX3_priceOf_16 rfl rfl (by decide) rfl rfl dX3_priceOf_34 (pc' := 37) rfl ?_
          refine zw_iload (x := nI k) E 5 dX3_priceOf_37 rfl (pc' := 39) rfl ?_
          refine zw_iald (j := k) (x := g.1 2 k) E 3 0 rfl rfl (vp_in_nI hk (by decide)) (zw_clamp hk (by decide)) rfl dX3_priceOf_39 (pc' := 40) rfl ?_
          refine zw_iload_n (i := 3) (x := cn) E 3 dX3_priceOf_40 rfl rfl (pc' := 41) rfl ?_
          refine zw_icmp_ne (tgt := 53) E dX3_priceOf_41 (by decide) (pc' := 44) rfl (fun c_4 => ?_) (fun c_4 => ?_)
          · skip
            refine zw_iinc (x := nI k) (v := nI (k + 1)) (lv' := [(5, .int (nI (k + 1))), (0, .ref (am 0)), (1, .int (nI n)), (2, .int y), (3, .int cn), (4, .int (p_of g y cn k))]) E 5 dX3_priceOf_53 rfl (zw_inc1 k) (by decide) rfl (pc' := 56) rfl ?_
            refine zw_goto (tgt := 6) E dX3_priceOf_56 (by decide) ?_
            have e1 : p_of g y cn (k + 1) = p_of g y cn k := by rw [p_of, if_pos c_2, if_pos c_3, if_neg c_4]
            refine zw_sub [1, 2, 3, 4, 5, 0] (lv' := [(0, .ref (am 0)), (1, .int (nI n)), (2, .int y), (3, .int cn), (4, .int (p_of g y cn k)), (5, .int (nI (k + 1)))]) rfl ?_
            refine zw_as (lv' := [(0, .ref (am 0)), (1, .int (nI n)), (2, .int y), (3, .int cn), (4, .int (p_of g y cn (k + 1))), (5, .int (nI (k + 1)))]) (by rw [e1]) rfl rfl ?_
            exact ih (k + 1) (by omega) (by omega)
          · skip
            refine zw_aload_n (i := 0) (x := am 0) E 0 dX3_priceOf_44 rfl rfl (pc' := 45) rfl ?_
            refine zw_get (v := .ref (am 5)) E 0 6 iX3_priceOf_X3 fX3_priceOf_22 rfl rfl (by decide) rfl rfl dX3_priceOf_45 (pc' := 48) rfl ?_
            refine zw_iload (x := nI k) E 5 dX3_priceOf_48 rfl (pc' := 50) rfl ?_
            refine zw_iald (j := k) (x := g.1 4 k) E 5 0 rfl rfl (vp_in_nI hk (by decide)) (zw_clamp hk (by decide)) rfl dX3_priceOf_50 (pc' := 51) rfl ?_
            refine zw_istore (lv' := [(4, .int (g.1 4 k)), (0, .ref (am 0)), (1, .int (nI n)), (2, .int y), (3, .int cn), (5, .int (nI k))]) E dX3_priceOf_51 (by decide) rfl (pc' := 53) rfl ?_
            refine zw_iinc (x := nI k) (v := nI (k + 1)) (lv' := [(5, .int (nI (k + 1))), (4, .int (g.1 4 k)), (0, .ref (am 0)), (1, .int (nI n)), (2, .int y), (3, .int cn)]) E 5 dX3_priceOf_53 rfl (zw_inc1 k) (by decide) rfl (pc' := 56) rfl ?_
            refine zw_goto (tgt := 6) E dX3_priceOf_56 (by decide) ?_
            have e1 : p_of g y cn (k + 1) = g.1 4 k := by rw [p_of, if_pos c_2, if_pos c_3, if_pos c_4]
            refine zw_sub [2, 3, 4, 5, 1, 0] (lv' := [(0, .ref (am 0)), (1, .int (nI n)), (2, .int y), (3, .int cn), (4, .int (g.1 4 k)), (5, .int (nI (k + 1)))]) rfl ?_
            refine zw_as (lv' := [(0, .ref (am 0)), (1, .int (nI n)), (2, .int y), (3, .int cn), (4, .int (p_of g y cn (k + 1))), (5, .int (nI (k + 1)))]) (by rw [e1]) rfl rfl ?_
            exact ih (k + 1) (by omega) (by omega)

set_option maxHeartbeats 4000000 in
set_option maxRecDepth 100000 in
/-- priceOf(k, y, corn) -/
theorem qX3_priceOf (l : Launch) (D : va_G) (K : Nat → ClassId) (am : Nat → Nat) (g : Md) (n : Nat) (hn : n ≤ 80) (y cn : Int32) : zw_I l yX3_priceOf wsX3_priceOf rmX3_priceOf D (zT K) [.ref (am 0), .int (nI n), .int y, .int cn] (md_W K am g) (p_of g y cn n) (md_W K am g) := by
  refine zw_ofI (cc := cX3_priceOf) (nL := 6) (ret := (some .int)) (own := RX3) (lv := [(0, .ref (am 0)), (1, .int (nI n)), (2, .int y), (3, .int cn)]) (by decide) rfl (Nat.le_of_ble_eq_true rfl) rfl rfl ?_
  intro p e s m below meth c A E hr hlk
  refine zw_iconst (v := 0) E dX3_priceOf_0 (by decide) (pc' := 1) rfl ?_
  refine zw_istore (lv' := [(4, .int 0), (0, .ref (am 0)), (1, .int (nI n)), (2, .int y), (3, .int cn)]) E dX3_priceOf_1 (by decide) rfl (pc' := 3) rfl ?_
  refine zw_iconst (v := 0) E dX3_priceOf_3 (by decide) (pc' := 4) rfl ?_
  refine zw_istore (lv' := [(5, .int 0), (4, .int 0), (0, .ref (am 0)), (1, .int (nI n)), (2, .int y), (3, .int cn)]) E dX3_priceOf_4 (by decide) rfl (pc' := 6) rfl ?_
  refine zw_sub [2, 3, 4, 5, 1, 0] (lv' := [(0, .ref (am 0)), (1, .int (nI n)), (2, .int y), (3, .int cn), (4, .int 0), (5, .int 0)]) rfl ?_
  exact lX3_priceOf E hr hlk am g n hn y cn (n + 1) 0 (Nat.zero_le _) (by omega)

def av_p (g : Md) (n : Nat) (y cn : Int32) (k : Nat) : Int32 := p_of g (y - 7 + nI k) cn n
def av_sum (g : Md) (n : Nat) (y cn : Int32) : Nat → Int32
  | 0 => 0
  | k + 1 => av_sum g n y cn k + av_p g n y cn k
def av_many (g : Md) (n : Nat) (y cn : Int32) : Nat → Nat
  | 0 => 0
  | k + 1 => av_many g n y cn k + (if av_p g n y cn k ≤ 0 then 0 else 1)
theorem av_many_le (g : Md) (n : Nat) (y cn : Int32) : ∀ k, av_many g n y cn k ≤ k
  | 0 => Nat.le_refl 0
  | k + 1 => by
    have := av_many_le g n y cn k
    rw [av_many]
    split <;> omega
def m_avg (g : Md) (n : Nat) (y cn : Int32) : Int32 := if nI (av_many g n y cn 7) = 0 then -1 else (z_near (av_sum g n y cn 7).toInt64 (nI (av_many g n y cn 7)).toInt64).toInt32
theorem zw_y7 {y : Int32} {k : Nat} (hy : 1 ≤ y ∧ y ≤ 200) (hk : k ≤ 7) : y ≤ y - 7 + nI k ↔ 7 ≤ k := by
  obtain ⟨j, hj, e⟩ := nI_of2 (x := y) (M := 200) (n := 200) rfl (fun h => absurd hy.1 (Int32.not_le.mpr (Int32.lt_trans h (by decide)))) hy.2
  subst e
  have h1 : 1 ≤ j := (nI_leI (a := 1) (by decide) (by omega)).mp hy.1
  have e7 : nI j - 7 + nI k = nI j - nI 7 + nI k := rfl
  rw [e7, Int32.le_iff_toInt_le, Int32.toInt_add, pk_sub_toInt (by omega) (by omega), nI_toInt (by omega), nI_toInt (by omega), Int.bmod_eq_of_le (by omega) (by omega)]
  omega
theorem zw_a1 (y : Int32) (k : Nat) : y - 7 + nI k + Int32.ofInt 1 = y - 7 + nI (k + 1) := by rw [Int32.add_assoc, zw_inc1]
theorem zw_near_many {m : Nat} (h7 : m ≤ 7) (h : ¬ nI m = 0) : ¬ (2 : Int64) * (nI m).toInt64 = 0 := by
  apply zw_m2
  rw [nI_l (by omega)]
  have : m ≠ 0 := fun q => h (by rw [q]; rfl)
  intro q
  have := (lN_le (b := 0) (by omega) (by decide)).mp q
  omega

set_option maxHeartbeats 4000000 in
set_option maxRecDepth 100000 in
theorem lX3_averageOf {l : Launch} {D : va_G} {K : Nat → ClassId} {p : Program} {e : Env} {s : State} {m : MethodId} {below : List Frame} {meth : Method} {c : Code} {A : Nat → Prop} {args : Array Value} (E : zw_E p s m args c cX3_averageOf 8 RX3 wsX3_averageOf D (zT K) A) (hr : meth.sig.returnType = (some .int)) (hlk : meth.locks = false) (am : Nat → Nat) (g : Md) (n : Nat) (hn : n ≤ 80) (y cn : Int32) (hy : 1 ≤ y ∧ y ≤ 200) : ∀ (fu k : Nat), k ≤ 7 → 7 + 1 ≤ k + fu → zw_W p l e rmX3_averageOf s m args below meth c 8 D A 0 0 (zw_Qi D A below args s (m_avg g n y cn) (md_W K am g)) 12 [(0, .ref (am 0)), (1, .int (nI n)), (2, .int y), (3, .int cn), (4, .int (av_sum g n y cn k)), (5, .int (nI (av_many g n y cn k))), (6, .int (y - 7 + nI k))] [] (md_W K am g) := by
  intro fu
  induction fu with
  | zero => intro k h1 h2; exact absurd h2 (by omega)
  | succ fu ih =>
    intro k hle hfu
    refine zw_iload (x := y - 7 + nI k) E 6 dX3_averageOf_12 rfl (pc' := 14) rfl ?_
    refine zw_iload_n (i := 2) (x := y) E 2 dX3_averageOf_14 rfl rfl (pc' := 15) rfl ?_
    refine zw_icmp_ge (tgt := 56) E dX3_averageOf_15 (by decide) (pc' := 18) rfl (fun c_1 => ?_) (fun c_1 => ?_)
    · skip
      have hk7 : k = 7 := Nat.le_antisymm hle ((zw_y7 hy hle).mp c_1)
      refine zw_iload (x := nI (av_many g n y cn k)) E 5 dX3_averageOf_56 rfl (pc' := 58) rfl ?_
      refine zw_if_ne (tgt := 65) E dX3_averageOf_58 (by decide) (pc' := 61) rfl (fun c_2 => ?_) (fun c_2 => ?_)
      · skip
        refine zw_iload (x := av_sum g n y cn k) E 4 dX3_averageOf_65 rfl (pc' := 67) rfl ?_
        refine zw_i2l E dX3_averageOf_67 (pc' := 68) rfl ?_
        refine zw_iload (x := nI (av_many g n y cn k)) E 5 dX3_averageOf_68 rfl (pc' := 70) rfl ?_
        refine zw_i2l E dX3_averageOf_70 (pc' := 71) rfl ?_
        refine zw_callLs E (r := z_near ((av_sum g n y cn k).toInt64) ((nI (av_many g n y cn k)).toInt64)) (As := [.long ((av_sum g n y cn k).toInt64), .long ((nI (av_many g n y cn k)).toInt64)]) (rest := []) (ws' := (md_W K am g)) (qX3_nearest l D K ((av_sum g n y cn k).toInt64) ((nI (av_many g n y cn k)).toInt64) (zw_near_many (Nat.le_trans (av_many_le _ _ _ _ k) hle) c_2)) (va_cwS 2 E.2.2.2.2.1 gX3_averageOf_X3_nearest rfl rfl rfl (by decide +kernel) ⟨Nat.le_of_ble_eq_true rfl, Nat.le_of_ble_eq_true rfl⟩) [] (by decide) rfl rfl (zw_put_same _ _ _ rfl) rfl rfl (Nat.le_of_ble_eq_true rfl) ⟨Nat.zero_le _, Nat.zero_le _⟩ dX3_averageOf_71 (pc' := 74) rfl ?_
        refine zw_l2i E dX3_averageOf_74 (pc' := 75) rfl ?_
        exact zw_iret E hr hlk dX3_averageOf_75 (by unfold m_avg; rw [← hk7, if_neg c_2]) rfl
      · skip
        refine zw_iconst (v := (-1)) E dX3_averageOf_61 (by decide) (pc' := 62) rfl ?_
        refine zw_goto (tgt := 75) E dX3_averageOf_62 (by decide) ?_
        exact zw_iret E hr hlk dX3_averageOf_75 (by unfold m_avg; rw [← hk7, if_pos c_2]) rfl
    · skip
      have hk : k < 7 := Nat.lt_of_not_le (fun h => c_1 ((zw_y7 hy hle).mpr h))
      refine zw_aload_n (i := 0) (x := am 0) E 0 dX3_averageOf_18 rfl rfl (pc' := 19) rfl ?_
      refine zw_iload_n (i := 1) (x := nI n) E 1 dX3_averageOf_19 rfl rfl (pc' := 20) rfl ?_
      refine zw_iload (x := y - 7 + nI k) E 6 dX3_averageOf_20 rfl (pc' := 22) rfl ?_
      refine zw_iload_n (i := 3) (x := cn) E 3 dX3_averageOf_22 rfl rfl (pc' := 23) rfl ?_
      refine zw_callIw E (r := av_p g n y cn k) (As := [.int (nI n), .int (y - 7 + nI k), .int cn]) (rest := []) (ws' := (md_W K am g)) (qX3_priceOf l D K am g n hn (y - 7 + nI k) cn) (cwV 3 E.2.2.2.2.1 gX3_averageOf_X3_priceOf rfl rfl rfl (by decide +kernel) ⟨Nat.le_of_ble_eq_true rfl, Nat.le_of_ble_eq_true rfl⟩) 0 rfl rfl rfl rfl rfl rfl (Nat.le_of_ble_eq_true rfl) ⟨Nat.zero_le _, Nat.zero_le _⟩ dX3_averageOf_23 (pc' := 26) rfl ?_
      refine zw_istore (lv' := [(7, .int (av_p g n y cn k)), (0, .ref (am 0)), (1, .int (nI n)), (2, .int y), (3, .int cn), (4, .int (av_sum g n y cn k)), (5, .int (nI (av_many g n y cn k))), (6, .int (y - 7 + nI k))]) E dX3_averageOf_26 (by decide) rfl (pc' := 28) rfl ?_
      refine zw_iload (x := av_sum g n y cn k) E 5 dX3_averageOf_28 rfl (pc' := 30) rfl ?_
      refine zw_iload (x := av_p g n y cn k) E 0 dX3_averageOf_30 rfl (pc' := 32) rfl ?_
      refine zw_iadd E dX3_averageOf_32 (pc' := 33) rfl ?_
      refine zw_istore (lv' := [(4, .int ((av_sum g n y cn k) + (av_p g n y cn k))), (7, .int (av_p g n y cn k)), (0, .ref (am 0)), (1, .int (nI n)), (2, .int y), (3, .int cn), (5, .int (nI (av_many g n y cn k))), (6, .int (y - 7 + nI k))]) E dX3_averageOf_33 (by decide) rfl (pc' := 35) rfl ?_
      refine zw_iload (x := nI (av_many g n y cn k)) E 6 dX3_averageOf_35 rfl (pc' := 37) rfl ?_
      refine zw_iload (x := av_p g n y cn k) E 1 dX3_averageOf_37 rfl (pc' := 39) rfl ?_
      refine zw_if_le (tgt := 46) E dX3_averageOf_39 (by decide) (pc' := 42) rfl (fun c_3 => ?_) (fun c_3 => ?_)
      · skip
        refine zw_iconst (v := 0) E dX3_averageOf_46 (by decide) (pc' := 47) rfl ?_
        refine zw_iadd E dX3_averageOf_47 (pc' := 48) rfl ?_
        refine zw_topi (x' := nI (av_many g n y cn k)) (nI_add (av_many g n y cn k) 0) ?_
        refine zw_istore (lv' := [(5, .int (nI (av_many g n y cn k))), (4, .int ((av_sum g n y cn k) + (av_p g n y cn k))), (7, .int (av_p g n y cn k)), (0, .ref (am 0)), (1, .int (nI n)), (2, .int y), (3, .int cn), (6, .int (y - 7 + nI k))]) E dX3_averageOf_48 (by decide) rfl (pc' := 50) rfl ?_
        refine zw_iinc (x := y - 7 + nI k) (v := y - 7 + nI (k + 1)) (lv' := [(6, .int (y - 7 + nI (k + 1))), (5, .int (nI (av_many g n y cn k))), (4, .int ((av_sum g n y cn k) + (av_p g n y cn k))), (7, .int (av_p g n y cn k)), (0, .ref (am 0)), (1, .int (nI n)), (2, .int y), (3, .int cn)]) E 7 dX3_averageOf_50 rfl (zw_a1 y k) (by decide) rfl (pc' := 53) rfl ?_
        refine zw_goto (tgt := 12) E dX3_averageOf_53 (by decide) ?_
        have e1 : av_many g n y cn (k + 1) = av_many g n y cn k := by rw [av_many, if_pos c_3, Nat.add_zero]
        refine zw_sub [4, 5, 6, 7, 2, 1, 0] (lv' := [(0, .ref (am 0)), (1, .int (nI n)), (2, .int y), (3, .int cn), (4, .int ((av_sum g n y cn k) + (av_p g n y cn k))), (5, .int (nI (av_many g n y cn k))), (6, .int (y - 7 + nI (k + 1)))]) rfl ?_
        refine zw_as (lv' := [(0, .ref (am 0)), (1, .int (nI n)), (2, .int y), (3, .int cn), (4, .int (av_sum g n y cn (k + 1))), (5, .int (nI (av_many g n y cn (k + 1)))), (6, .int (y - 7 + nI (k + 1)))]) (by rw [e1]; rfl) rfl rfl ?_
        exact ih (k + 1) (by omega) (by omega)
      · skip
        refine zw_iconst (v := 1) E dX3_averageOf_42 (by decide) (pc' := 43) rfl ?_
        refine zw_goto (tgt := 47) E dX3_averageOf_43 (by decide) ?_
        refine zw_iadd E dX3_averageOf_47 (pc' := 48) rfl ?_
        refine zw_topi (x' := nI (av_many g n y cn k + 1)) (nI_1 _) ?_
        refine zw_istore (lv' := [(5, .int (nI (av_many g n y cn k + 1))), (4, .int ((av_sum g n y cn k) + (av_p g n y cn k))), (7, .int (av_p g n y cn k)), (0, .ref (am 0)), (1, .int (nI n)), (2, .int y), (3, .int cn), (6, .int (y - 7 + nI k))]) E dX3_averageOf_48 (by decide) rfl (pc' := 50) rfl ?_
        refine zw_iinc (x := y - 7 + nI k) (v := y - 7 + nI (k + 1)) (lv' := [(6, .int (y - 7 + nI (k + 1))), (5, .int (nI (av_many g n y cn k + 1))), (4, .int ((av_sum g n y cn k) + (av_p g n y cn k))), (7, .int (av_p g n y cn k)), (0, .ref (am 0)), (1, .int (nI n)), (2, .int y), (3, .int cn)]) E 7 dX3_averageOf_50 rfl (zw_a1 y k) (by decide) rfl (pc' := 53) rfl ?_
        refine zw_goto (tgt := 12) E dX3_averageOf_53 (by decide) ?_
        have e1 : av_many g n y cn (k + 1) = av_many g n y cn k + 1 := by rw [av_many, if_neg c_3]
        refine zw_sub [4, 5, 6, 7, 2, 1, 0] (lv' := [(0, .ref (am 0)), (1, .int (nI n)), (2, .int y), (3, .int cn), (4, .int ((av_sum g n y cn k) + (av_p g n y cn k))), (5, .int (nI (av_many g n y cn k + 1))), (6, .int (y - 7 + nI (k + 1)))]) rfl ?_
        refine zw_as (lv' := [(0, .ref (am 0)), (1, .int (nI n)), (2, .int y), (3, .int cn), (4, .int (av_sum g n y cn (k + 1))), (5, .int (nI (av_many g n y cn (k + 1)))), (6, .int (y - 7 + nI (k + 1)))]) (by rw [e1]; rfl) rfl rfl ?_
        exact ih (k + 1) (by omega) (by omega)

set_option maxHeartbeats 4000000 in
set_option maxRecDepth 100000 in
/-- averageOf(k, y, corn) -/
theorem qX3_averageOf (l : Launch) (D : va_G) (K : Nat → ClassId) (am : Nat → Nat) (g : Md) (n : Nat) (hn : n ≤ 80) (y cn : Int32) (hy : 1 ≤ y ∧ y ≤ 200) : zw_I l yX3_averageOf wsX3_averageOf rmX3_averageOf D (zT K) [.ref (am 0), .int (nI n), .int y, .int cn] (md_W K am g) (m_avg g n y cn) (md_W K am g) := by
  refine zw_ofI (cc := cX3_averageOf) (nL := 8) (ret := (some .int)) (own := RX3) (lv := [(0, .ref (am 0)), (1, .int (nI n)), (2, .int y), (3, .int cn)]) (by decide) rfl (Nat.le_of_ble_eq_true rfl) rfl rfl ?_
  intro p e s m below meth c A E hr hlk
  refine zw_iconst (v := 0) E dX3_averageOf_0 (by decide) (pc' := 1) rfl ?_
  refine zw_istore (lv' := [(4, .int 0), (0, .ref (am 0)), (1, .int (nI n)), (2, .int y), (3, .int cn)]) E dX3_averageOf_1 (by decide) rfl (pc' := 3) rfl ?_
  refine zw_iconst (v := 0) E dX3_averageOf_3 (by decide) (pc' := 4) rfl ?_
  refine zw_istore (lv' := [(5, .int 0), (4, .int 0), (0, .ref (am 0)), (1, .int (nI n)), (2, .int y), (3, .int cn)]) E dX3_averageOf_4 (by decide) rfl (pc' := 6) rfl ?_
  refine zw_iload_n (i := 2) (x := y) E 4 dX3_averageOf_6 rfl rfl (pc' := 7) rfl ?_
  refine zw_bipush (v := 7) E dX3_averageOf_7 (by decide) (pc' := 9) rfl ?_
  refine zw_isub E dX3_averageOf_9 (pc' := 10) rfl ?_
  refine zw_istore (lv' := [(6, .int (y - 7)), (5, .int 0), (4, .int 0), (0, .ref (am 0)), (1, .int (nI n)), (2, .int y), (3, .int cn)]) E dX3_averageOf_10 (by decide) rfl (pc' := 12) rfl ?_
  refine zw_sub [3, 4, 5, 6, 2, 1, 0] (lv' := [(0, .ref (am 0)), (1, .int (nI n)), (2, .int y), (3, .int cn), (4, .int 0), (5, .int 0), (6, .int (y - 7))]) rfl ?_
  refine zw_as (lv' := [(0, .ref (am 0)), (1, .int (nI n)), (2, .int y), (3, .int cn), (4, .int (av_sum g n y cn 0)), (5, .int (nI (av_many g n y cn 0))), (6, .int (y - 7 + nI 0))]) (by rw [show y - 7 + nI 0 = y - 7 from Int32.add_zero _]; rfl) rfl rfl ?_
  exact lX3_averageOf E hr hlk am g n hn y cn hy 8 0 (by omega) (by omega)

def md_c3 (g : Md) (j : Nat) : Md := md_row (md_row (md_row g 15 (3 * j + 0) 0) 15 (3 * j + 1) 0) 15 (3 * j + 2) 0
def md_come (g : Md) (j : Nat) (a k o x : Int32) : Md := md_c3 (md_row (md_row (md_row (md_row (md_row g 11 j 1) 12 j a) 13 j k) 14 j o) 16 j (vp_nar .boolean x)) j
theorem fX3_comes_43 : Cond.fieldLink RX3 43 "TitheMapModel" "isThere" "[Z" ∈ wsX3_comes := by decide +kernel
theorem fX3_comes_47 : Cond.fieldLink RX3 47 "TitheMapModel" "area" "[I" ∈ wsX3_comes := by decide +kernel
theorem fX3_comes_50 : Cond.fieldLink RX3 50 "TitheMapModel" "kind" "[I" ∈ wsX3_comes := by decide +kernel
theorem fX3_comes_53 : Cond.fieldLink RX3 53 "TitheMapModel" "owner" "[I" ∈ wsX3_comes := by decide +kernel
theorem fX3_comes_56 : Cond.fieldLink RX3 56 "TitheMapModel" "charge" "[I" ∈ wsX3_comes := by decide +kernel
theorem fX3_comes_59 : Cond.fieldLink RX3 59 "TitheMapModel" "isBought" "[Z" ∈ wsX3_comes := by decide +kernel
theorem iX3_comes_X3 : ∀ w ∈ wsX30, w ∈ wsX3_comes := by decide +kernel
set_option maxHeartbeats 4000000 in
set_option maxRecDepth 100000 in
/-- comes(f, a, c, o, bought) -/
theorem qX3_comes (l : Launch) (D : va_G) (K : Nat → ClassId) (am : Nat → Nat) (g : Md) (j : Nat) (hj : j < 60) (a k o x : Int32) : zw_V l yX3_comes wsX3_comes rmX3_comes D (zT K) [.ref (am 0), .int (nI j), .int a, .int k, .int o, .int x] (md_W K am g) (md_W K am (md_come g j a k o x)) := by
  refine zw_ofV (cc := cX3_comes) (nL := 7) (ret := none) (own := RX3) (lv := [(0, .ref (am 0)), (1, .int (nI j)), (2, .int a), (3, .int k), (4, .int o), (5, .int x)]) (by decide) rfl (Nat.le_of_ble_eq_true rfl) rfl rfl ?_
  intro p e s m below meth c A E hr hlk
  refine zw_aload_n (i := 0) (x := am 0) E 0 dX3_comes_0 rfl rfl (pc' := 1) rfl ?_
  refine zw_get (v := .ref (am 12)) E 0 13 iX3_comes_X3 fX3_comes_43 rfl rfl (by decide) rfl rfl dX3_comes_1 (pc' := 4) rfl ?_
  refine zw_iload_n (i := 1) (x := nI j) E 1 dX3_comes_4 rfl rfl (pc' := 5) rfl ?_
  refine zw_iconst (v := 1) E dX3_comes_5 (by decide) (pc' := 6) rfl ?_
  refine zw_zast (j := j) (ws' := (md_W K am (md_row g 11 j 1))) E 12 1 rfl rfl (vp_in_nI hj (by decide)) (zw_clamp hj (by decide)) rfl dX3_comes_6 (pc' := 7) rfl ?_
  refine zw_gen_md_g (md_row g 11 j 1) (fun g_1 hg_1 => ?_)
  refine zw_aload_n (i := 0) (x := am 0) E 0 dX3_comes_7 rfl rfl (pc' := 8) rfl ?_
  refine zw_get (v := .ref (am 13)) E 0 14 iX3_comes_X3 fX3_comes_47 rfl rfl (by decide) rfl rfl dX3_comes_8 (pc' := 11) rfl ?_
  refine zw_iload_n (i := 1) (x := nI j) E 1 dX3_comes_11 rfl rfl (pc' := 12) rfl ?_
  refine zw_iload_n (i := 2) (x := a) E 2 dX3_comes_12 rfl rfl (pc' := 13) rfl ?_
  refine zw_iast (j := j) (ws' := (md_W K am (md_row g_1 12 j a))) E 13 0 rfl rfl (vp_in_nI hj (by decide)) (zw_clamp hj (by decide)) rfl dX3_comes_13 (pc' := 14) rfl ?_
  refine zw_gen_md_g (md_row g_1 12 j a) (fun g_2 hg_2 => ?_)
  refine zw_aload_n (i := 0) (x := am 0) E 0 dX3_comes_14 rfl rfl (pc' := 15) rfl ?_
  refine zw_get (v := .ref (am 14)) E 0 15 iX3_comes_X3 fX3_comes_50 rfl rfl (by decide) rfl rfl dX3_comes_15 (pc' := 18) rfl ?_
  refine zw_iload_n (i := 1) (x := nI j) E 1 dX3_comes_18 rfl rfl (pc' := 19) rfl ?_
  refine zw_iload_n (i := 3) (x := k) E 3 dX3_comes_19 rfl rfl (pc' := 20) rfl ?_
  refine zw_iast (j := j) (ws' := (md_W K am (md_row g_2 13 j k))) E 14 0 rfl rfl (vp_in_nI hj (by decide)) (zw_clamp hj (by decide)) rfl dX3_comes_20 (pc' := 21) rfl ?_
  refine zw_gen_md_g (md_row g_2 13 j k) (fun g_3 hg_3 => ?_)
  refine zw_aload_n (i := 0) (x := am 0) E 0 dX3_comes_21 rfl rfl (pc' := 22) rfl ?_
  refine zw_get (v := .ref (am 15)) E 0 16 iX3_comes_X3 fX3_comes_53 rfl rfl (by decide) rfl rfl dX3_comes_22 (pc' := 25) rfl ?_
  refine zw_iload_n (i := 1) (x := nI j) E 1 dX3_comes_25 rfl rfl (pc' := 26) rfl ?_
  refine zw_iload (x := o) E 4 dX3_comes_26 rfl (pc' := 28) rfl ?_
  refine zw_iast (j := j) (ws' := (md_W K am (md_row g_3 14 j o))) E 15 0 rfl rfl (vp_in_nI hj (by decide)) (zw_clamp hj (by decide)) rfl dX3_comes_28 (pc' := 29) rfl ?_
  refine zw_gen_md_g (md_row g_3 14 j o) (fun g_4 hg_4 => ?_)
  refine zw_aload_n (i := 0) (x := am 0) E 0 dX3_comes_29 rfl rfl (pc' := 30) rfl ?_
  refine zw_get (v := .ref (am 17)) E 0 18 iX3_comes_X3 fX3_comes_59 rfl rfl (by decide) rfl rfl dX3_comes_30 (pc' := 33) rfl ?_
  refine zw_iload_n (i := 1) (x := nI j) E 1 dX3_comes_33 rfl rfl (pc' := 34) rfl ?_
  refine zw_iload (x := x) E 5 dX3_comes_34 rfl (pc' := 36) rfl ?_
  refine zw_zast (j := j) (ws' := (md_W K am (md_row g_4 16 j (vp_nar .boolean x)))) E 17 1 rfl rfl (vp_in_nI hj (by decide)) (zw_clamp hj (by decide)) rfl dX3_comes_36 (pc' := 37) rfl ?_
  refine zw_gen_md_g (md_row g_4 16 j (vp_nar .boolean x)) (fun g_5 hg_5 => ?_)
  refine zw_iconst (v := 0) E dX3_comes_37 (by decide) (pc' := 38) rfl ?_
  refine zw_istore (lv' := [(6, .int 0), (0, .ref (am 0)), (1, .int (nI j)), (2, .int a), (3, .int k), (4, .int o), (5, .int x)]) E dX3_comes_38 (by decide) rfl (pc' := 40) rfl ?_
  refine zw_iload (x := 0) E 0 dX3_comes_40 rfl (pc' := 42) rfl ?_
  refine zw_iconst (v := 3) E dX3_comes_42 (by decide) (pc' := 43) rfl ?_
  refine zw_icmp_ge (tgt := 64) E dX3_comes_43 (by decide) (pc' := 46) rfl (fun c9 => absurd c9 (by decide)) (fun _ => ?_)
  refine zw_aload_n (i := 0) (x := am 0) E 1 dX3_comes_46 rfl rfl (pc' := 47) rfl ?_
  refine zw_get (v := .ref (am 16)) E 0 17 iX3_comes_X3 fX3_comes_56 rfl rfl (by decide) rfl rfl dX3_comes_47 (pc' := 50) rfl ?_
  refine zw_iconst (v := 3) E dX3_comes_50 (by decide) (pc' := 51) rfl ?_
  refine zw_iload_n (i := 1) (x := nI j) E 2 dX3_comes_51 rfl rfl (pc' := 52) rfl ?_
  refine zw_imul E dX3_comes_52 (pc' := 53) rfl ?_
  refine zw_topi (x' := nI (3 * j)) (pk_mul 3 j) ?_
  refine zw_iload (x := 0) E 0 dX3_comes_53 rfl (pc' := 55) rfl ?_
  refine zw_iadd E dX3_comes_55 (pc' := 56) rfl ?_
  refine zw_topi (x' := nI (3 * j + 0)) (nI_add (3 * j) 0) ?_
  refine zw_iconst (v := 0) E dX3_comes_56 (by decide) (pc' := 57) rfl ?_
  refine zw_iast (j := 3 * j + 0) (ws' := (md_W K am (md_row g_5 15 (3 * j + 0) 0))) E 16 0 rfl rfl (vp_in_nI (show 3 * j + 0 < 180 by omega) (by decide)) (zw_clamp (show 3 * j + 0 < 180 by omega) (by decide)) rfl dX3_comes_57 (pc' := 58) rfl ?_
  refine zw_gen_md_g (md_row g_5 15 (3 * j + 0) 0) (fun g_6 hg_6 => ?_)
  refine zw_iinc (x := 0) (v := 1) (lv' := [(6, .int 1), (0, .ref (am 0)), (1, .int (nI j)), (2, .int a), (3, .int k), (4, .int o), (5, .int x)]) E 0 dX3_comes_58 rfl (by decide) (by decide) rfl (pc' := 61) rfl ?_
  refine zw_goto (tgt := 40) E dX3_comes_61 (by decide) ?_
  refine zw_iload (x := 1) E 0 dX3_comes_40 rfl (pc' := 42) rfl ?_
  refine zw_iconst (v := 3) E dX3_comes_42 (by decide) (pc' := 43) rfl ?_
  refine zw_icmp_ge (tgt := 64) E dX3_comes_43 (by decide) (pc' := 46) rfl (fun c9 => absurd c9 (by decide)) (fun _ => ?_)
  refine zw_aload_n (i := 0) (x := am 0) E 1 dX3_comes_46 rfl rfl (pc' := 47) rfl ?_
  refine zw_get (v := .ref (am 16)) E 0 17 iX3_comes_X3 fX3_comes_56 rfl rfl (by decide) rfl rfl dX3_comes_47 (pc' := 50) rfl ?_
  refine zw_iconst (v := 3) E dX3_comes_50 (by decide) (pc' := 51) rfl ?_
  refine zw_iload_n (i := 1) (x := nI j) E 2 dX3_comes_51 rfl rfl (pc' := 52) rfl ?_
  refine zw_imul E dX3_comes_52 (pc' := 53) rfl ?_
  refine zw_topi (x' := nI (3 * j)) (pk_mul 3 j) ?_
  refine zw_iload (x := 1) E 0 dX3_comes_53 rfl (pc' := 55) rfl ?_
  refine zw_iadd E dX3_comes_55 (pc' := 56) rfl ?_
  refine zw_topi (x' := nI (3 * j + 1)) (nI_add (3 * j) 1) ?_
  refine zw_iconst (v := 0) E dX3_comes_56 (by decide) (pc' := 57) rfl ?_
  refine zw_iast (j := 3 * j + 1) (ws' := (md_W K am (md_row g_6 15 (3 * j + 1) 0))) E 16 0 rfl rfl (vp_in_nI (show 3 * j + 1 < 180 by omega) (by decide)) (zw_clamp (show 3 * j + 1 < 180 by omega) (by decide)) rfl dX3_comes_57 (pc' := 58) rfl ?_
  refine zw_gen_md_g (md_row g_6 15 (3 * j + 1) 0) (fun g_7 hg_7 => ?_)
  refine zw_iinc (x := 1) (v := 2) (lv' := [(6, .int 2), (0, .ref (am 0)), (1, .int (nI j)), (2, .int a), (3, .int k), (4, .int o), (5, .int x)]) E 0 dX3_comes_58 rfl (by decide) (by decide) rfl (pc' := 61) rfl ?_
  refine zw_goto (tgt := 40) E dX3_comes_61 (by decide) ?_
  refine zw_iload (x := 2) E 0 dX3_comes_40 rfl (pc' := 42) rfl ?_
  refine zw_iconst (v := 3) E dX3_comes_42 (by decide) (pc' := 43) rfl ?_
  refine zw_icmp_ge (tgt := 64) E dX3_comes_43 (by decide) (pc' := 46) rfl (fun c9 => absurd c9 (by decide)) (fun _ => ?_)
  refine zw_aload_n (i := 0) (x := am 0) E 1 dX3_comes_46 rfl rfl (pc' := 47) rfl ?_
  refine zw_get (v := .ref (am 16)) E 0 17 iX3_comes_X3 fX3_comes_56 rfl rfl (by decide) rfl rfl dX3_comes_47 (pc' := 50) rfl ?_
  refine zw_iconst (v := 3) E dX3_comes_50 (by decide) (pc' := 51) rfl ?_
  refine zw_iload_n (i := 1) (x := nI j) E 2 dX3_comes_51 rfl rfl (pc' := 52) rfl ?_
  refine zw_imul E dX3_comes_52 (pc' := 53) rfl ?_
  refine zw_topi (x' := nI (3 * j)) (pk_mul 3 j) ?_
  refine zw_iload (x := 2) E 0 dX3_comes_53 rfl (pc' := 55) rfl ?_
  refine zw_iadd E dX3_comes_55 (pc' := 56) rfl ?_
  refine zw_topi (x' := nI (3 * j + 2)) (nI_add (3 * j) 2) ?_
  refine zw_iconst (v := 0) E dX3_comes_56 (by decide) (pc' := 57) rfl ?_
  refine zw_iast (j := 3 * j + 2) (ws' := (md_W K am (md_row g_7 15 (3 * j + 2) 0))) E 16 0 rfl rfl (vp_in_nI (show 3 * j + 2 < 180 by omega) (by decide)) (zw_clamp (show 3 * j + 2 < 180 by omega) (by decide)) rfl dX3_comes_57 (pc' := 58) rfl ?_
  refine zw_gen_md_g (md_row g_7 15 (3 * j + 2) 0) (fun g_8 hg_8 => ?_)
  refine zw_iinc (x := 2) (v := 3) (lv' := [(6, .int 3), (0, .ref (am 0)), (1, .int (nI j)), (2, .int a), (3, .int k), (4, .int o), (5, .int x)]) E 0 dX3_comes_58 rfl (by decide) (by decide) rfl (pc' := 61) rfl ?_
  refine zw_goto (tgt := 40) E dX3_comes_61 (by decide) ?_
  refine zw_iload (x := 3) E 0 dX3_comes_40 rfl (pc' := 42) rfl ?_
  refine zw_iconst (v := 3) E dX3_comes_42 (by decide) (pc' := 43) rfl ?_
  refine zw_icmp_ge (tgt := 64) E dX3_comes_43 (by decide) (pc' := 46) rfl (fun _ => ?_) (fun c9 => absurd (by decide) c9)
  exact zw_vret E hr hlk dX3_comes_64 (by subst hg_1 hg_2 hg_3 hg_4 hg_5 hg_6 hg_7 hg_8; rfl)
