/-! the book: put, end, draft, fileDraft, withdrawDraft, keep -/
theorem zw_n80 {n : Nat} (h : n < 80) : ¬ (80 : Int32) ≤ nI n := nI_ge h (by decide)
theorem zw_n60 {n : Nat} (h : n < 60) : ¬ (60 : Int32) ≤ nI n := nI_ge h (by decide)
theorem fX0_put_45 : Cond.fieldLink RX0 45 "TitheMap$Book" "size" "I" ∈ wsX0_put := by decide +kernel
theorem iX0_put_X0 : ∀ w ∈ wsX00, w ∈ wsX0_put := by decide +kernel
set_option maxHeartbeats 4000000 in
set_option maxRecDepth 100000 in
/-- put(row 0, x) -/
theorem qX0_put_0 (l : Launch) (D : va_G) (K : Nat → ClassId) (ab : Nat → Nat) (b : Bk) (x : Int32) (hn : b.2 1 < 80) : zw_V l yX0_put wsX0_put rmX0_put D (zT K) [.ref (ab 0), .ref (ab 1), .int x] (bk_W K ab b) (bk_W K ab (bk_row b 0 (b.2 1) x)) := by
  refine zw_ofV (cc := cX0_put) (nL := 3) (ret := none) (own := RX0) (lv := [(0, .ref (ab 0)), (1, .ref (ab 1)), (2, .int x)]) (by decide) rfl (Nat.le_of_ble_eq_true rfl) rfl rfl ?_
  intro p e s m below meth c A E hr hlk
  refine zw_aload_n (i := 0) (x := ab 0) E 0 dX0_put_0 rfl rfl (pc' := 1) rfl ?_
  refine zw_get (v := .int (nI (b.2 1))) E 0 12 iX0_put_X0 fX0_put_45 rfl rfl (by decide) rfl rfl dX0_put_1 (pc' := 4) rfl ?_
  refine zw_if_lt (tgt := 23) E dX0_put_4 (by decide) (pc' := 7) rfl (fun c_1 => ?_) (fun c_1 => ?_)
  · exact absurd c_1 (nI_pos (Nat.lt_trans hn (by decide)))
  · skip
    refine zw_aload_n (i := 0) (x := ab 0) E 0 dX0_put_7 rfl rfl (pc' := 8) rfl ?_
    refine zw_get (v := .int (nI (b.2 1))) E 0 12 iX0_put_X0 fX0_put_45 rfl rfl (by decide) rfl rfl dX0_put_8 (pc' := 11) rfl ?_
    refine zw_aload_n (i := 1) (x := ab 1) E 1 dX0_put_11 rfl rfl (pc' := 12) rfl ?_
    refine zw_alen (v := 80) E 1 0 rfl rfl rfl dX0_put_12 (pc' := 13) rfl ?_
    refine zw_icmp_ge (tgt := 23) E dX0_put_13 (by decide) (pc' := 16) rfl (fun c_2 => ?_) (fun c_2 => ?_)
    · exact absurd c_2 (zw_n80 hn)
    · skip
      refine zw_aload_n (i := 1) (x := ab 1) E 1 dX0_put_16 rfl rfl (pc' := 17) rfl ?_
      refine zw_aload_n (i := 0) (x := ab 0) E 0 dX0_put_17 rfl rfl (pc' := 18) rfl ?_
      refine zw_get (v := .int (nI (b.2 1))) E 0 12 iX0_put_X0 fX0_put_45 rfl rfl (by decide) rfl rfl dX0_put_18 (pc' := 21) rfl ?_
      refine zw_iload_n (i := 2) (x := x) E 2 dX0_put_21 rfl rfl (pc' := 22) rfl ?_
      refine zw_iast (j := b.2 1) (ws' := (bk_W K ab (bk_row b 0 (b.2 1) x))) E 1 0 rfl rfl (vp_in_nI hn (by decide)) (zw_clamp hn (by decide)) rfl dX0_put_22 (pc' := 23) rfl ?_
      exact zw_vret E hr hlk dX0_put_23 rfl

set_option maxHeartbeats 4000000 in
set_option maxRecDepth 100000 in
/-- put(row 1, x) -/
theorem qX0_put_1 (l : Launch) (D : va_G) (K : Nat → ClassId) (ab : Nat → Nat) (b : Bk) (x : Int32) (hn : b.2 1 < 80) : zw_V l yX0_put wsX0_put rmX0_put D (zT K) [.ref (ab 0), .ref (ab 2), .int x] (bk_W K ab b) (bk_W K ab (bk_row b 1 (b.2 1) x)) := by
  refine zw_ofV (cc := cX0_put) (nL := 3) (ret := none) (own := RX0) (lv := [(0, .ref (ab 0)), (1, .ref (ab 2)), (2, .int x)]) (by decide) rfl (Nat.le_of_ble_eq_true rfl) rfl rfl ?_
  intro p e s m below meth c A E hr hlk
  refine zw_aload_n (i := 0) (x := ab 0) E 0 dX0_put_0 rfl rfl (pc' := 1) rfl ?_
  refine zw_get (v := .int (nI (b.2 1))) E 0 12 iX0_put_X0 fX0_put_45 rfl rfl (by decide) rfl rfl dX0_put_1 (pc' := 4) rfl ?_
  refine zw_if_lt (tgt := 23) E dX0_put_4 (by decide) (pc' := 7) rfl (fun c_1 => ?_) (fun c_1 => ?_)
  · exact absurd c_1 (nI_pos (Nat.lt_trans hn (by decide)))
  · skip
    refine zw_aload_n (i := 0) (x := ab 0) E 0 dX0_put_7 rfl rfl (pc' := 8) rfl ?_
    refine zw_get (v := .int (nI (b.2 1))) E 0 12 iX0_put_X0 fX0_put_45 rfl rfl (by decide) rfl rfl dX0_put_8 (pc' := 11) rfl ?_
    refine zw_aload_n (i := 1) (x := ab 2) E 1 dX0_put_11 rfl rfl (pc' := 12) rfl ?_
    refine zw_alen (v := 80) E 2 0 rfl rfl rfl dX0_put_12 (pc' := 13) rfl ?_
    refine zw_icmp_ge (tgt := 23) E dX0_put_13 (by decide) (pc' := 16) rfl (fun c_2 => ?_) (fun c_2 => ?_)
    · exact absurd c_2 (zw_n80 hn)
    · skip
      refine zw_aload_n (i := 1) (x := ab 2) E 1 dX0_put_16 rfl rfl (pc' := 17) rfl ?_
      refine zw_aload_n (i := 0) (x := ab 0) E 0 dX0_put_17 rfl rfl (pc' := 18) rfl ?_
      refine zw_get (v := .int (nI (b.2 1))) E 0 12 iX0_put_X0 fX0_put_45 rfl rfl (by decide) rfl rfl dX0_put_18 (pc' := 21) rfl ?_
      refine zw_iload_n (i := 2) (x := x) E 2 dX0_put_21 rfl rfl (pc' := 22) rfl ?_
      refine zw_iast (j := b.2 1) (ws' := (bk_W K ab (bk_row b 1 (b.2 1) x))) E 2 0 rfl rfl (vp_in_nI hn (by decide)) (zw_clamp hn (by decide)) rfl dX0_put_22 (pc' := 23) rfl ?_
      exact zw_vret E hr hlk dX0_put_23 rfl

set_option maxHeartbeats 4000000 in
set_option maxRecDepth 100000 in
/-- put(row 2, x) -/
theorem qX0_put_2 (l : Launch) (D : va_G) (K : Nat → ClassId) (ab : Nat → Nat) (b : Bk) (x : Int32) (hn : b.2 1 < 80) : zw_V l yX0_put wsX0_put rmX0_put D (zT K) [.ref (ab 0), .ref (ab 3), .int x] (bk_W K ab b) (bk_W K ab (bk_row b 2 (b.2 1) x)) := by
  refine zw_ofV (cc := cX0_put) (nL := 3) (ret := none) (own := RX0) (lv := [(0, .ref (ab 0)), (1, .ref (ab 3)), (2, .int x)]) (by decide) rfl (Nat.le_of_ble_eq_true rfl) rfl rfl ?_
  intro p e s m below meth c A E hr hlk
  refine zw_aload_n (i := 0) (x := ab 0) E 0 dX0_put_0 rfl rfl (pc' := 1) rfl ?_
  refine zw_get (v := .int (nI (b.2 1))) E 0 12 iX0_put_X0 fX0_put_45 rfl rfl (by decide) rfl rfl dX0_put_1 (pc' := 4) rfl ?_
  refine zw_if_lt (tgt := 23) E dX0_put_4 (by decide) (pc' := 7) rfl (fun c_1 => ?_) (fun c_1 => ?_)
  · exact absurd c_1 (nI_pos (Nat.lt_trans hn (by decide)))
  · skip
    refine zw_aload_n (i := 0) (x := ab 0) E 0 dX0_put_7 rfl rfl (pc' := 8) rfl ?_
    refine zw_get (v := .int (nI (b.2 1))) E 0 12 iX0_put_X0 fX0_put_45 rfl rfl (by decide) rfl rfl dX0_put_8 (pc' := 11) rfl ?_
    refine zw_aload_n (i := 1) (x := ab 3) E 1 dX0_put_11 rfl rfl (pc' := 12) rfl ?_
    refine zw_alen (v := 80) E 3 0 rfl rfl rfl dX0_put_12 (pc' := 13) rfl ?_
    refine zw_icmp_ge (tgt := 23) E dX0_put_13 (by decide) (pc' := 16) rfl (fun c_2 => ?_) (fun c_2 => ?_)
    · exact absurd c_2 (zw_n80 hn)
    · skip
      refine zw_aload_n (i := 1) (x := ab 3) E 1 dX0_put_16 rfl rfl (pc' := 17) rfl ?_
      refine zw_aload_n (i := 0) (x := ab 0) E 0 dX0_put_17 rfl rfl (pc' := 18) rfl ?_
      refine zw_get (v := .int (nI (b.2 1))) E 0 12 iX0_put_X0 fX0_put_45 rfl rfl (by decide) rfl rfl dX0_put_18 (pc' := 21) rfl ?_
      refine zw_iload_n (i := 2) (x := x) E 2 dX0_put_21 rfl rfl (pc' := 22) rfl ?_
      refine zw_iast (j := b.2 1) (ws' := (bk_W K ab (bk_row b 2 (b.2 1) x))) E 3 0 rfl rfl (vp_in_nI hn (by decide)) (zw_clamp hn (by decide)) rfl dX0_put_22 (pc' := 23) rfl ?_
      exact zw_vret E hr hlk dX0_put_23 rfl

set_option maxHeartbeats 4000000 in
set_option maxRecDepth 100000 in
/-- put(row 3, x) -/
theorem qX0_put_3 (l : Launch) (D : va_G) (K : Nat → ClassId) (ab : Nat → Nat) (b : Bk) (x : Int32) (hn : b.2 1 < 80) : zw_V l yX0_put wsX0_put rmX0_put D (zT K) [.ref (ab 0), .ref (ab 4), .int x] (bk_W K ab b) (bk_W K ab (bk_row b 3 (b.2 1) x)) := by
  refine zw_ofV (cc := cX0_put) (nL := 3) (ret := none) (own := RX0) (lv := [(0, .ref (ab 0)), (1, .ref (ab 4)), (2, .int x)]) (by decide) rfl (Nat.le_of_ble_eq_true rfl) rfl rfl ?_
  intro p e s m below meth c A E hr hlk
  refine zw_aload_n (i := 0) (x := ab 0) E 0 dX0_put_0 rfl rfl (pc' := 1) rfl ?_
  refine zw_get (v := .int (nI (b.2 1))) E 0 12 iX0_put_X0 fX0_put_45 rfl rfl (by decide) rfl rfl dX0_put_1 (pc' := 4) rfl ?_
  refine zw_if_lt (tgt := 23) E dX0_put_4 (by decide) (pc' := 7) rfl (fun c_1 => ?_) (fun c_1 => ?_)
  · exact absurd c_1 (nI_pos (Nat.lt_trans hn (by decide)))
  · skip
    refine zw_aload_n (i := 0) (x := ab 0) E 0 dX0_put_7 rfl rfl (pc' := 8) rfl ?_
    refine zw_get (v := .int (nI (b.2 1))) E 0 12 iX0_put_X0 fX0_put_45 rfl rfl (by decide) rfl rfl dX0_put_8 (pc' := 11) rfl ?_
    refine zw_aload_n (i := 1) (x := ab 4) E 1 dX0_put_11 rfl rfl (pc' := 12) rfl ?_
    refine zw_alen (v := 80) E 4 0 rfl rfl rfl dX0_put_12 (pc' := 13) rfl ?_
    refine zw_icmp_ge (tgt := 23) E dX0_put_13 (by decide) (pc' := 16) rfl (fun c_2 => ?_) (fun c_2 => ?_)
    · exact absurd c_2 (zw_n80 hn)
    · skip
      refine zw_aload_n (i := 1) (x := ab 4) E 1 dX0_put_16 rfl rfl (pc' := 17) rfl ?_
      refine zw_aload_n (i := 0) (x := ab 0) E 0 dX0_put_17 rfl rfl (pc' := 18) rfl ?_
      refine zw_get (v := .int (nI (b.2 1))) E 0 12 iX0_put_X0 fX0_put_45 rfl rfl (by decide) rfl rfl dX0_put_18 (pc' := 21) rfl ?_
      refine zw_iload_n (i := 2) (x := x) E 2 dX0_put_21 rfl rfl (pc' := 22) rfl ?_
      refine zw_iast (j := b.2 1) (ws' := (bk_W K ab (bk_row b 3 (b.2 1) x))) E 4 0 rfl rfl (vp_in_nI hn (by decide)) (zw_clamp hn (by decide)) rfl dX0_put_22 (pc' := 23) rfl ?_
      exact zw_vret E hr hlk dX0_put_23 rfl

set_option maxHeartbeats 4000000 in
set_option maxRecDepth 100000 in
/-- put(row 4, x) -/
theorem qX0_put_4 (l : Launch) (D : va_G) (K : Nat → ClassId) (ab : Nat → Nat) (b : Bk) (x : Int32) (hn : b.2 1 < 80) : zw_V l yX0_put wsX0_put rmX0_put D (zT K) [.ref (ab 0), .ref (ab 5), .int x] (bk_W K ab b) (bk_W K ab (bk_row b 4 (b.2 1) x)) := by
  refine zw_ofV (cc := cX0_put) (nL := 3) (ret := none) (own := RX0) (lv := [(0, .ref (ab 0)), (1, .ref (ab 5)), (2, .int x)]) (by decide) rfl (Nat.le_of_ble_eq_true rfl) rfl rfl ?_
  intro p e s m below meth c A E hr hlk
  refine zw_aload_n (i := 0) (x := ab 0) E 0 dX0_put_0 rfl rfl (pc' := 1) rfl ?_
  refine zw_get (v := .int (nI (b.2 1))) E 0 12 iX0_put_X0 fX0_put_45 rfl rfl (by decide) rfl rfl dX0_put_1 (pc' := 4) rfl ?_
  refine zw_if_lt (tgt := 23) E dX0_put_4 (by decide) (pc' := 7) rfl (fun c_1 => ?_) (fun c_1 => ?_)
  · exact absurd c_1 (nI_pos (Nat.lt_trans hn (by decide)))
  · skip
    refine zw_aload_n (i := 0) (x := ab 0) E 0 dX0_put_7 rfl rfl (pc' := 8) rfl ?_
    refine zw_get (v := .int (nI (b.2 1))) E 0 12 iX0_put_X0 fX0_put_45 rfl rfl (by decide) rfl rfl dX0_put_8 (pc' := 11) rfl ?_
    refine zw_aload_n (i := 1) (x := ab 5) E 1 dX0_put_11 rfl rfl (pc' := 12) rfl ?_
    refine zw_alen (v := 80) E 5 0 rfl rfl rfl dX0_put_12 (pc' := 13) rfl ?_
    refine zw_icmp_ge (tgt := 23) E dX0_put_13 (by decide) (pc' := 16) rfl (fun c_2 => ?_) (fun c_2 => ?_)
    · exact absurd c_2 (zw_n80 hn)
    · skip
      refine zw_aload_n (i := 1) (x := ab 5) E 1 dX0_put_16 rfl rfl (pc' := 17) rfl ?_
      refine zw_aload_n (i := 0) (x := ab 0) E 0 dX0_put_17 rfl rfl (pc' := 18) rfl ?_
      refine zw_get (v := .int (nI (b.2 1))) E 0 12 iX0_put_X0 fX0_put_45 rfl rfl (by decide) rfl rfl dX0_put_18 (pc' := 21) rfl ?_
      refine zw_iload_n (i := 2) (x := x) E 2 dX0_put_21 rfl rfl (pc' := 22) rfl ?_
      refine zw_iast (j := b.2 1) (ws' := (bk_W K ab (bk_row b 4 (b.2 1) x))) E 5 0 rfl rfl (vp_in_nI hn (by decide)) (zw_clamp hn (by decide)) rfl dX0_put_22 (pc' := 23) rfl ?_
      exact zw_vret E hr hlk dX0_put_23 rfl

set_option maxHeartbeats 4000000 in
set_option maxRecDepth 100000 in
/-- put(row 5, x) -/
theorem qX0_put_5 (l : Launch) (D : va_G) (K : Nat → ClassId) (ab : Nat → Nat) (b : Bk) (x : Int32) (hn : b.2 1 < 80) : zw_V l yX0_put wsX0_put rmX0_put D (zT K) [.ref (ab 0), .ref (ab 6), .int x] (bk_W K ab b) (bk_W K ab (bk_row b 5 (b.2 1) x)) := by
  refine zw_ofV (cc := cX0_put) (nL := 3) (ret := none) (own := RX0) (lv := [(0, .ref (ab 0)), (1, .ref (ab 6)), (2, .int x)]) (by decide) rfl (Nat.le_of_ble_eq_true rfl) rfl rfl ?_
  intro p e s m below meth c A E hr hlk
  refine zw_aload_n (i := 0) (x := ab 0) E 0 dX0_put_0 rfl rfl (pc' := 1) rfl ?_
  refine zw_get (v := .int (nI (b.2 1))) E 0 12 iX0_put_X0 fX0_put_45 rfl rfl (by decide) rfl rfl dX0_put_1 (pc' := 4) rfl ?_
  refine zw_if_lt (tgt := 23) E dX0_put_4 (by decide) (pc' := 7) rfl (fun c_1 => ?_) (fun c_1 => ?_)
  · exact absurd c_1 (nI_pos (Nat.lt_trans hn (by decide)))
  · skip
    refine zw_aload_n (i := 0) (x := ab 0) E 0 dX0_put_7 rfl rfl (pc' := 8) rfl ?_
    refine zw_get (v := .int (nI (b.2 1))) E 0 12 iX0_put_X0 fX0_put_45 rfl rfl (by decide) rfl rfl dX0_put_8 (pc' := 11) rfl ?_
    refine zw_aload_n (i := 1) (x := ab 6) E 1 dX0_put_11 rfl rfl (pc' := 12) rfl ?_
    refine zw_alen (v := 80) E 6 0 rfl rfl rfl dX0_put_12 (pc' := 13) rfl ?_
    refine zw_icmp_ge (tgt := 23) E dX0_put_13 (by decide) (pc' := 16) rfl (fun c_2 => ?_) (fun c_2 => ?_)
    · exact absurd c_2 (zw_n80 hn)
    · skip
      refine zw_aload_n (i := 1) (x := ab 6) E 1 dX0_put_16 rfl rfl (pc' := 17) rfl ?_
      refine zw_aload_n (i := 0) (x := ab 0) E 0 dX0_put_17 rfl rfl (pc' := 18) rfl ?_
      refine zw_get (v := .int (nI (b.2 1))) E 0 12 iX0_put_X0 fX0_put_45 rfl rfl (by decide) rfl rfl dX0_put_18 (pc' := 21) rfl ?_
      refine zw_iload_n (i := 2) (x := x) E 2 dX0_put_21 rfl rfl (pc' := 22) rfl ?_
      refine zw_iast (j := b.2 1) (ws' := (bk_W K ab (bk_row b 5 (b.2 1) x))) E 6 0 rfl rfl (vp_in_nI hn (by decide)) (zw_clamp hn (by decide)) rfl dX0_put_22 (pc' := 23) rfl ?_
      exact zw_vret E hr hlk dX0_put_23 rfl

set_option maxHeartbeats 4000000 in
set_option maxRecDepth 100000 in
/-- put(row 6, x) -/
theorem qX0_put_6 (l : Launch) (D : va_G) (K : Nat → ClassId) (ab : Nat → Nat) (b : Bk) (x : Int32) (hn : b.2 1 < 80) : zw_V l yX0_put wsX0_put rmX0_put D (zT K) [.ref (ab 0), .ref (ab 7), .int x] (bk_W K ab b) (bk_W K ab (bk_row b 6 (b.2 1) x)) := by
  refine zw_ofV (cc := cX0_put) (nL := 3) (ret := none) (own := RX0) (lv := [(0, .ref (ab 0)), (1, .ref (ab 7)), (2, .int x)]) (by decide) rfl (Nat.le_of_ble_eq_true rfl) rfl rfl ?_
  intro p e s m below meth c A E hr hlk
  refine zw_aload_n (i := 0) (x := ab 0) E 0 dX0_put_0 rfl rfl (pc' := 1) rfl ?_
  refine zw_get (v := .int (nI (b.2 1))) E 0 12 iX0_put_X0 fX0_put_45 rfl rfl (by decide) rfl rfl dX0_put_1 (pc' := 4) rfl ?_
  refine zw_if_lt (tgt := 23) E dX0_put_4 (by decide) (pc' := 7) rfl (fun c_1 => ?_) (fun c_1 => ?_)
  · exact absurd c_1 (nI_pos (Nat.lt_trans hn (by decide)))
  · skip
    refine zw_aload_n (i := 0) (x := ab 0) E 0 dX0_put_7 rfl rfl (pc' := 8) rfl ?_
    refine zw_get (v := .int (nI (b.2 1))) E 0 12 iX0_put_X0 fX0_put_45 rfl rfl (by decide) rfl rfl dX0_put_8 (pc' := 11) rfl ?_
    refine zw_aload_n (i := 1) (x := ab 7) E 1 dX0_put_11 rfl rfl (pc' := 12) rfl ?_
    refine zw_alen (v := 80) E 7 0 rfl rfl rfl dX0_put_12 (pc' := 13) rfl ?_
    refine zw_icmp_ge (tgt := 23) E dX0_put_13 (by decide) (pc' := 16) rfl (fun c_2 => ?_) (fun c_2 => ?_)
    · exact absurd c_2 (zw_n80 hn)
    · skip
      refine zw_aload_n (i := 1) (x := ab 7) E 1 dX0_put_16 rfl rfl (pc' := 17) rfl ?_
      refine zw_aload_n (i := 0) (x := ab 0) E 0 dX0_put_17 rfl rfl (pc' := 18) rfl ?_
      refine zw_get (v := .int (nI (b.2 1))) E 0 12 iX0_put_X0 fX0_put_45 rfl rfl (by decide) rfl rfl dX0_put_18 (pc' := 21) rfl ?_
      refine zw_iload_n (i := 2) (x := x) E 2 dX0_put_21 rfl rfl (pc' := 22) rfl ?_
      refine zw_iast (j := b.2 1) (ws' := (bk_W K ab (bk_row b 6 (b.2 1) x))) E 7 0 rfl rfl (vp_in_nI hn (by decide)) (zw_clamp hn (by decide)) rfl dX0_put_22 (pc' := 23) rfl ?_
      exact zw_vret E hr hlk dX0_put_23 rfl

set_option maxHeartbeats 4000000 in
set_option maxRecDepth 100000 in
/-- put(row 7, x) -/
theorem qX0_put_7 (l : Launch) (D : va_G) (K : Nat → ClassId) (ab : Nat → Nat) (b : Bk) (x : Int32) (hn : b.2 1 < 80) : zw_V l yX0_put wsX0_put rmX0_put D (zT K) [.ref (ab 0), .ref (ab 8), .int x] (bk_W K ab b) (bk_W K ab (bk_row b 7 (b.2 1) x)) := by
  refine zw_ofV (cc := cX0_put) (nL := 3) (ret := none) (own := RX0) (lv := [(0, .ref (ab 0)), (1, .ref (ab 8)), (2, .int x)]) (by decide) rfl (Nat.le_of_ble_eq_true rfl) rfl rfl ?_
  intro p e s m below meth c A E hr hlk
  refine zw_aload_n (i := 0) (x := ab 0) E 0 dX0_put_0 rfl rfl (pc' := 1) rfl ?_
  refine zw_get (v := .int (nI (b.2 1))) E 0 12 iX0_put_X0 fX0_put_45 rfl rfl (by decide) rfl rfl dX0_put_1 (pc' := 4) rfl ?_
  refine zw_if_lt (tgt := 23) E dX0_put_4 (by decide) (pc' := 7) rfl (fun c_1 => ?_) (fun c_1 => ?_)
  · exact absurd c_1 (nI_pos (Nat.lt_trans hn (by decide)))
  · skip
    refine zw_aload_n (i := 0) (x := ab 0) E 0 dX0_put_7 rfl rfl (pc' := 8) rfl ?_
    refine zw_get (v := .int (nI (b.2 1))) E 0 12 iX0_put_X0 fX0_put_45 rfl rfl (by decide) rfl rfl dX0_put_8 (pc' := 11) rfl ?_
    refine zw_aload_n (i := 1) (x := ab 8) E 1 dX0_put_11 rfl rfl (pc' := 12) rfl ?_
    refine zw_alen (v := 80) E 8 0 rfl rfl rfl dX0_put_12 (pc' := 13) rfl ?_
    refine zw_icmp_ge (tgt := 23) E dX0_put_13 (by decide) (pc' := 16) rfl (fun c_2 => ?_) (fun c_2 => ?_)
    · exact absurd c_2 (zw_n80 hn)
    · skip
      refine zw_aload_n (i := 1) (x := ab 8) E 1 dX0_put_16 rfl rfl (pc' := 17) rfl ?_
      refine zw_aload_n (i := 0) (x := ab 0) E 0 dX0_put_17 rfl rfl (pc' := 18) rfl ?_
      refine zw_get (v := .int (nI (b.2 1))) E 0 12 iX0_put_X0 fX0_put_45 rfl rfl (by decide) rfl rfl dX0_put_18 (pc' := 21) rfl ?_
      refine zw_iload_n (i := 2) (x := x) E 2 dX0_put_21 rfl rfl (pc' := 22) rfl ?_
      refine zw_iast (j := b.2 1) (ws' := (bk_W K ab (bk_row b 7 (b.2 1) x))) E 8 0 rfl rfl (vp_in_nI hn (by decide)) (zw_clamp hn (by decide)) rfl dX0_put_22 (pc' := 23) rfl ?_
      exact zw_vret E hr hlk dX0_put_23 rfl

def bk_end (b : Bk) (f x : Int32) : Bk := ((if f < 0 then b.1 else if 60 ≤ f then b.1 else up2 b.1 10 f.toNatClampNeg x), b.2)
theorem zw_in60 {i : Int32} (h1 : ¬ i < 0) (h2 : ¬ 60 ≤ i) : vp_in i 60 := zw_in2 (n := 60) (by decide) h1 (Int32.not_le.mp h2)
theorem bk_end_2 (b : Bk) (f x : Int32) : (bk_end b f x).2 = b.2 := rfl
theorem fX0_end_42 : Cond.fieldLink RX0 42 "TitheMap$Book" "ender" "[I" ∈ wsX0_end := by decide +kernel
theorem iX0_end_X0 : ∀ w ∈ wsX00, w ∈ wsX0_end := by decide +kernel
set_option maxHeartbeats 4000000 in
set_option maxRecDepth 100000 in
/-- end(f, e) -/
theorem qX0_end (l : Launch) (D : va_G) (K : Nat → ClassId) (ab : Nat → Nat) (b : Bk) (f x : Int32) : zw_V l yX0_end wsX0_end rmX0_end D (zT K) [.ref (ab 0), .int f, .int x] (bk_W K ab b) (bk_W K ab (bk_end b f x)) := by
  refine zw_ofV (cc := cX0_end) (nL := 3) (ret := none) (own := RX0) (lv := [(0, .ref (ab 0)), (1, .int f), (2, .int x)]) (by decide) rfl (Nat.le_of_ble_eq_true rfl) rfl rfl ?_
  intro p e s m below meth c A E hr hlk
  refine zw_iload_n (i := 1) (x := f) E 1 dX0_end_0 rfl rfl (pc' := 1) rfl ?_
  refine zw_if_lt (tgt := 17) E dX0_end_1 (by decide) (pc' := 4) rfl (fun c_1 => ?_) (fun c_1 => ?_)
  · skip
    exact zw_vret E hr hlk dX0_end_17 (by unfold bk_end; rw [if_pos c_1])
  · skip
    refine zw_iload_n (i := 1) (x := f) E 1 dX0_end_4 rfl rfl (pc' := 5) rfl ?_
    refine zw_bipush (v := 60) E dX0_end_5 (by decide) (pc' := 7) rfl ?_
    refine zw_icmp_ge (tgt := 17) E dX0_end_7 (by decide) (pc' := 10) rfl (fun c_2 => ?_) (fun c_2 => ?_)
    · skip
      exact zw_vret E hr hlk dX0_end_17 (by unfold bk_end; rw [if_neg c_1, if_pos c_2])
    · skip
      refine zw_aload_n (i := 0) (x := ab 0) E 0 dX0_end_10 rfl rfl (pc' := 11) rfl ?_
      refine zw_get (v := .ref (ab 11)) E 0 10 iX0_end_X0 fX0_end_42 rfl rfl (by decide) rfl rfl dX0_end_11 (pc' := 14) rfl ?_
      refine zw_iload_n (i := 1) (x := f) E 1 dX0_end_14 rfl rfl (pc' := 15) rfl ?_
      refine zw_iload_n (i := 2) (x := x) E 2 dX0_end_15 rfl rfl (pc' := 16) rfl ?_
      refine zw_iast (j := f.toNatClampNeg) (ws' := (bk_W K ab (bk_row b 10 f.toNatClampNeg x))) E 11 0 rfl rfl (zw_in60 c_1 c_2) rfl rfl dX0_end_16 (pc' := 17) rfl ?_
      exact zw_vret E hr hlk dX0_end_17 (by unfold bk_end; rw [if_neg c_1, if_neg c_2]; rfl)

/-- a draft: every row at the draft's place told anew -/
def bk_draft (b : Bk) (a y : Int32) : Bk := bk_row (bk_row (bk_row (bk_row (bk_row (bk_row (bk_row (bk_row b 0 (b.2 1) a) 1 (b.2 1) y) 2 (b.2 1) (-1)) 3 (b.2 1) (-1)) 4 (b.2 1) (-1)) 5 (b.2 1) (-1)) 6 (b.2 1) (-1)) 7 (b.2 1) (-1)
theorem fX0_draft_15 : Cond.fieldLink RX0 15 "TitheMap$Book" "year" "[I" ∈ wsX0_draft := by decide +kernel
theorem fX0_draft_18 : Cond.fieldLink RX0 18 "TitheMap$Book" "first" "[I" ∈ wsX0_draft := by decide +kernel
theorem fX0_draft_21 : Cond.fieldLink RX0 21 "TitheMap$Book" "second" "[I" ∈ wsX0_draft := by decide +kernel
theorem fX0_draft_24 : Cond.fieldLink RX0 24 "TitheMap$Book" "amount" "[I" ∈ wsX0_draft := by decide +kernel
theorem fX0_draft_27 : Cond.fieldLink RX0 27 "TitheMap$Book" "kind" "[I" ∈ wsX0_draft := by decide +kernel
theorem fX0_draft_30 : Cond.fieldLink RX0 30 "TitheMap$Book" "owner" "[I" ∈ wsX0_draft := by decide +kernel
theorem fX0_draft_33 : Cond.fieldLink RX0 33 "TitheMap$Book" "made" "[I" ∈ wsX0_draft := by decide +kernel
theorem fX0_draft_9 : Cond.fieldLink RX0 9 "TitheMap$Book" "act" "[I" ∈ wsX0_draft := by decide +kernel
theorem iX0_draft_X0 : ∀ w ∈ wsX00, w ∈ wsX0_draft := by decide +kernel
set_option maxHeartbeats 4000000 in
set_option maxRecDepth 100000 in
/-- draft(act, year) -/
theorem qX0_draft (l : Launch) (D : va_G) (K : Nat → ClassId) (ab : Nat → Nat) (b : Bk) (a y : Int32) (hn : b.2 1 < 80) : zw_V l yX0_draft wsX0_draft rmX0_draft D (zT K) [.ref (ab 0), .int a, .int y] (bk_W K ab b) (bk_W K ab (bk_draft b a y)) := by
  refine zw_ofV (cc := cX0_draft) (nL := 3) (ret := none) (own := RX0) (lv := [(0, .ref (ab 0)), (1, .int a), (2, .int y)]) (by decide) rfl (Nat.le_of_ble_eq_true rfl) rfl rfl ?_
  intro p e s m below meth c A E hr hlk
  refine zw_aload_n (i := 0) (x := ab 0) E 0 dX0_draft_0 rfl rfl (pc' := 1) rfl ?_
  refine zw_aload_n (i := 0) (x := ab 0) E 0 dX0_draft_1 rfl rfl (pc' := 2) rfl ?_
  refine zw_get (v := .ref (ab 1)) E 0 0 iX0_draft_X0 fX0_draft_9 rfl rfl (by decide) rfl rfl dX0_draft_2 (pc' := 5) rfl ?_
  refine zw_iload_n (i := 1) (x := a) E 1 dX0_draft_5 rfl rfl (pc' := 6) rfl ?_
  refine zw_callVw E (As := [.ref (ab 1), .int a]) (rest := []) (ws' := (bk_W K ab (bk_row b 0 (b.2 1) a))) (qX0_put_0 l D K ab b a hn) (cwV 2 E.2.2.2.2.1 gX0_draft_X0_put rfl rfl rfl (by decide +kernel) ⟨Nat.le_of_ble_eq_true rfl, Nat.le_of_ble_eq_true rfl⟩) 0 rfl rfl rfl (bk_ad _ _ _ _) rfl rfl (Nat.le_of_ble_eq_true rfl) ⟨Nat.zero_le _, Nat.zero_le _⟩ dX0_draft_6 (pc' := 9) rfl ?_
  refine zw_aload_n (i := 0) (x := ab 0) E 0 dX0_draft_9 rfl rfl (pc' := 10) rfl ?_
  refine zw_aload_n (i := 0) (x := ab 0) E 0 dX0_draft_10 rfl rfl (pc' := 11) rfl ?_
  refine zw_get (v := .ref (ab 2)) E 0 1 iX0_draft_X0 fX0_draft_15 rfl rfl (by decide) rfl rfl dX0_draft_11 (pc' := 14) rfl ?_
  refine zw_iload_n (i := 2) (x := y) E 2 dX0_draft_14 rfl rfl (pc' := 15) rfl ?_
  refine zw_callVw E (As := [.ref (ab 2), .int y]) (rest := []) (ws' := (bk_W K ab (bk_row (bk_row b 0 (b.2 1) a) 1 (b.2 1) y))) (qX0_put_1 l D K ab (bk_row b 0 (b.2 1) a) y hn) (cwV 2 E.2.2.2.2.1 gX0_draft_X0_put rfl rfl rfl (by decide +kernel) ⟨Nat.le_of_ble_eq_true rfl, Nat.le_of_ble_eq_true rfl⟩) 0 rfl rfl rfl (bk_ad _ _ _ _) rfl rfl (Nat.le_of_ble_eq_true rfl) ⟨Nat.zero_le _, Nat.zero_le _⟩ dX0_draft_15 (pc' := 18) rfl ?_
  refine zw_aload_n (i := 0) (x := ab 0) E 0 dX0_draft_18 rfl rfl (pc' := 19) rfl ?_
  refine zw_aload_n (i := 0) (x := ab 0) E 0 dX0_draft_19 rfl rfl (pc' := 20) rfl ?_
  refine zw_get (v := .ref (ab 3)) E 0 2 iX0_draft_X0 fX0_draft_18 rfl rfl (by decide) rfl rfl dX0_draft_20 (pc' := 23) rfl ?_
  refine zw_iconst (v := (-1)) E dX0_draft_23 (by decide) (pc' := 24) rfl ?_
  refine zw_callVw E (As := [.ref (ab 3), .int (-1)]) (rest := []) (ws' := (bk_W K ab (bk_row (bk_row (bk_row b 0 (b.2 1) a) 1 (b.2 1) y) 2 (b.2 1) (-1)))) (qX0_put_2 l D K ab (bk_row (bk_row b 0 (b.2 1) a) 1 (b.2 1) y) (-1) hn) (cwV 2 E.2.2.2.2.1 gX0_draft_X0_put rfl rfl rfl (by decide +kernel) ⟨Nat.le_of_ble_eq_true rfl, Nat.le_of_ble_eq_true rfl⟩) 0 rfl rfl rfl (bk_ad _ _ _ _) rfl rfl (Nat.le_of_ble_eq_true rfl) ⟨Nat.zero_le _, Nat.zero_le _⟩ dX0_draft_24 (pc' := 27) rfl ?_
  refine zw_aload_n (i := 0) (x := ab 0) E 0 dX0_draft_27 rfl rfl (pc' := 28) rfl ?_
  refine zw_aload_n (i := 0) (x := ab 0) E 0 dX0_draft_28 rfl rfl (pc' := 29) rfl ?_
  refine zw_get (v := .ref (ab 4)) E 0 3 iX0_draft_X0 fX0_draft_21 rfl rfl (by decide) rfl rfl dX0_draft_29 (pc' := 32) rfl ?_
  refine zw_iconst (v := (-1)) E dX0_draft_32 (by decide) (pc' := 33) rfl ?_
  refine zw_callVw E (As := [.ref (ab 4), .int (-1)]) (rest := []) (ws' := (bk_W K ab (bk_row (bk_row (bk_row (bk_row b 0 (b.2 1) a) 1 (b.2 1) y) 2 (b.2 1) (-1)) 3 (b.2 1) (-1)))) (qX0_put_3 l D K ab (bk_row (bk_row (bk_row b 0 (b.2 1) a) 1 (b.2 1) y) 2 (b.2 1) (-1)) (-1) hn) (cwV 2 E.2.2.2.2.1 gX0_draft_X0_put rfl rfl rfl (by decide +kernel) ⟨Nat.le_of_ble_eq_true rfl, Nat.le_of_ble_eq_true rfl⟩) 0 rfl rfl rfl (bk_ad _ _ _ _) rfl rfl (Nat.le_of_ble_eq_true rfl) ⟨Nat.zero_le _, Nat.zero_le _⟩ dX0_draft_33 (pc' := 36) rfl ?_
  refine zw_aload_n (i := 0) (x := ab 0) E 0 dX0_draft_36 rfl rfl (pc' := 37) rfl ?_
  refine zw_aload_n (i := 0) (x := ab 0) E 0 dX0_draft_37 rfl rfl (pc' := 38) rfl ?_
  refine zw_get (v := .ref (ab 5)) E 0 4 iX0_draft_X0 fX0_draft_24 rfl rfl (by decide) rfl rfl dX0_draft_38 (pc' := 41) rfl ?_
  refine zw_iconst (v := (-1)) E dX0_draft_41 (by decide) (pc' := 42) rfl ?_
  refine zw_callVw E (As := [.ref (ab 5), .int (-1)]) (rest := []) (ws' := (bk_W K ab (bk_row (bk_row (bk_row (bk_row (bk_row b 0 (b.2 1) a) 1 (b.2 1) y) 2 (b.2 1) (-1)) 3 (b.2 1) (-1)) 4 (b.2 1) (-1)))) (qX0_put_4 l D K ab (bk_row (bk_row (bk_row (bk_row b 0 (b.2 1) a) 1 (b.2 1) y) 2 (b.2 1) (-1)) 3 (b.2 1) (-1)) (-1) hn) (cwV 2 E.2.2.2.2.1 gX0_draft_X0_put rfl rfl rfl (by decide +kernel) ⟨Nat.le_of_ble_eq_true rfl, Nat.le_of_ble_eq_true rfl⟩) 0 rfl rfl rfl (bk_ad _ _ _ _) rfl rfl (Nat.le_of_ble_eq_true rfl) ⟨Nat.zero_le _, Nat.zero_le _⟩ dX0_draft_42 (pc' := 45) rfl ?_
  refine zw_aload_n (i := 0) (x := ab 0) E 0 dX0_draft_45 rfl rfl (pc' := 46) rfl ?_
  refine zw_aload_n (i := 0) (x := ab 0) E 0 dX0_draft_46 rfl rfl (pc' := 47) rfl ?_
  refine zw_get (v := .ref (ab 6)) E 0 5 iX0_draft_X0 fX0_draft_27 rfl rfl (by decide) rfl rfl dX0_draft_47 (pc' := 50) rfl ?_
  refine zw_iconst (v := (-1)) E dX0_draft_50 (by decide) (pc' := 51) rfl ?_
  refine zw_callVw E (As := [.ref (ab 6), .int (-1)]) (rest := []) (ws' := (bk_W K ab (bk_row (bk_row (bk_row (bk_row (bk_row (bk_row b 0 (b.2 1) a) 1 (b.2 1) y) 2 (b.2 1) (-1)) 3 (b.2 1) (-1)) 4 (b.2 1) (-1)) 5 (b.2 1) (-1)))) (qX0_put_5 l D K ab (bk_row (bk_row (bk_row (bk_row (bk_row b 0 (b.2 1) a) 1 (b.2 1) y) 2 (b.2 1) (-1)) 3 (b.2 1) (-1)) 4 (b.2 1) (-1)) (-1) hn) (cwV 2 E.2.2.2.2.1 gX0_draft_X0_put rfl rfl rfl (by decide +kernel) ⟨Nat.le_of_ble_eq_true rfl, Nat.le_of_ble_eq_true rfl⟩) 0 rfl rfl rfl (bk_ad _ _ _ _) rfl rfl (Nat.le_of_ble_eq_true rfl) ⟨Nat.zero_le _, Nat.zero_le _⟩ dX0_draft_51 (pc' := 54) rfl ?_
  refine zw_aload_n (i := 0) (x := ab 0) E 0 dX0_draft_54 rfl rfl (pc' := 55) rfl ?_
  refine zw_aload_n (i := 0) (x := ab 0) E 0 dX0_draft_55 rfl rfl (pc' := 56) rfl ?_
  refine zw_get (v := .ref (ab 7)) E 0 6 iX0_draft_X0 fX0_draft_30 rfl rfl (by decide) rfl rfl dX0_draft_56 (pc' := 59) rfl ?_
  refine zw_iconst (v := (-1)) E dX0_draft_59 (by decide) (pc' := 60) rfl ?_
  refine zw_callVw E (As := [.ref (ab 7), .int (-1)]) (rest := []) (ws' := (bk_W K ab (bk_row (bk_row (bk_row (bk_row (bk_row (bk_row (bk_row b 0 (b.2 1) a) 1 (b.2 1) y) 2 (b.2 1) (-1)) 3 (b.2 1) (-1)) 4 (b.2 1) (-1)) 5 (b.2 1) (-1)) 6 (b.2 1) (-1)))) (qX0_put_6 l D K ab (bk_row (bk_row (bk_row (bk_row (bk_row (bk_row b 0 (b.2 1) a) 1 (b.2 1) y) 2 (b.2 1) (-1)) 3 (b.2 1) (-1)) 4 (b.2 1) (-1)) 5 (b.2 1) (-1)) (-1) hn) (cwV 2 E.2.2.2.2.1 gX0_draft_X0_put rfl rfl rfl (by decide +kernel) ⟨Nat.le_of_ble_eq_true rfl, Nat.le_of_ble_eq_true rfl⟩) 0 rfl rfl rfl (bk_ad _ _ _ _) rfl rfl (Nat.le_of_ble_eq_true rfl) ⟨Nat.zero_le _, Nat.zero_le _⟩ dX0_draft_60 (pc' := 63) rfl ?_
  refine zw_aload_n (i := 0) (x := ab 0) E 0 dX0_draft_63 rfl rfl (pc' := 64) rfl ?_
  refine zw_aload_n (i := 0) (x := ab 0) E 0 dX0_draft_64 rfl rfl (pc' := 65) rfl ?_
  refine zw_get (v := .ref (ab 8)) E 0 7 iX0_draft_X0 fX0_draft_33 rfl rfl (by decide) rfl rfl dX0_draft_65 (pc' := 68) rfl ?_
  refine zw_iconst (v := (-1)) E dX0_draft_68 (by decide) (pc' := 69) rfl ?_
  refine zw_callVw E (As := [.ref (ab 8), .int (-1)]) (rest := []) (ws' := (bk_W K ab (bk_row (bk_row (bk_row (bk_row (bk_row (bk_row (bk_row (bk_row b 0 (b.2 1) a) 1 (b.2 1) y) 2 (b.2 1) (-1)) 3 (b.2 1) (-1)) 4 (b.2 1) (-1)) 5 (b.2 1) (-1)) 6 (b.2 1) (-1)) 7 (b.2 1) (-1)))) (qX0_put_7 l D K ab (bk_row (bk_row (bk_row (bk_row (bk_row (bk_row (bk_row b 0 (b.2 1) a) 1 (b.2 1) y) 2 (b.2 1) (-1)) 3 (b.2 1) (-1)) 4 (b.2 1) (-1)) 5 (b.2 1) (-1)) 6 (b.2 1) (-1)) (-1) hn) (cwV 2 E.2.2.2.2.1 gX0_draft_X0_put rfl rfl rfl (by decide +kernel) ⟨Nat.le_of_ble_eq_true rfl, Nat.le_of_ble_eq_true rfl⟩) 0 rfl rfl rfl (bk_ad _ _ _ _) rfl rfl (Nat.le_of_ble_eq_true rfl) ⟨Nat.zero_le _, Nat.zero_le _⟩ dX0_draft_69 (pc' := 72) rfl ?_
  exact zw_vret E hr hlk dX0_draft_72 rfl

/-- the order with the acts from place k on moved up by one -/
def fd_sh (b : Bk) (k : Nat) : Bk := ((fun r => if r = 8 then (fun i => if k < i ∧ i ≤ b.2 0 then b.1 8 (i - 1) else b.1 8 i) else b.1 r), b.2)
/-- where the draft comes to stand, looking down from place k -/
def fd_pos (b : Bk) (dy : Int32) : Nat → Nat
  | 0 => 0
  | j + 1 => if z_at 80 (b.1 1) (b.1 8 j) ≤ dy then j + 1 else fd_pos b dy j
def fd_end (b : Bk) (k : Nat) : Bk := bk_sc (bk_row (fd_sh b k) 8 k (nI (b.2 1))) 0 (b.2 0 + 1)
def bk_file (b : Bk) : Bk := fd_end b (fd_pos b (z_at 80 (b.1 1) (nI (b.2 1))) (b.2 0))
theorem fd_sh_top (b : Bk) : fd_sh b (b.2 0) = b := by
  refine Prod.ext (funext fun r => ?_) rfl
  show (if r = 8 then _ else _) = _
  by_cases h : r = 8
  · subst h
    rw [if_pos rfl]
    funext i
    rw [if_neg (by omega)]
  · rw [if_neg h]
theorem fd_sh_lo (b : Bk) (j : Nat) : (fd_sh b (j + 1)).1 8 j = b.1 8 j := by
  show (if j + 1 < j ∧ j ≤ b.2 0 then b.1 8 (j - 1) else b.1 8 j) = b.1 8 j
  rw [if_neg (by omega)]
theorem fd_sh_dn (b : Bk) (j : Nat) (h : j + 1 ≤ b.2 0) : bk_row (fd_sh b (j + 1)) 8 (j + 1) (b.1 8 j) = fd_sh b j := by
  refine Prod.ext (funext fun r => ?_) rfl
  show (if r = 8 then upd ((fd_sh b (j + 1)).1 8) (j + 1) (b.1 8 j) else (fd_sh b (j + 1)).1 r) = (fd_sh b j).1 r
  by_cases hr : r = 8
  · subst hr
    rw [if_pos rfl]
    funext i
    show (if i = j + 1 then b.1 8 j else (if j + 1 < i ∧ i ≤ b.2 0 then b.1 8 (i - 1) else b.1 8 i)) = (if j < i ∧ i ≤ b.2 0 then b.1 8 (i - 1) else b.1 8 i)
    by_cases h1 : i = j + 1
    · subst h1
      rw [if_pos rfl, if_pos ⟨by omega, h⟩]
      rfl
    · rw [if_neg h1]
      by_cases h2 : j + 1 < i ∧ i ≤ b.2 0
      · rw [if_pos h2, if_pos ⟨by omega, h2.2⟩]
      · rw [if_neg h2, if_neg (by omega)]
  · rw [if_neg hr]
    show (if r = 8 then _ else _) = (if r = 8 then _ else _)
    rw [if_neg hr, if_neg hr]
theorem zw_dec1 (j : Nat) : nI (j + 1) + Int32.ofInt (-1) = nI j := by
  rw [show Int32.ofInt (-1) = -1 by decide]
  exact pk_m1 j
theorem fX0_fileDraft_15 : Cond.fieldLink RX0 15 "TitheMap$Book" "year" "[I" ∈ wsX0_fileDraft := by decide +kernel
theorem fX0_fileDraft_36 : Cond.fieldLink RX0 36 "TitheMap$Book" "order" "[I" ∈ wsX0_fileDraft := by decide +kernel
theorem fX0_fileDraft_45 : Cond.fieldLink RX0 45 "TitheMap$Book" "size" "I" ∈ wsX0_fileDraft := by decide +kernel
theorem fX0_fileDraft_53 : Cond.fieldLink RX0 53 "TitheMap$Book" "acts" "I" ∈ wsX0_fileDraft := by decide +kernel
theorem iX0_fileDraft_X0 : ∀ w ∈ wsX00, w ∈ wsX0_fileDraft := by decide +kernel
set_option maxHeartbeats 4000000 in
set_option maxRecDepth 100000 in
theorem lX0_fileDraft {l : Launch} {D : va_G} {K : Nat → ClassId} {p : Program} {e : Env} {s : State} {m : MethodId} {below : List Frame} {meth : Method} {c : Code} {A : Nat → Prop} {args : Array Value} (E : zw_E p s m args c cX0_fileDraft 3 RX0 wsX0_fileDraft D (zT K) A) (hr : meth.sig.returnType = none) (hlk : meth.locks = false) (ab : Nat → Nat) (b : Bk) (dy : Int32) (h80 : b.2 0 < 80) : ∀ (k : Nat), k ≤ b.2 0 → zw_W p l e rmX0_fileDraft s m args below meth c 3 D A 0 0 (zw_Qv D A below args s (bk_W K ab (fd_end b (fd_pos b dy k)))) 28 [(0, .ref (ab 0)), (1, .int (nI k)), (2, .int dy)] [] (bk_W K ab (fd_sh b k)) := by
  intro k
  induction k with
  | zero =>
    intro hle
    have hk : 0 < 80 := by decide
    refine zw_iload_n (i := 1) (x := nI 0) E 1 dX0_fileDraft_28 rfl rfl (pc' := 29) rfl ?_
    refine zw_if_le (tgt := 71) E dX0_fileDraft_29 (by decide) (pc' := 32) rfl (fun c_1 => ?_) (fun c_1 => ?_)
    · skip
      refine zw_aload_n (i := 0) (x := ab 0) E 0 dX0_fileDraft_71 rfl rfl (pc' := 72) rfl ?_
      refine zw_get (v := .ref (ab 9)) E 0 8 iX0_fileDraft_X0 fX0_fileDraft_36 rfl rfl (by decide) rfl rfl dX0_fileDraft_72 (pc' := 75) rfl ?_
      refine zw_iload_n (i := 1) (x := nI 0) E 1 dX0_fileDraft_75 rfl rfl (pc' := 76) rfl ?_
      refine zw_aload_n (i := 0) (x := ab 0) E 0 dX0_fileDraft_76 rfl rfl (pc' := 77) rfl ?_
      refine zw_get (v := .int (nI (b.2 1))) E 0 12 iX0_fileDraft_X0 fX0_fileDraft_45 rfl rfl (by decide) rfl rfl dX0_fileDraft_77 (pc' := 80) rfl ?_
      refine zw_iast (j := 0) (ws' := (bk_W K ab (bk_row (fd_sh b 0) 8 0 (nI (b.2 1))))) E 9 0 rfl rfl (vp_in_nI hk (by decide)) (zw_clamp hk (by decide)) rfl dX0_fileDraft_80 (pc' := 81) rfl ?_
      refine zw_aload_n (i := 0) (x := ab 0) E 0 dX0_fileDraft_81 rfl rfl (pc' := 82) rfl ?_
      refine zw_dup E dX0_fileDraft_82 rfl (pc' := 83) rfl ?_
      refine zw_get (v := .int (nI (b.2 0))) E 0 11 iX0_fileDraft_X0 fX0_fileDraft_53 rfl rfl (by decide) rfl rfl dX0_fileDraft_83 (pc' := 86) rfl ?_
      refine zw_iconst (v := 1) E dX0_fileDraft_86 (by decide) (pc' := 87) rfl ?_
      refine zw_iadd E dX0_fileDraft_87 (pc' := 88) rfl ?_
      refine zw_topi (x' := nI (b.2 0 + 1)) (nI_1 (b.2 0)) ?_
      refine zw_putf (v := .int (nI (b.2 0 + 1))) (ty := .int) (ws' := (bk_W K ab (bk_sc (bk_row (fd_sh b 0) 8 0 (nI (b.2 1))) 0 (b.2 0 + 1)))) E 0 11 iX0_fileDraft_X0 tyX0_ok nmX0 fX0_fileDraft_53 rfl rfl (by decide) rfl rfl rfl rfl rfl (Nat.le_of_ble_eq_true rfl) rfl dX0_fileDraft_88 (pc' := 91) rfl ?_
      exact zw_vret E hr hlk dX0_fileDraft_91 (by rw [fd_pos]; rfl)
    · exact absurd (Int32.le_refl 0) c_1
  | succ j ih =>
    intro hle
    have hj : j + 1 < 80 := by omega
    have hk : j + 1 < 80 := hj
    refine zw_iload_n (i := 1) (x := nI (j + 1)) E 1 dX0_fileDraft_28 rfl rfl (pc' := 29) rfl ?_
    refine zw_if_le (tgt := 71) E dX0_fileDraft_29 (by decide) (pc' := 32) rfl (fun c_1 => ?_) (fun c_1 => ?_)
    · exact absurd c_1 (nI_nle (Nat.succ_pos j) (by omega))
    · skip
      refine zw_aload_n (i := 0) (x := ab 0) E 0 dX0_fileDraft_32 rfl rfl (pc' := 33) rfl ?_
      refine zw_get (v := .ref (ab 2)) E 0 1 iX0_fileDraft_X0 fX0_fileDraft_15 rfl rfl (by decide) rfl rfl dX0_fileDraft_33 (pc' := 36) rfl ?_
      refine zw_aload_n (i := 0) (x := ab 0) E 0 dX0_fileDraft_36 rfl rfl (pc' := 37) rfl ?_
      refine zw_get (v := .ref (ab 9)) E 0 8 iX0_fileDraft_X0 fX0_fileDraft_36 rfl rfl (by decide) rfl rfl dX0_fileDraft_37 (pc' := 40) rfl ?_
      refine zw_iload_n (i := 1) (x := nI (j + 1)) E 1 dX0_fileDraft_40 rfl rfl (pc' := 41) rfl ?_
      refine zw_iconst (v := 1) E dX0_fileDraft_41 (by decide) (pc' := 42) rfl ?_
      refine zw_isub E dX0_fileDraft_42 (pc' := 43) rfl ?_
      refine zw_topi (x' := nI j) (nI_pred j) ?_
      refine zw_iald (j := j) (x := (fd_sh b (j + 1)).1 8 j) E 9 0 rfl rfl (vp_in_nI (Nat.lt_of_lt_of_le (Nat.lt_succ_self j) (Nat.le_of_lt hj)) (by decide)) (zw_clamp (Nat.lt_of_lt_of_le (Nat.lt_succ_self j) (Nat.le_of_lt hj)) (by decide)) rfl dX0_fileDraft_43 (pc' := 44) rfl ?_
      refine zw_topi (x' := b.1 8 j) (fd_sh_lo b j) ?_
      refine zw_callIn E (r := z_at 80 (b.1 1) (b.1 8 j)) (As := [.ref (ab 2), .int (b.1 8 j)]) (rest := []) (ws' := (bk_W K ab (fd_sh b (j + 1)))) (qX2_at l D K (ab 2) 80 ((fd_sh b (j + 1)).1 1) (b.1 8 j) (by decide)) ⟨va_cnB 2 E.2.2.2.2.1 gX0_fileDraft_X2_at_n56 rfl rfl rfl E.2.2.2.2.2.2.2.2.1 (E.2.2.2.2.1 _ (by decide +kernel)) (by decide +kernel) ⟨Nat.le_of_ble_eq_true rfl, Nat.le_of_ble_eq_true rfl⟩, E.2.2.2.2.1 _ (by decide +kernel), trivial⟩ [2] (by decide) rfl rfl (zw_put_same _ _ _ rfl) rfl rfl (Nat.le_of_ble_eq_true rfl) ⟨Nat.zero_le _, Nat.zero_le _⟩ dX0_fileDraft_44 (pc' := 47) rfl ?_
      refine zw_iload_n (i := 2) (x := dy) E 2 dX0_fileDraft_47 rfl rfl (pc' := 48) rfl ?_
      refine zw_icmp_le (tgt := 71) E dX0_fileDraft_48 (by decide) (pc' := 51) rfl (fun c_2 => ?_) (fun c_2 => ?_)
      · skip
        refine zw_aload_n (i := 0) (x := ab 0) E 0 dX0_fileDraft_71 rfl rfl (pc' := 72) rfl ?_
        refine zw_get (v := .ref (ab 9)) E 0 8 iX0_fileDraft_X0 fX0_fileDraft_36 rfl rfl (by decide) rfl rfl dX0_fileDraft_72 (pc' := 75) rfl ?_
        refine zw_iload_n (i := 1) (x := nI (j + 1)) E 1 dX0_fileDraft_75 rfl rfl (pc' := 76) rfl ?_
        refine zw_aload_n (i := 0) (x := ab 0) E 0 dX0_fileDraft_76 rfl rfl (pc' := 77) rfl ?_
        refine zw_get (v := .int (nI (b.2 1))) E 0 12 iX0_fileDraft_X0 fX0_fileDraft_45 rfl rfl (by decide) rfl rfl dX0_fileDraft_77 (pc' := 80) rfl ?_
        refine zw_iast (j := j + 1) (ws' := (bk_W K ab (bk_row (fd_sh b (j + 1)) 8 (j + 1) (nI (b.2 1))))) E 9 0 rfl rfl (vp_in_nI hk (by decide)) (zw_clamp hk (by decide)) rfl dX0_fileDraft_80 (pc' := 81) rfl ?_
        refine zw_aload_n (i := 0) (x := ab 0) E 0 dX0_fileDraft_81 rfl rfl (pc' := 82) rfl ?_
        refine zw_dup E dX0_fileDraft_82 rfl (pc' := 83) rfl ?_
        refine zw_get (v := .int (nI (b.2 0))) E 0 11 iX0_fileDraft_X0 fX0_fileDraft_53 rfl rfl (by decide) rfl rfl dX0_fileDraft_83 (pc' := 86) rfl ?_
        refine zw_iconst (v := 1) E dX0_fileDraft_86 (by decide) (pc' := 87) rfl ?_
        refine zw_iadd E dX0_fileDraft_87 (pc' := 88) rfl ?_
        refine zw_topi (x' := nI (b.2 0 + 1)) (nI_1 (b.2 0)) ?_
        refine zw_putf (v := .int (nI (b.2 0 + 1))) (ty := .int) (ws' := (bk_W K ab (bk_sc (bk_row (fd_sh b (j + 1)) 8 (j + 1) (nI (b.2 1))) 0 (b.2 0 + 1)))) E 0 11 iX0_fileDraft_X0 tyX0_ok nmX0 fX0_fileDraft_53 rfl rfl (by decide) rfl rfl rfl rfl rfl (Nat.le_of_ble_eq_true rfl) rfl dX0_fileDraft_88 (pc' := 91) rfl ?_
        exact zw_vret E hr hlk dX0_fileDraft_91 (by rw [fd_pos, if_pos c_2]; rfl)
      · skip
        refine zw_aload_n (i := 0) (x := ab 0) E 0 dX0_fileDraft_51 rfl rfl (pc' := 52) rfl ?_
        refine zw_get (v := .ref (ab 9)) E 0 8 iX0_fileDraft_X0 fX0_fileDraft_36 rfl rfl (by decide) rfl rfl dX0_fileDraft_52 (pc' := 55) rfl ?_
        refine zw_iload_n (i := 1) (x := nI (j + 1)) E 1 dX0_fileDraft_55 rfl rfl (pc' := 56) rfl ?_
        refine zw_aload_n (i := 0) (x := ab 0) E 0 dX0_fileDraft_56 rfl rfl (pc' := 57) rfl ?_
        refine zw_get (v := .ref (ab 9)) E 0 8 iX0_fileDraft_X0 fX0_fileDraft_36 rfl rfl (by decide) rfl rfl dX0_fileDraft_57 (pc' := 60) rfl ?_
        refine zw_iload_n (i := 1) (x := nI (j + 1)) E 1 dX0_fileDraft_60 rfl rfl (pc' := 61) rfl ?_
        refine zw_iconst (v := 1) E dX0_fileDraft_61 (by decide) (pc' := 62) rfl ?_
        refine zw_isub E dX0_fileDraft_62 (pc' := 63) rfl ?_
        refine zw_topi (x' := nI j) (nI_pred j) ?_
        refine zw_iald (j := j) (x := (fd_sh b (j + 1)).1 8 j) E 9 0 rfl rfl (vp_in_nI (Nat.lt_of_lt_of_le (Nat.lt_succ_self j) (Nat.le_of_lt hj)) (by decide)) (zw_clamp (Nat.lt_of_lt_of_le (Nat.lt_succ_self j) (Nat.le_of_lt hj)) (by decide)) rfl dX0_fileDraft_63 (pc' := 64) rfl ?_
        refine zw_topi (x' := b.1 8 j) (fd_sh_lo b j) ?_
        refine zw_iast (j := j + 1) (ws' := (bk_W K ab (bk_row (fd_sh b (j + 1)) 8 (j + 1) (b.1 8 j)))) E 9 0 rfl rfl (vp_in_nI hk (by decide)) (zw_clamp hk (by decide)) rfl dX0_fileDraft_64 (pc' := 65) rfl ?_
        refine zw_iinc (x := nI (j + 1)) (v := nI j) (lv' := [(1, .int (nI j)), (0, .ref (ab 0)), (2, .int dy)]) E 1 dX0_fileDraft_65 rfl (zw_dec1 j) (by decide) rfl (pc' := 68) rfl ?_
        refine zw_goto (tgt := 28) E dX0_fileDraft_68 (by decide) ?_
        refine zw_ws (ws' := bk_W K ab (fd_sh b j)) (congrArg (bk_W K ab) (fd_sh_dn b j hle)) ?_
        refine zw_sub [1, 0, 2] (lv' := [(0, .ref (ab 0)), (1, .int (nI j)), (2, .int dy)]) rfl ?_
        have e1 : fd_pos b dy (j + 1) = fd_pos b dy j := by rw [fd_pos, if_neg c_2]
        rw [e1]
        exact ih (by omega)

set_option maxHeartbeats 4000000 in
set_option maxRecDepth 100000 in
/-- fileDraft() -/
theorem qX0_fileDraft (l : Launch) (D : va_G) (K : Nat → ClassId) (ab : Nat → Nat) (b : Bk) (h80 : b.2 0 < 80) : zw_V l yX0_fileDraft wsX0_fileDraft rmX0_fileDraft D (zT K) [.ref (ab 0)] (bk_W K ab b) (bk_W K ab (bk_file b)) := by
  refine zw_ofV (cc := cX0_fileDraft) (nL := 3) (ret := none) (own := RX0) (lv := [(0, .ref (ab 0))]) (by decide) rfl (Nat.le_of_ble_eq_true rfl) rfl rfl ?_
  intro p e s m below meth c A E hr hlk
  refine zw_aload_n (i := 0) (x := ab 0) E 0 dX0_fileDraft_0 rfl rfl (pc' := 1) rfl ?_
  refine zw_get (v := .int (nI (b.2 0))) E 0 11 iX0_fileDraft_X0 fX0_fileDraft_53 rfl rfl (by decide) rfl rfl dX0_fileDraft_1 (pc' := 4) rfl ?_
  refine zw_istore_n (lv' := [(1, .int (nI (b.2 0))), (0, .ref (ab 0))]) E dX0_fileDraft_4 rfl (by decide) rfl (pc' := 5) rfl ?_
  refine zw_iload_n (i := 1) (x := nI (b.2 0)) E 0 dX0_fileDraft_5 rfl rfl (pc' := 6) rfl ?_
  refine zw_if_lt (tgt := 15) E dX0_fileDraft_6 (by decide) (pc' := 9) rfl (fun c_1 => ?_) (fun c_1 => ?_)
  · exact absurd c_1 (nI_pos (Nat.lt_trans h80 (by decide)))
  · skip
    refine zw_iload_n (i := 1) (x := nI (b.2 0)) E 0 dX0_fileDraft_9 rfl rfl (pc' := 10) rfl ?_
    refine zw_bipush (v := 80) E dX0_fileDraft_10 (by decide) (pc' := 12) rfl ?_
    refine zw_icmp_lt (tgt := 16) E dX0_fileDraft_12 (by decide) (pc' := 15) rfl (fun c_2 => ?_) (fun c_2 => ?_)
    · skip
      refine zw_aload_n (i := 0) (x := ab 0) E 1 dX0_fileDraft_16 rfl rfl (pc' := 17) rfl ?_
      refine zw_get (v := .ref (ab 2)) E 0 1 iX0_fileDraft_X0 fX0_fileDraft_15 rfl rfl (by decide) rfl rfl dX0_fileDraft_17 (pc' := 20) rfl ?_
      refine zw_aload_n (i := 0) (x := ab 0) E 1 dX0_fileDraft_20 rfl rfl (pc' := 21) rfl ?_
      refine zw_get (v := .int (nI (b.2 1))) E 0 12 iX0_fileDraft_X0 fX0_fileDraft_45 rfl rfl (by decide) rfl rfl dX0_fileDraft_21 (pc' := 24) rfl ?_
      refine zw_callIn E (r := z_at 80 (b.1 1) (nI (b.2 1))) (As := [.ref (ab 2), .int (nI (b.2 1))]) (rest := []) (ws' := (bk_W K ab b)) (qX2_at l D K (ab 2) 80 (b.1 1) (nI (b.2 1)) (by decide)) ⟨va_cnB 2 E.2.2.2.2.1 gX0_fileDraft_X2_at_n56 rfl rfl rfl E.2.2.2.2.2.2.2.2.1 (E.2.2.2.2.1 _ (by decide +kernel)) (by decide +kernel) ⟨Nat.le_of_ble_eq_true rfl, Nat.le_of_ble_eq_true rfl⟩, E.2.2.2.2.1 _ (by decide +kernel), trivial⟩ [2] (by decide) rfl rfl (zw_put_same _ _ _ rfl) rfl rfl (Nat.le_of_ble_eq_true rfl) ⟨Nat.zero_le _, Nat.zero_le _⟩ dX0_fileDraft_24 (pc' := 27) rfl ?_
      refine zw_istore_n (lv' := [(2, .int (z_at 80 (b.1 1) (nI (b.2 1)))), (1, .int (nI (b.2 0))), (0, .ref (ab 0))]) E dX0_fileDraft_27 rfl (by decide) rfl (pc' := 28) rfl ?_
      refine zw_ws (ws' := bk_W K ab (fd_sh b (b.2 0))) (congrArg (bk_W K ab) (fd_sh_top b).symm) ?_
      refine zw_sub [2, 1, 0] (lv' := [(0, .ref (ab 0)), (1, .int (nI (b.2 0))), (2, .int (z_at 80 (b.1 1) (nI (b.2 1))))]) rfl ?_
      exact lX0_fileDraft E hr hlk ab b _ h80 (b.2 0) (Nat.le_refl _)
    · exact absurd (Int32.not_lt.mp c_2) (zw_n80 h80)

/-- the draft taken out of the order: how many are kept of the first i, and the row -/
def wd (o : Nat → Int32) (x : Int32) : Nat → Nat × (Nat → Int32)
  | 0 => (0, o)
  | i + 1 => if (wd o x i).2 i = x then wd o x i else ((wd o x i).1 + 1, upd (wd o x i).2 (wd o x i).1 ((wd o x i).2 i))
theorem wd_le (o : Nat → Int32) (x : Int32) : ∀ i, (wd o x i).1 ≤ i
  | 0 => Nat.le_refl 0
  | i + 1 => by
    rw [wd]
    have := wd_le o x i
    split
    · omega
    · show (wd o x i).1 + 1 ≤ i + 1
      omega
def wd_st (b : Bk) (i : Nat) : Bk := ((fun r => if r = 8 then (wd (b.1 8) (nI (b.2 1)) i).2 else b.1 r), b.2)
def bk_wdraw (b : Bk) : Bk := bk_sc (wd_st b (b.2 0)) 0 (wd (b.1 8) (nI (b.2 1)) (b.2 0)).1
theorem wd_st_0 (b : Bk) : wd_st b 0 = b := by
  refine Prod.ext (funext fun r => ?_) rfl
  show (if r = 8 then b.1 8 else b.1 r) = b.1 r
  by_cases h : r = 8
  · subst h; rw [if_pos rfl]
  · rw [if_neg h]
theorem wd_st_eq (b : Bk) (i : Nat) (h : (wd (b.1 8) (nI (b.2 1)) i).2 i = nI (b.2 1)) : wd_st b (i + 1) = wd_st b i := by
  unfold wd_st
  rw [wd, if_pos h]
theorem wd_st_ne (b : Bk) (i : Nat) (h : ¬ (wd (b.1 8) (nI (b.2 1)) i).2 i = nI (b.2 1)) : bk_row (wd_st b i) 8 (wd (b.1 8) (nI (b.2 1)) i).1 ((wd (b.1 8) (nI (b.2 1)) i).2 i) = wd_st b (i + 1) := by
  refine Prod.ext (funext fun r => ?_) rfl
  show (if r = 8 then upd ((wd_st b i).1 8) (wd (b.1 8) (nI (b.2 1)) i).1 ((wd (b.1 8) (nI (b.2 1)) i).2 i) else (wd_st b i).1 r) = (if r = 8 then (wd (b.1 8) (nI (b.2 1)) (i + 1)).2 else b.1 r)
  by_cases hr : r = 8
  · subst hr
    rw [if_pos rfl, if_pos rfl, wd, if_neg h]
    rfl
  · rw [if_neg hr, if_neg hr]
    show (if r = 8 then _ else _) = _
    rw [if_neg hr]
theorem fX0_withdrawDraft_36 : Cond.fieldLink RX0 36 "TitheMap$Book" "order" "[I" ∈ wsX0_withdrawDraft := by decide +kernel
theorem fX0_withdrawDraft_45 : Cond.fieldLink RX0 45 "TitheMap$Book" "size" "I" ∈ wsX0_withdrawDraft := by decide +kernel
theorem fX0_withdrawDraft_53 : Cond.fieldLink RX0 53 "TitheMap$Book" "acts" "I" ∈ wsX0_withdrawDraft := by decide +kernel
theorem iX0_withdrawDraft_X0 : ∀ w ∈ wsX00, w ∈ wsX0_withdrawDraft := by decide +kernel
set_option maxHeartbeats 4000000 in
set_option maxRecDepth 100000 in
theorem lX0_withdrawDraft {l : Launch} {D : va_G} {K : Nat → ClassId} {p : Program} {e : Env} {s : State} {m : MethodId} {below : List Frame} {meth : Method} {c : Code} {A : Nat → Prop} {args : Array Value} (E : zw_E p s m args c cX0_withdrawDraft 3 RX0 wsX0_withdrawDraft D (zT K) A) (hr : meth.sig.returnType = none) (hlk : meth.locks = false) (ab : Nat → Nat) (b : Bk) (h80 : b.2 0 ≤ 80) : ∀ (n i : Nat), i ≤ b.2 0 → b.2 0 + 1 ≤ i + n → zw_W p l e rmX0_withdrawDraft s m args below meth c 3 D A 0 0 (zw_Qv D A below args s (bk_W K ab (bk_wdraw b))) 4 [(0, .ref (ab 0)), (1, .int (nI ((wd (b.1 8) (nI (b.2 1)) i).1))), (2, .int (nI i))] [] (bk_W K ab (wd_st b i)) := by
  intro n
  induction n with
  | zero => intro i h1 h2; exact absurd h2 (by omega)
  | succ n ih =>
    intro i hle hn
    refine zw_iload_n (i := 2) (x := nI i) E 2 dX0_withdrawDraft_4 rfl rfl (pc' := 5) rfl ?_
    refine zw_aload_n (i := 0) (x := ab 0) E 0 dX0_withdrawDraft_5 rfl rfl (pc' := 6) rfl ?_
    refine zw_get (v := .int (nI (b.2 0))) E 0 11 iX0_withdrawDraft_X0 fX0_withdrawDraft_53 rfl rfl (by decide) rfl rfl dX0_withdrawDraft_6 (pc' := 9) rfl ?_
    refine zw_icmp_ge (tgt := 52) E dX0_withdrawDraft_9 (by decide) (pc' := 12) rfl (fun c_1 => ?_) (fun c_1 => ?_)
    · skip
      have hi : i = b.2 0 := Nat.le_antisymm hle ((nI_leI (by omega) (by omega)).mp c_1)
      refine zw_aload_n (i := 0) (x := ab 0) E 0 dX0_withdrawDraft_52 rfl rfl (pc' := 53) rfl ?_
      refine zw_iload_n (i := 1) (x := nI ((wd (b.1 8) (nI (b.2 1)) i).1)) E 1 dX0_withdrawDraft_53 rfl rfl (pc' := 54) rfl ?_
      refine zw_putf (v := .int (nI ((wd (b.1 8) (nI (b.2 1)) i).1))) (ty := .int) (ws' := (bk_W K ab (bk_sc (wd_st b i) 0 ((wd (b.1 8) (nI (b.2 1)) i).1)))) E 0 11 iX0_withdrawDraft_X0 tyX0_ok nmX0 fX0_withdrawDraft_53 rfl rfl (by decide) rfl rfl rfl rfl rfl (Nat.le_of_ble_eq_true rfl) rfl dX0_withdrawDraft_54 (pc' := 57) rfl ?_
      exact zw_vret E hr hlk dX0_withdrawDraft_57 (by unfold bk_wdraw; rw [hi])
    · skip
      have hlt : i < b.2 0 := Nat.lt_of_not_le (fun h => c_1 (nI_le h (by omega)))
      have hi : i < 80 := by omega
      have hk : (wd (b.1 8) (nI (b.2 1)) i).1 < 80 := Nat.lt_of_le_of_lt (wd_le _ _ i) hi
      refine zw_iload_n (i := 2) (x := nI i) E 2 dX0_withdrawDraft_12 rfl rfl (pc' := 13) rfl ?_
      refine zw_bipush (v := 80) E dX0_withdrawDraft_13 (by decide) (pc' := 15) rfl ?_
      refine zw_icmp_ge (tgt := 52) E dX0_withdrawDraft_15 (by decide) (pc' := 18) rfl (fun c_2 => ?_) (fun c_2 => ?_)
      · exact absurd c_2 (zw_n80 hi)
      · skip
        refine zw_aload_n (i := 0) (x := ab 0) E 0 dX0_withdrawDraft_18 rfl rfl (pc' := 19) rfl ?_
        refine zw_get (v := .ref (ab 9)) E 0 8 iX0_withdrawDraft_X0 fX0_withdrawDraft_36 rfl rfl (by decide) rfl rfl dX0_withdrawDraft_19 (pc' := 22) rfl ?_
        refine zw_iload_n (i := 2) (x := nI i) E 2 dX0_withdrawDraft_22 rfl rfl (pc' := 23) rfl ?_
        refine zw_iald (j := i) (x := (wd_st b i).1 8 i) E 9 0 rfl rfl (vp_in_nI hi (by decide)) (zw_clamp hi (by decide)) rfl dX0_withdrawDraft_23 (pc' := 24) rfl ?_
        refine zw_topi (x' := (wd (b.1 8) (nI (b.2 1)) i).2 i) rfl ?_
        refine zw_aload_n (i := 0) (x := ab 0) E 0 dX0_withdrawDraft_24 rfl rfl (pc' := 25) rfl ?_
        refine zw_get (v := .int (nI (b.2 1))) E 0 12 iX0_withdrawDraft_X0 fX0_withdrawDraft_45 rfl rfl (by decide) rfl rfl dX0_withdrawDraft_25 (pc' := 28) rfl ?_
        refine zw_icmp_eq (tgt := 46) E dX0_withdrawDraft_28 (by decide) (pc' := 31) rfl (fun c_3 => ?_) (fun c_3 => ?_)
        · skip
          refine zw_iinc (x := nI i) (v := nI (i + 1)) (lv' := [(2, .int (nI (i + 1))), (0, .ref (ab 0)), (1, .int (nI ((wd (b.1 8) (nI (b.2 1)) i).1)))]) E 2 dX0_withdrawDraft_46 rfl (zw_inc1 i) (by decide) rfl (pc' := 49) rfl ?_
          refine zw_goto (tgt := 4) E dX0_withdrawDraft_49 (by decide) ?_
          refine zw_ws (ws' := bk_W K ab (wd_st b (i + 1))) (congrArg (bk_W K ab) (wd_st_eq b i c_3).symm) ?_
          have e1 : (wd (b.1 8) (nI (b.2 1)) (i + 1)).1 = (wd (b.1 8) (nI (b.2 1)) i).1 := by rw [wd, if_pos c_3]
          refine zw_sub [1, 2, 0] (lv' := [(0, .ref (ab 0)), (1, .int (nI ((wd (b.1 8) (nI (b.2 1)) i).1))), (2, .int (nI (i + 1)))]) rfl ?_
          rw [← e1]
          exact ih (i + 1) (by omega) (by omega)
        · skip
          refine zw_aload_n (i := 0) (x := ab 0) E 0 dX0_withdrawDraft_31 rfl rfl (pc' := 32) rfl ?_
          refine zw_get (v := .ref (ab 9)) E 0 8 iX0_withdrawDraft_X0 fX0_withdrawDraft_36 rfl rfl (by decide) rfl rfl dX0_withdrawDraft_32 (pc' := 35) rfl ?_
          refine zw_iload_n (i := 1) (x := nI ((wd (b.1 8) (nI (b.2 1)) i).1)) E 1 dX0_withdrawDraft_35 rfl rfl (pc' := 36) rfl ?_
          refine zw_aload_n (i := 0) (x := ab 0) E 0 dX0_withdrawDraft_36 rfl rfl (pc' := 37) rfl ?_
          refine zw_get (v := .ref (ab 9)) E 0 8 iX0_withdrawDraft_X0 fX0_withdrawDraft_36 rfl rfl (by decide) rfl rfl dX0_withdrawDraft_37 (pc' := 40) rfl ?_
          refine zw_iload_n (i := 2) (x := nI i) E 2 dX0_withdrawDraft_40 rfl rfl (pc' := 41) rfl ?_
          refine zw_iald (j := i) (x := (wd_st b i).1 8 i) E 9 0 rfl rfl (vp_in_nI hi (by decide)) (zw_clamp hi (by decide)) rfl dX0_withdrawDraft_41 (pc' := 42) rfl ?_
          refine zw_topi (x' := (wd (b.1 8) (nI (b.2 1)) i).2 i) rfl ?_
          refine zw_iast (j := (wd (b.1 8) (nI (b.2 1)) i).1) (ws' := (bk_W K ab (bk_row (wd_st b i) 8 ((wd (b.1 8) (nI (b.2 1)) i).1) ((wd (b.1 8) (nI (b.2 1)) i).2 i)))) E 9 0 rfl rfl (vp_in_nI hk (by decide)) (zw_clamp hk (by decide)) rfl dX0_withdrawDraft_42 (pc' := 43) rfl ?_
          refine zw_iinc (x := nI ((wd (b.1 8) (nI (b.2 1)) i).1)) (v := nI ((wd (b.1 8) (nI (b.2 1)) i).1 + 1)) (lv' := [(1, .int (nI ((wd (b.1 8) (nI (b.2 1)) i).1 + 1))), (0, .ref (ab 0)), (2, .int (nI i))]) E 1 dX0_withdrawDraft_43 rfl (zw_inc1 ((wd (b.1 8) (nI (b.2 1)) i).1)) (by decide) rfl (pc' := 46) rfl ?_
          refine zw_iinc (x := nI i) (v := nI (i + 1)) (lv' := [(2, .int (nI (i + 1))), (1, .int (nI ((wd (b.1 8) (nI (b.2 1)) i).1 + 1))), (0, .ref (ab 0))]) E 2 dX0_withdrawDraft_46 rfl (zw_inc1 i) (by decide) rfl (pc' := 49) rfl ?_
          refine zw_goto (tgt := 4) E dX0_withdrawDraft_49 (by decide) ?_
          refine zw_ws (ws' := bk_W K ab (wd_st b (i + 1))) (congrArg (bk_W K ab) (wd_st_ne b i c_3)) ?_
          have e1 : (wd (b.1 8) (nI (b.2 1)) (i + 1)).1 = (wd (b.1 8) (nI (b.2 1)) i).1 + 1 := by rw [wd, if_neg c_3]
          refine zw_sub [2, 1, 0] (lv' := [(0, .ref (ab 0)), (1, .int (nI ((wd (b.1 8) (nI (b.2 1)) i).1 + 1))), (2, .int (nI (i + 1)))]) rfl ?_
          rw [← e1]
          exact ih (i + 1) (by omega) (by omega)

set_option maxHeartbeats 4000000 in
set_option maxRecDepth 100000 in
/-- withdrawDraft() -/
theorem qX0_withdrawDraft (l : Launch) (D : va_G) (K : Nat → ClassId) (ab : Nat → Nat) (b : Bk) (h80 : b.2 0 ≤ 80) : zw_V l yX0_withdrawDraft wsX0_withdrawDraft rmX0_withdrawDraft D (zT K) [.ref (ab 0)] (bk_W K ab b) (bk_W K ab (bk_wdraw b)) := by
  refine zw_ofV (cc := cX0_withdrawDraft) (nL := 3) (ret := none) (own := RX0) (lv := [(0, .ref (ab 0))]) (by decide) rfl (Nat.le_of_ble_eq_true rfl) rfl rfl ?_
  intro p e s m below meth c A E hr hlk
  refine zw_iconst (v := 0) E dX0_withdrawDraft_0 (by decide) (pc' := 1) rfl ?_
  refine zw_istore_n (lv' := [(1, .int 0), (0, .ref (ab 0))]) E dX0_withdrawDraft_1 rfl (by decide) rfl (pc' := 2) rfl ?_
  refine zw_iconst (v := 0) E dX0_withdrawDraft_2 (by decide) (pc' := 3) rfl ?_
  refine zw_istore_n (lv' := [(2, .int 0), (1, .int 0), (0, .ref (ab 0))]) E dX0_withdrawDraft_3 rfl (by decide) rfl (pc' := 4) rfl ?_
  refine zw_ws (ws' := bk_W K ab (wd_st b 0)) (congrArg (bk_W K ab) (wd_st_0 b).symm) ?_
  refine zw_sub [2, 1, 0] (lv' := [(0, .ref (ab 0)), (1, .int 0), (2, .int 0)]) rfl ?_
  exact lX0_withdrawDraft E hr hlk ab b h80 (b.2 0 + 1) 0 (Nat.zero_le _) (by omega)

/-- so many new fields -/
def kpr (b : Bk) : Nat → Nat → Nat → Int32
  | 0 => b.1
  | i + 1 => up2 (up2 (kpr b i) 9 (b.2 2 + i) (nI (b.2 1))) 10 (b.2 2 + i) (-1)
def kp (b : Bk) (i : Nat) : Bk := (kpr b i, fun j => if j = 2 then b.2 2 + i else b.2 j)
theorem kp_zero (b : Bk) : kp b 0 = b := by
  refine Prod.ext rfl (funext fun j => ?_)
  show (if j = 2 then b.2 2 + 0 else b.2 j) = b.2 j
  by_cases h : j = 2
  · subst h; rfl
  · rw [if_neg h]
theorem kp_succ (b : Bk) (i : Nat) : bk_sc (bk_row (bk_row (kp b i) 9 (b.2 2 + i) (nI (b.2 1))) 10 (b.2 2 + i) (-1)) 2 (b.2 2 + (i + 1)) = kp b (i + 1) := by
  refine Prod.ext rfl (funext fun j => ?_)
  show (if j = 2 then b.2 2 + (i + 1) else (if j = 2 then b.2 2 + i else b.2 j)) = (if j = 2 then b.2 2 + (i + 1) else b.2 j)
  by_cases h : j = 2
  · rw [if_pos h, if_pos h]
  · rw [if_neg h, if_neg h, if_neg h]
theorem kp_1 (b : Bk) (i : Nat) : (kp b i).2 1 = b.2 1 := rfl
def bk_ends (q : Bk) (x : Int32) : Bk := bk_end (bk_end q (z_at 80 (q.1 2) x) x) (z_at 80 ((bk_end q (z_at 80 (q.1 2) x) x).1 3) x) x
def bk_kept (q : Bk) (x : Int32) : Bk := if z_at 80 (q.1 0) x = 2 then bk_ends q x else if z_at 80 (q.1 0) x = 3 then bk_ends q x else q
def bk_keep (b : Bk) (n : Nat) : Bk := bk_sc (bk_kept (kp b n) (nI (b.2 1))) 1 (b.2 1 + 1)
theorem bk_ends_2 (q : Bk) (x : Int32) : (bk_ends q x).2 = q.2 := rfl
theorem bk_kept_2 (q : Bk) (x : Int32) : (bk_kept q x).2 = q.2 := by
  unfold bk_kept
  split
  · exact bk_ends_2 q x
  · split
    · exact bk_ends_2 q x
    · rfl
theorem fX0_keep_18 : Cond.fieldLink RX0 18 "TitheMap$Book" "first" "[I" ∈ wsX0_keep := by decide +kernel
theorem fX0_keep_21 : Cond.fieldLink RX0 21 "TitheMap$Book" "second" "[I" ∈ wsX0_keep := by decide +kernel
theorem fX0_keep_39 : Cond.fieldLink RX0 39 "TitheMap$Book" "maker" "[I" ∈ wsX0_keep := by decide +kernel
theorem fX0_keep_42 : Cond.fieldLink RX0 42 "TitheMap$Book" "ender" "[I" ∈ wsX0_keep := by decide +kernel
theorem fX0_keep_45 : Cond.fieldLink RX0 45 "TitheMap$Book" "size" "I" ∈ wsX0_keep := by decide +kernel
theorem fX0_keep_60 : Cond.fieldLink RX0 60 "TitheMap$Book" "fields" "I" ∈ wsX0_keep := by decide +kernel
theorem fX0_keep_9 : Cond.fieldLink RX0 9 "TitheMap$Book" "act" "[I" ∈ wsX0_keep := by decide +kernel
theorem iX0_keep_X0 : ∀ w ∈ wsX00, w ∈ wsX0_keep := by decide +kernel
set_option maxHeartbeats 4000000 in
set_option maxRecDepth 100000 in
theorem lX0_keep {l : Launch} {D : va_G} {K : Nat → ClassId} {p : Program} {e : Env} {s : State} {m : MethodId} {below : List Frame} {meth : Method} {c : Code} {A : Nat → Prop} {args : Array Value} (E : zw_E p s m args c cX0_keep 4 RX0 wsX0_keep D (zT K) A) (hr : meth.sig.returnType = some .int) (hlk : meth.locks = false) (ab : Nat → Nat) (b : Bk) (n : Nat) (hs : b.2 1 < 80) (h60 : b.2 2 + n ≤ 60) : ∀ (t i : Nat), i ≤ n → n + 1 ≤ i + t → zw_W p l e rmX0_keep s m args below meth c 4 D A 0 0 (zw_Qi D A below args s (nI (b.2 1)) (bk_W K ab (bk_keep b n))) 7 [(0, .ref (ab 0)), (1, .int (nI n)), (2, .int (nI (b.2 1))), (3, .int (nI i))] [] (bk_W K ab (kp b i)) := by
  intro t
  induction t with
  | zero => intro i h1 h2; exact absurd h2 (by omega)
  | succ t ih =>
    intro i hle hn
    refine zw_iload_n (i := 3) (x := nI i) E 3 dX0_keep_7 rfl rfl (pc' := 8) rfl ?_
    refine zw_iload_n (i := 1) (x := nI n) E 1 dX0_keep_8 rfl rfl (pc' := 9) rfl ?_
    refine zw_icmp_ge (tgt := 57) E dX0_keep_9 (by decide) (pc' := 12) rfl (fun c_1 => ?_) (fun c_1 => ?_)
    · skip
      have hi : i = n := Nat.le_antisymm hle ((nI_leI (by omega) (by omega)).mp c_1)
      refine zw_aload_n (i := 0) (x := ab 0) E 0 dX0_keep_57 rfl rfl (pc' := 58) rfl ?_
      refine zw_get (v := .ref (ab 1)) E 0 0 iX0_keep_X0 fX0_keep_9 rfl rfl (by decide) rfl rfl dX0_keep_58 (pc' := 61) rfl ?_
      refine zw_iload_n (i := 2) (x := nI (b.2 1)) E 2 dX0_keep_61 rfl rfl (pc' := 62) rfl ?_
      refine zw_callIn E (r := z_at 80 ((kp b i).1 0) (nI (b.2 1))) (As := [.ref (ab 1), .int (nI (b.2 1))]) (rest := []) (ws' := (bk_W K ab (kp b i))) (qX2_at l D K (ab 1) 80 ((kp b i).1 0) (nI (b.2 1)) (by decide)) ⟨va_cnB 2 E.2.2.2.2.1 gX0_keep_X2_at_n56 rfl rfl rfl E.2.2.2.2.2.2.2.2.1 (E.2.2.2.2.1 _ (by decide +kernel)) (by decide +kernel) ⟨Nat.le_of_ble_eq_true rfl, Nat.le_of_ble_eq_true rfl⟩, E.2.2.2.2.1 _ (by decide +kernel), trivial⟩ [1] (by decide) rfl rfl (zw_put_same _ _ _ rfl) rfl rfl (Nat.le_of_ble_eq_true rfl) ⟨Nat.zero_le _, Nat.zero_le _⟩ dX0_keep_62 (pc' := 65) rfl ?_
      refine zw_istore_n (lv' := [(3, .int (z_at 80 ((kp b i).1 0) (nI (b.2 1)))), (0, .ref (ab 0)), (1, .int (nI n)), (2, .int (nI (b.2 1)))]) E dX0_keep_65 rfl (by decide) rfl (pc' := 66) rfl ?_
      refine zw_iload_n (i := 3) (x := z_at 80 ((kp b i).1 0) (nI (b.2 1))) E 0 dX0_keep_66 rfl rfl (pc' := 67) rfl ?_
      refine zw_iconst (v := 2) E dX0_keep_67 (by decide) (pc' := 68) rfl ?_
      refine zw_icmp_eq (tgt := 76) E dX0_keep_68 (by decide) (pc' := 71) rfl (fun c_2 => ?_) (fun c_2 => ?_)
      · skip
        refine zw_aload_n (i := 0) (x := ab 0) E 1 dX0_keep_76 rfl rfl (pc' := 77) rfl ?_
        refine zw_aload_n (i := 0) (x := ab 0) E 1 dX0_keep_77 rfl rfl (pc' := 78) rfl ?_
        refine zw_get (v := .ref (ab 3)) E 0 2 iX0_keep_X0 fX0_keep_18 rfl rfl (by decide) rfl rfl dX0_keep_78 (pc' := 81) rfl ?_
        refine zw_iload_n (i := 2) (x := nI (b.2 1)) E 3 dX0_keep_81 rfl rfl (pc' := 82) rfl ?_
        refine zw_callIn E (r := z_at 80 ((kp b i).1 2) (nI (b.2 1))) (As := [.ref (ab 3), .int (nI (b.2 1))]) (rest := [.ref (ab 0)]) (ws' := (bk_W K ab (kp b i))) (qX2_at l D K (ab 3) 80 ((kp b i).1 2) (nI (b.2 1)) (by decide)) ⟨va_cnB 2 E.2.2.2.2.1 gX0_keep_X2_at_n56 rfl rfl rfl E.2.2.2.2.2.2.2.2.1 (E.2.2.2.2.1 _ (by decide +kernel)) (by decide +kernel) ⟨Nat.le_of_ble_eq_true rfl, Nat.le_of_ble_eq_true rfl⟩, E.2.2.2.2.1 _ (by decide +kernel), trivial⟩ [3] (by decide) rfl rfl (zw_put_same _ _ _ rfl) rfl rfl (Nat.le_of_ble_eq_true rfl) ⟨Nat.zero_le _, Nat.zero_le _⟩ dX0_keep_82 (pc' := 85) rfl ?_
        refine zw_iload_n (i := 2) (x := nI (b.2 1)) E 3 dX0_keep_85 rfl rfl (pc' := 86) rfl ?_
        refine zw_callVw E (As := [.int (z_at 80 ((kp b i).1 2) (nI (b.2 1))), .int (nI (b.2 1))]) (rest := []) (ws' := (bk_W K ab (bk_end (kp b i) (z_at 80 ((kp b i).1 2) (nI (b.2 1))) (nI (b.2 1))))) (qX0_end l D K ab (kp b i) (z_at 80 ((kp b i).1 2) (nI (b.2 1))) (nI (b.2 1))) (cwV 2 E.2.2.2.2.1 gX0_keep_X0_end rfl rfl rfl (by decide +kernel) ⟨Nat.le_of_ble_eq_true rfl, Nat.le_of_ble_eq_true rfl⟩) 0 rfl rfl rfl (bk_ad _ _ _ _) rfl rfl (Nat.le_of_ble_eq_true rfl) ⟨Nat.zero_le _, Nat.zero_le _⟩ dX0_keep_86 (pc' := 89) rfl ?_
        refine zw_gen_bk_b (bk_end (kp b i) (z_at 80 ((kp b i).1 2) (nI (b.2 1))) (nI (b.2 1))) (fun q0 hq0 => ?_)
        have hz : q0.2 1 = b.2 1 := by rw [← hq0, bk_end_2]; rfl
        refine zw_aload_n (i := 0) (x := ab 0) E 1 dX0_keep_89 rfl rfl (pc' := 90) rfl ?_
        refine zw_aload_n (i := 0) (x := ab 0) E 1 dX0_keep_90 rfl rfl (pc' := 91) rfl ?_
        refine zw_get (v := .ref (ab 4)) E 0 3 iX0_keep_X0 fX0_keep_21 rfl rfl (by decide) rfl rfl dX0_keep_91 (pc' := 94) rfl ?_
        refine zw_iload_n (i := 2) (x := nI (b.2 1)) E 3 dX0_keep_94 rfl rfl (pc' := 95) rfl ?_
        refine zw_callIn E (r := z_at 80 (q0.1 3) (nI (b.2 1))) (As := [.ref (ab 4), .int (nI (b.2 1))]) (rest := [.ref (ab 0)]) (ws' := (bk_W K ab q0)) (qX2_at l D K (ab 4) 80 (q0.1 3) (nI (b.2 1)) (by decide)) ⟨va_cnB 2 E.2.2.2.2.1 gX0_keep_X2_at_n56 rfl rfl rfl E.2.2.2.2.2.2.2.2.1 (E.2.2.2.2.1 _ (by decide +kernel)) (by decide +kernel) ⟨Nat.le_of_ble_eq_true rfl, Nat.le_of_ble_eq_true rfl⟩, E.2.2.2.2.1 _ (by decide +kernel), trivial⟩ [4] (by decide) rfl rfl (zw_put_same _ _ _ rfl) rfl rfl (Nat.le_of_ble_eq_true rfl) ⟨Nat.zero_le _, Nat.zero_le _⟩ dX0_keep_95 (pc' := 98) rfl ?_
        refine zw_iload_n (i := 2) (x := nI (b.2 1)) E 3 dX0_keep_98 rfl rfl (pc' := 99) rfl ?_
        refine zw_callVw E (As := [.int (z_at 80 (q0.1 3) (nI (b.2 1))), .int (nI (b.2 1))]) (rest := []) (ws' := (bk_W K ab (bk_end q0 (z_at 80 (q0.1 3) (nI (b.2 1))) (nI (b.2 1))))) (qX0_end l D K ab q0 (z_at 80 (q0.1 3) (nI (b.2 1))) (nI (b.2 1))) (cwV 2 E.2.2.2.2.1 gX0_keep_X0_end rfl rfl rfl (by decide +kernel) ⟨Nat.le_of_ble_eq_true rfl, Nat.le_of_ble_eq_true rfl⟩) 0 rfl rfl rfl (bk_ad _ _ _ _) rfl rfl (Nat.le_of_ble_eq_true rfl) ⟨Nat.zero_le _, Nat.zero_le _⟩ dX0_keep_99 (pc' := 102) rfl ?_
        refine zw_gen_bk_b (bk_end q0 (z_at 80 (q0.1 3) (nI (b.2 1))) (nI (b.2 1))) (fun q hq => ?_)
        have hq1 : q.2 1 = b.2 1 := by rw [← hq, bk_end_2]; exact hz
        refine zw_aload_n (i := 0) (x := ab 0) E 1 dX0_keep_102 rfl rfl (pc' := 103) rfl ?_
        refine zw_dup E dX0_keep_103 rfl (pc' := 104) rfl ?_
        refine zw_get (v := .int (nI (q.2 1))) E 0 12 iX0_keep_X0 fX0_keep_45 rfl rfl (by decide) rfl rfl dX0_keep_104 (pc' := 107) rfl ?_
        refine zw_topi (x' := nI (b.2 1)) (congrArg nI hq1) ?_
        refine zw_iconst (v := 1) E dX0_keep_107 (by decide) (pc' := 108) rfl ?_
        refine zw_iadd E dX0_keep_108 (pc' := 109) rfl ?_
        refine zw_topi (x' := nI (b.2 1 + 1)) (nI_1 (b.2 1)) ?_
        refine zw_putf (v := .int (nI (b.2 1 + 1))) (ty := .int) (ws' := (bk_W K ab (bk_sc q 1 (b.2 1 + 1)))) E 0 12 iX0_keep_X0 tyX0_ok nmX0 fX0_keep_45 rfl rfl (by decide) rfl rfl rfl rfl rfl (Nat.le_of_ble_eq_true rfl) rfl dX0_keep_109 (pc' := 112) rfl ?_
        refine zw_iload_n (i := 2) (x := nI (b.2 1)) E 3 dX0_keep_112 rfl rfl (pc' := 113) rfl ?_
        exact zw_iret E hr hlk dX0_keep_113 rfl (by unfold bk_keep bk_kept bk_ends; rw [← hi, if_pos c_2, hq0, hq])
      · skip
        refine zw_iload_n (i := 3) (x := z_at 80 ((kp b i).1 0) (nI (b.2 1))) E 0 dX0_keep_71 rfl rfl (pc' := 72) rfl ?_
        refine zw_iconst (v := 3) E dX0_keep_72 (by decide) (pc' := 73) rfl ?_
        refine zw_icmp_ne (tgt := 102) E dX0_keep_73 (by decide) (pc' := 76) rfl (fun c_3 => ?_) (fun c_3 => ?_)
        · skip
          refine zw_aload_n (i := 0) (x := ab 0) E 1 dX0_keep_102 rfl rfl (pc' := 103) rfl ?_
          refine zw_dup E dX0_keep_103 rfl (pc' := 104) rfl ?_
          refine zw_get (v := .int (nI (b.2 1))) E 0 12 iX0_keep_X0 fX0_keep_45 rfl rfl (by decide) rfl rfl dX0_keep_104 (pc' := 107) rfl ?_
          refine zw_topi (x' := nI (b.2 1)) rfl ?_
          refine zw_iconst (v := 1) E dX0_keep_107 (by decide) (pc' := 108) rfl ?_
          refine zw_iadd E dX0_keep_108 (pc' := 109) rfl ?_
          refine zw_topi (x' := nI (b.2 1 + 1)) (nI_1 (b.2 1)) ?_
          refine zw_putf (v := .int (nI (b.2 1 + 1))) (ty := .int) (ws' := (bk_W K ab (bk_sc (kp b i) 1 (b.2 1 + 1)))) E 0 12 iX0_keep_X0 tyX0_ok nmX0 fX0_keep_45 rfl rfl (by decide) rfl rfl rfl rfl rfl (Nat.le_of_ble_eq_true rfl) rfl dX0_keep_109 (pc' := 112) rfl ?_
          refine zw_iload_n (i := 2) (x := nI (b.2 1)) E 3 dX0_keep_112 rfl rfl (pc' := 113) rfl ?_
          exact zw_iret E hr hlk dX0_keep_113 rfl (by unfold bk_keep bk_kept; rw [← hi, if_neg c_2, if_neg c_3])
        · skip
          refine zw_aload_n (i := 0) (x := ab 0) E 1 dX0_keep_76 rfl rfl (pc' := 77) rfl ?_
          refine zw_aload_n (i := 0) (x := ab 0) E 1 dX0_keep_77 rfl rfl (pc' := 78) rfl ?_
          refine zw_get (v := .ref (ab 3)) E 0 2 iX0_keep_X0 fX0_keep_18 rfl rfl (by decide) rfl rfl dX0_keep_78 (pc' := 81) rfl ?_
          refine zw_iload_n (i := 2) (x := nI (b.2 1)) E 3 dX0_keep_81 rfl rfl (pc' := 82) rfl ?_
          refine zw_callIn E (r := z_at 80 ((kp b i).1 2) (nI (b.2 1))) (As := [.ref (ab 3), .int (nI (b.2 1))]) (rest := [.ref (ab 0)]) (ws' := (bk_W K ab (kp b i))) (qX2_at l D K (ab 3) 80 ((kp b i).1 2) (nI (b.2 1)) (by decide)) ⟨va_cnB 2 E.2.2.2.2.1 gX0_keep_X2_at_n56 rfl rfl rfl E.2.2.2.2.2.2.2.2.1 (E.2.2.2.2.1 _ (by decide +kernel)) (by decide +kernel) ⟨Nat.le_of_ble_eq_true rfl, Nat.le_of_ble_eq_true rfl⟩, E.2.2.2.2.1 _ (by decide +kernel), trivial⟩ [3] (by decide) rfl rfl (zw_put_same _ _ _ rfl) rfl rfl (Nat.le_of_ble_eq_true rfl) ⟨Nat.zero_le _, Nat.zero_le _⟩ dX0_keep_82 (pc' := 85) rfl ?_
          refine zw_iload_n (i := 2) (x := nI (b.2 1)) E 3 dX0_keep_85 rfl rfl (pc' := 86) rfl ?_
          refine zw_callVw E (As := [.int (z_at 80 ((kp b i).1 2) (nI (b.2 1))), .int (nI (b.2 1))]) (rest := []) (ws' := (bk_W K ab (bk_end (kp b i) (z_at 80 ((kp b i).1 2) (nI (b.2 1))) (nI (b.2 1))))) (qX0_end l D K ab (kp b i) (z_at 80 ((kp b i).1 2) (nI (b.2 1))) (nI (b.2 1))) (cwV 2 E.2.2.2.2.1 gX0_keep_X0_end rfl rfl rfl (by decide +kernel) ⟨Nat.le_of_ble_eq_true rfl, Nat.le_of_ble_eq_true rfl⟩) 0 rfl rfl rfl (bk_ad _ _ _ _) rfl rfl (Nat.le_of_ble_eq_true rfl) ⟨Nat.zero_le _, Nat.zero_le _⟩ dX0_keep_86 (pc' := 89) rfl ?_
          refine zw_gen_bk_b (bk_end (kp b i) (z_at 80 ((kp b i).1 2) (nI (b.2 1))) (nI (b.2 1))) (fun q0 hq0 => ?_)
          have hz : q0.2 1 = b.2 1 := by rw [← hq0, bk_end_2]; rfl
          refine zw_aload_n (i := 0) (x := ab 0) E 1 dX0_keep_89 rfl rfl (pc' := 90) rfl ?_
          refine zw_aload_n (i := 0) (x := ab 0) E 1 dX0_keep_90 rfl rfl (pc' := 91) rfl ?_
          refine zw_get (v := .ref (ab 4)) E 0 3 iX0_keep_X0 fX0_keep_21 rfl rfl (by decide) rfl rfl dX0_keep_91 (pc' := 94) rfl ?_
          refine zw_iload_n (i := 2) (x := nI (b.2 1)) E 3 dX0_keep_94 rfl rfl (pc' := 95) rfl ?_
          refine zw_callIn E (r := z_at 80 (q0.1 3) (nI (b.2 1))) (As := [.ref (ab 4), .int (nI (b.2 1))]) (rest := [.ref (ab 0)]) (ws' := (bk_W K ab q0)) (qX2_at l D K (ab 4) 80 (q0.1 3) (nI (b.2 1)) (by decide)) ⟨va_cnB 2 E.2.2.2.2.1 gX0_keep_X2_at_n56 rfl rfl rfl E.2.2.2.2.2.2.2.2.1 (E.2.2.2.2.1 _ (by decide +kernel)) (by decide +kernel) ⟨Nat.le_of_ble_eq_true rfl, Nat.le_of_ble_eq_true rfl⟩, E.2.2.2.2.1 _ (by decide +kernel), trivial⟩ [4] (by decide) rfl rfl (zw_put_same _ _ _ rfl) rfl rfl (Nat.le_of_ble_eq_true rfl) ⟨Nat.zero_le _, Nat.zero_le _⟩ dX0_keep_95 (pc' := 98) rfl ?_
          refine zw_iload_n (i := 2) (x := nI (b.2 1)) E 3 dX0_keep_98 rfl rfl (pc' := 99) rfl ?_
          refine zw_callVw E (As := [.int (z_at 80 (q0.1 3) (nI (b.2 1))), .int (nI (b.2 1))]) (rest := []) (ws' := (bk_W K ab (bk_end q0 (z_at 80 (q0.1 3) (nI (b.2 1))) (nI (b.2 1))))) (qX0_end l D K ab q0 (z_at 80 (q0.1 3) (nI (b.2 1))) (nI (b.2 1))) (cwV 2 E.2.2.2.2.1 gX0_keep_X0_end rfl rfl rfl (by decide +kernel) ⟨Nat.le_of_ble_eq_true rfl, Nat.le_of_ble_eq_true rfl⟩) 0 rfl rfl rfl (bk_ad _ _ _ _) rfl rfl (Nat.le_of_ble_eq_true rfl) ⟨Nat.zero_le _, Nat.zero_le _⟩ dX0_keep_99 (pc' := 102) rfl ?_
          refine zw_gen_bk_b (bk_end q0 (z_at 80 (q0.1 3) (nI (b.2 1))) (nI (b.2 1))) (fun q hq => ?_)
          have hq1 : q.2 1 = b.2 1 := by rw [← hq, bk_end_2]; exact hz
          refine zw_aload_n (i := 0) (x := ab 0) E 1 dX0_keep_102 rfl rfl (pc' := 103) rfl ?_
          refine zw_dup E dX0_keep_103 rfl (pc' := 104) rfl ?_
          refine zw_get (v := .int (nI (q.2 1))) E 0 12 iX0_keep_X0 fX0_keep_45 rfl rfl (by decide) rfl rfl dX0_keep_104 (pc' := 107) rfl ?_
          refine zw_topi (x' := nI (b.2 1)) (congrArg nI hq1) ?_
          refine zw_iconst (v := 1) E dX0_keep_107 (by decide) (pc' := 108) rfl ?_
          refine zw_iadd E dX0_keep_108 (pc' := 109) rfl ?_
          refine zw_topi (x' := nI (b.2 1 + 1)) (nI_1 (b.2 1)) ?_
          refine zw_putf (v := .int (nI (b.2 1 + 1))) (ty := .int) (ws' := (bk_W K ab (bk_sc q 1 (b.2 1 + 1)))) E 0 12 iX0_keep_X0 tyX0_ok nmX0 fX0_keep_45 rfl rfl (by decide) rfl rfl rfl rfl rfl (Nat.le_of_ble_eq_true rfl) rfl dX0_keep_109 (pc' := 112) rfl ?_
          refine zw_iload_n (i := 2) (x := nI (b.2 1)) E 3 dX0_keep_112 rfl rfl (pc' := 113) rfl ?_
          exact zw_iret E hr hlk dX0_keep_113 rfl (by unfold bk_keep bk_kept bk_ends; rw [← hi, if_neg c_2, if_pos c_3, hq0, hq])
    · skip
      have hlt : i < n := Nat.lt_of_not_le (fun h => c_1 (nI_le h (by omega)))
      have hf : b.2 2 + i < 60 := by omega
      refine zw_aload_n (i := 0) (x := ab 0) E 0 dX0_keep_12 rfl rfl (pc' := 13) rfl ?_
      refine zw_get (v := .int (nI (b.2 2 + i))) E 0 13 iX0_keep_X0 fX0_keep_60 rfl rfl (by decide) rfl rfl dX0_keep_13 (pc' := 16) rfl ?_
      refine zw_bipush (v := 60) E dX0_keep_16 (by decide) (pc' := 18) rfl ?_
      refine zw_icmp_ge (tgt := 57) E dX0_keep_18 (by decide) (pc' := 21) rfl (fun c_4 => ?_) (fun c_4 => ?_)
      · exact absurd c_4 (zw_n60 hf)
      · skip
        refine zw_aload_n (i := 0) (x := ab 0) E 0 dX0_keep_21 rfl rfl (pc' := 22) rfl ?_
        refine zw_get (v := .ref (ab 10)) E 0 9 iX0_keep_X0 fX0_keep_39 rfl rfl (by decide) rfl rfl dX0_keep_22 (pc' := 25) rfl ?_
        refine zw_aload_n (i := 0) (x := ab 0) E 0 dX0_keep_25 rfl rfl (pc' := 26) rfl ?_
        refine zw_get (v := .int (nI (b.2 2 + i))) E 0 13 iX0_keep_X0 fX0_keep_60 rfl rfl (by decide) rfl rfl dX0_keep_26 (pc' := 29) rfl ?_
        refine zw_iload_n (i := 2) (x := nI (b.2 1)) E 2 dX0_keep_29 rfl rfl (pc' := 30) rfl ?_
        refine zw_iast (j := b.2 2 + i) (ws' := (bk_W K ab (bk_row (kp b i) 9 (b.2 2 + i) (nI (b.2 1))))) E 10 0 rfl rfl (vp_in_nI hf (by decide)) (zw_clamp hf (by decide)) rfl dX0_keep_30 (pc' := 31) rfl ?_
        refine zw_aload_n (i := 0) (x := ab 0) E 0 dX0_keep_31 rfl rfl (pc' := 32) rfl ?_
        refine zw_get (v := .ref (ab 11)) E 0 10 iX0_keep_X0 fX0_keep_42 rfl rfl (by decide) rfl rfl dX0_keep_32 (pc' := 35) rfl ?_
        refine zw_aload_n (i := 0) (x := ab 0) E 0 dX0_keep_35 rfl rfl (pc' := 36) rfl ?_
        refine zw_get (v := .int (nI (b.2 2 + i))) E 0 13 iX0_keep_X0 fX0_keep_60 rfl rfl (by decide) rfl rfl dX0_keep_36 (pc' := 39) rfl ?_
        refine zw_iconst (v := (-1)) E dX0_keep_39 (by decide) (pc' := 40) rfl ?_
        refine zw_iast (j := b.2 2 + i) (ws' := (bk_W K ab (bk_row (bk_row (kp b i) 9 (b.2 2 + i) (nI (b.2 1))) 10 (b.2 2 + i) (-1)))) E 11 0 rfl rfl (vp_in_nI hf (by decide)) (zw_clamp hf (by decide)) rfl dX0_keep_40 (pc' := 41) rfl ?_
        refine zw_aload_n (i := 0) (x := ab 0) E 0 dX0_keep_41 rfl rfl (pc' := 42) rfl ?_
        refine zw_dup E dX0_keep_42 rfl (pc' := 43) rfl ?_
        refine zw_get (v := .int (nI (b.2 2 + i))) E 0 13 iX0_keep_X0 fX0_keep_60 rfl rfl (by decide) rfl rfl dX0_keep_43 (pc' := 46) rfl ?_
        refine zw_iconst (v := 1) E dX0_keep_46 (by decide) (pc' := 47) rfl ?_
        refine zw_iadd E dX0_keep_47 (pc' := 48) rfl ?_
        refine zw_topi (x' := nI (b.2 2 + (i + 1))) (nI_1 (b.2 2 + i)) ?_
        refine zw_putf (v := .int (nI (b.2 2 + (i + 1)))) (ty := .int) (ws' := (bk_W K ab (bk_sc (bk_row (bk_row (kp b i) 9 (b.2 2 + i) (nI (b.2 1))) 10 (b.2 2 + i) (-1)) 2 (b.2 2 + (i + 1))))) E 0 13 iX0_keep_X0 tyX0_ok nmX0 fX0_keep_60 rfl rfl (by decide) rfl rfl rfl rfl rfl (Nat.le_of_ble_eq_true rfl) rfl dX0_keep_48 (pc' := 51) rfl ?_
        refine zw_iinc (x := nI i) (v := nI (i + 1)) (lv' := [(3, .int (nI (i + 1))), (0, .ref (ab 0)), (1, .int (nI n)), (2, .int (nI (b.2 1)))]) E 3 dX0_keep_51 rfl (zw_inc1 i) (by decide) rfl (pc' := 54) rfl ?_
        refine zw_goto (tgt := 7) E dX0_keep_54 (by decide) ?_
        refine zw_ws (ws' := bk_W K ab (kp b (i + 1))) (congrArg (bk_W K ab) (kp_succ b i)) ?_
        refine zw_sub [1, 2, 3, 0] (lv' := [(0, .ref (ab 0)), (1, .int (nI n)), (2, .int (nI (b.2 1))), (3, .int (nI (i + 1)))]) rfl ?_
        exact ih (i + 1) (by omega) (by omega)

set_option maxHeartbeats 4000000 in
set_option maxRecDepth 100000 in
/-- keep(newFields) -/
theorem qX0_keep (l : Launch) (D : va_G) (K : Nat → ClassId) (ab : Nat → Nat) (b : Bk) (n : Nat) (hs : b.2 1 < 80) (h60 : b.2 2 + n ≤ 60) : zw_I l yX0_keep wsX0_keep rmX0_keep D (zT K) [.ref (ab 0), .int (nI n)] (bk_W K ab b) (nI (b.2 1)) (bk_W K ab (bk_keep b n)) := by
  refine zw_ofI (cc := cX0_keep) (nL := 4) (ret := (some .int)) (own := RX0) (lv := [(0, .ref (ab 0)), (1, .int (nI n))]) (by decide) rfl (Nat.le_of_ble_eq_true rfl) rfl rfl ?_
  intro p e s m below meth c A E hr hlk
  refine zw_aload_n (i := 0) (x := ab 0) E 0 dX0_keep_0 rfl rfl (pc' := 1) rfl ?_
  refine zw_get (v := .int (nI (b.2 1))) E 0 12 iX0_keep_X0 fX0_keep_45 rfl rfl (by decide) rfl rfl dX0_keep_1 (pc' := 4) rfl ?_
  refine zw_istore_n (lv' := [(2, .int (nI (b.2 1))), (0, .ref (ab 0)), (1, .int (nI n))]) E dX0_keep_4 rfl (by decide) rfl (pc' := 5) rfl ?_
  refine zw_iconst (v := 0) E dX0_keep_5 (by decide) (pc' := 6) rfl ?_
  refine zw_istore_n (lv' := [(3, .int 0), (2, .int (nI (b.2 1))), (0, .ref (ab 0)), (1, .int (nI n))]) E dX0_keep_6 rfl (by decide) rfl (pc' := 7) rfl ?_
  refine zw_ws (ws' := bk_W K ab (kp b 0)) (congrArg (bk_W K ab) (kp_zero b).symm) ?_
  refine zw_sub [2, 3, 1, 0] (lv' := [(0, .ref (ab 0)), (1, .int (nI n)), (2, .int (nI (b.2 1))), (3, .int 0)]) rfl ?_
  exact lX0_keep E hr hlk ab b n hs h60 (n + 1) 0 (Nat.zero_le _) (by omega)
