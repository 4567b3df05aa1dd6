/-! small methods: at, isWithin, isOwner; the book's isFull, put, end -/
/-- what stands at a place of a row of n -/
def z_at (n : Nat) (f : Nat → Int32) (i : Int32) : Int32 := if i < 0 then -1 else if nI n ≤ i then -1 else f i.toNatClampNeg
theorem zw_in2 {i : Int32} {n : Nat} (hn : n < 2 ^ 31) (h1 : ¬ i < 0) (h2 : i < nI n) : vp_in i n := by
  rw [vp_in_iff]
  have a := Int32.not_lt.mp h1
  rw [Int32.le_iff_toInt_le] at a
  rw [Int32.lt_iff_toInt_lt, nI_toInt hn] at h2
  exact ⟨a, h2⟩

set_option maxHeartbeats 4000000 in
set_option maxRecDepth 100000 in
/-- at(row, place) -/
theorem qX2_at (l : Launch) (D : va_G) (K : Nat → ClassId) (a n : Nat) (f : Nat → Int32) (i : Int32) (hn : n < 2 ^ 31) : zw_I l yX2_at wsX2_at rmX2_at D (zT K) [.ref a, .int i] [(a, .inl (K 0, n, .inl f))] (z_at n f i) [(a, .inl (K 0, n, .inl f))] := by
  refine zw_ofI (cc := cX2_at) (nL := 2) (ret := (some .int)) (own := RX2) (lv := [(0, .ref a), (1, .int i)]) (by decide) rfl (Nat.le_of_ble_eq_true rfl) rfl rfl ?_
  intro p e s m below meth c A E hr hlk
  refine zw_iload_n (i := 1) (x := i) E 1 dX2_at_0 rfl rfl (pc' := 1) rfl ?_
  refine zw_if_lt (tgt := 10) E dX2_at_1 (by decide) (pc' := 4) rfl (fun c_1 => ?_) (fun c_1 => ?_)
  · skip
    refine zw_iconst (v := (-1)) E dX2_at_10 (by decide) (pc' := 11) rfl ?_
    refine zw_goto (tgt := 17) E dX2_at_11 (by decide) ?_
    exact zw_iret E hr hlk dX2_at_17 (by unfold z_at; rw [if_pos c_1]) rfl
  · skip
    refine zw_iload_n (i := 1) (x := i) E 1 dX2_at_4 rfl rfl (pc' := 5) rfl ?_
    refine zw_aload_n (i := 0) (x := a) E 0 dX2_at_5 rfl rfl (pc' := 6) rfl ?_
    refine zw_alen (v := nI n) E 0 0 rfl rfl rfl dX2_at_6 (pc' := 7) rfl ?_
    refine zw_icmp_lt (tgt := 14) E dX2_at_7 (by decide) (pc' := 10) rfl (fun c_2 => ?_) (fun c_2 => ?_)
    · skip
      refine zw_aload_n (i := 0) (x := a) E 0 dX2_at_14 rfl rfl (pc' := 15) rfl ?_
      refine zw_iload_n (i := 1) (x := i) E 1 dX2_at_15 rfl rfl (pc' := 16) rfl ?_
      refine zw_iald (j := i.toNatClampNeg) (x := f i.toNatClampNeg) E 0 0 rfl rfl (zw_in2 hn c_1 c_2) rfl rfl dX2_at_16 (pc' := 17) rfl ?_
      exact zw_iret E hr hlk dX2_at_17 (by unfold z_at; rw [if_neg c_1, if_neg (Int32.not_le.mpr c_2)]) rfl
    · skip
      refine zw_iconst (v := (-1)) E dX2_at_10 (by decide) (pc' := 11) rfl ?_
      refine zw_goto (tgt := 17) E dX2_at_11 (by decide) ?_
      exact zw_iret E hr hlk dX2_at_17 (by unfold z_at; rw [if_neg c_1, if_pos (Int32.not_lt.mp c_2)]) rfl

set_option maxHeartbeats 4000000 in
set_option maxRecDepth 100000 in
/-- isWithin(value, least, most) -/
theorem qX2_isWithin (l : Launch) (D : va_G) (K : Nat → ClassId) (v lo hi : Int32) : zw_I l yX2_isWithin wsX2_isWithin rmX2_isWithin D (zT K) [.int v, .int lo, .int hi] [] (zb (lo ≤ v ∧ v ≤ hi)) [] := by
  refine zw_ofI (cc := cX2_isWithin) (nL := 3) (ret := (some .boolean)) (own := RX2) (lv := [(0, .int v), (1, .int lo), (2, .int hi)]) (by decide) rfl (Nat.le_of_ble_eq_true rfl) rfl rfl ?_
  intro p e s m below meth c A E hr hlk
  refine zw_iload_n (i := 0) (x := v) E 0 dX2_isWithin_0 rfl rfl (pc' := 1) rfl ?_
  refine zw_iload_n (i := 1) (x := lo) E 1 dX2_isWithin_1 rfl rfl (pc' := 2) rfl ?_
  refine zw_icmp_lt (tgt := 14) E dX2_isWithin_2 (by decide) (pc' := 5) rfl (fun c_1 => ?_) (fun c_1 => ?_)
  · skip
    refine zw_iconst (v := 0) E dX2_isWithin_14 (by decide) (pc' := 15) rfl ?_
    exact zw_zret E hr hlk dX2_isWithin_15 rfl (zb_f (fun h => absurd c_1 (Int32.not_lt.mpr h.1))).symm rfl
  · skip
    refine zw_iload_n (i := 0) (x := v) E 0 dX2_isWithin_5 rfl rfl (pc' := 6) rfl ?_
    refine zw_iload_n (i := 2) (x := hi) E 2 dX2_isWithin_6 rfl rfl (pc' := 7) rfl ?_
    refine zw_icmp_gt (tgt := 14) E dX2_isWithin_7 (by decide) (pc' := 10) rfl (fun c_2 => ?_) (fun c_2 => ?_)
    · skip
      refine zw_iconst (v := 0) E dX2_isWithin_14 (by decide) (pc' := 15) rfl ?_
      exact zw_zret E hr hlk dX2_isWithin_15 rfl (zb_f (fun h => absurd c_2 (Int32.not_lt.mpr h.2))).symm rfl
    · skip
      refine zw_iconst (v := 1) E dX2_isWithin_10 (by decide) (pc' := 11) rfl ?_
      refine zw_goto (tgt := 15) E dX2_isWithin_11 (by decide) ?_
      exact zw_zret E hr hlk dX2_isWithin_15 rfl (zb_t ⟨Int32.not_lt.mp c_1, Int32.not_lt.mp c_2⟩).symm rfl

set_option maxHeartbeats 4000000 in
set_option maxRecDepth 100000 in
/-- isOwner(owner) -/
theorem qX2_isOwner (l : Launch) (D : va_G) (K : Nat → ClassId) (v : Int32) : zw_I l yX2_isOwner wsX2_isOwner rmX2_isOwner D (zT K) [.int v] [] (zb (0 ≤ v ∧ v ≤ 9)) [] := by
  refine zw_ofI (cc := cX2_isOwner) (nL := 1) (ret := (some .boolean)) (own := RX2) (lv := [(0, .int v)]) (by decide) rfl (Nat.le_of_ble_eq_true rfl) rfl rfl ?_
  intro p e s m below meth c A E hr hlk
  refine zw_iload_n (i := 0) (x := v) E 0 dX2_isOwner_0 rfl rfl (pc' := 1) rfl ?_
  refine zw_iconst (v := 0) E dX2_isOwner_1 (by decide) (pc' := 2) rfl ?_
  refine zw_bipush (v := 9) E dX2_isOwner_2 (by decide) (pc' := 4) rfl ?_
  refine zw_callIs E (r := zb (0 ≤ v ∧ v ≤ 9)) (As := [.int v, .int 0, .int 9]) (rest := []) (ws' := []) (qX2_isWithin l D K v 0 9) (va_cwS 3 E.2.2.2.2.1 gX2_isOwner_X2_isWithin rfl rfl rfl (by decide +kernel) ⟨Nat.le_of_ble_eq_true rfl, Nat.le_of_ble_eq_true rfl⟩) [] (by decide) rfl rfl (zw_put_same _ _ _ rfl) rfl rfl (Nat.le_of_ble_eq_true rfl) ⟨Nat.zero_le _, Nat.zero_le _⟩ dX2_isOwner_4 (pc' := 7) rfl ?_
  exact zw_zret E hr hlk dX2_isOwner_7 zb_nar rfl rfl

theorem fX0_isFull_45 : Cond.fieldLink RX0 45 "TitheMap$Book" "size" "I" ∈ wsX0_isFull := by decide +kernel
theorem iX0_isFull_X0 : ∀ w ∈ wsX00, w ∈ wsX0_isFull := by decide +kernel
set_option maxHeartbeats 4000000 in
set_option maxRecDepth 100000 in
/-- isFull() -/
theorem qX0_isFull (l : Launch) (D : va_G) (K : Nat → ClassId) (ab : Nat → Nat) (b : Bk) : zw_I l yX0_isFull wsX0_isFull rmX0_isFull D (zT K) [.ref (ab 0)] (bk_W K ab b) (zb (80 ≤ nI (b.2 1))) (bk_W K ab b) := by
  refine zw_ofI (cc := cX0_isFull) (nL := 1) (ret := (some .boolean)) (own := RX0) (lv := [(0, .ref (ab 0))]) (by decide) rfl (Nat.le_of_ble_eq_true rfl) rfl rfl ?_
  intro p e s m below meth c A E hr hlk
  refine zw_aload_n (i := 0) (x := ab 0) E 0 dX0_isFull_0 rfl rfl (pc' := 1) rfl ?_
  refine zw_get (v := .int (nI (b.2 1))) E 0 12 iX0_isFull_X0 fX0_isFull_45 rfl rfl (by decide) rfl rfl dX0_isFull_1 (pc' := 4) rfl ?_
  refine zw_bipush (v := 80) E dX0_isFull_4 (by decide) (pc' := 6) rfl ?_
  refine zw_icmp_lt (tgt := 13) E dX0_isFull_6 (by decide) (pc' := 9) rfl (fun c_1 => ?_) (fun c_1 => ?_)
  · skip
    refine zw_iconst (v := 0) E dX0_isFull_13 (by decide) (pc' := 14) rfl ?_
    exact zw_zret E hr hlk dX0_isFull_14 rfl (zb_f (fun h => absurd c_1 (Int32.not_lt.mpr h))).symm rfl
  · skip
    refine zw_iconst (v := 1) E dX0_isFull_9 (by decide) (pc' := 10) rfl ?_
    refine zw_goto (tgt := 14) E dX0_isFull_10 (by decide) ?_
    exact zw_zret E hr hlk dX0_isFull_14 rfl (zb_t (Int32.not_lt.mp c_1)).symm rfl
