/-! the map: the small tests, takeDraft, price and the six acts -/
def bk_put (b : Bk) (r : Nat) (x : Int32) : Bk := bk_row b r (b.2 1) x
theorem zw_kn {k : Int32} {n : Nat} (hn : n ≤ 80) (h : 0 ≤ k ∧ k ≤ nI n) : ∃ kn, kn ≤ n ∧ k = nI kn := nI_of2 (n := n) (nI_toInt (by omega)) (Int32.not_lt.mpr h.1) h.2
theorem zw_le0 {n : Nat} (hn : n ≤ 80) (h : nI n ≤ 0) : n = 0 := Nat.le_zero.mp ((nI_leI (b := 0) (by omega) (by decide)).mp h)
theorem bk_file_1 (b : Bk) : (bk_file b).2 1 = b.2 1 := rfl
theorem bk_file_2 (b : Bk) : (bk_file b).2 2 = b.2 2 := rfl
theorem bk_file_0 (b : Bk) : (bk_file b).2 0 = b.2 0 + 1 := rfl
theorem bk_draft_2 (b : Bk) (a y : Int32) : (bk_draft b a y).2 = b.2 := rfl
theorem bk_put_2 (b : Bk) (r : Nat) (x : Int32) : (bk_put b r x).2 = b.2 := rfl
theorem fX2_isField_10 : Cond.fieldLink RX2 10 "TitheMap" "book" "LTitheMap$Book;" ∈ wsX2_isField := by decide +kernel
theorem fX2_isField_143 : Cond.fieldLink RX2 143 "TitheMap$Book" "fields" "I" ∈ wsX2_isField := by decide +kernel
theorem iX2_isField_X0 : ∀ w ∈ wsX00, w ∈ wsX2_isField := by decide +kernel
theorem iX2_isField_X2 : ∀ w ∈ wsX20, w ∈ wsX2_isField := by decide +kernel
set_option maxHeartbeats 4000000 in
set_option maxRecDepth 100000 in
/-- isField(f) -/
theorem qX2_isField (l : Launch) (D : va_G) (K : Nat → ClassId) (a0 : Nat) (ab al ao : Nat → Nat) (b : Bk) (d o : Ld) (f : Int32) : zw_I l yX2_isField wsX2_isField rmX2_isField D (zT K) [.ref a0, .int f] (tm_W K a0 ab al ao b d o) (zb (0 ≤ f ∧ f ≤ nI (b.2 2) - 1)) (tm_W K a0 ab al ao b d o) := by
  refine zw_ofI (cc := cX2_isField) (nL := 2) (ret := (some .boolean)) (own := RX2) (lv := [(0, .ref a0), (1, .int f)]) (by decide) rfl (Nat.le_of_ble_eq_true rfl) rfl rfl ?_
  intro p e s m below meth c A E hr hlk
  refine zw_iload_n (i := 1) (x := f) E 1 dX2_isField_0 rfl rfl (pc' := 1) rfl ?_
  refine zw_iconst (v := 0) E dX2_isField_1 (by decide) (pc' := 2) rfl ?_
  refine zw_aload_n (i := 0) (x := a0) E 0 dX2_isField_2 rfl rfl (pc' := 3) rfl ?_
  refine zw_get (v := .ref (ab 0)) E 0 0 iX2_isField_X2 fX2_isField_10 rfl rfl (by decide) rfl rfl dX2_isField_3 (pc' := 6) rfl ?_
  refine zw_get (v := .int (nI (b.2 2))) E 1 13 iX2_isField_X0 fX2_isField_143 rfl rfl (by decide) rfl rfl dX2_isField_6 (pc' := 9) rfl ?_
  refine zw_iconst (v := 1) E dX2_isField_9 (by decide) (pc' := 10) rfl ?_
  refine zw_isub E dX2_isField_10 (pc' := 11) rfl ?_
  refine zw_callIs E (r := zb (0 ≤ f ∧ f ≤ (nI (b.2 2)) - 1)) (As := [.int f, .int 0, .int ((nI (b.2 2)) - 1)]) (rest := []) (ws' := (tm_W K a0 ab al ao b d o)) (qX2_isWithin l D K f 0 ((nI (b.2 2)) - 1)) (va_cwS 3 E.2.2.2.2.1 gX2_isField_X2_isWithin rfl rfl rfl (by decide +kernel) ⟨Nat.le_of_ble_eq_true rfl, Nat.le_of_ble_eq_true rfl⟩) [] (by decide) rfl rfl (zw_put_same _ _ _ rfl) rfl rfl (Nat.le_of_ble_eq_true rfl) ⟨Nat.zero_le _, Nat.zero_le _⟩ dX2_isField_11 (pc' := 14) rfl ?_
  exact zw_zret E hr hlk dX2_isField_14 zb_nar rfl rfl

theorem fX2_isKnowing_10 : Cond.fieldLink RX2 10 "TitheMap" "book" "LTitheMap$Book;" ∈ wsX2_isKnowing := by decide +kernel
theorem fX2_isKnowing_139 : Cond.fieldLink RX2 139 "TitheMap$Book" "size" "I" ∈ wsX2_isKnowing := by decide +kernel
theorem iX2_isKnowing_X0 : ∀ w ∈ wsX00, w ∈ wsX2_isKnowing := by decide +kernel
theorem iX2_isKnowing_X2 : ∀ w ∈ wsX20, w ∈ wsX2_isKnowing := by decide +kernel
set_option maxHeartbeats 4000000 in
set_option maxRecDepth 100000 in
/-- isKnowing(k) -/
theorem qX2_isKnowing (l : Launch) (D : va_G) (K : Nat → ClassId) (a0 : Nat) (ab al ao : Nat → Nat) (b : Bk) (d o : Ld) (k : Int32) : zw_I l yX2_isKnowing wsX2_isKnowing rmX2_isKnowing D (zT K) [.ref a0, .int k] (tm_W K a0 ab al ao b d o) (zb (0 ≤ k ∧ k ≤ nI (b.2 1))) (tm_W K a0 ab al ao b d o) := by
  refine zw_ofI (cc := cX2_isKnowing) (nL := 2) (ret := (some .boolean)) (own := RX2) (lv := [(0, .ref a0), (1, .int k)]) (by decide) rfl (Nat.le_of_ble_eq_true rfl) rfl rfl ?_
  intro p e s m below meth c A E hr hlk
  refine zw_iload_n (i := 1) (x := k) E 1 dX2_isKnowing_0 rfl rfl (pc' := 1) rfl ?_
  refine zw_iconst (v := 0) E dX2_isKnowing_1 (by decide) (pc' := 2) rfl ?_
  refine zw_aload_n (i := 0) (x := a0) E 0 dX2_isKnowing_2 rfl rfl (pc' := 3) rfl ?_
  refine zw_get (v := .ref (ab 0)) E 0 0 iX2_isKnowing_X2 fX2_isKnowing_10 rfl rfl (by decide) rfl rfl dX2_isKnowing_3 (pc' := 6) rfl ?_
  refine zw_get (v := .int (nI (b.2 1))) E 1 12 iX2_isKnowing_X0 fX2_isKnowing_139 rfl rfl (by decide) rfl rfl dX2_isKnowing_6 (pc' := 9) rfl ?_
  refine zw_callIs E (r := zb (0 ≤ k ∧ k ≤ nI (b.2 1))) (As := [.int k, .int 0, .int (nI (b.2 1))]) (rest := []) (ws' := (tm_W K a0 ab al ao b d o)) (qX2_isWithin l D K k 0 (nI (b.2 1))) (va_cwS 3 E.2.2.2.2.1 gX2_isKnowing_X2_isWithin rfl rfl rfl (by decide +kernel) ⟨Nat.le_of_ble_eq_true rfl, Nat.le_of_ble_eq_true rfl⟩) [] (by decide) rfl rfl (zw_put_same _ _ _ rfl) rfl rfl (Nat.le_of_ble_eq_true rfl) ⟨Nat.zero_le _, Nat.zero_le _⟩ dX2_isKnowing_9 (pc' := 12) rfl ?_
  exact zw_zret E hr hlk dX2_isKnowing_12 zb_nar rfl rfl

theorem fX2_isActPossible_10 : Cond.fieldLink RX2 10 "TitheMap" "book" "LTitheMap$Book;" ∈ wsX2_isActPossible := by decide +kernel
theorem fX2_isActPossible_143 : Cond.fieldLink RX2 143 "TitheMap$Book" "fields" "I" ∈ wsX2_isActPossible := by decide +kernel
theorem iX2_isActPossible_X0 : ∀ w ∈ wsX00, w ∈ wsX2_isActPossible := by decide +kernel
theorem iX2_isActPossible_X2 : ∀ w ∈ wsX20, w ∈ wsX2_isActPossible := by decide +kernel
set_option maxHeartbeats 4000000 in
set_option maxRecDepth 100000 in
/-- isActPossible(year, newFields) -/
theorem qX2_isActPossible (l : Launch) (D : va_G) (K : Nat → ClassId) (a0 : Nat) (ab al ao : Nat → Nat) (b : Bk) (d o : Ld) (y nf : Int32) : zw_I l yX2_isActPossible wsX2_isActPossible rmX2_isActPossible D (zT K) [.ref a0, .int y, .int nf] (tm_W K a0 ab al ao b d o) (zb (¬ 80 ≤ nI (b.2 1) ∧ (8 ≤ y ∧ y ≤ 200) ∧ ¬ 60 < nI (b.2 2) + nf)) (tm_W K a0 ab al ao b d o) := by
  refine zw_ofI (cc := cX2_isActPossible) (nL := 3) (ret := (some .boolean)) (own := RX2) (lv := [(0, .ref a0), (1, .int y), (2, .int nf)]) (by decide) rfl (Nat.le_of_ble_eq_true rfl) rfl rfl ?_
  intro p e s m below meth c A E hr hlk
  refine zw_aload_n (i := 0) (x := a0) E 0 dX2_isActPossible_0 rfl rfl (pc' := 1) rfl ?_
  refine zw_get (v := .ref (ab 0)) E 0 0 iX2_isActPossible_X2 fX2_isActPossible_10 rfl rfl (by decide) rfl rfl dX2_isActPossible_1 (pc' := 4) rfl ?_
  refine zw_callIv E (r := zb (80 ≤ nI (b.2 1))) (As := []) (rest := []) (ws' := (tm_W K a0 ab al ao b d o)) (qX0_isFull l D K ab b) (cwV 0 E.2.2.2.2.1 gX2_isActPossible_X0_isFull rfl rfl rfl (by decide +kernel) ⟨Nat.le_of_ble_eq_true rfl, Nat.le_of_ble_eq_true rfl⟩) 0 rfl rfl rfl [1, 2, 3, 4, 5, 6, 7, 8, 9, 10, 11, 12] (by decide) emC_tm_b rfl (zw_put_same _ _ _ emC_tm_b) rfl rfl (Nat.le_of_ble_eq_true rfl) ⟨Nat.zero_le _, Nat.zero_le _⟩ dX2_isActPossible_4 (pc' := 7) rfl ?_
  refine zw_ifb_ne (tgt := 40) E dX2_isActPossible_7 (by decide) (pc' := 10) rfl (fun c_1 => ?_) (fun c_1 => ?_)
  · skip
    refine zw_iconst (v := 0) E dX2_isActPossible_40 (by decide) (pc' := 41) rfl ?_
    exact zw_zret E hr hlk dX2_isActPossible_41 rfl (zb_f (fun h => h.1 c_1)).symm rfl
  · skip
    refine zw_iload_n (i := 1) (x := y) E 1 dX2_isActPossible_10 rfl rfl (pc' := 11) rfl ?_
    refine zw_bipush (v := 8) E dX2_isActPossible_11 (by decide) (pc' := 13) rfl ?_
    refine zw_sipush (v := 200) E dX2_isActPossible_13 (by decide) (pc' := 16) rfl ?_
    refine zw_callIs E (r := zb (8 ≤ y ∧ y ≤ 200)) (As := [.int y, .int 8, .int 200]) (rest := []) (ws' := (tm_W K a0 ab al ao b d o)) (qX2_isWithin l D K y 8 200) (va_cwS 3 E.2.2.2.2.1 gX2_isActPossible_X2_isWithin rfl rfl rfl (by decide +kernel) ⟨Nat.le_of_ble_eq_true rfl, Nat.le_of_ble_eq_true rfl⟩) [] (by decide) rfl rfl (zw_put_same _ _ _ rfl) rfl rfl (Nat.le_of_ble_eq_true rfl) ⟨Nat.zero_le _, Nat.zero_le _⟩ dX2_isActPossible_16 (pc' := 19) rfl ?_
    refine zw_ifb_eq (tgt := 40) E dX2_isActPossible_19 (by decide) (pc' := 22) rfl (fun c_2 => ?_) (fun c_2 => ?_)
    · skip
      refine zw_iconst (v := 0) E dX2_isActPossible_40 (by decide) (pc' := 41) rfl ?_
      exact zw_zret E hr hlk dX2_isActPossible_41 rfl (zb_f (fun h => c_2 h.2.1)).symm rfl
    · skip
      refine zw_aload_n (i := 0) (x := a0) E 0 dX2_isActPossible_22 rfl rfl (pc' := 23) rfl ?_
      refine zw_get (v := .ref (ab 0)) E 0 0 iX2_isActPossible_X2 fX2_isActPossible_10 rfl rfl (by decide) rfl rfl dX2_isActPossible_23 (pc' := 26) rfl ?_
      refine zw_get (v := .int (nI (b.2 2))) E 1 13 iX2_isActPossible_X0 fX2_isActPossible_143 rfl rfl (by decide) rfl rfl dX2_isActPossible_26 (pc' := 29) rfl ?_
      refine zw_iload_n (i := 2) (x := nf) E 2 dX2_isActPossible_29 rfl rfl (pc' := 30) rfl ?_
      refine zw_iadd E dX2_isActPossible_30 (pc' := 31) rfl ?_
      refine zw_bipush (v := 60) E dX2_isActPossible_31 (by decide) (pc' := 33) rfl ?_
      refine zw_icmp_gt (tgt := 40) E dX2_isActPossible_33 (by decide) (pc' := 36) rfl (fun c_3 => ?_) (fun c_3 => ?_)
      · skip
        refine zw_iconst (v := 0) E dX2_isActPossible_40 (by decide) (pc' := 41) rfl ?_
        exact zw_zret E hr hlk dX2_isActPossible_41 rfl (zb_f (fun h => h.2.2 c_3)).symm rfl
      · skip
        refine zw_iconst (v := 1) E dX2_isActPossible_36 (by decide) (pc' := 37) rfl ?_
        refine zw_goto (tgt := 41) E dX2_isActPossible_37 (by decide) ?_
        exact zw_zret E hr hlk dX2_isActPossible_41 rfl (zb_t ⟨c_1, c_2, c_3⟩).symm rfl

theorem fX2_firstMadeBy_10 : Cond.fieldLink RX2 10 "TitheMap" "book" "LTitheMap$Book;" ∈ wsX2_firstMadeBy := by decide +kernel
theorem fX2_firstMadeBy_146 : Cond.fieldLink RX2 146 "TitheMap$Book" "made" "[I" ∈ wsX2_firstMadeBy := by decide +kernel
theorem iX2_firstMadeBy_X0 : ∀ w ∈ wsX00, w ∈ wsX2_firstMadeBy := by decide +kernel
theorem iX2_firstMadeBy_X2 : ∀ w ∈ wsX20, w ∈ wsX2_firstMadeBy := by decide +kernel
set_option maxHeartbeats 4000000 in
set_option maxRecDepth 100000 in
/-- firstMadeBy(e) -/
theorem qX2_firstMadeBy (l : Launch) (D : va_G) (K : Nat → ClassId) (a0 : Nat) (ab al ao : Nat → Nat) (b : Bk) (d o : Ld) (x : Int32) : zw_I l yX2_firstMadeBy wsX2_firstMadeBy rmX2_firstMadeBy D (zT K) [.ref a0, .int x] (tm_W K a0 ab al ao b d o) (z_at 80 (b.1 7) x) (tm_W K a0 ab al ao b d o) := by
  refine zw_ofI (cc := cX2_firstMadeBy) (nL := 2) (ret := (some .int)) (own := RX2) (lv := [(0, .ref a0), (1, .int x)]) (by decide) rfl (Nat.le_of_ble_eq_true rfl) rfl rfl ?_
  intro p e s m below meth c A E hr hlk
  refine zw_aload_n (i := 0) (x := a0) E 0 dX2_firstMadeBy_0 rfl rfl (pc' := 1) rfl ?_
  refine zw_get (v := .ref (ab 0)) E 0 0 iX2_firstMadeBy_X2 fX2_firstMadeBy_10 rfl rfl (by decide) rfl rfl dX2_firstMadeBy_1 (pc' := 4) rfl ?_
  refine zw_get (v := .ref (ab 8)) E 1 7 iX2_firstMadeBy_X0 fX2_firstMadeBy_146 rfl rfl (by decide) rfl rfl dX2_firstMadeBy_4 (pc' := 7) rfl ?_
  refine zw_iload_n (i := 1) (x := x) E 1 dX2_firstMadeBy_7 rfl rfl (pc' := 8) rfl ?_
  refine zw_callIs E (r := z_at 80 (b.1 7) x) (As := [.ref (ab 8), .int x]) (rest := []) (ws' := (tm_W K a0 ab al ao b d o)) (qX2_at l D K (ab 8) 80 (b.1 7) x (by decide)) (va_cwS 2 E.2.2.2.2.1 gX2_firstMadeBy_X2_at rfl rfl rfl (by decide +kernel) ⟨Nat.le_of_ble_eq_true rfl, Nat.le_of_ble_eq_true rfl⟩) [9] (by decide) rfl rfl (zw_put_same _ _ _ rfl) rfl rfl (Nat.le_of_ble_eq_true rfl) ⟨Nat.zero_le _, Nat.zero_le _⟩ dX2_firstMadeBy_8 (pc' := 11) rfl ?_
  exact zw_iret E hr hlk dX2_firstMadeBy_11 rfl rfl

def td_b (b : Bk) (n : Nat) : Bk := bk_file (if n = 0 then b else bk_put b 7 (nI (b.2 2)))
def td_show (b : Bk) (d : Ld) (n : Nat) : Int32 × Ld := ld_show d (td_b b n) (b.2 1 + 1) 200 (-1)
def r_take (b : Bk) (d : Ld) (n : Nat) : Int32 := if (td_show b d n).1 = 0 then -1 else nI (b.2 1)
def b_take (b : Bk) (d : Ld) (n : Nat) : Bk := if (td_show b d n).1 = 0 then bk_wdraw (td_b b n) else bk_keep (td_b b n) n
theorem fX2_takeDraft_10 : Cond.fieldLink RX2 10 "TitheMap" "book" "LTitheMap$Book;" ∈ wsX2_takeDraft := by decide +kernel
theorem fX2_takeDraft_139 : Cond.fieldLink RX2 139 "TitheMap$Book" "size" "I" ∈ wsX2_takeDraft := by decide +kernel
theorem fX2_takeDraft_143 : Cond.fieldLink RX2 143 "TitheMap$Book" "fields" "I" ∈ wsX2_takeDraft := by decide +kernel
theorem fX2_takeDraft_146 : Cond.fieldLink RX2 146 "TitheMap$Book" "made" "[I" ∈ wsX2_takeDraft := by decide +kernel
theorem fX2_takeDraft_21 : Cond.fieldLink RX2 21 "TitheMap" "land" "LTitheMap$Land;" ∈ wsX2_takeDraft := by decide +kernel
theorem iX2_takeDraft_X0 : ∀ w ∈ wsX00, w ∈ wsX2_takeDraft := by decide +kernel
theorem iX2_takeDraft_X2 : ∀ w ∈ wsX20, w ∈ wsX2_takeDraft := by decide +kernel
set_option maxHeartbeats 4000000 in
set_option maxRecDepth 100000 in
/-- takeDraft(newFields) -/
theorem qX2_takeDraft (l : Launch) (D : va_G) (K : Nat → ClassId) (a0 : Nat) (ab al ao : Nat → Nat) (b : Bk) (d o : Ld) (n : Nat) (hn : n ≤ 2) (hs : b.2 1 < 80) (ha : b.2 0 < 80) (h60 : b.2 2 + n ≤ 60) (hok : ∀ i, i < (td_b b n).2 0 → en_ok (td_b b n) (z_at 80 ((td_b b n).1 8) (nI i))) : zw_I l yX2_takeDraft wsX2_takeDraft rmX2_takeDraft D (zT K) [.ref a0, .int (nI n)] (tm_W K a0 ab al ao b d o) (r_take b d n) (tm_W K a0 ab al ao (b_take b d n) (td_show b d n).2 o) := by
  refine zw_ofI (cc := cX2_takeDraft) (nL := 2) (ret := (some .int)) (own := RX2) (lv := [(0, .ref a0), (1, .int (nI n))]) (by decide) rfl (Nat.le_of_ble_eq_true rfl) rfl rfl ?_
  intro p e s m below meth c A E hr hlk
  refine zw_iload_n (i := 1) (x := nI n) E 1 dX2_takeDraft_0 rfl rfl (pc' := 1) rfl ?_
  refine zw_if_le (tgt := 25) E dX2_takeDraft_1 (by decide) (pc' := 4) rfl (fun c_1 => ?_) (fun c_1 => ?_)
  · skip
    have hn0 : n = 0 := zw_le0 (by omega) c_1
    refine zw_aload_n (i := 0) (x := a0) E 0 dX2_takeDraft_25 rfl rfl (pc' := 26) rfl ?_
    refine zw_get (v := .ref (ab 0)) E 0 0 iX2_takeDraft_X2 fX2_takeDraft_10 rfl rfl (by decide) rfl rfl dX2_takeDraft_26 (pc' := 29) rfl ?_
    refine zw_callVv E (As := []) (rest := []) (ws' := (tm_W K a0 ab al ao (bk_file b) d o)) (qX0_fileDraft l D K ab b ha) (cwV 0 E.2.2.2.2.1 gX2_takeDraft_X0_fileDraft rfl rfl rfl (by decide +kernel) ⟨Nat.le_of_ble_eq_true rfl, Nat.le_of_ble_eq_true rfl⟩) 0 rfl rfl rfl [1, 2, 3, 4, 5, 6, 7, 8, 9, 10, 11, 12] (by decide) emC_tm_b (bk_ad _ _ _ _) emP_tm_b rfl rfl (Nat.le_of_ble_eq_true rfl) ⟨Nat.zero_le _, Nat.zero_le _⟩ dX2_takeDraft_29 (pc' := 32) rfl ?_
    refine zw_gen_tm_b (bk_file b) (fun b_1 hg_1 => ?_)
    have f1_b_1 : b_1.2 1 = b.2 1 := by rw [← hg_1]; rfl
    have f2_b_1 : b_1.2 2 = b.2 2 := by rw [← hg_1]; rfl
    have f0_b_1 : b_1.2 0 = b.2 0 + 1 := by rw [← hg_1]; rfl
    have ex : td_b b n = b_1 := by unfold td_b; rw [if_pos hn0, hg_1]
    have e1 : b_1.2 1 = b.2 1 := f1_b_1
    have e2 : b_1.2 2 = b.2 2 := f2_b_1
    have e0 : b_1.2 0 = b.2 0 + 1 := f0_b_1
    have hok2 : ∀ i, i < b_1.2 0 → en_ok b_1 (z_at 80 (b_1.1 8) (nI i)) := by rw [← ex]; exact hok
    have hb80 : b_1.2 0 ≤ 80 := by omega
    refine zw_aload_n (i := 0) (x := a0) E 0 dX2_takeDraft_32 rfl rfl (pc' := 33) rfl ?_
    refine zw_get (v := .ref (al 0)) E 0 1 iX2_takeDraft_X2 fX2_takeDraft_21 rfl rfl (by decide) rfl rfl dX2_takeDraft_33 (pc' := 36) rfl ?_
    refine zw_aload_n (i := 0) (x := a0) E 0 dX2_takeDraft_36 rfl rfl (pc' := 37) rfl ?_
    refine zw_get (v := .ref (ab 0)) E 0 0 iX2_takeDraft_X2 fX2_takeDraft_10 rfl rfl (by decide) rfl rfl dX2_takeDraft_37 (pc' := 40) rfl ?_
    refine zw_get (v := .int (nI (b_1.2 1))) E 1 12 iX2_takeDraft_X0 fX2_takeDraft_139 rfl rfl (by decide) rfl rfl dX2_takeDraft_40 (pc' := 43) rfl ?_
    refine zw_iconst (v := 1) E dX2_takeDraft_43 (by decide) (pc' := 44) rfl ?_
    refine zw_iadd E dX2_takeDraft_44 (pc' := 45) rfl ?_
    refine zw_topi (x' := nI (b.2 1 + 1)) (by rw [e1]; exact nI_1 (b.2 1)) ?_
    refine zw_sipush (v := 200) E dX2_takeDraft_45 (by decide) (pc' := 48) rfl ?_
    refine zw_iconst (v := (-1)) E dX2_takeDraft_48 (by decide) (pc' := 49) rfl ?_
    refine zw_callIv E (r := (ld_show d b_1 (b.2 1 + 1) 200 (-1)).1) (As := [.int (nI (b.2 1 + 1)), .int 200, .int (-1)]) (rest := []) (ws' := (tm_W K a0 ab al ao b_1 ((ld_show d b_1 (b.2 1 + 1) 200 (-1)).2) o)) (qX1_show l D K al ab d b_1 (b.2 1 + 1) (by omega) 200 (-1) hb80 hok2) (cwV 3 E.2.2.2.2.1 gX2_takeDraft_X1_show rfl rfl rfl (by decide +kernel) ⟨Nat.le_of_ble_eq_true rfl, Nat.le_of_ble_eq_true rfl⟩) 0 rfl rfl rfl [13, 14, 15, 16, 17, 18, 19, 20, 21, 22, 23, 24, 25, 26, 1, 2, 3, 4, 5, 6, 7, 8, 9, 10, 11, 12] (by decide) emC_tm_lbd (lb_ad _ _ _ _ _ _ _) emP_tm_lbd rfl rfl (Nat.le_of_ble_eq_true rfl) ⟨Nat.zero_le _, Nat.zero_le _⟩ dX2_takeDraft_49 (pc' := 52) rfl ?_
    refine zw_if_ne (tgt := 64) E dX2_takeDraft_52 (by decide) (pc' := 55) rfl (fun c_2 => ?_) (fun c_2 => ?_)
    · skip
      refine zw_aload_n (i := 0) (x := a0) E 0 dX2_takeDraft_64 rfl rfl (pc' := 65) rfl ?_
      refine zw_get (v := .ref (ab 0)) E 0 0 iX2_takeDraft_X2 fX2_takeDraft_10 rfl rfl (by decide) rfl rfl dX2_takeDraft_65 (pc' := 68) rfl ?_
      refine zw_iload_n (i := 1) (x := nI n) E 1 dX2_takeDraft_68 rfl rfl (pc' := 69) rfl ?_
      refine zw_callIv E (r := nI (b_1.2 1)) (As := [.int (nI n)]) (rest := []) (ws' := (tm_W K a0 ab al ao (bk_keep b_1 n) ((ld_show d b_1 (b.2 1 + 1) 200 (-1)).2) o)) (qX0_keep l D K ab b_1 n (by omega) (by omega)) (cwV 1 E.2.2.2.2.1 gX2_takeDraft_X0_keep rfl rfl rfl (by decide +kernel) ⟨Nat.le_of_ble_eq_true rfl, Nat.le_of_ble_eq_true rfl⟩) 0 rfl rfl rfl [1, 2, 3, 4, 5, 6, 7, 8, 9, 10, 11, 12] (by decide) emC_tm_b (bk_ad _ _ _ _) emP_tm_b rfl rfl (Nat.le_of_ble_eq_true rfl) ⟨Nat.zero_le _, Nat.zero_le _⟩ dX2_takeDraft_69 (pc' := 72) rfl ?_
      refine zw_gen_tm_b (bk_keep b_1 n) (fun b_2 hg_2 => ?_)
      exact zw_iret E hr hlk dX2_takeDraft_72 (by unfold r_take td_show; rw [ex, if_neg c_2, e1]) (by rw [← hg_2]; unfold b_take td_show; rw [ex, if_neg c_2])
    · skip
      refine zw_aload_n (i := 0) (x := a0) E 0 dX2_takeDraft_55 rfl rfl (pc' := 56) rfl ?_
      refine zw_get (v := .ref (ab 0)) E 0 0 iX2_takeDraft_X2 fX2_takeDraft_10 rfl rfl (by decide) rfl rfl dX2_takeDraft_56 (pc' := 59) rfl ?_
      refine zw_callVv E (As := []) (rest := []) (ws' := (tm_W K a0 ab al ao (bk_wdraw b_1) ((ld_show d b_1 (b.2 1 + 1) 200 (-1)).2) o)) (qX0_withdrawDraft l D K ab b_1 hb80) (cwV 0 E.2.2.2.2.1 gX2_takeDraft_X0_withdrawDraft rfl rfl rfl (by decide +kernel) ⟨Nat.le_of_ble_eq_true rfl, Nat.le_of_ble_eq_true rfl⟩) 0 rfl rfl rfl [1, 2, 3, 4, 5, 6, 7, 8, 9, 10, 11, 12] (by decide) emC_tm_b (bk_ad _ _ _ _) emP_tm_b rfl rfl (Nat.le_of_ble_eq_true rfl) ⟨Nat.zero_le _, Nat.zero_le _⟩ dX2_takeDraft_59 (pc' := 62) rfl ?_
      refine zw_gen_tm_b (bk_wdraw b_1) (fun b_3 hg_3 => ?_)
      refine zw_iconst (v := (-1)) E dX2_takeDraft_62 (by decide) (pc' := 63) rfl ?_
      exact zw_iret E hr hlk dX2_takeDraft_63 (by unfold r_take td_show; rw [ex, if_pos c_2]) (by rw [← hg_3]; unfold b_take td_show; rw [ex, if_pos c_2])
  · skip
    have hn0 : ¬ n = 0 := fun q => c_1 (by rw [q]; exact Int32.le_refl 0)
    refine zw_aload_n (i := 0) (x := a0) E 0 dX2_takeDraft_4 rfl rfl (pc' := 5) rfl ?_
    refine zw_get (v := .ref (ab 0)) E 0 0 iX2_takeDraft_X2 fX2_takeDraft_10 rfl rfl (by decide) rfl rfl dX2_takeDraft_5 (pc' := 8) rfl ?_
    refine zw_aload_n (i := 0) (x := a0) E 0 dX2_takeDraft_8 rfl rfl (pc' := 9) rfl ?_
    refine zw_get (v := .ref (ab 0)) E 0 0 iX2_takeDraft_X2 fX2_takeDraft_10 rfl rfl (by decide) rfl rfl dX2_takeDraft_9 (pc' := 12) rfl ?_
    refine zw_get (v := .ref (ab 8)) E 1 7 iX2_takeDraft_X0 fX2_takeDraft_146 rfl rfl (by decide) rfl rfl dX2_takeDraft_12 (pc' := 15) rfl ?_
    refine zw_aload_n (i := 0) (x := a0) E 0 dX2_takeDraft_15 rfl rfl (pc' := 16) rfl ?_
    refine zw_get (v := .ref (ab 0)) E 0 0 iX2_takeDraft_X2 fX2_takeDraft_10 rfl rfl (by decide) rfl rfl dX2_takeDraft_16 (pc' := 19) rfl ?_
    refine zw_get (v := .int (nI (b.2 2))) E 1 13 iX2_takeDraft_X0 fX2_takeDraft_143 rfl rfl (by decide) rfl rfl dX2_takeDraft_19 (pc' := 22) rfl ?_
    refine zw_callVv E (As := [.ref (ab 8), .int (nI (b.2 2))]) (rest := []) (ws' := (tm_W K a0 ab al ao (bk_put b 7 (nI (b.2 2))) d o)) (qX0_put_7 l D K ab b (nI (b.2 2)) hs) (cwV 2 E.2.2.2.2.1 gX2_takeDraft_X0_put rfl rfl rfl (by decide +kernel) ⟨Nat.le_of_ble_eq_true rfl, Nat.le_of_ble_eq_true rfl⟩) 0 rfl rfl rfl [1, 2, 3, 4, 5, 6, 7, 8, 9, 10, 11, 12] (by decide) emC_tm_b (bk_ad _ _ _ _) emP_tm_b rfl rfl (Nat.le_of_ble_eq_true rfl) ⟨Nat.zero_le _, Nat.zero_le _⟩ dX2_takeDraft_22 (pc' := 25) rfl ?_
    refine zw_gen_tm_b (bk_put b 7 (nI (b.2 2))) (fun b_4 hg_4 => ?_)
    have h2_b_4 : b_4.2 = b.2 := by rw [← hg_4]; rfl
    refine zw_aload_n (i := 0) (x := a0) E 0 dX2_takeDraft_25 rfl rfl (pc' := 26) rfl ?_
    refine zw_get (v := .ref (ab 0)) E 0 0 iX2_takeDraft_X2 fX2_takeDraft_10 rfl rfl (by decide) rfl rfl dX2_takeDraft_26 (pc' := 29) rfl ?_
    refine zw_callVv E (As := []) (rest := []) (ws' := (tm_W K a0 ab al ao (bk_file b_4) d o)) (qX0_fileDraft l D K ab b_4 (by rw [h2_b_4]; exact ha)) (cwV 0 E.2.2.2.2.1 gX2_takeDraft_X0_fileDraft rfl rfl rfl (by decide +kernel) ⟨Nat.le_of_ble_eq_true rfl, Nat.le_of_ble_eq_true rfl⟩) 0 rfl rfl rfl [1, 2, 3, 4, 5, 6, 7, 8, 9, 10, 11, 12] (by decide) emC_tm_b (bk_ad _ _ _ _) emP_tm_b rfl rfl (Nat.le_of_ble_eq_true rfl) ⟨Nat.zero_le _, Nat.zero_le _⟩ dX2_takeDraft_29 (pc' := 32) rfl ?_
    refine zw_gen_tm_b (bk_file b_4) (fun b_5 hg_5 => ?_)
    have f1_b_5 : b_5.2 1 = b_4.2 1 := by rw [← hg_5]; rfl
    have f2_b_5 : b_5.2 2 = b_4.2 2 := by rw [← hg_5]; rfl
    have f0_b_5 : b_5.2 0 = b_4.2 0 + 1 := by rw [← hg_5]; rfl
    have ex : td_b b n = b_5 := by unfold td_b; rw [if_neg hn0, hg_4, hg_5]
    have e1 : b_5.2 1 = b.2 1 := f1_b_5.trans (congrFun h2_b_4 1)
    have e2 : b_5.2 2 = b.2 2 := f2_b_5.trans (congrFun h2_b_4 2)
    have e0 : b_5.2 0 = b.2 0 + 1 := by rw [f0_b_5, h2_b_4]
    have hok2 : ∀ i, i < b_5.2 0 → en_ok b_5 (z_at 80 (b_5.1 8) (nI i)) := by rw [← ex]; exact hok
    have hb80 : b_5.2 0 ≤ 80 := by omega
    refine zw_aload_n (i := 0) (x := a0) E 0 dX2_takeDraft_32 rfl rfl (pc' := 33) rfl ?_
    refine zw_get (v := .ref (al 0)) E 0 1 iX2_takeDraft_X2 fX2_takeDraft_21 rfl rfl (by decide) rfl rfl dX2_takeDraft_33 (pc' := 36) rfl ?_
    refine zw_aload_n (i := 0) (x := a0) E 0 dX2_takeDraft_36 rfl rfl (pc' := 37) rfl ?_
    refine zw_get (v := .ref (ab 0)) E 0 0 iX2_takeDraft_X2 fX2_takeDraft_10 rfl rfl (by decide) rfl rfl dX2_takeDraft_37 (pc' := 40) rfl ?_
    refine zw_get (v := .int (nI (b_5.2 1))) E 1 12 iX2_takeDraft_X0 fX2_takeDraft_139 rfl rfl (by decide) rfl rfl dX2_takeDraft_40 (pc' := 43) rfl ?_
    refine zw_iconst (v := 1) E dX2_takeDraft_43 (by decide) (pc' := 44) rfl ?_
    refine zw_iadd E dX2_takeDraft_44 (pc' := 45) rfl ?_
    refine zw_topi (x' := nI (b.2 1 + 1)) (by rw [e1]; exact nI_1 (b.2 1)) ?_
    refine zw_sipush (v := 200) E dX2_takeDraft_45 (by decide) (pc' := 48) rfl ?_
    refine zw_iconst (v := (-1)) E dX2_takeDraft_48 (by decide) (pc' := 49) rfl ?_
    refine zw_callIv E (r := (ld_show d b_5 (b.2 1 + 1) 200 (-1)).1) (As := [.int (nI (b.2 1 + 1)), .int 200, .int (-1)]) (rest := []) (ws' := (tm_W K a0 ab al ao b_5 ((ld_show d b_5 (b.2 1 + 1) 200 (-1)).2) o)) (qX1_show l D K al ab d b_5 (b.2 1 + 1) (by omega) 200 (-1) hb80 hok2) (cwV 3 E.2.2.2.2.1 gX2_takeDraft_X1_show rfl rfl rfl (by decide +kernel) ⟨Nat.le_of_ble_eq_true rfl, Nat.le_of_ble_eq_true rfl⟩) 0 rfl rfl rfl [13, 14, 15, 16, 17, 18, 19, 20, 21, 22, 23, 24, 25, 26, 1, 2, 3, 4, 5, 6, 7, 8, 9, 10, 11, 12] (by decide) emC_tm_lbd (lb_ad _ _ _ _ _ _ _) emP_tm_lbd rfl rfl (Nat.le_of_ble_eq_true rfl) ⟨Nat.zero_le _, Nat.zero_le _⟩ dX2_takeDraft_49 (pc' := 52) rfl ?_
    refine zw_if_ne (tgt := 64) E dX2_takeDraft_52 (by decide) (pc' := 55) rfl (fun c_3 => ?_) (fun c_3 => ?_)
    · skip
      refine zw_aload_n (i := 0) (x := a0) E 0 dX2_takeDraft_64 rfl rfl (pc' := 65) rfl ?_
      refine zw_get (v := .ref (ab 0)) E 0 0 iX2_takeDraft_X2 fX2_takeDraft_10 rfl rfl (by decide) rfl rfl dX2_takeDraft_65 (pc' := 68) rfl ?_
      refine zw_iload_n (i := 1) (x := nI n) E 1 dX2_takeDraft_68 rfl rfl (pc' := 69) rfl ?_
      refine zw_callIv E (r := nI (b_5.2 1)) (As := [.int (nI n)]) (rest := []) (ws' := (tm_W K a0 ab al ao (bk_keep b_5 n) ((ld_show d b_5 (b.2 1 + 1) 200 (-1)).2) o)) (qX0_keep l D K ab b_5 n (by omega) (by omega)) (cwV 1 E.2.2.2.2.1 gX2_takeDraft_X0_keep rfl rfl rfl (by decide +kernel) ⟨Nat.le_of_ble_eq_true rfl, Nat.le_of_ble_eq_true rfl⟩) 0 rfl rfl rfl [1, 2, 3, 4, 5, 6, 7, 8, 9, 10, 11, 12] (by decide) emC_tm_b (bk_ad _ _ _ _) emP_tm_b rfl rfl (Nat.le_of_ble_eq_true rfl) ⟨Nat.zero_le _, Nat.zero_le _⟩ dX2_takeDraft_69 (pc' := 72) rfl ?_
      refine zw_gen_tm_b (bk_keep b_5 n) (fun b_6 hg_6 => ?_)
      exact zw_iret E hr hlk dX2_takeDraft_72 (by unfold r_take td_show; rw [ex, if_neg c_3, e1]) (by rw [← hg_6]; unfold b_take td_show; rw [ex, if_neg c_3])
    · skip
      refine zw_aload_n (i := 0) (x := a0) E 0 dX2_takeDraft_55 rfl rfl (pc' := 56) rfl ?_
      refine zw_get (v := .ref (ab 0)) E 0 0 iX2_takeDraft_X2 fX2_takeDraft_10 rfl rfl (by decide) rfl rfl dX2_takeDraft_56 (pc' := 59) rfl ?_
      refine zw_callVv E (As := []) (rest := []) (ws' := (tm_W K a0 ab al ao (bk_wdraw b_5) ((ld_show d b_5 (b.2 1 + 1) 200 (-1)).2) o)) (qX0_withdrawDraft l D K ab b_5 hb80) (cwV 0 E.2.2.2.2.1 gX2_takeDraft_X0_withdrawDraft rfl rfl rfl (by decide +kernel) ⟨Nat.le_of_ble_eq_true rfl, Nat.le_of_ble_eq_true rfl⟩) 0 rfl rfl rfl [1, 2, 3, 4, 5, 6, 7, 8, 9, 10, 11, 12] (by decide) emC_tm_b (bk_ad _ _ _ _) emP_tm_b rfl rfl (Nat.le_of_ble_eq_true rfl) ⟨Nat.zero_le _, Nat.zero_le _⟩ dX2_takeDraft_59 (pc' := 62) rfl ?_
      refine zw_gen_tm_b (bk_wdraw b_5) (fun b_7 hg_7 => ?_)
      refine zw_iconst (v := (-1)) E dX2_takeDraft_62 (by decide) (pc' := 63) rfl ?_
      exact zw_iret E hr hlk dX2_takeDraft_63 (by unfold r_take td_show; rw [ex, if_pos c_3]) (by rw [← hg_7]; unfold b_take td_show; rw [ex, if_pos c_3])
