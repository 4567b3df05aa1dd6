/-! the map: price and the six acts -/
theorem zw_lt80 {n : Nat} (h : ¬ (80 : Int32) ≤ nI n) (hn : n ≤ 80) : n < 80 := Nat.lt_of_not_le (fun q => h (nI_le (a := 80) q (by omega)))
theorem zw_f60 {f n : Nat} (hf : f ≤ 60) (hn : n ≤ 2) (h : ¬ (60 : Int32) < nI f + nI n) : f + n ≤ 60 := by
  rw [nI_add] at h
  exact Nat.le_of_not_lt (fun q => h (nI_lt (a := 60) q (by omega)))
theorem zw_tm2 {K : Nat → ClassId} {a0 : Nat} {ab al ao : Nat → Nat} {b1 b2 : Bk} {d1 d2 o1 o2 : Ld} (hb : b1 = b2) (hd : d1 = d2) (ho : o1 = o2) : tm_W K a0 ab al ao b1 d1 o1 = tm_W K a0 ab al ao b2 d2 o2 := by rw [hb, hd, ho]
def td_ok (b : Bk) (n : Nat) : Prop := ∀ i, i < (td_b b n).2 0 → en_ok (td_b b n) (z_at 80 ((td_b b n).1 8) (nI i))
def bk_price (b : Bk) (y cn q : Int32) : Bk := bk_put (bk_put (bk_draft b 0 y) 2 cn) 4 q
def r_price (b : Bk) (y cn q : Int32) : Int32 := if 80 ≤ nI (b.2 1) then -1 else if (1 ≤ y ∧ y ≤ 200) then if (0 ≤ cn ∧ cn ≤ 2) then if (1 ≤ q ∧ q ≤ 1000) then nI (b.2 1) else -1 else -1 else -1
def b_price (b : Bk) (y cn q : Int32) : Bk := if 80 ≤ nI (b.2 1) then b else if (1 ≤ y ∧ y ≤ 200) then if (0 ≤ cn ∧ cn ≤ 2) then if (1 ≤ q ∧ q ≤ 1000) then bk_keep (bk_price b y cn q) 0 else b else b else b
theorem fX2_price_10 : Cond.fieldLink RX2 10 "TitheMap" "book" "LTitheMap$Book;" ∈ wsX2_price := by decide +kernel
theorem fX2_price_40 : Cond.fieldLink RX2 40 "TitheMap$Book" "first" "[I" ∈ wsX2_price := by decide +kernel
theorem fX2_price_48 : Cond.fieldLink RX2 48 "TitheMap$Book" "amount" "[I" ∈ wsX2_price := by decide +kernel
theorem iX2_price_X0 : ∀ w ∈ wsX00, w ∈ wsX2_price := by decide +kernel
theorem iX2_price_X2 : ∀ w ∈ wsX20, w ∈ wsX2_price := by decide +kernel
set_option maxHeartbeats 4000000 in
set_option maxRecDepth 100000 in
/-- price(year, corn, pence) -/
theorem qX2_price (l : Launch) (D : va_G) (K : Nat → ClassId) (a0 : Nat) (ab al ao : Nat → Nat) (b : Bk) (d o : Ld) (y cn q : Int32) (hs80 : b.2 1 ≤ 80) (ha80 : b.2 0 ≤ b.2 1) (hf60 : b.2 2 ≤ 60) : zw_I l yX2_price wsX2_price rmX2_price D (zT K) [.ref a0, .int y, .int cn, .int q] (tm_W K a0 ab al ao b d o) (r_price b y cn q) (tm_W K a0 ab al ao (b_price b y cn q) d o) := by
  refine zw_ofI (cc := cX2_price) (nL := 4) (ret := (some .int)) (own := RX2) (lv := [(0, .ref a0), (1, .int y), (2, .int cn), (3, .int q)]) (by decide) rfl (Nat.le_of_ble_eq_true rfl) rfl rfl ?_
  intro p e s m below meth c A E hr hlk
  refine zw_aload_n (i := 0) (x := a0) E 0 dX2_price_0 rfl rfl (pc' := 1) rfl ?_
  refine zw_get (v := .ref (ab 0)) E 0 0 iX2_price_X2 fX2_price_10 rfl rfl (by decide) rfl rfl dX2_price_1 (pc' := 4) rfl ?_
  refine zw_callIv E (r := zb (80 ≤ nI (b.2 1))) (As := []) (rest := []) (ws' := (tm_W K a0 ab al ao b d o)) (qX0_isFull l D K ab b) (cwV 0 E.2.2.2.2.1 gX2_price_X0_isFull rfl rfl rfl (by decide +kernel) ⟨Nat.le_of_ble_eq_true rfl, Nat.le_of_ble_eq_true rfl⟩) 0 rfl rfl rfl [1, 2, 3, 4, 5, 6, 7, 8, 9, 10, 11, 12] (by decide) emC_tm_b rfl (zw_put_same _ _ _ emC_tm_b) rfl rfl (Nat.le_of_ble_eq_true rfl) ⟨Nat.zero_le _, Nat.zero_le _⟩ dX2_price_4 (pc' := 7) rfl ?_
  refine zw_ifb_ne (tgt := 41) E dX2_price_7 (by decide) (pc' := 10) rfl (fun c_1 => ?_) (fun c_1 => ?_)
  · skip
    refine zw_iconst (v := (-1)) E dX2_price_41 (by decide) (pc' := 42) rfl ?_
    exact zw_iret E hr hlk dX2_price_42 (by unfold r_price; rw [if_pos c_1]) (zw_tm2 (by unfold b_price; rw [if_pos c_1]) rfl rfl)
  · skip
    have hs : b.2 1 < 80 := zw_lt80 c_1 hs80
    refine zw_iload_n (i := 1) (x := y) E 1 dX2_price_10 rfl rfl (pc' := 11) rfl ?_
    refine zw_iconst (v := 1) E dX2_price_11 (by decide) (pc' := 12) rfl ?_
    refine zw_sipush (v := 200) E dX2_price_12 (by decide) (pc' := 15) rfl ?_
    refine zw_callIs E (r := zb (1 ≤ y ∧ y ≤ 200)) (As := [.int y, .int 1, .int 200]) (rest := []) (ws' := (tm_W K a0 ab al ao b d o)) (qX2_isWithin l D K y 1 200) (va_cwS 3 E.2.2.2.2.1 gX2_price_X2_isWithin rfl rfl rfl (by decide +kernel) ⟨Nat.le_of_ble_eq_true rfl, Nat.le_of_ble_eq_true rfl⟩) [] (by decide) rfl rfl (zw_put_same _ _ _ rfl) rfl rfl (Nat.le_of_ble_eq_true rfl) ⟨Nat.zero_le _, Nat.zero_le _⟩ dX2_price_15 (pc' := 18) rfl ?_
    refine zw_ifb_eq (tgt := 41) E dX2_price_18 (by decide) (pc' := 21) rfl (fun c_2 => ?_) (fun c_2 => ?_)
    · skip
      refine zw_iconst (v := (-1)) E dX2_price_41 (by decide) (pc' := 42) rfl ?_
      exact zw_iret E hr hlk dX2_price_42 (by unfold r_price; rw [if_neg c_1, if_neg c_2]) (zw_tm2 (by unfold b_price; rw [if_neg c_1, if_neg c_2]) rfl rfl)
    · skip
      refine zw_iload_n (i := 2) (x := cn) E 2 dX2_price_21 rfl rfl (pc' := 22) rfl ?_
      refine zw_iconst (v := 0) E dX2_price_22 (by decide) (pc' := 23) rfl ?_
      refine zw_iconst (v := 2) E dX2_price_23 (by decide) (pc' := 24) rfl ?_
      refine zw_callIs E (r := zb (0 ≤ cn ∧ cn ≤ 2)) (As := [.int cn, .int 0, .int 2]) (rest := []) (ws' := (tm_W K a0 ab al ao b d o)) (qX2_isWithin l D K cn 0 2) (va_cwS 3 E.2.2.2.2.1 gX2_price_X2_isWithin rfl rfl rfl (by decide +kernel) ⟨Nat.le_of_ble_eq_true rfl, Nat.le_of_ble_eq_true rfl⟩) [] (by decide) rfl rfl (zw_put_same _ _ _ rfl) rfl rfl (Nat.le_of_ble_eq_true rfl) ⟨Nat.zero_le _, Nat.zero_le _⟩ dX2_price_24 (pc' := 27) rfl ?_
      refine zw_ifb_eq (tgt := 41) E dX2_price_27 (by decide) (pc' := 30) rfl (fun c_3 => ?_) (fun c_3 => ?_)
      · skip
        refine zw_iconst (v := (-1)) E dX2_price_41 (by decide) (pc' := 42) rfl ?_
        exact zw_iret E hr hlk dX2_price_42 (by unfold r_price; rw [if_neg c_1, if_pos c_2, if_neg c_3]) (zw_tm2 (by unfold b_price; rw [if_neg c_1, if_pos c_2, if_neg c_3]) rfl rfl)
      · skip
        refine zw_iload_n (i := 3) (x := q) E 3 dX2_price_30 rfl rfl (pc' := 31) rfl ?_
        refine zw_iconst (v := 1) E dX2_price_31 (by decide) (pc' := 32) rfl ?_
        refine zw_sipush (v := 1000) E dX2_price_32 (by decide) (pc' := 35) rfl ?_
        refine zw_callIs E (r := zb (1 ≤ q ∧ q ≤ 1000)) (As := [.int q, .int 1, .int 1000]) (rest := []) (ws' := (tm_W K a0 ab al ao b d o)) (qX2_isWithin l D K q 1 1000) (va_cwS 3 E.2.2.2.2.1 gX2_price_X2_isWithin rfl rfl rfl (by decide +kernel) ⟨Nat.le_of_ble_eq_true rfl, Nat.le_of_ble_eq_true rfl⟩) [] (by decide) rfl rfl (zw_put_same _ _ _ rfl) rfl rfl (Nat.le_of_ble_eq_true rfl) ⟨Nat.zero_le _, Nat.zero_le _⟩ dX2_price_35 (pc' := 38) rfl ?_
        refine zw_ifb_ne (tgt := 43) E dX2_price_38 (by decide) (pc' := 41) rfl (fun c_4 => ?_) (fun c_4 => ?_)
        · skip
          refine zw_aload_n (i := 0) (x := a0) E 0 dX2_price_43 rfl rfl (pc' := 44) rfl ?_
          refine zw_get (v := .ref (ab 0)) E 0 0 iX2_price_X2 fX2_price_10 rfl rfl (by decide) rfl rfl dX2_price_44 (pc' := 47) rfl ?_
          refine zw_iconst (v := 0) E dX2_price_47 (by decide) (pc' := 48) rfl ?_
          refine zw_iload_n (i := 1) (x := y) E 1 dX2_price_48 rfl rfl (pc' := 49) rfl ?_
          refine zw_callVv E (As := [.int 0, .int y]) (rest := []) (ws' := (tm_W K a0 ab al ao (bk_draft b 0 y) d o)) (qX0_draft l D K ab b 0 y hs) (cwV 2 E.2.2.2.2.1 gX2_price_X0_draft rfl rfl rfl (by decide +kernel) ⟨Nat.le_of_ble_eq_true rfl, Nat.le_of_ble_eq_true rfl⟩) 0 rfl rfl rfl [1, 2, 3, 4, 5, 6, 7, 8, 9, 10, 11, 12] (by decide) emC_tm_b (bk_ad _ _ _ _) emP_tm_b rfl rfl (Nat.le_of_ble_eq_true rfl) ⟨Nat.zero_le _, Nat.zero_le _⟩ dX2_price_49 (pc' := 52) rfl ?_
          refine zw_gen_tm_b (bk_draft b 0 y) (fun b_1 hg_1 => ?_)
          have h2_b_1 : b_1.2 = b.2 := by rw [← hg_1]; exact rfl
          refine zw_aload_n (i := 0) (x := a0) E 0 dX2_price_52 rfl rfl (pc' := 53) rfl ?_
          refine zw_get (v := .ref (ab 0)) E 0 0 iX2_price_X2 fX2_price_10 rfl rfl (by decide) rfl rfl dX2_price_53 (pc' := 56) rfl ?_
          refine zw_aload_n (i := 0) (x := a0) E 0 dX2_price_56 rfl rfl (pc' := 57) rfl ?_
          refine zw_get (v := .ref (ab 0)) E 0 0 iX2_price_X2 fX2_price_10 rfl rfl (by decide) rfl rfl dX2_price_57 (pc' := 60) rfl ?_
          refine zw_get (v := .ref (ab 3)) E 1 2 iX2_price_X0 fX2_price_40 rfl rfl (by decide) rfl rfl dX2_price_60 (pc' := 63) rfl ?_
          refine zw_iload_n (i := 2) (x := cn) E 2 dX2_price_63 rfl rfl (pc' := 64) rfl ?_
          refine zw_callVv E (As := [.ref (ab 3), .int cn]) (rest := []) (ws' := (tm_W K a0 ab al ao (bk_put b_1 2 cn) d o)) (qX0_put_2 l D K ab b_1 cn (by rw [h2_b_1]; exact hs)) (cwV 2 E.2.2.2.2.1 gX2_price_X0_put rfl rfl rfl (by decide +kernel) ⟨Nat.le_of_ble_eq_true rfl, Nat.le_of_ble_eq_true rfl⟩) 0 rfl rfl rfl [1, 2, 3, 4, 5, 6, 7, 8, 9, 10, 11, 12] (by decide) emC_tm_b (bk_ad _ _ _ _) emP_tm_b rfl rfl (Nat.le_of_ble_eq_true rfl) ⟨Nat.zero_le _, Nat.zero_le _⟩ dX2_price_64 (pc' := 67) rfl ?_
          refine zw_gen_tm_b (bk_put b_1 2 cn) (fun b_2 hg_2 => ?_)
          have h2_b_2 : b_2.2 = b.2 := by rw [← hg_2]; exact h2_b_1
          refine zw_aload_n (i := 0) (x := a0) E 0 dX2_price_67 rfl rfl (pc' := 68) rfl ?_
          refine zw_get (v := .ref (ab 0)) E 0 0 iX2_price_X2 fX2_price_10 rfl rfl (by decide) rfl rfl dX2_price_68 (pc' := 71) rfl ?_
          refine zw_aload_n (i := 0) (x := a0) E 0 dX2_price_71 rfl rfl (pc' := 72) rfl ?_
          refine zw_get (v := .ref (ab 0)) E 0 0 iX2_price_X2 fX2_price_10 rfl rfl (by decide) rfl rfl dX2_price_72 (pc' := 75) rfl ?_
          refine zw_get (v := .ref (ab 5)) E 1 4 iX2_price_X0 fX2_price_48 rfl rfl (by decide) rfl rfl dX2_price_75 (pc' := 78) rfl ?_
          refine zw_iload_n (i := 3) (x := q) E 3 dX2_price_78 rfl rfl (pc' := 79) rfl ?_
          refine zw_callVv E (As := [.ref (ab 5), .int q]) (rest := []) (ws' := (tm_W K a0 ab al ao (bk_put b_2 4 q) d o)) (qX0_put_4 l D K ab b_2 q (by rw [h2_b_2]; exact hs)) (cwV 2 E.2.2.2.2.1 gX2_price_X0_put rfl rfl rfl (by decide +kernel) ⟨Nat.le_of_ble_eq_true rfl, Nat.le_of_ble_eq_true rfl⟩) 0 rfl rfl rfl [1, 2, 3, 4, 5, 6, 7, 8, 9, 10, 11, 12] (by decide) emC_tm_b (bk_ad _ _ _ _) emP_tm_b rfl rfl (Nat.le_of_ble_eq_true rfl) ⟨Nat.zero_le _, Nat.zero_le _⟩ dX2_price_79 (pc' := 82) rfl ?_
          refine zw_gen_tm_b (bk_put b_2 4 q) (fun b_3 hg_3 => ?_)
          have h2_b_3 : b_3.2 = b.2 := by rw [← hg_3]; exact h2_b_2
          refine zw_aload_n (i := 0) (x := a0) E 0 dX2_price_82 rfl rfl (pc' := 83) rfl ?_
          refine zw_get (v := .ref (ab 0)) E 0 0 iX2_price_X2 fX2_price_10 rfl rfl (by decide) rfl rfl dX2_price_83 (pc' := 86) rfl ?_
          refine zw_iconst (v := 0) E dX2_price_86 (by decide) (pc' := 87) rfl ?_
          refine zw_callIv E (r := nI (b_3.2 1)) (As := [.int 0]) (rest := []) (ws' := (tm_W K a0 ab al ao (bk_keep b_3 0) d o)) (qX0_keep l D K ab b_3 0 (by rw [h2_b_3]; exact hs) (by rw [h2_b_3]; exact hf60)) (cwV 1 E.2.2.2.2.1 gX2_price_X0_keep rfl rfl rfl (by decide +kernel) ⟨Nat.le_of_ble_eq_true rfl, Nat.le_of_ble_eq_true rfl⟩) 0 rfl rfl rfl [1, 2, 3, 4, 5, 6, 7, 8, 9, 10, 11, 12] (by decide) emC_tm_b (bk_ad _ _ _ _) emP_tm_b rfl rfl (Nat.le_of_ble_eq_true rfl) ⟨Nat.zero_le _, Nat.zero_le _⟩ dX2_price_87 (pc' := 90) rfl ?_
          refine zw_gen_tm_b (bk_keep b_3 0) (fun b_4 hg_4 => ?_)
          exact zw_iret E hr hlk dX2_price_90 (by unfold r_price; rw [if_neg c_1, if_pos c_2, if_pos c_3, if_pos c_4, h2_b_3]) (zw_tm2 (by unfold b_price bk_price; rw [if_neg c_1, if_pos c_2, if_pos c_3, if_pos c_4, hg_1, hg_2, hg_3, hg_4]) rfl rfl)
        · skip
          refine zw_iconst (v := (-1)) E dX2_price_41 (by decide) (pc' := 42) rfl ?_
          exact zw_iret E hr hlk dX2_price_42 (by unfold r_price; rw [if_neg c_1, if_pos c_2, if_pos c_3, if_neg c_4]) (zw_tm2 (by unfold b_price; rw [if_neg c_1, if_pos c_2, if_pos c_3, if_neg c_4]) rfl rfl)

def bk_make (b : Bk) (y a kd ow : Int32) : Bk := bk_put (bk_put (bk_put (bk_draft b 1 y) 4 a) 5 kd) 6 ow
def r_make1 (b : Bk) (d : Ld) (y a kd ow : Int32) : Int32 := if (¬ 80 ≤ nI (b.2 1) ∧ (8 ≤ y ∧ y ≤ 200) ∧ ¬ 60 < nI (b.2 2) + 1) then if (1 ≤ a ∧ a ≤ 10000) then if (0 ≤ kd ∧ kd ≤ 2) then if (0 ≤ ow ∧ ow ≤ 9) then z_at 80 ((b_take (bk_make b y a kd ow) d 1).1 7) (r_take (bk_make b y a kd ow) d 1) else -1 else -1 else -1 else -1
def b_make1 (b : Bk) (d : Ld) (y a kd ow : Int32) : Bk := if (¬ 80 ≤ nI (b.2 1) ∧ (8 ≤ y ∧ y ≤ 200) ∧ ¬ 60 < nI (b.2 2) + 1) then if (1 ≤ a ∧ a ≤ 10000) then if (0 ≤ kd ∧ kd ≤ 2) then if (0 ≤ ow ∧ ow ≤ 9) then b_take (bk_make b y a kd ow) d 1 else b else b else b else b
def d_make1 (b : Bk) (d : Ld) (y a kd ow : Int32) : Ld := if (¬ 80 ≤ nI (b.2 1) ∧ (8 ≤ y ∧ y ≤ 200) ∧ ¬ 60 < nI (b.2 2) + 1) then if (1 ≤ a ∧ a ≤ 10000) then if (0 ≤ kd ∧ kd ≤ 2) then if (0 ≤ ow ∧ ow ≤ 9) then (td_show (bk_make b y a kd ow) d 1).2 else d else d else d else d
theorem fX2_make_10 : Cond.fieldLink RX2 10 "TitheMap" "book" "LTitheMap$Book;" ∈ wsX2_make := by decide +kernel
theorem fX2_make_48 : Cond.fieldLink RX2 48 "TitheMap$Book" "amount" "[I" ∈ wsX2_make := by decide +kernel
theorem fX2_make_63 : Cond.fieldLink RX2 63 "TitheMap$Book" "kind" "[I" ∈ wsX2_make := by decide +kernel
theorem fX2_make_66 : Cond.fieldLink RX2 66 "TitheMap$Book" "owner" "[I" ∈ wsX2_make := by decide +kernel
theorem iX2_make_X0 : ∀ w ∈ wsX00, w ∈ wsX2_make := by decide +kernel
theorem iX2_make_X2 : ∀ w ∈ wsX20, w ∈ wsX2_make := by decide +kernel
set_option maxHeartbeats 4000000 in
set_option maxRecDepth 100000 in
/-- make -/
theorem qX2_make (l : Launch) (D : va_G) (K : Nat → ClassId) (a0 : Nat) (ab al ao : Nat → Nat) (b : Bk) (d o : Ld) (y a kd ow : Int32) (hs80 : b.2 1 ≤ 80) (ha80 : b.2 0 ≤ b.2 1) (hf60 : b.2 2 ≤ 60) (hok : (¬ 80 ≤ nI (b.2 1) ∧ (8 ≤ y ∧ y ≤ 200) ∧ ¬ 60 < nI (b.2 2) + 1) → (1 ≤ a ∧ a ≤ 10000) → (0 ≤ kd ∧ kd ≤ 2) → (0 ≤ ow ∧ ow ≤ 9) → td_ok (bk_make b y a kd ow) 1) : zw_I l yX2_make wsX2_make rmX2_make D (zT K) [.ref a0, .int y, .int a, .int kd, .int ow] (tm_W K a0 ab al ao b d o) (r_make1 b d y a kd ow) (tm_W K a0 ab al ao (b_make1 b d y a kd ow) (d_make1 b d y a kd ow) o) := by
  refine zw_ofI (cc := cX2_make) (nL := 5) (ret := (some .int)) (own := RX2) (lv := [(0, .ref a0), (1, .int y), (2, .int a), (3, .int kd), (4, .int ow)]) (by decide) rfl (Nat.le_of_ble_eq_true rfl) rfl rfl ?_
  intro p e s m below meth c A E hr hlk
  refine zw_aload_n (i := 0) (x := a0) E 0 dX2_make_0 rfl rfl (pc' := 1) rfl ?_
  refine zw_iload_n (i := 1) (x := y) E 1 dX2_make_1 rfl rfl (pc' := 2) rfl ?_
  refine zw_iconst (v := 1) E dX2_make_2 (by decide) (pc' := 3) rfl ?_
  refine zw_callIw E (r := zb (¬ 80 ≤ nI (b.2 1) ∧ (8 ≤ y ∧ y ≤ 200) ∧ ¬ 60 < nI (b.2 2) + 1)) (As := [.int y, .int 1]) (rest := []) (ws' := (tm_W K a0 ab al ao b d o)) (qX2_isActPossible l D K a0 ab al ao b d o y 1) (cwV 2 E.2.2.2.2.1 gX2_make_X2_isActPossible rfl rfl rfl (by decide +kernel) ⟨Nat.le_of_ble_eq_true rfl, Nat.le_of_ble_eq_true rfl⟩) 0 rfl rfl rfl rfl rfl rfl (Nat.le_of_ble_eq_true rfl) ⟨Nat.zero_le _, Nat.zero_le _⟩ dX2_make_3 (pc' := 6) rfl ?_
  refine zw_ifb_eq (tgt := 37) E dX2_make_6 (by decide) (pc' := 9) rfl (fun c_1 => ?_) (fun c_1 => ?_)
  · skip
    refine zw_iconst (v := (-1)) E dX2_make_37 (by decide) (pc' := 38) rfl ?_
    exact zw_iret E hr hlk dX2_make_38 (by unfold r_make1; rw [if_neg c_1]) (zw_tm2 (by unfold b_make1; rw [if_neg c_1]) (by unfold d_make1; rw [if_neg c_1]) rfl)
  · skip
    have hs : b.2 1 < 80 := zw_lt80 c_1.1 hs80
    have hfn : b.2 2 + 1 ≤ 60 := zw_f60 hf60 (by decide) c_1.2.2
    refine zw_iload_n (i := 2) (x := a) E 2 dX2_make_9 rfl rfl (pc' := 10) rfl ?_
    refine zw_iconst (v := 1) E dX2_make_10 (by decide) (pc' := 11) rfl ?_
    refine zw_sipush (v := 10000) E dX2_make_11 (by decide) (pc' := 14) rfl ?_
    refine zw_callIs E (r := zb (1 ≤ a ∧ a ≤ 10000)) (As := [.int a, .int 1, .int 10000]) (rest := []) (ws' := (tm_W K a0 ab al ao b d o)) (qX2_isWithin l D K a 1 10000) (va_cwS 3 E.2.2.2.2.1 gX2_make_X2_isWithin rfl rfl rfl (by decide +kernel) ⟨Nat.le_of_ble_eq_true rfl, Nat.le_of_ble_eq_true rfl⟩) [] (by decide) rfl rfl (zw_put_same _ _ _ rfl) rfl rfl (Nat.le_of_ble_eq_true rfl) ⟨Nat.zero_le _, Nat.zero_le _⟩ dX2_make_14 (pc' := 17) rfl ?_
    refine zw_ifb_eq (tgt := 37) E dX2_make_17 (by decide) (pc' := 20) rfl (fun c_2 => ?_) (fun c_2 => ?_)
    · skip
      refine zw_iconst (v := (-1)) E dX2_make_37 (by decide) (pc' := 38) rfl ?_
      exact zw_iret E hr hlk dX2_make_38 (by unfold r_make1; rw [if_pos c_1, if_neg c_2]) (zw_tm2 (by unfold b_make1; rw [if_pos c_1, if_neg c_2]) (by unfold d_make1; rw [if_pos c_1, if_neg c_2]) rfl)
    · skip
      refine zw_iload_n (i := 3) (x := kd) E 3 dX2_make_20 rfl rfl (pc' := 21) rfl ?_
      refine zw_iconst (v := 0) E dX2_make_21 (by decide) (pc' := 22) rfl ?_
      refine zw_iconst (v := 2) E dX2_make_22 (by decide) (pc' := 23) rfl ?_
      refine zw_callIs E (r := zb (0 ≤ kd ∧ kd ≤ 2)) (As := [.int kd, .int 0, .int 2]) (rest := []) (ws' := (tm_W K a0 ab al ao b d o)) (qX2_isWithin l D K kd 0 2) (va_cwS 3 E.2.2.2.2.1 gX2_make_X2_isWithin rfl rfl rfl (by decide +kernel) ⟨Nat.le_of_ble_eq_true rfl, Nat.le_of_ble_eq_true rfl⟩) [] (by decide) rfl rfl (zw_put_same _ _ _ rfl) rfl rfl (Nat.le_of_ble_eq_true rfl) ⟨Nat.zero_le _, Nat.zero_le _⟩ dX2_make_23 (pc' := 26) rfl ?_
      refine zw_ifb_eq (tgt := 37) E dX2_make_26 (by decide) (pc' := 29) rfl (fun c_3 => ?_) (fun c_3 => ?_)
      · skip
        refine zw_iconst (v := (-1)) E dX2_make_37 (by decide) (pc' := 38) rfl ?_
        exact zw_iret E hr hlk dX2_make_38 (by unfold r_make1; rw [if_pos c_1, if_pos c_2, if_neg c_3]) (zw_tm2 (by unfold b_make1; rw [if_pos c_1, if_pos c_2, if_neg c_3]) (by unfold d_make1; rw [if_pos c_1, if_pos c_2, if_neg c_3]) rfl)
      · skip
        refine zw_iload (x := ow) E 4 dX2_make_29 rfl (pc' := 31) rfl ?_
        refine zw_callIs E (r := zb (0 ≤ ow ∧ ow ≤ 9)) (As := [.int ow]) (rest := []) (ws' := (tm_W K a0 ab al ao b d o)) (qX2_isOwner l D K ow) (va_cwS 1 E.2.2.2.2.1 gX2_make_X2_isOwner rfl rfl rfl (by decide +kernel) ⟨Nat.le_of_ble_eq_true rfl, Nat.le_of_ble_eq_true rfl⟩) [] (by decide) rfl rfl (zw_put_same _ _ _ rfl) rfl rfl (Nat.le_of_ble_eq_true rfl) ⟨Nat.zero_le _, Nat.zero_le _⟩ dX2_make_31 (pc' := 34) rfl ?_
        refine zw_ifb_ne (tgt := 39) E dX2_make_34 (by decide) (pc' := 37) rfl (fun c_4 => ?_) (fun c_4 => ?_)
        · skip
          refine zw_aload_n (i := 0) (x := a0) E 0 dX2_make_39 rfl rfl (pc' := 40) rfl ?_
          refine zw_get (v := .ref (ab 0)) E 0 0 iX2_make_X2 fX2_make_10 rfl rfl (by decide) rfl rfl dX2_make_40 (pc' := 43) rfl ?_
          refine zw_iconst (v := 1) E dX2_make_43 (by decide) (pc' := 44) rfl ?_
          refine zw_iload_n (i := 1) (x := y) E 1 dX2_make_44 rfl rfl (pc' := 45) rfl ?_
          refine zw_callVv E (As := [.int 1, .int y]) (rest := []) (ws' := (tm_W K a0 ab al ao (bk_draft b 1 y) d o)) (qX0_draft l D K ab b 1 y hs) (cwV 2 E.2.2.2.2.1 gX2_make_X0_draft rfl rfl rfl (by decide +kernel) ⟨Nat.le_of_ble_eq_true rfl, Nat.le_of_ble_eq_true rfl⟩) 0 rfl rfl rfl [1, 2, 3, 4, 5, 6, 7, 8, 9, 10, 11, 12] (by decide) emC_tm_b (bk_ad _ _ _ _) emP_tm_b rfl rfl (Nat.le_of_ble_eq_true rfl) ⟨Nat.zero_le _, Nat.zero_le _⟩ dX2_make_45 (pc' := 48) rfl ?_
          refine zw_gen_tm_b (bk_draft b 1 y) (fun b_1 hg_1 => ?_)
          have h2_b_1 : b_1.2 = b.2 := by rw [← hg_1]; exact rfl
          refine zw_aload_n (i := 0) (x := a0) E 0 dX2_make_48 rfl rfl (pc' := 49) rfl ?_
          refine zw_get (v := .ref (ab 0)) E 0 0 iX2_make_X2 fX2_make_10 rfl rfl (by decide) rfl rfl dX2_make_49 (pc' := 52) rfl ?_
          refine zw_aload_n (i := 0) (x := a0) E 0 dX2_make_52 rfl rfl (pc' := 53) rfl ?_
          refine zw_get (v := .ref (ab 0)) E 0 0 iX2_make_X2 fX2_make_10 rfl rfl (by decide) rfl rfl dX2_make_53 (pc' := 56) rfl ?_
          refine zw_get (v := .ref (ab 5)) E 1 4 iX2_make_X0 fX2_make_48 rfl rfl (by decide) rfl rfl dX2_make_56 (pc' := 59) rfl ?_
          refine zw_iload_n (i := 2) (x := a) E 2 dX2_make_59 rfl rfl (pc' := 60) rfl ?_
          refine zw_callVv E (As := [.ref (ab 5), .int a]) (rest := []) (ws' := (tm_W K a0 ab al ao (bk_put b_1 4 a) d o)) (qX0_put_4 l D K ab b_1 a (by rw [h2_b_1]; exact hs)) (cwV 2 E.2.2.2.2.1 gX2_make_X0_put rfl rfl rfl (by decide +kernel) ⟨Nat.le_of_ble_eq_true rfl, Nat.le_of_ble_eq_true rfl⟩) 0 rfl rfl rfl [1, 2, 3, 4, 5, 6, 7, 8, 9, 10, 11, 12] (by decide) emC_tm_b (bk_ad _ _ _ _) emP_tm_b rfl rfl (Nat.le_of_ble_eq_true rfl) ⟨Nat.zero_le _, Nat.zero_le _⟩ dX2_make_60 (pc' := 63) rfl ?_
          refine zw_gen_tm_b (bk_put b_1 4 a) (fun b_2 hg_2 => ?_)
          have h2_b_2 : b_2.2 = b.2 := by rw [← hg_2]; exact h2_b_1
          refine zw_aload_n (i := 0) (x := a0) E 0 dX2_make_63 rfl rfl (pc' := 64) rfl ?_
          refine zw_get (v := .ref (ab 0)) E 0 0 iX2_make_X2 fX2_make_10 rfl rfl (by decide) rfl rfl dX2_make_64 (pc' := 67) rfl ?_
          refine zw_aload_n (i := 0) (x := a0) E 0 dX2_make_67 rfl rfl (pc' := 68) rfl ?_
          refine zw_get (v := .ref (ab 0)) E 0 0 iX2_make_X2 fX2_make_10 rfl rfl (by decide) rfl rfl dX2_make_68 (pc' := 71) rfl ?_
          refine zw_get (v := .ref (ab 6)) E 1 5 iX2_make_X0 fX2_make_63 rfl rfl (by decide) rfl rfl dX2_make_71 (pc' := 74) rfl ?_
          refine zw_iload_n (i := 3) (x := kd) E 3 dX2_make_74 rfl rfl (pc' := 75) rfl ?_
          refine zw_callVv E (As := [.ref (ab 6), .int kd]) (rest := []) (ws' := (tm_W K a0 ab al ao (bk_put b_2 5 kd) d o)) (qX0_put_5 l D K ab b_2 kd (by rw [h2_b_2]; exact hs)) (cwV 2 E.2.2.2.2.1 gX2_make_X0_put rfl rfl rfl (by decide +kernel) ⟨Nat.le_of_ble_eq_true rfl, Nat.le_of_ble_eq_true rfl⟩) 0 rfl rfl rfl [1, 2, 3, 4, 5, 6, 7, 8, 9, 10, 11, 12] (by decide) emC_tm_b (bk_ad _ _ _ _) emP_tm_b rfl rfl (Nat.le_of_ble_eq_true rfl) ⟨Nat.zero_le _, Nat.zero_le _⟩ dX2_make_75 (pc' := 78) rfl ?_
          refine zw_gen_tm_b (bk_put b_2 5 kd) (fun b_3 hg_3 => ?_)
          have h2_b_3 : b_3.2 = b.2 := by rw [← hg_3]; exact h2_b_2
          refine zw_aload_n (i := 0) (x := a0) E 0 dX2_make_78 rfl rfl (pc' := 79) rfl ?_
          refine zw_get (v := .ref (ab 0)) E 0 0 iX2_make_X2 fX2_make_10 rfl rfl (by decide) rfl rfl dX2_make_79 (pc' := 82) rfl ?_
          refine zw_aload_n (i := 0) (x := a0) E 0 dX2_make_82 rfl rfl (pc' := 83) rfl ?_
          refine zw_get (v := .ref (ab 0)) E 0 0 iX2_make_X2 fX2_make_10 rfl rfl (by decide) rfl rfl dX2_make_83 (pc' := 86) rfl ?_
          refine zw_get (v := .ref (ab 7)) E 1 6 iX2_make_X0 fX2_make_66 rfl rfl (by decide) rfl rfl dX2_make_86 (pc' := 89) rfl ?_
          refine zw_iload (x := ow) E 4 dX2_make_89 rfl (pc' := 91) rfl ?_
          refine zw_callVv E (As := [.ref (ab 7), .int ow]) (rest := []) (ws' := (tm_W K a0 ab al ao (bk_put b_3 6 ow) d o)) (qX0_put_6 l D K ab b_3 ow (by rw [h2_b_3]; exact hs)) (cwV 2 E.2.2.2.2.1 gX2_make_X0_put rfl rfl rfl (by decide +kernel) ⟨Nat.le_of_ble_eq_true rfl, Nat.le_of_ble_eq_true rfl⟩) 0 rfl rfl rfl [1, 2, 3, 4, 5, 6, 7, 8, 9, 10, 11, 12] (by decide) emC_tm_b (bk_ad _ _ _ _) emP_tm_b rfl rfl (Nat.le_of_ble_eq_true rfl) ⟨Nat.zero_le _, Nat.zero_le _⟩ dX2_make_91 (pc' := 94) rfl ?_
          refine zw_gen_tm_b (bk_put b_3 6 ow) (fun b_4 hg_4 => ?_)
          have h2_b_4 : b_4.2 = b.2 := by rw [← hg_4]; exact h2_b_3
          have ex2 : bk_make b y a kd ow = b_4 := by unfold bk_make; rw [hg_1, hg_2, hg_3, hg_4]
          have hok2 : td_ok b_4 1 := by rw [← ex2]; exact hok c_1 c_2 c_3 c_4
          refine zw_aload_n (i := 0) (x := a0) E 0 dX2_make_94 rfl rfl (pc' := 95) rfl ?_
          refine zw_aload_n (i := 0) (x := a0) E 0 dX2_make_95 rfl rfl (pc' := 96) rfl ?_
          refine zw_iconst (v := 1) E dX2_make_96 (by decide) (pc' := 97) rfl ?_
          refine zw_callIw E (r := r_take b_4 d 1) (As := [.int 1]) (rest := [.ref a0]) (ws' := (tm_W K a0 ab al ao (b_take b_4 d 1) ((td_show b_4 d 1).2) o)) (qX2_takeDraft l D K a0 ab al ao b_4 d o 1 (by decide) (by rw [h2_b_4]; exact hs) (by rw [h2_b_4]; omega) (by rw [h2_b_4]; exact hfn) hok2) (cwV 1 E.2.2.2.2.1 gX2_make_X2_takeDraft rfl rfl rfl (by decide +kernel) ⟨Nat.le_of_ble_eq_true rfl, Nat.le_of_ble_eq_true rfl⟩) 0 rfl rfl rfl (tm_ad _ _ _ _ _ _ _ _ _ _ _) rfl rfl (Nat.le_of_ble_eq_true rfl) ⟨Nat.zero_le _, Nat.zero_le _⟩ dX2_make_97 (pc' := 100) rfl ?_
          refine zw_gen_tm_b (b_take b_4 d 1) (fun b_5 hg_5 => ?_)
          refine zw_gen_tm_d ((td_show b_4 d 1).2) (fun d_6 hg_6 => ?_)
          refine zw_callIw E (r := z_at 80 (b_5.1 7) (r_take b_4 d 1)) (As := [.int (r_take b_4 d 1)]) (rest := []) (ws' := (tm_W K a0 ab al ao b_5 d_6 o)) (qX2_firstMadeBy l D K a0 ab al ao b_5 d_6 o (r_take b_4 d 1)) (cwV 1 E.2.2.2.2.1 gX2_make_X2_firstMadeBy rfl rfl rfl (by decide +kernel) ⟨Nat.le_of_ble_eq_true rfl, Nat.le_of_ble_eq_true rfl⟩) 0 rfl rfl rfl rfl rfl rfl (Nat.le_of_ble_eq_true rfl) ⟨Nat.zero_le _, Nat.zero_le _⟩ dX2_make_100 (pc' := 103) rfl ?_
          exact zw_iret E hr hlk dX2_make_103 (by unfold r_make1; rw [if_pos c_1, if_pos c_2, if_pos c_3, if_pos c_4, ex2, hg_5]) (zw_tm2 (by unfold b_make1; rw [if_pos c_1, if_pos c_2, if_pos c_3, if_pos c_4, ex2, hg_5]) (by unfold d_make1; rw [if_pos c_1, if_pos c_2, if_pos c_3, if_pos c_4, ex2, hg_6]) rfl)
        · skip
          refine zw_iconst (v := (-1)) E dX2_make_37 (by decide) (pc' := 38) rfl ?_
          exact zw_iret E hr hlk dX2_make_38 (by unfold r_make1; rw [if_pos c_1, if_pos c_2, if_pos c_3, if_neg c_4]) (zw_tm2 (by unfold b_make1; rw [if_pos c_1, if_pos c_2, if_pos c_3, if_neg c_4]) (by unfold d_make1; rw [if_pos c_1, if_pos c_2, if_pos c_3, if_neg c_4]) rfl)

def bk_sell (b : Bk) (y f ow : Int32) : Bk := bk_put (bk_put (bk_draft b 4 y) 2 f) 6 ow
def r_sell1 (b : Bk) (d : Ld) (y f ow : Int32) : Int32 := if (¬ 80 ≤ nI (b.2 1) ∧ (8 ≤ y ∧ y ≤ 200) ∧ ¬ 60 < nI (b.2 2) + 0) then if (0 ≤ f ∧ f ≤ nI (b.2 2) - 1) then if (0 ≤ ow ∧ ow ≤ 9) then r_take (bk_sell b y f ow) d 0 else -1 else -1 else -1
def b_sell1 (b : Bk) (d : Ld) (y f ow : Int32) : Bk := if (¬ 80 ≤ nI (b.2 1) ∧ (8 ≤ y ∧ y ≤ 200) ∧ ¬ 60 < nI (b.2 2) + 0) then if (0 ≤ f ∧ f ≤ nI (b.2 2) - 1) then if (0 ≤ ow ∧ ow ≤ 9) then b_take (bk_sell b y f ow) d 0 else b else b else b
def d_sell1 (b : Bk) (d : Ld) (y f ow : Int32) : Ld := if (¬ 80 ≤ nI (b.2 1) ∧ (8 ≤ y ∧ y ≤ 200) ∧ ¬ 60 < nI (b.2 2) + 0) then if (0 ≤ f ∧ f ≤ nI (b.2 2) - 1) then if (0 ≤ ow ∧ ow ≤ 9) then (td_show (bk_sell b y f ow) d 0).2 else d else d else d
theorem fX2_sell_10 : Cond.fieldLink RX2 10 "TitheMap" "book" "LTitheMap$Book;" ∈ wsX2_sell := by decide +kernel
theorem fX2_sell_40 : Cond.fieldLink RX2 40 "TitheMap$Book" "first" "[I" ∈ wsX2_sell := by decide +kernel
theorem fX2_sell_66 : Cond.fieldLink RX2 66 "TitheMap$Book" "owner" "[I" ∈ wsX2_sell := by decide +kernel
theorem iX2_sell_X0 : ∀ w ∈ wsX00, w ∈ wsX2_sell := by decide +kernel
theorem iX2_sell_X2 : ∀ w ∈ wsX20, w ∈ wsX2_sell := by decide +kernel
set_option maxHeartbeats 4000000 in
set_option maxRecDepth 100000 in
/-- sell -/
theorem qX2_sell (l : Launch) (D : va_G) (K : Nat → ClassId) (a0 : Nat) (ab al ao : Nat → Nat) (b : Bk) (d o : Ld) (y f ow : Int32) (hs80 : b.2 1 ≤ 80) (ha80 : b.2 0 ≤ b.2 1) (hf60 : b.2 2 ≤ 60) (hok : (¬ 80 ≤ nI (b.2 1) ∧ (8 ≤ y ∧ y ≤ 200) ∧ ¬ 60 < nI (b.2 2) + 0) → (0 ≤ f ∧ f ≤ nI (b.2 2) - 1) → (0 ≤ ow ∧ ow ≤ 9) → td_ok (bk_sell b y f ow) 0) : zw_I l yX2_sell wsX2_sell rmX2_sell D (zT K) [.ref a0, .int y, .int f, .int ow] (tm_W K a0 ab al ao b d o) (r_sell1 b d y f ow) (tm_W K a0 ab al ao (b_sell1 b d y f ow) (d_sell1 b d y f ow) o) := by
  refine zw_ofI (cc := cX2_sell) (nL := 4) (ret := (some .int)) (own := RX2) (lv := [(0, .ref a0), (1, .int y), (2, .int f), (3, .int ow)]) (by decide) rfl (Nat.le_of_ble_eq_true rfl) rfl rfl ?_
  intro p e s m below meth c A E hr hlk
  refine zw_aload_n (i := 0) (x := a0) E 0 dX2_sell_0 rfl rfl (pc' := 1) rfl ?_
  refine zw_iload_n (i := 1) (x := y) E 1 dX2_sell_1 rfl rfl (pc' := 2) rfl ?_
  refine zw_iconst (v := 0) E dX2_sell_2 (by decide) (pc' := 3) rfl ?_
  refine zw_callIw E (r := zb (¬ 80 ≤ nI (b.2 1) ∧ (8 ≤ y ∧ y ≤ 200) ∧ ¬ 60 < nI (b.2 2) + 0)) (As := [.int y, .int 0]) (rest := []) (ws' := (tm_W K a0 ab al ao b d o)) (qX2_isActPossible l D K a0 ab al ao b d o y 0) (cwV 2 E.2.2.2.2.1 gX2_sell_X2_isActPossible rfl rfl rfl (by decide +kernel) ⟨Nat.le_of_ble_eq_true rfl, Nat.le_of_ble_eq_true rfl⟩) 0 rfl rfl rfl rfl rfl rfl (Nat.le_of_ble_eq_true rfl) ⟨Nat.zero_le _, Nat.zero_le _⟩ dX2_sell_3 (pc' := 6) rfl ?_
  refine zw_ifb_eq (tgt := 24) E dX2_sell_6 (by decide) (pc' := 9) rfl (fun c_1 => ?_) (fun c_1 => ?_)
  · skip
    refine zw_iconst (v := (-1)) E dX2_sell_24 (by decide) (pc' := 25) rfl ?_
    exact zw_iret E hr hlk dX2_sell_25 (by unfold r_sell1; rw [if_neg c_1]) (zw_tm2 (by unfold b_sell1; rw [if_neg c_1]) (by unfold d_sell1; rw [if_neg c_1]) rfl)
  · skip
    have hs : b.2 1 < 80 := zw_lt80 c_1.1 hs80
    have hfn : b.2 2 + 0 ≤ 60 := zw_f60 hf60 (by decide) c_1.2.2
    refine zw_aload_n (i := 0) (x := a0) E 0 dX2_sell_9 rfl rfl (pc' := 10) rfl ?_
    refine zw_iload_n (i := 2) (x := f) E 2 dX2_sell_10 rfl rfl (pc' := 11) rfl ?_
    refine zw_callIw E (r := zb (0 ≤ f ∧ f ≤ nI (b.2 2) - 1)) (As := [.int f]) (rest := []) (ws' := (tm_W K a0 ab al ao b d o)) (qX2_isField l D K a0 ab al ao b d o f) (cwV 1 E.2.2.2.2.1 gX2_sell_X2_isField rfl rfl rfl (by decide +kernel) ⟨Nat.le_of_ble_eq_true rfl, Nat.le_of_ble_eq_true rfl⟩) 0 rfl rfl rfl rfl rfl rfl (Nat.le_of_ble_eq_true rfl) ⟨Nat.zero_le _, Nat.zero_le _⟩ dX2_sell_11 (pc' := 14) rfl ?_
    refine zw_ifb_eq (tgt := 24) E dX2_sell_14 (by decide) (pc' := 17) rfl (fun c_2 => ?_) (fun c_2 => ?_)
    · skip
      refine zw_iconst (v := (-1)) E dX2_sell_24 (by decide) (pc' := 25) rfl ?_
      exact zw_iret E hr hlk dX2_sell_25 (by unfold r_sell1; rw [if_pos c_1, if_neg c_2]) (zw_tm2 (by unfold b_sell1; rw [if_pos c_1, if_neg c_2]) (by unfold d_sell1; rw [if_pos c_1, if_neg c_2]) rfl)
    · skip
      refine zw_iload_n (i := 3) (x := ow) E 3 dX2_sell_17 rfl rfl (pc' := 18) rfl ?_
      refine zw_callIs E (r := zb (0 ≤ ow ∧ ow ≤ 9)) (As := [.int ow]) (rest := []) (ws' := (tm_W K a0 ab al ao b d o)) (qX2_isOwner l D K ow) (va_cwS 1 E.2.2.2.2.1 gX2_sell_X2_isOwner rfl rfl rfl (by decide +kernel) ⟨Nat.le_of_ble_eq_true rfl, Nat.le_of_ble_eq_true rfl⟩) [] (by decide) rfl rfl (zw_put_same _ _ _ rfl) rfl rfl (Nat.le_of_ble_eq_true rfl) ⟨Nat.zero_le _, Nat.zero_le _⟩ dX2_sell_18 (pc' := 21) rfl ?_
      refine zw_ifb_ne (tgt := 26) E dX2_sell_21 (by decide) (pc' := 24) rfl (fun c_3 => ?_) (fun c_3 => ?_)
      · skip
        refine zw_aload_n (i := 0) (x := a0) E 0 dX2_sell_26 rfl rfl (pc' := 27) rfl ?_
        refine zw_get (v := .ref (ab 0)) E 0 0 iX2_sell_X2 fX2_sell_10 rfl rfl (by decide) rfl rfl dX2_sell_27 (pc' := 30) rfl ?_
        refine zw_iconst (v := 4) E dX2_sell_30 (by decide) (pc' := 31) rfl ?_
        refine zw_iload_n (i := 1) (x := y) E 1 dX2_sell_31 rfl rfl (pc' := 32) rfl ?_
        refine zw_callVv E (As := [.int 4, .int y]) (rest := []) (ws' := (tm_W K a0 ab al ao (bk_draft b 4 y) d o)) (qX0_draft l D K ab b 4 y hs) (cwV 2 E.2.2.2.2.1 gX2_sell_X0_draft rfl rfl rfl (by decide +kernel) ⟨Nat.le_of_ble_eq_true rfl, Nat.le_of_ble_eq_true rfl⟩) 0 rfl rfl rfl [1, 2, 3, 4, 5, 6, 7, 8, 9, 10, 11, 12] (by decide) emC_tm_b (bk_ad _ _ _ _) emP_tm_b rfl rfl (Nat.le_of_ble_eq_true rfl) ⟨Nat.zero_le _, Nat.zero_le _⟩ dX2_sell_32 (pc' := 35) rfl ?_
        refine zw_gen_tm_b (bk_draft b 4 y) (fun b_1 hg_1 => ?_)
        have h2_b_1 : b_1.2 = b.2 := by rw [← hg_1]; exact rfl
        refine zw_aload_n (i := 0) (x := a0) E 0 dX2_sell_35 rfl rfl (pc' := 36) rfl ?_
        refine zw_get (v := .ref (ab 0)) E 0 0 iX2_sell_X2 fX2_sell_10 rfl rfl (by decide) rfl rfl dX2_sell_36 (pc' := 39) rfl ?_
        refine zw_aload_n (i := 0) (x := a0) E 0 dX2_sell_39 rfl rfl (pc' := 40) rfl ?_
        refine zw_get (v := .ref (ab 0)) E 0 0 iX2_sell_X2 fX2_sell_10 rfl rfl (by decide) rfl rfl dX2_sell_40 (pc' := 43) rfl ?_
        refine zw_get (v := .ref (ab 3)) E 1 2 iX2_sell_X0 fX2_sell_40 rfl rfl (by decide) rfl rfl dX2_sell_43 (pc' := 46) rfl ?_
        refine zw_iload_n (i := 2) (x := f) E 2 dX2_sell_46 rfl rfl (pc' := 47) rfl ?_
        refine zw_callVv E (As := [.ref (ab 3), .int f]) (rest := []) (ws' := (tm_W K a0 ab al ao (bk_put b_1 2 f) d o)) (qX0_put_2 l D K ab b_1 f (by rw [h2_b_1]; exact hs)) (cwV 2 E.2.2.2.2.1 gX2_sell_X0_put rfl rfl rfl (by decide +kernel) ⟨Nat.le_of_ble_eq_true rfl, Nat.le_of_ble_eq_true rfl⟩) 0 rfl rfl rfl [1, 2, 3, 4, 5, 6, 7, 8, 9, 10, 11, 12] (by decide) emC_tm_b (bk_ad _ _ _ _) emP_tm_b rfl rfl (Nat.le_of_ble_eq_true rfl) ⟨Nat.zero_le _, Nat.zero_le _⟩ dX2_sell_47 (pc' := 50) rfl ?_
        refine zw_gen_tm_b (bk_put b_1 2 f) (fun b_2 hg_2 => ?_)
        have h2_b_2 : b_2.2 = b.2 := by rw [← hg_2]; exact h2_b_1
        refine zw_aload_n (i := 0) (x := a0) E 0 dX2_sell_50 rfl rfl (pc' := 51) rfl ?_
        refine zw_get (v := .ref (ab 0)) E 0 0 iX2_sell_X2 fX2_sell_10 rfl rfl (by decide) rfl rfl dX2_sell_51 (pc' := 54) rfl ?_
        refine zw_aload_n (i := 0) (x := a0) E 0 dX2_sell_54 rfl rfl (pc' := 55) rfl ?_
        refine zw_get (v := .ref (ab 0)) E 0 0 iX2_sell_X2 fX2_sell_10 rfl rfl (by decide) rfl rfl dX2_sell_55 (pc' := 58) rfl ?_
        refine zw_get (v := .ref (ab 7)) E 1 6 iX2_sell_X0 fX2_sell_66 rfl rfl (by decide) rfl rfl dX2_sell_58 (pc' := 61) rfl ?_
        refine zw_iload_n (i := 3) (x := ow) E 3 dX2_sell_61 rfl rfl (pc' := 62) rfl ?_
        refine zw_callVv E (As := [.ref (ab 7), .int ow]) (rest := []) (ws' := (tm_W K a0 ab al ao (bk_put b_2 6 ow) d o)) (qX0_put_6 l D K ab b_2 ow (by rw [h2_b_2]; exact hs)) (cwV 2 E.2.2.2.2.1 gX2_sell_X0_put rfl rfl rfl (by decide +kernel) ⟨Nat.le_of_ble_eq_true rfl, Nat.le_of_ble_eq_true rfl⟩) 0 rfl rfl rfl [1, 2, 3, 4, 5, 6, 7, 8, 9, 10, 11, 12] (by decide) emC_tm_b (bk_ad _ _ _ _) emP_tm_b rfl rfl (Nat.le_of_ble_eq_true rfl) ⟨Nat.zero_le _, Nat.zero_le _⟩ dX2_sell_62 (pc' := 65) rfl ?_
        refine zw_gen_tm_b (bk_put b_2 6 ow) (fun b_3 hg_3 => ?_)
        have h2_b_3 : b_3.2 = b.2 := by rw [← hg_3]; exact h2_b_2
        have ex2 : bk_sell b y f ow = b_3 := by unfold bk_sell; rw [hg_1, hg_2, hg_3]
        have hok2 : td_ok b_3 0 := by rw [← ex2]; exact hok c_1 c_2 c_3
        refine zw_aload_n (i := 0) (x := a0) E 0 dX2_sell_65 rfl rfl (pc' := 66) rfl ?_
        refine zw_iconst (v := 0) E dX2_sell_66 (by decide) (pc' := 67) rfl ?_
        refine zw_callIw E (r := r_take b_3 d 0) (As := [.int 0]) (rest := []) (ws' := (tm_W K a0 ab al ao (b_take b_3 d 0) ((td_show b_3 d 0).2) o)) (qX2_takeDraft l D K a0 ab al ao b_3 d o 0 (by decide) (by rw [h2_b_3]; exact hs) (by rw [h2_b_3]; omega) (by rw [h2_b_3]; exact hfn) hok2) (cwV 1 E.2.2.2.2.1 gX2_sell_X2_takeDraft rfl rfl rfl (by decide +kernel) ⟨Nat.le_of_ble_eq_true rfl, Nat.le_of_ble_eq_true rfl⟩) 0 rfl rfl rfl (tm_ad _ _ _ _ _ _ _ _ _ _ _) rfl rfl (Nat.le_of_ble_eq_true rfl) ⟨Nat.zero_le _, Nat.zero_le _⟩ dX2_sell_67 (pc' := 70) rfl ?_
        refine zw_gen_tm_b (b_take b_3 d 0) (fun b_4 hg_4 => ?_)
        refine zw_gen_tm_d ((td_show b_3 d 0).2) (fun d_5 hg_5 => ?_)
        exact zw_iret E hr hlk dX2_sell_70 (by unfold r_sell1; rw [if_pos c_1, if_pos c_2, if_pos c_3, ex2]) (zw_tm2 (by unfold b_sell1; rw [if_pos c_1, if_pos c_2, if_pos c_3, ex2, hg_4]) (by unfold d_sell1; rw [if_pos c_1, if_pos c_2, if_pos c_3, ex2, hg_5]) rfl)
      · skip
        refine zw_iconst (v := (-1)) E dX2_sell_24 (by decide) (pc' := 25) rfl ?_
        exact zw_iret E hr hlk dX2_sell_25 (by unfold r_sell1; rw [if_pos c_1, if_pos c_2, if_neg c_3]) (zw_tm2 (by unfold b_sell1; rw [if_pos c_1, if_pos c_2, if_neg c_3]) (by unfold d_sell1; rw [if_pos c_1, if_pos c_2, if_neg c_3]) rfl)

def bk_settle (b : Bk) (y q : Int32) : Bk := bk_put (bk_draft b 5 y) 4 q
def r_settle1 (b : Bk) (d : Ld) (y q : Int32) : Int32 := if (¬ 80 ≤ nI (b.2 1) ∧ (8 ≤ y ∧ y ≤ 200) ∧ ¬ 60 < nI (b.2 2) + 0) then if (1 ≤ q ∧ q ≤ 1000000) then r_take (bk_settle b y q) d 0 else -1 else -1
def b_settle1 (b : Bk) (d : Ld) (y q : Int32) : Bk := if (¬ 80 ≤ nI (b.2 1) ∧ (8 ≤ y ∧ y ≤ 200) ∧ ¬ 60 < nI (b.2 2) + 0) then if (1 ≤ q ∧ q ≤ 1000000) then b_take (bk_settle b y q) d 0 else b else b
def d_settle1 (b : Bk) (d : Ld) (y q : Int32) : Ld := if (¬ 80 ≤ nI (b.2 1) ∧ (8 ≤ y ∧ y ≤ 200) ∧ ¬ 60 < nI (b.2 2) + 0) then if (1 ≤ q ∧ q ≤ 1000000) then (td_show (bk_settle b y q) d 0).2 else d else d
theorem kX2_settle_81 : Cond.constant RX2 81 (1000000) ∈ wsX2_settle := by decide +kernel
theorem fX2_settle_10 : Cond.fieldLink RX2 10 "TitheMap" "book" "LTitheMap$Book;" ∈ wsX2_settle := by decide +kernel
theorem fX2_settle_48 : Cond.fieldLink RX2 48 "TitheMap$Book" "amount" "[I" ∈ wsX2_settle := by decide +kernel
theorem iX2_settle_X0 : ∀ w ∈ wsX00, w ∈ wsX2_settle := by decide +kernel
theorem iX2_settle_X2 : ∀ w ∈ wsX20, w ∈ wsX2_settle := by decide +kernel
set_option maxHeartbeats 4000000 in
set_option maxRecDepth 100000 in
/-- settle -/
theorem qX2_settle (l : Launch) (D : va_G) (K : Nat → ClassId) (a0 : Nat) (ab al ao : Nat → Nat) (b : Bk) (d o : Ld) (y q : Int32) (hs80 : b.2 1 ≤ 80) (ha80 : b.2 0 ≤ b.2 1) (hf60 : b.2 2 ≤ 60) (hok : (¬ 80 ≤ nI (b.2 1) ∧ (8 ≤ y ∧ y ≤ 200) ∧ ¬ 60 < nI (b.2 2) + 0) → (1 ≤ q ∧ q ≤ 1000000) → td_ok (bk_settle b y q) 0) : zw_I l yX2_settle wsX2_settle rmX2_settle D (zT K) [.ref a0, .int y, .int q] (tm_W K a0 ab al ao b d o) (r_settle1 b d y q) (tm_W K a0 ab al ao (b_settle1 b d y q) (d_settle1 b d y q) o) := by
  refine zw_ofI (cc := cX2_settle) (nL := 3) (ret := (some .int)) (own := RX2) (lv := [(0, .ref a0), (1, .int y), (2, .int q)]) (by decide) rfl (Nat.le_of_ble_eq_true rfl) rfl rfl ?_
  intro p e s m below meth c A E hr hlk
  refine zw_aload_n (i := 0) (x := a0) E 0 dX2_settle_0 rfl rfl (pc' := 1) rfl ?_
  refine zw_iload_n (i := 1) (x := y) E 1 dX2_settle_1 rfl rfl (pc' := 2) rfl ?_
  refine zw_iconst (v := 0) E dX2_settle_2 (by decide) (pc' := 3) rfl ?_
  refine zw_callIw E (r := zb (¬ 80 ≤ nI (b.2 1) ∧ (8 ≤ y ∧ y ≤ 200) ∧ ¬ 60 < nI (b.2 2) + 0)) (As := [.int y, .int 0]) (rest := []) (ws' := (tm_W K a0 ab al ao b d o)) (qX2_isActPossible l D K a0 ab al ao b d o y 0) (cwV 2 E.2.2.2.2.1 gX2_settle_X2_isActPossible rfl rfl rfl (by decide +kernel) ⟨Nat.le_of_ble_eq_true rfl, Nat.le_of_ble_eq_true rfl⟩) 0 rfl rfl rfl rfl rfl rfl (Nat.le_of_ble_eq_true rfl) ⟨Nat.zero_le _, Nat.zero_le _⟩ dX2_settle_3 (pc' := 6) rfl ?_
  refine zw_ifb_eq (tgt := 19) E dX2_settle_6 (by decide) (pc' := 9) rfl (fun c_1 => ?_) (fun c_1 => ?_)
  · skip
    refine zw_iconst (v := (-1)) E dX2_settle_19 (by decide) (pc' := 20) rfl ?_
    exact zw_iret E hr hlk dX2_settle_20 (by unfold r_settle1; rw [if_neg c_1]) (zw_tm2 (by unfold b_settle1; rw [if_neg c_1]) (by unfold d_settle1; rw [if_neg c_1]) rfl)
  · skip
    have hs : b.2 1 < 80 := zw_lt80 c_1.1 hs80
    have hfn : b.2 2 + 0 ≤ 60 := zw_f60 hf60 (by decide) c_1.2.2
    refine zw_iload_n (i := 2) (x := q) E 2 dX2_settle_9 rfl rfl (pc' := 10) rfl ?_
    refine zw_iconst (v := 1) E dX2_settle_10 (by decide) (pc' := 11) rfl ?_
    refine zw_ldc (v := 1000000) E dX2_settle_11 kX2_settle_81 (pc' := 13) rfl ?_
    refine zw_callIs E (r := zb (1 ≤ q ∧ q ≤ 1000000)) (As := [.int q, .int 1, .int 1000000]) (rest := []) (ws' := (tm_W K a0 ab al ao b d o)) (qX2_isWithin l D K q 1 1000000) (va_cwS 3 E.2.2.2.2.1 gX2_settle_X2_isWithin rfl rfl rfl (by decide +kernel) ⟨Nat.le_of_ble_eq_true rfl, Nat.le_of_ble_eq_true rfl⟩) [] (by decide) rfl rfl (zw_put_same _ _ _ rfl) rfl rfl (Nat.le_of_ble_eq_true rfl) ⟨Nat.zero_le _, Nat.zero_le _⟩ dX2_settle_13 (pc' := 16) rfl ?_
    refine zw_ifb_ne (tgt := 21) E dX2_settle_16 (by decide) (pc' := 19) rfl (fun c_2 => ?_) (fun c_2 => ?_)
    · skip
      refine zw_aload_n (i := 0) (x := a0) E 0 dX2_settle_21 rfl rfl (pc' := 22) rfl ?_
      refine zw_get (v := .ref (ab 0)) E 0 0 iX2_settle_X2 fX2_settle_10 rfl rfl (by decide) rfl rfl dX2_settle_22 (pc' := 25) rfl ?_
      refine zw_iconst (v := 5) E dX2_settle_25 (by decide) (pc' := 26) rfl ?_
      refine zw_iload_n (i := 1) (x := y) E 1 dX2_settle_26 rfl rfl (pc' := 27) rfl ?_
      refine zw_callVv E (As := [.int 5, .int y]) (rest := []) (ws' := (tm_W K a0 ab al ao (bk_draft b 5 y) d o)) (qX0_draft l D K ab b 5 y hs) (cwV 2 E.2.2.2.2.1 gX2_settle_X0_draft rfl rfl rfl (by decide +kernel) ⟨Nat.le_of_ble_eq_true rfl, Nat.le_of_ble_eq_true rfl⟩) 0 rfl rfl rfl [1, 2, 3, 4, 5, 6, 7, 8, 9, 10, 11, 12] (by decide) emC_tm_b (bk_ad _ _ _ _) emP_tm_b rfl rfl (Nat.le_of_ble_eq_true rfl) ⟨Nat.zero_le _, Nat.zero_le _⟩ dX2_settle_27 (pc' := 30) rfl ?_
      refine zw_gen_tm_b (bk_draft b 5 y) (fun b_1 hg_1 => ?_)
      have h2_b_1 : b_1.2 = b.2 := by rw [← hg_1]; exact rfl
      refine zw_aload_n (i := 0) (x := a0) E 0 dX2_settle_30 rfl rfl (pc' := 31) rfl ?_
      refine zw_get (v := .ref (ab 0)) E 0 0 iX2_settle_X2 fX2_settle_10 rfl rfl (by decide) rfl rfl dX2_settle_31 (pc' := 34) rfl ?_
      refine zw_aload_n (i := 0) (x := a0) E 0 dX2_settle_34 rfl rfl (pc' := 35) rfl ?_
      refine zw_get (v := .ref (ab 0)) E 0 0 iX2_settle_X2 fX2_settle_10 rfl rfl (by decide) rfl rfl dX2_settle_35 (pc' := 38) rfl ?_
      refine zw_get (v := .ref (ab 5)) E 1 4 iX2_settle_X0 fX2_settle_48 rfl rfl (by decide) rfl rfl dX2_settle_38 (pc' := 41) rfl ?_
      refine zw_iload_n (i := 2) (x := q) E 2 dX2_settle_41 rfl rfl (pc' := 42) rfl ?_
      refine zw_callVv E (As := [.ref (ab 5), .int q]) (rest := []) (ws' := (tm_W K a0 ab al ao (bk_put b_1 4 q) d o)) (qX0_put_4 l D K ab b_1 q (by rw [h2_b_1]; exact hs)) (cwV 2 E.2.2.2.2.1 gX2_settle_X0_put rfl rfl rfl (by decide +kernel) ⟨Nat.le_of_ble_eq_true rfl, Nat.le_of_ble_eq_true rfl⟩) 0 rfl rfl rfl [1, 2, 3, 4, 5, 6, 7, 8, 9, 10, 11, 12] (by decide) emC_tm_b (bk_ad _ _ _ _) emP_tm_b rfl rfl (Nat.le_of_ble_eq_true rfl) ⟨Nat.zero_le _, Nat.zero_le _⟩ dX2_settle_42 (pc' := 45) rfl ?_
      refine zw_gen_tm_b (bk_put b_1 4 q) (fun b_2 hg_2 => ?_)
      have h2_b_2 : b_2.2 = b.2 := by rw [← hg_2]; exact h2_b_1
      have ex2 : bk_settle b y q = b_2 := by unfold bk_settle; rw [hg_1, hg_2]
      have hok2 : td_ok b_2 0 := by rw [← ex2]; exact hok c_1 c_2
      refine zw_aload_n (i := 0) (x := a0) E 0 dX2_settle_45 rfl rfl (pc' := 46) rfl ?_
      refine zw_iconst (v := 0) E dX2_settle_46 (by decide) (pc' := 47) rfl ?_
      refine zw_callIw E (r := r_take b_2 d 0) (As := [.int 0]) (rest := []) (ws' := (tm_W K a0 ab al ao (b_take b_2 d 0) ((td_show b_2 d 0).2) o)) (qX2_takeDraft l D K a0 ab al ao b_2 d o 0 (by decide) (by rw [h2_b_2]; exact hs) (by rw [h2_b_2]; omega) (by rw [h2_b_2]; exact hfn) hok2) (cwV 1 E.2.2.2.2.1 gX2_settle_X2_takeDraft rfl rfl rfl (by decide +kernel) ⟨Nat.le_of_ble_eq_true rfl, Nat.le_of_ble_eq_true rfl⟩) 0 rfl rfl rfl (tm_ad _ _ _ _ _ _ _ _ _ _ _) rfl rfl (Nat.le_of_ble_eq_true rfl) ⟨Nat.zero_le _, Nat.zero_le _⟩ dX2_settle_47 (pc' := 50) rfl ?_
      refine zw_gen_tm_b (b_take b_2 d 0) (fun b_3 hg_3 => ?_)
      refine zw_gen_tm_d ((td_show b_2 d 0).2) (fun d_4 hg_4 => ?_)
      exact zw_iret E hr hlk dX2_settle_50 (by unfold r_settle1; rw [if_pos c_1, if_pos c_2, ex2]) (zw_tm2 (by unfold b_settle1; rw [if_pos c_1, if_pos c_2, ex2, hg_3]) (by unfold d_settle1; rw [if_pos c_1, if_pos c_2, ex2, hg_4]) rfl)
    · skip
      refine zw_iconst (v := (-1)) E dX2_settle_19 (by decide) (pc' := 20) rfl ?_
      exact zw_iret E hr hlk dX2_settle_20 (by unfold r_settle1; rw [if_pos c_1, if_neg c_2]) (zw_tm2 (by unfold b_settle1; rw [if_pos c_1, if_neg c_2]) (by unfold d_settle1; rw [if_pos c_1, if_neg c_2]) rfl)

def bk_buy (b : Bk) (y f : Int32) : Bk := bk_put (bk_draft b 6 y) 2 f
def r_buy1 (b : Bk) (d : Ld) (y f : Int32) : Int32 := if (¬ 80 ≤ nI (b.2 1) ∧ (8 ≤ y ∧ y ≤ 200) ∧ ¬ 60 < nI (b.2 2) + 0) then if (0 ≤ f ∧ f ≤ nI (b.2 2) - 1) then r_take (bk_buy b y f) d 0 else -1 else -1
def b_buy1 (b : Bk) (d : Ld) (y f : Int32) : Bk := if (¬ 80 ≤ nI (b.2 1) ∧ (8 ≤ y ∧ y ≤ 200) ∧ ¬ 60 < nI (b.2 2) + 0) then if (0 ≤ f ∧ f ≤ nI (b.2 2) - 1) then b_take (bk_buy b y f) d 0 else b else b
def d_buy1 (b : Bk) (d : Ld) (y f : Int32) : Ld := if (¬ 80 ≤ nI (b.2 1) ∧ (8 ≤ y ∧ y ≤ 200) ∧ ¬ 60 < nI (b.2 2) + 0) then if (0 ≤ f ∧ f ≤ nI (b.2 2) - 1) then (td_show (bk_buy b y f) d 0).2 else d else d
theorem fX2_buy_10 : Cond.fieldLink RX2 10 "TitheMap" "book" "LTitheMap$Book;" ∈ wsX2_buy := by decide +kernel
theorem fX2_buy_40 : Cond.fieldLink RX2 40 "TitheMap$Book" "first" "[I" ∈ wsX2_buy := by decide +kernel
theorem iX2_buy_X0 : ∀ w ∈ wsX00, w ∈ wsX2_buy := by decide +kernel
theorem iX2_buy_X2 : ∀ w ∈ wsX20, w ∈ wsX2_buy := by decide +kernel
set_option maxHeartbeats 4000000 in
set_option maxRecDepth 100000 in
/-- buy -/
theorem qX2_buy (l : Launch) (D : va_G) (K : Nat → ClassId) (a0 : Nat) (ab al ao : Nat → Nat) (b : Bk) (d o : Ld) (y f : Int32) (hs80 : b.2 1 ≤ 80) (ha80 : b.2 0 ≤ b.2 1) (hf60 : b.2 2 ≤ 60) (hok : (¬ 80 ≤ nI (b.2 1) ∧ (8 ≤ y ∧ y ≤ 200) ∧ ¬ 60 < nI (b.2 2) + 0) → (0 ≤ f ∧ f ≤ nI (b.2 2) - 1) → td_ok (bk_buy b y f) 0) : zw_I l yX2_buy wsX2_buy rmX2_buy D (zT K) [.ref a0, .int y, .int f] (tm_W K a0 ab al ao b d o) (r_buy1 b d y f) (tm_W K a0 ab al ao (b_buy1 b d y f) (d_buy1 b d y f) o) := by
  refine zw_ofI (cc := cX2_buy) (nL := 3) (ret := (some .int)) (own := RX2) (lv := [(0, .ref a0), (1, .int y), (2, .int f)]) (by decide) rfl (Nat.le_of_ble_eq_true rfl) rfl rfl ?_
  intro p e s m below meth c A E hr hlk
  refine zw_aload_n (i := 0) (x := a0) E 0 dX2_buy_0 rfl rfl (pc' := 1) rfl ?_
  refine zw_iload_n (i := 1) (x := y) E 1 dX2_buy_1 rfl rfl (pc' := 2) rfl ?_
  refine zw_iconst (v := 0) E dX2_buy_2 (by decide) (pc' := 3) rfl ?_
  refine zw_callIw E (r := zb (¬ 80 ≤ nI (b.2 1) ∧ (8 ≤ y ∧ y ≤ 200) ∧ ¬ 60 < nI (b.2 2) + 0)) (As := [.int y, .int 0]) (rest := []) (ws' := (tm_W K a0 ab al ao b d o)) (qX2_isActPossible l D K a0 ab al ao b d o y 0) (cwV 2 E.2.2.2.2.1 gX2_buy_X2_isActPossible rfl rfl rfl (by decide +kernel) ⟨Nat.le_of_ble_eq_true rfl, Nat.le_of_ble_eq_true rfl⟩) 0 rfl rfl rfl rfl rfl rfl (Nat.le_of_ble_eq_true rfl) ⟨Nat.zero_le _, Nat.zero_le _⟩ dX2_buy_3 (pc' := 6) rfl ?_
  refine zw_ifb_eq (tgt := 17) E dX2_buy_6 (by decide) (pc' := 9) rfl (fun c_1 => ?_) (fun c_1 => ?_)
  · skip
    refine zw_iconst (v := (-1)) E dX2_buy_17 (by decide) (pc' := 18) rfl ?_
    exact zw_iret E hr hlk dX2_buy_18 (by unfold r_buy1; rw [if_neg c_1]) (zw_tm2 (by unfold b_buy1; rw [if_neg c_1]) (by unfold d_buy1; rw [if_neg c_1]) rfl)
  · skip
    have hs : b.2 1 < 80 := zw_lt80 c_1.1 hs80
    have hfn : b.2 2 + 0 ≤ 60 := zw_f60 hf60 (by decide) c_1.2.2
    refine zw_aload_n (i := 0) (x := a0) E 0 dX2_buy_9 rfl rfl (pc' := 10) rfl ?_
    refine zw_iload_n (i := 2) (x := f) E 2 dX2_buy_10 rfl rfl (pc' := 11) rfl ?_
    refine zw_callIw E (r := zb (0 ≤ f ∧ f ≤ nI (b.2 2) - 1)) (As := [.int f]) (rest := []) (ws' := (tm_W K a0 ab al ao b d o)) (qX2_isField l D K a0 ab al ao b d o f) (cwV 1 E.2.2.2.2.1 gX2_buy_X2_isField rfl rfl rfl (by decide +kernel) ⟨Nat.le_of_ble_eq_true rfl, Nat.le_of_ble_eq_true rfl⟩) 0 rfl rfl rfl rfl rfl rfl (Nat.le_of_ble_eq_true rfl) ⟨Nat.zero_le _, Nat.zero_le _⟩ dX2_buy_11 (pc' := 14) rfl ?_
    refine zw_ifb_ne (tgt := 19) E dX2_buy_14 (by decide) (pc' := 17) rfl (fun c_2 => ?_) (fun c_2 => ?_)
    · skip
      refine zw_aload_n (i := 0) (x := a0) E 0 dX2_buy_19 rfl rfl (pc' := 20) rfl ?_
      refine zw_get (v := .ref (ab 0)) E 0 0 iX2_buy_X2 fX2_buy_10 rfl rfl (by decide) rfl rfl dX2_buy_20 (pc' := 23) rfl ?_
      refine zw_bipush (v := 6) E dX2_buy_23 (by decide) (pc' := 25) rfl ?_
      refine zw_iload_n (i := 1) (x := y) E 1 dX2_buy_25 rfl rfl (pc' := 26) rfl ?_
      refine zw_callVv E (As := [.int 6, .int y]) (rest := []) (ws' := (tm_W K a0 ab al ao (bk_draft b 6 y) d o)) (qX0_draft l D K ab b 6 y hs) (cwV 2 E.2.2.2.2.1 gX2_buy_X0_draft rfl rfl rfl (by decide +kernel) ⟨Nat.le_of_ble_eq_true rfl, Nat.le_of_ble_eq_true rfl⟩) 0 rfl rfl rfl [1, 2, 3, 4, 5, 6, 7, 8, 9, 10, 11, 12] (by decide) emC_tm_b (bk_ad _ _ _ _) emP_tm_b rfl rfl (Nat.le_of_ble_eq_true rfl) ⟨Nat.zero_le _, Nat.zero_le _⟩ dX2_buy_26 (pc' := 29) rfl ?_
      refine zw_gen_tm_b (bk_draft b 6 y) (fun b_1 hg_1 => ?_)
      have h2_b_1 : b_1.2 = b.2 := by rw [← hg_1]; exact rfl
      refine zw_aload_n (i := 0) (x := a0) E 0 dX2_buy_29 rfl rfl (pc' := 30) rfl ?_
      refine zw_get (v := .ref (ab 0)) E 0 0 iX2_buy_X2 fX2_buy_10 rfl rfl (by decide) rfl rfl dX2_buy_30 (pc' := 33) rfl ?_
      refine zw_aload_n (i := 0) (x := a0) E 0 dX2_buy_33 rfl rfl (pc' := 34) rfl ?_
      refine zw_get (v := .ref (ab 0)) E 0 0 iX2_buy_X2 fX2_buy_10 rfl rfl (by decide) rfl rfl dX2_buy_34 (pc' := 37) rfl ?_
      refine zw_get (v := .ref (ab 3)) E 1 2 iX2_buy_X0 fX2_buy_40 rfl rfl (by decide) rfl rfl dX2_buy_37 (pc' := 40) rfl ?_
      refine zw_iload_n (i := 2) (x := f) E 2 dX2_buy_40 rfl rfl (pc' := 41) rfl ?_
      refine zw_callVv E (As := [.ref (ab 3), .int f]) (rest := []) (ws' := (tm_W K a0 ab al ao (bk_put b_1 2 f) d o)) (qX0_put_2 l D K ab b_1 f (by rw [h2_b_1]; exact hs)) (cwV 2 E.2.2.2.2.1 gX2_buy_X0_put rfl rfl rfl (by decide +kernel) ⟨Nat.le_of_ble_eq_true rfl, Nat.le_of_ble_eq_true rfl⟩) 0 rfl rfl rfl [1, 2, 3, 4, 5, 6, 7, 8, 9, 10, 11, 12] (by decide) emC_tm_b (bk_ad _ _ _ _) emP_tm_b rfl rfl (Nat.le_of_ble_eq_true rfl) ⟨Nat.zero_le _, Nat.zero_le _⟩ dX2_buy_41 (pc' := 44) rfl ?_
      refine zw_gen_tm_b (bk_put b_1 2 f) (fun b_2 hg_2 => ?_)
      have h2_b_2 : b_2.2 = b.2 := by rw [← hg_2]; exact h2_b_1
      have ex2 : bk_buy b y f = b_2 := by unfold bk_buy; rw [hg_1, hg_2]
      have hok2 : td_ok b_2 0 := by rw [← ex2]; exact hok c_1 c_2
      refine zw_aload_n (i := 0) (x := a0) E 0 dX2_buy_44 rfl rfl (pc' := 45) rfl ?_
      refine zw_iconst (v := 0) E dX2_buy_45 (by decide) (pc' := 46) rfl ?_
      refine zw_callIw E (r := r_take b_2 d 0) (As := [.int 0]) (rest := []) (ws' := (tm_W K a0 ab al ao (b_take b_2 d 0) ((td_show b_2 d 0).2) o)) (qX2_takeDraft l D K a0 ab al ao b_2 d o 0 (by decide) (by rw [h2_b_2]; exact hs) (by rw [h2_b_2]; omega) (by rw [h2_b_2]; exact hfn) hok2) (cwV 1 E.2.2.2.2.1 gX2_buy_X2_takeDraft rfl rfl rfl (by decide +kernel) ⟨Nat.le_of_ble_eq_true rfl, Nat.le_of_ble_eq_true rfl⟩) 0 rfl rfl rfl (tm_ad _ _ _ _ _ _ _ _ _ _ _) rfl rfl (Nat.le_of_ble_eq_true rfl) ⟨Nat.zero_le _, Nat.zero_le _⟩ dX2_buy_46 (pc' := 49) rfl ?_
      refine zw_gen_tm_b (b_take b_2 d 0) (fun b_3 hg_3 => ?_)
      refine zw_gen_tm_d ((td_show b_2 d 0).2) (fun d_4 hg_4 => ?_)
      exact zw_iret E hr hlk dX2_buy_49 (by unfold r_buy1; rw [if_pos c_1, if_pos c_2, ex2]) (zw_tm2 (by unfold b_buy1; rw [if_pos c_1, if_pos c_2, ex2, hg_3]) (by unfold d_buy1; rw [if_pos c_1, if_pos c_2, ex2, hg_4]) rfl)
    · skip
      refine zw_iconst (v := (-1)) E dX2_buy_17 (by decide) (pc' := 18) rfl ?_
      exact zw_iret E hr hlk dX2_buy_18 (by unfold r_buy1; rw [if_pos c_1, if_neg c_2]) (zw_tm2 (by unfold b_buy1; rw [if_pos c_1, if_neg c_2]) (by unfold d_buy1; rw [if_pos c_1, if_neg c_2]) rfl)

def bk_join (b : Bk) (y f h : Int32) : Bk := bk_put (bk_put (bk_draft b 3 y) 2 f) 3 h
def r_join1 (b : Bk) (d : Ld) (y f h : Int32) : Int32 := if (¬ 80 ≤ nI (b.2 1) ∧ (8 ≤ y ∧ y ≤ 200) ∧ ¬ 60 < nI (b.2 2) + 1) then if (0 ≤ f ∧ f ≤ nI (b.2 2) - 1) then if (0 ≤ h ∧ h ≤ nI (b.2 2) - 1) then z_at 80 ((b_take (bk_join b y f h) d 1).1 7) (r_take (bk_join b y f h) d 1) else -1 else -1 else -1
def b_join1 (b : Bk) (d : Ld) (y f h : Int32) : Bk := if (¬ 80 ≤ nI (b.2 1) ∧ (8 ≤ y ∧ y ≤ 200) ∧ ¬ 60 < nI (b.2 2) + 1) then if (0 ≤ f ∧ f ≤ nI (b.2 2) - 1) then if (0 ≤ h ∧ h ≤ nI (b.2 2) - 1) then b_take (bk_join b y f h) d 1 else b else b else b
def d_join1 (b : Bk) (d : Ld) (y f h : Int32) : Ld := if (¬ 80 ≤ nI (b.2 1) ∧ (8 ≤ y ∧ y ≤ 200) ∧ ¬ 60 < nI (b.2 2) + 1) then if (0 ≤ f ∧ f ≤ nI (b.2 2) - 1) then if (0 ≤ h ∧ h ≤ nI (b.2 2) - 1) then (td_show (bk_join b y f h) d 1).2 else d else d else d
theorem fX2_join_10 : Cond.fieldLink RX2 10 "TitheMap" "book" "LTitheMap$Book;" ∈ wsX2_join := by decide +kernel
theorem fX2_join_40 : Cond.fieldLink RX2 40 "TitheMap$Book" "first" "[I" ∈ wsX2_join := by decide +kernel
theorem fX2_join_78 : Cond.fieldLink RX2 78 "TitheMap$Book" "second" "[I" ∈ wsX2_join := by decide +kernel
theorem iX2_join_X0 : ∀ w ∈ wsX00, w ∈ wsX2_join := by decide +kernel
theorem iX2_join_X2 : ∀ w ∈ wsX20, w ∈ wsX2_join := by decide +kernel
set_option maxHeartbeats 4000000 in
set_option maxRecDepth 100000 in
/-- join -/
theorem qX2_join (l : Launch) (D : va_G) (K : Nat → ClassId) (a0 : Nat) (ab al ao : Nat → Nat) (b : Bk) (d o : Ld) (y f h : Int32) (hs80 : b.2 1 ≤ 80) (ha80 : b.2 0 ≤ b.2 1) (hf60 : b.2 2 ≤ 60) (hok : (¬ 80 ≤ nI (b.2 1) ∧ (8 ≤ y ∧ y ≤ 200) ∧ ¬ 60 < nI (b.2 2) + 1) → (0 ≤ f ∧ f ≤ nI (b.2 2) - 1) → (0 ≤ h ∧ h ≤ nI (b.2 2) - 1) → td_ok (bk_join b y f h) 1) : zw_I l yX2_join wsX2_join rmX2_join D (zT K) [.ref a0, .int y, .int f, .int h] (tm_W K a0 ab al ao b d o) (r_join1 b d y f h) (tm_W K a0 ab al ao (b_join1 b d y f h) (d_join1 b d y f h) o) := by
  refine zw_ofI (cc := cX2_join) (nL := 4) (ret := (some .int)) (own := RX2) (lv := [(0, .ref a0), (1, .int y), (2, .int f), (3, .int h)]) (by decide) rfl (Nat.le_of_ble_eq_true rfl) rfl rfl ?_
  intro p e s m below meth c A E hr hlk
  refine zw_aload_n (i := 0) (x := a0) E 0 dX2_join_0 rfl rfl (pc' := 1) rfl ?_
  refine zw_iload_n (i := 1) (x := y) E 1 dX2_join_1 rfl rfl (pc' := 2) rfl ?_
  refine zw_iconst (v := 1) E dX2_join_2 (by decide) (pc' := 3) rfl ?_
  refine zw_callIw E (r := zb (¬ 80 ≤ nI (b.2 1) ∧ (8 ≤ y ∧ y ≤ 200) ∧ ¬ 60 < nI (b.2 2) + 1)) (As := [.int y, .int 1]) (rest := []) (ws' := (tm_W K a0 ab al ao b d o)) (qX2_isActPossible l D K a0 ab al ao b d o y 1) (cwV 2 E.2.2.2.2.1 gX2_join_X2_isActPossible rfl rfl rfl (by decide +kernel) ⟨Nat.le_of_ble_eq_true rfl, Nat.le_of_ble_eq_true rfl⟩) 0 rfl rfl rfl rfl rfl rfl (Nat.le_of_ble_eq_true rfl) ⟨Nat.zero_le _, Nat.zero_le _⟩ dX2_join_3 (pc' := 6) rfl ?_
  refine zw_ifb_eq (tgt := 25) E dX2_join_6 (by decide) (pc' := 9) rfl (fun c_1 => ?_) (fun c_1 => ?_)
  · skip
    refine zw_iconst (v := (-1)) E dX2_join_25 (by decide) (pc' := 26) rfl ?_
    exact zw_iret E hr hlk dX2_join_26 (by unfold r_join1; rw [if_neg c_1]) (zw_tm2 (by unfold b_join1; rw [if_neg c_1]) (by unfold d_join1; rw [if_neg c_1]) rfl)
  · skip
    have hs : b.2 1 < 80 := zw_lt80 c_1.1 hs80
    have hfn : b.2 2 + 1 ≤ 60 := zw_f60 hf60 (by decide) c_1.2.2
    refine zw_aload_n (i := 0) (x := a0) E 0 dX2_join_9 rfl rfl (pc' := 10) rfl ?_
    refine zw_iload_n (i := 2) (x := f) E 2 dX2_join_10 rfl rfl (pc' := 11) rfl ?_
    refine zw_callIw E (r := zb (0 ≤ f ∧ f ≤ nI (b.2 2) - 1)) (As := [.int f]) (rest := []) (ws' := (tm_W K a0 ab al ao b d o)) (qX2_isField l D K a0 ab al ao b d o f) (cwV 1 E.2.2.2.2.1 gX2_join_X2_isField rfl rfl rfl (by decide +kernel) ⟨Nat.le_of_ble_eq_true rfl, Nat.le_of_ble_eq_true rfl⟩) 0 rfl rfl rfl rfl rfl rfl (Nat.le_of_ble_eq_true rfl) ⟨Nat.zero_le _, Nat.zero_le _⟩ dX2_join_11 (pc' := 14) rfl ?_
    refine zw_ifb_eq (tgt := 25) E dX2_join_14 (by decide) (pc' := 17) rfl (fun c_2 => ?_) (fun c_2 => ?_)
    · skip
      refine zw_iconst (v := (-1)) E dX2_join_25 (by decide) (pc' := 26) rfl ?_
      exact zw_iret E hr hlk dX2_join_26 (by unfold r_join1; rw [if_pos c_1, if_neg c_2]) (zw_tm2 (by unfold b_join1; rw [if_pos c_1, if_neg c_2]) (by unfold d_join1; rw [if_pos c_1, if_neg c_2]) rfl)
    · skip
      refine zw_aload_n (i := 0) (x := a0) E 0 dX2_join_17 rfl rfl (pc' := 18) rfl ?_
      refine zw_iload_n (i := 3) (x := h) E 3 dX2_join_18 rfl rfl (pc' := 19) rfl ?_
      refine zw_callIw E (r := zb (0 ≤ h ∧ h ≤ nI (b.2 2) - 1)) (As := [.int h]) (rest := []) (ws' := (tm_W K a0 ab al ao b d o)) (qX2_isField l D K a0 ab al ao b d o h) (cwV 1 E.2.2.2.2.1 gX2_join_X2_isField rfl rfl rfl (by decide +kernel) ⟨Nat.le_of_ble_eq_true rfl, Nat.le_of_ble_eq_true rfl⟩) 0 rfl rfl rfl rfl rfl rfl (Nat.le_of_ble_eq_true rfl) ⟨Nat.zero_le _, Nat.zero_le _⟩ dX2_join_19 (pc' := 22) rfl ?_
      refine zw_ifb_ne (tgt := 27) E dX2_join_22 (by decide) (pc' := 25) rfl (fun c_3 => ?_) (fun c_3 => ?_)
      · skip
        refine zw_aload_n (i := 0) (x := a0) E 0 dX2_join_27 rfl rfl (pc' := 28) rfl ?_
        refine zw_get (v := .ref (ab 0)) E 0 0 iX2_join_X2 fX2_join_10 rfl rfl (by decide) rfl rfl dX2_join_28 (pc' := 31) rfl ?_
        refine zw_iconst (v := 3) E dX2_join_31 (by decide) (pc' := 32) rfl ?_
        refine zw_iload_n (i := 1) (x := y) E 1 dX2_join_32 rfl rfl (pc' := 33) rfl ?_
        refine zw_callVv E (As := [.int 3, .int y]) (rest := []) (ws' := (tm_W K a0 ab al ao (bk_draft b 3 y) d o)) (qX0_draft l D K ab b 3 y hs) (cwV 2 E.2.2.2.2.1 gX2_join_X0_draft rfl rfl rfl (by decide +kernel) ⟨Nat.le_of_ble_eq_true rfl, Nat.le_of_ble_eq_true rfl⟩) 0 rfl rfl rfl [1, 2, 3, 4, 5, 6, 7, 8, 9, 10, 11, 12] (by decide) emC_tm_b (bk_ad _ _ _ _) emP_tm_b rfl rfl (Nat.le_of_ble_eq_true rfl) ⟨Nat.zero_le _, Nat.zero_le _⟩ dX2_join_33 (pc' := 36) rfl ?_
        refine zw_gen_tm_b (bk_draft b 3 y) (fun b_1 hg_1 => ?_)
        have h2_b_1 : b_1.2 = b.2 := by rw [← hg_1]; exact rfl
        refine zw_aload_n (i := 0) (x := a0) E 0 dX2_join_36 rfl rfl (pc' := 37) rfl ?_
        refine zw_get (v := .ref (ab 0)) E 0 0 iX2_join_X2 fX2_join_10 rfl rfl (by decide) rfl rfl dX2_join_37 (pc' := 40) rfl ?_
        refine zw_aload_n (i := 0) (x := a0) E 0 dX2_join_40 rfl rfl (pc' := 41) rfl ?_
        refine zw_get (v := .ref (ab 0)) E 0 0 iX2_join_X2 fX2_join_10 rfl rfl (by decide) rfl rfl dX2_join_41 (pc' := 44) rfl ?_
        refine zw_get (v := .ref (ab 3)) E 1 2 iX2_join_X0 fX2_join_40 rfl rfl (by decide) rfl rfl dX2_join_44 (pc' := 47) rfl ?_
        refine zw_iload_n (i := 2) (x := f) E 2 dX2_join_47 rfl rfl (pc' := 48) rfl ?_
        refine zw_callVv E (As := [.ref (ab 3), .int f]) (rest := []) (ws' := (tm_W K a0 ab al ao (bk_put b_1 2 f) d o)) (qX0_put_2 l D K ab b_1 f (by rw [h2_b_1]; exact hs)) (cwV 2 E.2.2.2.2.1 gX2_join_X0_put rfl rfl rfl (by decide +kernel) ⟨Nat.le_of_ble_eq_true rfl, Nat.le_of_ble_eq_true rfl⟩) 0 rfl rfl rfl [1, 2, 3, 4, 5, 6, 7, 8, 9, 10, 11, 12] (by decide) emC_tm_b (bk_ad _ _ _ _) emP_tm_b rfl rfl (Nat.le_of_ble_eq_true rfl) ⟨Nat.zero_le _, Nat.zero_le _⟩ dX2_join_48 (pc' := 51) rfl ?_
        refine zw_gen_tm_b (bk_put b_1 2 f) (fun b_2 hg_2 => ?_)
        have h2_b_2 : b_2.2 = b.2 := by rw [← hg_2]; exact h2_b_1
        refine zw_aload_n (i := 0) (x := a0) E 0 dX2_join_51 rfl rfl (pc' := 52) rfl ?_
        refine zw_get (v := .ref (ab 0)) E 0 0 iX2_join_X2 fX2_join_10 rfl rfl (by decide) rfl rfl dX2_join_52 (pc' := 55) rfl ?_
        refine zw_aload_n (i := 0) (x := a0) E 0 dX2_join_55 rfl rfl (pc' := 56) rfl ?_
        refine zw_get (v := .ref (ab 0)) E 0 0 iX2_join_X2 fX2_join_10 rfl rfl (by decide) rfl rfl dX2_join_56 (pc' := 59) rfl ?_
        refine zw_get (v := .ref (ab 4)) E 1 3 iX2_join_X0 fX2_join_78 rfl rfl (by decide) rfl rfl dX2_join_59 (pc' := 62) rfl ?_
        refine zw_iload_n (i := 3) (x := h) E 3 dX2_join_62 rfl rfl (pc' := 63) rfl ?_
        refine zw_callVv E (As := [.ref (ab 4), .int h]) (rest := []) (ws' := (tm_W K a0 ab al ao (bk_put b_2 3 h) d o)) (qX0_put_3 l D K ab b_2 h (by rw [h2_b_2]; exact hs)) (cwV 2 E.2.2.2.2.1 gX2_join_X0_put rfl rfl rfl (by decide +kernel) ⟨Nat.le_of_ble_eq_true rfl, Nat.le_of_ble_eq_true rfl⟩) 0 rfl rfl rfl [1, 2, 3, 4, 5, 6, 7, 8, 9, 10, 11, 12] (by decide) emC_tm_b (bk_ad _ _ _ _) emP_tm_b rfl rfl (Nat.le_of_ble_eq_true rfl) ⟨Nat.zero_le _, Nat.zero_le _⟩ dX2_join_63 (pc' := 66) rfl ?_
        refine zw_gen_tm_b (bk_put b_2 3 h) (fun b_3 hg_3 => ?_)
        have h2_b_3 : b_3.2 = b.2 := by rw [← hg_3]; exact h2_b_2
        have ex2 : bk_join b y f h = b_3 := by unfold bk_join; rw [hg_1, hg_2, hg_3]
        have hok2 : td_ok b_3 1 := by rw [← ex2]; exact hok c_1 c_2 c_3
        refine zw_aload_n (i := 0) (x := a0) E 0 dX2_join_66 rfl rfl (pc' := 67) rfl ?_
        refine zw_aload_n (i := 0) (x := a0) E 0 dX2_join_67 rfl rfl (pc' := 68) rfl ?_
        refine zw_iconst (v := 1) E dX2_join_68 (by decide) (pc' := 69) rfl ?_
        refine zw_callIw E (r := r_take b_3 d 1) (As := [.int 1]) (rest := [.ref a0]) (ws' := (tm_W K a0 ab al ao (b_take b_3 d 1) ((td_show b_3 d 1).2) o)) (qX2_takeDraft l D K a0 ab al ao b_3 d o 1 (by decide) (by rw [h2_b_3]; exact hs) (by rw [h2_b_3]; omega) (by rw [h2_b_3]; exact hfn) hok2) (cwV 1 E.2.2.2.2.1 gX2_join_X2_takeDraft rfl rfl rfl (by decide +kernel) ⟨Nat.le_of_ble_eq_true rfl, Nat.le_of_ble_eq_true rfl⟩) 0 rfl rfl rfl (tm_ad _ _ _ _ _ _ _ _ _ _ _) rfl rfl (Nat.le_of_ble_eq_true rfl) ⟨Nat.zero_le _, Nat.zero_le _⟩ dX2_join_69 (pc' := 72) rfl ?_
        refine zw_gen_tm_b (b_take b_3 d 1) (fun b_4 hg_4 => ?_)
        refine zw_gen_tm_d ((td_show b_3 d 1).2) (fun d_5 hg_5 => ?_)
        refine zw_callIw E (r := z_at 80 (b_4.1 7) (r_take b_3 d 1)) (As := [.int (r_take b_3 d 1)]) (rest := []) (ws' := (tm_W K a0 ab al ao b_4 d_5 o)) (qX2_firstMadeBy l D K a0 ab al ao b_4 d_5 o (r_take b_3 d 1)) (cwV 1 E.2.2.2.2.1 gX2_join_X2_firstMadeBy rfl rfl rfl (by decide +kernel) ⟨Nat.le_of_ble_eq_true rfl, Nat.le_of_ble_eq_true rfl⟩) 0 rfl rfl rfl rfl rfl rfl (Nat.le_of_ble_eq_true rfl) ⟨Nat.zero_le _, Nat.zero_le _⟩ dX2_join_72 (pc' := 75) rfl ?_
        exact zw_iret E hr hlk dX2_join_75 (by unfold r_join1; rw [if_pos c_1, if_pos c_2, if_pos c_3, ex2, hg_4]) (zw_tm2 (by unfold b_join1; rw [if_pos c_1, if_pos c_2, if_pos c_3, ex2, hg_4]) (by unfold d_join1; rw [if_pos c_1, if_pos c_2, if_pos c_3, ex2, hg_5]) rfl)
      · skip
        refine zw_iconst (v := (-1)) E dX2_join_25 (by decide) (pc' := 26) rfl ?_
        exact zw_iret E hr hlk dX2_join_26 (by unfold r_join1; rw [if_pos c_1, if_pos c_2, if_neg c_3]) (zw_tm2 (by unfold b_join1; rw [if_pos c_1, if_pos c_2, if_neg c_3]) (by unfold d_join1; rw [if_pos c_1, if_pos c_2, if_neg c_3]) rfl)

def bk_part (b : Bk) (y f a : Int32) : Bk := bk_put (bk_put (bk_draft b 2 y) 2 f) 4 a
def r_part1 (b : Bk) (d : Ld) (y f a : Int32) : Int32 := if (¬ 80 ≤ nI (b.2 1) ∧ (8 ≤ y ∧ y ≤ 200) ∧ ¬ 60 < nI (b.2 2) + 2) then if (0 ≤ f ∧ f ≤ nI (b.2 2) - 1) then if 1 ≤ a then z_at 80 ((b_take (bk_part b y f a) d 2).1 7) (r_take (bk_part b y f a) d 2) else -1 else -1 else -1
def b_part1 (b : Bk) (d : Ld) (y f a : Int32) : Bk := if (¬ 80 ≤ nI (b.2 1) ∧ (8 ≤ y ∧ y ≤ 200) ∧ ¬ 60 < nI (b.2 2) + 2) then if (0 ≤ f ∧ f ≤ nI (b.2 2) - 1) then if 1 ≤ a then b_take (bk_part b y f a) d 2 else b else b else b
def d_part1 (b : Bk) (d : Ld) (y f a : Int32) : Ld := if (¬ 80 ≤ nI (b.2 1) ∧ (8 ≤ y ∧ y ≤ 200) ∧ ¬ 60 < nI (b.2 2) + 2) then if (0 ≤ f ∧ f ≤ nI (b.2 2) - 1) then if 1 ≤ a then (td_show (bk_part b y f a) d 2).2 else d else d else d
theorem fX2_part_10 : Cond.fieldLink RX2 10 "TitheMap" "book" "LTitheMap$Book;" ∈ wsX2_part := by decide +kernel
theorem fX2_part_40 : Cond.fieldLink RX2 40 "TitheMap$Book" "first" "[I" ∈ wsX2_part := by decide +kernel
theorem fX2_part_48 : Cond.fieldLink RX2 48 "TitheMap$Book" "amount" "[I" ∈ wsX2_part := by decide +kernel
theorem iX2_part_X0 : ∀ w ∈ wsX00, w ∈ wsX2_part := by decide +kernel
theorem iX2_part_X2 : ∀ w ∈ wsX20, w ∈ wsX2_part := by decide +kernel
set_option maxHeartbeats 4000000 in
set_option maxRecDepth 100000 in
/-- part -/
theorem qX2_part (l : Launch) (D : va_G) (K : Nat → ClassId) (a0 : Nat) (ab al ao : Nat → Nat) (b : Bk) (d o : Ld) (y f a : Int32) (hs80 : b.2 1 ≤ 80) (ha80 : b.2 0 ≤ b.2 1) (hf60 : b.2 2 ≤ 60) (hok : (¬ 80 ≤ nI (b.2 1) ∧ (8 ≤ y ∧ y ≤ 200) ∧ ¬ 60 < nI (b.2 2) + 2) → (0 ≤ f ∧ f ≤ nI (b.2 2) - 1) → 1 ≤ a → td_ok (bk_part b y f a) 2) : zw_I l yX2_part wsX2_part rmX2_part D (zT K) [.ref a0, .int y, .int f, .int a] (tm_W K a0 ab al ao b d o) (r_part1 b d y f a) (tm_W K a0 ab al ao (b_part1 b d y f a) (d_part1 b d y f a) o) := by
  refine zw_ofI (cc := cX2_part) (nL := 4) (ret := (some .int)) (own := RX2) (lv := [(0, .ref a0), (1, .int y), (2, .int f), (3, .int a)]) (by decide) rfl (Nat.le_of_ble_eq_true rfl) rfl rfl ?_
  intro p e s m below meth c A E hr hlk
  refine zw_aload_n (i := 0) (x := a0) E 0 dX2_part_0 rfl rfl (pc' := 1) rfl ?_
  refine zw_iload_n (i := 1) (x := y) E 1 dX2_part_1 rfl rfl (pc' := 2) rfl ?_
  refine zw_iconst (v := 2) E dX2_part_2 (by decide) (pc' := 3) rfl ?_
  refine zw_callIw E (r := zb (¬ 80 ≤ nI (b.2 1) ∧ (8 ≤ y ∧ y ≤ 200) ∧ ¬ 60 < nI (b.2 2) + 2)) (As := [.int y, .int 2]) (rest := []) (ws' := (tm_W K a0 ab al ao b d o)) (qX2_isActPossible l D K a0 ab al ao b d o y 2) (cwV 2 E.2.2.2.2.1 gX2_part_X2_isActPossible rfl rfl rfl (by decide +kernel) ⟨Nat.le_of_ble_eq_true rfl, Nat.le_of_ble_eq_true rfl⟩) 0 rfl rfl rfl rfl rfl rfl (Nat.le_of_ble_eq_true rfl) ⟨Nat.zero_le _, Nat.zero_le _⟩ dX2_part_3 (pc' := 6) rfl ?_
  refine zw_ifb_eq (tgt := 22) E dX2_part_6 (by decide) (pc' := 9) rfl (fun c_1 => ?_) (fun c_1 => ?_)
  · skip
    refine zw_iconst (v := (-1)) E dX2_part_22 (by decide) (pc' := 23) rfl ?_
    exact zw_iret E hr hlk dX2_part_23 (by unfold r_part1; rw [if_neg c_1]) (zw_tm2 (by unfold b_part1; rw [if_neg c_1]) (by unfold d_part1; rw [if_neg c_1]) rfl)
  · skip
    have hs : b.2 1 < 80 := zw_lt80 c_1.1 hs80
    have hfn : b.2 2 + 2 ≤ 60 := zw_f60 hf60 (by decide) c_1.2.2
    refine zw_aload_n (i := 0) (x := a0) E 0 dX2_part_9 rfl rfl (pc' := 10) rfl ?_
    refine zw_iload_n (i := 2) (x := f) E 2 dX2_part_10 rfl rfl (pc' := 11) rfl ?_
    refine zw_callIw E (r := zb (0 ≤ f ∧ f ≤ nI (b.2 2) - 1)) (As := [.int f]) (rest := []) (ws' := (tm_W K a0 ab al ao b d o)) (qX2_isField l D K a0 ab al ao b d o f) (cwV 1 E.2.2.2.2.1 gX2_part_X2_isField rfl rfl rfl (by decide +kernel) ⟨Nat.le_of_ble_eq_true rfl, Nat.le_of_ble_eq_true rfl⟩) 0 rfl rfl rfl rfl rfl rfl (Nat.le_of_ble_eq_true rfl) ⟨Nat.zero_le _, Nat.zero_le _⟩ dX2_part_11 (pc' := 14) rfl ?_
    refine zw_ifb_eq (tgt := 22) E dX2_part_14 (by decide) (pc' := 17) rfl (fun c_2 => ?_) (fun c_2 => ?_)
    · skip
      refine zw_iconst (v := (-1)) E dX2_part_22 (by decide) (pc' := 23) rfl ?_
      exact zw_iret E hr hlk dX2_part_23 (by unfold r_part1; rw [if_pos c_1, if_neg c_2]) (zw_tm2 (by unfold b_part1; rw [if_pos c_1, if_neg c_2]) (by unfold d_part1; rw [if_pos c_1, if_neg c_2]) rfl)
    · skip
      refine zw_iload_n (i := 3) (x := a) E 3 dX2_part_17 rfl rfl (pc' := 18) rfl ?_
      refine zw_iconst (v := 1) E dX2_part_18 (by decide) (pc' := 19) rfl ?_
      refine zw_icmp_ge (tgt := 24) E dX2_part_19 (by decide) (pc' := 22) rfl (fun c_3 => ?_) (fun c_3 => ?_)
      · skip
        refine zw_aload_n (i := 0) (x := a0) E 0 dX2_part_24 rfl rfl (pc' := 25) rfl ?_
        refine zw_get (v := .ref (ab 0)) E 0 0 iX2_part_X2 fX2_part_10 rfl rfl (by decide) rfl rfl dX2_part_25 (pc' := 28) rfl ?_
        refine zw_iconst (v := 2) E dX2_part_28 (by decide) (pc' := 29) rfl ?_
        refine zw_iload_n (i := 1) (x := y) E 1 dX2_part_29 rfl rfl (pc' := 30) rfl ?_
        refine zw_callVv E (As := [.int 2, .int y]) (rest := []) (ws' := (tm_W K a0 ab al ao (bk_draft b 2 y) d o)) (qX0_draft l D K ab b 2 y hs) (cwV 2 E.2.2.2.2.1 gX2_part_X0_draft rfl rfl rfl (by decide +kernel) ⟨Nat.le_of_ble_eq_true rfl, Nat.le_of_ble_eq_true rfl⟩) 0 rfl rfl rfl [1, 2, 3, 4, 5, 6, 7, 8, 9, 10, 11, 12] (by decide) emC_tm_b (bk_ad _ _ _ _) emP_tm_b rfl rfl (Nat.le_of_ble_eq_true rfl) ⟨Nat.zero_le _, Nat.zero_le _⟩ dX2_part_30 (pc' := 33) rfl ?_
        refine zw_gen_tm_b (bk_draft b 2 y) (fun b_1 hg_1 => ?_)
        have h2_b_1 : b_1.2 = b.2 := by rw [← hg_1]; exact rfl
        refine zw_aload_n (i := 0) (x := a0) E 0 dX2_part_33 rfl rfl (pc' := 34) rfl ?_
        refine zw_get (v := .ref (ab 0)) E 0 0 iX2_part_X2 fX2_part_10 rfl rfl (by decide) rfl rfl dX2_part_34 (pc' := 37) rfl ?_
        refine zw_aload_n (i := 0) (x := a0) E 0 dX2_part_37 rfl rfl (pc' := 38) rfl ?_
        refine zw_get (v := .ref (ab 0)) E 0 0 iX2_part_X2 fX2_part_10 rfl rfl (by decide) rfl rfl dX2_part_38 (pc' := 41) rfl ?_
        refine zw_get (v := .ref (ab 3)) E 1 2 iX2_part_X0 fX2_part_40 rfl rfl (by decide) rfl rfl dX2_part_41 (pc' := 44) rfl ?_
        refine zw_iload_n (i := 2) (x := f) E 2 dX2_part_44 rfl rfl (pc' := 45) rfl ?_
        refine zw_callVv E (As := [.ref (ab 3), .int f]) (rest := []) (ws' := (tm_W K a0 ab al ao (bk_put b_1 2 f) d o)) (qX0_put_2 l D K ab b_1 f (by rw [h2_b_1]; exact hs)) (cwV 2 E.2.2.2.2.1 gX2_part_X0_put rfl rfl rfl (by decide +kernel) ⟨Nat.le_of_ble_eq_true rfl, Nat.le_of_ble_eq_true rfl⟩) 0 rfl rfl rfl [1, 2, 3, 4, 5, 6, 7, 8, 9, 10, 11, 12] (by decide) emC_tm_b (bk_ad _ _ _ _) emP_tm_b rfl rfl (Nat.le_of_ble_eq_true rfl) ⟨Nat.zero_le _, Nat.zero_le _⟩ dX2_part_45 (pc' := 48) rfl ?_
        refine zw_gen_tm_b (bk_put b_1 2 f) (fun b_2 hg_2 => ?_)
        have h2_b_2 : b_2.2 = b.2 := by rw [← hg_2]; exact h2_b_1
        refine zw_aload_n (i := 0) (x := a0) E 0 dX2_part_48 rfl rfl (pc' := 49) rfl ?_
        refine zw_get (v := .ref (ab 0)) E 0 0 iX2_part_X2 fX2_part_10 rfl rfl (by decide) rfl rfl dX2_part_49 (pc' := 52) rfl ?_
        refine zw_aload_n (i := 0) (x := a0) E 0 dX2_part_52 rfl rfl (pc' := 53) rfl ?_
        refine zw_get (v := .ref (ab 0)) E 0 0 iX2_part_X2 fX2_part_10 rfl rfl (by decide) rfl rfl dX2_part_53 (pc' := 56) rfl ?_
        refine zw_get (v := .ref (ab 5)) E 1 4 iX2_part_X0 fX2_part_48 rfl rfl (by decide) rfl rfl dX2_part_56 (pc' := 59) rfl ?_
        refine zw_iload_n (i := 3) (x := a) E 3 dX2_part_59 rfl rfl (pc' := 60) rfl ?_
        refine zw_callVv E (As := [.ref (ab 5), .int a]) (rest := []) (ws' := (tm_W K a0 ab al ao (bk_put b_2 4 a) d o)) (qX0_put_4 l D K ab b_2 a (by rw [h2_b_2]; exact hs)) (cwV 2 E.2.2.2.2.1 gX2_part_X0_put rfl rfl rfl (by decide +kernel) ⟨Nat.le_of_ble_eq_true rfl, Nat.le_of_ble_eq_true rfl⟩) 0 rfl rfl rfl [1, 2, 3, 4, 5, 6, 7, 8, 9, 10, 11, 12] (by decide) emC_tm_b (bk_ad _ _ _ _) emP_tm_b rfl rfl (Nat.le_of_ble_eq_true rfl) ⟨Nat.zero_le _, Nat.zero_le _⟩ dX2_part_60 (pc' := 63) rfl ?_
        refine zw_gen_tm_b (bk_put b_2 4 a) (fun b_3 hg_3 => ?_)
        have h2_b_3 : b_3.2 = b.2 := by rw [← hg_3]; exact h2_b_2
        have ex2 : bk_part b y f a = b_3 := by unfold bk_part; rw [hg_1, hg_2, hg_3]
        have hok2 : td_ok b_3 2 := by rw [← ex2]; exact hok c_1 c_2 c_3
        refine zw_aload_n (i := 0) (x := a0) E 0 dX2_part_63 rfl rfl (pc' := 64) rfl ?_
        refine zw_aload_n (i := 0) (x := a0) E 0 dX2_part_64 rfl rfl (pc' := 65) rfl ?_
        refine zw_iconst (v := 2) E dX2_part_65 (by decide) (pc' := 66) rfl ?_
        refine zw_callIw E (r := r_take b_3 d 2) (As := [.int 2]) (rest := [.ref a0]) (ws' := (tm_W K a0 ab al ao (b_take b_3 d 2) ((td_show b_3 d 2).2) o)) (qX2_takeDraft l D K a0 ab al ao b_3 d o 2 (by decide) (by rw [h2_b_3]; exact hs) (by rw [h2_b_3]; omega) (by rw [h2_b_3]; exact hfn) hok2) (cwV 1 E.2.2.2.2.1 gX2_part_X2_takeDraft rfl rfl rfl (by decide +kernel) ⟨Nat.le_of_ble_eq_true rfl, Nat.le_of_ble_eq_true rfl⟩) 0 rfl rfl rfl (tm_ad _ _ _ _ _ _ _ _ _ _ _) rfl rfl (Nat.le_of_ble_eq_true rfl) ⟨Nat.zero_le _, Nat.zero_le _⟩ dX2_part_66 (pc' := 69) rfl ?_
        refine zw_gen_tm_b (b_take b_3 d 2) (fun b_4 hg_4 => ?_)
        refine zw_gen_tm_d ((td_show b_3 d 2).2) (fun d_5 hg_5 => ?_)
        refine zw_callIw E (r := z_at 80 (b_4.1 7) (r_take b_3 d 2)) (As := [.int (r_take b_3 d 2)]) (rest := []) (ws' := (tm_W K a0 ab al ao b_4 d_5 o)) (qX2_firstMadeBy l D K a0 ab al ao b_4 d_5 o (r_take b_3 d 2)) (cwV 1 E.2.2.2.2.1 gX2_part_X2_firstMadeBy rfl rfl rfl (by decide +kernel) ⟨Nat.le_of_ble_eq_true rfl, Nat.le_of_ble_eq_true rfl⟩) 0 rfl rfl rfl rfl rfl rfl (Nat.le_of_ble_eq_true rfl) ⟨Nat.zero_le _, Nat.zero_le _⟩ dX2_part_69 (pc' := 72) rfl ?_
        exact zw_iret E hr hlk dX2_part_72 (by unfold r_part1; rw [if_pos c_1, if_pos c_2, if_pos c_3, ex2, hg_4]) (zw_tm2 (by unfold b_part1; rw [if_pos c_1, if_pos c_2, if_pos c_3, ex2, hg_4]) (by unfold d_part1; rw [if_pos c_1, if_pos c_2, if_pos c_3, ex2, hg_5]) rfl)
      · skip
        refine zw_iconst (v := (-1)) E dX2_part_22 (by decide) (pc' := 23) rfl ?_
        exact zw_iret E hr hlk dX2_part_23 (by unfold r_part1; rw [if_pos c_1, if_pos c_2, if_neg c_3]) (zw_tm2 (by unfold b_part1; rw [if_pos c_1, if_pos c_2, if_neg c_3]) (by unfold d_part1; rw [if_pos c_1, if_pos c_2, if_neg c_3]) rfl)
