/-! the book: mean -/
def zp : Nat → Int32
  | 0 => -1
  | j + 1 => nI j
theorem zp_dec (j : Nat) : nI j + Int32.ofInt (-1) = zp j := by
  cases j with
  | zero => decide
  | succ j => exact zw_dec1 j
theorem zp_sub (n : Nat) : nI n - 1 = zp n := by
  cases n with
  | zero => decide
  | succ j => exact nI_pred j
/-- the average, from the entries below j, with so much summed, so many years, these bits seen -/
def mn (b : Bk) (y corn : Int32) : Nat → Int32 → Nat → Int32 → Int32
  | 0, sm, ys, _ => if nI ys = 0 then -1 else (2 * sm + nI ys) / (2 * nI ys)
  | j + 1, sm, ys, sn =>
    if b.1 0 j = 0 then if b.1 2 j = corn then if y - b.1 1 j < 1 then mn b y corn j sm ys sn else if 7 < y - b.1 1 j then mn b y corn j sm ys sn else
      if (sn >>> ((y - b.1 1 j) &&& 31)) &&& 1 = 0 then mn b y corn j (sm + b.1 4 j) (ys + 1) (sn ||| 1 <<< ((y - b.1 1 j) &&& 31)) else mn b y corn j sm ys sn
    else mn b y corn j sm ys sn else mn b y corn j sm ys sn
theorem mn_div {ys : Nat} (h : ys ≤ 80) (h0 : ¬ nI ys = 0) : ¬ (2 : Int32) * nI ys = 0 := by
  rw [show (2 : Int32) = nI 2 from rfl, pk_mul]
  have : ys ≠ 0 := fun q => h0 (by rw [q]; rfl)
  exact nI_ne0 (by omega) (by omega)
def bk_mean (b : Bk) (k : Nat) (y corn : Int32) : Int32 := mn b y corn k 0 0 0
theorem fX0_mean_15 : Cond.fieldLink RX0 15 "TitheMap$Book" "year" "[I" ∈ wsX0_mean := by decide +kernel
theorem fX0_mean_18 : Cond.fieldLink RX0 18 "TitheMap$Book" "first" "[I" ∈ wsX0_mean := by decide +kernel
theorem fX0_mean_24 : Cond.fieldLink RX0 24 "TitheMap$Book" "amount" "[I" ∈ wsX0_mean := by decide +kernel
theorem fX0_mean_9 : Cond.fieldLink RX0 9 "TitheMap$Book" "act" "[I" ∈ wsX0_mean := by decide +kernel
theorem iX0_mean_X0 : ∀ w ∈ wsX00, w ∈ wsX0_mean := by decide +kernel
set_option maxHeartbeats 4000000 in
set_option maxRecDepth 100000 in
theorem lX0_mean {l : Launch} {D : va_G} {K : Nat → ClassId} {p : Program} {e : Env} {s : State} {m : MethodId} {below : List Frame} {meth : Method} {c : Code} {A : Nat → Prop} {args : Array Value} (E : zw_E p s m args c cX0_mean 9 RX0 wsX0_mean D (zT K) A) (hr : meth.sig.returnType = some .int) (hlk : meth.locks = false) (ab : Nat → Nat) (b : Bk) (n : Nat) (hn : n ≤ 80) (y corn : Int32) : ∀ (j : Nat) (sm : Int32) (ys : Nat) (sn : Int32), ys + j ≤ n → zw_W p l e rmX0_mean s m args below meth c 9 D A 0 0 (zw_Qi D A below args s (mn b y corn j sm ys sn) (bk_W K ab b)) 19 [(0, .ref (ab 0)), (1, .int (nI n)), (2, .int y), (3, .int corn), (4, .int sm), (5, .int (nI ys)), (6, .int sn), (7, .int (zp j))] [] (bk_W K ab b) := by
  intro j
  induction j with
  | zero =>
    intro sm ys sn hle
    refine zw_iload (x := zp 0) E 7 dX0_mean_19 rfl (pc' := 21) rfl ?_
    refine zw_if_lt (tgt := 109) E dX0_mean_21 (by decide) (pc' := 24) rfl (fun c_1 => ?_) (fun c_1 => ?_)
    · skip
      refine zw_iload (x := nI ys) E 5 dX0_mean_109 rfl (pc' := 111) rfl ?_
      refine zw_if_ne (tgt := 118) E dX0_mean_111 (by decide) (pc' := 114) rfl (fun c_2 => ?_) (fun c_2 => ?_)
      · skip
        refine zw_iconst (v := 2) E dX0_mean_118 (by decide) (pc' := 119) rfl ?_
        refine zw_iload (x := sm) E 4 dX0_mean_119 rfl (pc' := 121) rfl ?_
        refine zw_imul E dX0_mean_121 (pc' := 122) rfl ?_
        refine zw_iload (x := nI ys) E 5 dX0_mean_122 rfl (pc' := 124) rfl ?_
        refine zw_iadd E dX0_mean_124 (pc' := 125) rfl ?_
        refine zw_iconst (v := 2) E dX0_mean_125 (by decide) (pc' := 126) rfl ?_
        refine zw_iload (x := nI ys) E 5 dX0_mean_126 rfl (pc' := 128) rfl ?_
        refine zw_imul E dX0_mean_128 (pc' := 129) rfl ?_
        refine zw_idiv E dX0_mean_129 (mn_div (by omega) c_2) (pc' := 130) rfl ?_
        exact zw_iret E hr hlk dX0_mean_130 (by rw [mn, if_neg c_2]) rfl
      · skip
        refine zw_iconst (v := (-1)) E dX0_mean_114 (by decide) (pc' := 115) rfl ?_
        refine zw_goto (tgt := 130) E dX0_mean_115 (by decide) ?_
        exact zw_iret E hr hlk dX0_mean_130 (by rw [mn, if_pos c_2]) rfl
    · exact absurd (by decide) c_1
  | succ j ih =>
    intro sm ys sn hle
    have hj : j < 80 := by omega
    show zw_W p l e rmX0_mean s m args below meth c 9 D A 0 0 (zw_Qi D A below args s (mn b y corn (j + 1) sm ys sn) (bk_W K ab b)) 19 [(0, .ref (ab 0)), (1, .int (nI n)), (2, .int y), (3, .int corn), (4, .int sm), (5, .int (nI ys)), (6, .int sn), (7, .int (nI j))] [] (bk_W K ab b)
    refine zw_iload (x := nI j) E 7 dX0_mean_19 rfl (pc' := 21) rfl ?_
    refine zw_if_lt (tgt := 109) E dX0_mean_21 (by decide) (pc' := 24) rfl (fun c_1 => ?_) (fun c_1 => ?_)
    · exact absurd c_1 (nI_pos (by omega))
    · skip
      refine zw_iload_n (i := 2) (x := y) E 2 dX0_mean_24 rfl rfl (pc' := 25) rfl ?_
      refine zw_aload_n (i := 0) (x := ab 0) E 0 dX0_mean_25 rfl rfl (pc' := 26) rfl ?_
      refine zw_get (v := .ref (ab 2)) E 0 1 iX0_mean_X0 fX0_mean_15 rfl rfl (by decide) rfl rfl dX0_mean_26 (pc' := 29) rfl ?_
      refine zw_iload (x := nI j) E 7 dX0_mean_29 rfl (pc' := 31) rfl ?_
      refine zw_iald (j := j) (x := b.1 1 j) E 2 0 rfl rfl (vp_in_nI hj (by decide)) (zw_clamp hj (by decide)) rfl dX0_mean_31 (pc' := 32) rfl ?_
      refine zw_isub E dX0_mean_32 (pc' := 33) rfl ?_
      refine zw_istore (lv' := [(8, .int (y - (b.1 1 j))), (0, .ref (ab 0)), (1, .int (nI n)), (2, .int y), (3, .int corn), (4, .int sm), (5, .int (nI ys)), (6, .int sn), (7, .int (nI j))]) E dX0_mean_33 (by decide) rfl (pc' := 35) rfl ?_
      refine zw_aload_n (i := 0) (x := ab 0) E 1 dX0_mean_35 rfl rfl (pc' := 36) rfl ?_
      refine zw_get (v := .ref (ab 1)) E 0 0 iX0_mean_X0 fX0_mean_9 rfl rfl (by decide) rfl rfl dX0_mean_36 (pc' := 39) rfl ?_
      refine zw_iload (x := nI j) E 8 dX0_mean_39 rfl (pc' := 41) rfl ?_
      refine zw_iald (j := j) (x := b.1 0 j) E 1 0 rfl rfl (vp_in_nI hj (by decide)) (zw_clamp hj (by decide)) rfl dX0_mean_41 (pc' := 42) rfl ?_
      refine zw_if_ne (tgt := 103) E dX0_mean_42 (by decide) (pc' := 45) rfl (fun c_2 => ?_) (fun c_2 => ?_)
      · skip
        refine zw_iinc (x := nI j) (v := zp j) (lv' := [(7, .int (zp j)), (8, .int (y - (b.1 1 j))), (0, .ref (ab 0)), (1, .int (nI n)), (2, .int y), (3, .int corn), (4, .int sm), (5, .int (nI ys)), (6, .int sn)]) E 8 dX0_mean_103 rfl (zp_dec j) (by decide) rfl (pc' := 106) rfl ?_
        refine zw_goto (tgt := 19) E dX0_mean_106 (by decide) ?_
        have e1 : mn b y corn (j + 1) sm ys sn = mn b y corn j sm ys sn := by rw [mn, if_neg c_2]
        rw [e1]
        refine zw_sub [2, 3, 4, 5, 6, 7, 8, 0] (lv' := [(0, .ref (ab 0)), (1, .int (nI n)), (2, .int y), (3, .int corn), (4, .int sm), (5, .int (nI ys)), (6, .int sn), (7, .int (zp j))]) rfl ?_
        exact ih _ _ _ (by omega)
      · skip
        refine zw_aload_n (i := 0) (x := ab 0) E 1 dX0_mean_45 rfl rfl (pc' := 46) rfl ?_
        refine zw_get (v := .ref (ab 3)) E 0 2 iX0_mean_X0 fX0_mean_18 rfl rfl (by decide) rfl rfl dX0_mean_46 (pc' := 49) rfl ?_
        refine zw_iload (x := nI j) E 8 dX0_mean_49 rfl (pc' := 51) rfl ?_
        refine zw_iald (j := j) (x := b.1 2 j) E 3 0 rfl rfl (vp_in_nI hj (by decide)) (zw_clamp hj (by decide)) rfl dX0_mean_51 (pc' := 52) rfl ?_
        refine zw_iload_n (i := 3) (x := corn) E 4 dX0_mean_52 rfl rfl (pc' := 53) rfl ?_
        refine zw_icmp_ne (tgt := 103) E dX0_mean_53 (by decide) (pc' := 56) rfl (fun c_3 => ?_) (fun c_3 => ?_)
        · skip
          refine zw_iinc (x := nI j) (v := zp j) (lv' := [(7, .int (zp j)), (8, .int (y - (b.1 1 j))), (0, .ref (ab 0)), (1, .int (nI n)), (2, .int y), (3, .int corn), (4, .int sm), (5, .int (nI ys)), (6, .int sn)]) E 8 dX0_mean_103 rfl (zp_dec j) (by decide) rfl (pc' := 106) rfl ?_
          refine zw_goto (tgt := 19) E dX0_mean_106 (by decide) ?_
          have e1 : mn b y corn (j + 1) sm ys sn = mn b y corn j sm ys sn := by rw [mn, if_pos c_2, if_neg c_3]
          rw [e1]
          refine zw_sub [2, 3, 4, 5, 6, 7, 8, 0] (lv' := [(0, .ref (ab 0)), (1, .int (nI n)), (2, .int y), (3, .int corn), (4, .int sm), (5, .int (nI ys)), (6, .int sn), (7, .int (zp j))]) rfl ?_
          exact ih _ _ _ (by omega)
        · skip
          refine zw_iload (x := y - (b.1 1 j)) E 0 dX0_mean_56 rfl (pc' := 58) rfl ?_
          refine zw_iconst (v := 1) E dX0_mean_58 (by decide) (pc' := 59) rfl ?_
          refine zw_icmp_lt (tgt := 103) E dX0_mean_59 (by decide) (pc' := 62) rfl (fun c_4 => ?_) (fun c_4 => ?_)
          · skip
            refine zw_iinc (x := nI j) (v := zp j) (lv' := [(7, .int (zp j)), (8, .int (y - (b.1 1 j))), (0, .ref (ab 0)), (1, .int (nI n)), (2, .int y), (3, .int corn), (4, .int sm), (5, .int (nI ys)), (6, .int sn)]) E 8 dX0_mean_103 rfl (zp_dec j) (by decide) rfl (pc' := 106) rfl ?_
            refine zw_goto (tgt := 19) E dX0_mean_106 (by decide) ?_
            have e1 : mn b y corn (j + 1) sm ys sn = mn b y corn j sm ys sn := by rw [mn, if_pos c_2, if_pos c_3, if_pos c_4]
            rw [e1]
            refine zw_sub [2, 3, 4, 5, 6, 7, 8, 0] (lv' := [(0, .ref (ab 0)), (1, .int (nI n)), (2, .int y), (3, .int corn), (4, .int sm), (5, .int (nI ys)), (6, .int sn), (7, .int (zp j))]) rfl ?_
            exact ih _ _ _ (by omega)
          · skip
            refine zw_iload (x := y - (b.1 1 j)) E 0 dX0_mean_62 rfl (pc' := 64) rfl ?_
            refine zw_bipush (v := 7) E dX0_mean_64 (by decide) (pc' := 66) rfl ?_
            refine zw_icmp_gt (tgt := 103) E dX0_mean_66 (by decide) (pc' := 69) rfl (fun c_5 => ?_) (fun c_5 => ?_)
            · skip
              refine zw_iinc (x := nI j) (v := zp j) (lv' := [(7, .int (zp j)), (8, .int (y - (b.1 1 j))), (0, .ref (ab 0)), (1, .int (nI n)), (2, .int y), (3, .int corn), (4, .int sm), (5, .int (nI ys)), (6, .int sn)]) E 8 dX0_mean_103 rfl (zp_dec j) (by decide) rfl (pc' := 106) rfl ?_
              refine zw_goto (tgt := 19) E dX0_mean_106 (by decide) ?_
              have e1 : mn b y corn (j + 1) sm ys sn = mn b y corn j sm ys sn := by rw [mn, if_pos c_2, if_pos c_3, if_neg c_4, if_pos c_5]
              rw [e1]
              refine zw_sub [2, 3, 4, 5, 6, 7, 8, 0] (lv' := [(0, .ref (ab 0)), (1, .int (nI n)), (2, .int y), (3, .int corn), (4, .int sm), (5, .int (nI ys)), (6, .int sn), (7, .int (zp j))]) rfl ?_
              exact ih _ _ _ (by omega)
            · skip
              refine zw_iload (x := sn) E 7 dX0_mean_69 rfl (pc' := 71) rfl ?_
              refine zw_iload (x := y - (b.1 1 j)) E 0 dX0_mean_71 rfl (pc' := 73) rfl ?_
              refine zw_ishr E dX0_mean_73 (pc' := 74) rfl ?_
              refine zw_iconst (v := 1) E dX0_mean_74 (by decide) (pc' := 75) rfl ?_
              refine zw_iand E dX0_mean_75 (pc' := 76) rfl ?_
              refine zw_if_ne (tgt := 103) E dX0_mean_76 (by decide) (pc' := 79) rfl (fun c_6 => ?_) (fun c_6 => ?_)
              · skip
                refine zw_iinc (x := nI j) (v := zp j) (lv' := [(7, .int (zp j)), (8, .int (y - (b.1 1 j))), (0, .ref (ab 0)), (1, .int (nI n)), (2, .int y), (3, .int corn), (4, .int sm), (5, .int (nI ys)), (6, .int sn)]) E 8 dX0_mean_103 rfl (zp_dec j) (by decide) rfl (pc' := 106) rfl ?_
                refine zw_goto (tgt := 19) E dX0_mean_106 (by decide) ?_
                have e1 : mn b y corn (j + 1) sm ys sn = mn b y corn j sm ys sn := by rw [mn, if_pos c_2, if_pos c_3, if_neg c_4, if_neg c_5, if_neg c_6]
                rw [e1]
                refine zw_sub [2, 3, 4, 5, 6, 7, 8, 0] (lv' := [(0, .ref (ab 0)), (1, .int (nI n)), (2, .int y), (3, .int corn), (4, .int sm), (5, .int (nI ys)), (6, .int sn), (7, .int (zp j))]) rfl ?_
                exact ih _ _ _ (by omega)
              · skip
                refine zw_iload (x := sn) E 7 dX0_mean_79 rfl (pc' := 81) rfl ?_
                refine zw_iconst (v := 1) E dX0_mean_81 (by decide) (pc' := 82) rfl ?_
                refine zw_iload (x := y - (b.1 1 j)) E 0 dX0_mean_82 rfl (pc' := 84) rfl ?_
                refine zw_ishl E dX0_mean_84 (pc' := 85) rfl ?_
                refine zw_ior E dX0_mean_85 (pc' := 86) rfl ?_
                refine zw_istore (lv' := [(6, .int (sn ||| (1 <<< ((y - (b.1 1 j)) &&& 31)))), (8, .int (y - (b.1 1 j))), (0, .ref (ab 0)), (1, .int (nI n)), (2, .int y), (3, .int corn), (4, .int sm), (5, .int (nI ys)), (7, .int (nI j))]) E dX0_mean_86 (by decide) rfl (pc' := 88) rfl ?_
                refine zw_iload (x := sm) E 6 dX0_mean_88 rfl (pc' := 90) rfl ?_
                refine zw_aload_n (i := 0) (x := ab 0) E 2 dX0_mean_90 rfl rfl (pc' := 91) rfl ?_
                refine zw_get (v := .ref (ab 5)) E 0 4 iX0_mean_X0 fX0_mean_24 rfl rfl (by decide) rfl rfl dX0_mean_91 (pc' := 94) rfl ?_
                refine zw_iload (x := nI j) E 8 dX0_mean_94 rfl (pc' := 96) rfl ?_
                refine zw_iald (j := j) (x := b.1 4 j) E 5 0 rfl rfl (vp_in_nI hj (by decide)) (zw_clamp hj (by decide)) rfl dX0_mean_96 (pc' := 97) rfl ?_
                refine zw_iadd E dX0_mean_97 (pc' := 98) rfl ?_
                refine zw_istore (lv' := [(4, .int (sm + (b.1 4 j))), (6, .int (sn ||| (1 <<< ((y - (b.1 1 j)) &&& 31)))), (8, .int (y - (b.1 1 j))), (0, .ref (ab 0)), (1, .int (nI n)), (2, .int y), (3, .int corn), (5, .int (nI ys)), (7, .int (nI j))]) E dX0_mean_98 (by decide) rfl (pc' := 100) rfl ?_
                refine zw_iinc (x := nI ys) (v := nI (ys + 1)) (lv' := [(5, .int (nI (ys + 1))), (4, .int (sm + (b.1 4 j))), (6, .int (sn ||| (1 <<< ((y - (b.1 1 j)) &&& 31)))), (8, .int (y - (b.1 1 j))), (0, .ref (ab 0)), (1, .int (nI n)), (2, .int y), (3, .int corn), (7, .int (nI j))]) E 7 dX0_mean_100 rfl (zw_inc1 ys) (by decide) rfl (pc' := 103) rfl ?_
                refine zw_iinc (x := nI j) (v := zp j) (lv' := [(7, .int (zp j)), (5, .int (nI (ys + 1))), (4, .int (sm + (b.1 4 j))), (6, .int (sn ||| (1 <<< ((y - (b.1 1 j)) &&& 31)))), (8, .int (y - (b.1 1 j))), (0, .ref (ab 0)), (1, .int (nI n)), (2, .int y), (3, .int corn)]) E 8 dX0_mean_103 rfl (zp_dec j) (by decide) rfl (pc' := 106) rfl ?_
                refine zw_goto (tgt := 19) E dX0_mean_106 (by decide) ?_
                have e1 : mn b y corn (j + 1) sm ys sn = mn b y corn j (sm + (b.1 4 j)) (ys + 1) (sn ||| (1 <<< ((y - (b.1 1 j)) &&& 31))) := by rw [mn, if_pos c_2, if_pos c_3, if_neg c_4, if_neg c_5, if_pos c_6]
                rw [e1]
                refine zw_sub [5, 6, 7, 8, 2, 1, 3, 0] (lv' := [(0, .ref (ab 0)), (1, .int (nI n)), (2, .int y), (3, .int corn), (4, .int (sm + (b.1 4 j))), (5, .int (nI (ys + 1))), (6, .int (sn ||| (1 <<< ((y - (b.1 1 j)) &&& 31)))), (7, .int (zp j))]) rfl ?_
                exact ih _ _ _ (by omega)

set_option maxHeartbeats 4000000 in
set_option maxRecDepth 100000 in
/-- mean(k, y, corn) -/
theorem qX0_mean (l : Launch) (D : va_G) (K : Nat → ClassId) (ab : Nat → Nat) (b : Bk) (n : Nat) (hn : n ≤ 80) (y corn : Int32) : zw_I l yX0_mean wsX0_mean rmX0_mean D (zT K) [.ref (ab 0), .int (nI n), .int y, .int corn] (bk_W K ab b) (bk_mean b n y corn) (bk_W K ab b) := by
  refine zw_ofI (cc := cX0_mean) (nL := 9) (ret := (some .int)) (own := RX0) (lv := [(0, .ref (ab 0)), (1, .int (nI n)), (2, .int y), (3, .int corn)]) (by decide) rfl (Nat.le_of_ble_eq_true rfl) rfl rfl ?_
  intro p e s m below meth c A E hr hlk
  refine zw_iconst (v := 0) E dX0_mean_0 (by decide) (pc' := 1) rfl ?_
  refine zw_istore (lv' := [(4, .int 0), (0, .ref (ab 0)), (1, .int (nI n)), (2, .int y), (3, .int corn)]) E dX0_mean_1 (by decide) rfl (pc' := 3) rfl ?_
  refine zw_iconst (v := 0) E dX0_mean_3 (by decide) (pc' := 4) rfl ?_
  refine zw_istore (lv' := [(5, .int 0), (4, .int 0), (0, .ref (ab 0)), (1, .int (nI n)), (2, .int y), (3, .int corn)]) E dX0_mean_4 (by decide) rfl (pc' := 6) rfl ?_
  refine zw_iconst (v := 0) E dX0_mean_6 (by decide) (pc' := 7) rfl ?_
  refine zw_istore (lv' := [(6, .int 0), (5, .int 0), (4, .int 0), (0, .ref (ab 0)), (1, .int (nI n)), (2, .int y), (3, .int corn)]) E dX0_mean_7 (by decide) rfl (pc' := 9) rfl ?_
  refine zw_iload_n (i := 1) (x := nI n) E 4 dX0_mean_9 rfl rfl (pc' := 10) rfl ?_
  refine zw_bipush (v := 80) E dX0_mean_10 (by decide) (pc' := 12) rfl ?_
  refine zw_mmin E (index := 67) (by decide +kernel) (by decide +kernel) (by decide +kernel) (by decide +kernel) (Nat.le_of_ble_eq_true rfl) (Nat.le_of_ble_eq_true rfl) (Nat.zero_le _) (Nat.zero_le _) dX0_mean_12 (pc' := 15) rfl ?_
  refine zw_topi (x' := nI n) (if_neg (Int32.not_lt.mpr (nI_le (b := 80) hn (by decide)))) ?_
  refine zw_iconst (v := 1) E dX0_mean_15 (by decide) (pc' := 16) rfl ?_
  refine zw_isub E dX0_mean_16 (pc' := 17) rfl ?_
  refine zw_topi (x' := zp n) (zp_sub n) ?_
  refine zw_istore (lv' := [(7, .int (zp n)), (6, .int 0), (5, .int 0), (4, .int 0), (0, .ref (ab 0)), (1, .int (nI n)), (2, .int y), (3, .int corn)]) E dX0_mean_17 (by decide) rfl (pc' := 19) rfl ?_
  refine zw_sub [4, 5, 6, 7, 3, 2, 1, 0] (lv' := [(0, .ref (ab 0)), (1, .int (nI n)), (2, .int y), (3, .int corn), (4, .int 0), (5, .int 0), (6, .int 0), (7, .int (zp n))]) rfl ?_
  exact lX0_mean E hr hlk ab b n hn y corn n 0 0 0 (by omega)
