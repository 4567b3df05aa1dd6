/-! the reference: takes, taken, and the six acts -/
def g_mk (g : Md) (n : Nat) : Md := ((if nI n ≤ 0 then g.1 else up2 g.1 6 (g.2.2.1 0) (nI (g.2.2.1 1))), g.2)
def g_t3 (g : Md) (n : Nat) : Md := md_sc (md_sc g 0 (g.2.2.1 0 + 1)) 1 (g.2.2.1 1 + n)
def g_tw (g : Md) (n : Nat) : Int32 × Md := g_works (g_t3 (g_mk g n) n) (g.2.2.1 0 + 1) 200 (-1)
def g_take (g : Md) (n : Nat) : Md := md_sc (md_sc (g_tw g n).2 0 (g.2.2.1 0)) 1 (g.2.2.1 1)
theorem g_tw_sc (g : Md) (n : Nat) : (g_tw g n).2.2.2.1 = (g_t3 (g_mk g n) n).2.2.1 := (kept_works _ _ _ _).1
theorem g_tw_01 (g : Md) (n : Nat) : (g_tw g n).1 = 0 ∨ (g_tw g n).1 = 1 := wky_01 _ _ _ _ _
theorem zw_sub2 (n : Nat) : nI (n + 2) - 2 = nI n := (pk_sub (a := n + 2) (b := 2) (by omega)).trans (congrArg nI (by omega))
theorem zw_subn (n k : Nat) : nI (n + k) - nI k = nI n := (pk_sub (a := n + k) (b := k) (by omega)).trans (congrArg nI (by omega))
theorem fX3_takes_28 : Cond.fieldLink RX3 28 "TitheMapModel" "made" "[I" ∈ wsX3_takes := by decide +kernel
theorem fX3_takes_72 : Cond.fieldLink RX3 72 "TitheMapModel" "entries" "I" ∈ wsX3_takes := by decide +kernel
theorem fX3_takes_80 : Cond.fieldLink RX3 80 "TitheMapModel" "fields" "I" ∈ wsX3_takes := by decide +kernel
theorem iX3_takes_X3 : ∀ w ∈ wsX30, w ∈ wsX3_takes := by decide +kernel
set_option maxHeartbeats 4000000 in
set_option maxRecDepth 100000 in
theorem lX3_takes {l : Launch} {D : va_G} {K : Nat → ClassId} {p : Program} {e : Env} {s : State} {m : MethodId} {below : List Frame} {meth : Method} {c : Code} {A : Nat → Prop} {args : Array Value} (E : zw_E p s m args c cX3_takes 3 RX3 wsX3_takes D (zT K) A) (hr : meth.sig.returnType = some .boolean) (hlk : meth.locks = false) (am : Nat → Nat) (g : Md) (n : Nat) (hn : g.2.2.1 0 + 1 ≤ 80) (hw : wk_ok (g_t3 (g_mk g n) n) (g.2.2.1 0 + 1)) : zw_W p l e rmX3_takes s m args below meth c 3 D A 0 0 (zw_Qi D A below args s (g_tw g n).1 (md_W K am (g_take g n))) 17 [(0, .ref (am 0)), (1, .int (nI n))] [] (md_W K am (g_mk g n)) := by
  refine zw_aload_n (i := 0) (x := am 0) E 0 dX3_takes_17 rfl rfl (pc' := 18) rfl ?_
  refine zw_dup E dX3_takes_18 rfl (pc' := 19) rfl ?_
  refine zw_get (v := .int (nI (g.2.2.1 0))) E 0 0 iX3_takes_X3 fX3_takes_72 rfl rfl (by decide) rfl rfl dX3_takes_19 (pc' := 22) rfl ?_
  refine zw_iconst (v := 1) E dX3_takes_22 (by decide) (pc' := 23) rfl ?_
  refine zw_iadd E dX3_takes_23 (pc' := 24) rfl ?_
  refine zw_topi (x' := nI (g.2.2.1 0 + 1)) (nI_1 _) ?_
  refine zw_putf (v := .int (nI (g.2.2.1 0 + 1))) (ty := .int) (ws' := (md_W K am (md_sc (g_mk g n) 0 (g.2.2.1 0 + 1)))) E 0 0 iX3_takes_X3 tyX3_ok nmX3 fX3_takes_72 rfl rfl (by decide) rfl rfl rfl rfl rfl (Nat.le_of_ble_eq_true rfl) rfl dX3_takes_24 (pc' := 27) rfl ?_
  refine zw_aload_n (i := 0) (x := am 0) E 0 dX3_takes_27 rfl rfl (pc' := 28) rfl ?_
  refine zw_dup E dX3_takes_28 rfl (pc' := 29) rfl ?_
  refine zw_get (v := .int (nI (g.2.2.1 1))) E 0 1 iX3_takes_X3 fX3_takes_80 rfl rfl (by decide) rfl rfl dX3_takes_29 (pc' := 32) rfl ?_
  refine zw_iload_n (i := 1) (x := nI n) E 1 dX3_takes_32 rfl rfl (pc' := 33) rfl ?_
  refine zw_iadd E dX3_takes_33 (pc' := 34) rfl ?_
  refine zw_topi (x' := nI (g.2.2.1 1 + n)) (nI_add _ n) ?_
  refine zw_putf (v := .int (nI (g.2.2.1 1 + n))) (ty := .int) (ws' := (md_W K am (md_sc (md_sc (g_mk g n) 0 (g.2.2.1 0 + 1)) 1 (g.2.2.1 1 + n)))) E 0 1 iX3_takes_X3 tyX3_ok nmX3 fX3_takes_80 rfl rfl (by decide) rfl rfl rfl rfl rfl (Nat.le_of_ble_eq_true rfl) rfl dX3_takes_34 (pc' := 37) rfl ?_
  refine zw_aload_n (i := 0) (x := am 0) E 0 dX3_takes_37 rfl rfl (pc' := 38) rfl ?_
  refine zw_aload_n (i := 0) (x := am 0) E 0 dX3_takes_38 rfl rfl (pc' := 39) rfl ?_
  refine zw_get (v := .int (nI (g.2.2.1 0 + 1))) E 0 0 iX3_takes_X3 fX3_takes_72 rfl rfl (by decide) rfl rfl dX3_takes_39 (pc' := 42) rfl ?_
  refine zw_sipush (v := 200) E dX3_takes_42 (by decide) (pc' := 45) rfl ?_
  refine zw_topi (x' := nI 200) rfl ?_
  refine zw_iconst (v := (-1)) E dX3_takes_45 (by decide) (pc' := 46) rfl ?_
  refine zw_callIw E (r := (g_tw g n).1) (As := [.int (nI (g.2.2.1 0 + 1)), .int (nI 200), .int (-1)]) (rest := []) (ws' := (md_W K am ((g_tw g n).2))) (qX3_works l D K am (md_sc (md_sc (g_mk g n) 0 (g.2.2.1 0 + 1)) 1 (g.2.2.1 1 + n)) (g.2.2.1 0 + 1) hn 200 (by decide) (-1) hw) (cwV 3 E.2.2.2.2.1 gX3_takes_X3_works rfl rfl rfl (by decide +kernel) ⟨Nat.le_of_ble_eq_true rfl, Nat.le_of_ble_eq_true rfl⟩) 0 rfl rfl rfl (md_ad _ _ _ _) rfl rfl (Nat.le_of_ble_eq_true rfl) ⟨Nat.zero_le _, Nat.zero_le _⟩ dX3_takes_46 (pc' := 49) rfl ?_
  refine zw_gen_md_g ((g_tw g n).2) (fun gw hgw => ?_)
  have hsc : gw.2.2.1 = (g_t3 (g_mk g n) n).2.2.1 := by rw [← hgw]; exact g_tw_sc g n
  refine zw_istore_n (lv' := [(2, .int ((g_tw g n).1)), (0, .ref (am 0)), (1, .int (nI n))]) E dX3_takes_49 rfl (by decide) rfl (pc' := 50) rfl ?_
  refine zw_aload_n (i := 0) (x := am 0) E 1 dX3_takes_50 rfl rfl (pc' := 51) rfl ?_
  refine zw_dup E dX3_takes_51 rfl (pc' := 52) rfl ?_
  refine zw_get (v := .int (nI (gw.2.2.1 0))) E 0 0 iX3_takes_X3 fX3_takes_72 rfl rfl (by decide) rfl rfl dX3_takes_52 (pc' := 55) rfl ?_
  refine zw_topi (x' := nI (g.2.2.1 0 + 1)) (congrArg (fun z => nI (z 0)) hsc) ?_
  refine zw_iconst (v := 1) E dX3_takes_55 (by decide) (pc' := 56) rfl ?_
  refine zw_isub E dX3_takes_56 (pc' := 57) rfl ?_
  refine zw_topi (x' := nI (g.2.2.1 0)) (nI_pred _) ?_
  refine zw_putf (v := .int (nI (g.2.2.1 0))) (ty := .int) (ws' := (md_W K am (md_sc gw 0 (g.2.2.1 0)))) E 0 0 iX3_takes_X3 tyX3_ok nmX3 fX3_takes_72 rfl rfl (by decide) rfl rfl rfl rfl rfl (Nat.le_of_ble_eq_true rfl) rfl dX3_takes_57 (pc' := 60) rfl ?_
  refine zw_aload_n (i := 0) (x := am 0) E 1 dX3_takes_60 rfl rfl (pc' := 61) rfl ?_
  refine zw_dup E dX3_takes_61 rfl (pc' := 62) rfl ?_
  refine zw_get (v := .int (nI ((md_sc gw 0 (g.2.2.1 0)).2.2.1 1))) E 0 1 iX3_takes_X3 fX3_takes_80 rfl rfl (by decide) rfl rfl dX3_takes_62 (pc' := 65) rfl ?_
  refine zw_topi (x' := nI (g.2.2.1 1 + n)) (congrArg (fun z => nI (z 1)) hsc) ?_
  refine zw_iload_n (i := 1) (x := nI n) E 2 dX3_takes_65 rfl rfl (pc' := 66) rfl ?_
  refine zw_isub E dX3_takes_66 (pc' := 67) rfl ?_
  refine zw_topi (x' := nI (g.2.2.1 1)) (zw_subn _ n) ?_
  refine zw_putf (v := .int (nI (g.2.2.1 1))) (ty := .int) (ws' := (md_W K am (md_sc (md_sc gw 0 (g.2.2.1 0)) 1 (g.2.2.1 1)))) E 0 1 iX3_takes_X3 tyX3_ok nmX3 fX3_takes_80 rfl rfl (by decide) rfl rfl rfl rfl rfl (Nat.le_of_ble_eq_true rfl) rfl dX3_takes_67 (pc' := 70) rfl ?_
  refine zw_iload_n (i := 2) (x := (g_tw g n).1) E 0 dX3_takes_70 rfl rfl (pc' := 71) rfl ?_
  exact zw_zret E hr hlk dX3_takes_71 (zw_01 (g_tw_01 g n)) rfl (congrArg (md_W K am) (by rw [← hgw]; rfl))

set_option maxHeartbeats 4000000 in
set_option maxRecDepth 100000 in
/-- takes(many) -/
theorem qX3_takes (l : Launch) (D : va_G) (K : Nat → ClassId) (am : Nat → Nat) (g : Md) (n : Nat) (hn : g.2.2.1 0 + 1 ≤ 80) (hw : wk_ok (g_t3 (g_mk g n) n) (g.2.2.1 0 + 1)) : zw_I l yX3_takes wsX3_takes rmX3_takes D (zT K) [.ref (am 0), .int (nI n)] (md_W K am g) ((g_tw g n).1) (md_W K am (g_take g n)) := by
  refine zw_ofI (cc := cX3_takes) (nL := 3) (ret := (some .boolean)) (own := RX3) (lv := [(0, .ref (am 0)), (1, .int (nI n))]) (by decide) rfl (Nat.le_of_ble_eq_true rfl) rfl rfl ?_
  intro p e s m below meth c A E hr hlk
  refine zw_iload_n (i := 1) (x := nI n) E 1 dX3_takes_0 rfl rfl (pc' := 1) rfl ?_
  refine zw_if_le (tgt := 17) E dX3_takes_1 (by decide) (pc' := 4) rfl (fun c_1 => ?_) (fun c_1 => ?_)
  · skip
    refine zw_ws (ws' := md_W K am (g_mk g n)) (congrArg (md_W K am) (by unfold g_mk; rw [if_pos c_1])) ?_
    exact lX3_takes E hr hlk am g n hn hw
  · skip
    refine zw_aload_n (i := 0) (x := am 0) E 0 dX3_takes_4 rfl rfl (pc' := 5) rfl ?_
    refine zw_get (v := .ref (am 7)) E 0 8 iX3_takes_X3 fX3_takes_28 rfl rfl (by decide) rfl rfl dX3_takes_5 (pc' := 8) rfl ?_
    refine zw_aload_n (i := 0) (x := am 0) E 0 dX3_takes_8 rfl rfl (pc' := 9) rfl ?_
    refine zw_get (v := .int (nI (g.2.2.1 0))) E 0 0 iX3_takes_X3 fX3_takes_72 rfl rfl (by decide) rfl rfl dX3_takes_9 (pc' := 12) rfl ?_
    refine zw_aload_n (i := 0) (x := am 0) E 0 dX3_takes_12 rfl rfl (pc' := 13) rfl ?_
    refine zw_get (v := .int (nI (g.2.2.1 1))) E 0 1 iX3_takes_X3 fX3_takes_80 rfl rfl (by decide) rfl rfl dX3_takes_13 (pc' := 16) rfl ?_
    refine zw_iast (j := g.2.2.1 0) (ws' := (md_W K am (md_row g 6 (g.2.2.1 0) (nI (g.2.2.1 1))))) E 7 0 rfl rfl (vp_in_nI (show g.2.2.1 0 < 80 by omega) (by decide)) (zw_clamp (show g.2.2.1 0 < 80 by omega) (by decide)) rfl dX3_takes_16 (pc' := 17) rfl ?_
    refine zw_ws (ws' := md_W K am (g_mk g n)) (congrArg (md_W K am) (by unfold g_mk; rw [if_neg c_1]; rfl)) ?_
    exact lX3_takes E hr hlk am g n hn hw

def m_taken (g : Md) : Int32 := if (g_tw g 0).1 = 0 then -1 else nI (g.2.2.1 0)
def g_taken (g : Md) : Md := if (g_tw g 0).1 = 0 then g_take g 0 else md_sc (g_take g 0) 0 (g.2.2.1 0 + 1)
theorem fX3_taken_72 : Cond.fieldLink RX3 72 "TitheMapModel" "entries" "I" ∈ wsX3_taken := by decide +kernel
theorem iX3_taken_X3 : ∀ w ∈ wsX30, w ∈ wsX3_taken := by decide +kernel
set_option maxHeartbeats 4000000 in
set_option maxRecDepth 100000 in
/-- taken() -/
theorem qX3_taken (l : Launch) (D : va_G) (K : Nat → ClassId) (am : Nat → Nat) (g : Md) (hn : g.2.2.1 0 + 1 ≤ 80) (hw : wk_ok (g_t3 (g_mk g 0) 0) (g.2.2.1 0 + 1)) : zw_I l yX3_taken wsX3_taken rmX3_taken D (zT K) [.ref (am 0)] (md_W K am g) (m_taken g) (md_W K am (g_taken g)) := by
  refine zw_ofI (cc := cX3_taken) (nL := 1) (ret := (some .int)) (own := RX3) (lv := [(0, .ref (am 0))]) (by decide) rfl (Nat.le_of_ble_eq_true rfl) rfl rfl ?_
  intro p e s m below meth c A E hr hlk
  refine zw_aload_n (i := 0) (x := am 0) E 0 dX3_taken_0 rfl rfl (pc' := 1) rfl ?_
  refine zw_iconst (v := 0) E dX3_taken_1 (by decide) (pc' := 2) rfl ?_
  refine zw_callIw E (r := (g_tw g 0).1) (As := [.int 0]) (rest := []) (ws' := (md_W K am (g_take g 0))) (qX3_takes l D K am g 0 hn hw) (cwV 1 E.2.2.2.2.1 gX3_taken_X3_takes rfl rfl rfl (by decide +kernel) ⟨Nat.le_of_ble_eq_true rfl, Nat.le_of_ble_eq_true rfl⟩) 0 rfl rfl rfl (md_ad _ _ _ _) rfl rfl (Nat.le_of_ble_eq_true rfl) ⟨Nat.zero_le _, Nat.zero_le _⟩ dX3_taken_2 (pc' := 5) rfl ?_
  refine zw_gen_md_g (g_take g 0) (fun g_1 hg_1 => ?_)
  have e0_g_1 : g_1.2.2.1 0 = g.2.2.1 0 := by rw [← hg_1]; exact rfl
  have e1_g_1 : g_1.2.2.1 1 = g.2.2.1 1 := by rw [← hg_1]; exact rfl
  refine zw_if_ne (tgt := 10) E dX3_taken_5 (by decide) (pc' := 8) rfl (fun c_1 => ?_) (fun c_1 => ?_)
  · skip
    refine zw_aload_n (i := 0) (x := am 0) E 0 dX3_taken_10 rfl rfl (pc' := 11) rfl ?_
    refine zw_dup E dX3_taken_11 rfl (pc' := 12) rfl ?_
    refine zw_get (v := .int (nI (g_1.2.2.1 0))) E 0 0 iX3_taken_X3 fX3_taken_72 rfl rfl (by decide) rfl rfl dX3_taken_12 (pc' := 15) rfl ?_
    refine zw_topi (x' := nI (g.2.2.1 0)) (congrArg nI e0_g_1) ?_
    refine zw_iconst (v := 1) E dX3_taken_15 (by decide) (pc' := 16) rfl ?_
    refine zw_iadd E dX3_taken_16 (pc' := 17) rfl ?_
    refine zw_topi (x' := nI (g.2.2.1 0 + 1)) (nI_1 _) ?_
    refine zw_putf (v := .int (nI (g.2.2.1 0 + 1))) (ty := .int) (ws' := (md_W K am (md_sc g_1 0 (g.2.2.1 0 + 1)))) E 0 0 iX3_taken_X3 tyX3_ok nmX3 fX3_taken_72 rfl rfl (by decide) rfl rfl rfl rfl rfl (Nat.le_of_ble_eq_true rfl) rfl dX3_taken_17 (pc' := 20) rfl ?_
    refine zw_gen_md_g (md_sc g_1 0 (g.2.2.1 0 + 1)) (fun g_2 hg_2 => ?_)
    have e0_g_2 : g_2.2.2.1 0 = g.2.2.1 0 + 1 := by rw [← hg_2]; exact rfl
    have e1_g_2 : g_2.2.2.1 1 = g.2.2.1 1 := by rw [← hg_2]; exact e1_g_1
    refine zw_aload_n (i := 0) (x := am 0) E 0 dX3_taken_20 rfl rfl (pc' := 21) rfl ?_
    refine zw_get (v := .int (nI (g_2.2.2.1 0))) E 0 0 iX3_taken_X3 fX3_taken_72 rfl rfl (by decide) rfl rfl dX3_taken_21 (pc' := 24) rfl ?_
    refine zw_topi (x' := nI (g.2.2.1 0 + 1)) (congrArg nI e0_g_2) ?_
    refine zw_iconst (v := 1) E dX3_taken_24 (by decide) (pc' := 25) rfl ?_
    refine zw_isub E dX3_taken_25 (pc' := 26) rfl ?_
    refine zw_topi (x' := nI (g.2.2.1 0)) (nI_pred _) ?_
    exact zw_iret E hr hlk dX3_taken_26 (by unfold m_taken; rw [if_neg c_1]) (congrArg (md_W K am) (by unfold g_taken; rw [if_neg c_1, hg_1, hg_2]))
  · skip
    refine zw_iconst (v := (-1)) E dX3_taken_8 (by decide) (pc' := 9) rfl ?_
    exact zw_iret E hr hlk dX3_taken_9 (by unfold m_taken; rw [if_pos c_1]) (congrArg (md_W K am) (by unfold g_taken; rw [if_pos c_1, hg_1]))

theorem zw_ne60 {n : Nat} (hn : n ≤ 60) (h : ¬ nI n = 60) : n < 60 := by
  rcases Nat.lt_or_ge n 60 with q | q
  · exact q
  · exact absurd (by rw [show n = 60 by omega]; rfl) h
theorem zw_le58 {n : Nat} (hn : n ≤ 60) (h : ¬ 58 < nI n) : n + 1 < 60 := by
  rcases Nat.lt_or_ge (n + 1) 60 with q | q
  · exact q
  · exact absurd (nI_lt (a := 58) (b := n) (by omega) (by omega)) h
def m_make1 (g : Md) (y a cn o : Int32) : Int32 := if nI (g.2.2.1 0) = 80 then -1 else if nI (g.2.2.1 1) = 60 then -1 else if (8 ≤ y ∧ y ≤ 200) then if (1 ≤ a ∧ a ≤ 10000) then if (0 ≤ cn ∧ cn ≤ 2) then if (0 ≤ o ∧ o ≤ 9) then if (g_tw (md_writes g 1 y (-1) cn a o) 1).1 = 0 then -1 else nI (g.2.2.1 1) else -1 else -1 else -1 else -1
def g_make1 (g : Md) (y a cn o : Int32) : Md := if nI (g.2.2.1 0) = 80 then g else if nI (g.2.2.1 1) = 60 then g else if (8 ≤ y ∧ y ≤ 200) then if (1 ≤ a ∧ a ≤ 10000) then if (0 ≤ cn ∧ cn ≤ 2) then if (0 ≤ o ∧ o ≤ 9) then if (g_tw (md_writes g 1 y (-1) cn a o) 1).1 = 0 then g_take (md_writes g 1 y (-1) cn a o) 1 else md_sc (md_sc (md_made (g_take (md_writes g 1 y (-1) cn a o) 1) (g.2.2.1 1) (-1) (-1)) 0 (g.2.2.1 0 + 1)) 1 (g.2.2.1 1 + 1) else g else g else g else g
theorem fX3_make_72 : Cond.fieldLink RX3 72 "TitheMapModel" "entries" "I" ∈ wsX3_make := by decide +kernel
theorem fX3_make_80 : Cond.fieldLink RX3 80 "TitheMapModel" "fields" "I" ∈ wsX3_make := by decide +kernel
theorem iX3_make_X3 : ∀ w ∈ wsX30, w ∈ wsX3_make := by decide +kernel
set_option maxHeartbeats 4000000 in
set_option maxRecDepth 100000 in
/-- make -/
theorem qX3_make (l : Launch) (D : va_G) (K : Nat → ClassId) (am : Nat → Nat) (g : Md) (hs80 : g.2.2.1 0 ≤ 80) (hf60 : g.2.2.1 1 ≤ 60) (y a cn o : Int32) (hw : ¬ nI (g.2.2.1 0) = 80 → ¬ nI (g.2.2.1 1) = 60 → (8 ≤ y ∧ y ≤ 200) → (1 ≤ a ∧ a ≤ 10000) → (0 ≤ cn ∧ cn ≤ 2) → (0 ≤ o ∧ o ≤ 9) → wk_ok (g_t3 (g_mk (md_writes g 1 y (-1) cn a o) 1) 1) (g.2.2.1 0 + 1)) : zw_I l yX3_make wsX3_make rmX3_make D (zT K) [.ref (am 0), .int y, .int a, .int cn, .int o] (md_W K am g) (m_make1 g y a cn o) (md_W K am (g_make1 g y a cn o)) := by
  refine zw_ofI (cc := cX3_make) (nL := 5) (ret := (some .int)) (own := RX3) (lv := [(0, .ref (am 0)), (1, .int y), (2, .int a), (3, .int cn), (4, .int o)]) (by decide) rfl (Nat.le_of_ble_eq_true rfl) rfl rfl ?_
  intro p e s m below meth c A E hr hlk
  refine zw_aload_n (i := 0) (x := am 0) E 0 dX3_make_0 rfl rfl (pc' := 1) rfl ?_
  refine zw_get (v := .int (nI (g.2.2.1 0))) E 0 0 iX3_make_X3 fX3_make_72 rfl rfl (by decide) rfl rfl dX3_make_1 (pc' := 4) rfl ?_
  refine zw_topi (x' := nI (g.2.2.1 0)) rfl ?_
  refine zw_bipush (v := 80) E dX3_make_4 (by decide) (pc' := 6) rfl ?_
  refine zw_icmp_eq (tgt := 61) E dX3_make_6 (by decide) (pc' := 9) rfl (fun c_1 => ?_) (fun c_1 => ?_)
  · skip
    refine zw_iconst (v := (-1)) E dX3_make_61 (by decide) (pc' := 62) rfl ?_
    exact zw_iret E hr hlk dX3_make_62 (by unfold m_make1; rw [if_pos c_1]) (congrArg (md_W K am) (by unfold g_make1; rw [if_pos c_1]))
  · skip
    have hn : g.2.2.1 0 < 80 := zw_ne80 hs80 c_1
    refine zw_aload_n (i := 0) (x := am 0) E 0 dX3_make_9 rfl rfl (pc' := 10) rfl ?_
    refine zw_get (v := .int (nI (g.2.2.1 1))) E 0 1 iX3_make_X3 fX3_make_80 rfl rfl (by decide) rfl rfl dX3_make_10 (pc' := 13) rfl ?_
    refine zw_topi (x' := nI (g.2.2.1 1)) rfl ?_
    refine zw_bipush (v := 60) E dX3_make_13 (by decide) (pc' := 15) rfl ?_
    refine zw_icmp_eq (tgt := 61) E dX3_make_15 (by decide) (pc' := 18) rfl (fun c_2 => ?_) (fun c_2 => ?_)
    · skip
      refine zw_iconst (v := (-1)) E dX3_make_61 (by decide) (pc' := 62) rfl ?_
      exact zw_iret E hr hlk dX3_make_62 (by unfold m_make1; rw [if_neg c_1, if_pos c_2]) (congrArg (md_W K am) (by unfold g_make1; rw [if_neg c_1, if_pos c_2]))
    · skip
      have hfl : g.2.2.1 1 < 60 := zw_ne60 hf60 c_2
      refine zw_iload_n (i := 1) (x := y) E 1 dX3_make_18 rfl rfl (pc' := 19) rfl ?_
      refine zw_bipush (v := 8) E dX3_make_19 (by decide) (pc' := 21) rfl ?_
      refine zw_sipush (v := 200) E dX3_make_21 (by decide) (pc' := 24) rfl ?_
      refine zw_callIs E (r := zb (8 ≤ y ∧ y ≤ 200)) (As := [.int y, .int 8, .int 200]) (rest := []) (ws' := (md_W K am g)) (qX3_lies l D K y 8 200) (va_cwS 3 E.2.2.2.2.1 gX3_make_X3_lies rfl rfl rfl (by decide +kernel) ⟨Nat.le_of_ble_eq_true rfl, Nat.le_of_ble_eq_true rfl⟩) [] (by decide) rfl rfl (zw_put_same _ _ _ rfl) rfl rfl (Nat.le_of_ble_eq_true rfl) ⟨Nat.zero_le _, Nat.zero_le _⟩ dX3_make_24 (pc' := 27) rfl ?_
      refine zw_ifb_eq (tgt := 61) E dX3_make_27 (by decide) (pc' := 30) rfl (fun c_3 => ?_) (fun c_3 => ?_)
      · skip
        refine zw_iconst (v := (-1)) E dX3_make_61 (by decide) (pc' := 62) rfl ?_
        exact zw_iret E hr hlk dX3_make_62 (by unfold m_make1; rw [if_neg c_1, if_neg c_2, if_neg c_3]) (congrArg (md_W K am) (by unfold g_make1; rw [if_neg c_1, if_neg c_2, if_neg c_3]))
      · skip
        refine zw_iload_n (i := 2) (x := a) E 2 dX3_make_30 rfl rfl (pc' := 31) rfl ?_
        refine zw_iconst (v := 1) E dX3_make_31 (by decide) (pc' := 32) rfl ?_
        refine zw_sipush (v := 10000) E dX3_make_32 (by decide) (pc' := 35) rfl ?_
        refine zw_callIs E (r := zb (1 ≤ a ∧ a ≤ 10000)) (As := [.int a, .int 1, .int 10000]) (rest := []) (ws' := (md_W K am g)) (qX3_lies l D K a 1 10000) (va_cwS 3 E.2.2.2.2.1 gX3_make_X3_lies rfl rfl rfl (by decide +kernel) ⟨Nat.le_of_ble_eq_true rfl, Nat.le_of_ble_eq_true rfl⟩) [] (by decide) rfl rfl (zw_put_same _ _ _ rfl) rfl rfl (Nat.le_of_ble_eq_true rfl) ⟨Nat.zero_le _, Nat.zero_le _⟩ dX3_make_35 (pc' := 38) rfl ?_
        refine zw_ifb_eq (tgt := 61) E dX3_make_38 (by decide) (pc' := 41) rfl (fun c_4 => ?_) (fun c_4 => ?_)
        · skip
          refine zw_iconst (v := (-1)) E dX3_make_61 (by decide) (pc' := 62) rfl ?_
          exact zw_iret E hr hlk dX3_make_62 (by unfold m_make1; rw [if_neg c_1, if_neg c_2, if_pos c_3, if_neg c_4]) (congrArg (md_W K am) (by unfold g_make1; rw [if_neg c_1, if_neg c_2, if_pos c_3, if_neg c_4]))
        · skip
          refine zw_iload_n (i := 3) (x := cn) E 3 dX3_make_41 rfl rfl (pc' := 42) rfl ?_
          refine zw_iconst (v := 0) E dX3_make_42 (by decide) (pc' := 43) rfl ?_
          refine zw_iconst (v := 2) E dX3_make_43 (by decide) (pc' := 44) rfl ?_
          refine zw_callIs E (r := zb (0 ≤ cn ∧ cn ≤ 2)) (As := [.int cn, .int 0, .int 2]) (rest := []) (ws' := (md_W K am g)) (qX3_lies l D K cn 0 2) (va_cwS 3 E.2.2.2.2.1 gX3_make_X3_lies rfl rfl rfl (by decide +kernel) ⟨Nat.le_of_ble_eq_true rfl, Nat.le_of_ble_eq_true rfl⟩) [] (by decide) rfl rfl (zw_put_same _ _ _ rfl) rfl rfl (Nat.le_of_ble_eq_true rfl) ⟨Nat.zero_le _, Nat.zero_le _⟩ dX3_make_44 (pc' := 47) rfl ?_
          refine zw_ifb_eq (tgt := 61) E dX3_make_47 (by decide) (pc' := 50) rfl (fun c_5 => ?_) (fun c_5 => ?_)
          · skip
            refine zw_iconst (v := (-1)) E dX3_make_61 (by decide) (pc' := 62) rfl ?_
            exact zw_iret E hr hlk dX3_make_62 (by unfold m_make1; rw [if_neg c_1, if_neg c_2, if_pos c_3, if_pos c_4, if_neg c_5]) (congrArg (md_W K am) (by unfold g_make1; rw [if_neg c_1, if_neg c_2, if_pos c_3, if_pos c_4, if_neg c_5]))
          · skip
            refine zw_iload (x := o) E 4 dX3_make_50 rfl (pc' := 52) rfl ?_
            refine zw_iconst (v := 0) E dX3_make_52 (by decide) (pc' := 53) rfl ?_
            refine zw_bipush (v := 9) E dX3_make_53 (by decide) (pc' := 55) rfl ?_
            refine zw_callIs E (r := zb (0 ≤ o ∧ o ≤ 9)) (As := [.int o, .int 0, .int 9]) (rest := []) (ws' := (md_W K am g)) (qX3_lies l D K o 0 9) (va_cwS 3 E.2.2.2.2.1 gX3_make_X3_lies rfl rfl rfl (by decide +kernel) ⟨Nat.le_of_ble_eq_true rfl, Nat.le_of_ble_eq_true rfl⟩) [] (by decide) rfl rfl (zw_put_same _ _ _ rfl) rfl rfl (Nat.le_of_ble_eq_true rfl) ⟨Nat.zero_le _, Nat.zero_le _⟩ dX3_make_55 (pc' := 58) rfl ?_
            refine zw_ifb_ne (tgt := 63) E dX3_make_58 (by decide) (pc' := 61) rfl (fun c_6 => ?_) (fun c_6 => ?_)
            · skip
              refine zw_aload_n (i := 0) (x := am 0) E 0 dX3_make_63 rfl rfl (pc' := 64) rfl ?_
              refine zw_iconst (v := 1) E dX3_make_64 (by decide) (pc' := 65) rfl ?_
              refine zw_iload_n (i := 1) (x := y) E 1 dX3_make_65 rfl rfl (pc' := 66) rfl ?_
              refine zw_iconst (v := (-1)) E dX3_make_66 (by decide) (pc' := 67) rfl ?_
              refine zw_iload_n (i := 3) (x := cn) E 3 dX3_make_67 rfl rfl (pc' := 68) rfl ?_
              refine zw_iload_n (i := 2) (x := a) E 2 dX3_make_68 rfl rfl (pc' := 69) rfl ?_
              refine zw_iload (x := o) E 4 dX3_make_69 rfl (pc' := 71) rfl ?_
              refine zw_callVw E (As := [.int 1, .int y, .int (-1), .int cn, .int a, .int o]) (rest := []) (ws' := (md_W K am (md_writes g 1 y (-1) cn a o))) (qX3_writes l D K am g hn 1 y (-1) cn a o) (cwV 6 E.2.2.2.2.1 gX3_make_X3_writes rfl rfl rfl (by decide +kernel) ⟨Nat.le_of_ble_eq_true rfl, Nat.le_of_ble_eq_true rfl⟩) 0 rfl rfl rfl (md_ad _ _ _ _) rfl rfl (Nat.le_of_ble_eq_true rfl) ⟨Nat.zero_le _, Nat.zero_le _⟩ dX3_make_71 (pc' := 74) rfl ?_
              refine zw_gen_md_g (md_writes g 1 y (-1) cn a o) (fun g_1 hg_1 => ?_)
              have e0_g_1 : g_1.2.2.1 0 = g.2.2.1 0 := by rw [← hg_1]; exact rfl
              have e1_g_1 : g_1.2.2.1 1 = g.2.2.1 1 := by rw [← hg_1]; exact rfl
              refine zw_aload_n (i := 0) (x := am 0) E 0 dX3_make_74 rfl rfl (pc' := 75) rfl ?_
              refine zw_iconst (v := 1) E dX3_make_75 (by decide) (pc' := 76) rfl ?_
              refine zw_callIw E (r := (g_tw g_1 1).1) (As := [.int 1]) (rest := []) (ws' := (md_W K am (g_take g_1 1))) (qX3_takes l D K am g_1 1 (by rw [e0_g_1]; omega) (by rw [e0_g_1, ← hg_1]; exact hw c_1 c_2 c_3 c_4 c_5 c_6)) (cwV 1 E.2.2.2.2.1 gX3_make_X3_takes rfl rfl rfl (by decide +kernel) ⟨Nat.le_of_ble_eq_true rfl, Nat.le_of_ble_eq_true rfl⟩) 0 rfl rfl rfl (md_ad _ _ _ _) rfl rfl (Nat.le_of_ble_eq_true rfl) ⟨Nat.zero_le _, Nat.zero_le _⟩ dX3_make_76 (pc' := 79) rfl ?_
              refine zw_gen_md_g (g_take g_1 1) (fun g_2 hg_2 => ?_)
              have e0_g_2 : g_2.2.2.1 0 = g.2.2.1 0 := by rw [← hg_2]; exact e0_g_1
              have e1_g_2 : g_2.2.2.1 1 = g.2.2.1 1 := by rw [← hg_2]; exact e1_g_1
              refine zw_if_ne (tgt := 84) E dX3_make_79 (by decide) (pc' := 82) rfl (fun c_7 => ?_) (fun c_7 => ?_)
              · skip
                refine zw_aload_n (i := 0) (x := am 0) E 0 dX3_make_84 rfl rfl (pc' := 85) rfl ?_
                refine zw_aload_n (i := 0) (x := am 0) E 0 dX3_make_85 rfl rfl (pc' := 86) rfl ?_
                refine zw_get (v := .int (nI (g_2.2.2.1 1))) E 0 1 iX3_make_X3 fX3_make_80 rfl rfl (by decide) rfl rfl dX3_make_86 (pc' := 89) rfl ?_
                refine zw_topi (x' := nI (g.2.2.1 1)) (congrArg nI e1_g_2) ?_
                refine zw_iconst (v := (-1)) E dX3_make_89 (by decide) (pc' := 90) rfl ?_
                refine zw_iconst (v := (-1)) E dX3_make_90 (by decide) (pc' := 91) rfl ?_
                refine zw_callVw E (As := [.int (nI (g.2.2.1 1)), .int (-1), .int (-1)]) (rest := []) (ws' := (md_W K am (md_made g_2 (g.2.2.1 1) (-1) (-1)))) (qX3_isMade l D K am g_2 (g.2.2.1 1) hfl (-1) (-1)) (cwV 3 E.2.2.2.2.1 gX3_make_X3_isMade rfl rfl rfl (by decide +kernel) ⟨Nat.le_of_ble_eq_true rfl, Nat.le_of_ble_eq_true rfl⟩) 0 rfl rfl rfl (md_ad _ _ _ _) rfl rfl (Nat.le_of_ble_eq_true rfl) ⟨Nat.zero_le _, Nat.zero_le _⟩ dX3_make_91 (pc' := 94) rfl ?_
                refine zw_gen_md_g (md_made g_2 (g.2.2.1 1) (-1) (-1)) (fun g_3 hg_3 => ?_)
                have e0_g_3 : g_3.2.2.1 0 = g.2.2.1 0 := by rw [← hg_3]; exact e0_g_2
                have e1_g_3 : g_3.2.2.1 1 = g.2.2.1 1 := by rw [← hg_3]; exact e1_g_2
                refine zw_aload_n (i := 0) (x := am 0) E 0 dX3_make_94 rfl rfl (pc' := 95) rfl ?_
                refine zw_dup E dX3_make_95 rfl (pc' := 96) rfl ?_
                refine zw_get (v := .int (nI (g_3.2.2.1 0))) E 0 0 iX3_make_X3 fX3_make_72 rfl rfl (by decide) rfl rfl dX3_make_96 (pc' := 99) rfl ?_
                refine zw_topi (x' := nI (g.2.2.1 0)) (congrArg nI e0_g_3) ?_
                refine zw_iconst (v := 1) E dX3_make_99 (by decide) (pc' := 100) rfl ?_
                refine zw_iadd E dX3_make_100 (pc' := 101) rfl ?_
                refine zw_topi (x' := nI (g.2.2.1 0 + 1)) (nI_1 _) ?_
                refine zw_putf (v := .int (nI (g.2.2.1 0 + 1))) (ty := .int) (ws' := (md_W K am (md_sc g_3 0 (g.2.2.1 0 + 1)))) E 0 0 iX3_make_X3 tyX3_ok nmX3 fX3_make_72 rfl rfl (by decide) rfl rfl rfl rfl rfl (Nat.le_of_ble_eq_true rfl) rfl dX3_make_101 (pc' := 104) rfl ?_
                refine zw_gen_md_g (md_sc g_3 0 (g.2.2.1 0 + 1)) (fun g_4 hg_4 => ?_)
                have e0_g_4 : g_4.2.2.1 0 = g.2.2.1 0 + 1 := by rw [← hg_4]; exact rfl
                have e1_g_4 : g_4.2.2.1 1 = g.2.2.1 1 := by rw [← hg_4]; exact e1_g_3
                refine zw_aload_n (i := 0) (x := am 0) E 0 dX3_make_104 rfl rfl (pc' := 105) rfl ?_
                refine zw_dup E dX3_make_105 rfl (pc' := 106) rfl ?_
                refine zw_get (v := .int (nI (g_4.2.2.1 1))) E 0 1 iX3_make_X3 fX3_make_80 rfl rfl (by decide) rfl rfl dX3_make_106 (pc' := 109) rfl ?_
                refine zw_topi (x' := nI (g.2.2.1 1)) (congrArg nI e1_g_4) ?_
                refine zw_iconst (v := 1) E dX3_make_109 (by decide) (pc' := 110) rfl ?_
                refine zw_iadd E dX3_make_110 (pc' := 111) rfl ?_
                refine zw_topi (x' := nI (g.2.2.1 1 + 1)) (nI_1 _) ?_
                refine zw_putf (v := .int (nI (g.2.2.1 1 + 1))) (ty := .int) (ws' := (md_W K am (md_sc g_4 1 (g.2.2.1 1 + 1)))) E 0 1 iX3_make_X3 tyX3_ok nmX3 fX3_make_80 rfl rfl (by decide) rfl rfl rfl rfl rfl (Nat.le_of_ble_eq_true rfl) rfl dX3_make_111 (pc' := 114) rfl ?_
                refine zw_gen_md_g (md_sc g_4 1 (g.2.2.1 1 + 1)) (fun g_5 hg_5 => ?_)
                have e0_g_5 : g_5.2.2.1 0 = g.2.2.1 0 + 1 := by rw [← hg_5]; exact e0_g_4
                have e1_g_5 : g_5.2.2.1 1 = g.2.2.1 1 + 1 := by rw [← hg_5]; exact rfl
                refine zw_aload_n (i := 0) (x := am 0) E 0 dX3_make_114 rfl rfl (pc' := 115) rfl ?_
                refine zw_get (v := .int (nI (g_5.2.2.1 1))) E 0 1 iX3_make_X3 fX3_make_80 rfl rfl (by decide) rfl rfl dX3_make_115 (pc' := 118) rfl ?_
                refine zw_topi (x' := nI (g.2.2.1 1 + 1)) (congrArg nI e1_g_5) ?_
                refine zw_iconst (v := 1) E dX3_make_118 (by decide) (pc' := 119) rfl ?_
                refine zw_isub E dX3_make_119 (pc' := 120) rfl ?_
                refine zw_topi (x' := nI (g.2.2.1 1)) (nI_pred _) ?_
                exact zw_iret E hr hlk dX3_make_120 (by unfold m_make1; rw [if_neg c_1, if_neg c_2, if_pos c_3, if_pos c_4, if_pos c_5, if_pos c_6, hg_1, if_neg c_7]) (congrArg (md_W K am) (by unfold g_make1; rw [if_neg c_1, if_neg c_2, if_pos c_3, if_pos c_4, if_pos c_5, if_pos c_6, hg_1, if_neg c_7, hg_2, hg_3, hg_4, hg_5]))
              · skip
                refine zw_iconst (v := (-1)) E dX3_make_82 (by decide) (pc' := 83) rfl ?_
                exact zw_iret E hr hlk dX3_make_83 (by unfold m_make1; rw [if_neg c_1, if_neg c_2, if_pos c_3, if_pos c_4, if_pos c_5, if_pos c_6, hg_1, if_pos c_7]) (congrArg (md_W K am) (by unfold g_make1; rw [if_neg c_1, if_neg c_2, if_pos c_3, if_pos c_4, if_pos c_5, if_pos c_6, hg_1, if_pos c_7, hg_2]))
            · skip
              refine zw_iconst (v := (-1)) E dX3_make_61 (by decide) (pc' := 62) rfl ?_
              exact zw_iret E hr hlk dX3_make_62 (by unfold m_make1; rw [if_neg c_1, if_neg c_2, if_pos c_3, if_pos c_4, if_pos c_5, if_neg c_6]) (congrArg (md_W K am) (by unfold g_make1; rw [if_neg c_1, if_neg c_2, if_pos c_3, if_pos c_4, if_pos c_5, if_neg c_6]))

def m_join1 (g : Md) (y f h : Int32) : Int32 := if nI (g.2.2.1 0) = 80 then -1 else if nI (g.2.2.1 1) = 60 then -1 else if (8 ≤ y ∧ y ≤ 200) then if (0 ≤ f ∧ f ≤ nI (g.2.2.1 1) - 1) then if (0 ≤ h ∧ h ≤ nI (g.2.2.1 1) - 1) then if (g_tw (md_writes g 3 y f h 0 0) 1).1 = 0 then -1 else nI (g.2.2.1 1) else -1 else -1 else -1
def g_join1 (g : Md) (y f h : Int32) : Md := if nI (g.2.2.1 0) = 80 then g else if nI (g.2.2.1 1) = 60 then g else if (8 ≤ y ∧ y ≤ 200) then if (0 ≤ f ∧ f ≤ nI (g.2.2.1 1) - 1) then if (0 ≤ h ∧ h ≤ nI (g.2.2.1 1) - 1) then if (g_tw (md_writes g 3 y f h 0 0) 1).1 = 0 then g_take (md_writes g 3 y f h 0 0) 1 else md_sc (md_sc (md_row (md_row (md_made (g_take (md_writes g 3 y f h 0 0) 1) (g.2.2.1 1) f h) 8 f.toNatClampNeg (nI (g.2.2.1 0))) 8 h.toNatClampNeg (nI (g.2.2.1 0))) 0 (g.2.2.1 0 + 1)) 1 (g.2.2.1 1 + 1) else g else g else g
theorem fX3_join_34 : Cond.fieldLink RX3 34 "TitheMapModel" "endedBy" "[I" ∈ wsX3_join := by decide +kernel
theorem fX3_join_72 : Cond.fieldLink RX3 72 "TitheMapModel" "entries" "I" ∈ wsX3_join := by decide +kernel
theorem fX3_join_80 : Cond.fieldLink RX3 80 "TitheMapModel" "fields" "I" ∈ wsX3_join := by decide +kernel
theorem iX3_join_X3 : ∀ w ∈ wsX30, w ∈ wsX3_join := by decide +kernel
set_option maxHeartbeats 4000000 in
set_option maxRecDepth 100000 in
/-- join -/
theorem qX3_join (l : Launch) (D : va_G) (K : Nat → ClassId) (am : Nat → Nat) (g : Md) (hs80 : g.2.2.1 0 ≤ 80) (hf60 : g.2.2.1 1 ≤ 60) (y f h : Int32) (hw : ¬ nI (g.2.2.1 0) = 80 → ¬ nI (g.2.2.1 1) = 60 → (8 ≤ y ∧ y ≤ 200) → (0 ≤ f ∧ f ≤ nI (g.2.2.1 1) - 1) → (0 ≤ h ∧ h ≤ nI (g.2.2.1 1) - 1) → wk_ok (g_t3 (g_mk (md_writes g 3 y f h 0 0) 1) 1) (g.2.2.1 0 + 1)) : zw_I l yX3_join wsX3_join rmX3_join D (zT K) [.ref (am 0), .int y, .int f, .int h] (md_W K am g) (m_join1 g y f h) (md_W K am (g_join1 g y f h)) := by
  refine zw_ofI (cc := cX3_join) (nL := 4) (ret := (some .int)) (own := RX3) (lv := [(0, .ref (am 0)), (1, .int y), (2, .int f), (3, .int h)]) (by decide) rfl (Nat.le_of_ble_eq_true rfl) rfl rfl ?_
  intro p e s m below meth c A E hr hlk
  refine zw_aload_n (i := 0) (x := am 0) E 0 dX3_join_0 rfl rfl (pc' := 1) rfl ?_
  refine zw_get (v := .int (nI (g.2.2.1 0))) E 0 0 iX3_join_X3 fX3_join_72 rfl rfl (by decide) rfl rfl dX3_join_1 (pc' := 4) rfl ?_
  refine zw_topi (x' := nI (g.2.2.1 0)) rfl ?_
  refine zw_bipush (v := 80) E dX3_join_4 (by decide) (pc' := 6) rfl ?_
  refine zw_icmp_eq (tgt := 46) E dX3_join_6 (by decide) (pc' := 9) rfl (fun c_1 => ?_) (fun c_1 => ?_)
  · skip
    refine zw_iconst (v := (-1)) E dX3_join_46 (by decide) (pc' := 47) rfl ?_
    exact zw_iret E hr hlk dX3_join_47 (by unfold m_join1; rw [if_pos c_1]) (congrArg (md_W K am) (by unfold g_join1; rw [if_pos c_1]))
  · skip
    have hn : g.2.2.1 0 < 80 := zw_ne80 hs80 c_1
    refine zw_aload_n (i := 0) (x := am 0) E 0 dX3_join_9 rfl rfl (pc' := 10) rfl ?_
    refine zw_get (v := .int (nI (g.2.2.1 1))) E 0 1 iX3_join_X3 fX3_join_80 rfl rfl (by decide) rfl rfl dX3_join_10 (pc' := 13) rfl ?_
    refine zw_topi (x' := nI (g.2.2.1 1)) rfl ?_
    refine zw_bipush (v := 60) E dX3_join_13 (by decide) (pc' := 15) rfl ?_
    refine zw_icmp_eq (tgt := 46) E dX3_join_15 (by decide) (pc' := 18) rfl (fun c_2 => ?_) (fun c_2 => ?_)
    · skip
      refine zw_iconst (v := (-1)) E dX3_join_46 (by decide) (pc' := 47) rfl ?_
      exact zw_iret E hr hlk dX3_join_47 (by unfold m_join1; rw [if_neg c_1, if_pos c_2]) (congrArg (md_W K am) (by unfold g_join1; rw [if_neg c_1, if_pos c_2]))
    · skip
      have hfl : g.2.2.1 1 < 60 := zw_ne60 hf60 c_2
      refine zw_iload_n (i := 1) (x := y) E 1 dX3_join_18 rfl rfl (pc' := 19) rfl ?_
      refine zw_bipush (v := 8) E dX3_join_19 (by decide) (pc' := 21) rfl ?_
      refine zw_sipush (v := 200) E dX3_join_21 (by decide) (pc' := 24) rfl ?_
      refine zw_callIs E (r := zb (8 ≤ y ∧ y ≤ 200)) (As := [.int y, .int 8, .int 200]) (rest := []) (ws' := (md_W K am g)) (qX3_lies l D K y 8 200) (va_cwS 3 E.2.2.2.2.1 gX3_join_X3_lies rfl rfl rfl (by decide +kernel) ⟨Nat.le_of_ble_eq_true rfl, Nat.le_of_ble_eq_true rfl⟩) [] (by decide) rfl rfl (zw_put_same _ _ _ rfl) rfl rfl (Nat.le_of_ble_eq_true rfl) ⟨Nat.zero_le _, Nat.zero_le _⟩ dX3_join_24 (pc' := 27) rfl ?_
      refine zw_ifb_eq (tgt := 46) E dX3_join_27 (by decide) (pc' := 30) rfl (fun c_3 => ?_) (fun c_3 => ?_)
      · skip
        refine zw_iconst (v := (-1)) E dX3_join_46 (by decide) (pc' := 47) rfl ?_
        exact zw_iret E hr hlk dX3_join_47 (by unfold m_join1; rw [if_neg c_1, if_neg c_2, if_neg c_3]) (congrArg (md_W K am) (by unfold g_join1; rw [if_neg c_1, if_neg c_2, if_neg c_3]))
      · skip
        refine zw_aload_n (i := 0) (x := am 0) E 0 dX3_join_30 rfl rfl (pc' := 31) rfl ?_
        refine zw_iload_n (i := 2) (x := f) E 2 dX3_join_31 rfl rfl (pc' := 32) rfl ?_
        refine zw_callIw E (r := zb (0 ≤ f ∧ f ≤ nI (g.2.2.1 1) - 1)) (As := [.int f]) (rest := []) (ws' := (md_W K am g)) (qX3_isField l D K am g f) (cwV 1 E.2.2.2.2.1 gX3_join_X3_isField rfl rfl rfl (by decide +kernel) ⟨Nat.le_of_ble_eq_true rfl, Nat.le_of_ble_eq_true rfl⟩) 0 rfl rfl rfl rfl rfl rfl (Nat.le_of_ble_eq_true rfl) ⟨Nat.zero_le _, Nat.zero_le _⟩ dX3_join_32 (pc' := 35) rfl ?_
        refine zw_ifb_eq (tgt := 46) E dX3_join_35 (by decide) (pc' := 38) rfl (fun c_4 => ?_) (fun c_4 => ?_)
        · skip
          refine zw_iconst (v := (-1)) E dX3_join_46 (by decide) (pc' := 47) rfl ?_
          exact zw_iret E hr hlk dX3_join_47 (by unfold m_join1; rw [if_neg c_1, if_neg c_2, if_pos c_3, if_neg c_4]) (congrArg (md_W K am) (by unfold g_join1; rw [if_neg c_1, if_neg c_2, if_pos c_3, if_neg c_4]))
        · skip
          refine zw_aload_n (i := 0) (x := am 0) E 0 dX3_join_38 rfl rfl (pc' := 39) rfl ?_
          refine zw_iload_n (i := 3) (x := h) E 3 dX3_join_39 rfl rfl (pc' := 40) rfl ?_
          refine zw_callIw E (r := zb (0 ≤ h ∧ h ≤ nI (g.2.2.1 1) - 1)) (As := [.int h]) (rest := []) (ws' := (md_W K am g)) (qX3_isField l D K am g h) (cwV 1 E.2.2.2.2.1 gX3_join_X3_isField rfl rfl rfl (by decide +kernel) ⟨Nat.le_of_ble_eq_true rfl, Nat.le_of_ble_eq_true rfl⟩) 0 rfl rfl rfl rfl rfl rfl (Nat.le_of_ble_eq_true rfl) ⟨Nat.zero_le _, Nat.zero_le _⟩ dX3_join_40 (pc' := 43) rfl ?_
          refine zw_ifb_ne (tgt := 48) E dX3_join_43 (by decide) (pc' := 46) rfl (fun c_5 => ?_) (fun c_5 => ?_)
          · skip
            refine zw_aload_n (i := 0) (x := am 0) E 0 dX3_join_48 rfl rfl (pc' := 49) rfl ?_
            refine zw_iconst (v := 3) E dX3_join_49 (by decide) (pc' := 50) rfl ?_
            refine zw_iload_n (i := 1) (x := y) E 1 dX3_join_50 rfl rfl (pc' := 51) rfl ?_
            refine zw_iload_n (i := 2) (x := f) E 2 dX3_join_51 rfl rfl (pc' := 52) rfl ?_
            refine zw_iload_n (i := 3) (x := h) E 3 dX3_join_52 rfl rfl (pc' := 53) rfl ?_
            refine zw_iconst (v := 0) E dX3_join_53 (by decide) (pc' := 54) rfl ?_
            refine zw_iconst (v := 0) E dX3_join_54 (by decide) (pc' := 55) rfl ?_
            refine zw_callVw E (As := [.int 3, .int y, .int f, .int h, .int 0, .int 0]) (rest := []) (ws' := (md_W K am (md_writes g 3 y f h 0 0))) (qX3_writes l D K am g hn 3 y f h 0 0) (cwV 6 E.2.2.2.2.1 gX3_join_X3_writes rfl rfl rfl (by decide +kernel) ⟨Nat.le_of_ble_eq_true rfl, Nat.le_of_ble_eq_true rfl⟩) 0 rfl rfl rfl (md_ad _ _ _ _) rfl rfl (Nat.le_of_ble_eq_true rfl) ⟨Nat.zero_le _, Nat.zero_le _⟩ dX3_join_55 (pc' := 58) rfl ?_
            refine zw_gen_md_g (md_writes g 3 y f h 0 0) (fun g_1 hg_1 => ?_)
            have e0_g_1 : g_1.2.2.1 0 = g.2.2.1 0 := by rw [← hg_1]; exact rfl
            have e1_g_1 : g_1.2.2.1 1 = g.2.2.1 1 := by rw [← hg_1]; exact rfl
            refine zw_aload_n (i := 0) (x := am 0) E 0 dX3_join_58 rfl rfl (pc' := 59) rfl ?_
            refine zw_iconst (v := 1) E dX3_join_59 (by decide) (pc' := 60) rfl ?_
            refine zw_callIw E (r := (g_tw g_1 1).1) (As := [.int 1]) (rest := []) (ws' := (md_W K am (g_take g_1 1))) (qX3_takes l D K am g_1 1 (by rw [e0_g_1]; omega) (by rw [e0_g_1, ← hg_1]; exact hw c_1 c_2 c_3 c_4 c_5)) (cwV 1 E.2.2.2.2.1 gX3_join_X3_takes rfl rfl rfl (by decide +kernel) ⟨Nat.le_of_ble_eq_true rfl, Nat.le_of_ble_eq_true rfl⟩) 0 rfl rfl rfl (md_ad _ _ _ _) rfl rfl (Nat.le_of_ble_eq_true rfl) ⟨Nat.zero_le _, Nat.zero_le _⟩ dX3_join_60 (pc' := 63) rfl ?_
            refine zw_gen_md_g (g_take g_1 1) (fun g_2 hg_2 => ?_)
            have e0_g_2 : g_2.2.2.1 0 = g.2.2.1 0 := by rw [← hg_2]; exact e0_g_1
            have e1_g_2 : g_2.2.2.1 1 = g.2.2.1 1 := by rw [← hg_2]; exact e1_g_1
            refine zw_if_ne (tgt := 68) E dX3_join_63 (by decide) (pc' := 66) rfl (fun c_6 => ?_) (fun c_6 => ?_)
            · skip
              refine zw_aload_n (i := 0) (x := am 0) E 0 dX3_join_68 rfl rfl (pc' := 69) rfl ?_
              refine zw_aload_n (i := 0) (x := am 0) E 0 dX3_join_69 rfl rfl (pc' := 70) rfl ?_
              refine zw_get (v := .int (nI (g_2.2.2.1 1))) E 0 1 iX3_join_X3 fX3_join_80 rfl rfl (by decide) rfl rfl dX3_join_70 (pc' := 73) rfl ?_
              refine zw_topi (x' := nI (g.2.2.1 1)) (congrArg nI e1_g_2) ?_
              refine zw_iload_n (i := 2) (x := f) E 2 dX3_join_73 rfl rfl (pc' := 74) rfl ?_
              refine zw_iload_n (i := 3) (x := h) E 3 dX3_join_74 rfl rfl (pc' := 75) rfl ?_
              refine zw_callVw E (As := [.int (nI (g.2.2.1 1)), .int f, .int h]) (rest := []) (ws' := (md_W K am (md_made g_2 (g.2.2.1 1) f h))) (qX3_isMade l D K am g_2 (g.2.2.1 1) hfl f h) (cwV 3 E.2.2.2.2.1 gX3_join_X3_isMade rfl rfl rfl (by decide +kernel) ⟨Nat.le_of_ble_eq_true rfl, Nat.le_of_ble_eq_true rfl⟩) 0 rfl rfl rfl (md_ad _ _ _ _) rfl rfl (Nat.le_of_ble_eq_true rfl) ⟨Nat.zero_le _, Nat.zero_le _⟩ dX3_join_75 (pc' := 78) rfl ?_
              refine zw_gen_md_g (md_made g_2 (g.2.2.1 1) f h) (fun g_3 hg_3 => ?_)
              have e0_g_3 : g_3.2.2.1 0 = g.2.2.1 0 := by rw [← hg_3]; exact e0_g_2
              have e1_g_3 : g_3.2.2.1 1 = g.2.2.1 1 := by rw [← hg_3]; exact e1_g_2
              refine zw_aload_n (i := 0) (x := am 0) E 0 dX3_join_78 rfl rfl (pc' := 79) rfl ?_
              refine zw_get (v := .ref (am 9)) E 0 10 iX3_join_X3 fX3_join_34 rfl rfl (by decide) rfl rfl dX3_join_79 (pc' := 82) rfl ?_
              refine zw_iload_n (i := 2) (x := f) E 2 dX3_join_82 rfl rfl (pc' := 83) rfl ?_
              refine zw_aload_n (i := 0) (x := am 0) E 0 dX3_join_83 rfl rfl (pc' := 84) rfl ?_
              refine zw_get (v := .int (nI (g_3.2.2.1 0))) E 0 0 iX3_join_X3 fX3_join_72 rfl rfl (by decide) rfl rfl dX3_join_84 (pc' := 87) rfl ?_
              refine zw_topi (x' := nI (g.2.2.1 0)) (congrArg nI e0_g_3) ?_
              refine zw_iast (j := f.toNatClampNeg) (ws' := (md_W K am (md_row g_3 8 f.toNatClampNeg (nI (g.2.2.1 0))))) E 9 0 rfl rfl (zw_mfin hf60 c_4) rfl rfl dX3_join_87 (pc' := 88) rfl ?_
              refine zw_gen_md_g (md_row g_3 8 f.toNatClampNeg (nI (g.2.2.1 0))) (fun g_4 hg_4 => ?_)
              have e0_g_4 : g_4.2.2.1 0 = g.2.2.1 0 := by rw [← hg_4]; exact e0_g_3
              have e1_g_4 : g_4.2.2.1 1 = g.2.2.1 1 := by rw [← hg_4]; exact e1_g_3
              refine zw_aload_n (i := 0) (x := am 0) E 0 dX3_join_88 rfl rfl (pc' := 89) rfl ?_
              refine zw_get (v := .ref (am 9)) E 0 10 iX3_join_X3 fX3_join_34 rfl rfl (by decide) rfl rfl dX3_join_89 (pc' := 92) rfl ?_
              refine zw_iload_n (i := 3) (x := h) E 3 dX3_join_92 rfl rfl (pc' := 93) rfl ?_
              refine zw_aload_n (i := 0) (x := am 0) E 0 dX3_join_93 rfl rfl (pc' := 94) rfl ?_
              refine zw_get (v := .int (nI (g_4.2.2.1 0))) E 0 0 iX3_join_X3 fX3_join_72 rfl rfl (by decide) rfl rfl dX3_join_94 (pc' := 97) rfl ?_
              refine zw_topi (x' := nI (g.2.2.1 0)) (congrArg nI e0_g_4) ?_
              refine zw_iast (j := h.toNatClampNeg) (ws' := (md_W K am (md_row g_4 8 h.toNatClampNeg (nI (g.2.2.1 0))))) E 9 0 rfl rfl (zw_mfin hf60 c_5) rfl rfl dX3_join_97 (pc' := 98) rfl ?_
              refine zw_gen_md_g (md_row g_4 8 h.toNatClampNeg (nI (g.2.2.1 0))) (fun g_5 hg_5 => ?_)
              have e0_g_5 : g_5.2.2.1 0 = g.2.2.1 0 := by rw [← hg_5]; exact e0_g_4
              have e1_g_5 : g_5.2.2.1 1 = g.2.2.1 1 := by rw [← hg_5]; exact e1_g_4
              refine zw_aload_n (i := 0) (x := am 0) E 0 dX3_join_98 rfl rfl (pc' := 99) rfl ?_
              refine zw_dup E dX3_join_99 rfl (pc' := 100) rfl ?_
              refine zw_get (v := .int (nI (g_5.2.2.1 0))) E 0 0 iX3_join_X3 fX3_join_72 rfl rfl (by decide) rfl rfl dX3_join_100 (pc' := 103) rfl ?_
              refine zw_topi (x' := nI (g.2.2.1 0)) (congrArg nI e0_g_5) ?_
              refine zw_iconst (v := 1) E dX3_join_103 (by decide) (pc' := 104) rfl ?_
              refine zw_iadd E dX3_join_104 (pc' := 105) rfl ?_
              refine zw_topi (x' := nI (g.2.2.1 0 + 1)) (nI_1 _) ?_
              refine zw_putf (v := .int (nI (g.2.2.1 0 + 1))) (ty := .int) (ws' := (md_W K am (md_sc g_5 0 (g.2.2.1 0 + 1)))) E 0 0 iX3_join_X3 tyX3_ok nmX3 fX3_join_72 rfl rfl (by decide) rfl rfl rfl rfl rfl (Nat.le_of_ble_eq_true rfl) rfl dX3_join_105 (pc' := 108) rfl ?_
              refine zw_gen_md_g (md_sc g_5 0 (g.2.2.1 0 + 1)) (fun g_6 hg_6 => ?_)
              have e0_g_6 : g_6.2.2.1 0 = g.2.2.1 0 + 1 := by rw [← hg_6]; exact rfl
              have e1_g_6 : g_6.2.2.1 1 = g.2.2.1 1 := by rw [← hg_6]; exact e1_g_5
              refine zw_aload_n (i := 0) (x := am 0) E 0 dX3_join_108 rfl rfl (pc' := 109) rfl ?_
              refine zw_dup E dX3_join_109 rfl (pc' := 110) rfl ?_
              refine zw_get (v := .int (nI (g_6.2.2.1 1))) E 0 1 iX3_join_X3 fX3_join_80 rfl rfl (by decide) rfl rfl dX3_join_110 (pc' := 113) rfl ?_
              refine zw_topi (x' := nI (g.2.2.1 1)) (congrArg nI e1_g_6) ?_
              refine zw_iconst (v := 1) E dX3_join_113 (by decide) (pc' := 114) rfl ?_
              refine zw_iadd E dX3_join_114 (pc' := 115) rfl ?_
              refine zw_topi (x' := nI (g.2.2.1 1 + 1)) (nI_1 _) ?_
              refine zw_putf (v := .int (nI (g.2.2.1 1 + 1))) (ty := .int) (ws' := (md_W K am (md_sc g_6 1 (g.2.2.1 1 + 1)))) E 0 1 iX3_join_X3 tyX3_ok nmX3 fX3_join_80 rfl rfl (by decide) rfl rfl rfl rfl rfl (Nat.le_of_ble_eq_true rfl) rfl dX3_join_115 (pc' := 118) rfl ?_
              refine zw_gen_md_g (md_sc g_6 1 (g.2.2.1 1 + 1)) (fun g_7 hg_7 => ?_)
              have e0_g_7 : g_7.2.2.1 0 = g.2.2.1 0 + 1 := by rw [← hg_7]; exact e0_g_6
              have e1_g_7 : g_7.2.2.1 1 = g.2.2.1 1 + 1 := by rw [← hg_7]; exact rfl
              refine zw_aload_n (i := 0) (x := am 0) E 0 dX3_join_118 rfl rfl (pc' := 119) rfl ?_
              refine zw_get (v := .int (nI (g_7.2.2.1 1))) E 0 1 iX3_join_X3 fX3_join_80 rfl rfl (by decide) rfl rfl dX3_join_119 (pc' := 122) rfl ?_
              refine zw_topi (x' := nI (g.2.2.1 1 + 1)) (congrArg nI e1_g_7) ?_
              refine zw_iconst (v := 1) E dX3_join_122 (by decide) (pc' := 123) rfl ?_
              refine zw_isub E dX3_join_123 (pc' := 124) rfl ?_
              refine zw_topi (x' := nI (g.2.2.1 1)) (nI_pred _) ?_
              exact zw_iret E hr hlk dX3_join_124 (by unfold m_join1; rw [if_neg c_1, if_neg c_2, if_pos c_3, if_pos c_4, if_pos c_5, hg_1, if_neg c_6]) (congrArg (md_W K am) (by unfold g_join1; rw [if_neg c_1, if_neg c_2, if_pos c_3, if_pos c_4, if_pos c_5, hg_1, if_neg c_6, hg_2, hg_3, hg_4, hg_5, hg_6, hg_7]))
            · skip
              refine zw_iconst (v := (-1)) E dX3_join_66 (by decide) (pc' := 67) rfl ?_
              exact zw_iret E hr hlk dX3_join_67 (by unfold m_join1; rw [if_neg c_1, if_neg c_2, if_pos c_3, if_pos c_4, if_pos c_5, hg_1, if_pos c_6]) (congrArg (md_W K am) (by unfold g_join1; rw [if_neg c_1, if_neg c_2, if_pos c_3, if_pos c_4, if_pos c_5, hg_1, if_pos c_6, hg_2]))
          · skip
            refine zw_iconst (v := (-1)) E dX3_join_46 (by decide) (pc' := 47) rfl ?_
            exact zw_iret E hr hlk dX3_join_47 (by unfold m_join1; rw [if_neg c_1, if_neg c_2, if_pos c_3, if_pos c_4, if_neg c_5]) (congrArg (md_W K am) (by unfold g_join1; rw [if_neg c_1, if_neg c_2, if_pos c_3, if_pos c_4, if_neg c_5]))

def m_part1 (g : Md) (y f a : Int32) : Int32 := if nI (g.2.2.1 0) = 80 then -1 else if 58 < nI (g.2.2.1 1) then -1 else if (8 ≤ y ∧ y ≤ 200) then if (0 ≤ f ∧ f ≤ nI (g.2.2.1 1) - 1) then if (1 ≤ a ∧ a ≤ 10000000) then if (g_tw (md_writes g 2 y f (-1) a 0) 2).1 = 0 then -1 else nI (g.2.2.1 1) else -1 else -1 else -1
def g_part1 (g : Md) (y f a : Int32) : Md := if nI (g.2.2.1 0) = 80 then g else if 58 < nI (g.2.2.1 1) then g else if (8 ≤ y ∧ y ≤ 200) then if (0 ≤ f ∧ f ≤ nI (g.2.2.1 1) - 1) then if (1 ≤ a ∧ a ≤ 10000000) then if (g_tw (md_writes g 2 y f (-1) a 0) 2).1 = 0 then g_take (md_writes g 2 y f (-1) a 0) 2 else md_sc (md_sc (md_row (md_made (md_made (g_take (md_writes g 2 y f (-1) a 0) 2) (g.2.2.1 1) f (-1)) (g.2.2.1 1 + 1) f (-1)) 8 f.toNatClampNeg (nI (g.2.2.1 0))) 0 (g.2.2.1 0 + 1)) 1 (g.2.2.1 1 + 2) else g else g else g
theorem kX3_part_152 : Cond.constant RX3 152 (10000000) ∈ wsX3_part := by decide +kernel
theorem fX3_part_34 : Cond.fieldLink RX3 34 "TitheMapModel" "endedBy" "[I" ∈ wsX3_part := by decide +kernel
theorem fX3_part_72 : Cond.fieldLink RX3 72 "TitheMapModel" "entries" "I" ∈ wsX3_part := by decide +kernel
theorem fX3_part_80 : Cond.fieldLink RX3 80 "TitheMapModel" "fields" "I" ∈ wsX3_part := by decide +kernel
theorem iX3_part_X3 : ∀ w ∈ wsX30, w ∈ wsX3_part := by decide +kernel
set_option maxHeartbeats 4000000 in
set_option maxRecDepth 100000 in
/-- part -/
theorem qX3_part (l : Launch) (D : va_G) (K : Nat → ClassId) (am : Nat → Nat) (g : Md) (hs80 : g.2.2.1 0 ≤ 80) (hf60 : g.2.2.1 1 ≤ 60) (y f a : Int32) (hw : ¬ nI (g.2.2.1 0) = 80 → ¬ 58 < nI (g.2.2.1 1) → (8 ≤ y ∧ y ≤ 200) → (0 ≤ f ∧ f ≤ nI (g.2.2.1 1) - 1) → (1 ≤ a ∧ a ≤ 10000000) → wk_ok (g_t3 (g_mk (md_writes g 2 y f (-1) a 0) 2) 2) (g.2.2.1 0 + 1)) : zw_I l yX3_part wsX3_part rmX3_part D (zT K) [.ref (am 0), .int y, .int f, .int a] (md_W K am g) (m_part1 g y f a) (md_W K am (g_part1 g y f a)) := by
  refine zw_ofI (cc := cX3_part) (nL := 4) (ret := (some .int)) (own := RX3) (lv := [(0, .ref (am 0)), (1, .int y), (2, .int f), (3, .int a)]) (by decide) rfl (Nat.le_of_ble_eq_true rfl) rfl rfl ?_
  intro p e s m below meth c A E hr hlk
  refine zw_aload_n (i := 0) (x := am 0) E 0 dX3_part_0 rfl rfl (pc' := 1) rfl ?_
  refine zw_get (v := .int (nI (g.2.2.1 0))) E 0 0 iX3_part_X3 fX3_part_72 rfl rfl (by decide) rfl rfl dX3_part_1 (pc' := 4) rfl ?_
  refine zw_topi (x' := nI (g.2.2.1 0)) rfl ?_
  refine zw_bipush (v := 80) E dX3_part_4 (by decide) (pc' := 6) rfl ?_
  refine zw_icmp_eq (tgt := 48) E dX3_part_6 (by decide) (pc' := 9) rfl (fun c_1 => ?_) (fun c_1 => ?_)
  · skip
    refine zw_iconst (v := (-1)) E dX3_part_48 (by decide) (pc' := 49) rfl ?_
    exact zw_iret E hr hlk dX3_part_49 (by unfold m_part1; rw [if_pos c_1]) (congrArg (md_W K am) (by unfold g_part1; rw [if_pos c_1]))
  · skip
    have hn : g.2.2.1 0 < 80 := zw_ne80 hs80 c_1
    refine zw_aload_n (i := 0) (x := am 0) E 0 dX3_part_9 rfl rfl (pc' := 10) rfl ?_
    refine zw_get (v := .int (nI (g.2.2.1 1))) E 0 1 iX3_part_X3 fX3_part_80 rfl rfl (by decide) rfl rfl dX3_part_10 (pc' := 13) rfl ?_
    refine zw_topi (x' := nI (g.2.2.1 1)) rfl ?_
    refine zw_bipush (v := 58) E dX3_part_13 (by decide) (pc' := 15) rfl ?_
    refine zw_icmp_gt (tgt := 48) E dX3_part_15 (by decide) (pc' := 18) rfl (fun c_2 => ?_) (fun c_2 => ?_)
    · skip
      refine zw_iconst (v := (-1)) E dX3_part_48 (by decide) (pc' := 49) rfl ?_
      exact zw_iret E hr hlk dX3_part_49 (by unfold m_part1; rw [if_neg c_1, if_pos c_2]) (congrArg (md_W K am) (by unfold g_part1; rw [if_neg c_1, if_pos c_2]))
    · skip
      have hfl : g.2.2.1 1 + 1 < 60 := zw_le58 hf60 c_2
      refine zw_iload_n (i := 1) (x := y) E 1 dX3_part_18 rfl rfl (pc' := 19) rfl ?_
      refine zw_bipush (v := 8) E dX3_part_19 (by decide) (pc' := 21) rfl ?_
      refine zw_sipush (v := 200) E dX3_part_21 (by decide) (pc' := 24) rfl ?_
      refine zw_callIs E (r := zb (8 ≤ y ∧ y ≤ 200)) (As := [.int y, .int 8, .int 200]) (rest := []) (ws' := (md_W K am g)) (qX3_lies l D K y 8 200) (va_cwS 3 E.2.2.2.2.1 gX3_part_X3_lies rfl rfl rfl (by decide +kernel) ⟨Nat.le_of_ble_eq_true rfl, Nat.le_of_ble_eq_true rfl⟩) [] (by decide) rfl rfl (zw_put_same _ _ _ rfl) rfl rfl (Nat.le_of_ble_eq_true rfl) ⟨Nat.zero_le _, Nat.zero_le _⟩ dX3_part_24 (pc' := 27) rfl ?_
      refine zw_ifb_eq (tgt := 48) E dX3_part_27 (by decide) (pc' := 30) rfl (fun c_3 => ?_) (fun c_3 => ?_)
      · skip
        refine zw_iconst (v := (-1)) E dX3_part_48 (by decide) (pc' := 49) rfl ?_
        exact zw_iret E hr hlk dX3_part_49 (by unfold m_part1; rw [if_neg c_1, if_neg c_2, if_neg c_3]) (congrArg (md_W K am) (by unfold g_part1; rw [if_neg c_1, if_neg c_2, if_neg c_3]))
      · skip
        refine zw_aload_n (i := 0) (x := am 0) E 0 dX3_part_30 rfl rfl (pc' := 31) rfl ?_
        refine zw_iload_n (i := 2) (x := f) E 2 dX3_part_31 rfl rfl (pc' := 32) rfl ?_
        refine zw_callIw E (r := zb (0 ≤ f ∧ f ≤ nI (g.2.2.1 1) - 1)) (As := [.int f]) (rest := []) (ws' := (md_W K am g)) (qX3_isField l D K am g f) (cwV 1 E.2.2.2.2.1 gX3_part_X3_isField rfl rfl rfl (by decide +kernel) ⟨Nat.le_of_ble_eq_true rfl, Nat.le_of_ble_eq_true rfl⟩) 0 rfl rfl rfl rfl rfl rfl (Nat.le_of_ble_eq_true rfl) ⟨Nat.zero_le _, Nat.zero_le _⟩ dX3_part_32 (pc' := 35) rfl ?_
        refine zw_ifb_eq (tgt := 48) E dX3_part_35 (by decide) (pc' := 38) rfl (fun c_4 => ?_) (fun c_4 => ?_)
        · skip
          refine zw_iconst (v := (-1)) E dX3_part_48 (by decide) (pc' := 49) rfl ?_
          exact zw_iret E hr hlk dX3_part_49 (by unfold m_part1; rw [if_neg c_1, if_neg c_2, if_pos c_3, if_neg c_4]) (congrArg (md_W K am) (by unfold g_part1; rw [if_neg c_1, if_neg c_2, if_pos c_3, if_neg c_4]))
        · skip
          refine zw_iload_n (i := 3) (x := a) E 3 dX3_part_38 rfl rfl (pc' := 39) rfl ?_
          refine zw_iconst (v := 1) E dX3_part_39 (by decide) (pc' := 40) rfl ?_
          refine zw_ldc (v := 10000000) E dX3_part_40 kX3_part_152 (pc' := 42) rfl ?_
          refine zw_callIs E (r := zb (1 ≤ a ∧ a ≤ 10000000)) (As := [.int a, .int 1, .int 10000000]) (rest := []) (ws' := (md_W K am g)) (qX3_lies l D K a 1 10000000) (va_cwS 3 E.2.2.2.2.1 gX3_part_X3_lies rfl rfl rfl (by decide +kernel) ⟨Nat.le_of_ble_eq_true rfl, Nat.le_of_ble_eq_true rfl⟩) [] (by decide) rfl rfl (zw_put_same _ _ _ rfl) rfl rfl (Nat.le_of_ble_eq_true rfl) ⟨Nat.zero_le _, Nat.zero_le _⟩ dX3_part_42 (pc' := 45) rfl ?_
          refine zw_ifb_ne (tgt := 50) E dX3_part_45 (by decide) (pc' := 48) rfl (fun c_5 => ?_) (fun c_5 => ?_)
          · skip
            refine zw_aload_n (i := 0) (x := am 0) E 0 dX3_part_50 rfl rfl (pc' := 51) rfl ?_
            refine zw_iconst (v := 2) E dX3_part_51 (by decide) (pc' := 52) rfl ?_
            refine zw_iload_n (i := 1) (x := y) E 1 dX3_part_52 rfl rfl (pc' := 53) rfl ?_
            refine zw_iload_n (i := 2) (x := f) E 2 dX3_part_53 rfl rfl (pc' := 54) rfl ?_
            refine zw_iconst (v := (-1)) E dX3_part_54 (by decide) (pc' := 55) rfl ?_
            refine zw_iload_n (i := 3) (x := a) E 3 dX3_part_55 rfl rfl (pc' := 56) rfl ?_
            refine zw_iconst (v := 0) E dX3_part_56 (by decide) (pc' := 57) rfl ?_
            refine zw_callVw E (As := [.int 2, .int y, .int f, .int (-1), .int a, .int 0]) (rest := []) (ws' := (md_W K am (md_writes g 2 y f (-1) a 0))) (qX3_writes l D K am g hn 2 y f (-1) a 0) (cwV 6 E.2.2.2.2.1 gX3_part_X3_writes rfl rfl rfl (by decide +kernel) ⟨Nat.le_of_ble_eq_true rfl, Nat.le_of_ble_eq_true rfl⟩) 0 rfl rfl rfl (md_ad _ _ _ _) rfl rfl (Nat.le_of_ble_eq_true rfl) ⟨Nat.zero_le _, Nat.zero_le _⟩ dX3_part_57 (pc' := 60) rfl ?_
            refine zw_gen_md_g (md_writes g 2 y f (-1) a 0) (fun g_1 hg_1 => ?_)
            have e0_g_1 : g_1.2.2.1 0 = g.2.2.1 0 := by rw [← hg_1]; exact rfl
            have e1_g_1 : g_1.2.2.1 1 = g.2.2.1 1 := by rw [← hg_1]; exact rfl
            refine zw_aload_n (i := 0) (x := am 0) E 0 dX3_part_60 rfl rfl (pc' := 61) rfl ?_
            refine zw_iconst (v := 2) E dX3_part_61 (by decide) (pc' := 62) rfl ?_
            refine zw_callIw E (r := (g_tw g_1 2).1) (As := [.int 2]) (rest := []) (ws' := (md_W K am (g_take g_1 2))) (qX3_takes l D K am g_1 2 (by rw [e0_g_1]; omega) (by rw [e0_g_1, ← hg_1]; exact hw c_1 c_2 c_3 c_4 c_5)) (cwV 1 E.2.2.2.2.1 gX3_part_X3_takes rfl rfl rfl (by decide +kernel) ⟨Nat.le_of_ble_eq_true rfl, Nat.le_of_ble_eq_true rfl⟩) 0 rfl rfl rfl (md_ad _ _ _ _) rfl rfl (Nat.le_of_ble_eq_true rfl) ⟨Nat.zero_le _, Nat.zero_le _⟩ dX3_part_62 (pc' := 65) rfl ?_
            refine zw_gen_md_g (g_take g_1 2) (fun g_2 hg_2 => ?_)
            have e0_g_2 : g_2.2.2.1 0 = g.2.2.1 0 := by rw [← hg_2]; exact e0_g_1
            have e1_g_2 : g_2.2.2.1 1 = g.2.2.1 1 := by rw [← hg_2]; exact e1_g_1
            refine zw_if_ne (tgt := 70) E dX3_part_65 (by decide) (pc' := 68) rfl (fun c_6 => ?_) (fun c_6 => ?_)
            · skip
              refine zw_aload_n (i := 0) (x := am 0) E 0 dX3_part_70 rfl rfl (pc' := 71) rfl ?_
              refine zw_aload_n (i := 0) (x := am 0) E 0 dX3_part_71 rfl rfl (pc' := 72) rfl ?_
              refine zw_get (v := .int (nI (g_2.2.2.1 1))) E 0 1 iX3_part_X3 fX3_part_80 rfl rfl (by decide) rfl rfl dX3_part_72 (pc' := 75) rfl ?_
              refine zw_topi (x' := nI (g.2.2.1 1)) (congrArg nI e1_g_2) ?_
              refine zw_iload_n (i := 2) (x := f) E 2 dX3_part_75 rfl rfl (pc' := 76) rfl ?_
              refine zw_iconst (v := (-1)) E dX3_part_76 (by decide) (pc' := 77) rfl ?_
              refine zw_callVw E (As := [.int (nI (g.2.2.1 1)), .int f, .int (-1)]) (rest := []) (ws' := (md_W K am (md_made g_2 (g.2.2.1 1) f (-1)))) (qX3_isMade l D K am g_2 (g.2.2.1 1) (by omega) f (-1)) (cwV 3 E.2.2.2.2.1 gX3_part_X3_isMade rfl rfl rfl (by decide +kernel) ⟨Nat.le_of_ble_eq_true rfl, Nat.le_of_ble_eq_true rfl⟩) 0 rfl rfl rfl (md_ad _ _ _ _) rfl rfl (Nat.le_of_ble_eq_true rfl) ⟨Nat.zero_le _, Nat.zero_le _⟩ dX3_part_77 (pc' := 80) rfl ?_
              refine zw_gen_md_g (md_made g_2 (g.2.2.1 1) f (-1)) (fun g_3 hg_3 => ?_)
              have e0_g_3 : g_3.2.2.1 0 = g.2.2.1 0 := by rw [← hg_3]; exact e0_g_2
              have e1_g_3 : g_3.2.2.1 1 = g.2.2.1 1 := by rw [← hg_3]; exact e1_g_2
              refine zw_aload_n (i := 0) (x := am 0) E 0 dX3_part_80 rfl rfl (pc' := 81) rfl ?_
              refine zw_aload_n (i := 0) (x := am 0) E 0 dX3_part_81 rfl rfl (pc' := 82) rfl ?_
              refine zw_get (v := .int (nI (g_3.2.2.1 1))) E 0 1 iX3_part_X3 fX3_part_80 rfl rfl (by decide) rfl rfl dX3_part_82 (pc' := 85) rfl ?_
              refine zw_topi (x' := nI (g.2.2.1 1)) (congrArg nI e1_g_3) ?_
              refine zw_iconst (v := 1) E dX3_part_85 (by decide) (pc' := 86) rfl ?_
              refine zw_iadd E dX3_part_86 (pc' := 87) rfl ?_
              refine zw_topi (x' := nI (g.2.2.1 1 + 1)) (nI_1 _) ?_
              refine zw_iload_n (i := 2) (x := f) E 2 dX3_part_87 rfl rfl (pc' := 88) rfl ?_
              refine zw_iconst (v := (-1)) E dX3_part_88 (by decide) (pc' := 89) rfl ?_
              refine zw_callVw E (As := [.int (nI (g.2.2.1 1 + 1)), .int f, .int (-1)]) (rest := []) (ws' := (md_W K am (md_made g_3 (g.2.2.1 1 + 1) f (-1)))) (qX3_isMade l D K am g_3 (g.2.2.1 1 + 1) hfl f (-1)) (cwV 3 E.2.2.2.2.1 gX3_part_X3_isMade rfl rfl rfl (by decide +kernel) ⟨Nat.le_of_ble_eq_true rfl, Nat.le_of_ble_eq_true rfl⟩) 0 rfl rfl rfl (md_ad _ _ _ _) rfl rfl (Nat.le_of_ble_eq_true rfl) ⟨Nat.zero_le _, Nat.zero_le _⟩ dX3_part_89 (pc' := 92) rfl ?_
              refine zw_gen_md_g (md_made g_3 (g.2.2.1 1 + 1) f (-1)) (fun g_4 hg_4 => ?_)
              have e0_g_4 : g_4.2.2.1 0 = g.2.2.1 0 := by rw [← hg_4]; exact e0_g_3
              have e1_g_4 : g_4.2.2.1 1 = g.2.2.1 1 := by rw [← hg_4]; exact e1_g_3
              refine zw_aload_n (i := 0) (x := am 0) E 0 dX3_part_92 rfl rfl (pc' := 93) rfl ?_
              refine zw_get (v := .ref (am 9)) E 0 10 iX3_part_X3 fX3_part_34 rfl rfl (by decide) rfl rfl dX3_part_93 (pc' := 96) rfl ?_
              refine zw_iload_n (i := 2) (x := f) E 2 dX3_part_96 rfl rfl (pc' := 97) rfl ?_
              refine zw_aload_n (i := 0) (x := am 0) E 0 dX3_part_97 rfl rfl (pc' := 98) rfl ?_
              refine zw_get (v := .int (nI (g_4.2.2.1 0))) E 0 0 iX3_part_X3 fX3_part_72 rfl rfl (by decide) rfl rfl dX3_part_98 (pc' := 101) rfl ?_
              refine zw_topi (x' := nI (g.2.2.1 0)) (congrArg nI e0_g_4) ?_
              refine zw_iast (j := f.toNatClampNeg) (ws' := (md_W K am (md_row g_4 8 f.toNatClampNeg (nI (g.2.2.1 0))))) E 9 0 rfl rfl (zw_mfin hf60 c_4) rfl rfl dX3_part_101 (pc' := 102) rfl ?_
              refine zw_gen_md_g (md_row g_4 8 f.toNatClampNeg (nI (g.2.2.1 0))) (fun g_5 hg_5 => ?_)
              have e0_g_5 : g_5.2.2.1 0 = g.2.2.1 0 := by rw [← hg_5]; exact e0_g_4
              have e1_g_5 : g_5.2.2.1 1 = g.2.2.1 1 := by rw [← hg_5]; exact e1_g_4
              refine zw_aload_n (i := 0) (x := am 0) E 0 dX3_part_102 rfl rfl (pc' := 103) rfl ?_
              refine zw_dup E dX3_part_103 rfl (pc' := 104) rfl ?_
              refine zw_get (v := .int (nI (g_5.2.2.1 0))) E 0 0 iX3_part_X3 fX3_part_72 rfl rfl (by decide) rfl rfl dX3_part_104 (pc' := 107) rfl ?_
              refine zw_topi (x' := nI (g.2.2.1 0)) (congrArg nI e0_g_5) ?_
              refine zw_iconst (v := 1) E dX3_part_107 (by decide) (pc' := 108) rfl ?_
              refine zw_iadd E dX3_part_108 (pc' := 109) rfl ?_
              refine zw_topi (x' := nI (g.2.2.1 0 + 1)) (nI_1 _) ?_
              refine zw_putf (v := .int (nI (g.2.2.1 0 + 1))) (ty := .int) (ws' := (md_W K am (md_sc g_5 0 (g.2.2.1 0 + 1)))) E 0 0 iX3_part_X3 tyX3_ok nmX3 fX3_part_72 rfl rfl (by decide) rfl rfl rfl rfl rfl (Nat.le_of_ble_eq_true rfl) rfl dX3_part_109 (pc' := 112) rfl ?_
              refine zw_gen_md_g (md_sc g_5 0 (g.2.2.1 0 + 1)) (fun g_6 hg_6 => ?_)
              have e0_g_6 : g_6.2.2.1 0 = g.2.2.1 0 + 1 := by rw [← hg_6]; exact rfl
              have e1_g_6 : g_6.2.2.1 1 = g.2.2.1 1 := by rw [← hg_6]; exact e1_g_5
              refine zw_aload_n (i := 0) (x := am 0) E 0 dX3_part_112 rfl rfl (pc' := 113) rfl ?_
              refine zw_dup E dX3_part_113 rfl (pc' := 114) rfl ?_
              refine zw_get (v := .int (nI (g_6.2.2.1 1))) E 0 1 iX3_part_X3 fX3_part_80 rfl rfl (by decide) rfl rfl dX3_part_114 (pc' := 117) rfl ?_
              refine zw_topi (x' := nI (g.2.2.1 1)) (congrArg nI e1_g_6) ?_
              refine zw_iconst (v := 2) E dX3_part_117 (by decide) (pc' := 118) rfl ?_
              refine zw_iadd E dX3_part_118 (pc' := 119) rfl ?_
              refine zw_topi (x' := nI (g.2.2.1 1 + 2)) (nI_add _ 2) ?_
              refine zw_putf (v := .int (nI (g.2.2.1 1 + 2))) (ty := .int) (ws' := (md_W K am (md_sc g_6 1 (g.2.2.1 1 + 2)))) E 0 1 iX3_part_X3 tyX3_ok nmX3 fX3_part_80 rfl rfl (by decide) rfl rfl rfl rfl rfl (Nat.le_of_ble_eq_true rfl) rfl dX3_part_119 (pc' := 122) rfl ?_
              refine zw_gen_md_g (md_sc g_6 1 (g.2.2.1 1 + 2)) (fun g_7 hg_7 => ?_)
              have e0_g_7 : g_7.2.2.1 0 = g.2.2.1 0 + 1 := by rw [← hg_7]; exact e0_g_6
              have e1_g_7 : g_7.2.2.1 1 = g.2.2.1 1 + 2 := by rw [← hg_7]; exact rfl
              refine zw_aload_n (i := 0) (x := am 0) E 0 dX3_part_122 rfl rfl (pc' := 123) rfl ?_
              refine zw_get (v := .int (nI (g_7.2.2.1 1))) E 0 1 iX3_part_X3 fX3_part_80 rfl rfl (by decide) rfl rfl dX3_part_123 (pc' := 126) rfl ?_
              refine zw_topi (x' := nI (g.2.2.1 1 + 2)) (congrArg nI e1_g_7) ?_
              refine zw_iconst (v := 2) E dX3_part_126 (by decide) (pc' := 127) rfl ?_
              refine zw_isub E dX3_part_127 (pc' := 128) rfl ?_
              refine zw_topi (x' := nI (g.2.2.1 1)) (zw_sub2 _) ?_
              exact zw_iret E hr hlk dX3_part_128 (by unfold m_part1; rw [if_neg c_1, if_neg c_2, if_pos c_3, if_pos c_4, if_pos c_5, hg_1, if_neg c_6]) (congrArg (md_W K am) (by unfold g_part1; rw [if_neg c_1, if_neg c_2, if_pos c_3, if_pos c_4, if_pos c_5, hg_1, if_neg c_6, hg_2, hg_3, hg_4, hg_5, hg_6, hg_7]))
            · skip
              refine zw_iconst (v := (-1)) E dX3_part_68 (by decide) (pc' := 69) rfl ?_
              exact zw_iret E hr hlk dX3_part_69 (by unfold m_part1; rw [if_neg c_1, if_neg c_2, if_pos c_3, if_pos c_4, if_pos c_5, hg_1, if_pos c_6]) (congrArg (md_W K am) (by unfold g_part1; rw [if_neg c_1, if_neg c_2, if_pos c_3, if_pos c_4, if_pos c_5, hg_1, if_pos c_6, hg_2]))
          · skip
            refine zw_iconst (v := (-1)) E dX3_part_48 (by decide) (pc' := 49) rfl ?_
            exact zw_iret E hr hlk dX3_part_49 (by unfold m_part1; rw [if_neg c_1, if_neg c_2, if_pos c_3, if_pos c_4, if_neg c_5]) (congrArg (md_W K am) (by unfold g_part1; rw [if_neg c_1, if_neg c_2, if_pos c_3, if_pos c_4, if_neg c_5]))

def m_sell1 (g : Md) (y f o : Int32) : Int32 := if nI (g.2.2.1 0) = 80 then -1 else if (8 ≤ y ∧ y ≤ 200) then if (0 ≤ f ∧ f ≤ nI (g.2.2.1 1) - 1) then if (0 ≤ o ∧ o ≤ 9) then m_taken (md_writes g 4 y f (-1) o 0) else -1 else -1 else -1
def g_sell1 (g : Md) (y f o : Int32) : Md := if nI (g.2.2.1 0) = 80 then g else if (8 ≤ y ∧ y ≤ 200) then if (0 ≤ f ∧ f ≤ nI (g.2.2.1 1) - 1) then if (0 ≤ o ∧ o ≤ 9) then g_taken (md_writes g 4 y f (-1) o 0) else g else g else g
theorem fX3_sell_72 : Cond.fieldLink RX3 72 "TitheMapModel" "entries" "I" ∈ wsX3_sell := by decide +kernel
theorem iX3_sell_X3 : ∀ w ∈ wsX30, w ∈ wsX3_sell := by decide +kernel
set_option maxHeartbeats 4000000 in
set_option maxRecDepth 100000 in
/-- sell -/
theorem qX3_sell (l : Launch) (D : va_G) (K : Nat → ClassId) (am : Nat → Nat) (g : Md) (hs80 : g.2.2.1 0 ≤ 80) (hf60 : g.2.2.1 1 ≤ 60) (y f o : Int32) (hw : ¬ nI (g.2.2.1 0) = 80 → (8 ≤ y ∧ y ≤ 200) → (0 ≤ f ∧ f ≤ nI (g.2.2.1 1) - 1) → (0 ≤ o ∧ o ≤ 9) → wk_ok (g_t3 (g_mk (md_writes g 4 y f (-1) o 0) 0) 0) (g.2.2.1 0 + 1)) : zw_I l yX3_sell wsX3_sell rmX3_sell D (zT K) [.ref (am 0), .int y, .int f, .int o] (md_W K am g) (m_sell1 g y f o) (md_W K am (g_sell1 g y f o)) := by
  refine zw_ofI (cc := cX3_sell) (nL := 4) (ret := (some .int)) (own := RX3) (lv := [(0, .ref (am 0)), (1, .int y), (2, .int f), (3, .int o)]) (by decide) rfl (Nat.le_of_ble_eq_true rfl) rfl rfl ?_
  intro p e s m below meth c A E hr hlk
  refine zw_aload_n (i := 0) (x := am 0) E 0 dX3_sell_0 rfl rfl (pc' := 1) rfl ?_
  refine zw_get (v := .int (nI (g.2.2.1 0))) E 0 0 iX3_sell_X3 fX3_sell_72 rfl rfl (by decide) rfl rfl dX3_sell_1 (pc' := 4) rfl ?_
  refine zw_topi (x' := nI (g.2.2.1 0)) rfl ?_
  refine zw_bipush (v := 80) E dX3_sell_4 (by decide) (pc' := 6) rfl ?_
  refine zw_icmp_eq (tgt := 39) E dX3_sell_6 (by decide) (pc' := 9) rfl (fun c_1 => ?_) (fun c_1 => ?_)
  · skip
    refine zw_iconst (v := (-1)) E dX3_sell_39 (by decide) (pc' := 40) rfl ?_
    exact zw_iret E hr hlk dX3_sell_40 (by unfold m_sell1; rw [if_pos c_1]) (congrArg (md_W K am) (by unfold g_sell1; rw [if_pos c_1]))
  · skip
    have hn : g.2.2.1 0 < 80 := zw_ne80 hs80 c_1
    refine zw_iload_n (i := 1) (x := y) E 1 dX3_sell_9 rfl rfl (pc' := 10) rfl ?_
    refine zw_bipush (v := 8) E dX3_sell_10 (by decide) (pc' := 12) rfl ?_
    refine zw_sipush (v := 200) E dX3_sell_12 (by decide) (pc' := 15) rfl ?_
    refine zw_callIs E (r := zb (8 ≤ y ∧ y ≤ 200)) (As := [.int y, .int 8, .int 200]) (rest := []) (ws' := (md_W K am g)) (qX3_lies l D K y 8 200) (va_cwS 3 E.2.2.2.2.1 gX3_sell_X3_lies rfl rfl rfl (by decide +kernel) ⟨Nat.le_of_ble_eq_true rfl, Nat.le_of_ble_eq_true rfl⟩) [] (by decide) rfl rfl (zw_put_same _ _ _ rfl) rfl rfl (Nat.le_of_ble_eq_true rfl) ⟨Nat.zero_le _, Nat.zero_le _⟩ dX3_sell_15 (pc' := 18) rfl ?_
    refine zw_ifb_eq (tgt := 39) E dX3_sell_18 (by decide) (pc' := 21) rfl (fun c_2 => ?_) (fun c_2 => ?_)
    · skip
      refine zw_iconst (v := (-1)) E dX3_sell_39 (by decide) (pc' := 40) rfl ?_
      exact zw_iret E hr hlk dX3_sell_40 (by unfold m_sell1; rw [if_neg c_1, if_neg c_2]) (congrArg (md_W K am) (by unfold g_sell1; rw [if_neg c_1, if_neg c_2]))
    · skip
      refine zw_aload_n (i := 0) (x := am 0) E 0 dX3_sell_21 rfl rfl (pc' := 22) rfl ?_
      refine zw_iload_n (i := 2) (x := f) E 2 dX3_sell_22 rfl rfl (pc' := 23) rfl ?_
      refine zw_callIw E (r := zb (0 ≤ f ∧ f ≤ nI (g.2.2.1 1) - 1)) (As := [.int f]) (rest := []) (ws' := (md_W K am g)) (qX3_isField l D K am g f) (cwV 1 E.2.2.2.2.1 gX3_sell_X3_isField rfl rfl rfl (by decide +kernel) ⟨Nat.le_of_ble_eq_true rfl, Nat.le_of_ble_eq_true rfl⟩) 0 rfl rfl rfl rfl rfl rfl (Nat.le_of_ble_eq_true rfl) ⟨Nat.zero_le _, Nat.zero_le _⟩ dX3_sell_23 (pc' := 26) rfl ?_
      refine zw_ifb_eq (tgt := 39) E dX3_sell_26 (by decide) (pc' := 29) rfl (fun c_3 => ?_) (fun c_3 => ?_)
      · skip
        refine zw_iconst (v := (-1)) E dX3_sell_39 (by decide) (pc' := 40) rfl ?_
        exact zw_iret E hr hlk dX3_sell_40 (by unfold m_sell1; rw [if_neg c_1, if_pos c_2, if_neg c_3]) (congrArg (md_W K am) (by unfold g_sell1; rw [if_neg c_1, if_pos c_2, if_neg c_3]))
      · skip
        refine zw_iload_n (i := 3) (x := o) E 3 dX3_sell_29 rfl rfl (pc' := 30) rfl ?_
        refine zw_iconst (v := 0) E dX3_sell_30 (by decide) (pc' := 31) rfl ?_
        refine zw_bipush (v := 9) E dX3_sell_31 (by decide) (pc' := 33) rfl ?_
        refine zw_callIs E (r := zb (0 ≤ o ∧ o ≤ 9)) (As := [.int o, .int 0, .int 9]) (rest := []) (ws' := (md_W K am g)) (qX3_lies l D K o 0 9) (va_cwS 3 E.2.2.2.2.1 gX3_sell_X3_lies rfl rfl rfl (by decide +kernel) ⟨Nat.le_of_ble_eq_true rfl, Nat.le_of_ble_eq_true rfl⟩) [] (by decide) rfl rfl (zw_put_same _ _ _ rfl) rfl rfl (Nat.le_of_ble_eq_true rfl) ⟨Nat.zero_le _, Nat.zero_le _⟩ dX3_sell_33 (pc' := 36) rfl ?_
        refine zw_ifb_ne (tgt := 41) E dX3_sell_36 (by decide) (pc' := 39) rfl (fun c_4 => ?_) (fun c_4 => ?_)
        · skip
          refine zw_aload_n (i := 0) (x := am 0) E 0 dX3_sell_41 rfl rfl (pc' := 42) rfl ?_
          refine zw_iconst (v := 4) E dX3_sell_42 (by decide) (pc' := 43) rfl ?_
          refine zw_iload_n (i := 1) (x := y) E 1 dX3_sell_43 rfl rfl (pc' := 44) rfl ?_
          refine zw_iload_n (i := 2) (x := f) E 2 dX3_sell_44 rfl rfl (pc' := 45) rfl ?_
          refine zw_iconst (v := (-1)) E dX3_sell_45 (by decide) (pc' := 46) rfl ?_
          refine zw_iload_n (i := 3) (x := o) E 3 dX3_sell_46 rfl rfl (pc' := 47) rfl ?_
          refine zw_iconst (v := 0) E dX3_sell_47 (by decide) (pc' := 48) rfl ?_
          refine zw_callVw E (As := [.int 4, .int y, .int f, .int (-1), .int o, .int 0]) (rest := []) (ws' := (md_W K am (md_writes g 4 y f (-1) o 0))) (qX3_writes l D K am g hn 4 y f (-1) o 0) (cwV 6 E.2.2.2.2.1 gX3_sell_X3_writes rfl rfl rfl (by decide +kernel) ⟨Nat.le_of_ble_eq_true rfl, Nat.le_of_ble_eq_true rfl⟩) 0 rfl rfl rfl (md_ad _ _ _ _) rfl rfl (Nat.le_of_ble_eq_true rfl) ⟨Nat.zero_le _, Nat.zero_le _⟩ dX3_sell_48 (pc' := 51) rfl ?_
          refine zw_gen_md_g (md_writes g 4 y f (-1) o 0) (fun g_1 hg_1 => ?_)
          have e0_g_1 : g_1.2.2.1 0 = g.2.2.1 0 := by rw [← hg_1]; exact rfl
          have e1_g_1 : g_1.2.2.1 1 = g.2.2.1 1 := by rw [← hg_1]; exact rfl
          refine zw_aload_n (i := 0) (x := am 0) E 0 dX3_sell_51 rfl rfl (pc' := 52) rfl ?_
          refine zw_callIw E (r := m_taken g_1) (As := []) (rest := []) (ws' := (md_W K am (g_taken g_1))) (qX3_taken l D K am g_1 (by rw [e0_g_1]; omega) (by rw [e0_g_1, ← hg_1]; exact hw c_1 c_2 c_3 c_4)) (cwV 0 E.2.2.2.2.1 gX3_sell_X3_taken rfl rfl rfl (by decide +kernel) ⟨Nat.le_of_ble_eq_true rfl, Nat.le_of_ble_eq_true rfl⟩) 0 rfl rfl rfl (md_ad _ _ _ _) rfl rfl (Nat.le_of_ble_eq_true rfl) ⟨Nat.zero_le _, Nat.zero_le _⟩ dX3_sell_52 (pc' := 55) rfl ?_
          refine zw_gen_md_g (g_taken g_1) (fun g_2 hg_2 => ?_)
          exact zw_iret E hr hlk dX3_sell_55 (by unfold m_sell1; rw [if_neg c_1, if_pos c_2, if_pos c_3, if_pos c_4, hg_1]) (congrArg (md_W K am) (by unfold g_sell1; rw [if_neg c_1, if_pos c_2, if_pos c_3, if_pos c_4, hg_1, hg_2]))
        · skip
          refine zw_iconst (v := (-1)) E dX3_sell_39 (by decide) (pc' := 40) rfl ?_
          exact zw_iret E hr hlk dX3_sell_40 (by unfold m_sell1; rw [if_neg c_1, if_pos c_2, if_pos c_3, if_neg c_4]) (congrArg (md_W K am) (by unfold g_sell1; rw [if_neg c_1, if_pos c_2, if_pos c_3, if_neg c_4]))

def m_settle1 (g : Md) (y q : Int32) : Int32 := if nI (g.2.2.1 0) = 80 then -1 else if (8 ≤ y ∧ y ≤ 200) then if (1 ≤ q ∧ q ≤ 1000000) then m_taken (md_writes g 5 y (-1) (-1) q 0) else -1 else -1
def g_settle1 (g : Md) (y q : Int32) : Md := if nI (g.2.2.1 0) = 80 then g else if (8 ≤ y ∧ y ≤ 200) then if (1 ≤ q ∧ q ≤ 1000000) then g_taken (md_writes g 5 y (-1) (-1) q 0) else g else g
theorem kX3_settle_157 : Cond.constant RX3 157 (1000000) ∈ wsX3_settle := by decide +kernel
theorem fX3_settle_72 : Cond.fieldLink RX3 72 "TitheMapModel" "entries" "I" ∈ wsX3_settle := by decide +kernel
theorem iX3_settle_X3 : ∀ w ∈ wsX30, w ∈ wsX3_settle := by decide +kernel
set_option maxHeartbeats 4000000 in
set_option maxRecDepth 100000 in
/-- settle -/
theorem qX3_settle (l : Launch) (D : va_G) (K : Nat → ClassId) (am : Nat → Nat) (g : Md) (hs80 : g.2.2.1 0 ≤ 80) (hf60 : g.2.2.1 1 ≤ 60) (y q : Int32) (hw : ¬ nI (g.2.2.1 0) = 80 → (8 ≤ y ∧ y ≤ 200) → (1 ≤ q ∧ q ≤ 1000000) → wk_ok (g_t3 (g_mk (md_writes g 5 y (-1) (-1) q 0) 0) 0) (g.2.2.1 0 + 1)) : zw_I l yX3_settle wsX3_settle rmX3_settle D (zT K) [.ref (am 0), .int y, .int q] (md_W K am g) (m_settle1 g y q) (md_W K am (g_settle1 g y q)) := by
  refine zw_ofI (cc := cX3_settle) (nL := 3) (ret := (some .int)) (own := RX3) (lv := [(0, .ref (am 0)), (1, .int y), (2, .int q)]) (by decide) rfl (Nat.le_of_ble_eq_true rfl) rfl rfl ?_
  intro p e s m below meth c A E hr hlk
  refine zw_aload_n (i := 0) (x := am 0) E 0 dX3_settle_0 rfl rfl (pc' := 1) rfl ?_
  refine zw_get (v := .int (nI (g.2.2.1 0))) E 0 0 iX3_settle_X3 fX3_settle_72 rfl rfl (by decide) rfl rfl dX3_settle_1 (pc' := 4) rfl ?_
  refine zw_topi (x' := nI (g.2.2.1 0)) rfl ?_
  refine zw_bipush (v := 80) E dX3_settle_4 (by decide) (pc' := 6) rfl ?_
  refine zw_icmp_eq (tgt := 31) E dX3_settle_6 (by decide) (pc' := 9) rfl (fun c_1 => ?_) (fun c_1 => ?_)
  · skip
    refine zw_iconst (v := (-1)) E dX3_settle_31 (by decide) (pc' := 32) rfl ?_
    exact zw_iret E hr hlk dX3_settle_32 (by unfold m_settle1; rw [if_pos c_1]) (congrArg (md_W K am) (by unfold g_settle1; rw [if_pos c_1]))
  · skip
    have hn : g.2.2.1 0 < 80 := zw_ne80 hs80 c_1
    refine zw_iload_n (i := 1) (x := y) E 1 dX3_settle_9 rfl rfl (pc' := 10) rfl ?_
    refine zw_bipush (v := 8) E dX3_settle_10 (by decide) (pc' := 12) rfl ?_
    refine zw_sipush (v := 200) E dX3_settle_12 (by decide) (pc' := 15) rfl ?_
    refine zw_callIs E (r := zb (8 ≤ y ∧ y ≤ 200)) (As := [.int y, .int 8, .int 200]) (rest := []) (ws' := (md_W K am g)) (qX3_lies l D K y 8 200) (va_cwS 3 E.2.2.2.2.1 gX3_settle_X3_lies rfl rfl rfl (by decide +kernel) ⟨Nat.le_of_ble_eq_true rfl, Nat.le_of_ble_eq_true rfl⟩) [] (by decide) rfl rfl (zw_put_same _ _ _ rfl) rfl rfl (Nat.le_of_ble_eq_true rfl) ⟨Nat.zero_le _, Nat.zero_le _⟩ dX3_settle_15 (pc' := 18) rfl ?_
    refine zw_ifb_eq (tgt := 31) E dX3_settle_18 (by decide) (pc' := 21) rfl (fun c_2 => ?_) (fun c_2 => ?_)
    · skip
      refine zw_iconst (v := (-1)) E dX3_settle_31 (by decide) (pc' := 32) rfl ?_
      exact zw_iret E hr hlk dX3_settle_32 (by unfold m_settle1; rw [if_neg c_1, if_neg c_2]) (congrArg (md_W K am) (by unfold g_settle1; rw [if_neg c_1, if_neg c_2]))
    · skip
      refine zw_iload_n (i := 2) (x := q) E 2 dX3_settle_21 rfl rfl (pc' := 22) rfl ?_
      refine zw_iconst (v := 1) E dX3_settle_22 (by decide) (pc' := 23) rfl ?_
      refine zw_ldc (v := 1000000) E dX3_settle_23 kX3_settle_157 (pc' := 25) rfl ?_
      refine zw_callIs E (r := zb (1 ≤ q ∧ q ≤ 1000000)) (As := [.int q, .int 1, .int 1000000]) (rest := []) (ws' := (md_W K am g)) (qX3_lies l D K q 1 1000000) (va_cwS 3 E.2.2.2.2.1 gX3_settle_X3_lies rfl rfl rfl (by decide +kernel) ⟨Nat.le_of_ble_eq_true rfl, Nat.le_of_ble_eq_true rfl⟩) [] (by decide) rfl rfl (zw_put_same _ _ _ rfl) rfl rfl (Nat.le_of_ble_eq_true rfl) ⟨Nat.zero_le _, Nat.zero_le _⟩ dX3_settle_25 (pc' := 28) rfl ?_
      refine zw_ifb_ne (tgt := 33) E dX3_settle_28 (by decide) (pc' := 31) rfl (fun c_3 => ?_) (fun c_3 => ?_)
      · skip
        refine zw_aload_n (i := 0) (x := am 0) E 0 dX3_settle_33 rfl rfl (pc' := 34) rfl ?_
        refine zw_iconst (v := 5) E dX3_settle_34 (by decide) (pc' := 35) rfl ?_
        refine zw_iload_n (i := 1) (x := y) E 1 dX3_settle_35 rfl rfl (pc' := 36) rfl ?_
        refine zw_iconst (v := (-1)) E dX3_settle_36 (by decide) (pc' := 37) rfl ?_
        refine zw_iconst (v := (-1)) E dX3_settle_37 (by decide) (pc' := 38) rfl ?_
        refine zw_iload_n (i := 2) (x := q) E 2 dX3_settle_38 rfl rfl (pc' := 39) rfl ?_
        refine zw_iconst (v := 0) E dX3_settle_39 (by decide) (pc' := 40) rfl ?_
        refine zw_callVw E (As := [.int 5, .int y, .int (-1), .int (-1), .int q, .int 0]) (rest := []) (ws' := (md_W K am (md_writes g 5 y (-1) (-1) q 0))) (qX3_writes l D K am g hn 5 y (-1) (-1) q 0) (cwV 6 E.2.2.2.2.1 gX3_settle_X3_writes rfl rfl rfl (by decide +kernel) ⟨Nat.le_of_ble_eq_true rfl, Nat.le_of_ble_eq_true rfl⟩) 0 rfl rfl rfl (md_ad _ _ _ _) rfl rfl (Nat.le_of_ble_eq_true rfl) ⟨Nat.zero_le _, Nat.zero_le _⟩ dX3_settle_40 (pc' := 43) rfl ?_
        refine zw_gen_md_g (md_writes g 5 y (-1) (-1) q 0) (fun g_1 hg_1 => ?_)
        have e0_g_1 : g_1.2.2.1 0 = g.2.2.1 0 := by rw [← hg_1]; exact rfl
        have e1_g_1 : g_1.2.2.1 1 = g.2.2.1 1 := by rw [← hg_1]; exact rfl
        refine zw_aload_n (i := 0) (x := am 0) E 0 dX3_settle_43 rfl rfl (pc' := 44) rfl ?_
        refine zw_callIw E (r := m_taken g_1) (As := []) (rest := []) (ws' := (md_W K am (g_taken g_1))) (qX3_taken l D K am g_1 (by rw [e0_g_1]; omega) (by rw [e0_g_1, ← hg_1]; exact hw c_1 c_2 c_3)) (cwV 0 E.2.2.2.2.1 gX3_settle_X3_taken rfl rfl rfl (by decide +kernel) ⟨Nat.le_of_ble_eq_true rfl, Nat.le_of_ble_eq_true rfl⟩) 0 rfl rfl rfl (md_ad _ _ _ _) rfl rfl (Nat.le_of_ble_eq_true rfl) ⟨Nat.zero_le _, Nat.zero_le _⟩ dX3_settle_44 (pc' := 47) rfl ?_
        refine zw_gen_md_g (g_taken g_1) (fun g_2 hg_2 => ?_)
        exact zw_iret E hr hlk dX3_settle_47 (by unfold m_settle1; rw [if_neg c_1, if_pos c_2, if_pos c_3, hg_1]) (congrArg (md_W K am) (by unfold g_settle1; rw [if_neg c_1, if_pos c_2, if_pos c_3, hg_1, hg_2]))
      · skip
        refine zw_iconst (v := (-1)) E dX3_settle_31 (by decide) (pc' := 32) rfl ?_
        exact zw_iret E hr hlk dX3_settle_32 (by unfold m_settle1; rw [if_neg c_1, if_pos c_2, if_neg c_3]) (congrArg (md_W K am) (by unfold g_settle1; rw [if_neg c_1, if_pos c_2, if_neg c_3]))

def m_buy1 (g : Md) (y f : Int32) : Int32 := if nI (g.2.2.1 0) = 80 then -1 else if (8 ≤ y ∧ y ≤ 200) then if (0 ≤ f ∧ f ≤ nI (g.2.2.1 1) - 1) then m_taken (md_writes g 6 y f (-1) 0 0) else -1 else -1
def g_buy1 (g : Md) (y f : Int32) : Md := if nI (g.2.2.1 0) = 80 then g else if (8 ≤ y ∧ y ≤ 200) then if (0 ≤ f ∧ f ≤ nI (g.2.2.1 1) - 1) then g_taken (md_writes g 6 y f (-1) 0 0) else g else g
theorem fX3_buy_72 : Cond.fieldLink RX3 72 "TitheMapModel" "entries" "I" ∈ wsX3_buy := by decide +kernel
theorem iX3_buy_X3 : ∀ w ∈ wsX30, w ∈ wsX3_buy := by decide +kernel
set_option maxHeartbeats 4000000 in
set_option maxRecDepth 100000 in
/-- buy -/
theorem qX3_buy (l : Launch) (D : va_G) (K : Nat → ClassId) (am : Nat → Nat) (g : Md) (hs80 : g.2.2.1 0 ≤ 80) (hf60 : g.2.2.1 1 ≤ 60) (y f : Int32) (hw : ¬ nI (g.2.2.1 0) = 80 → (8 ≤ y ∧ y ≤ 200) → (0 ≤ f ∧ f ≤ nI (g.2.2.1 1) - 1) → wk_ok (g_t3 (g_mk (md_writes g 6 y f (-1) 0 0) 0) 0) (g.2.2.1 0 + 1)) : zw_I l yX3_buy wsX3_buy rmX3_buy D (zT K) [.ref (am 0), .int y, .int f] (md_W K am g) (m_buy1 g y f) (md_W K am (g_buy1 g y f)) := by
  refine zw_ofI (cc := cX3_buy) (nL := 3) (ret := (some .int)) (own := RX3) (lv := [(0, .ref (am 0)), (1, .int y), (2, .int f)]) (by decide) rfl (Nat.le_of_ble_eq_true rfl) rfl rfl ?_
  intro p e s m below meth c A E hr hlk
  refine zw_aload_n (i := 0) (x := am 0) E 0 dX3_buy_0 rfl rfl (pc' := 1) rfl ?_
  refine zw_get (v := .int (nI (g.2.2.1 0))) E 0 0 iX3_buy_X3 fX3_buy_72 rfl rfl (by decide) rfl rfl dX3_buy_1 (pc' := 4) rfl ?_
  refine zw_topi (x' := nI (g.2.2.1 0)) rfl ?_
  refine zw_bipush (v := 80) E dX3_buy_4 (by decide) (pc' := 6) rfl ?_
  refine zw_icmp_eq (tgt := 29) E dX3_buy_6 (by decide) (pc' := 9) rfl (fun c_1 => ?_) (fun c_1 => ?_)
  · skip
    refine zw_iconst (v := (-1)) E dX3_buy_29 (by decide) (pc' := 30) rfl ?_
    exact zw_iret E hr hlk dX3_buy_30 (by unfold m_buy1; rw [if_pos c_1]) (congrArg (md_W K am) (by unfold g_buy1; rw [if_pos c_1]))
  · skip
    have hn : g.2.2.1 0 < 80 := zw_ne80 hs80 c_1
    refine zw_iload_n (i := 1) (x := y) E 1 dX3_buy_9 rfl rfl (pc' := 10) rfl ?_
    refine zw_bipush (v := 8) E dX3_buy_10 (by decide) (pc' := 12) rfl ?_
    refine zw_sipush (v := 200) E dX3_buy_12 (by decide) (pc' := 15) rfl ?_
    refine zw_callIs E (r := zb (8 ≤ y ∧ y ≤ 200)) (As := [.int y, .int 8, .int 200]) (rest := []) (ws' := (md_W K am g)) (qX3_lies l D K y 8 200) (va_cwS 3 E.2.2.2.2.1 gX3_buy_X3_lies rfl rfl rfl (by decide +kernel) ⟨Nat.le_of_ble_eq_true rfl, Nat.le_of_ble_eq_true rfl⟩) [] (by decide) rfl rfl (zw_put_same _ _ _ rfl) rfl rfl (Nat.le_of_ble_eq_true rfl) ⟨Nat.zero_le _, Nat.zero_le _⟩ dX3_buy_15 (pc' := 18) rfl ?_
    refine zw_ifb_eq (tgt := 29) E dX3_buy_18 (by decide) (pc' := 21) rfl (fun c_2 => ?_) (fun c_2 => ?_)
    · skip
      refine zw_iconst (v := (-1)) E dX3_buy_29 (by decide) (pc' := 30) rfl ?_
      exact zw_iret E hr hlk dX3_buy_30 (by unfold m_buy1; rw [if_neg c_1, if_neg c_2]) (congrArg (md_W K am) (by unfold g_buy1; rw [if_neg c_1, if_neg c_2]))
    · skip
      refine zw_aload_n (i := 0) (x := am 0) E 0 dX3_buy_21 rfl rfl (pc' := 22) rfl ?_
      refine zw_iload_n (i := 2) (x := f) E 2 dX3_buy_22 rfl rfl (pc' := 23) rfl ?_
      refine zw_callIw E (r := zb (0 ≤ f ∧ f ≤ nI (g.2.2.1 1) - 1)) (As := [.int f]) (rest := []) (ws' := (md_W K am g)) (qX3_isField l D K am g f) (cwV 1 E.2.2.2.2.1 gX3_buy_X3_isField rfl rfl rfl (by decide +kernel) ⟨Nat.le_of_ble_eq_true rfl, Nat.le_of_ble_eq_true rfl⟩) 0 rfl rfl rfl rfl rfl rfl (Nat.le_of_ble_eq_true rfl) ⟨Nat.zero_le _, Nat.zero_le _⟩ dX3_buy_23 (pc' := 26) rfl ?_
      refine zw_ifb_ne (tgt := 31) E dX3_buy_26 (by decide) (pc' := 29) rfl (fun c_3 => ?_) (fun c_3 => ?_)
      · skip
        refine zw_aload_n (i := 0) (x := am 0) E 0 dX3_buy_31 rfl rfl (pc' := 32) rfl ?_
        refine zw_bipush (v := 6) E dX3_buy_32 (by decide) (pc' := 34) rfl ?_
        refine zw_iload_n (i := 1) (x := y) E 1 dX3_buy_34 rfl rfl (pc' := 35) rfl ?_
        refine zw_iload_n (i := 2) (x := f) E 2 dX3_buy_35 rfl rfl (pc' := 36) rfl ?_
        refine zw_iconst (v := (-1)) E dX3_buy_36 (by decide) (pc' := 37) rfl ?_
        refine zw_iconst (v := 0) E dX3_buy_37 (by decide) (pc' := 38) rfl ?_
        refine zw_iconst (v := 0) E dX3_buy_38 (by decide) (pc' := 39) rfl ?_
        refine zw_callVw E (As := [.int 6, .int y, .int f, .int (-1), .int 0, .int 0]) (rest := []) (ws' := (md_W K am (md_writes g 6 y f (-1) 0 0))) (qX3_writes l D K am g hn 6 y f (-1) 0 0) (cwV 6 E.2.2.2.2.1 gX3_buy_X3_writes rfl rfl rfl (by decide +kernel) ⟨Nat.le_of_ble_eq_true rfl, Nat.le_of_ble_eq_true rfl⟩) 0 rfl rfl rfl (md_ad _ _ _ _) rfl rfl (Nat.le_of_ble_eq_true rfl) ⟨Nat.zero_le _, Nat.zero_le _⟩ dX3_buy_39 (pc' := 42) rfl ?_
        refine zw_gen_md_g (md_writes g 6 y f (-1) 0 0) (fun g_1 hg_1 => ?_)
        have e0_g_1 : g_1.2.2.1 0 = g.2.2.1 0 := by rw [← hg_1]; exact rfl
        have e1_g_1 : g_1.2.2.1 1 = g.2.2.1 1 := by rw [← hg_1]; exact rfl
        refine zw_aload_n (i := 0) (x := am 0) E 0 dX3_buy_42 rfl rfl (pc' := 43) rfl ?_
        refine zw_callIw E (r := m_taken g_1) (As := []) (rest := []) (ws' := (md_W K am (g_taken g_1))) (qX3_taken l D K am g_1 (by rw [e0_g_1]; omega) (by rw [e0_g_1, ← hg_1]; exact hw c_1 c_2 c_3)) (cwV 0 E.2.2.2.2.1 gX3_buy_X3_taken rfl rfl rfl (by decide +kernel) ⟨Nat.le_of_ble_eq_true rfl, Nat.le_of_ble_eq_true rfl⟩) 0 rfl rfl rfl (md_ad _ _ _ _) rfl rfl (Nat.le_of_ble_eq_true rfl) ⟨Nat.zero_le _, Nat.zero_le _⟩ dX3_buy_43 (pc' := 46) rfl ?_
        refine zw_gen_md_g (g_taken g_1) (fun g_2 hg_2 => ?_)
        exact zw_iret E hr hlk dX3_buy_46 (by unfold m_buy1; rw [if_neg c_1, if_pos c_2, if_pos c_3, hg_1]) (congrArg (md_W K am) (by unfold g_buy1; rw [if_neg c_1, if_pos c_2, if_pos c_3, hg_1, hg_2]))
      · skip
        refine zw_iconst (v := (-1)) E dX3_buy_29 (by decide) (pc' := 30) rfl ?_
        exact zw_iret E hr hlk dX3_buy_30 (by unfold m_buy1; rw [if_neg c_1, if_pos c_2, if_neg c_3]) (congrArg (md_W K am) (by unfold g_buy1; rw [if_neg c_1, if_pos c_2, if_neg c_3]))
