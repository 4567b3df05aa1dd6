/-! the reference: parts, joins, is, writes, isMade -/
abbrev m_is (g : Md) (f : Int32) : Prop := (0 ≤ f ∧ f ≤ nI (g.2.2.1 1) - 1) ∧ ¬ g.1 11 f.toNatClampNeg = 0
theorem zw_mf {f : Int32} {n : Nat} (hn : n ≤ 60) (h : 0 ≤ f ∧ f ≤ nI n - 1) : ∃ i, i < n ∧ f = nI i := by
  cases n with
  | zero =>
    exfalso
    have h2 := h.2
    rw [show nI 0 - 1 = (-1 : Int32) by decide] at h2
    exact absurd (Int32.le_trans h.1 h2) (by decide)
  | succ n =>
    have h2 := h.2
    rw [nI_pred] at h2
    obtain ⟨j, hj, e⟩ := nI_of2 (n := n) (nI_toInt (by omega)) (Int32.not_lt.mpr h.1) h2
    exact ⟨j, by omega, e⟩
theorem zw_mfin {f : Int32} {n : Nat} (hn : n ≤ 60) (h : 0 ≤ f ∧ f ≤ nI n - 1) : vp_in f 60 := by
  obtain ⟨i, hi, e⟩ := zw_mf hn h
  rw [e]
  exact vp_in_nI (by omega) (by decide)
theorem fX3_is_43 : Cond.fieldLink RX3 43 "TitheMapModel" "isThere" "[Z" ∈ wsX3_is := by decide +kernel
theorem iX3_is_X3 : ∀ w ∈ wsX30, w ∈ wsX3_is := by decide +kernel
set_option maxHeartbeats 4000000 in
set_option maxRecDepth 100000 in
/-- is(f) -/
theorem qX3_is (l : Launch) (D : va_G) (K : Nat → ClassId) (am : Nat → Nat) (g : Md) (hf60 : g.2.2.1 1 ≤ 60) (f : Int32) : zw_I l yX3_is wsX3_is rmX3_is D (zT K) [.ref (am 0), .int f] (md_W K am g) (zb (m_is g f)) (md_W K am g) := by
  refine zw_ofI (cc := cX3_is) (nL := 2) (ret := (some .boolean)) (own := RX3) (lv := [(0, .ref (am 0)), (1, .int f)]) (by decide) rfl (Nat.le_of_ble_eq_true rfl) rfl rfl ?_
  intro p e s m below meth c A E hr hlk
  refine zw_aload_n (i := 0) (x := am 0) E 0 dX3_is_0 rfl rfl (pc' := 1) rfl ?_
  refine zw_iload_n (i := 1) (x := f) E 1 dX3_is_1 rfl rfl (pc' := 2) rfl ?_
  refine zw_callIw E (r := zb (0 ≤ f ∧ f ≤ nI (g.2.2.1 1) - 1)) (As := [.int f]) (rest := []) (ws' := (md_W K am g)) (qX3_isField l D K am g f) (cwV 1 E.2.2.2.2.1 gX3_is_X3_isField rfl rfl rfl (by decide +kernel) ⟨Nat.le_of_ble_eq_true rfl, Nat.le_of_ble_eq_true rfl⟩) 0 rfl rfl rfl rfl rfl rfl (Nat.le_of_ble_eq_true rfl) ⟨Nat.zero_le _, Nat.zero_le _⟩ dX3_is_2 (pc' := 5) rfl ?_
  refine zw_ifb_eq (tgt := 21) E dX3_is_5 (by decide) (pc' := 8) rfl (fun c_1 => ?_) (fun c_1 => ?_)
  · skip
    refine zw_iconst (v := 0) E dX3_is_21 (by decide) (pc' := 22) rfl ?_
    exact zw_zret E hr hlk dX3_is_22 rfl (zb_f (fun h => c_1 h.1)).symm rfl
  · skip
    refine zw_aload_n (i := 0) (x := am 0) E 0 dX3_is_8 rfl rfl (pc' := 9) rfl ?_
    refine zw_get (v := .ref (am 12)) E 0 13 iX3_is_X3 fX3_is_43 rfl rfl (by decide) rfl rfl dX3_is_9 (pc' := 12) rfl ?_
    refine zw_iload_n (i := 1) (x := f) E 1 dX3_is_12 rfl rfl (pc' := 13) rfl ?_
    refine zw_zald (j := f.toNatClampNeg) (x := g.1 11 f.toNatClampNeg) E 12 1 rfl rfl (zw_mfin hf60 c_1) rfl rfl dX3_is_13 (pc' := 14) rfl ?_
    refine zw_if_eq (tgt := 21) E dX3_is_14 (by decide) (pc' := 17) rfl (fun c_2 => ?_) (fun c_2 => ?_)
    · skip
      refine zw_iconst (v := 0) E dX3_is_21 (by decide) (pc' := 22) rfl ?_
      exact zw_zret E hr hlk dX3_is_22 rfl (zb_f (fun h => h.2 c_2)).symm rfl
    · skip
      refine zw_iconst (v := 1) E dX3_is_17 (by decide) (pc' := 18) rfl ?_
      refine zw_goto (tgt := 22) E dX3_is_18 (by decide) ?_
      exact zw_zret E hr hlk dX3_is_22 rfl (zb_t ⟨c_1, c_2⟩).symm rfl

def md_writes (g : Md) (s2 y f h x z : Int32) : Md := md_row (md_row (md_row (md_row (md_row (md_row (md_row g 0 (g.2.2.1 0) s2) 1 (g.2.2.1 0) y) 2 (g.2.2.1 0) f) 3 (g.2.2.1 0) h) 4 (g.2.2.1 0) x) 5 (g.2.2.1 0) z) 6 (g.2.2.1 0) (-1)
theorem fX3_writes_13 : Cond.fieldLink RX3 13 "TitheMapModel" "year" "[I" ∈ wsX3_writes := by decide +kernel
theorem fX3_writes_16 : Cond.fieldLink RX3 16 "TitheMapModel" "one" "[I" ∈ wsX3_writes := by decide +kernel
theorem fX3_writes_19 : Cond.fieldLink RX3 19 "TitheMapModel" "two" "[I" ∈ wsX3_writes := by decide +kernel
theorem fX3_writes_22 : Cond.fieldLink RX3 22 "TitheMapModel" "more" "[I" ∈ wsX3_writes := by decide +kernel
theorem fX3_writes_25 : Cond.fieldLink RX3 25 "TitheMapModel" "most" "[I" ∈ wsX3_writes := by decide +kernel
theorem fX3_writes_28 : Cond.fieldLink RX3 28 "TitheMapModel" "made" "[I" ∈ wsX3_writes := by decide +kernel
theorem fX3_writes_7 : Cond.fieldLink RX3 7 "TitheMapModel" "sort" "[I" ∈ wsX3_writes := by decide +kernel
theorem fX3_writes_72 : Cond.fieldLink RX3 72 "TitheMapModel" "entries" "I" ∈ wsX3_writes := by decide +kernel
theorem iX3_writes_X3 : ∀ w ∈ wsX30, w ∈ wsX3_writes := by decide +kernel
set_option maxHeartbeats 4000000 in
set_option maxRecDepth 100000 in
/-- writes(s, y, f, g, n, m) -/
theorem qX3_writes (l : Launch) (D : va_G) (K : Nat → ClassId) (am : Nat → Nat) (g : Md) (hn : g.2.2.1 0 < 80) (s2 y f h x z : Int32) : zw_V l yX3_writes wsX3_writes rmX3_writes D (zT K) [.ref (am 0), .int s2, .int y, .int f, .int h, .int x, .int z] (md_W K am g) (md_W K am (md_writes g s2 y f h x z)) := by
  refine zw_ofV (cc := cX3_writes) (nL := 7) (ret := none) (own := RX3) (lv := [(0, .ref (am 0)), (1, .int s2), (2, .int y), (3, .int f), (4, .int h), (5, .int x), (6, .int z)]) (by decide) rfl (Nat.le_of_ble_eq_true rfl) rfl rfl ?_
  intro p e s m below meth c A E hr hlk
  refine zw_aload_n (i := 0) (x := am 0) E 0 dX3_writes_0 rfl rfl (pc' := 1) rfl ?_
  refine zw_get (v := .ref (am 1)) E 0 2 iX3_writes_X3 fX3_writes_7 rfl rfl (by decide) rfl rfl dX3_writes_1 (pc' := 4) rfl ?_
  refine zw_aload_n (i := 0) (x := am 0) E 0 dX3_writes_4 rfl rfl (pc' := 5) rfl ?_
  refine zw_get (v := .int (nI (g.2.2.1 0))) E 0 0 iX3_writes_X3 fX3_writes_72 rfl rfl (by decide) rfl rfl dX3_writes_5 (pc' := 8) rfl ?_
  refine zw_topi (x' := nI (g.2.2.1 0)) rfl ?_
  refine zw_iload_n (i := 1) (x := s2) E 1 dX3_writes_8 rfl rfl (pc' := 9) rfl ?_
  refine zw_iast (j := g.2.2.1 0) (ws' := (md_W K am (md_row g 0 (g.2.2.1 0) s2))) E 1 0 rfl rfl (vp_in_nI hn (by decide)) (zw_clamp hn (by decide)) rfl dX3_writes_9 (pc' := 10) rfl ?_
  refine zw_gen_md_g (md_row g 0 (g.2.2.1 0) s2) (fun g_1 hg_1 => ?_)
  have h2_g_1 : g_1.2.2 = g.2.2 := by rw [← hg_1]; exact rfl
  refine zw_aload_n (i := 0) (x := am 0) E 0 dX3_writes_10 rfl rfl (pc' := 11) rfl ?_
  refine zw_get (v := .ref (am 2)) E 0 3 iX3_writes_X3 fX3_writes_13 rfl rfl (by decide) rfl rfl dX3_writes_11 (pc' := 14) rfl ?_
  refine zw_aload_n (i := 0) (x := am 0) E 0 dX3_writes_14 rfl rfl (pc' := 15) rfl ?_
  refine zw_get (v := .int (nI (g_1.2.2.1 0))) E 0 0 iX3_writes_X3 fX3_writes_72 rfl rfl (by decide) rfl rfl dX3_writes_15 (pc' := 18) rfl ?_
  refine zw_topi (x' := nI (g.2.2.1 0)) (congrArg (fun z => nI (z.1 0)) h2_g_1) ?_
  refine zw_iload_n (i := 2) (x := y) E 2 dX3_writes_18 rfl rfl (pc' := 19) rfl ?_
  refine zw_iast (j := g.2.2.1 0) (ws' := (md_W K am (md_row g_1 1 (g.2.2.1 0) y))) E 2 0 rfl rfl (vp_in_nI hn (by decide)) (zw_clamp hn (by decide)) rfl dX3_writes_19 (pc' := 20) rfl ?_
  refine zw_gen_md_g (md_row g_1 1 (g.2.2.1 0) y) (fun g_2 hg_2 => ?_)
  have h2_g_2 : g_2.2.2 = g.2.2 := by rw [← hg_2]; exact h2_g_1
  refine zw_aload_n (i := 0) (x := am 0) E 0 dX3_writes_20 rfl rfl (pc' := 21) rfl ?_
  refine zw_get (v := .ref (am 3)) E 0 4 iX3_writes_X3 fX3_writes_16 rfl rfl (by decide) rfl rfl dX3_writes_21 (pc' := 24) rfl ?_
  refine zw_aload_n (i := 0) (x := am 0) E 0 dX3_writes_24 rfl rfl (pc' := 25) rfl ?_
  refine zw_get (v := .int (nI (g_2.2.2.1 0))) E 0 0 iX3_writes_X3 fX3_writes_72 rfl rfl (by decide) rfl rfl dX3_writes_25 (pc' := 28) rfl ?_
  refine zw_topi (x' := nI (g.2.2.1 0)) (congrArg (fun z => nI (z.1 0)) h2_g_2) ?_
  refine zw_iload_n (i := 3) (x := f) E 3 dX3_writes_28 rfl rfl (pc' := 29) rfl ?_
  refine zw_iast (j := g.2.2.1 0) (ws' := (md_W K am (md_row g_2 2 (g.2.2.1 0) f))) E 3 0 rfl rfl (vp_in_nI hn (by decide)) (zw_clamp hn (by decide)) rfl dX3_writes_29 (pc' := 30) rfl ?_
  refine zw_gen_md_g (md_row g_2 2 (g.2.2.1 0) f) (fun g_3 hg_3 => ?_)
  have h2_g_3 : g_3.2.2 = g.2.2 := by rw [← hg_3]; exact h2_g_2
  refine zw_aload_n (i := 0) (x := am 0) E 0 dX3_writes_30 rfl rfl (pc' := 31) rfl ?_
  refine zw_get (v := .ref (am 4)) E 0 5 iX3_writes_X3 fX3_writes_19 rfl rfl (by decide) rfl rfl dX3_writes_31 (pc' := 34) rfl ?_
  refine zw_aload_n (i := 0) (x := am 0) E 0 dX3_writes_34 rfl rfl (pc' := 35) rfl ?_
  refine zw_get (v := .int (nI (g_3.2.2.1 0))) E 0 0 iX3_writes_X3 fX3_writes_72 rfl rfl (by decide) rfl rfl dX3_writes_35 (pc' := 38) rfl ?_
  refine zw_topi (x' := nI (g.2.2.1 0)) (congrArg (fun z => nI (z.1 0)) h2_g_3) ?_
  refine zw_iload (x := h) E 4 dX3_writes_38 rfl (pc' := 40) rfl ?_
  refine zw_iast (j := g.2.2.1 0) (ws' := (md_W K am (md_row g_3 3 (g.2.2.1 0) h))) E 4 0 rfl rfl (vp_in_nI hn (by decide)) (zw_clamp hn (by decide)) rfl dX3_writes_40 (pc' := 41) rfl ?_
  refine zw_gen_md_g (md_row g_3 3 (g.2.2.1 0) h) (fun g_4 hg_4 => ?_)
  have h2_g_4 : g_4.2.2 = g.2.2 := by rw [← hg_4]; exact h2_g_3
  refine zw_aload_n (i := 0) (x := am 0) E 0 dX3_writes_41 rfl rfl (pc' := 42) rfl ?_
  refine zw_get (v := .ref (am 5)) E 0 6 iX3_writes_X3 fX3_writes_22 rfl rfl (by decide) rfl rfl dX3_writes_42 (pc' := 45) rfl ?_
  refine zw_aload_n (i := 0) (x := am 0) E 0 dX3_writes_45 rfl rfl (pc' := 46) rfl ?_
  refine zw_get (v := .int (nI (g_4.2.2.1 0))) E 0 0 iX3_writes_X3 fX3_writes_72 rfl rfl (by decide) rfl rfl dX3_writes_46 (pc' := 49) rfl ?_
  refine zw_topi (x' := nI (g.2.2.1 0)) (congrArg (fun z => nI (z.1 0)) h2_g_4) ?_
  refine zw_iload (x := x) E 5 dX3_writes_49 rfl (pc' := 51) rfl ?_
  refine zw_iast (j := g.2.2.1 0) (ws' := (md_W K am (md_row g_4 4 (g.2.2.1 0) x))) E 5 0 rfl rfl (vp_in_nI hn (by decide)) (zw_clamp hn (by decide)) rfl dX3_writes_51 (pc' := 52) rfl ?_
  refine zw_gen_md_g (md_row g_4 4 (g.2.2.1 0) x) (fun g_5 hg_5 => ?_)
  have h2_g_5 : g_5.2.2 = g.2.2 := by rw [← hg_5]; exact h2_g_4
  refine zw_aload_n (i := 0) (x := am 0) E 0 dX3_writes_52 rfl rfl (pc' := 53) rfl ?_
  refine zw_get (v := .ref (am 6)) E 0 7 iX3_writes_X3 fX3_writes_25 rfl rfl (by decide) rfl rfl dX3_writes_53 (pc' := 56) rfl ?_
  refine zw_aload_n (i := 0) (x := am 0) E 0 dX3_writes_56 rfl rfl (pc' := 57) rfl ?_
  refine zw_get (v := .int (nI (g_5.2.2.1 0))) E 0 0 iX3_writes_X3 fX3_writes_72 rfl rfl (by decide) rfl rfl dX3_writes_57 (pc' := 60) rfl ?_
  refine zw_topi (x' := nI (g.2.2.1 0)) (congrArg (fun z => nI (z.1 0)) h2_g_5) ?_
  refine zw_iload (x := z) E 6 dX3_writes_60 rfl (pc' := 62) rfl ?_
  refine zw_iast (j := g.2.2.1 0) (ws' := (md_W K am (md_row g_5 5 (g.2.2.1 0) z))) E 6 0 rfl rfl (vp_in_nI hn (by decide)) (zw_clamp hn (by decide)) rfl dX3_writes_62 (pc' := 63) rfl ?_
  refine zw_gen_md_g (md_row g_5 5 (g.2.2.1 0) z) (fun g_6 hg_6 => ?_)
  have h2_g_6 : g_6.2.2 = g.2.2 := by rw [← hg_6]; exact h2_g_5
  refine zw_aload_n (i := 0) (x := am 0) E 0 dX3_writes_63 rfl rfl (pc' := 64) rfl ?_
  refine zw_get (v := .ref (am 7)) E 0 8 iX3_writes_X3 fX3_writes_28 rfl rfl (by decide) rfl rfl dX3_writes_64 (pc' := 67) rfl ?_
  refine zw_aload_n (i := 0) (x := am 0) E 0 dX3_writes_67 rfl rfl (pc' := 68) rfl ?_
  refine zw_get (v := .int (nI (g_6.2.2.1 0))) E 0 0 iX3_writes_X3 fX3_writes_72 rfl rfl (by decide) rfl rfl dX3_writes_68 (pc' := 71) rfl ?_
  refine zw_topi (x' := nI (g.2.2.1 0)) (congrArg (fun z => nI (z.1 0)) h2_g_6) ?_
  refine zw_iconst (v := (-1)) E dX3_writes_71 (by decide) (pc' := 72) rfl ?_
  refine zw_iast (j := g.2.2.1 0) (ws' := (md_W K am (md_row g_6 6 (g.2.2.1 0) (-1)))) E 7 0 rfl rfl (vp_in_nI hn (by decide)) (zw_clamp hn (by decide)) rfl dX3_writes_72 (pc' := 73) rfl ?_
  refine zw_gen_md_g (md_row g_6 6 (g.2.2.1 0) (-1)) (fun g_7 hg_7 => ?_)
  have h2_g_7 : g_7.2.2 = g.2.2 := by rw [← hg_7]; exact h2_g_6
  exact zw_vret E hr hlk dX3_writes_73 (by subst hg_1 hg_2 hg_3 hg_4 hg_5 hg_6 hg_7; rfl)

def md_made (g : Md) (j : Nat) (a x : Int32) : Md := md_row (md_row (md_row (md_row g 7 j (nI (g.2.2.1 0))) 8 j (-1)) 9 j a) 10 j x
theorem fX3_isMade_31 : Cond.fieldLink RX3 31 "TitheMapModel" "madeBy" "[I" ∈ wsX3_isMade := by decide +kernel
theorem fX3_isMade_34 : Cond.fieldLink RX3 34 "TitheMapModel" "endedBy" "[I" ∈ wsX3_isMade := by decide +kernel
theorem fX3_isMade_37 : Cond.fieldLink RX3 37 "TitheMapModel" "firstOf" "[I" ∈ wsX3_isMade := by decide +kernel
theorem fX3_isMade_40 : Cond.fieldLink RX3 40 "TitheMapModel" "secondOf" "[I" ∈ wsX3_isMade := by decide +kernel
theorem fX3_isMade_72 : Cond.fieldLink RX3 72 "TitheMapModel" "entries" "I" ∈ wsX3_isMade := by decide +kernel
theorem iX3_isMade_X3 : ∀ w ∈ wsX30, w ∈ wsX3_isMade := by decide +kernel
set_option maxHeartbeats 4000000 in
set_option maxRecDepth 100000 in
/-- isMade(f, a, b) -/
theorem qX3_isMade (l : Launch) (D : va_G) (K : Nat → ClassId) (am : Nat → Nat) (g : Md) (j : Nat) (hj : j < 60) (a x : Int32) : zw_V l yX3_isMade wsX3_isMade rmX3_isMade D (zT K) [.ref (am 0), .int (nI j), .int a, .int x] (md_W K am g) (md_W K am (md_made g j a x)) := by
  refine zw_ofV (cc := cX3_isMade) (nL := 4) (ret := none) (own := RX3) (lv := [(0, .ref (am 0)), (1, .int (nI j)), (2, .int a), (3, .int x)]) (by decide) rfl (Nat.le_of_ble_eq_true rfl) rfl rfl ?_
  intro p e s m below meth c A E hr hlk
  refine zw_aload_n (i := 0) (x := am 0) E 0 dX3_isMade_0 rfl rfl (pc' := 1) rfl ?_
  refine zw_get (v := .ref (am 8)) E 0 9 iX3_isMade_X3 fX3_isMade_31 rfl rfl (by decide) rfl rfl dX3_isMade_1 (pc' := 4) rfl ?_
  refine zw_iload_n (i := 1) (x := nI j) E 1 dX3_isMade_4 rfl rfl (pc' := 5) rfl ?_
  refine zw_aload_n (i := 0) (x := am 0) E 0 dX3_isMade_5 rfl rfl (pc' := 6) rfl ?_
  refine zw_get (v := .int (nI (g.2.2.1 0))) E 0 0 iX3_isMade_X3 fX3_isMade_72 rfl rfl (by decide) rfl rfl dX3_isMade_6 (pc' := 9) rfl ?_
  refine zw_topi (x' := nI (g.2.2.1 0)) rfl ?_
  refine zw_iast (j := j) (ws' := (md_W K am (md_row g 7 j (nI (g.2.2.1 0))))) E 8 0 rfl rfl (vp_in_nI hj (by decide)) (zw_clamp hj (by decide)) rfl dX3_isMade_9 (pc' := 10) rfl ?_
  refine zw_gen_md_g (md_row g 7 j (nI (g.2.2.1 0))) (fun g_1 hg_1 => ?_)
  have h2_g_1 : g_1.2.2 = g.2.2 := by rw [← hg_1]; exact rfl
  refine zw_aload_n (i := 0) (x := am 0) E 0 dX3_isMade_10 rfl rfl (pc' := 11) rfl ?_
  refine zw_get (v := .ref (am 9)) E 0 10 iX3_isMade_X3 fX3_isMade_34 rfl rfl (by decide) rfl rfl dX3_isMade_11 (pc' := 14) rfl ?_
  refine zw_iload_n (i := 1) (x := nI j) E 1 dX3_isMade_14 rfl rfl (pc' := 15) rfl ?_
  refine zw_iconst (v := (-1)) E dX3_isMade_15 (by decide) (pc' := 16) rfl ?_
  refine zw_iast (j := j) (ws' := (md_W K am (md_row g_1 8 j (-1)))) E 9 0 rfl rfl (vp_in_nI hj (by decide)) (zw_clamp hj (by decide)) rfl dX3_isMade_16 (pc' := 17) rfl ?_
  refine zw_gen_md_g (md_row g_1 8 j (-1)) (fun g_2 hg_2 => ?_)
  have h2_g_2 : g_2.2.2 = g.2.2 := by rw [← hg_2]; exact h2_g_1
  refine zw_aload_n (i := 0) (x := am 0) E 0 dX3_isMade_17 rfl rfl (pc' := 18) rfl ?_
  refine zw_get (v := .ref (am 10)) E 0 11 iX3_isMade_X3 fX3_isMade_37 rfl rfl (by decide) rfl rfl dX3_isMade_18 (pc' := 21) rfl ?_
  refine zw_iload_n (i := 1) (x := nI j) E 1 dX3_isMade_21 rfl rfl (pc' := 22) rfl ?_
  refine zw_iload_n (i := 2) (x := a) E 2 dX3_isMade_22 rfl rfl (pc' := 23) rfl ?_
  refine zw_iast (j := j) (ws' := (md_W K am (md_row g_2 9 j a))) E 10 0 rfl rfl (vp_in_nI hj (by decide)) (zw_clamp hj (by decide)) rfl dX3_isMade_23 (pc' := 24) rfl ?_
  refine zw_gen_md_g (md_row g_2 9 j a) (fun g_3 hg_3 => ?_)
  have h2_g_3 : g_3.2.2 = g.2.2 := by rw [← hg_3]; exact h2_g_2
  refine zw_aload_n (i := 0) (x := am 0) E 0 dX3_isMade_24 rfl rfl (pc' := 25) rfl ?_
  refine zw_get (v := .ref (am 11)) E 0 12 iX3_isMade_X3 fX3_isMade_40 rfl rfl (by decide) rfl rfl dX3_isMade_25 (pc' := 28) rfl ?_
  refine zw_iload_n (i := 1) (x := nI j) E 1 dX3_isMade_28 rfl rfl (pc' := 29) rfl ?_
  refine zw_iload_n (i := 3) (x := x) E 3 dX3_isMade_29 rfl rfl (pc' := 30) rfl ?_
  refine zw_iast (j := j) (ws' := (md_W K am (md_row g_3 10 j x))) E 11 0 rfl rfl (vp_in_nI hj (by decide)) (zw_clamp hj (by decide)) rfl dX3_isMade_30 (pc' := 31) rfl ?_
  refine zw_gen_md_g (md_row g_3 10 j x) (fun g_4 hg_4 => ?_)
  have h2_g_4 : g_4.2.2 = g.2.2 := by rw [← hg_4]; exact h2_g_3
  exact zw_vret E hr hlk dX3_isMade_31 (by subst hg_1 hg_2 hg_3 hg_4; rfl)

theorem md_come_12 (g : Md) (j i : Nat) (a k o x : Int32) (h : ¬ i = j) : (md_come g j a k o x).1 12 i = g.1 12 i := by
  show (if i = j then a else g.1 12 i) = _
  rw [if_neg h]
def q_c1 (g : Md) (n i j c : Nat) : Md := md_row g 15 (3 * j + c) ((g.1 15 (3 * i + c)).toInt64 * (g.1 4 n).toInt64 / (g.1 12 i).toInt64).toInt32
def q_c2 (g : Md) (i j c : Nat) : Md := md_row g 15 (3 * j + 3 + c) (g.1 15 (3 * i + c) - g.1 15 (3 * j + c))
def q_c (g : Md) (n i j c : Nat) : Md := q_c2 (q_c1 g n i j c) i j c
def q_m1 (g : Md) (n i j : Nat) : Md := md_come g j (g.1 4 n) (g.1 13 i) (g.1 14 i) (g.1 16 i)
def q_m2 (g : Md) (n i j : Nat) : Md := md_come g (j + 1) (g.1 12 i - g.1 4 n) (g.1 13 i) (g.1 14 i) (g.1 16 i)
def md_part (g : Md) (n i j : Nat) : Md := md_row (q_c (q_c (q_c (q_m2 (q_m1 g n i j) n i j) n i j 0) n i j 1) n i j 2) 11 i 0
theorem fX3_parts_16 : Cond.fieldLink RX3 16 "TitheMapModel" "one" "[I" ∈ wsX3_parts := by decide +kernel
theorem fX3_parts_22 : Cond.fieldLink RX3 22 "TitheMapModel" "more" "[I" ∈ wsX3_parts := by decide +kernel
theorem fX3_parts_28 : Cond.fieldLink RX3 28 "TitheMapModel" "made" "[I" ∈ wsX3_parts := by decide +kernel
theorem fX3_parts_43 : Cond.fieldLink RX3 43 "TitheMapModel" "isThere" "[Z" ∈ wsX3_parts := by decide +kernel
theorem fX3_parts_47 : Cond.fieldLink RX3 47 "TitheMapModel" "area" "[I" ∈ wsX3_parts := by decide +kernel
theorem fX3_parts_50 : Cond.fieldLink RX3 50 "TitheMapModel" "kind" "[I" ∈ wsX3_parts := by decide +kernel
theorem fX3_parts_53 : Cond.fieldLink RX3 53 "TitheMapModel" "owner" "[I" ∈ wsX3_parts := by decide +kernel
theorem fX3_parts_56 : Cond.fieldLink RX3 56 "TitheMapModel" "charge" "[I" ∈ wsX3_parts := by decide +kernel
theorem fX3_parts_59 : Cond.fieldLink RX3 59 "TitheMapModel" "isBought" "[Z" ∈ wsX3_parts := by decide +kernel
theorem iX3_parts_X3 : ∀ w ∈ wsX30, w ∈ wsX3_parts := by decide +kernel
set_option maxHeartbeats 4000000 in
set_option maxRecDepth 100000 in
/-- parts(e) -/
theorem qX3_parts (l : Launch) (D : va_G) (K : Nat → ClassId) (am : Nat → Nat) (g : Md) (n i j : Nat) (hn : n < 80) (hi : i < 60) (hj : j + 1 < 60) (hf : g.1 2 n = nI i) (hm : g.1 6 n = nI j) (hij : ¬ i = j ∧ ¬ i = j + 1) (h0 : ¬ (g.1 12 i).toInt64 = 0) : zw_V l yX3_parts wsX3_parts rmX3_parts D (zT K) [.ref (am 0), .int (nI n)] (md_W K am g) (md_W K am (md_part g n i j)) := by
  refine zw_ofV (cc := cX3_parts) (nL := 5) (ret := none) (own := RX3) (lv := [(0, .ref (am 0)), (1, .int (nI n))]) (by decide) rfl (Nat.le_of_ble_eq_true rfl) rfl rfl ?_
  intro p e s m below meth c A E hr hlk
  refine zw_aload_n (i := 0) (x := am 0) E 0 dX3_parts_0 rfl rfl (pc' := 1) rfl ?_
  refine zw_get (v := .ref (am 3)) E 0 4 iX3_parts_X3 fX3_parts_16 rfl rfl (by decide) rfl rfl dX3_parts_1 (pc' := 4) rfl ?_
  refine zw_iload_n (i := 1) (x := nI n) E 1 dX3_parts_4 rfl rfl (pc' := 5) rfl ?_
  refine zw_iald (j := n) (x := g.1 2 n) E 3 0 rfl rfl (vp_in_nI hn (by decide)) (zw_clamp hn (by decide)) rfl dX3_parts_5 (pc' := 6) rfl ?_
  refine zw_topi (x' := nI i) hf ?_
  refine zw_istore_n (lv' := [(2, .int (nI i)), (0, .ref (am 0)), (1, .int (nI n))]) E dX3_parts_6 rfl (by decide) rfl (pc' := 7) rfl ?_
  refine zw_aload_n (i := 0) (x := am 0) E 1 dX3_parts_7 rfl rfl (pc' := 8) rfl ?_
  refine zw_get (v := .ref (am 7)) E 0 8 iX3_parts_X3 fX3_parts_28 rfl rfl (by decide) rfl rfl dX3_parts_8 (pc' := 11) rfl ?_
  refine zw_iload_n (i := 1) (x := nI n) E 2 dX3_parts_11 rfl rfl (pc' := 12) rfl ?_
  refine zw_iald (j := n) (x := g.1 6 n) E 7 0 rfl rfl (vp_in_nI hn (by decide)) (zw_clamp hn (by decide)) rfl dX3_parts_12 (pc' := 13) rfl ?_
  refine zw_topi (x' := nI j) hm ?_
  refine zw_istore_n (lv' := [(3, .int (nI j)), (2, .int (nI i)), (0, .ref (am 0)), (1, .int (nI n))]) E dX3_parts_13 rfl (by decide) rfl (pc' := 14) rfl ?_
  refine zw_aload_n (i := 0) (x := am 0) E 2 dX3_parts_14 rfl rfl (pc' := 15) rfl ?_
  refine zw_iload_n (i := 3) (x := nI j) E 0 dX3_parts_15 rfl rfl (pc' := 16) rfl ?_
  refine zw_aload_n (i := 0) (x := am 0) E 2 dX3_parts_16 rfl rfl (pc' := 17) rfl ?_
  refine zw_get (v := .ref (am 5)) E 0 6 iX3_parts_X3 fX3_parts_22 rfl rfl (by decide) rfl rfl dX3_parts_17 (pc' := 20) rfl ?_
  refine zw_iload_n (i := 1) (x := nI n) E 3 dX3_parts_20 rfl rfl (pc' := 21) rfl ?_
  refine zw_iald (j := n) (x := g.1 4 n) E 5 0 rfl rfl (vp_in_nI hn (by decide)) (zw_clamp hn (by decide)) rfl dX3_parts_21 (pc' := 22) rfl ?_
  refine zw_aload_n (i := 0) (x := am 0) E 2 dX3_parts_22 rfl rfl (pc' := 23) rfl ?_
  refine zw_get (v := .ref (am 14)) E 0 15 iX3_parts_X3 fX3_parts_50 rfl rfl (by decide) rfl rfl dX3_parts_23 (pc' := 26) rfl ?_
  refine zw_iload_n (i := 2) (x := nI i) E 1 dX3_parts_26 rfl rfl (pc' := 27) rfl ?_
  refine zw_iald (j := i) (x := g.1 13 i) E 14 0 rfl rfl (vp_in_nI hi (by decide)) (zw_clamp hi (by decide)) rfl dX3_parts_27 (pc' := 28) rfl ?_
  refine zw_aload_n (i := 0) (x := am 0) E 2 dX3_parts_28 rfl rfl (pc' := 29) rfl ?_
  refine zw_get (v := .ref (am 15)) E 0 16 iX3_parts_X3 fX3_parts_53 rfl rfl (by decide) rfl rfl dX3_parts_29 (pc' := 32) rfl ?_
  refine zw_iload_n (i := 2) (x := nI i) E 1 dX3_parts_32 rfl rfl (pc' := 33) rfl ?_
  refine zw_iald (j := i) (x := g.1 14 i) E 15 0 rfl rfl (vp_in_nI hi (by decide)) (zw_clamp hi (by decide)) rfl dX3_parts_33 (pc' := 34) rfl ?_
  refine zw_aload_n (i := 0) (x := am 0) E 2 dX3_parts_34 rfl rfl (pc' := 35) rfl ?_
  refine zw_get (v := .ref (am 17)) E 0 18 iX3_parts_X3 fX3_parts_59 rfl rfl (by decide) rfl rfl dX3_parts_35 (pc' := 38) rfl ?_
  refine zw_iload_n (i := 2) (x := nI i) E 1 dX3_parts_38 rfl rfl (pc' := 39) rfl ?_
  refine zw_zald (j := i) (x := g.1 16 i) E 17 1 rfl rfl (vp_in_nI hi (by decide)) (zw_clamp hi (by decide)) rfl dX3_parts_39 (pc' := 40) rfl ?_
  refine zw_callVw E (As := [.int (nI j), .int (g.1 4 n), .int (g.1 13 i), .int (g.1 14 i), .int (g.1 16 i)]) (rest := []) (ws' := (md_W K am (md_come g j (g.1 4 n) (g.1 13 i) (g.1 14 i) (g.1 16 i)))) (qX3_comes l D K am g j (Nat.lt_of_succ_lt hj) (g.1 4 n) (g.1 13 i) (g.1 14 i) (g.1 16 i)) (cwV 5 E.2.2.2.2.1 gX3_parts_X3_comes rfl rfl rfl (by decide +kernel) ⟨Nat.le_of_ble_eq_true rfl, Nat.le_of_ble_eq_true rfl⟩) 0 rfl rfl rfl (md_ad _ _ _ _) rfl rfl (Nat.le_of_ble_eq_true rfl) ⟨Nat.zero_le _, Nat.zero_le _⟩ dX3_parts_40 (pc' := 43) rfl ?_
  refine zw_gen_md_g (md_come g j (g.1 4 n) (g.1 13 i) (g.1 14 i) (g.1 16 i)) (fun g_1 hg_1 => ?_)
  have a_g_1 : g_1.1 12 i = g.1 12 i := by rw [← hg_1]; exact (md_come_12 _ _ _ _ _ _ _ hij.1)
  refine zw_aload_n (i := 0) (x := am 0) E 2 dX3_parts_43 rfl rfl (pc' := 44) rfl ?_
  refine zw_iload_n (i := 3) (x := nI j) E 0 dX3_parts_44 rfl rfl (pc' := 45) rfl ?_
  refine zw_iconst (v := 1) E dX3_parts_45 (by decide) (pc' := 46) rfl ?_
  refine zw_iadd E dX3_parts_46 (pc' := 47) rfl ?_
  refine zw_topi (x' := nI (j + 1)) (nI_1 j) ?_
  refine zw_aload_n (i := 0) (x := am 0) E 2 dX3_parts_47 rfl rfl (pc' := 48) rfl ?_
  refine zw_get (v := .ref (am 13)) E 0 14 iX3_parts_X3 fX3_parts_47 rfl rfl (by decide) rfl rfl dX3_parts_48 (pc' := 51) rfl ?_
  refine zw_iload_n (i := 2) (x := nI i) E 1 dX3_parts_51 rfl rfl (pc' := 52) rfl ?_
  refine zw_iald (j := i) (x := g_1.1 12 i) E 13 0 rfl rfl (vp_in_nI hi (by decide)) (zw_clamp hi (by decide)) rfl dX3_parts_52 (pc' := 53) rfl ?_
  refine zw_aload_n (i := 0) (x := am 0) E 2 dX3_parts_53 rfl rfl (pc' := 54) rfl ?_
  refine zw_get (v := .ref (am 5)) E 0 6 iX3_parts_X3 fX3_parts_22 rfl rfl (by decide) rfl rfl dX3_parts_54 (pc' := 57) rfl ?_
  refine zw_iload_n (i := 1) (x := nI n) E 3 dX3_parts_57 rfl rfl (pc' := 58) rfl ?_
  refine zw_iald (j := n) (x := g_1.1 4 n) E 5 0 rfl rfl (vp_in_nI hn (by decide)) (zw_clamp hn (by decide)) rfl dX3_parts_58 (pc' := 59) rfl ?_
  refine zw_isub E dX3_parts_59 (pc' := 60) rfl ?_
  refine zw_aload_n (i := 0) (x := am 0) E 2 dX3_parts_60 rfl rfl (pc' := 61) rfl ?_
  refine zw_get (v := .ref (am 14)) E 0 15 iX3_parts_X3 fX3_parts_50 rfl rfl (by decide) rfl rfl dX3_parts_61 (pc' := 64) rfl ?_
  refine zw_iload_n (i := 2) (x := nI i) E 1 dX3_parts_64 rfl rfl (pc' := 65) rfl ?_
  refine zw_iald (j := i) (x := g_1.1 13 i) E 14 0 rfl rfl (vp_in_nI hi (by decide)) (zw_clamp hi (by decide)) rfl dX3_parts_65 (pc' := 66) rfl ?_
  refine zw_aload_n (i := 0) (x := am 0) E 2 dX3_parts_66 rfl rfl (pc' := 67) rfl ?_
  refine zw_get (v := .ref (am 15)) E 0 16 iX3_parts_X3 fX3_parts_53 rfl rfl (by decide) rfl rfl dX3_parts_67 (pc' := 70) rfl ?_
  refine zw_iload_n (i := 2) (x := nI i) E 1 dX3_parts_70 rfl rfl (pc' := 71) rfl ?_
  refine zw_iald (j := i) (x := g_1.1 14 i) E 15 0 rfl rfl (vp_in_nI hi (by decide)) (zw_clamp hi (by decide)) rfl dX3_parts_71 (pc' := 72) rfl ?_
  refine zw_aload_n (i := 0) (x := am 0) E 2 dX3_parts_72 rfl rfl (pc' := 73) rfl ?_
  refine zw_get (v := .ref (am 17)) E 0 18 iX3_parts_X3 fX3_parts_59 rfl rfl (by decide) rfl rfl dX3_parts_73 (pc' := 76) rfl ?_
  refine zw_iload_n (i := 2) (x := nI i) E 1 dX3_parts_76 rfl rfl (pc' := 77) rfl ?_
  refine zw_zald (j := i) (x := g_1.1 16 i) E 17 1 rfl rfl (vp_in_nI hi (by decide)) (zw_clamp hi (by decide)) rfl dX3_parts_77 (pc' := 78) rfl ?_
  refine zw_callVw E (As := [.int (nI (j + 1)), .int ((g_1.1 12 i) - (g_1.1 4 n)), .int (g_1.1 13 i), .int (g_1.1 14 i), .int (g_1.1 16 i)]) (rest := []) (ws' := (md_W K am (md_come g_1 (j + 1) ((g_1.1 12 i) - (g_1.1 4 n)) (g_1.1 13 i) (g_1.1 14 i) (g_1.1 16 i)))) (qX3_comes l D K am g_1 (j + 1) hj ((g_1.1 12 i) - (g_1.1 4 n)) (g_1.1 13 i) (g_1.1 14 i) (g_1.1 16 i)) (cwV 5 E.2.2.2.2.1 gX3_parts_X3_comes rfl rfl rfl (by decide +kernel) ⟨Nat.le_of_ble_eq_true rfl, Nat.le_of_ble_eq_true rfl⟩) 0 rfl rfl rfl (md_ad _ _ _ _) rfl rfl (Nat.le_of_ble_eq_true rfl) ⟨Nat.zero_le _, Nat.zero_le _⟩ dX3_parts_78 (pc' := 81) rfl ?_
  refine zw_gen_md_g (md_come g_1 (j + 1) ((g_1.1 12 i) - (g_1.1 4 n)) (g_1.1 13 i) (g_1.1 14 i) (g_1.1 16 i)) (fun g_2 hg_2 => ?_)
  have a_g_2 : g_2.1 12 i = g.1 12 i := by rw [← hg_2]; exact (md_come_12 _ _ _ _ _ _ _ hij.2).trans a_g_1
  refine zw_iconst (v := 0) E dX3_parts_81 (by decide) (pc' := 82) rfl ?_
  refine zw_istore (lv' := [(4, .int 0), (3, .int (nI j)), (2, .int (nI i)), (0, .ref (am 0)), (1, .int (nI n))]) E dX3_parts_82 (by decide) rfl (pc' := 84) rfl ?_
  refine zw_iload (x := 0) E 0 dX3_parts_84 rfl (pc' := 86) rfl ?_
  refine zw_iconst (v := 3) E dX3_parts_86 (by decide) (pc' := 87) rfl ?_
  refine zw_icmp_ge (tgt := 172) E dX3_parts_87 (by decide) (pc' := 90) rfl (fun c9 => absurd c9 (by decide)) (fun _ => ?_)
  refine zw_aload_n (i := 0) (x := am 0) E 3 dX3_parts_90 rfl rfl (pc' := 91) rfl ?_
  refine zw_get (v := .ref (am 16)) E 0 17 iX3_parts_X3 fX3_parts_56 rfl rfl (by decide) rfl rfl dX3_parts_91 (pc' := 94) rfl ?_
  refine zw_iconst (v := 3) E dX3_parts_94 (by decide) (pc' := 95) rfl ?_
  refine zw_iload_n (i := 3) (x := nI j) E 1 dX3_parts_95 rfl rfl (pc' := 96) rfl ?_
  refine zw_imul E dX3_parts_96 (pc' := 97) rfl ?_
  refine zw_topi (x' := nI (3 * j)) (pk_mul 3 j) ?_
  refine zw_iload (x := 0) E 0 dX3_parts_97 rfl (pc' := 99) rfl ?_
  refine zw_iadd E dX3_parts_99 (pc' := 100) rfl ?_
  refine zw_topi (x' := nI (3 * j + 0)) (nI_add (3 * j) 0) ?_
  refine zw_aload_n (i := 0) (x := am 0) E 3 dX3_parts_100 rfl rfl (pc' := 101) rfl ?_
  refine zw_get (v := .ref (am 16)) E 0 17 iX3_parts_X3 fX3_parts_56 rfl rfl (by decide) rfl rfl dX3_parts_101 (pc' := 104) rfl ?_
  refine zw_iconst (v := 3) E dX3_parts_104 (by decide) (pc' := 105) rfl ?_
  refine zw_iload_n (i := 2) (x := nI i) E 2 dX3_parts_105 rfl rfl (pc' := 106) rfl ?_
  refine zw_imul E dX3_parts_106 (pc' := 107) rfl ?_
  refine zw_topi (x' := nI (3 * i)) (pk_mul 3 i) ?_
  refine zw_iload (x := 0) E 0 dX3_parts_107 rfl (pc' := 109) rfl ?_
  refine zw_iadd E dX3_parts_109 (pc' := 110) rfl ?_
  refine zw_topi (x' := nI (3 * i + 0)) (nI_add (3 * i) 0) ?_
  refine zw_iald (j := 3 * i + 0) (x := g_2.1 15 (3 * i + 0)) E 16 0 rfl rfl (vp_in_nI (show 3 * i + 0 < 180 by omega) (by decide)) (zw_clamp (show 3 * i + 0 < 180 by omega) (by decide)) rfl dX3_parts_110 (pc' := 111) rfl ?_
  refine zw_i2l E dX3_parts_111 (pc' := 112) rfl ?_
  refine zw_aload_n (i := 0) (x := am 0) E 3 dX3_parts_112 rfl rfl (pc' := 113) rfl ?_
  refine zw_get (v := .ref (am 5)) E 0 6 iX3_parts_X3 fX3_parts_22 rfl rfl (by decide) rfl rfl dX3_parts_113 (pc' := 116) rfl ?_
  refine zw_iload_n (i := 1) (x := nI n) E 4 dX3_parts_116 rfl rfl (pc' := 117) rfl ?_
  refine zw_iald (j := n) (x := g_2.1 4 n) E 5 0 rfl rfl (vp_in_nI hn (by decide)) (zw_clamp hn (by decide)) rfl dX3_parts_117 (pc' := 118) rfl ?_
  refine zw_i2l E dX3_parts_118 (pc' := 119) rfl ?_
  refine zw_lmul E dX3_parts_119 (pc' := 120) rfl ?_
  refine zw_aload_n (i := 0) (x := am 0) E 3 dX3_parts_120 rfl rfl (pc' := 121) rfl ?_
  refine zw_get (v := .ref (am 13)) E 0 14 iX3_parts_X3 fX3_parts_47 rfl rfl (by decide) rfl rfl dX3_parts_121 (pc' := 124) rfl ?_
  refine zw_iload_n (i := 2) (x := nI i) E 2 dX3_parts_124 rfl rfl (pc' := 125) rfl ?_
  refine zw_iald (j := i) (x := g_2.1 12 i) E 13 0 rfl rfl (vp_in_nI hi (by decide)) (zw_clamp hi (by decide)) rfl dX3_parts_125 (pc' := 126) rfl ?_
  refine zw_i2l E dX3_parts_126 (pc' := 127) rfl ?_
  refine zw_ldiv E dX3_parts_127 (by rw [a_g_2]; exact h0) (pc' := 128) rfl ?_
  refine zw_l2i E dX3_parts_128 (pc' := 129) rfl ?_
  refine zw_iast (j := 3 * j + 0) (ws' := (md_W K am (md_row g_2 15 (3 * j + 0) (((((g_2.1 15 (3 * i + 0)).toInt64) * ((g_2.1 4 n).toInt64)) / ((g_2.1 12 i).toInt64)).toInt32)))) E 16 0 rfl rfl (vp_in_nI (show 3 * j + 0 < 180 by omega) (by decide)) (zw_clamp (show 3 * j + 0 < 180 by omega) (by decide)) rfl dX3_parts_129 (pc' := 130) rfl ?_
  refine zw_gen_md_g (md_row g_2 15 (3 * j + 0) (((((g_2.1 15 (3 * i + 0)).toInt64) * ((g_2.1 4 n).toInt64)) / ((g_2.1 12 i).toInt64)).toInt32)) (fun g_3 hg_3 => ?_)
  have a_g_3 : g_3.1 12 i = g.1 12 i := by rw [← hg_3]; exact a_g_2
  refine zw_aload_n (i := 0) (x := am 0) E 3 dX3_parts_130 rfl rfl (pc' := 131) rfl ?_
  refine zw_get (v := .ref (am 16)) E 0 17 iX3_parts_X3 fX3_parts_56 rfl rfl (by decide) rfl rfl dX3_parts_131 (pc' := 134) rfl ?_
  refine zw_iconst (v := 3) E dX3_parts_134 (by decide) (pc' := 135) rfl ?_
  refine zw_iload_n (i := 3) (x := nI j) E 1 dX3_parts_135 rfl rfl (pc' := 136) rfl ?_
  refine zw_imul E dX3_parts_136 (pc' := 137) rfl ?_
  refine zw_topi (x' := nI (3 * j)) (pk_mul 3 j) ?_
  refine zw_iconst (v := 3) E dX3_parts_137 (by decide) (pc' := 138) rfl ?_
  refine zw_iadd E dX3_parts_138 (pc' := 139) rfl ?_
  refine zw_topi (x' := nI (3 * j + 3)) (nI_add (3 * j) 3) ?_
  refine zw_iload (x := 0) E 0 dX3_parts_139 rfl (pc' := 141) rfl ?_
  refine zw_iadd E dX3_parts_141 (pc' := 142) rfl ?_
  refine zw_topi (x' := nI (3 * j + 3 + 0)) (nI_add (3 * j + 3) 0) ?_
  refine zw_aload_n (i := 0) (x := am 0) E 3 dX3_parts_142 rfl rfl (pc' := 143) rfl ?_
  refine zw_get (v := .ref (am 16)) E 0 17 iX3_parts_X3 fX3_parts_56 rfl rfl (by decide) rfl rfl dX3_parts_143 (pc' := 146) rfl ?_
  refine zw_iconst (v := 3) E dX3_parts_146 (by decide) (pc' := 147) rfl ?_
  refine zw_iload_n (i := 2) (x := nI i) E 2 dX3_parts_147 rfl rfl (pc' := 148) rfl ?_
  refine zw_imul E dX3_parts_148 (pc' := 149) rfl ?_
  refine zw_topi (x' := nI (3 * i)) (pk_mul 3 i) ?_
  refine zw_iload (x := 0) E 0 dX3_parts_149 rfl (pc' := 151) rfl ?_
  refine zw_iadd E dX3_parts_151 (pc' := 152) rfl ?_
  refine zw_topi (x' := nI (3 * i + 0)) (nI_add (3 * i) 0) ?_
  refine zw_iald (j := 3 * i + 0) (x := g_3.1 15 (3 * i + 0)) E 16 0 rfl rfl (vp_in_nI (show 3 * i + 0 < 180 by omega) (by decide)) (zw_clamp (show 3 * i + 0 < 180 by omega) (by decide)) rfl dX3_parts_152 (pc' := 153) rfl ?_
  refine zw_aload_n (i := 0) (x := am 0) E 3 dX3_parts_153 rfl rfl (pc' := 154) rfl ?_
  refine zw_get (v := .ref (am 16)) E 0 17 iX3_parts_X3 fX3_parts_56 rfl rfl (by decide) rfl rfl dX3_parts_154 (pc' := 157) rfl ?_
  refine zw_iconst (v := 3) E dX3_parts_157 (by decide) (pc' := 158) rfl ?_
  refine zw_iload_n (i := 3) (x := nI j) E 1 dX3_parts_158 rfl rfl (pc' := 159) rfl ?_
  refine zw_imul E dX3_parts_159 (pc' := 160) rfl ?_
  refine zw_topi (x' := nI (3 * j)) (pk_mul 3 j) ?_
  refine zw_iload (x := 0) E 0 dX3_parts_160 rfl (pc' := 162) rfl ?_
  refine zw_iadd E dX3_parts_162 (pc' := 163) rfl ?_
  refine zw_topi (x' := nI (3 * j + 0)) (nI_add (3 * j) 0) ?_
  refine zw_iald (j := 3 * j + 0) (x := g_3.1 15 (3 * j + 0)) E 16 0 rfl rfl (vp_in_nI (show 3 * j + 0 < 180 by omega) (by decide)) (zw_clamp (show 3 * j + 0 < 180 by omega) (by decide)) rfl dX3_parts_163 (pc' := 164) rfl ?_
  refine zw_isub E dX3_parts_164 (pc' := 165) rfl ?_
  refine zw_iast (j := 3 * j + 3 + 0) (ws' := (md_W K am (md_row g_3 15 (3 * j + 3 + 0) ((g_3.1 15 (3 * i + 0)) - (g_3.1 15 (3 * j + 0)))))) E 16 0 rfl rfl (vp_in_nI (show 3 * j + 3 + 0 < 180 by omega) (by decide)) (zw_clamp (show 3 * j + 3 + 0 < 180 by omega) (by decide)) rfl dX3_parts_165 (pc' := 166) rfl ?_
  refine zw_gen_md_g (md_row g_3 15 (3 * j + 3 + 0) ((g_3.1 15 (3 * i + 0)) - (g_3.1 15 (3 * j + 0)))) (fun g_4 hg_4 => ?_)
  have a_g_4 : g_4.1 12 i = g.1 12 i := by rw [← hg_4]; exact a_g_3
  refine zw_iinc (x := 0) (v := 1) (lv' := [(4, .int 1), (3, .int (nI j)), (2, .int (nI i)), (0, .ref (am 0)), (1, .int (nI n))]) E 0 dX3_parts_166 rfl (by decide) (by decide) rfl (pc' := 169) rfl ?_
  refine zw_goto (tgt := 84) E dX3_parts_169 (by decide) ?_
  refine zw_iload (x := 1) E 0 dX3_parts_84 rfl (pc' := 86) rfl ?_
  refine zw_iconst (v := 3) E dX3_parts_86 (by decide) (pc' := 87) rfl ?_
  refine zw_icmp_ge (tgt := 172) E dX3_parts_87 (by decide) (pc' := 90) rfl (fun c9 => absurd c9 (by decide)) (fun _ => ?_)
  refine zw_aload_n (i := 0) (x := am 0) E 3 dX3_parts_90 rfl rfl (pc' := 91) rfl ?_
  refine zw_get (v := .ref (am 16)) E 0 17 iX3_parts_X3 fX3_parts_56 rfl rfl (by decide) rfl rfl dX3_parts_91 (pc' := 94) rfl ?_
  refine zw_iconst (v := 3) E dX3_parts_94 (by decide) (pc' := 95) rfl ?_
  refine zw_iload_n (i := 3) (x := nI j) E 1 dX3_parts_95 rfl rfl (pc' := 96) rfl ?_
  refine zw_imul E dX3_parts_96 (pc' := 97) rfl ?_
  refine zw_topi (x' := nI (3 * j)) (pk_mul 3 j) ?_
  refine zw_iload (x := 1) E 0 dX3_parts_97 rfl (pc' := 99) rfl ?_
  refine zw_iadd E dX3_parts_99 (pc' := 100) rfl ?_
  refine zw_topi (x' := nI (3 * j + 1)) (nI_add (3 * j) 1) ?_
  refine zw_aload_n (i := 0) (x := am 0) E 3 dX3_parts_100 rfl rfl (pc' := 101) rfl ?_
  refine zw_get (v := .ref (am 16)) E 0 17 iX3_parts_X3 fX3_parts_56 rfl rfl (by decide) rfl rfl dX3_parts_101 (pc' := 104) rfl ?_
  refine zw_iconst (v := 3) E dX3_parts_104 (by decide) (pc' := 105) rfl ?_
  refine zw_iload_n (i := 2) (x := nI i) E 2 dX3_parts_105 rfl rfl (pc' := 106) rfl ?_
  refine zw_imul E dX3_parts_106 (pc' := 107) rfl ?_
  refine zw_topi (x' := nI (3 * i)) (pk_mul 3 i) ?_
  refine zw_iload (x := 1) E 0 dX3_parts_107 rfl (pc' := 109) rfl ?_
  refine zw_iadd E dX3_parts_109 (pc' := 110) rfl ?_
  refine zw_topi (x' := nI (3 * i + 1)) (nI_add (3 * i) 1) ?_
  refine zw_iald (j := 3 * i + 1) (x := g_4.1 15 (3 * i + 1)) E 16 0 rfl rfl (vp_in_nI (show 3 * i + 1 < 180 by omega) (by decide)) (zw_clamp (show 3 * i + 1 < 180 by omega) (by decide)) rfl dX3_parts_110 (pc' := 111) rfl ?_
  refine zw_i2l E dX3_parts_111 (pc' := 112) rfl ?_
  refine zw_aload_n (i := 0) (x := am 0) E 3 dX3_parts_112 rfl rfl (pc' := 113) rfl ?_
  refine zw_get (v := .ref (am 5)) E 0 6 iX3_parts_X3 fX3_parts_22 rfl rfl (by decide) rfl rfl dX3_parts_113 (pc' := 116) rfl ?_
  refine zw_iload_n (i := 1) (x := nI n) E 4 dX3_parts_116 rfl rfl (pc' := 117) rfl ?_
  refine zw_iald (j := n) (x := g_4.1 4 n) E 5 0 rfl rfl (vp_in_nI hn (by decide)) (zw_clamp hn (by decide)) rfl dX3_parts_117 (pc' := 118) rfl ?_
  refine zw_i2l E dX3_parts_118 (pc' := 119) rfl ?_
  refine zw_lmul E dX3_parts_119 (pc' := 120) rfl ?_
  refine zw_aload_n (i := 0) (x := am 0) E 3 dX3_parts_120 rfl rfl (pc' := 121) rfl ?_
  refine zw_get (v := .ref (am 13)) E 0 14 iX3_parts_X3 fX3_parts_47 rfl rfl (by decide) rfl rfl dX3_parts_121 (pc' := 124) rfl ?_
  refine zw_iload_n (i := 2) (x := nI i) E 2 dX3_parts_124 rfl rfl (pc' := 125) rfl ?_
  refine zw_iald (j := i) (x := g_4.1 12 i) E 13 0 rfl rfl (vp_in_nI hi (by decide)) (zw_clamp hi (by decide)) rfl dX3_parts_125 (pc' := 126) rfl ?_
  refine zw_i2l E dX3_parts_126 (pc' := 127) rfl ?_
  refine zw_ldiv E dX3_parts_127 (by rw [a_g_4]; exact h0) (pc' := 128) rfl ?_
  refine zw_l2i E dX3_parts_128 (pc' := 129) rfl ?_
  refine zw_iast (j := 3 * j + 1) (ws' := (md_W K am (md_row g_4 15 (3 * j + 1) (((((g_4.1 15 (3 * i + 1)).toInt64) * ((g_4.1 4 n).toInt64)) / ((g_4.1 12 i).toInt64)).toInt32)))) E 16 0 rfl rfl (vp_in_nI (show 3 * j + 1 < 180 by omega) (by decide)) (zw_clamp (show 3 * j + 1 < 180 by omega) (by decide)) rfl dX3_parts_129 (pc' := 130) rfl ?_
  refine zw_gen_md_g (md_row g_4 15 (3 * j + 1) (((((g_4.1 15 (3 * i + 1)).toInt64) * ((g_4.1 4 n).toInt64)) / ((g_4.1 12 i).toInt64)).toInt32)) (fun g_5 hg_5 => ?_)
  have a_g_5 : g_5.1 12 i = g.1 12 i := by rw [← hg_5]; exact a_g_4
  refine zw_aload_n (i := 0) (x := am 0) E 3 dX3_parts_130 rfl rfl (pc' := 131) rfl ?_
  refine zw_get (v := .ref (am 16)) E 0 17 iX3_parts_X3 fX3_parts_56 rfl rfl (by decide) rfl rfl dX3_parts_131 (pc' := 134) rfl ?_
  refine zw_iconst (v := 3) E dX3_parts_134 (by decide) (pc' := 135) rfl ?_
  refine zw_iload_n (i := 3) (x := nI j) E 1 dX3_parts_135 rfl rfl (pc' := 136) rfl ?_
  refine zw_imul E dX3_parts_136 (pc' := 137) rfl ?_
  refine zw_topi (x' := nI (3 * j)) (pk_mul 3 j) ?_
  refine zw_iconst (v := 3) E dX3_parts_137 (by decide) (pc' := 138) rfl ?_
  refine zw_iadd E dX3_parts_138 (pc' := 139) rfl ?_
  refine zw_topi (x' := nI (3 * j + 3)) (nI_add (3 * j) 3) ?_
  refine zw_iload (x := 1) E 0 dX3_parts_139 rfl (pc' := 141) rfl ?_
  refine zw_iadd E dX3_parts_141 (pc' := 142) rfl ?_
  refine zw_topi (x' := nI (3 * j + 3 + 1)) (nI_add (3 * j + 3) 1) ?_
  refine zw_aload_n (i := 0) (x := am 0) E 3 dX3_parts_142 rfl rfl (pc' := 143) rfl ?_
  refine zw_get (v := .ref (am 16)) E 0 17 iX3_parts_X3 fX3_parts_56 rfl rfl (by decide) rfl rfl dX3_parts_143 (pc' := 146) rfl ?_
  refine zw_iconst (v := 3) E dX3_parts_146 (by decide) (pc' := 147) rfl ?_
  refine zw_iload_n (i := 2) (x := nI i) E 2 dX3_parts_147 rfl rfl (pc' := 148) rfl ?_
  refine zw_imul E dX3_parts_148 (pc' := 149) rfl ?_
  refine zw_topi (x' := nI (3 * i)) (pk_mul 3 i) ?_
  refine zw_iload (x := 1) E 0 dX3_parts_149 rfl (pc' := 151) rfl ?_
  refine zw_iadd E dX3_parts_151 (pc' := 152) rfl ?_
  refine zw_topi (x' := nI (3 * i + 1)) (nI_add (3 * i) 1) ?_
  refine zw_iald (j := 3 * i + 1) (x := g_5.1 15 (3 * i + 1)) E 16 0 rfl rfl (vp_in_nI (show 3 * i + 1 < 180 by omega) (by decide)) (zw_clamp (show 3 * i + 1 < 180 by omega) (by decide)) rfl dX3_parts_152 (pc' := 153) rfl ?_
  refine zw_aload_n (i := 0) (x := am 0) E 3 dX3_parts_153 rfl rfl (pc' := 154) rfl ?_
  refine zw_get (v := .ref (am 16)) E 0 17 iX3_parts_X3 fX3_parts_56 rfl rfl (by decide) rfl rfl dX3_parts_154 (pc' := 157) rfl ?_
  refine zw_iconst (v := 3) E dX3_parts_157 (by decide) (pc' := 158) rfl ?_
  refine zw_iload_n (i := 3) (x := nI j) E 1 dX3_parts_158 rfl rfl (pc' := 159) rfl ?_
  refine zw_imul E dX3_parts_159 (pc' := 160) rfl ?_
  refine zw_topi (x' := nI (3 * j)) (pk_mul 3 j) ?_
  refine zw_iload (x := 1) E 0 dX3_parts_160 rfl (pc' := 162) rfl ?_
  refine zw_iadd E dX3_parts_162 (pc' := 163) rfl ?_
  refine zw_topi (x' := nI (3 * j + 1)) (nI_add (3 * j) 1) ?_
  refine zw_iald (j := 3 * j + 1) (x := g_5.1 15 (3 * j + 1)) E 16 0 rfl rfl (vp_in_nI (show 3 * j + 1 < 180 by omega) (by decide)) (zw_clamp (show 3 * j + 1 < 180 by omega) (by decide)) rfl dX3_parts_163 (pc' := 164) rfl ?_
  refine zw_isub E dX3_parts_164 (pc' := 165) rfl ?_
  refine zw_iast (j := 3 * j + 3 + 1) (ws' := (md_W K am (md_row g_5 15 (3 * j + 3 + 1) ((g_5.1 15 (3 * i + 1)) - (g_5.1 15 (3 * j + 1)))))) E 16 0 rfl rfl (vp_in_nI (show 3 * j + 3 + 1 < 180 by omega) (by decide)) (zw_clamp (show 3 * j + 3 + 1 < 180 by omega) (by decide)) rfl dX3_parts_165 (pc' := 166) rfl ?_
  refine zw_gen_md_g (md_row g_5 15 (3 * j + 3 + 1) ((g_5.1 15 (3 * i + 1)) - (g_5.1 15 (3 * j + 1)))) (fun g_6 hg_6 => ?_)
  have a_g_6 : g_6.1 12 i = g.1 12 i := by rw [← hg_6]; exact a_g_5
  refine zw_iinc (x := 1) (v := 2) (lv' := [(4, .int 2), (3, .int (nI j)), (2, .int (nI i)), (0, .ref (am 0)), (1, .int (nI n))]) E 0 dX3_parts_166 rfl (by decide) (by decide) rfl (pc' := 169) rfl ?_
  refine zw_goto (tgt := 84) E dX3_parts_169 (by decide) ?_
  refine zw_iload (x := 2) E 0 dX3_parts_84 rfl (pc' := 86) rfl ?_
  refine zw_iconst (v := 3) E dX3_parts_86 (by decide) (pc' := 87) rfl ?_
  refine zw_icmp_ge (tgt := 172) E dX3_parts_87 (by decide) (pc' := 90) rfl (fun c9 => absurd c9 (by decide)) (fun _ => ?_)
  refine zw_aload_n (i := 0) (x := am 0) E 3 dX3_parts_90 rfl rfl (pc' := 91) rfl ?_
  refine zw_get (v := .ref (am 16)) E 0 17 iX3_parts_X3 fX3_parts_56 rfl rfl (by decide) rfl rfl dX3_parts_91 (pc' := 94) rfl ?_
  refine zw_iconst (v := 3) E dX3_parts_94 (by decide) (pc' := 95) rfl ?_
  refine zw_iload_n (i := 3) (x := nI j) E 1 dX3_parts_95 rfl rfl (pc' := 96) rfl ?_
  refine zw_imul E dX3_parts_96 (pc' := 97) rfl ?_
  refine zw_topi (x' := nI (3 * j)) (pk_mul 3 j) ?_
  refine zw_iload (x := 2) E 0 dX3_parts_97 rfl (pc' := 99) rfl ?_
  refine zw_iadd E dX3_parts_99 (pc' := 100) rfl ?_
  refine zw_topi (x' := nI (3 * j + 2)) (nI_add (3 * j) 2) ?_
  refine zw_aload_n (i := 0) (x := am 0) E 3 dX3_parts_100 rfl rfl (pc' := 101) rfl ?_
  refine zw_get (v := .ref (am 16)) E 0 17 iX3_parts_X3 fX3_parts_56 rfl rfl (by decide) rfl rfl dX3_parts_101 (pc' := 104) rfl ?_
  refine zw_iconst (v := 3) E dX3_parts_104 (by decide) (pc' := 105) rfl ?_
  refine zw_iload_n (i := 2) (x := nI i) E 2 dX3_parts_105 rfl rfl (pc' := 106) rfl ?_
  refine zw_imul E dX3_parts_106 (pc' := 107) rfl ?_
  refine zw_topi (x' := nI (3 * i)) (pk_mul 3 i) ?_
  refine zw_iload (x := 2) E 0 dX3_parts_107 rfl (pc' := 109) rfl ?_
  refine zw_iadd E dX3_parts_109 (pc' := 110) rfl ?_
  refine zw_topi (x' := nI (3 * i + 2)) (nI_add (3 * i) 2) ?_
  refine zw_iald (j := 3 * i + 2) (x := g_6.1 15 (3 * i + 2)) E 16 0 rfl rfl (vp_in_nI (show 3 * i + 2 < 180 by omega) (by decide)) (zw_clamp (show 3 * i + 2 < 180 by omega) (by decide)) rfl dX3_parts_110 (pc' := 111) rfl ?_
  refine zw_i2l E dX3_parts_111 (pc' := 112) rfl ?_
  refine zw_aload_n (i := 0) (x := am 0) E 3 dX3_parts_112 rfl rfl (pc' := 113) rfl ?_
  refine zw_get (v := .ref (am 5)) E 0 6 iX3_parts_X3 fX3_parts_22 rfl rfl (by decide) rfl rfl dX3_parts_113 (pc' := 116) rfl ?_
  refine zw_iload_n (i := 1) (x := nI n) E 4 dX3_parts_116 rfl rfl (pc' := 117) rfl ?_
  refine zw_iald (j := n) (x := g_6.1 4 n) E 5 0 rfl rfl (vp_in_nI hn (by decide)) (zw_clamp hn (by decide)) rfl dX3_parts_117 (pc' := 118) rfl ?_
  refine zw_i2l E dX3_parts_118 (pc' := 119) rfl ?_
  refine zw_lmul E dX3_parts_119 (pc' := 120) rfl ?_
  refine zw_aload_n (i := 0) (x := am 0) E 3 dX3_parts_120 rfl rfl (pc' := 121) rfl ?_
  refine zw_get (v := .ref (am 13)) E 0 14 iX3_parts_X3 fX3_parts_47 rfl rfl (by decide) rfl rfl dX3_parts_121 (pc' := 124) rfl ?_
  refine zw_iload_n (i := 2) (x := nI i) E 2 dX3_parts_124 rfl rfl (pc' := 125) rfl ?_
  refine zw_iald (j := i) (x := g_6.1 12 i) E 13 0 rfl rfl (vp_in_nI hi (by decide)) (zw_clamp hi (by decide)) rfl dX3_parts_125 (pc' := 126) rfl ?_
  refine zw_i2l E dX3_parts_126 (pc' := 127) rfl ?_
  refine zw_ldiv E dX3_parts_127 (by rw [a_g_6]; exact h0) (pc' := 128) rfl ?_
  refine zw_l2i E dX3_parts_128 (pc' := 129) rfl ?_
  refine zw_iast (j := 3 * j + 2) (ws' := (md_W K am (md_row g_6 15 (3 * j + 2) (((((g_6.1 15 (3 * i + 2)).toInt64) * ((g_6.1 4 n).toInt64)) / ((g_6.1 12 i).toInt64)).toInt32)))) E 16 0 rfl rfl (vp_in_nI (show 3 * j + 2 < 180 by omega) (by decide)) (zw_clamp (show 3 * j + 2 < 180 by omega) (by decide)) rfl dX3_parts_129 (pc' := 130) rfl ?_
  refine zw_gen_md_g (md_row g_6 15 (3 * j + 2) (((((g_6.1 15 (3 * i + 2)).toInt64) * ((g_6.1 4 n).toInt64)) / ((g_6.1 12 i).toInt64)).toInt32)) (fun g_7 hg_7 => ?_)
  have a_g_7 : g_7.1 12 i = g.1 12 i := by rw [← hg_7]; exact a_g_6
  refine zw_aload_n (i := 0) (x := am 0) E 3 dX3_parts_130 rfl rfl (pc' := 131) rfl ?_
  refine zw_get (v := .ref (am 16)) E 0 17 iX3_parts_X3 fX3_parts_56 rfl rfl (by decide) rfl rfl dX3_parts_131 (pc' := 134) rfl ?_
  refine zw_iconst (v := 3) E dX3_parts_134 (by decide) (pc' := 135) rfl ?_
  refine zw_iload_n (i := 3) (x := nI j) E 1 dX3_parts_135 rfl rfl (pc' := 136) rfl ?_
  refine zw_imul E dX3_parts_136 (pc' := 137) rfl ?_
  refine zw_topi (x' := nI (3 * j)) (pk_mul 3 j) ?_
  refine zw_iconst (v := 3) E dX3_parts_137 (by decide) (pc' := 138) rfl ?_
  refine zw_iadd E dX3_parts_138 (pc' := 139) rfl ?_
  refine zw_topi (x' := nI (3 * j + 3)) (nI_add (3 * j) 3) ?_
  refine zw_iload (x := 2) E 0 dX3_parts_139 rfl (pc' := 141) rfl ?_
  refine zw_iadd E dX3_parts_141 (pc' := 142) rfl ?_
  refine zw_topi (x' := nI (3 * j + 3 + 2)) (nI_add (3 * j + 3) 2) ?_
  refine zw_aload_n (i := 0) (x := am 0) E 3 dX3_parts_142 rfl rfl (pc' := 143) rfl ?_
  refine zw_get (v := .ref (am 16)) E 0 17 iX3_parts_X3 fX3_parts_56 rfl rfl (by decide) rfl rfl dX3_parts_143 (pc' := 146) rfl ?_
  refine zw_iconst (v := 3) E dX3_parts_146 (by decide) (pc' := 147) rfl ?_
  refine zw_iload_n (i := 2) (x := nI i) E 2 dX3_parts_147 rfl rfl (pc' := 148) rfl ?_
  refine zw_imul E dX3_parts_148 (pc' := 149) rfl ?_
  refine zw_topi (x' := nI (3 * i)) (pk_mul 3 i) ?_
  refine zw_iload (x := 2) E 0 dX3_parts_149 rfl (pc' := 151) rfl ?_
  refine zw_iadd E dX3_parts_151 (pc' := 152) rfl ?_
  refine zw_topi (x' := nI (3 * i + 2)) (nI_add (3 * i) 2) ?_
  refine zw_iald (j := 3 * i + 2) (x := g_7.1 15 (3 * i + 2)) E 16 0 rfl rfl (vp_in_nI (show 3 * i + 2 < 180 by omega) (by decide)) (zw_clamp (show 3 * i + 2 < 180 by omega) (by decide)) rfl dX3_parts_152 (pc' := 153) rfl ?_
  refine zw_aload_n (i := 0) (x := am 0) E 3 dX3_parts_153 rfl rfl (pc' := 154) rfl ?_
  refine zw_get (v := .ref (am 16)) E 0 17 iX3_parts_X3 fX3_parts_56 rfl rfl (by decide) rfl rfl dX3_parts_154 (pc' := 157) rfl ?_
  refine zw_iconst (v := 3) E dX3_parts_157 (by decide) (pc' := 158) rfl ?_
  refine zw_iload_n (i := 3) (x := nI j) E 1 dX3_parts_158 rfl rfl (pc' := 159) rfl ?_
  refine zw_imul E dX3_parts_159 (pc' := 160) rfl ?_
  refine zw_topi (x' := nI (3 * j)) (pk_mul 3 j) ?_
  refine zw_iload (x := 2) E 0 dX3_parts_160 rfl (pc' := 162) rfl ?_
  refine zw_iadd E dX3_parts_162 (pc' := 163) rfl ?_
  refine zw_topi (x' := nI (3 * j + 2)) (nI_add (3 * j) 2) ?_
  refine zw_iald (j := 3 * j + 2) (x := g_7.1 15 (3 * j + 2)) E 16 0 rfl rfl (vp_in_nI (show 3 * j + 2 < 180 by omega) (by decide)) (zw_clamp (show 3 * j + 2 < 180 by omega) (by decide)) rfl dX3_parts_163 (pc' := 164) rfl ?_
  refine zw_isub E dX3_parts_164 (pc' := 165) rfl ?_
  refine zw_iast (j := 3 * j + 3 + 2) (ws' := (md_W K am (md_row g_7 15 (3 * j + 3 + 2) ((g_7.1 15 (3 * i + 2)) - (g_7.1 15 (3 * j + 2)))))) E 16 0 rfl rfl (vp_in_nI (show 3 * j + 3 + 2 < 180 by omega) (by decide)) (zw_clamp (show 3 * j + 3 + 2 < 180 by omega) (by decide)) rfl dX3_parts_165 (pc' := 166) rfl ?_
  refine zw_gen_md_g (md_row g_7 15 (3 * j + 3 + 2) ((g_7.1 15 (3 * i + 2)) - (g_7.1 15 (3 * j + 2)))) (fun g_8 hg_8 => ?_)
  have a_g_8 : g_8.1 12 i = g.1 12 i := by rw [← hg_8]; exact a_g_7
  refine zw_iinc (x := 2) (v := 3) (lv' := [(4, .int 3), (3, .int (nI j)), (2, .int (nI i)), (0, .ref (am 0)), (1, .int (nI n))]) E 0 dX3_parts_166 rfl (by decide) (by decide) rfl (pc' := 169) rfl ?_
  refine zw_goto (tgt := 84) E dX3_parts_169 (by decide) ?_
  refine zw_iload (x := 3) E 0 dX3_parts_84 rfl (pc' := 86) rfl ?_
  refine zw_iconst (v := 3) E dX3_parts_86 (by decide) (pc' := 87) rfl ?_
  refine zw_icmp_ge (tgt := 172) E dX3_parts_87 (by decide) (pc' := 90) rfl (fun _ => ?_) (fun c9 => absurd (by decide) c9)
  refine zw_aload_n (i := 0) (x := am 0) E 3 dX3_parts_172 rfl rfl (pc' := 173) rfl ?_
  refine zw_get (v := .ref (am 12)) E 0 13 iX3_parts_X3 fX3_parts_43 rfl rfl (by decide) rfl rfl dX3_parts_173 (pc' := 176) rfl ?_
  refine zw_iload_n (i := 2) (x := nI i) E 2 dX3_parts_176 rfl rfl (pc' := 177) rfl ?_
  refine zw_iconst (v := 0) E dX3_parts_177 (by decide) (pc' := 178) rfl ?_
  refine zw_zast (j := i) (ws' := (md_W K am (md_row g_8 11 i 0))) E 12 1 rfl rfl (vp_in_nI hi (by decide)) (zw_clamp hi (by decide)) rfl dX3_parts_178 (pc' := 179) rfl ?_
  refine zw_gen_md_g (md_row g_8 11 i 0) (fun g_9 hg_9 => ?_)
  have a_g_9 : g_9.1 12 i = g.1 12 i := by rw [← hg_9]; exact a_g_8
  exact zw_vret E hr hlk dX3_parts_179 (by unfold md_part q_c; rw [show q_m1 g n i j = g_1 from hg_1, show q_m2 g_1 n i j = g_2 from hg_2, show q_c1 g_2 n i j 0 = g_3 from hg_3, show q_c2 g_3 i j 0 = g_4 from hg_4, show q_c1 g_4 n i j 1 = g_5 from hg_5, show q_c2 g_5 i j 1 = g_6 from hg_6, show q_c1 g_6 n i j 2 = g_7 from hg_7, show q_c2 g_7 i j 2 = g_8 from hg_8, hg_9])

def v_c (g : Md) (i i2 j c : Nat) : Md := md_row g 15 (3 * j + c) (g.1 15 (3 * i + c) + g.1 15 (3 * i2 + c))
def v_m (g : Md) (i i2 j : Nat) : Md := md_come g j (g.1 12 i + g.1 12 i2) (g.1 13 i) (g.1 14 i) (g.1 16 i)
def md_join (g : Md) (i i2 j : Nat) : Md := md_row (md_row (v_c (v_c (v_c (v_m g i i2 j) i i2 j 0) i i2 j 1) i i2 j 2) 11 i 0) 11 i2 0
theorem fX3_joins_16 : Cond.fieldLink RX3 16 "TitheMapModel" "one" "[I" ∈ wsX3_joins := by decide +kernel
theorem fX3_joins_19 : Cond.fieldLink RX3 19 "TitheMapModel" "two" "[I" ∈ wsX3_joins := by decide +kernel
theorem fX3_joins_28 : Cond.fieldLink RX3 28 "TitheMapModel" "made" "[I" ∈ wsX3_joins := by decide +kernel
theorem fX3_joins_43 : Cond.fieldLink RX3 43 "TitheMapModel" "isThere" "[Z" ∈ wsX3_joins := by decide +kernel
theorem fX3_joins_47 : Cond.fieldLink RX3 47 "TitheMapModel" "area" "[I" ∈ wsX3_joins := by decide +kernel
theorem fX3_joins_50 : Cond.fieldLink RX3 50 "TitheMapModel" "kind" "[I" ∈ wsX3_joins := by decide +kernel
theorem fX3_joins_53 : Cond.fieldLink RX3 53 "TitheMapModel" "owner" "[I" ∈ wsX3_joins := by decide +kernel
theorem fX3_joins_56 : Cond.fieldLink RX3 56 "TitheMapModel" "charge" "[I" ∈ wsX3_joins := by decide +kernel
theorem fX3_joins_59 : Cond.fieldLink RX3 59 "TitheMapModel" "isBought" "[Z" ∈ wsX3_joins := by decide +kernel
theorem iX3_joins_X3 : ∀ w ∈ wsX30, w ∈ wsX3_joins := by decide +kernel
set_option maxHeartbeats 4000000 in
set_option maxRecDepth 100000 in
/-- joins(e) -/
theorem qX3_joins (l : Launch) (D : va_G) (K : Nat → ClassId) (am : Nat → Nat) (g : Md) (n i i2 j : Nat) (hn : n < 80) (hi : i < 60) (hi2 : i2 < 60) (hj : j < 60) (hf : g.1 2 n = nI i) (hf2 : g.1 3 n = nI i2) (hm : g.1 6 n = nI j) : zw_V l yX3_joins wsX3_joins rmX3_joins D (zT K) [.ref (am 0), .int (nI n)] (md_W K am g) (md_W K am (md_join g i i2 j)) := by
  refine zw_ofV (cc := cX3_joins) (nL := 5) (ret := none) (own := RX3) (lv := [(0, .ref (am 0)), (1, .int (nI n))]) (by decide) rfl (Nat.le_of_ble_eq_true rfl) rfl rfl ?_
  intro p e s m below meth c A E hr hlk
  refine zw_aload_n (i := 0) (x := am 0) E 0 dX3_joins_0 rfl rfl (pc' := 1) rfl ?_
  refine zw_get (v := .ref (am 3)) E 0 4 iX3_joins_X3 fX3_joins_16 rfl rfl (by decide) rfl rfl dX3_joins_1 (pc' := 4) rfl ?_
  refine zw_iload_n (i := 1) (x := nI n) E 1 dX3_joins_4 rfl rfl (pc' := 5) rfl ?_
  refine zw_iald (j := n) (x := g.1 2 n) E 3 0 rfl rfl (vp_in_nI hn (by decide)) (zw_clamp hn (by decide)) rfl dX3_joins_5 (pc' := 6) rfl ?_
  refine zw_topi (x' := nI i) hf ?_
  refine zw_istore_n (lv' := [(2, .int (nI i)), (0, .ref (am 0)), (1, .int (nI n))]) E dX3_joins_6 rfl (by decide) rfl (pc' := 7) rfl ?_
  refine zw_aload_n (i := 0) (x := am 0) E 1 dX3_joins_7 rfl rfl (pc' := 8) rfl ?_
  refine zw_get (v := .ref (am 4)) E 0 5 iX3_joins_X3 fX3_joins_19 rfl rfl (by decide) rfl rfl dX3_joins_8 (pc' := 11) rfl ?_
  refine zw_iload_n (i := 1) (x := nI n) E 2 dX3_joins_11 rfl rfl (pc' := 12) rfl ?_
  refine zw_iald (j := n) (x := g.1 3 n) E 4 0 rfl rfl (vp_in_nI hn (by decide)) (zw_clamp hn (by decide)) rfl dX3_joins_12 (pc' := 13) rfl ?_
  refine zw_topi (x' := nI i2) hf2 ?_
  refine zw_istore_n (lv' := [(3, .int (nI i2)), (2, .int (nI i)), (0, .ref (am 0)), (1, .int (nI n))]) E dX3_joins_13 rfl (by decide) rfl (pc' := 14) rfl ?_
  refine zw_aload_n (i := 0) (x := am 0) E 2 dX3_joins_14 rfl rfl (pc' := 15) rfl ?_
  refine zw_aload_n (i := 0) (x := am 0) E 2 dX3_joins_15 rfl rfl (pc' := 16) rfl ?_
  refine zw_get (v := .ref (am 7)) E 0 8 iX3_joins_X3 fX3_joins_28 rfl rfl (by decide) rfl rfl dX3_joins_16 (pc' := 19) rfl ?_
  refine zw_iload_n (i := 1) (x := nI n) E 3 dX3_joins_19 rfl rfl (pc' := 20) rfl ?_
  refine zw_iald (j := n) (x := g.1 6 n) E 7 0 rfl rfl (vp_in_nI hn (by decide)) (zw_clamp hn (by decide)) rfl dX3_joins_20 (pc' := 21) rfl ?_
  refine zw_topi (x' := nI j) hm ?_
  refine zw_aload_n (i := 0) (x := am 0) E 2 dX3_joins_21 rfl rfl (pc' := 22) rfl ?_
  refine zw_get (v := .ref (am 13)) E 0 14 iX3_joins_X3 fX3_joins_47 rfl rfl (by decide) rfl rfl dX3_joins_22 (pc' := 25) rfl ?_
  refine zw_iload_n (i := 2) (x := nI i) E 1 dX3_joins_25 rfl rfl (pc' := 26) rfl ?_
  refine zw_iald (j := i) (x := g.1 12 i) E 13 0 rfl rfl (vp_in_nI hi (by decide)) (zw_clamp hi (by decide)) rfl dX3_joins_26 (pc' := 27) rfl ?_
  refine zw_aload_n (i := 0) (x := am 0) E 2 dX3_joins_27 rfl rfl (pc' := 28) rfl ?_
  refine zw_get (v := .ref (am 13)) E 0 14 iX3_joins_X3 fX3_joins_47 rfl rfl (by decide) rfl rfl dX3_joins_28 (pc' := 31) rfl ?_
  refine zw_iload_n (i := 3) (x := nI i2) E 0 dX3_joins_31 rfl rfl (pc' := 32) rfl ?_
  refine zw_iald (j := i2) (x := g.1 12 i2) E 13 0 rfl rfl (vp_in_nI hi2 (by decide)) (zw_clamp hi2 (by decide)) rfl dX3_joins_32 (pc' := 33) rfl ?_
  refine zw_iadd E dX3_joins_33 (pc' := 34) rfl ?_
  refine zw_aload_n (i := 0) (x := am 0) E 2 dX3_joins_34 rfl rfl (pc' := 35) rfl ?_
  refine zw_get (v := .ref (am 14)) E 0 15 iX3_joins_X3 fX3_joins_50 rfl rfl (by decide) rfl rfl dX3_joins_35 (pc' := 38) rfl ?_
  refine zw_iload_n (i := 2) (x := nI i) E 1 dX3_joins_38 rfl rfl (pc' := 39) rfl ?_
  refine zw_iald (j := i) (x := g.1 13 i) E 14 0 rfl rfl (vp_in_nI hi (by decide)) (zw_clamp hi (by decide)) rfl dX3_joins_39 (pc' := 40) rfl ?_
  refine zw_aload_n (i := 0) (x := am 0) E 2 dX3_joins_40 rfl rfl (pc' := 41) rfl ?_
  refine zw_get (v := .ref (am 15)) E 0 16 iX3_joins_X3 fX3_joins_53 rfl rfl (by decide) rfl rfl dX3_joins_41 (pc' := 44) rfl ?_
  refine zw_iload_n (i := 2) (x := nI i) E 1 dX3_joins_44 rfl rfl (pc' := 45) rfl ?_
  refine zw_iald (j := i) (x := g.1 14 i) E 15 0 rfl rfl (vp_in_nI hi (by decide)) (zw_clamp hi (by decide)) rfl dX3_joins_45 (pc' := 46) rfl ?_
  refine zw_aload_n (i := 0) (x := am 0) E 2 dX3_joins_46 rfl rfl (pc' := 47) rfl ?_
  refine zw_get (v := .ref (am 17)) E 0 18 iX3_joins_X3 fX3_joins_59 rfl rfl (by decide) rfl rfl dX3_joins_47 (pc' := 50) rfl ?_
  refine zw_iload_n (i := 2) (x := nI i) E 1 dX3_joins_50 rfl rfl (pc' := 51) rfl ?_
  refine zw_zald (j := i) (x := g.1 16 i) E 17 1 rfl rfl (vp_in_nI hi (by decide)) (zw_clamp hi (by decide)) rfl dX3_joins_51 (pc' := 52) rfl ?_
  refine zw_callVw E (As := [.int (nI j), .int ((g.1 12 i) + (g.1 12 i2)), .int (g.1 13 i), .int (g.1 14 i), .int (g.1 16 i)]) (rest := []) (ws' := (md_W K am (md_come g j ((g.1 12 i) + (g.1 12 i2)) (g.1 13 i) (g.1 14 i) (g.1 16 i)))) (qX3_comes l D K am g j hj ((g.1 12 i) + (g.1 12 i2)) (g.1 13 i) (g.1 14 i) (g.1 16 i)) (cwV 5 E.2.2.2.2.1 gX3_joins_X3_comes rfl rfl rfl (by decide +kernel) ⟨Nat.le_of_ble_eq_true rfl, Nat.le_of_ble_eq_true rfl⟩) 0 rfl rfl rfl (md_ad _ _ _ _) rfl rfl (Nat.le_of_ble_eq_true rfl) ⟨Nat.zero_le _, Nat.zero_le _⟩ dX3_joins_52 (pc' := 55) rfl ?_
  refine zw_gen_md_g (md_come g j ((g.1 12 i) + (g.1 12 i2)) (g.1 13 i) (g.1 14 i) (g.1 16 i)) (fun g_1 hg_1 => ?_)
  have m_g_1 : g_1.1 6 n = nI j := by rw [← hg_1]; exact hm
  refine zw_iconst (v := 0) E dX3_joins_55 (by decide) (pc' := 56) rfl ?_
  refine zw_istore (lv' := [(4, .int 0), (3, .int (nI i2)), (2, .int (nI i)), (0, .ref (am 0)), (1, .int (nI n))]) E dX3_joins_56 (by decide) rfl (pc' := 58) rfl ?_
  refine zw_iload (x := 0) E 0 dX3_joins_58 rfl (pc' := 60) rfl ?_
  refine zw_iconst (v := 3) E dX3_joins_60 (by decide) (pc' := 61) rfl ?_
  refine zw_icmp_ge (tgt := 109) E dX3_joins_61 (by decide) (pc' := 64) rfl (fun c9 => absurd c9 (by decide)) (fun _ => ?_)
  refine zw_aload_n (i := 0) (x := am 0) E 3 dX3_joins_64 rfl rfl (pc' := 65) rfl ?_
  refine zw_get (v := .ref (am 16)) E 0 17 iX3_joins_X3 fX3_joins_56 rfl rfl (by decide) rfl rfl dX3_joins_65 (pc' := 68) rfl ?_
  refine zw_iconst (v := 3) E dX3_joins_68 (by decide) (pc' := 69) rfl ?_
  refine zw_aload_n (i := 0) (x := am 0) E 3 dX3_joins_69 rfl rfl (pc' := 70) rfl ?_
  refine zw_get (v := .ref (am 7)) E 0 8 iX3_joins_X3 fX3_joins_28 rfl rfl (by decide) rfl rfl dX3_joins_70 (pc' := 73) rfl ?_
  refine zw_iload_n (i := 1) (x := nI n) E 4 dX3_joins_73 rfl rfl (pc' := 74) rfl ?_
  refine zw_iald (j := n) (x := g_1.1 6 n) E 7 0 rfl rfl (vp_in_nI hn (by decide)) (zw_clamp hn (by decide)) rfl dX3_joins_74 (pc' := 75) rfl ?_
  refine zw_topi (x' := nI j) m_g_1 ?_
  refine zw_imul E dX3_joins_75 (pc' := 76) rfl ?_
  refine zw_topi (x' := nI (3 * j)) (pk_mul 3 j) ?_
  refine zw_iload (x := 0) E 0 dX3_joins_76 rfl (pc' := 78) rfl ?_
  refine zw_iadd E dX3_joins_78 (pc' := 79) rfl ?_
  refine zw_topi (x' := nI (3 * j + 0)) (nI_add (3 * j) 0) ?_
  refine zw_aload_n (i := 0) (x := am 0) E 3 dX3_joins_79 rfl rfl (pc' := 80) rfl ?_
  refine zw_get (v := .ref (am 16)) E 0 17 iX3_joins_X3 fX3_joins_56 rfl rfl (by decide) rfl rfl dX3_joins_80 (pc' := 83) rfl ?_
  refine zw_iconst (v := 3) E dX3_joins_83 (by decide) (pc' := 84) rfl ?_
  refine zw_iload_n (i := 2) (x := nI i) E 2 dX3_joins_84 rfl rfl (pc' := 85) rfl ?_
  refine zw_imul E dX3_joins_85 (pc' := 86) rfl ?_
  refine zw_topi (x' := nI (3 * i)) (pk_mul 3 i) ?_
  refine zw_iload (x := 0) E 0 dX3_joins_86 rfl (pc' := 88) rfl ?_
  refine zw_iadd E dX3_joins_88 (pc' := 89) rfl ?_
  refine zw_topi (x' := nI (3 * i + 0)) (nI_add (3 * i) 0) ?_
  refine zw_iald (j := 3 * i + 0) (x := g_1.1 15 (3 * i + 0)) E 16 0 rfl rfl (vp_in_nI (show 3 * i + 0 < 180 by omega) (by decide)) (zw_clamp (show 3 * i + 0 < 180 by omega) (by decide)) rfl dX3_joins_89 (pc' := 90) rfl ?_
  refine zw_aload_n (i := 0) (x := am 0) E 3 dX3_joins_90 rfl rfl (pc' := 91) rfl ?_
  refine zw_get (v := .ref (am 16)) E 0 17 iX3_joins_X3 fX3_joins_56 rfl rfl (by decide) rfl rfl dX3_joins_91 (pc' := 94) rfl ?_
  refine zw_iconst (v := 3) E dX3_joins_94 (by decide) (pc' := 95) rfl ?_
  refine zw_iload_n (i := 3) (x := nI i2) E 1 dX3_joins_95 rfl rfl (pc' := 96) rfl ?_
  refine zw_imul E dX3_joins_96 (pc' := 97) rfl ?_
  refine zw_topi (x' := nI (3 * i2)) (pk_mul 3 i2) ?_
  refine zw_iload (x := 0) E 0 dX3_joins_97 rfl (pc' := 99) rfl ?_
  refine zw_iadd E dX3_joins_99 (pc' := 100) rfl ?_
  refine zw_topi (x' := nI (3 * i2 + 0)) (nI_add (3 * i2) 0) ?_
  refine zw_iald (j := 3 * i2 + 0) (x := g_1.1 15 (3 * i2 + 0)) E 16 0 rfl rfl (vp_in_nI (show 3 * i2 + 0 < 180 by omega) (by decide)) (zw_clamp (show 3 * i2 + 0 < 180 by omega) (by decide)) rfl dX3_joins_100 (pc' := 101) rfl ?_
  refine zw_iadd E dX3_joins_101 (pc' := 102) rfl ?_
  refine zw_iast (j := 3 * j + 0) (ws' := (md_W K am (md_row g_1 15 (3 * j + 0) ((g_1.1 15 (3 * i + 0)) + (g_1.1 15 (3 * i2 + 0)))))) E 16 0 rfl rfl (vp_in_nI (show 3 * j + 0 < 180 by omega) (by decide)) (zw_clamp (show 3 * j + 0 < 180 by omega) (by decide)) rfl dX3_joins_102 (pc' := 103) rfl ?_
  refine zw_gen_md_g (md_row g_1 15 (3 * j + 0) ((g_1.1 15 (3 * i + 0)) + (g_1.1 15 (3 * i2 + 0)))) (fun g_2 hg_2 => ?_)
  have m_g_2 : g_2.1 6 n = nI j := by rw [← hg_2]; exact m_g_1
  refine zw_iinc (x := 0) (v := 1) (lv' := [(4, .int 1), (3, .int (nI i2)), (2, .int (nI i)), (0, .ref (am 0)), (1, .int (nI n))]) E 0 dX3_joins_103 rfl (by decide) (by decide) rfl (pc' := 106) rfl ?_
  refine zw_goto (tgt := 58) E dX3_joins_106 (by decide) ?_
  refine zw_iload (x := 1) E 0 dX3_joins_58 rfl (pc' := 60) rfl ?_
  refine zw_iconst (v := 3) E dX3_joins_60 (by decide) (pc' := 61) rfl ?_
  refine zw_icmp_ge (tgt := 109) E dX3_joins_61 (by decide) (pc' := 64) rfl (fun c9 => absurd c9 (by decide)) (fun _ => ?_)
  refine zw_aload_n (i := 0) (x := am 0) E 3 dX3_joins_64 rfl rfl (pc' := 65) rfl ?_
  refine zw_get (v := .ref (am 16)) E 0 17 iX3_joins_X3 fX3_joins_56 rfl rfl (by decide) rfl rfl dX3_joins_65 (pc' := 68) rfl ?_
  refine zw_iconst (v := 3) E dX3_joins_68 (by decide) (pc' := 69) rfl ?_
  refine zw_aload_n (i := 0) (x := am 0) E 3 dX3_joins_69 rfl rfl (pc' := 70) rfl ?_
  refine zw_get (v := .ref (am 7)) E 0 8 iX3_joins_X3 fX3_joins_28 rfl rfl (by decide) rfl rfl dX3_joins_70 (pc' := 73) rfl ?_
  refine zw_iload_n (i := 1) (x := nI n) E 4 dX3_joins_73 rfl rfl (pc' := 74) rfl ?_
  refine zw_iald (j := n) (x := g_2.1 6 n) E 7 0 rfl rfl (vp_in_nI hn (by decide)) (zw_clamp hn (by decide)) rfl dX3_joins_74 (pc' := 75) rfl ?_
  refine zw_topi (x' := nI j) m_g_2 ?_
  refine zw_imul E dX3_joins_75 (pc' := 76) rfl ?_
  refine zw_topi (x' := nI (3 * j)) (pk_mul 3 j) ?_
  refine zw_iload (x := 1) E 0 dX3_joins_76 rfl (pc' := 78) rfl ?_
  refine zw_iadd E dX3_joins_78 (pc' := 79) rfl ?_
  refine zw_topi (x' := nI (3 * j + 1)) (nI_add (3 * j) 1) ?_
  refine zw_aload_n (i := 0) (x := am 0) E 3 dX3_joins_79 rfl rfl (pc' := 80) rfl ?_
  refine zw_get (v := .ref (am 16)) E 0 17 iX3_joins_X3 fX3_joins_56 rfl rfl (by decide) rfl rfl dX3_joins_80 (pc' := 83) rfl ?_
  refine zw_iconst (v := 3) E dX3_joins_83 (by decide) (pc' := 84) rfl ?_
  refine zw_iload_n (i := 2) (x := nI i) E 2 dX3_joins_84 rfl rfl (pc' := 85) rfl ?_
  refine zw_imul E dX3_joins_85 (pc' := 86) rfl ?_
  refine zw_topi (x' := nI (3 * i)) (pk_mul 3 i) ?_
  refine zw_iload (x := 1) E 0 dX3_joins_86 rfl (pc' := 88) rfl ?_
  refine zw_iadd E dX3_joins_88 (pc' := 89) rfl ?_
  refine zw_topi (x' := nI (3 * i + 1)) (nI_add (3 * i) 1) ?_
  refine zw_iald (j := 3 * i + 1) (x := g_2.1 15 (3 * i + 1)) E 16 0 rfl rfl (vp_in_nI (show 3 * i + 1 < 180 by omega) (by decide)) (zw_clamp (show 3 * i + 1 < 180 by omega) (by decide)) rfl dX3_joins_89 (pc' := 90) rfl ?_
  refine zw_aload_n (i := 0) (x := am 0) E 3 dX3_joins_90 rfl rfl (pc' := 91) rfl ?_
  refine zw_get (v := .ref (am 16)) E 0 17 iX3_joins_X3 fX3_joins_56 rfl rfl (by decide) rfl rfl dX3_joins_91 (pc' := 94) rfl ?_
  refine zw_iconst (v := 3) E dX3_joins_94 (by decide) (pc' := 95) rfl ?_
  refine zw_iload_n (i := 3) (x := nI i2) E 1 dX3_joins_95 rfl rfl (pc' := 96) rfl ?_
  refine zw_imul E dX3_joins_96 (pc' := 97) rfl ?_
  refine zw_topi (x' := nI (3 * i2)) (pk_mul 3 i2) ?_
  refine zw_iload (x := 1) E 0 dX3_joins_97 rfl (pc' := 99) rfl ?_
  refine zw_iadd E dX3_joins_99 (pc' := 100) rfl ?_
  refine zw_topi (x' := nI (3 * i2 + 1)) (nI_add (3 * i2) 1) ?_
  refine zw_iald (j := 3 * i2 + 1) (x := g_2.1 15 (3 * i2 + 1)) E 16 0 rfl rfl (vp_in_nI (show 3 * i2 + 1 < 180 by omega) (by decide)) (zw_clamp (show 3 * i2 + 1 < 180 by omega) (by decide)) rfl dX3_joins_100 (pc' := 101) rfl ?_
  refine zw_iadd E dX3_joins_101 (pc' := 102) rfl ?_
  refine zw_iast (j := 3 * j + 1) (ws' := (md_W K am (md_row g_2 15 (3 * j + 1) ((g_2.1 15 (3 * i + 1)) + (g_2.1 15 (3 * i2 + 1)))))) E 16 0 rfl rfl (vp_in_nI (show 3 * j + 1 < 180 by omega) (by decide)) (zw_clamp (show 3 * j + 1 < 180 by omega) (by decide)) rfl dX3_joins_102 (pc' := 103) rfl ?_
  refine zw_gen_md_g (md_row g_2 15 (3 * j + 1) ((g_2.1 15 (3 * i + 1)) + (g_2.1 15 (3 * i2 + 1)))) (fun g_3 hg_3 => ?_)
  have m_g_3 : g_3.1 6 n = nI j := by rw [← hg_3]; exact m_g_2
  refine zw_iinc (x := 1) (v := 2) (lv' := [(4, .int 2), (3, .int (nI i2)), (2, .int (nI i)), (0, .ref (am 0)), (1, .int (nI n))]) E 0 dX3_joins_103 rfl (by decide) (by decide) rfl (pc' := 106) rfl ?_
  refine zw_goto (tgt := 58) E dX3_joins_106 (by decide) ?_
  refine zw_iload (x := 2) E 0 dX3_joins_58 rfl (pc' := 60) rfl ?_
  refine zw_iconst (v := 3) E dX3_joins_60 (by decide) (pc' := 61) rfl ?_
  refine zw_icmp_ge (tgt := 109) E dX3_joins_61 (by decide) (pc' := 64) rfl (fun c9 => absurd c9 (by decide)) (fun _ => ?_)
  refine zw_aload_n (i := 0) (x := am 0) E 3 dX3_joins_64 rfl rfl (pc' := 65) rfl ?_
  refine zw_get (v := .ref (am 16)) E 0 17 iX3_joins_X3 fX3_joins_56 rfl rfl (by decide) rfl rfl dX3_joins_65 (pc' := 68) rfl ?_
  refine zw_iconst (v := 3) E dX3_joins_68 (by decide) (pc' := 69) rfl ?_
  refine zw_aload_n (i := 0) (x := am 0) E 3 dX3_joins_69 rfl rfl (pc' := 70) rfl ?_
  refine zw_get (v := .ref (am 7)) E 0 8 iX3_joins_X3 fX3_joins_28 rfl rfl (by decide) rfl rfl dX3_joins_70 (pc' := 73) rfl ?_
  refine zw_iload_n (i := 1) (x := nI n) E 4 dX3_joins_73 rfl rfl (pc' := 74) rfl ?_
  refine zw_iald (j := n) (x := g_3.1 6 n) E 7 0 rfl rfl (vp_in_nI hn (by decide)) (zw_clamp hn (by decide)) rfl dX3_joins_74 (pc' := 75) rfl ?_
  refine zw_topi (x' := nI j) m_g_3 ?_
  refine zw_imul E dX3_joins_75 (pc' := 76) rfl ?_
  refine zw_topi (x' := nI (3 * j)) (pk_mul 3 j) ?_
  refine zw_iload (x := 2) E 0 dX3_joins_76 rfl (pc' := 78) rfl ?_
  refine zw_iadd E dX3_joins_78 (pc' := 79) rfl ?_
  refine zw_topi (x' := nI (3 * j + 2)) (nI_add (3 * j) 2) ?_
  refine zw_aload_n (i := 0) (x := am 0) E 3 dX3_joins_79 rfl rfl (pc' := 80) rfl ?_
  refine zw_get (v := .ref (am 16)) E 0 17 iX3_joins_X3 fX3_joins_56 rfl rfl (by decide) rfl rfl dX3_joins_80 (pc' := 83) rfl ?_
  refine zw_iconst (v := 3) E dX3_joins_83 (by decide) (pc' := 84) rfl ?_
  refine zw_iload_n (i := 2) (x := nI i) E 2 dX3_joins_84 rfl rfl (pc' := 85) rfl ?_
  refine zw_imul E dX3_joins_85 (pc' := 86) rfl ?_
  refine zw_topi (x' := nI (3 * i)) (pk_mul 3 i) ?_
  refine zw_iload (x := 2) E 0 dX3_joins_86 rfl (pc' := 88) rfl ?_
  refine zw_iadd E dX3_joins_88 (pc' := 89) rfl ?_
  refine zw_topi (x' := nI (3 * i + 2)) (nI_add (3 * i) 2) ?_
  refine zw_iald (j := 3 * i + 2) (x := g_3.1 15 (3 * i + 2)) E 16 0 rfl rfl (vp_in_nI (show 3 * i + 2 < 180 by omega) (by decide)) (zw_clamp (show 3 * i + 2 < 180 by omega) (by decide)) rfl dX3_joins_89 (pc' := 90) rfl ?_
  refine zw_aload_n (i := 0) (x := am 0) E 3 dX3_joins_90 rfl rfl (pc' := 91) rfl ?_
  refine zw_get (v := .ref (am 16)) E 0 17 iX3_joins_X3 fX3_joins_56 rfl rfl (by decide) rfl rfl dX3_joins_91 (pc' := 94) rfl ?_
  refine zw_iconst (v := 3) E dX3_joins_94 (by decide) (pc' := 95) rfl ?_
  refine zw_iload_n (i := 3) (x := nI i2) E 1 dX3_joins_95 rfl rfl (pc' := 96) rfl ?_
  refine zw_imul E dX3_joins_96 (pc' := 97) rfl ?_
  refine zw_topi (x' := nI (3 * i2)) (pk_mul 3 i2) ?_
  refine zw_iload (x := 2) E 0 dX3_joins_97 rfl (pc' := 99) rfl ?_
  refine zw_iadd E dX3_joins_99 (pc' := 100) rfl ?_
  refine zw_topi (x' := nI (3 * i2 + 2)) (nI_add (3 * i2) 2) ?_
  refine zw_iald (j := 3 * i2 + 2) (x := g_3.1 15 (3 * i2 + 2)) E 16 0 rfl rfl (vp_in_nI (show 3 * i2 + 2 < 180 by omega) (by decide)) (zw_clamp (show 3 * i2 + 2 < 180 by omega) (by decide)) rfl dX3_joins_100 (pc' := 101) rfl ?_
  refine zw_iadd E dX3_joins_101 (pc' := 102) rfl ?_
  refine zw_iast (j := 3 * j + 2) (ws' := (md_W K am (md_row g_3 15 (3 * j + 2) ((g_3.1 15 (3 * i + 2)) + (g_3.1 15 (3 * i2 + 2)))))) E 16 0 rfl rfl (vp_in_nI (show 3 * j + 2 < 180 by omega) (by decide)) (zw_clamp (show 3 * j + 2 < 180 by omega) (by decide)) rfl dX3_joins_102 (pc' := 103) rfl ?_
  refine zw_gen_md_g (md_row g_3 15 (3 * j + 2) ((g_3.1 15 (3 * i + 2)) + (g_3.1 15 (3 * i2 + 2)))) (fun g_4 hg_4 => ?_)
  have m_g_4 : g_4.1 6 n = nI j := by rw [← hg_4]; exact m_g_3
  refine zw_iinc (x := 2) (v := 3) (lv' := [(4, .int 3), (3, .int (nI i2)), (2, .int (nI i)), (0, .ref (am 0)), (1, .int (nI n))]) E 0 dX3_joins_103 rfl (by decide) (by decide) rfl (pc' := 106) rfl ?_
  refine zw_goto (tgt := 58) E dX3_joins_106 (by decide) ?_
  refine zw_iload (x := 3) E 0 dX3_joins_58 rfl (pc' := 60) rfl ?_
  refine zw_iconst (v := 3) E dX3_joins_60 (by decide) (pc' := 61) rfl ?_
  refine zw_icmp_ge (tgt := 109) E dX3_joins_61 (by decide) (pc' := 64) rfl (fun _ => ?_) (fun c9 => absurd (by decide) c9)
  refine zw_aload_n (i := 0) (x := am 0) E 3 dX3_joins_109 rfl rfl (pc' := 110) rfl ?_
  refine zw_get (v := .ref (am 12)) E 0 13 iX3_joins_X3 fX3_joins_43 rfl rfl (by decide) rfl rfl dX3_joins_110 (pc' := 113) rfl ?_
  refine zw_iload_n (i := 2) (x := nI i) E 2 dX3_joins_113 rfl rfl (pc' := 114) rfl ?_
  refine zw_iconst (v := 0) E dX3_joins_114 (by decide) (pc' := 115) rfl ?_
  refine zw_zast (j := i) (ws' := (md_W K am (md_row g_4 11 i 0))) E 12 1 rfl rfl (vp_in_nI hi (by decide)) (zw_clamp hi (by decide)) rfl dX3_joins_115 (pc' := 116) rfl ?_
  refine zw_gen_md_g (md_row g_4 11 i 0) (fun g_5 hg_5 => ?_)
  have m_g_5 : g_5.1 6 n = nI j := by rw [← hg_5]; exact m_g_4
  refine zw_aload_n (i := 0) (x := am 0) E 3 dX3_joins_116 rfl rfl (pc' := 117) rfl ?_
  refine zw_get (v := .ref (am 12)) E 0 13 iX3_joins_X3 fX3_joins_43 rfl rfl (by decide) rfl rfl dX3_joins_117 (pc' := 120) rfl ?_
  refine zw_iload_n (i := 3) (x := nI i2) E 1 dX3_joins_120 rfl rfl (pc' := 121) rfl ?_
  refine zw_iconst (v := 0) E dX3_joins_121 (by decide) (pc' := 122) rfl ?_
  refine zw_zast (j := i2) (ws' := (md_W K am (md_row g_5 11 i2 0))) E 12 1 rfl rfl (vp_in_nI hi2 (by decide)) (zw_clamp hi2 (by decide)) rfl dX3_joins_122 (pc' := 123) rfl ?_
  refine zw_gen_md_g (md_row g_5 11 i2 0) (fun g_6 hg_6 => ?_)
  have m_g_6 : g_6.1 6 n = nI j := by rw [← hg_6]; exact m_g_5
  exact zw_vret E hr hlk dX3_joins_123 (by unfold md_join; rw [show v_m g i i2 j = g_1 from hg_1, show v_c g_1 i i2 j 0 = g_2 from hg_2, show v_c g_2 i i2 j 1 = g_3 from hg_3, show v_c g_3 i i2 j 2 = g_4 from hg_4, hg_5, hg_6])
