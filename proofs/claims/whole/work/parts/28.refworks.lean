/-! the reference: works -/
def md_wipe (g : Md) (k : Nat) : Md := ((fun r => if r = 11 then (fun f => if f < k then 0 else g.1 11 f) else g.1 r), g.2)
theorem md_wipe_0 (g : Md) : md_wipe g 0 = g := by
  refine Prod.ext (funext fun r => ?_) rfl
  show (if r = 11 then (fun f => if f < 0 then 0 else g.1 11 f) else g.1 r) = g.1 r
  by_cases h : r = 11
  · subst h
    rw [if_pos rfl]
    funext f
    rw [if_neg (Nat.not_lt_zero f)]
  · rw [if_neg h]
theorem md_wipe_succ (g : Md) (k : Nat) : md_row (md_wipe g k) 11 k 0 = md_wipe g (k + 1) := by
  refine Prod.ext (funext fun r => ?_) rfl
  show (if r = 11 then upd ((md_wipe g k).1 11) k 0 else (md_wipe g k).1 r) = (if r = 11 then (fun f => if f < k + 1 then 0 else g.1 11 f) else g.1 r)
  by_cases h : r = 11
  · subst h
    rw [if_pos rfl, if_pos rfl]
    funext f
    show (if f = k then 0 else (if f < k then 0 else g.1 11 f)) = _
    by_cases h1 : f = k
    · subst h1
      rw [if_pos rfl, if_pos (Nat.lt_succ_self f)]
    · rw [if_neg h1]
      by_cases h2 : f < k
      · rw [if_pos h2, if_pos (by omega)]
      · rw [if_neg h2, if_neg (by omega)]
  · rw [if_neg h, if_neg h]
    show (if r = 11 then _ else _) = _
    rw [if_neg h]
/-- the entries from x on, so many are left, in the year yr; none: the loop fell through -/
def wke (kn : Nat) (ti yr : Int32) : Nat → Nat → Md → Option Int32 × Md
  | 0, _, g => (none, g)
  | r + 1, x, g =>
    if g.1 0 x = 0 then wke kn ti yr r (x + 1) g else
    if g.1 1 x = yr then
      if nI x = ti then (some 1, g) else
      if m_fits g kn x = 0 then (some 0, g) else wke kn ti yr r (x + 1) (g_does g kn x)
    else wke kn ti yr r (x + 1) g
def wkn (o : Option Int32 × Md) (f : Md → Int32 × Md) : Int32 × Md := match o.1 with
  | some v => (v, o.2)
  | none => f o.2
/-- the years from a on, so many are left -/
def wky (kn : Nat) (ti : Int32) : Nat → Nat → Md → Int32 × Md
  | 0, _, g => (1, g)
  | r + 1, a, g => wkn (wke kn ti (nI a) kn 0 g) (wky kn ti r (a + 1))
def g_works (g : Md) (kn yn : Nat) (ti : Int32) : Int32 × Md := wky kn ti (yn - 7) 8 (md_set (md_wipe g 60) 0)
/-- what the acts' states must keep, so that no act runs out of its rows -/
def jok (kn : Nat) (J : Nat → Nat → Md → Prop) : Prop :=
  (∀ a x g, J a x g → g.2.2.1 1 ≤ 60) ∧ (∀ a x g, J a x g → x < kn → (g.1 0 x = 0 ∨ ¬ g.1 1 x = nI a) → J a (x + 1) g)
  ∧ (∀ a x g, 8 ≤ a → a ≤ 200 → J a x g → x < kn → ¬ g.1 0 x = 0 → g.1 1 x = nI a → ¬ m_fits g kn x = 0 → do_ok g kn x ∧ J a (x + 1) (g_does g kn x))
  ∧ (∀ a g, J a kn g → J (a + 1) 0 g)
def wk_ok (g : Md) (kn : Nat) : Prop := ∃ J, jok kn J ∧ J 8 0 (md_set (md_wipe g 60) 0)
theorem wke_01 (kn : Nat) (ti yr : Int32) : ∀ (r x : Nat) (g : Md) (v : Int32), (wke kn ti yr r x g).1 = some v → v = 0 ∨ v = 1
  | 0, _, g, v, h => by cases h
  | r + 1, x, g, v, h => by
    rw [wke] at h
    split at h
    · exact wke_01 kn ti yr r (x + 1) g v h
    · split at h
      · split at h
        · exact Or.inr (Option.some.inj h).symm
        · split at h
          · exact Or.inl (Option.some.inj h).symm
          · exact wke_01 kn ti yr r (x + 1) _ v h
      · exact wke_01 kn ti yr r (x + 1) g v h
theorem wky_01 (kn : Nat) (ti : Int32) : ∀ (r a : Nat) (g : Md), (wky kn ti r a g).1 = 0 ∨ (wky kn ti r a g).1 = 1
  | 0, _, g => Or.inr rfl
  | r + 1, a, g => by
    rw [wky]
    unfold wkn
    split
    · next v h => exact wke_01 kn ti _ kn 0 g v h
    · exact wky_01 kn ti r (a + 1) _
/-- what the acts keep: the numbers, and the rows of the entries -/
def kept (g g2 : Md) : Prop := g2.2.2.1 = g.2.2.1 ∧ ∀ r, r ≤ 10 → g2.1 r = g.1 r
theorem kept.rf (g : Md) : kept g g := ⟨rfl, fun _ _ => rfl⟩
theorem kept.tr {g g2 g3 : Md} (h : kept g g2) (h2 : kept g2 g3) : kept g g3 := ⟨h2.1.trans h.1, fun r hr => (h2.2 r hr).trans (h.2 r hr)⟩
theorem kept_row (g : Md) (r i : Nat) (x : Int32) (h : 10 < r) : kept g (md_row g r i x) := ⟨rfl, fun r2 hr => if_neg (by omega)⟩
theorem kept_rowL (g : Md) (r i : Nat) (x : Int64) : kept g (md_rowL g r i x) := ⟨rfl, fun _ _ => rfl⟩
theorem kept_set (g : Md) (v : Int32) : kept g (md_set g v) := ⟨rfl, fun _ _ => rfl⟩
theorem kept_wipe (g : Md) (k : Nat) : kept g (md_wipe g k) := ⟨rfl, fun r2 hr => if_neg (by omega)⟩
theorem kept_c3 (g : Md) (j : Nat) : kept g (md_c3 g j) := ((kept_row _ _ _ _ (by decide)).tr (kept_row _ _ _ _ (by decide))).tr (kept_row _ _ _ _ (by decide))
theorem kept_come (g : Md) (j : Nat) (a k o x : Int32) : kept g (md_come g j a k o x) := (((((kept_row _ _ _ _ (by decide)).tr (kept_row _ _ _ _ (by decide))).tr (kept_row _ _ _ _ (by decide))).tr (kept_row _ _ _ _ (by decide))).tr (kept_row _ _ _ _ (by decide))).tr (kept_c3 _ _)
theorem kept_qc (g : Md) (n i j c : Nat) : kept g (q_c g n i j c) := (kept_row _ _ _ _ (by decide)).tr (kept_row _ _ _ _ (by decide))
theorem kept_part (g : Md) (n i j : Nat) : kept g (md_part g n i j) := (((((kept_come _ _ _ _ _ _).tr (kept_come _ _ _ _ _ _)).tr (kept_qc _ _ _ _ _)).tr (kept_qc _ _ _ _ _)).tr (kept_qc _ _ _ _ _)).tr (kept_row _ _ _ _ (by decide))
theorem kept_vc (g : Md) (i i2 j c : Nat) : kept g (v_c g i i2 j c) := kept_row _ _ _ _ (by decide)
theorem kept_join (g : Md) (i i2 j : Nat) : kept g (md_join g i i2 j) := (((((kept_come _ _ _ _ _ _).tr (kept_vc _ _ _ _ _)).tr (kept_vc _ _ _ _ _)).tr (kept_vc _ _ _ _ _)).tr (kept_row _ _ _ _ (by decide))).tr (kept_row _ _ _ _ (by decide))
theorem kept_mit : ∀ (n : Nat) (g : Md), kept g (mit g n)
  | 0, g => kept.rf g
  | n + 1, g => ((kept_rowL _ _ _ _).tr (kept_rowL _ _ _ _)).tr (kept_mit n (mstep g))
theorem kept_mcs (g : Md) (kn en f cn : Nat) (x : Int32) : kept g (mcs g kn en f cn x) := kept_row _ _ _ _ (by decide)
theorem kept_mch1 (g : Md) (kn en f : Nat) : kept g (mch1 g kn en f) := by
  unfold mch1
  split
  · exact kept.rf g
  · exact ((kept_mcs _ _ _ _ _ _).tr (kept_mcs _ _ _ _ _ _)).tr (kept_mcs _ _ _ _ _ _)
theorem kept_mch (g : Md) (kn en : Nat) : ∀ n, kept g (mch g kn en n)
  | 0 => kept.rf g
  | n + 1 => (kept_mch g kn en n).tr (kept_mch1 _ _ _ _)
theorem kept_msB (g : Md) (en : Nat) (t : Int64) (k : Nat) : kept g (msB g en t k) := ⟨rfl, fun _ _ => rfl⟩
theorem kept_settle (g : Md) (kn en : Nat) (t : Int64) : kept g (g_settle g kn en t) := (((kept_msB _ _ _ _).tr (kept_mit _ _)).tr (kept_mch _ _ _ _)).tr (kept_set _ _)
theorem kept_does (g : Md) (kn en : Nat) : kept g (g_does g kn en) := by
  unfold g_does
  split
  · exact kept_come _ _ _ _ _ _
  · split
    · exact kept_part _ _ _ _
    · split
      · exact kept_join _ _ _ _
      · split
        · exact kept_row _ _ _ _ (by decide)
        · split
          · exact kept_settle _ _ _ _
          · exact (kept_row _ _ _ _ (by decide)).tr (kept_c3 _ _)
theorem kept_wke (kn : Nat) (ti yr : Int32) : ∀ (r x : Nat) (g : Md), kept g (wke kn ti yr r x g).2
  | 0, _, g => kept.rf g
  | r + 1, x, g => by
    rw [wke]
    split
    · exact kept_wke kn ti yr r (x + 1) g
    · split
      · split
        · exact kept.rf g
        · split
          · exact kept.rf g
          · exact (kept_does g kn x).tr (kept_wke kn ti yr r (x + 1) _)
      · exact kept_wke kn ti yr r (x + 1) g
theorem kept_wky (kn : Nat) (ti : Int32) : ∀ (r a : Nat) (g : Md), kept g (wky kn ti r a g).2
  | 0, _, g => kept.rf g
  | r + 1, a, g => by
    rw [wky]
    unfold wkn
    split
    · exact kept_wke kn ti _ kn 0 g
    · exact (kept_wke kn ti _ kn 0 g).tr (kept_wky kn ti r (a + 1) _)
theorem kept_works (g : Md) (kn yn : Nat) (ti : Int32) : kept g (g_works g kn yn ti).2 := ((kept_wipe g 60).tr (kept_set _ _)).tr (kept_wky _ _ _ _ _)
theorem fX3_works_110 : Cond.fieldLink RX3 110 "TitheMapModel" "isSettled" "Z" ∈ wsX3_works := by decide +kernel
theorem fX3_works_13 : Cond.fieldLink RX3 13 "TitheMapModel" "year" "[I" ∈ wsX3_works := by decide +kernel
theorem fX3_works_43 : Cond.fieldLink RX3 43 "TitheMapModel" "isThere" "[Z" ∈ wsX3_works := by decide +kernel
theorem fX3_works_7 : Cond.fieldLink RX3 7 "TitheMapModel" "sort" "[I" ∈ wsX3_works := by decide +kernel
theorem iX3_works_X3 : ∀ w ∈ wsX30, w ∈ wsX3_works := by decide +kernel
set_option maxHeartbeats 4000000 in
set_option maxRecDepth 100000 in
theorem lX3_wke {l : Launch} {D : va_G} {K : Nat → ClassId} {p : Program} {e : Env} {s : State} {m : MethodId} {below : List Frame} {meth : Method} {c : Code} {A : Nat → Prop} {args : Array Value} (E : zw_E p s m args c cX3_works 6 RX3 wsX3_works D (zT K) A) (hr : meth.sig.returnType = some .boolean) (hlk : meth.locks = false) (am : Nat → Nat) (kn : Nat) (hkn : kn ≤ 80) (yn : Nat) (ti : Int32) (a : Nat) (ha8 : 8 ≤ a) (ha : a ≤ 200) (J : Nat → Nat → Md → Prop) (hJ : jok kn J) (V : Int32) (G : Md) : ∀ (r x : Nat) (g : Md), r + x = kn → J a x g → (∀ v g2, wke kn ti (nI a) r x g = (some v, g2) → v = V ∧ g2 = G) → (∀ g2, wke kn ti (nI a) r x g = (none, g2) → J a kn g2 → zw_W p l e rmX3_works s m args below meth c 6 D A 0 0 (zw_Qi D A below args s V (md_W K am G)) 106 [(0, .ref (am 0)), (1, .int (nI kn)), (2, .int (nI yn)), (3, .int ti), (4, .int (nI a))] [] (md_W K am g2)) → zw_W p l e rmX3_works s m args below meth c 6 D A 0 0 (zw_Qi D A below args s V (md_W K am G)) 42 [(0, .ref (am 0)), (1, .int (nI kn)), (2, .int (nI yn)), (3, .int ti), (4, .int (nI a)), (5, .int (nI x))] [] (md_W K am g) := by
  have hya : 1 ≤ nI a ∧ nI a ≤ 200 := ⟨nI_le (a := 1) (by omega) (by omega), nI_le (b := 200) ha (by omega)⟩
  intro r
  induction r with
  | zero =>
    intro x g hri hj hs hk
    have hx0 : kn ≤ x := by omega
    refine zw_iload (x := nI x) E 5 dX3_works_42 rfl (pc' := 44) rfl ?_
    refine zw_iload_n (i := 1) (x := nI kn) E 1 dX3_works_44 rfl rfl (pc' := 45) rfl ?_
    refine zw_icmp_ge (tgt := 106) E dX3_works_45 (by decide) (pc' := 48) rfl (fun c_1 => ?_) (fun c_1 => ?_)
    · skip
      have e3 : kn = x := by omega
      subst e3
      refine zw_sub [0, 1, 2, 3, 4] (lv' := [(0, .ref (am 0)), (1, .int (nI kn)), (2, .int (nI yn)), (3, .int ti), (4, .int (nI a))]) rfl ?_
      exact hk g rfl hj
    · exact absurd (nI_le hx0 (by omega)) c_1
  | succ r ih =>
    intro x g hri hj hs hk
    have hlt : x < kn := by omega
    have hx : x < 80 := by omega
    refine zw_iload (x := nI x) E 5 dX3_works_42 rfl (pc' := 44) rfl ?_
    refine zw_iload_n (i := 1) (x := nI kn) E 1 dX3_works_44 rfl rfl (pc' := 45) rfl ?_
    refine zw_icmp_ge (tgt := 106) E dX3_works_45 (by decide) (pc' := 48) rfl (fun c_1 => ?_) (fun c_1 => ?_)
    · exact absurd c_1 (nI_ge hlt (by omega))
    · skip
      refine zw_aload_n (i := 0) (x := am 0) E 0 dX3_works_48 rfl rfl (pc' := 49) rfl ?_
      refine zw_get (v := .ref (am 1)) E 0 2 iX3_works_X3 fX3_works_7 rfl rfl (by decide) rfl rfl dX3_works_49 (pc' := 52) rfl ?_
      refine zw_iload (x := nI x) E 5 dX3_works_52 rfl (pc' := 54) rfl ?_
      refine zw_iald (j := x) (x := g.1 0 x) E 1 0 rfl rfl (vp_in_nI hx (by decide)) (zw_clamp hx (by decide)) rfl dX3_works_54 (pc' := 55) rfl ?_
      refine zw_if_eq (tgt := 100) E dX3_works_55 (by decide) (pc' := 58) rfl (fun c_2 => ?_) (fun c_2 => ?_)
      · skip
        refine zw_iinc (x := nI x) (v := nI (x + 1)) (lv' := [(5, .int (nI (x + 1))), (0, .ref (am 0)), (1, .int (nI kn)), (2, .int (nI yn)), (3, .int ti), (4, .int (nI a))]) E 5 dX3_works_100 rfl (zw_inc1 x) (by decide) rfl (pc' := 103) rfl ?_
        refine zw_goto (tgt := 42) E dX3_works_103 (by decide) ?_
        have e1 : wke kn ti (nI a) (r + 1) x g = wke kn ti (nI a) r (x + 1) g := by rw [wke, if_pos c_2]
        rw [e1] at hs hk
        refine zw_sub [1, 2, 3, 4, 5, 0] (lv' := [(0, .ref (am 0)), (1, .int (nI kn)), (2, .int (nI yn)), (3, .int ti), (4, .int (nI a)), (5, .int (nI (x + 1)))]) rfl ?_
        exact ih (x + 1) g (by omega) (hJ.2.1 a x g hj hlt (Or.inl c_2)) hs hk
      · skip
        refine zw_aload_n (i := 0) (x := am 0) E 0 dX3_works_58 rfl rfl (pc' := 59) rfl ?_
        refine zw_get (v := .ref (am 2)) E 0 3 iX3_works_X3 fX3_works_13 rfl rfl (by decide) rfl rfl dX3_works_59 (pc' := 62) rfl ?_
        refine zw_iload (x := nI x) E 5 dX3_works_62 rfl (pc' := 64) rfl ?_
        refine zw_iald (j := x) (x := g.1 1 x) E 2 0 rfl rfl (vp_in_nI hx (by decide)) (zw_clamp hx (by decide)) rfl dX3_works_64 (pc' := 65) rfl ?_
        refine zw_iload (x := nI a) E 4 dX3_works_65 rfl (pc' := 67) rfl ?_
        refine zw_icmp_eq (tgt := 73) E dX3_works_67 (by decide) (pc' := 70) rfl (fun c_3 => ?_) (fun c_3 => ?_)
        · skip
          refine zw_iload (x := nI x) E 5 dX3_works_73 rfl (pc' := 75) rfl ?_
          refine zw_iload_n (i := 3) (x := ti) E 3 dX3_works_75 rfl rfl (pc' := 76) rfl ?_
          refine zw_icmp_ne (tgt := 81) E dX3_works_76 (by decide) (pc' := 79) rfl (fun c_4 => ?_) (fun c_4 => ?_)
          · skip
            refine zw_aload_n (i := 0) (x := am 0) E 0 dX3_works_81 rfl rfl (pc' := 82) rfl ?_
            refine zw_iload_n (i := 1) (x := nI kn) E 1 dX3_works_82 rfl rfl (pc' := 83) rfl ?_
            refine zw_iload (x := nI x) E 5 dX3_works_83 rfl (pc' := 85) rfl ?_
            refine zw_callIw E (r := m_fits g kn x) (As := [.int (nI kn), .int (nI x)]) (rest := []) (ws' := (md_W K am g)) (qX3_fits l D K am g kn x hkn hx (hJ.1 a x g hj) (by rw [c_3]; exact hya)) (cwV 2 E.2.2.2.2.1 gX3_works_X3_fits rfl rfl rfl (by decide +kernel) ⟨Nat.le_of_ble_eq_true rfl, Nat.le_of_ble_eq_true rfl⟩) 0 rfl rfl rfl rfl rfl rfl (Nat.le_of_ble_eq_true rfl) ⟨Nat.zero_le _, Nat.zero_le _⟩ dX3_works_85 (pc' := 88) rfl ?_
            refine zw_if_ne (tgt := 93) E dX3_works_88 (by decide) (pc' := 91) rfl (fun c_5 => ?_) (fun c_5 => ?_)
            · skip
              refine zw_aload_n (i := 0) (x := am 0) E 0 dX3_works_93 rfl rfl (pc' := 94) rfl ?_
              refine zw_iload_n (i := 1) (x := nI kn) E 1 dX3_works_94 rfl rfl (pc' := 95) rfl ?_
              refine zw_iload (x := nI x) E 5 dX3_works_95 rfl (pc' := 97) rfl ?_
              refine zw_callVw E (As := [.int (nI kn), .int (nI x)]) (rest := []) (ws' := (md_W K am (g_does g kn x))) (qX3_does l D K am g kn x hkn hx (hJ.2.2.1 a x g ha8 ha hj hlt c_2 c_3 c_5).1) (cwV 2 E.2.2.2.2.1 gX3_works_X3_does rfl rfl rfl (by decide +kernel) ⟨Nat.le_of_ble_eq_true rfl, Nat.le_of_ble_eq_true rfl⟩) 0 rfl rfl rfl (md_ad _ _ _ _) rfl rfl (Nat.le_of_ble_eq_true rfl) ⟨Nat.zero_le _, Nat.zero_le _⟩ dX3_works_97 (pc' := 100) rfl ?_
              refine zw_iinc (x := nI x) (v := nI (x + 1)) (lv' := [(5, .int (nI (x + 1))), (0, .ref (am 0)), (1, .int (nI kn)), (2, .int (nI yn)), (3, .int ti), (4, .int (nI a))]) E 5 dX3_works_100 rfl (zw_inc1 x) (by decide) rfl (pc' := 103) rfl ?_
              refine zw_goto (tgt := 42) E dX3_works_103 (by decide) ?_
              have e1 : wke kn ti (nI a) (r + 1) x g = wke kn ti (nI a) r (x + 1) (g_does g kn x) := by rw [wke, if_neg c_2, if_pos c_3, if_neg c_4, if_neg c_5]
              rw [e1] at hs hk
              refine zw_sub [1, 2, 3, 4, 5, 0] (lv' := [(0, .ref (am 0)), (1, .int (nI kn)), (2, .int (nI yn)), (3, .int ti), (4, .int (nI a)), (5, .int (nI (x + 1)))]) rfl ?_
              exact ih (x + 1) (g_does g kn x) (by omega) (hJ.2.2.1 a x g ha8 ha hj hlt c_2 c_3 c_5).2 hs hk
            · skip
              refine zw_iconst (v := 0) E dX3_works_91 (by decide) (pc' := 92) rfl ?_
              exact zw_zret E hr hlk dX3_works_92 rfl (hs 0 g (by rw [wke, if_neg c_2, if_pos c_3, if_neg c_4, if_pos c_5])).1 (congrArg (md_W K am) (hs 0 g (by rw [wke, if_neg c_2, if_pos c_3, if_neg c_4, if_pos c_5])).2)
          · skip
            refine zw_iconst (v := 1) E dX3_works_79 (by decide) (pc' := 80) rfl ?_
            exact zw_zret E hr hlk dX3_works_80 rfl (hs 1 g (by rw [wke, if_neg c_2, if_pos c_3, if_pos c_4])).1 (congrArg (md_W K am) (hs 1 g (by rw [wke, if_neg c_2, if_pos c_3, if_pos c_4])).2)
        · skip
          refine zw_goto (tgt := 100) E dX3_works_70 (by decide) ?_
          refine zw_iinc (x := nI x) (v := nI (x + 1)) (lv' := [(5, .int (nI (x + 1))), (0, .ref (am 0)), (1, .int (nI kn)), (2, .int (nI yn)), (3, .int ti), (4, .int (nI a))]) E 5 dX3_works_100 rfl (zw_inc1 x) (by decide) rfl (pc' := 103) rfl ?_
          refine zw_goto (tgt := 42) E dX3_works_103 (by decide) ?_
          have e1 : wke kn ti (nI a) (r + 1) x g = wke kn ti (nI a) r (x + 1) g := by rw [wke, if_neg c_2, if_neg c_3]
          rw [e1] at hs hk
          refine zw_sub [1, 2, 3, 4, 5, 0] (lv' := [(0, .ref (am 0)), (1, .int (nI kn)), (2, .int (nI yn)), (3, .int ti), (4, .int (nI a)), (5, .int (nI (x + 1)))]) rfl ?_
          exact ih (x + 1) g (by omega) (hJ.2.1 a x g hj hlt (Or.inr c_3)) hs hk

set_option maxHeartbeats 4000000 in
set_option maxRecDepth 100000 in
theorem lX3_wky {l : Launch} {D : va_G} {K : Nat → ClassId} {p : Program} {e : Env} {s : State} {m : MethodId} {below : List Frame} {meth : Method} {c : Code} {A : Nat → Prop} {args : Array Value} (E : zw_E p s m args c cX3_works 6 RX3 wsX3_works D (zT K) A) (hr : meth.sig.returnType = some .boolean) (hlk : meth.locks = false) (am : Nat → Nat) (kn : Nat) (hkn : kn ≤ 80) (yn : Nat) (hyn : yn ≤ 200) (ti : Int32) (J : Nat → Nat → Md → Prop) (hJ : jok kn J) : ∀ (r a : Nat) (g : Md), 8 ≤ a → yn + 1 ≤ a + r → (r = 0 ∧ a ≤ 201 ∨ a + r = yn + 1) → J a 0 g → zw_W p l e rmX3_works s m args below meth c 6 D A 0 0 (zw_Qi D A below args s (wky kn ti r a g).1 (md_W K am (wky kn ti r a g).2)) 33 [(0, .ref (am 0)), (1, .int (nI kn)), (2, .int (nI yn)), (3, .int ti), (4, .int (nI a))] [] (md_W K am g) := by
  intro r
  induction r with
  | zero =>
    intro a g ha8 hy1 hy2 hj
    have hay : yn < a ∧ a ≤ 1000 := by omega
    refine zw_iload (x := nI a) E 4 dX3_works_33 rfl (pc' := 35) rfl ?_
    refine zw_iload_n (i := 2) (x := nI yn) E 2 dX3_works_35 rfl rfl (pc' := 36) rfl ?_
    refine zw_icmp_gt (tgt := 112) E dX3_works_36 (by decide) (pc' := 39) rfl (fun c_1 => ?_) (fun c_1 => ?_)
    · skip
      refine zw_iconst (v := 1) E dX3_works_112 (by decide) (pc' := 113) rfl ?_
      exact zw_zret E hr hlk dX3_works_113 rfl rfl rfl
    · exact absurd (nI_lt hay.1 (by omega)) c_1
  | succ r ih =>
    intro a g ha8 hy1 hy2 hj
    have hay : a ≤ yn := by omega
    refine zw_iload (x := nI a) E 4 dX3_works_33 rfl (pc' := 35) rfl ?_
    refine zw_iload_n (i := 2) (x := nI yn) E 2 dX3_works_35 rfl rfl (pc' := 36) rfl ?_
    refine zw_icmp_gt (tgt := 112) E dX3_works_36 (by decide) (pc' := 39) rfl (fun c_1 => ?_) (fun c_1 => ?_)
    · exact absurd c_1 (Int32.not_lt.mpr (nI_le hay (by omega)))
    · skip
      refine zw_iconst (v := 0) E dX3_works_39 (by decide) (pc' := 40) rfl ?_
      refine zw_istore (lv' := [(5, .int 0), (0, .ref (am 0)), (1, .int (nI kn)), (2, .int (nI yn)), (3, .int ti), (4, .int (nI a))]) E dX3_works_40 (by decide) rfl (pc' := 42) rfl ?_
      refine zw_sub [1, 2, 3, 4, 5, 0] (lv' := [(0, .ref (am 0)), (1, .int (nI kn)), (2, .int (nI yn)), (3, .int ti), (4, .int (nI a)), (5, .int 0)]) rfl ?_
      refine lX3_wke E hr hlk am kn hkn yn ti a ha8 (by omega) J hJ _ _ kn 0 g (by omega) hj (fun v g2 hw => ?_) (fun g2 hw hj2 => ?_)
      · have e1 : wky kn ti (r + 1) a g = (v, g2) := by rw [wky, hw]; rfl
        rw [e1]
        exact ⟨rfl, rfl⟩
      · have e1 : wky kn ti (r + 1) a g = wky kn ti r (a + 1) g2 := by rw [wky, hw]; rfl
        rw [e1]
        refine zw_iinc (x := nI a) (v := nI (a + 1)) (lv' := [(4, .int (nI (a + 1))), (0, .ref (am 0)), (1, .int (nI kn)), (2, .int (nI yn)), (3, .int ti)]) E 4 dX3_works_106 rfl (zw_inc1 a) (by decide) rfl (pc' := 109) rfl ?_
        refine zw_goto (tgt := 33) E dX3_works_109 (by decide) ?_
        refine zw_sub [1, 2, 3, 4, 0] (lv' := [(0, .ref (am 0)), (1, .int (nI kn)), (2, .int (nI yn)), (3, .int ti), (4, .int (nI (a + 1)))]) rfl ?_
        exact ih (a + 1) g2 (by omega) (by omega) (by omega) (hJ.2.2.2 a g2 hj2)

set_option maxHeartbeats 4000000 in
set_option maxRecDepth 100000 in
theorem lX3_works {l : Launch} {D : va_G} {K : Nat → ClassId} {p : Program} {e : Env} {s : State} {m : MethodId} {below : List Frame} {meth : Method} {c : Code} {A : Nat → Prop} {args : Array Value} (E : zw_E p s m args c cX3_works 6 RX3 wsX3_works D (zT K) A) (hr : meth.sig.returnType = (some .boolean)) (hlk : meth.locks = false) (am : Nat → Nat) (g : Md) (kn : Nat) (hkn : kn ≤ 80) (yn : Nat) (hyn : yn ≤ 200) (ti : Int32) (J : Nat → Nat → Md → Prop) (hJ : jok kn J) (h0 : J 8 0 (md_set (md_wipe g 60) 0)) : ∀ (fu k : Nat), k ≤ 60 → 60 + 1 ≤ k + fu → zw_W p l e rmX3_works s m args below meth c 6 D A 0 0 (zw_Qi D A below args s (g_works g kn yn ti).1 (md_W K am (g_works g kn yn ti).2)) 3 [(0, .ref (am 0)), (1, .int (nI kn)), (2, .int (nI yn)), (3, .int ti), (4, .int (nI k))] [] (md_W K am (md_wipe g k)) := by
  intro fu
  induction fu with
  | zero => intro k h1 h2; exact absurd h2 (by omega)
  | succ fu ih =>
    intro k hle hfu
    refine zw_iload (x := nI k) E 4 dX3_works_3 rfl (pc' := 5) rfl ?_
    refine zw_bipush (v := 60) E dX3_works_5 (by decide) (pc' := 7) rfl ?_
    refine zw_icmp_ge (tgt := 24) E dX3_works_7 (by decide) (pc' := 10) rfl (fun c_1 => ?_) (fun c_1 => ?_)
    · skip
      have hk60 : k = 60 := zw_ge60 c_1 hle
      refine zw_aload_n (i := 0) (x := am 0) E 0 dX3_works_24 rfl rfl (pc' := 25) rfl ?_
      refine zw_iconst (v := 0) E dX3_works_25 (by decide) (pc' := 26) rfl ?_
      refine zw_putf (v := .int 0) (ty := .boolean) (ws' := (md_W K am (md_set (md_wipe g k) 0))) E 0 19 iX3_works_X3 tyX3_ok nmX3 fX3_works_110 rfl rfl (by decide) rfl rfl rfl rfl rfl (Nat.le_of_ble_eq_true rfl) rfl dX3_works_26 (pc' := 29) rfl ?_
      refine zw_bipush (v := 8) E dX3_works_29 (by decide) (pc' := 31) rfl ?_
      refine zw_istore (lv' := [(4, .int 8), (0, .ref (am 0)), (1, .int (nI kn)), (2, .int (nI yn)), (3, .int ti)]) E dX3_works_31 (by decide) rfl (pc' := 33) rfl ?_
      refine zw_sub [1, 2, 3, 4, 0] (lv' := [(0, .ref (am 0)), (1, .int (nI kn)), (2, .int (nI yn)), (3, .int ti), (4, .int 8)]) rfl ?_
      rw [hk60]
      exact lX3_wky E hr hlk am kn hkn yn hyn ti J hJ (yn - 7) 8 _ (by omega) (by omega) (by omega) h0
    · skip
      have hk : k < 60 := zw_lt60 c_1 hle
      refine zw_aload_n (i := 0) (x := am 0) E 0 dX3_works_10 rfl rfl (pc' := 11) rfl ?_
      refine zw_get (v := .ref (am 12)) E 0 13 iX3_works_X3 fX3_works_43 rfl rfl (by decide) rfl rfl dX3_works_11 (pc' := 14) rfl ?_
      refine zw_iload (x := nI k) E 4 dX3_works_14 rfl (pc' := 16) rfl ?_
      refine zw_iconst (v := 0) E dX3_works_16 (by decide) (pc' := 17) rfl ?_
      refine zw_zast (j := k) (ws' := (md_W K am (md_row (md_wipe g k) 11 k 0))) E 12 1 rfl rfl (vp_in_nI hk (by decide)) (zw_clamp hk (by decide)) rfl dX3_works_17 (pc' := 18) rfl ?_
      refine zw_iinc (x := nI k) (v := nI (k + 1)) (lv' := [(4, .int (nI (k + 1))), (0, .ref (am 0)), (1, .int (nI kn)), (2, .int (nI yn)), (3, .int ti)]) E 4 dX3_works_18 rfl (zw_inc1 k) (by decide) rfl (pc' := 21) rfl ?_
      refine zw_goto (tgt := 3) E dX3_works_21 (by decide) ?_
      refine zw_ws (ws' := md_W K am (md_wipe g (k + 1))) (congrArg (md_W K am) (md_wipe_succ g k)) ?_
      refine zw_sub [1, 2, 3, 4, 0] (lv' := [(0, .ref (am 0)), (1, .int (nI kn)), (2, .int (nI yn)), (3, .int ti), (4, .int (nI (k + 1)))]) rfl ?_
      exact ih (k + 1) (by omega) (by omega)

set_option maxHeartbeats 4000000 in
set_option maxRecDepth 100000 in
/-- works(k, y, till) -/
theorem qX3_works (l : Launch) (D : va_G) (K : Nat → ClassId) (am : Nat → Nat) (g : Md) (kn : Nat) (hkn : kn ≤ 80) (yn : Nat) (hyn : yn ≤ 200) (ti : Int32) (hw : wk_ok g kn) : zw_I l yX3_works wsX3_works rmX3_works D (zT K) [.ref (am 0), .int (nI kn), .int (nI yn), .int ti] (md_W K am g) ((g_works g kn yn ti).1) (md_W K am (g_works g kn yn ti).2) := by
  obtain ⟨J, hJ, h0⟩ := hw
  refine zw_ofI (cc := cX3_works) (nL := 6) (ret := (some .boolean)) (own := RX3) (lv := [(0, .ref (am 0)), (1, .int (nI kn)), (2, .int (nI yn)), (3, .int ti)]) (by decide) rfl (Nat.le_of_ble_eq_true rfl) rfl rfl ?_
  intro p e s m below meth c A E hr hlk
  refine zw_iconst (v := 0) E dX3_works_0 (by decide) (pc' := 1) rfl ?_
  refine zw_istore (lv' := [(4, .int 0), (0, .ref (am 0)), (1, .int (nI kn)), (2, .int (nI yn)), (3, .int ti)]) E dX3_works_1 (by decide) rfl (pc' := 3) rfl ?_
  refine zw_ws (ws' := md_W K am (md_wipe g 0)) (congrArg (md_W K am) (md_wipe_0 g).symm) ?_
  refine zw_sub [1, 2, 3, 4, 0] (lv' := [(0, .ref (am 0)), (1, .int (nI kn)), (2, .int (nI yn)), (3, .int ti), (4, .int 0)]) rfl ?_
  exact lX3_works E hr hlk am g kn hkn yn hyn ti J hJ h0 61 0 (by omega) (by omega)
