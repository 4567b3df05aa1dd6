/-! PURE: the acts in their order, as lists -/
def yrN (g : Md) (e : Nat) : Nat := (g.1 1 e).toNatClampNeg
def ltE (y : Nat → Nat) (a b : Nat) : Prop := y a < y b ∨ (y a = y b ∧ a < b)
theorem sorted_one {r : Nat → Nat → Prop} (ir : ∀ a, ¬ r a a) (as : ∀ a b, r a b → ¬ r b a) : ∀ (L1 L2 : List Nat), L1.Pairwise r → L2.Pairwise r → (∀ x, x ∈ L1 ↔ x ∈ L2) → L1 = L2
  | [], [], _, _, _ => rfl
  | [], b :: L2, _, _, h => absurd ((h b).mpr List.mem_cons_self) List.not_mem_nil
  | a :: L1, [], _, _, h => absurd ((h a).mp List.mem_cons_self) List.not_mem_nil
  | a :: L1, b :: L2, h1, h2, h => by
    obtain ⟨p1, p2⟩ := List.pairwise_cons.mp h1
    obtain ⟨q1, q2⟩ := List.pairwise_cons.mp h2
    have e : a = b := by
      rcases List.mem_cons.mp ((h a).mp List.mem_cons_self) with z | z
      · exact z
      · rcases List.mem_cons.mp ((h b).mpr List.mem_cons_self) with w | w
        · exact w.symm
        · exact absurd (q1 a z) (as _ _ (p1 b w))
    subst e
    rw [sorted_one ir as L1 L2 p2 q2 (fun x => ⟨fun hx => ?_, fun hx => ?_⟩)]
    · rcases List.mem_cons.mp ((h x).mp (List.mem_cons_of_mem _ hx)) with z | z
      · subst z
        exact absurd (p1 x hx) (ir x)
      · exact z
    · rcases List.mem_cons.mp ((h x).mpr (List.mem_cons_of_mem _ hx)) with z | z
      · subst z
        exact absurd (q1 x hx) (ir x)
      · exact z
theorem ltE_ir (y : Nat → Nat) (a : Nat) : ¬ ltE y a a := fun h => by rcases h with h | h <;> omega
theorem ltE_as (y : Nat → Nat) (a b : Nat) (h : ltE y a b) : ¬ ltE y b a := fun h2 => by
  rcases h with h | h <;> rcases h2 with h2 | h2 <;> omega
/-- acts, one behind the other, up to one that isn't done any more -/
def runT (kn : Nat) (ti : Int32) : List Nat → Md → Option Int32 × Md
  | [], g => (none, g)
  | x :: L, g => if nI x = ti then (some 1, g) else if m_fits g kn x = 0 then (some 0, g) else runT kn ti L (g_does g kn x)
def runCT (b : Bk) (kn : Nat) (ti : Int32) : List Nat → Ld → Option Int32 × Ld
  | [], d => (none, d)
  | x :: L, d => if nI x = ti then (some 1, d) else if r_act d b kn (nI x) = 0 then (some 0, d_act d b kn (nI x)) else runCT b kn ti L (d_act d b kn (nI x))
def finM (o : Option Int32 × Md) : Int32 × Md := match o.1 with
  | some v => (v, o.2)
  | none => (1, o.2)
def finC (o : Option Int32 × Ld) : Int32 × Ld := match o.1 with
  | some v => (v, o.2)
  | none => (1, o.2)
theorem runT_app (kn : Nat) (ti : Int32) : ∀ (L1 L2 : List Nat) (g : Md), runT kn ti (L1 ++ L2) g = match (runT kn ti L1 g).1 with
    | some v => (some v, (runT kn ti L1 g).2)
    | none => runT kn ti L2 (runT kn ti L1 g).2
  | [], L2, g => rfl
  | x :: L1, L2, g => by
    rw [List.cons_append, runT, runT]
    by_cases h1 : nI x = ti
    · rw [if_pos h1, if_pos h1]
    · rw [if_neg h1, if_neg h1]
      by_cases h2 : m_fits g kn x = 0
      · rw [if_pos h2, if_pos h2]
      · rw [if_neg h2, if_neg h2]
        exact runT_app kn ti L1 L2 _
def actB (g : Md) (a x : Nat) : Bool := decide (¬ g.1 0 x = 0 ∧ g.1 1 x = nI a)
def lst (g : Md) (a x r : Nat) : List Nat := (List.range' x r).filter (actB g a)
theorem wke_run {g0 : Md} (kn : Nat) (ti : Int32) (a : Nat) : ∀ (r x : Nat) (g : Md), kept g0 g → wke kn ti (nI a) r x g = runT kn ti (lst g0 a x r) g
  | 0, _, g, _ => rfl
  | r + 1, x, g, hk => by
    have e0 : g.1 0 x = g0.1 0 x := congrFun (hk.2 0 (by decide)) x
    have e1 : g.1 1 x = g0.1 1 x := congrFun (hk.2 1 (by decide)) x
    have el : lst g0 a x (r + 1) = if actB g0 a x then x :: lst g0 a (x + 1) r else lst g0 a (x + 1) r := by
      unfold lst
      rw [List.range'_succ, List.filter_cons]
    rw [wke, el, e0, e1]
    by_cases h0 : g0.1 0 x = 0
    · rw [if_pos h0, if_neg (show ¬ actB g0 a x = true by unfold actB; simp [h0])]
      exact wke_run kn ti a r (x + 1) g hk
    · rw [if_neg h0]
      by_cases h1 : g0.1 1 x = nI a
      · rw [if_pos h1, if_pos (show actB g0 a x = true by unfold actB; simp [h0, h1]), runT]
        by_cases h2 : nI x = ti
        · rw [if_pos h2, if_pos h2]
        · rw [if_neg h2, if_neg h2]
          by_cases h3 : m_fits g kn x = 0
          · rw [if_pos h3, if_pos h3]
          · rw [if_neg h3, if_neg h3]
            exact wke_run kn ti a r (x + 1) _ (hk.tr (kept_does g kn x))
      · rw [if_neg h1, if_neg (show ¬ actB g0 a x = true by unfold actB; simp [h1])]
        exact wke_run kn ti a r (x + 1) g hk
theorem kept_runT (kn : Nat) (ti : Int32) : ∀ (L : List Nat) (g : Md), kept g (runT kn ti L g).2
  | [], g => kept.rf g
  | x :: L, g => by
    rw [runT]
    split
    · exact kept.rf g
    · split
      · exact kept.rf g
      · exact (kept_does g kn x).tr (kept_runT kn ti L _)
def sqM (g : Md) (kn a r : Nat) : List Nat := (List.range' a r).flatMap (fun y => lst g y 0 kn)
theorem wky_run {g0 : Md} (kn : Nat) (ti : Int32) : ∀ (r a : Nat) (g : Md), kept g0 g → wky kn ti r a g = finM (runT kn ti (sqM g0 kn a r) g)
  | 0, _, g, _ => rfl
  | r + 1, a, g, hk => by
    have el : sqM g0 kn a (r + 1) = lst g0 a 0 kn ++ sqM g0 kn (a + 1) r := by
      unfold sqM
      rw [List.range'_succ, List.flatMap_cons]
    have hk2 : kept g0 (runT kn ti (lst g0 a 0 kn) g).2 := hk.tr (kept_runT kn ti _ g)
    rw [wky, el, wke_run kn ti a kn 0 g hk, runT_app]
    unfold wkn
    generalize runT kn ti (lst g0 a 0 kn) g = o at *
    obtain ⟨o1, o2⟩ := o
    cases o1 with
    | none => exact wky_run kn ti r (a + 1) o2 hk2
    | some v => rfl
theorem works_run (g : Md) (kn yn : Nat) (ti : Int32) : g_works g kn yn ti = finM (runT kn ti (sqM g kn 8 (yn - 7)) (md_set (md_wipe g 60) 0)) := wky_run kn ti _ _ _ ((kept_wipe g 60).tr (kept_set _ _))
theorem mem_sqM {g : Md} {kn yn e : Nat} (hy : yn ≤ 200) : e ∈ sqM g kn 8 (yn - 7) ↔ e < kn ∧ ¬ g.1 0 e = 0 ∧ ∃ y : Nat, (8 ≤ y ∧ y ≤ yn) ∧ g.1 1 e = nI y := by
  unfold sqM
  rw [List.mem_flatMap]
  constructor
  · rintro ⟨y, h1, h2⟩
    unfold lst at h2
    obtain ⟨h3, h4⟩ := List.mem_filter.mp h2
    have h5 := List.mem_range'_1.mp h1
    have h6 := List.mem_range'_1.mp h3
    unfold actB at h4
    have h7 := of_decide_eq_true h4
    exact ⟨by omega, h7.1, y, by omega, h7.2⟩
  · rintro ⟨h1, h2, y, h3, h4⟩
    refine ⟨y, List.mem_range'_1.mpr (by omega), ?_⟩
    unfold lst
    exact List.mem_filter.mpr ⟨List.mem_range'_1.mpr (by omega), by unfold actB; exact decide_eq_true ⟨h2, h4⟩⟩
theorem srt_sqM {g : Md} {kn yn : Nat} (hy : yn ≤ 200) : (sqM g kn 8 (yn - 7)).Pairwise (ltE (yrN g)) := by
  unfold sqM
  have mem : ∀ y x, x ∈ lst g y 0 kn → g.1 1 x = nI y := fun y x hx => by
    unfold lst at hx
    have h4 := (List.mem_filter.mp hx).2
    unfold actB at h4
    exact (of_decide_eq_true h4).2
  refine List.pairwise_flatMap.mpr ⟨fun y hy2 => ?_, ?_⟩
  · have h5 := List.mem_range'_1.mp hy2
    have hp : (lst g y 0 kn).Pairwise (fun a b => a < b) := by
      unfold lst
      exact (List.pairwise_lt_range' (s := 0) (n := kn)).filter _
    refine List.Pairwise.imp_of_mem ?_ hp
    intro a b ha hb hab
    refine Or.inr ⟨?_, hab⟩
    unfold yrN
    rw [mem y a ha, mem y b hb]
  · refine List.Pairwise.imp_of_mem ?_ (List.pairwise_lt_range' (s := 8) (n := yn - 7))
    intro a b ha hb hab x hx z hz
    have h5 := List.mem_range'_1.mp ha
    have h6 := List.mem_range'_1.mp hb
    refine Or.inl ?_
    unfold yrN
    rw [mem a x hx, mem b z hz, nI_clamp (by omega), nI_clamp (by omega)]
    exact hab
/-! the class's order -/
def runS (b : Bk) (kn : Nat) (y ut : Int32) : List Nat → Ld → Int32 × Ld
  | [], d => (1, d)
  | x :: L, d => if nI x = ut then (1, d) else if b.1 1 x ≤ y then (if kn ≤ x then runS b kn y ut L d else if r_act d b kn (nI x) = 0 then (0, d_act d b kn (nI x)) else runS b kn y ut L (d_act d b kn (nI x))) else (1, d)
theorem shw_run {b : Bk} {kn : Nat} {y ut : Int32} (hkn : kn ≤ 80) : ∀ (L : List Nat) (i : Nat) (d : Ld), (∀ x, x ∈ L → x < 80) → (∀ j x, L[j]? = some x → i + j < 80 ∧ b.1 8 (i + j) = nI x) → shw b kn y ut L.length i d = runS b kn y ut L d
  | [], _, d, _, _ => rfl
  | x :: L, i, d, h1, h2 => by
    have hx := h1 x List.mem_cons_self
    obtain ⟨hi, ei⟩ := h2 0 x rfl
    have e0 : z_at 80 (b.1 8) (nI i) = nI x := by
      rw [zat (show i < 80 by omega) (by decide)]
      exact ei
    have e1 : z_at 80 (b.1 1) (nI x) = b.1 1 x := zat hx (by decide)
    have ih := fun d => shw_run (b := b) (kn := kn) (y := y) (ut := ut) hkn L (i + 1) d (fun z hz => h1 z (List.mem_cons_of_mem _ hz)) (fun j z hz => by
      have := h2 (j + 1) z hz
      rw [show i + 1 + j = i + (j + 1) by omega]
      exact this)
    rw [List.length_cons, shw, runS, e0, e1]
    by_cases c1 : nI x = ut
    · rw [if_pos c1, if_pos c1]
    · rw [if_neg c1, if_neg c1]
      by_cases c2 : b.1 1 x ≤ y
      · rw [if_pos c2, if_pos c2]
        by_cases c3 : kn ≤ x
        · rw [if_pos c3, if_pos (nI_le c3 (by omega))]
          exact ih d
        · rw [if_neg c3, if_neg (nI_ge (by omega) (by omega))]
          by_cases c4 : r_act d b kn (nI x) = 0
          · rw [if_pos c4, if_pos c4]
          · rw [if_neg c4, if_neg c4]
            exact ih _
      · rw [if_neg c2, if_neg c2]
def inB (b : Bk) (kn : Nat) (y : Int32) (x : Nat) : Bool := decide (x < kn ∧ b.1 1 x ≤ y)
theorem runS_run {b : Bk} {kn : Nat} {y ut : Int32} : ∀ (L : List Nat) (d : Ld), L.Pairwise (fun p q => b.1 1 p ≤ b.1 1 q) → (∀ x, x ∈ L → nI x = ut → x < kn ∧ b.1 1 x ≤ y) → runS b kn y ut L d = finC (runCT b kn ut (L.filter (inB b kn y)) d)
  | [], d, _, _ => rfl
  | x :: L, d, hp, hu => by
    obtain ⟨p1, p2⟩ := List.pairwise_cons.mp hp
    have ih := fun d => runS_run L d p2 (fun z hz => hu z (List.mem_cons_of_mem _ hz))
    rw [runS, List.filter_cons]
    by_cases c1 : nI x = ut
    · have h := hu x List.mem_cons_self c1
      rw [if_pos c1, if_pos (show inB b kn y x = true by unfold inB; exact decide_eq_true h), runCT, if_pos c1]
      rfl
    · rw [if_neg c1]
      by_cases c2 : b.1 1 x ≤ y
      · rw [if_pos c2]
        by_cases c3 : kn ≤ x
        · rw [if_pos c3, if_neg (show ¬ inB b kn y x = true by unfold inB; exact fun q => absurd (of_decide_eq_true q).1 (by omega))]
          exact ih d
        · rw [if_neg c3, if_pos (show inB b kn y x = true by unfold inB; exact decide_eq_true ⟨by omega, c2⟩), runCT, if_neg c1]
          by_cases c4 : r_act d b kn (nI x) = 0
          · rw [if_pos c4, if_pos c4]
            rfl
          · rw [if_neg c4, if_neg c4]
            exact ih _
      · rw [if_neg c2, if_neg (show ¬ inB b kn y x = true by unfold inB; exact fun q => c2 (of_decide_eq_true q).2)]
        have e : L.filter (inB b kn y) = [] := List.filter_eq_nil_iff.mpr (fun z hz q => by
          unfold inB at q
          exact c2 (Int32.le_trans (p1 z hz) (of_decide_eq_true q).2))
        rw [e]
        rfl
