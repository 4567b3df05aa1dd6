/-! PURE: what holds between two calls; the questions' answers -/
def FRl (N F : Nat) (b : Bk) (g : Md) : Prop := ∀ f, f < F → (∃ e : Nat, e < N ∧ b.1 9 f = nI e ∧ g.1 7 f = nI e ∧ b.1 2 e = g.1 9 f ∧ b.1 3 e = g.1 10 f) ∧ b.1 10 f = g.1 8 f ∧ (g.1 8 f = -1 ∨ ∃ e : Nat, e < N ∧ g.1 8 f = nI e)
def AF (b : Bk) (N : Nat) : Prop := ∀ k, k ≤ N → ∀ d, (ld_show d b k (nI 200) (-1)).1 = 1
def Inv (b : Bk) (g : Md) : Prop := Rl (b.2 1) (b.2 2) b g ∧ g.2.2.1 0 = b.2 1 ∧ FRl (b.2 1) (b.2 2) b g ∧ AF b (b.2 1)
theorem Rl.kp {N F : Nat} {b : Bk} {g q : Md} (h : Rl N F b g) (hk : kept g q) : Rl N F b q := ⟨h.1, h.2.1, by rw [hk.1]; exact h.2.2.1, fun e he => ⟨(h.2.2.2.1 e he).1.kept hk, (h.2.2.2.1 e he).2.kept hk⟩, h.2.2.2.2⟩
theorem Inv.kp {b : Bk} {g q : Md} (h : Inv b g) (hk : kept g q) : Inv b q := by
  refine ⟨h.1.kp hk, by rw [hk.1]; exact h.2.1, ?_, h.2.2.2⟩
  have := h.2.2.1
  unfold FRl
  rw [hk.2 7 (by decide), hk.2 8 (by decide), hk.2 9 (by decide), hk.2 10 (by decide)]
  exact this
theorem Rl.mean {N F k y : Nat} {b : Bk} {g q : Md} (h : Rl N F b g) (hk : k ≤ N) (hy : y ≤ 200) (hq : kept g q) (x : Int32) : bk_mean b k (nI y) x = m_avg q k (nI y) x := by
  have hN := h.1
  have h2 := h.kp hq
  exact mean_eq (by omega) hy (BM_of (fun e he => (h2.2.2.2.1 e (by omega)).2)) (PV_of (fun e he => (h2.2.2.2.1 e (by omega)).1))
theorem Rl.pv {N F k : Nat} {b : Bk} {g q : Md} (h : Rl N F b g) (hk : k ≤ N) (hq : kept g q) : PV q k := PV_of (fun e he => ((h.kp hq).2.2.2.1 e (by omega)).1)
theorem q_average {b : Bk} {g : Md} (h : Inv b g) (k y cn : Int32) : r_average b k y cn = m_average g k y cn := by
  unfold r_average m_average
  rw [h.2.1]
  by_cases c1 : 0 ≤ k ∧ k ≤ nI (b.2 1)
  · rw [if_pos c1, if_pos c1]
    by_cases c2 : 1 ≤ y ∧ y ≤ 200
    · rw [if_pos c2, if_pos c2]
      obtain ⟨kn, hk, ek⟩ := zw_kn h.1.1 c1
      obtain ⟨yn, hy, ey⟩ := zw_y1 c2
      subst ek
      subst ey
      have hN := h.1.1
      rw [nI_clamp (by omega), h.1.mean hk hy (kept.rf g)]
    · rw [if_neg c2, if_neg c2]
  · rw [if_neg c1, if_neg c1]
theorem q_look {b : Bk} {g : Md} (h : Inv b g) (d : Ld) (k y f what : Int32) : r_look b d k y f what = m_look g k y f what := by
  unfold r_look m_look
  rw [h.2.1, h.1.2.2.1]
  by_cases c1 : 0 ≤ k ∧ k ≤ nI (b.2 1)
  · rw [if_pos c1, if_pos c1]
    by_cases c2 : 0 ≤ y ∧ y ≤ 200
    · rw [if_pos c2, if_pos c2]
      by_cases c3 : 0 ≤ f ∧ f ≤ nI (b.2 2) - 1
      · rw [if_pos c3, if_pos c3]
        obtain ⟨kn, hk, ek⟩ := zw_kn h.1.1 c1
        obtain ⟨yn, hy, ey⟩ := zw_y0 c2
        obtain ⟨i, hi, ei⟩ := zw_mf h.1.2.1 c3
        subst ek
        subst ey
        subst ei
        have hN := h.1.1
        have hF := h.1.2.1
        rw [nI_clamp (by omega), nI_clamp (by omega)]
        obtain ⟨-, s2, m, hm, s3⟩ := show_eq h.1 hk hy d
        exact tell_eq s2 s3 (by omega) what
      · rw [if_neg c3, if_neg c3]
    · rw [if_neg c2, if_neg c2]
  · rw [if_neg c1, if_neg c1]
theorem q_money {b : Bk} {g : Md} (h : Inv b g) (d : Ld) (k y f : Int32) : r_money b d k y f = m_money1 g k y f := by
  unfold r_money m_money1
  rw [h.2.1, h.1.2.2.1]
  by_cases c1 : 0 ≤ k ∧ k ≤ nI (b.2 1)
  · rw [if_pos c1, if_pos c1]
    by_cases c2 : 1 ≤ y ∧ y ≤ 200
    · rw [if_pos c2, if_pos c2]
      by_cases c3 : 0 ≤ f ∧ f ≤ nI (b.2 2) - 1
      · rw [if_pos c3, if_pos c3]
        obtain ⟨kn, hk, ek⟩ := zw_kn h.1.1 c1
        obtain ⟨yn, hy, ey⟩ := zw_y1 c2
        obtain ⟨i, hi, ei⟩ := zw_mf h.1.2.1 c3
        subst ek
        subst ey
        subst ei
        have hN := h.1.1
        have hF := h.1.2.1
        have hkp := kept_works g kn yn (-1)
        rw [nI_clamp (by omega), nI_clamp (by omega), nI_clamp (by omega)]
        obtain ⟨-, s2, m, hm, s3⟩ := show_eq h.1 hk hy d
        exact worth_eq s2 s3 (by omega) hy (h.1.pv hk hkp) (fun x => h.1.mean hk hy hkp x)
      · rw [if_neg c3, if_neg c3]
    · rw [if_neg c2, if_neg c2]
  · rw [if_neg c1, if_neg c1]
theorem q_owed {b : Bk} {g : Md} (h : Inv b g) (d : Ld) (k y who : Int32) : r_owed b d k y who = m_owed g k y who := by
  unfold r_owed m_owed
  rw [h.2.1, h.1.2.2.1]
  by_cases c1 : 0 ≤ k ∧ k ≤ nI (b.2 1)
  · rw [if_pos c1, if_pos c1]
    by_cases c2 : 1 ≤ y ∧ y ≤ 200
    · rw [if_pos c2, if_pos c2]
      obtain ⟨kn, hk, ek⟩ := zw_kn h.1.1 c1
      obtain ⟨yn, hy, ey⟩ := zw_y1 c2
      subst ek
      subst ey
      have hN := h.1.1
      have hF := h.1.2.1
      have hkp := kept_works g kn yn (-1)
      rw [nI_clamp (by omega), nI_clamp (by omega)]
      obtain ⟨-, s2, m, hm, s3⟩ := show_eq h.1 hk hy d
      have key : ld_owed (ld_show d b kn (nI yn) (-1)).2 b kn (nI yn) who = m_ow (g_works g kn yn (-1)).2 kn (nI yn) who (b.2 2) 0 0 := by
        unfold ld_owed
        have := owed_eq (who := who) s2 s3 hy (h.1.pv hk hkp) (fun x => h.1.mean hk hy hkp x) (b.2 2) 0 0 (by omega)
        rw [show b.2 2 + (60 - b.2 2) = 60 by omega] at this
        exact this
      rw [key]
      by_cases c3 : who = -1
      · rw [if_pos c3, if_pos (by rw [c3]; decide)]
      · rw [if_neg c3]
        by_cases c4 : 0 ≤ who ∧ who ≤ 9
        · rw [if_pos c4, if_pos ⟨Int32.le_trans (by decide) c4.1, c4.2⟩]
        · rw [if_neg c4, if_neg]
          rintro ⟨q1, q2⟩
          refine c4 ⟨?_, q2⟩
          rw [Int32.le_iff_toInt_le] at q1 ⊢
          have e1 : (-1 : Int32).toInt = -1 := by decide
          have e0 : (0 : Int32).toInt = 0 := by decide
          rw [e1] at q1
          rw [e0]
          have : ¬ who.toInt = -1 := fun w => c3 (Int32.toInt_inj.mp (w.trans e1.symm))
          omega
    · rw [if_neg c2, if_neg c2]
  · rw [if_neg c1, if_neg c1]
theorem q_parish {b : Bk} {g : Md} (h : Inv b g) (d : Ld) (k y what : Int32) : r_parish b d k y what = m_parish g k y what := by
  unfold r_parish m_parish
  rw [h.2.1, h.1.2.2.1]
  by_cases c1 : 0 ≤ k ∧ k ≤ nI (b.2 1)
  · rw [if_pos c1, if_pos c1]
    by_cases c2 : 0 ≤ y ∧ y ≤ 200
    · rw [if_pos c2, if_pos c2]
      obtain ⟨kn, hk, ek⟩ := zw_kn h.1.1 c1
      obtain ⟨yn, hy, ey⟩ := zw_y0 c2
      subst ek
      subst ey
      have hN := h.1.1
      rw [nI_clamp (by omega), nI_clamp (by omega)]
      obtain ⟨-, s2, m, hm, s3⟩ := show_eq h.1 hk hy d
      exact parish_eq s2 s3 what
    · rw [if_neg c2, if_neg c2]
  · rw [if_neg c1, if_neg c1]
theorem q_field {b : Bk} {g : Md} (h : Inv b g) (f what : Int32) : r_field b f what = m_field g f what := by
  unfold r_field m_field
  rw [h.1.2.2.1]
  by_cases c1 : 0 ≤ f ∧ f ≤ nI (b.2 2) - 1
  · rw [if_pos c1, if_pos c1]
    obtain ⟨i, hi, ei⟩ := zw_mf h.1.2.1 c1
    subst ei
    have hN := h.1.1
    have hF := h.1.2.1
    obtain ⟨⟨e, he, m1, m2, m3, m4⟩, m5, m6⟩ := h.2.2.1 i hi
    rw [nI_clamp (by omega), zat (show i < 60 by omega) (by decide), zat (show i < 60 by omega) (by decide), m1, m2, m5, zat (show e < 80 by omega) (by decide), zat (show e < 80 by omega) (by decide), zat (show e < 80 by omega) (by decide), nI_clamp (by omega), (h.1.2.2.2.1 e he).2.2.1, m3, m4]
    rcases m6 with z | ⟨e2, he2, z⟩
    · rw [z, if_pos rfl]
      rfl
    · rw [z, if_neg (m1_ne e2 (by omega)), zat (show e2 < 80 by omega) (by decide), nI_clamp (by omega), (h.1.2.2.2.1 e2 he2).2.2.1]
  · rw [if_neg c1, if_neg c1]
theorem q_entry {b : Bk} {g : Md} (h : Inv b g) (x what : Int32) : r_entry b x what = m_entry g x what := by
  unfold r_entry m_entry
  rw [h.2.1]
  by_cases c1 : 0 ≤ x ∧ x ≤ nI (b.2 1) - 1
  · rw [if_pos c1, if_pos c1]
    obtain ⟨i, hi, ei⟩ := zw_mf80 h.1.1 c1
    subst ei
    have hN := h.1.1
    have hR := (h.1.2.2.2.1 i hi).2
    rw [nI_clamp (by omega), zat (show i < 80 by omega) (by decide), zat (show i < 80 by omega) (by decide), zat (show i < 80 by omega) (by decide), zat (show i < 80 by omega) (by decide), hR.1, hR.2.1, hR.2.2.1, hR.2.2.2.1]
  · rw [if_neg c1, if_neg c1]
theorem q_count {b : Bk} {g : Md} (h : Inv b g) (what : Int32) : r_count b what = m_count g what := by
  unfold r_count m_count
  rw [h.2.1, h.1.2.2.1]
/-! cost: all acts ahead of a BUY -/
theorem runT_m1 {kn : Nat} : ∀ (L : List Nat) (g : Md), (∀ x, x ∈ L → x < 80) → (runT kn (-1) L g).1 = none ∨ (runT kn (-1) L g).1 = some 0
  | [], g, _ => Or.inl rfl
  | x :: L, g, h => by
    rw [runT, if_neg (m1_ne x (h x List.mem_cons_self))]
    split
    · exact Or.inr rfl
    · exact runT_m1 L _ (fun z hz => h z (List.mem_cons_of_mem _ hz))
theorem runT_ti {kn : Nat} {t1 t2 : Int32} : ∀ (L : List Nat) (g : Md), (∀ x, x ∈ L → ¬ nI x = t1 ∧ ¬ nI x = t2) → runT kn t1 L g = runT kn t2 L g
  | [], g, _ => rfl
  | x :: L, g, h => by
    rw [runT, runT, if_neg (h x List.mem_cons_self).1, if_neg (h x List.mem_cons_self).2, runT_ti L _ (fun z hz => h z (List.mem_cons_of_mem _ hz))]
theorem runT_cut {kn x : Nat} {B : List Nat} : ∀ (A : List Nat) (g : Md), runT kn (nI x) (A ++ x :: B) g = runT kn (nI x) (A ++ [x]) g
  | [], g => by
    rw [List.nil_append, List.nil_append, runT, runT, if_pos rfl, if_pos rfl]
  | z :: A, g => by
    rw [List.cons_append, List.cons_append, runT, runT, runT_cut A _]
theorem runCT_cut {b : Bk} {kn x : Nat} {B : List Nat} : ∀ (A : List Nat) (d : Ld), runCT b kn (nI x) (A ++ x :: B) d = runCT b kn (nI x) (A ++ [x]) d
  | [], d => by
    rw [List.nil_append, List.nil_append, runCT, runCT, if_pos rfl, if_pos rfl]
  | z :: A, d => by
    rw [List.cons_append, List.cons_append, runCT, runCT, runCT_cut A _]
def ltD (y : Nat → Nat) (x e : Nat) : Bool := decide (y e < y x ∨ (y e = y x ∧ e < x))
theorem srt_split {y : Nat → Nat} {x : Nat} : ∀ (L : List Nat), L.Pairwise (ltE y) → x ∈ L → ∃ B, L = L.filter (ltD y x) ++ x :: B
  | [], _, h => absurd h List.not_mem_nil
  | z :: L, hp, h => by
    obtain ⟨p1, p2⟩ := List.pairwise_cons.mp hp
    rw [List.filter_cons]
    rcases List.mem_cons.mp h with e | e
    · subst e
      have hz : ¬ ltD y x x = true := fun q => by
        have := of_decide_eq_true q
        omega
      have hL : L.filter (ltD y x) = [] := List.filter_eq_nil_iff.mpr (fun w hw q => by
        have h1 := p1 w hw
        have h2 := of_decide_eq_true q
        rcases h1 with h1 | h1 <;> omega)
      rw [if_neg hz, hL]
      exact ⟨L, rfl⟩
    · have hz : ltD y x z = true := decide_eq_true (p1 x e)
      obtain ⟨B, hB⟩ := srt_split L p2 e
      rw [if_pos hz]
      exact ⟨B, by rw [List.cons_append, ← hB]⟩
theorem fin_one {kn : Nat} {L : List Nat} {g : Md} (hL : ∀ x, x ∈ L → x < 80) (h : (finM (runT kn (-1) L g)).1 = 1) : (runT kn (-1) L g).1 = none := by
  rcases runT_m1 L g hL with z | z
  · exact z
  · unfold finM at h
    rw [z] at h
    have h9 : (0 : Int32) = 1 := h
    exact absurd h9 (by decide)
/-- the state ahead of an act of a knowing: it fits there -/
theorem fit_at {N F k x : Nat} {b : Bk} {g : Md} (h : Rl N F b g) (hk : k ≤ N) (hx : x < k) (hs : ¬ g.1 0 x = 0) (ha : (g_works g k 200 (-1)).1 = 1) :
    ∃ A B : List Nat, sqM g k 8 193 = A ++ x :: B ∧ (∀ z, z ∈ A → z < k ∧ ¬ z = x ∧ ¬ g.1 0 z = 0) ∧ A = (sqM g k 8 193).filter (ltD (yrN g) x) ∧ A.length + 1 ≤ 80 ∧ (runT k (-1) A (md_set (md_wipe g 60) 0)).1 = none ∧ ¬ m_fits (runT k (-1) A (md_set (md_wipe g 60) 0)).2 k x = 0 := by
  have hN := h.1
  obtain ⟨y, hy, ey⟩ := (h.2.2.2.1 x (by omega)).1.2.1 hs
  have hm : x ∈ sqM g k 8 (200 - 7) := (mem_sqM (by omega)).mpr ⟨hx, hs, y, hy, ey⟩
  obtain ⟨B, hB⟩ := srt_split _ (srt_sqM (g := g) (kn := k) (show 200 ≤ 200 by omega)) hm
  have hmem : ∀ z, z ∈ sqM g k 8 193 → z < k ∧ ¬ g.1 0 z = 0 := fun z hz => ⟨((mem_sqM (yn := 200) (by omega)).mp hz).1, ((mem_sqM (yn := 200) (by omega)).mp hz).2.1⟩
  obtain ⟨O, o1, o2, -, -, -, -, o7⟩ := h.list hk (show 200 ≤ 200 by omega)
  have hlen : (sqM g k 8 (200 - 7)).length ≤ 80 := by
    rw [← o7]
    have := List.length_filter_le (inB b k (nI 200)) O
    omega
  have h2 : (finM (runT k (-1) ((sqM g k 8 193).filter (ltD (yrN g) x) ++ x :: B) (md_set (md_wipe g 60) 0))).1 = 1 := by
    rw [works_run] at ha
    rw [← hB]
    exact ha
  have h3 := fin_one (fun z hz => by
    have hz2 : z ∈ sqM g k 8 193 := by rw [hB]; exact hz
    have := (hmem z hz2).1
    omega) h2
  refine ⟨(sqM g k 8 193).filter (ltD (yrN g) x), B, hB, fun z hz => ?_, rfl, ?_, ?_⟩
  · obtain ⟨z1, z2⟩ := List.mem_filter.mp hz
    refine ⟨(hmem z z1).1, fun q => ?_, (hmem z z1).2⟩
    subst q
    have := of_decide_eq_true z2
    omega
  · have h8 : (sqM g k 8 193).length = ((sqM g k 8 193).filter (ltD (yrN g) x) ++ x :: B).length := congrArg List.length hB
    rw [List.length_append, List.length_cons] at h8
    have h9 : (sqM g k 8 193).length ≤ 80 := hlen
    omega
  · rw [runT_app] at h3
    rcases runT_m1 (kn := k) ((sqM g k 8 193).filter (ltD (yrN g) x)) (md_set (md_wipe g 60) 0) (fun z hz => by have := (hmem z (List.mem_filter.mp hz).1).1; omega) with w | w
    · refine ⟨w, fun q => ?_⟩
      rw [w] at h3
      simp only at h3
      rw [runT, if_neg (m1_ne x (by omega)), if_pos q] at h3
      cases h3
    · rw [w] at h3
      cases h3
theorem cost_state {N F k x y i : Nat} {b : Bk} {g : Md} (h : Rl N F b g) (hk : k ≤ N) (hx : x < k) (hb : g.1 0 x = 6) (ey : g.1 1 x = nI y) (hy : 8 ≤ y ∧ y ≤ 200) (e2 : g.1 2 x = nI i) (hi : i < F) (ha : (g_works g k 200 (-1)).1 = 1) (d : Ld) :
    Sim True (ld_show d b k (nI y) (nI x)).2 (g_works g k 200 (nI x)).2 ∧ (∃ m, m ≤ 80 ∧ Good F m (g_works g k 200 (nI x)).2) ∧ ¬ (g_works g k 200 (nI x)).2.1 11 i = 0 := by
  have hN := h.1
  have hF := h.2.1
  have hs : ¬ g.1 0 x = 0 := fun q => absurd (hb.symm.trans q) (by decide)
  obtain ⟨A, B, a1, a2, a3, a4, a5, a6⟩ := fit_at h hk hx hs ha
  have hV : PV g k := PV_of (fun e he => (h.2.2.2.1 e (by omega)).1)
  obtain ⟨O, o1, o2, o3, o4, o5, o6, o7⟩ := h.list hk hy.2
  have hm : x ∈ sqM g k 8 (y - 7) := (mem_sqM hy.2).mpr ⟨hx, hs, y, ⟨hy.1, Nat.le_refl y⟩, ey⟩
  obtain ⟨B2, hB2⟩ := srt_split _ (srt_sqM (g := g) (kn := k) hy.2) hm
  have eyx : yrN g x = y := by
    unfold yrN
    rw [ey, nI_clamp (by omega)]
  have eA : (sqM g k 8 (y - 7)).filter (ltD (yrN g) x) = A := by
    rw [a3]
    refine sorted_one (ltE_ir (yrN g)) (ltE_as (yrN g)) _ _ ((srt_sqM hy.2).filter _) ((srt_sqM (yn := 200) (by omega)).filter _) (fun z => ?_)
    rw [List.mem_filter, List.mem_filter, mem_sqM hy.2, show (193 : Nat) = 200 - 7 from rfl, mem_sqM (show 200 ≤ 200 by omega)]
    constructor
    · rintro ⟨⟨b1, b2, yz, b3, b4⟩, b5⟩
      exact ⟨⟨b1, b2, yz, ⟨b3.1, by omega⟩, b4⟩, b5⟩
    · rintro ⟨⟨b1, b2, yz, b3, b4⟩, b5⟩
      refine ⟨⟨b1, b2, yz, ⟨b3.1, ?_⟩, b4⟩, b5⟩
      have b6 := of_decide_eq_true b5
      have b7 : yrN g z = yz := by
        unfold yrN
        rw [b4, nI_clamp (by omega)]
      rw [b7, eyx] at b6
      omega
  rw [eA] at hB2
  have eC : ld_show d b k (nI y) (nI x) = finC (runCT b k (nI x) (A ++ [x]) (ld_set (ld_wipe d 60) 0)) := by
    unfold ld_show
    rw [← o1, shw_run (by omega) O 0 _ o3 (fun j z hz => by
      have hj : j < O.length := (List.getElem?_eq_some_iff.mp hz).1
      rw [Nat.zero_add]
      exact ⟨by omega, o4 j z hz⟩), runS_run O _ o5 (fun z hz q => by
      have ez : z = x := (nI_eq (by have := o3 z hz; omega) (by omega)).mp q
      subst ez
      rw [(h.2.2.2.1 z (by omega)).2.2.1, ey]
      exact ⟨hx, nI_le (Nat.le_refl y) (by omega)⟩), o7, hB2, runCT_cut]
  have eM : g_works g k 200 (nI x) = finM (runT k (nI x) (A ++ [x]) (md_set (md_wipe g 60) 0)) := by
    rw [works_run, show 200 - 7 = 193 from rfl, a1, runT_cut]
  have hmem : ∀ z, z ∈ A ++ [x] → z < 80 ∧ EV g F z ∧ ER b g z ∧ ¬ g.1 0 z = 0 ∧ AVR True g k b k (g.1 1 z) := fun z hz => by
    have hz2 : z < k ∧ ¬ g.1 0 z = 0 := by
      rcases List.mem_append.mp hz with w | w
      · exact ⟨(a2 z w).1, (a2 z w).2.2⟩
      · rw [List.mem_singleton.mp w]
        exact ⟨hx, hs⟩
    exact ⟨by omega, (h.2.2.2.1 z (by omega)).1, (h.2.2.2.1 z (by omega)).2, hz2.2, h.avr hk (by omega) hz2.2⟩
  have hl : (A ++ [x]).length ≤ 80 := by
    rw [List.length_append]
    have : ([x] : List Nat).length = 1 := rfl
    omega
  have hsr := simrun (ti := nI x) hV (A ++ [x]) 0 (ld_set (ld_wipe d 60) 0) (md_set (md_wipe g 60) 0) hmem (by omega) (sim_start True d g) (good_start h.2.2.1 h.2.1) (kept_start g) (Or.inl trivial)
  have hgr := goodrun (ti := nI x) hV (A ++ [x]) 0 (md_set (md_wipe g 60) 0) (fun z hz => ⟨(hmem z hz).2.1, (hmem z hz).2.2.2.1⟩) (by omega) (good_start h.2.2.1 h.2.1) (kept_start g)
  have hti : runT k (nI x) A (md_set (md_wipe g 60) 0) = runT k (-1) A (md_set (md_wipe g 60) 0) := runT_ti A _ (fun z hz => by
    obtain ⟨w1, w2, -⟩ := a2 z hz
    exact ⟨fun q => w2 ((nI_eq (by omega) (by omega)).mp q), m1_ne z (by omega)⟩)
  have hend : (runT k (nI x) (A ++ [x]) (md_set (md_wipe g 60) 0)).2 = (runT k (-1) A (md_set (md_wipe g 60) 0)).2 := by
    rw [runT_app, hti, a5]
    simp only
    rw [runT, if_pos rfl]
  rw [eC, eM]
  obtain ⟨f1, f2, f3⟩ := fin_eq hsr.1
  rw [f2, f3]
  refine ⟨hsr.2, hgr, ?_⟩
  obtain ⟨m, hm80, hG⟩ := hgr
  rw [hend] at hG ⊢
  have hkS : kept g (runT k (-1) A (md_set (md_wipe g 60) 0)).2 := (kept_start g).tr (kept_runT _ _ _ _)
  generalize (runT k (-1) A (md_set (md_wipe g 60) 0)).2 = S at *
  have r0 : S.1 0 x = 6 := by rw [hkS.2 0 (by decide)]; exact hb
  have r2 : S.1 2 x = nI i := by rw [hkS.2 2 (by decide)]; exact e2
  unfold m_fits at a6
  rw [r0, if_neg (show ¬ (6 : Int32) = 1 by decide), if_neg (show ¬ (6 : Int32) = 2 by decide), if_neg (show ¬ (6 : Int32) = 3 by decide), if_neg (show ¬ (6 : Int32) = 4 by decide), if_neg (show ¬ (6 : Int32) = 5 by decide), if_pos rfl] at a6
  unfold m_fbuy at a6
  rw [r2] at a6
  by_cases c : m_is S (nI i)
  · exact (m_is_n hG (by omega)).mp c
  · rw [if_neg c] at a6
    exact absurd rfl a6
theorem q_cost {b : Bk} {g : Md} (h : Inv b g) (d : Ld) (k x : Int32) : r_cost b d k x = m_cost g k x := by
  unfold r_cost m_cost
  rw [h.2.1]
  by_cases c1 : 0 ≤ k ∧ k ≤ nI (b.2 1)
  · rw [if_pos c1, if_pos c1]
    obtain ⟨kn, hk, ek⟩ := zw_kn h.1.1 c1
    by_cases c2 : 0 ≤ x ∧ x ≤ k - 1
    · rw [if_pos c2, if_pos c2]
      have hN := h.1.1
      have hF := h.1.2.1
      obtain ⟨j, hj, ej⟩ := zw_x80 (show kn ≤ 80 by omega) ek c2
      subst ek
      subst ej
      obtain ⟨hE, hR⟩ := h.1.2.2.2.1 j (by omega)
      rw [nI_clamp (by omega), nI_clamp (by omega), zat (show j < 80 by omega) (by decide), zat (show j < 80 by omega) (by decide), zat (show j < 80 by omega) (by decide), hR.1, hR.2.1, hR.2.2.1]
      by_cases c3 : g.1 0 j = 6
      · rw [if_pos c3, if_pos c3]
        obtain ⟨i, hi, e2⟩ := hE.2.2.2.2.2.2.2.2 c3
        obtain ⟨y, hy, ey⟩ := hE.2.1 (fun q => absurd (c3.symm.trans q) (by decide))
        have ha : (g_works g kn 200 (-1)).1 = 1 := by
          rw [← (show_eq h.1 hk (show 200 ≤ 200 by omega) d).1]
          exact h.2.2.2 kn hk d
        obtain ⟨s1, ⟨m, hm, s2⟩, s3⟩ := cost_state h.1 hk hj c3 ey hy e2 hi ha d
        have hkp := kept_works g kn 200 (nI j)
        have hw := worth_eq (b := b) (k := kn) s1 s2 (show i < 60 by omega) hy.2 (h.1.pv hk hkp) (fun z => h.1.mean hk hy.2 hkp z)
        rw [if_neg s3] at hw
        rw [ey, e2, nI_clamp (by omega), hw]
      · rw [if_neg c3, if_neg c3]
    · rw [if_neg c2, if_neg c2]
  · rw [if_neg c1, if_neg c1]
