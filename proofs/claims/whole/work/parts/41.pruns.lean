/-! PURE: whole runs of acts, class beside reference -/
theorem PV.kept {g g2 : Md} {k : Nat} (hk : kept g g2) (h : PV g k) : PV g2 k := by
  unfold PV
  rw [hk.2 0 (by decide), hk.2 1 (by decide), hk.2 4 (by decide)]
  exact h
theorem avg_kept {g g2 : Md} (hk : kept g g2) (k : Nat) (y x : Int32) : m_avg g2 k y x = m_avg g k y x := m_avg_congr (hk.2 0 (by decide)) (hk.2 1 (by decide)) (hk.2 2 (by decide)) (hk.2 4 (by decide)) k y x
theorem AVR.kept {c : Prop} {g g2 : Md} {kM kC : Nat} {b : Bk} {y : Int32} (hk : kept g g2) (h : AVR c g kM b kC y) : AVR c g2 kM b kC y := fun x => by
  rw [avg_kept hk]
  exact h x
theorem goodrun {g0 : Md} {F kn : Nat} {ti : Int32} (hV : PV g0 kn) : ∀ (L : List Nat) (n : Nat) (g : Md), (∀ x, x ∈ L → EV g0 F x ∧ ¬ g0.1 0 x = 0) → n + L.length ≤ 80 → Good F n g → kept g0 g → ∃ m, m ≤ 80 ∧ Good F m (runT kn ti L g).2
  | [], n, g, _, hn, hG, _ => ⟨n, by have : ([] : List Nat).length = 0 := rfl; omega, hG⟩
  | x :: L, n, g, hL, hn, hG, hk => by
    rw [List.length_cons] at hn
    obtain ⟨hE, hs⟩ := hL x List.mem_cons_self
    rw [runT]
    split
    · exact ⟨n, by omega, hG⟩
    · split
      · exact ⟨n, by omega, hG⟩
      · next hf =>
        have hs2 : ¬ g.1 0 x = 0 := by rw [hk.2 0 (by decide)]; exact hs
        exact goodrun hV L (n + 1) _ (fun z hz => hL z (List.mem_cons_of_mem _ hz)) (by omega) (step_M hG (by omega) (hE.kept hk) (hV.kept hk) hs2 hf).2 (hk.tr (kept_does g kn x))
theorem simrun {c : Prop} {g0 : Md} {b : Bk} {F kM kC : Nat} {ti : Int32} (hV : PV g0 kM) : ∀ (L : List Nat) (n : Nat) (d : Ld) (g : Md), (∀ x, x ∈ L → x < 80 ∧ EV g0 F x ∧ ER b g0 x ∧ ¬ g0.1 0 x = 0 ∧ AVR c g0 kM b kC (g0.1 1 x)) → n + L.length ≤ 80 → Sim c d g → Good F n g → kept g0 g → (c ∨ ¬ (runT kM ti L g).1 = some 0) → (runCT b kC ti L d).1 = (runT kM ti L g).1 ∧ Sim c (runCT b kC ti L d).2 (runT kM ti L g).2
  | [], n, d, g, _, _, hS, _, _, _ => ⟨rfl, hS⟩
  | x :: L, n, d, g, hL, hn, hS, hG, hk, hc => by
    rw [List.length_cons] at hn
    obtain ⟨hx, hE, hR, hs, hA⟩ := hL x List.mem_cons_self
    have hs2 : ¬ g.1 0 x = 0 := by rw [hk.2 0 (by decide)]; exact hs
    have ey : g.1 1 x = g0.1 1 x := by rw [hk.2 1 (by decide)]
    have st := step_S (c := c) (kM := kM) (kC := kC) hS hG (by omega) (hE.kept hk) (hR.kept hk) hx hs2 (hV.kept hk) (by rw [ey]; exact hA.kept hk)
    rw [runT] at hc ⊢
    rw [runCT]
    by_cases c1 : nI x = ti
    · rw [if_pos c1, if_pos c1]
      exact ⟨rfl, hS⟩
    · rw [if_neg c1] at hc ⊢
      rw [if_neg c1]
      by_cases c2 : m_fits g kM x = 0
      · rw [if_pos c2] at hc ⊢
        have hcc : c := by
          rcases hc with z | z
          · exact z
          · exact absurd rfl z
        obtain ⟨s1, s2⟩ := st.2 hcc c2
        rw [if_pos s1]
        exact ⟨rfl, s2⟩
      · rw [if_neg c2] at hc ⊢
        obtain ⟨s1, s2⟩ := st.1 c2
        rw [if_neg s1]
        exact simrun hV L (n + 1) _ _ (fun z hz => hL z (List.mem_cons_of_mem _ hz)) (by omega) s2 (step_M hG (by omega) (hE.kept hk) (hV.kept hk) hs2 c2).2 (hk.tr (kept_does g kM x)) hc
/-! the wiped state -/
theorem mV_wiped (g : Md) {f : Nat} (hf : f < 60) : (mV (md_set (md_wipe g 60) 0) f).1 = 0 := by
  show (if f < 60 then 0 else g.1 11 f) = 0
  rw [if_pos hf]
theorem lV_wiped (d : Ld) {f : Nat} (hf : f < 60) : (lV (ld_set (ld_wipe d 60) 0) f).1 = 0 := by
  show (if f < 60 then 0 else d.1 0 f) = 0
  rw [if_pos hf]
theorem sm_wiped (g : Md) (h : V8 → Nat) (hh : ∀ v : V8, v.1 = 0 → h v = 0) : sm h (md_set (md_wipe g 60) 0) = 0 := by
  have : sm h (md_set (md_wipe g 60) 0) ≤ 60 * 0 := fb_sm_bound (fun f hf => by
    rw [hh _ (mV_wiped g hf)]
    exact Nat.le_refl 0)
  omega
theorem good_start {g : Md} {F : Nat} (hF : g.2.2.1 1 = F) (h60 : F ≤ 60) : Good F 0 (md_set (md_wipe g 60) 0) := by
  refine ⟨hF, h60, fun f hf h => absurd (mV_wiped g hf) h, ?_, ?_, ?_, ?_⟩
  · rw [sm_wiped g ar (fun v h => if_pos h)]
    exact Nat.zero_le _
  · rw [sm_wiped g ch0 (fun v h => if_pos h)]
    exact Nat.zero_le _
  · rw [sm_wiped g ch1 (fun v h => if_pos h)]
    exact Nat.zero_le _
  · rw [sm_wiped g ch2 (fun v h => if_pos h)]
    exact Nat.zero_le _
theorem sim_start (c : Prop) (d : Ld) (g : Md) : Sim c (ld_set (ld_wipe d 60) 0) (md_set (md_wipe g 60) 0) := ⟨rfl, fun f hf => ⟨⟨fun _ => mV_wiped g hf, fun _ => lV_wiped d hf⟩, fun h => absurd (mV_wiped g hf) h⟩⟩
theorem kept_start (g : Md) : kept g (md_set (md_wipe g 60) 0) := (kept_wipe g 60).tr (kept_set _ _)
/-! the reference's rows bear its acts -/
def cntB (g : Md) (a x e : Nat) : Bool := decide (yrN g e < a ∨ (yrN g e = a ∧ e < x))
def cntE (g : Md) (kn a x : Nat) : Nat := fb_ct (cntB g a x) kn
theorem wk_of {g : Md} {F kn : Nat} (hkn : kn ≤ 80) (hF : g.2.2.1 1 = F) (hF60 : F ≤ 60) (hE : ∀ e, e < kn → EV g F e) : wk_ok g kn := by
  have hV : PV g kn := PV_of hE
  refine ⟨fun a x q => kept g q ∧ Good F (cntE g kn a x) q, ⟨?_, ?_, ?_, ?_⟩, ?_⟩
  · rintro a x q ⟨hk, hG⟩
    rw [hG.1]
    exact hF60
  · rintro a x q ⟨hk, hG⟩ hx h
    refine ⟨hk, hG.mono (fb_ct_sub (fun e he h => ?_))⟩
    have := of_decide_eq_true h
    exact decide_eq_true (by omega)
  · rintro a x q ha8 ha ⟨hk, hG⟩ hx hs hy hf
    have ey : yrN g x = a := by
      unfold yrN
      rw [← show q.1 1 x = g.1 1 x from congrFun (hk.2 1 (by decide)) x, hy, nI_clamp (by omega)]
    have u := fb_ct_upd (cntB g a x) true (n := kn) hx
    have px : cntB g a x x = false := decide_eq_false (by omega)
    rw [px] at u
    have hle : cntE g kn a x + 1 ≤ cntE g kn a (x + 1) := by
      have h2 : fb_ct (fun k => if k = x then true else cntB g a x k) kn ≤ fb_ct (cntB g a (x + 1)) kn := fb_ct_sub (fun e he h => by
        by_cases c : e = x
        · subst c
          exact decide_eq_true (by omega)
        · rw [if_neg c] at h
          have := of_decide_eq_true h
          exact decide_eq_true (by omega))
      have u2 : fb_ct (fun k => if k = x then true else cntB g a x k) kn + 0 = fb_ct (cntB g a x) kn + 1 := u
      unfold cntE
      omega
    have hl2 : cntE g kn a (x + 1) ≤ kn := fb_ct_le _ _
    have st := step_M hG (by omega) ((hE x hx).kept hk) (hV.kept hk) hs hf
    exact ⟨st.1, hk.tr (kept_does q kn x), st.2.mono hle⟩
  · rintro a q ⟨hk, hG⟩
    refine ⟨hk, hG.mono (fb_ct_sub (fun e he h => ?_))⟩
    have := of_decide_eq_true h
    exact decide_eq_true (by omega)
  · exact ⟨kept_start g, (good_start hF hF60).mono (Nat.zero_le _)⟩
/-! the relation of the two memories, as far as N entries and F fields go -/
def yrB (b : Bk) (e : Nat) : Nat := (b.1 1 e).toNatClampNeg
def OR (b : Bk) (N : Nat) : Prop := ∃ O : List Nat, O.length = b.2 0 ∧ O.length ≤ N ∧ (∀ i x, O[i]? = some x → b.1 8 i = nI x) ∧ O.Pairwise (ltE (yrB b)) ∧ ∀ x, x ∈ O ↔ x < N ∧ ¬ b.1 0 x = 0
def Rl (N F : Nat) (b : Bk) (g : Md) : Prop := N ≤ 80 ∧ F ≤ 60 ∧ g.2.2.1 1 = F ∧ (∀ e, e < N → EV g F e ∧ ER b g e) ∧ OR b N
theorem Rl.year {N F : Nat} {b : Bk} {g : Md} (h : Rl N F b g) {e : Nat} (he : e < N) (hs : ¬ b.1 0 e = 0) : ∃ y : Nat, (8 ≤ y ∧ y ≤ 200) ∧ b.1 1 e = nI y ∧ g.1 1 e = nI y ∧ ¬ g.1 0 e = 0 := by
  obtain ⟨hE, hR⟩ := h.2.2.2.1 e he
  have hs2 : ¬ g.1 0 e = 0 := by rw [← hR.1]; exact hs
  obtain ⟨y, hy, ey⟩ := hE.2.1 hs2
  exact ⟨y, hy, hR.2.1.trans ey, ey, hs2⟩
theorem Rl.avr {N F k : Nat} {b : Bk} {g : Md} (h : Rl N F b g) (hk : k ≤ N) {e : Nat} (he : e < N) (hs : ¬ g.1 0 e = 0) : AVR True g k b k (g.1 1 e) := by
  obtain ⟨y, hy, ey⟩ := (h.2.2.2.1 e he).1.2.1 hs
  rw [ey]
  intro x
  have hm := mean_eq (cn := x) (show k ≤ 80 by have := h.1; omega) hy.2 (BM_of (fun e he => (h.2.2.2.1 e (by omega)).2)) (PV_of (fun e he => (h.2.2.2.1 e (by omega)).1))
  rw [hm]
  exact ⟨fun q => q, fun _ => rfl⟩
/-- the acts of a knowing up to a year: one list for both -/
theorem Rl.list {N F k y : Nat} {b : Bk} {g : Md} (h : Rl N F b g) (hk : k ≤ N) (hy : y ≤ 200) : ∃ O : List Nat, O.length = b.2 0 ∧ O.length ≤ N ∧ (∀ x, x ∈ O → x < 80) ∧ (∀ i x, O[i]? = some x → b.1 8 i = nI x) ∧ O.Pairwise (fun p q => b.1 1 p ≤ b.1 1 q) ∧ (∀ x, x ∈ O ↔ x < N ∧ ¬ b.1 0 x = 0) ∧ O.filter (inB b k (nI y)) = sqM g k 8 (y - 7) := by
  obtain ⟨O, o1, o2, o3, o4, o5⟩ := h.2.2.2.2
  have hN := h.1
  refine ⟨O, o1, o2, fun x hx => by have := ((o5 x).mp hx).1; omega, o3, ?_, o5, ?_⟩
  · refine List.Pairwise.imp_of_mem ?_ o4
    intro p q hp hq hpq
    obtain ⟨yp, hyp, ep, -⟩ := h.year ((o5 p).mp hp).1 ((o5 p).mp hp).2
    obtain ⟨yq, hyq, eq, -⟩ := h.year ((o5 q).mp hq).1 ((o5 q).mp hq).2
    rw [ep, eq]
    refine nI_le ?_ (by omega)
    unfold ltE yrB at hpq
    rw [ep, eq, nI_clamp (by omega), nI_clamp (by omega)] at hpq
    omega
  · have mem : ∀ x, x ∈ O.filter (inB b k (nI y)) → x < N ∧ ¬ b.1 0 x = 0 := fun x hx => (o5 x).mp (List.mem_filter.mp hx).1
    refine sorted_one (ltE_ir (yrN g)) (ltE_as (yrN g)) _ _ ?_ (srt_sqM hy) (fun x => ?_)
    · refine List.Pairwise.imp_of_mem ?_ (o4.filter _)
      intro p q hp hq hpq
      have e1 : yrB b p = yrN g p := by
        unfold yrB yrN
        rw [(h.2.2.2.1 p (mem p hp).1).2.2.1]
      have e2 : yrB b q = yrN g q := by
        unfold yrB yrN
        rw [(h.2.2.2.1 q (mem q hq).1).2.2.1]
      unfold ltE at hpq ⊢
      rw [e1, e2] at hpq
      exact hpq
    · rw [mem_sqM hy, List.mem_filter, o5 x]
      constructor
      · rintro ⟨⟨a1, a2⟩, a3⟩
        obtain ⟨a4, a5⟩ := of_decide_eq_true a3
        obtain ⟨yx, hyx, e1, e2, e3⟩ := h.year a1 a2
        rw [e1] at a5
        exact ⟨a4, e3, yx, ⟨hyx.1, (nI_leI (by omega) (by omega)).mp a5⟩, e2⟩
      · rintro ⟨a1, a2, yx, a3, a4⟩
        have hx : x < N := by omega
        have hR := (h.2.2.2.1 x hx).2
        refine ⟨⟨hx, by rw [hR.1]; exact a2⟩, decide_eq_true ⟨a1, ?_⟩⟩
        rw [hR.2.1, a4]
        exact nI_le a3.2 (by omega)
theorem fin_eq {o : Option Int32 × Ld} {p : Option Int32 × Md} (h : o.1 = p.1) : (finC o).1 = (finM p).1 ∧ (finC o).2 = o.2 ∧ (finM p).2 = p.2 := by
  obtain ⟨o1, o2⟩ := o
  obtain ⟨p1, p2⟩ := p
  simp only at h
  subst h
  cases o1 with
  | none => exact ⟨rfl, rfl, rfl⟩
  | some v => exact ⟨rfl, rfl, rfl⟩
theorem m1_ne (x : Nat) (h : x < 80) : ¬ nI x = -1 := fun w => absurd (w ▸ nI_le (a := 0) (Nat.zero_le x) (by omega)) (by decide)
/-- a year by a knowing, in class and reference -/
theorem show_eq {N F k y : Nat} {b : Bk} {g : Md} (h : Rl N F b g) (hk : k ≤ N) (hy : y ≤ 200) (d : Ld) : (ld_show d b k (nI y) (-1)).1 = (g_works g k y (-1)).1 ∧ Sim True (ld_show d b k (nI y) (-1)).2 (g_works g k y (-1)).2 ∧ ∃ m, m ≤ 80 ∧ Good F m (g_works g k y (-1)).2 := by
  obtain ⟨O, o1, o2, o3, o4, o5, o6, o7⟩ := h.list hk hy
  have hN := h.1
  have hV : PV g k := PV_of (fun e he => (h.2.2.2.1 e (by omega)).1)
  have hm : ∀ x, x ∈ sqM g k 8 (y - 7) → x < 80 ∧ EV g F x ∧ ER b g x ∧ ¬ g.1 0 x = 0 ∧ AVR True g k b k (g.1 1 x) := fun x hx => by
    obtain ⟨a1, a2, -⟩ := (mem_sqM hy).mp hx
    exact ⟨by omega, (h.2.2.2.1 x (by omega)).1, (h.2.2.2.1 x (by omega)).2, a2, h.avr hk (by omega) a2⟩
  have hl : (sqM g k 8 (y - 7)).length ≤ 80 := by
    rw [← o7]
    have := List.length_filter_le (inB b k (nI y)) O
    omega
  have eC : ld_show d b k (nI y) (-1) = finC (runCT b k (-1) (sqM g k 8 (y - 7)) (ld_set (ld_wipe d 60) 0)) := by
    unfold ld_show
    rw [← o1, shw_run (by omega) O 0 _ o3 (fun j x hx => by
      have hj : j < O.length := (List.getElem?_eq_some_iff.mp hx).1
      rw [Nat.zero_add]
      exact ⟨by omega, o4 j x hx⟩), runS_run O _ o5 (fun x hx q => absurd q (m1_ne x (o3 x hx))), o7]
  have hs := simrun (ti := -1) hV (sqM g k 8 (y - 7)) 0 (ld_set (ld_wipe d 60) 0) (md_set (md_wipe g 60) 0) hm (by omega) (sim_start True d g) (good_start h.2.2.1 h.2.1) (kept_start g) (Or.inl trivial)
  have hg := goodrun (ti := -1) hV (sqM g k 8 (y - 7)) 0 (md_set (md_wipe g 60) 0) (fun x hx => ⟨(hm x hx).2.1, (hm x hx).2.2.2.1⟩) (by omega) (good_start h.2.2.1 h.2.1) (kept_start g)
  rw [eC, works_run]
  obtain ⟨f1, f2, f3⟩ := fin_eq hs.1
  rw [f1, f2, f3]
  exact ⟨rfl, hs.2, hg⟩
theorem Rl.wk {N F k : Nat} {b : Bk} {g : Md} (h : Rl N F b g) (hk : k ≤ N) {q : Md} (hq : kept g q) : wk_ok q k := wk_of (F := F) (by have := h.1; omega) (by rw [hq.1]; exact h.2.2.1) h.2.1 (fun e he => (h.2.2.2.1 e (by omega)).1.kept hq)
