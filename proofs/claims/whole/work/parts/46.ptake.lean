/-! PURE: an act is taken or not, in class and reference -/
theorem EV.more {g g2 : Md} {F F2 e : Nat} (hF : F ≤ F2) (h : ∀ r, r ≤ 6 → g2.1 r e = g.1 r e) (hE : EV g F e) : EV g2 F2 e := by
  obtain ⟨a1, a2, a3, a4, a5, a6, a7, a8, a9⟩ := hE
  unfold EV
  rw [h 0 (by decide), h 1 (by decide), h 2 (by decide), h 3 (by decide), h 4 (by decide), h 5 (by decide), h 6 (by decide)]
  refine ⟨a1, a2, a3, fun q => ?_, fun q => ?_, fun q => ?_, fun q => ?_, a8, fun q => ?_⟩
  · obtain ⟨j, a, k, o, h1, h2⟩ := a4 q
    exact ⟨j, a, k, o, by omega, h2⟩
  · obtain ⟨i, j, a, h1, h2, h3⟩ := a5 q
    exact ⟨i, j, a, h1, by omega, h3⟩
  · obtain ⟨i, i2, j, h1, h2, h3, h4⟩ := a6 q
    exact ⟨i, i2, j, h1, h2, by omega, h4⟩
  · obtain ⟨i, o, h1, h2⟩ := a7 q
    exact ⟨i, o, by omega, h2⟩
  · obtain ⟨i, h1, h2⟩ := a9 q
    exact ⟨i, by omega, h2⟩
theorem ER.same {b b2 : Bk} {g g2 : Md} {e : Nat} (hb : ∀ r, r ≤ 7 → b2.1 r e = b.1 r e) (h : ∀ r, r ≤ 6 → g2.1 r e = g.1 r e) (hR : ER b g e) : ER b2 g2 e := by
  unfold ER
  rw [h 0 (by decide), h 1 (by decide), h 2 (by decide), h 3 (by decide), h 4 (by decide), h 5 (by decide), h 6 (by decide), hb 0 (by decide), hb 1 (by decide), hb 2 (by decide), hb 3 (by decide), hb 4 (by decide), hb 5 (by decide), hb 6 (by decide), hb 7 (by decide)]
  exact hR
theorem Rl.en {N F : Nat} {b : Bk} {g : Md} (h : Rl N F b g) : ∀ i, i < b.2 0 → en_ok b (z_at 80 (b.1 8) (nI i)) := by
  intro i hi
  obtain ⟨O, o1, o2, o3, o4, o5⟩ := h.2.2.2.2
  have hN := h.1
  have hF := h.2.1
  obtain ⟨x, hx⟩ : ∃ x, O[i]? = some x := ⟨O[i]'(by omega), List.getElem?_eq_getElem (by omega)⟩
  have hxN := ((o5 x).mp (List.mem_of_getElem? hx)).1
  obtain ⟨hE, hR⟩ := h.2.2.2.1 x hxN
  rw [zat (show i < 80 by omega) (by decide), o3 i x hx]
  unfold en_ok
  rw [zat (show x < 80 by omega) (by decide), zat (show x < 80 by omega) (by decide), hR.1, hR.2.2.2.1]
  refine ⟨fun q => ?_, fun q => ?_, fun q => ?_⟩
  · obtain ⟨j, a, k, o, h1, -, -, -, h6, -⟩ := hE.2.2.2.1 q
    exact ⟨j, by omega, h6⟩
  · obtain ⟨i2, j, a, h1, h2, -, -, h6, -⟩ := hE.2.2.2.2.1 q
    exact ⟨j, by omega, h6⟩
  · obtain ⟨i2, i3, j, h1, h2, h3, -, -, h6⟩ := hE.2.2.2.2.2.1 q
    exact ⟨j, by omega, h6⟩
/-- where the entries of a knowing are the same (prices may have come), all acts that fitted fit -/
theorem AF_step {N F N2 F2 kM kC : Nat} {b b2 : Bk} {g g2 : Md} (h : Rl N F b g) (h2 : Rl N2 F2 b2 g2) (hM : kM ≤ N) (hC : kC ≤ N2) (hMC : kM ≤ kC) (he : ∀ e, e < kM → ∀ r, r ≤ 6 → g2.1 r e = g.1 r e) (hp : ∀ e, kM ≤ e → e < kC → g2.1 0 e = 0) (ha : ∀ d, (ld_show d b kM (nI 200) (-1)).1 = 1) : ∀ d, (ld_show d b2 kC (nI 200) (-1)).1 = 1 := by
  intro d
  have hN := h.1
  have hN2 := h2.1
  have e1 : (g_works g kM 200 (-1)).1 = 1 := by
    rw [← (show_eq h hM (show 200 ≤ 200 by omega) d).1]
    exact ha d
  have hL : sqM g2 kC 8 (200 - 7) = sqM g kM 8 (200 - 7) := by
    refine sorted_one (ltE_ir (yrN g2)) (ltE_as (yrN g2)) _ _ (srt_sqM (by omega)) ?_ (fun x => ?_)
    · refine List.Pairwise.imp_of_mem ?_ (srt_sqM (g := g) (kn := kM) (show 200 ≤ 200 by omega))
      intro p q hp hq hpq
      have hp2 := ((mem_sqM (show 200 ≤ 200 by omega)).mp hp).1
      have hq2 := ((mem_sqM (show 200 ≤ 200 by omega)).mp hq).1
      unfold ltE yrN at hpq ⊢
      rw [he p hp2 1 (by decide), he q hq2 1 (by decide)]
      exact hpq
    · rw [mem_sqM (show 200 ≤ 200 by omega), mem_sqM (show 200 ≤ 200 by omega)]
      constructor
      · rintro ⟨a1, a2, y, a3, a4⟩
        have hx : x < kM := by
          rcases Nat.lt_or_ge x kM with c | c
          · exact c
          · exact absurd (hp x c a1) a2
        rw [he x hx 0 (by decide)] at a2
        rw [he x hx 1 (by decide)] at a4
        exact ⟨hx, a2, y, a3, a4⟩
      · rintro ⟨a1, a2, y, a3, a4⟩
        rw [← he x a1 0 (by decide)] at a2
        rw [← he x a1 1 (by decide)] at a4
        exact ⟨by omega, a2, y, a3, a4⟩
  have hV : PV g kM := PV_of (fun e he => (h.2.2.2.1 e (by omega)).1)
  have hV2 : PV g2 kC := PV_of (fun e he => (h2.2.2.2.1 e (by omega)).1)
  have hm : ∀ x, x ∈ sqM g kM 8 (200 - 7) → x < 80 ∧ EV g F x ∧ ER b2 g x ∧ ¬ g.1 0 x = 0 ∧ AVR False g kM b2 kC (g.1 1 x) := fun x hx => by
    obtain ⟨a1, a2, y, a3, a4⟩ := (mem_sqM (show 200 ≤ 200 by omega)).mp hx
    refine ⟨by omega, (h.2.2.2.1 x (by omega)).1, (h2.2.2.2.1 x (by omega)).2.same (fun _ _ => rfl) (fun r hr => (he x a1 r hr).symm), a2, ?_⟩
    rw [a4]
    intro z
    refine ⟨fun q => ?_, fun f => f.elim⟩
    rw [h2.mean hC a3.2 (kept.rf g2)]
    exact avg_more a3.2 hMC hV hV2 (fun e hee h0 => by
      rw [he e hee 0 (by decide), he e hee 1 (by decide), he e hee 2 (by decide)]
      exact ⟨h0, rfl, rfl⟩) q
  obtain ⟨O, o1, o2, -, -, -, -, o7⟩ := h.list hM (show 200 ≤ 200 by omega)
  have hlen : (sqM g kM 8 (200 - 7)).length ≤ 80 := by
    rw [← o7]
    have := List.length_filter_le (inB b kM (nI 200)) O
    omega
  rw [works_run] at e1
  have e2 := fin_one (fun z hz => (hm z hz).1) e1
  have hs := simrun (c := False) (ti := -1) hV (sqM g kM 8 (200 - 7)) 0 (ld_set (ld_wipe d 60) 0) (md_set (md_wipe g 60) 0) hm (by omega) (sim_start False d g) (good_start h.2.2.1 h.2.1) (kept_start g) (Or.inr (by rw [e2]; exact fun q => by cases q))
  obtain ⟨P, p1, p2, p3, p4, p5, p6, p7⟩ := h2.list hC (show 200 ≤ 200 by omega)
  have eC : ld_show d b2 kC (nI 200) (-1) = finC (runCT b2 kC (-1) (sqM g kM 8 (200 - 7)) (ld_set (ld_wipe d 60) 0)) := by
    unfold ld_show
    rw [← p1, shw_run (by omega) P 0 _ p3 (fun j x hx => by
      have hj : j < P.length := (List.getElem?_eq_some_iff.mp hx).1
      rw [Nat.zero_add]
      exact ⟨by omega, p4 j x hx⟩), runS_run P _ p5 (fun x hx q => absurd q (m1_ne x (p3 x hx))), p7, hL]
  rw [eC]
  have e3 := hs.1.trans e2
  unfold finC
  rw [e3]
/-- a draft: at place N alone the entries differ from those that are kept -/
def DR (N : Nat) (b b1 : Bk) (g G : Md) : Prop := b1.2 = b.2 ∧ (∀ r, r ≤ 7 → ∀ e, ¬ e = N → b1.1 r e = b.1 r e) ∧ (∀ r, 8 ≤ r → b1.1 r = b.1 r) ∧ G.2.2.1 = g.2.2.1 ∧ (∀ r, r ≤ 6 → ∀ e, ¬ e = N → G.1 r e = g.1 r e) ∧ (∀ r, 7 ≤ r → r ≤ 10 → G.1 r = g.1 r)
theorem OR_congr {b b2 : Bk} {N : Nat} (h0 : b2.2 0 = b.2 0) (h8 : b2.1 8 = b.1 8) (he : ∀ e, e < N → b2.1 0 e = b.1 0 e ∧ b2.1 1 e = b.1 1 e) (h : OR b N) : OR b2 N := by
  obtain ⟨O, o1, o2, o3, o4, o5⟩ := h
  refine ⟨O, by rw [h0]; exact o1, o2, by rw [h8]; exact o3, ?_, fun x => ?_⟩
  · refine List.Pairwise.imp_of_mem ?_ o4
    intro p q hp hq hpq
    unfold ltE yrB at hpq ⊢
    rw [(he p ((o5 p).mp hp).1).2, (he q ((o5 q).mp hq).1).2]
    exact hpq
  · rw [o5 x]
    constructor
    · rintro ⟨h1, h2⟩
      exact ⟨h1, by rw [(he x h1).1]; exact h2⟩
    · rintro ⟨h1, h2⟩
      exact ⟨h1, by rw [← (he x h1).1]; exact h2⟩
theorem bkrow_ne {b : Bk} {r i : Nat} {x : Int32} {r2 i2 : Nat} (h : ¬ (r2 = r ∧ i2 = i)) : (bk_row b r i x).1 r2 i2 = b.1 r2 i2 := by
  show up2 b.1 r i x r2 i2 = _
  unfold up2
  by_cases h1 : r2 = r
  · subst h1
    rw [if_pos rfl]
    exact if_neg (fun q => h ⟨rfl, q⟩)
  · rw [if_neg h1]
theorem bkrow_eq {b : Bk} {r i : Nat} {x : Int32} {r2 i2 : Nat} (h1 : r2 = r) (h2 : i2 = i) : (bk_row b r i x).1 r2 i2 = x := by
  subst h1
  subst h2
  show up2 b.1 r2 i2 x r2 i2 = _
  unfold up2
  rw [if_pos rfl]
  exact if_pos rfl
theorem bkrow_r {b : Bk} {r i : Nat} {x : Int32} {r2 : Nat} (h : ¬ r2 = r) : (bk_row b r i x).1 r2 = b.1 r2 := if_neg h
def tk_b (b : Bk) (n : Nat) : Bk := if n = 0 then b else bk_put b 7 (nI (b.2 2))
theorem td_b_eq (b : Bk) (n : Nat) : td_b b n = bk_file (tk_b b n) := rfl
theorem tk_2 (b : Bk) (n : Nat) : (tk_b b n).2 = b.2 := by
  unfold tk_b
  split <;> rfl
theorem tk_ne (b : Bk) (n r e : Nat) (h : ¬ (r = 7 ∧ e = b.2 1)) : (tk_b b n).1 r e = b.1 r e := by
  unfold tk_b
  split
  · rfl
  · exact bkrow_ne h
theorem tk_r (b : Bk) (n r : Nat) (h : ¬ r = 7) : (tk_b b n).1 r = b.1 r := by
  unfold tk_b
  split
  · rfl
  · exact bkrow_r h
theorem tk_7 (b : Bk) (n : Nat) : (tk_b b n).1 7 (b.2 1) = if n = 0 then b.1 7 (b.2 1) else nI (b.2 2) := by
  unfold tk_b
  split
  · rfl
  · exact bkrow_eq rfl rfl
theorem g2_r (G : Md) (n r : Nat) (h : ¬ r = 6) : (g_t3 (g_mk G n) n).1 r = G.1 r := by
  show (if nI n ≤ 0 then G.1 else up2 G.1 6 (G.2.2.1 0) (nI (G.2.2.1 1))) r = G.1 r
  split
  · rfl
  · exact if_neg h
theorem g2_6 (G : Md) (n e : Nat) (hn : n ≤ 2) : (g_t3 (g_mk G n) n).1 6 e = if n = 0 then G.1 6 e else if e = G.2.2.1 0 then nI (G.2.2.1 1) else G.1 6 e := by
  show (if nI n ≤ 0 then G.1 else up2 G.1 6 (G.2.2.1 0) (nI (G.2.2.1 1))) 6 e = _
  by_cases h : n = 0
  · subst h
    rw [if_pos (show nI 0 ≤ 0 by decide), if_pos rfl]
  · rw [if_neg (show ¬ nI n ≤ 0 from fun q => h (Nat.le_zero.mp ((nI_leI (b := 0) (by omega) (by decide)).mp q))), if_neg h]
    unfold up2
    rw [if_pos rfl]
    rfl
theorem g2_ne (G : Md) (n r e : Nat) (hn : n ≤ 2) (h : ¬ e = G.2.2.1 0) : (g_t3 (g_mk G n) n).1 r e = G.1 r e := by
  by_cases h6 : r = 6
  · subst h6
    rw [g2_6 G n e hn, if_neg h]
    split <;> rfl
  · rw [g2_r G n r h6]
section TAKE
variable {b b1 : Bk} {g G : Md} {n : Nat}
theorem take_rows (h : Inv b g) (hD : DR (b.2 1) b b1 g G) (hn : n ≤ 2) : (∀ e, ¬ e = b.2 1 → ∀ r, r ≤ 7 → (td_b b1 n).1 r e = b.1 r e) ∧ (∀ e, ¬ e = b.2 1 → ∀ r, r ≤ 6 → (g_t3 (g_mk G n) n).1 r e = g.1 r e) ∧ (∀ r, 9 ≤ r → (td_b b1 n).1 r = b.1 r) ∧ (∀ r, 7 ≤ r → r ≤ 10 → (g_t3 (g_mk G n) n).1 r = g.1 r) := by
  obtain ⟨d1, d2, d3, d4, d5, d6⟩ := hD
  refine ⟨fun e he r hr => ?_, fun e he r hr => ?_, fun r hr => ?_, fun r h7 h10 => ?_⟩
  · rw [td_b_eq, bfile_r _ _ (by omega), tk_ne _ _ _ _ (by rw [d1]; exact fun q => he q.2)]
    exact d2 r hr e he
  · rw [g2_ne G n r e hn (by rw [d4, h.2.1]; exact he)]
    exact d5 r hr e he
  · rw [td_b_eq, bfile_r _ _ (by omega), tk_r _ _ _ (by omega)]
    exact d3 r (by omega)
  · rw [g2_r G n r (by omega)]
    exact d6 r h7 h10
theorem take_Rl (h : Inv b g) (hD : DR (b.2 1) b b1 g G) (hn : n ≤ 2) (h80 : b.2 1 < 80) (h60 : b.2 2 + n ≤ 60) (hE : EV (g_t3 (g_mk G n) n) (b.2 2 + n) (b.2 1)) (hR : ER (td_b b1 n) (g_t3 (g_mk G n) n) (b.2 1)) (hs : ¬ (g_t3 (g_mk G n) n).1 0 (b.2 1) = 0) : Rl (b.2 1 + 1) (b.2 2 + n) (td_b b1 n) (g_t3 (g_mk G n) n) := by
  obtain ⟨w1, w2, w3, w4⟩ := take_rows h hD hn
  have d1 := hD.1
  refine ⟨by omega, h60, ?_, fun e he => ?_, ?_⟩
  · show G.2.2.1 1 + n = b.2 2 + n
    rw [hD.2.2.2.1, h.1.2.2.1]
  · by_cases c : e = b.2 1
    · subst c
      exact ⟨hE, hR⟩
    · obtain ⟨a1, a2⟩ := h.1.2.2.2.1 e (by omega)
      exact ⟨a1.more (by omega) (fun r hr => w2 e c r hr), a2.same (fun r hr => w1 e c r hr) (fun r hr => w2 e c r hr)⟩
  · rw [td_b_eq]
    have e2 : (tk_b b1 n).2 = b.2 := by rw [tk_2, d1]
    have r8 : ∀ r, r ≤ 7 → (td_b b1 n).1 r = (tk_b b1 n).1 r := fun r hr => by rw [td_b_eq, bfile_r _ _ (by omega)]
    refine OR_file (N := b.2 1) (by rw [e2]) h80 (OR_congr (b := b) (by rw [e2]) (by rw [tk_r _ _ _ (by decide)]; exact hD.2.2.1 8 (by decide)) (fun e he => ?_) h.1.2.2.2.2) ?_ (fun x hx hx0 => ?_)
    · rw [← r8 0 (by decide), ← r8 1 (by decide)]
      exact ⟨w1 e (by omega) 0 (by decide), w1 e (by omega) 1 (by decide)⟩
    · rw [← r8 0 (by decide), hR.1]
      exact hs
    · rw [← r8 0 (by decide)] at hx0
      rw [← r8 1 (by decide)]
      by_cases c : x = b.2 1
      · subst c
        obtain ⟨y, hy, ey⟩ := hE.2.1 hs
        exact ⟨y, hy.2, hR.2.1.trans ey⟩
      · rw [w1 x c 0 (by decide)] at hx0
        obtain ⟨y, hy, ey, -⟩ := h.1.year (show x < b.2 1 by omega) hx0
        rw [w1 x c 1 (by decide)]
        exact ⟨y, hy.2, ey⟩
theorem take_ok (h2 : Rl (b.2 1 + 1) (b.2 2 + n) (td_b b1 n) (g_t3 (g_mk G n) n)) : td_ok b1 n := h2.en
theorem take_wk (h2 : Rl (b.2 1 + 1) (b.2 2 + n) (td_b b1 n) (g_t3 (g_mk G n) n)) (e : g.2.2.1 0 = b.2 1) : wk_ok (g_t3 (g_mk G n) n) (g.2.2.1 0 + 1) := by
  rw [e]
  exact h2.wk (Nat.le_refl _) (kept.rf _)
theorem take_eq (h : Inv b g) (hD : DR (b.2 1) b b1 g G) (h2 : Rl (b.2 1 + 1) (b.2 2 + n) (td_b b1 n) (g_t3 (g_mk G n) n)) (d : Ld) : (td_show b1 d n).1 = (g_tw G n).1 := by
  unfold td_show g_tw
  rw [hD.1, hD.2.2.2.1, h.2.1]
  exact (show_eq h2 (Nat.le_refl _) (show 200 ≤ 200 by omega) d).1
theorem take_no (h : Inv b g) (hD : DR (b.2 1) b b1 g G) (hn : n ≤ 2) (h80 : b.2 1 < 80) (h2 : Rl (b.2 1 + 1) (b.2 2 + n) (td_b b1 n) (g_t3 (g_mk G n) n)) (hs : ¬ (g_t3 (g_mk G n) n).1 0 (b.2 1) = 0) : Inv (bk_wdraw (td_b b1 n)) (g_take G n) := by
  obtain ⟨w1, w2, w3, w4⟩ := take_rows h hD hn
  have hk : kept (g_t3 (g_mk G n) n) (g_tw G n).2 := kept_works _ _ _ _
  have s1 : (bk_wdraw (td_b b1 n)).2 1 = b.2 1 := by
    show (tk_b b1 n).2 1 = b.2 1
    rw [tk_2, hD.1]
  have s2 : (bk_wdraw (td_b b1 n)).2 2 = b.2 2 := by
    show (tk_b b1 n).2 2 = b.2 2
    rw [tk_2, hD.1]
  have t1 : (td_b b1 n).2 1 = b.2 1 := by
    show (tk_b b1 n).2 1 = b.2 1
    rw [tk_2, hD.1]
  have rb : ∀ e, ¬ e = b.2 1 → ∀ r, r ≤ 7 → (bk_wdraw (td_b b1 n)).1 r e = b.1 r e := fun e he r hr => by
    rw [wdraw_r _ _ (by omega)]
    exact w1 e he r hr
  have rg : ∀ e, ¬ e = b.2 1 → ∀ r, r ≤ 6 → (g_take G n).1 r e = g.1 r e := fun e he r hr => by
    show (g_tw G n).2.1 r e = g.1 r e
    rw [hk.2 r (by omega)]
    exact w2 e he r hr
  have rg2 : ∀ r, 7 ≤ r → r ≤ 10 → (g_take G n).1 r = g.1 r := fun r h7 h10 => by
    show (g_tw G n).2.1 r = g.1 r
    rw [hk.2 r h10]
    exact w4 r h7 h10
  have hRl : Rl (b.2 1) (b.2 2) (bk_wdraw (td_b b1 n)) (g_take G n) := by
    refine ⟨h.1.1, h.1.2.1, ?_, fun e he => ?_, ?_⟩
    · show G.2.2.1 1 = b.2 2
      rw [hD.2.2.2.1, h.1.2.2.1]
    · obtain ⟨a1, a2⟩ := h.1.2.2.2.1 e he
      exact ⟨a1.more (Nat.le_refl _) (fun r hr => rg e (by omega) r hr), a2.same (fun r hr => rb e (by omega) r hr) (fun r hr => rg e (by omega) r hr)⟩
    · refine OR_wdraw t1 h80 h2.2.2.2.2 ?_
      rw [(h2.2.2.2.1 (b.2 1) (by omega)).2.1]
      exact hs
  unfold Inv
  rw [s1, s2]
  refine ⟨hRl, ?_, fun f hf => ?_, fun k hk => ?_⟩
  · show G.2.2.1 0 = b.2 1
    rw [hD.2.2.2.1, h.2.1]
  · obtain ⟨⟨e, he, m1, m2, m3, m4⟩, m5, m6⟩ := h.2.2.1 f hf
    rw [rg2 7 (by decide) (by decide), rg2 8 (by decide) (by decide), rg2 9 (by decide) (by decide), rg2 10 (by decide) (by decide), wdraw_r _ 9 (by decide), wdraw_r _ 10 (by decide), w3 9 (by decide), w3 10 (by decide)]
    refine ⟨⟨e, he, m1, m2, ?_, ?_⟩, m5, m6⟩
    · rw [rb e (by omega) 2 (by decide)]
      exact m3
    · rw [rb e (by omega) 3 (by decide)]
      exact m4
  · exact AF_step h.1 hRl hk hk (Nat.le_refl k) (fun e he r hr => rg e (by omega) r hr) (fun e h1 h2 => absurd h2 (by omega)) (fun d => h.2.2.2 k hk d)
theorem take_yes (h : Inv b g) (hD : DR (b.2 1) b b1 g G) (hn : n ≤ 2) (h2 : Rl (b.2 1 + 1) (b.2 2 + n) (td_b b1 n) (g_t3 (g_mk G n) n)) (ht : ¬ (g_tw G n).1 = 0) {b4 : Bk} {g4 : Md} (s0 : b4.2 0 = (td_b b1 n).2 0) (s1 : b4.2 1 = b.2 1 + 1) (s2 : b4.2 2 = b.2 2 + n) (rb : ∀ r, r ≤ 8 → b4.1 r = (td_b b1 n).1 r) (u0 : g4.2.2.1 0 = b.2 1 + 1) (u1 : g4.2.2.1 1 = b.2 2 + n) (rg : ∀ r, r ≤ 6 → g4.1 r = (g_t3 (g_mk G n) n).1 r) (hf : FRl (b.2 1 + 1) (b.2 2 + n) b4 g4) : Inv b4 g4 := by
  obtain ⟨w1, w2, w3, w4⟩ := take_rows h hD hn
  have hRl : Rl (b.2 1 + 1) (b.2 2 + n) b4 g4 := by
    refine ⟨h2.1, h2.2.1, u1, fun e he => ?_, OR_congr s0 (rb 8 (by decide)) (fun e _ => by rw [rb 0 (by decide), rb 1 (by decide)]; exact ⟨rfl, rfl⟩) h2.2.2.2.2⟩
    obtain ⟨a1, a2⟩ := h2.2.2.2.1 e he
    exact ⟨a1.more (Nat.le_refl _) (fun r hr => by rw [rg r hr]), a2.same (fun r hr => by rw [rb r (by omega)]) (fun r hr => by rw [rg r hr])⟩
  unfold Inv
  rw [s1, s2]
  refine ⟨hRl, u0, hf, fun k hk => ?_⟩
  rcases Nat.lt_or_ge (b.2 1) k with c | c
  · have e : k = b.2 1 + 1 := by omega
    subst e
    refine AF_step h2 hRl (Nat.le_refl _) (Nat.le_refl _) (Nat.le_refl _) (fun e _ r hr => by rw [rg r hr]) (fun e h1 h2 => absurd h2 (by omega)) (fun d => ?_)
    rw [(show_eq h2 (Nat.le_refl _) (show 200 ≤ 200 by omega) d).1]
    have e9 : (g_works (g_t3 (g_mk G n) n) (b.2 1 + 1) 200 (-1)).1 = (g_tw G n).1 := by
      unfold g_tw
      rw [hD.2.2.2.1, h.2.1]
    rw [e9]
    rcases g_tw_01 G n with z | z
    · exact absurd z ht
    · exact z
  · exact AF_step h.1 hRl c (by omega) (Nat.le_refl k) (fun e he r hr => by rw [rg r hr]; exact w2 e (by omega) r hr) (fun e h1 h2 => absurd h2 (by omega)) (fun d => h.2.2.2 k c d)
end TAKE
