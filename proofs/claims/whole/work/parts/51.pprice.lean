/-! PURE: price -/
theorem OR_price {b b2 : Bk} {N : Nat} (h0 : b2.2 0 = b.2 0) (h8 : b2.1 8 = b.1 8) (he : ∀ e, e < N → b2.1 0 e = b.1 0 e ∧ b2.1 1 e = b.1 1 e) (hn : b2.1 0 N = 0) (h : OR b N) : OR b2 (N + 1) := by
  obtain ⟨O, o1, o2, o3, o4, o5⟩ := OR_congr h0 h8 he h
  refine ⟨O, o1, by omega, o3, o4, fun x => ?_⟩
  rw [o5 x]
  constructor
  · rintro ⟨h1, h2⟩
    exact ⟨by omega, h2⟩
  · rintro ⟨h1, h2⟩
    refine ⟨?_, h2⟩
    rcases Nat.lt_or_ge x N with c | c
    · exact c
    · have : x = N := by omega
      subst this
      exact absurd hn h2
theorem q_price {b : Bk} {g : Md} (h : Inv b g) (y cn q : Int32) : r_price b y cn q = m_price g y cn q ∧ Inv (b_price b y cn q) (g_price g y cn q) := by
  have hN := h.1.1
  have hF := h.1.2.1
  have eN := h.2.1
  unfold r_price m_price b_price g_price
  simp only [h.2.1]
  by_cases c1 : b.2 1 < 80
  · repeat rw [if_neg ((full_C hN).mpr c1)]
    repeat rw [if_neg ((full_M hN).mpr c1)]
    by_cases c2 : 1 ≤ y ∧ y ≤ 200
    · repeat rw [if_pos c2]
      by_cases c3 : 0 ≤ cn ∧ cn ≤ 2
      · repeat rw [if_pos c3]
        by_cases c4 : 1 ≤ q ∧ q ≤ 1000
        · repeat rw [if_pos c4]
          refine ⟨rfl, ?_⟩
          obtain ⟨yn, hy, ey⟩ := rngN (lo := 1) (hi := 200) (by decide) (by decide) c2
          obtain ⟨qn, hq, eq⟩ := rngN (lo := 1) (hi := 1000) (by decide) (by decide) c4
          have e2 : (bk_price b y cn q).2 = b.2 := rfl
          have rn : ∀ r, r ≤ 7 → ∀ e, ¬ e = b.2 1 → (bk_price b y cn q).1 r e = b.1 r e := fun r hr e he => by
            unfold bk_price
            refine Eq.trans (put_ne (fun w => he w.2)) ?_
            refine Eq.trans (put_ne (fun w => he w.2)) ?_
            exact draft_ne he
          have r8 : ∀ r, 8 ≤ r → (bk_price b y cn q).1 r = b.1 r := fun r hr => by
            unfold bk_price
            rw [put_r (by omega), put_r (by omega), draft_r hr]
          have v0 : (bk_price b y cn q).1 0 (b.2 1) = 0 := by
            unfold bk_price
            rw [put_ne (by omega), put_ne (by omega), draft_0]
          have v1 : (bk_price b y cn q).1 1 (b.2 1) = y := by
            unfold bk_price
            rw [put_ne (by omega), put_ne (by omega), draft_1]
          have v2 : (bk_price b y cn q).1 2 (b.2 1) = cn := by
            unfold bk_price
            rw [put_ne (by omega)]
            exact put_eq rfl rfl
          have v4 : (bk_price b y cn q).1 4 (b.2 1) = q := by
            unfold bk_price
            exact put_eq rfl rfl
          have v7 : (bk_price b y cn q).1 7 (b.2 1) = -1 := by
            unfold bk_price
            rw [put_ne (by omega), put_ne (by omega), draft_m (by decide) (by decide)]
          obtain ⟨k0, k1, k2⟩ := keep_2 (bk_price b y cn q) 0
          have kr := fun r hr => keep_r (bk_price b y cn q) 0 r hr
          have mr : ∀ r, (md_sc (md_writes g 0 y cn (-1) q 0) 0 (b.2 1 + 1)).1 r = (md_writes g 0 y cn (-1) q 0).1 r := fun r => rfl
          obtain ⟨m0, m1, m2, m3, m4, m5, m6⟩ := wr_at (g := g) (s := 0) (y := y) (f := cn) (h := -1) (x := q) (z := 0)
          rw [eN] at m0 m1 m2 m3 m4 m5 m6
          have mn : ∀ r e, ¬ e = b.2 1 → (md_writes g 0 y cn (-1) q 0).1 r e = g.1 r e := fun r e he => wr_ne (by rw [eN]; exact he)
          have s0 : (bk_keep (bk_price b y cn q) 0).2 0 = b.2 0 := k0
          have s1 : (bk_keep (bk_price b y cn q) 0).2 1 = b.2 1 + 1 := k1
          have s2 : (bk_keep (bk_price b y cn q) 0).2 2 = b.2 2 := k2
          have hRl : Rl (b.2 1 + 1) (b.2 2) (bk_keep (bk_price b y cn q) 0) (md_sc (md_writes g 0 y cn (-1) q 0) 0 (b.2 1 + 1)) := by
            refine ⟨by omega, hF, h.1.2.2.1, fun e he => ?_, OR_price (b := b) s0 (by rw [kr 8 (by decide)]; exact r8 8 (by decide)) (fun e he => ?_) (by rw [kr 0 (by decide)]; exact v0) h.1.2.2.2.2⟩
            · by_cases c : e = b.2 1
              · subst c
                refine ⟨⟨Or.inl m0, fun w => absurd m0 w, fun _ => ⟨yn, qn, hy, hq, m1.trans ey, m4.trans eq⟩, fun w => absurd (m0.symm.trans w) (by decide), fun w => absurd (m0.symm.trans w) (by decide), fun w => absurd (m0.symm.trans w) (by decide), fun w => absurd (m0.symm.trans w) (by decide), fun w => absurd (m0.symm.trans w) (by decide), fun w => absurd (m0.symm.trans w) (by decide)⟩, ?_⟩
                unfold ER
                rw [kr 0 (by decide), kr 1 (by decide), kr 2 (by decide), kr 3 (by decide), kr 4 (by decide), kr 5 (by decide), kr 6 (by decide), kr 7 (by decide)]
                exact ⟨v0.trans m0.symm, v1.trans m1.symm, v2.trans m2.symm, v7.trans m6.symm, fun _ => v4.trans m4.symm, fun w => absurd (m0.symm.trans w) (by decide), fun w => absurd (m0.symm.trans w) (by decide), fun w => absurd (m0.symm.trans w) (by decide), fun w => absurd (m0.symm.trans w) (by decide), fun w => absurd (m0.symm.trans w) (by decide)⟩
              · obtain ⟨a1, a2⟩ := h.1.2.2.2.1 e (by omega)
                exact ⟨a1.more (Nat.le_refl _) (fun r hr => mn r e c), a2.same (fun r hr => by rw [kr r (by omega)]; exact rn r hr e c) (fun r hr => mn r e c)⟩
            · rw [kr 0 (by decide), kr 1 (by decide)]
              exact ⟨rn 0 (by decide) e (by omega), rn 1 (by decide) e (by omega)⟩
          unfold Inv
          rw [s1, s2]
          refine ⟨hRl, rfl, ?_, fun k hk => ?_⟩
          · refine FR_new (n := 0) h.2.2.1 (fun f hf => ?_) (fun e he => ?_) (fun f h1 h3 => absurd h3 (by omega))
            · have e7 : ∀ r, 7 ≤ r → (md_sc (md_writes g 0 y cn (-1) q 0) 0 (b.2 1 + 1)).1 r f = g.1 r f := fun r h7 => by
                rw [mr r, wr_r h7]
              refine ⟨?_, e7 7 (by decide), e7 9 (by decide), e7 10 (by decide), Or.inr ⟨?_, e7 8 (by decide)⟩⟩
              · rw [keep_9, if_neg (by omega), r8 9 (by decide)]
              · rw [(keep_10 (bk_price b y cn q) 0 f (by rw [e2]; exact c1) 0 v0).1 (by decide) (by decide), if_neg (by omega), r8 10 (by decide)]
            · rw [kr 2 (by decide), kr 3 (by decide)]
              exact ⟨rn 2 (by decide) e (by omega), rn 3 (by decide) e (by omega)⟩
          · rcases Nat.lt_or_ge (b.2 1) k with c | c
            · have e : k = b.2 1 + 1 := by omega
              subst e
              exact AF_step h.1 hRl (Nat.le_refl _) (Nat.le_refl _) (by omega) (fun e he r hr => mn r e (by omega)) (fun e h1 h3 => by
                have e9 : e = b.2 1 := by omega
                subst e9
                exact m0) (fun d => h.2.2.2 _ (Nat.le_refl _) d)
            · exact AF_step h.1 hRl c (by omega) (Nat.le_refl k) (fun e he r hr => mn r e (by omega)) (fun e h1 h3 => absurd h3 (by omega)) (fun d => h.2.2.2 k c d)
        · repeat rw [if_neg c4]
          exact ⟨rfl, h⟩
      · repeat rw [if_neg c3]
        exact ⟨rfl, h⟩
    · repeat rw [if_neg c2]
      exact ⟨rfl, h⟩
  · repeat rw [if_pos (show (80 : Int32) ≤ nI (b.2 1) from Decidable.not_not.mp (fun w => c1 ((full_C hN).mp w)))]
    repeat rw [if_pos (show nI (b.2 1) = 80 from Decidable.not_not.mp (fun w => c1 ((full_M hN).mp w)))]
    exact ⟨rfl, h⟩
/-! what the contracts ask of a state between calls -/
theorem Inv.c1 {b : Bk} {g : Md} (h : Inv b g) : b.2 0 ≤ b.2 1 := by
  obtain ⟨O, o1, o2, -⟩ := h.1.2.2.2.2
  omega
theorem Inv.wk {b : Bk} {g : Md} (h : Inv b g) {q : Md} (hq : kept g q) (k : Nat) (hk : k ≤ g.2.2.1 0) : wk_ok q k := h.1.wk (by rw [← h.2.1]; exact hk) hq
theorem Inv.cost {b : Bk} {g : Md} (h : Inv b g) : ∀ j, j < b.2 1 → g.1 0 j = 6 → (∃ i, i < 60 ∧ g.1 2 j = nI i) ∧ (1 ≤ g.1 1 j ∧ g.1 1 j ≤ 200) := fun j hj h6 => by
  obtain ⟨hE, -⟩ := h.1.2.2.2.1 j hj
  have hF := h.1.2.1
  obtain ⟨i, hi, e2⟩ := hE.2.2.2.2.2.2.2.2 h6
  obtain ⟨y, hy, ey⟩ := hE.2.1 (fun q => absurd (h6.symm.trans q) (by decide))
  rw [ey]
  exact ⟨⟨i, by omega, e2⟩, nI_le (a := 1) (by omega) (by omega), nI_le (b := 200) hy.2 (by omega)⟩
theorem Inv.field {b : Bk} {g : Md} (h : Inv b g) : ∀ i, i < g.2.2.1 1 → vp_in (g.1 7 i) 80 ∧ (¬ g.1 8 i = -1 → vp_in (g.1 8 i) 80) := fun i hi => by
  have hN := h.1.1
  rw [h.1.2.2.1] at hi
  obtain ⟨⟨e, he, m1, m2, m3, m4⟩, m5, m6⟩ := h.2.2.1 i hi
  rw [m2]
  refine ⟨vp_in_nI (by omega) (by decide), fun q => ?_⟩
  rcases m6 with w | ⟨e2, he2, w⟩
  · exact absurd w q
  · rw [w]
    exact vp_in_nI (by omega) (by decide)
