/-! PURE: the seven tellings: the same answers, and what holds between calls holds behind them -/
theorem rngN {lo hi : Nat} {x : Int32} (hl : lo < 2 ^ 31) (hh : hi < 2 ^ 31) (h : nI lo ≤ x ∧ x ≤ nI hi) : ∃ n : Nat, (lo ≤ n ∧ n ≤ hi) ∧ x = nI n := by
  obtain ⟨n, hn, e⟩ := nI_of2 (x := x) (M := nI hi) (n := hi) (nI_toInt hh) (Int32.not_lt.mpr (Int32.le_trans (nI_le (a := 0) (Nat.zero_le lo) hl) h.1)) h.2
  subst e
  exact ⟨n, ⟨(nI_leI hl (by omega)).mp h.1, hn⟩, rfl⟩
theorem posN {x : Int32} (h : 1 ≤ x) : ∃ n : Nat, (1 ≤ n ∧ n < 2 ^ 31) ∧ x = nI n := by
  obtain ⟨n, hn, e⟩ := nI_of (x := x) (Int32.not_lt.mpr (Int32.le_trans (by decide) h))
  subst e
  exact ⟨n, ⟨(nI_leI (a := 1) (by decide) hn).mp h, hn⟩, rfl⟩
theorem m60 {F : Nat} (h : F ≤ 60) : ¬ nI F = 60 ↔ F + 1 ≤ 60 := ⟨fun q => by have := zw_ne60 h q; omega, fun q e => by
  have := (nI_eq (b := 60) (by omega) (by omega)).mp e
  omega⟩
theorem m58 {F : Nat} (h : F ≤ 60) : ¬ (58 : Int32) < nI F ↔ F + 2 ≤ 60 := ⟨fun q => by have := zw_le58 h q; omega, fun q => Int32.not_lt.mpr (nI_le (b := 58) (by omega) (by omega))⟩
theorem Inv_same {b : Bk} {g q : Md} (h : Inv b q) (h1 : ∀ e, e < b.2 1 → ∀ r, r ≤ 6 → g.1 r e = q.1 r e) (h2 : ∀ r, 7 ≤ r → r ≤ 10 → g.1 r = q.1 r) (h3 : g.2.2.1 = q.2.2.1) : Inv b g := by
  refine ⟨⟨h.1.1, h.1.2.1, by rw [h3]; exact h.1.2.2.1, fun e he => ?_, h.1.2.2.2.2⟩, by rw [h3]; exact h.2.1, ?_, h.2.2.2⟩
  · obtain ⟨a1, a2⟩ := h.1.2.2.2.1 e he
    exact ⟨a1.more (Nat.le_refl _) (h1 e he), a2.same (fun _ _ => rfl) (h1 e he)⟩
  · have := h.2.2.1
    unfold FRl
    rw [h2 7 (by decide) (by decide), h2 8 (by decide) (by decide), h2 9 (by decide) (by decide), h2 10 (by decide) (by decide)]
    exact this
/-- a PART above all areas never fits -/
theorem part_big {b b1 : Bk} {g G : Md} (h : Inv b g) (hD : DR (b.2 1) b b1 g G) (h2 : Rl (b.2 1 + 1) (b.2 2 + 2) (td_b b1 2) (g_t3 (g_mk G 2) 2)) (hs : (g_t3 (g_mk G 2) 2).1 0 (b.2 1) = 2) {a : Nat} (ha : (g_t3 (g_mk G 2) 2).1 4 (b.2 1) = nI a) (hb : 10000000 < a) (ha2 : a < 2 ^ 31) : (g_tw G 2).1 = 0 := by
  rcases g_tw_01 G 2 with z | z
  · exact z
  · exfalso
    have e9 : (g_works (g_t3 (g_mk G 2) 2) (b.2 1 + 1) 200 (-1)).1 = 1 := by
      refine Eq.trans ?_ z
      unfold g_tw
      rw [hD.2.2.2.1, h.2.1]
    have hs0 : ¬ (g_t3 (g_mk G 2) 2).1 0 (b.2 1) = 0 := by rw [hs]; decide
    obtain ⟨A, B, a1, a2, a3, a4, a5, a6⟩ := fit_at h2 (Nat.le_refl _) (Nat.lt_succ_self _) hs0 e9
    have h80 := h2.1
    have hV : PV (g_t3 (g_mk G 2) 2) (b.2 1 + 1) := PV_of (fun e he => (h2.2.2.2.1 e he).1)
    obtain ⟨m, hm, hG⟩ := goodrun (ti := -1) hV A 0 (md_set (md_wipe (g_t3 (g_mk G 2) 2) 60) 0) (fun x hx => ⟨(h2.2.2.2.1 x (a2 x hx).1).1, (a2 x hx).2.2⟩) (by omega) (good_start h2.2.2.1 h2.2.1) (kept_start _)
    have hkS : kept (g_t3 (g_mk G 2) 2) (runT (b.2 1 + 1) (-1) A (md_set (md_wipe (g_t3 (g_mk G 2) 2) 60) 0)).2 := (kept_start _).tr (kept_runT _ _ _ _)
    obtain ⟨i, j, aa, hi, hj, haa, e2, e6, e4⟩ := (h2.2.2.2.1 (b.2 1) (Nat.lt_succ_self _)).1.2.2.2.2.1 hs
    generalize (runT (b.2 1 + 1) (-1) A (md_set (md_wipe (g_t3 (g_mk G 2) 2) 60) 0)).2 = S at *
    have r0 : S.1 0 (b.2 1) = 2 := by rw [hkS.2 0 (by decide)]; exact hs
    have r2 : S.1 2 (b.2 1) = nI i := by rw [hkS.2 2 (by decide)]; exact e2
    have r4 : S.1 4 (b.2 1) = nI a := by rw [hkS.2 4 (by decide)]; exact ha
    have hF := h2.2.1
    unfold m_fits at a6
    rw [r0, if_neg (show ¬ (2 : Int32) = 1 by decide), if_pos rfl] at a6
    unfold m_fpart at a6
    rw [r2, r4] at a6
    by_cases c : m_is S (nI i)
    · rw [if_pos c, nI_clamp (by omega)] at a6
      have ht := (m_is_n hG (by omega)).mp c
      obtain ⟨-, ⟨x, hx1, hx2, ex⟩, -⟩ := hG.2.2.1 i (by omega) ht
      have hle := ar_le hG (show i < 60 by omega)
      rw [ar_of ht hx2 ex] at hle
      have ex2 : S.1 12 i = nI x := ex
      rw [ex2, if_pos (nI_le (by omega) ha2)] at a6
      exact a6 rfl
    · rw [if_neg c] at a6
      exact a6 rfl
theorem k_make {b : Bk} {g : Md} (h : Inv b g) (y a kd ow : Int32) : ((¬ 80 ≤ nI (b.2 1) ∧ (8 ≤ y ∧ y ≤ 200) ∧ ¬ 60 < nI (b.2 2) + 1) → (1 ≤ a ∧ a ≤ 10000) → (0 ≤ kd ∧ kd ≤ 2) → (0 ≤ ow ∧ ow ≤ 9) → td_ok (bk_make b y a kd ow) 1) ∧ (¬ nI (g.2.2.1 0) = 80 → ¬ nI (g.2.2.1 1) = 60 → (8 ≤ y ∧ y ≤ 200) → (1 ≤ a ∧ a ≤ 10000) → (0 ≤ kd ∧ kd ≤ 2) → (0 ≤ ow ∧ ow ≤ 9) → wk_ok (g_t3 (g_mk (md_writes g 1 y (-1) kd a ow) 1) 1) (g.2.2.1 0 + 1)) := by
  have hN := h.1.1
  have hF := h.1.2.1
  constructor
  · rintro ⟨a1, c2, a3⟩ d0 d1 d2
    obtain ⟨yn, hy, e_y⟩ := rngN (lo := 8) (hi := 200) (by decide) (by decide) c2
    obtain ⟨an, ha, e_a⟩ := rngN (lo := 1) (hi := 10000) (by decide) (by decide) d0
    obtain ⟨kn, hk, e_kd⟩ := rngN (lo := 0) (hi := 2) (by decide) (by decide) d1
    obtain ⟨on, ho, e_ow⟩ := rngN (lo := 0) (hi := 9) (by decide) (by decide) d2
    subst e_y
    subst e_a
    subst e_kd
    subst e_ow
    exact take_ok (c_make h ((full_C hN).mp a1) ((room_C (n := 1) hF (by decide)).mp a3) yn an kn on hy ha hk.2 ho.2).2.1
  · intro n1 n2 c2 d0 d1 d2
    rw [h.2.1] at n1
    rw [h.1.2.2.1] at n2
    obtain ⟨yn, hy, e_y⟩ := rngN (lo := 8) (hi := 200) (by decide) (by decide) c2
    obtain ⟨an, ha, e_a⟩ := rngN (lo := 1) (hi := 10000) (by decide) (by decide) d0
    obtain ⟨kn, hk, e_kd⟩ := rngN (lo := 0) (hi := 2) (by decide) (by decide) d1
    obtain ⟨on, ho, e_ow⟩ := rngN (lo := 0) (hi := 9) (by decide) (by decide) d2
    subst e_y
    subst e_a
    subst e_kd
    subst e_ow
    exact take_wk (c_make h ((full_M hN).mp n1) ((m60 hF).mp n2) yn an kn on hy ha hk.2 ho.2).2.1 h.2.1

theorem q_make {b : Bk} {g : Md} (h : Inv b g) (d : Ld) (y a kd ow : Int32) : r_make1 b d y a kd ow = m_make1 g y a kd ow ∧ Inv (b_make1 b d y a kd ow) (g_make1 g y a kd ow) := by
  have hN := h.1.1
  have hF := h.1.2.1
  unfold r_make1 m_make1 b_make1 g_make1
  simp only [h.2.1, h.1.2.2.1]
  by_cases c1 : b.2 1 < 80
  · repeat rw [if_neg ((full_M hN).mpr c1)]
    by_cases cf : b.2 2 + 1 ≤ 60
    · repeat rw [if_neg ((m60 hF).mpr cf)]
      by_cases c2 : 8 ≤ y ∧ y ≤ 200
      · have cc : ¬ 80 ≤ nI (b.2 1) ∧ (8 ≤ y ∧ y ≤ 200) ∧ ¬ 60 < nI (b.2 2) + 1 := ⟨(full_C hN).mpr c1, c2, (room_C (n := 1) hF (by decide)).mpr (by omega)⟩
        repeat rw [if_pos cc]
        repeat rw [if_pos c2]
        by_cases d0 : (1 ≤ a ∧ a ≤ 10000)
        · skip
          repeat rw [if_pos d0]
          by_cases d1 : (0 ≤ kd ∧ kd ≤ 2)
          · skip
            repeat rw [if_pos d1]
            by_cases d2 : (0 ≤ ow ∧ ow ≤ 9)
            · skip
              repeat rw [if_pos d2]
              obtain ⟨yn, hy, e_y⟩ := rngN (lo := 8) (hi := 200) (by decide) (by decide) c2
              obtain ⟨an, ha, e_a⟩ := rngN (lo := 1) (hi := 10000) (by decide) (by decide) d0
              obtain ⟨kn, hk, e_kd⟩ := rngN (lo := 0) (hi := 2) (by decide) (by decide) d1
              obtain ⟨on, ho, e_ow⟩ := rngN (lo := 0) (hi := 9) (by decide) (by decide) d2
              subst e_y
              subst e_a
              subst e_kd
              subst e_ow
              obtain ⟨hD, hr, hs, v0, v2, v3, v7⟩ := c_make h c1 cf yn an kn on hy ha hk.2 ho.2
              exact finM1 h hD c1 hr hs v0 v2 v3 v7 d
            · repeat rw [if_neg d2]
              exact ⟨rfl, h⟩
          · repeat rw [if_neg d1]
            exact ⟨rfl, h⟩
        · repeat rw [if_neg d0]
          exact ⟨rfl, h⟩
      · repeat rw [if_neg (show ¬ (¬ 80 ≤ nI (b.2 1) ∧ (8 ≤ y ∧ y ≤ 200) ∧ ¬ 60 < nI (b.2 2) + 1) from fun q => c2 q.2.1)]
        repeat rw [if_neg c2]
        exact ⟨rfl, h⟩
    · repeat rw [if_neg (show ¬ (¬ 80 ≤ nI (b.2 1) ∧ (8 ≤ y ∧ y ≤ 200) ∧ ¬ 60 < nI (b.2 2) + 1) from fun q => cf ((room_C (n := 1) hF (by decide)).mp q.2.2))]
      repeat rw [if_pos (show nI (b.2 2) = 60 from Decidable.not_not.mp (fun q => cf ((m60 hF).mp q)))]
      exact ⟨rfl, h⟩
  · repeat rw [if_neg (show ¬ (¬ 80 ≤ nI (b.2 1) ∧ (8 ≤ y ∧ y ≤ 200) ∧ ¬ 60 < nI (b.2 2) + 1) from fun q => c1 ((full_C hN).mp q.1))]
    repeat rw [if_pos (show nI (b.2 1) = 80 from Decidable.not_not.mp (fun q => c1 ((full_M hN).mp q)))]
    exact ⟨rfl, h⟩

theorem k_join {b : Bk} {g : Md} (h : Inv b g) (y f h2 : Int32) : ((¬ 80 ≤ nI (b.2 1) ∧ (8 ≤ y ∧ y ≤ 200) ∧ ¬ 60 < nI (b.2 2) + 1) → (0 ≤ f ∧ f ≤ nI (b.2 2) - 1) → (0 ≤ h2 ∧ h2 ≤ nI (b.2 2) - 1) → td_ok (bk_join b y f h2) 1) ∧ (¬ nI (g.2.2.1 0) = 80 → ¬ nI (g.2.2.1 1) = 60 → (8 ≤ y ∧ y ≤ 200) → (0 ≤ f ∧ f ≤ nI (g.2.2.1 1) - 1) → (0 ≤ h2 ∧ h2 ≤ nI (g.2.2.1 1) - 1) → wk_ok (g_t3 (g_mk (md_writes g 3 y f h2 0 0) 1) 1) (g.2.2.1 0 + 1)) := by
  have hN := h.1.1
  have hF := h.1.2.1
  constructor
  · rintro ⟨a1, c2, a3⟩ d0 d1
    obtain ⟨yn, hy, e_y⟩ := rngN (lo := 8) (hi := 200) (by decide) (by decide) c2
    obtain ⟨i, hi, e_f⟩ := zw_mf hF d0
    obtain ⟨i2, hi2, e_h2⟩ := zw_mf hF d1
    subst e_y
    subst e_f
    subst e_h2
    exact take_ok (c_join h ((full_C hN).mp a1) ((room_C (n := 1) hF (by decide)).mp a3) yn i i2 hy hi hi2).2.1
  · intro n1 n2 c2 d0 d1
    rw [h.2.1] at n1
    rw [h.1.2.2.1] at n2
    rw [h.1.2.2.1] at d0
    rw [h.1.2.2.1] at d1
    obtain ⟨yn, hy, e_y⟩ := rngN (lo := 8) (hi := 200) (by decide) (by decide) c2
    obtain ⟨i, hi, e_f⟩ := zw_mf hF d0
    obtain ⟨i2, hi2, e_h2⟩ := zw_mf hF d1
    subst e_y
    subst e_f
    subst e_h2
    exact take_wk (c_join h ((full_M hN).mp n1) ((m60 hF).mp n2) yn i i2 hy hi hi2).2.1 h.2.1

theorem q_join {b : Bk} {g : Md} (h : Inv b g) (d : Ld) (y f h2 : Int32) : r_join1 b d y f h2 = m_join1 g y f h2 ∧ Inv (b_join1 b d y f h2) (g_join1 g y f h2) := by
  have hN := h.1.1
  have hF := h.1.2.1
  unfold r_join1 m_join1 b_join1 g_join1
  simp only [h.2.1, h.1.2.2.1]
  by_cases c1 : b.2 1 < 80
  · repeat rw [if_neg ((full_M hN).mpr c1)]
    by_cases cf : b.2 2 + 1 ≤ 60
    · repeat rw [if_neg ((m60 hF).mpr cf)]
      by_cases c2 : 8 ≤ y ∧ y ≤ 200
      · have cc : ¬ 80 ≤ nI (b.2 1) ∧ (8 ≤ y ∧ y ≤ 200) ∧ ¬ 60 < nI (b.2 2) + 1 := ⟨(full_C hN).mpr c1, c2, (room_C (n := 1) hF (by decide)).mpr (by omega)⟩
        repeat rw [if_pos cc]
        repeat rw [if_pos c2]
        by_cases d0 : (0 ≤ f ∧ f ≤ nI (b.2 2) - 1)
        · skip
          repeat rw [if_pos d0]
          by_cases d1 : (0 ≤ h2 ∧ h2 ≤ nI (b.2 2) - 1)
          · skip
            repeat rw [if_pos d1]
            obtain ⟨yn, hy, e_y⟩ := rngN (lo := 8) (hi := 200) (by decide) (by decide) c2
            obtain ⟨i, hi, e_f⟩ := zw_mf hF d0
            obtain ⟨i2, hi2, e_h2⟩ := zw_mf hF d1
            subst e_y
            subst e_f
            subst e_h2
            obtain ⟨hD, hr, hs, v0, v2, v3, v7⟩ := c_join h c1 cf yn i i2 hy hi hi2
            exact finJ h hD c1 cf hr hs hi hi2 v0 v2 v3 v7 d
          · repeat rw [if_neg d1]
            exact ⟨rfl, h⟩
        · repeat rw [if_neg d0]
          exact ⟨rfl, h⟩
      · repeat rw [if_neg (show ¬ (¬ 80 ≤ nI (b.2 1) ∧ (8 ≤ y ∧ y ≤ 200) ∧ ¬ 60 < nI (b.2 2) + 1) from fun q => c2 q.2.1)]
        repeat rw [if_neg c2]
        exact ⟨rfl, h⟩
    · repeat rw [if_neg (show ¬ (¬ 80 ≤ nI (b.2 1) ∧ (8 ≤ y ∧ y ≤ 200) ∧ ¬ 60 < nI (b.2 2) + 1) from fun q => cf ((room_C (n := 1) hF (by decide)).mp q.2.2))]
      repeat rw [if_pos (show nI (b.2 2) = 60 from Decidable.not_not.mp (fun q => cf ((m60 hF).mp q)))]
      exact ⟨rfl, h⟩
  · repeat rw [if_neg (show ¬ (¬ 80 ≤ nI (b.2 1) ∧ (8 ≤ y ∧ y ≤ 200) ∧ ¬ 60 < nI (b.2 2) + 1) from fun q => c1 ((full_C hN).mp q.1))]
    repeat rw [if_pos (show nI (b.2 1) = 80 from Decidable.not_not.mp (fun q => c1 ((full_M hN).mp q)))]
    exact ⟨rfl, h⟩

theorem k_sell {b : Bk} {g : Md} (h : Inv b g) (y f ow : Int32) : ((¬ 80 ≤ nI (b.2 1) ∧ (8 ≤ y ∧ y ≤ 200) ∧ ¬ 60 < nI (b.2 2) + 0) → (0 ≤ f ∧ f ≤ nI (b.2 2) - 1) → (0 ≤ ow ∧ ow ≤ 9) → td_ok (bk_sell b y f ow) 0) ∧ (¬ nI (g.2.2.1 0) = 80 → (8 ≤ y ∧ y ≤ 200) → (0 ≤ f ∧ f ≤ nI (g.2.2.1 1) - 1) → (0 ≤ ow ∧ ow ≤ 9) → wk_ok (g_t3 (g_mk (md_writes g 4 y f (-1) ow 0) 0) 0) (g.2.2.1 0 + 1)) := by
  have hN := h.1.1
  have hF := h.1.2.1
  constructor
  · rintro ⟨a1, c2, a3⟩ d0 d1
    obtain ⟨yn, hy, e_y⟩ := rngN (lo := 8) (hi := 200) (by decide) (by decide) c2
    obtain ⟨i, hi, e_f⟩ := zw_mf hF d0
    obtain ⟨on, ho, e_ow⟩ := rngN (lo := 0) (hi := 9) (by decide) (by decide) d1
    subst e_y
    subst e_f
    subst e_ow
    exact take_ok (c_sell h ((full_C hN).mp a1) ((room_C (n := 0) hF (by decide)).mp a3) yn i on hy hi ho.2).2.1
  · intro n1 c2 d0 d1
    rw [h.2.1] at n1
    rw [h.1.2.2.1] at d0
    obtain ⟨yn, hy, e_y⟩ := rngN (lo := 8) (hi := 200) (by decide) (by decide) c2
    obtain ⟨i, hi, e_f⟩ := zw_mf hF d0
    obtain ⟨on, ho, e_ow⟩ := rngN (lo := 0) (hi := 9) (by decide) (by decide) d1
    subst e_y
    subst e_f
    subst e_ow
    exact take_wk (c_sell h ((full_M hN).mp n1) hF yn i on hy hi ho.2).2.1 h.2.1

theorem q_sell {b : Bk} {g : Md} (h : Inv b g) (d : Ld) (y f ow : Int32) : r_sell1 b d y f ow = m_sell1 g y f ow ∧ Inv (b_sell1 b d y f ow) (g_sell1 g y f ow) := by
  have hN := h.1.1
  have hF := h.1.2.1
  unfold r_sell1 m_sell1 b_sell1 g_sell1
  simp only [h.2.1, h.1.2.2.1]
  by_cases c1 : b.2 1 < 80
  · repeat rw [if_neg ((full_M hN).mpr c1)]
    by_cases c2 : 8 ≤ y ∧ y ≤ 200
    · have cc : ¬ 80 ≤ nI (b.2 1) ∧ (8 ≤ y ∧ y ≤ 200) ∧ ¬ 60 < nI (b.2 2) + 0 := ⟨(full_C hN).mpr c1, c2, (room_C (n := 0) hF (by decide)).mpr (by omega)⟩
      repeat rw [if_pos cc]
      repeat rw [if_pos c2]
      by_cases d0 : (0 ≤ f ∧ f ≤ nI (b.2 2) - 1)
      · skip
        repeat rw [if_pos d0]
        by_cases d1 : (0 ≤ ow ∧ ow ≤ 9)
        · skip
          repeat rw [if_pos d1]
          obtain ⟨yn, hy, e_y⟩ := rngN (lo := 8) (hi := 200) (by decide) (by decide) c2
          obtain ⟨i, hi, e_f⟩ := zw_mf hF d0
          obtain ⟨on, ho, e_ow⟩ := rngN (lo := 0) (hi := 9) (by decide) (by decide) d1
          subst e_y
          subst e_f
          subst e_ow
          obtain ⟨hD, hr, hs, v0, v2, v3, v7⟩ := c_sell h c1 (by omega) yn i on hy hi ho.2
          exact fin0 h hD c1 hr hs 4 v0 (by decide) (by decide) d
        · repeat rw [if_neg d1]
          exact ⟨rfl, h⟩
      · repeat rw [if_neg d0]
        exact ⟨rfl, h⟩
    · repeat rw [if_neg (show ¬ (¬ 80 ≤ nI (b.2 1) ∧ (8 ≤ y ∧ y ≤ 200) ∧ ¬ 60 < nI (b.2 2) + 0) from fun q => c2 q.2.1)]
      repeat rw [if_neg c2]
      exact ⟨rfl, h⟩
  · repeat rw [if_neg (show ¬ (¬ 80 ≤ nI (b.2 1) ∧ (8 ≤ y ∧ y ≤ 200) ∧ ¬ 60 < nI (b.2 2) + 0) from fun q => c1 ((full_C hN).mp q.1))]
    repeat rw [if_pos (show nI (b.2 1) = 80 from Decidable.not_not.mp (fun q => c1 ((full_M hN).mp q)))]
    exact ⟨rfl, h⟩

theorem k_settle {b : Bk} {g : Md} (h : Inv b g) (y q : Int32) : ((¬ 80 ≤ nI (b.2 1) ∧ (8 ≤ y ∧ y ≤ 200) ∧ ¬ 60 < nI (b.2 2) + 0) → (1 ≤ q ∧ q ≤ 1000000) → td_ok (bk_settle b y q) 0) ∧ (¬ nI (g.2.2.1 0) = 80 → (8 ≤ y ∧ y ≤ 200) → (1 ≤ q ∧ q ≤ 1000000) → wk_ok (g_t3 (g_mk (md_writes g 5 y (-1) (-1) q 0) 0) 0) (g.2.2.1 0 + 1)) := by
  have hN := h.1.1
  have hF := h.1.2.1
  constructor
  · rintro ⟨a1, c2, a3⟩ d0
    obtain ⟨yn, hy, e_y⟩ := rngN (lo := 8) (hi := 200) (by decide) (by decide) c2
    obtain ⟨qn, hq, e_q⟩ := rngN (lo := 1) (hi := 1000000) (by decide) (by decide) d0
    subst e_y
    subst e_q
    exact take_ok (c_settle h ((full_C hN).mp a1) ((room_C (n := 0) hF (by decide)).mp a3) yn qn hy hq).2.1
  · intro n1 c2 d0
    rw [h.2.1] at n1
    obtain ⟨yn, hy, e_y⟩ := rngN (lo := 8) (hi := 200) (by decide) (by decide) c2
    obtain ⟨qn, hq, e_q⟩ := rngN (lo := 1) (hi := 1000000) (by decide) (by decide) d0
    subst e_y
    subst e_q
    exact take_wk (c_settle h ((full_M hN).mp n1) hF yn qn hy hq).2.1 h.2.1

theorem q_settle {b : Bk} {g : Md} (h : Inv b g) (d : Ld) (y q : Int32) : r_settle1 b d y q = m_settle1 g y q ∧ Inv (b_settle1 b d y q) (g_settle1 g y q) := by
  have hN := h.1.1
  have hF := h.1.2.1
  unfold r_settle1 m_settle1 b_settle1 g_settle1
  simp only [h.2.1, h.1.2.2.1]
  by_cases c1 : b.2 1 < 80
  · repeat rw [if_neg ((full_M hN).mpr c1)]
    by_cases c2 : 8 ≤ y ∧ y ≤ 200
    · have cc : ¬ 80 ≤ nI (b.2 1) ∧ (8 ≤ y ∧ y ≤ 200) ∧ ¬ 60 < nI (b.2 2) + 0 := ⟨(full_C hN).mpr c1, c2, (room_C (n := 0) hF (by decide)).mpr (by omega)⟩
      repeat rw [if_pos cc]
      repeat rw [if_pos c2]
      by_cases d0 : (1 ≤ q ∧ q ≤ 1000000)
      · skip
        repeat rw [if_pos d0]
        obtain ⟨yn, hy, e_y⟩ := rngN (lo := 8) (hi := 200) (by decide) (by decide) c2
        obtain ⟨qn, hq, e_q⟩ := rngN (lo := 1) (hi := 1000000) (by decide) (by decide) d0
        subst e_y
        subst e_q
        obtain ⟨hD, hr, hs, v0, v2, v3, v7⟩ := c_settle h c1 (by omega) yn qn hy hq
        exact fin0 h hD c1 hr hs 5 v0 (by decide) (by decide) d
      · repeat rw [if_neg d0]
        exact ⟨rfl, h⟩
    · repeat rw [if_neg (show ¬ (¬ 80 ≤ nI (b.2 1) ∧ (8 ≤ y ∧ y ≤ 200) ∧ ¬ 60 < nI (b.2 2) + 0) from fun q => c2 q.2.1)]
      repeat rw [if_neg c2]
      exact ⟨rfl, h⟩
  · repeat rw [if_neg (show ¬ (¬ 80 ≤ nI (b.2 1) ∧ (8 ≤ y ∧ y ≤ 200) ∧ ¬ 60 < nI (b.2 2) + 0) from fun q => c1 ((full_C hN).mp q.1))]
    repeat rw [if_pos (show nI (b.2 1) = 80 from Decidable.not_not.mp (fun q => c1 ((full_M hN).mp q)))]
    exact ⟨rfl, h⟩

theorem k_buy {b : Bk} {g : Md} (h : Inv b g) (y f : Int32) : ((¬ 80 ≤ nI (b.2 1) ∧ (8 ≤ y ∧ y ≤ 200) ∧ ¬ 60 < nI (b.2 2) + 0) → (0 ≤ f ∧ f ≤ nI (b.2 2) - 1) → td_ok (bk_buy b y f) 0) ∧ (¬ nI (g.2.2.1 0) = 80 → (8 ≤ y ∧ y ≤ 200) → (0 ≤ f ∧ f ≤ nI (g.2.2.1 1) - 1) → wk_ok (g_t3 (g_mk (md_writes g 6 y f (-1) 0 0) 0) 0) (g.2.2.1 0 + 1)) := by
  have hN := h.1.1
  have hF := h.1.2.1
  constructor
  · rintro ⟨a1, c2, a3⟩ d0
    obtain ⟨yn, hy, e_y⟩ := rngN (lo := 8) (hi := 200) (by decide) (by decide) c2
    obtain ⟨i, hi, e_f⟩ := zw_mf hF d0
    subst e_y
    subst e_f
    exact take_ok (c_buy h ((full_C hN).mp a1) ((room_C (n := 0) hF (by decide)).mp a3) yn i hy hi).2.1
  · intro n1 c2 d0
    rw [h.2.1] at n1
    rw [h.1.2.2.1] at d0
    obtain ⟨yn, hy, e_y⟩ := rngN (lo := 8) (hi := 200) (by decide) (by decide) c2
    obtain ⟨i, hi, e_f⟩ := zw_mf hF d0
    subst e_y
    subst e_f
    exact take_wk (c_buy h ((full_M hN).mp n1) hF yn i hy hi).2.1 h.2.1

theorem q_buy {b : Bk} {g : Md} (h : Inv b g) (d : Ld) (y f : Int32) : r_buy1 b d y f = m_buy1 g y f ∧ Inv (b_buy1 b d y f) (g_buy1 g y f) := by
  have hN := h.1.1
  have hF := h.1.2.1
  unfold r_buy1 m_buy1 b_buy1 g_buy1
  simp only [h.2.1, h.1.2.2.1]
  by_cases c1 : b.2 1 < 80
  · repeat rw [if_neg ((full_M hN).mpr c1)]
    by_cases c2 : 8 ≤ y ∧ y ≤ 200
    · have cc : ¬ 80 ≤ nI (b.2 1) ∧ (8 ≤ y ∧ y ≤ 200) ∧ ¬ 60 < nI (b.2 2) + 0 := ⟨(full_C hN).mpr c1, c2, (room_C (n := 0) hF (by decide)).mpr (by omega)⟩
      repeat rw [if_pos cc]
      repeat rw [if_pos c2]
      by_cases d0 : (0 ≤ f ∧ f ≤ nI (b.2 2) - 1)
      · skip
        repeat rw [if_pos d0]
        obtain ⟨yn, hy, e_y⟩ := rngN (lo := 8) (hi := 200) (by decide) (by decide) c2
        obtain ⟨i, hi, e_f⟩ := zw_mf hF d0
        subst e_y
        subst e_f
        obtain ⟨hD, hr, hs, v0, v2, v3, v7⟩ := c_buy h c1 (by omega) yn i hy hi
        exact fin0 h hD c1 hr hs 6 v0 (by decide) (by decide) d
      · repeat rw [if_neg d0]
        exact ⟨rfl, h⟩
    · repeat rw [if_neg (show ¬ (¬ 80 ≤ nI (b.2 1) ∧ (8 ≤ y ∧ y ≤ 200) ∧ ¬ 60 < nI (b.2 2) + 0) from fun q => c2 q.2.1)]
      repeat rw [if_neg c2]
      exact ⟨rfl, h⟩
  · repeat rw [if_neg (show ¬ (¬ 80 ≤ nI (b.2 1) ∧ (8 ≤ y ∧ y ≤ 200) ∧ ¬ 60 < nI (b.2 2) + 0) from fun q => c1 ((full_C hN).mp q.1))]
    repeat rw [if_pos (show nI (b.2 1) = 80 from Decidable.not_not.mp (fun q => c1 ((full_M hN).mp q)))]
    exact ⟨rfl, h⟩

theorem k_part {b : Bk} {g : Md} (h : Inv b g) (y f a : Int32) : ((¬ 80 ≤ nI (b.2 1) ∧ (8 ≤ y ∧ y ≤ 200) ∧ ¬ 60 < nI (b.2 2) + 2) → (0 ≤ f ∧ f ≤ nI (b.2 2) - 1) → 1 ≤ a → td_ok (bk_part b y f a) 2) ∧ (¬ nI (g.2.2.1 0) = 80 → ¬ 58 < nI (g.2.2.1 1) → (8 ≤ y ∧ y ≤ 200) → (0 ≤ f ∧ f ≤ nI (g.2.2.1 1) - 1) → (1 ≤ a ∧ a ≤ 10000000) → wk_ok (g_t3 (g_mk (md_writes g 2 y f (-1) a 0) 2) 2) (g.2.2.1 0 + 1)) := by
  have hN := h.1.1
  have hF := h.1.2.1
  constructor
  · rintro ⟨a1, c2, a3⟩ d0 d1
    obtain ⟨yn, hy, e_y⟩ := rngN (lo := 8) (hi := 200) (by decide) (by decide) c2
    obtain ⟨i, hi, e_f⟩ := zw_mf hF d0
    obtain ⟨an, ha, e_a⟩ := posN d1
    subst e_y
    subst e_f
    subst e_a
    exact take_ok (c_part h ((full_C hN).mp a1) ((room_C (n := 2) hF (by decide)).mp a3) yn i an hy hi ha).2.1
  · intro n1 n2 c2 d0 d1
    rw [h.2.1] at n1
    rw [h.1.2.2.1] at n2
    rw [h.1.2.2.1] at d0
    obtain ⟨yn, hy, e_y⟩ := rngN (lo := 8) (hi := 200) (by decide) (by decide) c2
    obtain ⟨i, hi, e_f⟩ := zw_mf hF d0
    obtain ⟨an, ha, e_a⟩ := posN (d1.1)
    subst e_y
    subst e_f
    subst e_a
    exact take_wk (c_part h ((full_M hN).mp n1) ((m58 hF).mp n2) yn i an hy hi ha).2.1 h.2.1

theorem q_part {b : Bk} {g : Md} (h : Inv b g) (d : Ld) (y f a : Int32) : r_part1 b d y f a = m_part1 g y f a ∧ Inv (b_part1 b d y f a) (g_part1 g y f a) := by
  have hN := h.1.1
  have hF := h.1.2.1
  unfold r_part1 m_part1 b_part1 g_part1
  simp only [h.2.1, h.1.2.2.1]
  by_cases c1 : b.2 1 < 80
  · repeat rw [if_neg ((full_M hN).mpr c1)]
    by_cases cf : b.2 2 + 2 ≤ 60
    · repeat rw [if_neg ((m58 hF).mpr cf)]
      by_cases c2 : 8 ≤ y ∧ y ≤ 200
      · have cc : ¬ 80 ≤ nI (b.2 1) ∧ (8 ≤ y ∧ y ≤ 200) ∧ ¬ 60 < nI (b.2 2) + 2 := ⟨(full_C hN).mpr c1, c2, (room_C (n := 2) hF (by decide)).mpr (by omega)⟩
        repeat rw [if_pos cc]
        repeat rw [if_pos c2]
        by_cases d0 : (0 ≤ f ∧ f ≤ nI (b.2 2) - 1)
        · skip
          repeat rw [if_pos d0]
          by_cases d1 : 1 ≤ a
          · skip
            repeat rw [if_pos d1]
            obtain ⟨yn, hy, e_y⟩ := rngN (lo := 8) (hi := 200) (by decide) (by decide) c2
            obtain ⟨i, hi, e_f⟩ := zw_mf hF d0
            obtain ⟨an, ha, e_a⟩ := posN d1
            obtain ⟨hD, hr, hs, v0, v2, v3, v7⟩ := c_part h c1 cf yn i an hy hi ha
            rw [← e_y, ← e_f, ← e_a] at hD hr hs v0 v2 v3 v7
            by_cases ca : 1 ≤ a ∧ a ≤ 10000000
            · repeat rw [if_pos ca]
              have v2b := v2
              subst e_f
              exact finP h hD c1 cf hr hs hi v0 v2 v3 v7 d
            · repeat rw [if_neg ca]
              have eN := h.2.1
              have m0 : (g_t3 (g_mk (md_writes g 2 y f (-1) a 0) 2) 2).1 0 (b.2 1) = 2 := by
                rw [g2_r _ _ _ (by decide), ← eN]
                exact wr_at.1
              have m4 : (g_t3 (g_mk (md_writes g 2 y f (-1) a 0) 2) 2).1 4 (b.2 1) = nI an := by
                rw [g2_r _ _ _ (by decide), ← eN, ← e_a]
                exact wr_at.2.2.2.2.1
              have big : 10000000 < an := by
                rcases Nat.lt_or_ge 10000000 an with z | z
                · exact z
                · exact absurd ⟨d1, by rw [e_a]; exact nI_le (b := 10000000) z (by omega)⟩ ca
              have hz := part_big h hD hr m0 m4 big ha.2
              have hno := take_no h hD (by decide) c1 hr hs
              obtain ⟨w1, w2, w3, w4⟩ := take_rows h hD (n := 2) (by decide)
              unfold r_take b_take
              rw [take_eq h hD hr d, if_pos hz, if_pos hz]
              refine ⟨zm1 _ _, Inv_same hno (fun e he r hr => ?_) (fun r h7 h10 => ?_) ?_⟩
              · rw [gtake_r _ _ _ (by omega)]
                have t1 := (td_sc (n := 2) hD.1).1
                have he2 : e < b.2 1 := by
                  have e8 : (bk_wdraw (td_b (bk_part b y f a) 2)).2 1 = (td_b (bk_part b y f a) 2).2 1 := rfl
                  omega
                exact (w2 e (by omega) r hr).symm
              · rw [gtake_r _ _ _ h10]
                exact (w4 r h7 h10).symm
              · funext z
                have e8 : ∀ j, (g_take (md_writes g 2 y f (-1) a 0) 2).2.2.1 j = if j = 1 then g.2.2.1 1 else if j = 0 then g.2.2.1 0 else (g_tw (md_writes g 2 y f (-1) a 0) 2).2.2.2.1 j := fun j => rfl
                rw [e8 z]
                by_cases z1 : z = 1
                · rw [if_pos z1, z1]
                · by_cases z0 : z = 0
                  · rw [if_neg z1, if_pos z0, z0]
                  · rw [if_neg z1, if_neg z0, g_tw_sc]
                    have e7 : ∀ j, (g_t3 (g_mk (md_writes g 2 y f (-1) a 0) 2) 2).2.2.1 j = if j = 1 then g.2.2.1 1 + 2 else if j = 0 then g.2.2.1 0 + 1 else g.2.2.1 j := fun j => rfl
                    rw [e7 z, if_neg z1, if_neg z0]
          · repeat rw [if_neg d1]
            repeat rw [if_neg (show ¬ (1 ≤ a ∧ a ≤ 10000000) from fun q => d1 q.1)]
            exact ⟨rfl, h⟩
        · repeat rw [if_neg d0]
          exact ⟨rfl, h⟩
      · repeat rw [if_neg (show ¬ (¬ 80 ≤ nI (b.2 1) ∧ (8 ≤ y ∧ y ≤ 200) ∧ ¬ 60 < nI (b.2 2) + 2) from fun q => c2 q.2.1)]
        repeat rw [if_neg c2]
        exact ⟨rfl, h⟩
    · repeat rw [if_neg (show ¬ (¬ 80 ≤ nI (b.2 1) ∧ (8 ≤ y ∧ y ≤ 200) ∧ ¬ 60 < nI (b.2 2) + 2) from fun q => cf ((room_C (n := 2) hF (by decide)).mp q.2.2))]
      repeat rw [if_pos (show 58 < nI (b.2 2) from Decidable.not_not.mp (fun q => cf ((m58 hF).mp q)))]
      exact ⟨rfl, h⟩
  · repeat rw [if_neg (show ¬ (¬ 80 ≤ nI (b.2 1) ∧ (8 ≤ y ∧ y ≤ 200) ∧ ¬ 60 < nI (b.2 2) + 2) from fun q => c1 ((full_C hN).mp q.1))]
    repeat rw [if_pos (show nI (b.2 1) = 80 from Decidable.not_not.mp (fun q => c1 ((full_M hN).mp q)))]
    exact ⟨rfl, h⟩

