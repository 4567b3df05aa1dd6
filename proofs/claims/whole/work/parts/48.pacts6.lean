/-! PURE: the six acts, class beside reference -/
theorem c_make {b : Bk} {g : Md} (h : Inv b g) (h80 : b.2 1 < 80) (h60 : b.2 2 + 1 ≤ 60) (y a k o : Nat) (hy : 8 ≤ y ∧ y ≤ 200) (ha : 1 ≤ a ∧ a ≤ 10000) (hk : k ≤ 2) (ho : o ≤ 9) : DR (b.2 1) b (bk_make b (nI y) (nI a) (nI k) (nI o)) g (md_writes g 1 (nI y) (-1) (nI k) (nI a) (nI o)) ∧ Rl (b.2 1 + 1) (b.2 2 + 1) (td_b (bk_make b (nI y) (nI a) (nI k) (nI o)) 1) (g_t3 (g_mk (md_writes g 1 (nI y) (-1) (nI k) (nI a) (nI o)) 1) 1) ∧ ¬ (g_t3 (g_mk (md_writes g 1 (nI y) (-1) (nI k) (nI a) (nI o)) 1) 1).1 0 (b.2 1) = 0 ∧ ((td_b (bk_make b (nI y) (nI a) (nI k) (nI o)) 1).1 0 (b.2 1) = 1 ∧ (td_b (bk_make b (nI y) (nI a) (nI k) (nI o)) 1).1 2 (b.2 1) = -1 ∧ (td_b (bk_make b (nI y) (nI a) (nI k) (nI o)) 1).1 3 (b.2 1) = -1 ∧ (td_b (bk_make b (nI y) (nI a) (nI k) (nI o)) 1).1 7 (b.2 1) = nI (b.2 2)) := by
  have eN := h.2.1
  have eF := h.1.2.2.1
  have hD : DR (b.2 1) b (bk_make b (nI y) (nI a) (nI k) (nI o)) g (md_writes g 1 (nI y) (-1) (nI k) (nI a) (nI o)) := ⟨rfl, fun r hr e he => by unfold bk_make; refine Eq.trans (put_ne (fun q => he q.2)) ?_; refine Eq.trans (put_ne (fun q => he q.2)) ?_; refine Eq.trans (put_ne (fun q => he q.2)) ?_; exact draft_ne he, fun r hr => by unfold bk_make; rw [put_r (by omega), put_r (by omega), put_r (by omega), draft_r hr], rfl, fun r hr e he => wr_ne (by rw [eN]; exact he), fun r h7 h10 => wr_r h7⟩
  have v0 : (td_b (bk_make b (nI y) (nI a) (nI k) (nI o)) 1).1 0 (b.2 1) = 1 := by
    rw [td_b_eq, bfile_r _ _ (by decide), tk_r _ _ _ (by decide)]
    unfold bk_make
    rw [put_ne (by omega), put_ne (by omega), put_ne (by omega), draft_0]
  have v1 : (td_b (bk_make b (nI y) (nI a) (nI k) (nI o)) 1).1 1 (b.2 1) = nI y := by
    rw [td_b_eq, bfile_r _ _ (by decide), tk_r _ _ _ (by decide)]
    unfold bk_make
    rw [put_ne (by omega), put_ne (by omega), put_ne (by omega), draft_1]
  have v2 : (td_b (bk_make b (nI y) (nI a) (nI k) (nI o)) 1).1 2 (b.2 1) = -1 := by
    rw [td_b_eq, bfile_r _ _ (by decide), tk_r _ _ _ (by decide)]
    unfold bk_make
    rw [put_ne (by omega), put_ne (by omega), put_ne (by omega), draft_m (by decide) (by decide)]
  have v3 : (td_b (bk_make b (nI y) (nI a) (nI k) (nI o)) 1).1 3 (b.2 1) = -1 := by
    rw [td_b_eq, bfile_r _ _ (by decide), tk_r _ _ _ (by decide)]
    unfold bk_make
    rw [put_ne (by omega), put_ne (by omega), put_ne (by omega), draft_m (by decide) (by decide)]
  have v4 : (td_b (bk_make b (nI y) (nI a) (nI k) (nI o)) 1).1 4 (b.2 1) = nI a := by
    rw [td_b_eq, bfile_r _ _ (by decide), tk_r _ _ _ (by decide)]
    unfold bk_make
    rw [put_ne (by omega), put_ne (by omega)]
    exact put_eq rfl rfl
  have v5 : (td_b (bk_make b (nI y) (nI a) (nI k) (nI o)) 1).1 5 (b.2 1) = nI k := by
    rw [td_b_eq, bfile_r _ _ (by decide), tk_r _ _ _ (by decide)]
    unfold bk_make
    rw [put_ne (by omega)]
    exact put_eq rfl rfl
  have v6 : (td_b (bk_make b (nI y) (nI a) (nI k) (nI o)) 1).1 6 (b.2 1) = nI o := by
    rw [td_b_eq, bfile_r _ _ (by decide), tk_r _ _ _ (by decide)]
    unfold bk_make
    exact put_eq rfl rfl
  have v7 : (td_b (bk_make b (nI y) (nI a) (nI k) (nI o)) 1).1 7 (b.2 1) = nI (b.2 2) := by
    rw [td_b_eq, bfile_r _ _ (by decide)]
    refine (tk_7 (bk_make b (nI y) (nI a) (nI k) (nI o)) 1).trans ?_
    rw [if_neg (by decide)]
    rfl
  have m0 : (g_t3 (g_mk (md_writes g 1 (nI y) (-1) (nI k) (nI a) (nI o)) 1) 1).1 0 (b.2 1) = 1 := by
    rw [g2_r _ _ _ (by decide), ← eN]
    exact wr_at.1
  have m1 : (g_t3 (g_mk (md_writes g 1 (nI y) (-1) (nI k) (nI a) (nI o)) 1) 1).1 1 (b.2 1) = nI y := by
    rw [g2_r _ _ _ (by decide), ← eN]
    exact wr_at.2.1
  have m2 : (g_t3 (g_mk (md_writes g 1 (nI y) (-1) (nI k) (nI a) (nI o)) 1) 1).1 2 (b.2 1) = -1 := by
    rw [g2_r _ _ _ (by decide), ← eN]
    exact wr_at.2.2.1
  have m3 : (g_t3 (g_mk (md_writes g 1 (nI y) (-1) (nI k) (nI a) (nI o)) 1) 1).1 3 (b.2 1) = nI k := by
    rw [g2_r _ _ _ (by decide), ← eN]
    exact wr_at.2.2.2.1
  have m4 : (g_t3 (g_mk (md_writes g 1 (nI y) (-1) (nI k) (nI a) (nI o)) 1) 1).1 4 (b.2 1) = nI a := by
    rw [g2_r _ _ _ (by decide), ← eN]
    exact wr_at.2.2.2.2.1
  have m5 : (g_t3 (g_mk (md_writes g 1 (nI y) (-1) (nI k) (nI a) (nI o)) 1) 1).1 5 (b.2 1) = nI o := by
    rw [g2_r _ _ _ (by decide), ← eN]
    exact wr_at.2.2.2.2.2.1
  have m6 : (g_t3 (g_mk (md_writes g 1 (nI y) (-1) (nI k) (nI a) (nI o)) 1) 1).1 6 (b.2 1) = nI (b.2 2) := by
    rw [g2_6 _ _ _ (by decide), if_neg (by decide), if_pos (show b.2 1 = (md_writes g 1 (nI y) (-1) (nI k) (nI a) (nI o)).2.2.1 0 from eN.symm), ← eF]
    rfl
  have hs : ¬ (g_t3 (g_mk (md_writes g 1 (nI y) (-1) (nI k) (nI a) (nI o)) 1) 1).1 0 (b.2 1) = 0 := by rw [m0]; decide
  have hE : EV (g_t3 (g_mk (md_writes g 1 (nI y) (-1) (nI k) (nI a) (nI o)) 1) 1) (b.2 2 + 1) (b.2 1) := ⟨Or.inr (Or.inl m0), fun _ => ⟨y, hy, m1⟩, fun q => absurd (m0.symm.trans q) (by decide), fun _ => ⟨b.2 2, a, k, o, by omega, ha, hk, ho, m6, m4, m3, m5⟩, fun q => absurd (m0.symm.trans q) (by decide), fun q => absurd (m0.symm.trans q) (by decide), fun q => absurd (m0.symm.trans q) (by decide), fun q => absurd (m0.symm.trans q) (by decide), fun q => absurd (m0.symm.trans q) (by decide)⟩
  have hR : ER (td_b (bk_make b (nI y) (nI a) (nI k) (nI o)) 1) (g_t3 (g_mk (md_writes g 1 (nI y) (-1) (nI k) (nI a) (nI o)) 1) 1) (b.2 1) := ⟨v0.trans m0.symm, v1.trans m1.symm, v2.trans m2.symm, v7.trans m6.symm, fun q => absurd (m0.symm.trans q) (by decide), fun _ => ⟨v4.trans m4.symm, v5.trans m3.symm, v6.trans m5.symm⟩, fun q => absurd (m0.symm.trans q) (by decide), fun q => absurd (m0.symm.trans q) (by decide), fun q => absurd (m0.symm.trans q) (by decide), fun q => absurd (m0.symm.trans q) (by decide)⟩
  exact ⟨hD, take_Rl h hD (by decide) h80 h60 hE hR hs, hs, v0, v2, v3, v7⟩

theorem c_part {b : Bk} {g : Md} (h : Inv b g) (h80 : b.2 1 < 80) (h60 : b.2 2 + 2 ≤ 60) (y i a : Nat) (hy : 8 ≤ y ∧ y ≤ 200) (hi : i < b.2 2) (ha : 1 ≤ a ∧ a < 2 ^ 31) : DR (b.2 1) b (bk_part b (nI y) (nI i) (nI a)) g (md_writes g 2 (nI y) (nI i) (-1) (nI a) 0) ∧ Rl (b.2 1 + 1) (b.2 2 + 2) (td_b (bk_part b (nI y) (nI i) (nI a)) 2) (g_t3 (g_mk (md_writes g 2 (nI y) (nI i) (-1) (nI a) 0) 2) 2) ∧ ¬ (g_t3 (g_mk (md_writes g 2 (nI y) (nI i) (-1) (nI a) 0) 2) 2).1 0 (b.2 1) = 0 ∧ ((td_b (bk_part b (nI y) (nI i) (nI a)) 2).1 0 (b.2 1) = 2 ∧ (td_b (bk_part b (nI y) (nI i) (nI a)) 2).1 2 (b.2 1) = nI i ∧ (td_b (bk_part b (nI y) (nI i) (nI a)) 2).1 3 (b.2 1) = -1 ∧ (td_b (bk_part b (nI y) (nI i) (nI a)) 2).1 7 (b.2 1) = nI (b.2 2)) := by
  have eN := h.2.1
  have eF := h.1.2.2.1
  have hD : DR (b.2 1) b (bk_part b (nI y) (nI i) (nI a)) g (md_writes g 2 (nI y) (nI i) (-1) (nI a) 0) := ⟨rfl, fun r hr e he => by unfold bk_part; refine Eq.trans (put_ne (fun q => he q.2)) ?_; refine Eq.trans (put_ne (fun q => he q.2)) ?_; exact draft_ne he, fun r hr => by unfold bk_part; rw [put_r (by omega), put_r (by omega), draft_r hr], rfl, fun r hr e he => wr_ne (by rw [eN]; exact he), fun r h7 h10 => wr_r h7⟩
  have v0 : (td_b (bk_part b (nI y) (nI i) (nI a)) 2).1 0 (b.2 1) = 2 := by
    rw [td_b_eq, bfile_r _ _ (by decide), tk_r _ _ _ (by decide)]
    unfold bk_part
    rw [put_ne (by omega), put_ne (by omega), draft_0]
  have v1 : (td_b (bk_part b (nI y) (nI i) (nI a)) 2).1 1 (b.2 1) = nI y := by
    rw [td_b_eq, bfile_r _ _ (by decide), tk_r _ _ _ (by decide)]
    unfold bk_part
    rw [put_ne (by omega), put_ne (by omega), draft_1]
  have v2 : (td_b (bk_part b (nI y) (nI i) (nI a)) 2).1 2 (b.2 1) = nI i := by
    rw [td_b_eq, bfile_r _ _ (by decide), tk_r _ _ _ (by decide)]
    unfold bk_part
    rw [put_ne (by omega)]
    exact put_eq rfl rfl
  have v3 : (td_b (bk_part b (nI y) (nI i) (nI a)) 2).1 3 (b.2 1) = -1 := by
    rw [td_b_eq, bfile_r _ _ (by decide), tk_r _ _ _ (by decide)]
    unfold bk_part
    rw [put_ne (by omega), put_ne (by omega), draft_m (by decide) (by decide)]
  have v4 : (td_b (bk_part b (nI y) (nI i) (nI a)) 2).1 4 (b.2 1) = nI a := by
    rw [td_b_eq, bfile_r _ _ (by decide), tk_r _ _ _ (by decide)]
    unfold bk_part
    exact put_eq rfl rfl
  have v5 : (td_b (bk_part b (nI y) (nI i) (nI a)) 2).1 5 (b.2 1) = -1 := by
    rw [td_b_eq, bfile_r _ _ (by decide), tk_r _ _ _ (by decide)]
    unfold bk_part
    rw [put_ne (by omega), put_ne (by omega), draft_m (by decide) (by decide)]
  have v6 : (td_b (bk_part b (nI y) (nI i) (nI a)) 2).1 6 (b.2 1) = -1 := by
    rw [td_b_eq, bfile_r _ _ (by decide), tk_r _ _ _ (by decide)]
    unfold bk_part
    rw [put_ne (by omega), put_ne (by omega), draft_m (by decide) (by decide)]
  have v7 : (td_b (bk_part b (nI y) (nI i) (nI a)) 2).1 7 (b.2 1) = nI (b.2 2) := by
    rw [td_b_eq, bfile_r _ _ (by decide)]
    refine (tk_7 (bk_part b (nI y) (nI i) (nI a)) 2).trans ?_
    rw [if_neg (by decide)]
    rfl
  have m0 : (g_t3 (g_mk (md_writes g 2 (nI y) (nI i) (-1) (nI a) 0) 2) 2).1 0 (b.2 1) = 2 := by
    rw [g2_r _ _ _ (by decide), ← eN]
    exact wr_at.1
  have m1 : (g_t3 (g_mk (md_writes g 2 (nI y) (nI i) (-1) (nI a) 0) 2) 2).1 1 (b.2 1) = nI y := by
    rw [g2_r _ _ _ (by decide), ← eN]
    exact wr_at.2.1
  have m2 : (g_t3 (g_mk (md_writes g 2 (nI y) (nI i) (-1) (nI a) 0) 2) 2).1 2 (b.2 1) = nI i := by
    rw [g2_r _ _ _ (by decide), ← eN]
    exact wr_at.2.2.1
  have m3 : (g_t3 (g_mk (md_writes g 2 (nI y) (nI i) (-1) (nI a) 0) 2) 2).1 3 (b.2 1) = -1 := by
    rw [g2_r _ _ _ (by decide), ← eN]
    exact wr_at.2.2.2.1
  have m4 : (g_t3 (g_mk (md_writes g 2 (nI y) (nI i) (-1) (nI a) 0) 2) 2).1 4 (b.2 1) = nI a := by
    rw [g2_r _ _ _ (by decide), ← eN]
    exact wr_at.2.2.2.2.1
  have m5 : (g_t3 (g_mk (md_writes g 2 (nI y) (nI i) (-1) (nI a) 0) 2) 2).1 5 (b.2 1) = 0 := by
    rw [g2_r _ _ _ (by decide), ← eN]
    exact wr_at.2.2.2.2.2.1
  have m6 : (g_t3 (g_mk (md_writes g 2 (nI y) (nI i) (-1) (nI a) 0) 2) 2).1 6 (b.2 1) = nI (b.2 2) := by
    rw [g2_6 _ _ _ (by decide), if_neg (by decide), if_pos (show b.2 1 = (md_writes g 2 (nI y) (nI i) (-1) (nI a) 0).2.2.1 0 from eN.symm), ← eF]
    rfl
  have hs : ¬ (g_t3 (g_mk (md_writes g 2 (nI y) (nI i) (-1) (nI a) 0) 2) 2).1 0 (b.2 1) = 0 := by rw [m0]; decide
  have hE : EV (g_t3 (g_mk (md_writes g 2 (nI y) (nI i) (-1) (nI a) 0) 2) 2) (b.2 2 + 2) (b.2 1) := ⟨Or.inr (Or.inr (Or.inl m0)), fun _ => ⟨y, hy, m1⟩, fun q => absurd (m0.symm.trans q) (by decide), fun q => absurd (m0.symm.trans q) (by decide), fun _ => ⟨i, b.2 2, a, hi, by omega, ha, m2, m6, m4⟩, fun q => absurd (m0.symm.trans q) (by decide), fun q => absurd (m0.symm.trans q) (by decide), fun q => absurd (m0.symm.trans q) (by decide), fun q => absurd (m0.symm.trans q) (by decide)⟩
  have hR : ER (td_b (bk_part b (nI y) (nI i) (nI a)) 2) (g_t3 (g_mk (md_writes g 2 (nI y) (nI i) (-1) (nI a) 0) 2) 2) (b.2 1) := ⟨v0.trans m0.symm, v1.trans m1.symm, v2.trans m2.symm, v7.trans m6.symm, fun q => absurd (m0.symm.trans q) (by decide), fun q => absurd (m0.symm.trans q) (by decide), fun _ => v4.trans m4.symm, fun q => absurd (m0.symm.trans q) (by decide), fun q => absurd (m0.symm.trans q) (by decide), fun q => absurd (m0.symm.trans q) (by decide)⟩
  exact ⟨hD, take_Rl h hD (by decide) h80 h60 hE hR hs, hs, v0, v2, v3, v7⟩

theorem c_join {b : Bk} {g : Md} (h : Inv b g) (h80 : b.2 1 < 80) (h60 : b.2 2 + 1 ≤ 60) (y i i2 : Nat) (hy : 8 ≤ y ∧ y ≤ 200) (hi : i < b.2 2) (hi2 : i2 < b.2 2) : DR (b.2 1) b (bk_join b (nI y) (nI i) (nI i2)) g (md_writes g 3 (nI y) (nI i) (nI i2) 0 0) ∧ Rl (b.2 1 + 1) (b.2 2 + 1) (td_b (bk_join b (nI y) (nI i) (nI i2)) 1) (g_t3 (g_mk (md_writes g 3 (nI y) (nI i) (nI i2) 0 0) 1) 1) ∧ ¬ (g_t3 (g_mk (md_writes g 3 (nI y) (nI i) (nI i2) 0 0) 1) 1).1 0 (b.2 1) = 0 ∧ ((td_b (bk_join b (nI y) (nI i) (nI i2)) 1).1 0 (b.2 1) = 3 ∧ (td_b (bk_join b (nI y) (nI i) (nI i2)) 1).1 2 (b.2 1) = nI i ∧ (td_b (bk_join b (nI y) (nI i) (nI i2)) 1).1 3 (b.2 1) = nI i2 ∧ (td_b (bk_join b (nI y) (nI i) (nI i2)) 1).1 7 (b.2 1) = nI (b.2 2)) := by
  have eN := h.2.1
  have eF := h.1.2.2.1
  have hD : DR (b.2 1) b (bk_join b (nI y) (nI i) (nI i2)) g (md_writes g 3 (nI y) (nI i) (nI i2) 0 0) := ⟨rfl, fun r hr e he => by unfold bk_join; refine Eq.trans (put_ne (fun q => he q.2)) ?_; refine Eq.trans (put_ne (fun q => he q.2)) ?_; exact draft_ne he, fun r hr => by unfold bk_join; rw [put_r (by omega), put_r (by omega), draft_r hr], rfl, fun r hr e he => wr_ne (by rw [eN]; exact he), fun r h7 h10 => wr_r h7⟩
  have v0 : (td_b (bk_join b (nI y) (nI i) (nI i2)) 1).1 0 (b.2 1) = 3 := by
    rw [td_b_eq, bfile_r _ _ (by decide), tk_r _ _ _ (by decide)]
    unfold bk_join
    rw [put_ne (by omega), put_ne (by omega), draft_0]
  have v1 : (td_b (bk_join b (nI y) (nI i) (nI i2)) 1).1 1 (b.2 1) = nI y := by
    rw [td_b_eq, bfile_r _ _ (by decide), tk_r _ _ _ (by decide)]
    unfold bk_join
    rw [put_ne (by omega), put_ne (by omega), draft_1]
  have v2 : (td_b (bk_join b (nI y) (nI i) (nI i2)) 1).1 2 (b.2 1) = nI i := by
    rw [td_b_eq, bfile_r _ _ (by decide), tk_r _ _ _ (by decide)]
    unfold bk_join
    rw [put_ne (by omega)]
    exact put_eq rfl rfl
  have v3 : (td_b (bk_join b (nI y) (nI i) (nI i2)) 1).1 3 (b.2 1) = nI i2 := by
    rw [td_b_eq, bfile_r _ _ (by decide), tk_r _ _ _ (by decide)]
    unfold bk_join
    exact put_eq rfl rfl
  have v4 : (td_b (bk_join b (nI y) (nI i) (nI i2)) 1).1 4 (b.2 1) = -1 := by
    rw [td_b_eq, bfile_r _ _ (by decide), tk_r _ _ _ (by decide)]
    unfold bk_join
    rw [put_ne (by omega), put_ne (by omega), draft_m (by decide) (by decide)]
  have v5 : (td_b (bk_join b (nI y) (nI i) (nI i2)) 1).1 5 (b.2 1) = -1 := by
    rw [td_b_eq, bfile_r _ _ (by decide), tk_r _ _ _ (by decide)]
    unfold bk_join
    rw [put_ne (by omega), put_ne (by omega), draft_m (by decide) (by decide)]
  have v6 : (td_b (bk_join b (nI y) (nI i) (nI i2)) 1).1 6 (b.2 1) = -1 := by
    rw [td_b_eq, bfile_r _ _ (by decide), tk_r _ _ _ (by decide)]
    unfold bk_join
    rw [put_ne (by omega), put_ne (by omega), draft_m (by decide) (by decide)]
  have v7 : (td_b (bk_join b (nI y) (nI i) (nI i2)) 1).1 7 (b.2 1) = nI (b.2 2) := by
    rw [td_b_eq, bfile_r _ _ (by decide)]
    refine (tk_7 (bk_join b (nI y) (nI i) (nI i2)) 1).trans ?_
    rw [if_neg (by decide)]
    rfl
  have m0 : (g_t3 (g_mk (md_writes g 3 (nI y) (nI i) (nI i2) 0 0) 1) 1).1 0 (b.2 1) = 3 := by
    rw [g2_r _ _ _ (by decide), ← eN]
    exact wr_at.1
  have m1 : (g_t3 (g_mk (md_writes g 3 (nI y) (nI i) (nI i2) 0 0) 1) 1).1 1 (b.2 1) = nI y := by
    rw [g2_r _ _ _ (by decide), ← eN]
    exact wr_at.2.1
  have m2 : (g_t3 (g_mk (md_writes g 3 (nI y) (nI i) (nI i2) 0 0) 1) 1).1 2 (b.2 1) = nI i := by
    rw [g2_r _ _ _ (by decide), ← eN]
    exact wr_at.2.2.1
  have m3 : (g_t3 (g_mk (md_writes g 3 (nI y) (nI i) (nI i2) 0 0) 1) 1).1 3 (b.2 1) = nI i2 := by
    rw [g2_r _ _ _ (by decide), ← eN]
    exact wr_at.2.2.2.1
  have m4 : (g_t3 (g_mk (md_writes g 3 (nI y) (nI i) (nI i2) 0 0) 1) 1).1 4 (b.2 1) = 0 := by
    rw [g2_r _ _ _ (by decide), ← eN]
    exact wr_at.2.2.2.2.1
  have m5 : (g_t3 (g_mk (md_writes g 3 (nI y) (nI i) (nI i2) 0 0) 1) 1).1 5 (b.2 1) = 0 := by
    rw [g2_r _ _ _ (by decide), ← eN]
    exact wr_at.2.2.2.2.2.1
  have m6 : (g_t3 (g_mk (md_writes g 3 (nI y) (nI i) (nI i2) 0 0) 1) 1).1 6 (b.2 1) = nI (b.2 2) := by
    rw [g2_6 _ _ _ (by decide), if_neg (by decide), if_pos (show b.2 1 = (md_writes g 3 (nI y) (nI i) (nI i2) 0 0).2.2.1 0 from eN.symm), ← eF]
    rfl
  have hs : ¬ (g_t3 (g_mk (md_writes g 3 (nI y) (nI i) (nI i2) 0 0) 1) 1).1 0 (b.2 1) = 0 := by rw [m0]; decide
  have hE : EV (g_t3 (g_mk (md_writes g 3 (nI y) (nI i) (nI i2) 0 0) 1) 1) (b.2 2 + 1) (b.2 1) := ⟨Or.inr (Or.inr (Or.inr (Or.inl m0))), fun _ => ⟨y, hy, m1⟩, fun q => absurd (m0.symm.trans q) (by decide), fun q => absurd (m0.symm.trans q) (by decide), fun q => absurd (m0.symm.trans q) (by decide), fun _ => ⟨i, i2, b.2 2, hi, hi2, by omega, m2, m3, m6⟩, fun q => absurd (m0.symm.trans q) (by decide), fun q => absurd (m0.symm.trans q) (by decide), fun q => absurd (m0.symm.trans q) (by decide)⟩
  have hR : ER (td_b (bk_join b (nI y) (nI i) (nI i2)) 1) (g_t3 (g_mk (md_writes g 3 (nI y) (nI i) (nI i2) 0 0) 1) 1) (b.2 1) := ⟨v0.trans m0.symm, v1.trans m1.symm, v2.trans m2.symm, v7.trans m6.symm, fun q => absurd (m0.symm.trans q) (by decide), fun q => absurd (m0.symm.trans q) (by decide), fun q => absurd (m0.symm.trans q) (by decide), fun _ => v3.trans m3.symm, fun q => absurd (m0.symm.trans q) (by decide), fun q => absurd (m0.symm.trans q) (by decide)⟩
  exact ⟨hD, take_Rl h hD (by decide) h80 h60 hE hR hs, hs, v0, v2, v3, v7⟩

theorem c_sell {b : Bk} {g : Md} (h : Inv b g) (h80 : b.2 1 < 80) (h60 : b.2 2 + 0 ≤ 60) (y i o : Nat) (hy : 8 ≤ y ∧ y ≤ 200) (hi : i < b.2 2) (ho : o ≤ 9) : DR (b.2 1) b (bk_sell b (nI y) (nI i) (nI o)) g (md_writes g 4 (nI y) (nI i) (-1) (nI o) 0) ∧ Rl (b.2 1 + 1) (b.2 2 + 0) (td_b (bk_sell b (nI y) (nI i) (nI o)) 0) (g_t3 (g_mk (md_writes g 4 (nI y) (nI i) (-1) (nI o) 0) 0) 0) ∧ ¬ (g_t3 (g_mk (md_writes g 4 (nI y) (nI i) (-1) (nI o) 0) 0) 0).1 0 (b.2 1) = 0 ∧ ((td_b (bk_sell b (nI y) (nI i) (nI o)) 0).1 0 (b.2 1) = 4 ∧ (td_b (bk_sell b (nI y) (nI i) (nI o)) 0).1 2 (b.2 1) = nI i ∧ (td_b (bk_sell b (nI y) (nI i) (nI o)) 0).1 3 (b.2 1) = -1 ∧ (td_b (bk_sell b (nI y) (nI i) (nI o)) 0).1 7 (b.2 1) = -1) := by
  have eN := h.2.1
  have eF := h.1.2.2.1
  have hD : DR (b.2 1) b (bk_sell b (nI y) (nI i) (nI o)) g (md_writes g 4 (nI y) (nI i) (-1) (nI o) 0) := ⟨rfl, fun r hr e he => by unfold bk_sell; refine Eq.trans (put_ne (fun q => he q.2)) ?_; refine Eq.trans (put_ne (fun q => he q.2)) ?_; exact draft_ne he, fun r hr => by unfold bk_sell; rw [put_r (by omega), put_r (by omega), draft_r hr], rfl, fun r hr e he => wr_ne (by rw [eN]; exact he), fun r h7 h10 => wr_r h7⟩
  have v0 : (td_b (bk_sell b (nI y) (nI i) (nI o)) 0).1 0 (b.2 1) = 4 := by
    rw [td_b_eq, bfile_r _ _ (by decide), tk_r _ _ _ (by decide)]
    unfold bk_sell
    rw [put_ne (by omega), put_ne (by omega), draft_0]
  have v1 : (td_b (bk_sell b (nI y) (nI i) (nI o)) 0).1 1 (b.2 1) = nI y := by
    rw [td_b_eq, bfile_r _ _ (by decide), tk_r _ _ _ (by decide)]
    unfold bk_sell
    rw [put_ne (by omega), put_ne (by omega), draft_1]
  have v2 : (td_b (bk_sell b (nI y) (nI i) (nI o)) 0).1 2 (b.2 1) = nI i := by
    rw [td_b_eq, bfile_r _ _ (by decide), tk_r _ _ _ (by decide)]
    unfold bk_sell
    rw [put_ne (by omega)]
    exact put_eq rfl rfl
  have v3 : (td_b (bk_sell b (nI y) (nI i) (nI o)) 0).1 3 (b.2 1) = -1 := by
    rw [td_b_eq, bfile_r _ _ (by decide), tk_r _ _ _ (by decide)]
    unfold bk_sell
    rw [put_ne (by omega), put_ne (by omega), draft_m (by decide) (by decide)]
  have v4 : (td_b (bk_sell b (nI y) (nI i) (nI o)) 0).1 4 (b.2 1) = -1 := by
    rw [td_b_eq, bfile_r _ _ (by decide), tk_r _ _ _ (by decide)]
    unfold bk_sell
    rw [put_ne (by omega), put_ne (by omega), draft_m (by decide) (by decide)]
  have v5 : (td_b (bk_sell b (nI y) (nI i) (nI o)) 0).1 5 (b.2 1) = -1 := by
    rw [td_b_eq, bfile_r _ _ (by decide), tk_r _ _ _ (by decide)]
    unfold bk_sell
    rw [put_ne (by omega), put_ne (by omega), draft_m (by decide) (by decide)]
  have v6 : (td_b (bk_sell b (nI y) (nI i) (nI o)) 0).1 6 (b.2 1) = nI o := by
    rw [td_b_eq, bfile_r _ _ (by decide), tk_r _ _ _ (by decide)]
    unfold bk_sell
    exact put_eq rfl rfl
  have v7 : (td_b (bk_sell b (nI y) (nI i) (nI o)) 0).1 7 (b.2 1) = -1 := by
    rw [td_b_eq, bfile_r _ _ (by decide)]
    refine (tk_7 (bk_sell b (nI y) (nI i) (nI o)) 0).trans ?_
    rw [if_pos rfl]
    show (bk_sell b (nI y) (nI i) (nI o)).1 7 (b.2 1) = -1
    unfold bk_sell
    rw [put_ne (by omega), put_ne (by omega), draft_m (by decide) (by decide)]
  have m0 : (g_t3 (g_mk (md_writes g 4 (nI y) (nI i) (-1) (nI o) 0) 0) 0).1 0 (b.2 1) = 4 := by
    rw [g2_r _ _ _ (by decide), ← eN]
    exact wr_at.1
  have m1 : (g_t3 (g_mk (md_writes g 4 (nI y) (nI i) (-1) (nI o) 0) 0) 0).1 1 (b.2 1) = nI y := by
    rw [g2_r _ _ _ (by decide), ← eN]
    exact wr_at.2.1
  have m2 : (g_t3 (g_mk (md_writes g 4 (nI y) (nI i) (-1) (nI o) 0) 0) 0).1 2 (b.2 1) = nI i := by
    rw [g2_r _ _ _ (by decide), ← eN]
    exact wr_at.2.2.1
  have m3 : (g_t3 (g_mk (md_writes g 4 (nI y) (nI i) (-1) (nI o) 0) 0) 0).1 3 (b.2 1) = -1 := by
    rw [g2_r _ _ _ (by decide), ← eN]
    exact wr_at.2.2.2.1
  have m4 : (g_t3 (g_mk (md_writes g 4 (nI y) (nI i) (-1) (nI o) 0) 0) 0).1 4 (b.2 1) = nI o := by
    rw [g2_r _ _ _ (by decide), ← eN]
    exact wr_at.2.2.2.2.1
  have m5 : (g_t3 (g_mk (md_writes g 4 (nI y) (nI i) (-1) (nI o) 0) 0) 0).1 5 (b.2 1) = 0 := by
    rw [g2_r _ _ _ (by decide), ← eN]
    exact wr_at.2.2.2.2.2.1
  have m6 : (g_t3 (g_mk (md_writes g 4 (nI y) (nI i) (-1) (nI o) 0) 0) 0).1 6 (b.2 1) = -1 := by
    rw [g2_6 _ _ _ (by decide), if_pos rfl, ← eN]
    exact wr_at.2.2.2.2.2.2
  have hs : ¬ (g_t3 (g_mk (md_writes g 4 (nI y) (nI i) (-1) (nI o) 0) 0) 0).1 0 (b.2 1) = 0 := by rw [m0]; decide
  have hE : EV (g_t3 (g_mk (md_writes g 4 (nI y) (nI i) (-1) (nI o) 0) 0) 0) (b.2 2 + 0) (b.2 1) := ⟨Or.inr (Or.inr (Or.inr (Or.inr (Or.inl m0)))), fun _ => ⟨y, hy, m1⟩, fun q => absurd (m0.symm.trans q) (by decide), fun q => absurd (m0.symm.trans q) (by decide), fun q => absurd (m0.symm.trans q) (by decide), fun q => absurd (m0.symm.trans q) (by decide), fun _ => ⟨i, o, by omega, ho, m2, m4⟩, fun q => absurd (m0.symm.trans q) (by decide), fun q => absurd (m0.symm.trans q) (by decide)⟩
  have hR : ER (td_b (bk_sell b (nI y) (nI i) (nI o)) 0) (g_t3 (g_mk (md_writes g 4 (nI y) (nI i) (-1) (nI o) 0) 0) 0) (b.2 1) := ⟨v0.trans m0.symm, v1.trans m1.symm, v2.trans m2.symm, v7.trans m6.symm, fun q => absurd (m0.symm.trans q) (by decide), fun q => absurd (m0.symm.trans q) (by decide), fun q => absurd (m0.symm.trans q) (by decide), fun q => absurd (m0.symm.trans q) (by decide), fun _ => v6.trans m4.symm, fun q => absurd (m0.symm.trans q) (by decide)⟩
  exact ⟨hD, take_Rl h hD (by decide) h80 h60 hE hR hs, hs, v0, v2, v3, v7⟩

theorem c_settle {b : Bk} {g : Md} (h : Inv b g) (h80 : b.2 1 < 80) (h60 : b.2 2 + 0 ≤ 60) (y q0 : Nat) (hy : 8 ≤ y ∧ y ≤ 200) (hq : 1 ≤ q0 ∧ q0 ≤ 1000000) : DR (b.2 1) b (bk_settle b (nI y) (nI q0)) g (md_writes g 5 (nI y) (-1) (-1) (nI q0) 0) ∧ Rl (b.2 1 + 1) (b.2 2 + 0) (td_b (bk_settle b (nI y) (nI q0)) 0) (g_t3 (g_mk (md_writes g 5 (nI y) (-1) (-1) (nI q0) 0) 0) 0) ∧ ¬ (g_t3 (g_mk (md_writes g 5 (nI y) (-1) (-1) (nI q0) 0) 0) 0).1 0 (b.2 1) = 0 ∧ ((td_b (bk_settle b (nI y) (nI q0)) 0).1 0 (b.2 1) = 5 ∧ (td_b (bk_settle b (nI y) (nI q0)) 0).1 2 (b.2 1) = -1 ∧ (td_b (bk_settle b (nI y) (nI q0)) 0).1 3 (b.2 1) = -1 ∧ (td_b (bk_settle b (nI y) (nI q0)) 0).1 7 (b.2 1) = -1) := by
  have eN := h.2.1
  have eF := h.1.2.2.1
  have hD : DR (b.2 1) b (bk_settle b (nI y) (nI q0)) g (md_writes g 5 (nI y) (-1) (-1) (nI q0) 0) := ⟨rfl, fun r hr e he => by unfold bk_settle; refine Eq.trans (put_ne (fun q => he q.2)) ?_; exact draft_ne he, fun r hr => by unfold bk_settle; rw [put_r (by omega), draft_r hr], rfl, fun r hr e he => wr_ne (by rw [eN]; exact he), fun r h7 h10 => wr_r h7⟩
  have v0 : (td_b (bk_settle b (nI y) (nI q0)) 0).1 0 (b.2 1) = 5 := by
    rw [td_b_eq, bfile_r _ _ (by decide), tk_r _ _ _ (by decide)]
    unfold bk_settle
    rw [put_ne (by omega), draft_0]
  have v1 : (td_b (bk_settle b (nI y) (nI q0)) 0).1 1 (b.2 1) = nI y := by
    rw [td_b_eq, bfile_r _ _ (by decide), tk_r _ _ _ (by decide)]
    unfold bk_settle
    rw [put_ne (by omega), draft_1]
  have v2 : (td_b (bk_settle b (nI y) (nI q0)) 0).1 2 (b.2 1) = -1 := by
    rw [td_b_eq, bfile_r _ _ (by decide), tk_r _ _ _ (by decide)]
    unfold bk_settle
    rw [put_ne (by omega), draft_m (by decide) (by decide)]
  have v3 : (td_b (bk_settle b (nI y) (nI q0)) 0).1 3 (b.2 1) = -1 := by
    rw [td_b_eq, bfile_r _ _ (by decide), tk_r _ _ _ (by decide)]
    unfold bk_settle
    rw [put_ne (by omega), draft_m (by decide) (by decide)]
  have v4 : (td_b (bk_settle b (nI y) (nI q0)) 0).1 4 (b.2 1) = nI q0 := by
    rw [td_b_eq, bfile_r _ _ (by decide), tk_r _ _ _ (by decide)]
    unfold bk_settle
    exact put_eq rfl rfl
  have v5 : (td_b (bk_settle b (nI y) (nI q0)) 0).1 5 (b.2 1) = -1 := by
    rw [td_b_eq, bfile_r _ _ (by decide), tk_r _ _ _ (by decide)]
    unfold bk_settle
    rw [put_ne (by omega), draft_m (by decide) (by decide)]
  have v6 : (td_b (bk_settle b (nI y) (nI q0)) 0).1 6 (b.2 1) = -1 := by
    rw [td_b_eq, bfile_r _ _ (by decide), tk_r _ _ _ (by decide)]
    unfold bk_settle
    rw [put_ne (by omega), draft_m (by decide) (by decide)]
  have v7 : (td_b (bk_settle b (nI y) (nI q0)) 0).1 7 (b.2 1) = -1 := by
    rw [td_b_eq, bfile_r _ _ (by decide)]
    refine (tk_7 (bk_settle b (nI y) (nI q0)) 0).trans ?_
    rw [if_pos rfl]
    show (bk_settle b (nI y) (nI q0)).1 7 (b.2 1) = -1
    unfold bk_settle
    rw [put_ne (by omega), draft_m (by decide) (by decide)]
  have m0 : (g_t3 (g_mk (md_writes g 5 (nI y) (-1) (-1) (nI q0) 0) 0) 0).1 0 (b.2 1) = 5 := by
    rw [g2_r _ _ _ (by decide), ← eN]
    exact wr_at.1
  have m1 : (g_t3 (g_mk (md_writes g 5 (nI y) (-1) (-1) (nI q0) 0) 0) 0).1 1 (b.2 1) = nI y := by
    rw [g2_r _ _ _ (by decide), ← eN]
    exact wr_at.2.1
  have m2 : (g_t3 (g_mk (md_writes g 5 (nI y) (-1) (-1) (nI q0) 0) 0) 0).1 2 (b.2 1) = -1 := by
    rw [g2_r _ _ _ (by decide), ← eN]
    exact wr_at.2.2.1
  have m3 : (g_t3 (g_mk (md_writes g 5 (nI y) (-1) (-1) (nI q0) 0) 0) 0).1 3 (b.2 1) = -1 := by
    rw [g2_r _ _ _ (by decide), ← eN]
    exact wr_at.2.2.2.1
  have m4 : (g_t3 (g_mk (md_writes g 5 (nI y) (-1) (-1) (nI q0) 0) 0) 0).1 4 (b.2 1) = nI q0 := by
    rw [g2_r _ _ _ (by decide), ← eN]
    exact wr_at.2.2.2.2.1
  have m5 : (g_t3 (g_mk (md_writes g 5 (nI y) (-1) (-1) (nI q0) 0) 0) 0).1 5 (b.2 1) = 0 := by
    rw [g2_r _ _ _ (by decide), ← eN]
    exact wr_at.2.2.2.2.2.1
  have m6 : (g_t3 (g_mk (md_writes g 5 (nI y) (-1) (-1) (nI q0) 0) 0) 0).1 6 (b.2 1) = -1 := by
    rw [g2_6 _ _ _ (by decide), if_pos rfl, ← eN]
    exact wr_at.2.2.2.2.2.2
  have hs : ¬ (g_t3 (g_mk (md_writes g 5 (nI y) (-1) (-1) (nI q0) 0) 0) 0).1 0 (b.2 1) = 0 := by rw [m0]; decide
  have hE : EV (g_t3 (g_mk (md_writes g 5 (nI y) (-1) (-1) (nI q0) 0) 0) 0) (b.2 2 + 0) (b.2 1) := ⟨Or.inr (Or.inr (Or.inr (Or.inr (Or.inr (Or.inl m0))))), fun _ => ⟨y, hy, m1⟩, fun q => absurd (m0.symm.trans q) (by decide), fun q => absurd (m0.symm.trans q) (by decide), fun q => absurd (m0.symm.trans q) (by decide), fun q => absurd (m0.symm.trans q) (by decide), fun q => absurd (m0.symm.trans q) (by decide), fun _ => ⟨q0, hq, m4⟩, fun q => absurd (m0.symm.trans q) (by decide)⟩
  have hR : ER (td_b (bk_settle b (nI y) (nI q0)) 0) (g_t3 (g_mk (md_writes g 5 (nI y) (-1) (-1) (nI q0) 0) 0) 0) (b.2 1) := ⟨v0.trans m0.symm, v1.trans m1.symm, v2.trans m2.symm, v7.trans m6.symm, fun q => absurd (m0.symm.trans q) (by decide), fun q => absurd (m0.symm.trans q) (by decide), fun q => absurd (m0.symm.trans q) (by decide), fun q => absurd (m0.symm.trans q) (by decide), fun q => absurd (m0.symm.trans q) (by decide), fun _ => v4.trans m4.symm⟩
  exact ⟨hD, take_Rl h hD (by decide) h80 h60 hE hR hs, hs, v0, v2, v3, v7⟩

theorem c_buy {b : Bk} {g : Md} (h : Inv b g) (h80 : b.2 1 < 80) (h60 : b.2 2 + 0 ≤ 60) (y i : Nat) (hy : 8 ≤ y ∧ y ≤ 200) (hi : i < b.2 2) : DR (b.2 1) b (bk_buy b (nI y) (nI i)) g (md_writes g 6 (nI y) (nI i) (-1) 0 0) ∧ Rl (b.2 1 + 1) (b.2 2 + 0) (td_b (bk_buy b (nI y) (nI i)) 0) (g_t3 (g_mk (md_writes g 6 (nI y) (nI i) (-1) 0 0) 0) 0) ∧ ¬ (g_t3 (g_mk (md_writes g 6 (nI y) (nI i) (-1) 0 0) 0) 0).1 0 (b.2 1) = 0 ∧ ((td_b (bk_buy b (nI y) (nI i)) 0).1 0 (b.2 1) = 6 ∧ (td_b (bk_buy b (nI y) (nI i)) 0).1 2 (b.2 1) = nI i ∧ (td_b (bk_buy b (nI y) (nI i)) 0).1 3 (b.2 1) = -1 ∧ (td_b (bk_buy b (nI y) (nI i)) 0).1 7 (b.2 1) = -1) := by
  have eN := h.2.1
  have eF := h.1.2.2.1
  have hD : DR (b.2 1) b (bk_buy b (nI y) (nI i)) g (md_writes g 6 (nI y) (nI i) (-1) 0 0) := ⟨rfl, fun r hr e he => by unfold bk_buy; refine Eq.trans (put_ne (fun q => he q.2)) ?_; exact draft_ne he, fun r hr => by unfold bk_buy; rw [put_r (by omega), draft_r hr], rfl, fun r hr e he => wr_ne (by rw [eN]; exact he), fun r h7 h10 => wr_r h7⟩
  have v0 : (td_b (bk_buy b (nI y) (nI i)) 0).1 0 (b.2 1) = 6 := by
    rw [td_b_eq, bfile_r _ _ (by decide), tk_r _ _ _ (by decide)]
    unfold bk_buy
    rw [put_ne (by omega), draft_0]
  have v1 : (td_b (bk_buy b (nI y) (nI i)) 0).1 1 (b.2 1) = nI y := by
    rw [td_b_eq, bfile_r _ _ (by decide), tk_r _ _ _ (by decide)]
    unfold bk_buy
    rw [put_ne (by omega), draft_1]
  have v2 : (td_b (bk_buy b (nI y) (nI i)) 0).1 2 (b.2 1) = nI i := by
    rw [td_b_eq, bfile_r _ _ (by decide), tk_r _ _ _ (by decide)]
    unfold bk_buy
    exact put_eq rfl rfl
  have v3 : (td_b (bk_buy b (nI y) (nI i)) 0).1 3 (b.2 1) = -1 := by
    rw [td_b_eq, bfile_r _ _ (by decide), tk_r _ _ _ (by decide)]
    unfold bk_buy
    rw [put_ne (by omega), draft_m (by decide) (by decide)]
  have v4 : (td_b (bk_buy b (nI y) (nI i)) 0).1 4 (b.2 1) = -1 := by
    rw [td_b_eq, bfile_r _ _ (by decide), tk_r _ _ _ (by decide)]
    unfold bk_buy
    rw [put_ne (by omega), draft_m (by decide) (by decide)]
  have v5 : (td_b (bk_buy b (nI y) (nI i)) 0).1 5 (b.2 1) = -1 := by
    rw [td_b_eq, bfile_r _ _ (by decide), tk_r _ _ _ (by decide)]
    unfold bk_buy
    rw [put_ne (by omega), draft_m (by decide) (by decide)]
  have v6 : (td_b (bk_buy b (nI y) (nI i)) 0).1 6 (b.2 1) = -1 := by
    rw [td_b_eq, bfile_r _ _ (by decide), tk_r _ _ _ (by decide)]
    unfold bk_buy
    rw [put_ne (by omega), draft_m (by decide) (by decide)]
  have v7 : (td_b (bk_buy b (nI y) (nI i)) 0).1 7 (b.2 1) = -1 := by
    rw [td_b_eq, bfile_r _ _ (by decide)]
    refine (tk_7 (bk_buy b (nI y) (nI i)) 0).trans ?_
    rw [if_pos rfl]
    show (bk_buy b (nI y) (nI i)).1 7 (b.2 1) = -1
    unfold bk_buy
    rw [put_ne (by omega), draft_m (by decide) (by decide)]
  have m0 : (g_t3 (g_mk (md_writes g 6 (nI y) (nI i) (-1) 0 0) 0) 0).1 0 (b.2 1) = 6 := by
    rw [g2_r _ _ _ (by decide), ← eN]
    exact wr_at.1
  have m1 : (g_t3 (g_mk (md_writes g 6 (nI y) (nI i) (-1) 0 0) 0) 0).1 1 (b.2 1) = nI y := by
    rw [g2_r _ _ _ (by decide), ← eN]
    exact wr_at.2.1
  have m2 : (g_t3 (g_mk (md_writes g 6 (nI y) (nI i) (-1) 0 0) 0) 0).1 2 (b.2 1) = nI i := by
    rw [g2_r _ _ _ (by decide), ← eN]
    exact wr_at.2.2.1
  have m3 : (g_t3 (g_mk (md_writes g 6 (nI y) (nI i) (-1) 0 0) 0) 0).1 3 (b.2 1) = -1 := by
    rw [g2_r _ _ _ (by decide), ← eN]
    exact wr_at.2.2.2.1
  have m4 : (g_t3 (g_mk (md_writes g 6 (nI y) (nI i) (-1) 0 0) 0) 0).1 4 (b.2 1) = 0 := by
    rw [g2_r _ _ _ (by decide), ← eN]
    exact wr_at.2.2.2.2.1
  have m5 : (g_t3 (g_mk (md_writes g 6 (nI y) (nI i) (-1) 0 0) 0) 0).1 5 (b.2 1) = 0 := by
    rw [g2_r _ _ _ (by decide), ← eN]
    exact wr_at.2.2.2.2.2.1
  have m6 : (g_t3 (g_mk (md_writes g 6 (nI y) (nI i) (-1) 0 0) 0) 0).1 6 (b.2 1) = -1 := by
    rw [g2_6 _ _ _ (by decide), if_pos rfl, ← eN]
    exact wr_at.2.2.2.2.2.2
  have hs : ¬ (g_t3 (g_mk (md_writes g 6 (nI y) (nI i) (-1) 0 0) 0) 0).1 0 (b.2 1) = 0 := by rw [m0]; decide
  have hE : EV (g_t3 (g_mk (md_writes g 6 (nI y) (nI i) (-1) 0 0) 0) 0) (b.2 2 + 0) (b.2 1) := ⟨Or.inr (Or.inr (Or.inr (Or.inr (Or.inr (Or.inr (m0)))))), fun _ => ⟨y, hy, m1⟩, fun q => absurd (m0.symm.trans q) (by decide), fun q => absurd (m0.symm.trans q) (by decide), fun q => absurd (m0.symm.trans q) (by decide), fun q => absurd (m0.symm.trans q) (by decide), fun q => absurd (m0.symm.trans q) (by decide), fun q => absurd (m0.symm.trans q) (by decide), fun _ => ⟨i, by omega, m2⟩⟩
  have hR : ER (td_b (bk_buy b (nI y) (nI i)) 0) (g_t3 (g_mk (md_writes g 6 (nI y) (nI i) (-1) 0 0) 0) 0) (b.2 1) := ⟨v0.trans m0.symm, v1.trans m1.symm, v2.trans m2.symm, v7.trans m6.symm, fun q => absurd (m0.symm.trans q) (by decide), fun q => absurd (m0.symm.trans q) (by decide), fun q => absurd (m0.symm.trans q) (by decide), fun q => absurd (m0.symm.trans q) (by decide), fun q => absurd (m0.symm.trans q) (by decide), fun q => absurd (m0.symm.trans q) (by decide)⟩
  exact ⟨hD, take_Rl h hD (by decide) h80 h60 hE hR hs, hs, v0, v2, v3, v7⟩
