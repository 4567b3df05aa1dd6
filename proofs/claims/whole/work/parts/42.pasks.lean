/-! PURE: the questions -/
theorem tell_eq {F n i : Nat} {d : Ld} {g : Md} (hS : Sim True d g) (hG : Good F n g) (hi : i < 60) (what : Int32) : t_tell d (nI i) what = m_tell g (nI i) what := by
  have hm := m_is_n hG hi
  have ht : is_there d (nI i) ↔ ¬ (mV g i).1 = 0 := (is_there_n hi).trans ⟨fun q w => q ((hS.2 i hi).1.mpr w), fun q w => q ((hS.2 i hi).1.mp w)⟩
  unfold t_tell m_tell
  by_cases c : (mV g i).1 = 0
  · rw [if_neg (fun q => ht.mp q c), if_neg (fun q => hm.mp q c)]
  · obtain ⟨q1, q2, q3, q4, q5⟩ := (hS.2 i hi).2 c
    have q5 := q5 trivial
    have e0 : d.1 7 i = g.1 15 (3 * i + 0) := congrArg (fun z => z.1) q5
    have e1 : d.1 8 i = g.1 15 (3 * i + 1) := congrArg (fun z => z.2.1) q5
    have e2 : d.1 9 i = g.1 15 (3 * i + 2) := congrArg (fun z => z.2.2) q5
    rw [if_pos (ht.mpr c), if_pos (hm.mpr c), nI_clamp (by omega), show d.1 1 i = g.1 12 i from q1, show d.1 2 i = g.1 13 i from q2, show d.1 3 i = g.1 14 i from q3, show d.1 4 i = g.1 16 i from q4, e0, e1, e2]
theorem near100 {H : Nat} (h : H < 2 ^ 61) : z_near (lN H) 100 = (lN H + 50) / 100 := by
  unfold z_near
  rw [show (2 : Int64) * lN H = lN (2 * H) from lN_mul 2 H, show (2 : Int64) * 100 = lN 200 from rfl, show lN (2 * H) + 100 = lN (2 * H + 100) from lN_add _ 100, show lN H + 50 = lN (H + 50) from lN_add _ 50, show (100 : Int64) = lN 100 from rfl, pk_lDiv (by omega) (by omega) (by omega), pk_lDiv (by omega) (by omega) (by omega)]
  congr 1
  omega
theorem prod_le {c m : Nat} (hc : c < 2 ^ 31) (hm : m ≤ 1000) : c * m ≤ 2147483648000 := by
  have : c * m ≤ 2147483648 * 1000 := Nat.mul_le_mul (by omega) hm
  omega
/-- a field's money, in class and reference: one number, or none in both -/
theorem money_eq {F n k y i : Nat} {b : Bk} {d : Ld} {g : Md} (hS : Sim True d g) (hG : Good F n g) (hi : i < 60) (ht : ¬ (mV g i).1 = 0) (hy : y ≤ 200) (hV : PV g k) (hm : ∀ x, bk_mean b k (nI y) x = m_avg g k (nI y) x) :
    (means_known b k (nI y) → w_money (ld_means d b k (nI y)) i = m_money g k (nI y) i ∧ ¬ m_money g k (nI y) i = -1) ∧ (¬ means_known b k (nI y) → m_money g k (nI y) i = -1) := by
  unfold means_known
  rw [hm 0, hm 1, hm 2]
  unfold m_money
  constructor
  · rintro ⟨k0, k1, k2⟩
    rw [if_neg k0, if_neg k1, if_neg k2]
    obtain ⟨q1, q2, q3, q4, q5⟩ := (hS.2 i hi).2 ht
    have q5 := q5 trivial
    have e0 : d.1 7 i = g.1 15 (3 * i + 0) := congrArg (fun z => z.1) q5
    have e1 : d.1 8 i = g.1 15 (3 * i + 1) := congrArg (fun z => z.2.1) q5
    have e2 : d.1 9 i = g.1 15 (3 * i + 2) := congrArg (fun z => z.2.2) q5
    obtain ⟨-, -, -, -, -, ⟨x, hx, ex⟩, ⟨u, hu, eu⟩, ⟨v, hv, ev⟩⟩ := hG.2.2.1 i hi ht
    have ex2 : g.1 15 (3 * i + 0) = nI x := ex
    have eu2 : g.1 15 (3 * i + 1) = nI u := eu
    have ev2 : g.1 15 (3 * i + 2) = nI v := ev
    rcases avg_rng (cn := 0) hy hV with z | ⟨m0, h0, a0⟩
    · exact absurd z k0
    rcases avg_rng (cn := 1) hy hV with z | ⟨m1, h1, a1⟩
    · exact absurd z k1
    rcases avg_rng (cn := 2) hy hV with z | ⟨m2, h2, a2⟩
    · exact absurd z k2
    obtain ⟨v0, v1, v2⟩ := means_val (d := d) (b := b) (k := k) (y := nI y) ⟨by rw [hm 0]; exact k0, by rw [hm 1]; exact k1, by rw [hm 2]; exact k2⟩
    unfold w_money
    rw [means_row _ _ _ _ 7 (by decide), means_row _ _ _ _ 8 (by decide), means_row _ _ _ _ 9 (by decide), v0, v1, v2, hm 0, hm 1, hm 2, e0, e1, e2, ex2, eu2, ev2, a0, a1, a2, nI_l hx, nI_l hu, nI_l hv, nI_l (by omega), nI_l (by omega), nI_l (by omega), lN_mul, lN_mul, lN_mul, show (0 : Int64) + lN (x * m0) = lN (0 + x * m0) from lN_add 0 _, lN_add, lN_add]
    have b0 := prod_le hx h0.2
    have b1 := prod_le hu h1.2
    have b2 := prod_le hv h2.2
    rw [near100 (by omega)]
    refine ⟨rfl, ?_⟩
    rw [show lN (0 + x * m0 + u * m1 + v * m2) + 50 = lN (0 + x * m0 + u * m1 + v * m2 + 50) from lN_add _ 50, show (100 : Int64) = lN 100 from rfl, pk_lDiv (by omega) (by omega) (by omega)]
    intro w
    have hle : lN ((0 + x * m0 + u * m1 + v * m2 + 50) / 100) ≤ -1 := by rw [w]; decide
    exact l_m1 _ (by omega) hle
  · intro hn
    by_cases k0 : m_avg g k (nI y) 0 = -1
    · rw [if_pos k0]
    · by_cases k1 : m_avg g k (nI y) 1 = -1
      · rw [if_neg k0, if_pos k1]
      · by_cases k2 : m_avg g k (nI y) 2 = -1
        · rw [if_neg k0, if_neg k1, if_pos k2]
        · exact absurd ⟨k0, k1, k2⟩ hn
theorem worth_eq {F n k y i : Nat} {b : Bk} {d : Ld} {g : Md} (hS : Sim True d g) (hG : Good F n g) (hi : i < 60) (hy : y ≤ 200) (hV : PV g k) (hm : ∀ x, bk_mean b k (nI y) x = m_avg g k (nI y) x) : r_worth d b k (nI y) (nI i) = if g.1 11 i = 0 then -1 else m_money g k (nI y) i := by
  have ht : is_there d (nI i) ↔ ¬ (mV g i).1 = 0 := (is_there_n hi).trans ⟨fun q w => q ((hS.2 i hi).1.mpr w), fun q w => q ((hS.2 i hi).1.mp w)⟩
  unfold r_worth
  by_cases c : g.1 11 i = 0
  · rw [if_neg (fun q => ht.mp q c), if_pos c]
  · rw [if_pos (ht.mpr c), if_neg c, nI_clamp (by omega)]
    obtain ⟨m1, m2⟩ := money_eq hS hG hi c hy hV hm
    by_cases hk : means_known b k (nI y)
    · rw [if_pos hk]
      exact (m1 hk).1
    · rw [if_neg hk]
      exact (m2 hk).symm
theorem lV_means (d : Ld) (b : Bk) (k : Nat) (y : Int32) (f : Nat) : lV (ld_means d b k y) f = lV d f := by
  unfold lV
  rw [means_row _ _ _ _ _ (by decide), means_row _ _ _ _ _ (by decide), means_row _ _ _ _ _ (by decide), means_row _ _ _ _ _ (by decide), means_row _ _ _ _ _ (by decide), means_row _ _ _ _ _ (by decide), means_row _ _ _ _ _ (by decide), means_row _ _ _ _ _ (by decide)]
theorem woa_out {d : Ld} {P : Prop} [Decidable P] {who : Int32} : ∀ (r k : Nat) (t : Int64), (∀ f, k ≤ f → f < k + r → d.1 0 f = 0) → woa d P who r k t = t
  | 0, _, t, _ => rfl
  | r + 1, k, t, h => by
    rw [woa, if_pos (h k (Nat.le_refl _) (by omega))]
    exact woa_out r (k + 1) t (fun f h1 h2 => h f (by omega) (by omega))
theorem owed_eq {F n k y : Nat} {b : Bk} {d : Ld} {g : Md} {who : Int32} (hS : Sim True d g) (hG : Good F n g) (hy : y ≤ 200) (hV : PV g k) (hm : ∀ x, bk_mean b k (nI y) x = m_avg g k (nI y) x) : ∀ (r j : Nat) (t : Int64), r + j = F → woa (ld_means d b k (nI y)) (means_known b k (nI y)) who (r + (60 - F)) j t = m_ow g k (nI y) who r j t
  | 0, j, t, h => by
    have hF := hG.2.1
    rw [m_ow, Nat.zero_add]
    refine woa_out _ _ _ (fun f h1 h2 => ?_)
    rw [means_row _ _ _ _ _ (by decide)]
    apply Classical.byContradiction
    intro q
    have ht : ¬ (mV g f).1 = 0 := fun w => q ((hS.2 f (by omega)).1.mpr w)
    have := (hG.2.2.1 f (by omega) ht).1
    omega
  | r + 1, j, t, h => by
    have hF := hG.2.1
    have ih := fun t => owed_eq (who := who) hS hG hy hV hm r (j + 1) t (by omega)
    rw [show r + 1 + (60 - F) = (r + (60 - F)) + 1 by omega, woa, m_ow, means_row _ _ _ _ _ (by decide), means_row _ _ _ _ _ (by decide)]
    by_cases c : g.1 11 j = 0
    · rw [if_pos c, if_pos (show d.1 0 j = 0 from (hS.2 j (by omega)).1.mpr c)]
      exact ih t
    · rw [if_neg c, if_neg (show ¬ d.1 0 j = 0 from fun w => c ((hS.2 j (by omega)).1.mp w)), show d.1 3 j = g.1 14 j from ((hS.2 j (by omega)).2 c).2.2.1]
      obtain ⟨m1, m2⟩ := money_eq hS hG (show j < 60 by omega) c hy hV hm
      have key : (if means_known b k (nI y) then woa (ld_means d b k (nI y)) (means_known b k (nI y)) who (r + (60 - F)) (j + 1) (t + w_money (ld_means d b k (nI y)) j) else -1) = (if m_money g k (nI y) j = -1 then -1 else m_ow g k (nI y) who r (j + 1) (t + m_money g k (nI y) j)) := by
        by_cases hk : means_known b k (nI y)
        · rw [if_pos hk, if_neg (m1 hk).2, (m1 hk).1]
          exact ih _
        · rw [if_neg hk, if_pos (m2 hk)]
      rw [key]
      by_cases c1 : who = -1
      · rw [if_pos c1, if_pos c1]
      · rw [if_neg c1, if_neg c1]
        by_cases c2 : g.1 14 j = who
        · rw [if_pos c2, if_pos c2]
        · rw [if_neg c2, if_neg c2]
          exact ih t
theorem not_there {F n f : Nat} {d : Ld} {g : Md} (hS : Sim True d g) (hG : Good F n g) (hf : f < 60) (h : F ≤ f) : d.1 0 f = 0 ∧ g.1 11 f = 0 := by
  have hz : g.1 11 f = 0 := by
    apply Classical.byContradiction
    intro q
    have := (hG.2.2.1 f hf q).1
    omega
  exact ⟨(hS.2 f hf).1.mpr hz, hz⟩
theorem sum_out {d : Ld} {w : Int32} {F : Nat} : ∀ r, (∀ f, F ≤ f → f < F + r → d.1 0 f = 0) → s_of d w (F + r) = s_of d w F
  | 0, _ => rfl
  | r + 1, h => by
    rw [show F + (r + 1) = (F + r) + 1 by omega, s_of, sum_out r (fun f h1 h2 => h f h1 (by omega)), if_pos (h (F + r) (by omega) (by omega)), Int64.add_zero]
theorem many_out {d : Ld} {F : Nat} : ∀ r, (∀ f, F ≤ f → f < F + r → d.1 0 f = 0) → h_many d (F + r) = h_many d F
  | 0, _ => rfl
  | r + 1, h => by
    rw [show F + (r + 1) = (F + r) + 1 by omega, h_many, many_out r (fun f h1 h2 => h f h1 (by omega)), if_pos (h (F + r) (by omega) (by omega)), Int32.add_zero]
theorem sum_eq {F n : Nat} {d : Ld} {g : Md} (hS : Sim True d g) (hG : Good F n g) (w what : Int32) (hw : ∀ f t, f < 60 → ¬ g.1 11 f = 0 → m_pt g what f t = t + (m_tell g (nI f) w).toInt64) : s_of d w 60 = m_pa g what F := by
  have hF := hG.2.1
  have key : ∀ k, k ≤ F → s_of d w k = m_pa g what k := by
    intro k
    induction k with
    | zero => intro _; rfl
    | succ k ih =>
      intro hk
      rw [s_of, m_pa, ih (by omega)]
      by_cases c : g.1 11 k = 0
      · rw [if_pos c, if_pos (show d.1 0 k = 0 from (hS.2 k (by omega)).1.mpr c), Int64.add_zero]
      · rw [if_neg c, if_neg (show ¬ d.1 0 k = 0 from fun q => c ((hS.2 k (by omega)).1.mp q)), hw k _ (by omega) c, tell_eq hS hG (by omega)]
  have e : F + (60 - F) = 60 := by omega
  rw [← key F (Nat.le_refl F), ← sum_out (d := d) (w := w) (F := F) (60 - F) (fun f h1 h2 => (not_there hS hG (by omega) h1).1), e]
theorem many_eq {F n : Nat} {d : Ld} {g : Md} (hS : Sim True d g) (hG : Good F n g) : (h_many d 60).toInt64 = m_pa g 0 F := by
  have hF := hG.2.1
  have key : ∀ k, k ≤ F → ∃ c : Nat, c ≤ k ∧ h_many d k = nI c ∧ m_pa g 0 k = lN c := by
    intro k
    induction k with
    | zero => intro _; exact ⟨0, Nat.le_refl 0, rfl, rfl⟩
    | succ k ih =>
      intro hk
      obtain ⟨c, h1, h2, h3⟩ := ih (by omega)
      rw [h_many, m_pa, h2, h3]
      by_cases z : g.1 11 k = 0
      · rw [if_pos z, if_pos (show d.1 0 k = 0 from (hS.2 k (by omega)).1.mpr z)]
        exact ⟨c, by omega, Int32.add_zero _, rfl⟩
      · rw [if_neg z, if_neg (show ¬ d.1 0 k = 0 from fun q => z ((hS.2 k (by omega)).1.mp q))]
        refine ⟨c + 1, by omega, nI_1 c, ?_⟩
        unfold m_pt
        rw [if_neg (show ¬ (0 : Int32) = 5 by decide), if_neg (show ¬ ((2 : Int32) ≤ 0 ∧ (0 : Int32) ≤ 4) by decide), if_neg (show ¬ (0 : Int32) = 1 by decide), if_pos rfl, lN_1]
  obtain ⟨c, h1, h2, h3⟩ := key F (Nat.le_refl F)
  have e : F + (60 - F) = 60 := by omega
  have e2 := many_out (d := d) (F := F) (60 - F) (fun f h1 h2 => (not_there hS hG (by omega) h1).1)
  rw [e] at e2
  rw [e2, h2, h3, nI_l (by omega)]
theorem tell_at {F n f : Nat} {g : Md} (hG : Good F n g) (hf : f < 60) (ht : ¬ g.1 11 f = 0) (w : Int32) : m_tell g (nI f) w = if w = 0 then g.1 12 f else if w = 1 then g.1 13 f else if w = 2 then g.1 14 f else if w = 3 then g.1 15 (3 * f + 0) else if w = 4 then g.1 15 (3 * f + 1) else if w = 5 then g.1 15 (3 * f + 2) else if w = 6 then if g.1 16 f = 0 then 0 else 1 else -1 := by
  unfold m_tell
  rw [if_pos ((m_is_n hG hf).mpr ht), nI_clamp (by omega)]
/-- parish's answer out of one state -/
theorem parish_eq {F n : Nat} {d : Ld} {g : Md} (hS : Sim True d g) (hG : Good F n g) (what : Int32) :
    (if what = 0 then (h_many d 60).toInt64 else if what = 1 then s_of d 0 60 else if what = 2 then s_of d 3 60 else if what = 3 then s_of d 4 60 else if what = 4 then s_of d 5 60 else if what = 5 then s_of d 6 60 else if what = 6 then (if d.2.2 = 0 then 0 else 1) else -1) = m_pl g what F := by
  unfold m_pl
  by_cases c0 : what = 0
  · subst c0
    rw [if_pos rfl, if_neg (by decide), if_pos (by decide)]
    exact many_eq hS hG
  rw [if_neg c0]
  by_cases c1 : what = 1
  · subst c1
    rw [if_pos rfl, if_neg (by decide), if_pos (by decide)]
    refine sum_eq hS hG 0 1 (fun f t hf ht => ?_)
    rw [tell_at hG hf ht]
    unfold m_pt
    rw [if_neg (show ¬ (1 : Int32) = 5 by decide), if_neg (show ¬ ((2 : Int32) ≤ 1 ∧ (1 : Int32) ≤ 4) by decide), if_pos rfl, if_neg (show ¬ (1 : Int32) = 0 by decide), if_pos rfl]
  rw [if_neg c1]
  by_cases c2 : what = 2
  · subst c2
    rw [if_pos rfl, if_neg (by decide), if_pos (by decide)]
    refine sum_eq hS hG 3 2 (fun f t hf ht => ?_)
    rw [tell_at hG hf ht]
    unfold m_pt
    rw [if_neg (show ¬ (2 : Int32) = 5 by decide), if_pos (show ((2 : Int32) ≤ 2 ∧ (2 : Int32) ≤ 4) by decide), if_neg (show ¬ (2 : Int32) = 1 by decide), if_neg (show ¬ (2 : Int32) = 0 by decide), show 3 * f + (2 : Int32).toNatClampNeg - 2 = 3 * f + 0 by rw [show (2 : Int32).toNatClampNeg = 2 by decide]; omega]
    rfl
  rw [if_neg c2]
  by_cases c3 : what = 3
  · subst c3
    rw [if_pos rfl, if_neg (by decide), if_pos (by decide)]
    refine sum_eq hS hG 4 3 (fun f t hf ht => ?_)
    rw [tell_at hG hf ht]
    unfold m_pt
    rw [if_neg (show ¬ (3 : Int32) = 5 by decide), if_pos (show ((2 : Int32) ≤ 3 ∧ (3 : Int32) ≤ 4) by decide), if_neg (show ¬ (3 : Int32) = 1 by decide), if_neg (show ¬ (3 : Int32) = 0 by decide), show 3 * f + (3 : Int32).toNatClampNeg - 2 = 3 * f + 1 by rw [show (3 : Int32).toNatClampNeg = 3 by decide]; omega]
    rfl
  rw [if_neg c3]
  by_cases c4 : what = 4
  · subst c4
    rw [if_pos rfl, if_neg (by decide), if_pos (by decide)]
    refine sum_eq hS hG 5 4 (fun f t hf ht => ?_)
    rw [tell_at hG hf ht]
    unfold m_pt
    rw [if_neg (show ¬ (4 : Int32) = 5 by decide), if_pos (show ((2 : Int32) ≤ 4 ∧ (4 : Int32) ≤ 4) by decide), if_neg (show ¬ (4 : Int32) = 1 by decide), if_neg (show ¬ (4 : Int32) = 0 by decide), show 3 * f + (4 : Int32).toNatClampNeg - 2 = 3 * f + 2 by rw [show (4 : Int32).toNatClampNeg = 4 by decide]; omega]
    rfl
  rw [if_neg c4]
  by_cases c5 : what = 5
  · subst c5
    rw [if_pos rfl, if_neg (by decide), if_pos (by decide)]
    refine sum_eq hS hG 6 5 (fun f t hf ht => ?_)
    rw [tell_at hG hf ht]
    unfold m_pt
    rw [if_pos rfl, if_neg (show ¬ ((2 : Int32) ≤ 5 ∧ (5 : Int32) ≤ 4) by decide), if_neg (show ¬ (5 : Int32) = 1 by decide), if_neg (show ¬ (5 : Int32) = 0 by decide)]
    by_cases z : g.1 16 f = 0
    · rw [if_pos z, if_pos z]
      rfl
    · rw [if_neg z, if_neg z]
      rfl
  rw [if_neg c5]
  by_cases c6 : what = 6
  · subst c6
    rw [if_pos rfl, if_pos rfl, hS.1]
  rw [if_neg c6, if_neg c6, if_neg]
  rintro ⟨h1, h2⟩
  obtain ⟨v, hv, e⟩ := nI_of2 (x := what) (M := 5) (n := 5) rfl (Int32.not_lt.mpr h1) h2
  subst e
  rcases (show v = 0 ∨ v = 1 ∨ v = 2 ∨ v = 3 ∨ v = 4 ∨ v = 5 by omega) with rfl | rfl | rfl | rfl | rfl | rfl
  · exact c0 rfl
  · exact c1 rfl
  · exact c2 rfl
  · exact c3 rfl
  · exact c4 rfl
  · exact c5 rfl
