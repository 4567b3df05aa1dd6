/-! PURE: the class's mean and the reference's average are one number -/
def s7 (f : Nat → Nat) : Nat := f 1 + f 2 + f 3 + f 4 + f 5 + f 6 + f 7
theorem s7_cong {f h : Nat → Nat} (e : ∀ c, 1 ≤ c → c ≤ 7 → f c = h c) : s7 f = s7 h := by
  unfold s7
  rw [e 1 (by decide) (by decide), e 2 (by decide) (by decide), e 3 (by decide) (by decide), e 4 (by decide) (by decide), e 5 (by decide) (by decide), e 6 (by decide) (by decide), e 7 (by decide) (by decide)]
theorem s7_upd {f h : Nat → Nat} {a x : Nat} (ha : 1 ≤ a ∧ a ≤ 7) (h1 : f a = x + h a) (h2 : ∀ c, 1 ≤ c → c ≤ 7 → ¬ c = a → f c = h c) : s7 f = x + s7 h := by
  have e : s7 f = s7 (fun c => h c + (if c = a then x else 0)) := s7_cong (fun c hc1 hc2 => by
    by_cases q : c = a
    · subst q
      show f c = h c + (if c = c then x else 0)
      rw [if_pos rfl, h1]
      omega
    · show f c = h c + (if c = a then x else 0)
      rw [if_neg q, h2 c hc1 hc2 q]
      rfl)
  rw [e]
  unfold s7
  rcases (show a = 1 ∨ a = 2 ∨ a = 3 ∨ a = 4 ∨ a = 5 ∨ a = 6 ∨ a = 7 by omega) with rfl | rfl | rfl | rfl | rfl | rfl | rfl <;> simp <;> omega
theorem s7_le {f : Nat → Nat} {m : Nat} (h : ∀ c, f c ≤ m) : s7 f ≤ 7 * m := by
  have h1 := h 1
  have h2 := h 2
  have h3 := h 3
  have h4 := h 4
  have h5 := h 5
  have h6 := h 6
  have h7 := h 7
  unfold s7
  omega
/-- the price that counts, of the year y - a, by the first so many entries; 0: none -/
def prc (g : Md) (cn : Int32) (y a : Nat) : Nat → Nat
  | 0 => 0
  | k + 1 => if g.1 0 k = 0 ∧ g.1 2 k = cn ∧ (g.1 1 k).toNatClampNeg + a = y then (g.1 4 k).toNatClampNeg else prc g cn y a k
/-- the prices are such -/
def PV (g : Md) (k : Nat) : Prop := ∀ e, e < k → g.1 0 e = 0 → ∃ yr q, (1 ≤ yr ∧ yr ≤ 200) ∧ (1 ≤ q ∧ q ≤ 1000) ∧ g.1 1 e = nI yr ∧ g.1 4 e = nI q
/-- the class's entries and the reference's, as far as prices go -/
def BM (b : Bk) (g : Md) (k : Nat) : Prop := ∀ e, e < k → b.1 0 e = g.1 0 e ∧ (g.1 0 e = 0 → b.1 1 e = g.1 1 e ∧ b.1 2 e = g.1 2 e ∧ b.1 4 e = g.1 4 e)
theorem prc_le {g : Md} {cn : Int32} {y a : Nat} : ∀ {k : Nat}, PV g k → prc g cn y a k ≤ 1000
  | 0, _ => Nat.zero_le _
  | k + 1, h => by
    rw [prc]
    split
    · next q =>
      obtain ⟨yr, z, h1, h2, h3, h4⟩ := h k (Nat.lt_succ_self k) q.1
      rw [h4, nI_clamp (by omega)]
      omega
    · exact prc_le (fun e he => h e (Nat.lt_succ_of_lt he))
def avf (S M : Nat) : Int32 := if M = 0 then -1 else nI ((2 * S + M) / (2 * M))
theorem mb_bit : ∀ a, a < 8 → ∀ s, s < 256 → ((((nI s) >>> ((nI a) &&& 31)) &&& 1 = 0) ↔ s.testBit a = false) := by decide +kernel
theorem mb_or : ∀ a, a < 8 → ∀ s, s < 256 → (nI s ||| 1 <<< ((nI a) &&& 31) = nI (s ||| 1 <<< a)) := by decide +kernel
theorem mb_lt : ∀ a, a < 8 → ∀ s, s < 256 → (s ||| 1 <<< a < 256) := by decide +kernel
theorem mb_set : ∀ a, a < 8 → ∀ s, s < 256 → ∀ c, c < 8 → ((s ||| 1 <<< a).testBit c = (s.testBit c || decide (c = a))) := by decide +kernel
def uS (g : Md) (cn : Int32) (y k s : Nat) : Nat → Nat := fun a => if s.testBit a then 0 else prc g cn y a k
def uM (g : Md) (cn : Int32) (y k s : Nat) : Nat → Nat := fun a => if s.testBit a then 0 else if prc g cn y a k = 0 then 0 else 1
theorem mn_eq {b : Bk} {g : Md} {cn : Int32} {y : Nat} (hy : y ≤ 200) : ∀ (k sm ys s : Nat), s < 256 → BM b g k → PV g k → sm + 1000 * k ≤ 80000 → ys + k ≤ 80 → mn b (nI y) cn k (nI sm) ys (nI s) = avf (sm + s7 (uS g cn y k s)) (ys + s7 (uM g cn y k s))
  | 0, sm, ys, s, hs, hB, hV, h1, h2 => by
    have e1 : s7 (uS g cn y 0 s) = 0 := by
      rw [s7_cong (h := fun _ => 0) (fun c _ _ => by unfold uS; rw [prc]; split <;> rfl)]; rfl
    have e2 : s7 (uM g cn y 0 s) = 0 := by
      rw [s7_cong (h := fun _ => 0) (fun c _ _ => by unfold uM; rw [prc]; split <;> rfl)]; rfl
    rw [e1, e2, mn]
    unfold avf
    by_cases h : ys = 0
    · subst h
      rfl
    · rw [if_neg (fun q => h ((nI_eq (by omega) (by omega)).mp (q.trans nI_0.symm))), if_neg (by omega)]
      rw [show (2 : Int32) * nI sm = nI (2 * sm) from pk_mul 2 sm, show (2 : Int32) * nI ys = nI (2 * ys) from pk_mul 2 ys, nI_add, pk_div (by omega) (by omega) (by omega)]
      rfl
  | k + 1, sm, ys, s, hs, hB, hV, h1, h2 => by
    have hB2 : BM b g k := fun e he => hB e (Nat.lt_succ_of_lt he)
    have hV2 : PV g k := fun e he => hV e (Nat.lt_succ_of_lt he)
    have hb := hB k (Nat.lt_succ_self k)
    have skip : (∀ a, 1 ≤ a → a ≤ 7 → s.testBit a = true ∨ prc g cn y a (k + 1) = prc g cn y a k) → mn b (nI y) cn k (nI sm) ys (nI s) = avf (sm + s7 (uS g cn y (k + 1) s)) (ys + s7 (uM g cn y (k + 1) s)) := fun h => by
      rw [mn_eq hy k sm ys s hs hB2 hV2 (by omega) (by omega)]
      rw [s7_cong (f := uS g cn y (k + 1) s) (h := uS g cn y k s) (fun c c1 c2 => by
        unfold uS
        rcases h c c1 c2 with q | q
        · rw [if_pos q, if_pos q]
        · rw [q]), s7_cong (f := uM g cn y (k + 1) s) (h := uM g cn y k s) (fun c c1 c2 => by
        unfold uM
        rcases h c c1 c2 with q | q
        · rw [if_pos q, if_pos q]
        · rw [q])]
    rw [mn, hb.1]
    by_cases c1 : g.1 0 k = 0
    · rw [if_pos c1]
      obtain ⟨b1, b2, b4⟩ := hb.2 c1
      obtain ⟨yr, q, hyr, hq, e1, e4⟩ := hV k (Nat.lt_succ_self k) c1
      have ec : (g.1 1 k).toNatClampNeg = yr := by rw [e1]; exact nI_clamp (by omega)
      have eq4 : (g.1 4 k).toNatClampNeg = q := by rw [e4]; exact nI_clamp (by omega)
      rw [b1, b2, b4, e1]
      by_cases c2 : g.1 2 k = cn
      · rw [if_pos c2]
        have nope : (y ≤ yr ∨ yr + 7 < y) → mn b (nI y) cn k (nI sm) ys (nI s) = avf (sm + s7 (uS g cn y (k + 1) s)) (ys + s7 (uM g cn y (k + 1) s)) := fun h => skip (fun a a1 a2 => Or.inr (by
          rw [prc, if_neg]
          intro h2
          have := h2.2.2
          rw [ec] at this
          omega))
        by_cases c3 : nI y - nI yr < 1
        · rw [if_pos c3]
          refine nope (Or.inl ?_)
          rcases Nat.lt_or_ge yr y with z | z
          · exfalso
            rw [pk_sub (by omega)] at c3
            exact absurd c3 (Int32.not_lt.mpr (nI_le (a := 1) (by omega) (by omega)))
          · exact z
        · rw [if_neg c3]
          have hlt : yr < y := by
            rcases Nat.lt_or_ge yr y with z | z
            · exact z
            · exfalso
              apply c3
              rw [Int32.lt_iff_toInt_lt, pk_sub_toInt (by omega) (by omega)]
              show (y : Int) - yr < 1
              omega
          rw [pk_sub (by omega)]
          by_cases c4 : (7 : Int32) < nI (y - yr)
          · rw [if_pos c4]
            refine nope (Or.inr ?_)
            have := (nI_ltI (a := 7) (by decide) (by omega)).mp c4
            omega
          · rw [if_neg c4]
            have h7 : y - yr ≤ 7 := by
              rcases Nat.lt_or_ge 7 (y - yr) with z | z
              · exact absurd (nI_lt (a := 7) z (by omega)) c4
              · exact z
            by_cases c5 : s.testBit (y - yr) = false
            · rw [if_pos ((mb_bit (y - yr) (by omega) s hs).mpr c5), mb_or (y - yr) (by omega) s hs, e4, nI_add, mn_eq hy k (sm + q) (ys + 1) _ (mb_lt (y - yr) (by omega) s hs) hB2 hV2 (by omega) (by omega)]
              have hset := mb_set (y - yr) (by omega) s hs
              have hp : prc g cn y (y - yr) (k + 1) = q := by
                rw [prc, if_pos ⟨c1, c2, by rw [ec]; omega⟩, eq4]
              have hn : ∀ c, ¬ c = y - yr → prc g cn y c (k + 1) = prc g cn y c k := fun c hc => by
                rw [prc, if_neg]
                intro h2
                have := h2.2.2
                rw [ec] at this
                omega
              have es : s7 (uS g cn y (k + 1) s) = q + s7 (uS g cn y k (s ||| 1 <<< (y - yr))) := by
                refine s7_upd (a := y - yr) (by omega) ?_ (fun c d1 d2 hc => ?_)
                · unfold uS
                  rw [hp, hset _ (by omega), c5]
                  simp
                · unfold uS
                  rw [hn c hc, hset c (by omega)]
                  simp [hc]
              have em : s7 (uM g cn y (k + 1) s) = 1 + s7 (uM g cn y k (s ||| 1 <<< (y - yr))) := by
                refine s7_upd (a := y - yr) (by omega) ?_ (fun c d1 d2 hc => ?_)
                · unfold uM
                  rw [hp, hset _ (by omega), c5]
                  simp
                  omega
                · unfold uM
                  rw [hn c hc, hset c (by omega)]
                  simp [hc]
              rw [es, em, Nat.add_assoc, Nat.add_assoc]
            · rw [if_neg (fun z => c5 ((mb_bit (y - yr) (by omega) s hs).mp z))]
              refine skip (fun a a1 a2 => ?_)
              by_cases ha : a = y - yr
              · subst ha
                exact Or.inl (by simpa using c5)
              · refine Or.inr ?_
                rw [prc, if_neg]
                intro h2
                have := h2.2.2
                rw [ec] at this
                omega
      · rw [if_neg c2]
        exact skip (fun a _ _ => Or.inr (by rw [prc, if_neg (fun h2 => c2 h2.2.1)]))
    · rw [if_neg c1]
      exact skip (fun a _ _ => Or.inr (by rw [prc, if_neg (fun h2 => c1 h2.1)]))
theorem p_of_prc {g : Md} {cn : Int32} {y j : Nat} (hy : y ≤ 200) (hj : j < 7) : ∀ (k : Nat), PV g k → p_of g (nI y - 7 + nI j) cn k = nI (prc g cn y (7 - j) k)
  | 0, _ => rfl
  | k + 1, hV => by
    have ih := p_of_prc (cn := cn) hy hj k (fun e he => hV e (Nat.lt_succ_of_lt he))
    rw [p_of, prc, ih]
    by_cases c1 : g.1 0 k = 0
    · obtain ⟨yr, q, hyr, hq, e1, e4⟩ := hV k (Nat.lt_succ_self k) c1
      have ec : (g.1 1 k).toNatClampNeg = yr := by rw [e1]; exact nI_clamp (by omega)
      have eq4 : (g.1 4 k).toNatClampNeg = q := by rw [e4]; exact nI_clamp (by omega)
      have ey : g.1 1 k = nI y - 7 + nI j ↔ yr + (7 - j) = y := by
        rw [e1, show nI y - 7 + nI j = nI y - nI 7 + nI j from rfl, ← Int32.toInt_inj, Int32.toInt_add, pk_sub_toInt (by omega) (by omega), nI_toInt (by omega), nI_toInt (by omega), Int.bmod_eq_of_le (by omega) (by omega)]
        omega
      by_cases c2 : g.1 1 k = nI y - 7 + nI j
      · by_cases c3 : g.1 2 k = cn
        · rw [if_pos c1, if_pos c2, if_pos c3, if_pos ⟨c1, c3, by rw [ec]; exact ey.mp c2⟩, eq4, e4]
        · rw [if_pos c1, if_pos c2, if_neg c3, if_neg (fun h => c3 h.2.1)]
      · rw [if_pos c1, if_neg c2, if_neg (fun h => c2 (ey.mpr (by have := h.2.2; rw [ec] at this; exact this)))]
    · rw [if_neg c1, if_neg (fun h => c1 h.1)]
theorem m_avg_prc {g : Md} {cn : Int32} {y k : Nat} (hy : y ≤ 200) (hV : PV g k) : m_avg g k (nI y) cn = avf (s7 (fun a => prc g cn y a k)) (s7 (fun a => if prc g cn y a k = 0 then 0 else 1)) := by
  have hp : ∀ j, j < 7 → av_p g k (nI y) cn j = nI (prc g cn y (7 - j) k) := fun j hj => p_of_prc hy hj k hV
  have hl : ∀ a, prc g cn y a k ≤ 1000 := fun a => prc_le hV
  have hz : ∀ a, (if nI (prc g cn y a k) ≤ 0 then 0 else 1) = (if prc g cn y a k = 0 then 0 else 1) := fun a => by
    have := hl a
    by_cases h : prc g cn y a k = 0
    · rw [h, if_pos rfl, if_pos (by decide)]
    · rw [if_neg h, if_neg (show ¬ nI (prc g cn y a k) ≤ 0 from fun q => h (Nat.le_zero.mp ((nI_leI (b := 0) (by omega) (by decide)).mp q)))]
  have es : av_sum g k (nI y) cn 7 = nI (s7 (fun a => prc g cn y a k)) := by
    simp only [av_sum, hp 0 (by decide), hp 1 (by decide), hp 2 (by decide), hp 3 (by decide), hp 4 (by decide), hp 5 (by decide), hp 6 (by decide)]
    rw [show (0 : Int32) = nI 0 from rfl]
    simp only [nI_add]
    unfold s7
    exact congrArg nI (by simp only [Nat.sub_zero, show (7 : Nat) - 1 = 6 from rfl, show (7 : Nat) - 2 = 5 from rfl, show (7 : Nat) - 3 = 4 from rfl, show (7 : Nat) - 4 = 3 from rfl, show (7 : Nat) - 5 = 2 from rfl, show (7 : Nat) - 6 = 1 from rfl]; omega)
  have em : av_many g k (nI y) cn 7 = s7 (fun a => if prc g cn y a k = 0 then 0 else 1) := by
    simp only [av_many, hp 0 (by decide), hp 1 (by decide), hp 2 (by decide), hp 3 (by decide), hp 4 (by decide), hp 5 (by decide), hp 6 (by decide), hz]
    unfold s7
    simp only [Nat.sub_zero, show (7 : Nat) - 1 = 6 from rfl, show (7 : Nat) - 2 = 5 from rfl, show (7 : Nat) - 3 = 4 from rfl, show (7 : Nat) - 4 = 3 from rfl, show (7 : Nat) - 5 = 2 from rfl, show (7 : Nat) - 6 = 1 from rfl]
    omega
  have hS : s7 (fun a => prc g cn y a k) ≤ 7 * 1000 := s7_le hl
  have hM : s7 (fun a => if prc g cn y a k = 0 then 0 else 1) ≤ 7 * 1 := s7_le (fun a => by split <;> omega)
  unfold m_avg avf
  rw [es, em]
  generalize s7 (fun a => prc g cn y a k) = S at *
  generalize s7 (fun a => if prc g cn y a k = 0 then 0 else 1) = M at *
  by_cases h : M = 0
  · subst h
    rfl
  · rw [if_neg (fun q => h ((nI_eq (by omega) (by omega)).mp (q.trans nI_0.symm))), if_neg h]
    unfold z_near
    rw [nI_l (by omega), nI_l (by omega), show (2 : Int64) * lN S = lN (2 * S) from lN_mul 2 S, show (2 : Int64) * lN M = lN (2 * M) from lN_mul 2 M, lN_add, pk_lDiv (by omega) (by omega) (by omega), lN_i]
/-- the class's mean and the reference's average -/
theorem mean_eq {b : Bk} {g : Md} {cn : Int32} {y k : Nat} (hk : k ≤ 80) (hy : y ≤ 200) (hB : BM b g k) (hV : PV g k) : bk_mean b k (nI y) cn = m_avg g k (nI y) cn := by
  rw [m_avg_prc hy hV]
  unfold bk_mean
  have h := mn_eq (b := b) (cn := cn) hy k 0 0 0 (by decide) hB hV (by omega) (by omega)
  rw [show (nI 0 : Int32) = 0 from rfl] at h
  rw [h, Nat.zero_add, Nat.zero_add]
  unfold uS uM
  simp only [Nat.zero_testBit]
  rfl
/-- an average lies between 1 and 1000 -/
theorem avg_rng {g : Md} {cn : Int32} {y k : Nat} (hy : y ≤ 200) (hV : PV g k) : m_avg g k (nI y) cn = -1 ∨ ∃ q, (1 ≤ q ∧ q ≤ 1000) ∧ m_avg g k (nI y) cn = nI q := by
  rw [m_avg_prc hy hV]
  have hl : ∀ a, prc g cn y a k ≤ 1000 * (if prc g cn y a k = 0 then 0 else 1) ∧ (if prc g cn y a k = 0 then 0 else 1) ≤ prc g cn y a k := fun a => by
    have := prc_le (cn := cn) (y := y) (a := a) hV
    by_cases h : prc g cn y a k = 0
    · rw [if_pos h, h]; exact ⟨Nat.le_refl _, Nat.le_refl _⟩
    · rw [if_neg h]; omega
  have h1 : s7 (fun a => prc g cn y a k) ≤ 1000 * s7 (fun a => if prc g cn y a k = 0 then 0 else 1) := by
    have a1 := (hl 1).1
    have a2 := (hl 2).1
    have a3 := (hl 3).1
    have a4 := (hl 4).1
    have a5 := (hl 5).1
    have a6 := (hl 6).1
    have a7 := (hl 7).1
    unfold s7
    dsimp only
    omega
  have h2 : s7 (fun a => if prc g cn y a k = 0 then 0 else 1) ≤ s7 (fun a => prc g cn y a k) := by
    have a1 := (hl 1).2
    have a2 := (hl 2).2
    have a3 := (hl 3).2
    have a4 := (hl 4).2
    have a5 := (hl 5).2
    have a6 := (hl 6).2
    have a7 := (hl 7).2
    unfold s7
    dsimp only
    omega
  generalize s7 (fun a => prc g cn y a k) = S at *
  generalize s7 (fun a => if prc g cn y a k = 0 then 0 else 1) = M at *
  unfold avf
  by_cases h : M = 0
  · exact Or.inl (if_pos h)
  · refine Or.inr ⟨(2 * S + M) / (2 * M), ?_, if_neg h⟩
    have hpos : 0 < 2 * M := by omega
    constructor
    · exact (Nat.le_div_iff_mul_le hpos).mpr (by omega)
    · refine Nat.le_of_lt_succ ((Nat.div_lt_iff_lt_mul hpos).mpr ?_)
      have : 2 * S ≤ 2 * (1000 * M) := Nat.mul_le_mul_left 2 h1
      rw [Nat.succ_mul]
      omega
/-- more entries: an average that was is -/
theorem avg_more {g g2 : Md} {cn : Int32} {y k k2 : Nat} (hy : y ≤ 200) (hk : k ≤ k2) (hV : PV g k) (hV2 : PV g2 k2) (h : ∀ e, e < k → g.1 0 e = 0 → g2.1 0 e = 0 ∧ g2.1 1 e = g.1 1 e ∧ g2.1 2 e = g.1 2 e) (hn : ¬ m_avg g k (nI y) cn = -1) : ¬ m_avg g2 k2 (nI y) cn = -1 := by
  have pos : ∀ a j, j ≤ k → ¬ prc g cn y a j = 0 → ∃ e, e < j ∧ g.1 0 e = 0 ∧ g.1 2 e = cn ∧ (g.1 1 e).toNatClampNeg + a = y := by
    intro a j
    induction j with
    | zero => intro _ q; exact absurd rfl q
    | succ j ih =>
      intro hj q
      rw [prc] at q
      by_cases c : g.1 0 j = 0 ∧ g.1 2 j = cn ∧ (g.1 1 j).toNatClampNeg + a = y
      · exact ⟨j, Nat.lt_succ_self j, c⟩
      · rw [if_neg c] at q
        obtain ⟨e, he, r⟩ := ih (by omega) q
        exact ⟨e, by omega, r⟩
  have neg : ∀ a e j, e < j → j ≤ k2 → g2.1 0 e = 0 → g2.1 2 e = cn → (g2.1 1 e).toNatClampNeg + a = y → ¬ prc g2 cn y a j = 0 := by
    intro a e j
    induction j with
    | zero => intro q; omega
    | succ j ih =>
      intro he hj q0 q2 q1
      rw [prc]
      split
      · next z =>
        obtain ⟨yr, q, -, hq, -, e4⟩ := hV2 j (by omega) z.1
        rw [e4, nI_clamp (by omega)]
        omega
      · next z =>
        rcases Nat.lt_or_ge e j with w | w
        · exact ih w (by omega) q0 q2 q1
        · have : e = j := by omega
          subst this
          exact absurd ⟨q0, q2, q1⟩ z
  rw [m_avg_prc hy hV] at hn
  rw [m_avg_prc hy hV2]
  have hM : ¬ s7 (fun a => if prc g cn y a k = 0 then 0 else 1) = 0 := fun q => hn (if_pos q)
  have hx : ∃ a, (1 ≤ a ∧ a ≤ 7) ∧ ¬ prc g cn y a k = 0 := by
    apply Classical.byContradiction
    intro q
    apply hM
    rw [s7_cong (h := fun _ => 0) (fun c c1 c2 => if_pos (Classical.byContradiction (fun z => q ⟨c, ⟨c1, c2⟩, z⟩)))]
    rfl
  obtain ⟨a, ha, hp⟩ := hx
  obtain ⟨e, he, r0, r2, r1⟩ := pos a k (Nat.le_refl k) hp
  obtain ⟨z0, z1, z2⟩ := h e he r0
  have hp2 := neg a e k2 (by omega) (Nat.le_refl _) z0 (z2.trans r2) (by rw [z1]; exact r1)
  have hM2 : 1 ≤ s7 (fun a => if prc g2 cn y a k2 = 0 then 0 else 1) := by
    have e1 : (if prc g2 cn y a k2 = 0 then 0 else 1) = 1 := if_neg hp2
    unfold s7
    dsimp only
    rcases (show a = 1 ∨ a = 2 ∨ a = 3 ∨ a = 4 ∨ a = 5 ∨ a = 6 ∨ a = 7 by omega) with rfl | rfl | rfl | rfl | rfl | rfl | rfl <;> omega
  unfold avf
  rw [if_neg (by omega)]
  intro q
  have hS : s7 (fun a => prc g2 cn y a k2) ≤ 7 * 1000 := s7_le (fun a => prc_le hV2)
  generalize s7 (fun a => prc g2 cn y a k2) = S at *
  generalize s7 (fun a => if prc g2 cn y a k2 = 0 then 0 else 1) = M at *
  have hb : (2 * S + M) / (2 * M) ≤ 2 * S + M := Nat.div_le_self _ _
  have hd : (2 * S + M) / (2 * M) ≤ 7001 := by
    refine Nat.le_of_lt_succ ((Nat.div_lt_iff_lt_mul (by omega)).mpr ?_)
    have : 7002 * (2 * M) = 14004 * M := by rw [← Nat.mul_assoc]
    omega
  exact absurd (q ▸ (nI_le (a := 0) (Nat.zero_le _) (show (2 * S + M) / (2 * M) < 2 ^ 31 by omega))) (by decide)
