/-! PURE: one act, in reference and class -/
theorem chV_eqv {c : Prop} {u v : V8} (h : EQV c u v) (s m0 m1 m2 : Nat) : EQV c (v_chg u s m0 m1 m2) (v_chg v s m0 m1 m2) := ⟨h.1, fun q => ⟨(h.2 q).1, (h.2 q).2.1, (h.2 q).2.2.1, (h.2 q).2.2.2.1, fun _ => rfl⟩⟩
theorem wt_eq {c : Prop} {d : Ld} {g : Md} (hS : Sim c d g) {f : Nat} (hf : f < 60) : wt d f = mwt g f := by
  unfold wt mwt
  obtain ⟨h1, h2⟩ := hS.2 f hf
  by_cases h : g.1 11 f = 0
  · rw [if_pos h, if_pos (show d.1 0 f = 0 from h1.mpr h)]
  · rw [if_neg h, if_neg (show ¬ d.1 0 f = 0 from fun q => h (h1.mp q))]
    obtain ⟨q1, q2, -⟩ := h2 h
    rw [show d.1 1 f = g.1 12 f from q1, show d.1 2 f = g.1 13 f from q2]
theorem wsum_eq {c : Prop} {d : Ld} {g : Md} (hS : Sim c d g) : ∀ k, k ≤ 60 → wsum d k = mws g k
  | 0, _ => rfl
  | k + 1, h => by rw [wsum, mws, wsum_eq hS k (by omega), wt_eq hS (by omega)]
theorem ld_set_1 (d : Ld) (v : Int32) (r : Nat) : (ld_set d v).1 r = d.1 r := rfl
theorem md_set_1 (g : Md) (v : Int32) (r : Nat) : (md_set g v).1 r = g.1 r := rfl
theorem wst_1 (d : Ld) (k r : Nat) : (wst d k).1 r = d.1 r := rfl
theorem msB_1 (g : Md) (e : Nat) (t : Int64) (k r : Nat) : (msB g e t k).1 r = g.1 r := rfl
theorem set_shape (d : Ld) (b : Bk) (q : Int32) (k : Nat) (y : Int32) (r : Nat) (h : r ≤ 4) : (ld_settle d b q k y).1 r = d.1 r := by
  unfold ld_settle
  rw [ld_set_1, chall_row _ _ (by omega), share_row _ _ _ _ (by omega), means_row _ _ _ _ _ (by omega), wst_1]
theorem gset_shape (g : Md) (kn e : Nat) (t : Int64) (r : Nat) (h : ¬ r = 15) : (g_settle g kn e t).1 r = g.1 r := by
  unfold g_settle
  rw [md_set_1, mch_row _ _ _ _ h, mit_1, msB_1]
theorem sim_settle {c : Prop} {F n kn kC e q m0 m1 m2 : Nat} {d : Ld} {g : Md} {b : Bk} {y : Int32} (hS : Sim c d g) (hG : Good F n g) (hn : n ≤ 80) (hq : 1 ≤ q ∧ q ≤ 1000000) (eq : g.1 4 e = nI q) (hT : 1 ≤ tot g) (h0 : 1 ≤ m0 ∧ m0 ≤ 1000) (h1 : 1 ≤ m1 ∧ m1 ≤ 1000) (h2 : 1 ≤ m2 ∧ m2 ≤ 1000) (e0 : m_avg g kn (g.1 1 e) 0 = nI m0) (e1 : m_avg g kn (g.1 1 e) 1 = nI m1) (e2 : m_avg g kn (g.1 1 e) 2 = nI m2) (hk : means_known b kC y) (hc : c → bk_mean b kC y 0 = nI m0 ∧ bk_mean b kC y 1 = nI m1 ∧ bk_mean b kC y 2 = nI m2) : Sim c (ld_settle d b (nI q) kC y) (g_settle g kn e (mws g 60)) := by
  have hw : ∀ f, f < 60 → (ld_means (wst d 60) b kC y).2.1 0 f = lN (wN (mV g f)) := fun f hf => by
    have e9 : (ld_means (wst d 60) b kC y).2.1 0 f = if f < 60 then wt d f else d.2.1 0 f := rfl
    rw [e9, if_pos hf, wt_eq hS hf, mwt_eq hG hf]
  obtain ⟨sh, s1, s2, s3⟩ := settle_V (d1 := ld_means (wst d 60) b kC y) hG hn hq eq hT h0 h1 h2 e0 e1 e2 hw
  have hL : c → ∀ f, f < 60 → lV (ld_settle d b (nI q) kC y) f = if ¬ d.1 0 f = 0 then v_chg (lV (ld_means (wst d 60) b kC y) f) (sh f) m0 m1 m2 else lV (ld_means (wst d 60) b kC y) f := fun hcc f hf => by
    obtain ⟨b0, b1, b2⟩ := hc hcc
    obtain ⟨v0, v1, v2⟩ := means_val (d := wst d 60) hk
    have hl := s3 (v0.trans b0) (v1.trans b1) (v2.trans b2) f hf
    rw [← wsum_eq hS 60 (Nat.le_refl 60), means_row _ _ _ _ _ (by decide), wst_1] at hl
    unfold ld_settle
    exact hl
  have hD := fun r h => set_shape d b (nI q) kC y r h
  have hM := fun r h => gset_shape g kn e (mws g 60) r h
  have h1d : (ld_settle d b (nI q) kC y).2.2 = 1 := rfl
  have h1g : (g_settle g kn e (mws g 60)).2.2.2 = 1 := rfl
  generalize ld_settle d b (nI q) kC y = D at *
  generalize g_settle g kn e (mws g 60) = G at *
  refine ⟨h1d.trans h1g.symm, fun f hf => ?_⟩
  have hv := hS.2 f hf
  refine ⟨?_, fun ht => ?_⟩
  · show D.1 0 f = 0 ↔ G.1 11 f = 0
    rw [hD 0 (by omega), hM 11 (by decide)]
    exact hv.1
  · have ht2 : ¬ (mV g f).1 = 0 := by
      have h9 : ¬ G.1 11 f = 0 := ht
      rw [hM 11 (by decide)] at h9
      exact h9
    obtain ⟨q1, q2, q3, q4, q5⟩ := hv.2 ht2
    refine ⟨?_, ?_, ?_, ?_, fun hcc => ?_⟩
    · show D.1 1 f = G.1 12 f
      rw [hD 1 (by omega), hM 12 (by decide)]
      exact q1
    · show D.1 2 f = G.1 13 f
      rw [hD 2 (by omega), hM 13 (by decide)]
      exact q2
    · show D.1 3 f = G.1 14 f
      rw [hD 3 (by omega), hM 14 (by decide)]
      exact q3
    · show D.1 4 f = G.1 16 f
      rw [hD 4 (by omega), hM 16 (by decide)]
      exact q4
    · rw [hL hcc f hf, s2 f hf, if_pos (show ¬ d.1 0 f = 0 from fun z => ht2 (hv.1.mp z)), if_pos (show ¬ g.1 11 f = 0 from ht2)]
      rfl
/-- an entry as it may stand: F fields are there -/
def EV (g : Md) (F e : Nat) : Prop :=
  (g.1 0 e = 0 ∨ g.1 0 e = 1 ∨ g.1 0 e = 2 ∨ g.1 0 e = 3 ∨ g.1 0 e = 4 ∨ g.1 0 e = 5 ∨ g.1 0 e = 6) ∧ (¬ g.1 0 e = 0 → ∃ y : Nat, (8 ≤ y ∧ y ≤ 200) ∧ g.1 1 e = nI y) ∧
  (g.1 0 e = 0 → ∃ yr q : Nat, (1 ≤ yr ∧ yr ≤ 200) ∧ (1 ≤ q ∧ q ≤ 1000) ∧ g.1 1 e = nI yr ∧ g.1 4 e = nI q) ∧
  (g.1 0 e = 1 → ∃ j a k o : Nat, j < F ∧ (1 ≤ a ∧ a ≤ 10000) ∧ k ≤ 2 ∧ o ≤ 9 ∧ g.1 6 e = nI j ∧ g.1 4 e = nI a ∧ g.1 3 e = nI k ∧ g.1 5 e = nI o) ∧
  (g.1 0 e = 2 → ∃ i j a : Nat, i < j ∧ j + 1 < F ∧ (1 ≤ a ∧ a < 2 ^ 31) ∧ g.1 2 e = nI i ∧ g.1 6 e = nI j ∧ g.1 4 e = nI a) ∧
  (g.1 0 e = 3 → ∃ i i2 j : Nat, i < j ∧ i2 < j ∧ j < F ∧ g.1 2 e = nI i ∧ g.1 3 e = nI i2 ∧ g.1 6 e = nI j) ∧
  (g.1 0 e = 4 → ∃ i o : Nat, i < F ∧ o ≤ 9 ∧ g.1 2 e = nI i ∧ g.1 4 e = nI o) ∧
  (g.1 0 e = 5 → ∃ q : Nat, (1 ≤ q ∧ q ≤ 1000000) ∧ g.1 4 e = nI q) ∧
  (g.1 0 e = 6 → ∃ i : Nat, i < F ∧ g.1 2 e = nI i)
/-- the class's entry and the reference's -/
def ER (b : Bk) (g : Md) (e : Nat) : Prop :=
  b.1 0 e = g.1 0 e ∧ b.1 1 e = g.1 1 e ∧ b.1 2 e = g.1 2 e ∧ b.1 7 e = g.1 6 e ∧ (g.1 0 e = 0 → b.1 4 e = g.1 4 e) ∧
  (g.1 0 e = 1 → b.1 4 e = g.1 4 e ∧ b.1 5 e = g.1 3 e ∧ b.1 6 e = g.1 5 e) ∧ (g.1 0 e = 2 → b.1 4 e = g.1 4 e) ∧ (g.1 0 e = 3 → b.1 3 e = g.1 3 e) ∧
  (g.1 0 e = 4 → b.1 6 e = g.1 4 e) ∧ (g.1 0 e = 5 → b.1 4 e = g.1 4 e)
theorem EV.kept {g g2 : Md} {F e : Nat} (hk : kept g g2) (h : EV g F e) : EV g2 F e := by
  unfold EV
  rw [hk.2 0 (by decide), hk.2 1 (by decide), hk.2 2 (by decide), hk.2 3 (by decide), hk.2 4 (by decide), hk.2 5 (by decide), hk.2 6 (by decide)]
  exact h
theorem ER.kept {b : Bk} {g g2 : Md} {e : Nat} (hk : kept g g2) (h : ER b g e) : ER b g2 e := by
  unfold ER
  rw [hk.2 0 (by decide), hk.2 1 (by decide), hk.2 2 (by decide), hk.2 3 (by decide), hk.2 4 (by decide), hk.2 5 (by decide), hk.2 6 (by decide)]
  exact h
theorem PV_of {g : Md} {F k : Nat} (h : ∀ e, e < k → EV g F e) : PV g k := fun e he h0 => (h e he).2.2.1 h0
theorem BM_of {b : Bk} {g : Md} {k : Nat} (h : ∀ e, e < k → ER b g e) : BM b g k := fun e he => ⟨(h e he).1, fun h0 => ⟨(h e he).2.1, (h e he).2.2.1, (h e he).2.2.2.2.1 h0⟩⟩
theorem m_is_n {F n i : Nat} {g : Md} (hG : Good F n g) (hi : i < 60) : m_is g (nI i) ↔ ¬ (mV g i).1 = 0 := by
  unfold m_is
  rw [nI_clamp (by omega), hG.1]
  refine ⟨fun h => h.2, fun h => ⟨⟨nI_le (a := 0) (Nat.zero_le _) (by omega), ?_⟩, h⟩⟩
  have hF := (hG.2.2.1 i hi h).1
  have h60 := hG.2.1
  obtain ⟨k, rfl⟩ : ∃ k, F = k + 1 := ⟨F - 1, by omega⟩
  rw [nI_pred]
  exact nI_le (by omega) (by omega)
theorem s_ne {a b : Nat} {x : Int32} (h : x = nI a) (ha : a < 2 ^ 31) (hb : b < 2 ^ 31) (hn : ¬ a = b) : ¬ x = nI b := fun q => hn ((nI_eq ha hb).mp (h.symm.trans q))
/-- the reference's acts keep Good, and do what their rows bear -/
theorem step_M {F n kn e : Nat} {g : Md} (hG : Good F n g) (hn : n < 80) (hE : EV g F e) (hV : PV g kn) (hs : ¬ g.1 0 e = 0) (hf : ¬ m_fits g kn e = 0) : do_ok g kn e ∧ Good F (n + 1) (g_does g kn e) := by
  obtain ⟨y, hy, ey⟩ := hE.2.1 hs
  have hF := hG.2.1
  unfold do_ok g_does
  unfold m_fits at hf
  rcases hE.1 with h | h | h | h | h | h | h
  · exact absurd h hs
  · obtain ⟨j, a, k, o, hj, ha, hk, ho, e6, e4, e3, e5⟩ := hE.2.2.2.1 h
    rw [if_pos h, e6, e4, e3, e5, nI_clamp (by omega)]
    refine ⟨⟨fun _ => ⟨j, by omega, rfl⟩, fun q => absurd (h.symm.trans q) (by decide), fun q => absurd (h.symm.trans q) (by decide), fun q => absurd (h.symm.trans q) (by decide), fun q => absurd h q.1⟩, good_make hG hj ha hk ho⟩
  · obtain ⟨i, j, a, hi, hj, ha, e2, e6, e4⟩ := hE.2.2.2.2.1 h
    have n1 : ¬ g.1 0 e = 1 := fun q => absurd (h.symm.trans q) (by decide)
    rw [if_neg n1, if_pos h] at hf
    unfold m_fpart at hf
    rw [e2] at hf
    by_cases hi2 : m_is g (nI i)
    · have hth := (m_is_n hG (by omega)).mp hi2
      rw [if_pos hi2, nI_clamp (by omega), e4] at hf
      obtain ⟨-, ⟨A, hA1, hA2, eA⟩, -⟩ := hG.2.2.1 i (by omega) hth
      have eA2 : g.1 12 i = nI A := eA
      rw [eA2] at hf
      have hlt : a < A := by
        rcases Nat.lt_or_ge a A with z | z
        · exact z
        · exact absurd (if_pos (nI_le z ha.2)) hf
      rw [if_neg n1, if_pos h, e2, e6, nI_clamp (by omega), nI_clamp (by omega)]
      refine ⟨⟨fun q => absurd q n1, fun _ => ⟨i, j, by omega, by omega, rfl, rfl, ⟨by omega, by omega⟩, ?_⟩, fun q => absurd (h.symm.trans q) (by decide), fun q => absurd (h.symm.trans q) (by decide), fun q => absurd h q.2.1⟩, good_part hG hi hj ha.1 e4 hth (by rw [ar_of hth hA2 eA]; exact hlt) (by omega)⟩
      rw [eA2, nI_l hA2]
      exact fun z => by have := (pk_lEQ (a := A) (b := 0) (by omega) (by omega)).mp z; omega
    · rw [if_neg hi2] at hf
      exact absurd rfl hf
  · obtain ⟨i, i2, j, hi, hi2, hj, e2, e3, e6⟩ := hE.2.2.2.2.2.1 h
    have n1 : ¬ g.1 0 e = 1 := fun q => absurd (h.symm.trans q) (by decide)
    have n2 : ¬ g.1 0 e = 2 := fun q => absurd (h.symm.trans q) (by decide)
    rw [if_neg n1, if_neg n2, if_pos h] at hf
    unfold m_fjoin at hf
    rw [e2, e3] at hf
    by_cases h1 : m_is g (nI i)
    · by_cases h2 : m_is g (nI i2)
      · rw [if_pos h1, if_pos h2] at hf
        by_cases h3 : nI i = nI i2
        · rw [if_pos h3] at hf
          exact absurd rfl hf
        · rw [if_neg n1, if_neg n2, if_pos h, e2, e3, e6, nI_clamp (by omega), nI_clamp (by omega), nI_clamp (by omega)]
          exact ⟨⟨fun q => absurd q n1, fun q => absurd q n2, fun _ => ⟨i, i2, j, by omega, by omega, by omega, rfl, rfl, rfl⟩, fun q => absurd (h.symm.trans q) (by decide), fun q => absurd h q.2.2.1⟩, good_join hG hi hi2 hj (fun q => h3 (by rw [q])) ((m_is_n hG (by omega)).mp h1) ((m_is_n hG (by omega)).mp h2) (by omega)⟩
      · rw [if_pos h1, if_neg h2] at hf
        exact absurd rfl hf
    · rw [if_neg h1] at hf
      exact absurd rfl hf
  · obtain ⟨i, o, hi, ho, e2, e4⟩ := hE.2.2.2.2.2.2.1 h
    have n1 : ¬ g.1 0 e = 1 := fun q => absurd (h.symm.trans q) (by decide)
    have n2 : ¬ g.1 0 e = 2 := fun q => absurd (h.symm.trans q) (by decide)
    have n3 : ¬ g.1 0 e = 3 := fun q => absurd (h.symm.trans q) (by decide)
    rw [if_neg n1, if_neg n2, if_neg n3, if_pos h, e2, e4, nI_clamp (by omega)]
    exact ⟨⟨fun q => absurd q n1, fun q => absurd q n2, fun q => absurd q n3, fun q => absurd (h.symm.trans q) (by decide), fun _ => ⟨i, by omega, rfl⟩⟩, good_sell hG (by omega) ho⟩
  · obtain ⟨q, hq, e4⟩ := hE.2.2.2.2.2.2.2.1 h
    have n1 : ¬ g.1 0 e = 1 := fun q => absurd (h.symm.trans q) (by decide)
    have n2 : ¬ g.1 0 e = 2 := fun q => absurd (h.symm.trans q) (by decide)
    have n3 : ¬ g.1 0 e = 3 := fun q => absurd (h.symm.trans q) (by decide)
    have n4 : ¬ g.1 0 e = 4 := fun q => absurd (h.symm.trans q) (by decide)
    rw [if_neg n1, if_neg n2, if_neg n3, if_neg n4, if_pos h] at hf
    unfold m_fset at hf
    by_cases c0 : m_some g 60 = 0
    · rw [if_pos c0] at hf
      exact absurd rfl hf
    · rw [if_neg c0] at hf
      obtain ⟨f, hf60, hth⟩ := (some_iff 60).mp c0
      have hT := tot_pos hG hf60 hth
      have hTl := tot_le hG
      rw [ey] at hf
      rcases avg_rng (cn := 0) hy.2 hV with z | ⟨m0, h0, e0⟩
      · rw [if_pos z] at hf
        exact absurd rfl hf
      · rcases avg_rng (cn := 1) hy.2 hV with z | ⟨m1, h1, e1⟩
        · rw [if_pos z, ite_self] at hf
          exact absurd rfl hf
        · rcases avg_rng (cn := 2) hy.2 hV with z | ⟨m2, h2, e2⟩
          · rw [if_pos z, ite_self, ite_self] at hf
            exact absurd rfl hf
          · have pos : ∀ m : Nat, 1 ≤ m ∧ m ≤ 1000 → ¬ (nI m).toInt64 ≤ 0 := fun m hm z => by
              rw [nI_l (by omega)] at z
              have := (pk_lLE (a := m) (b := 0) (by omega) (by omega)).mp z
              omega
            rw [if_neg n1, if_neg n2, if_neg n3, if_neg n4, if_pos h]
            refine ⟨⟨fun q => absurd q n1, fun q => absurd q n2, fun q => absurd q n3, fun _ => ⟨⟨?_, ?_, ?_, ?_⟩, ?_⟩, fun q => absurd h q.2.2.2⟩, good_settle hG (by omega) hq e4 hT h0 h1 h2 (by rw [ey]; exact e0) (by rw [ey]; exact e1) (by rw [ey]; exact e2)⟩
            · rw [ey]
              exact ⟨nI_le (a := 1) (by omega) (by omega), nI_le (b := 200) hy.2 (by omega)⟩
            · rw [ey, e0]
              exact pos m0 h0
            · rw [ey, e1]
              exact pos m1 h1
            · rw [ey, e2]
              exact pos m2 h2
            · rw [mws_eq hG 60 (Nat.le_refl 60)]
              intro z
              have : tot g = 0 := (pk_lEQ (b := 0) (by have : fb_sm (fun f => wN (mV g f)) 60 = tot g := rfl; omega) (by omega)).mp z
              omega
  · obtain ⟨i, hi, e2⟩ := hE.2.2.2.2.2.2.2.2 h
    have n1 : ¬ g.1 0 e = 1 := fun q => absurd (h.symm.trans q) (by decide)
    have n2 : ¬ g.1 0 e = 2 := fun q => absurd (h.symm.trans q) (by decide)
    have n3 : ¬ g.1 0 e = 3 := fun q => absurd (h.symm.trans q) (by decide)
    have n4 : ¬ g.1 0 e = 4 := fun q => absurd (h.symm.trans q) (by decide)
    have n5 : ¬ g.1 0 e = 5 := fun q => absurd (h.symm.trans q) (by decide)
    rw [if_neg n1, if_neg n2, if_neg n3, if_neg n4, if_neg n5, e2, nI_clamp (by omega)]
    exact ⟨⟨fun q => absurd q n1, fun q => absurd q n2, fun q => absurd q n3, fun q => absurd q n5, fun _ => ⟨i, by omega, rfl⟩⟩, good_buy hG (by omega)⟩
