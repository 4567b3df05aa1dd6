/-! PURE: one act, class beside reference -/
theorem zat {n i : Nat} {f : Nat → Int32} (hi : i < n) (hn : n < 2 ^ 31) : z_at n f (nI i) = f i := by
  unfold z_at
  rw [if_neg (show ¬ nI i < 0 from Int32.not_lt.mpr (nI_le (a := 0) (Nat.zero_le _) (by omega))), if_neg (nI_ge hi hn), nI_clamp (by omega)]
/-- averages: what is known to the reference is known to the class; and where the charges count they are the same -/
def AVR (c : Prop) (g : Md) (kM : Nat) (b : Bk) (kC : Nat) (y : Int32) : Prop := ∀ x : Int32, (¬ m_avg g kM y x = -1 → ¬ bk_mean b kC y x = -1) ∧ (c → bk_mean b kC y x = m_avg g kM y x)
theorem tot_0 {F n : Nat} {g : Md} (hG : Good F n g) (h : m_some g 60 = 0) : mws g 60 = lN 0 := by
  rw [mws_eq hG 60 (Nat.le_refl 60)]
  have : fb_sm (fun f => wN (mV g f)) 60 ≤ 60 * 0 := fb_sm_bound (fun f hf => by
    have hz : (mV g f).1 = 0 := by
      apply Classical.byContradiction
      intro q
      exact (some_iff 60).mpr ⟨f, hf, q⟩ h
    unfold wN
    rw [if_pos hz]
    exact Nat.le_refl 0)
  rw [show fb_sm (fun f => wN (mV g f)) 60 = 0 by omega]
theorem step_S {c : Prop} {F n kM kC e : Nat} {d : Ld} {g : Md} {b : Bk} (hS : Sim c d g) (hG : Good F n g) (hn : n < 80) (hE : EV g F e) (hR : ER b g e) (he : e < 80) (hs : ¬ g.1 0 e = 0) (hV : PV g kM) (hA : AVR c g kM b kC (g.1 1 e)) :
    (¬ m_fits g kM e = 0 → ¬ r_act d b kC (nI e) = 0 ∧ Sim c (d_act d b kC (nI e)) (g_does g kM e)) ∧ (c → m_fits g kM e = 0 → r_act d b kC (nI e) = 0 ∧ Sim c (d_act d b kC (nI e)) g) := by
  obtain ⟨r0, r1, r2, r7, -, rA, rB, rC, rD, rE⟩ := hR
  obtain ⟨y, hy, ey⟩ := hE.2.1 hs
  have hF := hG.2.1
  have z := fun k => zat (f := b.1 k) he (show 80 < 2 ^ 31 by decide)
  have dz : ¬ (2 : Int32) = 1 ∧ ¬ (3 : Int32) = 1 ∧ ¬ (3 : Int32) = 2 ∧ ¬ (4 : Int32) = 1 ∧ ¬ (4 : Int32) = 2 ∧ ¬ (4 : Int32) = 3 := by decide
  have dy : ¬ (5 : Int32) = 1 ∧ ¬ (5 : Int32) = 2 ∧ ¬ (5 : Int32) = 3 ∧ ¬ (5 : Int32) = 4 := by decide
  have dx : ¬ (6 : Int32) = 1 ∧ ¬ (6 : Int32) = 2 ∧ ¬ (6 : Int32) = 3 ∧ ¬ (6 : Int32) = 4 ∧ ¬ (6 : Int32) = 5 := by decide
  have th : ∀ i, i < 60 → (is_there d (nI i) ↔ ¬ (mV g i).1 = 0) := fun i hi => (is_there_n hi).trans ⟨fun q w => q ((hS.2 i hi).1.mpr w), fun q w => q ((hS.2 i hi).1.mp w)⟩
  unfold r_act d_act m_fits g_does e_mk
  rw [z 0, z 1, z 2, z 3, z 4, z 5, z 6, z 7, r0, r1, r2, r7]
  rcases hE.1 with h | h | h | h | h | h | h
  · exact absurd h hs
  · obtain ⟨a4, a5, a6⟩ := rA h
    rw [h, if_pos rfl, if_pos rfl, if_pos rfl, if_pos rfl, a4, a5, a6]
    exact ⟨fun _ => ⟨ne10, sim_make hS _ _ _ _⟩, fun _ q => absurd q ne10⟩
  · obtain ⟨i, j, a, hi, hj, ha, e2, e6, e4⟩ := hE.2.2.2.2.1 h
    rw [h, if_neg dz.1, if_neg dz.1, if_neg dz.1, if_neg dz.1, if_pos rfl, if_pos rfl, if_pos rfl, if_pos rfl, rB h]
    unfold r_part d_part m_fpart
    rw [e2, e6, e4]
    have ht := th i (by omega)
    have hm := m_is_n hG (show i < 60 by omega)
    have h1 : ¬ nI a < 1 := Int32.not_lt.mpr (nI_le (a := 1) ha.1 ha.2)
    by_cases c1 : (mV g i).1 = 0
    · rw [if_neg (fun q => ht.mp q c1), if_neg (fun q => ht.mp q c1), if_neg (fun q => hm.mp q c1)]
      exact ⟨fun q => absurd rfl q, fun _ _ => ⟨rfl, hS⟩⟩
    · rw [if_pos (ht.mpr c1), if_pos (ht.mpr c1), if_pos (hm.mpr c1), if_neg h1, if_neg h1, nI_clamp (by omega), nI_clamp (by omega)]
      have ea : d.1 1 i = g.1 12 i := ((hS.2 i (by omega)).2 c1).1
      rw [ea]
      by_cases c2 : g.1 12 i ≤ nI a
      · rw [if_pos c2, if_neg (Int32.not_lt.mpr c2), if_neg (Int32.not_lt.mpr c2)]
        exact ⟨fun q => absurd rfl q, fun _ _ => ⟨rfl, hS⟩⟩
      · rw [if_neg c2, if_pos (Int32.not_le.mp c2), if_pos (Int32.not_le.mp c2)]
        exact ⟨fun _ => ⟨ne10, sim_part hS e i j (by omega) (by omega) (by omega) c1 (nI a) e4⟩, fun _ q => absurd q ne10⟩
  · obtain ⟨i, i2, j, hi, hi2, hj, e2, e3, e6⟩ := hE.2.2.2.2.2.1 h
    rw [h, if_neg dz.2.1, if_neg dz.2.1, if_neg dz.2.1, if_neg dz.2.1, if_neg dz.2.2.1, if_neg dz.2.2.1, if_neg dz.2.2.1, if_neg dz.2.2.1, if_pos rfl, if_pos rfl, if_pos rfl, if_pos rfl, rC h]
    unfold r_join d_join m_fjoin
    rw [e2, e3, e6]
    have ht := th i (by omega)
    have hm := m_is_n hG (show i < 60 by omega)
    have ht2 := th i2 (by omega)
    have hm2 := m_is_n hG (show i2 < 60 by omega)
    by_cases c1 : (mV g i).1 = 0
    · rw [if_neg (fun q => ht.mp q c1), if_neg (fun q => ht.mp q c1), if_neg (fun q => hm.mp q c1), ite_self, ite_self]
      exact ⟨fun q => absurd rfl q, fun _ _ => ⟨rfl, hS⟩⟩
    · rw [if_pos (ht.mpr c1), if_pos (ht.mpr c1), if_pos (hm.mpr c1)]
      by_cases c2 : (mV g i2).1 = 0
      · rw [if_neg (fun q => ht2.mp q c2), if_neg (fun q => ht2.mp q c2), if_neg (fun q => hm2.mp q c2), ite_self, ite_self]
        exact ⟨fun q => absurd rfl q, fun _ _ => ⟨rfl, hS⟩⟩
      · rw [if_pos (ht2.mpr c2), if_pos (ht2.mpr c2), if_pos (hm2.mpr c2), nI_clamp (by omega), nI_clamp (by omega), nI_clamp (by omega)]
        obtain ⟨-, q2, q3, q4, -⟩ := (hS.2 i (by omega)).2 c1
        obtain ⟨-, p2, p3, p4, -⟩ := (hS.2 i2 (by omega)).2 c2
        rw [show d.1 2 i = g.1 13 i from q2, show d.1 3 i = g.1 14 i from q3, show d.1 4 i = g.1 16 i from q4, show d.1 2 i2 = g.1 13 i2 from p2, show d.1 3 i2 = g.1 14 i2 from p3, show d.1 4 i2 = g.1 16 i2 from p4]
        by_cases c3 : nI i = nI i2
        · repeat rw [if_pos c3]
          exact ⟨fun q => absurd rfl q, fun _ _ => ⟨rfl, hS⟩⟩
        · repeat rw [if_neg c3]
          by_cases c4 : g.1 13 i = g.1 13 i2
          · repeat rw [if_pos c4]
            by_cases c5 : g.1 14 i = g.1 14 i2
            · repeat rw [if_pos c5]
              by_cases c6 : g.1 16 i = g.1 16 i2
              · repeat rw [if_pos c6]
                exact ⟨fun _ => ⟨ne10, sim_join hS i i2 j (by omega) (by omega) (by omega) (by omega) c1 c2⟩, fun _ q => absurd q ne10⟩
              · repeat rw [if_neg c6]
                exact ⟨fun q => absurd rfl q, fun _ _ => ⟨rfl, hS⟩⟩
            · repeat rw [if_neg c5]
              exact ⟨fun q => absurd rfl q, fun _ _ => ⟨rfl, hS⟩⟩
          · repeat rw [if_neg c4]
            exact ⟨fun q => absurd rfl q, fun _ _ => ⟨rfl, hS⟩⟩
  · obtain ⟨i, o, hi, ho, e2, e4⟩ := hE.2.2.2.2.2.2.1 h
    rw [h, if_neg dz.2.2.2.1, if_neg dz.2.2.2.1, if_neg dz.2.2.2.1, if_neg dz.2.2.2.1, if_neg dz.2.2.2.2.1, if_neg dz.2.2.2.2.1, if_neg dz.2.2.2.2.1, if_neg dz.2.2.2.2.1, if_neg dz.2.2.2.2.2, if_neg dz.2.2.2.2.2, if_neg dz.2.2.2.2.2, if_neg dz.2.2.2.2.2, if_pos rfl, if_pos rfl, if_pos rfl, if_pos rfl, rD h]
    unfold r_sell d_sell m_fsell
    rw [e2, e4]
    have ht := th i (by omega)
    have hm := m_is_n hG (show i < 60 by omega)
    by_cases c1 : (mV g i).1 = 0
    · rw [if_neg (fun q => ht.mp q c1), if_neg (fun q => ht.mp q c1), if_neg (fun q => hm.mp q c1)]
      exact ⟨fun q => absurd rfl q, fun _ _ => ⟨rfl, hS⟩⟩
    · rw [if_pos (ht.mpr c1), if_pos (ht.mpr c1), if_pos (hm.mpr c1), nI_clamp (by omega), show d.1 3 i = g.1 14 i from ((hS.2 i (by omega)).2 c1).2.2.1]
      by_cases c2 : g.1 14 i = nI o
      · repeat rw [if_pos c2]
        exact ⟨fun q => absurd rfl q, fun _ _ => ⟨rfl, hS⟩⟩
      · repeat rw [if_neg c2]
        exact ⟨fun _ => ⟨ne10, sim_sell hS i (by omega) _⟩, fun _ q => absurd q ne10⟩
  · obtain ⟨q, hq, e4⟩ := hE.2.2.2.2.2.2.2.1 h
    rw [h, if_neg dy.1, if_neg dy.1, if_neg dy.1, if_neg dy.1, if_neg dy.2.1, if_neg dy.2.1, if_neg dy.2.1, if_neg dy.2.1, if_neg dy.2.2.1, if_neg dy.2.2.1, if_neg dy.2.2.1, if_neg dy.2.2.1, if_neg dy.2.2.2, if_neg dy.2.2.2, if_neg dy.2.2.2, if_neg dy.2.2.2, if_pos rfl, if_pos rfl, if_pos rfl, if_pos rfl, rE h, e4]
    unfold r_settle d_settle m_fset
    rw [hS.1, wsum_eq hS 60 (Nat.le_refl 60)]
    have hS1 : Sim c (wst d 60) g := hS
    have hS2 : Sim c (ld_means (wst d 60) b kC (g.1 1 e)) g := by
      refine ⟨hS.1, fun f hf => ?_⟩
      have e9 : lV (ld_means (wst d 60) b kC (g.1 1 e)) f = lV d f := by
        unfold lV
        rw [means_row _ _ _ _ _ (by decide), means_row _ _ _ _ _ (by decide), means_row _ _ _ _ _ (by decide), means_row _ _ _ _ _ (by decide), means_row _ _ _ _ _ (by decide), means_row _ _ _ _ _ (by decide), means_row _ _ _ _ _ (by decide), means_row _ _ _ _ _ (by decide)]
        rfl
      rw [e9]
      exact hS.2 f hf
    by_cases c0 : m_some g 60 = 0
    · rw [if_pos c0, tot_0 hG c0, if_pos (show lN 0 ≤ 0 by decide), if_pos (show lN 0 ≤ 0 by decide), ite_self, ite_self]
      exact ⟨fun q => absurd rfl q, fun _ _ => ⟨rfl, hS1⟩⟩
    · rw [if_neg c0]
      obtain ⟨f, hf60, hth⟩ := (some_iff 60).mp c0
      have hT := tot_pos hG hf60 hth
      have hTl := tot_le hG
      have hw : ¬ mws g 60 ≤ 0 := by
        rw [mws_eq hG 60 (Nat.le_refl 60)]
        intro w
        have hx : fb_sm (fun f => wN (mV g f)) 60 = tot g := rfl
        have := (pk_lLE (b := 0) (by omega) (by omega)).mp w
        omega
      rw [if_neg hw, if_neg hw]
      have nk : ∀ x, (x = 0 ∨ x = 1 ∨ x = 2) → c → m_avg g kM (g.1 1 e) x = -1 → ¬ means_known b kC (g.1 1 e) := fun x hx hc hm hk => by
        have := ((hA x).2 hc).trans hm
        rcases hx with rfl | rfl | rfl
        · exact hk.1 this
        · exact hk.2.1 this
        · exact hk.2.2 this
      have bad : ∀ x, (x = 0 ∨ x = 1 ∨ x = 2) → m_avg g kM (g.1 1 e) x = -1 → c → (if g.2.2.2 = 0 then if means_known b kC (g.1 1 e) then (1 : Int32) else 0 else 0) = 0 ∧ Sim c (if g.2.2.2 = 0 then if means_known b kC (g.1 1 e) then ld_settle d b (nI q) kC (g.1 1 e) else ld_means (wst d 60) b kC (g.1 1 e) else wst d 60) g := fun x hx hm hc => by
        rw [if_neg (nk x hx hc hm), if_neg (nk x hx hc hm), ite_self]
        refine ⟨rfl, ?_⟩
        split
        · exact hS2
        · exact hS1
      rcases (show m_avg g kM (g.1 1 e) 0 = -1 ∨ ∃ m0 : Nat, (1 ≤ m0 ∧ m0 ≤ 1000) ∧ m_avg g kM (g.1 1 e) 0 = nI m0 by rw [ey]; exact avg_rng hy.2 hV) with v | ⟨m0, h0, e0⟩
      · rw [if_pos v]
        exact ⟨fun q => absurd rfl q, fun hc _ => bad 0 (Or.inl rfl) v hc⟩
      · rw [if_neg (show ¬ m_avg g kM (g.1 1 e) 0 = -1 by rw [e0]; exact fun w => absurd (w ▸ nI_le (a := 0) (Nat.zero_le m0) (by omega)) (by decide))]
        rcases (show m_avg g kM (g.1 1 e) 1 = -1 ∨ ∃ m1 : Nat, (1 ≤ m1 ∧ m1 ≤ 1000) ∧ m_avg g kM (g.1 1 e) 1 = nI m1 by rw [ey]; exact avg_rng hy.2 hV) with v | ⟨m1, h1, e1⟩
        · rw [if_pos v]
          exact ⟨fun q => absurd rfl q, fun hc _ => bad 1 (Or.inr (Or.inl rfl)) v hc⟩
        · rw [if_neg (show ¬ m_avg g kM (g.1 1 e) 1 = -1 by rw [e1]; exact fun w => absurd (w ▸ nI_le (a := 0) (Nat.zero_le m1) (by omega)) (by decide))]
          rcases (show m_avg g kM (g.1 1 e) 2 = -1 ∨ ∃ m2 : Nat, (1 ≤ m2 ∧ m2 ≤ 1000) ∧ m_avg g kM (g.1 1 e) 2 = nI m2 by rw [ey]; exact avg_rng hy.2 hV) with v | ⟨m2, h2, e2⟩
          · rw [if_pos v]
            exact ⟨fun q => absurd rfl q, fun hc _ => bad 2 (Or.inr (Or.inr rfl)) v hc⟩
          · rw [if_neg (show ¬ m_avg g kM (g.1 1 e) 2 = -1 by rw [e2]; exact fun w => absurd (w ▸ nI_le (a := 0) (Nat.zero_le m2) (by omega)) (by decide))]
            by_cases c5 : g.2.2.2 = 0
            · repeat rw [if_pos c5]
              have neg : ∀ m : Nat, m ≤ 1000 → ¬ nI m = -1 := fun m hm w => absurd (w ▸ nI_le (a := 0) (Nat.zero_le m) (by omega)) (by decide)
              have hk : means_known b kC (g.1 1 e) := ⟨(hA 0).1 (by rw [e0]; exact neg m0 h0.2), (hA 1).1 (by rw [e1]; exact neg m1 h1.2), (hA 2).1 (by rw [e2]; exact neg m2 h2.2)⟩
              rw [if_pos hk, if_pos hk]
              exact ⟨fun _ => ⟨ne10, sim_settle hS hG (by omega) hq e4 hT h0 h1 h2 e0 e1 e2 hk (fun hc => ⟨((hA 0).2 hc).trans e0, ((hA 1).2 hc).trans e1, ((hA 2).2 hc).trans e2⟩)⟩, fun _ q => absurd q ne10⟩
            · repeat rw [if_neg c5]
              exact ⟨fun q => absurd rfl q, fun _ _ => ⟨rfl, hS1⟩⟩
  · obtain ⟨i, hi, e2⟩ := hE.2.2.2.2.2.2.2.2 h
    rw [h, if_neg dx.1, if_neg dx.1, if_neg dx.1, if_neg dx.1, if_neg dx.2.1, if_neg dx.2.1, if_neg dx.2.1, if_neg dx.2.1, if_neg dx.2.2.1, if_neg dx.2.2.1, if_neg dx.2.2.1, if_neg dx.2.2.1, if_neg dx.2.2.2.1, if_neg dx.2.2.2.1, if_neg dx.2.2.2.1, if_neg dx.2.2.2.1, if_neg dx.2.2.2.2, if_neg dx.2.2.2.2, if_neg dx.2.2.2.2, if_neg dx.2.2.2.2, if_pos rfl, if_pos rfl, if_pos rfl]
    unfold r_buy d_buy m_fbuy
    rw [e2, hS.1]
    have ht := th i (by omega)
    have hm := m_is_n hG (show i < 60 by omega)
    by_cases c1 : (mV g i).1 = 0
    · rw [if_neg (fun q => ht.mp q c1), if_neg (fun q => ht.mp q c1), if_neg (fun q => hm.mp q c1), ite_self, ite_self]
      exact ⟨fun q => absurd rfl q, fun _ _ => ⟨rfl, hS⟩⟩
    · rw [if_pos (ht.mpr c1), if_pos (ht.mpr c1), if_pos (hm.mpr c1), nI_clamp (by omega), show d.1 4 i = g.1 16 i from ((hS.2 i (by omega)).2 c1).2.2.2.1]
      by_cases c2 : g.2.2.2 = 0
      · repeat rw [if_pos c2]
        exact ⟨fun q => absurd rfl q, fun _ _ => ⟨rfl, hS⟩⟩
      · repeat rw [if_neg c2]
        by_cases c3 : g.1 16 i = 0
        · repeat rw [if_pos c3]
          exact ⟨fun _ => ⟨ne10, sim_buy hS i (by omega)⟩, fun _ q => absurd q ne10⟩
        · repeat rw [if_neg c3]
          exact ⟨fun q => absurd rfl q, fun _ _ => ⟨rfl, hS⟩⟩
