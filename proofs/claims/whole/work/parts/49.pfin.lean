/-! PURE: the acts' answers, and what they leave -/
theorem td_sc {b b1 : Bk} {n : Nat} (e : b1.2 = b.2) : (td_b b1 n).2 1 = b.2 1 ∧ (td_b b1 n).2 2 = b.2 2 := by
  constructor
  · show (tk_b b1 n).2 1 = b.2 1
    rw [tk_2, e]
  · show (tk_b b1 n).2 2 = b.2 2
    rw [tk_2, e]
theorem made_at (g : Md) (j : Nat) (a x : Int32) (f : Nat) : (md_made g j a x).1 7 f = (if f = j then nI (g.2.2.1 0) else g.1 7 f) ∧ (md_made g j a x).1 8 f = (if f = j then -1 else g.1 8 f) ∧ (md_made g j a x).1 9 f = (if f = j then a else g.1 9 f) ∧ (md_made g j a x).1 10 f = (if f = j then x else g.1 10 f) := by
  unfold md_made
  by_cases h : f = j
  · subst h
    rw [if_pos rfl, if_pos rfl, if_pos rfl, if_pos rfl]
    simp (disch := omega) only [mdr_ne, mdr_eq]
    exact ⟨trivial, trivial, trivial, trivial⟩
  · rw [if_neg h, if_neg h, if_neg h, if_neg h]
    simp (disch := omega) only [mdr_ne]
    exact ⟨trivial, trivial, trivial, trivial⟩
theorem made_r (g : Md) (j : Nat) (a x : Int32) (r : Nat) (h : r ≤ 6) : (md_made g j a x).1 r = g.1 r := by
  unfold md_made
  rw [md_rne (by omega), md_rne (by omega), md_rne (by omega), md_rne (by omega)]
section FIN
variable {b b1 : Bk} {g G : Md}
theorem fin0 (h : Inv b g) (hD : DR (b.2 1) b b1 g G) (h80 : b.2 1 < 80) (h2 : Rl (b.2 1 + 1) (b.2 2 + 0) (td_b b1 0) (g_t3 (g_mk G 0) 0)) (hs : ¬ (g_t3 (g_mk G 0) 0).1 0 (b.2 1) = 0) (s : Int32) (v0 : (td_b b1 0).1 0 (b.2 1) = s) (n2 : ¬ s = 2) (n3 : ¬ s = 3) (d : Ld) : r_take b1 d 0 = m_taken G ∧ Inv (b_take b1 d 0) (g_taken G) := by
  unfold r_take m_taken b_take g_taken
  rw [take_eq h hD h2 d]
  by_cases c : (g_tw G 0).1 = 0
  · rw [if_pos c, if_pos c, if_pos c, if_pos c]
    exact ⟨rfl, take_no h hD (by decide) h80 h2 hs⟩
  · rw [if_neg c, if_neg c, if_neg c, if_neg c]
    obtain ⟨t1, t2⟩ := td_sc (n := 0) hD.1
    obtain ⟨w1, w2, w3, w4⟩ := take_rows h hD (n := 0) (by decide)
    obtain ⟨k0, k1, k2⟩ := keep_2 (td_b b1 0) 0
    have eG : G.2.2.1 = g.2.2.1 := hD.2.2.2.1
    refine ⟨by rw [hD.1, eG, h.2.1], take_yes h hD (by decide) h2 c k0 (by rw [k1, t1]) (by rw [k2, t2]) (fun r hr => keep_r _ _ _ hr) ?_ ?_ (fun r hr => gtake_r G 0 r (by omega)) ?_⟩
    · show G.2.2.1 0 + 1 = b.2 1 + 1
      rw [eG, h.2.1]
    · show G.2.2.1 1 = b.2 2 + 0
      rw [eG, h.1.2.2.1]
      rfl
    · refine FR_new h.2.2.1 (fun f hf => ?_) (fun e he => ?_) (fun f h1 h3 => absurd h3 (by omega))
      · have e7 : ∀ r, 7 ≤ r → r ≤ 10 → (md_sc (g_take G 0) 0 (G.2.2.1 0 + 1)).1 r f = g.1 r f := fun r h7 h10 => by
          show (g_take G 0).1 r f = g.1 r f
          rw [gtake_r G 0 r h10, w4 r h7 h10]
        refine ⟨?_, e7 7 (by decide) (by decide), e7 9 (by decide) (by decide), e7 10 (by decide) (by decide), Or.inr ⟨?_, e7 8 (by decide) (by decide)⟩⟩
        · rw [keep_9, if_neg (by omega), w3 9 (by decide)]
        · rw [(keep_10 (td_b b1 0) 0 f (by omega) s (by rw [t1]; exact v0)).1 n2 n3, if_neg (by omega), w3 10 (by decide)]
      · rw [keep_r _ _ _ (by decide), keep_r _ _ _ (by decide)]
        exact ⟨w1 e (by omega) 2 (by decide), w1 e (by omega) 3 (by decide)⟩
theorem zm1 (n : Nat) (f : Nat → Int32) : z_at n f (-1) = -1 := if_pos (by decide)
theorem finM1 (h : Inv b g) (hD : DR (b.2 1) b b1 g G) (h80 : b.2 1 < 80) (h2 : Rl (b.2 1 + 1) (b.2 2 + 1) (td_b b1 1) (g_t3 (g_mk G 1) 1)) (hs : ¬ (g_t3 (g_mk G 1) 1).1 0 (b.2 1) = 0) (v0 : (td_b b1 1).1 0 (b.2 1) = 1) (v2 : (td_b b1 1).1 2 (b.2 1) = -1) (v3 : (td_b b1 1).1 3 (b.2 1) = -1) (v7 : (td_b b1 1).1 7 (b.2 1) = nI (b.2 2)) (d : Ld) :
    z_at 80 ((b_take b1 d 1).1 7) (r_take b1 d 1) = (if (g_tw G 1).1 = 0 then -1 else nI (b.2 2)) ∧ Inv (b_take b1 d 1) (if (g_tw G 1).1 = 0 then g_take G 1 else md_sc (md_sc (md_made (g_take G 1) (b.2 2) (-1) (-1)) 0 (b.2 1 + 1)) 1 (b.2 2 + 1)) := by
  unfold r_take b_take
  rw [take_eq h hD h2 d]
  by_cases c : (g_tw G 1).1 = 0
  · rw [if_pos c, if_pos c, if_pos c, if_pos c]
    exact ⟨zm1 _ _, take_no h hD (by decide) h80 h2 hs⟩
  · rw [if_neg c, if_neg c, if_neg c, if_neg c]
    obtain ⟨t1, t2⟩ := td_sc (n := 1) hD.1
    obtain ⟨w1, w2, w3, w4⟩ := take_rows h hD (n := 1) (by decide)
    obtain ⟨k0, k1, k2⟩ := keep_2 (td_b b1 1) 1
    have eG : G.2.2.1 = g.2.2.1 := hD.2.2.2.1
    have e0 : (g_take G 1).2.2.1 0 = b.2 1 := by
      show G.2.2.1 0 = b.2 1
      rw [eG, h.2.1]
    refine ⟨?_, take_yes h hD (by decide) h2 c k0 (by rw [k1, t1]) (by rw [k2, t2]) (fun r hr => keep_r _ _ _ hr) rfl rfl (fun r hr => (made_r _ _ _ _ r hr).trans (gtake_r G 1 r (by omega))) ?_⟩
    · rw [hD.1, keep_r _ _ _ (by decide), zat h80 (by decide)]
      exact v7
    · refine FR_new h.2.2.1 (fun f hf => ?_) (fun e he => ?_) (fun f h1 h3 => ?_)
      · obtain ⟨a1, a2, a3, a4⟩ := made_at (g_take G 1) (b.2 2) (-1) (-1) f
        rw [if_neg (by omega), gtake_r G 1 _ (by decide), w4 _ (by decide) (by decide)] at a1 a2 a3 a4
        refine ⟨?_, a1, a3, a4, Or.inr ⟨?_, a2⟩⟩
        · rw [keep_9, if_neg (by omega), w3 9 (by decide)]
        · rw [(keep_10 (td_b b1 1) 1 f (by omega) 1 (by rw [t1]; exact v0)).1 (by decide) (by decide), if_neg (by omega), w3 10 (by decide)]
      · rw [keep_r _ _ _ (by decide), keep_r _ _ _ (by decide)]
        exact ⟨w1 e (by omega) 2 (by decide), w1 e (by omega) 3 (by decide)⟩
      · have e : f = b.2 2 := by omega
        subst e
        obtain ⟨a1, a2, a3, a4⟩ := made_at (g_take G 1) (b.2 2) (-1) (-1) (b.2 2)
        rw [if_pos rfl] at a1 a2 a3 a4
        rw [e0] at a1
        refine ⟨?_, a1, ?_, ?_, ?_, a2⟩
        · rw [keep_9, if_pos (by omega), t1]
        · rw [keep_r _ _ _ (by decide), v2]
          exact a3.symm
        · rw [keep_r _ _ _ (by decide), v3]
          exact a4.symm
        · rw [(keep_10 (td_b b1 1) 1 (b.2 2) (by omega) 1 (by rw [t1]; exact v0)).1 (by decide) (by decide), if_pos (by omega)]
theorem finJ (h : Inv b g) (hD : DR (b.2 1) b b1 g G) (h80 : b.2 1 < 80) (h60 : b.2 2 + 1 ≤ 60) (h2 : Rl (b.2 1 + 1) (b.2 2 + 1) (td_b b1 1) (g_t3 (g_mk G 1) 1)) (hs : ¬ (g_t3 (g_mk G 1) 1).1 0 (b.2 1) = 0) {i i2 : Nat} (hi : i < b.2 2) (hi2 : i2 < b.2 2) (v0 : (td_b b1 1).1 0 (b.2 1) = 3) (v2 : (td_b b1 1).1 2 (b.2 1) = nI i) (v3 : (td_b b1 1).1 3 (b.2 1) = nI i2) (v7 : (td_b b1 1).1 7 (b.2 1) = nI (b.2 2)) (d : Ld) :
    z_at 80 ((b_take b1 d 1).1 7) (r_take b1 d 1) = (if (g_tw G 1).1 = 0 then -1 else nI (b.2 2)) ∧ Inv (b_take b1 d 1) (if (g_tw G 1).1 = 0 then g_take G 1 else md_sc (md_sc (md_row (md_row (md_made (g_take G 1) (b.2 2) (nI i) (nI i2)) 8 (nI i).toNatClampNeg (nI (b.2 1))) 8 (nI i2).toNatClampNeg (nI (b.2 1))) 0 (b.2 1 + 1)) 1 (b.2 2 + 1)) := by
  rw [nI_clamp (by omega), nI_clamp (by omega)]
  unfold r_take b_take
  rw [take_eq h hD h2 d]
  by_cases c : (g_tw G 1).1 = 0
  · rw [if_pos c, if_pos c, if_pos c, if_pos c]
    exact ⟨zm1 _ _, take_no h hD (by decide) h80 h2 hs⟩
  · rw [if_neg c, if_neg c, if_neg c, if_neg c]
    obtain ⟨t1, t2⟩ := td_sc (n := 1) hD.1
    obtain ⟨w1, w2, w3, w4⟩ := take_rows h hD (n := 1) (by decide)
    obtain ⟨k0, k1, k2⟩ := keep_2 (td_b b1 1) 1
    have eG : G.2.2.1 = g.2.2.1 := hD.2.2.2.1
    have e0 : (g_take G 1).2.2.1 0 = b.2 1 := by
      show G.2.2.1 0 = b.2 1
      rw [eG, h.2.1]
    have rr : ∀ r, ¬ r = 8 → (md_sc (md_sc (md_row (md_row (md_made (g_take G 1) (b.2 2) (nI i) (nI i2)) 8 i (nI (b.2 1))) 8 i2 (nI (b.2 1))) 0 (b.2 1 + 1)) 1 (b.2 2 + 1)).1 r = (md_made (g_take G 1) (b.2 2) (nI i) (nI i2)).1 r := fun r hr => by
      show (md_row (md_row (md_made (g_take G 1) (b.2 2) (nI i) (nI i2)) 8 i (nI (b.2 1))) 8 i2 (nI (b.2 1))).1 r = _
      rw [md_rne hr, md_rne hr]
    have r8 : ∀ f, (md_sc (md_sc (md_row (md_row (md_made (g_take G 1) (b.2 2) (nI i) (nI i2)) 8 i (nI (b.2 1))) 8 i2 (nI (b.2 1))) 0 (b.2 1 + 1)) 1 (b.2 2 + 1)).1 8 f = if f = i2 then nI (b.2 1) else if f = i then nI (b.2 1) else (md_made (g_take G 1) (b.2 2) (nI i) (nI i2)).1 8 f := fun f => by
      show (md_row (md_row (md_made (g_take G 1) (b.2 2) (nI i) (nI i2)) 8 i (nI (b.2 1))) 8 i2 (nI (b.2 1))).1 8 f = _
      by_cases c1 : f = i2
      · rw [if_pos c1, mdr_eq rfl c1]
      · rw [if_neg c1, mdr_ne (fun q => c1 q.2)]
        by_cases c2 : f = i
        · rw [if_pos c2, mdr_eq rfl c2]
        · rw [if_neg c2, mdr_ne (fun q => c2 q.2)]
    have ke := fun f => ((keep_10 (td_b b1 1) 1 f (by omega) 3 (by rw [t1]; exact v0)).2 i (by omega) (by rw [t1]; exact v2)).2 i2 (by omega) ⟨rfl, by rw [t1]; exact v3⟩
    refine ⟨?_, take_yes h hD (by decide) h2 c k0 (by rw [k1, t1]) (by rw [k2, t2]) (fun r hr => keep_r _ _ _ hr) rfl rfl (fun r hr => (rr r (by omega)).trans ((made_r _ _ _ _ r hr).trans (gtake_r G 1 r (by omega)))) ?_⟩
    · rw [hD.1, keep_r _ _ _ (by decide), zat h80 (by decide)]
      exact v7
    · refine FR_new h.2.2.1 (fun f hf => ?_) (fun e he => ?_) (fun f h1 h3 => ?_)
      · obtain ⟨a1, a2, a3, a4⟩ := made_at (g_take G 1) (b.2 2) (nI i) (nI i2) f
        rw [if_neg (by omega), gtake_r G 1 _ (by decide), w4 _ (by decide) (by decide)] at a1 a2 a3 a4
        rw [rr 7 (by decide), rr 9 (by decide), rr 10 (by decide), r8 f, ke f, t1]
        refine ⟨?_, a1, a3, a4, ?_⟩
        · rw [keep_9, if_neg (by omega), w3 9 (by decide)]
        · by_cases c1 : f = i2
          · rw [if_pos c1, if_pos c1]
            exact Or.inl ⟨rfl, rfl⟩
          · rw [if_neg c1, if_neg c1]
            by_cases c2 : f = i
            · rw [if_pos c2, if_pos c2]
              exact Or.inl ⟨rfl, rfl⟩
            · rw [if_neg c2, if_neg c2, if_neg (by omega), w3 10 (by decide)]
              exact Or.inr ⟨rfl, a2⟩
      · rw [keep_r _ _ _ (by decide), keep_r _ _ _ (by decide)]
        exact ⟨w1 e (by omega) 2 (by decide), w1 e (by omega) 3 (by decide)⟩
      · have e : f = b.2 2 := by omega
        subst e
        obtain ⟨a1, a2, a3, a4⟩ := made_at (g_take G 1) (b.2 2) (nI i) (nI i2) (b.2 2)
        rw [if_pos rfl] at a1 a2 a3 a4
        rw [e0] at a1
        have ke2 := ke (b.2 2)
        rw [if_neg (by omega), if_neg (by omega), if_pos (by omega)] at ke2
        have r82 := r8 (b.2 2)
        rw [if_neg (by omega), if_neg (by omega)] at r82
        rw [rr 7 (by decide), rr 9 (by decide), rr 10 (by decide), r82, ke2]
        refine ⟨?_, a1, ?_, ?_, rfl, a2⟩
        · rw [keep_9, if_pos (by omega), t1]
        · rw [keep_r _ _ _ (by decide), v2]
          exact a3.symm
        · rw [keep_r _ _ _ (by decide), v3]
          exact a4.symm
theorem finP (h : Inv b g) (hD : DR (b.2 1) b b1 g G) (h80 : b.2 1 < 80) (h60 : b.2 2 + 2 ≤ 60) (h2 : Rl (b.2 1 + 1) (b.2 2 + 2) (td_b b1 2) (g_t3 (g_mk G 2) 2)) (hs : ¬ (g_t3 (g_mk G 2) 2).1 0 (b.2 1) = 0) {i : Nat} (hi : i < b.2 2) (v0 : (td_b b1 2).1 0 (b.2 1) = 2) (v2 : (td_b b1 2).1 2 (b.2 1) = nI i) (v3 : (td_b b1 2).1 3 (b.2 1) = -1) (v7 : (td_b b1 2).1 7 (b.2 1) = nI (b.2 2)) (d : Ld) :
    z_at 80 ((b_take b1 d 2).1 7) (r_take b1 d 2) = (if (g_tw G 2).1 = 0 then -1 else nI (b.2 2)) ∧ Inv (b_take b1 d 2) (if (g_tw G 2).1 = 0 then g_take G 2 else md_sc (md_sc (md_row (md_made (md_made (g_take G 2) (b.2 2) (nI i) (-1)) (b.2 2 + 1) (nI i) (-1)) 8 (nI i).toNatClampNeg (nI (b.2 1))) 0 (b.2 1 + 1)) 1 (b.2 2 + 2)) := by
  rw [nI_clamp (by omega)]
  unfold r_take b_take
  rw [take_eq h hD h2 d]
  by_cases c : (g_tw G 2).1 = 0
  · rw [if_pos c, if_pos c, if_pos c, if_pos c]
    exact ⟨zm1 _ _, take_no h hD (by decide) h80 h2 hs⟩
  · rw [if_neg c, if_neg c, if_neg c, if_neg c]
    obtain ⟨t1, t2⟩ := td_sc (n := 2) hD.1
    obtain ⟨w1, w2, w3, w4⟩ := take_rows h hD (n := 2) (by decide)
    obtain ⟨k0, k1, k2⟩ := keep_2 (td_b b1 2) 2
    have eG : G.2.2.1 = g.2.2.1 := hD.2.2.2.1
    have e0 : (g_take G 2).2.2.1 0 = b.2 1 := by
      show G.2.2.1 0 = b.2 1
      rw [eG, h.2.1]
    have e1 : (md_made (g_take G 2) (b.2 2) (nI i) (-1)).2.2.1 0 = b.2 1 := e0
    have rr : ∀ r, ¬ r = 8 → (md_sc (md_sc (md_row (md_made (md_made (g_take G 2) (b.2 2) (nI i) (-1)) (b.2 2 + 1) (nI i) (-1)) 8 i (nI (b.2 1))) 0 (b.2 1 + 1)) 1 (b.2 2 + 2)).1 r = (md_made (md_made (g_take G 2) (b.2 2) (nI i) (-1)) (b.2 2 + 1) (nI i) (-1)).1 r := fun r hr => by
      show (md_row (md_made (md_made (g_take G 2) (b.2 2) (nI i) (-1)) (b.2 2 + 1) (nI i) (-1)) 8 i (nI (b.2 1))).1 r = _
      rw [md_rne hr]
    have r8 : ∀ f, (md_sc (md_sc (md_row (md_made (md_made (g_take G 2) (b.2 2) (nI i) (-1)) (b.2 2 + 1) (nI i) (-1)) 8 i (nI (b.2 1))) 0 (b.2 1 + 1)) 1 (b.2 2 + 2)).1 8 f = if f = i then nI (b.2 1) else (md_made (md_made (g_take G 2) (b.2 2) (nI i) (-1)) (b.2 2 + 1) (nI i) (-1)).1 8 f := fun f => by
      show (md_row (md_made (md_made (g_take G 2) (b.2 2) (nI i) (-1)) (b.2 2 + 1) (nI i) (-1)) 8 i (nI (b.2 1))).1 8 f = _
      by_cases c2 : f = i
      · rw [if_pos c2, mdr_eq rfl c2]
      · rw [if_neg c2, mdr_ne (fun q => c2 q.2)]
    have ke := fun f => ((keep_10 (td_b b1 2) 2 f (by omega) 2 (by rw [t1]; exact v0)).2 i (by omega) (by rw [t1]; exact v2)).1 ⟨rfl, by rw [t1]; exact v3⟩
    refine ⟨?_, take_yes h hD (by decide) h2 c k0 (by rw [k1, t1]) (by rw [k2, t2]) (fun r hr => keep_r _ _ _ hr) rfl rfl (fun r hr => (rr r (by omega)).trans ((made_r _ _ _ _ r hr).trans ((made_r _ _ _ _ r hr).trans (gtake_r G 2 r (by omega))))) ?_⟩
    · rw [hD.1, keep_r _ _ _ (by decide), zat h80 (by decide)]
      exact v7
    · refine FR_new h.2.2.1 (fun f hf => ?_) (fun e he => ?_) (fun f h1 h3 => ?_)
      · obtain ⟨a1, a2, a3, a4⟩ := made_at (md_made (g_take G 2) (b.2 2) (nI i) (-1)) (b.2 2 + 1) (nI i) (-1) f
        obtain ⟨b1', b2', b3', b4'⟩ := made_at (g_take G 2) (b.2 2) (nI i) (-1) f
        rw [if_neg (by omega)] at a1 a2 a3 a4
        rw [if_neg (by omega), gtake_r G 2 _ (by decide), w4 _ (by decide) (by decide)] at b1' b2' b3' b4'
        rw [rr 7 (by decide), rr 9 (by decide), rr 10 (by decide), r8 f, ke f, t1]
        refine ⟨?_, a1.trans b1', a3.trans b3', a4.trans b4', ?_⟩
        · rw [keep_9, if_neg (by omega), w3 9 (by decide)]
        · by_cases c2 : f = i
          · rw [if_pos c2, if_pos c2]
            exact Or.inl ⟨rfl, rfl⟩
          · rw [if_neg c2, if_neg c2, if_neg (by omega), w3 10 (by decide)]
            exact Or.inr ⟨rfl, a2.trans b2'⟩
      · rw [keep_r _ _ _ (by decide), keep_r _ _ _ (by decide)]
        exact ⟨w1 e (by omega) 2 (by decide), w1 e (by omega) 3 (by decide)⟩
      · obtain ⟨a1, a2, a3, a4⟩ := made_at (md_made (g_take G 2) (b.2 2) (nI i) (-1)) (b.2 2 + 1) (nI i) (-1) f
        obtain ⟨b1', b2', b3', b4'⟩ := made_at (g_take G 2) (b.2 2) (nI i) (-1) f
        rw [e1] at a1
        rw [e0] at b1'
        have ke2 := ke f
        rw [if_neg (by omega), if_pos (by omega)] at ke2
        have r82 := r8 f
        rw [if_neg (by omega)] at r82
        have k9 := keep_9 (td_b b1 2) 2 f
        rw [if_pos (by omega)] at k9
        rw [rr 7 (by decide), rr 9 (by decide), rr 10 (by decide), r82, ke2, k9, t1, keep_r _ _ _ (by decide), keep_r _ _ _ (by decide), v2, v3, a1, a2, a3, a4, b1', b2', b3', b4']
        by_cases cf : f = b.2 2 + 1
        · rw [if_pos cf, if_pos cf, if_pos cf, if_pos cf]
          exact ⟨rfl, rfl, rfl, rfl, rfl, rfl⟩
        · have cf2 : f = b.2 2 := by omega
          rw [if_neg cf, if_neg cf, if_neg cf, if_neg cf, if_pos cf2, if_pos cf2, if_pos cf2, if_pos cf2]
          exact ⟨rfl, rfl, rfl, rfl, rfl, rfl⟩
end FIN
