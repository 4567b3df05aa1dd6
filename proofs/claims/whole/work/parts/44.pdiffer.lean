/-! PURE: differ -/
/-- the row that differ writes is k17 too -/
def k17 (g g2 : Md) : Prop := g2.1 17 = g.1 17
theorem k17.rf (g : Md) : k17 g g := rfl
theorem k17.tr {g g2 g3 : Md} (h : k17 g g2) (h2 : k17 g2 g3) : k17 g g3 := Eq.trans h2 h
theorem k17_row (g : Md) (r i : Nat) (x : Int32) (h : ¬ 17 = r) : k17 g (md_row g r i x) := if_neg h
theorem k17_rowL (g : Md) (r i : Nat) (x : Int64) : k17 g (md_rowL g r i x) := rfl
theorem k17_set (g : Md) (v : Int32) : k17 g (md_set g v) := rfl
theorem k17_wipe (g : Md) (k : Nat) : k17 g (md_wipe g k) := by
  show (if (17 : Nat) = 11 then (fun f => if f < k then 0 else g.1 11 f) else g.1 17) = g.1 17
  exact if_neg (by decide)
theorem k17_c3 (g : Md) (j : Nat) : k17 g (md_c3 g j) := ((k17_row _ _ _ _ (by decide)).tr (k17_row _ _ _ _ (by decide))).tr (k17_row _ _ _ _ (by decide))
theorem k17_come (g : Md) (j : Nat) (a k o x : Int32) : k17 g (md_come g j a k o x) := (((((k17_row _ _ _ _ (by decide)).tr (k17_row _ _ _ _ (by decide))).tr (k17_row _ _ _ _ (by decide))).tr (k17_row _ _ _ _ (by decide))).tr (k17_row _ _ _ _ (by decide))).tr (k17_c3 _ _)
theorem k17_qc (g : Md) (n i j c : Nat) : k17 g (q_c g n i j c) := (k17_row _ _ _ _ (by decide)).tr (k17_row _ _ _ _ (by decide))
theorem k17_part (g : Md) (n i j : Nat) : k17 g (md_part g n i j) := (((((k17_come _ _ _ _ _ _).tr (k17_come _ _ _ _ _ _)).tr (k17_qc _ _ _ _ _)).tr (k17_qc _ _ _ _ _)).tr (k17_qc _ _ _ _ _)).tr (k17_row _ _ _ _ (by decide))
theorem k17_vc (g : Md) (i i2 j c : Nat) : k17 g (v_c g i i2 j c) := k17_row _ _ _ _ (by decide)
theorem k17_join (g : Md) (i i2 j : Nat) : k17 g (md_join g i i2 j) := (((((k17_come _ _ _ _ _ _).tr (k17_vc _ _ _ _ _)).tr (k17_vc _ _ _ _ _)).tr (k17_vc _ _ _ _ _)).tr (k17_row _ _ _ _ (by decide))).tr (k17_row _ _ _ _ (by decide))
theorem k17_mit : ∀ (n : Nat) (g : Md), k17 g (mit g n)
  | 0, g => k17.rf g
  | n + 1, g => ((k17_rowL _ _ _ _).tr (k17_rowL _ _ _ _)).tr (k17_mit n (mstep g))
theorem k17_mcs (g : Md) (kn en f cn : Nat) (x : Int32) : k17 g (mcs g kn en f cn x) := k17_row _ _ _ _ (by decide)
theorem k17_mch1 (g : Md) (kn en f : Nat) : k17 g (mch1 g kn en f) := by
  unfold mch1
  split
  · exact k17.rf g
  · exact ((k17_mcs _ _ _ _ _ _).tr (k17_mcs _ _ _ _ _ _)).tr (k17_mcs _ _ _ _ _ _)
theorem k17_mch (g : Md) (kn en : Nat) : ∀ n, k17 g (mch g kn en n)
  | 0 => k17.rf g
  | n + 1 => (k17_mch g kn en n).tr (k17_mch1 _ _ _ _)
theorem k17_msB (g : Md) (en : Nat) (t : Int64) (k : Nat) : k17 g (msB g en t k) := rfl
theorem k17_settle (g : Md) (kn en : Nat) (t : Int64) : k17 g (g_settle g kn en t) := (((k17_msB _ _ _ _).tr (k17_mit _ _)).tr (k17_mch _ _ _ _)).tr (k17_set _ _)
theorem k17_does (g : Md) (kn en : Nat) : k17 g (g_does g kn en) := by
  unfold g_does
  split
  · exact k17_come _ _ _ _ _ _
  · split
    · exact k17_part _ _ _ _
    · split
      · exact k17_join _ _ _ _
      · split
        · exact k17_row _ _ _ _ (by decide)
        · split
          · exact k17_settle _ _ _ _
          · exact (k17_row _ _ _ _ (by decide)).tr (k17_c3 _ _)
theorem k17_wke (kn : Nat) (ti yr : Int32) : ∀ (r x : Nat) (g : Md), k17 g (wke kn ti yr r x g).2
  | 0, _, g => k17.rf g
  | r + 1, x, g => by
    rw [wke]
    split
    · exact k17_wke kn ti yr r (x + 1) g
    · split
      · split
        · exact k17.rf g
        · split
          · exact k17.rf g
          · exact (k17_does g kn x).tr (k17_wke kn ti yr r (x + 1) _)
      · exact k17_wke kn ti yr r (x + 1) g
theorem k17_wky (kn : Nat) (ti : Int32) : ∀ (r a : Nat) (g : Md), k17 g (wky kn ti r a g).2
  | 0, _, g => k17.rf g
  | r + 1, a, g => by
    rw [wky]
    unfold wkn
    split
    · exact k17_wke kn ti _ kn 0 g
    · exact (k17_wke kn ti _ kn 0 g).tr (k17_wky kn ti r (a + 1) _)
theorem k17_works (g : Md) (kn yn : Nat) (ti : Int32) : k17 g (g_works g kn yn ti).2 := ((k17_wipe g 60).tr (k17_set _ _)).tr (k17_wky _ _ _ _ _)
theorem tell17 (q : Md) (i : Nat) (x : Int32) (f w : Int32) : m_tell (md_row q 17 i x) f w = m_tell q f w := by
  have e : ∀ r, ¬ r = 17 → (md_row q 17 i x).1 r = q.1 r := fun r h => md_rne h
  unfold m_tell m_is
  rw [e 11 (by decide), e 12 (by decide), e 13 (by decide), e 14 (by decide), e 15 (by decide), e 16 (by decide)]
  rfl
theorem wt_at (q : Md) (k v j : Nat) : (md_wt q k v).1 17 j = if j = 8 * k + v then m_tell q (nI k) (nI v) else q.1 17 j := by
  unfold md_wt
  by_cases h : j = 8 * k + v
  · rw [if_pos h, mdr_eq rfl h]
  · rw [if_neg h, mdr_ne (fun z => h z.2)]
theorem wt_tell (q : Md) (k v : Nat) (f w : Int32) : m_tell (md_wt q k v) f w = m_tell q f w := tell17 q _ _ f w
theorem wt_row (q : Md) (k v r : Nat) (h : ¬ r = 17) : (md_wt q k v).1 r = q.1 r := md_rne h
theorem w1_row (q : Md) (k r : Nat) (h : ¬ r = 17) : (md_w1 q k).1 r = q.1 r := by
  unfold md_w1 md_wz
  rw [md_rne h, wt_row _ _ _ _ h, wt_row _ _ _ _ h, wt_row _ _ _ _ h, wt_row _ _ _ _ h, wt_row _ _ _ _ h, wt_row _ _ _ _ h, wt_row _ _ _ _ h]
theorem w1_tell (q : Md) (k : Nat) (f w : Int32) : m_tell (md_w1 q k) f w = m_tell q f w := by
  unfold md_w1 md_wz
  rw [tell17, wt_tell, wt_tell, wt_tell, wt_tell, wt_tell, wt_tell, wt_tell]
theorem w1_at (q : Md) (k : Nat) : (∀ v, v < 7 → (md_w1 q k).1 17 (8 * k + v) = m_tell q (nI k) (nI v)) ∧ (md_w1 q k).1 17 (8 * k + 7) = (if q.1 11 k = 0 then 0 else 1) ∧ ∀ j, (j < 8 * k ∨ 8 * k + 8 ≤ j) → (md_w1 q k).1 17 j = q.1 17 j := by
  unfold md_w1 md_wz
  refine ⟨fun v hv => ?_, ?_, fun j hj => ?_⟩
  · rw [mdr_ne (by omega)]
    simp only [wt_at, wt_tell]
    rcases (show v = 0 ∨ v = 1 ∨ v = 2 ∨ v = 3 ∨ v = 4 ∨ v = 5 ∨ v = 6 by omega) with rfl | rfl | rfl | rfl | rfl | rfl | rfl
    · rw [if_neg (by omega), if_neg (by omega), if_neg (by omega), if_neg (by omega), if_neg (by omega), if_neg (by omega), if_pos (by omega)]
    · rw [if_neg (by omega), if_neg (by omega), if_neg (by omega), if_neg (by omega), if_neg (by omega), if_pos (by omega)]
    · rw [if_neg (by omega), if_neg (by omega), if_neg (by omega), if_neg (by omega), if_pos (by omega)]
    · rw [if_neg (by omega), if_neg (by omega), if_neg (by omega), if_pos (by omega)]
    · rw [if_neg (by omega), if_neg (by omega), if_pos (by omega)]
    · rw [if_neg (by omega), if_pos (by omega)]
    · rw [if_pos (by omega)]
  · rw [mdr_eq rfl rfl, wt_row _ _ _ _ (by decide), wt_row _ _ _ _ (by decide), wt_row _ _ _ _ (by decide), wt_row _ _ _ _ (by decide), wt_row _ _ _ _ (by decide), wt_row _ _ _ _ (by decide), wt_row _ _ _ _ (by decide)]
  · rw [mdr_ne (by omega)]
    simp only [wt_at]
    rw [if_neg (by omega), if_neg (by omega), if_neg (by omega), if_neg (by omega), if_neg (by omega), if_neg (by omega), if_neg (by omega)]
theorem ws_at : ∀ (r k : Nat) (q : Md), (∀ x, ¬ x = 17 → (md_ws r k q).1 x = q.1 x) ∧ (∀ f w, m_tell (md_ws r k q) f w = m_tell q f w) ∧ (∀ f, k ≤ f → f < k + r → (∀ v, v < 7 → (md_ws r k q).1 17 (8 * f + v) = m_tell q (nI f) (nI v)) ∧ (md_ws r k q).1 17 (8 * f + 7) = (if q.1 11 f = 0 then 0 else 1)) ∧ ∀ j, j < 8 * k → (md_ws r k q).1 17 j = q.1 17 j
  | 0, k, q => ⟨fun _ _ => rfl, fun _ _ => rfl, fun f h1 h2 => absurd h2 (by omega), fun _ _ => rfl⟩
  | r + 1, k, q => by
    obtain ⟨i1, i2, i3, i4⟩ := ws_at r (k + 1) (md_w1 q k)
    obtain ⟨w1, w2, w3⟩ := w1_at q k
    rw [md_ws]
    refine ⟨fun x hx => (i1 x hx).trans (w1_row q k x hx), fun f w => (i2 f w).trans (w1_tell q k f w), fun f h1 h2 => ?_, fun j hj => ?_⟩
    · rcases Nat.lt_or_ge k f with c | c
      · obtain ⟨a1, a2⟩ := i3 f (by omega) (by omega)
        refine ⟨fun v hv => (a1 v hv).trans (w1_tell q k _ _), a2.trans ?_⟩
        rw [w1_row q k 11 (by decide)]
      · have e : f = k := by omega
        subst e
        exact ⟨fun v hv => (i4 _ (by omega)).trans (w1 v hv), (i4 _ (by omega)).trans w2⟩
    · exact (i4 j (by omega)).trans (w3 j (Or.inl (by omega)))
theorem sm_ne (g : Md) (k : Nat) : ∀ n, ¬ m_sm g k n = 0 ↔ (g.1 17 (8 * k + 7) = (if g.1 11 k = 0 then 0 else 1) ∧ ∀ v, v < n → g.1 17 (8 * k + v) = m_tell g (nI k) (nI v))
  | 0 => by
    rw [m_sm]
    by_cases c : g.1 17 (8 * k + 7) = (if g.1 11 k = 0 then 0 else 1)
    · rw [if_pos c]
      exact ⟨fun _ => ⟨c, fun v hv => absurd hv (Nat.not_lt_zero v)⟩, fun _ => ne10⟩
    · rw [if_neg c]
      exact ⟨fun q => absurd rfl q, fun q => absurd q.1 c⟩
  | n + 1 => by
    have ih := sm_ne g k n
    rw [m_sm]
    by_cases c : m_sm g k n = 0
    · rw [if_pos c]
      refine ⟨fun q => absurd rfl q, fun q => ?_⟩
      exact absurd c (ih.mpr ⟨q.1, fun v hv => q.2 v (by omega)⟩)
    · rw [if_neg c]
      obtain ⟨a1, a2⟩ := ih.mp c
      by_cases c2 : g.1 17 (8 * k + n) = m_tell g (nI k) (nI n)
      · rw [if_pos c2]
        refine ⟨fun _ => ⟨a1, fun v hv => ?_⟩, fun _ => ne10⟩
        rcases Nat.lt_or_ge v n with z | z
        · exact a2 v z
        · have : v = n := by omega
          subst this
          exact c2
      · rw [if_neg c2]
        exact ⟨fun q => absurd rfl q, fun q => absurd (q.2 n (Nat.lt_succ_self n)) c2⟩
theorem other_0 (d o : Ld) (f : Int32) : l_other d o f = 0 ↔ ∀ v, v < 7 → t_tell d f (nI v) = t_tell o f (nI v) := by
  unfold l_other
  constructor
  · intro h v hv
    by_cases c0 : t_tell d f 0 = t_tell o f 0
    · rw [if_pos c0] at h
      by_cases c1 : t_tell d f 1 = t_tell o f 1
      · rw [if_pos c1] at h
        by_cases c2 : t_tell d f 2 = t_tell o f 2
        · rw [if_pos c2] at h
          by_cases c3 : t_tell d f 3 = t_tell o f 3
          · rw [if_pos c3] at h
            by_cases c4 : t_tell d f 4 = t_tell o f 4
            · rw [if_pos c4] at h
              by_cases c5 : t_tell d f 5 = t_tell o f 5
              · rw [if_pos c5] at h
                by_cases c6 : t_tell d f 6 = t_tell o f 6
                · rcases (show v = 0 ∨ v = 1 ∨ v = 2 ∨ v = 3 ∨ v = 4 ∨ v = 5 ∨ v = 6 by omega) with rfl | rfl | rfl | rfl | rfl | rfl | rfl
                  · exact c0
                  · exact c1
                  · exact c2
                  · exact c3
                  · exact c4
                  · exact c5
                  · exact c6
                · rw [if_neg c6] at h
                  exact absurd h ne10
              · rw [if_neg c5] at h
                exact absurd h ne10
            · rw [if_neg c4] at h
              exact absurd h ne10
          · rw [if_neg c3] at h
            exact absurd h ne10
        · rw [if_neg c2] at h
          exact absurd h ne10
      · rw [if_neg c1] at h
        exact absurd h ne10
    · rw [if_neg c0] at h
      exact absurd h ne10
  · intro h
    rw [if_pos (show t_tell d f 0 = t_tell o f 0 from h 0 (by omega)), if_pos (show t_tell d f 1 = t_tell o f 1 from h 1 (by omega)), if_pos (show t_tell d f 2 = t_tell o f 2 from h 2 (by omega)), if_pos (show t_tell d f 3 = t_tell o f 3 from h 3 (by omega)), if_pos (show t_tell d f 4 = t_tell o f 4 from h 4 (by omega)), if_pos (show t_tell d f 5 = t_tell o f 5 from h 5 (by omega)), if_pos (show t_tell d f 6 = t_tell o f 6 from h 6 (by omega))]
theorem tell_none {F n f : Nat} {g : Md} (hG : Good F n g) (hf : f < 60) : m_tell g (nI f) 0 = -1 ↔ g.1 11 f = 0 := by
  by_cases c : g.1 11 f = 0
  · refine ⟨fun _ => c, fun _ => ?_⟩
    unfold m_tell
    rw [if_neg (fun q => (m_is_n hG hf).mp q c)]
  · refine ⟨fun h => ?_, fun h => absurd h c⟩
    rw [tell_at hG hf c, if_pos rfl] at h
    obtain ⟨-, ⟨a, ha1, ha2, ea⟩, -⟩ := hG.2.2.1 f hf c
    have ea2 : g.1 12 f = nI a := ea
    rw [ea2] at h
    exact absurd (h ▸ nI_le (a := 0) (Nat.zero_le a) ha2) (by decide)
theorem dfr_neg {d o : Ld} {i : Int32} (hi : ¬ 0 ≤ i) : ∀ (r k c : Nat), r + c ≤ 1000 → dfr d o i r k (nI c) = -1
  | 0, _, _, _ => rfl
  | r + 1, k, c, h => by
    rw [dfr]
    split
    · exact dfr_neg hi r (k + 1) c (by omega)
    · rw [if_neg (show ¬ nI c = i from fun q => hi (q ▸ nI_le (a := 0) (Nat.zero_le c) (by omega))), nI_1]
      exact dfr_neg hi r (k + 1) (c + 1) (by omega)
theorem dfr_out {d o : Ld} {i : Int32} : ∀ (r k : Nat) (n : Int32), (∀ f, k ≤ f → f < k + r → l_other d o (nI f) = 0) → dfr d o i r k n = -1
  | 0, _, _, _ => rfl
  | r + 1, k, n, h => by
    rw [dfr, if_pos (h k (Nat.le_refl k) (by omega))]
    exact dfr_out r (k + 1) n (fun f h1 h2 => h f (by omega) (by omega))
theorem dfr_eq {F : Nat} {d o : Ld} {G : Md} {i : Int32} (hF : F ≤ 60) (h : ∀ f, f < F → (l_other d o (nI f) = 0 ↔ ¬ m_sm G f 7 = 0)) (hout : ∀ f, F ≤ f → f < 60 → l_other d o (nI f) = 0) : ∀ (r k : Nat) (n : Int32), r + k = F → dfr d o i (r + (60 - F)) k n = m_df G i r k n
  | 0, k, n, e => by
    rw [m_df, Nat.zero_add]
    exact dfr_out _ _ _ (fun f h1 h2 => hout f (by omega) (by omega))
  | r + 1, k, n, e => by
    rw [show r + 1 + (60 - F) = (r + (60 - F)) + 1 by omega, dfr, m_df]
    have hk := h k (by omega)
    by_cases c : m_sm G k 7 = 0
    · rw [if_pos c, if_neg (fun q => hk.mp q c)]
      by_cases c2 : n = i
      · rw [if_pos c2, if_pos c2]
      · rw [if_neg c2, if_neg c2]
        exact dfr_eq hF h hout r (k + 1) (n + 1) (by omega)
    · rw [if_neg c, if_pos (hk.mpr c)]
      exact dfr_eq hF h hout r (k + 1) n (by omega)
theorem q_differ {b : Bk} {g : Md} (h : Inv b g) (d o : Ld) (k k2 y i : Int32) : r_differ b d o k k2 y i = m_differ g k k2 y i := by
  unfold r_differ m_differ
  rw [h.2.1]
  by_cases c1 : 0 ≤ k ∧ k ≤ nI (b.2 1)
  · rw [if_pos c1, if_pos c1]
    by_cases c2 : 0 ≤ k2 ∧ k2 ≤ nI (b.2 1)
    · rw [if_pos c2, if_pos c2]
      by_cases c3 : 0 ≤ y ∧ y ≤ 200
      · rw [if_pos c3, if_pos c3]
        by_cases c4 : 0 ≤ i
        · rw [if_pos c4]
          obtain ⟨kn, hk, ek⟩ := zw_kn h.1.1 c1
          obtain ⟨kn2, hk2, ek2⟩ := zw_kn h.1.1 c2
          obtain ⟨yn, hy, ey⟩ := zw_y0 c3
          subst ek
          subst ek2
          subst ey
          have hN := h.1.1
          have hF := h.1.2.1
          rw [nI_clamp (by omega), nI_clamp (by omega), nI_clamp (by omega), h.1.2.2.1]
          obtain ⟨-, s1, m1, hm1, g1⟩ := show_eq h.1 hk hy d
          have hkq : kept g (md_ws (b.2 2) 0 (g_works g kn yn (-1)).2) := (kept_works g kn yn (-1)).tr (kept_ws _ _ _)
          obtain ⟨-, s2, m2, hm2, g2⟩ := show_eq (h.1.kp hkq) hk2 hy o
          have h17 := k17_works (md_ws (b.2 2) 0 (g_works g kn yn (-1)).2) kn2 yn (-1)
          obtain ⟨w1, w2, w3, w4⟩ := ws_at (b.2 2) 0 (g_works g kn yn (-1)).2
          unfold g_dif
          rw [h.1.2.2.1]
          generalize (g_works (md_ws (b.2 2) 0 (g_works g kn yn (-1)).2) kn2 yn (-1)).2 = G at *
          generalize md_ws (b.2 2) 0 (g_works g kn yn (-1)).2 = Q at *
          generalize (g_works g kn yn (-1)).2 = P at *
          generalize (ld_show d b kn (nI yn) (-1)).2 = D at *
          generalize (ld_show o b kn2 (nI yn) (-1)).2 = E at *
          have t1 : ∀ f w, f < 60 → t_tell D (nI f) w = m_tell P (nI f) w := fun f w hf => tell_eq s1 g1 hf w
          have t2 : ∀ f w, f < 60 → t_tell E (nI f) w = m_tell G (nI f) w := fun f w hf => tell_eq s2 g2 hf w
          have key := dfr_eq (F := b.2 2) (d := D) (o := E) (G := G) (i := i) hF (fun f hf => by
            rw [other_0, sm_ne]
            obtain ⟨a1, a2⟩ := w3 f (Nat.zero_le f) (by omega)
            have e17 : ∀ j, G.1 17 j = Q.1 17 j := fun j => congrFun h17 j
            rw [e17, a2]
            constructor
            · intro q
              have hq : ∀ v, v < 7 → m_tell P (nI f) (nI v) = m_tell G (nI f) (nI v) := fun v hv => by
                rw [← t1 f (nI v) (by omega), ← t2 f (nI v) (by omega)]
                exact q v hv
              refine ⟨?_, fun v hv => ?_⟩
              · have q0 : m_tell P (nI f) 0 = m_tell G (nI f) 0 := hq 0 (by omega)
                have i1 := tell_none g1 (show f < 60 by omega)
                have i2 := tell_none g2 (show f < 60 by omega)
                rw [q0] at i1
                by_cases z : G.1 11 f = 0
                · rw [if_pos z, if_pos (i1.mp (i2.mpr z))]
                · rw [if_neg z, if_neg (fun w => z (i2.mp (i1.mpr w)))]
              · rw [e17, a1 v hv]
                exact hq v hv
            · rintro ⟨-, q⟩ v hv
              rw [t1 f (nI v) (by omega), t2 f (nI v) (by omega), ← q v hv, e17, a1 v hv]) (fun f h1 h2 => by
            rw [other_0]
            intro v hv
            rw [t1 f (nI v) h2, t2 f (nI v) h2]
            have n1 := (not_there s1 g1 h2 h1).2
            have n2 := (not_there s2 g2 h2 h1).2
            unfold m_tell
            rw [if_neg (fun q => (m_is_n g1 h2).mp q n1), if_neg (fun q => (m_is_n g2 h2).mp q n2)]) (b.2 2) 0 0 (by omega)
          rw [show b.2 2 + (60 - b.2 2) = 60 by omega] at key
          exact key
        · rw [if_neg c4]
          exact dfr_neg c4 60 0 0 (by omega)
      · rw [if_neg c3, if_neg c3]
    · rw [if_neg c2, if_neg c2]
  · rw [if_neg c1, if_neg c1]
