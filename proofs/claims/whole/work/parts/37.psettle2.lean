/-! PURE: settle, its end -/
theorem is_there_n {d : Ld} {i : Nat} (hi : i < 60) : is_there d (nI i) ↔ ¬ d.1 0 i = 0 := by
  unfold is_there
  rw [nI_clamp (by omega)]
  exact ⟨fun h => h.2.2, fun h => ⟨nI_le (a := 0) (Nat.zero_le _) (by omega), nI_lt (b := 60) hi (by omega), h⟩⟩
theorem shares {F n e q : Nat} {g : Md} {d1 : Ld} (hG : Good F n g) (hn : n ≤ 80) (hq : 1 ≤ q ∧ q ≤ 1000000) (eq : g.1 4 e = nI q) (hT : 1 ≤ tot g) (hw : ∀ f, f < 60 → d1.2.1 0 f = lN (wN (mV g f))) : ∃ sh : Nat → Nat, (∀ f, f < 60 → sh f ≤ 1000060) ∧ (∀ f, f < 60 → (ld_share d1 (nI q) (lN (tot g))).1 5 f = nI (sh f)) ∧ ∀ f, f < 60 → (mit (msB g e (lN (tot g)) 60) (mlf g e (lN (tot g)) 60).toInt.toNat).2.1 0 f = lN (sh f) := by
  have hTl : tot g ≤ 2400000 := Nat.le_trans (tot_le hG) (by omega)
  have hwl : ∀ f, f < 60 → wN (mV g f) ≤ tot g := fun f hf => Nat.le_trans (Nat.le_add_left _ _) (fb_sm_part (fun f => wN (mV g f)) hf)
  have hql : ∀ f, f < 60 → q * wN (mV g f) ≤ 2400000000000 := fun f hf => by
    have h1 : q * wN (mV g f) ≤ 1000000 * 2400000 := Nat.mul_le_mul hq.2 (Nat.le_trans (hwl f hf) hTl)
    omega
  have hp : ∀ f, f < 60 → sh_p d1 (nI q) f = lN (q * wN (mV g f)) := fun f hf => by
    unfold sh_p
    rw [hw f hf, nI_l (by omega), lN_mul]
  have hm : ∀ f, f < 60 → mnn g e f = lN (q * wN (mV g f)) := fun f hf => by
    unfold mnn wN
    by_cases h : g.1 11 f = 0
    · rw [if_pos h, if_pos (show (mV g f).1 = 0 from h), Nat.mul_zero]
      rfl
    · rw [if_neg h, if_neg (show ¬ (mV g f).1 = 0 from h)]
      obtain ⟨-, ⟨a, ha1, ha2, ea⟩, ⟨k, hk, ek⟩, -⟩ := hG.2.2.1 f hf h
      rw [ea, ek, nI_clamp ha2, nI_clamp (by omega), eq, show g.1 12 f = nI a from ea, show g.1 13 f = nI k from ek, show (3 : Int32) - nI k = nI (3 - k) from pk_sub (a := 3) (by omega), nI_l (by omega), nI_l ha2, nI_l (by omega), lN_mul, lN_mul, Nat.mul_assoc]
  have hdv : ∀ f, f < 60 → lN (q * wN (mV g f)) / lN (tot g) = lN (qt g q f) := fun f hf => pk_lDiv (by have := hql f hf; omega) (by omega) (by omega)
  have hrm : ∀ f, f < 60 → lN (q * wN (mV g f)) - lN (q * wN (mV g f)) / lN (tot g) * lN (tot g) = lN (rt g q f) := fun f hf => pk_lRem (by have := hql f hf; omega) (by omega) (by omega)
  obtain ⟨l1, l2, l3⟩ := left_eq g q hT
  have hqt : ∀ f, f < 60 → qt g q f ≤ q := fun f hf => by
    have h1 := fb_sm_part (qt g q) hf
    omega
  have hI : ITR (tot g) q (so1 d1 (nI q) (lN (tot g)) 60) (msB g e (lN (tot g)) 60) (qt g q) (rt g q) := fun f hf => by
    refine ⟨?_, ?_, ?_, ?_, Nat.mod_lt _ (by omega), hqt f hf⟩
    · show (if f < 60 then (sh_p d1 (nI q) f / lN (tot g)).toInt32 else d1.1 5 f) = _
      rw [if_pos hf, hp f hf, hdv f hf, lN_i]
    · show (if f < 60 then mnn g e f / lN (tot g) else g.2.1 0 f) = _
      rw [if_pos hf, hm f hf, hdv f hf]
    · show (if f < 60 then sh_p d1 (nI q) f - sh_p d1 (nI q) f / lN (tot g) * lN (tot g) else d1.2.1 1 f) = _
      rw [if_pos hf, hp f hf, hrm f hf]
    · show (if f < 60 then mrr g e (lN (tot g)) f else g.2.1 1 f) = _ ∨ _ ∧ (if f < 60 then mrr g e (lN (tot g)) f else g.2.1 1 f) = _
      rw [if_pos hf]
      unfold mrr
      by_cases h : g.1 11 f = 0
      · rw [if_pos h]
        refine Or.inr ⟨?_, rfl⟩
        unfold rt wN
        rw [if_pos (show (mV g f).1 = 0 from h), Nat.mul_zero, Nat.zero_mod]
      · rw [if_neg h, hm f hf, hrm f hf]
        exact Or.inl rfl
  have hl1 : ∀ k, k ≤ 60 → lft d1 (nI q) (lN (tot g)) k = nI (q - fb_sm (qt g q) k) ∧ mlf g e (lN (tot g)) k = lN (q - fb_sm (qt g q) k) := by
    intro k
    induction k with
    | zero => intro _; exact ⟨rfl, by rw [mlf, eq]; exact nI_l (by omega)⟩
    | succ k ih =>
      intro hk
      obtain ⟨i1, i2⟩ := ih (by omega)
      have hs := fb_sm_mono (qt g q) (k + 1) (60 - (k + 1))
      rw [show k + 1 + (60 - (k + 1)) = 60 by omega] at hs
      rw [fb_sm_succ] at hs ⊢
      rw [lft, mlf, i1, i2, hp k (by omega), hm k (by omega), hdv k (by omega), lN_i, pk_sub (by omega), lN_sub (by omega), Nat.sub_sub]
      exact ⟨rfl, rfl⟩
  obtain ⟨e1, e2⟩ := hl1 60 (Nat.le_refl 60)
  obtain ⟨sh, rm, r1, -⟩ := itr_run (L := q - fb_sm (qt g q) 60) ⟨hT, by omega⟩ hI (by omega) (q - fb_sm (qt g q) 60) (Nat.le_refl _)
  refine ⟨sh, fun f hf => ?_, fun f hf => ?_, fun f hf => ?_⟩
  · have := (r1 f hf).2.2.2.2.2
    omega
  · unfold ld_share
    rw [e1]
    have ei : itN (nI (q - fb_sm (qt g q) 60)) = q - fb_sm (qt g q) 60 := by
      unfold itN
      by_cases h : q - fb_sm (qt g q) 60 = 0
      · rw [h, if_pos (by decide)]
      · rw [if_neg (show ¬ nI (q - fb_sm (qt g q) 60) ≤ 0 from fun z => h (Nat.le_zero.mp ((nI_leI (b := 0) (by omega) (by decide)).mp z))), if_neg (show ¬ (60 : Int32) ≤ nI (q - fb_sm (qt g q) 60) from nI_ge (b := 60) l3 (by omega)), nI_clamp (by omega)]
    rw [ei]
    exact (r1 f hf).1
  · rw [e2, pk_lT (by omega)]
    exact (r1 f hf).2.1
/-! rows that stay -/
theorem so2_row (D : Ld) (r : Nat) (h : ¬ r = 5) : ∀ n, (so2 D n).1 r = D.1 r
  | 0 => rfl
  | n + 1 => by
    rw [so2]
    refine Eq.trans ?_ (so2_row D r h n)
    exact if_neg h
theorem share_row (d : Ld) (q : Int32) (t : Int64) (r : Nat) (h : ¬ r = 5) : (ld_share d q t).1 r = d.1 r := by
  unfold ld_share
  rw [so2_row _ r h]
  exact if_neg h
theorem means_row (d : Ld) (b : Bk) (k : Nat) (y : Int32) (r : Nat) (h : ¬ r = 6) : (ld_means d b k y).1 r = d.1 r := by
  unfold ld_means
  dsimp only
  have u : ∀ (f : Nat → Nat → Int32) (i : Nat) (x : Int32), up2 f 6 i x r = f r := fun f i x => if_neg h
  split
  · exact u _ _ _
  · split
    · rw [u, u]
    · rw [u, u, u]
theorem means_val {d : Ld} {b : Bk} {k : Nat} {y : Int32} (h : means_known b k y) : (ld_means d b k y).1 6 0 = bk_mean b k y 0 ∧ (ld_means d b k y).1 6 1 = bk_mean b k y 1 ∧ (ld_means d b k y).1 6 2 = bk_mean b k y 2 := by
  unfold ld_means
  rw [if_neg h.1, if_neg h.2.1]
  exact ⟨rfl, rfl, rfl⟩
theorem cs_eq {D : Ld} {i cn s c m : Nat} (hs : s ≤ 1000060) (hm : 1 ≤ m ∧ m ≤ 1000) (hc : c ≤ 2) (e5 : D.1 5 i = nI s) (e6 : D.1 6 cn = nI m) : cs D i cn (nI c) (nI s - nI s / 3 * 3) = ld_row D (7 + cn) i (nI (CN s c m)) := by
  unfold cs c_third
  rw [e5, e6, th_C hs hc, nI_l (by omega), if_neg (fun z => by have := (pk_lLE (a := m) (b := 0) (by omega) (by omega)).mp z; omega), (c_n hs hm _ rfl).1]
theorem charge_eq {X : Ld} {k s m0 m1 m2 : Nat} (hk : k < 60) (hs : s ≤ 1000060) (h0 : 1 ≤ m0 ∧ m0 ≤ 1000) (h1 : 1 ≤ m1 ∧ m1 ≤ 1000) (h2 : 1 ≤ m2 ∧ m2 ≤ 1000) (e5 : X.1 5 k = nI s) (e0 : X.1 6 0 = nI m0) (e1 : X.1 6 1 = nI m1) (e2 : X.1 6 2 = nI m2) (ht : ¬ X.1 0 k = 0) : ld_charge X k = ld_row (ld_row (ld_row X (7 + 0) k (nI (CN s 0 m0))) (7 + 1) k (nI (CN s 1 m1))) (7 + 2) k (nI (CN s 2 m2)) := by
  unfold ld_charge
  rw [if_pos ((is_there_n hk).mpr ht)]
  unfold c_odd
  rw [e5, show (0 : Int32) = nI 0 from rfl, show (1 : Int32) = nI 1 from rfl, show (2 : Int32) = nI 2 from rfl]
  rw [cs_eq (D := X) (cn := 0) (c := 0) hs h0 (by omega) e5 e0]
  rw [cs_eq (D := ld_row X (7 + 0) k (nI (CN s 0 m0))) (cn := 1) (c := 1) hs h1 (by omega) (by rw [ldr_ne (by omega)]; exact e5) (by rw [ldr_ne (by omega)]; exact e1)]
  rw [cs_eq (D := ld_row (ld_row X (7 + 0) k (nI (CN s 0 m0))) (7 + 1) k (nI (CN s 1 m1))) (cn := 2) (c := 2) hs h2 (by omega) (by rw [ldr_ne (by omega), ldr_ne (by omega)]; exact e5) (by rw [ldr_ne (by omega), ldr_ne (by omega)]; exact e2)]
theorem charge_not {X : Ld} {k : Nat} (hk : k < 60) (ht : X.1 0 k = 0) : ld_charge X k = X := by
  unfold ld_charge
  rw [if_neg (fun q => (is_there_n hk).mp q ht)]
theorem cs_row (d : Ld) (i cn : Nat) (c odd : Int32) (r : Nat) (h : ¬ r = 7 + cn) : (cs d i cn c odd).1 r = d.1 r := by
  unfold cs
  split
  · rfl
  · exact if_neg h
theorem charge_row (X : Ld) (k r : Nat) (h : r ≤ 6) : (ld_charge X k).1 r = X.1 r := by
  unfold ld_charge
  split
  · rw [cs_row _ _ _ _ _ _ (by omega), cs_row _ _ _ _ _ _ (by omega), cs_row _ _ _ _ _ _ (by omega)]
  · rfl
theorem chall_row (D : Ld) (r : Nat) (h : r ≤ 6) : ∀ k, (ch_all D k).1 r = D.1 r
  | 0 => rfl
  | k + 1 => by rw [ch_all, charge_row _ _ _ h, chall_row D r h k]
theorem lV_row3 (X : Ld) (k : Nat) (s m0 m1 m2 f : Nat) : lV (ld_row (ld_row (ld_row X (7 + 0) k (nI (CN s 0 m0))) (7 + 1) k (nI (CN s 1 m1))) (7 + 2) k (nI (CN s 2 m2))) f = if f = k then v_chg (lV X k) s m0 m1 m2 else lV X f := by
  by_cases h : f = k
  · subst h
    rw [if_pos rfl]
    unfold lV v_chg
    simp (disch := omega) only [ldr_ne, ldr_eq]
  · rw [if_neg h]
    unfold lV
    simp (disch := omega) only [ldr_ne, ldr_eq]
theorem chall_V {D : Ld} {sh : Nat → Nat} {m0 m1 m2 : Nat} (hs : ∀ f, f < 60 → sh f ≤ 1000060) (h0 : 1 ≤ m0 ∧ m0 ≤ 1000) (h1 : 1 ≤ m1 ∧ m1 ≤ 1000) (h2 : 1 ≤ m2 ∧ m2 ≤ 1000) (e5 : ∀ f, f < 60 → D.1 5 f = nI (sh f)) (e0 : D.1 6 0 = nI m0) (e1 : D.1 6 1 = nI m1) (e2 : D.1 6 2 = nI m2) : ∀ k, k ≤ 60 → ∀ f, f < 60 → lV (ch_all D k) f = if f < k ∧ ¬ D.1 0 f = 0 then v_chg (lV D f) (sh f) m0 m1 m2 else lV D f
  | 0, _, f, _ => by rw [if_neg (fun q => absurd q.1 (Nat.not_lt_zero f))]; rfl
  | k + 1, hk, f, hf => by
    have ih := chall_V hs h0 h1 h2 e5 e0 e1 e2 k (by omega)
    rw [ch_all]
    have r := fun r h => chall_row D r h k
    by_cases ht : D.1 0 k = 0
    · rw [charge_not (by omega) (by rw [r 0 (by omega)]; exact ht), ih f hf]
      by_cases c : f < k ∧ ¬ D.1 0 f = 0
      · rw [if_pos c, if_pos ⟨by omega, c.2⟩]
      · rw [if_neg c, if_neg]
        intro q
        by_cases z : f = k
        · subst z
          exact q.2 ht
        · exact c ⟨by omega, q.2⟩
    · rw [charge_eq (by omega) (hs k (by omega)) h0 h1 h2 (by rw [r 5 (by omega)]; exact e5 k (by omega)) (by rw [r 6 (by omega)]; exact e0) (by rw [r 6 (by omega)]; exact e1) (by rw [r 6 (by omega)]; exact e2) (by rw [r 0 (by omega)]; exact ht), lV_row3]
      by_cases z : f = k
      · subst z
        rw [if_pos rfl, if_pos ⟨Nat.lt_succ_self f, ht⟩, ih f hf, if_neg (fun q => absurd q.1 (Nat.lt_irrefl f))]
      · rw [if_neg z, ih f hf]
        by_cases c : f < k ∧ ¬ D.1 0 f = 0
        · rw [if_pos c, if_pos ⟨by omega, c.2⟩]
        · rw [if_neg c, if_neg (fun q => c ⟨by omega, q.2⟩)]
/-! the reference's -/
theorem mcs_eq {X : Md} {kn e f cn s c m : Nat} (hs : s ≤ 1000060) (hm : 1 ≤ m ∧ m ≤ 1000) (hc : c ≤ 2) (e0 : X.2.1 0 f = lN s) (ea : m_avg X kn (X.1 1 e) (nI c) = nI m) : mcs X kn e f cn (nI c) = md_row X 15 (3 * f + cn) (nI (CN s c m)) := by
  unfold mcs mthird
  rw [e0, ea, th_M hs hc, nI_l (by omega), (c_n hs hm _ rfl).2]
theorem md_rne {g : Md} {r i : Nat} {x : Int32} {r2 : Nat} (h : ¬ r2 = r) : (md_row g r i x).1 r2 = g.1 r2 := if_neg h
theorem mV_set (g : Md) (v : Int32) (f : Nat) : mV (md_set g v) f = mV g f := rfl
theorem lV_set (d : Ld) (v : Int32) (f : Nat) : lV (ld_set d v) f = lV d f := rfl
theorem avg_row (X : Md) (i : Nat) (x : Int32) (kn : Nat) (y cn : Int32) : m_avg (md_row X 15 i x) kn y cn = m_avg X kn y cn := m_avg_congr (md_rne (by decide)) (md_rne (by decide)) (md_rne (by decide)) (md_rne (by decide)) kn y cn
theorem yr_row (X : Md) (i : Nat) (x : Int32) : (md_row X 15 i x).1 1 = X.1 1 := md_rne (by decide)
theorem mch1_eq {X : Md} {kn e k s m0 m1 m2 : Nat} (hs : s ≤ 1000060) (h0 : 1 ≤ m0 ∧ m0 ≤ 1000) (h1 : 1 ≤ m1 ∧ m1 ≤ 1000) (h2 : 1 ≤ m2 ∧ m2 ≤ 1000) (es : X.2.1 0 k = lN s) (e0 : m_avg X kn (X.1 1 e) 0 = nI m0) (e1 : m_avg X kn (X.1 1 e) 1 = nI m1) (e2 : m_avg X kn (X.1 1 e) 2 = nI m2) (ht : ¬ X.1 11 k = 0) : mch1 X kn e k = md_row (md_row (md_row X 15 (3 * k + 0) (nI (CN s 0 m0))) 15 (3 * k + 1) (nI (CN s 1 m1))) 15 (3 * k + 2) (nI (CN s 2 m2)) := by
  unfold mch1
  rw [if_neg ht, show (0 : Int32) = nI 0 from rfl, show (1 : Int32) = nI 1 from rfl, show (2 : Int32) = nI 2 from rfl]
  rw [mcs_eq (X := X) (cn := 0) (c := 0) hs h0 (by omega) es e0]
  rw [mcs_eq (X := md_row X 15 (3 * k + 0) (nI (CN s 0 m0))) (cn := 1) (c := 1) hs h1 (by omega) es (by rw [yr_row, avg_row]; exact e1)]
  rw [mcs_eq (X := md_row (md_row X 15 (3 * k + 0) (nI (CN s 0 m0))) 15 (3 * k + 1) (nI (CN s 1 m1))) (cn := 2) (c := 2) hs h2 (by omega) es (by rw [yr_row, avg_row, yr_row, avg_row]; exact e2)]
theorem mV_row3 (X : Md) (k : Nat) (s m0 m1 m2 f : Nat) : mV (md_row (md_row (md_row X 15 (3 * k + 0) (nI (CN s 0 m0))) 15 (3 * k + 1) (nI (CN s 1 m1))) 15 (3 * k + 2) (nI (CN s 2 m2))) f = if f = k then v_chg (mV X k) s m0 m1 m2 else mV X f := by
  by_cases h : f = k
  · subst h
    rw [if_pos rfl]
    unfold mV v_chg
    simp (disch := omega) only [mdr_ne, mdr_eq]
  · rw [if_neg h]
    unfold mV
    simp (disch := omega) only [mdr_ne, mdr_eq]
theorem mch1_2 (X : Md) (kn e k : Nat) : (mch1 X kn e k).2 = X.2 := by
  unfold mch1
  split <;> rfl
theorem mch_2 (X : Md) (kn e : Nat) : ∀ k, (mch X kn e k).2 = X.2
  | 0 => rfl
  | k + 1 => by rw [mch, mch1_2, mch_2 X kn e k]
theorem mch_V {G : Md} {kn e : Nat} {sh : Nat → Nat} {m0 m1 m2 : Nat} (hs : ∀ f, f < 60 → sh f ≤ 1000060) (h0 : 1 ≤ m0 ∧ m0 ≤ 1000) (h1 : 1 ≤ m1 ∧ m1 ≤ 1000) (h2 : 1 ≤ m2 ∧ m2 ≤ 1000) (es : ∀ f, f < 60 → G.2.1 0 f = lN (sh f)) (e0 : m_avg G kn (G.1 1 e) 0 = nI m0) (e1 : m_avg G kn (G.1 1 e) 1 = nI m1) (e2 : m_avg G kn (G.1 1 e) 2 = nI m2) : ∀ k, k ≤ 60 → ∀ f, f < 60 → mV (mch G kn e k) f = if f < k ∧ ¬ G.1 11 f = 0 then v_chg (mV G f) (sh f) m0 m1 m2 else mV G f
  | 0, _, f, _ => by rw [if_neg (fun q => absurd q.1 (Nat.not_lt_zero f))]; rfl
  | k + 1, hk, f, hf => by
    have ih := mch_V hs h0 h1 h2 es e0 e1 e2 k (by omega)
    have r := fun r h => mch_row G kn e r h k
    have av : ∀ x, m_avg (mch G kn e k) kn ((mch G kn e k).1 1 e) x = m_avg G kn (G.1 1 e) x := fun x => by
      rw [r 1 (by decide)]
      exact m_avg_congr (r 0 (by decide)) (r 1 (by decide)) (r 2 (by decide)) (r 4 (by decide)) kn _ x
    rw [mch]
    by_cases ht : G.1 11 k = 0
    · have en : mch1 (mch G kn e k) kn e k = mch G kn e k := by
        unfold mch1
        rw [if_pos (by rw [r 11 (by decide)]; exact ht)]
      rw [en, ih f hf]
      by_cases c : f < k ∧ ¬ G.1 11 f = 0
      · rw [if_pos c, if_pos ⟨by omega, c.2⟩]
      · rw [if_neg c, if_neg]
        intro q
        by_cases z : f = k
        · subst z
          exact q.2 ht
        · exact c ⟨by omega, q.2⟩
    · rw [mch1_eq (hs k (by omega)) h0 h1 h2 (by rw [mch_2]; exact es k (by omega)) ((av 0).trans e0) ((av 1).trans e1) ((av 2).trans e2) (by rw [r 11 (by decide)]; exact ht), mV_row3]
      by_cases z : f = k
      · subst z
        rw [if_pos rfl, if_pos ⟨Nat.lt_succ_self f, ht⟩, ih f hf, if_neg (fun q => absurd q.1 (Nat.lt_irrefl f))]
      · rw [if_neg z, ih f hf]
        by_cases c : f < k ∧ ¬ G.1 11 f = 0
        · rw [if_pos c, if_pos ⟨by omega, c.2⟩]
        · rw [if_neg c, if_neg (fun q => c ⟨by omega, q.2⟩)]
theorem mit_1 : ∀ (n : Nat) (g : Md), (mit g n).1 = g.1
  | 0, g => rfl
  | n + 1, g => by
    rw [mit, mit_1 n]
    rfl
/-- settle's field pictures, in reference and class, by one and the same shares -/
theorem settle_V {F n kn e q m0 m1 m2 : Nat} {g : Md} {d1 : Ld} (hG : Good F n g) (hn : n ≤ 80) (hq : 1 ≤ q ∧ q ≤ 1000000) (eq : g.1 4 e = nI q) (hT : 1 ≤ tot g) (h0 : 1 ≤ m0 ∧ m0 ≤ 1000) (h1 : 1 ≤ m1 ∧ m1 ≤ 1000) (h2 : 1 ≤ m2 ∧ m2 ≤ 1000) (e0 : m_avg g kn (g.1 1 e) 0 = nI m0) (e1 : m_avg g kn (g.1 1 e) 1 = nI m1) (e2 : m_avg g kn (g.1 1 e) 2 = nI m2) (hw : ∀ f, f < 60 → d1.2.1 0 f = lN (wN (mV g f))) :
    ∃ sh : Nat → Nat, (∀ f, f < 60 → sh f ≤ 1000060) ∧ (∀ f, f < 60 → mV (g_settle g kn e (mws g 60)) f = if ¬ g.1 11 f = 0 then v_chg (mV g f) (sh f) m0 m1 m2 else mV g f)
      ∧ (d1.1 6 0 = nI m0 → d1.1 6 1 = nI m1 → d1.1 6 2 = nI m2 → ∀ f, f < 60 → lV (ld_set (ch_all (ld_share d1 (nI q) (mws g 60)) 60) 1) f = if ¬ d1.1 0 f = 0 then v_chg (lV d1 f) (sh f) m0 m1 m2 else lV d1 f) := by
  obtain ⟨sh, s1, s2, s3⟩ := shares hG hn hq eq hT hw
  have hm : mws g 60 = lN (tot g) := mws_eq hG 60 (Nat.le_refl 60)
  refine ⟨sh, s1, fun f hf => ?_, fun a0 a1 a2 f hf => ?_⟩
  · unfold g_settle
    rw [hm]
    have r1 : (mit (msB g e (lN (tot g)) 60) (mlf g e (lN (tot g)) 60).toInt.toNat).1 = g.1 := mit_1 _ _
    have av : ∀ x, m_avg (mit (msB g e (lN (tot g)) 60) (mlf g e (lN (tot g)) 60).toInt.toNat) kn ((mit (msB g e (lN (tot g)) 60) (mlf g e (lN (tot g)) 60).toInt.toNat).1 1 e) x = m_avg g kn (g.1 1 e) x := fun x => by
      rw [r1]
      exact m_avg_congr (by rw [r1]) (by rw [r1]) (by rw [r1]) (by rw [r1]) kn _ x
    have hv := mch_V (G := mit (msB g e (lN (tot g)) 60) (mlf g e (lN (tot g)) 60).toInt.toNat) (kn := kn) (e := e) s1 h0 h1 h2 s3 ((av 0).trans e0) ((av 1).trans e1) ((av 2).trans e2) 60 (Nat.le_refl 60) f hf
    rw [mV_set, hv]
    unfold mV
    rw [r1]
    by_cases c : g.1 11 f = 0
    · rw [if_neg (fun z => z.2 c), if_neg (fun z => z c)]
    · rw [if_pos ⟨hf, c⟩, if_pos c]
  · rw [hm]
    have r := fun r h => share_row d1 (nI q) (lN (tot g)) r h
    have hv := chall_V (D := ld_share d1 (nI q) (lN (tot g))) s1 h0 h1 h2 s2 (by rw [r 6 (by decide)]; exact a0) (by rw [r 6 (by decide)]; exact a1) (by rw [r 6 (by decide)]; exact a2) 60 (Nat.le_refl 60) f hf
    rw [lV_set, hv]
    unfold lV
    rw [r 0 (by decide), r 1 (by decide), r 2 (by decide), r 3 (by decide), r 4 (by decide), r 7 (by decide), r 8 (by decide), r 9 (by decide)]
    by_cases c : d1.1 0 f = 0
    · rw [if_neg (fun z => z.2 c), if_neg (fun z => z c)]
    · rw [if_pos ⟨hf, c⟩, if_pos c]
theorem good_settle {F n kn e q m0 m1 m2 : Nat} {g : Md} (hG : Good F n g) (hn : n ≤ 80) (hq : 1 ≤ q ∧ q ≤ 1000000) (eq : g.1 4 e = nI q) (hT : 1 ≤ tot g) (h0 : 1 ≤ m0 ∧ m0 ≤ 1000) (h1 : 1 ≤ m1 ∧ m1 ≤ 1000) (h2 : 1 ≤ m2 ∧ m2 ≤ 1000) (e0 : m_avg g kn (g.1 1 e) 0 = nI m0) (e1 : m_avg g kn (g.1 1 e) 1 = nI m1) (e2 : m_avg g kn (g.1 1 e) 2 = nI m2) : Good F (n + 1) (g_settle g kn e (mws g 60)) := by
  obtain ⟨sh, s1, s2, -⟩ := settle_V (d1 := ((fun _ _ => 0), (fun _ f => lN (wN (mV g f))), 0)) hG hn hq eq hT h0 h1 h2 e0 e1 e2 (fun f _ => rfl)
  have c0 := fun f (hf : f < 60) => CN_le (c := 0) (m := m0) (s1 f hf) h0.1
  have c1 := fun f (hf : f < 60) => CN_le (c := 1) (m := m1) (s1 f hf) h1.1
  have c2 := fun f (hf : f < 60) => CN_le (c := 2) (m := m2) (s1 f hf) h2.1
  refine good_mk hG (kept_settle _ _ _ _).1 (fun f hf h => ?_) ?_ ?_ ?_ ?_
  · rw [s2 f hf] at h ⊢
    by_cases c : g.1 11 f = 0
    · rw [if_neg (fun z => z c)] at h
      exact absurd c h
    · rw [if_pos c]
      obtain ⟨p1, p2, p3, p4, p5, -⟩ := hG.2.2.1 f hf c
      have a0 := c0 f hf
      have a1 := c1 f hf
      have a2 := c2 f hf
      exact ⟨p1, p2, p3, p4, p5, ⟨_, by omega, rfl⟩, ⟨_, by omega, rfl⟩, ⟨_, by omega, rfl⟩⟩
  · have e9 : sm ar (g_settle g kn e (mws g 60)) = sm ar g := fb_sm_cong (fun f hf => by
      show ar (mV (g_settle g kn e (mws g 60)) f) = ar (mV g f)
      rw [s2 f hf]
      split <;> rfl)
    rw [e9]
    have := hG.2.2.2.1
    omega
  · refine Nat.le_trans (fb_sm_bound (c := 33335401) (fun f hf => ?_)) (by unfold cbd; omega)
    show ch0 (mV (g_settle g kn e (mws g 60)) f) ≤ 33335401
    rw [s2 f hf]
    by_cases c : g.1 11 f = 0
    · rw [if_neg (fun z => z c)]
      unfold ch0
      rw [if_pos (show (mV g f).1 = 0 from c)]
      omega
    · rw [if_pos c]
      have a0 := c0 f hf
      rw [ch0_of (a := CN (sh f) 0 m0) (show ¬ (v_chg (mV g f) (sh f) m0 m1 m2).1 = 0 from c) (by omega) rfl]
      exact a0
  · refine Nat.le_trans (fb_sm_bound (c := 33335401) (fun f hf => ?_)) (by unfold cbd; omega)
    show ch1 (mV (g_settle g kn e (mws g 60)) f) ≤ 33335401
    rw [s2 f hf]
    by_cases c : g.1 11 f = 0
    · rw [if_neg (fun z => z c)]
      unfold ch1
      rw [if_pos (show (mV g f).1 = 0 from c)]
      omega
    · rw [if_pos c]
      have a0 := c1 f hf
      rw [ch1_of (a := CN (sh f) 1 m1) (show ¬ (v_chg (mV g f) (sh f) m0 m1 m2).1 = 0 from c) (by omega) rfl]
      exact a0
  · refine Nat.le_trans (fb_sm_bound (c := 33335401) (fun f hf => ?_)) (by unfold cbd; omega)
    show ch2 (mV (g_settle g kn e (mws g 60)) f) ≤ 33335401
    rw [s2 f hf]
    by_cases c : g.1 11 f = 0
    · rw [if_neg (fun z => z c)]
      unfold ch2
      rw [if_pos (show (mV g f).1 = 0 from c)]
      omega
    · rw [if_pos c]
      have a0 := c2 f hf
      rw [ch2_of (a := CN (sh f) 2 m2) (show ¬ (v_chg (mV g f) (sh f) m0 m1 m2).1 = 0 from c) (by omega) rfl]
      exact a0
