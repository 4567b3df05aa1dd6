/-! PURE: what the six acts write -/
theorem put_at (b : Bk) (r : Nat) (x : Int32) (r2 e : Nat) : (bk_put b r x).1 r2 e = if r2 = r ∧ e = b.2 1 then x else b.1 r2 e := by
  unfold bk_put
  by_cases h : r2 = r ∧ e = b.2 1
  · rw [if_pos h, bkrow_eq h.1 h.2]
  · rw [if_neg h, bkrow_ne h]
theorem put_eq {b : Bk} {r : Nat} {x : Int32} {r2 e : Nat} (h : r2 = r) (he : e = b.2 1) : (bk_put b r x).1 r2 e = x := by rw [put_at, if_pos ⟨h, he⟩]
theorem put_ne {b : Bk} {r : Nat} {x : Int32} {r2 e : Nat} (h : ¬ (r2 = r ∧ e = b.2 1)) : (bk_put b r x).1 r2 e = b.1 r2 e := by rw [put_at, if_neg h]
theorem put_r {b : Bk} {r : Nat} {x : Int32} {r2 : Nat} (h : ¬ r2 = r) : (bk_put b r x).1 r2 = b.1 r2 := bkrow_r h
theorem draft_ne {b : Bk} {a y : Int32} {r e : Nat} (h : ¬ e = b.2 1) : (bk_draft b a y).1 r e = b.1 r e := by
  unfold bk_draft
  rw [bkrow_ne (fun q => h q.2), bkrow_ne (fun q => h q.2), bkrow_ne (fun q => h q.2), bkrow_ne (fun q => h q.2), bkrow_ne (fun q => h q.2), bkrow_ne (fun q => h q.2), bkrow_ne (fun q => h q.2), bkrow_ne (fun q => h q.2)]
theorem draft_r {b : Bk} {a y : Int32} {r : Nat} (h : 8 ≤ r) : (bk_draft b a y).1 r = b.1 r := by
  unfold bk_draft
  rw [bkrow_r (by omega), bkrow_r (by omega), bkrow_r (by omega), bkrow_r (by omega), bkrow_r (by omega), bkrow_r (by omega), bkrow_r (by omega), bkrow_r (by omega)]
theorem draft_0 {b : Bk} {a y : Int32} : (bk_draft b a y).1 0 (b.2 1) = a := by
  unfold bk_draft
  rw [bkrow_ne (by omega), bkrow_ne (by omega), bkrow_ne (by omega), bkrow_ne (by omega), bkrow_ne (by omega), bkrow_ne (by omega), bkrow_ne (by omega), bkrow_eq rfl rfl]
theorem draft_1 {b : Bk} {a y : Int32} : (bk_draft b a y).1 1 (b.2 1) = y := by
  unfold bk_draft
  rw [bkrow_ne (by omega), bkrow_ne (by omega), bkrow_ne (by omega), bkrow_ne (by omega), bkrow_ne (by omega), bkrow_ne (by omega), bkrow_eq rfl rfl]
theorem draft_m {b : Bk} {a y : Int32} {r : Nat} (h2 : 2 ≤ r) (h7 : r ≤ 7) : (bk_draft b a y).1 r (b.2 1) = -1 := by
  unfold bk_draft
  rcases (show r = 2 ∨ r = 3 ∨ r = 4 ∨ r = 5 ∨ r = 6 ∨ r = 7 by omega) with rfl | rfl | rfl | rfl | rfl | rfl
  · rw [bkrow_ne (by omega), bkrow_ne (by omega), bkrow_ne (by omega), bkrow_ne (by omega), bkrow_ne (by omega), bkrow_eq rfl rfl]
  · rw [bkrow_ne (by omega), bkrow_ne (by omega), bkrow_ne (by omega), bkrow_ne (by omega), bkrow_eq rfl rfl]
  · rw [bkrow_ne (by omega), bkrow_ne (by omega), bkrow_ne (by omega), bkrow_eq rfl rfl]
  · rw [bkrow_ne (by omega), bkrow_ne (by omega), bkrow_eq rfl rfl]
  · rw [bkrow_ne (by omega), bkrow_eq rfl rfl]
  · rw [bkrow_eq rfl rfl]
theorem wr_ne {g : Md} {s y f h x z : Int32} {r e : Nat} (hn : ¬ e = g.2.2.1 0) : (md_writes g s y f h x z).1 r e = g.1 r e := by
  unfold md_writes
  rw [mdr_ne (fun q => hn q.2), mdr_ne (fun q => hn q.2), mdr_ne (fun q => hn q.2), mdr_ne (fun q => hn q.2), mdr_ne (fun q => hn q.2), mdr_ne (fun q => hn q.2), mdr_ne (fun q => hn q.2)]
theorem wr_r {g : Md} {s y f h x z : Int32} {r : Nat} (hr : 7 ≤ r) : (md_writes g s y f h x z).1 r = g.1 r := by
  unfold md_writes
  rw [md_rne (by omega), md_rne (by omega), md_rne (by omega), md_rne (by omega), md_rne (by omega), md_rne (by omega), md_rne (by omega)]
theorem wr_at {g : Md} {s y f h x z : Int32} : (md_writes g s y f h x z).1 0 (g.2.2.1 0) = s ∧ (md_writes g s y f h x z).1 1 (g.2.2.1 0) = y ∧ (md_writes g s y f h x z).1 2 (g.2.2.1 0) = f ∧ (md_writes g s y f h x z).1 3 (g.2.2.1 0) = h ∧ (md_writes g s y f h x z).1 4 (g.2.2.1 0) = x ∧ (md_writes g s y f h x z).1 5 (g.2.2.1 0) = z ∧ (md_writes g s y f h x z).1 6 (g.2.2.1 0) = -1 := by
  unfold md_writes
  refine ⟨?_, ?_, ?_, ?_, ?_, ?_, ?_⟩
  · rw [mdr_ne (by omega), mdr_ne (by omega), mdr_ne (by omega), mdr_ne (by omega), mdr_ne (by omega), mdr_ne (by omega), mdr_eq rfl rfl]
  · rw [mdr_ne (by omega), mdr_ne (by omega), mdr_ne (by omega), mdr_ne (by omega), mdr_ne (by omega), mdr_eq rfl rfl]
  · rw [mdr_ne (by omega), mdr_ne (by omega), mdr_ne (by omega), mdr_ne (by omega), mdr_eq rfl rfl]
  · rw [mdr_ne (by omega), mdr_ne (by omega), mdr_ne (by omega), mdr_eq rfl rfl]
  · rw [mdr_ne (by omega), mdr_ne (by omega), mdr_eq rfl rfl]
  · rw [mdr_ne (by omega), mdr_eq rfl rfl]
  · rw [mdr_eq rfl rfl]
/-! keeping an entry -/
theorem kp_r (b : Bk) (r : Nat) (h : r ≤ 8) : ∀ n, (kp b n).1 r = b.1 r
  | 0 => rfl
  | n + 1 => by
    show kpr b (n + 1) r = b.1 r
    rw [kpr]
    refine Eq.trans ?_ (kp_r b r h n)
    show up2 (up2 (kpr b n) 9 (b.2 2 + n) (nI (b.2 1))) 10 (b.2 2 + n) (-1) r = kpr b n r
    unfold up2
    rw [if_neg (by omega), if_neg (by omega)]
theorem kp_9 (b : Bk) (f : Nat) : ∀ n, (kp b n).1 9 f = if b.2 2 ≤ f ∧ f < b.2 2 + n then nI (b.2 1) else b.1 9 f
  | 0 => by
    rw [if_neg (by omega)]
    rfl
  | n + 1 => by
    have ih : kpr b n 9 f = _ := kp_9 b f n
    show kpr b (n + 1) 9 f = _
    rw [kpr]
    show up2 (up2 (kpr b n) 9 (b.2 2 + n) (nI (b.2 1))) 10 (b.2 2 + n) (-1) 9 f = _
    unfold up2
    rw [if_neg (by omega), if_pos rfl]
    show (if f = b.2 2 + n then nI (b.2 1) else kpr b n 9 f) = _
    by_cases c : f = b.2 2 + n
    · rw [if_pos c, if_pos (by omega)]
    · rw [if_neg c, ih]
      by_cases c2 : b.2 2 ≤ f ∧ f < b.2 2 + n
      · rw [if_pos c2, if_pos (by omega)]
      · rw [if_neg c2, if_neg (by omega)]
theorem kp_10 (b : Bk) (f : Nat) : ∀ n, (kp b n).1 10 f = if b.2 2 ≤ f ∧ f < b.2 2 + n then -1 else b.1 10 f
  | 0 => by
    rw [if_neg (by omega)]
    rfl
  | n + 1 => by
    have ih : kpr b n 10 f = _ := kp_10 b f n
    show kpr b (n + 1) 10 f = _
    rw [kpr]
    show up2 (up2 (kpr b n) 9 (b.2 2 + n) (nI (b.2 1))) 10 (b.2 2 + n) (-1) 10 f = _
    unfold up2
    rw [if_pos rfl]
    show (if f = b.2 2 + n then -1 else (if (10 : Nat) = 9 then upd (kpr b n 9) (b.2 2 + n) (nI (b.2 1)) else kpr b n 10) f) = _
    rw [if_neg (show ¬ (10 : Nat) = 9 by decide)]
    by_cases c : f = b.2 2 + n
    · rw [if_pos c, if_pos (by omega)]
    · rw [if_neg c, ih]
      by_cases c2 : b.2 2 ≤ f ∧ f < b.2 2 + n
      · rw [if_pos c2, if_pos (by omega)]
      · rw [if_neg c2, if_neg (by omega)]
theorem end_r (q : Bk) (f x : Int32) (r : Nat) (h : ¬ r = 10) : (bk_end q f x).1 r = q.1 r := by
  unfold bk_end
  dsimp only
  split
  · rfl
  · split
    · rfl
    · exact if_neg h
theorem end_10 (q : Bk) (x : Int32) {i : Nat} (hi : i < 60) (j : Nat) : (bk_end q (nI i) x).1 10 j = if j = i then x else q.1 10 j := by
  unfold bk_end
  dsimp only
  rw [if_neg (show ¬ nI i < 0 from Int32.not_lt.mpr (nI_le (a := 0) (Nat.zero_le _) (by omega))), if_neg (show ¬ (60 : Int32) ≤ nI i from nI_ge (b := 60) hi (by omega)), nI_clamp (by omega)]
  unfold up2
  rw [if_pos rfl]
  rfl
theorem end_m (q : Bk) (x : Int32) : bk_end q (-1) x = q := by
  unfold bk_end
  rw [if_pos (by decide)]
theorem ends_r (q : Bk) (x : Int32) (r : Nat) (h : ¬ r = 10) : (bk_ends q x).1 r = q.1 r := by
  unfold bk_ends
  rw [end_r _ _ _ _ h, end_r _ _ _ _ h]
theorem kept_r (q : Bk) (x : Int32) (r : Nat) (h : ¬ r = 10) : (bk_kept q x).1 r = q.1 r := by
  unfold bk_kept
  split
  · exact ends_r q x r h
  · split
    · exact ends_r q x r h
    · rfl
theorem keep_r (b : Bk) (n r : Nat) (h : r ≤ 8) : (bk_keep b n).1 r = b.1 r := by
  show (bk_kept (kp b n) (nI (b.2 1))).1 r = b.1 r
  rw [kept_r _ _ _ (by omega), kp_r b r h n]
theorem keep_9 (b : Bk) (n f : Nat) : (bk_keep b n).1 9 f = if b.2 2 ≤ f ∧ f < b.2 2 + n then nI (b.2 1) else b.1 9 f := by
  show (bk_kept (kp b n) (nI (b.2 1))).1 9 f = _
  rw [kept_r _ _ _ (by omega), kp_9]
theorem kept_2 (q : Bk) (x : Int32) : (bk_kept q x).2 = q.2 := by
  unfold bk_kept bk_ends bk_end
  split
  · rfl
  · split <;> rfl
theorem keep_2 (b : Bk) (n : Nat) : (bk_keep b n).2 0 = b.2 0 ∧ (bk_keep b n).2 1 = b.2 1 + 1 ∧ (bk_keep b n).2 2 = b.2 2 + n := by
  have e : ∀ j, (bk_keep b n).2 j = if j = 1 then b.2 1 + 1 else (bk_kept (kp b n) (nI (b.2 1))).2 j := fun j => rfl
  rw [e 0, e 1, e 2, kept_2, if_neg (by decide), if_pos rfl, if_neg (by decide)]
  exact ⟨rfl, rfl, rfl⟩
/-- ends that an entry tells: of a part, of a join, of no other -/
theorem keep_10 (b : Bk) (n f : Nat) (h80 : b.2 1 < 80) (s : Int32) (hs : b.1 0 (b.2 1) = s) :
    (¬ s = 2 → ¬ s = 3 → (bk_keep b n).1 10 f = if b.2 2 ≤ f ∧ f < b.2 2 + n then -1 else b.1 10 f)
    ∧ (∀ i, i < 60 → b.1 2 (b.2 1) = nI i → (s = 2 ∧ b.1 3 (b.2 1) = -1 → (bk_keep b n).1 10 f = if f = i then nI (b.2 1) else if b.2 2 ≤ f ∧ f < b.2 2 + n then -1 else b.1 10 f) ∧ ∀ i2, i2 < 60 → (s = 3 ∧ b.1 3 (b.2 1) = nI i2 → (bk_keep b n).1 10 f = if f = i2 then nI (b.2 1) else if f = i then nI (b.2 1) else if b.2 2 ≤ f ∧ f < b.2 2 + n then -1 else b.1 10 f)) := by
  have e0 : z_at 80 ((kp b n).1 0) (nI (b.2 1)) = s := by rw [zat h80 (by decide), kp_r b 0 (by decide), hs]
  have ek : (bk_keep b n).1 10 f = (bk_kept (kp b n) (nI (b.2 1))).1 10 f := rfl
  have e2 : ∀ i, b.1 2 (b.2 1) = nI i → z_at 80 ((kp b n).1 2) (nI (b.2 1)) = nI i := fun i hi => by rw [zat h80 (by decide), kp_r b 2 (by decide), hi]
  have e3 : ∀ x y, b.1 3 (b.2 1) = y → z_at 80 ((bk_end (kp b n) x (nI (b.2 1))).1 3) (nI (b.2 1)) = y := fun x y hy => by rw [zat h80 (by decide), end_r _ _ _ _ (by decide), kp_r b 3 (by decide), hy]
  rw [ek]
  unfold bk_kept
  rw [e0]
  refine ⟨fun h2 h3 => ?_, fun i hi hf => ⟨fun ⟨h2, h3⟩ => ?_, fun i2 hi2 ⟨h3, h4⟩ => ?_⟩⟩
  · rw [if_neg h2, if_neg h3, kp_10]
  · rw [if_pos h2]
    unfold bk_ends
    rw [e2 i hf, e3 _ _ h3, end_m, end_10 _ _ hi, kp_10]
  · rw [if_neg (show ¬ s = 2 by rw [h3]; decide), if_pos h3]
    unfold bk_ends
    rw [e2 i hf, e3 _ _ h4, end_10 _ _ hi2, end_10 _ _ hi, kp_10]
theorem FR_new {N F n : Nat} {b b4 : Bk} {g g4 : Md} (h : FRl N F b g) (h1 : ∀ f, f < F → b4.1 9 f = b.1 9 f ∧ g4.1 7 f = g.1 7 f ∧ g4.1 9 f = g.1 9 f ∧ g4.1 10 f = g.1 10 f ∧ ((b4.1 10 f = nI N ∧ g4.1 8 f = nI N) ∨ (b4.1 10 f = b.1 10 f ∧ g4.1 8 f = g.1 8 f))) (h2 : ∀ e, e < N → b4.1 2 e = b.1 2 e ∧ b4.1 3 e = b.1 3 e)
    (h3 : ∀ f, F ≤ f → f < F + n → b4.1 9 f = nI N ∧ g4.1 7 f = nI N ∧ b4.1 2 N = g4.1 9 f ∧ b4.1 3 N = g4.1 10 f ∧ b4.1 10 f = -1 ∧ g4.1 8 f = -1) : FRl (N + 1) (F + n) b4 g4 := by
  intro f hf
  rcases Nat.lt_or_ge f F with c | c
  · obtain ⟨⟨e, he, m1, m2, m3, m4⟩, m5, m6⟩ := h f c
    obtain ⟨a1, a2, a3, a4, a5⟩ := h1 f c
    obtain ⟨c1, c2⟩ := h2 e he
    refine ⟨⟨e, by omega, a1.trans m1, a2.trans m2, by rw [c1, a3]; exact m3, by rw [c2, a4]; exact m4⟩, ?_⟩
    rcases a5 with ⟨z1, z2⟩ | ⟨z1, z2⟩
    · exact ⟨z1.trans z2.symm, Or.inr ⟨N, by omega, z2⟩⟩
    · rw [z1, z2]
      refine ⟨m5, ?_⟩
      rcases m6 with w | ⟨e2, he2, w⟩
      · exact Or.inl w
      · exact Or.inr ⟨e2, by omega, w⟩
  · obtain ⟨a1, a2, a3, a4, a5, a6⟩ := h3 f c hf
    exact ⟨⟨N, by omega, a1, a2, a3, a4⟩, a5.trans a6.symm, Or.inl a6⟩
theorem full_C {N : Nat} (h : N ≤ 80) : ¬ (80 : Int32) ≤ nI N ↔ N < 80 := ⟨fun q => by
  rcases Nat.lt_or_ge N 80 with c | c
  · exact c
  · exact absurd (nI_le (a := 80) c (by omega)) q, fun q => nI_ge (b := 80) q (by omega)⟩
theorem full_M {N : Nat} (h : N ≤ 80) : ¬ nI N = 80 ↔ N < 80 := ⟨fun q => zw_ne80 h q, fun q w => by
  have := (nI_eq (b := 80) (by omega) (by omega)).mp w
  omega⟩
theorem room_C {F n : Nat} (h : F ≤ 60) (hn : n ≤ 2) : ¬ (60 : Int32) < nI F + nI n ↔ F + n ≤ 60 := by
  rw [nI_add]
  exact ⟨fun q => by
    rcases Nat.lt_or_ge 60 (F + n) with c | c
    · exact absurd (nI_lt (a := 60) c (by omega)) q
    · exact c, fun q => Int32.not_lt.mpr (nI_le (b := 60) q (by omega))⟩
theorem gtake_r (G : Md) (n r : Nat) (h : r ≤ 10) : (g_take G n).1 r = (g_t3 (g_mk G n) n).1 r := by
  have hk : kept (g_t3 (g_mk G n) n) (g_tw G n).2 := kept_works _ _ _ _
  exact hk.2 r h
