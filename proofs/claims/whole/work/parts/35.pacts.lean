/-! PURE: what the states keep (Good), what class and reference share (Sim), and how each act but settle moves them -/
def EQV (c : Prop) (u v : V8) : Prop := (u.1 = 0 ↔ v.1 = 0) ∧ (¬ v.1 = 0 → u.2.1 = v.2.1 ∧ u.2.2.1 = v.2.2.1 ∧ u.2.2.2.1 = v.2.2.2.1 ∧ u.2.2.2.2.1 = v.2.2.2.2.1 ∧ (c → u.2.2.2.2.2 = v.2.2.2.2.2))
def Sim (c : Prop) (d : Ld) (g : Md) : Prop := d.2.2 = g.2.2.2 ∧ ∀ f, f < 60 → EQV c (lV d f) (mV g f)
def isN (x : Int32) : Prop := ∃ a : Nat, a < 2 ^ 31 ∧ x = nI a
def GV (v : V8) : Prop := (∃ a : Nat, 1 ≤ a ∧ a < 2 ^ 31 ∧ v.2.1 = nI a) ∧ (∃ k : Nat, k ≤ 2 ∧ v.2.2.1 = nI k) ∧ (∃ o : Nat, o ≤ 9 ∧ v.2.2.2.1 = nI o) ∧ (v.2.2.2.2.1 = 0 ∨ v.2.2.2.2.1 = 1) ∧ isN v.2.2.2.2.2.1 ∧ isN v.2.2.2.2.2.2.1 ∧ isN v.2.2.2.2.2.2.2
def ar (v : V8) : Nat := if v.1 = 0 then 0 else v.2.1.toNatClampNeg
def ch0 (v : V8) : Nat := if v.1 = 0 then 0 else v.2.2.2.2.2.1.toNatClampNeg
def ch1 (v : V8) : Nat := if v.1 = 0 then 0 else v.2.2.2.2.2.2.1.toNatClampNeg
def ch2 (v : V8) : Nat := if v.1 = 0 then 0 else v.2.2.2.2.2.2.2.toNatClampNeg
def cbd : Nat := 2000124060
def sm (h : V8 → Nat) (g : Md) : Nat := fb_sm (fun f => h (mV g f)) 60
def Good (F n : Nat) (g : Md) : Prop := g.2.2.1 1 = F ∧ F ≤ 60 ∧ (∀ f, f < 60 → ¬ (mV g f).1 = 0 → f < F ∧ GV (mV g f)) ∧ sm ar g ≤ 10000 * n ∧ sm ch0 g ≤ cbd ∧ sm ch1 g ≤ cbd ∧ sm ch2 g ≤ cbd
theorem Good.mono {F n m : Nat} {g : Md} (h : n ≤ m) (hG : Good F n g) : Good F m g := ⟨hG.1, hG.2.1, hG.2.2.1, Nat.le_trans hG.2.2.2.1 (by omega), hG.2.2.2.2⟩
theorem sm1 (h : V8 → Nat) {V W : Nat → V8} {j : Nat} {A : V8} (hj : j < 60) (e : ∀ f, f < 60 → W f = if f = j then A else V f) : fb_sm (fun f => h (W f)) 60 + h (V j) = fb_sm (fun f => h (V f)) 60 + h A := by
  have q := fb_sm_upd (fun f => h (V f)) (h A) (n := 60) hj
  have e2 : fb_sm (fun f => h (W f)) 60 = fb_sm (fun k => if k = j then h A else h (V k)) 60 := fb_sm_cong (fun k hk => by
    show h (W k) = _
    rw [e k hk]
    split <;> rfl)
  rw [e2]
  exact q
theorem sm3 (h : V8 → Nat) {V W : Nat → V8} {i j l : Nat} {A B C : V8} (hi : i < 60) (hj : j < 60) (hl : l < 60) (h1 : ¬ i = j) (h2 : ¬ i = l) (h3 : ¬ j = l) (e : ∀ f, f < 60 → W f = if f = i then A else if f = j then B else if f = l then C else V f) : fb_sm (fun f => h (W f)) 60 + h (V i) + h (V j) + h (V l) = fb_sm (fun f => h (V f)) 60 + h A + h B + h C := by
  have q1 := sm1 h (V := V) (W := fun f => if f = l then C else V f) hl (fun f _ => rfl)
  have q2 := sm1 h (V := fun f => if f = l then C else V f) (W := fun f => if f = j then B else if f = l then C else V f) hj (fun f _ => rfl)
  have q3 := sm1 h (V := fun f => if f = j then B else if f = l then C else V f) (W := W) hi e
  try dsimp only at q1 q2 q3
  rw [if_neg h3] at q2
  rw [if_neg h1, if_neg h2] at q3
  omega
theorem ar_le {F n : Nat} {g : Md} (hG : Good F n g) {f : Nat} (hf : f < 60) : ar (mV g f) ≤ 10000 * n := Nat.le_trans (Nat.le_trans (Nat.le_add_left _ _) (fb_sm_part (fun f => ar (mV g f)) hf)) hG.2.2.2.1
theorem ch0_le {F n : Nat} {g : Md} (hG : Good F n g) {f i : Nat} (hf : f < i) (hi : i < 60) : ch0 (mV g f) + ch0 (mV g i) ≤ cbd := by
  have h1 := fb_sm_part (fun f => ch0 (mV g f)) hi
  have h2 := fb_sm_part (fun f => ch0 (mV g f)) hf
  have h3 := hG.2.2.2.2.1
  unfold sm at h3
  try dsimp only at h1 h2 h3
  omega
theorem ch1_le {F n : Nat} {g : Md} (hG : Good F n g) {f i : Nat} (hf : f < i) (hi : i < 60) : ch1 (mV g f) + ch1 (mV g i) ≤ cbd := by
  have h1 := fb_sm_part (fun f => ch1 (mV g f)) hi
  have h2 := fb_sm_part (fun f => ch1 (mV g f)) hf
  have h3 := hG.2.2.2.2.2.1
  unfold sm at h3
  try dsimp only at h1 h2 h3
  omega
theorem ch2_le {F n : Nat} {g : Md} (hG : Good F n g) {f i : Nat} (hf : f < i) (hi : i < 60) : ch2 (mV g f) + ch2 (mV g i) ≤ cbd := by
  have h1 := fb_sm_part (fun f => ch2 (mV g f)) hi
  have h2 := fb_sm_part (fun f => ch2 (mV g f)) hf
  have h3 := hG.2.2.2.2.2.2
  unfold sm at h3
  try dsimp only at h1 h2 h3
  omega
theorem two_le {h : V8 → Nat} {g : Md} {m : Nat} (hm : ∀ f i, f < i → i < 60 → h (mV g f) + h (mV g i) ≤ m) {f i : Nat} (hf : f < 60) (hi : i < 60) (hn : ¬ f = i) : h (mV g f) + h (mV g i) ≤ m := by
  rcases Nat.lt_or_ge f i with q | q
  · exact hm f i q hi
  · rw [Nat.add_comm]
    exact hm i f (by omega) hf
theorem ar_of {v : V8} {a : Nat} (h : ¬ v.1 = 0) (ha : a < 2 ^ 31) (e : v.2.1 = nI a) : ar v = a := by
  unfold ar
  rw [if_neg h, e, nI_clamp ha]
theorem ch0_of {v : V8} {a : Nat} (h : ¬ v.1 = 0) (ha : a < 2 ^ 31) (e : v.2.2.2.2.2.1 = nI a) : ch0 v = a := by
  unfold ch0
  rw [if_neg h, e, nI_clamp ha]
theorem ch1_of {v : V8} {a : Nat} (h : ¬ v.1 = 0) (ha : a < 2 ^ 31) (e : v.2.2.2.2.2.2.1 = nI a) : ch1 v = a := by
  unfold ch1
  rw [if_neg h, e, nI_clamp ha]
theorem ch2_of {v : V8} {a : Nat} (h : ¬ v.1 = 0) (ha : a < 2 ^ 31) (e : v.2.2.2.2.2.2.2 = nI a) : ch2 v = a := by
  unfold ch2
  rw [if_neg h, e, nI_clamp ha]
theorem v_pt_n {c t a : Nat} (hc : c < 2 ^ 31) (ht : t < 2 ^ 31) (ha : 1 ≤ a ∧ a < 2 ^ 31) : v_pt (nI c) (nI t) (nI a) = nI (c * t / a) := by
  unfold v_pt
  have hm : c * t < 2 ^ 63 := by
    have h1 : c * t ≤ 2 ^ 31 * 2 ^ 31 := Nat.mul_le_mul (by omega) (by omega)
    have h2 : (2 : Nat) ^ 31 * 2 ^ 31 < 2 ^ 63 := by decide
    omega
  rw [nI_l hc, nI_l ht, nI_l ha.2, lN_mul, pk_lDiv hm (by omega) (by omega), lN_i]
theorem pt_le {c t a : Nat} (h : t ≤ a) (ha : 1 ≤ a) : c * t / a ≤ c := by
  have h1 : c * t / a ≤ c * a / a := Nat.div_le_div_right (Nat.mul_le_mul_left c h)
  rw [Nat.mul_div_cancel c (by omega)] at h1
  exact h1
theorem nar01 {x : Int32} (h : x = 0 ∨ x = 1) : vp_nar .boolean x = x := by
  rcases h with h | h <;> rw [h] <;> rfl
/-- a new Good out of a new picture -/
theorem good_mk {F n m : Nat} {g g2 : Md} (hG : Good F n g) (hk : g2.2.2.1 = g.2.2.1) (hV : ∀ f, f < 60 → ¬ (mV g2 f).1 = 0 → f < F ∧ GV (mV g2 f)) (h1 : sm ar g2 ≤ 10000 * m) (h2 : sm ch0 g2 ≤ cbd) (h3 : sm ch1 g2 ≤ cbd) (h4 : sm ch2 g2 ≤ cbd) : Good F m g2 := ⟨by rw [hk]; exact hG.1, hG.2.1, hV, h1, h2, h3, h4⟩
theorem t0 (v : Int32 × Int32 × Int32 × Int32 × Int32 × Int32 × Int32) : ar (0, v) = 0 ∧ ch0 (0, v) = 0 ∧ ch1 (0, v) = 0 ∧ ch2 (0, v) = 0 := ⟨rfl, rfl, rfl, rfl⟩
theorem ne10 : ¬ (1 : Int32) = 0 := by decide
theorem ar_mk (a : Nat) (r : Int32 × Int32 × Int32 × Int32 × Int32 × Int32) (h : a < 2 ^ 31) : ar (1, nI a, r) = a := ar_of (v := (1, nI a, r)) ne10 h rfl
theorem ch0_mk (x : Nat) (a b c d : Int32) (r : Int32 × Int32) (h : x < 2 ^ 31) : ch0 (1, a, b, c, d, nI x, r) = x := ch0_of (v := (1, a, b, c, d, nI x, r)) ne10 h rfl
theorem ch1_mk (x : Nat) (a b c d e : Int32) (r : Int32) (h : x < 2 ^ 31) : ch1 (1, a, b, c, d, e, nI x, r) = x := ch1_of (v := (1, a, b, c, d, e, nI x, r)) ne10 h rfl
theorem ch2_mk (x : Nat) (a b c d e f : Int32) (h : x < 2 ^ 31) : ch2 (1, a, b, c, d, e, f, nI x) = x := ch2_of (v := (1, a, b, c, d, e, f, nI x)) ne10 h rfl
theorem good_make {F n j a k o : Nat} {g : Md} (hG : Good F n g) (hj : j < F) (ha : 1 ≤ a ∧ a ≤ 10000) (hk : k ≤ 2) (ho : o ≤ 9) : Good F (n + 1) (md_come g j (nI a) (nI k) (nI o) 0) := by
  have hF := hG.2.1
  have e := fun f => mV_come g j (nI a) (nI k) (nI o) 0 f
  have q := fun h => sm1 h (V := mV g) (W := mV (md_come g j (nI a) (nI k) (nI o) 0)) (j := j) (by omega) (fun f _ => e f)
  have hc := (kept_come g j (nI a) (nI k) (nI o) 0).1
  refine good_mk hG hc (fun f hf h => ?_) ?_ ?_ ?_ ?_
  · rw [e f] at h ⊢
    by_cases c : f = j
    · rw [if_pos c]
      exact ⟨by omega, ⟨a, ha.1, by omega, rfl⟩, ⟨k, hk, rfl⟩, ⟨o, ho, rfl⟩, Or.inl rfl, ⟨0, by omega, rfl⟩, ⟨0, by omega, rfl⟩, ⟨0, by omega, rfl⟩⟩
    · rw [if_neg c] at h ⊢
      exact hG.2.2.1 f hf h
  · have h := q ar
    rw [show ar (1, nI a, nI k, nI o, vp_nar .boolean 0, 0, 0, 0) = a from ar_of ne10 (by omega) rfl] at h
    have := hG.2.2.2.1
    unfold sm at this ⊢
    omega
  · have h := q ch0
    rw [show ch0 (1, nI a, nI k, nI o, vp_nar .boolean 0, 0, 0, 0) = 0 from ch0_of ne10 (by omega) rfl] at h
    have := hG.2.2.2.2.1
    unfold sm at this ⊢
    omega
  · have h := q ch1
    rw [show ch1 (1, nI a, nI k, nI o, vp_nar .boolean 0, 0, 0, 0) = 0 from ch1_of ne10 (by omega) rfl] at h
    have := hG.2.2.2.2.2.1
    unfold sm at this ⊢
    omega
  · have h := q ch2
    rw [show ch2 (1, nI a, nI k, nI o, vp_nar .boolean 0, 0, 0, 0) = 0 from ch2_of ne10 (by omega) rfl] at h
    have := hG.2.2.2.2.2.2
    unfold sm at this ⊢
    omega
theorem good_part {F n e i j t : Nat} {g : Md} (hG : Good F n g) (hi : i < j) (hj : j + 1 < F) (ht : 1 ≤ t) (et : g.1 4 e = nI t) (hth : ¬ (mV g i).1 = 0) (hlt : t < ar (mV g i)) (hn : n < 200000) : Good F (n + 1) (md_part g e i j) := by
  have hF := hG.2.1
  obtain ⟨-, ⟨a, ha1, ha2, ea⟩, ⟨k, hk, ek⟩, ⟨o, ho, eo⟩, hb, ⟨x, hx, ex⟩, ⟨y, hy, ey⟩, ⟨z, hz, ez⟩⟩ := hG.2.2.1 i (by omega) hth
  have ea2 : ar (mV g i) = a := ar_of hth ha2 ea
  rw [ea2] at hlt
  have er := fun f => mV_part g e i j (by omega) (by omega) f
  have q := fun h => sm3 h (V := mV g) (W := mV (md_part g e i j)) (i := i) (j := j) (l := j + 1) (by omega) (by omega) (by omega) (by omega) (by omega) (by omega) (fun f _ => er f)
  have hp1 : v_p1 (mV g i) (g.1 4 e) = (1, nI t, nI k, nI o, (mV g i).2.2.2.2.1, nI (x * t / a), nI (y * t / a), nI (z * t / a)) := by
    unfold v_p1
    rw [et, ea, ek, eo, ex, ey, ez, nar01 hb, v_pt_n hx (by omega) ⟨ha1, ha2⟩, v_pt_n hy (by omega) ⟨ha1, ha2⟩, v_pt_n hz (by omega) ⟨ha1, ha2⟩]
  have lx := pt_le (c := x) (t := t) (a := a) (by omega) ha1
  have ly := pt_le (c := y) (t := t) (a := a) (by omega) ha1
  have lz := pt_le (c := z) (t := t) (a := a) (by omega) ha1
  have hp2 : v_p2 (mV g i) (g.1 4 e) = (1, nI (a - t), nI k, nI o, (mV g i).2.2.2.2.1, nI (x - x * t / a), nI (y - y * t / a), nI (z - z * t / a)) := by
    unfold v_p2
    rw [et, ea, ek, eo, ex, ey, ez, nar01 hb, v_pt_n hx (by omega) ⟨ha1, ha2⟩, v_pt_n hy (by omega) ⟨ha1, ha2⟩, v_pt_n hz (by omega) ⟨ha1, ha2⟩, pk_sub (by omega), pk_sub lx, pk_sub ly, pk_sub lz]
  generalize x * t / a = x1 at *
  generalize y * t / a = y1 at *
  generalize z * t / a = z1 at *
  rw [hp1, hp2] at q er
  refine good_mk hG (kept_part g e i j).1 (fun f hf h => ?_) ?_ ?_ ?_ ?_
  · rw [er f] at h ⊢
    by_cases c1 : f = i
    · rw [if_pos c1] at h
      exact absurd rfl h
    · rw [if_neg c1] at h ⊢
      by_cases c2 : f = j
      · rw [if_pos c2]
        exact ⟨by omega, ⟨t, ht, by omega, rfl⟩, ⟨k, hk, rfl⟩, ⟨o, ho, rfl⟩, hb, ⟨x1, by omega, rfl⟩, ⟨y1, by omega, rfl⟩, ⟨z1, by omega, rfl⟩⟩
      · rw [if_neg c2] at h ⊢
        by_cases c3 : f = j + 1
        · rw [if_pos c3]
          exact ⟨by omega, ⟨a - t, by omega, by omega, rfl⟩, ⟨k, hk, rfl⟩, ⟨o, ho, rfl⟩, hb, ⟨x - x1, by omega, rfl⟩, ⟨y - y1, by omega, rfl⟩, ⟨z - z1, by omega, rfl⟩⟩
        · rw [if_neg c3] at h ⊢
          exact hG.2.2.1 f hf h
  · have h := q ar
    rw [(t0 _).1, ar_mk (t) _ (by omega), ar_mk (a - t) _ (by omega), ea2] at h
    have := hG.2.2.2.1
    unfold sm at this ⊢
    omega
  · have h := q ch0
    rw [(t0 _).2.1, ch0_mk (x1) _ _ _ _ _ (by omega), ch0_mk (x - x1) _ _ _ _ _ (by omega), ch0_of hth hx ex] at h
    have := hG.2.2.2.2.1
    unfold sm at this ⊢
    omega
  · have h := q ch1
    rw [(t0 _).2.2.1, ch1_mk (y1) _ _ _ _ _ _ (by omega), ch1_mk (y - y1) _ _ _ _ _ _ (by omega), ch1_of hth hy ey] at h
    have := hG.2.2.2.2.2.1
    unfold sm at this ⊢
    omega
  · have h := q ch2
    rw [(t0 _).2.2.2, ch2_mk (z1) _ _ _ _ _ _ (by omega), ch2_mk (z - z1) _ _ _ _ _ _ (by omega), ch2_of hth hz ez] at h
    have := hG.2.2.2.2.2.2
    unfold sm at this ⊢
    omega
theorem good_join {F n i i2 j : Nat} {g : Md} (hG : Good F n g) (hi : i < j) (hi2 : i2 < j) (hj : j < F) (hne : ¬ i = i2) (hth : ¬ (mV g i).1 = 0) (hth2 : ¬ (mV g i2).1 = 0) (hn : n < 200000) : Good F (n + 1) (md_join g i i2 j) := by
  have hF := hG.2.1
  obtain ⟨-, ⟨a, ha1, ha2, ea⟩, ⟨k, hk, ek⟩, ⟨o, ho, eo⟩, hb, ⟨x, hx, ex⟩, ⟨y, hy, ey⟩, ⟨z, hz, ez⟩⟩ := hG.2.2.1 i (by omega) hth
  obtain ⟨-, ⟨a2, hb1, hb2, eb⟩, -, -, -, ⟨x2, hx2, ex2⟩, ⟨y2, hy2, ey2⟩, ⟨z2, hz2, ez2⟩⟩ := hG.2.2.1 i2 (by omega) hth2
  have er := fun f => mV_join g i i2 j (by omega) (by omega) f
  have q := fun h => sm3 h (V := mV g) (W := mV (md_join g i i2 j)) (i := i2) (j := i) (l := j) (by omega) (by omega) (by omega) (by omega) (by omega) (by omega) (fun f _ => er f)
  have hA := hG.2.2.2.1
  have la : a ≤ 10000 * n := by rw [← ar_of hth ha2 ea]; exact ar_le hG (by omega)
  have lb : a2 ≤ 10000 * n := by rw [← ar_of hth2 hb2 eb]; exact ar_le hG (by omega)
  have lx : x + x2 ≤ cbd := by rw [← ch0_of hth hx ex, ← ch0_of hth2 hx2 ex2]; exact two_le (fun f i => ch0_le hG) (by omega) (by omega) hne
  have ly : y + y2 ≤ cbd := by rw [← ch1_of hth hy ey, ← ch1_of hth2 hy2 ey2]; exact two_le (fun f i => ch1_le hG) (by omega) (by omega) hne
  have lz : z + z2 ≤ cbd := by rw [← ch2_of hth hz ez, ← ch2_of hth2 hz2 ez2]; exact two_le (fun f i => ch2_le hG) (by omega) (by omega) hne
  unfold cbd at lx ly lz
  have la2 : 10000 * n < 2000000000 := by omega
  have hj1 : v_jn (mV g i) (mV g i2) = (1, nI (a + a2), nI k, nI o, (mV g i).2.2.2.2.1, nI (x + x2), nI (y + y2), nI (z + z2)) := by
    unfold v_jn
    rw [ea, eb, ek, eo, ex, ex2, ey, ey2, ez, ez2, nar01 hb, nI_add, nI_add, nI_add, nI_add]
  rw [hj1] at q er
  have hsum : a + a2 < 2 ^ 31 := by
    have := ar_of hth ha2 ea
    have h1 := fb_sm_part (fun f => ar (mV g f)) (show j < 60 by omega)
    have e1 := ar_of hth ha2 ea
    have e2 := ar_of hth2 hb2 eb
    have h3 : ar (mV g i) + ar (mV g i2) ≤ sm ar g := by
      unfold sm
      rcases Nat.lt_or_ge i i2 with c | c
      · have g1 := fb_sm_part (fun f => ar (mV g f)) (show i2 < 60 by omega)
        have g2 := fb_sm_part (fun f => ar (mV g f)) c
        try dsimp only at g1 g2
        omega
      · have g1 := fb_sm_part (fun f => ar (mV g f)) (show i < 60 by omega)
        have g2 := fb_sm_part (fun f => ar (mV g f)) (show i2 < i by omega)
        try dsimp only at g1 g2
        omega
    omega
  refine good_mk hG (kept_join g i i2 j).1 (fun f hf h => ?_) ?_ ?_ ?_ ?_
  · rw [er f] at h ⊢
    by_cases c1 : f = i2
    · rw [if_pos c1] at h
      exact absurd rfl h
    · rw [if_neg c1] at h ⊢
      by_cases c2 : f = i
      · rw [if_pos c2] at h
        exact absurd rfl h
      · rw [if_neg c2] at h ⊢
        by_cases c3 : f = j
        · rw [if_pos c3]
          exact ⟨by omega, ⟨a + a2, by omega, hsum, rfl⟩, ⟨k, hk, rfl⟩, ⟨o, ho, rfl⟩, hb, ⟨x + x2, by omega, rfl⟩, ⟨y + y2, by omega, rfl⟩, ⟨z + z2, by omega, rfl⟩⟩
        · rw [if_neg c3] at h ⊢
          exact hG.2.2.1 f hf h
  · have h := q ar
    rw [(t0 _).1, (t0 _).1, ar_mk (a + a2) _ hsum, ar_of hth ha2 ea, ar_of hth2 hb2 eb] at h
    unfold sm at hA ⊢
    omega
  · have h := q ch0
    rw [(t0 _).2.1, (t0 _).2.1, ch0_mk (x + x2) _ _ _ _ _ (by omega), ch0_of hth hx ex, ch0_of hth2 hx2 ex2] at h
    have := hG.2.2.2.2.1
    unfold sm at this ⊢
    omega
  · have h := q ch1
    rw [(t0 _).2.2.1, (t0 _).2.2.1, ch1_mk (y + y2) _ _ _ _ _ _ (by omega), ch1_of hth hy ey, ch1_of hth2 hy2 ey2] at h
    have := hG.2.2.2.2.2.1
    unfold sm at this ⊢
    omega
  · have h := q ch2
    rw [(t0 _).2.2.2, (t0 _).2.2.2, ch2_mk (z + z2) _ _ _ _ _ _ (by omega), ch2_of hth hz ez, ch2_of hth2 hz2 ez2] at h
    have := hG.2.2.2.2.2.2
    unfold sm at this ⊢
    omega
theorem good_sell {F n i o : Nat} {g : Md} (hG : Good F n g) (hi : i < 60) (ho : o ≤ 9) : Good F (n + 1) (md_row g 14 i (nI o)) := by
  have er := fun f => mV_sell g i (nI o) f
  have q := fun h => sm1 h (V := mV g) (W := mV (md_row g 14 i (nI o))) (j := i) hi (fun f _ => er f)
  refine good_mk hG rfl (fun f hf h => ?_) ?_ ?_ ?_ ?_
  · rw [er f] at h ⊢
    by_cases c : f = i
    · rw [if_pos c] at h ⊢
      obtain ⟨h1, h2, h3, -, h5⟩ := hG.2.2.1 i hi h
      exact ⟨by omega, h2, h3, ⟨o, ho, rfl⟩, h5⟩
    · rw [if_neg c] at h ⊢
      exact hG.2.2.1 f hf h
  · have h := q ar
    rw [show ar (v_own (mV g i) (nI o)) = ar (mV g i) from rfl] at h
    have := hG.2.2.2.1
    unfold sm at this ⊢
    omega
  · have h := q ch0
    rw [show ch0 (v_own (mV g i) (nI o)) = ch0 (mV g i) from rfl] at h
    have := hG.2.2.2.2.1
    unfold sm at this ⊢
    omega
  · have h := q ch1
    rw [show ch1 (v_own (mV g i) (nI o)) = ch1 (mV g i) from rfl] at h
    have := hG.2.2.2.2.2.1
    unfold sm at this ⊢
    omega
  · have h := q ch2
    rw [show ch2 (v_own (mV g i) (nI o)) = ch2 (mV g i) from rfl] at h
    have := hG.2.2.2.2.2.2
    unfold sm at this ⊢
    omega
theorem good_buy {F n i : Nat} {g : Md} (hG : Good F n g) (hi : i < 60) : Good F (n + 1) (g_buy g i) := by
  have er := fun f => mV_buy g i f
  have q := fun h => sm1 h (V := mV g) (W := mV (g_buy g i)) (j := i) hi (fun f _ => er f)
  have z : (fun h : V8 → Nat => h (v_buy (mV g i))) ch0 = 0 ∧ ch1 (v_buy (mV g i)) = 0 ∧ ch2 (v_buy (mV g i)) = 0 := by
    refine ⟨?_, ?_, ?_⟩
    · show ch0 (v_buy (mV g i)) = 0
      unfold ch0
      split <;> rfl
    · unfold ch1
      split <;> rfl
    · unfold ch2
      split <;> rfl
  refine good_mk hG ((kept_row g 16 i 1 (by decide)).tr (kept_c3 _ i)).1 (fun f hf h => ?_) ?_ ?_ ?_ ?_
  · rw [er f] at h ⊢
    by_cases c : f = i
    · rw [if_pos c] at h ⊢
      obtain ⟨h1, h2, h3, h4, -⟩ := hG.2.2.1 i hi h
      exact ⟨by omega, h2, h3, h4, Or.inr rfl, ⟨0, by omega, rfl⟩, ⟨0, by omega, rfl⟩, ⟨0, by omega, rfl⟩⟩
    · rw [if_neg c] at h ⊢
      exact hG.2.2.1 f hf h
  · have h := q ar
    rw [show ar (v_buy (mV g i)) = ar (mV g i) from rfl] at h
    have := hG.2.2.2.1
    unfold sm at this ⊢
    omega
  · have h := q ch0
    have z0 : ch0 (v_buy (mV g i)) = 0 := z.1
    rw [z0] at h
    have := hG.2.2.2.2.1
    unfold sm at this ⊢
    omega
  · have h := q ch1
    rw [z.2.1] at h
    have := hG.2.2.2.2.2.1
    unfold sm at this ⊢
    omega
  · have h := q ch2
    rw [z.2.2] at h
    have := hG.2.2.2.2.2.2
    unfold sm at this ⊢
    omega
/-! the same acts over Sim -/
theorem sim_make {c : Prop} {d : Ld} {g : Md} (hS : Sim c d g) (j : Nat) (a k o : Int32) : Sim c (ld_make d j a k o) (md_come g j a k o 0) := by
  refine ⟨hS.1, fun f hf => ?_⟩
  rw [lV_make, mV_come]
  by_cases h : f = j
  · rw [if_pos h, if_pos h]
    exact ⟨Iff.rfl, fun _ => ⟨rfl, rfl, rfl, rfl, fun _ => rfl⟩⟩
  · rw [if_neg h, if_neg h]
    exact hS.2 f hf
theorem sim_part {c : Prop} {d : Ld} {g : Md} (hS : Sim c d g) (e i j : Nat) (hi : i < 60) (h1 : ¬ i = j) (h2 : ¬ i = j + 1) (hth : ¬ (mV g i).1 = 0) (t : Int32) (et : g.1 4 e = t) : Sim c (ld_part d i j t) (md_part g e i j) := by
  refine ⟨hS.1, fun f hf => ?_⟩
  rw [lV_part d i j t h1 h2, mV_part g e i j h1 h2, et]
  obtain ⟨q1, q2, q3, q4, q5⟩ := (hS.2 i hi).2 hth
  by_cases a1 : f = i
  · rw [if_pos a1, if_pos a1]
    exact ⟨Iff.rfl, fun h => absurd rfl h⟩
  · rw [if_neg a1, if_neg a1]
    by_cases a2 : f = j
    · rw [if_pos a2, if_pos a2]
      exact ⟨Iff.rfl, fun _ => ⟨rfl, q2, q3, congrArg (vp_nar .boolean) q4, fun hc => by
        have := q5 hc
        show (v_pt (lV d i).2.2.2.2.2.1 t (lV d i).2.1, v_pt (lV d i).2.2.2.2.2.2.1 t (lV d i).2.1, v_pt (lV d i).2.2.2.2.2.2.2 t (lV d i).2.1) = (v_pt (mV g i).2.2.2.2.2.1 t (mV g i).2.1, v_pt (mV g i).2.2.2.2.2.2.1 t (mV g i).2.1, v_pt (mV g i).2.2.2.2.2.2.2 t (mV g i).2.1)
        rw [this, q1]⟩⟩
    · rw [if_neg a2, if_neg a2]
      by_cases a3 : f = j + 1
      · rw [if_pos a3, if_pos a3]
        exact ⟨Iff.rfl, fun _ => ⟨by show (lV d i).2.1 - t = (mV g i).2.1 - t; rw [q1], q2, q3, congrArg (vp_nar .boolean) q4, fun hc => by
          have := q5 hc
          show ((lV d i).2.2.2.2.2.1 - v_pt (lV d i).2.2.2.2.2.1 t (lV d i).2.1, (lV d i).2.2.2.2.2.2.1 - v_pt (lV d i).2.2.2.2.2.2.1 t (lV d i).2.1, (lV d i).2.2.2.2.2.2.2 - v_pt (lV d i).2.2.2.2.2.2.2 t (lV d i).2.1) = ((mV g i).2.2.2.2.2.1 - v_pt (mV g i).2.2.2.2.2.1 t (mV g i).2.1, (mV g i).2.2.2.2.2.2.1 - v_pt (mV g i).2.2.2.2.2.2.1 t (mV g i).2.1, (mV g i).2.2.2.2.2.2.2 - v_pt (mV g i).2.2.2.2.2.2.2 t (mV g i).2.1)
          rw [this, q1]⟩⟩
      · rw [if_neg a3, if_neg a3]
        exact hS.2 f hf
theorem sim_join {c : Prop} {d : Ld} {g : Md} (hS : Sim c d g) (i i2 j : Nat) (hi : i < 60) (hi2 : i2 < 60) (h1 : ¬ i = j) (h2 : ¬ i2 = j) (hth : ¬ (mV g i).1 = 0) (hth2 : ¬ (mV g i2).1 = 0) : Sim c (ld_join d i i2 j) (md_join g i i2 j) := by
  refine ⟨hS.1, fun f hf => ?_⟩
  rw [lV_join d i i2 j h1 h2, mV_join g i i2 j h1 h2]
  obtain ⟨q1, q2, q3, q4, q5⟩ := (hS.2 i hi).2 hth
  obtain ⟨p1, p2, p3, p4, p5⟩ := (hS.2 i2 hi2).2 hth2
  by_cases a1 : f = i2
  · rw [if_pos a1, if_pos a1]
    exact ⟨Iff.rfl, fun h => absurd rfl h⟩
  · rw [if_neg a1, if_neg a1]
    by_cases a2 : f = i
    · rw [if_pos a2, if_pos a2]
      exact ⟨Iff.rfl, fun h => absurd rfl h⟩
    · rw [if_neg a2, if_neg a2]
      by_cases a3 : f = j
      · rw [if_pos a3, if_pos a3]
        exact ⟨Iff.rfl, fun _ => ⟨by show (lV d i).2.1 + (lV d i2).2.1 = (mV g i).2.1 + (mV g i2).2.1; rw [q1, p1], q2, q3, congrArg (vp_nar .boolean) q4, fun hc => by
          have r1 := q5 hc
          have r2 := p5 hc
          show ((lV d i).2.2.2.2.2.1 + (lV d i2).2.2.2.2.2.1, (lV d i).2.2.2.2.2.2.1 + (lV d i2).2.2.2.2.2.2.1, (lV d i).2.2.2.2.2.2.2 + (lV d i2).2.2.2.2.2.2.2) = ((mV g i).2.2.2.2.2.1 + (mV g i2).2.2.2.2.2.1, (mV g i).2.2.2.2.2.2.1 + (mV g i2).2.2.2.2.2.2.1, (mV g i).2.2.2.2.2.2.2 + (mV g i2).2.2.2.2.2.2.2)
          rw [r1, r2]⟩⟩
      · rw [if_neg a3, if_neg a3]
        exact hS.2 f hf
theorem sim_sell {c : Prop} {d : Ld} {g : Md} (hS : Sim c d g) (i : Nat) (hi : i < 60) (o : Int32) : Sim c (ld_row d 3 i o) (md_row g 14 i o) := by
  refine ⟨hS.1, fun f hf => ?_⟩
  rw [lV_sell, mV_sell]
  by_cases h : f = i
  · rw [if_pos h, if_pos h]
    obtain ⟨e1, e2⟩ := hS.2 i hi
    exact ⟨e1, fun q => ⟨(e2 q).1, (e2 q).2.1, rfl, (e2 q).2.2.2⟩⟩
  · rw [if_neg h, if_neg h]
    exact hS.2 f hf
theorem sim_buy {c : Prop} {d : Ld} {g : Md} (hS : Sim c d g) (i : Nat) (hi : i < 60) : Sim c (ld_clear (ld_row d 4 i 1) i) (g_buy g i) := by
  refine ⟨hS.1, fun f hf => ?_⟩
  rw [lV_buy, mV_buy]
  by_cases h : f = i
  · rw [if_pos h, if_pos h]
    obtain ⟨e1, e2⟩ := hS.2 i hi
    exact ⟨e1, fun q => ⟨(e2 q).1, (e2 q).2.1, (e2 q).2.2.1, rfl, fun _ => rfl⟩⟩
  · rw [if_neg h, if_neg h]
    exact hS.2 f hf
