def fb_ct (p : Nat → Bool) : Nat → Nat
  | 0 => 0
  | n + 1 => fb_ct p n + (if p n then 1 else 0)
theorem fb_ct_succ (p : Nat → Bool) (n : Nat) : fb_ct p (n + 1) = fb_ct p n + (if p n then 1 else 0) := rfl
theorem fb_ct_le (p : Nat → Bool) : ∀ n, fb_ct p n ≤ n
  | 0 => Nat.le_refl _
  | n + 1 => by
    have h := fb_ct_le p n
    rw [fb_ct_succ]
    split <;> omega
theorem fb_ct_step (p : Nat → Bool) (m : Nat) : ∀ n, fb_ct p m ≤ fb_ct p (m + n)
  | 0 => Nat.le_refl _
  | n + 1 => by
    have h := fb_ct_step p m n
    show fb_ct p m ≤ fb_ct p (m + n + 1)
    rw [fb_ct_succ]
    omega
theorem fb_ct_mono (p : Nat → Bool) {m n : Nat} (h : m ≤ n) : fb_ct p m ≤ fb_ct p n := by
  have := fb_ct_step p m (n - m)
  rwa [Nat.add_sub_cancel' h] at this
theorem fb_ct_cong {p q : Nat → Bool} : ∀ {n : Nat}, (∀ k, k < n → p k = q k) → fb_ct p n = fb_ct q n
  | 0, _ => rfl
  | n + 1, h => by
    rw [fb_ct_succ, fb_ct_succ, fb_ct_cong (fun k hk => h k (by omega)), h n (by omega)]
/-- one place changed -/
theorem fb_ct_out (p : Nat → Bool) (b : Bool) {i n : Nat} (h : n ≤ i) : fb_ct (fun k => if k = i then b else p k) n = fb_ct p n :=
  fb_ct_cong fun k hk => if_neg (by omega)
theorem fb_ct_upd (p : Nat → Bool) (b : Bool) {i : Nat} : ∀ {n : Nat}, i < n → fb_ct (fun k => if k = i then b else p k) n + (if p i then 1 else 0) = fb_ct p n + (if b then 1 else 0)
  | 0, h => absurd h (Nat.not_lt_zero i)
  | n + 1, h => by
    rw [fb_ct_succ, fb_ct_succ]
    rcases Nat.lt_or_ge i n with q | q
    · have := fb_ct_upd p b q
      have e : (if n = i then b else p n) = p n := if_neg (by omega)
      rw [e]
      omega
    · have e : i = n := by omega
      subst e
      rw [fb_ct_out p b (Nat.le_refl _)]
      simp only [if_true]
      omega
theorem fb_ct_sub {p q : Nat → Bool} : ∀ {n : Nat}, (∀ k, k < n → p k = true → q k = true) → fb_ct p n ≤ fb_ct q n
  | 0, _ => Nat.le_refl _
  | n + 1, h => by
    have h1 := fb_ct_sub (n := n) (p := p) (q := q) (fun k hk => h k (by omega))
    have h2 := h n (by omega)
    rw [fb_ct_succ, fb_ct_succ]
    cases hp : p n <;> cases hq : q n <;> simp_all <;> omega
/-! ===== sums over a range: one place changed, parts, bounds ===== -/
def fb_sm (f : Nat → Nat) : Nat → Nat
  | 0 => 0
  | n + 1 => fb_sm f n + f n
theorem fb_sm_succ (f : Nat → Nat) (n : Nat) : fb_sm f (n + 1) = fb_sm f n + f n := rfl
theorem fb_sm_cong {f g : Nat → Nat} : ∀ {n : Nat}, (∀ k, k < n → f k = g k) → fb_sm f n = fb_sm g n
  | 0, _ => rfl
  | n + 1, h => by rw [fb_sm_succ, fb_sm_succ, fb_sm_cong (fun k hk => h k (by omega)), h n (by omega)]
theorem fb_sm_out (f : Nat → Nat) (v : Nat) {i n : Nat} (h : n ≤ i) : fb_sm (fun k => if k = i then v else f k) n = fb_sm f n :=
  fb_sm_cong fun k hk => if_neg (by omega)
theorem fb_sm_upd (f : Nat → Nat) (v : Nat) {i : Nat} : ∀ {n : Nat}, i < n → fb_sm (fun k => if k = i then v else f k) n + f i = fb_sm f n + v
  | 0, h => absurd h (Nat.not_lt_zero i)
  | n + 1, h => by
    rw [fb_sm_succ, fb_sm_succ]
    rcases Nat.lt_or_ge i n with q | q
    · have := fb_sm_upd f v q
      have e : (if n = i then v else f n) = f n := if_neg (by omega)
      rw [e]
      omega
    · have e : i = n := by omega
      subst e
      rw [fb_sm_out f v (Nat.le_refl _)]
      simp only [if_true]
      omega
theorem fb_sm_add (f g : Nat → Nat) : ∀ n, fb_sm (fun k => f k + g k) n = fb_sm f n + fb_sm g n
  | 0 => rfl
  | n + 1 => by
    have h := fb_sm_add f g n
    rw [fb_sm_succ, fb_sm_succ, fb_sm_succ, h]
    omega
theorem fb_sm_le {f g : Nat → Nat} : ∀ {n : Nat}, (∀ k, k < n → f k ≤ g k) → fb_sm f n ≤ fb_sm g n
  | 0, _ => Nat.le_refl _
  | n + 1, h => by
    have h1 := fb_sm_le (n := n) (f := f) (g := g) (fun k hk => h k (by omega))
    have h2 := h n (by omega)
    rw [fb_sm_succ, fb_sm_succ]
    omega
theorem fb_sm_const (c : Nat) : ∀ n, fb_sm (fun _ => c) n = n * c
  | 0 => by rw [Nat.zero_mul]; rfl
  | n + 1 => by rw [fb_sm_succ, fb_sm_const c n, Nat.succ_mul]
theorem fb_sm_bound {f : Nat → Nat} {c n : Nat} (h : ∀ k, k < n → f k ≤ c) : fb_sm f n ≤ n * c := by
  rw [← fb_sm_const c n]
  exact fb_sm_le h
theorem fb_sm_mono (f : Nat → Nat) (m : Nat) : ∀ n, fb_sm f m ≤ fb_sm f (m + n)
  | 0 => Nat.le_refl _
  | n + 1 => by
    have h := fb_sm_mono f m n
    show fb_sm f m ≤ fb_sm f (m + n + 1)
    rw [fb_sm_succ]
    omega
theorem fb_sm_part (f : Nat → Nat) {i n : Nat} (h : i < n) : fb_sm f i + f i ≤ fb_sm f n := by
  have := fb_sm_mono f (i + 1) (n - (i + 1))
  rw [fb_sm_succ, show i + 1 + (n - (i + 1)) = n by omega] at this
  exact this
theorem fb_sm_split (f : Nat → Nat) (m : Nat) : ∀ n, fb_sm f (m + n) = fb_sm f m + fb_sm (fun k => f (m + k)) n
  | 0 => rfl
  | n + 1 => by
    have h := fb_sm_split f m n
    show fb_sm f (m + n + 1) = _
    rw [fb_sm_succ, fb_sm_succ, h, Nat.add_assoc]
theorem fb_sm_zero {f : Nat → Nat} {n : Nat} (h : fb_sm f n = 0) : ∀ k, k < n → f k = 0 := fun k hk => by
  have := fb_sm_part f hk
  omega
/-! PURE: fields as they are told; reads of the rows -/
theorem mdr_ne {g : Md} {r i : Nat} {x : Int32} {r2 i2 : Nat} (h : ¬ (r2 = r ∧ i2 = i)) : (md_row g r i x).1 r2 i2 = g.1 r2 i2 := by
  show up2 g.1 r i x r2 i2 = _
  unfold up2
  by_cases h1 : r2 = r
  · subst h1
    rw [if_pos rfl]
    exact if_neg (fun q => h ⟨rfl, q⟩)
  · rw [if_neg h1]
theorem mdr_eq {g : Md} {r i : Nat} {x : Int32} {r2 i2 : Nat} (h1 : r2 = r) (h2 : i2 = i) : (md_row g r i x).1 r2 i2 = x := by
  subst h1
  subst h2
  show up2 g.1 r2 i2 x r2 i2 = _
  unfold up2
  rw [if_pos rfl]
  exact if_pos rfl
theorem ldr_ne {d : Ld} {r i : Nat} {x : Int32} {r2 i2 : Nat} (h : ¬ (r2 = r ∧ i2 = i)) : (ld_row d r i x).1 r2 i2 = d.1 r2 i2 := by
  show up2 d.1 r i x r2 i2 = _
  unfold up2
  by_cases h1 : r2 = r
  · subst h1
    rw [if_pos rfl]
    exact if_neg (fun q => h ⟨rfl, q⟩)
  · rw [if_neg h1]
theorem ldr_eq {d : Ld} {r i : Nat} {x : Int32} {r2 i2 : Nat} (h1 : r2 = r) (h2 : i2 = i) : (ld_row d r i x).1 r2 i2 = x := by
  subst h1
  subst h2
  show up2 d.1 r2 i2 x r2 i2 = _
  unfold up2
  rw [if_pos rfl]
  exact if_pos rfl
/-- a field: there, area, kind, owner, bought, three charges -/
abbrev V8 : Type := Int32 × Int32 × Int32 × Int32 × Int32 × Int32 × Int32 × Int32
def mV (g : Md) (f : Nat) : V8 := (g.1 11 f, g.1 12 f, g.1 13 f, g.1 14 f, g.1 16 f, g.1 15 (3 * f + 0), g.1 15 (3 * f + 1), g.1 15 (3 * f + 2))
def lV (d : Ld) (f : Nat) : V8 := (d.1 0 f, d.1 1 f, d.1 2 f, d.1 3 f, d.1 4 f, d.1 7 f, d.1 8 f, d.1 9 f)
theorem mV_come (g : Md) (j : Nat) (a k o x : Int32) (f : Nat) : mV (md_come g j a k o x) f = if f = j then (1, a, k, o, vp_nar .boolean x, 0, 0, 0) else mV g f := by
  by_cases h : f = j
  · subst h
    rw [if_pos rfl]
    unfold mV md_come md_c3
    simp (disch := omega) only [mdr_ne, mdr_eq]
  · rw [if_neg h]
    unfold mV md_come md_c3
    simp (disch := omega) only [mdr_ne, mdr_eq]
theorem lV_make (d : Ld) (j : Nat) (a k o : Int32) (f : Nat) : lV (ld_make d j a k o) f = if f = j then (1, a, k, o, 0, 0, 0, 0) else lV d f := by
  by_cases h : f = j
  · subst h
    rw [if_pos rfl]
    unfold lV ld_make ld_clear
    simp (disch := omega) only [ldr_ne, ldr_eq]
  · rw [if_neg h]
    unfold lV ld_make ld_clear
    simp (disch := omega) only [ldr_ne, ldr_eq]
def v_pt (c t a : Int32) : Int32 := (c.toInt64 * t.toInt64 / a.toInt64).toInt32
def v_p1 (v : V8) (t : Int32) : V8 := (1, t, v.2.2.1, v.2.2.2.1, vp_nar .boolean v.2.2.2.2.1, v_pt v.2.2.2.2.2.1 t v.2.1, v_pt v.2.2.2.2.2.2.1 t v.2.1, v_pt v.2.2.2.2.2.2.2 t v.2.1)
def v_p2 (v : V8) (t : Int32) : V8 := (1, v.2.1 - t, v.2.2.1, v.2.2.2.1, vp_nar .boolean v.2.2.2.2.1, v.2.2.2.2.2.1 - v_pt v.2.2.2.2.2.1 t v.2.1, v.2.2.2.2.2.2.1 - v_pt v.2.2.2.2.2.2.1 t v.2.1, v.2.2.2.2.2.2.2 - v_pt v.2.2.2.2.2.2.2 t v.2.1)
def v_jn (v u : V8) : V8 := (1, v.2.1 + u.2.1, v.2.2.1, v.2.2.2.1, vp_nar .boolean v.2.2.2.2.1, v.2.2.2.2.2.1 + u.2.2.2.2.2.1, v.2.2.2.2.2.2.1 + u.2.2.2.2.2.2.1, v.2.2.2.2.2.2.2 + u.2.2.2.2.2.2.2)
theorem mV_part (g : Md) (n i j : Nat) (h1 : ¬ i = j) (h2 : ¬ i = j + 1) (f : Nat) : mV (md_part g n i j) f = if f = i then (0, (mV g i).2) else if f = j then v_p1 (mV g i) (g.1 4 n) else if f = j + 1 then v_p2 (mV g i) (g.1 4 n) else mV g f := by
  by_cases a1 : f = i
  · subst a1
    rw [if_pos rfl]
    unfold mV md_part q_c q_c2 q_c1 q_m2 q_m1 md_come md_c3
    simp (disch := omega) only [mdr_ne, mdr_eq]
  · rw [if_neg a1]
    by_cases a2 : f = j
    · subst a2
      rw [if_pos rfl]
      unfold mV v_p1 v_pt md_part q_c q_c2 q_c1 q_m2 q_m1 md_come md_c3
      simp (disch := omega) only [mdr_ne, mdr_eq]
    · rw [if_neg a2]
      by_cases a3 : f = j + 1
      · subst a3
        rw [if_pos rfl]
        unfold mV v_p2 v_pt md_part q_c q_c2 q_c1 q_m2 q_m1 md_come md_c3
        simp (disch := omega) only [mdr_ne, mdr_eq]
      · rw [if_neg a3]
        unfold mV md_part q_c q_c2 q_c1 q_m2 q_m1 md_come md_c3
        simp (disch := omega) only [mdr_ne, mdr_eq]
theorem lV_part (d : Ld) (i j : Nat) (t : Int32) (h1 : ¬ i = j) (h2 : ¬ i = j + 1) (f : Nat) : lV (ld_part d i j t) f = if f = i then (0, (lV d i).2) else if f = j then v_p1 (lV d i) t else if f = j + 1 then v_p2 (lV d i) t else lV d f := by
  by_cases a1 : f = i
  · subst a1
    rw [if_pos rfl]
    unfold lV ld_part ld_part2 ld_part1 p_c p_c2 p_c1 p_b1 ld_make ld_clear
    simp (disch := omega) only [ldr_ne, ldr_eq]
  · rw [if_neg a1]
    by_cases a2 : f = j
    · subst a2
      rw [if_pos rfl]
      unfold lV v_p1 v_pt ld_part ld_part2 ld_part1 p_c p_c2 p_c1 p_x p_b1 ld_make ld_clear
      simp (disch := omega) only [ldr_ne, ldr_eq]
    · rw [if_neg a2]
      by_cases a3 : f = j + 1
      · subst a3
        rw [if_pos rfl]
        unfold lV v_p2 v_pt ld_part ld_part2 ld_part1 p_c p_c2 p_c1 p_x p_b1 ld_make ld_clear
        simp (disch := omega) only [ldr_ne, ldr_eq]
      · rw [if_neg a3]
        unfold lV ld_part ld_part2 ld_part1 p_c p_c2 p_c1 p_b1 ld_make ld_clear
        simp (disch := omega) only [ldr_ne, ldr_eq]
theorem mV_join (g : Md) (i i2 j : Nat) (h1 : ¬ i = j) (h2 : ¬ i2 = j) (f : Nat) : mV (md_join g i i2 j) f = if f = i2 then (0, (mV g i2).2) else if f = i then (0, (mV g i).2) else if f = j then v_jn (mV g i) (mV g i2) else mV g f := by
  by_cases a1 : f = i2
  · subst a1
    rw [if_pos rfl]
    unfold mV md_join v_c v_m md_come md_c3
    simp (disch := omega) only [mdr_ne, mdr_eq]
  · rw [if_neg a1]
    by_cases a2 : f = i
    · subst a2
      rw [if_pos rfl]
      unfold mV md_join v_c v_m md_come md_c3
      simp (disch := omega) only [mdr_ne, mdr_eq]
    · rw [if_neg a2]
      by_cases a3 : f = j
      · subst a3
        rw [if_pos rfl]
        unfold mV v_jn md_join v_c v_m md_come md_c3
        simp (disch := omega) only [mdr_ne, mdr_eq]
      · rw [if_neg a3]
        unfold mV md_join v_c v_m md_come md_c3
        simp (disch := omega) only [mdr_ne, mdr_eq]
theorem lV_join (d : Ld) (i i2 j : Nat) (h1 : ¬ i = j) (h2 : ¬ i2 = j) (f : Nat) : lV (ld_join d i i2 j) f = if f = i2 then (0, (lV d i2).2) else if f = i then (0, (lV d i).2) else if f = j then v_jn (lV d i) (lV d i2) else lV d f := by
  by_cases a1 : f = i2
  · subst a1
    rw [if_pos rfl]
    unfold lV ld_join ld_join2 j_c p_b1 ld_make ld_clear
    simp (disch := omega) only [ldr_ne, ldr_eq]
  · rw [if_neg a1]
    by_cases a2 : f = i
    · subst a2
      rw [if_pos rfl]
      unfold lV ld_join ld_join2 j_c p_b1 ld_make ld_clear
      simp (disch := omega) only [ldr_ne, ldr_eq]
    · rw [if_neg a2]
      by_cases a3 : f = j
      · subst a3
        rw [if_pos rfl]
        unfold lV v_jn ld_join ld_join2 j_c p_b1 ld_make ld_clear
        simp (disch := omega) only [ldr_ne, ldr_eq]
      · rw [if_neg a3]
        unfold lV ld_join ld_join2 j_c p_b1 ld_make ld_clear
        simp (disch := omega) only [ldr_ne, ldr_eq]
def v_own (v : V8) (o : Int32) : V8 := (v.1, v.2.1, v.2.2.1, o, v.2.2.2.2)
def v_buy (v : V8) : V8 := (v.1, v.2.1, v.2.2.1, v.2.2.2.1, 1, 0, 0, 0)
theorem mV_sell (g : Md) (i : Nat) (o : Int32) (f : Nat) : mV (md_row g 14 i o) f = if f = i then v_own (mV g i) o else mV g f := by
  by_cases h : f = i
  · subst h
    rw [if_pos rfl]
    unfold mV v_own
    simp (disch := omega) only [mdr_ne, mdr_eq]
  · rw [if_neg h]
    unfold mV
    simp (disch := omega) only [mdr_ne, mdr_eq]
theorem lV_sell (d : Ld) (i : Nat) (o : Int32) (f : Nat) : lV (ld_row d 3 i o) f = if f = i then v_own (lV d i) o else lV d f := by
  by_cases h : f = i
  · subst h
    rw [if_pos rfl]
    unfold lV v_own
    simp (disch := omega) only [ldr_ne, ldr_eq]
  · rw [if_neg h]
    unfold lV
    simp (disch := omega) only [ldr_ne, ldr_eq]
theorem mV_buy (g : Md) (i f : Nat) : mV (g_buy g i) f = if f = i then v_buy (mV g i) else mV g f := by
  by_cases h : f = i
  · subst h
    rw [if_pos rfl]
    unfold mV v_buy g_buy md_c3
    simp (disch := omega) only [mdr_ne, mdr_eq]
  · rw [if_neg h]
    unfold mV g_buy md_c3
    simp (disch := omega) only [mdr_ne, mdr_eq]
theorem lV_buy (d : Ld) (i f : Nat) : lV (ld_clear (ld_row d 4 i 1) i) f = if f = i then v_buy (lV d i) else lV d f := by
  by_cases h : f = i
  · subst h
    rw [if_pos rfl]
    unfold lV v_buy ld_clear
    simp (disch := omega) only [ldr_ne, ldr_eq]
  · rw [if_neg h]
    unfold lV ld_clear
    simp (disch := omega) only [ldr_ne, ldr_eq]
