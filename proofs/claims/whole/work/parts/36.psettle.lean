/-! PURE: settle, in class and reference -/
def wN (v : V8) : Nat := if v.1 = 0 then 0 else v.2.1.toNatClampNeg * (3 - v.2.2.1.toNatClampNeg)
theorem wN_le {F n : Nat} {g : Md} (hG : Good F n g) {f : Nat} (hf : f < 60) : wN (mV g f) ≤ 3 * ar (mV g f) := by
  unfold wN ar
  split
  · exact Nat.zero_le _
  · rw [Nat.mul_comm]
    exact Nat.mul_le_mul_right _ (by omega)
theorem mwt_eq {F n : Nat} {g : Md} (hG : Good F n g) {f : Nat} (hf : f < 60) : mwt g f = lN (wN (mV g f)) := by
  unfold mwt wN
  by_cases h : g.1 11 f = 0
  · rw [if_pos h, if_pos (show (mV g f).1 = 0 from h)]
    rfl
  · rw [if_neg h, if_neg (show ¬ (mV g f).1 = 0 from h)]
    obtain ⟨-, ⟨a, ha1, ha2, ea⟩, ⟨k, hk, ek⟩, -⟩ := hG.2.2.1 f hf h
    rw [ea, ek, nI_clamp ha2, nI_clamp (by omega), show g.1 12 f = nI a from ea, show g.1 13 f = nI k from ek, show (3 : Int32) - nI k = nI (3 - k) from pk_sub (a := 3) (by omega), nI_l ha2, nI_l (by omega), lN_mul]
theorem mws_eq {F n : Nat} {g : Md} (hG : Good F n g) : ∀ k, k ≤ 60 → mws g k = lN (fb_sm (fun f => wN (mV g f)) k)
  | 0, _ => rfl
  | k + 1, h => by rw [mws, mws_eq hG k (by omega), mwt_eq hG (by omega), lN_add, fb_sm_succ]
def tot (g : Md) : Nat := fb_sm (fun f => wN (mV g f)) 60
theorem tot_le {F n : Nat} {g : Md} (hG : Good F n g) : tot g ≤ 30000 * n := by
  unfold tot
  have h1 : fb_sm (fun f => wN (mV g f)) 60 ≤ fb_sm (fun f => 3 * ar (mV g f)) 60 := fb_sm_le (fun k hk => wN_le hG hk)
  have h2 : ∀ m, fb_sm (fun f => 3 * ar (mV g f)) m = 3 * fb_sm (fun f => ar (mV g f)) m := by
    intro m
    induction m with
    | zero => rfl
    | succ m ih => rw [fb_sm_succ, fb_sm_succ, ih, Nat.mul_add]
  have h3 := hG.2.2.2.1
  unfold sm at h3
  rw [h2 60] at h1
  omega
theorem tot_pos {F n : Nat} {g : Md} (hG : Good F n g) {f : Nat} (hf : f < 60) (h : ¬ (mV g f).1 = 0) : 1 ≤ tot g := by
  have h1 := fb_sm_part (fun f => wN (mV g f)) hf
  obtain ⟨-, ⟨a, ha1, ha2, ea⟩, ⟨k, hk, ek⟩, -⟩ := hG.2.2.1 f hf h
  have h2 : 1 ≤ wN (mV g f) := by
    unfold wN
    rw [if_neg h, ea, ek, nI_clamp ha2, nI_clamp (by omega)]
    have h3 : 1 * 1 ≤ a * (3 - k) := Nat.mul_le_mul ha1 (by omega)
    omega
  unfold tot
  try dsimp only at h1
  omega
theorem some_iff {g : Md} : ∀ k, ¬ m_some g k = 0 ↔ ∃ f, f < k ∧ ¬ g.1 11 f = 0
  | 0 => ⟨fun h => absurd rfl h, fun ⟨f, hf, _⟩ => absurd hf (Nat.not_lt_zero f)⟩
  | k + 1 => by
    rw [m_some]
    by_cases h : m_some g k = 0
    · rw [if_pos h]
      have ih := some_iff (g := g) k
      by_cases h2 : g.1 11 k = 0
      · rw [if_pos h2]
        refine ⟨fun q => absurd rfl q, fun ⟨f, hf, hq⟩ => ?_⟩
        rcases Nat.lt_or_ge f k with c | c
        · exact absurd h (ih.mpr ⟨f, c, hq⟩)
        · have : f = k := by omega
          subst this
          exact absurd h2 hq
      · rw [if_neg h2]
        exact ⟨fun _ => ⟨k, Nat.lt_succ_self k, h2⟩, fun _ => ne10⟩
    · rw [if_neg h]
      obtain ⟨f, hf, hq⟩ := (some_iff k).mp h
      exact ⟨fun _ => ⟨f, by omega, hq⟩, fun _ => ne10⟩
theorem fb_sm_mulc (q : Nat) (f : Nat → Nat) : ∀ n, fb_sm (fun k => q * f k) n = q * fb_sm f n
  | 0 => rfl
  | n + 1 => by rw [fb_sm_succ, fb_sm_succ, fb_sm_mulc q f n, Nat.mul_add]
/-- the pence that are left -/
def qt (g : Md) (q f : Nat) : Nat := q * wN (mV g f) / tot g
def rt (g : Md) (q f : Nat) : Nat := q * wN (mV g f) % tot g
theorem left_eq (g : Md) (q : Nat) (hT : 1 ≤ tot g) : fb_sm (qt g q) 60 ≤ q ∧ (q - fb_sm (qt g q) 60) * tot g = fb_sm (rt g q) 60 ∧ q - fb_sm (qt g q) 60 < 60 := by
  have e1 : fb_sm (fun f => q * wN (mV g f)) 60 = q * tot g := fb_sm_mulc q _ 60
  have e2 : fb_sm (fun f => q * wN (mV g f)) 60 = tot g * fb_sm (qt g q) 60 + fb_sm (rt g q) 60 := by
    rw [← fb_sm_mulc, ← fb_sm_add]
    exact fb_sm_cong (fun k _ => (Nat.div_add_mod _ _).symm)
  have h1 : tot g * fb_sm (qt g q) 60 ≤ tot g * q := by rw [Nat.mul_comm (tot g) q]; omega
  have h2 : fb_sm (qt g q) 60 ≤ q := Nat.le_of_mul_le_mul_left h1 (by omega)
  have h3 : (q - fb_sm (qt g q) 60) * tot g = fb_sm (rt g q) 60 := by
    rw [Nat.sub_mul, Nat.mul_comm (fb_sm (qt g q) 60) (tot g)]
    omega
  refine ⟨h2, h3, ?_⟩
  have h4 : fb_sm (rt g q) 60 ≤ 60 * (tot g - 1) := fb_sm_bound (fun k _ => by
    have := Nat.mod_lt (q * wN (mV g k)) (show 0 < tot g by omega)
    unfold rt
    omega)
  rcases Nat.lt_or_ge (q - fb_sm (qt g q) 60) 60 with c | c
  · exact c
  · have h5 : 60 * tot g ≤ (q - fb_sm (qt g q) 60) * tot g := Nat.mul_le_mul_right _ c
    omega
theorem l_m1 (a : Nat) (h : a < 2 ^ 63) : ¬ lN a ≤ -1 := by
  rw [Int64.le_iff_toInt_le, pk_lT h, show (-1 : Int64).toInt = -1 by decide]
  omega
theorem l_m2 (a : Nat) (h : a < 2 ^ 63) : (-1 : Int64) ≤ lN a := by
  rw [Int64.le_iff_toInt_le, pk_lT h, show (-1 : Int64).toInt = -1 by decide]
  omega
theorem gb60 (f : Nat → Int64) : ∀ k, k ≤ 60 → gbest f k < 60
  | 0, _ => by show 0 < 60; omega
  | k + 1, h => Nat.lt_of_lt_of_le (gbest_lt f k) h
theorem gbest_two {fC fM : Nat → Int64} {rm : Nat → Nat} (h : ∀ f, f < 60 → rm f < 2 ^ 62 ∧ fC f = lN (rm f) ∧ (fM f = lN (rm f) ∨ (rm f = 0 ∧ fM f = -1))) : ∀ k, k ≤ 60 → (gbest fC k = gbest fM k ∨ (rm (gbest fC k) = 0 ∧ rm (gbest fM k) = 0)) ∧ ∀ f, f < k → rm f ≤ rm (gbest fC k)
  | 0, _ => ⟨Or.inl rfl, fun f hf => absurd hf (Nat.not_lt_zero f)⟩
  | k + 1, hk => by
    obtain ⟨ih1, ih2⟩ := gbest_two h k (by omega)
    have hp := gb60 fC k (by omega)
    have hr := gb60 fM k (by omega)
    rw [gbest, gbest]
    generalize gbest fC k = p at *
    generalize gbest fM k = r at *
    obtain ⟨k1, k2, k3⟩ := h k (by omega)
    obtain ⟨p1, p2, p3⟩ := h p hp
    obtain ⟨r1, r2, r3⟩ := h r hr
    by_cases c : rm k ≤ rm p
    · rw [if_pos (show fC k ≤ fC p by rw [k2, p2]; exact (pk_lLE (by omega) (by omega)).mpr c)]
      refine ⟨?_, fun f hf => ?_⟩
      · rcases ih1 with e | ⟨e1, e2⟩
        · subst e
          by_cases c2 : fM k ≤ fM p
          · rw [if_pos c2]
            exact Or.inl rfl
          · rw [if_neg c2]
            refine Or.inr ?_
            rcases p3 with q | ⟨q1, q2⟩
            · exfalso
              apply c2
              rw [q]
              rcases k3 with z | ⟨z1, z2⟩
              · rw [z]
                exact (pk_lLE (by omega) (by omega)).mpr c
              · rw [z2]
                exact l_m2 _ (by omega)
            · exact ⟨q1, by omega⟩
        · refine Or.inr ⟨e1, ?_⟩
          split
          · exact e2
          · omega
      · rcases Nat.lt_or_ge f k with z | z
        · exact ih2 f z
        · have : f = k := by omega
          subst this
          exact c
    · rw [if_neg (show ¬ fC k ≤ fC p by rw [k2, p2]; exact fun z => c ((pk_lLE (by omega) (by omega)).mp z))]
      have ek : fM k = lN (rm k) := by
        rcases k3 with z | ⟨z1, z2⟩
        · exact z
        · omega
      have er : ¬ fM k ≤ fM r := by
        rw [ek]
        rcases r3 with z | ⟨z1, z2⟩
        · rw [z]
          intro q
          have := (pk_lLE (by omega) (by omega)).mp q
          rcases ih1 with e | ⟨e1, e2⟩
          · subst e
            omega
          · omega
        · rw [z2]
          exact l_m1 _ (by omega)
      rw [if_neg er]
      refine ⟨Or.inl rfl, fun f hf => ?_⟩
      rcases Nat.lt_or_ge f k with z | z
      · have := ih2 f z
        omega
      · have : f = k := by omega
        subst this
        exact Nat.le_refl _
/-- shares and remainders while pence are given -/
def ITR (T M : Nat) (D : Ld) (G : Md) (sh rm : Nat → Nat) : Prop := ∀ f, f < 60 → D.1 5 f = nI (sh f) ∧ G.2.1 0 f = lN (sh f) ∧ D.2.1 1 f = lN (rm f) ∧ (G.2.1 1 f = lN (rm f) ∨ (rm f = 0 ∧ G.2.1 1 f = -1)) ∧ rm f < T ∧ sh f ≤ M
theorem so_rowL (d : Ld) (r i : Nat) (x : Int64) (f : Nat) : (ld_rowL d r i x).2.1 r f = if f = i then x else d.2.1 r f := by
  show up2L d.2.1 r i x r f = _
  unfold up2L
  rw [if_pos rfl]
  rfl
theorem md_rL (g : Md) (r i : Nat) (x : Int64) (r2 f : Nat) : (md_rowL g r i x).2.1 r2 f = if r2 = r ∧ f = i then x else g.2.1 r2 f := by
  show up2L g.2.1 r i x r2 f = _
  unfold up2L
  by_cases h : r2 = r
  · subst h
    rw [if_pos rfl]
    show (if f = i then x else g.2.1 r2 f) = _
    by_cases h2 : f = i
    · rw [if_pos h2, if_pos ⟨rfl, h2⟩]
    · rw [if_neg h2, if_neg (fun q => h2 q.2)]
  · rw [if_neg h, if_neg (fun q => h q.1)]
theorem itr_step {T M : Nat} {D : Ld} {G : Md} {sh rm : Nat → Nat} (hT : T < 2 ^ 62) (hI : ITR T M D G sh rm) (hp : ∃ f, f < 60 ∧ 0 < rm f) : ∃ bi, bi < 60 ∧ ITR T (M + 1) (so_step D) (mstep G) (fun f => if f = bi then sh f + 1 else sh f) (fun f => if f = bi then 0 else rm f) := by
  have hg := gbest_two (fC := D.2.1 1) (fM := G.2.1 1) (rm := rm) (fun f hf => ⟨by have := (hI f hf).2.2.2.2.1; omega, (hI f hf).2.2.1, (hI f hf).2.2.2.1⟩) 60 (Nat.le_refl 60)
  obtain ⟨f0, hf0, hpos⟩ := hp
  have e : gbest (D.2.1 1) 60 = gbest (G.2.1 1) 60 := by
    rcases hg.1 with z | ⟨z1, z2⟩
    · exact z
    · have := hg.2 f0 hf0
      omega
  have hb := gb60 (D.2.1 1) 60 (Nat.le_refl 60)
  refine ⟨gbest (D.2.1 1) 60, hb, fun f hf => ?_⟩
  unfold so_step mstep
  rw [← e]
  generalize gbest (D.2.1 1) 60 = bi at *
  obtain ⟨a1, a2, a3, a4, a5, a6⟩ := hI f hf
  have x1 : (ld_rowL (ld_row D 5 bi (D.1 5 bi + 1)) 1 bi 0).1 5 f = (ld_row D 5 bi (D.1 5 bi + 1)).1 5 f := rfl
  have x2 : (ld_rowL (ld_row D 5 bi (D.1 5 bi + 1)) 1 bi 0).2.1 1 f = if f = bi then 0 else D.2.1 1 f := so_rowL _ _ _ _ _
  rw [x1, x2, md_rL, md_rL, md_rL, md_rL]
  by_cases c : f = bi
  · subst c
    rw [ldr_eq rfl rfl, if_pos rfl, if_neg (by omega), if_pos ⟨rfl, rfl⟩, if_pos ⟨rfl, rfl⟩]
    show D.1 5 f + 1 = nI (if f = f then sh f + 1 else sh f) ∧ G.2.1 0 f + 1 = lN (if f = f then sh f + 1 else sh f) ∧ 0 = lN (if f = f then 0 else rm f) ∧ ((-1 : Int64) = lN (if f = f then 0 else rm f) ∨ (if f = f then 0 else rm f) = 0 ∧ (-1 : Int64) = -1) ∧ (if f = f then 0 else rm f) < T ∧ (if f = f then sh f + 1 else sh f) ≤ M + 1
    rw [if_pos rfl, if_pos rfl, a1, a2, nI_1, lN_1]
    exact ⟨rfl, rfl, rfl, Or.inr ⟨rfl, rfl⟩, by omega, by omega⟩
  · rw [ldr_ne (by omega), if_neg c, if_neg (by omega), if_neg (by omega), if_neg (by omega), if_neg (by omega)]
    show D.1 5 f = nI (if f = bi then sh f + 1 else sh f) ∧ G.2.1 0 f = lN (if f = bi then sh f + 1 else sh f) ∧ D.2.1 1 f = lN (if f = bi then 0 else rm f) ∧ (G.2.1 1 f = lN (if f = bi then 0 else rm f) ∨ (if f = bi then 0 else rm f) = 0 ∧ G.2.1 1 f = -1) ∧ (if f = bi then 0 else rm f) < T ∧ (if f = bi then sh f + 1 else sh f) ≤ M + 1
    rw [if_neg c, if_neg c]
    exact ⟨a1, a2, a3, a4, a5, by omega⟩
theorem mit_s2 (g : Md) : ∀ n, mit g (n + 1) = mstep (mit g n)
  | 0 => rfl
  | n + 1 => by
    have h1 : mit g (n + 1 + 1) = mit (mstep g) (n + 1) := by rw [mit]
    have h2 : mit g (n + 1) = mit (mstep g) n := by rw [mit]
    rw [h1, h2]
    exact mit_s2 (mstep g) n
theorem itr_run {T M L : Nat} {D : Ld} {G : Md} {sh rm : Nat → Nat} (hT : 1 ≤ T ∧ T < 2 ^ 62) (hI : ITR T M D G sh rm) (hL : L * T ≤ fb_sm rm 60) : ∀ n, n ≤ L → ∃ sh2 rm2, ITR T (M + n) (so2 D n) (mit G n) sh2 rm2 ∧ L * T ≤ fb_sm rm2 60 + n * (T - 1)
  | 0, _ => ⟨sh, rm, hI, by omega⟩
  | n + 1, h => by
    obtain ⟨sh2, rm2, h1, h2⟩ := itr_run hT hI hL n (by omega)
    have hp : ∃ f, f < 60 ∧ 0 < rm2 f := by
      apply Classical.byContradiction
      intro q
      have z : fb_sm rm2 60 ≤ 60 * 0 := fb_sm_bound (fun k hk => Nat.le_of_not_lt (fun z => q ⟨k, hk, z⟩))
      have e1 : n * (T - 1) ≤ n * T := Nat.mul_le_mul_left n (by omega)
      have e2 : (n + 1) * T ≤ L * T := Nat.mul_le_mul_right T h
      rw [Nat.succ_mul] at e2
      omega
    obtain ⟨bi, hb, hs⟩ := itr_step hT.2 h1 hp
    refine ⟨_, _, by rw [mit_s2]; exact hs, ?_⟩
    have u := fb_sm_upd rm2 0 (n := 60) hb
    have hr := (h1 bi hb).2.2.2.2.1
    rw [Nat.succ_mul]
    omega
/-- a charge, by a share, a corn and a mean -/
def CN (s c m : Nat) : Nat := (200 * (s / 3 + (if s % 3 ≤ c then 0 else 1)) + m) / (2 * m)
theorem CN_le {s c m : Nat} (hs : s ≤ 1000060) (hm : 1 ≤ m) : CN s c m ≤ 33335401 := by
  unfold CN
  have ht : s / 3 + (if s % 3 ≤ c then 0 else 1) ≤ 333354 := by
    have : s / 3 ≤ 333353 := by omega
    split <;> omega
  generalize s / 3 + (if s % 3 ≤ c then 0 else 1) = t at *
  have h1 : (200 * t + m) / (2 * m) ≤ 100 * t + 1 := by
    refine Nat.div_le_of_le_mul ?_
    have h2 : 1 * (200 * t) ≤ m * (200 * t) := Nat.mul_le_mul_right _ hm
    have h3 : 2 * m * (100 * t + 1) = m * (200 * t) + 2 * m := by
      rw [Nat.mul_add, Nat.mul_one, Nat.mul_comm 2 m, Nat.mul_assoc, show 2 * (100 * t) = 200 * t by omega]
    omega
  omega
theorem c_n {s c m : Nat} (hs : s ≤ 1000060) (hm : 1 ≤ m ∧ m ≤ 1000) (t : Int64) (ht : t = lN (s / 3 + (if s % 3 ≤ c then 0 else 1))) : ((200 * t + lN m) / (2 * lN m)).toInt32 = nI (CN s c m) ∧ (z_near (100 * t) (lN m)).toInt32 = nI (CN s c m) := by
  have hb : s / 3 + (if s % 3 ≤ c then 0 else 1) ≤ 333354 := by
    have : s / 3 ≤ 333353 := by omega
    split <;> omega
  unfold z_near CN
  generalize s / 3 + (if s % 3 ≤ c then 0 else 1) = u at *
  subst ht
  rw [show (200 : Int64) * lN u = lN (200 * u) from lN_mul 200 u, show (2 : Int64) * lN m = lN (2 * m) from lN_mul 2 m, show (100 : Int64) * lN u = lN (100 * u) from lN_mul 100 u, show (2 : Int64) * lN (100 * u) = lN (2 * (100 * u)) from lN_mul 2 (100 * u), lN_add, lN_add, pk_lDiv (by omega) (by omega) (by omega), pk_lDiv (by omega) (by omega) (by omega), lN_i, lN_i, show 2 * (100 * u) = 200 * u by omega]
  exact ⟨rfl, rfl⟩
theorem th_C {s c : Nat} (hs : s ≤ 1000060) (hc : c ≤ 2) : (nI s / 3 + (if nI s - nI s / 3 * 3 ≤ nI c then 0 else 1)).toInt64 = lN (s / 3 + (if s % 3 ≤ c then 0 else 1)) := by
  rw [show nI s - nI s / 3 * 3 = nI (s % 3) from pk_rem (d := 3) (by omega) (by omega) (by omega), show nI s / 3 = nI (s / 3) from pk_div (d := 3) (by omega) (by omega) (by omega)]
  have hm : s % 3 < 3 := Nat.mod_lt _ (by omega)
  have hd : s / 3 ≤ 333353 := by omega
  by_cases h : s % 3 ≤ c
  · rw [if_pos h, if_pos ((nI_leI (by omega) (by omega)).mpr h), show nI (s / 3) + 0 = nI (s / 3 + 0) from nI_add _ 0, nI_l (by omega)]
  · rw [if_neg h, if_neg (fun q => h ((nI_leI (by omega) (by omega)).mp q)), show nI (s / 3) + 1 = nI (s / 3 + 1) from nI_add _ 1, nI_l (by omega)]
theorem th_M {s c : Nat} (hs : s ≤ 1000060) (hc : c ≤ 2) : lN s / 3 + (if lN s - lN s / 3 * 3 ≤ (nI c).toInt64 then 0 else 1) = lN (s / 3 + (if s % 3 ≤ c then 0 else 1)) := by
  rw [show lN s - lN s / 3 * 3 = lN (s % 3) from pk_lRem (b := 3) (by omega) (by omega) (by omega), show lN s / 3 = lN (s / 3) from pk_lDiv (b := 3) (by omega) (by omega) (by omega), nI_l (by omega)]
  have hm : s % 3 < 3 := Nat.mod_lt _ (by omega)
  by_cases h : s % 3 ≤ c
  · rw [if_pos h, if_pos ((pk_lLE (by omega) (by omega)).mpr h), show lN (s / 3) + 0 = lN (s / 3 + 0) from lN_add _ 0]
  · rw [if_neg h, if_neg (fun q => h ((pk_lLE (by omega) (by omega)).mp q)), lN_1]
def v_chg (v : V8) (s m0 m1 m2 : Nat) : V8 := (v.1, v.2.1, v.2.2.1, v.2.2.2.1, v.2.2.2.2.1, nI (CN s 0 m0), nI (CN s 1 m1), nI (CN s 2 m2))
