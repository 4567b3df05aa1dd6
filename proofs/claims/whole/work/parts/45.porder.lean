/-! PURE: the order of the acts, filed and withdrawn -/
theorem fd_pos_spec (b : Bk) (dy : Int32) : ∀ n, fd_pos b dy n ≤ n ∧ (∀ j, fd_pos b dy n ≤ j → j < n → ¬ z_at 80 (b.1 1) (b.1 8 j) ≤ dy) ∧ (∀ p, fd_pos b dy n = p + 1 → z_at 80 (b.1 1) (b.1 8 p) ≤ dy)
  | 0 => ⟨Nat.le_refl 0, fun j _ h => absurd h (Nat.not_lt_zero j), fun p h => by
    have : fd_pos b dy 0 = 0 := rfl
    omega⟩
  | n + 1 => by
    obtain ⟨i1, i2, i3⟩ := fd_pos_spec b dy n
    rw [fd_pos]
    by_cases c : z_at 80 (b.1 1) (b.1 8 n) ≤ dy
    · rw [if_pos c]
      refine ⟨Nat.le_refl _, fun j h1 h2 => absurd h2 (by omega), fun p hp => ?_⟩
      have : p = n := by omega
      subst this
      exact c
    · rw [if_neg c]
      refine ⟨by omega, fun j h1 h2 => ?_, i3⟩
      rcases Nat.lt_or_ge j n with z | z
      · exact i2 j h1 z
      · have : j = n := by omega
        subst this
        exact c
theorem file_8 (b : Bk) (k i : Nat) : (fd_end b k).1 8 i = if i = k then nI (b.2 1) else if k < i ∧ i ≤ b.2 0 then b.1 8 (i - 1) else b.1 8 i := by
  show up2 (fd_sh b k).1 8 k (nI (b.2 1)) 8 i = _
  unfold up2
  rw [if_pos rfl]
  rfl
theorem file_r (b : Bk) (k r : Nat) (h : ¬ r = 8) : (fd_end b k).1 r = b.1 r := by
  show up2 (fd_sh b k).1 8 k (nI (b.2 1)) r = _
  unfold up2
  rw [if_neg h]
  exact if_neg h
theorem bfile_r (b : Bk) (r : Nat) (h : ¬ r = 8) : (bk_file b).1 r = b.1 r := file_r b _ r h
theorem OR_file {b : Bk} {N : Nat} (hN : b.2 1 = N) (h80 : N < 80) (hO : OR b N) (hs : ¬ b.1 0 N = 0) (hy : ∀ x, x ≤ N → ¬ b.1 0 x = 0 → ∃ y : Nat, y ≤ 200 ∧ b.1 1 x = nI y) : OR (bk_file b) (N + 1) := by
  obtain ⟨O, o1, o2, o3, o4, o5⟩ := hO
  obtain ⟨dy, hdy, edy⟩ := hy N (Nat.le_refl N) hs
  have eD : z_at 80 (b.1 1) (nI (b.2 1)) = nI dy := by
    rw [hN, zat h80 (by decide)]
    exact edy
  unfold bk_file
  rw [eD]
  obtain ⟨p1, p2, p3⟩ := fd_pos_spec b (nI dy) (b.2 0)
  generalize fd_pos b (nI dy) (b.2 0) = p at *
  have yr : ∀ x, x ∈ O → x < N ∧ ¬ b.1 0 x = 0 ∧ ∃ y : Nat, y ≤ 200 ∧ b.1 1 x = nI y := fun x hx => by
    obtain ⟨h1, h2⟩ := (o5 x).mp hx
    exact ⟨h1, h2, hy x (by omega) h2⟩
  have at8 : ∀ j x, O[j]? = some x → z_at 80 (b.1 1) (b.1 8 j) = b.1 1 x := fun j x hx => by
    rw [o3 j x hx, zat (show x < 80 by have := (yr x (List.mem_of_getElem? hx)).1; omega) (by decide)]
  have hbef : ∀ x, x ∈ O.take p → yrB b x ≤ dy := fun x hx => by
    obtain ⟨i, hi⟩ := List.getElem?_of_mem hx
    have hip : i < p := by
      have := (List.getElem?_eq_some_iff.mp hi).1
      rw [List.length_take] at this
      omega
    rw [List.getElem?_take_of_lt hip] at hi
    obtain ⟨q, rfl⟩ : ∃ q, p = q + 1 := ⟨p - 1, by omega⟩
    obtain ⟨z, hz⟩ : ∃ z, O[q]? = some z := ⟨O[q]'(by omega), List.getElem?_eq_getElem (by omega)⟩
    have h3 := p3 q rfl
    rw [at8 q z hz] at h3
    obtain ⟨z1, -, yz, hyz, ez⟩ := yr z (List.mem_of_getElem? hz)
    rw [ez] at h3
    have h4 := (nI_leI (by omega) (by omega)).mp h3
    obtain ⟨x1, -, yx, hyx, ex⟩ := yr x (List.mem_of_getElem? hi)
    have h5 : yrB b x = yx := by
      unfold yrB
      rw [ex, nI_clamp (by omega)]
    have h6 : yrB b z = yz := by
      unfold yrB
      rw [ez, nI_clamp (by omega)]
    rcases Nat.lt_or_ge i q with c | c
    · have h7 := List.pairwise_iff_getElem.mp o4 i q (by omega) (by omega) c
      rw [show O[i]'(by omega) = x from (List.getElem?_eq_some_iff.mp hi).2, show O[q]'(by omega) = z from (List.getElem?_eq_some_iff.mp hz).2] at h7
      unfold ltE at h7
      omega
    · have e : i = q := by omega
      subst e
      rw [hz] at hi
      have e2 : z = x := Option.some.inj hi
      subst e2
      omega
  have haft : ∀ x, x ∈ O.drop p → dy < yrB b x := fun x hx => by
    obtain ⟨i, hi⟩ := List.getElem?_of_mem hx
    rw [List.getElem?_drop] at hi
    have hlt := (List.getElem?_eq_some_iff.mp hi).1
    have h3 := p2 (p + i) (by omega) (by omega)
    rw [at8 _ x hi] at h3
    obtain ⟨x1, -, yx, hyx, ex⟩ := yr x (List.mem_of_getElem? hi)
    rw [ex] at h3
    have h5 : yrB b x = yx := by
      unfold yrB
      rw [ex, nI_clamp (by omega)]
    rcases Nat.lt_or_ge dy yx with c | c
    · omega
    · exact absurd (nI_le c (by omega)) h3
  have eyr : ∀ x, yrB (fd_end b p) x = yrB b x := fun x => by
    unfold yrB
    rw [file_r b p 1 (by decide)]
  have eyN : yrB b N = dy := by
    unfold yrB
    rw [edy, nI_clamp (by omega)]
  refine ⟨O.take p ++ N :: O.drop p, ?_, ?_, ?_, ?_, ?_⟩
  · rw [List.length_append, List.length_cons, List.length_take, List.length_drop]
    show min p O.length + (O.length - p + 1) = b.2 0 + 1
    omega
  · rw [List.length_append, List.length_cons, List.length_take, List.length_drop]
    omega
  · intro i x hx
    rw [file_8]
    have hlen : (O.take p).length = p := by rw [List.length_take]; omega
    rcases Nat.lt_or_ge i p with c | c
    · rw [List.getElem?_append_left (by omega), List.getElem?_take_of_lt c] at hx
      rw [if_neg (by omega), if_neg (by omega)]
      exact o3 i x hx
    · rw [List.getElem?_append_right (by omega), hlen] at hx
      by_cases e : i = p
      · subst e
        rw [Nat.sub_self] at hx
        rw [if_pos rfl, hN]
        have : N = x := Option.some.inj hx
        rw [this]
      · obtain ⟨q, hq⟩ : ∃ q, i - p = q + 1 := ⟨i - p - 1, by omega⟩
        rw [hq, List.getElem?_cons_succ, List.getElem?_drop] at hx
        have hlt := (List.getElem?_eq_some_iff.mp hx).1
        rw [if_neg e, if_pos (by omega), show i - 1 = p + q by omega]
        exact o3 _ x hx
  · have ee : (yrB (fd_end b p)) = yrB b := funext eyr
    rw [ee]
    refine List.pairwise_append.mpr ⟨o4.sublist (List.take_sublist p O), List.pairwise_cons.mpr ⟨fun x hx => Or.inl ?_, o4.sublist (List.drop_sublist p O)⟩, fun x hx z hz => ?_⟩
    · rw [eyN]
      exact haft x hx
    · rcases List.mem_cons.mp hz with w | w
      · subst w
        have h1 := hbef x hx
        have h2 := (yr x (List.mem_of_mem_take hx)).1
        unfold ltE
        rw [eyN]
        omega
      · have h1 := hbef x hx
        have h2 := haft z w
        exact Or.inl (by omega)
  · intro x
    have e0 : (fd_end b p).1 0 x = b.1 0 x := by rw [file_r b p 0 (by decide)]
    rw [e0]
    have hmem : x ∈ O.take p ++ N :: O.drop p ↔ x ∈ O ∨ x = N := by
      rw [List.mem_append, List.mem_cons]
      constructor
      · rintro (w | w | w)
        · exact Or.inl (List.mem_of_mem_take w)
        · exact Or.inr w
        · exact Or.inl (List.mem_of_mem_drop w)
      · rintro (w | w)
        · rw [← List.take_append_drop p O, List.mem_append] at w
          rcases w with w | w
          · exact Or.inl w
          · exact Or.inr (Or.inr w)
        · exact Or.inr (Or.inl w)
    rw [hmem, o5 x]
    constructor
    · rintro (⟨h1, h2⟩ | h1)
      · exact ⟨by omega, h2⟩
      · subst h1
        exact ⟨by omega, hs⟩
    · rintro ⟨h1, h2⟩
      by_cases e : x = N
      · exact Or.inr e
      · exact Or.inl ⟨by omega, h2⟩
def neB (N x : Nat) : Bool := decide (¬ x = N)
theorem wd_spec {o : Nat → Int32} {N : Nat} (hN : N < 80) {L : List Nat} (hL : ∀ i x, L[i]? = some x → o i = nI x ∧ x < 81) : ∀ i, i ≤ L.length → (wd o (nI N) i).1 = ((L.take i).filter (neB N)).length ∧ (∀ c z, ((L.take i).filter (neB N))[c]? = some z → (wd o (nI N) i).2 c = nI z) ∧ ∀ j, i ≤ j → (wd o (nI N) i).2 j = o j
  | 0, _ => ⟨by rw [List.take_zero]; rfl, fun c z h => by rw [List.take_zero] at h; simp at h, fun _ _ => rfl⟩
  | i + 1, hi => by
    obtain ⟨h1, h2, h3⟩ := wd_spec hN hL i (by omega)
    obtain ⟨x, hx⟩ : ∃ x, L[i]? = some x := ⟨L[i]'(by omega), List.getElem?_eq_getElem (by omega)⟩
    obtain ⟨e1, e2⟩ := hL i x hx
    have et : L.take (i + 1) = L.take i ++ [x] := by
      rw [List.take_add_one, hx]
      rfl
    have ei : (wd o (nI N) i).2 i = nI x := (h3 i (Nat.le_refl i)).trans e1
    rw [wd, ei, et, List.filter_append]
    by_cases c : x = N
    · subst c
      have ef : [x].filter (neB x) = [] := by
        rw [List.filter_cons, if_neg (show ¬ neB x x = true from fun q => (of_decide_eq_true q) rfl)]
        rfl
      rw [if_pos rfl, ef, List.append_nil]
      exact ⟨h1, h2, fun j hj => h3 j (by omega)⟩
    · have ef : [x].filter (neB N) = [x] := by
        rw [List.filter_cons, if_pos (show neB N x = true from decide_eq_true c)]
        rfl
      rw [if_neg (fun q => c ((nI_eq (by omega) (by omega)).mp q)), ef]
      have hle : (wd o (nI N) i).1 ≤ i := wd_le o (nI N) i
      refine ⟨?_, fun k z hz => ?_, fun j hj => ?_⟩
      · rw [List.length_append]
        show (wd o (nI N) i).1 + 1 = _
        rw [h1]
        rfl
      · show (if k = (wd o (nI N) i).1 then nI x else (wd o (nI N) i).2 k) = nI z
        by_cases e : k = (wd o (nI N) i).1
        · rw [if_pos e]
          rw [e, h1, List.getElem?_append_right (Nat.le_refl _), Nat.sub_self] at hz
          have : x = z := Option.some.inj hz
          rw [this]
        · rw [if_neg e]
          have hk : k < ((L.take i).filter (neB N)).length := by
            have := (List.getElem?_eq_some_iff.mp hz).1
            rw [List.length_append] at this
            have h9 : ([x] : List Nat).length = 1 := rfl
            omega
          rw [List.getElem?_append_left hk] at hz
          exact h2 k z hz
      · show (if j = (wd o (nI N) i).1 then nI x else (wd o (nI N) i).2 j) = o j
        rw [if_neg (by omega)]
        exact h3 j (by omega)
theorem wdraw_r (b : Bk) (r : Nat) (h : ¬ r = 8) : (bk_wdraw b).1 r = b.1 r := by
  show (if r = 8 then (wd (b.1 8) (nI (b.2 1)) (b.2 0)).2 else b.1 r) = b.1 r
  exact if_neg h
theorem OR_wdraw {b : Bk} {N : Nat} (hN : b.2 1 = N) (h80 : N < 80) (hO : OR b (N + 1)) (hs : ¬ b.1 0 N = 0) : OR (bk_wdraw b) N := by
  obtain ⟨O, o1, o2, o3, o4, o5⟩ := hO
  have hL : ∀ i x, O[i]? = some x → b.1 8 i = nI x ∧ x < 81 := fun i x hx => ⟨o3 i x hx, by
    have := ((o5 x).mp (List.mem_of_getElem? hx)).1
    omega⟩
  obtain ⟨w1, w2, -⟩ := wd_spec h80 hL O.length (Nat.le_refl _)
  rw [List.take_length] at w1 w2
  have eyr : yrB (bk_wdraw b) = yrB b := funext fun x => by
    unfold yrB
    rw [wdraw_r b 1 (by decide)]
  have hmem : N ∈ O := (o5 N).mpr ⟨by omega, hs⟩
  have hlt : (O.filter (neB N)).length < O.length := by
    rcases Nat.lt_or_ge (O.filter (neB N)).length O.length with c | c
    · exact c
    · exfalso
      have e : O.filter (neB N) = O := (List.filter_sublist (p := neB N) (l := O)).eq_of_length_le c
      have h9 : N ∈ O.filter (neB N) := by rw [e]; exact hmem
      exact of_decide_eq_true (List.mem_filter.mp h9).2 rfl
  refine ⟨O.filter (neB N), ?_, by omega, fun i x hx => ?_, ?_, fun x => ?_⟩
  · show _ = (wd (b.1 8) (nI (b.2 1)) (b.2 0)).1
    rw [hN, ← o1, w1]
  · show (if (8 : Nat) = 8 then (wd (b.1 8) (nI (b.2 1)) (b.2 0)).2 else b.1 8) i = nI x
    rw [if_pos rfl, hN, ← o1]
    exact w2 i x hx
  · rw [eyr]
    exact o4.filter _
  · rw [wdraw_r b 0 (by decide), List.mem_filter, o5 x]
    constructor
    · rintro ⟨⟨h1, h2⟩, h3⟩
      have := of_decide_eq_true h3
      exact ⟨by omega, h2⟩
    · rintro ⟨h1, h2⟩
      exact ⟨⟨by omega, h2⟩, decide_eq_true (by omega)⟩
