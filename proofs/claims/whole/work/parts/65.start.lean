/-! THE LAW FROM ITS ENTRY -/
theorem inv0 : Inv bk0 md0 := by
  refine ⟨⟨Nat.zero_le _, Nat.zero_le _, rfl, fun e he => absurd he (Nat.not_lt_zero _), ⟨[], rfl, Nat.zero_le _, fun i x hx => by simp at hx, List.Pairwise.nil, fun x => ⟨fun h => absurd h (List.not_mem_nil), fun h => absurd h.1 (Nat.not_lt_zero _)⟩⟩⟩, rfl, fun f hf => absurd hf (Nat.not_lt_zero _), fun k hk d => rfl⟩
set_option maxHeartbeats 4000000 in
set_option maxRecDepth 100000 in
theorem lw_E {p : Program} {s : State} {m : MethodId} {meth : Method} {c : Code} {b L : Nat} {xs : Nat → Int32} (C0 : lw_At p s m meth c b L xs) : ∃ (D : va_G) (K : Nat → ClassId), zw_E p s m #[Value.ref b] c cL_law 4 RL wsL_law D (zT K) (fun q => s.heap.size ≤ q) ∧ va_AOA .int s := by
  obtain ⟨hx, hc, hr, hml, hown, hts, hX, hbl, hlk, hgv⟩ := C0
  have ht2 : ∀ w ∈ wsL_law, w.before #[Value.ref b] s = true := fun w hw => hts w (wsL_law_in w hw)
  obtain ⟨c0, i0, k0⟩ := u_known (C := RX0) (T := TX0) (N := 14) (n := 14) ht2 inlX0 (ht2 _ (List.mem_of_getElem? (i := 13) rfl))
  obtain ⟨c1, i1, k1⟩ := u_known (C := RX1) (T := TX1) (N := 12) (n := 12) ht2 inlX1 (ht2 _ (List.mem_of_getElem? (i := 17) rfl))
  obtain ⟨c2, i2, k2⟩ := u_known (C := RX2) (T := TX2) (N := 3) (n := 3) ht2 inlX2 (ht2 _ (List.mem_of_getElem? (i := 1) rfl))
  obtain ⟨c3, i3, k3⟩ := u_known (C := RX3) (T := TX3) (N := 23) (n := 23) ht2 inlX3 (ht2 _ (List.mem_of_getElem? (i := 4) rfl))
  obtain ⟨a0, t0, p0, e0, f0, g0⟩ := Cond.arrayClass_spec (hts (.arrayClass .int) (by decide +kernel))
  obtain ⟨a1, t1, p1, e1, f1, g1⟩ := Cond.arrayClass_spec (hts (.arrayClass .boolean) (by decide +kernel))
  obtain ⟨a2, t2, p2, e2, f2, g2⟩ := Cond.arrayClass_spec (hts (.arrayClass .long) (by decide +kernel))
  have hao : (Cond.arrayOver (.array .int)).before #[Value.ref b] s = true := hts _ (by decide +kernel)
  obtain ⟨p3, a3, t3, -, -, f3, g3, e3⟩ := Stand.arrayOver_specB hao
  refine ⟨(fun k => match k with | 0 => c0 | 1 => c1 | 2 => c2 | _ => c3, fun k => match k with | 0 => i0 | 1 => i1 | 2 => i2 | _ => i3), fun k => match k with | 0 => a0 | 1 => a1 | 2 => a2 | _ => a3, ⟨hx, hc, hml, hown, ht2, ⟨fun k q hq => ?_, fun k q hq => ?_⟩, fun q h => h, va_Nw.of rfl (hts (.methodLinkNest RX2 9 yX0_init "TitheMap") (by decide +kernel)), va_Nw.of rfl (hts (.methodLinkNest RX0 56 yX2_at "TitheMap") (by decide +kernel)), va_Nw.of rfl (hts (.methodLinkNest RX1 63 yX2_at "TitheMap") (by decide +kernel))⟩, va_AOA.of hao⟩
  · match k, hq with
    | 0, hq => cases hq; exact k0
    | 1, hq => cases hq; exact k1
    | 2, hq => cases hq; exact k2
    | 3, hq => cases hq; exact k3
    | n + 4, hq => simp at hq
  · match k, hq with
    | 0, hq => cases hq; exact ⟨fun n z => ⟨fun k h => (by cases h), t0, f0, p0, g0⟩, e0⟩
    | 1, hq => cases hq; exact ⟨fun n z => ⟨fun k h => (by cases h), t1, f1, p1, g1⟩, e1⟩
    | 2, hq => cases hq; exact ⟨fun n z => ⟨fun k h => (by cases h), t2, f2, p2, g2⟩, e2⟩
    | 3, hq => cases hq; exact ⟨fun n z => ⟨fun k h => (by cases h), t3, f3, p3, g3⟩, e3⟩
    | n + 4, hq => simp [zT] at hq
set_option maxHeartbeats 4000000 in
set_option maxRecDepth 100000 in
theorem law_open {p : Program} {l : Launch} {e : Env} {s : State} {m : MethodId} {below : List Frame} {meth : Method} {c : Code} {D : va_G} {K : Nat → ClassId} {A : Nat → Prop} {bs L : Nat} {xs : Nat → Int32} (E : zw_E p s m #[.ref bs] c cL_law 4 RL wsL_law D (zT K) A) (hao : va_AOA .int s) (hr : meth.sig.returnType = ret) (hlk : meth.locks = false) (hAs : ∀ q, A q → s.heap.size ≤ q) (hX : va_X bs L xs s s.heap) (hbl : bs < s.heap.size) (hbA : ¬ A bs) (hL : L ≤ 2560) : zw_W p l e room_1 s m #[.ref bs] below meth c 4 D A 0 0 (lw_Z below #[.ref bs] s) 0 [(0, .ref bs)] [] [] := by
  refine zw_new (ci := 2) (fs := [.null, .null, .null]) E inlX2 tyX2_ok (List.mem_of_getElem? (i := 0) rfl) (List.mem_of_getElem? (i := 1) rfl) (List.mem_of_getElem? (i := 2) rfl) rfl (fun j hj => match j, hj with | 0, _ => rfl | 1, _ => rfl | 2, _ => rfl | (n + 3), h => absurd h (by omega)) (Nat.le_of_ble_eq_true rfl) (Nat.le_of_ble_eq_true rfl) dL_law_0 (pc' := 3) rfl (fun a0 => ?_)
  refine zw_ws (ws' := [(a0, .inr (2, [.null, .null, .null]))]) rfl ?_
  refine zw_dup E dL_law_3 rfl (pc' := 4) rfl ?_
  refine zw_callC E hao (As := []) (rest := [.ref a0]) (wr := []) (qX2_init l D K a0) (cwI 0 E.2.2.2.2.1 gL_law_X2_init rfl rfl rfl (E.2.2.2.2.1 _ (List.mem_of_getElem? (i := 2) rfl)) (E.2.2.2.2.1 (.methodLink RL 9 yX2_init) (List.mem_of_getElem? (i := 6) rfl)) (E.2.2.2.2.1 _ (List.mem_of_getElem? (i := 7) rfl)) rfl (by decide +kernel) ⟨Nat.le_of_ble_eq_true rfl, Nat.le_of_ble_eq_true rfl⟩) [0] [] (by decide) rfl rfl (by decide) (by decide) rfl rfl (Nat.le_of_ble_eq_true rfl) ⟨Nat.le_of_ble_eq_true rfl, Nat.le_of_ble_eq_true rfl⟩ dL_law_4 (pc' := 7) rfl (fun u => ?_)
  refine zw_astore_n (i := 1) (x := a0) (lv' := [(1, .ref a0), (0, .ref bs)]) E dL_law_7 rfl (by decide) rfl (pc' := 8) rfl ?_
  refine zw_new (ci := 3) (fs := [.int 0, .int 0, .null, .null, .null, .null, .null, .null, .null, .null, .null, .null, .null, .null, .null, .null, .null, .null, .null, .int 0, .null, .null, .null]) E inlX3 tyX3_ok (List.mem_of_getElem? (i := 3) rfl) (List.mem_of_getElem? (i := 4) rfl) (List.mem_of_getElem? (i := 5) rfl) rfl (fun j hj => match j, hj with | 0, _ => rfl | 1, _ => rfl | 2, _ => rfl | 3, _ => rfl | 4, _ => rfl | 5, _ => rfl | 6, _ => rfl | 7, _ => rfl | 8, _ => rfl | 9, _ => rfl | 10, _ => rfl | 11, _ => rfl | 12, _ => rfl | 13, _ => rfl | 14, _ => rfl | 15, _ => rfl | 16, _ => rfl | 17, _ => rfl | 18, _ => rfl | 19, _ => rfl | 20, _ => rfl | 21, _ => rfl | 22, _ => rfl | (n + 23), h => absurd h (by omega)) (Nat.le_of_ble_eq_true rfl) (Nat.le_of_ble_eq_true rfl) dL_law_8 (pc' := 11) rfl (fun a1 => ?_)
  refine zw_dup E dL_law_11 rfl (pc' := 12) rfl ?_
  refine zw_callC E hao (As := []) (rest := [.ref a1]) (wr := tm_W K a0 (fun i => u (3 * i)) (fun i => u (3 * i + 1)) (fun i => u (3 * i + 2)) bk0 ld0 ld0) (qX3_init l D K a1) (cwI 0 E.2.2.2.2.1 gL_law_X3_init rfl rfl rfl (E.2.2.2.2.1 _ (List.mem_of_getElem? (i := 5) rfl)) (E.2.2.2.2.1 (.methodLink RL 12 yX3_init) (by decide +kernel)) (E.2.2.2.2.1 _ (by decide +kernel)) rfl (by decide +kernel) ⟨Nat.le_of_ble_eq_true rfl, Nat.le_of_ble_eq_true rfl⟩) [41] [0, 1, 2, 3, 4, 5, 6, 7, 8, 9, 10, 11, 12, 13, 14, 15, 16, 17, 18, 19, 20, 21, 22, 23, 24, 25, 26, 27, 28, 29, 30, 31, 32, 33, 34, 35, 36, 37, 38, 39, 40] (by decide) rfl rfl (by decide) (by decide) rfl rfl (Nat.le_of_ble_eq_true rfl) ⟨Nat.le_of_ble_eq_true rfl, Nat.le_of_ble_eq_true rfl⟩ dL_law_12 (pc' := 15) rfl (fun v => ?_)
  refine zw_astore_n (i := 2) (x := a1) (lv' := [(2, .ref a1), (1, .ref a0), (0, .ref bs)]) E dL_law_15 rfl (by decide) rfl (pc' := 16) rfl ?_
  refine zw_iconst (v := 0) E dL_law_16 (by decide) (pc' := 17) rfl ?_
  refine zw_istore_n (i := 3) (x := 0) (lv' := [(3, .int 0), (2, .ref a1), (1, .ref a0), (0, .ref bs)]) E dL_law_17 rfl (by decide) rfl (pc' := 18) rfl ?_
  refine zw_sub [3, 2, 1, 0] (lv' := [(0, .ref bs), (1, .ref a0), (2, .ref a1), (3, .int 0)]) rfl ?_
  exact law_loop (K := K) (ab := fun i => u (3 * i)) (al := fun i => u (3 * i + 1)) (ao := fun i => u (3 * i + 2)) (am := aZ a1 v) E hr hlk hAs hX hbl hbA hL (L + 6) 0 bk0 ld0 ld0 md0 inv0 (by omega) (by omega)
/-- YOUR PART: from the entry, for every script of at most 2560 ints, the law comes to its end with true -/
theorem whole_start {p : Program} {e : Env} {s : State} {m : MethodId} {below : List Frame} {meth : Method} {c : Code} (l : Launch) {b L : Nat} {xs : Nat → Int32} (hL : L ≤ 2560) (C0 : lw_At p s m meth c b L xs) : W p l e room_1 s m #[Value.ref b] below meth c s.heap [] 0 0 (lw_Z below #[Value.ref b] s) (entryFrame m ([Value.ref b] : List Value).toArray 4) := by
  obtain ⟨D, K, E, hao⟩ := lw_E C0
  obtain ⟨hx, hc, hr, hml, hown, hts, hX, hbl, hlk, hgv⟩ := C0
  have hl := lv_entry [Value.ref b] (n := 4) (Nat.le_of_ble_eq_true rfl)
  rw [lg_entry_eq]
  exact law_open E hao hr hlk (fun q h => h) hX hbl (fun h => absurd h (by omega)) hL s.heap [] _ hl (fun k q hq => by simp at hq) ⟨fun i j p q hi => by simp at hi, fun k q hq => by simp at hq⟩ va_S.rf
