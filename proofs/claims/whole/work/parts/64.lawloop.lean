/-! THE LAW'S LOOP -/
theorem lw_j5 {L j : Nat} (hL : L ≤ 2560) (hj : j ≤ L + 5) (h : ¬ nI L - 5 < nI j) : j + 5 ≤ L := by
  have h1 := Int32.not_lt.mp h
  rw [Int32.le_iff_toInt_le, show (5 : Int32) = nI 5 from rfl, pk_sub_toInt (by omega) (by omega), nI_toInt (by omega)] at h1
  omega
set_option maxHeartbeats 4000000 in
set_option maxRecDepth 100000 in
theorem law_loop {p : Program} {l : Launch} {e : Env} {s : State} {m : MethodId} {below : List Frame} {meth : Method} {c : Code} {D : va_G} {K : Nat → ClassId} {A : Nat → Prop} {bs L : Nat} {xs : Nat → Int32} (E : zw_E p s m #[.ref bs] c cL_law 4 RL wsL_law D (zT K) A) (hr : meth.sig.returnType = ret) (hlk : meth.locks = false) (hAs : ∀ q, A q → s.heap.size ≤ q) (hX : va_X bs L xs s s.heap) (hbl : bs < s.heap.size) (hbA : ¬ A bs) (hL : L ≤ 2560) {a0 : Nat} {ab al ao am : Nat → Nat} : ∀ (fu j : Nat) (b : Bk) (d o : Ld) (g : Md), Inv b g → j ≤ L + 5 → L + 6 ≤ j + fu → zw_W p l e room_1 s m #[.ref bs] below meth c 4 D A 62 4116 (lw_Z below #[.ref bs] s) 18 [(0, .ref bs), (1, .ref a0), (2, .ref (am 0)), (3, .int (nI j))] [] (lw_W K a0 ab al ao am b d o g) := by
  intro fu
  induction fu with
  | zero => intro j b d o g h h1 h2; exact absurd h2 (by omega)
  | succ fu ih =>
    intro j b d o g h hjL hfu
    refine zw_iload_n (i := 3) (x := nI j) E 3 dL_law_18 rfl rfl (pc' := 19) rfl ?_
    refine zw_aload_n (i := 0) (x := bs) E 0 dL_law_19 rfl rfl (pc' := 20) rfl ?_
    refine zw_slen E hX hbl hbA dL_law_20 (pc' := 21) rfl ?_
    refine zw_iconst (v := 5) E dL_law_21 (by decide) (pc' := 22) rfl ?_
    refine zw_isub E dL_law_22 (pc' := 23) rfl ?_
    refine zw_icmp_gt (tgt := 817) E dL_law_23 (by decide) (pc' := 26) rfl (fun _ => ?_) (fun c1 => ?_)
    · refine zw_iconst (v := 1) E dL_law_817 (by decide) (pc' := 818) rfl ?_
      exact fun H locs ls h1 h2 h3 h4 => va_forget (fun q hq => hAs _ (h4.2.2 q hq)) (W.widen (by omega) (by omega) (lw_ret E.1 E.2.1 hr hlk dL_law_818))
    · have hj : j + 5 ≤ L := lw_j5 hL hjL c1
      refine zw_aload_n (i := 0) (x := bs) E 0 dL_law_26 rfl rfl (pc' := 27) rfl ?_
      refine zw_iload_n (i := 3) (x := nI j) E 3 dL_law_27 rfl rfl (pc' := 28) rfl ?_
      refine zw_sld E hX hbl hbA (j := j) (by omega) (by omega) dL_law_28 (pc' := 29) rfl ?_
      refine zw_bipush (v := 31) E dL_law_29 (by decide) (pc' := 31) rfl ?_
      refine zw_iand E dL_law_31 (pc' := 32) rfl ?_
      have kk : ∀ b2 d2 o2 g2, Inv b2 g2 → zw_W p l e room_1 s m #[.ref bs] below meth c 4 D A 62 4116 (lw_Z below #[.ref bs] s) 811 [(0, .ref bs), (1, .ref a0), (2, .ref (am 0)), (3, .int (nI j))] [] (lw_W K a0 ab al ao am b2 d2 o2 g2) := by
        intro b2 d2 o2 g2 h2
        refine zw_iinc (x := nI j) (v := nI (j + 5)) (lv' := [(3, .int (nI (j + 5))), (0, .ref bs), (1, .ref a0), (2, .ref (am 0))]) E 3 dL_law_811 rfl (by rw [show Int32.ofInt 5 = nI 5 by decide]; exact nI_add j 5) (by decide) rfl (pc' := 814) rfl ?_
        refine zw_goto (tgt := 18) E dL_law_814 (by decide) ?_
        refine zw_sub [1, 2, 3, 0] (lv' := [(0, .ref bs), (1, .ref a0), (2, .ref (am 0)), (3, .int (nI (j + 5)))]) rfl ?_
        exact ih (j + 5) b2 d2 o2 g2 h2 (by omega) (by omega)
      obtain ⟨v, hv, ev⟩ := pk_andE (xs j) (m := 31) 5 (by decide)
      refine zw_topi (x' := nI v) ev ?_
      by_cases s0 : v = 0
      · refine zw_tableIn (tgt := 116) (off := 84) E dL_law_32 (by rw [s0]; decide) (by rw [s0]; decide) (by rw [s0]; rfl) (by decide) ?_
        exact lc_price E hX hbl hbA hL hj h kk
      by_cases s1 : v = 1
      · refine zw_tableIn (tgt := 159) (off := 127) E dL_law_32 (by rw [s1]; decide) (by rw [s1]; decide) (by rw [s1]; rfl) (by decide) ?_
        exact lc_make E hX hbl hbA hL hj h kk
      by_cases s2 : v = 2
      · refine zw_tableIn (tgt := 212) (off := 180) E dL_law_32 (by rw [s2]; decide) (by rw [s2]; decide) (by rw [s2]; rfl) (by decide) ?_
        exact lc_part E hX hbl hbA hL hj h kk
      by_cases s3 : v = 3
      · refine zw_tableIn (tgt := 255) (off := 223) E dL_law_32 (by rw [s3]; decide) (by rw [s3]; decide) (by rw [s3]; rfl) (by decide) ?_
        exact lc_join E hX hbl hbA hL hj h kk
      by_cases s4 : v = 4
      · refine zw_tableIn (tgt := 298) (off := 266) E dL_law_32 (by rw [s4]; decide) (by rw [s4]; decide) (by rw [s4]; rfl) (by decide) ?_
        exact lc_sell E hX hbl hbA hL hj h kk
      by_cases s5 : v = 5
      · refine zw_tableIn (tgt := 341) (off := 309) E dL_law_32 (by rw [s5]; decide) (by rw [s5]; decide) (by rw [s5]; rfl) (by decide) ?_
        exact lc_settle E hX hbl hbA hL hj h kk
      by_cases s6 : v = 6
      · refine zw_tableIn (tgt := 374) (off := 342) E dL_law_32 (by rw [s6]; decide) (by rw [s6]; decide) (by rw [s6]; rfl) (by decide) ?_
        exact lc_buy E hX hbl hbA hL hj h kk
      by_cases s7 : v = 7
      · refine zw_tableIn (tgt := 407) (off := 375) E dL_law_32 (by rw [s7]; decide) (by rw [s7]; decide) (by rw [s7]; rfl) (by decide) ?_
        exact lc_average E hX hbl hbA hL hj h kk
      by_cases s8 : v = 8
      · refine zw_tableIn (tgt := 450) (off := 418) E dL_law_32 (by rw [s8]; decide) (by rw [s8]; decide) (by rw [s8]; rfl) (by decide) ?_
        exact lc_look E hX hbl hbA hL hj h kk
      by_cases s9 : v = 9
      · refine zw_tableIn (tgt := 503) (off := 471) E dL_law_32 (by rw [s9]; decide) (by rw [s9]; decide) (by rw [s9]; rfl) (by decide) ?_
        exact lc_money E hX hbl hbA hL hj h kk
      by_cases s10 : v = 10
      · refine zw_tableIn (tgt := 547) (off := 515) E dL_law_32 (by rw [s10]; decide) (by rw [s10]; decide) (by rw [s10]; rfl) (by decide) ?_
        exact lc_owed E hX hbl hbA hL hj h kk
      by_cases s11 : v = 11
      · refine zw_tableIn (tgt := 591) (off := 559) E dL_law_32 (by rw [s11]; decide) (by rw [s11]; decide) (by rw [s11]; rfl) (by decide) ?_
        exact lc_parish E hX hbl hbA hL hj h kk
      by_cases s12 : v = 12
      · refine zw_tableIn (tgt := 635) (off := 603) E dL_law_32 (by rw [s12]; decide) (by rw [s12]; decide) (by rw [s12]; rfl) (by decide) ?_
        exact lc_cost E hX hbl hbA hL hj h kk
      by_cases s13 : v = 13
      · refine zw_tableIn (tgt := 669) (off := 637) E dL_law_32 (by rw [s13]; decide) (by rw [s13]; decide) (by rw [s13]; rfl) (by decide) ?_
        exact lc_field E hX hbl hbA hL hj h kk
      by_cases s14 : v = 14
      · refine zw_tableIn (tgt := 702) (off := 670) E dL_law_32 (by rw [s14]; decide) (by rw [s14]; decide) (by rw [s14]; rfl) (by decide) ?_
        exact lc_differ E hX hbl hbA hL hj h kk
      by_cases s15 : v = 15
      · refine zw_tableIn (tgt := 755) (off := 723) E dL_law_32 (by rw [s15]; decide) (by rw [s15]; decide) (by rw [s15]; rfl) (by decide) ?_
        exact lc_entry E hX hbl hbA hL hj h kk
      by_cases s16 : v = 16
      · refine zw_tableIn (tgt := 788) (off := 756) E dL_law_32 (by rw [s16]; decide) (by rw [s16]; decide) (by rw [s16]; rfl) (by decide) ?_
        exact lc_count E hX hbl hbA hL hj h kk
      refine zw_tableOut (tgt := 811) E dL_law_32 (by rw [nI_toInt (by omega)]; omega) (by decide) ?_
      exact kk b d o g h
