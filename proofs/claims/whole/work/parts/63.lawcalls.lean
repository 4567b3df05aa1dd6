/-! THE LAW: its world, its rows, a lemma a call -/
def lw_W (K : Nat → ClassId) (a0 : Nat) (ab al ao am : Nat → Nat) (b : Bk) (d o : Ld) (g : Md) : va_W := tm_W K a0 ab al ao b d o ++ md_W K am g
set_option maxRecDepth 20000 in
theorem emC_lw_t {K : Nat → ClassId} {a0 : Nat} {ab al ao am : Nat → Nat} {b : Bk} {d o : Ld} {g : Md} : ([0, 1, 2, 3, 4, 5, 6, 7, 8, 9, 10, 11, 12, 13, 14, 15, 16, 17, 18, 19, 20, 21, 22, 23, 24, 25, 26, 27, 28, 29, 30, 31, 32, 33, 34, 35, 36, 37, 38, 39, 40] : List Nat).map (fun i => (lw_W K a0 ab al ao am b d o g)[i]?) = (tm_W K a0 ab al ao b d o).map some := rfl
set_option maxRecDepth 20000 in
theorem emP_lw_t {K : Nat → ClassId} {a0 : Nat} {ab al ao am : Nat → Nat} {b b2 : Bk} {d d2 o o2 : Ld} {g : Md} : zw_put (lw_W K a0 ab al ao am b d o g) [0, 1, 2, 3, 4, 5, 6, 7, 8, 9, 10, 11, 12, 13, 14, 15, 16, 17, 18, 19, 20, 21, 22, 23, 24, 25, 26, 27, 28, 29, 30, 31, 32, 33, 34, 35, 36, 37, 38, 39, 40] (tm_W K a0 ab al ao b2 d2 o2) = lw_W K a0 ab al ao am b2 d2 o2 g := zw_put_seg (tm_W K a0 ab al ao b d o) (tm_W K a0 ab al ao b2 d2 o2) [] (md_W K am g) rfl
set_option maxRecDepth 20000 in
theorem emC_lw_m {K : Nat → ClassId} {a0 : Nat} {ab al ao am : Nat → Nat} {b : Bk} {d o : Ld} {g : Md} : ([41, 42, 43, 44, 45, 46, 47, 48, 49, 50, 51, 52, 53, 54, 55, 56, 57, 58, 59, 60, 61] : List Nat).map (fun i => (lw_W K a0 ab al ao am b d o g)[i]?) = (md_W K am g).map some := rfl
set_option maxRecDepth 20000 in
theorem emP_lw_m {K : Nat → ClassId} {a0 : Nat} {ab al ao am : Nat → Nat} {b : Bk} {d o : Ld} {g g2 : Md} : zw_put (lw_W K a0 ab al ao am b d o g) [41, 42, 43, 44, 45, 46, 47, 48, 49, 50, 51, 52, 53, 54, 55, 56, 57, 58, 59, 60, 61] (md_W K am g2) = lw_W K a0 ab al ao am b d o g2 := by
  have h := zw_put_seg (md_W K am g) (md_W K am g2) (tm_W K a0 ab al ao b d o) [] rfl
  rw [List.append_nil, List.append_nil] at h
  exact h
theorem kept_if {P : Prop} [Decidable P] {g a b : Md} (ha : kept g a) (hb : kept g b) : kept g (if P then a else b) := by
  split
  · exact ha
  · exact hb
theorem kept_look (g : Md) (k y f : Int32) : kept g (g_look g k y f) := kept_if (kept_if (kept_if (kept_works _ _ _ _) (kept.rf g)) (kept.rf g)) (kept.rf g)
theorem kept_money1 (g : Md) (k y f : Int32) : kept g (g_money1 g k y f) := kept_if (kept_if (kept_if (kept_works _ _ _ _) (kept.rf g)) (kept.rf g)) (kept.rf g)
theorem kept_owed (g : Md) (k y o : Int32) : kept g (g_owed g k y o) := kept_if (kept_if (kept_if (kept_works _ _ _ _) (kept.rf g)) (kept.rf g)) (kept.rf g)
theorem kept_parish (g : Md) (k y w : Int32) : kept g (g_parish g k y w) := kept_if (kept_if (kept_works _ _ _ _) (kept.rf g)) (kept.rf g)
theorem kept_cost (g : Md) (k x : Int32) : kept g (g_cost g k x) := kept_if (kept_if (kept_if (kept_works _ _ _ _) (kept.rf g)) (kept.rf g)) (kept.rf g)
theorem kept_differ (g : Md) (k k2 y i : Int32) : kept g (g_differ g k k2 y i) := kept_if (kept_if (kept_if (kept_if (((kept_works _ _ _ _).tr (kept_ws _ _ _)).tr (kept_works _ _ _ _)) (kept.rf g)) (kept.rf g)) (kept.rf g)) (kept.rf g)
section ZL
variable {p : Program} {l : Launch} {e : Env} {R : Room} {s : State} {m : MethodId} {args : Array Value} {below : List Frame} {meth : Method} {c : Code} {cells slots : Nat} {Q : State → Prop} {cc : ByteArray} {nL : Nat} {own : String} {Ts : List Cond} {D : va_G} {tys : List (ClassId × FieldType)} {A : Nat → Prop} {pc pc' : Nat} {lv lv' : List (Nat × Value)} {st : List Value} {ws ws' : va_W}
theorem zw_sld (E : zw_E p s m args c cc nL own Ts D tys A) {b L : Nat} {xs : Nat → Int32} (hX : va_X b L xs s s.heap) (hbl : b < s.heap.size) (hbA : ¬ A b) {j : Nat} (hlt : j < L) (hL : L < 2 ^ 31) (hdg : decode cc pc = .ok (.iaload, 1)) (hp : pc + 1 = pc') (k : zw_W p l e R s m args below meth c nL D A cells slots Q pc' lv (.int (xs j) :: st) ws) : zw_W p l e R s m args below meth c nL D A cells slots Q pc lv (.int (nI j) :: .ref b :: st) ws := by
  subst hp
  intro H locs ls h1 h2 h3 h4
  refine va_sld E.1 E.2.1 hX hbl hbA h4 (vp_in_nI hlt hL) hdg ?_
  rw [nI_clamp (by omega)]
  exact k H locs ls h1 h2 h3 h4
theorem zw_slen (E : zw_E p s m args c cc nL own Ts D tys A) {b L : Nat} {xs : Nat → Int32} (hX : va_X b L xs s s.heap) (hbl : b < s.heap.size) (hbA : ¬ A b) (hdg : decode cc pc = .ok (.arraylength, 1)) (hp : pc + 1 = pc') (k : zw_W p l e R s m args below meth c nL D A cells slots Q pc' lv (.int (nI L) :: st) ws) : zw_W p l e R s m args below meth c nL D A cells slots Q pc lv (.ref b :: st) ws := by
  subst hp
  exact fun H locs ls h1 h2 h3 h4 => va_slen E.1 E.2.1 hX hbl hbA h4 hdg (k H locs ls h1 h2 h3 h4)
end ZL
set_option maxHeartbeats 4000000 in
set_option maxRecDepth 100000 in
theorem lc_price {p : Program} {l : Launch} {e : Env} {s : State} {m : MethodId} {args : Array Value} {below : List Frame} {meth : Method} {c : Code} {Q : State → Prop} {D : va_G} {K : Nat → ClassId} {A : Nat → Prop} (E : zw_E p s m args c cL_law 4 RL wsL_law D (zT K) A) {bs L : Nat} {xs : Nat → Int32} (hX : va_X bs L xs s s.heap) (hbl : bs < s.heap.size) (hbA : ¬ A bs) (hL : L ≤ 2560) {j : Nat} (hj : j + 5 ≤ L) {a0 : Nat} {ab al ao am : Nat → Nat} {b : Bk} {d o : Ld} {g : Md} (h : Inv b g) (kk : ∀ b2 d2 o2 g2, Inv b2 g2 → zw_W p l e room_1 s m args below meth c 4 D A 62 4116 Q 811 [(0, .ref bs), (1, .ref a0), (2, .ref (am 0)), (3, .int (nI j))] [] (lw_W K a0 ab al ao am b2 d2 o2 g2)) : zw_W p l e room_1 s m args below meth c 4 D A 62 4116 Q 116 [(0, .ref bs), (1, .ref a0), (2, .ref (am 0)), (3, .int (nI j))] [] (lw_W K a0 ab al ao am b d o g) := by
  have h8 : g.2.2.1 0 ≤ 80 := by rw [h.2.1]; exact h.1.1
  have h6 : g.2.2.1 1 ≤ 60 := by rw [h.1.2.2.1]; exact h.1.2.1
  refine zw_aload_n (i := 1) (x := a0) E 1 dL_law_116 rfl rfl (pc' := 117) rfl ?_
  refine zw_aload_n (i := 0) (x := bs) E 0 dL_law_117 rfl rfl (pc' := 118) rfl ?_
  refine zw_iload_n (i := 3) (x := nI j) E 3 dL_law_118 rfl rfl (pc' := 119) rfl ?_
  refine zw_iconst (v := 1) E dL_law_119 (by decide) (pc' := 120) rfl ?_
  refine zw_iadd E dL_law_120 (pc' := 121) rfl ?_
  refine zw_topi (x' := nI (j + 1)) (nI_add j 1) ?_
  refine zw_sld E hX hbl hbA (j := j + 1) (by omega) (by omega) dL_law_121 (pc' := 122) rfl ?_
  refine zw_aload_n (i := 0) (x := bs) E 0 dL_law_122 rfl rfl (pc' := 123) rfl ?_
  refine zw_iload_n (i := 3) (x := nI j) E 3 dL_law_123 rfl rfl (pc' := 124) rfl ?_
  refine zw_iconst (v := 2) E dL_law_124 (by decide) (pc' := 125) rfl ?_
  refine zw_iadd E dL_law_125 (pc' := 126) rfl ?_
  refine zw_topi (x' := nI (j + 2)) (nI_add j 2) ?_
  refine zw_sld E hX hbl hbA (j := j + 2) (by omega) (by omega) dL_law_126 (pc' := 127) rfl ?_
  refine zw_aload_n (i := 0) (x := bs) E 0 dL_law_127 rfl rfl (pc' := 128) rfl ?_
  refine zw_iload_n (i := 3) (x := nI j) E 3 dL_law_128 rfl rfl (pc' := 129) rfl ?_
  refine zw_iconst (v := 3) E dL_law_129 (by decide) (pc' := 130) rfl ?_
  refine zw_iadd E dL_law_130 (pc' := 131) rfl ?_
  refine zw_topi (x' := nI (j + 3)) (nI_add j 3) ?_
  refine zw_sld E hX hbl hbA (j := j + 3) (by omega) (by omega) dL_law_131 (pc' := 132) rfl ?_
  refine zw_callIv E (r := r_price b (xs (j + 1)) (xs (j + 2)) (xs (j + 3))) (As := [.int (xs (j + 1)), .int (xs (j + 2)), .int (xs (j + 3))]) (rest := []) (ws' := (lw_W K a0 ab al ao am (b_price b (xs (j + 1)) (xs (j + 2)) (xs (j + 3))) d o g)) (qX2_price l D K a0 ab al ao b d o (xs (j + 1)) (xs (j + 2)) (xs (j + 3)) h.1.1 h.c1 h.1.2.1) (cwV 3 E.2.2.2.2.1 gL_law_X2_price rfl rfl rfl (by decide +kernel) ⟨Nat.le_of_ble_eq_true rfl, Nat.le_of_ble_eq_true rfl⟩) 0 rfl rfl rfl [0, 1, 2, 3, 4, 5, 6, 7, 8, 9, 10, 11, 12, 13, 14, 15, 16, 17, 18, 19, 20, 21, 22, 23, 24, 25, 26, 27, 28, 29, 30, 31, 32, 33, 34, 35, 36, 37, 38, 39, 40] (by decide) emC_lw_t (tm_ad _ _ _ _ _ _ _ _ _ _ _) emP_lw_t rfl rfl (Nat.le_of_ble_eq_true rfl) ⟨Nat.le_of_ble_eq_true rfl, Nat.le_of_ble_eq_true rfl⟩ dL_law_132 (pc' := 135) rfl ?_
  refine zw_aload_n (i := 2) (x := am 0) E 2 dL_law_135 rfl rfl (pc' := 136) rfl ?_
  refine zw_aload_n (i := 0) (x := bs) E 0 dL_law_136 rfl rfl (pc' := 137) rfl ?_
  refine zw_iload_n (i := 3) (x := nI j) E 3 dL_law_137 rfl rfl (pc' := 138) rfl ?_
  refine zw_iconst (v := 1) E dL_law_138 (by decide) (pc' := 139) rfl ?_
  refine zw_iadd E dL_law_139 (pc' := 140) rfl ?_
  refine zw_topi (x' := nI (j + 1)) (nI_add j 1) ?_
  refine zw_sld E hX hbl hbA (j := j + 1) (by omega) (by omega) dL_law_140 (pc' := 141) rfl ?_
  refine zw_aload_n (i := 0) (x := bs) E 0 dL_law_141 rfl rfl (pc' := 142) rfl ?_
  refine zw_iload_n (i := 3) (x := nI j) E 3 dL_law_142 rfl rfl (pc' := 143) rfl ?_
  refine zw_iconst (v := 2) E dL_law_143 (by decide) (pc' := 144) rfl ?_
  refine zw_iadd E dL_law_144 (pc' := 145) rfl ?_
  refine zw_topi (x' := nI (j + 2)) (nI_add j 2) ?_
  refine zw_sld E hX hbl hbA (j := j + 2) (by omega) (by omega) dL_law_145 (pc' := 146) rfl ?_
  refine zw_aload_n (i := 0) (x := bs) E 0 dL_law_146 rfl rfl (pc' := 147) rfl ?_
  refine zw_iload_n (i := 3) (x := nI j) E 3 dL_law_147 rfl rfl (pc' := 148) rfl ?_
  refine zw_iconst (v := 3) E dL_law_148 (by decide) (pc' := 149) rfl ?_
  refine zw_iadd E dL_law_149 (pc' := 150) rfl ?_
  refine zw_topi (x' := nI (j + 3)) (nI_add j 3) ?_
  refine zw_sld E hX hbl hbA (j := j + 3) (by omega) (by omega) dL_law_150 (pc' := 151) rfl ?_
  refine zw_callIv E (r := m_price g (xs (j + 1)) (xs (j + 2)) (xs (j + 3))) (As := [.int (xs (j + 1)), .int (xs (j + 2)), .int (xs (j + 3))]) (rest := [.int (r_price b (xs (j + 1)) (xs (j + 2)) (xs (j + 3)))]) (ws' := (lw_W K a0 ab al ao am (b_price b (xs (j + 1)) (xs (j + 2)) (xs (j + 3))) d o (g_price g (xs (j + 1)) (xs (j + 2)) (xs (j + 3))))) (qX3_price l D K am g h8 (xs (j + 1)) (xs (j + 2)) (xs (j + 3))) (cwV 3 E.2.2.2.2.1 gL_law_X3_price rfl rfl rfl (by decide +kernel) ⟨Nat.le_of_ble_eq_true rfl, Nat.le_of_ble_eq_true rfl⟩) 0 rfl rfl rfl [41, 42, 43, 44, 45, 46, 47, 48, 49, 50, 51, 52, 53, 54, 55, 56, 57, 58, 59, 60, 61] (by decide) emC_lw_m (md_ad _ _ _ _) emP_lw_m rfl rfl (Nat.le_of_ble_eq_true rfl) ⟨Nat.le_of_ble_eq_true rfl, Nat.le_of_ble_eq_true rfl⟩ dL_law_151 (pc' := 154) rfl ?_
  refine zw_icmp_eq (tgt := 811) E dL_law_154 (by decide) (pc' := 157) rfl (fun _ => ?_) (fun q => absurd ((q_price h (xs (j + 1)) (xs (j + 2)) (xs (j + 3))).1) q)
  exact kk _ _ _ _ ((q_price h (xs (j + 1)) (xs (j + 2)) (xs (j + 3))).2)
set_option maxHeartbeats 4000000 in
set_option maxRecDepth 100000 in
theorem lc_make {p : Program} {l : Launch} {e : Env} {s : State} {m : MethodId} {args : Array Value} {below : List Frame} {meth : Method} {c : Code} {Q : State → Prop} {D : va_G} {K : Nat → ClassId} {A : Nat → Prop} (E : zw_E p s m args c cL_law 4 RL wsL_law D (zT K) A) {bs L : Nat} {xs : Nat → Int32} (hX : va_X bs L xs s s.heap) (hbl : bs < s.heap.size) (hbA : ¬ A bs) (hL : L ≤ 2560) {j : Nat} (hj : j + 5 ≤ L) {a0 : Nat} {ab al ao am : Nat → Nat} {b : Bk} {d o : Ld} {g : Md} (h : Inv b g) (kk : ∀ b2 d2 o2 g2, Inv b2 g2 → zw_W p l e room_1 s m args below meth c 4 D A 62 4116 Q 811 [(0, .ref bs), (1, .ref a0), (2, .ref (am 0)), (3, .int (nI j))] [] (lw_W K a0 ab al ao am b2 d2 o2 g2)) : zw_W p l e room_1 s m args below meth c 4 D A 62 4116 Q 159 [(0, .ref bs), (1, .ref a0), (2, .ref (am 0)), (3, .int (nI j))] [] (lw_W K a0 ab al ao am b d o g) := by
  have h8 : g.2.2.1 0 ≤ 80 := by rw [h.2.1]; exact h.1.1
  have h6 : g.2.2.1 1 ≤ 60 := by rw [h.1.2.2.1]; exact h.1.2.1
  refine zw_aload_n (i := 1) (x := a0) E 1 dL_law_159 rfl rfl (pc' := 160) rfl ?_
  refine zw_aload_n (i := 0) (x := bs) E 0 dL_law_160 rfl rfl (pc' := 161) rfl ?_
  refine zw_iload_n (i := 3) (x := nI j) E 3 dL_law_161 rfl rfl (pc' := 162) rfl ?_
  refine zw_iconst (v := 1) E dL_law_162 (by decide) (pc' := 163) rfl ?_
  refine zw_iadd E dL_law_163 (pc' := 164) rfl ?_
  refine zw_topi (x' := nI (j + 1)) (nI_add j 1) ?_
  refine zw_sld E hX hbl hbA (j := j + 1) (by omega) (by omega) dL_law_164 (pc' := 165) rfl ?_
  refine zw_aload_n (i := 0) (x := bs) E 0 dL_law_165 rfl rfl (pc' := 166) rfl ?_
  refine zw_iload_n (i := 3) (x := nI j) E 3 dL_law_166 rfl rfl (pc' := 167) rfl ?_
  refine zw_iconst (v := 2) E dL_law_167 (by decide) (pc' := 168) rfl ?_
  refine zw_iadd E dL_law_168 (pc' := 169) rfl ?_
  refine zw_topi (x' := nI (j + 2)) (nI_add j 2) ?_
  refine zw_sld E hX hbl hbA (j := j + 2) (by omega) (by omega) dL_law_169 (pc' := 170) rfl ?_
  refine zw_aload_n (i := 0) (x := bs) E 0 dL_law_170 rfl rfl (pc' := 171) rfl ?_
  refine zw_iload_n (i := 3) (x := nI j) E 3 dL_law_171 rfl rfl (pc' := 172) rfl ?_
  refine zw_iconst (v := 3) E dL_law_172 (by decide) (pc' := 173) rfl ?_
  refine zw_iadd E dL_law_173 (pc' := 174) rfl ?_
  refine zw_topi (x' := nI (j + 3)) (nI_add j 3) ?_
  refine zw_sld E hX hbl hbA (j := j + 3) (by omega) (by omega) dL_law_174 (pc' := 175) rfl ?_
  refine zw_aload_n (i := 0) (x := bs) E 0 dL_law_175 rfl rfl (pc' := 176) rfl ?_
  refine zw_iload_n (i := 3) (x := nI j) E 3 dL_law_176 rfl rfl (pc' := 177) rfl ?_
  refine zw_iconst (v := 4) E dL_law_177 (by decide) (pc' := 178) rfl ?_
  refine zw_iadd E dL_law_178 (pc' := 179) rfl ?_
  refine zw_topi (x' := nI (j + 4)) (nI_add j 4) ?_
  refine zw_sld E hX hbl hbA (j := j + 4) (by omega) (by omega) dL_law_179 (pc' := 180) rfl ?_
  refine zw_callIv E (r := r_make1 b d (xs (j + 1)) (xs (j + 2)) (xs (j + 3)) (xs (j + 4))) (As := [.int (xs (j + 1)), .int (xs (j + 2)), .int (xs (j + 3)), .int (xs (j + 4))]) (rest := []) (ws' := (lw_W K a0 ab al ao am (b_make1 b d (xs (j + 1)) (xs (j + 2)) (xs (j + 3)) (xs (j + 4))) (d_make1 b d (xs (j + 1)) (xs (j + 2)) (xs (j + 3)) (xs (j + 4))) o g)) (qX2_make l D K a0 ab al ao b d o (xs (j + 1)) (xs (j + 2)) (xs (j + 3)) (xs (j + 4)) h.1.1 h.c1 h.1.2.1 (k_make h (xs (j + 1)) (xs (j + 2)) (xs (j + 3)) (xs (j + 4))).1) (cwV 4 E.2.2.2.2.1 gL_law_X2_make rfl rfl rfl (by decide +kernel) ⟨Nat.le_of_ble_eq_true rfl, Nat.le_of_ble_eq_true rfl⟩) 0 rfl rfl rfl [0, 1, 2, 3, 4, 5, 6, 7, 8, 9, 10, 11, 12, 13, 14, 15, 16, 17, 18, 19, 20, 21, 22, 23, 24, 25, 26, 27, 28, 29, 30, 31, 32, 33, 34, 35, 36, 37, 38, 39, 40] (by decide) emC_lw_t (tm_ad _ _ _ _ _ _ _ _ _ _ _) emP_lw_t rfl rfl (Nat.le_of_ble_eq_true rfl) ⟨Nat.le_of_ble_eq_true rfl, Nat.le_of_ble_eq_true rfl⟩ dL_law_180 (pc' := 183) rfl ?_
  refine zw_aload_n (i := 2) (x := am 0) E 2 dL_law_183 rfl rfl (pc' := 184) rfl ?_
  refine zw_aload_n (i := 0) (x := bs) E 0 dL_law_184 rfl rfl (pc' := 185) rfl ?_
  refine zw_iload_n (i := 3) (x := nI j) E 3 dL_law_185 rfl rfl (pc' := 186) rfl ?_
  refine zw_iconst (v := 1) E dL_law_186 (by decide) (pc' := 187) rfl ?_
  refine zw_iadd E dL_law_187 (pc' := 188) rfl ?_
  refine zw_topi (x' := nI (j + 1)) (nI_add j 1) ?_
  refine zw_sld E hX hbl hbA (j := j + 1) (by omega) (by omega) dL_law_188 (pc' := 189) rfl ?_
  refine zw_aload_n (i := 0) (x := bs) E 0 dL_law_189 rfl rfl (pc' := 190) rfl ?_
  refine zw_iload_n (i := 3) (x := nI j) E 3 dL_law_190 rfl rfl (pc' := 191) rfl ?_
  refine zw_iconst (v := 2) E dL_law_191 (by decide) (pc' := 192) rfl ?_
  refine zw_iadd E dL_law_192 (pc' := 193) rfl ?_
  refine zw_topi (x' := nI (j + 2)) (nI_add j 2) ?_
  refine zw_sld E hX hbl hbA (j := j + 2) (by omega) (by omega) dL_law_193 (pc' := 194) rfl ?_
  refine zw_aload_n (i := 0) (x := bs) E 0 dL_law_194 rfl rfl (pc' := 195) rfl ?_
  refine zw_iload_n (i := 3) (x := nI j) E 3 dL_law_195 rfl rfl (pc' := 196) rfl ?_
  refine zw_iconst (v := 3) E dL_law_196 (by decide) (pc' := 197) rfl ?_
  refine zw_iadd E dL_law_197 (pc' := 198) rfl ?_
  refine zw_topi (x' := nI (j + 3)) (nI_add j 3) ?_
  refine zw_sld E hX hbl hbA (j := j + 3) (by omega) (by omega) dL_law_198 (pc' := 199) rfl ?_
  refine zw_aload_n (i := 0) (x := bs) E 0 dL_law_199 rfl rfl (pc' := 200) rfl ?_
  refine zw_iload_n (i := 3) (x := nI j) E 3 dL_law_200 rfl rfl (pc' := 201) rfl ?_
  refine zw_iconst (v := 4) E dL_law_201 (by decide) (pc' := 202) rfl ?_
  refine zw_iadd E dL_law_202 (pc' := 203) rfl ?_
  refine zw_topi (x' := nI (j + 4)) (nI_add j 4) ?_
  refine zw_sld E hX hbl hbA (j := j + 4) (by omega) (by omega) dL_law_203 (pc' := 204) rfl ?_
  refine zw_callIv E (r := m_make1 g (xs (j + 1)) (xs (j + 2)) (xs (j + 3)) (xs (j + 4))) (As := [.int (xs (j + 1)), .int (xs (j + 2)), .int (xs (j + 3)), .int (xs (j + 4))]) (rest := [.int (r_make1 b d (xs (j + 1)) (xs (j + 2)) (xs (j + 3)) (xs (j + 4)))]) (ws' := (lw_W K a0 ab al ao am (b_make1 b d (xs (j + 1)) (xs (j + 2)) (xs (j + 3)) (xs (j + 4))) (d_make1 b d (xs (j + 1)) (xs (j + 2)) (xs (j + 3)) (xs (j + 4))) o (g_make1 g (xs (j + 1)) (xs (j + 2)) (xs (j + 3)) (xs (j + 4))))) (qX3_make l D K am g h8 h6 (xs (j + 1)) (xs (j + 2)) (xs (j + 3)) (xs (j + 4)) (k_make h (xs (j + 1)) (xs (j + 2)) (xs (j + 3)) (xs (j + 4))).2) (cwV 4 E.2.2.2.2.1 gL_law_X3_make rfl rfl rfl (by decide +kernel) ⟨Nat.le_of_ble_eq_true rfl, Nat.le_of_ble_eq_true rfl⟩) 0 rfl rfl rfl [41, 42, 43, 44, 45, 46, 47, 48, 49, 50, 51, 52, 53, 54, 55, 56, 57, 58, 59, 60, 61] (by decide) emC_lw_m (md_ad _ _ _ _) emP_lw_m rfl rfl (Nat.le_of_ble_eq_true rfl) ⟨Nat.le_of_ble_eq_true rfl, Nat.le_of_ble_eq_true rfl⟩ dL_law_204 (pc' := 207) rfl ?_
  refine zw_icmp_eq (tgt := 811) E dL_law_207 (by decide) (pc' := 210) rfl (fun _ => ?_) (fun q => absurd ((q_make h d (xs (j + 1)) (xs (j + 2)) (xs (j + 3)) (xs (j + 4))).1) q)
  exact kk _ _ _ _ ((q_make h d (xs (j + 1)) (xs (j + 2)) (xs (j + 3)) (xs (j + 4))).2)
set_option maxHeartbeats 4000000 in
set_option maxRecDepth 100000 in
theorem lc_part {p : Program} {l : Launch} {e : Env} {s : State} {m : MethodId} {args : Array Value} {below : List Frame} {meth : Method} {c : Code} {Q : State → Prop} {D : va_G} {K : Nat → ClassId} {A : Nat → Prop} (E : zw_E p s m args c cL_law 4 RL wsL_law D (zT K) A) {bs L : Nat} {xs : Nat → Int32} (hX : va_X bs L xs s s.heap) (hbl : bs < s.heap.size) (hbA : ¬ A bs) (hL : L ≤ 2560) {j : Nat} (hj : j + 5 ≤ L) {a0 : Nat} {ab al ao am : Nat → Nat} {b : Bk} {d o : Ld} {g : Md} (h : Inv b g) (kk : ∀ b2 d2 o2 g2, Inv b2 g2 → zw_W p l e room_1 s m args below meth c 4 D A 62 4116 Q 811 [(0, .ref bs), (1, .ref a0), (2, .ref (am 0)), (3, .int (nI j))] [] (lw_W K a0 ab al ao am b2 d2 o2 g2)) : zw_W p l e room_1 s m args below meth c 4 D A 62 4116 Q 212 [(0, .ref bs), (1, .ref a0), (2, .ref (am 0)), (3, .int (nI j))] [] (lw_W K a0 ab al ao am b d o g) := by
  have h8 : g.2.2.1 0 ≤ 80 := by rw [h.2.1]; exact h.1.1
  have h6 : g.2.2.1 1 ≤ 60 := by rw [h.1.2.2.1]; exact h.1.2.1
  refine zw_aload_n (i := 1) (x := a0) E 1 dL_law_212 rfl rfl (pc' := 213) rfl ?_
  refine zw_aload_n (i := 0) (x := bs) E 0 dL_law_213 rfl rfl (pc' := 214) rfl ?_
  refine zw_iload_n (i := 3) (x := nI j) E 3 dL_law_214 rfl rfl (pc' := 215) rfl ?_
  refine zw_iconst (v := 1) E dL_law_215 (by decide) (pc' := 216) rfl ?_
  refine zw_iadd E dL_law_216 (pc' := 217) rfl ?_
  refine zw_topi (x' := nI (j + 1)) (nI_add j 1) ?_
  refine zw_sld E hX hbl hbA (j := j + 1) (by omega) (by omega) dL_law_217 (pc' := 218) rfl ?_
  refine zw_aload_n (i := 0) (x := bs) E 0 dL_law_218 rfl rfl (pc' := 219) rfl ?_
  refine zw_iload_n (i := 3) (x := nI j) E 3 dL_law_219 rfl rfl (pc' := 220) rfl ?_
  refine zw_iconst (v := 2) E dL_law_220 (by decide) (pc' := 221) rfl ?_
  refine zw_iadd E dL_law_221 (pc' := 222) rfl ?_
  refine zw_topi (x' := nI (j + 2)) (nI_add j 2) ?_
  refine zw_sld E hX hbl hbA (j := j + 2) (by omega) (by omega) dL_law_222 (pc' := 223) rfl ?_
  refine zw_aload_n (i := 0) (x := bs) E 0 dL_law_223 rfl rfl (pc' := 224) rfl ?_
  refine zw_iload_n (i := 3) (x := nI j) E 3 dL_law_224 rfl rfl (pc' := 225) rfl ?_
  refine zw_iconst (v := 3) E dL_law_225 (by decide) (pc' := 226) rfl ?_
  refine zw_iadd E dL_law_226 (pc' := 227) rfl ?_
  refine zw_topi (x' := nI (j + 3)) (nI_add j 3) ?_
  refine zw_sld E hX hbl hbA (j := j + 3) (by omega) (by omega) dL_law_227 (pc' := 228) rfl ?_
  refine zw_callIv E (r := r_part1 b d (xs (j + 1)) (xs (j + 2)) (xs (j + 3))) (As := [.int (xs (j + 1)), .int (xs (j + 2)), .int (xs (j + 3))]) (rest := []) (ws' := (lw_W K a0 ab al ao am (b_part1 b d (xs (j + 1)) (xs (j + 2)) (xs (j + 3))) (d_part1 b d (xs (j + 1)) (xs (j + 2)) (xs (j + 3))) o g)) (qX2_part l D K a0 ab al ao b d o (xs (j + 1)) (xs (j + 2)) (xs (j + 3)) h.1.1 h.c1 h.1.2.1 (k_part h (xs (j + 1)) (xs (j + 2)) (xs (j + 3))).1) (cwV 3 E.2.2.2.2.1 gL_law_X2_part rfl rfl rfl (by decide +kernel) ⟨Nat.le_of_ble_eq_true rfl, Nat.le_of_ble_eq_true rfl⟩) 0 rfl rfl rfl [0, 1, 2, 3, 4, 5, 6, 7, 8, 9, 10, 11, 12, 13, 14, 15, 16, 17, 18, 19, 20, 21, 22, 23, 24, 25, 26, 27, 28, 29, 30, 31, 32, 33, 34, 35, 36, 37, 38, 39, 40] (by decide) emC_lw_t (tm_ad _ _ _ _ _ _ _ _ _ _ _) emP_lw_t rfl rfl (Nat.le_of_ble_eq_true rfl) ⟨Nat.le_of_ble_eq_true rfl, Nat.le_of_ble_eq_true rfl⟩ dL_law_228 (pc' := 231) rfl ?_
  refine zw_aload_n (i := 2) (x := am 0) E 2 dL_law_231 rfl rfl (pc' := 232) rfl ?_
  refine zw_aload_n (i := 0) (x := bs) E 0 dL_law_232 rfl rfl (pc' := 233) rfl ?_
  refine zw_iload_n (i := 3) (x := nI j) E 3 dL_law_233 rfl rfl (pc' := 234) rfl ?_
  refine zw_iconst (v := 1) E dL_law_234 (by decide) (pc' := 235) rfl ?_
  refine zw_iadd E dL_law_235 (pc' := 236) rfl ?_
  refine zw_topi (x' := nI (j + 1)) (nI_add j 1) ?_
  refine zw_sld E hX hbl hbA (j := j + 1) (by omega) (by omega) dL_law_236 (pc' := 237) rfl ?_
  refine zw_aload_n (i := 0) (x := bs) E 0 dL_law_237 rfl rfl (pc' := 238) rfl ?_
  refine zw_iload_n (i := 3) (x := nI j) E 3 dL_law_238 rfl rfl (pc' := 239) rfl ?_
  refine zw_iconst (v := 2) E dL_law_239 (by decide) (pc' := 240) rfl ?_
  refine zw_iadd E dL_law_240 (pc' := 241) rfl ?_
  refine zw_topi (x' := nI (j + 2)) (nI_add j 2) ?_
  refine zw_sld E hX hbl hbA (j := j + 2) (by omega) (by omega) dL_law_241 (pc' := 242) rfl ?_
  refine zw_aload_n (i := 0) (x := bs) E 0 dL_law_242 rfl rfl (pc' := 243) rfl ?_
  refine zw_iload_n (i := 3) (x := nI j) E 3 dL_law_243 rfl rfl (pc' := 244) rfl ?_
  refine zw_iconst (v := 3) E dL_law_244 (by decide) (pc' := 245) rfl ?_
  refine zw_iadd E dL_law_245 (pc' := 246) rfl ?_
  refine zw_topi (x' := nI (j + 3)) (nI_add j 3) ?_
  refine zw_sld E hX hbl hbA (j := j + 3) (by omega) (by omega) dL_law_246 (pc' := 247) rfl ?_
  refine zw_callIv E (r := m_part1 g (xs (j + 1)) (xs (j + 2)) (xs (j + 3))) (As := [.int (xs (j + 1)), .int (xs (j + 2)), .int (xs (j + 3))]) (rest := [.int (r_part1 b d (xs (j + 1)) (xs (j + 2)) (xs (j + 3)))]) (ws' := (lw_W K a0 ab al ao am (b_part1 b d (xs (j + 1)) (xs (j + 2)) (xs (j + 3))) (d_part1 b d (xs (j + 1)) (xs (j + 2)) (xs (j + 3))) o (g_part1 g (xs (j + 1)) (xs (j + 2)) (xs (j + 3))))) (qX3_part l D K am g h8 h6 (xs (j + 1)) (xs (j + 2)) (xs (j + 3)) (k_part h (xs (j + 1)) (xs (j + 2)) (xs (j + 3))).2) (cwV 3 E.2.2.2.2.1 gL_law_X3_part rfl rfl rfl (by decide +kernel) ⟨Nat.le_of_ble_eq_true rfl, Nat.le_of_ble_eq_true rfl⟩) 0 rfl rfl rfl [41, 42, 43, 44, 45, 46, 47, 48, 49, 50, 51, 52, 53, 54, 55, 56, 57, 58, 59, 60, 61] (by decide) emC_lw_m (md_ad _ _ _ _) emP_lw_m rfl rfl (Nat.le_of_ble_eq_true rfl) ⟨Nat.le_of_ble_eq_true rfl, Nat.le_of_ble_eq_true rfl⟩ dL_law_247 (pc' := 250) rfl ?_
  refine zw_icmp_eq (tgt := 811) E dL_law_250 (by decide) (pc' := 253) rfl (fun _ => ?_) (fun q => absurd ((q_part h d (xs (j + 1)) (xs (j + 2)) (xs (j + 3))).1) q)
  exact kk _ _ _ _ ((q_part h d (xs (j + 1)) (xs (j + 2)) (xs (j + 3))).2)
set_option maxHeartbeats 4000000 in
set_option maxRecDepth 100000 in
theorem lc_join {p : Program} {l : Launch} {e : Env} {s : State} {m : MethodId} {args : Array Value} {below : List Frame} {meth : Method} {c : Code} {Q : State → Prop} {D : va_G} {K : Nat → ClassId} {A : Nat → Prop} (E : zw_E p s m args c cL_law 4 RL wsL_law D (zT K) A) {bs L : Nat} {xs : Nat → Int32} (hX : va_X bs L xs s s.heap) (hbl : bs < s.heap.size) (hbA : ¬ A bs) (hL : L ≤ 2560) {j : Nat} (hj : j + 5 ≤ L) {a0 : Nat} {ab al ao am : Nat → Nat} {b : Bk} {d o : Ld} {g : Md} (h : Inv b g) (kk : ∀ b2 d2 o2 g2, Inv b2 g2 → zw_W p l e room_1 s m args below meth c 4 D A 62 4116 Q 811 [(0, .ref bs), (1, .ref a0), (2, .ref (am 0)), (3, .int (nI j))] [] (lw_W K a0 ab al ao am b2 d2 o2 g2)) : zw_W p l e room_1 s m args below meth c 4 D A 62 4116 Q 255 [(0, .ref bs), (1, .ref a0), (2, .ref (am 0)), (3, .int (nI j))] [] (lw_W K a0 ab al ao am b d o g) := by
  have h8 : g.2.2.1 0 ≤ 80 := by rw [h.2.1]; exact h.1.1
  have h6 : g.2.2.1 1 ≤ 60 := by rw [h.1.2.2.1]; exact h.1.2.1
  refine zw_aload_n (i := 1) (x := a0) E 1 dL_law_255 rfl rfl (pc' := 256) rfl ?_
  refine zw_aload_n (i := 0) (x := bs) E 0 dL_law_256 rfl rfl (pc' := 257) rfl ?_
  refine zw_iload_n (i := 3) (x := nI j) E 3 dL_law_257 rfl rfl (pc' := 258) rfl ?_
  refine zw_iconst (v := 1) E dL_law_258 (by decide) (pc' := 259) rfl ?_
  refine zw_iadd E dL_law_259 (pc' := 260) rfl ?_
  refine zw_topi (x' := nI (j + 1)) (nI_add j 1) ?_
  refine zw_sld E hX hbl hbA (j := j + 1) (by omega) (by omega) dL_law_260 (pc' := 261) rfl ?_
  refine zw_aload_n (i := 0) (x := bs) E 0 dL_law_261 rfl rfl (pc' := 262) rfl ?_
  refine zw_iload_n (i := 3) (x := nI j) E 3 dL_law_262 rfl rfl (pc' := 263) rfl ?_
  refine zw_iconst (v := 2) E dL_law_263 (by decide) (pc' := 264) rfl ?_
  refine zw_iadd E dL_law_264 (pc' := 265) rfl ?_
  refine zw_topi (x' := nI (j + 2)) (nI_add j 2) ?_
  refine zw_sld E hX hbl hbA (j := j + 2) (by omega) (by omega) dL_law_265 (pc' := 266) rfl ?_
  refine zw_aload_n (i := 0) (x := bs) E 0 dL_law_266 rfl rfl (pc' := 267) rfl ?_
  refine zw_iload_n (i := 3) (x := nI j) E 3 dL_law_267 rfl rfl (pc' := 268) rfl ?_
  refine zw_iconst (v := 3) E dL_law_268 (by decide) (pc' := 269) rfl ?_
  refine zw_iadd E dL_law_269 (pc' := 270) rfl ?_
  refine zw_topi (x' := nI (j + 3)) (nI_add j 3) ?_
  refine zw_sld E hX hbl hbA (j := j + 3) (by omega) (by omega) dL_law_270 (pc' := 271) rfl ?_
  refine zw_callIv E (r := r_join1 b d (xs (j + 1)) (xs (j + 2)) (xs (j + 3))) (As := [.int (xs (j + 1)), .int (xs (j + 2)), .int (xs (j + 3))]) (rest := []) (ws' := (lw_W K a0 ab al ao am (b_join1 b d (xs (j + 1)) (xs (j + 2)) (xs (j + 3))) (d_join1 b d (xs (j + 1)) (xs (j + 2)) (xs (j + 3))) o g)) (qX2_join l D K a0 ab al ao b d o (xs (j + 1)) (xs (j + 2)) (xs (j + 3)) h.1.1 h.c1 h.1.2.1 (k_join h (xs (j + 1)) (xs (j + 2)) (xs (j + 3))).1) (cwV 3 E.2.2.2.2.1 gL_law_X2_join rfl rfl rfl (by decide +kernel) ⟨Nat.le_of_ble_eq_true rfl, Nat.le_of_ble_eq_true rfl⟩) 0 rfl rfl rfl [0, 1, 2, 3, 4, 5, 6, 7, 8, 9, 10, 11, 12, 13, 14, 15, 16, 17, 18, 19, 20, 21, 22, 23, 24, 25, 26, 27, 28, 29, 30, 31, 32, 33, 34, 35, 36, 37, 38, 39, 40] (by decide) emC_lw_t (tm_ad _ _ _ _ _ _ _ _ _ _ _) emP_lw_t rfl rfl (Nat.le_of_ble_eq_true rfl) ⟨Nat.le_of_ble_eq_true rfl, Nat.le_of_ble_eq_true rfl⟩ dL_law_271 (pc' := 274) rfl ?_
  refine zw_aload_n (i := 2) (x := am 0) E 2 dL_law_274 rfl rfl (pc' := 275) rfl ?_
  refine zw_aload_n (i := 0) (x := bs) E 0 dL_law_275 rfl rfl (pc' := 276) rfl ?_
  refine zw_iload_n (i := 3) (x := nI j) E 3 dL_law_276 rfl rfl (pc' := 277) rfl ?_
  refine zw_iconst (v := 1) E dL_law_277 (by decide) (pc' := 278) rfl ?_
  refine zw_iadd E dL_law_278 (pc' := 279) rfl ?_
  refine zw_topi (x' := nI (j + 1)) (nI_add j 1) ?_
  refine zw_sld E hX hbl hbA (j := j + 1) (by omega) (by omega) dL_law_279 (pc' := 280) rfl ?_
  refine zw_aload_n (i := 0) (x := bs) E 0 dL_law_280 rfl rfl (pc' := 281) rfl ?_
  refine zw_iload_n (i := 3) (x := nI j) E 3 dL_law_281 rfl rfl (pc' := 282) rfl ?_
  refine zw_iconst (v := 2) E dL_law_282 (by decide) (pc' := 283) rfl ?_
  refine zw_iadd E dL_law_283 (pc' := 284) rfl ?_
  refine zw_topi (x' := nI (j + 2)) (nI_add j 2) ?_
  refine zw_sld E hX hbl hbA (j := j + 2) (by omega) (by omega) dL_law_284 (pc' := 285) rfl ?_
  refine zw_aload_n (i := 0) (x := bs) E 0 dL_law_285 rfl rfl (pc' := 286) rfl ?_
  refine zw_iload_n (i := 3) (x := nI j) E 3 dL_law_286 rfl rfl (pc' := 287) rfl ?_
  refine zw_iconst (v := 3) E dL_law_287 (by decide) (pc' := 288) rfl ?_
  refine zw_iadd E dL_law_288 (pc' := 289) rfl ?_
  refine zw_topi (x' := nI (j + 3)) (nI_add j 3) ?_
  refine zw_sld E hX hbl hbA (j := j + 3) (by omega) (by omega) dL_law_289 (pc' := 290) rfl ?_
  refine zw_callIv E (r := m_join1 g (xs (j + 1)) (xs (j + 2)) (xs (j + 3))) (As := [.int (xs (j + 1)), .int (xs (j + 2)), .int (xs (j + 3))]) (rest := [.int (r_join1 b d (xs (j + 1)) (xs (j + 2)) (xs (j + 3)))]) (ws' := (lw_W K a0 ab al ao am (b_join1 b d (xs (j + 1)) (xs (j + 2)) (xs (j + 3))) (d_join1 b d (xs (j + 1)) (xs (j + 2)) (xs (j + 3))) o (g_join1 g (xs (j + 1)) (xs (j + 2)) (xs (j + 3))))) (qX3_join l D K am g h8 h6 (xs (j + 1)) (xs (j + 2)) (xs (j + 3)) (k_join h (xs (j + 1)) (xs (j + 2)) (xs (j + 3))).2) (cwV 3 E.2.2.2.2.1 gL_law_X3_join rfl rfl rfl (by decide +kernel) ⟨Nat.le_of_ble_eq_true rfl, Nat.le_of_ble_eq_true rfl⟩) 0 rfl rfl rfl [41, 42, 43, 44, 45, 46, 47, 48, 49, 50, 51, 52, 53, 54, 55, 56, 57, 58, 59, 60, 61] (by decide) emC_lw_m (md_ad _ _ _ _) emP_lw_m rfl rfl (Nat.le_of_ble_eq_true rfl) ⟨Nat.le_of_ble_eq_true rfl, Nat.le_of_ble_eq_true rfl⟩ dL_law_290 (pc' := 293) rfl ?_
  refine zw_icmp_eq (tgt := 811) E dL_law_293 (by decide) (pc' := 296) rfl (fun _ => ?_) (fun q => absurd ((q_join h d (xs (j + 1)) (xs (j + 2)) (xs (j + 3))).1) q)
  exact kk _ _ _ _ ((q_join h d (xs (j + 1)) (xs (j + 2)) (xs (j + 3))).2)
set_option maxHeartbeats 4000000 in
set_option maxRecDepth 100000 in
theorem lc_sell {p : Program} {l : Launch} {e : Env} {s : State} {m : MethodId} {args : Array Value} {below : List Frame} {meth : Method} {c : Code} {Q : State → Prop} {D : va_G} {K : Nat → ClassId} {A : Nat → Prop} (E : zw_E p s m args c cL_law 4 RL wsL_law D (zT K) A) {bs L : Nat} {xs : Nat → Int32} (hX : va_X bs L xs s s.heap) (hbl : bs < s.heap.size) (hbA : ¬ A bs) (hL : L ≤ 2560) {j : Nat} (hj : j + 5 ≤ L) {a0 : Nat} {ab al ao am : Nat → Nat} {b : Bk} {d o : Ld} {g : Md} (h : Inv b g) (kk : ∀ b2 d2 o2 g2, Inv b2 g2 → zw_W p l e room_1 s m args below meth c 4 D A 62 4116 Q 811 [(0, .ref bs), (1, .ref a0), (2, .ref (am 0)), (3, .int (nI j))] [] (lw_W K a0 ab al ao am b2 d2 o2 g2)) : zw_W p l e room_1 s m args below meth c 4 D A 62 4116 Q 298 [(0, .ref bs), (1, .ref a0), (2, .ref (am 0)), (3, .int (nI j))] [] (lw_W K a0 ab al ao am b d o g) := by
  have h8 : g.2.2.1 0 ≤ 80 := by rw [h.2.1]; exact h.1.1
  have h6 : g.2.2.1 1 ≤ 60 := by rw [h.1.2.2.1]; exact h.1.2.1
  refine zw_aload_n (i := 1) (x := a0) E 1 dL_law_298 rfl rfl (pc' := 299) rfl ?_
  refine zw_aload_n (i := 0) (x := bs) E 0 dL_law_299 rfl rfl (pc' := 300) rfl ?_
  refine zw_iload_n (i := 3) (x := nI j) E 3 dL_law_300 rfl rfl (pc' := 301) rfl ?_
  refine zw_iconst (v := 1) E dL_law_301 (by decide) (pc' := 302) rfl ?_
  refine zw_iadd E dL_law_302 (pc' := 303) rfl ?_
  refine zw_topi (x' := nI (j + 1)) (nI_add j 1) ?_
  refine zw_sld E hX hbl hbA (j := j + 1) (by omega) (by omega) dL_law_303 (pc' := 304) rfl ?_
  refine zw_aload_n (i := 0) (x := bs) E 0 dL_law_304 rfl rfl (pc' := 305) rfl ?_
  refine zw_iload_n (i := 3) (x := nI j) E 3 dL_law_305 rfl rfl (pc' := 306) rfl ?_
  refine zw_iconst (v := 2) E dL_law_306 (by decide) (pc' := 307) rfl ?_
  refine zw_iadd E dL_law_307 (pc' := 308) rfl ?_
  refine zw_topi (x' := nI (j + 2)) (nI_add j 2) ?_
  refine zw_sld E hX hbl hbA (j := j + 2) (by omega) (by omega) dL_law_308 (pc' := 309) rfl ?_
  refine zw_aload_n (i := 0) (x := bs) E 0 dL_law_309 rfl rfl (pc' := 310) rfl ?_
  refine zw_iload_n (i := 3) (x := nI j) E 3 dL_law_310 rfl rfl (pc' := 311) rfl ?_
  refine zw_iconst (v := 3) E dL_law_311 (by decide) (pc' := 312) rfl ?_
  refine zw_iadd E dL_law_312 (pc' := 313) rfl ?_
  refine zw_topi (x' := nI (j + 3)) (nI_add j 3) ?_
  refine zw_sld E hX hbl hbA (j := j + 3) (by omega) (by omega) dL_law_313 (pc' := 314) rfl ?_
  refine zw_callIv E (r := r_sell1 b d (xs (j + 1)) (xs (j + 2)) (xs (j + 3))) (As := [.int (xs (j + 1)), .int (xs (j + 2)), .int (xs (j + 3))]) (rest := []) (ws' := (lw_W K a0 ab al ao am (b_sell1 b d (xs (j + 1)) (xs (j + 2)) (xs (j + 3))) (d_sell1 b d (xs (j + 1)) (xs (j + 2)) (xs (j + 3))) o g)) (qX2_sell l D K a0 ab al ao b d o (xs (j + 1)) (xs (j + 2)) (xs (j + 3)) h.1.1 h.c1 h.1.2.1 (k_sell h (xs (j + 1)) (xs (j + 2)) (xs (j + 3))).1) (cwV 3 E.2.2.2.2.1 gL_law_X2_sell rfl rfl rfl (by decide +kernel) ⟨Nat.le_of_ble_eq_true rfl, Nat.le_of_ble_eq_true rfl⟩) 0 rfl rfl rfl [0, 1, 2, 3, 4, 5, 6, 7, 8, 9, 10, 11, 12, 13, 14, 15, 16, 17, 18, 19, 20, 21, 22, 23, 24, 25, 26, 27, 28, 29, 30, 31, 32, 33, 34, 35, 36, 37, 38, 39, 40] (by decide) emC_lw_t (tm_ad _ _ _ _ _ _ _ _ _ _ _) emP_lw_t rfl rfl (Nat.le_of_ble_eq_true rfl) ⟨Nat.le_of_ble_eq_true rfl, Nat.le_of_ble_eq_true rfl⟩ dL_law_314 (pc' := 317) rfl ?_
  refine zw_aload_n (i := 2) (x := am 0) E 2 dL_law_317 rfl rfl (pc' := 318) rfl ?_
  refine zw_aload_n (i := 0) (x := bs) E 0 dL_law_318 rfl rfl (pc' := 319) rfl ?_
  refine zw_iload_n (i := 3) (x := nI j) E 3 dL_law_319 rfl rfl (pc' := 320) rfl ?_
  refine zw_iconst (v := 1) E dL_law_320 (by decide) (pc' := 321) rfl ?_
  refine zw_iadd E dL_law_321 (pc' := 322) rfl ?_
  refine zw_topi (x' := nI (j + 1)) (nI_add j 1) ?_
  refine zw_sld E hX hbl hbA (j := j + 1) (by omega) (by omega) dL_law_322 (pc' := 323) rfl ?_
  refine zw_aload_n (i := 0) (x := bs) E 0 dL_law_323 rfl rfl (pc' := 324) rfl ?_
  refine zw_iload_n (i := 3) (x := nI j) E 3 dL_law_324 rfl rfl (pc' := 325) rfl ?_
  refine zw_iconst (v := 2) E dL_law_325 (by decide) (pc' := 326) rfl ?_
  refine zw_iadd E dL_law_326 (pc' := 327) rfl ?_
  refine zw_topi (x' := nI (j + 2)) (nI_add j 2) ?_
  refine zw_sld E hX hbl hbA (j := j + 2) (by omega) (by omega) dL_law_327 (pc' := 328) rfl ?_
  refine zw_aload_n (i := 0) (x := bs) E 0 dL_law_328 rfl rfl (pc' := 329) rfl ?_
  refine zw_iload_n (i := 3) (x := nI j) E 3 dL_law_329 rfl rfl (pc' := 330) rfl ?_
  refine zw_iconst (v := 3) E dL_law_330 (by decide) (pc' := 331) rfl ?_
  refine zw_iadd E dL_law_331 (pc' := 332) rfl ?_
  refine zw_topi (x' := nI (j + 3)) (nI_add j 3) ?_
  refine zw_sld E hX hbl hbA (j := j + 3) (by omega) (by omega) dL_law_332 (pc' := 333) rfl ?_
  refine zw_callIv E (r := m_sell1 g (xs (j + 1)) (xs (j + 2)) (xs (j + 3))) (As := [.int (xs (j + 1)), .int (xs (j + 2)), .int (xs (j + 3))]) (rest := [.int (r_sell1 b d (xs (j + 1)) (xs (j + 2)) (xs (j + 3)))]) (ws' := (lw_W K a0 ab al ao am (b_sell1 b d (xs (j + 1)) (xs (j + 2)) (xs (j + 3))) (d_sell1 b d (xs (j + 1)) (xs (j + 2)) (xs (j + 3))) o (g_sell1 g (xs (j + 1)) (xs (j + 2)) (xs (j + 3))))) (qX3_sell l D K am g h8 h6 (xs (j + 1)) (xs (j + 2)) (xs (j + 3)) (k_sell h (xs (j + 1)) (xs (j + 2)) (xs (j + 3))).2) (cwV 3 E.2.2.2.2.1 gL_law_X3_sell rfl rfl rfl (by decide +kernel) ⟨Nat.le_of_ble_eq_true rfl, Nat.le_of_ble_eq_true rfl⟩) 0 rfl rfl rfl [41, 42, 43, 44, 45, 46, 47, 48, 49, 50, 51, 52, 53, 54, 55, 56, 57, 58, 59, 60, 61] (by decide) emC_lw_m (md_ad _ _ _ _) emP_lw_m rfl rfl (Nat.le_of_ble_eq_true rfl) ⟨Nat.le_of_ble_eq_true rfl, Nat.le_of_ble_eq_true rfl⟩ dL_law_333 (pc' := 336) rfl ?_
  refine zw_icmp_eq (tgt := 811) E dL_law_336 (by decide) (pc' := 339) rfl (fun _ => ?_) (fun q => absurd ((q_sell h d (xs (j + 1)) (xs (j + 2)) (xs (j + 3))).1) q)
  exact kk _ _ _ _ ((q_sell h d (xs (j + 1)) (xs (j + 2)) (xs (j + 3))).2)
set_option maxHeartbeats 4000000 in
set_option maxRecDepth 100000 in
theorem lc_settle {p : Program} {l : Launch} {e : Env} {s : State} {m : MethodId} {args : Array Value} {below : List Frame} {meth : Method} {c : Code} {Q : State → Prop} {D : va_G} {K : Nat → ClassId} {A : Nat → Prop} (E : zw_E p s m args c cL_law 4 RL wsL_law D (zT K) A) {bs L : Nat} {xs : Nat → Int32} (hX : va_X bs L xs s s.heap) (hbl : bs < s.heap.size) (hbA : ¬ A bs) (hL : L ≤ 2560) {j : Nat} (hj : j + 5 ≤ L) {a0 : Nat} {ab al ao am : Nat → Nat} {b : Bk} {d o : Ld} {g : Md} (h : Inv b g) (kk : ∀ b2 d2 o2 g2, Inv b2 g2 → zw_W p l e room_1 s m args below meth c 4 D A 62 4116 Q 811 [(0, .ref bs), (1, .ref a0), (2, .ref (am 0)), (3, .int (nI j))] [] (lw_W K a0 ab al ao am b2 d2 o2 g2)) : zw_W p l e room_1 s m args below meth c 4 D A 62 4116 Q 341 [(0, .ref bs), (1, .ref a0), (2, .ref (am 0)), (3, .int (nI j))] [] (lw_W K a0 ab al ao am b d o g) := by
  have h8 : g.2.2.1 0 ≤ 80 := by rw [h.2.1]; exact h.1.1
  have h6 : g.2.2.1 1 ≤ 60 := by rw [h.1.2.2.1]; exact h.1.2.1
  refine zw_aload_n (i := 1) (x := a0) E 1 dL_law_341 rfl rfl (pc' := 342) rfl ?_
  refine zw_aload_n (i := 0) (x := bs) E 0 dL_law_342 rfl rfl (pc' := 343) rfl ?_
  refine zw_iload_n (i := 3) (x := nI j) E 3 dL_law_343 rfl rfl (pc' := 344) rfl ?_
  refine zw_iconst (v := 1) E dL_law_344 (by decide) (pc' := 345) rfl ?_
  refine zw_iadd E dL_law_345 (pc' := 346) rfl ?_
  refine zw_topi (x' := nI (j + 1)) (nI_add j 1) ?_
  refine zw_sld E hX hbl hbA (j := j + 1) (by omega) (by omega) dL_law_346 (pc' := 347) rfl ?_
  refine zw_aload_n (i := 0) (x := bs) E 0 dL_law_347 rfl rfl (pc' := 348) rfl ?_
  refine zw_iload_n (i := 3) (x := nI j) E 3 dL_law_348 rfl rfl (pc' := 349) rfl ?_
  refine zw_iconst (v := 2) E dL_law_349 (by decide) (pc' := 350) rfl ?_
  refine zw_iadd E dL_law_350 (pc' := 351) rfl ?_
  refine zw_topi (x' := nI (j + 2)) (nI_add j 2) ?_
  refine zw_sld E hX hbl hbA (j := j + 2) (by omega) (by omega) dL_law_351 (pc' := 352) rfl ?_
  refine zw_callIv E (r := r_settle1 b d (xs (j + 1)) (xs (j + 2))) (As := [.int (xs (j + 1)), .int (xs (j + 2))]) (rest := []) (ws' := (lw_W K a0 ab al ao am (b_settle1 b d (xs (j + 1)) (xs (j + 2))) (d_settle1 b d (xs (j + 1)) (xs (j + 2))) o g)) (qX2_settle l D K a0 ab al ao b d o (xs (j + 1)) (xs (j + 2)) h.1.1 h.c1 h.1.2.1 (k_settle h (xs (j + 1)) (xs (j + 2))).1) (cwV 2 E.2.2.2.2.1 gL_law_X2_settle rfl rfl rfl (by decide +kernel) ⟨Nat.le_of_ble_eq_true rfl, Nat.le_of_ble_eq_true rfl⟩) 0 rfl rfl rfl [0, 1, 2, 3, 4, 5, 6, 7, 8, 9, 10, 11, 12, 13, 14, 15, 16, 17, 18, 19, 20, 21, 22, 23, 24, 25, 26, 27, 28, 29, 30, 31, 32, 33, 34, 35, 36, 37, 38, 39, 40] (by decide) emC_lw_t (tm_ad _ _ _ _ _ _ _ _ _ _ _) emP_lw_t rfl rfl (Nat.le_of_ble_eq_true rfl) ⟨Nat.le_of_ble_eq_true rfl, Nat.le_of_ble_eq_true rfl⟩ dL_law_352 (pc' := 355) rfl ?_
  refine zw_aload_n (i := 2) (x := am 0) E 2 dL_law_355 rfl rfl (pc' := 356) rfl ?_
  refine zw_aload_n (i := 0) (x := bs) E 0 dL_law_356 rfl rfl (pc' := 357) rfl ?_
  refine zw_iload_n (i := 3) (x := nI j) E 3 dL_law_357 rfl rfl (pc' := 358) rfl ?_
  refine zw_iconst (v := 1) E dL_law_358 (by decide) (pc' := 359) rfl ?_
  refine zw_iadd E dL_law_359 (pc' := 360) rfl ?_
  refine zw_topi (x' := nI (j + 1)) (nI_add j 1) ?_
  refine zw_sld E hX hbl hbA (j := j + 1) (by omega) (by omega) dL_law_360 (pc' := 361) rfl ?_
  refine zw_aload_n (i := 0) (x := bs) E 0 dL_law_361 rfl rfl (pc' := 362) rfl ?_
  refine zw_iload_n (i := 3) (x := nI j) E 3 dL_law_362 rfl rfl (pc' := 363) rfl ?_
  refine zw_iconst (v := 2) E dL_law_363 (by decide) (pc' := 364) rfl ?_
  refine zw_iadd E dL_law_364 (pc' := 365) rfl ?_
  refine zw_topi (x' := nI (j + 2)) (nI_add j 2) ?_
  refine zw_sld E hX hbl hbA (j := j + 2) (by omega) (by omega) dL_law_365 (pc' := 366) rfl ?_
  refine zw_callIv E (r := m_settle1 g (xs (j + 1)) (xs (j + 2))) (As := [.int (xs (j + 1)), .int (xs (j + 2))]) (rest := [.int (r_settle1 b d (xs (j + 1)) (xs (j + 2)))]) (ws' := (lw_W K a0 ab al ao am (b_settle1 b d (xs (j + 1)) (xs (j + 2))) (d_settle1 b d (xs (j + 1)) (xs (j + 2))) o (g_settle1 g (xs (j + 1)) (xs (j + 2))))) (qX3_settle l D K am g h8 h6 (xs (j + 1)) (xs (j + 2)) (k_settle h (xs (j + 1)) (xs (j + 2))).2) (cwV 2 E.2.2.2.2.1 gL_law_X3_settle rfl rfl rfl (by decide +kernel) ⟨Nat.le_of_ble_eq_true rfl, Nat.le_of_ble_eq_true rfl⟩) 0 rfl rfl rfl [41, 42, 43, 44, 45, 46, 47, 48, 49, 50, 51, 52, 53, 54, 55, 56, 57, 58, 59, 60, 61] (by decide) emC_lw_m (md_ad _ _ _ _) emP_lw_m rfl rfl (Nat.le_of_ble_eq_true rfl) ⟨Nat.le_of_ble_eq_true rfl, Nat.le_of_ble_eq_true rfl⟩ dL_law_366 (pc' := 369) rfl ?_
  refine zw_icmp_eq (tgt := 811) E dL_law_369 (by decide) (pc' := 372) rfl (fun _ => ?_) (fun q => absurd ((q_settle h d (xs (j + 1)) (xs (j + 2))).1) q)
  exact kk _ _ _ _ ((q_settle h d (xs (j + 1)) (xs (j + 2))).2)
set_option maxHeartbeats 4000000 in
set_option maxRecDepth 100000 in
theorem lc_buy {p : Program} {l : Launch} {e : Env} {s : State} {m : MethodId} {args : Array Value} {below : List Frame} {meth : Method} {c : Code} {Q : State → Prop} {D : va_G} {K : Nat → ClassId} {A : Nat → Prop} (E : zw_E p s m args c cL_law 4 RL wsL_law D (zT K) A) {bs L : Nat} {xs : Nat → Int32} (hX : va_X bs L xs s s.heap) (hbl : bs < s.heap.size) (hbA : ¬ A bs) (hL : L ≤ 2560) {j : Nat} (hj : j + 5 ≤ L) {a0 : Nat} {ab al ao am : Nat → Nat} {b : Bk} {d o : Ld} {g : Md} (h : Inv b g) (kk : ∀ b2 d2 o2 g2, Inv b2 g2 → zw_W p l e room_1 s m args below meth c 4 D A 62 4116 Q 811 [(0, .ref bs), (1, .ref a0), (2, .ref (am 0)), (3, .int (nI j))] [] (lw_W K a0 ab al ao am b2 d2 o2 g2)) : zw_W p l e room_1 s m args below meth c 4 D A 62 4116 Q 374 [(0, .ref bs), (1, .ref a0), (2, .ref (am 0)), (3, .int (nI j))] [] (lw_W K a0 ab al ao am b d o g) := by
  have h8 : g.2.2.1 0 ≤ 80 := by rw [h.2.1]; exact h.1.1
  have h6 : g.2.2.1 1 ≤ 60 := by rw [h.1.2.2.1]; exact h.1.2.1
  refine zw_aload_n (i := 1) (x := a0) E 1 dL_law_374 rfl rfl (pc' := 375) rfl ?_
  refine zw_aload_n (i := 0) (x := bs) E 0 dL_law_375 rfl rfl (pc' := 376) rfl ?_
  refine zw_iload_n (i := 3) (x := nI j) E 3 dL_law_376 rfl rfl (pc' := 377) rfl ?_
  refine zw_iconst (v := 1) E dL_law_377 (by decide) (pc' := 378) rfl ?_
  refine zw_iadd E dL_law_378 (pc' := 379) rfl ?_
  refine zw_topi (x' := nI (j + 1)) (nI_add j 1) ?_
  refine zw_sld E hX hbl hbA (j := j + 1) (by omega) (by omega) dL_law_379 (pc' := 380) rfl ?_
  refine zw_aload_n (i := 0) (x := bs) E 0 dL_law_380 rfl rfl (pc' := 381) rfl ?_
  refine zw_iload_n (i := 3) (x := nI j) E 3 dL_law_381 rfl rfl (pc' := 382) rfl ?_
  refine zw_iconst (v := 2) E dL_law_382 (by decide) (pc' := 383) rfl ?_
  refine zw_iadd E dL_law_383 (pc' := 384) rfl ?_
  refine zw_topi (x' := nI (j + 2)) (nI_add j 2) ?_
  refine zw_sld E hX hbl hbA (j := j + 2) (by omega) (by omega) dL_law_384 (pc' := 385) rfl ?_
  refine zw_callIv E (r := r_buy1 b d (xs (j + 1)) (xs (j + 2))) (As := [.int (xs (j + 1)), .int (xs (j + 2))]) (rest := []) (ws' := (lw_W K a0 ab al ao am (b_buy1 b d (xs (j + 1)) (xs (j + 2))) (d_buy1 b d (xs (j + 1)) (xs (j + 2))) o g)) (qX2_buy l D K a0 ab al ao b d o (xs (j + 1)) (xs (j + 2)) h.1.1 h.c1 h.1.2.1 (k_buy h (xs (j + 1)) (xs (j + 2))).1) (cwV 2 E.2.2.2.2.1 gL_law_X2_buy rfl rfl rfl (by decide +kernel) ⟨Nat.le_of_ble_eq_true rfl, Nat.le_of_ble_eq_true rfl⟩) 0 rfl rfl rfl [0, 1, 2, 3, 4, 5, 6, 7, 8, 9, 10, 11, 12, 13, 14, 15, 16, 17, 18, 19, 20, 21, 22, 23, 24, 25, 26, 27, 28, 29, 30, 31, 32, 33, 34, 35, 36, 37, 38, 39, 40] (by decide) emC_lw_t (tm_ad _ _ _ _ _ _ _ _ _ _ _) emP_lw_t rfl rfl (Nat.le_of_ble_eq_true rfl) ⟨Nat.le_of_ble_eq_true rfl, Nat.le_of_ble_eq_true rfl⟩ dL_law_385 (pc' := 388) rfl ?_
  refine zw_aload_n (i := 2) (x := am 0) E 2 dL_law_388 rfl rfl (pc' := 389) rfl ?_
  refine zw_aload_n (i := 0) (x := bs) E 0 dL_law_389 rfl rfl (pc' := 390) rfl ?_
  refine zw_iload_n (i := 3) (x := nI j) E 3 dL_law_390 rfl rfl (pc' := 391) rfl ?_
  refine zw_iconst (v := 1) E dL_law_391 (by decide) (pc' := 392) rfl ?_
  refine zw_iadd E dL_law_392 (pc' := 393) rfl ?_
  refine zw_topi (x' := nI (j + 1)) (nI_add j 1) ?_
  refine zw_sld E hX hbl hbA (j := j + 1) (by omega) (by omega) dL_law_393 (pc' := 394) rfl ?_
  refine zw_aload_n (i := 0) (x := bs) E 0 dL_law_394 rfl rfl (pc' := 395) rfl ?_
  refine zw_iload_n (i := 3) (x := nI j) E 3 dL_law_395 rfl rfl (pc' := 396) rfl ?_
  refine zw_iconst (v := 2) E dL_law_396 (by decide) (pc' := 397) rfl ?_
  refine zw_iadd E dL_law_397 (pc' := 398) rfl ?_
  refine zw_topi (x' := nI (j + 2)) (nI_add j 2) ?_
  refine zw_sld E hX hbl hbA (j := j + 2) (by omega) (by omega) dL_law_398 (pc' := 399) rfl ?_
  refine zw_callIv E (r := m_buy1 g (xs (j + 1)) (xs (j + 2))) (As := [.int (xs (j + 1)), .int (xs (j + 2))]) (rest := [.int (r_buy1 b d (xs (j + 1)) (xs (j + 2)))]) (ws' := (lw_W K a0 ab al ao am (b_buy1 b d (xs (j + 1)) (xs (j + 2))) (d_buy1 b d (xs (j + 1)) (xs (j + 2))) o (g_buy1 g (xs (j + 1)) (xs (j + 2))))) (qX3_buy l D K am g h8 h6 (xs (j + 1)) (xs (j + 2)) (k_buy h (xs (j + 1)) (xs (j + 2))).2) (cwV 2 E.2.2.2.2.1 gL_law_X3_buy rfl rfl rfl (by decide +kernel) ⟨Nat.le_of_ble_eq_true rfl, Nat.le_of_ble_eq_true rfl⟩) 0 rfl rfl rfl [41, 42, 43, 44, 45, 46, 47, 48, 49, 50, 51, 52, 53, 54, 55, 56, 57, 58, 59, 60, 61] (by decide) emC_lw_m (md_ad _ _ _ _) emP_lw_m rfl rfl (Nat.le_of_ble_eq_true rfl) ⟨Nat.le_of_ble_eq_true rfl, Nat.le_of_ble_eq_true rfl⟩ dL_law_399 (pc' := 402) rfl ?_
  refine zw_icmp_eq (tgt := 811) E dL_law_402 (by decide) (pc' := 405) rfl (fun _ => ?_) (fun q => absurd ((q_buy h d (xs (j + 1)) (xs (j + 2))).1) q)
  exact kk _ _ _ _ ((q_buy h d (xs (j + 1)) (xs (j + 2))).2)
set_option maxHeartbeats 4000000 in
set_option maxRecDepth 100000 in
theorem lc_average {p : Program} {l : Launch} {e : Env} {s : State} {m : MethodId} {args : Array Value} {below : List Frame} {meth : Method} {c : Code} {Q : State → Prop} {D : va_G} {K : Nat → ClassId} {A : Nat → Prop} (E : zw_E p s m args c cL_law 4 RL wsL_law D (zT K) A) {bs L : Nat} {xs : Nat → Int32} (hX : va_X bs L xs s s.heap) (hbl : bs < s.heap.size) (hbA : ¬ A bs) (hL : L ≤ 2560) {j : Nat} (hj : j + 5 ≤ L) {a0 : Nat} {ab al ao am : Nat → Nat} {b : Bk} {d o : Ld} {g : Md} (h : Inv b g) (kk : ∀ b2 d2 o2 g2, Inv b2 g2 → zw_W p l e room_1 s m args below meth c 4 D A 62 4116 Q 811 [(0, .ref bs), (1, .ref a0), (2, .ref (am 0)), (3, .int (nI j))] [] (lw_W K a0 ab al ao am b2 d2 o2 g2)) : zw_W p l e room_1 s m args below meth c 4 D A 62 4116 Q 407 [(0, .ref bs), (1, .ref a0), (2, .ref (am 0)), (3, .int (nI j))] [] (lw_W K a0 ab al ao am b d o g) := by
  have h8 : g.2.2.1 0 ≤ 80 := by rw [h.2.1]; exact h.1.1
  have h6 : g.2.2.1 1 ≤ 60 := by rw [h.1.2.2.1]; exact h.1.2.1
  refine zw_aload_n (i := 1) (x := a0) E 1 dL_law_407 rfl rfl (pc' := 408) rfl ?_
  refine zw_aload_n (i := 0) (x := bs) E 0 dL_law_408 rfl rfl (pc' := 409) rfl ?_
  refine zw_iload_n (i := 3) (x := nI j) E 3 dL_law_409 rfl rfl (pc' := 410) rfl ?_
  refine zw_iconst (v := 1) E dL_law_410 (by decide) (pc' := 411) rfl ?_
  refine zw_iadd E dL_law_411 (pc' := 412) rfl ?_
  refine zw_topi (x' := nI (j + 1)) (nI_add j 1) ?_
  refine zw_sld E hX hbl hbA (j := j + 1) (by omega) (by omega) dL_law_412 (pc' := 413) rfl ?_
  refine zw_aload_n (i := 0) (x := bs) E 0 dL_law_413 rfl rfl (pc' := 414) rfl ?_
  refine zw_iload_n (i := 3) (x := nI j) E 3 dL_law_414 rfl rfl (pc' := 415) rfl ?_
  refine zw_iconst (v := 2) E dL_law_415 (by decide) (pc' := 416) rfl ?_
  refine zw_iadd E dL_law_416 (pc' := 417) rfl ?_
  refine zw_topi (x' := nI (j + 2)) (nI_add j 2) ?_
  refine zw_sld E hX hbl hbA (j := j + 2) (by omega) (by omega) dL_law_417 (pc' := 418) rfl ?_
  refine zw_aload_n (i := 0) (x := bs) E 0 dL_law_418 rfl rfl (pc' := 419) rfl ?_
  refine zw_iload_n (i := 3) (x := nI j) E 3 dL_law_419 rfl rfl (pc' := 420) rfl ?_
  refine zw_iconst (v := 3) E dL_law_420 (by decide) (pc' := 421) rfl ?_
  refine zw_iadd E dL_law_421 (pc' := 422) rfl ?_
  refine zw_topi (x' := nI (j + 3)) (nI_add j 3) ?_
  refine zw_sld E hX hbl hbA (j := j + 3) (by omega) (by omega) dL_law_422 (pc' := 423) rfl ?_
  refine zw_callIv E (r := r_average b (xs (j + 1)) (xs (j + 2)) (xs (j + 3))) (As := [.int (xs (j + 1)), .int (xs (j + 2)), .int (xs (j + 3))]) (rest := []) (ws' := (lw_W K a0 ab al ao am b d o g)) (qX2_average l D K a0 ab al ao b d o (xs (j + 1)) (xs (j + 2)) (xs (j + 3)) h.1.1 h.c1) (cwV 3 E.2.2.2.2.1 gL_law_X2_average rfl rfl rfl (by decide +kernel) ⟨Nat.le_of_ble_eq_true rfl, Nat.le_of_ble_eq_true rfl⟩) 0 rfl rfl rfl [0, 1, 2, 3, 4, 5, 6, 7, 8, 9, 10, 11, 12, 13, 14, 15, 16, 17, 18, 19, 20, 21, 22, 23, 24, 25, 26, 27, 28, 29, 30, 31, 32, 33, 34, 35, 36, 37, 38, 39, 40] (by decide) emC_lw_t (tm_ad _ _ _ _ _ _ _ _ _ _ _) emP_lw_t rfl rfl (Nat.le_of_ble_eq_true rfl) ⟨Nat.le_of_ble_eq_true rfl, Nat.le_of_ble_eq_true rfl⟩ dL_law_423 (pc' := 426) rfl ?_
  refine zw_aload_n (i := 2) (x := am 0) E 2 dL_law_426 rfl rfl (pc' := 427) rfl ?_
  refine zw_aload_n (i := 0) (x := bs) E 0 dL_law_427 rfl rfl (pc' := 428) rfl ?_
  refine zw_iload_n (i := 3) (x := nI j) E 3 dL_law_428 rfl rfl (pc' := 429) rfl ?_
  refine zw_iconst (v := 1) E dL_law_429 (by decide) (pc' := 430) rfl ?_
  refine zw_iadd E dL_law_430 (pc' := 431) rfl ?_
  refine zw_topi (x' := nI (j + 1)) (nI_add j 1) ?_
  refine zw_sld E hX hbl hbA (j := j + 1) (by omega) (by omega) dL_law_431 (pc' := 432) rfl ?_
  refine zw_aload_n (i := 0) (x := bs) E 0 dL_law_432 rfl rfl (pc' := 433) rfl ?_
  refine zw_iload_n (i := 3) (x := nI j) E 3 dL_law_433 rfl rfl (pc' := 434) rfl ?_
  refine zw_iconst (v := 2) E dL_law_434 (by decide) (pc' := 435) rfl ?_
  refine zw_iadd E dL_law_435 (pc' := 436) rfl ?_
  refine zw_topi (x' := nI (j + 2)) (nI_add j 2) ?_
  refine zw_sld E hX hbl hbA (j := j + 2) (by omega) (by omega) dL_law_436 (pc' := 437) rfl ?_
  refine zw_aload_n (i := 0) (x := bs) E 0 dL_law_437 rfl rfl (pc' := 438) rfl ?_
  refine zw_iload_n (i := 3) (x := nI j) E 3 dL_law_438 rfl rfl (pc' := 439) rfl ?_
  refine zw_iconst (v := 3) E dL_law_439 (by decide) (pc' := 440) rfl ?_
  refine zw_iadd E dL_law_440 (pc' := 441) rfl ?_
  refine zw_topi (x' := nI (j + 3)) (nI_add j 3) ?_
  refine zw_sld E hX hbl hbA (j := j + 3) (by omega) (by omega) dL_law_441 (pc' := 442) rfl ?_
  refine zw_callIv E (r := m_average g (xs (j + 1)) (xs (j + 2)) (xs (j + 3))) (As := [.int (xs (j + 1)), .int (xs (j + 2)), .int (xs (j + 3))]) (rest := [.int (r_average b (xs (j + 1)) (xs (j + 2)) (xs (j + 3)))]) (ws' := (lw_W K a0 ab al ao am b d o g)) (qX3_average l D K am g (xs (j + 1)) (xs (j + 2)) (xs (j + 3)) h8) (cwV 3 E.2.2.2.2.1 gL_law_X3_average rfl rfl rfl (by decide +kernel) ⟨Nat.le_of_ble_eq_true rfl, Nat.le_of_ble_eq_true rfl⟩) 0 rfl rfl rfl [41, 42, 43, 44, 45, 46, 47, 48, 49, 50, 51, 52, 53, 54, 55, 56, 57, 58, 59, 60, 61] (by decide) emC_lw_m (md_ad _ _ _ _) emP_lw_m rfl rfl (Nat.le_of_ble_eq_true rfl) ⟨Nat.le_of_ble_eq_true rfl, Nat.le_of_ble_eq_true rfl⟩ dL_law_442 (pc' := 445) rfl ?_
  refine zw_icmp_eq (tgt := 811) E dL_law_445 (by decide) (pc' := 448) rfl (fun _ => ?_) (fun q => absurd (q_average h (xs (j + 1)) (xs (j + 2)) (xs (j + 3))) q)
  exact kk _ _ _ _ (h)
set_option maxHeartbeats 4000000 in
set_option maxRecDepth 100000 in
theorem lc_look {p : Program} {l : Launch} {e : Env} {s : State} {m : MethodId} {args : Array Value} {below : List Frame} {meth : Method} {c : Code} {Q : State → Prop} {D : va_G} {K : Nat → ClassId} {A : Nat → Prop} (E : zw_E p s m args c cL_law 4 RL wsL_law D (zT K) A) {bs L : Nat} {xs : Nat → Int32} (hX : va_X bs L xs s s.heap) (hbl : bs < s.heap.size) (hbA : ¬ A bs) (hL : L ≤ 2560) {j : Nat} (hj : j + 5 ≤ L) {a0 : Nat} {ab al ao am : Nat → Nat} {b : Bk} {d o : Ld} {g : Md} (h : Inv b g) (kk : ∀ b2 d2 o2 g2, Inv b2 g2 → zw_W p l e room_1 s m args below meth c 4 D A 62 4116 Q 811 [(0, .ref bs), (1, .ref a0), (2, .ref (am 0)), (3, .int (nI j))] [] (lw_W K a0 ab al ao am b2 d2 o2 g2)) : zw_W p l e room_1 s m args below meth c 4 D A 62 4116 Q 450 [(0, .ref bs), (1, .ref a0), (2, .ref (am 0)), (3, .int (nI j))] [] (lw_W K a0 ab al ao am b d o g) := by
  have h8 : g.2.2.1 0 ≤ 80 := by rw [h.2.1]; exact h.1.1
  have h6 : g.2.2.1 1 ≤ 60 := by rw [h.1.2.2.1]; exact h.1.2.1
  refine zw_aload_n (i := 1) (x := a0) E 1 dL_law_450 rfl rfl (pc' := 451) rfl ?_
  refine zw_aload_n (i := 0) (x := bs) E 0 dL_law_451 rfl rfl (pc' := 452) rfl ?_
  refine zw_iload_n (i := 3) (x := nI j) E 3 dL_law_452 rfl rfl (pc' := 453) rfl ?_
  refine zw_iconst (v := 1) E dL_law_453 (by decide) (pc' := 454) rfl ?_
  refine zw_iadd E dL_law_454 (pc' := 455) rfl ?_
  refine zw_topi (x' := nI (j + 1)) (nI_add j 1) ?_
  refine zw_sld E hX hbl hbA (j := j + 1) (by omega) (by omega) dL_law_455 (pc' := 456) rfl ?_
  refine zw_aload_n (i := 0) (x := bs) E 0 dL_law_456 rfl rfl (pc' := 457) rfl ?_
  refine zw_iload_n (i := 3) (x := nI j) E 3 dL_law_457 rfl rfl (pc' := 458) rfl ?_
  refine zw_iconst (v := 2) E dL_law_458 (by decide) (pc' := 459) rfl ?_
  refine zw_iadd E dL_law_459 (pc' := 460) rfl ?_
  refine zw_topi (x' := nI (j + 2)) (nI_add j 2) ?_
  refine zw_sld E hX hbl hbA (j := j + 2) (by omega) (by omega) dL_law_460 (pc' := 461) rfl ?_
  refine zw_aload_n (i := 0) (x := bs) E 0 dL_law_461 rfl rfl (pc' := 462) rfl ?_
  refine zw_iload_n (i := 3) (x := nI j) E 3 dL_law_462 rfl rfl (pc' := 463) rfl ?_
  refine zw_iconst (v := 3) E dL_law_463 (by decide) (pc' := 464) rfl ?_
  refine zw_iadd E dL_law_464 (pc' := 465) rfl ?_
  refine zw_topi (x' := nI (j + 3)) (nI_add j 3) ?_
  refine zw_sld E hX hbl hbA (j := j + 3) (by omega) (by omega) dL_law_465 (pc' := 466) rfl ?_
  refine zw_aload_n (i := 0) (x := bs) E 0 dL_law_466 rfl rfl (pc' := 467) rfl ?_
  refine zw_iload_n (i := 3) (x := nI j) E 3 dL_law_467 rfl rfl (pc' := 468) rfl ?_
  refine zw_iconst (v := 4) E dL_law_468 (by decide) (pc' := 469) rfl ?_
  refine zw_iadd E dL_law_469 (pc' := 470) rfl ?_
  refine zw_topi (x' := nI (j + 4)) (nI_add j 4) ?_
  refine zw_sld E hX hbl hbA (j := j + 4) (by omega) (by omega) dL_law_470 (pc' := 471) rfl ?_
  refine zw_callIv E (r := r_look b d (xs (j + 1)) (xs (j + 2)) (xs (j + 3)) (xs (j + 4))) (As := [.int (xs (j + 1)), .int (xs (j + 2)), .int (xs (j + 3)), .int (xs (j + 4))]) (rest := []) (ws' := (lw_W K a0 ab al ao am b (d_look b d (xs (j + 1)) (xs (j + 2)) (xs (j + 3)) (xs (j + 4))) o g)) (qX2_look l D K a0 ab al ao b d o (xs (j + 1)) (xs (j + 2)) (xs (j + 3)) (xs (j + 4)) h.1.1 h.c1 h.1.en) (cwV 4 E.2.2.2.2.1 gL_law_X2_look rfl rfl rfl (by decide +kernel) ⟨Nat.le_of_ble_eq_true rfl, Nat.le_of_ble_eq_true rfl⟩) 0 rfl rfl rfl [0, 1, 2, 3, 4, 5, 6, 7, 8, 9, 10, 11, 12, 13, 14, 15, 16, 17, 18, 19, 20, 21, 22, 23, 24, 25, 26, 27, 28, 29, 30, 31, 32, 33, 34, 35, 36, 37, 38, 39, 40] (by decide) emC_lw_t (tm_ad _ _ _ _ _ _ _ _ _ _ _) emP_lw_t rfl rfl (Nat.le_of_ble_eq_true rfl) ⟨Nat.le_of_ble_eq_true rfl, Nat.le_of_ble_eq_true rfl⟩ dL_law_471 (pc' := 474) rfl ?_
  refine zw_aload_n (i := 2) (x := am 0) E 2 dL_law_474 rfl rfl (pc' := 475) rfl ?_
  refine zw_aload_n (i := 0) (x := bs) E 0 dL_law_475 rfl rfl (pc' := 476) rfl ?_
  refine zw_iload_n (i := 3) (x := nI j) E 3 dL_law_476 rfl rfl (pc' := 477) rfl ?_
  refine zw_iconst (v := 1) E dL_law_477 (by decide) (pc' := 478) rfl ?_
  refine zw_iadd E dL_law_478 (pc' := 479) rfl ?_
  refine zw_topi (x' := nI (j + 1)) (nI_add j 1) ?_
  refine zw_sld E hX hbl hbA (j := j + 1) (by omega) (by omega) dL_law_479 (pc' := 480) rfl ?_
  refine zw_aload_n (i := 0) (x := bs) E 0 dL_law_480 rfl rfl (pc' := 481) rfl ?_
  refine zw_iload_n (i := 3) (x := nI j) E 3 dL_law_481 rfl rfl (pc' := 482) rfl ?_
  refine zw_iconst (v := 2) E dL_law_482 (by decide) (pc' := 483) rfl ?_
  refine zw_iadd E dL_law_483 (pc' := 484) rfl ?_
  refine zw_topi (x' := nI (j + 2)) (nI_add j 2) ?_
  refine zw_sld E hX hbl hbA (j := j + 2) (by omega) (by omega) dL_law_484 (pc' := 485) rfl ?_
  refine zw_aload_n (i := 0) (x := bs) E 0 dL_law_485 rfl rfl (pc' := 486) rfl ?_
  refine zw_iload_n (i := 3) (x := nI j) E 3 dL_law_486 rfl rfl (pc' := 487) rfl ?_
  refine zw_iconst (v := 3) E dL_law_487 (by decide) (pc' := 488) rfl ?_
  refine zw_iadd E dL_law_488 (pc' := 489) rfl ?_
  refine zw_topi (x' := nI (j + 3)) (nI_add j 3) ?_
  refine zw_sld E hX hbl hbA (j := j + 3) (by omega) (by omega) dL_law_489 (pc' := 490) rfl ?_
  refine zw_aload_n (i := 0) (x := bs) E 0 dL_law_490 rfl rfl (pc' := 491) rfl ?_
  refine zw_iload_n (i := 3) (x := nI j) E 3 dL_law_491 rfl rfl (pc' := 492) rfl ?_
  refine zw_iconst (v := 4) E dL_law_492 (by decide) (pc' := 493) rfl ?_
  refine zw_iadd E dL_law_493 (pc' := 494) rfl ?_
  refine zw_topi (x' := nI (j + 4)) (nI_add j 4) ?_
  refine zw_sld E hX hbl hbA (j := j + 4) (by omega) (by omega) dL_law_494 (pc' := 495) rfl ?_
  refine zw_callIv E (r := m_look g (xs (j + 1)) (xs (j + 2)) (xs (j + 3)) (xs (j + 4))) (As := [.int (xs (j + 1)), .int (xs (j + 2)), .int (xs (j + 3)), .int (xs (j + 4))]) (rest := [.int (r_look b d (xs (j + 1)) (xs (j + 2)) (xs (j + 3)) (xs (j + 4)))]) (ws' := (lw_W K a0 ab al ao am b (d_look b d (xs (j + 1)) (xs (j + 2)) (xs (j + 3)) (xs (j + 4))) o (g_look g (xs (j + 1)) (xs (j + 2)) (xs (j + 3))))) (qX3_look l D K am g (xs (j + 1)) (xs (j + 2)) (xs (j + 3)) (xs (j + 4)) h8 h6 (fun kn hkn => h.wk (kept.rf g) kn hkn)) (cwV 4 E.2.2.2.2.1 gL_law_X3_look rfl rfl rfl (by decide +kernel) ⟨Nat.le_of_ble_eq_true rfl, Nat.le_of_ble_eq_true rfl⟩) 0 rfl rfl rfl [41, 42, 43, 44, 45, 46, 47, 48, 49, 50, 51, 52, 53, 54, 55, 56, 57, 58, 59, 60, 61] (by decide) emC_lw_m (md_ad _ _ _ _) emP_lw_m rfl rfl (Nat.le_of_ble_eq_true rfl) ⟨Nat.le_of_ble_eq_true rfl, Nat.le_of_ble_eq_true rfl⟩ dL_law_495 (pc' := 498) rfl ?_
  refine zw_icmp_eq (tgt := 811) E dL_law_498 (by decide) (pc' := 501) rfl (fun _ => ?_) (fun q => absurd (q_look h d (xs (j + 1)) (xs (j + 2)) (xs (j + 3)) (xs (j + 4))) q)
  exact kk _ _ _ _ (h.kp (kept_look g _ _ _))
set_option maxHeartbeats 4000000 in
set_option maxRecDepth 100000 in
theorem lc_money {p : Program} {l : Launch} {e : Env} {s : State} {m : MethodId} {args : Array Value} {below : List Frame} {meth : Method} {c : Code} {Q : State → Prop} {D : va_G} {K : Nat → ClassId} {A : Nat → Prop} (E : zw_E p s m args c cL_law 4 RL wsL_law D (zT K) A) {bs L : Nat} {xs : Nat → Int32} (hX : va_X bs L xs s s.heap) (hbl : bs < s.heap.size) (hbA : ¬ A bs) (hL : L ≤ 2560) {j : Nat} (hj : j + 5 ≤ L) {a0 : Nat} {ab al ao am : Nat → Nat} {b : Bk} {d o : Ld} {g : Md} (h : Inv b g) (kk : ∀ b2 d2 o2 g2, Inv b2 g2 → zw_W p l e room_1 s m args below meth c 4 D A 62 4116 Q 811 [(0, .ref bs), (1, .ref a0), (2, .ref (am 0)), (3, .int (nI j))] [] (lw_W K a0 ab al ao am b2 d2 o2 g2)) : zw_W p l e room_1 s m args below meth c 4 D A 62 4116 Q 503 [(0, .ref bs), (1, .ref a0), (2, .ref (am 0)), (3, .int (nI j))] [] (lw_W K a0 ab al ao am b d o g) := by
  have h8 : g.2.2.1 0 ≤ 80 := by rw [h.2.1]; exact h.1.1
  have h6 : g.2.2.1 1 ≤ 60 := by rw [h.1.2.2.1]; exact h.1.2.1
  refine zw_aload_n (i := 1) (x := a0) E 1 dL_law_503 rfl rfl (pc' := 504) rfl ?_
  refine zw_aload_n (i := 0) (x := bs) E 0 dL_law_504 rfl rfl (pc' := 505) rfl ?_
  refine zw_iload_n (i := 3) (x := nI j) E 3 dL_law_505 rfl rfl (pc' := 506) rfl ?_
  refine zw_iconst (v := 1) E dL_law_506 (by decide) (pc' := 507) rfl ?_
  refine zw_iadd E dL_law_507 (pc' := 508) rfl ?_
  refine zw_topi (x' := nI (j + 1)) (nI_add j 1) ?_
  refine zw_sld E hX hbl hbA (j := j + 1) (by omega) (by omega) dL_law_508 (pc' := 509) rfl ?_
  refine zw_aload_n (i := 0) (x := bs) E 0 dL_law_509 rfl rfl (pc' := 510) rfl ?_
  refine zw_iload_n (i := 3) (x := nI j) E 3 dL_law_510 rfl rfl (pc' := 511) rfl ?_
  refine zw_iconst (v := 2) E dL_law_511 (by decide) (pc' := 512) rfl ?_
  refine zw_iadd E dL_law_512 (pc' := 513) rfl ?_
  refine zw_topi (x' := nI (j + 2)) (nI_add j 2) ?_
  refine zw_sld E hX hbl hbA (j := j + 2) (by omega) (by omega) dL_law_513 (pc' := 514) rfl ?_
  refine zw_aload_n (i := 0) (x := bs) E 0 dL_law_514 rfl rfl (pc' := 515) rfl ?_
  refine zw_iload_n (i := 3) (x := nI j) E 3 dL_law_515 rfl rfl (pc' := 516) rfl ?_
  refine zw_iconst (v := 3) E dL_law_516 (by decide) (pc' := 517) rfl ?_
  refine zw_iadd E dL_law_517 (pc' := 518) rfl ?_
  refine zw_topi (x' := nI (j + 3)) (nI_add j 3) ?_
  refine zw_sld E hX hbl hbA (j := j + 3) (by omega) (by omega) dL_law_518 (pc' := 519) rfl ?_
  refine zw_callLv E (r := r_money b d (xs (j + 1)) (xs (j + 2)) (xs (j + 3))) (As := [.int (xs (j + 1)), .int (xs (j + 2)), .int (xs (j + 3))]) (rest := []) (ws' := (lw_W K a0 ab al ao am b (d_money b d (xs (j + 1)) (xs (j + 2)) (xs (j + 3))) o g)) (qX2_money l D K a0 ab al ao b d o (xs (j + 1)) (xs (j + 2)) (xs (j + 3)) h.1.1 h.c1 h.1.en) (cwV 3 E.2.2.2.2.1 gL_law_X2_money rfl rfl rfl (by decide +kernel) ⟨Nat.le_of_ble_eq_true rfl, Nat.le_of_ble_eq_true rfl⟩) 0 rfl rfl rfl [0, 1, 2, 3, 4, 5, 6, 7, 8, 9, 10, 11, 12, 13, 14, 15, 16, 17, 18, 19, 20, 21, 22, 23, 24, 25, 26, 27, 28, 29, 30, 31, 32, 33, 34, 35, 36, 37, 38, 39, 40] (by decide) emC_lw_t (tm_ad _ _ _ _ _ _ _ _ _ _ _) emP_lw_t rfl rfl (Nat.le_of_ble_eq_true rfl) ⟨Nat.le_of_ble_eq_true rfl, Nat.le_of_ble_eq_true rfl⟩ dL_law_519 (pc' := 522) rfl ?_
  refine zw_aload_n (i := 2) (x := am 0) E 2 dL_law_522 rfl rfl (pc' := 523) rfl ?_
  refine zw_aload_n (i := 0) (x := bs) E 0 dL_law_523 rfl rfl (pc' := 524) rfl ?_
  refine zw_iload_n (i := 3) (x := nI j) E 3 dL_law_524 rfl rfl (pc' := 525) rfl ?_
  refine zw_iconst (v := 1) E dL_law_525 (by decide) (pc' := 526) rfl ?_
  refine zw_iadd E dL_law_526 (pc' := 527) rfl ?_
  refine zw_topi (x' := nI (j + 1)) (nI_add j 1) ?_
  refine zw_sld E hX hbl hbA (j := j + 1) (by omega) (by omega) dL_law_527 (pc' := 528) rfl ?_
  refine zw_aload_n (i := 0) (x := bs) E 0 dL_law_528 rfl rfl (pc' := 529) rfl ?_
  refine zw_iload_n (i := 3) (x := nI j) E 3 dL_law_529 rfl rfl (pc' := 530) rfl ?_
  refine zw_iconst (v := 2) E dL_law_530 (by decide) (pc' := 531) rfl ?_
  refine zw_iadd E dL_law_531 (pc' := 532) rfl ?_
  refine zw_topi (x' := nI (j + 2)) (nI_add j 2) ?_
  refine zw_sld E hX hbl hbA (j := j + 2) (by omega) (by omega) dL_law_532 (pc' := 533) rfl ?_
  refine zw_aload_n (i := 0) (x := bs) E 0 dL_law_533 rfl rfl (pc' := 534) rfl ?_
  refine zw_iload_n (i := 3) (x := nI j) E 3 dL_law_534 rfl rfl (pc' := 535) rfl ?_
  refine zw_iconst (v := 3) E dL_law_535 (by decide) (pc' := 536) rfl ?_
  refine zw_iadd E dL_law_536 (pc' := 537) rfl ?_
  refine zw_topi (x' := nI (j + 3)) (nI_add j 3) ?_
  refine zw_sld E hX hbl hbA (j := j + 3) (by omega) (by omega) dL_law_537 (pc' := 538) rfl ?_
  refine zw_callLv E (r := m_money1 g (xs (j + 1)) (xs (j + 2)) (xs (j + 3))) (As := [.int (xs (j + 1)), .int (xs (j + 2)), .int (xs (j + 3))]) (rest := [.long (r_money b d (xs (j + 1)) (xs (j + 2)) (xs (j + 3)))]) (ws' := (lw_W K a0 ab al ao am b (d_money b d (xs (j + 1)) (xs (j + 2)) (xs (j + 3))) o (g_money1 g (xs (j + 1)) (xs (j + 2)) (xs (j + 3))))) (qX3_money l D K am g (xs (j + 1)) (xs (j + 2)) (xs (j + 3)) h8 h6 (fun kn hkn => h.wk (kept.rf g) kn hkn)) (cwV 3 E.2.2.2.2.1 gL_law_X3_money rfl rfl rfl (by decide +kernel) ⟨Nat.le_of_ble_eq_true rfl, Nat.le_of_ble_eq_true rfl⟩) 0 rfl rfl rfl [41, 42, 43, 44, 45, 46, 47, 48, 49, 50, 51, 52, 53, 54, 55, 56, 57, 58, 59, 60, 61] (by decide) emC_lw_m (md_ad _ _ _ _) emP_lw_m rfl rfl (Nat.le_of_ble_eq_true rfl) ⟨Nat.le_of_ble_eq_true rfl, Nat.le_of_ble_eq_true rfl⟩ dL_law_538 (pc' := 541) rfl ?_
  refine zw_lcmp E dL_law_541 (pc' := 542) rfl ?_
  refine zw_ifl_eq (tgt := 811) E dL_law_542 (by decide) (pc' := 545) rfl (fun _ => ?_) (fun q => absurd (q_money h d (xs (j + 1)) (xs (j + 2)) (xs (j + 3))) q)
  exact kk _ _ _ _ (h.kp (kept_money1 g _ _ _))
set_option maxHeartbeats 4000000 in
set_option maxRecDepth 100000 in
theorem lc_owed {p : Program} {l : Launch} {e : Env} {s : State} {m : MethodId} {args : Array Value} {below : List Frame} {meth : Method} {c : Code} {Q : State → Prop} {D : va_G} {K : Nat → ClassId} {A : Nat → Prop} (E : zw_E p s m args c cL_law 4 RL wsL_law D (zT K) A) {bs L : Nat} {xs : Nat → Int32} (hX : va_X bs L xs s s.heap) (hbl : bs < s.heap.size) (hbA : ¬ A bs) (hL : L ≤ 2560) {j : Nat} (hj : j + 5 ≤ L) {a0 : Nat} {ab al ao am : Nat → Nat} {b : Bk} {d o : Ld} {g : Md} (h : Inv b g) (kk : ∀ b2 d2 o2 g2, Inv b2 g2 → zw_W p l e room_1 s m args below meth c 4 D A 62 4116 Q 811 [(0, .ref bs), (1, .ref a0), (2, .ref (am 0)), (3, .int (nI j))] [] (lw_W K a0 ab al ao am b2 d2 o2 g2)) : zw_W p l e room_1 s m args below meth c 4 D A 62 4116 Q 547 [(0, .ref bs), (1, .ref a0), (2, .ref (am 0)), (3, .int (nI j))] [] (lw_W K a0 ab al ao am b d o g) := by
  have h8 : g.2.2.1 0 ≤ 80 := by rw [h.2.1]; exact h.1.1
  have h6 : g.2.2.1 1 ≤ 60 := by rw [h.1.2.2.1]; exact h.1.2.1
  refine zw_aload_n (i := 1) (x := a0) E 1 dL_law_547 rfl rfl (pc' := 548) rfl ?_
  refine zw_aload_n (i := 0) (x := bs) E 0 dL_law_548 rfl rfl (pc' := 549) rfl ?_
  refine zw_iload_n (i := 3) (x := nI j) E 3 dL_law_549 rfl rfl (pc' := 550) rfl ?_
  refine zw_iconst (v := 1) E dL_law_550 (by decide) (pc' := 551) rfl ?_
  refine zw_iadd E dL_law_551 (pc' := 552) rfl ?_
  refine zw_topi (x' := nI (j + 1)) (nI_add j 1) ?_
  refine zw_sld E hX hbl hbA (j := j + 1) (by omega) (by omega) dL_law_552 (pc' := 553) rfl ?_
  refine zw_aload_n (i := 0) (x := bs) E 0 dL_law_553 rfl rfl (pc' := 554) rfl ?_
  refine zw_iload_n (i := 3) (x := nI j) E 3 dL_law_554 rfl rfl (pc' := 555) rfl ?_
  refine zw_iconst (v := 2) E dL_law_555 (by decide) (pc' := 556) rfl ?_
  refine zw_iadd E dL_law_556 (pc' := 557) rfl ?_
  refine zw_topi (x' := nI (j + 2)) (nI_add j 2) ?_
  refine zw_sld E hX hbl hbA (j := j + 2) (by omega) (by omega) dL_law_557 (pc' := 558) rfl ?_
  refine zw_aload_n (i := 0) (x := bs) E 0 dL_law_558 rfl rfl (pc' := 559) rfl ?_
  refine zw_iload_n (i := 3) (x := nI j) E 3 dL_law_559 rfl rfl (pc' := 560) rfl ?_
  refine zw_iconst (v := 3) E dL_law_560 (by decide) (pc' := 561) rfl ?_
  refine zw_iadd E dL_law_561 (pc' := 562) rfl ?_
  refine zw_topi (x' := nI (j + 3)) (nI_add j 3) ?_
  refine zw_sld E hX hbl hbA (j := j + 3) (by omega) (by omega) dL_law_562 (pc' := 563) rfl ?_
  refine zw_callLv E (r := r_owed b d (xs (j + 1)) (xs (j + 2)) (xs (j + 3))) (As := [.int (xs (j + 1)), .int (xs (j + 2)), .int (xs (j + 3))]) (rest := []) (ws' := (lw_W K a0 ab al ao am b (d_owed b d (xs (j + 1)) (xs (j + 2)) (xs (j + 3))) o g)) (qX2_owed l D K a0 ab al ao b d o (xs (j + 1)) (xs (j + 2)) (xs (j + 3)) h.1.1 h.c1 h.1.en) (cwV 3 E.2.2.2.2.1 gL_law_X2_owed rfl rfl rfl (by decide +kernel) ⟨Nat.le_of_ble_eq_true rfl, Nat.le_of_ble_eq_true rfl⟩) 0 rfl rfl rfl [0, 1, 2, 3, 4, 5, 6, 7, 8, 9, 10, 11, 12, 13, 14, 15, 16, 17, 18, 19, 20, 21, 22, 23, 24, 25, 26, 27, 28, 29, 30, 31, 32, 33, 34, 35, 36, 37, 38, 39, 40] (by decide) emC_lw_t (tm_ad _ _ _ _ _ _ _ _ _ _ _) emP_lw_t rfl rfl (Nat.le_of_ble_eq_true rfl) ⟨Nat.le_of_ble_eq_true rfl, Nat.le_of_ble_eq_true rfl⟩ dL_law_563 (pc' := 566) rfl ?_
  refine zw_aload_n (i := 2) (x := am 0) E 2 dL_law_566 rfl rfl (pc' := 567) rfl ?_
  refine zw_aload_n (i := 0) (x := bs) E 0 dL_law_567 rfl rfl (pc' := 568) rfl ?_
  refine zw_iload_n (i := 3) (x := nI j) E 3 dL_law_568 rfl rfl (pc' := 569) rfl ?_
  refine zw_iconst (v := 1) E dL_law_569 (by decide) (pc' := 570) rfl ?_
  refine zw_iadd E dL_law_570 (pc' := 571) rfl ?_
  refine zw_topi (x' := nI (j + 1)) (nI_add j 1) ?_
  refine zw_sld E hX hbl hbA (j := j + 1) (by omega) (by omega) dL_law_571 (pc' := 572) rfl ?_
  refine zw_aload_n (i := 0) (x := bs) E 0 dL_law_572 rfl rfl (pc' := 573) rfl ?_
  refine zw_iload_n (i := 3) (x := nI j) E 3 dL_law_573 rfl rfl (pc' := 574) rfl ?_
  refine zw_iconst (v := 2) E dL_law_574 (by decide) (pc' := 575) rfl ?_
  refine zw_iadd E dL_law_575 (pc' := 576) rfl ?_
  refine zw_topi (x' := nI (j + 2)) (nI_add j 2) ?_
  refine zw_sld E hX hbl hbA (j := j + 2) (by omega) (by omega) dL_law_576 (pc' := 577) rfl ?_
  refine zw_aload_n (i := 0) (x := bs) E 0 dL_law_577 rfl rfl (pc' := 578) rfl ?_
  refine zw_iload_n (i := 3) (x := nI j) E 3 dL_law_578 rfl rfl (pc' := 579) rfl ?_
  refine zw_iconst (v := 3) E dL_law_579 (by decide) (pc' := 580) rfl ?_
  refine zw_iadd E dL_law_580 (pc' := 581) rfl ?_
  refine zw_topi (x' := nI (j + 3)) (nI_add j 3) ?_
  refine zw_sld E hX hbl hbA (j := j + 3) (by omega) (by omega) dL_law_581 (pc' := 582) rfl ?_
  refine zw_callLv E (r := m_owed g (xs (j + 1)) (xs (j + 2)) (xs (j + 3))) (As := [.int (xs (j + 1)), .int (xs (j + 2)), .int (xs (j + 3))]) (rest := [.long (r_owed b d (xs (j + 1)) (xs (j + 2)) (xs (j + 3)))]) (ws' := (lw_W K a0 ab al ao am b (d_owed b d (xs (j + 1)) (xs (j + 2)) (xs (j + 3))) o (g_owed g (xs (j + 1)) (xs (j + 2)) (xs (j + 3))))) (qX3_owed l D K am g (xs (j + 1)) (xs (j + 2)) (xs (j + 3)) h8 h6 (fun kn hkn => h.wk (kept.rf g) kn hkn)) (cwV 3 E.2.2.2.2.1 gL_law_X3_owed rfl rfl rfl (by decide +kernel) ⟨Nat.le_of_ble_eq_true rfl, Nat.le_of_ble_eq_true rfl⟩) 0 rfl rfl rfl [41, 42, 43, 44, 45, 46, 47, 48, 49, 50, 51, 52, 53, 54, 55, 56, 57, 58, 59, 60, 61] (by decide) emC_lw_m (md_ad _ _ _ _) emP_lw_m rfl rfl (Nat.le_of_ble_eq_true rfl) ⟨Nat.le_of_ble_eq_true rfl, Nat.le_of_ble_eq_true rfl⟩ dL_law_582 (pc' := 585) rfl ?_
  refine zw_lcmp E dL_law_585 (pc' := 586) rfl ?_
  refine zw_ifl_eq (tgt := 811) E dL_law_586 (by decide) (pc' := 589) rfl (fun _ => ?_) (fun q => absurd (q_owed h d (xs (j + 1)) (xs (j + 2)) (xs (j + 3))) q)
  exact kk _ _ _ _ (h.kp (kept_owed g _ _ _))
set_option maxHeartbeats 4000000 in
set_option maxRecDepth 100000 in
theorem lc_parish {p : Program} {l : Launch} {e : Env} {s : State} {m : MethodId} {args : Array Value} {below : List Frame} {meth : Method} {c : Code} {Q : State → Prop} {D : va_G} {K : Nat → ClassId} {A : Nat → Prop} (E : zw_E p s m args c cL_law 4 RL wsL_law D (zT K) A) {bs L : Nat} {xs : Nat → Int32} (hX : va_X bs L xs s s.heap) (hbl : bs < s.heap.size) (hbA : ¬ A bs) (hL : L ≤ 2560) {j : Nat} (hj : j + 5 ≤ L) {a0 : Nat} {ab al ao am : Nat → Nat} {b : Bk} {d o : Ld} {g : Md} (h : Inv b g) (kk : ∀ b2 d2 o2 g2, Inv b2 g2 → zw_W p l e room_1 s m args below meth c 4 D A 62 4116 Q 811 [(0, .ref bs), (1, .ref a0), (2, .ref (am 0)), (3, .int (nI j))] [] (lw_W K a0 ab al ao am b2 d2 o2 g2)) : zw_W p l e room_1 s m args below meth c 4 D A 62 4116 Q 591 [(0, .ref bs), (1, .ref a0), (2, .ref (am 0)), (3, .int (nI j))] [] (lw_W K a0 ab al ao am b d o g) := by
  have h8 : g.2.2.1 0 ≤ 80 := by rw [h.2.1]; exact h.1.1
  have h6 : g.2.2.1 1 ≤ 60 := by rw [h.1.2.2.1]; exact h.1.2.1
  refine zw_aload_n (i := 1) (x := a0) E 1 dL_law_591 rfl rfl (pc' := 592) rfl ?_
  refine zw_aload_n (i := 0) (x := bs) E 0 dL_law_592 rfl rfl (pc' := 593) rfl ?_
  refine zw_iload_n (i := 3) (x := nI j) E 3 dL_law_593 rfl rfl (pc' := 594) rfl ?_
  refine zw_iconst (v := 1) E dL_law_594 (by decide) (pc' := 595) rfl ?_
  refine zw_iadd E dL_law_595 (pc' := 596) rfl ?_
  refine zw_topi (x' := nI (j + 1)) (nI_add j 1) ?_
  refine zw_sld E hX hbl hbA (j := j + 1) (by omega) (by omega) dL_law_596 (pc' := 597) rfl ?_
  refine zw_aload_n (i := 0) (x := bs) E 0 dL_law_597 rfl rfl (pc' := 598) rfl ?_
  refine zw_iload_n (i := 3) (x := nI j) E 3 dL_law_598 rfl rfl (pc' := 599) rfl ?_
  refine zw_iconst (v := 2) E dL_law_599 (by decide) (pc' := 600) rfl ?_
  refine zw_iadd E dL_law_600 (pc' := 601) rfl ?_
  refine zw_topi (x' := nI (j + 2)) (nI_add j 2) ?_
  refine zw_sld E hX hbl hbA (j := j + 2) (by omega) (by omega) dL_law_601 (pc' := 602) rfl ?_
  refine zw_aload_n (i := 0) (x := bs) E 0 dL_law_602 rfl rfl (pc' := 603) rfl ?_
  refine zw_iload_n (i := 3) (x := nI j) E 3 dL_law_603 rfl rfl (pc' := 604) rfl ?_
  refine zw_iconst (v := 3) E dL_law_604 (by decide) (pc' := 605) rfl ?_
  refine zw_iadd E dL_law_605 (pc' := 606) rfl ?_
  refine zw_topi (x' := nI (j + 3)) (nI_add j 3) ?_
  refine zw_sld E hX hbl hbA (j := j + 3) (by omega) (by omega) dL_law_606 (pc' := 607) rfl ?_
  refine zw_callLv E (r := r_parish b d (xs (j + 1)) (xs (j + 2)) (xs (j + 3))) (As := [.int (xs (j + 1)), .int (xs (j + 2)), .int (xs (j + 3))]) (rest := []) (ws' := (lw_W K a0 ab al ao am b (d_parish b d (xs (j + 1)) (xs (j + 2)) (xs (j + 3))) o g)) (qX2_parish l D K a0 ab al ao b d o (xs (j + 1)) (xs (j + 2)) (xs (j + 3)) h.1.1 h.c1 h.1.en) (cwV 3 E.2.2.2.2.1 gL_law_X2_parish rfl rfl rfl (by decide +kernel) ⟨Nat.le_of_ble_eq_true rfl, Nat.le_of_ble_eq_true rfl⟩) 0 rfl rfl rfl [0, 1, 2, 3, 4, 5, 6, 7, 8, 9, 10, 11, 12, 13, 14, 15, 16, 17, 18, 19, 20, 21, 22, 23, 24, 25, 26, 27, 28, 29, 30, 31, 32, 33, 34, 35, 36, 37, 38, 39, 40] (by decide) emC_lw_t (tm_ad _ _ _ _ _ _ _ _ _ _ _) emP_lw_t rfl rfl (Nat.le_of_ble_eq_true rfl) ⟨Nat.le_of_ble_eq_true rfl, Nat.le_of_ble_eq_true rfl⟩ dL_law_607 (pc' := 610) rfl ?_
  refine zw_aload_n (i := 2) (x := am 0) E 2 dL_law_610 rfl rfl (pc' := 611) rfl ?_
  refine zw_aload_n (i := 0) (x := bs) E 0 dL_law_611 rfl rfl (pc' := 612) rfl ?_
  refine zw_iload_n (i := 3) (x := nI j) E 3 dL_law_612 rfl rfl (pc' := 613) rfl ?_
  refine zw_iconst (v := 1) E dL_law_613 (by decide) (pc' := 614) rfl ?_
  refine zw_iadd E dL_law_614 (pc' := 615) rfl ?_
  refine zw_topi (x' := nI (j + 1)) (nI_add j 1) ?_
  refine zw_sld E hX hbl hbA (j := j + 1) (by omega) (by omega) dL_law_615 (pc' := 616) rfl ?_
  refine zw_aload_n (i := 0) (x := bs) E 0 dL_law_616 rfl rfl (pc' := 617) rfl ?_
  refine zw_iload_n (i := 3) (x := nI j) E 3 dL_law_617 rfl rfl (pc' := 618) rfl ?_
  refine zw_iconst (v := 2) E dL_law_618 (by decide) (pc' := 619) rfl ?_
  refine zw_iadd E dL_law_619 (pc' := 620) rfl ?_
  refine zw_topi (x' := nI (j + 2)) (nI_add j 2) ?_
  refine zw_sld E hX hbl hbA (j := j + 2) (by omega) (by omega) dL_law_620 (pc' := 621) rfl ?_
  refine zw_aload_n (i := 0) (x := bs) E 0 dL_law_621 rfl rfl (pc' := 622) rfl ?_
  refine zw_iload_n (i := 3) (x := nI j) E 3 dL_law_622 rfl rfl (pc' := 623) rfl ?_
  refine zw_iconst (v := 3) E dL_law_623 (by decide) (pc' := 624) rfl ?_
  refine zw_iadd E dL_law_624 (pc' := 625) rfl ?_
  refine zw_topi (x' := nI (j + 3)) (nI_add j 3) ?_
  refine zw_sld E hX hbl hbA (j := j + 3) (by omega) (by omega) dL_law_625 (pc' := 626) rfl ?_
  refine zw_callLv E (r := m_parish g (xs (j + 1)) (xs (j + 2)) (xs (j + 3))) (As := [.int (xs (j + 1)), .int (xs (j + 2)), .int (xs (j + 3))]) (rest := [.long (r_parish b d (xs (j + 1)) (xs (j + 2)) (xs (j + 3)))]) (ws' := (lw_W K a0 ab al ao am b (d_parish b d (xs (j + 1)) (xs (j + 2)) (xs (j + 3))) o (g_parish g (xs (j + 1)) (xs (j + 2)) (xs (j + 3))))) (qX3_parish l D K am g (xs (j + 1)) (xs (j + 2)) (xs (j + 3)) h8 h6 (fun kn hkn => h.wk (kept.rf g) kn hkn)) (cwV 3 E.2.2.2.2.1 gL_law_X3_parish rfl rfl rfl (by decide +kernel) ⟨Nat.le_of_ble_eq_true rfl, Nat.le_of_ble_eq_true rfl⟩) 0 rfl rfl rfl [41, 42, 43, 44, 45, 46, 47, 48, 49, 50, 51, 52, 53, 54, 55, 56, 57, 58, 59, 60, 61] (by decide) emC_lw_m (md_ad _ _ _ _) emP_lw_m rfl rfl (Nat.le_of_ble_eq_true rfl) ⟨Nat.le_of_ble_eq_true rfl, Nat.le_of_ble_eq_true rfl⟩ dL_law_626 (pc' := 629) rfl ?_
  refine zw_lcmp E dL_law_629 (pc' := 630) rfl ?_
  refine zw_ifl_eq (tgt := 811) E dL_law_630 (by decide) (pc' := 633) rfl (fun _ => ?_) (fun q => absurd (q_parish h d (xs (j + 1)) (xs (j + 2)) (xs (j + 3))) q)
  exact kk _ _ _ _ (h.kp (kept_parish g _ _ _))
set_option maxHeartbeats 4000000 in
set_option maxRecDepth 100000 in
theorem lc_cost {p : Program} {l : Launch} {e : Env} {s : State} {m : MethodId} {args : Array Value} {below : List Frame} {meth : Method} {c : Code} {Q : State → Prop} {D : va_G} {K : Nat → ClassId} {A : Nat → Prop} (E : zw_E p s m args c cL_law 4 RL wsL_law D (zT K) A) {bs L : Nat} {xs : Nat → Int32} (hX : va_X bs L xs s s.heap) (hbl : bs < s.heap.size) (hbA : ¬ A bs) (hL : L ≤ 2560) {j : Nat} (hj : j + 5 ≤ L) {a0 : Nat} {ab al ao am : Nat → Nat} {b : Bk} {d o : Ld} {g : Md} (h : Inv b g) (kk : ∀ b2 d2 o2 g2, Inv b2 g2 → zw_W p l e room_1 s m args below meth c 4 D A 62 4116 Q 811 [(0, .ref bs), (1, .ref a0), (2, .ref (am 0)), (3, .int (nI j))] [] (lw_W K a0 ab al ao am b2 d2 o2 g2)) : zw_W p l e room_1 s m args below meth c 4 D A 62 4116 Q 635 [(0, .ref bs), (1, .ref a0), (2, .ref (am 0)), (3, .int (nI j))] [] (lw_W K a0 ab al ao am b d o g) := by
  have h8 : g.2.2.1 0 ≤ 80 := by rw [h.2.1]; exact h.1.1
  have h6 : g.2.2.1 1 ≤ 60 := by rw [h.1.2.2.1]; exact h.1.2.1
  refine zw_aload_n (i := 1) (x := a0) E 1 dL_law_635 rfl rfl (pc' := 636) rfl ?_
  refine zw_aload_n (i := 0) (x := bs) E 0 dL_law_636 rfl rfl (pc' := 637) rfl ?_
  refine zw_iload_n (i := 3) (x := nI j) E 3 dL_law_637 rfl rfl (pc' := 638) rfl ?_
  refine zw_iconst (v := 1) E dL_law_638 (by decide) (pc' := 639) rfl ?_
  refine zw_iadd E dL_law_639 (pc' := 640) rfl ?_
  refine zw_topi (x' := nI (j + 1)) (nI_add j 1) ?_
  refine zw_sld E hX hbl hbA (j := j + 1) (by omega) (by omega) dL_law_640 (pc' := 641) rfl ?_
  refine zw_aload_n (i := 0) (x := bs) E 0 dL_law_641 rfl rfl (pc' := 642) rfl ?_
  refine zw_iload_n (i := 3) (x := nI j) E 3 dL_law_642 rfl rfl (pc' := 643) rfl ?_
  refine zw_iconst (v := 2) E dL_law_643 (by decide) (pc' := 644) rfl ?_
  refine zw_iadd E dL_law_644 (pc' := 645) rfl ?_
  refine zw_topi (x' := nI (j + 2)) (nI_add j 2) ?_
  refine zw_sld E hX hbl hbA (j := j + 2) (by omega) (by omega) dL_law_645 (pc' := 646) rfl ?_
  refine zw_callLv E (r := r_cost b d (xs (j + 1)) (xs (j + 2))) (As := [.int (xs (j + 1)), .int (xs (j + 2))]) (rest := []) (ws' := (lw_W K a0 ab al ao am b (d_cost b d (xs (j + 1)) (xs (j + 2))) o g)) (qX2_cost l D K a0 ab al ao b d o (xs (j + 1)) (xs (j + 2)) h.1.1 h.c1 h.1.en) (cwV 2 E.2.2.2.2.1 gL_law_X2_cost rfl rfl rfl (by decide +kernel) ⟨Nat.le_of_ble_eq_true rfl, Nat.le_of_ble_eq_true rfl⟩) 0 rfl rfl rfl [0, 1, 2, 3, 4, 5, 6, 7, 8, 9, 10, 11, 12, 13, 14, 15, 16, 17, 18, 19, 20, 21, 22, 23, 24, 25, 26, 27, 28, 29, 30, 31, 32, 33, 34, 35, 36, 37, 38, 39, 40] (by decide) emC_lw_t (tm_ad _ _ _ _ _ _ _ _ _ _ _) emP_lw_t rfl rfl (Nat.le_of_ble_eq_true rfl) ⟨Nat.le_of_ble_eq_true rfl, Nat.le_of_ble_eq_true rfl⟩ dL_law_646 (pc' := 649) rfl ?_
  refine zw_aload_n (i := 2) (x := am 0) E 2 dL_law_649 rfl rfl (pc' := 650) rfl ?_
  refine zw_aload_n (i := 0) (x := bs) E 0 dL_law_650 rfl rfl (pc' := 651) rfl ?_
  refine zw_iload_n (i := 3) (x := nI j) E 3 dL_law_651 rfl rfl (pc' := 652) rfl ?_
  refine zw_iconst (v := 1) E dL_law_652 (by decide) (pc' := 653) rfl ?_
  refine zw_iadd E dL_law_653 (pc' := 654) rfl ?_
  refine zw_topi (x' := nI (j + 1)) (nI_add j 1) ?_
  refine zw_sld E hX hbl hbA (j := j + 1) (by omega) (by omega) dL_law_654 (pc' := 655) rfl ?_
  refine zw_aload_n (i := 0) (x := bs) E 0 dL_law_655 rfl rfl (pc' := 656) rfl ?_
  refine zw_iload_n (i := 3) (x := nI j) E 3 dL_law_656 rfl rfl (pc' := 657) rfl ?_
  refine zw_iconst (v := 2) E dL_law_657 (by decide) (pc' := 658) rfl ?_
  refine zw_iadd E dL_law_658 (pc' := 659) rfl ?_
  refine zw_topi (x' := nI (j + 2)) (nI_add j 2) ?_
  refine zw_sld E hX hbl hbA (j := j + 2) (by omega) (by omega) dL_law_659 (pc' := 660) rfl ?_
  refine zw_callLv E (r := m_cost g (xs (j + 1)) (xs (j + 2))) (As := [.int (xs (j + 1)), .int (xs (j + 2))]) (rest := [.long (r_cost b d (xs (j + 1)) (xs (j + 2)))]) (ws' := (lw_W K a0 ab al ao am b (d_cost b d (xs (j + 1)) (xs (j + 2))) o (g_cost g (xs (j + 1)) (xs (j + 2))))) (qX3_cost l D K am g (xs (j + 1)) (xs (j + 2)) h8 h6 (fun kn hkn => h.wk (kept.rf g) kn hkn) (fun j hj h6 => h.cost j (by rw [← h.2.1]; exact hj) h6)) (cwV 2 E.2.2.2.2.1 gL_law_X3_cost rfl rfl rfl (by decide +kernel) ⟨Nat.le_of_ble_eq_true rfl, Nat.le_of_ble_eq_true rfl⟩) 0 rfl rfl rfl [41, 42, 43, 44, 45, 46, 47, 48, 49, 50, 51, 52, 53, 54, 55, 56, 57, 58, 59, 60, 61] (by decide) emC_lw_m (md_ad _ _ _ _) emP_lw_m rfl rfl (Nat.le_of_ble_eq_true rfl) ⟨Nat.le_of_ble_eq_true rfl, Nat.le_of_ble_eq_true rfl⟩ dL_law_660 (pc' := 663) rfl ?_
  refine zw_lcmp E dL_law_663 (pc' := 664) rfl ?_
  refine zw_ifl_eq (tgt := 811) E dL_law_664 (by decide) (pc' := 667) rfl (fun _ => ?_) (fun q => absurd (q_cost h d (xs (j + 1)) (xs (j + 2))) q)
  exact kk _ _ _ _ (h.kp (kept_cost g _ _))
set_option maxHeartbeats 4000000 in
set_option maxRecDepth 100000 in
theorem lc_field {p : Program} {l : Launch} {e : Env} {s : State} {m : MethodId} {args : Array Value} {below : List Frame} {meth : Method} {c : Code} {Q : State → Prop} {D : va_G} {K : Nat → ClassId} {A : Nat → Prop} (E : zw_E p s m args c cL_law 4 RL wsL_law D (zT K) A) {bs L : Nat} {xs : Nat → Int32} (hX : va_X bs L xs s s.heap) (hbl : bs < s.heap.size) (hbA : ¬ A bs) (hL : L ≤ 2560) {j : Nat} (hj : j + 5 ≤ L) {a0 : Nat} {ab al ao am : Nat → Nat} {b : Bk} {d o : Ld} {g : Md} (h : Inv b g) (kk : ∀ b2 d2 o2 g2, Inv b2 g2 → zw_W p l e room_1 s m args below meth c 4 D A 62 4116 Q 811 [(0, .ref bs), (1, .ref a0), (2, .ref (am 0)), (3, .int (nI j))] [] (lw_W K a0 ab al ao am b2 d2 o2 g2)) : zw_W p l e room_1 s m args below meth c 4 D A 62 4116 Q 669 [(0, .ref bs), (1, .ref a0), (2, .ref (am 0)), (3, .int (nI j))] [] (lw_W K a0 ab al ao am b d o g) := by
  have h8 : g.2.2.1 0 ≤ 80 := by rw [h.2.1]; exact h.1.1
  have h6 : g.2.2.1 1 ≤ 60 := by rw [h.1.2.2.1]; exact h.1.2.1
  refine zw_aload_n (i := 1) (x := a0) E 1 dL_law_669 rfl rfl (pc' := 670) rfl ?_
  refine zw_aload_n (i := 0) (x := bs) E 0 dL_law_670 rfl rfl (pc' := 671) rfl ?_
  refine zw_iload_n (i := 3) (x := nI j) E 3 dL_law_671 rfl rfl (pc' := 672) rfl ?_
  refine zw_iconst (v := 1) E dL_law_672 (by decide) (pc' := 673) rfl ?_
  refine zw_iadd E dL_law_673 (pc' := 674) rfl ?_
  refine zw_topi (x' := nI (j + 1)) (nI_add j 1) ?_
  refine zw_sld E hX hbl hbA (j := j + 1) (by omega) (by omega) dL_law_674 (pc' := 675) rfl ?_
  refine zw_aload_n (i := 0) (x := bs) E 0 dL_law_675 rfl rfl (pc' := 676) rfl ?_
  refine zw_iload_n (i := 3) (x := nI j) E 3 dL_law_676 rfl rfl (pc' := 677) rfl ?_
  refine zw_iconst (v := 2) E dL_law_677 (by decide) (pc' := 678) rfl ?_
  refine zw_iadd E dL_law_678 (pc' := 679) rfl ?_
  refine zw_topi (x' := nI (j + 2)) (nI_add j 2) ?_
  refine zw_sld E hX hbl hbA (j := j + 2) (by omega) (by omega) dL_law_679 (pc' := 680) rfl ?_
  refine zw_callIv E (r := r_field b (xs (j + 1)) (xs (j + 2))) (As := [.int (xs (j + 1)), .int (xs (j + 2))]) (rest := []) (ws' := (lw_W K a0 ab al ao am b d o g)) (qX2_field l D K a0 ab al ao b d o (xs (j + 1)) (xs (j + 2))) (cwV 2 E.2.2.2.2.1 gL_law_X2_field rfl rfl rfl (by decide +kernel) ⟨Nat.le_of_ble_eq_true rfl, Nat.le_of_ble_eq_true rfl⟩) 0 rfl rfl rfl [0, 1, 2, 3, 4, 5, 6, 7, 8, 9, 10, 11, 12, 13, 14, 15, 16, 17, 18, 19, 20, 21, 22, 23, 24, 25, 26, 27, 28, 29, 30, 31, 32, 33, 34, 35, 36, 37, 38, 39, 40] (by decide) emC_lw_t (tm_ad _ _ _ _ _ _ _ _ _ _ _) emP_lw_t rfl rfl (Nat.le_of_ble_eq_true rfl) ⟨Nat.le_of_ble_eq_true rfl, Nat.le_of_ble_eq_true rfl⟩ dL_law_680 (pc' := 683) rfl ?_
  refine zw_aload_n (i := 2) (x := am 0) E 2 dL_law_683 rfl rfl (pc' := 684) rfl ?_
  refine zw_aload_n (i := 0) (x := bs) E 0 dL_law_684 rfl rfl (pc' := 685) rfl ?_
  refine zw_iload_n (i := 3) (x := nI j) E 3 dL_law_685 rfl rfl (pc' := 686) rfl ?_
  refine zw_iconst (v := 1) E dL_law_686 (by decide) (pc' := 687) rfl ?_
  refine zw_iadd E dL_law_687 (pc' := 688) rfl ?_
  refine zw_topi (x' := nI (j + 1)) (nI_add j 1) ?_
  refine zw_sld E hX hbl hbA (j := j + 1) (by omega) (by omega) dL_law_688 (pc' := 689) rfl ?_
  refine zw_aload_n (i := 0) (x := bs) E 0 dL_law_689 rfl rfl (pc' := 690) rfl ?_
  refine zw_iload_n (i := 3) (x := nI j) E 3 dL_law_690 rfl rfl (pc' := 691) rfl ?_
  refine zw_iconst (v := 2) E dL_law_691 (by decide) (pc' := 692) rfl ?_
  refine zw_iadd E dL_law_692 (pc' := 693) rfl ?_
  refine zw_topi (x' := nI (j + 2)) (nI_add j 2) ?_
  refine zw_sld E hX hbl hbA (j := j + 2) (by omega) (by omega) dL_law_693 (pc' := 694) rfl ?_
  refine zw_callIv E (r := m_field g (xs (j + 1)) (xs (j + 2))) (As := [.int (xs (j + 1)), .int (xs (j + 2))]) (rest := [.int (r_field b (xs (j + 1)) (xs (j + 2)))]) (ws' := (lw_W K a0 ab al ao am b d o g)) (qX3_field l D K am g (xs (j + 1)) (xs (j + 2)) h6 h.field) (cwV 2 E.2.2.2.2.1 gL_law_X3_field rfl rfl rfl (by decide +kernel) ⟨Nat.le_of_ble_eq_true rfl, Nat.le_of_ble_eq_true rfl⟩) 0 rfl rfl rfl [41, 42, 43, 44, 45, 46, 47, 48, 49, 50, 51, 52, 53, 54, 55, 56, 57, 58, 59, 60, 61] (by decide) emC_lw_m (md_ad _ _ _ _) emP_lw_m rfl rfl (Nat.le_of_ble_eq_true rfl) ⟨Nat.le_of_ble_eq_true rfl, Nat.le_of_ble_eq_true rfl⟩ dL_law_694 (pc' := 697) rfl ?_
  refine zw_icmp_eq (tgt := 811) E dL_law_697 (by decide) (pc' := 700) rfl (fun _ => ?_) (fun q => absurd (q_field h (xs (j + 1)) (xs (j + 2))) q)
  exact kk _ _ _ _ (h)
set_option maxHeartbeats 4000000 in
set_option maxRecDepth 100000 in
theorem lc_differ {p : Program} {l : Launch} {e : Env} {s : State} {m : MethodId} {args : Array Value} {below : List Frame} {meth : Method} {c : Code} {Q : State → Prop} {D : va_G} {K : Nat → ClassId} {A : Nat → Prop} (E : zw_E p s m args c cL_law 4 RL wsL_law D (zT K) A) {bs L : Nat} {xs : Nat → Int32} (hX : va_X bs L xs s s.heap) (hbl : bs < s.heap.size) (hbA : ¬ A bs) (hL : L ≤ 2560) {j : Nat} (hj : j + 5 ≤ L) {a0 : Nat} {ab al ao am : Nat → Nat} {b : Bk} {d o : Ld} {g : Md} (h : Inv b g) (kk : ∀ b2 d2 o2 g2, Inv b2 g2 → zw_W p l e room_1 s m args below meth c 4 D A 62 4116 Q 811 [(0, .ref bs), (1, .ref a0), (2, .ref (am 0)), (3, .int (nI j))] [] (lw_W K a0 ab al ao am b2 d2 o2 g2)) : zw_W p l e room_1 s m args below meth c 4 D A 62 4116 Q 702 [(0, .ref bs), (1, .ref a0), (2, .ref (am 0)), (3, .int (nI j))] [] (lw_W K a0 ab al ao am b d o g) := by
  have h8 : g.2.2.1 0 ≤ 80 := by rw [h.2.1]; exact h.1.1
  have h6 : g.2.2.1 1 ≤ 60 := by rw [h.1.2.2.1]; exact h.1.2.1
  refine zw_aload_n (i := 1) (x := a0) E 1 dL_law_702 rfl rfl (pc' := 703) rfl ?_
  refine zw_aload_n (i := 0) (x := bs) E 0 dL_law_703 rfl rfl (pc' := 704) rfl ?_
  refine zw_iload_n (i := 3) (x := nI j) E 3 dL_law_704 rfl rfl (pc' := 705) rfl ?_
  refine zw_iconst (v := 1) E dL_law_705 (by decide) (pc' := 706) rfl ?_
  refine zw_iadd E dL_law_706 (pc' := 707) rfl ?_
  refine zw_topi (x' := nI (j + 1)) (nI_add j 1) ?_
  refine zw_sld E hX hbl hbA (j := j + 1) (by omega) (by omega) dL_law_707 (pc' := 708) rfl ?_
  refine zw_aload_n (i := 0) (x := bs) E 0 dL_law_708 rfl rfl (pc' := 709) rfl ?_
  refine zw_iload_n (i := 3) (x := nI j) E 3 dL_law_709 rfl rfl (pc' := 710) rfl ?_
  refine zw_iconst (v := 2) E dL_law_710 (by decide) (pc' := 711) rfl ?_
  refine zw_iadd E dL_law_711 (pc' := 712) rfl ?_
  refine zw_topi (x' := nI (j + 2)) (nI_add j 2) ?_
  refine zw_sld E hX hbl hbA (j := j + 2) (by omega) (by omega) dL_law_712 (pc' := 713) rfl ?_
  refine zw_aload_n (i := 0) (x := bs) E 0 dL_law_713 rfl rfl (pc' := 714) rfl ?_
  refine zw_iload_n (i := 3) (x := nI j) E 3 dL_law_714 rfl rfl (pc' := 715) rfl ?_
  refine zw_iconst (v := 3) E dL_law_715 (by decide) (pc' := 716) rfl ?_
  refine zw_iadd E dL_law_716 (pc' := 717) rfl ?_
  refine zw_topi (x' := nI (j + 3)) (nI_add j 3) ?_
  refine zw_sld E hX hbl hbA (j := j + 3) (by omega) (by omega) dL_law_717 (pc' := 718) rfl ?_
  refine zw_aload_n (i := 0) (x := bs) E 0 dL_law_718 rfl rfl (pc' := 719) rfl ?_
  refine zw_iload_n (i := 3) (x := nI j) E 3 dL_law_719 rfl rfl (pc' := 720) rfl ?_
  refine zw_iconst (v := 4) E dL_law_720 (by decide) (pc' := 721) rfl ?_
  refine zw_iadd E dL_law_721 (pc' := 722) rfl ?_
  refine zw_topi (x' := nI (j + 4)) (nI_add j 4) ?_
  refine zw_sld E hX hbl hbA (j := j + 4) (by omega) (by omega) dL_law_722 (pc' := 723) rfl ?_
  refine zw_callIv E (r := r_differ b d o (xs (j + 1)) (xs (j + 2)) (xs (j + 3)) (xs (j + 4))) (As := [.int (xs (j + 1)), .int (xs (j + 2)), .int (xs (j + 3)), .int (xs (j + 4))]) (rest := []) (ws' := (lw_W K a0 ab al ao am b (d_differ b d (xs (j + 1)) (xs (j + 2)) (xs (j + 3))) (o_differ b o (xs (j + 1)) (xs (j + 2)) (xs (j + 3))) g)) (qX2_differ l D K a0 ab al ao b d o (xs (j + 1)) (xs (j + 2)) (xs (j + 3)) (xs (j + 4)) h.1.1 h.c1 h.1.en) (cwV 4 E.2.2.2.2.1 gL_law_X2_differ rfl rfl rfl (by decide +kernel) ⟨Nat.le_of_ble_eq_true rfl, Nat.le_of_ble_eq_true rfl⟩) 0 rfl rfl rfl [0, 1, 2, 3, 4, 5, 6, 7, 8, 9, 10, 11, 12, 13, 14, 15, 16, 17, 18, 19, 20, 21, 22, 23, 24, 25, 26, 27, 28, 29, 30, 31, 32, 33, 34, 35, 36, 37, 38, 39, 40] (by decide) emC_lw_t (tm_ad _ _ _ _ _ _ _ _ _ _ _) emP_lw_t rfl rfl (Nat.le_of_ble_eq_true rfl) ⟨Nat.le_of_ble_eq_true rfl, Nat.le_of_ble_eq_true rfl⟩ dL_law_723 (pc' := 726) rfl ?_
  refine zw_aload_n (i := 2) (x := am 0) E 2 dL_law_726 rfl rfl (pc' := 727) rfl ?_
  refine zw_aload_n (i := 0) (x := bs) E 0 dL_law_727 rfl rfl (pc' := 728) rfl ?_
  refine zw_iload_n (i := 3) (x := nI j) E 3 dL_law_728 rfl rfl (pc' := 729) rfl ?_
  refine zw_iconst (v := 1) E dL_law_729 (by decide) (pc' := 730) rfl ?_
  refine zw_iadd E dL_law_730 (pc' := 731) rfl ?_
  refine zw_topi (x' := nI (j + 1)) (nI_add j 1) ?_
  refine zw_sld E hX hbl hbA (j := j + 1) (by omega) (by omega) dL_law_731 (pc' := 732) rfl ?_
  refine zw_aload_n (i := 0) (x := bs) E 0 dL_law_732 rfl rfl (pc' := 733) rfl ?_
  refine zw_iload_n (i := 3) (x := nI j) E 3 dL_law_733 rfl rfl (pc' := 734) rfl ?_
  refine zw_iconst (v := 2) E dL_law_734 (by decide) (pc' := 735) rfl ?_
  refine zw_iadd E dL_law_735 (pc' := 736) rfl ?_
  refine zw_topi (x' := nI (j + 2)) (nI_add j 2) ?_
  refine zw_sld E hX hbl hbA (j := j + 2) (by omega) (by omega) dL_law_736 (pc' := 737) rfl ?_
  refine zw_aload_n (i := 0) (x := bs) E 0 dL_law_737 rfl rfl (pc' := 738) rfl ?_
  refine zw_iload_n (i := 3) (x := nI j) E 3 dL_law_738 rfl rfl (pc' := 739) rfl ?_
  refine zw_iconst (v := 3) E dL_law_739 (by decide) (pc' := 740) rfl ?_
  refine zw_iadd E dL_law_740 (pc' := 741) rfl ?_
  refine zw_topi (x' := nI (j + 3)) (nI_add j 3) ?_
  refine zw_sld E hX hbl hbA (j := j + 3) (by omega) (by omega) dL_law_741 (pc' := 742) rfl ?_
  refine zw_aload_n (i := 0) (x := bs) E 0 dL_law_742 rfl rfl (pc' := 743) rfl ?_
  refine zw_iload_n (i := 3) (x := nI j) E 3 dL_law_743 rfl rfl (pc' := 744) rfl ?_
  refine zw_iconst (v := 4) E dL_law_744 (by decide) (pc' := 745) rfl ?_
  refine zw_iadd E dL_law_745 (pc' := 746) rfl ?_
  refine zw_topi (x' := nI (j + 4)) (nI_add j 4) ?_
  refine zw_sld E hX hbl hbA (j := j + 4) (by omega) (by omega) dL_law_746 (pc' := 747) rfl ?_
  refine zw_callIv E (r := m_differ g (xs (j + 1)) (xs (j + 2)) (xs (j + 3)) (xs (j + 4))) (As := [.int (xs (j + 1)), .int (xs (j + 2)), .int (xs (j + 3)), .int (xs (j + 4))]) (rest := [.int (r_differ b d o (xs (j + 1)) (xs (j + 2)) (xs (j + 3)) (xs (j + 4)))]) (ws' := (lw_W K a0 ab al ao am b (d_differ b d (xs (j + 1)) (xs (j + 2)) (xs (j + 3))) (o_differ b o (xs (j + 1)) (xs (j + 2)) (xs (j + 3))) (g_differ g (xs (j + 1)) (xs (j + 2)) (xs (j + 3)) (xs (j + 4))))) (qX3_differ l D K am g (xs (j + 1)) (xs (j + 2)) (xs (j + 3)) (xs (j + 4)) h8 h6 (fun q hq kn hkn => h.wk hq kn hkn)) (cwV 4 E.2.2.2.2.1 gL_law_X3_differ rfl rfl rfl (by decide +kernel) ⟨Nat.le_of_ble_eq_true rfl, Nat.le_of_ble_eq_true rfl⟩) 0 rfl rfl rfl [41, 42, 43, 44, 45, 46, 47, 48, 49, 50, 51, 52, 53, 54, 55, 56, 57, 58, 59, 60, 61] (by decide) emC_lw_m (md_ad _ _ _ _) emP_lw_m rfl rfl (Nat.le_of_ble_eq_true rfl) ⟨Nat.le_of_ble_eq_true rfl, Nat.le_of_ble_eq_true rfl⟩ dL_law_747 (pc' := 750) rfl ?_
  refine zw_icmp_eq (tgt := 811) E dL_law_750 (by decide) (pc' := 753) rfl (fun _ => ?_) (fun q => absurd (q_differ h d o (xs (j + 1)) (xs (j + 2)) (xs (j + 3)) (xs (j + 4))) q)
  exact kk _ _ _ _ (h.kp (kept_differ g _ _ _ _))
set_option maxHeartbeats 4000000 in
set_option maxRecDepth 100000 in
theorem lc_entry {p : Program} {l : Launch} {e : Env} {s : State} {m : MethodId} {args : Array Value} {below : List Frame} {meth : Method} {c : Code} {Q : State → Prop} {D : va_G} {K : Nat → ClassId} {A : Nat → Prop} (E : zw_E p s m args c cL_law 4 RL wsL_law D (zT K) A) {bs L : Nat} {xs : Nat → Int32} (hX : va_X bs L xs s s.heap) (hbl : bs < s.heap.size) (hbA : ¬ A bs) (hL : L ≤ 2560) {j : Nat} (hj : j + 5 ≤ L) {a0 : Nat} {ab al ao am : Nat → Nat} {b : Bk} {d o : Ld} {g : Md} (h : Inv b g) (kk : ∀ b2 d2 o2 g2, Inv b2 g2 → zw_W p l e room_1 s m args below meth c 4 D A 62 4116 Q 811 [(0, .ref bs), (1, .ref a0), (2, .ref (am 0)), (3, .int (nI j))] [] (lw_W K a0 ab al ao am b2 d2 o2 g2)) : zw_W p l e room_1 s m args below meth c 4 D A 62 4116 Q 755 [(0, .ref bs), (1, .ref a0), (2, .ref (am 0)), (3, .int (nI j))] [] (lw_W K a0 ab al ao am b d o g) := by
  have h8 : g.2.2.1 0 ≤ 80 := by rw [h.2.1]; exact h.1.1
  have h6 : g.2.2.1 1 ≤ 60 := by rw [h.1.2.2.1]; exact h.1.2.1
  refine zw_aload_n (i := 1) (x := a0) E 1 dL_law_755 rfl rfl (pc' := 756) rfl ?_
  refine zw_aload_n (i := 0) (x := bs) E 0 dL_law_756 rfl rfl (pc' := 757) rfl ?_
  refine zw_iload_n (i := 3) (x := nI j) E 3 dL_law_757 rfl rfl (pc' := 758) rfl ?_
  refine zw_iconst (v := 1) E dL_law_758 (by decide) (pc' := 759) rfl ?_
  refine zw_iadd E dL_law_759 (pc' := 760) rfl ?_
  refine zw_topi (x' := nI (j + 1)) (nI_add j 1) ?_
  refine zw_sld E hX hbl hbA (j := j + 1) (by omega) (by omega) dL_law_760 (pc' := 761) rfl ?_
  refine zw_aload_n (i := 0) (x := bs) E 0 dL_law_761 rfl rfl (pc' := 762) rfl ?_
  refine zw_iload_n (i := 3) (x := nI j) E 3 dL_law_762 rfl rfl (pc' := 763) rfl ?_
  refine zw_iconst (v := 2) E dL_law_763 (by decide) (pc' := 764) rfl ?_
  refine zw_iadd E dL_law_764 (pc' := 765) rfl ?_
  refine zw_topi (x' := nI (j + 2)) (nI_add j 2) ?_
  refine zw_sld E hX hbl hbA (j := j + 2) (by omega) (by omega) dL_law_765 (pc' := 766) rfl ?_
  refine zw_callIv E (r := r_entry b (xs (j + 1)) (xs (j + 2))) (As := [.int (xs (j + 1)), .int (xs (j + 2))]) (rest := []) (ws' := (lw_W K a0 ab al ao am b d o g)) (qX2_entry l D K a0 ab al ao b d o (xs (j + 1)) (xs (j + 2))) (cwV 2 E.2.2.2.2.1 gL_law_X2_entry rfl rfl rfl (by decide +kernel) ⟨Nat.le_of_ble_eq_true rfl, Nat.le_of_ble_eq_true rfl⟩) 0 rfl rfl rfl [0, 1, 2, 3, 4, 5, 6, 7, 8, 9, 10, 11, 12, 13, 14, 15, 16, 17, 18, 19, 20, 21, 22, 23, 24, 25, 26, 27, 28, 29, 30, 31, 32, 33, 34, 35, 36, 37, 38, 39, 40] (by decide) emC_lw_t (tm_ad _ _ _ _ _ _ _ _ _ _ _) emP_lw_t rfl rfl (Nat.le_of_ble_eq_true rfl) ⟨Nat.le_of_ble_eq_true rfl, Nat.le_of_ble_eq_true rfl⟩ dL_law_766 (pc' := 769) rfl ?_
  refine zw_aload_n (i := 2) (x := am 0) E 2 dL_law_769 rfl rfl (pc' := 770) rfl ?_
  refine zw_aload_n (i := 0) (x := bs) E 0 dL_law_770 rfl rfl (pc' := 771) rfl ?_
  refine zw_iload_n (i := 3) (x := nI j) E 3 dL_law_771 rfl rfl (pc' := 772) rfl ?_
  refine zw_iconst (v := 1) E dL_law_772 (by decide) (pc' := 773) rfl ?_
  refine zw_iadd E dL_law_773 (pc' := 774) rfl ?_
  refine zw_topi (x' := nI (j + 1)) (nI_add j 1) ?_
  refine zw_sld E hX hbl hbA (j := j + 1) (by omega) (by omega) dL_law_774 (pc' := 775) rfl ?_
  refine zw_aload_n (i := 0) (x := bs) E 0 dL_law_775 rfl rfl (pc' := 776) rfl ?_
  refine zw_iload_n (i := 3) (x := nI j) E 3 dL_law_776 rfl rfl (pc' := 777) rfl ?_
  refine zw_iconst (v := 2) E dL_law_777 (by decide) (pc' := 778) rfl ?_
  refine zw_iadd E dL_law_778 (pc' := 779) rfl ?_
  refine zw_topi (x' := nI (j + 2)) (nI_add j 2) ?_
  refine zw_sld E hX hbl hbA (j := j + 2) (by omega) (by omega) dL_law_779 (pc' := 780) rfl ?_
  refine zw_callIv E (r := m_entry g (xs (j + 1)) (xs (j + 2))) (As := [.int (xs (j + 1)), .int (xs (j + 2))]) (rest := [.int (r_entry b (xs (j + 1)) (xs (j + 2)))]) (ws' := (lw_W K a0 ab al ao am b d o g)) (qX3_entry l D K am g h8 (xs (j + 1)) (xs (j + 2))) (cwV 2 E.2.2.2.2.1 gL_law_X3_entry rfl rfl rfl (by decide +kernel) ⟨Nat.le_of_ble_eq_true rfl, Nat.le_of_ble_eq_true rfl⟩) 0 rfl rfl rfl [41, 42, 43, 44, 45, 46, 47, 48, 49, 50, 51, 52, 53, 54, 55, 56, 57, 58, 59, 60, 61] (by decide) emC_lw_m (md_ad _ _ _ _) emP_lw_m rfl rfl (Nat.le_of_ble_eq_true rfl) ⟨Nat.le_of_ble_eq_true rfl, Nat.le_of_ble_eq_true rfl⟩ dL_law_780 (pc' := 783) rfl ?_
  refine zw_icmp_eq (tgt := 811) E dL_law_783 (by decide) (pc' := 786) rfl (fun _ => ?_) (fun q => absurd (q_entry h (xs (j + 1)) (xs (j + 2))) q)
  exact kk _ _ _ _ (h)
set_option maxHeartbeats 4000000 in
set_option maxRecDepth 100000 in
theorem lc_count {p : Program} {l : Launch} {e : Env} {s : State} {m : MethodId} {args : Array Value} {below : List Frame} {meth : Method} {c : Code} {Q : State → Prop} {D : va_G} {K : Nat → ClassId} {A : Nat → Prop} (E : zw_E p s m args c cL_law 4 RL wsL_law D (zT K) A) {bs L : Nat} {xs : Nat → Int32} (hX : va_X bs L xs s s.heap) (hbl : bs < s.heap.size) (hbA : ¬ A bs) (hL : L ≤ 2560) {j : Nat} (hj : j + 5 ≤ L) {a0 : Nat} {ab al ao am : Nat → Nat} {b : Bk} {d o : Ld} {g : Md} (h : Inv b g) (kk : ∀ b2 d2 o2 g2, Inv b2 g2 → zw_W p l e room_1 s m args below meth c 4 D A 62 4116 Q 811 [(0, .ref bs), (1, .ref a0), (2, .ref (am 0)), (3, .int (nI j))] [] (lw_W K a0 ab al ao am b2 d2 o2 g2)) : zw_W p l e room_1 s m args below meth c 4 D A 62 4116 Q 788 [(0, .ref bs), (1, .ref a0), (2, .ref (am 0)), (3, .int (nI j))] [] (lw_W K a0 ab al ao am b d o g) := by
  have h8 : g.2.2.1 0 ≤ 80 := by rw [h.2.1]; exact h.1.1
  have h6 : g.2.2.1 1 ≤ 60 := by rw [h.1.2.2.1]; exact h.1.2.1
  refine zw_aload_n (i := 1) (x := a0) E 1 dL_law_788 rfl rfl (pc' := 789) rfl ?_
  refine zw_aload_n (i := 0) (x := bs) E 0 dL_law_789 rfl rfl (pc' := 790) rfl ?_
  refine zw_iload_n (i := 3) (x := nI j) E 3 dL_law_790 rfl rfl (pc' := 791) rfl ?_
  refine zw_iconst (v := 1) E dL_law_791 (by decide) (pc' := 792) rfl ?_
  refine zw_iadd E dL_law_792 (pc' := 793) rfl ?_
  refine zw_topi (x' := nI (j + 1)) (nI_add j 1) ?_
  refine zw_sld E hX hbl hbA (j := j + 1) (by omega) (by omega) dL_law_793 (pc' := 794) rfl ?_
  refine zw_callIv E (r := r_count b (xs (j + 1))) (As := [.int (xs (j + 1))]) (rest := []) (ws' := (lw_W K a0 ab al ao am b d o g)) (qX2_count l D K a0 ab al ao b d o (xs (j + 1))) (cwV 1 E.2.2.2.2.1 gL_law_X2_count rfl rfl rfl (by decide +kernel) ⟨Nat.le_of_ble_eq_true rfl, Nat.le_of_ble_eq_true rfl⟩) 0 rfl rfl rfl [0, 1, 2, 3, 4, 5, 6, 7, 8, 9, 10, 11, 12, 13, 14, 15, 16, 17, 18, 19, 20, 21, 22, 23, 24, 25, 26, 27, 28, 29, 30, 31, 32, 33, 34, 35, 36, 37, 38, 39, 40] (by decide) emC_lw_t (tm_ad _ _ _ _ _ _ _ _ _ _ _) emP_lw_t rfl rfl (Nat.le_of_ble_eq_true rfl) ⟨Nat.le_of_ble_eq_true rfl, Nat.le_of_ble_eq_true rfl⟩ dL_law_794 (pc' := 797) rfl ?_
  refine zw_aload_n (i := 2) (x := am 0) E 2 dL_law_797 rfl rfl (pc' := 798) rfl ?_
  refine zw_aload_n (i := 0) (x := bs) E 0 dL_law_798 rfl rfl (pc' := 799) rfl ?_
  refine zw_iload_n (i := 3) (x := nI j) E 3 dL_law_799 rfl rfl (pc' := 800) rfl ?_
  refine zw_iconst (v := 1) E dL_law_800 (by decide) (pc' := 801) rfl ?_
  refine zw_iadd E dL_law_801 (pc' := 802) rfl ?_
  refine zw_topi (x' := nI (j + 1)) (nI_add j 1) ?_
  refine zw_sld E hX hbl hbA (j := j + 1) (by omega) (by omega) dL_law_802 (pc' := 803) rfl ?_
  refine zw_callIv E (r := m_count g (xs (j + 1))) (As := [.int (xs (j + 1))]) (rest := [.int (r_count b (xs (j + 1)))]) (ws' := (lw_W K a0 ab al ao am b d o g)) (qX3_count l D K am g (xs (j + 1))) (cwV 1 E.2.2.2.2.1 gL_law_X3_count rfl rfl rfl (by decide +kernel) ⟨Nat.le_of_ble_eq_true rfl, Nat.le_of_ble_eq_true rfl⟩) 0 rfl rfl rfl [41, 42, 43, 44, 45, 46, 47, 48, 49, 50, 51, 52, 53, 54, 55, 56, 57, 58, 59, 60, 61] (by decide) emC_lw_m (md_ad _ _ _ _) emP_lw_m rfl rfl (Nat.le_of_ble_eq_true rfl) ⟨Nat.le_of_ble_eq_true rfl, Nat.le_of_ble_eq_true rfl⟩ dL_law_803 (pc' := 806) rfl ?_
  refine zw_icmp_eq (tgt := 811) E dL_law_806 (by decide) (pc' := 809) rfl (fun _ => ?_) (fun q => absurd (q_count h (xs (j + 1))) q)
  exact kk _ _ _ _ (h)
