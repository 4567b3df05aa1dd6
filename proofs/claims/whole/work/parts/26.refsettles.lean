/-! the reference: settles -/
def mthird (g : Md) (f : Nat) (x : Int32) : Int64 := g.2.1 0 f / 3 + (if g.2.1 0 f - g.2.1 0 f / 3 * 3 ≤ x.toInt64 then 0 else 1)
def mcs (g : Md) (kn en f cn : Nat) (x : Int32) : Md := md_row g 15 (3 * f + cn) (z_near (100 * mthird g f x) (m_avg g kn (g.1 1 en) x).toInt64).toInt32
def mch1 (g : Md) (kn en f : Nat) : Md := if g.1 11 f = 0 then g else mcs (mcs (mcs g kn en f 0 0) kn en f 1 1) kn en f 2 2
def mch (g : Md) (kn en : Nat) : Nat → Md
  | 0 => g
  | k + 1 => mch1 (mch g kn en k) kn en k
theorem mcs_row (g : Md) (kn en f cn : Nat) (x : Int32) (r : Nat) (h : ¬ r = 15) : (mcs g kn en f cn x).1 r = g.1 r := if_neg h
theorem mch1_row (g : Md) (kn en f r : Nat) (h : ¬ r = 15) : (mch1 g kn en f).1 r = g.1 r := by
  unfold mch1
  split
  · rfl
  · rw [mcs_row _ _ _ _ _ _ _ h, mcs_row _ _ _ _ _ _ _ h, mcs_row _ _ _ _ _ _ _ h]
theorem mch_row (g : Md) (kn en r : Nat) (h : ¬ r = 15) : ∀ k, (mch g kn en k).1 r = g.1 r
  | 0 => rfl
  | k + 1 => by rw [mch, mch1_row _ _ _ _ _ h, mch_row g kn en r h k]
theorem p_of_congr {g g2 : Md} (h0 : g2.1 0 = g.1 0) (h1 : g2.1 1 = g.1 1) (h2 : g2.1 2 = g.1 2) (h4 : g2.1 4 = g.1 4) (y x : Int32) : ∀ k, p_of g2 y x k = p_of g y x k
  | 0 => rfl
  | k + 1 => by rw [p_of, p_of, h0, h1, h2, h4, p_of_congr h0 h1 h2 h4 y x k]
theorem m_avg_congr {g g2 : Md} (h0 : g2.1 0 = g.1 0) (h1 : g2.1 1 = g.1 1) (h2 : g2.1 2 = g.1 2) (h4 : g2.1 4 = g.1 4) (kn : Nat) (y x : Int32) : m_avg g2 kn y x = m_avg g kn y x := by
  have hp : ∀ k, av_p g2 kn y x k = av_p g kn y x k := fun k => p_of_congr h0 h1 h2 h4 _ x kn
  have hs : ∀ k, av_sum g2 kn y x k = av_sum g kn y x k := by
    intro k
    induction k with
    | zero => rfl
    | succ k ih => rw [av_sum, av_sum, ih, hp]
  have hm : ∀ k, av_many g2 kn y x k = av_many g kn y x k := by
    intro k
    induction k with
    | zero => rfl
    | succ k ih => rw [av_many, av_many, ih, hp]
  unfold m_avg
  rw [hs, hm]
/-- what settles needs of its entry: its year, and averages above 0 -/
def av_ok (g : Md) (kn en : Nat) : Prop := (1 ≤ g.1 1 en ∧ g.1 1 en ≤ 200) ∧ (¬ (m_avg g kn (g.1 1 en) 0).toInt64 ≤ 0) ∧ (¬ (m_avg g kn (g.1 1 en) 1).toInt64 ≤ 0) ∧ ¬ (m_avg g kn (g.1 1 en) 2).toInt64 ≤ 0
theorem av_ok_congr {g g2 : Md} {kn en : Nat} (h0 : g2.1 0 = g.1 0) (h1 : g2.1 1 = g.1 1) (h2 : g2.1 2 = g.1 2) (h4 : g2.1 4 = g.1 4) (h : av_ok g kn en) : av_ok g2 kn en := by
  unfold av_ok
  rw [h1, m_avg_congr h0 h1 h2 h4, m_avg_congr h0 h1 h2 h4, m_avg_congr h0 h1 h2 h4]
  exact h
theorem av_ok_mcs {g : Md} {kn en f cn : Nat} {x : Int32} (h : av_ok g kn en) : av_ok (mcs g kn en f cn x) kn en := av_ok_congr (mcs_row _ _ _ _ _ _ 0 (by decide)) (mcs_row _ _ _ _ _ _ 1 (by decide)) (mcs_row _ _ _ _ _ _ 2 (by decide)) (mcs_row _ _ _ _ _ _ 4 (by decide)) h
theorem av_ok_mch {g : Md} {kn en : Nat} (h : av_ok g kn en) (k : Nat) : av_ok (mch g kn en k) kn en := av_ok_congr (mch_row _ _ _ 0 (by decide) k) (mch_row _ _ _ 1 (by decide) k) (mch_row _ _ _ 2 (by decide) k) (mch_row _ _ _ 4 (by decide) k) h
theorem kX3_settles_106 : Cond.constantLong RX3 106 (3) ∈ wsX3_settles := by decide +kernel
theorem kX3_settles_108 : Cond.constantLong RX3 108 (100) ∈ wsX3_settles := by decide +kernel
theorem fX3_settles_110 : Cond.fieldLink RX3 110 "TitheMapModel" "isSettled" "Z" ∈ wsX3_settles := by decide +kernel
theorem fX3_settles_13 : Cond.fieldLink RX3 13 "TitheMapModel" "year" "[I" ∈ wsX3_settles := by decide +kernel
theorem fX3_settles_43 : Cond.fieldLink RX3 43 "TitheMapModel" "isThere" "[Z" ∈ wsX3_settles := by decide +kernel
theorem fX3_settles_56 : Cond.fieldLink RX3 56 "TitheMapModel" "charge" "[I" ∈ wsX3_settles := by decide +kernel
theorem fX3_settles_62 : Cond.fieldLink RX3 62 "TitheMapModel" "share" "[J" ∈ wsX3_settles := by decide +kernel
theorem iX3_settles_X3 : ∀ w ∈ wsX30, w ∈ wsX3_settles := by decide +kernel
set_option maxHeartbeats 4000000 in
set_option maxRecDepth 100000 in
theorem lX3_cs_0 {l : Launch} {D : va_G} {K : Nat → ClassId} {p : Program} {e : Env} {s : State} {m : MethodId} {below : List Frame} {meth : Method} {c : Code} {A : Nat → Prop} {args : Array Value} {Q : State → Prop} (E : zw_E p s m args c cX3_settles 11 RX3 wsX3_settles D (zT K) A) (am : Nat → Nat) (g : Md) (kn en f : Nat) (hkn : kn ≤ 80) (hen : en < 80) (hf : f < 60) (hth : ¬ g.1 11 f = 0) (hok : av_ok g kn en) (t L : Int64) (kk : zw_W p l e rmX3_settles s m args below meth c 11 D A 0 0 Q 263 [(0, .ref (am 0)), (1, .int (nI kn)), (2, .int (nI en)), (3, .long t), (5, .long L), (7, .int (nI f)), (8, .int 1)] [] (md_W K am (mcs g kn en f 0 0))) : zw_W p l e rmX3_settles s m args below meth c 11 D A 0 0 Q 263 [(0, .ref (am 0)), (1, .int (nI kn)), (2, .int (nI en)), (3, .long t), (5, .long L), (7, .int (nI f)), (8, .int 0)] [] (md_W K am g) := by
  refine zw_iload (x := 0) E 6 dX3_settles_263 rfl (pc' := 265) rfl ?_
  refine zw_iconst (v := 3) E dX3_settles_265 (by decide) (pc' := 266) rfl ?_
  refine zw_icmp_ge (tgt := 358) E dX3_settles_266 (by decide) (pc' := 269) rfl (fun c9 => absurd c9 (by decide)) (fun _ => ?_)
  refine zw_aload_n (i := 0) (x := am 0) E 0 dX3_settles_269 rfl rfl (pc' := 270) rfl ?_
  refine zw_get (v := .ref (am 12)) E 0 13 iX3_settles_X3 fX3_settles_43 rfl rfl (by decide) rfl rfl dX3_settles_270 (pc' := 273) rfl ?_
  refine zw_iload (x := nI f) E 5 dX3_settles_273 rfl (pc' := 275) rfl ?_
  refine zw_zald (j := f) (x := g.1 11 f) E 12 1 rfl rfl (vp_in_nI hf (by decide)) (zw_clamp hf (by decide)) rfl dX3_settles_275 (pc' := 276) rfl ?_
  refine zw_if_eq (tgt := 358) E dX3_settles_276 (by decide) (pc' := 279) rfl (fun c_1 => ?_) (fun c_1 => ?_)
  · exact absurd c_1 hth
  · skip
    refine zw_aload_n (i := 0) (x := am 0) E 0 dX3_settles_279 rfl rfl (pc' := 280) rfl ?_
    refine zw_get (v := .ref (am 18)) E 0 20 iX3_settles_X3 fX3_settles_62 rfl rfl (by decide) rfl rfl dX3_settles_280 (pc' := 283) rfl ?_
    refine zw_iload (x := nI f) E 5 dX3_settles_283 rfl (pc' := 285) rfl ?_
    refine zw_lald (j := f) (x := g.2.1 0 f) E 18 2 rfl rfl (vp_in_nI hf (by decide)) (zw_clamp hf (by decide)) rfl dX3_settles_285 (pc' := 286) rfl ?_
    refine zw_ldc2 (v := 3) E dX3_settles_286 kX3_settles_106 (pc' := 289) rfl ?_
    refine zw_ldiv E dX3_settles_289 (by decide) (pc' := 290) rfl ?_
    refine zw_aload_n (i := 0) (x := am 0) E 0 dX3_settles_290 rfl rfl (pc' := 291) rfl ?_
    refine zw_get (v := .ref (am 18)) E 0 20 iX3_settles_X3 fX3_settles_62 rfl rfl (by decide) rfl rfl dX3_settles_291 (pc' := 294) rfl ?_
    refine zw_iload (x := nI f) E 5 dX3_settles_294 rfl (pc' := 296) rfl ?_
    refine zw_lald (j := f) (x := g.2.1 0 f) E 18 2 rfl rfl (vp_in_nI hf (by decide)) (zw_clamp hf (by decide)) rfl dX3_settles_296 (pc' := 297) rfl ?_
    refine zw_ldc2 (v := 3) E dX3_settles_297 kX3_settles_106 (pc' := 300) rfl ?_
    refine zw_lrem E dX3_settles_300 (by decide) (pc' := 301) rfl ?_
    refine zw_iload (x := 0) E 6 dX3_settles_301 rfl (pc' := 303) rfl ?_
    refine zw_i2l E dX3_settles_303 (pc' := 304) rfl ?_
    refine zw_lcmp E dX3_settles_304 (pc' := 305) rfl ?_
    refine zw_ifl_le (tgt := 312) E dX3_settles_305 (by decide) (pc' := 308) rfl (fun c_2 => ?_) (fun c_2 => ?_)
    · skip
      refine zw_lconst (v := 0) E dX3_settles_312 (by decide) (pc' := 313) rfl ?_
      refine zw_ladd E dX3_settles_313 (pc' := 314) rfl ?_
      refine zw_lstore (lv' := [(9, .long (((g.2.1 0 f) / 3) + 0)), (0, .ref (am 0)), (1, .int (nI kn)), (2, .int (nI en)), (3, .long t), (5, .long L), (7, .int (nI f)), (8, .int 0)]) E dX3_settles_314 (by decide) rfl (pc' := 316) rfl ?_
      refine zw_aload_n (i := 0) (x := am 0) E 1 dX3_settles_316 rfl rfl (pc' := 317) rfl ?_
      refine zw_get (v := .ref (am 16)) E 0 17 iX3_settles_X3 fX3_settles_56 rfl rfl (by decide) rfl rfl dX3_settles_317 (pc' := 320) rfl ?_
      refine zw_iconst (v := 3) E dX3_settles_320 (by decide) (pc' := 321) rfl ?_
      refine zw_iload (x := nI f) E 6 dX3_settles_321 rfl (pc' := 323) rfl ?_
      refine zw_imul E dX3_settles_323 (pc' := 324) rfl ?_
      refine zw_topi (x' := nI (3 * f)) (pk_mul 3 f) ?_
      refine zw_iload (x := 0) E 7 dX3_settles_324 rfl (pc' := 326) rfl ?_
      refine zw_iadd E dX3_settles_326 (pc' := 327) rfl ?_
      refine zw_topi (x' := nI (3 * f + 0)) (nI_add (3 * f) 0) ?_
      refine zw_ldc2 (v := 100) E dX3_settles_327 kX3_settles_108 (pc' := 330) rfl ?_
      refine zw_lload (x := ((g.2.1 0 f) / 3) + 0) E 0 dX3_settles_330 rfl (pc' := 332) rfl ?_
      refine zw_lmul E dX3_settles_332 (pc' := 333) rfl ?_
      refine zw_aload_n (i := 0) (x := am 0) E 1 dX3_settles_333 rfl rfl (pc' := 334) rfl ?_
      refine zw_iload_n (i := 1) (x := nI kn) E 2 dX3_settles_334 rfl rfl (pc' := 335) rfl ?_
      refine zw_aload_n (i := 0) (x := am 0) E 1 dX3_settles_335 rfl rfl (pc' := 336) rfl ?_
      refine zw_get (v := .ref (am 2)) E 0 3 iX3_settles_X3 fX3_settles_13 rfl rfl (by decide) rfl rfl dX3_settles_336 (pc' := 339) rfl ?_
      refine zw_iload_n (i := 2) (x := nI en) E 3 dX3_settles_339 rfl rfl (pc' := 340) rfl ?_
      refine zw_iald (j := en) (x := g.1 1 en) E 2 0 rfl rfl (vp_in_nI hen (by decide)) (zw_clamp hen (by decide)) rfl dX3_settles_340 (pc' := 341) rfl ?_
      refine zw_iload (x := 0) E 7 dX3_settles_341 rfl (pc' := 343) rfl ?_
      refine zw_callIw E (r := m_avg g kn (g.1 1 en) 0) (As := [.int (nI kn), .int (g.1 1 en), .int 0]) (rest := [.long (100 * (((g.2.1 0 f) / 3) + 0)), .int (nI (3 * f + 0)), .ref (am 16)]) (ws' := (md_W K am g)) (qX3_averageOf l D K am g kn hkn (g.1 1 en) 0 hok.1) (cwV 3 E.2.2.2.2.1 gX3_settles_X3_averageOf rfl rfl rfl (by decide +kernel) ⟨Nat.le_of_ble_eq_true rfl, Nat.le_of_ble_eq_true rfl⟩) 0 rfl rfl rfl rfl rfl rfl (Nat.le_of_ble_eq_true rfl) ⟨Nat.zero_le _, Nat.zero_le _⟩ dX3_settles_343 (pc' := 346) rfl ?_
      refine zw_i2l E dX3_settles_346 (pc' := 347) rfl ?_
      refine zw_callLs E (r := z_near (100 * (((g.2.1 0 f) / 3) + 0)) ((m_avg g kn (g.1 1 en) 0).toInt64)) (As := [.long (100 * (((g.2.1 0 f) / 3) + 0)), .long ((m_avg g kn (g.1 1 en) 0).toInt64)]) (rest := [.int (nI (3 * f + 0)), .ref (am 16)]) (ws' := (md_W K am g)) (qX3_nearest l D K (100 * (((g.2.1 0 f) / 3) + 0)) ((m_avg g kn (g.1 1 en) 0).toInt64) (zw_m2 hok.2.1)) (va_cwS 2 E.2.2.2.2.1 gX3_settles_X3_nearest rfl rfl rfl (by decide +kernel) ⟨Nat.le_of_ble_eq_true rfl, Nat.le_of_ble_eq_true rfl⟩) [] (by decide) rfl rfl (zw_put_same _ _ _ rfl) rfl rfl (Nat.le_of_ble_eq_true rfl) ⟨Nat.zero_le _, Nat.zero_le _⟩ dX3_settles_347 (pc' := 350) rfl ?_
      refine zw_l2i E dX3_settles_350 (pc' := 351) rfl ?_
      refine zw_iast (j := 3 * f + 0) (ws' := (md_W K am (md_row g 15 (3 * f + 0) ((z_near (100 * (((g.2.1 0 f) / 3) + 0)) ((m_avg g kn (g.1 1 en) 0).toInt64)).toInt32)))) E 16 0 rfl rfl (vp_in_nI (show 3 * f + 0 < 180 by omega) (by decide)) (zw_clamp (show 3 * f + 0 < 180 by omega) (by decide)) rfl dX3_settles_351 (pc' := 352) rfl ?_
      refine zw_iinc (x := 0) (v := 1) (lv' := [(8, .int 1), (9, .long (((g.2.1 0 f) / 3) + 0)), (0, .ref (am 0)), (1, .int (nI kn)), (2, .int (nI en)), (3, .long t), (5, .long L), (7, .int (nI f))]) E 7 dX3_settles_352 rfl (by decide) (by decide) rfl (pc' := 355) rfl ?_
      refine zw_goto (tgt := 263) E dX3_settles_355 (by decide) ?_
      refine zw_ws (ws' := md_W K am (mcs g kn en f 0 0)) (congrArg (md_W K am) (by unfold mcs mthird; rw [if_pos c_2])) ?_
      refine zw_sub [2, 3, 4, 5, 6, 7, 0] (lv' := [(0, .ref (am 0)), (1, .int (nI kn)), (2, .int (nI en)), (3, .long t), (5, .long L), (7, .int (nI f)), (8, .int 1)]) rfl ?_
      exact kk
    · skip
      refine zw_lconst (v := 1) E dX3_settles_308 (by decide) (pc' := 309) rfl ?_
      refine zw_goto (tgt := 313) E dX3_settles_309 (by decide) ?_
      refine zw_ladd E dX3_settles_313 (pc' := 314) rfl ?_
      refine zw_lstore (lv' := [(9, .long (((g.2.1 0 f) / 3) + 1)), (0, .ref (am 0)), (1, .int (nI kn)), (2, .int (nI en)), (3, .long t), (5, .long L), (7, .int (nI f)), (8, .int 0)]) E dX3_settles_314 (by decide) rfl (pc' := 316) rfl ?_
      refine zw_aload_n (i := 0) (x := am 0) E 1 dX3_settles_316 rfl rfl (pc' := 317) rfl ?_
      refine zw_get (v := .ref (am 16)) E 0 17 iX3_settles_X3 fX3_settles_56 rfl rfl (by decide) rfl rfl dX3_settles_317 (pc' := 320) rfl ?_
      refine zw_iconst (v := 3) E dX3_settles_320 (by decide) (pc' := 321) rfl ?_
      refine zw_iload (x := nI f) E 6 dX3_settles_321 rfl (pc' := 323) rfl ?_
      refine zw_imul E dX3_settles_323 (pc' := 324) rfl ?_
      refine zw_topi (x' := nI (3 * f)) (pk_mul 3 f) ?_
      refine zw_iload (x := 0) E 7 dX3_settles_324 rfl (pc' := 326) rfl ?_
      refine zw_iadd E dX3_settles_326 (pc' := 327) rfl ?_
      refine zw_topi (x' := nI (3 * f + 0)) (nI_add (3 * f) 0) ?_
      refine zw_ldc2 (v := 100) E dX3_settles_327 kX3_settles_108 (pc' := 330) rfl ?_
      refine zw_lload (x := ((g.2.1 0 f) / 3) + 1) E 0 dX3_settles_330 rfl (pc' := 332) rfl ?_
      refine zw_lmul E dX3_settles_332 (pc' := 333) rfl ?_
      refine zw_aload_n (i := 0) (x := am 0) E 1 dX3_settles_333 rfl rfl (pc' := 334) rfl ?_
      refine zw_iload_n (i := 1) (x := nI kn) E 2 dX3_settles_334 rfl rfl (pc' := 335) rfl ?_
      refine zw_aload_n (i := 0) (x := am 0) E 1 dX3_settles_335 rfl rfl (pc' := 336) rfl ?_
      refine zw_get (v := .ref (am 2)) E 0 3 iX3_settles_X3 fX3_settles_13 rfl rfl (by decide) rfl rfl dX3_settles_336 (pc' := 339) rfl ?_
      refine zw_iload_n (i := 2) (x := nI en) E 3 dX3_settles_339 rfl rfl (pc' := 340) rfl ?_
      refine zw_iald (j := en) (x := g.1 1 en) E 2 0 rfl rfl (vp_in_nI hen (by decide)) (zw_clamp hen (by decide)) rfl dX3_settles_340 (pc' := 341) rfl ?_
      refine zw_iload (x := 0) E 7 dX3_settles_341 rfl (pc' := 343) rfl ?_
      refine zw_callIw E (r := m_avg g kn (g.1 1 en) 0) (As := [.int (nI kn), .int (g.1 1 en), .int 0]) (rest := [.long (100 * (((g.2.1 0 f) / 3) + 1)), .int (nI (3 * f + 0)), .ref (am 16)]) (ws' := (md_W K am g)) (qX3_averageOf l D K am g kn hkn (g.1 1 en) 0 hok.1) (cwV 3 E.2.2.2.2.1 gX3_settles_X3_averageOf rfl rfl rfl (by decide +kernel) ⟨Nat.le_of_ble_eq_true rfl, Nat.le_of_ble_eq_true rfl⟩) 0 rfl rfl rfl rfl rfl rfl (Nat.le_of_ble_eq_true rfl) ⟨Nat.zero_le _, Nat.zero_le _⟩ dX3_settles_343 (pc' := 346) rfl ?_
      refine zw_i2l E dX3_settles_346 (pc' := 347) rfl ?_
      refine zw_callLs E (r := z_near (100 * (((g.2.1 0 f) / 3) + 1)) ((m_avg g kn (g.1 1 en) 0).toInt64)) (As := [.long (100 * (((g.2.1 0 f) / 3) + 1)), .long ((m_avg g kn (g.1 1 en) 0).toInt64)]) (rest := [.int (nI (3 * f + 0)), .ref (am 16)]) (ws' := (md_W K am g)) (qX3_nearest l D K (100 * (((g.2.1 0 f) / 3) + 1)) ((m_avg g kn (g.1 1 en) 0).toInt64) (zw_m2 hok.2.1)) (va_cwS 2 E.2.2.2.2.1 gX3_settles_X3_nearest rfl rfl rfl (by decide +kernel) ⟨Nat.le_of_ble_eq_true rfl, Nat.le_of_ble_eq_true rfl⟩) [] (by decide) rfl rfl (zw_put_same _ _ _ rfl) rfl rfl (Nat.le_of_ble_eq_true rfl) ⟨Nat.zero_le _, Nat.zero_le _⟩ dX3_settles_347 (pc' := 350) rfl ?_
      refine zw_l2i E dX3_settles_350 (pc' := 351) rfl ?_
      refine zw_iast (j := 3 * f + 0) (ws' := (md_W K am (md_row g 15 (3 * f + 0) ((z_near (100 * (((g.2.1 0 f) / 3) + 1)) ((m_avg g kn (g.1 1 en) 0).toInt64)).toInt32)))) E 16 0 rfl rfl (vp_in_nI (show 3 * f + 0 < 180 by omega) (by decide)) (zw_clamp (show 3 * f + 0 < 180 by omega) (by decide)) rfl dX3_settles_351 (pc' := 352) rfl ?_
      refine zw_iinc (x := 0) (v := 1) (lv' := [(8, .int 1), (9, .long (((g.2.1 0 f) / 3) + 1)), (0, .ref (am 0)), (1, .int (nI kn)), (2, .int (nI en)), (3, .long t), (5, .long L), (7, .int (nI f))]) E 7 dX3_settles_352 rfl (by decide) (by decide) rfl (pc' := 355) rfl ?_
      refine zw_goto (tgt := 263) E dX3_settles_355 (by decide) ?_
      refine zw_ws (ws' := md_W K am (mcs g kn en f 0 0)) (congrArg (md_W K am) (by unfold mcs mthird; rw [if_neg c_2])) ?_
      refine zw_sub [2, 3, 4, 5, 6, 7, 0] (lv' := [(0, .ref (am 0)), (1, .int (nI kn)), (2, .int (nI en)), (3, .long t), (5, .long L), (7, .int (nI f)), (8, .int 1)]) rfl ?_
      exact kk

set_option maxHeartbeats 4000000 in
set_option maxRecDepth 100000 in
theorem lX3_cs_1 {l : Launch} {D : va_G} {K : Nat → ClassId} {p : Program} {e : Env} {s : State} {m : MethodId} {below : List Frame} {meth : Method} {c : Code} {A : Nat → Prop} {args : Array Value} {Q : State → Prop} (E : zw_E p s m args c cX3_settles 11 RX3 wsX3_settles D (zT K) A) (am : Nat → Nat) (g : Md) (kn en f : Nat) (hkn : kn ≤ 80) (hen : en < 80) (hf : f < 60) (hth : ¬ g.1 11 f = 0) (hok : av_ok g kn en) (t L : Int64) (kk : zw_W p l e rmX3_settles s m args below meth c 11 D A 0 0 Q 263 [(0, .ref (am 0)), (1, .int (nI kn)), (2, .int (nI en)), (3, .long t), (5, .long L), (7, .int (nI f)), (8, .int 2)] [] (md_W K am (mcs g kn en f 1 1))) : zw_W p l e rmX3_settles s m args below meth c 11 D A 0 0 Q 263 [(0, .ref (am 0)), (1, .int (nI kn)), (2, .int (nI en)), (3, .long t), (5, .long L), (7, .int (nI f)), (8, .int 1)] [] (md_W K am g) := by
  refine zw_iload (x := 1) E 6 dX3_settles_263 rfl (pc' := 265) rfl ?_
  refine zw_iconst (v := 3) E dX3_settles_265 (by decide) (pc' := 266) rfl ?_
  refine zw_icmp_ge (tgt := 358) E dX3_settles_266 (by decide) (pc' := 269) rfl (fun c9 => absurd c9 (by decide)) (fun _ => ?_)
  refine zw_aload_n (i := 0) (x := am 0) E 0 dX3_settles_269 rfl rfl (pc' := 270) rfl ?_
  refine zw_get (v := .ref (am 12)) E 0 13 iX3_settles_X3 fX3_settles_43 rfl rfl (by decide) rfl rfl dX3_settles_270 (pc' := 273) rfl ?_
  refine zw_iload (x := nI f) E 5 dX3_settles_273 rfl (pc' := 275) rfl ?_
  refine zw_zald (j := f) (x := g.1 11 f) E 12 1 rfl rfl (vp_in_nI hf (by decide)) (zw_clamp hf (by decide)) rfl dX3_settles_275 (pc' := 276) rfl ?_
  refine zw_if_eq (tgt := 358) E dX3_settles_276 (by decide) (pc' := 279) rfl (fun c_1 => ?_) (fun c_1 => ?_)
  · exact absurd c_1 hth
  · skip
    refine zw_aload_n (i := 0) (x := am 0) E 0 dX3_settles_279 rfl rfl (pc' := 280) rfl ?_
    refine zw_get (v := .ref (am 18)) E 0 20 iX3_settles_X3 fX3_settles_62 rfl rfl (by decide) rfl rfl dX3_settles_280 (pc' := 283) rfl ?_
    refine zw_iload (x := nI f) E 5 dX3_settles_283 rfl (pc' := 285) rfl ?_
    refine zw_lald (j := f) (x := g.2.1 0 f) E 18 2 rfl rfl (vp_in_nI hf (by decide)) (zw_clamp hf (by decide)) rfl dX3_settles_285 (pc' := 286) rfl ?_
    refine zw_ldc2 (v := 3) E dX3_settles_286 kX3_settles_106 (pc' := 289) rfl ?_
    refine zw_ldiv E dX3_settles_289 (by decide) (pc' := 290) rfl ?_
    refine zw_aload_n (i := 0) (x := am 0) E 0 dX3_settles_290 rfl rfl (pc' := 291) rfl ?_
    refine zw_get (v := .ref (am 18)) E 0 20 iX3_settles_X3 fX3_settles_62 rfl rfl (by decide) rfl rfl dX3_settles_291 (pc' := 294) rfl ?_
    refine zw_iload (x := nI f) E 5 dX3_settles_294 rfl (pc' := 296) rfl ?_
    refine zw_lald (j := f) (x := g.2.1 0 f) E 18 2 rfl rfl (vp_in_nI hf (by decide)) (zw_clamp hf (by decide)) rfl dX3_settles_296 (pc' := 297) rfl ?_
    refine zw_ldc2 (v := 3) E dX3_settles_297 kX3_settles_106 (pc' := 300) rfl ?_
    refine zw_lrem E dX3_settles_300 (by decide) (pc' := 301) rfl ?_
    refine zw_iload (x := 1) E 6 dX3_settles_301 rfl (pc' := 303) rfl ?_
    refine zw_i2l E dX3_settles_303 (pc' := 304) rfl ?_
    refine zw_lcmp E dX3_settles_304 (pc' := 305) rfl ?_
    refine zw_ifl_le (tgt := 312) E dX3_settles_305 (by decide) (pc' := 308) rfl (fun c_2 => ?_) (fun c_2 => ?_)
    · skip
      refine zw_lconst (v := 0) E dX3_settles_312 (by decide) (pc' := 313) rfl ?_
      refine zw_ladd E dX3_settles_313 (pc' := 314) rfl ?_
      refine zw_lstore (lv' := [(9, .long (((g.2.1 0 f) / 3) + 0)), (0, .ref (am 0)), (1, .int (nI kn)), (2, .int (nI en)), (3, .long t), (5, .long L), (7, .int (nI f)), (8, .int 1)]) E dX3_settles_314 (by decide) rfl (pc' := 316) rfl ?_
      refine zw_aload_n (i := 0) (x := am 0) E 1 dX3_settles_316 rfl rfl (pc' := 317) rfl ?_
      refine zw_get (v := .ref (am 16)) E 0 17 iX3_settles_X3 fX3_settles_56 rfl rfl (by decide) rfl rfl dX3_settles_317 (pc' := 320) rfl ?_
      refine zw_iconst (v := 3) E dX3_settles_320 (by decide) (pc' := 321) rfl ?_
      refine zw_iload (x := nI f) E 6 dX3_settles_321 rfl (pc' := 323) rfl ?_
      refine zw_imul E dX3_settles_323 (pc' := 324) rfl ?_
      refine zw_topi (x' := nI (3 * f)) (pk_mul 3 f) ?_
      refine zw_iload (x := 1) E 7 dX3_settles_324 rfl (pc' := 326) rfl ?_
      refine zw_iadd E dX3_settles_326 (pc' := 327) rfl ?_
      refine zw_topi (x' := nI (3 * f + 1)) (nI_add (3 * f) 1) ?_
      refine zw_ldc2 (v := 100) E dX3_settles_327 kX3_settles_108 (pc' := 330) rfl ?_
      refine zw_lload (x := ((g.2.1 0 f) / 3) + 0) E 0 dX3_settles_330 rfl (pc' := 332) rfl ?_
      refine zw_lmul E dX3_settles_332 (pc' := 333) rfl ?_
      refine zw_aload_n (i := 0) (x := am 0) E 1 dX3_settles_333 rfl rfl (pc' := 334) rfl ?_
      refine zw_iload_n (i := 1) (x := nI kn) E 2 dX3_settles_334 rfl rfl (pc' := 335) rfl ?_
      refine zw_aload_n (i := 0) (x := am 0) E 1 dX3_settles_335 rfl rfl (pc' := 336) rfl ?_
      refine zw_get (v := .ref (am 2)) E 0 3 iX3_settles_X3 fX3_settles_13 rfl rfl (by decide) rfl rfl dX3_settles_336 (pc' := 339) rfl ?_
      refine zw_iload_n (i := 2) (x := nI en) E 3 dX3_settles_339 rfl rfl (pc' := 340) rfl ?_
      refine zw_iald (j := en) (x := g.1 1 en) E 2 0 rfl rfl (vp_in_nI hen (by decide)) (zw_clamp hen (by decide)) rfl dX3_settles_340 (pc' := 341) rfl ?_
      refine zw_iload (x := 1) E 7 dX3_settles_341 rfl (pc' := 343) rfl ?_
      refine zw_callIw E (r := m_avg g kn (g.1 1 en) 1) (As := [.int (nI kn), .int (g.1 1 en), .int 1]) (rest := [.long (100 * (((g.2.1 0 f) / 3) + 0)), .int (nI (3 * f + 1)), .ref (am 16)]) (ws' := (md_W K am g)) (qX3_averageOf l D K am g kn hkn (g.1 1 en) 1 hok.1) (cwV 3 E.2.2.2.2.1 gX3_settles_X3_averageOf rfl rfl rfl (by decide +kernel) ⟨Nat.le_of_ble_eq_true rfl, Nat.le_of_ble_eq_true rfl⟩) 0 rfl rfl rfl rfl rfl rfl (Nat.le_of_ble_eq_true rfl) ⟨Nat.zero_le _, Nat.zero_le _⟩ dX3_settles_343 (pc' := 346) rfl ?_
      refine zw_i2l E dX3_settles_346 (pc' := 347) rfl ?_
      refine zw_callLs E (r := z_near (100 * (((g.2.1 0 f) / 3) + 0)) ((m_avg g kn (g.1 1 en) 1).toInt64)) (As := [.long (100 * (((g.2.1 0 f) / 3) + 0)), .long ((m_avg g kn (g.1 1 en) 1).toInt64)]) (rest := [.int (nI (3 * f + 1)), .ref (am 16)]) (ws' := (md_W K am g)) (qX3_nearest l D K (100 * (((g.2.1 0 f) / 3) + 0)) ((m_avg g kn (g.1 1 en) 1).toInt64) (zw_m2 hok.2.2.1)) (va_cwS 2 E.2.2.2.2.1 gX3_settles_X3_nearest rfl rfl rfl (by decide +kernel) ⟨Nat.le_of_ble_eq_true rfl, Nat.le_of_ble_eq_true rfl⟩) [] (by decide) rfl rfl (zw_put_same _ _ _ rfl) rfl rfl (Nat.le_of_ble_eq_true rfl) ⟨Nat.zero_le _, Nat.zero_le _⟩ dX3_settles_347 (pc' := 350) rfl ?_
      refine zw_l2i E dX3_settles_350 (pc' := 351) rfl ?_
      refine zw_iast (j := 3 * f + 1) (ws' := (md_W K am (md_row g 15 (3 * f + 1) ((z_near (100 * (((g.2.1 0 f) / 3) + 0)) ((m_avg g kn (g.1 1 en) 1).toInt64)).toInt32)))) E 16 0 rfl rfl (vp_in_nI (show 3 * f + 1 < 180 by omega) (by decide)) (zw_clamp (show 3 * f + 1 < 180 by omega) (by decide)) rfl dX3_settles_351 (pc' := 352) rfl ?_
      refine zw_iinc (x := 1) (v := 2) (lv' := [(8, .int 2), (9, .long (((g.2.1 0 f) / 3) + 0)), (0, .ref (am 0)), (1, .int (nI kn)), (2, .int (nI en)), (3, .long t), (5, .long L), (7, .int (nI f))]) E 7 dX3_settles_352 rfl (by decide) (by decide) rfl (pc' := 355) rfl ?_
      refine zw_goto (tgt := 263) E dX3_settles_355 (by decide) ?_
      refine zw_ws (ws' := md_W K am (mcs g kn en f 1 1)) (congrArg (md_W K am) (by unfold mcs mthird; rw [if_pos c_2])) ?_
      refine zw_sub [2, 3, 4, 5, 6, 7, 0] (lv' := [(0, .ref (am 0)), (1, .int (nI kn)), (2, .int (nI en)), (3, .long t), (5, .long L), (7, .int (nI f)), (8, .int 2)]) rfl ?_
      exact kk
    · skip
      refine zw_lconst (v := 1) E dX3_settles_308 (by decide) (pc' := 309) rfl ?_
      refine zw_goto (tgt := 313) E dX3_settles_309 (by decide) ?_
      refine zw_ladd E dX3_settles_313 (pc' := 314) rfl ?_
      refine zw_lstore (lv' := [(9, .long (((g.2.1 0 f) / 3) + 1)), (0, .ref (am 0)), (1, .int (nI kn)), (2, .int (nI en)), (3, .long t), (5, .long L), (7, .int (nI f)), (8, .int 1)]) E dX3_settles_314 (by decide) rfl (pc' := 316) rfl ?_
      refine zw_aload_n (i := 0) (x := am 0) E 1 dX3_settles_316 rfl rfl (pc' := 317) rfl ?_
      refine zw_get (v := .ref (am 16)) E 0 17 iX3_settles_X3 fX3_settles_56 rfl rfl (by decide) rfl rfl dX3_settles_317 (pc' := 320) rfl ?_
      refine zw_iconst (v := 3) E dX3_settles_320 (by decide) (pc' := 321) rfl ?_
      refine zw_iload (x := nI f) E 6 dX3_settles_321 rfl (pc' := 323) rfl ?_
      refine zw_imul E dX3_settles_323 (pc' := 324) rfl ?_
      refine zw_topi (x' := nI (3 * f)) (pk_mul 3 f) ?_
      refine zw_iload (x := 1) E 7 dX3_settles_324 rfl (pc' := 326) rfl ?_
      refine zw_iadd E dX3_settles_326 (pc' := 327) rfl ?_
      refine zw_topi (x' := nI (3 * f + 1)) (nI_add (3 * f) 1) ?_
      refine zw_ldc2 (v := 100) E dX3_settles_327 kX3_settles_108 (pc' := 330) rfl ?_
      refine zw_lload (x := ((g.2.1 0 f) / 3) + 1) E 0 dX3_settles_330 rfl (pc' := 332) rfl ?_
      refine zw_lmul E dX3_settles_332 (pc' := 333) rfl ?_
      refine zw_aload_n (i := 0) (x := am 0) E 1 dX3_settles_333 rfl rfl (pc' := 334) rfl ?_
      refine zw_iload_n (i := 1) (x := nI kn) E 2 dX3_settles_334 rfl rfl (pc' := 335) rfl ?_
      refine zw_aload_n (i := 0) (x := am 0) E 1 dX3_settles_335 rfl rfl (pc' := 336) rfl ?_
      refine zw_get (v := .ref (am 2)) E 0 3 iX3_settles_X3 fX3_settles_13 rfl rfl (by decide) rfl rfl dX3_settles_336 (pc' := 339) rfl ?_
      refine zw_iload_n (i := 2) (x := nI en) E 3 dX3_settles_339 rfl rfl (pc' := 340) rfl ?_
      refine zw_iald (j := en) (x := g.1 1 en) E 2 0 rfl rfl (vp_in_nI hen (by decide)) (zw_clamp hen (by decide)) rfl dX3_settles_340 (pc' := 341) rfl ?_
      refine zw_iload (x := 1) E 7 dX3_settles_341 rfl (pc' := 343) rfl ?_
      refine zw_callIw E (r := m_avg g kn (g.1 1 en) 1) (As := [.int (nI kn), .int (g.1 1 en), .int 1]) (rest := [.long (100 * (((g.2.1 0 f) / 3) + 1)), .int (nI (3 * f + 1)), .ref (am 16)]) (ws' := (md_W K am g)) (qX3_averageOf l D K am g kn hkn (g.1 1 en) 1 hok.1) (cwV 3 E.2.2.2.2.1 gX3_settles_X3_averageOf rfl rfl rfl (by decide +kernel) ⟨Nat.le_of_ble_eq_true rfl, Nat.le_of_ble_eq_true rfl⟩) 0 rfl rfl rfl rfl rfl rfl (Nat.le_of_ble_eq_true rfl) ⟨Nat.zero_le _, Nat.zero_le _⟩ dX3_settles_343 (pc' := 346) rfl ?_
      refine zw_i2l E dX3_settles_346 (pc' := 347) rfl ?_
      refine zw_callLs E (r := z_near (100 * (((g.2.1 0 f) / 3) + 1)) ((m_avg g kn (g.1 1 en) 1).toInt64)) (As := [.long (100 * (((g.2.1 0 f) / 3) + 1)), .long ((m_avg g kn (g.1 1 en) 1).toInt64)]) (rest := [.int (nI (3 * f + 1)), .ref (am 16)]) (ws' := (md_W K am g)) (qX3_nearest l D K (100 * (((g.2.1 0 f) / 3) + 1)) ((m_avg g kn (g.1 1 en) 1).toInt64) (zw_m2 hok.2.2.1)) (va_cwS 2 E.2.2.2.2.1 gX3_settles_X3_nearest rfl rfl rfl (by decide +kernel) ⟨Nat.le_of_ble_eq_true rfl, Nat.le_of_ble_eq_true rfl⟩) [] (by decide) rfl rfl (zw_put_same _ _ _ rfl) rfl rfl (Nat.le_of_ble_eq_true rfl) ⟨Nat.zero_le _, Nat.zero_le _⟩ dX3_settles_347 (pc' := 350) rfl ?_
      refine zw_l2i E dX3_settles_350 (pc' := 351) rfl ?_
      refine zw_iast (j := 3 * f + 1) (ws' := (md_W K am (md_row g 15 (3 * f + 1) ((z_near (100 * (((g.2.1 0 f) / 3) + 1)) ((m_avg g kn (g.1 1 en) 1).toInt64)).toInt32)))) E 16 0 rfl rfl (vp_in_nI (show 3 * f + 1 < 180 by omega) (by decide)) (zw_clamp (show 3 * f + 1 < 180 by omega) (by decide)) rfl dX3_settles_351 (pc' := 352) rfl ?_
      refine zw_iinc (x := 1) (v := 2) (lv' := [(8, .int 2), (9, .long (((g.2.1 0 f) / 3) + 1)), (0, .ref (am 0)), (1, .int (nI kn)), (2, .int (nI en)), (3, .long t), (5, .long L), (7, .int (nI f))]) E 7 dX3_settles_352 rfl (by decide) (by decide) rfl (pc' := 355) rfl ?_
      refine zw_goto (tgt := 263) E dX3_settles_355 (by decide) ?_
      refine zw_ws (ws' := md_W K am (mcs g kn en f 1 1)) (congrArg (md_W K am) (by unfold mcs mthird; rw [if_neg c_2])) ?_
      refine zw_sub [2, 3, 4, 5, 6, 7, 0] (lv' := [(0, .ref (am 0)), (1, .int (nI kn)), (2, .int (nI en)), (3, .long t), (5, .long L), (7, .int (nI f)), (8, .int 2)]) rfl ?_
      exact kk

set_option maxHeartbeats 4000000 in
set_option maxRecDepth 100000 in
theorem lX3_cs_2 {l : Launch} {D : va_G} {K : Nat → ClassId} {p : Program} {e : Env} {s : State} {m : MethodId} {below : List Frame} {meth : Method} {c : Code} {A : Nat → Prop} {args : Array Value} {Q : State → Prop} (E : zw_E p s m args c cX3_settles 11 RX3 wsX3_settles D (zT K) A) (am : Nat → Nat) (g : Md) (kn en f : Nat) (hkn : kn ≤ 80) (hen : en < 80) (hf : f < 60) (hth : ¬ g.1 11 f = 0) (hok : av_ok g kn en) (t L : Int64) (kk : zw_W p l e rmX3_settles s m args below meth c 11 D A 0 0 Q 263 [(0, .ref (am 0)), (1, .int (nI kn)), (2, .int (nI en)), (3, .long t), (5, .long L), (7, .int (nI f)), (8, .int 3)] [] (md_W K am (mcs g kn en f 2 2))) : zw_W p l e rmX3_settles s m args below meth c 11 D A 0 0 Q 263 [(0, .ref (am 0)), (1, .int (nI kn)), (2, .int (nI en)), (3, .long t), (5, .long L), (7, .int (nI f)), (8, .int 2)] [] (md_W K am g) := by
  refine zw_iload (x := 2) E 6 dX3_settles_263 rfl (pc' := 265) rfl ?_
  refine zw_iconst (v := 3) E dX3_settles_265 (by decide) (pc' := 266) rfl ?_
  refine zw_icmp_ge (tgt := 358) E dX3_settles_266 (by decide) (pc' := 269) rfl (fun c9 => absurd c9 (by decide)) (fun _ => ?_)
  refine zw_aload_n (i := 0) (x := am 0) E 0 dX3_settles_269 rfl rfl (pc' := 270) rfl ?_
  refine zw_get (v := .ref (am 12)) E 0 13 iX3_settles_X3 fX3_settles_43 rfl rfl (by decide) rfl rfl dX3_settles_270 (pc' := 273) rfl ?_
  refine zw_iload (x := nI f) E 5 dX3_settles_273 rfl (pc' := 275) rfl ?_
  refine zw_zald (j := f) (x := g.1 11 f) E 12 1 rfl rfl (vp_in_nI hf (by decide)) (zw_clamp hf (by decide)) rfl dX3_settles_275 (pc' := 276) rfl ?_
  refine zw_if_eq (tgt := 358) E dX3_settles_276 (by decide) (pc' := 279) rfl (fun c_1 => ?_) (fun c_1 => ?_)
  · exact absurd c_1 hth
  · skip
    refine zw_aload_n (i := 0) (x := am 0) E 0 dX3_settles_279 rfl rfl (pc' := 280) rfl ?_
    refine zw_get (v := .ref (am 18)) E 0 20 iX3_settles_X3 fX3_settles_62 rfl rfl (by decide) rfl rfl dX3_settles_280 (pc' := 283) rfl ?_
    refine zw_iload (x := nI f) E 5 dX3_settles_283 rfl (pc' := 285) rfl ?_
    refine zw_lald (j := f) (x := g.2.1 0 f) E 18 2 rfl rfl (vp_in_nI hf (by decide)) (zw_clamp hf (by decide)) rfl dX3_settles_285 (pc' := 286) rfl ?_
    refine zw_ldc2 (v := 3) E dX3_settles_286 kX3_settles_106 (pc' := 289) rfl ?_
    refine zw_ldiv E dX3_settles_289 (by decide) (pc' := 290) rfl ?_
    refine zw_aload_n (i := 0) (x := am 0) E 0 dX3_settles_290 rfl rfl (pc' := 291) rfl ?_
    refine zw_get (v := .ref (am 18)) E 0 20 iX3_settles_X3 fX3_settles_62 rfl rfl (by decide) rfl rfl dX3_settles_291 (pc' := 294) rfl ?_
    refine zw_iload (x := nI f) E 5 dX3_settles_294 rfl (pc' := 296) rfl ?_
    refine zw_lald (j := f) (x := g.2.1 0 f) E 18 2 rfl rfl (vp_in_nI hf (by decide)) (zw_clamp hf (by decide)) rfl dX3_settles_296 (pc' := 297) rfl ?_
    refine zw_ldc2 (v := 3) E dX3_settles_297 kX3_settles_106 (pc' := 300) rfl ?_
    refine zw_lrem E dX3_settles_300 (by decide) (pc' := 301) rfl ?_
    refine zw_iload (x := 2) E 6 dX3_settles_301 rfl (pc' := 303) rfl ?_
    refine zw_i2l E dX3_settles_303 (pc' := 304) rfl ?_
    refine zw_lcmp E dX3_settles_304 (pc' := 305) rfl ?_
    refine zw_ifl_le (tgt := 312) E dX3_settles_305 (by decide) (pc' := 308) rfl (fun c_2 => ?_) (fun c_2 => ?_)
    · skip
      refine zw_lconst (v := 0) E dX3_settles_312 (by decide) (pc' := 313) rfl ?_
      refine zw_ladd E dX3_settles_313 (pc' := 314) rfl ?_
      refine zw_lstore (lv' := [(9, .long (((g.2.1 0 f) / 3) + 0)), (0, .ref (am 0)), (1, .int (nI kn)), (2, .int (nI en)), (3, .long t), (5, .long L), (7, .int (nI f)), (8, .int 2)]) E dX3_settles_314 (by decide) rfl (pc' := 316) rfl ?_
      refine zw_aload_n (i := 0) (x := am 0) E 1 dX3_settles_316 rfl rfl (pc' := 317) rfl ?_
      refine zw_get (v := .ref (am 16)) E 0 17 iX3_settles_X3 fX3_settles_56 rfl rfl (by decide) rfl rfl dX3_settles_317 (pc' := 320) rfl ?_
      refine zw_iconst (v := 3) E dX3_settles_320 (by decide) (pc' := 321) rfl ?_
      refine zw_iload (x := nI f) E 6 dX3_settles_321 rfl (pc' := 323) rfl ?_
      refine zw_imul E dX3_settles_323 (pc' := 324) rfl ?_
      refine zw_topi (x' := nI (3 * f)) (pk_mul 3 f) ?_
      refine zw_iload (x := 2) E 7 dX3_settles_324 rfl (pc' := 326) rfl ?_
      refine zw_iadd E dX3_settles_326 (pc' := 327) rfl ?_
      refine zw_topi (x' := nI (3 * f + 2)) (nI_add (3 * f) 2) ?_
      refine zw_ldc2 (v := 100) E dX3_settles_327 kX3_settles_108 (pc' := 330) rfl ?_
      refine zw_lload (x := ((g.2.1 0 f) / 3) + 0) E 0 dX3_settles_330 rfl (pc' := 332) rfl ?_
      refine zw_lmul E dX3_settles_332 (pc' := 333) rfl ?_
      refine zw_aload_n (i := 0) (x := am 0) E 1 dX3_settles_333 rfl rfl (pc' := 334) rfl ?_
      refine zw_iload_n (i := 1) (x := nI kn) E 2 dX3_settles_334 rfl rfl (pc' := 335) rfl ?_
      refine zw_aload_n (i := 0) (x := am 0) E 1 dX3_settles_335 rfl rfl (pc' := 336) rfl ?_
      refine zw_get (v := .ref (am 2)) E 0 3 iX3_settles_X3 fX3_settles_13 rfl rfl (by decide) rfl rfl dX3_settles_336 (pc' := 339) rfl ?_
      refine zw_iload_n (i := 2) (x := nI en) E 3 dX3_settles_339 rfl rfl (pc' := 340) rfl ?_
      refine zw_iald (j := en) (x := g.1 1 en) E 2 0 rfl rfl (vp_in_nI hen (by decide)) (zw_clamp hen (by decide)) rfl dX3_settles_340 (pc' := 341) rfl ?_
      refine zw_iload (x := 2) E 7 dX3_settles_341 rfl (pc' := 343) rfl ?_
      refine zw_callIw E (r := m_avg g kn (g.1 1 en) 2) (As := [.int (nI kn), .int (g.1 1 en), .int 2]) (rest := [.long (100 * (((g.2.1 0 f) / 3) + 0)), .int (nI (3 * f + 2)), .ref (am 16)]) (ws' := (md_W K am g)) (qX3_averageOf l D K am g kn hkn (g.1 1 en) 2 hok.1) (cwV 3 E.2.2.2.2.1 gX3_settles_X3_averageOf rfl rfl rfl (by decide +kernel) ⟨Nat.le_of_ble_eq_true rfl, Nat.le_of_ble_eq_true rfl⟩) 0 rfl rfl rfl rfl rfl rfl (Nat.le_of_ble_eq_true rfl) ⟨Nat.zero_le _, Nat.zero_le _⟩ dX3_settles_343 (pc' := 346) rfl ?_
      refine zw_i2l E dX3_settles_346 (pc' := 347) rfl ?_
      refine zw_callLs E (r := z_near (100 * (((g.2.1 0 f) / 3) + 0)) ((m_avg g kn (g.1 1 en) 2).toInt64)) (As := [.long (100 * (((g.2.1 0 f) / 3) + 0)), .long ((m_avg g kn (g.1 1 en) 2).toInt64)]) (rest := [.int (nI (3 * f + 2)), .ref (am 16)]) (ws' := (md_W K am g)) (qX3_nearest l D K (100 * (((g.2.1 0 f) / 3) + 0)) ((m_avg g kn (g.1 1 en) 2).toInt64) (zw_m2 hok.2.2.2)) (va_cwS 2 E.2.2.2.2.1 gX3_settles_X3_nearest rfl rfl rfl (by decide +kernel) ⟨Nat.le_of_ble_eq_true rfl, Nat.le_of_ble_eq_true rfl⟩) [] (by decide) rfl rfl (zw_put_same _ _ _ rfl) rfl rfl (Nat.le_of_ble_eq_true rfl) ⟨Nat.zero_le _, Nat.zero_le _⟩ dX3_settles_347 (pc' := 350) rfl ?_
      refine zw_l2i E dX3_settles_350 (pc' := 351) rfl ?_
      refine zw_iast (j := 3 * f + 2) (ws' := (md_W K am (md_row g 15 (3 * f + 2) ((z_near (100 * (((g.2.1 0 f) / 3) + 0)) ((m_avg g kn (g.1 1 en) 2).toInt64)).toInt32)))) E 16 0 rfl rfl (vp_in_nI (show 3 * f + 2 < 180 by omega) (by decide)) (zw_clamp (show 3 * f + 2 < 180 by omega) (by decide)) rfl dX3_settles_351 (pc' := 352) rfl ?_
      refine zw_iinc (x := 2) (v := 3) (lv' := [(8, .int 3), (9, .long (((g.2.1 0 f) / 3) + 0)), (0, .ref (am 0)), (1, .int (nI kn)), (2, .int (nI en)), (3, .long t), (5, .long L), (7, .int (nI f))]) E 7 dX3_settles_352 rfl (by decide) (by decide) rfl (pc' := 355) rfl ?_
      refine zw_goto (tgt := 263) E dX3_settles_355 (by decide) ?_
      refine zw_ws (ws' := md_W K am (mcs g kn en f 2 2)) (congrArg (md_W K am) (by unfold mcs mthird; rw [if_pos c_2])) ?_
      refine zw_sub [2, 3, 4, 5, 6, 7, 0] (lv' := [(0, .ref (am 0)), (1, .int (nI kn)), (2, .int (nI en)), (3, .long t), (5, .long L), (7, .int (nI f)), (8, .int 3)]) rfl ?_
      exact kk
    · skip
      refine zw_lconst (v := 1) E dX3_settles_308 (by decide) (pc' := 309) rfl ?_
      refine zw_goto (tgt := 313) E dX3_settles_309 (by decide) ?_
      refine zw_ladd E dX3_settles_313 (pc' := 314) rfl ?_
      refine zw_lstore (lv' := [(9, .long (((g.2.1 0 f) / 3) + 1)), (0, .ref (am 0)), (1, .int (nI kn)), (2, .int (nI en)), (3, .long t), (5, .long L), (7, .int (nI f)), (8, .int 2)]) E dX3_settles_314 (by decide) rfl (pc' := 316) rfl ?_
      refine zw_aload_n (i := 0) (x := am 0) E 1 dX3_settles_316 rfl rfl (pc' := 317) rfl ?_
      refine zw_get (v := .ref (am 16)) E 0 17 iX3_settles_X3 fX3_settles_56 rfl rfl (by decide) rfl rfl dX3_settles_317 (pc' := 320) rfl ?_
      refine zw_iconst (v := 3) E dX3_settles_320 (by decide) (pc' := 321) rfl ?_
      refine zw_iload (x := nI f) E 6 dX3_settles_321 rfl (pc' := 323) rfl ?_
      refine zw_imul E dX3_settles_323 (pc' := 324) rfl ?_
      refine zw_topi (x' := nI (3 * f)) (pk_mul 3 f) ?_
      refine zw_iload (x := 2) E 7 dX3_settles_324 rfl (pc' := 326) rfl ?_
      refine zw_iadd E dX3_settles_326 (pc' := 327) rfl ?_
      refine zw_topi (x' := nI (3 * f + 2)) (nI_add (3 * f) 2) ?_
      refine zw_ldc2 (v := 100) E dX3_settles_327 kX3_settles_108 (pc' := 330) rfl ?_
      refine zw_lload (x := ((g.2.1 0 f) / 3) + 1) E 0 dX3_settles_330 rfl (pc' := 332) rfl ?_
      refine zw_lmul E dX3_settles_332 (pc' := 333) rfl ?_
      refine zw_aload_n (i := 0) (x := am 0) E 1 dX3_settles_333 rfl rfl (pc' := 334) rfl ?_
      refine zw_iload_n (i := 1) (x := nI kn) E 2 dX3_settles_334 rfl rfl (pc' := 335) rfl ?_
      refine zw_aload_n (i := 0) (x := am 0) E 1 dX3_settles_335 rfl rfl (pc' := 336) rfl ?_
      refine zw_get (v := .ref (am 2)) E 0 3 iX3_settles_X3 fX3_settles_13 rfl rfl (by decide) rfl rfl dX3_settles_336 (pc' := 339) rfl ?_
      refine zw_iload_n (i := 2) (x := nI en) E 3 dX3_settles_339 rfl rfl (pc' := 340) rfl ?_
      refine zw_iald (j := en) (x := g.1 1 en) E 2 0 rfl rfl (vp_in_nI hen (by decide)) (zw_clamp hen (by decide)) rfl dX3_settles_340 (pc' := 341) rfl ?_
      refine zw_iload (x := 2) E 7 dX3_settles_341 rfl (pc' := 343) rfl ?_
      refine zw_callIw E (r := m_avg g kn (g.1 1 en) 2) (As := [.int (nI kn), .int (g.1 1 en), .int 2]) (rest := [.long (100 * (((g.2.1 0 f) / 3) + 1)), .int (nI (3 * f + 2)), .ref (am 16)]) (ws' := (md_W K am g)) (qX3_averageOf l D K am g kn hkn (g.1 1 en) 2 hok.1) (cwV 3 E.2.2.2.2.1 gX3_settles_X3_averageOf rfl rfl rfl (by decide +kernel) ⟨Nat.le_of_ble_eq_true rfl, Nat.le_of_ble_eq_true rfl⟩) 0 rfl rfl rfl rfl rfl rfl (Nat.le_of_ble_eq_true rfl) ⟨Nat.zero_le _, Nat.zero_le _⟩ dX3_settles_343 (pc' := 346) rfl ?_
      refine zw_i2l E dX3_settles_346 (pc' := 347) rfl ?_
      refine zw_callLs E (r := z_near (100 * (((g.2.1 0 f) / 3) + 1)) ((m_avg g kn (g.1 1 en) 2).toInt64)) (As := [.long (100 * (((g.2.1 0 f) / 3) + 1)), .long ((m_avg g kn (g.1 1 en) 2).toInt64)]) (rest := [.int (nI (3 * f + 2)), .ref (am 16)]) (ws' := (md_W K am g)) (qX3_nearest l D K (100 * (((g.2.1 0 f) / 3) + 1)) ((m_avg g kn (g.1 1 en) 2).toInt64) (zw_m2 hok.2.2.2)) (va_cwS 2 E.2.2.2.2.1 gX3_settles_X3_nearest rfl rfl rfl (by decide +kernel) ⟨Nat.le_of_ble_eq_true rfl, Nat.le_of_ble_eq_true rfl⟩) [] (by decide) rfl rfl (zw_put_same _ _ _ rfl) rfl rfl (Nat.le_of_ble_eq_true rfl) ⟨Nat.zero_le _, Nat.zero_le _⟩ dX3_settles_347 (pc' := 350) rfl ?_
      refine zw_l2i E dX3_settles_350 (pc' := 351) rfl ?_
      refine zw_iast (j := 3 * f + 2) (ws' := (md_W K am (md_row g 15 (3 * f + 2) ((z_near (100 * (((g.2.1 0 f) / 3) + 1)) ((m_avg g kn (g.1 1 en) 2).toInt64)).toInt32)))) E 16 0 rfl rfl (vp_in_nI (show 3 * f + 2 < 180 by omega) (by decide)) (zw_clamp (show 3 * f + 2 < 180 by omega) (by decide)) rfl dX3_settles_351 (pc' := 352) rfl ?_
      refine zw_iinc (x := 2) (v := 3) (lv' := [(8, .int 3), (9, .long (((g.2.1 0 f) / 3) + 1)), (0, .ref (am 0)), (1, .int (nI kn)), (2, .int (nI en)), (3, .long t), (5, .long L), (7, .int (nI f))]) E 7 dX3_settles_352 rfl (by decide) (by decide) rfl (pc' := 355) rfl ?_
      refine zw_goto (tgt := 263) E dX3_settles_355 (by decide) ?_
      refine zw_ws (ws' := md_W K am (mcs g kn en f 2 2)) (congrArg (md_W K am) (by unfold mcs mthird; rw [if_neg c_2])) ?_
      refine zw_sub [2, 3, 4, 5, 6, 7, 0] (lv' := [(0, .ref (am 0)), (1, .int (nI kn)), (2, .int (nI en)), (3, .long t), (5, .long L), (7, .int (nI f)), (8, .int 3)]) rfl ?_
      exact kk

set_option maxHeartbeats 4000000 in
set_option maxRecDepth 100000 in
theorem lX3_settlesD {l : Launch} {D : va_G} {K : Nat → ClassId} {p : Program} {e : Env} {s : State} {m : MethodId} {below : List Frame} {meth : Method} {c : Code} {A : Nat → Prop} {args : Array Value} (E : zw_E p s m args c cX3_settles 11 RX3 wsX3_settles D (zT K) A) (hr : meth.sig.returnType = none) (hlk : meth.locks = false) (am : Nat → Nat) (g : Md) (kn en : Nat) (hkn : kn ≤ 80) (hen : en < 80) (hok : av_ok g kn en) (t L : Int64) : ∀ (fu k : Nat), k ≤ 60 → 60 + 1 ≤ k + fu → zw_W p l e rmX3_settles s m args below meth c 11 D A 0 0 (zw_Qv D A below args s (md_W K am (md_set (mch g kn en 60) 1))) 253 [(0, .ref (am 0)), (1, .int (nI kn)), (2, .int (nI en)), (3, .long t), (5, .long L), (7, .int (nI k))] [] (md_W K am (mch g kn en k)) := by
  intro fu
  induction fu with
  | zero => intro k h1 h2; exact absurd h2 (by omega)
  | succ fu ih =>
    intro k hle hfu
    refine zw_iload (x := nI k) E 5 dX3_settles_253 rfl (pc' := 255) rfl ?_
    refine zw_bipush (v := 60) E dX3_settles_255 (by decide) (pc' := 257) rfl ?_
    refine zw_icmp_ge (tgt := 364) E dX3_settles_257 (by decide) (pc' := 260) rfl (fun c_1 => ?_) (fun c_1 => ?_)
    · skip
      have hk60 : k = 60 := zw_ge60 c_1 hle
      refine zw_aload_n (i := 0) (x := am 0) E 0 dX3_settles_364 rfl rfl (pc' := 365) rfl ?_
      refine zw_iconst (v := 1) E dX3_settles_365 (by decide) (pc' := 366) rfl ?_
      refine zw_putf (v := .int 1) (ty := .boolean) (ws' := (md_W K am (md_set (mch g kn en k) 1))) E 0 19 iX3_settles_X3 tyX3_ok nmX3 fX3_settles_110 rfl rfl (by decide) rfl rfl rfl rfl rfl (Nat.le_of_ble_eq_true rfl) rfl dX3_settles_366 (pc' := 369) rfl ?_
      exact zw_vret E hr hlk dX3_settles_369 (congrArg (md_W K am) (by rw [hk60]))
    · skip
      have hk : k < 60 := zw_lt60 c_1 hle
      refine zw_iconst (v := 0) E dX3_settles_260 (by decide) (pc' := 261) rfl ?_
      refine zw_istore (lv' := [(8, .int 0), (0, .ref (am 0)), (1, .int (nI kn)), (2, .int (nI en)), (3, .long t), (5, .long L), (7, .int (nI k))]) E dX3_settles_261 (by decide) rfl (pc' := 263) rfl ?_
      refine zw_sub [1, 2, 3, 4, 5, 6, 0] (lv' := [(0, .ref (am 0)), (1, .int (nI kn)), (2, .int (nI en)), (3, .long t), (5, .long L), (7, .int (nI k)), (8, .int 0)]) rfl ?_
      have hokk := av_ok_mch hok k
      by_cases hth : (mch g kn en k).1 11 k = 0
      · have e9 : mch g kn en (k + 1) = mch g kn en k := by rw [mch, mch1, if_pos hth]
        refine zw_iload (x := 0) E 6 dX3_settles_263 rfl (pc' := 265) rfl ?_
        refine zw_iconst (v := 3) E dX3_settles_265 (by decide) (pc' := 266) rfl ?_
        refine zw_icmp_ge (tgt := 358) E dX3_settles_266 (by decide) (pc' := 269) rfl (fun c9 => absurd c9 (by decide)) (fun _ => ?_)
        refine zw_aload_n (i := 0) (x := am 0) E 0 dX3_settles_269 rfl rfl (pc' := 270) rfl ?_
        refine zw_get (v := .ref (am 12)) E 0 13 iX3_settles_X3 fX3_settles_43 rfl rfl (by decide) rfl rfl dX3_settles_270 (pc' := 273) rfl ?_
        refine zw_iload (x := nI k) E 5 dX3_settles_273 rfl (pc' := 275) rfl ?_
        refine zw_zald (j := k) (x := (mch g kn en k).1 11 k) E 12 1 rfl rfl (vp_in_nI hk (by decide)) (zw_clamp hk (by decide)) rfl dX3_settles_275 (pc' := 276) rfl ?_
        refine zw_if_eq (tgt := 358) E dX3_settles_276 (by decide) (pc' := 279) rfl (fun c_2 => ?_) (fun c_2 => ?_)
        · skip
          refine zw_iinc (x := nI k) (v := nI (k + 1)) (lv' := [(7, .int (nI (k + 1))), (0, .ref (am 0)), (1, .int (nI kn)), (2, .int (nI en)), (3, .long t), (5, .long L), (8, .int 0)]) E 5 dX3_settles_358 rfl (zw_inc1 k) (by decide) rfl (pc' := 361) rfl ?_
          refine zw_goto (tgt := 253) E dX3_settles_361 (by decide) ?_
          refine zw_ws (ws' := md_W K am (mch g kn en (k + 1))) (congrArg (md_W K am) e9.symm) ?_
          refine zw_sub [1, 2, 3, 4, 5, 0] (lv' := [(0, .ref (am 0)), (1, .int (nI kn)), (2, .int (nI en)), (3, .long t), (5, .long L), (7, .int (nI (k + 1)))]) rfl ?_
          exact ih (k + 1) (by omega) (by omega)
        · exact absurd hth c_2
      · have e9 : mch g kn en (k + 1) = mcs (mcs (mcs (mch g kn en k) kn en k 0 0) kn en k 1 1) kn en k 2 2 := by rw [mch, mch1, if_neg hth]
        refine lX3_cs_0 E am _ kn en k hkn hen hk hth hokk t L ?_
        refine lX3_cs_1 E am _ kn en k hkn hen hk (by rw [mcs_row _ _ _ _ _ _ 11 (by decide)]; exact hth) (av_ok_mcs hokk) t L ?_
        refine lX3_cs_2 E am _ kn en k hkn hen hk (by rw [mcs_row _ _ _ _ _ _ 11 (by decide), mcs_row _ _ _ _ _ _ 11 (by decide)]; exact hth) (av_ok_mcs (av_ok_mcs hokk)) t L ?_
        refine zw_iload (x := 3) E 6 dX3_settles_263 rfl (pc' := 265) rfl ?_
        refine zw_iconst (v := 3) E dX3_settles_265 (by decide) (pc' := 266) rfl ?_
        refine zw_icmp_ge (tgt := 358) E dX3_settles_266 (by decide) (pc' := 269) rfl (fun _ => ?_) (fun c9 => absurd (by decide) c9)
        refine zw_iinc (x := nI k) (v := nI (k + 1)) (lv' := [(7, .int (nI (k + 1))), (0, .ref (am 0)), (1, .int (nI kn)), (2, .int (nI en)), (3, .long t), (5, .long L), (8, .int 3)]) E 5 dX3_settles_358 rfl (zw_inc1 k) (by decide) rfl (pc' := 361) rfl ?_
        refine zw_goto (tgt := 253) E dX3_settles_361 (by decide) ?_
        refine zw_ws (ws' := md_W K am (mch g kn en (k + 1))) (congrArg (md_W K am) e9.symm) ?_
        refine zw_sub [1, 2, 3, 4, 5, 0] (lv' := [(0, .ref (am 0)), (1, .int (nI kn)), (2, .int (nI en)), (3, .long t), (5, .long L), (7, .int (nI (k + 1)))]) rfl ?_
        exact ih (k + 1) (by omega) (by omega)
