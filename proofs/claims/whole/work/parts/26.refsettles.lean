/-! the reference: settles -/
def mthird (g : Md) (f : Nat) (x : Int32) : Int64 := g.2.1 0 f / 3 + (if g.2.1 0 f - g.2.1 0 f / 3 * 3 ≤ x.toInt64 then 0 else 1)
def mcs (g : Md) (kn en f cn : Nat) (x : Int32) : Md := md_row g 15 (3 * f + cn) (z_near (100 * mthird g f x) (m_avg g kn (g.1 1 en) x).toInt64).toInt32
def mch1 (g : Md) (kn en f : Nat) : Md := if g.1 11 f = 0 then g else mcs (mcs (mcs g kn en f 0 0) kn en f 1 1) kn en f 2 2
def mch (g : Md) (kn en : Nat) : Nat → Md
  | 0 => g
  | k + 1 => mch1 (mch g kn en k) kn en k
theorem mcs_row (g : Md) (kn en f cn : Nat) (x : Int32) (r : Nat) (h : ¬ r = 15) : (mcs g kn en f cn x).1 r = g.1 r := if_neg h
theorem mch1_row (g : Md) (kn en f r : Nat) (h : ¬ r = 15) : (mch1 g kn en f).1 r = g.1 r := by
  unfold mch1
  split
  · rfl
  · rw [mcs_row _ _ _ _ _ _ _ h, mcs_row _ _ _ _ _ _ _ h, mcs_row _ _ _ _ _ _ _ h]
theorem mch_row (g : Md) (kn en r : Nat) (h : ¬ r = 15) : ∀ k, (mch g kn en k).1 r = g.1 r
  | 0 => rfl
  | k + 1 => by rw [mch, mch1_row _ _ _ _ _ h, mch_row g kn en r h k]
theorem p_of_congr {g g2 : Md} (h0 : g2.1 0 = g.1 0) (h1 : g2.1 1 = g.1 1) (h2 : g2.1 2 = g.1 2) (h4 : g2.1 4 = g.1 4) (y x : Int32) : ∀ k, p_of g2 y x k = p_of g y x k
  | 0 => rfl
  | k + 1 => by rw [p_of, p_of, h0, h1, h2, h4, p_of_congr h0 h1 h2 h4 y x k]
theorem m_avg_congr {g g2 : Md} (h0 : g2.1 0 = g.1 0) (h1 : g2.1 1 = g.1 1) (h2 : g2.1 2 = g.1 2) (h4 : g2.1 4 = g.1 4) (kn : Nat) (y x : Int32) : m_avg g2 kn y x = m_avg g kn y x := by
  have hp : ∀ k, av_p g2 kn y x k = av_p g kn y x k := fun k => p_of_congr h0 h1 h2 h4 _ x kn
  have hs : ∀ k, av_sum g2 kn y x k = av_sum g kn y x k := by
    intro k
    induction k with
    | zero => rfl
    | succ k ih => rw [av_sum, av_sum, ih, hp]
  have hm : ∀ k, av_many g2 kn y x k = av_many g kn y x k := by
    intro k
    induction k with
    | zero => rfl
    | succ k ih => rw [av_many, av_many, ih, hp]
  unfold m_avg
  rw [hs, hm]
/-- what settles needs of its entry: its year, and averages above 0 -/
def av_ok (g : Md) (kn en : Nat) : Prop := (1 ≤ g.1 1 en ∧ g.1 1 en ≤ 200) ∧ (¬ (m_avg g kn (g.1 1 en) 0).toInt64 ≤ 0) ∧ (¬ (m_avg g kn (g.1 1 en) 1).toInt64 ≤ 0) ∧ ¬ (m_avg g kn (g.1 1 en) 2).toInt64 ≤ 0
theorem av_ok_congr {g g2 : Md} {kn en : Nat} (h0 : g2.1 0 = g.1 0) (h1 : g2.1 1 = g.1 1) (h2 : g2.1 2 = g.1 2) (h4 : g2.1 4 = g.1 4) (h : av_ok g kn en) : av_ok g2 kn en := by
  unfold av_ok
  rw [h1, m_avg_congr h0 h1 h2 h4, m_avg_congr h0 h1 h2 h4, m_avg_congr h0 h1 h2 h4]
  exact h
theorem av_ok_mcs {g : Md} {kn en f cn : Nat} {x : Int32} (h : av_ok g kn en) : av_ok (mcs g kn en f cn x) kn en := av_ok_congr (mcs_row _ _ _ _ _ _ 0 (by decide)) (mcs_row _ _ _ _ _ _ 1 (by decide)) (mcs_row _ _ _ _ _ _ 2 (by decide)) (mcs_row _ _ _ _ _ _ 4 (by decide)) h
theorem av_ok_mch {g : Md} {kn en : Nat} (h : av_ok g kn en) (k : Nat) : av_ok (mch g kn en k) kn en := av_ok_congr (mch_row _ _ _ 0 (by decide) k) (mch_row _ _ _ 1 (by decide) k) (mch_row _ _ _ 2 (by decide) k) (mch_row _ _ _ 4 (by decide) k) h
theorem gbest_lt60 (f : Nat → Int64) {k : Nat} (hk : k ≤ 60) : gbest f k < 60 := by
  cases k with
  | zero => exact Nat.zero_lt_succ _
  | succ k => exact Nat.lt_of_lt_of_le (gbest_lt f k) hk
def mstep (g : Md) : Md := md_rowL (md_rowL g 0 (gbest (g.2.1 1) 60) (g.2.1 0 (gbest (g.2.1 1) 60) + 1)) 1 (gbest (g.2.1 1) 60) (-1)
def mit (g : Md) : Nat → Md
  | 0 => g
  | t + 1 => mit (mstep g) t
theorem zw_L0 {x : Int64} (h : x.toInt.toNat = 0) : x ≤ 0 := by
  rw [Int64.le_iff_toInt_le]
  have : (0 : Int64).toInt = 0 := rfl
  omega
theorem zw_Lp {x : Int64} {t : Nat} (h : x.toInt.toNat = t + 1) : ¬ x ≤ 0 := by
  rw [Int64.le_iff_toInt_le]
  have : (0 : Int64).toInt = 0 := rfl
  omega
theorem zw_Ls {x : Int64} {t : Nat} (h : x.toInt.toNat = t + 1) : (x - 1).toInt.toNat = t := by
  have e1 : (1 : Int64).toInt = 1 := rfl
  have a := Int64.toInt_lt x
  have b := Int64.le_toInt x
  rw [Int64.toInt_sub, e1, Int.bmod_eq_of_le (by omega) (by omega)]
  omega
theorem av_ok_same {g g2 : Md} {kn en : Nat} (h : g2.1 = g.1) (hk : av_ok g kn en) : av_ok g2 kn en := av_ok_congr (by rw [h]) (by rw [h]) (by rw [h]) (by rw [h]) hk
def mnn (g : Md) (en f : Nat) : Int64 := if g.1 11 f = 0 then 0 else (g.1 4 en).toInt64 * (g.1 12 f).toInt64 * (3 - g.1 13 f).toInt64
def mrr (g : Md) (en : Nat) (t : Int64) (f : Nat) : Int64 := if g.1 11 f = 0 then -1 else mnn g en f - mnn g en f / t * t
def msB (g : Md) (en : Nat) (t : Int64) (k : Nat) : Md := (g.1, (fun r => if r = 0 then (fun f => if f < k then mnn g en f / t else g.2.1 0 f) else if r = 1 then (fun f => if f < k then mrr g en t f else g.2.1 1 f) else g.2.1 r), g.2.2)
def mlf (g : Md) (en : Nat) (t : Int64) : Nat → Int64
  | 0 => (g.1 4 en).toInt64
  | k + 1 => mlf g en t k - mnn g en k / t
theorem msB_0 (g : Md) (en : Nat) (t : Int64) : msB g en t 0 = g := by
  refine Prod.ext rfl (Prod.ext (funext fun r => ?_) rfl)
  show (if r = 0 then (fun f => if f < 0 then mnn g en f / t else g.2.1 0 f) else if r = 1 then (fun f => if f < 0 then mrr g en t f else g.2.1 1 f) else g.2.1 r) = g.2.1 r
  by_cases h : r = 0
  · subst h
    rw [if_pos rfl]
    funext f
    rw [if_neg (Nat.not_lt_zero f)]
  · rw [if_neg h]
    by_cases h1 : r = 1
    · subst h1
      rw [if_pos rfl]
      funext f
      rw [if_neg (Nat.not_lt_zero f)]
    · rw [if_neg h1]
theorem msB_succ (g : Md) (en : Nat) (t : Int64) (k : Nat) : md_rowL (md_rowL (msB g en t k) 0 k (mnn g en k / t)) 1 k (mrr g en t k) = msB g en t (k + 1) := by
  refine Prod.ext rfl (Prod.ext (funext fun r => ?_) rfl)
  show (if r = 1 then vp_updL ((md_rowL (msB g en t k) 0 k (mnn g en k / t)).2.1 1) k (mrr g en t k) else (if r = 0 then vp_updL ((msB g en t k).2.1 0) k (mnn g en k / t) else (msB g en t k).2.1 r)) = (if r = 0 then (fun f => if f < k + 1 then mnn g en f / t else g.2.1 0 f) else if r = 1 then (fun f => if f < k + 1 then mrr g en t f else g.2.1 1 f) else g.2.1 r)
  by_cases h : r = 0
  · subst h
    rw [if_neg (by decide), if_pos rfl, if_pos rfl]
    funext f
    show (if f = k then mnn g en k / t else (if f < k then mnn g en f / t else g.2.1 0 f)) = _
    by_cases h1 : f = k
    · subst h1
      rw [if_pos rfl, if_pos (Nat.lt_succ_self f)]
    · rw [if_neg h1]
      by_cases h2 : f < k
      · rw [if_pos h2, if_pos (by omega)]
      · rw [if_neg h2, if_neg (by omega)]
  · by_cases h3 : r = 1
    · subst h3
      rw [if_pos rfl, if_neg (by decide), if_pos rfl]
      funext f
      show (if f = k then mrr g en t k else (if f < k then mrr g en t f else g.2.1 1 f)) = _
      by_cases h1 : f = k
      · subst h1
        rw [if_pos rfl, if_pos (Nat.lt_succ_self f)]
      · rw [if_neg h1]
        by_cases h2 : f < k
        · rw [if_pos h2, if_pos (by omega)]
        · rw [if_neg h2, if_neg (by omega)]
    · rw [if_neg h3, if_neg h, if_neg h, if_neg h3]
      show (if r = 0 then _ else if r = 1 then _ else _) = _
      rw [if_neg h, if_neg h3]
theorem md_rowL_same (g : Md) (r i : Nat) (x : Int64) : (md_rowL g r i x).2.1 r i = x := by simp [md_rowL, up2L, vp_updL]
def g_settle (g : Md) (kn en : Nat) (t : Int64) : Md := md_set (mch (mit (msB g en t 60) (mlf g en t 60).toInt.toNat) kn en 60) 1
def mwt (g : Md) (f : Nat) : Int64 := if g.1 11 f = 0 then 0 else (g.1 12 f).toInt64 * (3 - g.1 13 f).toInt64
def mws (g : Md) : Nat → Int64
  | 0 => 0
  | k + 1 => mws g k + mwt g k
theorem kX3_settles_104 : Cond.constantLong RX3 104 (-1) ∈ wsX3_settles := by decide +kernel
theorem kX3_settles_106 : Cond.constantLong RX3 106 (3) ∈ wsX3_settles := by decide +kernel
theorem kX3_settles_108 : Cond.constantLong RX3 108 (100) ∈ wsX3_settles := by decide +kernel
theorem fX3_settles_110 : Cond.fieldLink RX3 110 "TitheMapModel" "isSettled" "Z" ∈ wsX3_settles := by decide +kernel
theorem fX3_settles_13 : Cond.fieldLink RX3 13 "TitheMapModel" "year" "[I" ∈ wsX3_settles := by decide +kernel
theorem fX3_settles_22 : Cond.fieldLink RX3 22 "TitheMapModel" "more" "[I" ∈ wsX3_settles := by decide +kernel
theorem fX3_settles_43 : Cond.fieldLink RX3 43 "TitheMapModel" "isThere" "[Z" ∈ wsX3_settles := by decide +kernel
theorem fX3_settles_47 : Cond.fieldLink RX3 47 "TitheMapModel" "area" "[I" ∈ wsX3_settles := by decide +kernel
theorem fX3_settles_50 : Cond.fieldLink RX3 50 "TitheMapModel" "kind" "[I" ∈ wsX3_settles := by decide +kernel
theorem fX3_settles_56 : Cond.fieldLink RX3 56 "TitheMapModel" "charge" "[I" ∈ wsX3_settles := by decide +kernel
theorem fX3_settles_62 : Cond.fieldLink RX3 62 "TitheMapModel" "share" "[J" ∈ wsX3_settles := by decide +kernel
theorem fX3_settles_66 : Cond.fieldLink RX3 66 "TitheMapModel" "rest" "[J" ∈ wsX3_settles := by decide +kernel
theorem iX3_settles_X3 : ∀ w ∈ wsX30, w ∈ wsX3_settles := by decide +kernel
set_option maxHeartbeats 4000000 in
set_option maxRecDepth 100000 in
theorem lX3_cs_0 {l : Launch} {D : va_G} {K : Nat → ClassId} {p : Program} {e : Env} {s : State} {m : MethodId} {below : List Frame} {meth : Method} {c : Code} {A : Nat → Prop} {args : Array Value} {Q : State → Prop} (E : zw_E p s m args c cX3_settles 11 RX3 wsX3_settles D (zT K) A) (am : Nat → Nat) (g : Md) (kn en f : Nat) (hkn : kn ≤ 80) (hen : en < 80) (hf : f < 60) (hth : ¬ g.1 11 f = 0) (hok : av_ok g kn en) (t L : Int64) (kk : zw_W p l e rmX3_settles s m args below meth c 11 D A 0 0 Q 263 [(0, .ref (am 0)), (1, .int (nI kn)), (2, .int (nI en)), (3, .long t), (5, .long L), (7, .int (nI f)), (8, .int 1)] [] (md_W K am (mcs g kn en f 0 0))) : zw_W p l e rmX3_settles s m args below meth c 11 D A 0 0 Q 263 [(0, .ref (am 0)), (1, .int (nI kn)), (2, .int (nI en)), (3, .long t), (5, .long L), (7, .int (nI f)), (8, .int 0)] [] (md_W K am g) := by
  refine zw_iload (x := 0) E 6 dX3_settles_263 rfl (pc' := 265) rfl ?_
  refine zw_iconst (v := 3) E dX3_settles_265 (by decide) (pc' := 266) rfl ?_
  refine zw_icmp_ge (tgt := 358) E dX3_settles_266 (by decide) (pc' := 269) rfl (fun c9 => absurd c9 (by decide)) (fun _ => ?_)
  refine zw_aload_n (i := 0) (x := am 0) E 0 dX3_settles_269 rfl rfl (pc' := 270) rfl ?_
  refine zw_get (v := .ref (am 12)) E 0 13 iX3_settles_X3 fX3_settles_43 rfl rfl (by decide) rfl rfl dX3_settles_270 (pc' := 273) rfl ?_
  refine zw_iload (x := nI f) E 5 dX3_settles_273 rfl (pc' := 275) rfl ?_
  refine zw_zald (j := f) (x := g.1 11 f) E 12 1 rfl rfl (vp_in_nI hf (by decide)) (zw_clamp hf (by decide)) rfl dX3_settles_275 (pc' := 276) rfl ?_
  refine zw_if_eq (tgt := 358) E dX3_settles_276 (by decide) (pc' := 279) rfl (fun c_1 => ?_) (fun c_1 => ?_)
  · exact absurd c_1 hth
  · skip
    refine zw_aload_n (i := 0) (x := am 0) E 0 dX3_settles_279 rfl rfl (pc' := 280) rfl ?_
    refine zw_get (v := .ref (am 18)) E 0 20 iX3_settles_X3 fX3_settles_62 rfl rfl (by decide) rfl rfl dX3_settles_280 (pc' := 283) rfl ?_
    refine zw_iload (x := nI f) E 5 dX3_settles_283 rfl (pc' := 285) rfl ?_
    refine zw_lald (j := f) (x := g.2.1 0 f) E 18 2 rfl rfl (vp_in_nI hf (by decide)) (zw_clamp hf (by decide)) rfl dX3_settles_285 (pc' := 286) rfl ?_
    refine zw_ldc2 (v := 3) E dX3_settles_286 kX3_settles_106 (pc' := 289) rfl ?_
    refine zw_ldiv E dX3_settles_289 (by decide) (pc' := 290) rfl ?_
    refine zw_aload_n (i := 0) (x := am 0) E 0 dX3_settles_290 rfl rfl (pc' := 291) rfl ?_
    refine zw_get (v := .ref (am 18)) E 0 20 iX3_settles_X3 fX3_settles_62 rfl rfl (by decide) rfl rfl dX3_settles_291 (pc' := 294) rfl ?_
    refine zw_iload (x := nI f) E 5 dX3_settles_294 rfl (pc' := 296) rfl ?_
    refine zw_lald (j := f) (x := g.2.1 0 f) E 18 2 rfl rfl (vp_in_nI hf (by decide)) (zw_clamp hf (by decide)) rfl dX3_settles_296 (pc' := 297) rfl ?_
    refine zw_ldc2 (v := 3) E dX3_settles_297 kX3_settles_106 (pc' := 300) rfl ?_
    refine zw_lrem E dX3_settles_300 (by decide) (pc' := 301) rfl ?_
    refine zw_iload (x := 0) E 6 dX3_settles_301 rfl (pc' := 303) rfl ?_
    refine zw_i2l E dX3_settles_303 (pc' := 304) rfl ?_
    refine zw_lcmp E dX3_settles_304 (pc' := 305) rfl ?_
    refine zw_ifl_le (tgt := 312) E dX3_settles_305 (by decide) (pc' := 308) rfl (fun c_2 => ?_) (fun c_2 => ?_)
    · skip
      refine zw_lconst (v := 0) E dX3_settles_312 (by decide) (pc' := 313) rfl ?_
      refine zw_ladd E dX3_settles_313 (pc' := 314) rfl ?_
      refine zw_lstore (lv' := [(9, .long (((g.2.1 0 f) / 3) + 0)), (0, .ref (am 0)), (1, .int (nI kn)), (2, .int (nI en)), (3, .long t), (5, .long L), (7, .int (nI f)), (8, .int 0)]) E dX3_settles_314 (by decide) rfl (pc' := 316) rfl ?_
      refine zw_aload_n (i := 0) (x := am 0) E 1 dX3_settles_316 rfl rfl (pc' := 317) rfl ?_
      refine zw_get (v := .ref (am 16)) E 0 17 iX3_settles_X3 fX3_settles_56 rfl rfl (by decide) rfl rfl dX3_settles_317 (pc' := 320) rfl ?_
      refine zw_iconst (v := 3) E dX3_settles_320 (by decide) (pc' := 321) rfl ?_
      refine zw_iload (x := nI f) E 6 dX3_settles_321 rfl (pc' := 323) rfl ?_
      refine zw_imul E dX3_settles_323 (pc' := 324) rfl ?_
      refine zw_topi (x' := nI (3 * f)) (pk_mul 3 f) ?_
      refine zw_iload (x := 0) E 7 dX3_settles_324 rfl (pc' := 326) rfl ?_
      refine zw_iadd E dX3_settles_326 (pc' := 327) rfl ?_
      refine zw_topi (x' := nI (3 * f + 0)) (nI_add (3 * f) 0) ?_
      refine zw_ldc2 (v := 100) E dX3_settles_327 kX3_settles_108 (pc' := 330) rfl ?_
      refine zw_lload (x := ((g.2.1 0 f) / 3) + 0) E 0 dX3_settles_330 rfl (pc' := 332) rfl ?_
      refine zw_lmul E dX3_settles_332 (pc' := 333) rfl ?_
      refine zw_aload_n (i := 0) (x := am 0) E 1 dX3_settles_333 rfl rfl (pc' := 334) rfl ?_
      refine zw_iload_n (i := 1) (x := nI kn) E 2 dX3_settles_334 rfl rfl (pc' := 335) rfl ?_
      refine zw_aload_n (i := 0) (x := am 0) E 1 dX3_settles_335 rfl rfl (pc' := 336) rfl ?_
      refine zw_get (v := .ref (am 2)) E 0 3 iX3_settles_X3 fX3_settles_13 rfl rfl (by decide) rfl rfl dX3_settles_336 (pc' := 339) rfl ?_
      refine zw_iload_n (i := 2) (x := nI en) E 3 dX3_settles_339 rfl rfl (pc' := 340) rfl ?_
      refine zw_iald (j := en) (x := g.1 1 en) E 2 0 rfl rfl (vp_in_nI hen (by decide)) (zw_clamp hen (by decide)) rfl dX3_settles_340 (pc' := 341) rfl ?_
      refine zw_iload (x := 0) E 7 dX3_settles_341 rfl (pc' := 343) rfl ?_
      refine zw_callIw E (r := m_avg g kn (g.1 1 en) 0) (As := [.int (nI kn), .int (g.1 1 en), .int 0]) (rest := [.long (100 * (((g.2.1 0 f) / 3) + 0)), .int (nI (3 * f + 0)), .ref (am 16)]) (ws' := (md_W K am g)) (qX3_averageOf l D K am g kn hkn (g.1 1 en) 0 hok.1) (cwV 3 E.2.2.2.2.1 gX3_settles_X3_averageOf rfl rfl rfl (by decide +kernel) ⟨Nat.le_of_ble_eq_true rfl, Nat.le_of_ble_eq_true rfl⟩) 0 rfl rfl rfl rfl rfl rfl (Nat.le_of_ble_eq_true rfl) ⟨Nat.zero_le _, Nat.zero_le _⟩ dX3_settles_343 (pc' := 346) rfl ?_
      refine zw_i2l E dX3_settles_346 (pc' := 347) rfl ?_
      refine zw_callLs E (r := z_near (100 * (((g.2.1 0 f) / 3) + 0)) ((m_avg g kn (g.1 1 en) 0).toInt64)) (As := [.long (100 * (((g.2.1 0 f) / 3) + 0)), .long ((m_avg g kn (g.1 1 en) 0).toInt64)]) (rest := [.int (nI (3 * f + 0)), .ref (am 16)]) (ws' := (md_W K am g)) (qX3_nearest l D K (100 * (((g.2.1 0 f) / 3) + 0)) ((m_avg g kn (g.1 1 en) 0).toInt64) (zw_m2 hok.2.1)) (va_cwS 2 E.2.2.2.2.1 gX3_settles_X3_nearest rfl rfl rfl (by decide +kernel) ⟨Nat.le_of_ble_eq_true rfl, Nat.le_of_ble_eq_true rfl⟩) [] (by decide) rfl rfl (zw_put_same _ _ _ rfl) rfl rfl (Nat.le_of_ble_eq_true rfl) ⟨Nat.zero_le _, Nat.zero_le _⟩ dX3_settles_347 (pc' := 350) rfl ?_
      refine zw_l2i E dX3_settles_350 (pc' := 351) rfl ?_
      refine zw_iast (j := 3 * f + 0) (ws' := (md_W K am (md_row g 15 (3 * f + 0) ((z_near (100 * (((g.2.1 0 f) / 3) + 0)) ((m_avg g kn (g.1 1 en) 0).toInt64)).toInt32)))) E 16 0 rfl rfl (vp_in_nI (show 3 * f + 0 < 180 by omega) (by decide)) (zw_clamp (show 3 * f + 0 < 180 by omega) (by decide)) rfl dX3_settles_351 (pc' := 352) rfl ?_
      refine zw_iinc (x := 0) (v := 1) (lv' := [(8, .int 1), (9, .long (((g.2.1 0 f) / 3) + 0)), (0, .ref (am 0)), (1, .int (nI kn)), (2, .int (nI en)), (3, .long t), (5, .long L), (7, .int (nI f))]) E 7 dX3_settles_352 rfl (by decide) (by decide) rfl (pc' := 355) rfl ?_
      refine zw_goto (tgt := 263) E dX3_settles_355 (by decide) ?_
      refine zw_ws (ws' := md_W K am (mcs g kn en f 0 0)) (congrArg (md_W K am) (by unfold mcs mthird; rw [if_pos c_2])) ?_
      refine zw_sub [2, 3, 4, 5, 6, 7, 0] (lv' := [(0, .ref (am 0)), (1, .int (nI kn)), (2, .int (nI en)), (3, .long t), (5, .long L), (7, .int (nI f)), (8, .int 1)]) rfl ?_
      exact kk
    · skip
      refine zw_lconst (v := 1) E dX3_settles_308 (by decide) (pc' := 309) rfl ?_
      refine zw_goto (tgt := 313) E dX3_settles_309 (by decide) ?_
      refine zw_ladd E dX3_settles_313 (pc' := 314) rfl ?_
      refine zw_lstore (lv' := [(9, .long (((g.2.1 0 f) / 3) + 1)), (0, .ref (am 0)), (1, .int (nI kn)), (2, .int (nI en)), (3, .long t), (5, .long L), (7, .int (nI f)), (8, .int 0)]) E dX3_settles_314 (by decide) rfl (pc' := 316) rfl ?_
      refine zw_aload_n (i := 0) (x := am 0) E 1 dX3_settles_316 rfl rfl (pc' := 317) rfl ?_
      refine zw_get (v := .ref (am 16)) E 0 17 iX3_settles_X3 fX3_settles_56 rfl rfl (by decide) rfl rfl dX3_settles_317 (pc' := 320) rfl ?_
      refine zw_iconst (v := 3) E dX3_settles_320 (by decide) (pc' := 321) rfl ?_
      refine zw_iload (x := nI f) E 6 dX3_settles_321 rfl (pc' := 323) rfl ?_
      refine zw_imul E dX3_settles_323 (pc' := 324) rfl ?_
      refine zw_topi (x' := nI (3 * f)) (pk_mul 3 f) ?_
      refine zw_iload (x := 0) E 7 dX3_settles_324 rfl (pc' := 326) rfl ?_
      refine zw_iadd E dX3_settles_326 (pc' := 327) rfl ?_
      refine zw_topi (x' := nI (3 * f + 0)) (nI_add (3 * f) 0) ?_
      refine zw_ldc2 (v := 100) E dX3_settles_327 kX3_settles_108 (pc' := 330) rfl ?_
      refine zw_lload (x := ((g.2.1 0 f) / 3) + 1) E 0 dX3_settles_330 rfl (pc' := 332) rfl ?_
      refine zw_lmul E dX3_settles_332 (pc' := 333) rfl ?_
      refine zw_aload_n (i := 0) (x := am 0) E 1 dX3_settles_333 rfl rfl (pc' := 334) rfl ?_
      refine zw_iload_n (i := 1) (x := nI kn) E 2 dX3_settles_334 rfl rfl (pc' := 335) rfl ?_
      refine zw_aload_n (i := 0) (x := am 0) E 1 dX3_settles_335 rfl rfl (pc' := 336) rfl ?_
      refine zw_get (v := .ref (am 2)) E 0 3 iX3_settles_X3 fX3_settles_13 rfl rfl (by decide) rfl rfl dX3_settles_336 (pc' := 339) rfl ?_
      refine zw_iload_n (i := 2) (x := nI en) E 3 dX3_settles_339 rfl rfl (pc' := 340) rfl ?_
      refine zw_iald (j := en) (x := g.1 1 en) E 2 0 rfl rfl (vp_in_nI hen (by decide)) (zw_clamp hen (by decide)) rfl dX3_settles_340 (pc' := 341) rfl ?_
      refine zw_iload (x := 0) E 7 dX3_settles_341 rfl (pc' := 343) rfl ?_
      refine zw_callIw E (r := m_avg g kn (g.1 1 en) 0) (As := [.int (nI kn), .int (g.1 1 en), .int 0]) (rest := [.long (100 * (((g.2.1 0 f) / 3) + 1)), .int (nI (3 * f + 0)), .ref (am 16)]) (ws' := (md_W K am g)) (qX3_averageOf l D K am g kn hkn (g.1 1 en) 0 hok.1) (cwV 3 E.2.2.2.2.1 gX3_settles_X3_averageOf rfl rfl rfl (by decide +kernel) ⟨Nat.le_of_ble_eq_true rfl, Nat.le_of_ble_eq_true rfl⟩) 0 rfl rfl rfl rfl rfl rfl (Nat.le_of_ble_eq_true rfl) ⟨Nat.zero_le _, Nat.zero_le _⟩ dX3_settles_343 (pc' := 346) rfl ?_
      refine zw_i2l E dX3_settles_346 (pc' := 347) rfl ?_
      refine zw_callLs E (r := z_near (100 * (((g.2.1 0 f) / 3) + 1)) ((m_avg g kn (g.1 1 en) 0).toInt64)) (As := [.long (100 * (((g.2.1 0 f) / 3) + 1)), .long ((m_avg g kn (g.1 1 en) 0).toInt64)]) (rest := [.int (nI (3 * f + 0)), .ref (am 16)]) (ws' := (md_W K am g)) (qX3_nearest l D K (100 * (((g.2.1 0 f) / 3) + 1)) ((m_avg g kn (g.1 1 en) 0).toInt64) (zw_m2 hok.2.1)) (va_cwS 2 E.2.2.2.2.1 gX3_settles_X3_nearest rfl rfl rfl (by decide +kernel) ⟨Nat.le_of_ble_eq_true rfl, Nat.le_of_ble_eq_true rfl⟩) [] (by decide) rfl rfl (zw_put_same _ _ _ rfl) rfl rfl (Nat.le_of_ble_eq_true rfl) ⟨Nat.zero_le _, Nat.zero_le _⟩ dX3_settles_347 (pc' := 350) rfl ?_
      refine zw_l2i E dX3_settles_350 (pc' := 351) rfl ?_
      refine zw_iast (j := 3 * f + 0) (ws' := (md_W K am (md_row g 15 (3 * f + 0) ((z_near (100 * (((g.2.1 0 f) / 3) + 1)) ((m_avg g kn (g.1 1 en) 0).toInt64)).toInt32)))) E 16 0 rfl rfl (vp_in_nI (show 3 * f + 0 < 180 by omega) (by decide)) (zw_clamp (show 3 * f + 0 < 180 by omega) (by decide)) rfl dX3_settles_351 (pc' := 352) rfl ?_
      refine zw_iinc (x := 0) (v := 1) (lv' := [(8, .int 1), (9, .long (((g.2.1 0 f) / 3) + 1)), (0, .ref (am 0)), (1, .int (nI kn)), (2, .int (nI en)), (3, .long t), (5, .long L), (7, .int (nI f))]) E 7 dX3_settles_352 rfl (by decide) (by decide) rfl (pc' := 355) rfl ?_
      refine zw_goto (tgt := 263) E dX3_settles_355 (by decide) ?_
      refine zw_ws (ws' := md_W K am (mcs g kn en f 0 0)) (congrArg (md_W K am) (by unfold mcs mthird; rw [if_neg c_2])) ?_
      refine zw_sub [2, 3, 4, 5, 6, 7, 0] (lv' := [(0, .ref (am 0)), (1, .int (nI kn)), (2, .int (nI en)), (3, .long t), (5, .long L), (7, .int (nI f)), (8, .int 1)]) rfl ?_
      exact kk

set_option maxHeartbeats 4000000 in
set_option maxRecDepth 100000 in
theorem lX3_cs_1 {l : Launch} {D : va_G} {K : Nat → ClassId} {p : Program} {e : Env} {s : State} {m : MethodId} {below : List Frame} {meth : Method} {c : Code} {A : Nat → Prop} {args : Array Value} {Q : State → Prop} (E : zw_E p s m args c cX3_settles 11 RX3 wsX3_settles D (zT K) A) (am : Nat → Nat) (g : Md) (kn en f : Nat) (hkn : kn ≤ 80) (hen : en < 80) (hf : f < 60) (hth : ¬ g.1 11 f = 0) (hok : av_ok g kn en) (t L : Int64) (kk : zw_W p l e rmX3_settles s m args below meth c 11 D A 0 0 Q 263 [(0, .ref (am 0)), (1, .int (nI kn)), (2, .int (nI en)), (3, .long t), (5, .long L), (7, .int (nI f)), (8, .int 2)] [] (md_W K am (mcs g kn en f 1 1))) : zw_W p l e rmX3_settles s m args below meth c 11 D A 0 0 Q 263 [(0, .ref (am 0)), (1, .int (nI kn)), (2, .int (nI en)), (3, .long t), (5, .long L), (7, .int (nI f)), (8, .int 1)] [] (md_W K am g) := by
  refine zw_iload (x := 1) E 6 dX3_settles_263 rfl (pc' := 265) rfl ?_
  refine zw_iconst (v := 3) E dX3_settles_265 (by decide) (pc' := 266) rfl ?_
  refine zw_icmp_ge (tgt := 358) E dX3_settles_266 (by decide) (pc' := 269) rfl (fun c9 => absurd c9 (by decide)) (fun _ => ?_)
  refine zw_aload_n (i := 0) (x := am 0) E 0 dX3_settles_269 rfl rfl (pc' := 270) rfl ?_
  refine zw_get (v := .ref (am 12)) E 0 13 iX3_settles_X3 fX3_settles_43 rfl rfl (by decide) rfl rfl dX3_settles_270 (pc' := 273) rfl ?_
  refine zw_iload (x := nI f) E 5 dX3_settles_273 rfl (pc' := 275) rfl ?_
  refine zw_zald (j := f) (x := g.1 11 f) E 12 1 rfl rfl (vp_in_nI hf (by decide)) (zw_clamp hf (by decide)) rfl dX3_settles_275 (pc' := 276) rfl ?_
  refine zw_if_eq (tgt := 358) E dX3_settles_276 (by decide) (pc' := 279) rfl (fun c_1 => ?_) (fun c_1 => ?_)
  · exact absurd c_1 hth
  · skip
    refine zw_aload_n (i := 0) (x := am 0) E 0 dX3_settles_279 rfl rfl (pc' := 280) rfl ?_
    refine zw_get (v := .ref (am 18)) E 0 20 iX3_settles_X3 fX3_settles_62 rfl rfl (by decide) rfl rfl dX3_settles_280 (pc' := 283) rfl ?_
    refine zw_iload (x := nI f) E 5 dX3_settles_283 rfl (pc' := 285) rfl ?_
    refine zw_lald (j := f) (x := g.2.1 0 f) E 18 2 rfl rfl (vp_in_nI hf (by decide)) (zw_clamp hf (by decide)) rfl dX3_settles_285 (pc' := 286) rfl ?_
    refine zw_ldc2 (v := 3) E dX3_settles_286 kX3_settles_106 (pc' := 289) rfl ?_
    refine zw_ldiv E dX3_settles_289 (by decide) (pc' := 290) rfl ?_
    refine zw_aload_n (i := 0) (x := am 0) E 0 dX3_settles_290 rfl rfl (pc' := 291) rfl ?_
    refine zw_get (v := .ref (am 18)) E 0 20 iX3_settles_X3 fX3_settles_62 rfl rfl (by decide) rfl rfl dX3_settles_291 (pc' := 294) rfl ?_
    refine zw_iload (x := nI f) E 5 dX3_settles_294 rfl (pc' := 296) rfl ?_
    refine zw_lald (j := f) (x := g.2.1 0 f) E 18 2 rfl rfl (vp_in_nI hf (by decide)) (zw_clamp hf (by decide)) rfl dX3_settles_296 (pc' := 297) rfl ?_
    refine zw_ldc2 (v := 3) E dX3_settles_297 kX3_settles_106 (pc' := 300) rfl ?_
    refine zw_lrem E dX3_settles_300 (by decide) (pc' := 301) rfl ?_
    refine zw_iload (x := 1) E 6 dX3_settles_301 rfl (pc' := 303) rfl ?_
    refine zw_i2l E dX3_settles_303 (pc' := 304) rfl ?_
    refine zw_lcmp E dX3_settles_304 (pc' := 305) rfl ?_
    refine zw_ifl_le (tgt := 312) E dX3_settles_305 (by decide) (pc' := 308) rfl (fun c_2 => ?_) (fun c_2 => ?_)
    · skip
      refine zw_lconst (v := 0) E dX3_settles_312 (by decide) (pc' := 313) rfl ?_
      refine zw_ladd E dX3_settles_313 (pc' := 314) rfl ?_
      refine zw_lstore (lv' := [(9, .long (((g.2.1 0 f) / 3) + 0)), (0, .ref (am 0)), (1, .int (nI kn)), (2, .int (nI en)), (3, .long t), (5, .long L), (7, .int (nI f)), (8, .int 1)]) E dX3_settles_314 (by decide) rfl (pc' := 316) rfl ?_
      refine zw_aload_n (i := 0) (x := am 0) E 1 dX3_settles_316 rfl rfl (pc' := 317) rfl ?_
      refine zw_get (v := .ref (am 16)) E 0 17 iX3_settles_X3 fX3_settles_56 rfl rfl (by decide) rfl rfl dX3_settles_317 (pc' := 320) rfl ?_
      refine zw_iconst (v := 3) E dX3_settles_320 (by decide) (pc' := 321) rfl ?_
      refine zw_iload (x := nI f) E 6 dX3_settles_321 rfl (pc' := 323) rfl ?_
      refine zw_imul E dX3_settles_323 (pc' := 324) rfl ?_
      refine zw_topi (x' := nI (3 * f)) (pk_mul 3 f) ?_
      refine zw_iload (x := 1) E 7 dX3_settles_324 rfl (pc' := 326) rfl ?_
      refine zw_iadd E dX3_settles_326 (pc' := 327) rfl ?_
      refine zw_topi (x' := nI (3 * f + 1)) (nI_add (3 * f) 1) ?_
      refine zw_ldc2 (v := 100) E dX3_settles_327 kX3_settles_108 (pc' := 330) rfl ?_
      refine zw_lload (x := ((g.2.1 0 f) / 3) + 0) E 0 dX3_settles_330 rfl (pc' := 332) rfl ?_
      refine zw_lmul E dX3_settles_332 (pc' := 333) rfl ?_
      refine zw_aload_n (i := 0) (x := am 0) E 1 dX3_settles_333 rfl rfl (pc' := 334) rfl ?_
      refine zw_iload_n (i := 1) (x := nI kn) E 2 dX3_settles_334 rfl rfl (pc' := 335) rfl ?_
      refine zw_aload_n (i := 0) (x := am 0) E 1 dX3_settles_335 rfl rfl (pc' := 336) rfl ?_
      refine zw_get (v := .ref (am 2)) E 0 3 iX3_settles_X3 fX3_settles_13 rfl rfl (by decide) rfl rfl dX3_settles_336 (pc' := 339) rfl ?_
      refine zw_iload_n (i := 2) (x := nI en) E 3 dX3_settles_339 rfl rfl (pc' := 340) rfl ?_
      refine zw_iald (j := en) (x := g.1 1 en) E 2 0 rfl rfl (vp_in_nI hen (by decide)) (zw_clamp hen (by decide)) rfl dX3_settles_340 (pc' := 341) rfl ?_
      refine zw_iload (x := 1) E 7 dX3_settles_341 rfl (pc' := 343) rfl ?_
      refine zw_callIw E (r := m_avg g kn (g.1 1 en) 1) (As := [.int (nI kn), .int (g.1 1 en), .int 1]) (rest := [.long (100 * (((g.2.1 0 f) / 3) + 0)), .int (nI (3 * f + 1)), .ref (am 16)]) (ws' := (md_W K am g)) (qX3_averageOf l D K am g kn hkn (g.1 1 en) 1 hok.1) (cwV 3 E.2.2.2.2.1 gX3_settles_X3_averageOf rfl rfl rfl (by decide +kernel) ⟨Nat.le_of_ble_eq_true rfl, Nat.le_of_ble_eq_true rfl⟩) 0 rfl rfl rfl rfl rfl rfl (Nat.le_of_ble_eq_true rfl) ⟨Nat.zero_le _, Nat.zero_le _⟩ dX3_settles_343 (pc' := 346) rfl ?_
      refine zw_i2l E dX3_settles_346 (pc' := 347) rfl ?_
      refine zw_callLs E (r := z_near (100 * (((g.2.1 0 f) / 3) + 0)) ((m_avg g kn (g.1 1 en) 1).toInt64)) (As := [.long (100 * (((g.2.1 0 f) / 3) + 0)), .long ((m_avg g kn (g.1 1 en) 1).toInt64)]) (rest := [.int (nI (3 * f + 1)), .ref (am 16)]) (ws' := (md_W K am g)) (qX3_nearest l D K (100 * (((g.2.1 0 f) / 3) + 0)) ((m_avg g kn (g.1 1 en) 1).toInt64) (zw_m2 hok.2.2.1)) (va_cwS 2 E.2.2.2.2.1 gX3_settles_X3_nearest rfl rfl rfl (by decide +kernel) ⟨Nat.le_of_ble_eq_true rfl, Nat.le_of_ble_eq_true rfl⟩) [] (by decide) rfl rfl (zw_put_same _ _ _ rfl) rfl rfl (Nat.le_of_ble_eq_true rfl) ⟨Nat.zero_le _, Nat.zero_le _⟩ dX3_settles_347 (pc' := 350) rfl ?_
      refine zw_l2i E dX3_settles_350 (pc' := 351) rfl ?_
      refine zw_iast (j := 3 * f + 1) (ws' := (md_W K am (md_row g 15 (3 * f + 1) ((z_near (100 * (((g.2.1 0 f) / 3) + 0)) ((m_avg g kn (g.1 1 en) 1).toInt64)).toInt32)))) E 16 0 rfl rfl (vp_in_nI (show 3 * f + 1 < 180 by omega) (by decide)) (zw_clamp (show 3 * f + 1 < 180 by omega) (by decide)) rfl dX3_settles_351 (pc' := 352) rfl ?_
      refine zw_iinc (x := 1) (v := 2) (lv' := [(8, .int 2), (9, .long (((g.2.1 0 f) / 3) + 0)), (0, .ref (am 0)), (1, .int (nI kn)), (2, .int (nI en)), (3, .long t), (5, .long L), (7, .int (nI f))]) E 7 dX3_settles_352 rfl (by decide) (by decide) rfl (pc' := 355) rfl ?_
      refine zw_goto (tgt := 263) E dX3_settles_355 (by decide) ?_
      refine zw_ws (ws' := md_W K am (mcs g kn en f 1 1)) (congrArg (md_W K am) (by unfold mcs mthird; rw [if_pos c_2])) ?_
      refine zw_sub [2, 3, 4, 5, 6, 7, 0] (lv' := [(0, .ref (am 0)), (1, .int (nI kn)), (2, .int (nI en)), (3, .long t), (5, .long L), (7, .int (nI f)), (8, .int 2)]) rfl ?_
      exact kk
    · skip
      refine zw_lconst (v := 1) E dX3_settles_308 (by decide) (pc' := 309) rfl ?_
      refine zw_goto (tgt := 313) E dX3_settles_309 (by decide) ?_
      refine zw_ladd E dX3_settles_313 (pc' := 314) rfl ?_
      refine zw_lstore (lv' := [(9, .long (((g.2.1 0 f) / 3) + 1)), (0, .ref (am 0)), (1, .int (nI kn)), (2, .int (nI en)), (3, .long t), (5, .long L), (7, .int (nI f)), (8, .int 1)]) E dX3_settles_314 (by decide) rfl (pc' := 316) rfl ?_
      refine zw_aload_n (i := 0) (x := am 0) E 1 dX3_settles_316 rfl rfl (pc' := 317) rfl ?_
      refine zw_get (v := .ref (am 16)) E 0 17 iX3_settles_X3 fX3_settles_56 rfl rfl (by decide) rfl rfl dX3_settles_317 (pc' := 320) rfl ?_
      refine zw_iconst (v := 3) E dX3_settles_320 (by decide) (pc' := 321) rfl ?_
      refine zw_iload (x := nI f) E 6 dX3_settles_321 rfl (pc' := 323) rfl ?_
      refine zw_imul E dX3_settles_323 (pc' := 324) rfl ?_
      refine zw_topi (x' := nI (3 * f)) (pk_mul 3 f) ?_
      refine zw_iload (x := 1) E 7 dX3_settles_324 rfl (pc' := 326) rfl ?_
      refine zw_iadd E dX3_settles_326 (pc' := 327) rfl ?_
      refine zw_topi (x' := nI (3 * f + 1)) (nI_add (3 * f) 1) ?_
      refine zw_ldc2 (v := 100) E dX3_settles_327 kX3_settles_108 (pc' := 330) rfl ?_
      refine zw_lload (x := ((g.2.1 0 f) / 3) + 1) E 0 dX3_settles_330 rfl (pc' := 332) rfl ?_
      refine zw_lmul E dX3_settles_332 (pc' := 333) rfl ?_
      refine zw_aload_n (i := 0) (x := am 0) E 1 dX3_settles_333 rfl rfl (pc' := 334) rfl ?_
      refine zw_iload_n (i := 1) (x := nI kn) E 2 dX3_settles_334 rfl rfl (pc' := 335) rfl ?_
      refine zw_aload_n (i := 0) (x := am 0) E 1 dX3_settles_335 rfl rfl (pc' := 336) rfl ?_
      refine zw_get (v := .ref (am 2)) E 0 3 iX3_settles_X3 fX3_settles_13 rfl rfl (by decide) rfl rfl dX3_settles_336 (pc' := 339) rfl ?_
      refine zw_iload_n (i := 2) (x := nI en) E 3 dX3_settles_339 rfl rfl (pc' := 340) rfl ?_
      refine zw_iald (j := en) (x := g.1 1 en) E 2 0 rfl rfl (vp_in_nI hen (by decide)) (zw_clamp hen (by decide)) rfl dX3_settles_340 (pc' := 341) rfl ?_
      refine zw_iload (x := 1) E 7 dX3_settles_341 rfl (pc' := 343) rfl ?_
      refine zw_callIw E (r := m_avg g kn (g.1 1 en) 1) (As := [.int (nI kn), .int (g.1 1 en), .int 1]) (rest := [.long (100 * (((g.2.1 0 f) / 3) + 1)), .int (nI (3 * f + 1)), .ref (am 16)]) (ws' := (md_W K am g)) (qX3_averageOf l D K am g kn hkn (g.1 1 en) 1 hok.1) (cwV 3 E.2.2.2.2.1 gX3_settles_X3_averageOf rfl rfl rfl (by decide +kernel) ⟨Nat.le_of_ble_eq_true rfl, Nat.le_of_ble_eq_true rfl⟩) 0 rfl rfl rfl rfl rfl rfl (Nat.le_of_ble_eq_true rfl) ⟨Nat.zero_le _, Nat.zero_le _⟩ dX3_settles_343 (pc' := 346) rfl ?_
      refine zw_i2l E dX3_settles_346 (pc' := 347) rfl ?_
      refine zw_callLs E (r := z_near (100 * (((g.2.1 0 f) / 3) + 1)) ((m_avg g kn (g.1 1 en) 1).toInt64)) (As := [.long (100 * (((g.2.1 0 f) / 3) + 1)), .long ((m_avg g kn (g.1 1 en) 1).toInt64)]) (rest := [.int (nI (3 * f + 1)), .ref (am 16)]) (ws' := (md_W K am g)) (qX3_nearest l D K (100 * (((g.2.1 0 f) / 3) + 1)) ((m_avg g kn (g.1 1 en) 1).toInt64) (zw_m2 hok.2.2.1)) (va_cwS 2 E.2.2.2.2.1 gX3_settles_X3_nearest rfl rfl rfl (by decide +kernel) ⟨Nat.le_of_ble_eq_true rfl, Nat.le_of_ble_eq_true rfl⟩) [] (by decide) rfl rfl (zw_put_same _ _ _ rfl) rfl rfl (Nat.le_of_ble_eq_true rfl) ⟨Nat.zero_le _, Nat.zero_le _⟩ dX3_settles_347 (pc' := 350) rfl ?_
      refine zw_l2i E dX3_settles_350 (pc' := 351) rfl ?_
      refine zw_iast (j := 3 * f + 1) (ws' := (md_W K am (md_row g 15 (3 * f + 1) ((z_near (100 * (((g.2.1 0 f) / 3) + 1)) ((m_avg g kn (g.1 1 en) 1).toInt64)).toInt32)))) E 16 0 rfl rfl (vp_in_nI (show 3 * f + 1 < 180 by omega) (by decide)) (zw_clamp (show 3 * f + 1 < 180 by omega) (by decide)) rfl dX3_settles_351 (pc' := 352) rfl ?_
      refine zw_iinc (x := 1) (v := 2) (lv' := [(8, .int 2), (9, .long (((g.2.1 0 f) / 3) + 1)), (0, .ref (am 0)), (1, .int (nI kn)), (2, .int (nI en)), (3, .long t), (5, .long L), (7, .int (nI f))]) E 7 dX3_settles_352 rfl (by decide) (by decide) rfl (pc' := 355) rfl ?_
      refine zw_goto (tgt := 263) E dX3_settles_355 (by decide) ?_
      refine zw_ws (ws' := md_W K am (mcs g kn en f 1 1)) (congrArg (md_W K am) (by unfold mcs mthird; rw [if_neg c_2])) ?_
      refine zw_sub [2, 3, 4, 5, 6, 7, 0] (lv' := [(0, .ref (am 0)), (1, .int (nI kn)), (2, .int (nI en)), (3, .long t), (5, .long L), (7, .int (nI f)), (8, .int 2)]) rfl ?_
      exact kk

set_option maxHeartbeats 4000000 in
set_option maxRecDepth 100000 in
theorem lX3_cs_2 {l : Launch} {D : va_G} {K : Nat → ClassId} {p : Program} {e : Env} {s : State} {m : MethodId} {below : List Frame} {meth : Method} {c : Code} {A : Nat → Prop} {args : Array Value} {Q : State → Prop} (E : zw_E p s m args c cX3_settles 11 RX3 wsX3_settles D (zT K) A) (am : Nat → Nat) (g : Md) (kn en f : Nat) (hkn : kn ≤ 80) (hen : en < 80) (hf : f < 60) (hth : ¬ g.1 11 f = 0) (hok : av_ok g kn en) (t L : Int64) (kk : zw_W p l e rmX3_settles s m args below meth c 11 D A 0 0 Q 263 [(0, .ref (am 0)), (1, .int (nI kn)), (2, .int (nI en)), (3, .long t), (5, .long L), (7, .int (nI f)), (8, .int 3)] [] (md_W K am (mcs g kn en f 2 2))) : zw_W p l e rmX3_settles s m args below meth c 11 D A 0 0 Q 263 [(0, .ref (am 0)), (1, .int (nI kn)), (2, .int (nI en)), (3, .long t), (5, .long L), (7, .int (nI f)), (8, .int 2)] [] (md_W K am g) := by
  refine zw_iload (x := 2) E 6 dX3_settles_263 rfl (pc' := 265) rfl ?_
  refine zw_iconst (v := 3) E dX3_settles_265 (by decide) (pc' := 266) rfl ?_
  refine zw_icmp_ge (tgt := 358) E dX3_settles_266 (by decide) (pc' := 269) rfl (fun c9 => absurd c9 (by decide)) (fun _ => ?_)
  refine zw_aload_n (i := 0) (x := am 0) E 0 dX3_settles_269 rfl rfl (pc' := 270) rfl ?_
  refine zw_get (v := .ref (am 12)) E 0 13 iX3_settles_X3 fX3_settles_43 rfl rfl (by decide) rfl rfl dX3_settles_270 (pc' := 273) rfl ?_
  refine zw_iload (x := nI f) E 5 dX3_settles_273 rfl (pc' := 275) rfl ?_
  refine zw_zald (j := f) (x := g.1 11 f) E 12 1 rfl rfl (vp_in_nI hf (by decide)) (zw_clamp hf (by decide)) rfl dX3_settles_275 (pc' := 276) rfl ?_
  refine zw_if_eq (tgt := 358) E dX3_settles_276 (by decide) (pc' := 279) rfl (fun c_1 => ?_) (fun c_1 => ?_)
  · exact absurd c_1 hth
  · skip
    refine zw_aload_n (i := 0) (x := am 0) E 0 dX3_settles_279 rfl rfl (pc' := 280) rfl ?_
    refine zw_get (v := .ref (am 18)) E 0 20 iX3_settles_X3 fX3_settles_62 rfl rfl (by decide) rfl rfl dX3_settles_280 (pc' := 283) rfl ?_
    refine zw_iload (x := nI f) E 5 dX3_settles_283 rfl (pc' := 285) rfl ?_
    refine zw_lald (j := f) (x := g.2.1 0 f) E 18 2 rfl rfl (vp_in_nI hf (by decide)) (zw_clamp hf (by decide)) rfl dX3_settles_285 (pc' := 286) rfl ?_
    refine zw_ldc2 (v := 3) E dX3_settles_286 kX3_settles_106 (pc' := 289) rfl ?_
    refine zw_ldiv E dX3_settles_289 (by decide) (pc' := 290) rfl ?_
    refine zw_aload_n (i := 0) (x := am 0) E 0 dX3_settles_290 rfl rfl (pc' := 291) rfl ?_
    refine zw_get (v := .ref (am 18)) E 0 20 iX3_settles_X3 fX3_settles_62 rfl rfl (by decide) rfl rfl dX3_settles_291 (pc' := 294) rfl ?_
    refine zw_iload (x := nI f) E 5 dX3_settles_294 rfl (pc' := 296) rfl ?_
    refine zw_lald (j := f) (x := g.2.1 0 f) E 18 2 rfl rfl (vp_in_nI hf (by decide)) (zw_clamp hf (by decide)) rfl dX3_settles_296 (pc' := 297) rfl ?_
    refine zw_ldc2 (v := 3) E dX3_settles_297 kX3_settles_106 (pc' := 300) rfl ?_
    refine zw_lrem E dX3_settles_300 (by decide) (pc' := 301) rfl ?_
    refine zw_iload (x := 2) E 6 dX3_settles_301 rfl (pc' := 303) rfl ?_
    refine zw_i2l E dX3_settles_303 (pc' := 304) rfl ?_
    refine zw_lcmp E dX3_settles_304 (pc' := 305) rfl ?_
    refine zw_ifl_le (tgt := 312) E dX3_settles_305 (by decide) (pc' := 308) rfl (fun c_2 => ?_) (fun c_2 => ?_)
    · skip
      refine zw_lconst (v := 0) E dX3_settles_312 (by decide) (pc' := 313) rfl ?_
      refine zw_ladd E dX3_settles_313 (pc' := 314) rfl ?_
      refine zw_lstore (lv' := [(9, .long (((g.2.1 0 f) / 3) + 0)), (0, .ref (am 0)), (1, .int (nI kn)), (2, .int (nI en)), (3, .long t), (5, .long L), (7, .int (nI f)), (8, .int 2)]) E dX3_settles_314 (by decide) rfl (pc' := 316) rfl ?_
      refine zw_aload_n (i := 0) (x := am 0) E 1 dX3_settles_316 rfl rfl (pc' := 317) rfl ?_
      refine zw_get (v := .ref (am 16)) E 0 17 iX3_settles_X3 fX3_settles_56 rfl rfl (by decide) rfl rfl dX3_settles_317 (pc' := 320) rfl ?_
      refine zw_iconst (v := 3) E dX3_settles_320 (by decide) (pc' := 321) rfl ?_
      refine zw_iload (x := nI f) E 6 dX3_settles_321 rfl (pc' := 323) rfl ?_
      refine zw_imul E dX3_settles_323 (pc' := 324) rfl ?_
      refine zw_topi (x' := nI (3 * f)) (pk_mul 3 f) ?_
      refine zw_iload (x := 2) E 7 dX3_settles_324 rfl (pc' := 326) rfl ?_
      refine zw_iadd E dX3_settles_326 (pc' := 327) rfl ?_
      refine zw_topi (x' := nI (3 * f + 2)) (nI_add (3 * f) 2) ?_
      refine zw_ldc2 (v := 100) E dX3_settles_327 kX3_settles_108 (pc' := 330) rfl ?_
      refine zw_lload (x := ((g.2.1 0 f) / 3) + 0) E 0 dX3_settles_330 rfl (pc' := 332) rfl ?_
      refine zw_lmul E dX3_settles_332 (pc' := 333) rfl ?_
      refine zw_aload_n (i := 0) (x := am 0) E 1 dX3_settles_333 rfl rfl (pc' := 334) rfl ?_
      refine zw_iload_n (i := 1) (x := nI kn) E 2 dX3_settles_334 rfl rfl (pc' := 335) rfl ?_
      refine zw_aload_n (i := 0) (x := am 0) E 1 dX3_settles_335 rfl rfl (pc' := 336) rfl ?_
      refine zw_get (v := .ref (am 2)) E 0 3 iX3_settles_X3 fX3_settles_13 rfl rfl (by decide) rfl rfl dX3_settles_336 (pc' := 339) rfl ?_
      refine zw_iload_n (i := 2) (x := nI en) E 3 dX3_settles_339 rfl rfl (pc' := 340) rfl ?_
      refine zw_iald (j := en) (x := g.1 1 en) E 2 0 rfl rfl (vp_in_nI hen (by decide)) (zw_clamp hen (by decide)) rfl dX3_settles_340 (pc' := 341) rfl ?_
      refine zw_iload (x := 2) E 7 dX3_settles_341 rfl (pc' := 343) rfl ?_
      refine zw_callIw E (r := m_avg g kn (g.1 1 en) 2) (As := [.int (nI kn), .int (g.1 1 en), .int 2]) (rest := [.long (100 * (((g.2.1 0 f) / 3) + 0)), .int (nI (3 * f + 2)), .ref (am 16)]) (ws' := (md_W K am g)) (qX3_averageOf l D K am g kn hkn (g.1 1 en) 2 hok.1) (cwV 3 E.2.2.2.2.1 gX3_settles_X3_averageOf rfl rfl rfl (by decide +kernel) ⟨Nat.le_of_ble_eq_true rfl, Nat.le_of_ble_eq_true rfl⟩) 0 rfl rfl rfl rfl rfl rfl (Nat.le_of_ble_eq_true rfl) ⟨Nat.zero_le _, Nat.zero_le _⟩ dX3_settles_343 (pc' := 346) rfl ?_
      refine zw_i2l E dX3_settles_346 (pc' := 347) rfl ?_
      refine zw_callLs E (r := z_near (100 * (((g.2.1 0 f) / 3) + 0)) ((m_avg g kn (g.1 1 en) 2).toInt64)) (As := [.long (100 * (((g.2.1 0 f) / 3) + 0)), .long ((m_avg g kn (g.1 1 en) 2).toInt64)]) (rest := [.int (nI (3 * f + 2)), .ref (am 16)]) (ws' := (md_W K am g)) (qX3_nearest l D K (100 * (((g.2.1 0 f) / 3) + 0)) ((m_avg g kn (g.1 1 en) 2).toInt64) (zw_m2 hok.2.2.2)) (va_cwS 2 E.2.2.2.2.1 gX3_settles_X3_nearest rfl rfl rfl (by decide +kernel) ⟨Nat.le_of_ble_eq_true rfl, Nat.le_of_ble_eq_true rfl⟩) [] (by decide) rfl rfl (zw_put_same _ _ _ rfl) rfl rfl (Nat.le_of_ble_eq_true rfl) ⟨Nat.zero_le _, Nat.zero_le _⟩ dX3_settles_347 (pc' := 350) rfl ?_
      refine zw_l2i E dX3_settles_350 (pc' := 351) rfl ?_
      refine zw_iast (j := 3 * f + 2) (ws' := (md_W K am (md_row g 15 (3 * f + 2) ((z_near (100 * (((g.2.1 0 f) / 3) + 0)) ((m_avg g kn (g.1 1 en) 2).toInt64)).toInt32)))) E 16 0 rfl rfl (vp_in_nI (show 3 * f + 2 < 180 by omega) (by decide)) (zw_clamp (show 3 * f + 2 < 180 by omega) (by decide)) rfl dX3_settles_351 (pc' := 352) rfl ?_
      refine zw_iinc (x := 2) (v := 3) (lv' := [(8, .int 3), (9, .long (((g.2.1 0 f) / 3) + 0)), (0, .ref (am 0)), (1, .int (nI kn)), (2, .int (nI en)), (3, .long t), (5, .long L), (7, .int (nI f))]) E 7 dX3_settles_352 rfl (by decide) (by decide) rfl (pc' := 355) rfl ?_
      refine zw_goto (tgt := 263) E dX3_settles_355 (by decide) ?_
      refine zw_ws (ws' := md_W K am (mcs g kn en f 2 2)) (congrArg (md_W K am) (by unfold mcs mthird; rw [if_pos c_2])) ?_
      refine zw_sub [2, 3, 4, 5, 6, 7, 0] (lv' := [(0, .ref (am 0)), (1, .int (nI kn)), (2, .int (nI en)), (3, .long t), (5, .long L), (7, .int (nI f)), (8, .int 3)]) rfl ?_
      exact kk
    · skip
      refine zw_lconst (v := 1) E dX3_settles_308 (by decide) (pc' := 309) rfl ?_
      refine zw_goto (tgt := 313) E dX3_settles_309 (by decide) ?_
      refine zw_ladd E dX3_settles_313 (pc' := 314) rfl ?_
      refine zw_lstore (lv' := [(9, .long (((g.2.1 0 f) / 3) + 1)), (0, .ref (am 0)), (1, .int (nI kn)), (2, .int (nI en)), (3, .long t), (5, .long L), (7, .int (nI f)), (8, .int 2)]) E dX3_settles_314 (by decide) rfl (pc' := 316) rfl ?_
      refine zw_aload_n (i := 0) (x := am 0) E 1 dX3_settles_316 rfl rfl (pc' := 317) rfl ?_
      refine zw_get (v := .ref (am 16)) E 0 17 iX3_settles_X3 fX3_settles_56 rfl rfl (by decide) rfl rfl dX3_settles_317 (pc' := 320) rfl ?_
      refine zw_iconst (v := 3) E dX3_settles_320 (by decide) (pc' := 321) rfl ?_
      refine zw_iload (x := nI f) E 6 dX3_settles_321 rfl (pc' := 323) rfl ?_
      refine zw_imul E dX3_settles_323 (pc' := 324) rfl ?_
      refine zw_topi (x' := nI (3 * f)) (pk_mul 3 f) ?_
      refine zw_iload (x := 2) E 7 dX3_settles_324 rfl (pc' := 326) rfl ?_
      refine zw_iadd E dX3_settles_326 (pc' := 327) rfl ?_
      refine zw_topi (x' := nI (3 * f + 2)) (nI_add (3 * f) 2) ?_
      refine zw_ldc2 (v := 100) E dX3_settles_327 kX3_settles_108 (pc' := 330) rfl ?_
      refine zw_lload (x := ((g.2.1 0 f) / 3) + 1) E 0 dX3_settles_330 rfl (pc' := 332) rfl ?_
      refine zw_lmul E dX3_settles_332 (pc' := 333) rfl ?_
      refine zw_aload_n (i := 0) (x := am 0) E 1 dX3_settles_333 rfl rfl (pc' := 334) rfl ?_
      refine zw_iload_n (i := 1) (x := nI kn) E 2 dX3_settles_334 rfl rfl (pc' := 335) rfl ?_
      refine zw_aload_n (i := 0) (x := am 0) E 1 dX3_settles_335 rfl rfl (pc' := 336) rfl ?_
      refine zw_get (v := .ref (am 2)) E 0 3 iX3_settles_X3 fX3_settles_13 rfl rfl (by decide) rfl rfl dX3_settles_336 (pc' := 339) rfl ?_
      refine zw_iload_n (i := 2) (x := nI en) E 3 dX3_settles_339 rfl rfl (pc' := 340) rfl ?_
      refine zw_iald (j := en) (x := g.1 1 en) E 2 0 rfl rfl (vp_in_nI hen (by decide)) (zw_clamp hen (by decide)) rfl dX3_settles_340 (pc' := 341) rfl ?_
      refine zw_iload (x := 2) E 7 dX3_settles_341 rfl (pc' := 343) rfl ?_
      refine zw_callIw E (r := m_avg g kn (g.1 1 en) 2) (As := [.int (nI kn), .int (g.1 1 en), .int 2]) (rest := [.long (100 * (((g.2.1 0 f) / 3) + 1)), .int (nI (3 * f + 2)), .ref (am 16)]) (ws' := (md_W K am g)) (qX3_averageOf l D K am g kn hkn (g.1 1 en) 2 hok.1) (cwV 3 E.2.2.2.2.1 gX3_settles_X3_averageOf rfl rfl rfl (by decide +kernel) ⟨Nat.le_of_ble_eq_true rfl, Nat.le_of_ble_eq_true rfl⟩) 0 rfl rfl rfl rfl rfl rfl (Nat.le_of_ble_eq_true rfl) ⟨Nat.zero_le _, Nat.zero_le _⟩ dX3_settles_343 (pc' := 346) rfl ?_
      refine zw_i2l E dX3_settles_346 (pc' := 347) rfl ?_
      refine zw_callLs E (r := z_near (100 * (((g.2.1 0 f) / 3) + 1)) ((m_avg g kn (g.1 1 en) 2).toInt64)) (As := [.long (100 * (((g.2.1 0 f) / 3) + 1)), .long ((m_avg g kn (g.1 1 en) 2).toInt64)]) (rest := [.int (nI (3 * f + 2)), .ref (am 16)]) (ws' := (md_W K am g)) (qX3_nearest l D K (100 * (((g.2.1 0 f) / 3) + 1)) ((m_avg g kn (g.1 1 en) 2).toInt64) (zw_m2 hok.2.2.2)) (va_cwS 2 E.2.2.2.2.1 gX3_settles_X3_nearest rfl rfl rfl (by decide +kernel) ⟨Nat.le_of_ble_eq_true rfl, Nat.le_of_ble_eq_true rfl⟩) [] (by decide) rfl rfl (zw_put_same _ _ _ rfl) rfl rfl (Nat.le_of_ble_eq_true rfl) ⟨Nat.zero_le _, Nat.zero_le _⟩ dX3_settles_347 (pc' := 350) rfl ?_
      refine zw_l2i E dX3_settles_350 (pc' := 351) rfl ?_
      refine zw_iast (j := 3 * f + 2) (ws' := (md_W K am (md_row g 15 (3 * f + 2) ((z_near (100 * (((g.2.1 0 f) / 3) + 1)) ((m_avg g kn (g.1 1 en) 2).toInt64)).toInt32)))) E 16 0 rfl rfl (vp_in_nI (show 3 * f + 2 < 180 by omega) (by decide)) (zw_clamp (show 3 * f + 2 < 180 by omega) (by decide)) rfl dX3_settles_351 (pc' := 352) rfl ?_
      refine zw_iinc (x := 2) (v := 3) (lv' := [(8, .int 3), (9, .long (((g.2.1 0 f) / 3) + 1)), (0, .ref (am 0)), (1, .int (nI kn)), (2, .int (nI en)), (3, .long t), (5, .long L), (7, .int (nI f))]) E 7 dX3_settles_352 rfl (by decide) (by decide) rfl (pc' := 355) rfl ?_
      refine zw_goto (tgt := 263) E dX3_settles_355 (by decide) ?_
      refine zw_ws (ws' := md_W K am (mcs g kn en f 2 2)) (congrArg (md_W K am) (by unfold mcs mthird; rw [if_neg c_2])) ?_
      refine zw_sub [2, 3, 4, 5, 6, 7, 0] (lv' := [(0, .ref (am 0)), (1, .int (nI kn)), (2, .int (nI en)), (3, .long t), (5, .long L), (7, .int (nI f)), (8, .int 3)]) rfl ?_
      exact kk

set_option maxHeartbeats 4000000 in
set_option maxRecDepth 100000 in
theorem lX3_settlesD {l : Launch} {D : va_G} {K : Nat → ClassId} {p : Program} {e : Env} {s : State} {m : MethodId} {below : List Frame} {meth : Method} {c : Code} {A : Nat → Prop} {args : Array Value} (E : zw_E p s m args c cX3_settles 11 RX3 wsX3_settles D (zT K) A) (hr : meth.sig.returnType = none) (hlk : meth.locks = false) (am : Nat → Nat) (g : Md) (kn en : Nat) (hkn : kn ≤ 80) (hen : en < 80) (hok : av_ok g kn en) (t L : Int64) : ∀ (fu k : Nat), k ≤ 60 → 60 + 1 ≤ k + fu → zw_W p l e rmX3_settles s m args below meth c 11 D A 0 0 (zw_Qv D A below args s (md_W K am (md_set (mch g kn en 60) 1))) 253 [(0, .ref (am 0)), (1, .int (nI kn)), (2, .int (nI en)), (3, .long t), (5, .long L), (7, .int (nI k))] [] (md_W K am (mch g kn en k)) := by
  intro fu
  induction fu with
  | zero => intro k h1 h2; exact absurd h2 (by omega)
  | succ fu ih =>
    intro k hle hfu
    refine zw_iload (x := nI k) E 5 dX3_settles_253 rfl (pc' := 255) rfl ?_
    refine zw_bipush (v := 60) E dX3_settles_255 (by decide) (pc' := 257) rfl ?_
    refine zw_icmp_ge (tgt := 364) E dX3_settles_257 (by decide) (pc' := 260) rfl (fun c_1 => ?_) (fun c_1 => ?_)
    · skip
      have hk60 : k = 60 := zw_ge60 c_1 hle
      refine zw_aload_n (i := 0) (x := am 0) E 0 dX3_settles_364 rfl rfl (pc' := 365) rfl ?_
      refine zw_iconst (v := 1) E dX3_settles_365 (by decide) (pc' := 366) rfl ?_
      refine zw_putf (v := .int 1) (ty := .boolean) (ws' := (md_W K am (md_set (mch g kn en k) 1))) E 0 19 iX3_settles_X3 tyX3_ok nmX3 fX3_settles_110 rfl rfl (by decide) rfl rfl rfl rfl rfl (Nat.le_of_ble_eq_true rfl) rfl dX3_settles_366 (pc' := 369) rfl ?_
      exact zw_vret E hr hlk dX3_settles_369 (congrArg (md_W K am) (by rw [hk60]))
    · skip
      have hk : k < 60 := zw_lt60 c_1 hle
      refine zw_iconst (v := 0) E dX3_settles_260 (by decide) (pc' := 261) rfl ?_
      refine zw_istore (lv' := [(8, .int 0), (0, .ref (am 0)), (1, .int (nI kn)), (2, .int (nI en)), (3, .long t), (5, .long L), (7, .int (nI k))]) E dX3_settles_261 (by decide) rfl (pc' := 263) rfl ?_
      refine zw_sub [1, 2, 3, 4, 5, 6, 0] (lv' := [(0, .ref (am 0)), (1, .int (nI kn)), (2, .int (nI en)), (3, .long t), (5, .long L), (7, .int (nI k)), (8, .int 0)]) rfl ?_
      have hokk := av_ok_mch hok k
      by_cases hth : (mch g kn en k).1 11 k = 0
      · have e9 : mch g kn en (k + 1) = mch g kn en k := by rw [mch, mch1, if_pos hth]
        refine zw_iload (x := 0) E 6 dX3_settles_263 rfl (pc' := 265) rfl ?_
        refine zw_iconst (v := 3) E dX3_settles_265 (by decide) (pc' := 266) rfl ?_
        refine zw_icmp_ge (tgt := 358) E dX3_settles_266 (by decide) (pc' := 269) rfl (fun c9 => absurd c9 (by decide)) (fun _ => ?_)
        refine zw_aload_n (i := 0) (x := am 0) E 0 dX3_settles_269 rfl rfl (pc' := 270) rfl ?_
        refine zw_get (v := .ref (am 12)) E 0 13 iX3_settles_X3 fX3_settles_43 rfl rfl (by decide) rfl rfl dX3_settles_270 (pc' := 273) rfl ?_
        refine zw_iload (x := nI k) E 5 dX3_settles_273 rfl (pc' := 275) rfl ?_
        refine zw_zald (j := k) (x := (mch g kn en k).1 11 k) E 12 1 rfl rfl (vp_in_nI hk (by decide)) (zw_clamp hk (by decide)) rfl dX3_settles_275 (pc' := 276) rfl ?_
        refine zw_if_eq (tgt := 358) E dX3_settles_276 (by decide) (pc' := 279) rfl (fun c_2 => ?_) (fun c_2 => ?_)
        · skip
          refine zw_iinc (x := nI k) (v := nI (k + 1)) (lv' := [(7, .int (nI (k + 1))), (0, .ref (am 0)), (1, .int (nI kn)), (2, .int (nI en)), (3, .long t), (5, .long L), (8, .int 0)]) E 5 dX3_settles_358 rfl (zw_inc1 k) (by decide) rfl (pc' := 361) rfl ?_
          refine zw_goto (tgt := 253) E dX3_settles_361 (by decide) ?_
          refine zw_ws (ws' := md_W K am (mch g kn en (k + 1))) (congrArg (md_W K am) e9.symm) ?_
          refine zw_sub [1, 2, 3, 4, 5, 0] (lv' := [(0, .ref (am 0)), (1, .int (nI kn)), (2, .int (nI en)), (3, .long t), (5, .long L), (7, .int (nI (k + 1)))]) rfl ?_
          exact ih (k + 1) (by omega) (by omega)
        · exact absurd hth c_2
      · have e9 : mch g kn en (k + 1) = mcs (mcs (mcs (mch g kn en k) kn en k 0 0) kn en k 1 1) kn en k 2 2 := by rw [mch, mch1, if_neg hth]
        refine lX3_cs_0 E am _ kn en k hkn hen hk hth hokk t L ?_
        refine lX3_cs_1 E am _ kn en k hkn hen hk (by rw [mcs_row _ _ _ _ _ _ 11 (by decide)]; exact hth) (av_ok_mcs hokk) t L ?_
        refine lX3_cs_2 E am _ kn en k hkn hen hk (by rw [mcs_row _ _ _ _ _ _ 11 (by decide), mcs_row _ _ _ _ _ _ 11 (by decide)]; exact hth) (av_ok_mcs (av_ok_mcs hokk)) t L ?_
        refine zw_iload (x := 3) E 6 dX3_settles_263 rfl (pc' := 265) rfl ?_
        refine zw_iconst (v := 3) E dX3_settles_265 (by decide) (pc' := 266) rfl ?_
        refine zw_icmp_ge (tgt := 358) E dX3_settles_266 (by decide) (pc' := 269) rfl (fun _ => ?_) (fun c9 => absurd (by decide) c9)
        refine zw_iinc (x := nI k) (v := nI (k + 1)) (lv' := [(7, .int (nI (k + 1))), (0, .ref (am 0)), (1, .int (nI kn)), (2, .int (nI en)), (3, .long t), (5, .long L), (8, .int 3)]) E 5 dX3_settles_358 rfl (zw_inc1 k) (by decide) rfl (pc' := 361) rfl ?_
        refine zw_goto (tgt := 253) E dX3_settles_361 (by decide) ?_
        refine zw_ws (ws' := md_W K am (mch g kn en (k + 1))) (congrArg (md_W K am) e9.symm) ?_
        refine zw_sub [1, 2, 3, 4, 5, 0] (lv' := [(0, .ref (am 0)), (1, .int (nI kn)), (2, .int (nI en)), (3, .long t), (5, .long L), (7, .int (nI (k + 1)))]) rfl ?_
        exact ih (k + 1) (by omega) (by omega)

set_option maxHeartbeats 4000000 in
set_option maxRecDepth 100000 in
theorem lX3_settlesC2 {l : Launch} {D : va_G} {K : Nat → ClassId} {p : Program} {e : Env} {s : State} {m : MethodId} {below : List Frame} {meth : Method} {c : Code} {A : Nat → Prop} {args : Array Value} {Q : State → Prop} (E : zw_E p s m args c cX3_settles 11 RX3 wsX3_settles D (zT K) A) (hr : meth.sig.returnType = none) (hlk : meth.locks = false) (am : Nat → Nat) (g : Md) (kn en : Nat) (t L : Int64) (kk : zw_W p l e rmX3_settles s m args below meth c 11 D A 0 0 Q 220 [(0, .ref (am 0)), (1, .int (nI kn)), (2, .int (nI en)), (3, .long t), (5, .long L), (7, .int (nI (gbest (g.2.1 1) 60)))] [] (md_W K am g)) : ∀ (fu k : Nat), k ≤ 60 → 60 + 1 ≤ k + fu → zw_W p l e rmX3_settles s m args below meth c 11 D A 0 0 Q 185 [(0, .ref (am 0)), (1, .int (nI kn)), (2, .int (nI en)), (3, .long t), (5, .long L), (7, .int (nI (gbest (g.2.1 1) k))), (8, .int (nI k))] [] (md_W K am g) := by
  intro fu
  induction fu with
  | zero => intro k h1 h2; exact absurd h2 (by omega)
  | succ fu ih =>
    intro k hle hfu
    refine zw_iload (x := nI k) E 6 dX3_settles_185 rfl (pc' := 187) rfl ?_
    refine zw_bipush (v := 60) E dX3_settles_187 (by decide) (pc' := 189) rfl ?_
    refine zw_icmp_ge (tgt := 220) E dX3_settles_189 (by decide) (pc' := 192) rfl (fun c_1 => ?_) (fun c_1 => ?_)
    · skip
      have hk60 : k = 60 := zw_ge60 c_1 hle
      refine zw_sub [0, 1, 2, 3, 4, 5] (lv' := [(0, .ref (am 0)), (1, .int (nI kn)), (2, .int (nI en)), (3, .long t), (5, .long L), (7, .int (nI (gbest (g.2.1 1) k)))]) rfl ?_
      rw [hk60]
      exact kk
    · skip
      have hk : k < 60 := zw_lt60 c_1 hle
      have hb : gbest (g.2.1 1) k < 60 := gbest_lt60 _ hle
      refine zw_aload_n (i := 0) (x := am 0) E 0 dX3_settles_192 rfl rfl (pc' := 193) rfl ?_
      refine zw_get (v := .ref (am 19)) E 0 21 iX3_settles_X3 fX3_settles_66 rfl rfl (by decide) rfl rfl dX3_settles_193 (pc' := 196) rfl ?_
      refine zw_iload (x := nI k) E 6 dX3_settles_196 rfl (pc' := 198) rfl ?_
      refine zw_lald (j := k) (x := g.2.1 1 k) E 19 2 rfl rfl (vp_in_nI hk (by decide)) (zw_clamp hk (by decide)) rfl dX3_settles_198 (pc' := 199) rfl ?_
      refine zw_aload_n (i := 0) (x := am 0) E 0 dX3_settles_199 rfl rfl (pc' := 200) rfl ?_
      refine zw_get (v := .ref (am 19)) E 0 21 iX3_settles_X3 fX3_settles_66 rfl rfl (by decide) rfl rfl dX3_settles_200 (pc' := 203) rfl ?_
      refine zw_iload (x := nI (gbest (g.2.1 1) k)) E 5 dX3_settles_203 rfl (pc' := 205) rfl ?_
      refine zw_lald (j := gbest (g.2.1 1) k) (x := g.2.1 1 (gbest (g.2.1 1) k)) E 19 2 rfl rfl (vp_in_nI hb (by decide)) (zw_clamp hb (by decide)) rfl dX3_settles_205 (pc' := 206) rfl ?_
      refine zw_lcmp E dX3_settles_206 (pc' := 207) rfl ?_
      refine zw_ifl_le (tgt := 214) E dX3_settles_207 (by decide) (pc' := 210) rfl (fun c_2 => ?_) (fun c_2 => ?_)
      · skip
        refine zw_iinc (x := nI k) (v := nI (k + 1)) (lv' := [(8, .int (nI (k + 1))), (0, .ref (am 0)), (1, .int (nI kn)), (2, .int (nI en)), (3, .long t), (5, .long L), (7, .int (nI (gbest (g.2.1 1) k)))]) E 6 dX3_settles_214 rfl (zw_inc1 k) (by decide) rfl (pc' := 217) rfl ?_
        refine zw_goto (tgt := 185) E dX3_settles_217 (by decide) ?_
        have e1 : gbest (g.2.1 1) (k + 1) = gbest (g.2.1 1) k := by rw [gbest, if_pos c_2]
        refine zw_sub [1, 2, 3, 4, 5, 6, 0] (lv' := [(0, .ref (am 0)), (1, .int (nI kn)), (2, .int (nI en)), (3, .long t), (5, .long L), (7, .int (nI (gbest (g.2.1 1) k))), (8, .int (nI (k + 1)))]) rfl ?_
        refine zw_as (lv' := [(0, .ref (am 0)), (1, .int (nI kn)), (2, .int (nI en)), (3, .long t), (5, .long L), (7, .int (nI (gbest (g.2.1 1) (k + 1)))), (8, .int (nI (k + 1)))]) (by rw [e1]) rfl rfl ?_
        exact ih (k + 1) (by omega) (by omega)
      · skip
        refine zw_iload (x := nI k) E 6 dX3_settles_210 rfl (pc' := 212) rfl ?_
        refine zw_istore (lv' := [(7, .int (nI k)), (0, .ref (am 0)), (1, .int (nI kn)), (2, .int (nI en)), (3, .long t), (5, .long L), (8, .int (nI k))]) E dX3_settles_212 (by decide) rfl (pc' := 214) rfl ?_
        refine zw_iinc (x := nI k) (v := nI (k + 1)) (lv' := [(8, .int (nI (k + 1))), (7, .int (nI k)), (0, .ref (am 0)), (1, .int (nI kn)), (2, .int (nI en)), (3, .long t), (5, .long L)]) E 6 dX3_settles_214 rfl (zw_inc1 k) (by decide) rfl (pc' := 217) rfl ?_
        refine zw_goto (tgt := 185) E dX3_settles_217 (by decide) ?_
        have e1 : gbest (g.2.1 1) (k + 1) = k := by rw [gbest, if_neg c_2]
        refine zw_sub [2, 3, 4, 5, 6, 1, 0] (lv' := [(0, .ref (am 0)), (1, .int (nI kn)), (2, .int (nI en)), (3, .long t), (5, .long L), (7, .int (nI k)), (8, .int (nI (k + 1)))]) rfl ?_
        refine zw_as (lv' := [(0, .ref (am 0)), (1, .int (nI kn)), (2, .int (nI en)), (3, .long t), (5, .long L), (7, .int (nI (gbest (g.2.1 1) (k + 1)))), (8, .int (nI (k + 1)))]) (by rw [e1]) rfl rfl ?_
        exact ih (k + 1) (by omega) (by omega)

set_option maxHeartbeats 4000000 in
set_option maxRecDepth 100000 in
theorem lX3_settlesC {l : Launch} {D : va_G} {K : Nat → ClassId} {p : Program} {e : Env} {s : State} {m : MethodId} {below : List Frame} {meth : Method} {c : Code} {A : Nat → Prop} {args : Array Value} (E : zw_E p s m args c cX3_settles 11 RX3 wsX3_settles D (zT K) A) (hr : meth.sig.returnType = none) (hlk : meth.locks = false) (am : Nat → Nat) (kn en : Nat) (hkn : kn ≤ 80) (hen : en < 80) (t : Int64) : ∀ (v : Nat) (g : Md) (L : Int64), L.toInt.toNat = v → av_ok g kn en → zw_W p l e rmX3_settles s m args below meth c 11 D A 0 0 (zw_Qv D A below args s (md_W K am (md_set (mch (mit g v) kn en 60) 1))) 172 [(0, .ref (am 0)), (1, .int (nI kn)), (2, .int (nI en)), (3, .long t), (5, .long L)] [] (md_W K am g) := by
  intro v
  induction v with
  | zero =>
    intro g L hL hok
    refine zw_lload (x := L) E 4 dX3_settles_172 rfl (pc' := 174) rfl ?_
    refine zw_lconst (v := 0) E dX3_settles_174 (by decide) (pc' := 175) rfl ?_
    refine zw_lcmp E dX3_settles_175 (pc' := 176) rfl ?_
    refine zw_ifl_le (tgt := 250) E dX3_settles_176 (by decide) (pc' := 179) rfl (fun c_1 => ?_) (fun c_1 => ?_)
    · skip
      refine zw_iconst (v := 0) E dX3_settles_250 (by decide) (pc' := 251) rfl ?_
      refine zw_istore (lv' := [(7, .int 0), (0, .ref (am 0)), (1, .int (nI kn)), (2, .int (nI en)), (3, .long t), (5, .long L)]) E dX3_settles_251 (by decide) rfl (pc' := 253) rfl ?_
      refine zw_sub [1, 2, 3, 4, 5, 0] (lv' := [(0, .ref (am 0)), (1, .int (nI kn)), (2, .int (nI en)), (3, .long t), (5, .long L), (7, .int 0)]) rfl ?_
      exact lX3_settlesD E hr hlk am g kn en hkn hen hok t L 61 0 (by omega) (by omega)
    · exact absurd (zw_L0 hL) c_1
  | succ v ih =>
    intro g L hL hok
    refine zw_lload (x := L) E 4 dX3_settles_172 rfl (pc' := 174) rfl ?_
    refine zw_lconst (v := 0) E dX3_settles_174 (by decide) (pc' := 175) rfl ?_
    refine zw_lcmp E dX3_settles_175 (pc' := 176) rfl ?_
    refine zw_ifl_le (tgt := 250) E dX3_settles_176 (by decide) (pc' := 179) rfl (fun c_1 => ?_) (fun c_1 => ?_)
    · exact absurd c_1 (zw_Lp hL)
    · skip
      refine zw_iconst (v := 0) E dX3_settles_179 (by decide) (pc' := 180) rfl ?_
      refine zw_istore (lv' := [(7, .int 0), (0, .ref (am 0)), (1, .int (nI kn)), (2, .int (nI en)), (3, .long t), (5, .long L)]) E dX3_settles_180 (by decide) rfl (pc' := 182) rfl ?_
      refine zw_iconst (v := 0) E dX3_settles_182 (by decide) (pc' := 183) rfl ?_
      refine zw_istore (lv' := [(8, .int 0), (7, .int 0), (0, .ref (am 0)), (1, .int (nI kn)), (2, .int (nI en)), (3, .long t), (5, .long L)]) E dX3_settles_183 (by decide) rfl (pc' := 185) rfl ?_
      refine zw_sub [2, 3, 4, 5, 6, 1, 0] (lv' := [(0, .ref (am 0)), (1, .int (nI kn)), (2, .int (nI en)), (3, .long t), (5, .long L), (7, .int 0), (8, .int 0)]) rfl ?_
      have hg : gbest (g.2.1 1) 60 < 60 := gbest_60 _
      refine lX3_settlesC2 E hr hlk am g kn en t L ?_ 61 0 (by omega) (by omega)
      refine zw_aload_n (i := 0) (x := am 0) E 0 dX3_settles_220 rfl rfl (pc' := 221) rfl ?_
      refine zw_get (v := .ref (am 18)) E 0 20 iX3_settles_X3 fX3_settles_62 rfl rfl (by decide) rfl rfl dX3_settles_221 (pc' := 224) rfl ?_
      refine zw_iload (x := nI (gbest (g.2.1 1) 60)) E 5 dX3_settles_224 rfl (pc' := 226) rfl ?_
      refine zw_dup2 E dX3_settles_226 rfl rfl (pc' := 227) rfl ?_
      refine zw_lald (j := gbest (g.2.1 1) 60) (x := g.2.1 0 (gbest (g.2.1 1) 60)) E 18 2 rfl rfl (vp_in_nI hg (by decide)) (zw_clamp hg (by decide)) rfl dX3_settles_227 (pc' := 228) rfl ?_
      refine zw_lconst (v := 1) E dX3_settles_228 (by decide) (pc' := 229) rfl ?_
      refine zw_ladd E dX3_settles_229 (pc' := 230) rfl ?_
      refine zw_last (j := gbest (g.2.1 1) 60) (ws' := (md_W K am (md_rowL g 0 (gbest (g.2.1 1) 60) ((g.2.1 0 (gbest (g.2.1 1) 60)) + 1)))) E 18 2 rfl rfl (vp_in_nI hg (by decide)) (zw_clamp hg (by decide)) rfl dX3_settles_230 (pc' := 231) rfl ?_
      refine zw_aload_n (i := 0) (x := am 0) E 0 dX3_settles_231 rfl rfl (pc' := 232) rfl ?_
      refine zw_get (v := .ref (am 19)) E 0 21 iX3_settles_X3 fX3_settles_66 rfl rfl (by decide) rfl rfl dX3_settles_232 (pc' := 235) rfl ?_
      refine zw_iload (x := nI (gbest (g.2.1 1) 60)) E 5 dX3_settles_235 rfl (pc' := 237) rfl ?_
      refine zw_ldc2 (v := (-1)) E dX3_settles_237 kX3_settles_104 (pc' := 240) rfl ?_
      refine zw_last (j := gbest (g.2.1 1) 60) (ws' := (md_W K am (md_rowL (md_rowL g 0 (gbest (g.2.1 1) 60) ((g.2.1 0 (gbest (g.2.1 1) 60)) + 1)) 1 (gbest (g.2.1 1) 60) (-1)))) E 19 2 rfl rfl (vp_in_nI hg (by decide)) (zw_clamp hg (by decide)) rfl dX3_settles_240 (pc' := 241) rfl ?_
      refine zw_lload (x := L) E 4 dX3_settles_241 rfl (pc' := 243) rfl ?_
      refine zw_lconst (v := 1) E dX3_settles_243 (by decide) (pc' := 244) rfl ?_
      refine zw_lsub E dX3_settles_244 (pc' := 245) rfl ?_
      refine zw_lstore (lv' := [(5, .long (L - 1)), (0, .ref (am 0)), (1, .int (nI kn)), (2, .int (nI en)), (3, .long t), (7, .int (nI (gbest (g.2.1 1) 60)))]) E dX3_settles_245 (by decide) rfl (pc' := 247) rfl ?_
      refine zw_goto (tgt := 172) E dX3_settles_247 (by decide) ?_
      refine zw_ws (ws' := md_W K am (mstep g)) rfl ?_
      refine zw_sub [1, 2, 3, 4, 0] (lv' := [(0, .ref (am 0)), (1, .int (nI kn)), (2, .int (nI en)), (3, .long t), (5, .long (L - 1))]) rfl ?_
      exact ih (mstep g) (L - 1) (zw_Ls hL) (av_ok_same (g := g) (show _ = g.1 from rfl) hok)

set_option maxHeartbeats 4000000 in
set_option maxRecDepth 100000 in
theorem lX3_settlesB {l : Launch} {D : va_G} {K : Nat → ClassId} {p : Program} {e : Env} {s : State} {m : MethodId} {below : List Frame} {meth : Method} {c : Code} {A : Nat → Prop} {args : Array Value} (E : zw_E p s m args c cX3_settles 11 RX3 wsX3_settles D (zT K) A) (hr : meth.sig.returnType = none) (hlk : meth.locks = false) (am : Nat → Nat) (g : Md) (kn en : Nat) (hkn : kn ≤ 80) (hen : en < 80) (hok : av_ok g kn en) (t : Int64) (htz : ¬ t = 0) : ∀ (fu k : Nat), k ≤ 60 → 60 + 1 ≤ k + fu → zw_W p l e rmX3_settles s m args below meth c 11 D A 0 0 (zw_Qv D A below args s (md_W K am (g_settle g kn en t))) 66 [(0, .ref (am 0)), (1, .int (nI kn)), (2, .int (nI en)), (3, .long t), (5, .long (mlf g en t k)), (7, .int (nI k))] [] (md_W K am (msB g en t k)) := by
  intro fu
  induction fu with
  | zero => intro k h1 h2; exact absurd h2 (by omega)
  | succ fu ih =>
    intro k hle hfu
    refine zw_iload (x := nI k) E 5 dX3_settles_66 rfl (pc' := 68) rfl ?_
    refine zw_bipush (v := 60) E dX3_settles_68 (by decide) (pc' := 70) rfl ?_
    refine zw_icmp_ge (tgt := 172) E dX3_settles_70 (by decide) (pc' := 73) rfl (fun c_1 => ?_) (fun c_1 => ?_)
    · skip
      have hk60 : k = 60 := zw_ge60 c_1 hle
      refine zw_sub [0, 1, 2, 3, 4] (lv' := [(0, .ref (am 0)), (1, .int (nI kn)), (2, .int (nI en)), (3, .long t), (5, .long (mlf g en t k))]) rfl ?_
      rw [hk60]
      exact lX3_settlesC E hr hlk am kn en hkn hen t _ (msB g en t 60) (mlf g en t 60) rfl (av_ok_same (g := g) (show _ = g.1 from rfl) hok)
    · skip
      have hk : k < 60 := zw_lt60 c_1 hle
      refine zw_aload_n (i := 0) (x := am 0) E 0 dX3_settles_73 rfl rfl (pc' := 74) rfl ?_
      refine zw_get (v := .ref (am 12)) E 0 13 iX3_settles_X3 fX3_settles_43 rfl rfl (by decide) rfl rfl dX3_settles_74 (pc' := 77) rfl ?_
      refine zw_iload (x := nI k) E 5 dX3_settles_77 rfl (pc' := 79) rfl ?_
      refine zw_zald (j := k) (x := (msB g en t k).1 11 k) E 12 1 rfl rfl (vp_in_nI hk (by decide)) (zw_clamp hk (by decide)) rfl dX3_settles_79 (pc' := 80) rfl ?_
      refine zw_topi (x' := g.1 11 k) rfl ?_
      refine zw_if_eq (tgt := 113) E dX3_settles_80 (by decide) (pc' := 83) rfl (fun c_2 => ?_) (fun c_2 => ?_)
      · skip
        have c80 := c_2
        have e8 : mnn g en k = 0 := by unfold mnn; rw [if_pos c80]
        have e7 : mrr g en t k = -1 := by unfold mrr; rw [if_pos c80]
        refine zw_lconst (v := 0) E dX3_settles_113 (by decide) (pc' := 114) rfl ?_
        refine zw_lstore (lv' := [(8, .long 0), (0, .ref (am 0)), (1, .int (nI kn)), (2, .int (nI en)), (3, .long t), (5, .long (mlf g en t k)), (7, .int (nI k))]) E dX3_settles_114 (by decide) rfl (pc' := 116) rfl ?_
        refine zw_aload_n (i := 0) (x := am 0) E 1 dX3_settles_116 rfl rfl (pc' := 117) rfl ?_
        refine zw_get (v := .ref (am 18)) E 0 20 iX3_settles_X3 fX3_settles_62 rfl rfl (by decide) rfl rfl dX3_settles_117 (pc' := 120) rfl ?_
        refine zw_iload (x := nI k) E 6 dX3_settles_120 rfl (pc' := 122) rfl ?_
        refine zw_lload (x := 0) E 0 dX3_settles_122 rfl (pc' := 124) rfl ?_
        refine zw_lload_n (i := 3) (x := t) E 4 dX3_settles_124 rfl rfl (pc' := 125) rfl ?_
        refine zw_ldiv E dX3_settles_125 htz (pc' := 126) rfl ?_
        refine zw_last (j := k) (ws' := (md_W K am (md_rowL (msB g en t k) 0 k (0 / t)))) E 18 2 rfl rfl (vp_in_nI hk (by decide)) (zw_clamp hk (by decide)) rfl dX3_settles_126 (pc' := 127) rfl ?_
        refine zw_aload_n (i := 0) (x := am 0) E 1 dX3_settles_127 rfl rfl (pc' := 128) rfl ?_
        refine zw_get (v := .ref (am 19)) E 0 21 iX3_settles_X3 fX3_settles_66 rfl rfl (by decide) rfl rfl dX3_settles_128 (pc' := 131) rfl ?_
        refine zw_iload (x := nI k) E 6 dX3_settles_131 rfl (pc' := 133) rfl ?_
        refine zw_aload_n (i := 0) (x := am 0) E 1 dX3_settles_133 rfl rfl (pc' := 134) rfl ?_
        refine zw_get (v := .ref (am 12)) E 0 13 iX3_settles_X3 fX3_settles_43 rfl rfl (by decide) rfl rfl dX3_settles_134 (pc' := 137) rfl ?_
        refine zw_iload (x := nI k) E 6 dX3_settles_137 rfl (pc' := 139) rfl ?_
        refine zw_zald (j := k) (x := (md_rowL (msB g en t k) 0 k (0 / t)).1 11 k) E 12 1 rfl rfl (vp_in_nI hk (by decide)) (zw_clamp hk (by decide)) rfl dX3_settles_139 (pc' := 140) rfl ?_
        refine zw_topi (x' := g.1 11 k) rfl ?_
        refine zw_if_eq (tgt := 150) E dX3_settles_140 (by decide) (pc' := 143) rfl (fun c_3 => ?_) (fun c_3 => ?_)
        · skip
          refine zw_ldc2 (v := (-1)) E dX3_settles_150 kX3_settles_104 (pc' := 153) rfl ?_
          refine zw_last (j := k) (ws' := (md_W K am (md_rowL (md_rowL (msB g en t k) 0 k (0 / t)) 1 k (-1)))) E 19 2 rfl rfl (vp_in_nI hk (by decide)) (zw_clamp hk (by decide)) rfl dX3_settles_153 (pc' := 154) rfl ?_
          refine zw_lload (x := mlf g en t k) E 5 dX3_settles_154 rfl (pc' := 156) rfl ?_
          refine zw_aload_n (i := 0) (x := am 0) E 1 dX3_settles_156 rfl rfl (pc' := 157) rfl ?_
          refine zw_get (v := .ref (am 18)) E 0 20 iX3_settles_X3 fX3_settles_62 rfl rfl (by decide) rfl rfl dX3_settles_157 (pc' := 160) rfl ?_
          refine zw_iload (x := nI k) E 6 dX3_settles_160 rfl (pc' := 162) rfl ?_
          refine zw_lald (j := k) (x := (md_rowL (md_rowL (msB g en t k) 0 k (0 / t)) 1 k (-1)).2.1 0 k) E 18 2 rfl rfl (vp_in_nI hk (by decide)) (zw_clamp hk (by decide)) rfl dX3_settles_162 (pc' := 163) rfl ?_
          refine zw_topl (x' := 0 / t) (md_rowL_same (msB g en t k) 0 k _) ?_
          refine zw_lsub E dX3_settles_163 (pc' := 164) rfl ?_
          refine zw_lstore (lv' := [(5, .long ((mlf g en t k) - (0 / t))), (8, .long 0), (0, .ref (am 0)), (1, .int (nI kn)), (2, .int (nI en)), (3, .long t), (7, .int (nI k))]) E dX3_settles_164 (by decide) rfl (pc' := 166) rfl ?_
          refine zw_iinc (x := nI k) (v := nI (k + 1)) (lv' := [(7, .int (nI (k + 1))), (5, .long ((mlf g en t k) - (0 / t))), (8, .long 0), (0, .ref (am 0)), (1, .int (nI kn)), (2, .int (nI en)), (3, .long t)]) E 6 dX3_settles_166 rfl (zw_inc1 k) (by decide) rfl (pc' := 169) rfl ?_
          refine zw_goto (tgt := 66) E dX3_settles_169 (by decide) ?_
          refine zw_ws (ws' := md_W K am (msB g en t (k + 1))) (congrArg (md_W K am) (by rw [← msB_succ, e8, e7])) ?_
          refine zw_sub [3, 4, 5, 6, 1, 0] (lv' := [(0, .ref (am 0)), (1, .int (nI kn)), (2, .int (nI en)), (3, .long t), (5, .long ((mlf g en t k) - (0 / t))), (7, .int (nI (k + 1)))]) rfl ?_
          refine zw_as (lv' := [(0, .ref (am 0)), (1, .int (nI kn)), (2, .int (nI en)), (3, .long t), (5, .long (mlf g en t (k + 1))), (7, .int (nI (k + 1)))]) (by rw [mlf, e8]) rfl rfl ?_
          exact ih (k + 1) (by omega) (by omega)
        · exact absurd c80 c_3
      · skip
        have c80 := c_2
        have e8 : mnn g en k = ((g.1 4 en).toInt64 * (g.1 12 k).toInt64) * (3 - g.1 13 k).toInt64 := by unfold mnn; rw [if_neg c80]
        have e7 : mrr g en t k = ((g.1 4 en).toInt64 * (g.1 12 k).toInt64) * (3 - g.1 13 k).toInt64 - ((g.1 4 en).toInt64 * (g.1 12 k).toInt64) * (3 - g.1 13 k).toInt64 / t * t := by unfold mrr; rw [if_neg c80, e8]
        refine zw_aload_n (i := 0) (x := am 0) E 0 dX3_settles_83 rfl rfl (pc' := 84) rfl ?_
        refine zw_get (v := .ref (am 5)) E 0 6 iX3_settles_X3 fX3_settles_22 rfl rfl (by decide) rfl rfl dX3_settles_84 (pc' := 87) rfl ?_
        refine zw_iload_n (i := 2) (x := nI en) E 2 dX3_settles_87 rfl rfl (pc' := 88) rfl ?_
        refine zw_iald (j := en) (x := (msB g en t k).1 4 en) E 5 0 rfl rfl (vp_in_nI hen (by decide)) (zw_clamp hen (by decide)) rfl dX3_settles_88 (pc' := 89) rfl ?_
        refine zw_topi (x' := g.1 4 en) rfl ?_
        refine zw_i2l E dX3_settles_89 (pc' := 90) rfl ?_
        refine zw_aload_n (i := 0) (x := am 0) E 0 dX3_settles_90 rfl rfl (pc' := 91) rfl ?_
        refine zw_get (v := .ref (am 13)) E 0 14 iX3_settles_X3 fX3_settles_47 rfl rfl (by decide) rfl rfl dX3_settles_91 (pc' := 94) rfl ?_
        refine zw_iload (x := nI k) E 5 dX3_settles_94 rfl (pc' := 96) rfl ?_
        refine zw_iald (j := k) (x := (msB g en t k).1 12 k) E 13 0 rfl rfl (vp_in_nI hk (by decide)) (zw_clamp hk (by decide)) rfl dX3_settles_96 (pc' := 97) rfl ?_
        refine zw_topi (x' := g.1 12 k) rfl ?_
        refine zw_i2l E dX3_settles_97 (pc' := 98) rfl ?_
        refine zw_lmul E dX3_settles_98 (pc' := 99) rfl ?_
        refine zw_iconst (v := 3) E dX3_settles_99 (by decide) (pc' := 100) rfl ?_
        refine zw_aload_n (i := 0) (x := am 0) E 0 dX3_settles_100 rfl rfl (pc' := 101) rfl ?_
        refine zw_get (v := .ref (am 14)) E 0 15 iX3_settles_X3 fX3_settles_50 rfl rfl (by decide) rfl rfl dX3_settles_101 (pc' := 104) rfl ?_
        refine zw_iload (x := nI k) E 5 dX3_settles_104 rfl (pc' := 106) rfl ?_
        refine zw_iald (j := k) (x := (msB g en t k).1 13 k) E 14 0 rfl rfl (vp_in_nI hk (by decide)) (zw_clamp hk (by decide)) rfl dX3_settles_106 (pc' := 107) rfl ?_
        refine zw_topi (x' := g.1 13 k) rfl ?_
        refine zw_isub E dX3_settles_107 (pc' := 108) rfl ?_
        refine zw_i2l E dX3_settles_108 (pc' := 109) rfl ?_
        refine zw_lmul E dX3_settles_109 (pc' := 110) rfl ?_
        refine zw_goto (tgt := 114) E dX3_settles_110 (by decide) ?_
        refine zw_lstore (lv' := [(8, .long ((((g.1 4 en).toInt64) * ((g.1 12 k).toInt64)) * ((3 - (g.1 13 k)).toInt64))), (0, .ref (am 0)), (1, .int (nI kn)), (2, .int (nI en)), (3, .long t), (5, .long (mlf g en t k)), (7, .int (nI k))]) E dX3_settles_114 (by decide) rfl (pc' := 116) rfl ?_
        refine zw_aload_n (i := 0) (x := am 0) E 1 dX3_settles_116 rfl rfl (pc' := 117) rfl ?_
        refine zw_get (v := .ref (am 18)) E 0 20 iX3_settles_X3 fX3_settles_62 rfl rfl (by decide) rfl rfl dX3_settles_117 (pc' := 120) rfl ?_
        refine zw_iload (x := nI k) E 6 dX3_settles_120 rfl (pc' := 122) rfl ?_
        refine zw_lload (x := (((g.1 4 en).toInt64) * ((g.1 12 k).toInt64)) * ((3 - (g.1 13 k)).toInt64)) E 0 dX3_settles_122 rfl (pc' := 124) rfl ?_
        refine zw_lload_n (i := 3) (x := t) E 4 dX3_settles_124 rfl rfl (pc' := 125) rfl ?_
        refine zw_ldiv E dX3_settles_125 htz (pc' := 126) rfl ?_
        refine zw_last (j := k) (ws' := (md_W K am (md_rowL (msB g en t k) 0 k (((((g.1 4 en).toInt64) * ((g.1 12 k).toInt64)) * ((3 - (g.1 13 k)).toInt64)) / t)))) E 18 2 rfl rfl (vp_in_nI hk (by decide)) (zw_clamp hk (by decide)) rfl dX3_settles_126 (pc' := 127) rfl ?_
        refine zw_aload_n (i := 0) (x := am 0) E 1 dX3_settles_127 rfl rfl (pc' := 128) rfl ?_
        refine zw_get (v := .ref (am 19)) E 0 21 iX3_settles_X3 fX3_settles_66 rfl rfl (by decide) rfl rfl dX3_settles_128 (pc' := 131) rfl ?_
        refine zw_iload (x := nI k) E 6 dX3_settles_131 rfl (pc' := 133) rfl ?_
        refine zw_aload_n (i := 0) (x := am 0) E 1 dX3_settles_133 rfl rfl (pc' := 134) rfl ?_
        refine zw_get (v := .ref (am 12)) E 0 13 iX3_settles_X3 fX3_settles_43 rfl rfl (by decide) rfl rfl dX3_settles_134 (pc' := 137) rfl ?_
        refine zw_iload (x := nI k) E 6 dX3_settles_137 rfl (pc' := 139) rfl ?_
        refine zw_zald (j := k) (x := (md_rowL (msB g en t k) 0 k (((((g.1 4 en).toInt64) * ((g.1 12 k).toInt64)) * ((3 - (g.1 13 k)).toInt64)) / t)).1 11 k) E 12 1 rfl rfl (vp_in_nI hk (by decide)) (zw_clamp hk (by decide)) rfl dX3_settles_139 (pc' := 140) rfl ?_
        refine zw_topi (x' := g.1 11 k) rfl ?_
        refine zw_if_eq (tgt := 150) E dX3_settles_140 (by decide) (pc' := 143) rfl (fun c_4 => ?_) (fun c_4 => ?_)
        · exact absurd c_4 c80
        · skip
          refine zw_lload (x := (((g.1 4 en).toInt64) * ((g.1 12 k).toInt64)) * ((3 - (g.1 13 k)).toInt64)) E 0 dX3_settles_143 rfl (pc' := 145) rfl ?_
          refine zw_lload_n (i := 3) (x := t) E 4 dX3_settles_145 rfl rfl (pc' := 146) rfl ?_
          refine zw_lrem E dX3_settles_146 htz (pc' := 147) rfl ?_
          refine zw_goto (tgt := 153) E dX3_settles_147 (by decide) ?_
          refine zw_last (j := k) (ws' := (md_W K am (md_rowL (md_rowL (msB g en t k) 0 k (((((g.1 4 en).toInt64) * ((g.1 12 k).toInt64)) * ((3 - (g.1 13 k)).toInt64)) / t)) 1 k (((((g.1 4 en).toInt64) * ((g.1 12 k).toInt64)) * ((3 - (g.1 13 k)).toInt64)) - ((((g.1 4 en).toInt64) * ((g.1 12 k).toInt64)) * ((3 - (g.1 13 k)).toInt64)) / t * t)))) E 19 2 rfl rfl (vp_in_nI hk (by decide)) (zw_clamp hk (by decide)) rfl dX3_settles_153 (pc' := 154) rfl ?_
          refine zw_lload (x := mlf g en t k) E 5 dX3_settles_154 rfl (pc' := 156) rfl ?_
          refine zw_aload_n (i := 0) (x := am 0) E 1 dX3_settles_156 rfl rfl (pc' := 157) rfl ?_
          refine zw_get (v := .ref (am 18)) E 0 20 iX3_settles_X3 fX3_settles_62 rfl rfl (by decide) rfl rfl dX3_settles_157 (pc' := 160) rfl ?_
          refine zw_iload (x := nI k) E 6 dX3_settles_160 rfl (pc' := 162) rfl ?_
          refine zw_lald (j := k) (x := (md_rowL (md_rowL (msB g en t k) 0 k (((((g.1 4 en).toInt64) * ((g.1 12 k).toInt64)) * ((3 - (g.1 13 k)).toInt64)) / t)) 1 k (((((g.1 4 en).toInt64) * ((g.1 12 k).toInt64)) * ((3 - (g.1 13 k)).toInt64)) - ((((g.1 4 en).toInt64) * ((g.1 12 k).toInt64)) * ((3 - (g.1 13 k)).toInt64)) / t * t)).2.1 0 k) E 18 2 rfl rfl (vp_in_nI hk (by decide)) (zw_clamp hk (by decide)) rfl dX3_settles_162 (pc' := 163) rfl ?_
          refine zw_topl (x' := (((g.1 4 en).toInt64 * (g.1 12 k).toInt64) * (3 - g.1 13 k).toInt64) / t) (md_rowL_same (msB g en t k) 0 k _) ?_
          refine zw_lsub E dX3_settles_163 (pc' := 164) rfl ?_
          refine zw_lstore (lv' := [(5, .long ((mlf g en t k) - ((((g.1 4 en).toInt64 * (g.1 12 k).toInt64) * (3 - g.1 13 k).toInt64) / t))), (8, .long ((((g.1 4 en).toInt64) * ((g.1 12 k).toInt64)) * ((3 - (g.1 13 k)).toInt64))), (0, .ref (am 0)), (1, .int (nI kn)), (2, .int (nI en)), (3, .long t), (7, .int (nI k))]) E dX3_settles_164 (by decide) rfl (pc' := 166) rfl ?_
          refine zw_iinc (x := nI k) (v := nI (k + 1)) (lv' := [(7, .int (nI (k + 1))), (5, .long ((mlf g en t k) - ((((g.1 4 en).toInt64 * (g.1 12 k).toInt64) * (3 - g.1 13 k).toInt64) / t))), (8, .long ((((g.1 4 en).toInt64) * ((g.1 12 k).toInt64)) * ((3 - (g.1 13 k)).toInt64))), (0, .ref (am 0)), (1, .int (nI kn)), (2, .int (nI en)), (3, .long t)]) E 6 dX3_settles_166 rfl (zw_inc1 k) (by decide) rfl (pc' := 169) rfl ?_
          refine zw_goto (tgt := 66) E dX3_settles_169 (by decide) ?_
          refine zw_ws (ws' := md_W K am (msB g en t (k + 1))) (congrArg (md_W K am) (by rw [← msB_succ, e8, e7])) ?_
          refine zw_sub [3, 4, 5, 6, 1, 0] (lv' := [(0, .ref (am 0)), (1, .int (nI kn)), (2, .int (nI en)), (3, .long t), (5, .long ((mlf g en t k) - ((((g.1 4 en).toInt64 * (g.1 12 k).toInt64) * (3 - g.1 13 k).toInt64) / t))), (7, .int (nI (k + 1)))]) rfl ?_
          refine zw_as (lv' := [(0, .ref (am 0)), (1, .int (nI kn)), (2, .int (nI en)), (3, .long t), (5, .long (mlf g en t (k + 1))), (7, .int (nI (k + 1)))]) (by rw [mlf, e8]) rfl rfl ?_
          exact ih (k + 1) (by omega) (by omega)

set_option maxHeartbeats 4000000 in
set_option maxRecDepth 100000 in
theorem lX3_settlesA {l : Launch} {D : va_G} {K : Nat → ClassId} {p : Program} {e : Env} {s : State} {m : MethodId} {below : List Frame} {meth : Method} {c : Code} {A : Nat → Prop} {args : Array Value} (E : zw_E p s m args c cX3_settles 11 RX3 wsX3_settles D (zT K) A) (hr : meth.sig.returnType = none) (hlk : meth.locks = false) (am : Nat → Nat) (g : Md) (kn en : Nat) (hkn : kn ≤ 80) (hen : en < 80) (hok : av_ok g kn en) (htz : ¬ mws g 60 = 0) : ∀ (fu k : Nat), k ≤ 60 → 60 + 1 ≤ k + fu → zw_W p l e rmX3_settles s m args below meth c 11 D A 0 0 (zw_Qv D A below args s (md_W K am (g_settle g kn en (mws g 60)))) 5 [(0, .ref (am 0)), (1, .int (nI kn)), (2, .int (nI en)), (3, .long (mws g k)), (5, .int (nI k))] [] (md_W K am g) := by
  intro fu
  induction fu with
  | zero => intro k h1 h2; exact absurd h2 (by omega)
  | succ fu ih =>
    intro k hle hfu
    refine zw_iload (x := nI k) E 4 dX3_settles_5 rfl (pc' := 7) rfl ?_
    refine zw_bipush (v := 60) E dX3_settles_7 (by decide) (pc' := 9) rfl ?_
    refine zw_icmp_ge (tgt := 54) E dX3_settles_9 (by decide) (pc' := 12) rfl (fun c_1 => ?_) (fun c_1 => ?_)
    · skip
      have hk60 : k = 60 := zw_ge60 c_1 hle
      refine zw_aload_n (i := 0) (x := am 0) E 0 dX3_settles_54 rfl rfl (pc' := 55) rfl ?_
      refine zw_get (v := .ref (am 5)) E 0 6 iX3_settles_X3 fX3_settles_22 rfl rfl (by decide) rfl rfl dX3_settles_55 (pc' := 58) rfl ?_
      refine zw_iload_n (i := 2) (x := nI en) E 2 dX3_settles_58 rfl rfl (pc' := 59) rfl ?_
      refine zw_iald (j := en) (x := g.1 4 en) E 5 0 rfl rfl (vp_in_nI hen (by decide)) (zw_clamp hen (by decide)) rfl dX3_settles_59 (pc' := 60) rfl ?_
      refine zw_i2l E dX3_settles_60 (pc' := 61) rfl ?_
      refine zw_lstore (lv' := [(5, .long ((g.1 4 en).toInt64)), (0, .ref (am 0)), (1, .int (nI kn)), (2, .int (nI en)), (3, .long (mws g k))]) E dX3_settles_61 (by decide) rfl (pc' := 63) rfl ?_
      refine zw_iconst (v := 0) E dX3_settles_63 (by decide) (pc' := 64) rfl ?_
      refine zw_istore (lv' := [(7, .int 0), (5, .long ((g.1 4 en).toInt64)), (0, .ref (am 0)), (1, .int (nI kn)), (2, .int (nI en)), (3, .long (mws g k))]) E dX3_settles_64 (by decide) rfl (pc' := 66) rfl ?_
      refine zw_ws (ws' := md_W K am (msB g en (mws g 60) 0)) (congrArg (md_W K am) (msB_0 g en _).symm) ?_
      rw [hk60]
      refine zw_sub [2, 3, 4, 5, 1, 0] (lv' := [(0, .ref (am 0)), (1, .int (nI kn)), (2, .int (nI en)), (3, .long (mws g 60)), (5, .long ((g.1 4 en).toInt64)), (7, .int 0)]) rfl ?_
      exact lX3_settlesB E hr hlk am g kn en hkn hen hok (mws g 60) htz 61 0 (by omega) (by omega)
    · skip
      have hk : k < 60 := zw_lt60 c_1 hle
      refine zw_lload_n (i := 3) (x := mws g k) E 3 dX3_settles_12 rfl rfl (pc' := 13) rfl ?_
      refine zw_aload_n (i := 0) (x := am 0) E 0 dX3_settles_13 rfl rfl (pc' := 14) rfl ?_
      refine zw_get (v := .ref (am 12)) E 0 13 iX3_settles_X3 fX3_settles_43 rfl rfl (by decide) rfl rfl dX3_settles_14 (pc' := 17) rfl ?_
      refine zw_iload (x := nI k) E 4 dX3_settles_17 rfl (pc' := 19) rfl ?_
      refine zw_zald (j := k) (x := g.1 11 k) E 12 1 rfl rfl (vp_in_nI hk (by decide)) (zw_clamp hk (by decide)) rfl dX3_settles_19 (pc' := 20) rfl ?_
      refine zw_if_eq (tgt := 45) E dX3_settles_20 (by decide) (pc' := 23) rfl (fun c_2 => ?_) (fun c_2 => ?_)
      · skip
        refine zw_lconst (v := 0) E dX3_settles_45 (by decide) (pc' := 46) rfl ?_
        refine zw_ladd E dX3_settles_46 (pc' := 47) rfl ?_
        refine zw_lstore_n (lv' := [(3, .long ((mws g k) + 0)), (0, .ref (am 0)), (1, .int (nI kn)), (2, .int (nI en)), (5, .int (nI k))]) E dX3_settles_47 rfl (by decide) rfl (pc' := 48) rfl ?_
        refine zw_iinc (x := nI k) (v := nI (k + 1)) (lv' := [(5, .int (nI (k + 1))), (3, .long ((mws g k) + 0)), (0, .ref (am 0)), (1, .int (nI kn)), (2, .int (nI en))]) E 4 dX3_settles_48 rfl (zw_inc1 k) (by decide) rfl (pc' := 51) rfl ?_
        refine zw_goto (tgt := 5) E dX3_settles_51 (by decide) ?_
        have e1 : mwt g k = 0 := by unfold mwt; rw [if_pos c_2]
        refine zw_sub [2, 3, 4, 1, 0] (lv' := [(0, .ref (am 0)), (1, .int (nI kn)), (2, .int (nI en)), (3, .long ((mws g k) + 0)), (5, .int (nI (k + 1)))]) rfl ?_
        refine zw_as (lv' := [(0, .ref (am 0)), (1, .int (nI kn)), (2, .int (nI en)), (3, .long (mws g (k + 1))), (5, .int (nI (k + 1)))]) (by rw [mws, e1]) rfl rfl ?_
        exact ih (k + 1) (by omega) (by omega)
      · skip
        refine zw_aload_n (i := 0) (x := am 0) E 0 dX3_settles_23 rfl rfl (pc' := 24) rfl ?_
        refine zw_get (v := .ref (am 13)) E 0 14 iX3_settles_X3 fX3_settles_47 rfl rfl (by decide) rfl rfl dX3_settles_24 (pc' := 27) rfl ?_
        refine zw_iload (x := nI k) E 4 dX3_settles_27 rfl (pc' := 29) rfl ?_
        refine zw_iald (j := k) (x := g.1 12 k) E 13 0 rfl rfl (vp_in_nI hk (by decide)) (zw_clamp hk (by decide)) rfl dX3_settles_29 (pc' := 30) rfl ?_
        refine zw_i2l E dX3_settles_30 (pc' := 31) rfl ?_
        refine zw_iconst (v := 3) E dX3_settles_31 (by decide) (pc' := 32) rfl ?_
        refine zw_aload_n (i := 0) (x := am 0) E 0 dX3_settles_32 rfl rfl (pc' := 33) rfl ?_
        refine zw_get (v := .ref (am 14)) E 0 15 iX3_settles_X3 fX3_settles_50 rfl rfl (by decide) rfl rfl dX3_settles_33 (pc' := 36) rfl ?_
        refine zw_iload (x := nI k) E 4 dX3_settles_36 rfl (pc' := 38) rfl ?_
        refine zw_iald (j := k) (x := g.1 13 k) E 14 0 rfl rfl (vp_in_nI hk (by decide)) (zw_clamp hk (by decide)) rfl dX3_settles_38 (pc' := 39) rfl ?_
        refine zw_isub E dX3_settles_39 (pc' := 40) rfl ?_
        refine zw_i2l E dX3_settles_40 (pc' := 41) rfl ?_
        refine zw_lmul E dX3_settles_41 (pc' := 42) rfl ?_
        refine zw_goto (tgt := 46) E dX3_settles_42 (by decide) ?_
        refine zw_ladd E dX3_settles_46 (pc' := 47) rfl ?_
        refine zw_lstore_n (lv' := [(3, .long ((mws g k) + (((g.1 12 k).toInt64) * ((3 - (g.1 13 k)).toInt64)))), (0, .ref (am 0)), (1, .int (nI kn)), (2, .int (nI en)), (5, .int (nI k))]) E dX3_settles_47 rfl (by decide) rfl (pc' := 48) rfl ?_
        refine zw_iinc (x := nI k) (v := nI (k + 1)) (lv' := [(5, .int (nI (k + 1))), (3, .long ((mws g k) + (((g.1 12 k).toInt64) * ((3 - (g.1 13 k)).toInt64)))), (0, .ref (am 0)), (1, .int (nI kn)), (2, .int (nI en))]) E 4 dX3_settles_48 rfl (zw_inc1 k) (by decide) rfl (pc' := 51) rfl ?_
        refine zw_goto (tgt := 5) E dX3_settles_51 (by decide) ?_
        have e1 : mwt g k = (g.1 12 k).toInt64 * (3 - g.1 13 k).toInt64 := by unfold mwt; rw [if_neg c_2]
        refine zw_sub [2, 3, 4, 1, 0] (lv' := [(0, .ref (am 0)), (1, .int (nI kn)), (2, .int (nI en)), (3, .long ((mws g k) + (((g.1 12 k).toInt64) * ((3 - (g.1 13 k)).toInt64)))), (5, .int (nI (k + 1)))]) rfl ?_
        refine zw_as (lv' := [(0, .ref (am 0)), (1, .int (nI kn)), (2, .int (nI en)), (3, .long (mws g (k + 1))), (5, .int (nI (k + 1)))]) (by rw [mws, e1]) rfl rfl ?_
        exact ih (k + 1) (by omega) (by omega)

set_option maxHeartbeats 4000000 in
set_option maxRecDepth 100000 in
/-- settles(k, e) -/
theorem qX3_settles (l : Launch) (D : va_G) (K : Nat → ClassId) (am : Nat → Nat) (g : Md) (kn en : Nat) (hkn : kn ≤ 80) (hen : en < 80) (hok : av_ok g kn en) (htz : ¬ mws g 60 = 0) : zw_V l yX3_settles wsX3_settles rmX3_settles D (zT K) [.ref (am 0), .int (nI kn), .int (nI en)] (md_W K am g) (md_W K am (g_settle g kn en (mws g 60))) := by
  refine zw_ofV (cc := cX3_settles) (nL := 11) (ret := none) (own := RX3) (lv := [(0, .ref (am 0)), (1, .int (nI kn)), (2, .int (nI en))]) (by decide) rfl (Nat.le_of_ble_eq_true rfl) rfl rfl ?_
  intro p e s m below meth c A E hr hlk
  refine zw_lconst (v := 0) E dX3_settles_0 (by decide) (pc' := 1) rfl ?_
  refine zw_lstore_n (lv' := [(3, .long 0), (0, .ref (am 0)), (1, .int (nI kn)), (2, .int (nI en))]) E dX3_settles_1 rfl (by decide) rfl (pc' := 2) rfl ?_
  refine zw_iconst (v := 0) E dX3_settles_2 (by decide) (pc' := 3) rfl ?_
  refine zw_istore (lv' := [(5, .int 0), (3, .long 0), (0, .ref (am 0)), (1, .int (nI kn)), (2, .int (nI en))]) E dX3_settles_3 (by decide) rfl (pc' := 5) rfl ?_
  refine zw_sub [2, 3, 4, 1, 0] (lv' := [(0, .ref (am 0)), (1, .int (nI kn)), (2, .int (nI en)), (3, .long 0), (5, .int 0)]) rfl ?_
  exact lX3_settlesA E hr hlk am g kn en hkn hen hok htz 61 0 (by omega) (by omega)
