/-! the reference: fits -/
def m_some (g : Md) : Nat → Int32
  | 0 => 0
  | k + 1 => if m_some g k = 0 then if g.1 11 k = 0 then 0 else 1 else 1
def m_fset (g : Md) (n en : Nat) : Int32 := if m_some g 60 = 0 then 0 else if m_avg g n (g.1 1 en) 0 = -1 then 0 else if m_avg g n (g.1 1 en) 1 = -1 then 0 else if m_avg g n (g.1 1 en) 2 = -1 then 0 else if g.2.2.2 = 0 then 1 else 0
def m_fpart (g : Md) (en : Nat) : Int32 := if m_is g (g.1 2 en) then if g.1 12 (g.1 2 en).toNatClampNeg ≤ g.1 4 en then 0 else 1 else 0
def m_fjoin (g : Md) (en : Nat) : Int32 := if m_is g (g.1 2 en) then if m_is g (g.1 3 en) then if g.1 2 en = g.1 3 en then 0 else if g.1 13 (g.1 2 en).toNatClampNeg = g.1 13 (g.1 3 en).toNatClampNeg then if g.1 14 (g.1 2 en).toNatClampNeg = g.1 14 (g.1 3 en).toNatClampNeg then if g.1 16 (g.1 2 en).toNatClampNeg = g.1 16 (g.1 3 en).toNatClampNeg then 1 else 0 else 0 else 0 else 0 else 0
def m_fsell (g : Md) (en : Nat) : Int32 := if m_is g (g.1 2 en) then if g.1 14 (g.1 2 en).toNatClampNeg = g.1 4 en then 0 else 1 else 0
def m_fbuy (g : Md) (en : Nat) : Int32 := if m_is g (g.1 2 en) then if g.2.2.2 = 0 then 0 else if g.1 16 (g.1 2 en).toNatClampNeg = 0 then 1 else 0 else 0
def m_fits (g : Md) (n en : Nat) : Int32 := if g.1 0 en = 1 then 1 else if g.1 0 en = 2 then m_fpart g en else if g.1 0 en = 3 then m_fjoin g en else if g.1 0 en = 4 then m_fsell g en else if g.1 0 en = 5 then m_fset g n en else if g.1 0 en = 6 then m_fbuy g en else m_fset g n en
theorem fX3_fits_110 : Cond.fieldLink RX3 110 "TitheMapModel" "isSettled" "Z" ∈ wsX3_fits := by decide +kernel
theorem fX3_fits_13 : Cond.fieldLink RX3 13 "TitheMapModel" "year" "[I" ∈ wsX3_fits := by decide +kernel
theorem fX3_fits_16 : Cond.fieldLink RX3 16 "TitheMapModel" "one" "[I" ∈ wsX3_fits := by decide +kernel
theorem fX3_fits_19 : Cond.fieldLink RX3 19 "TitheMapModel" "two" "[I" ∈ wsX3_fits := by decide +kernel
theorem fX3_fits_22 : Cond.fieldLink RX3 22 "TitheMapModel" "more" "[I" ∈ wsX3_fits := by decide +kernel
theorem fX3_fits_43 : Cond.fieldLink RX3 43 "TitheMapModel" "isThere" "[Z" ∈ wsX3_fits := by decide +kernel
theorem fX3_fits_47 : Cond.fieldLink RX3 47 "TitheMapModel" "area" "[I" ∈ wsX3_fits := by decide +kernel
theorem fX3_fits_50 : Cond.fieldLink RX3 50 "TitheMapModel" "kind" "[I" ∈ wsX3_fits := by decide +kernel
theorem fX3_fits_53 : Cond.fieldLink RX3 53 "TitheMapModel" "owner" "[I" ∈ wsX3_fits := by decide +kernel
theorem fX3_fits_59 : Cond.fieldLink RX3 59 "TitheMapModel" "isBought" "[Z" ∈ wsX3_fits := by decide +kernel
theorem fX3_fits_7 : Cond.fieldLink RX3 7 "TitheMapModel" "sort" "[I" ∈ wsX3_fits := by decide +kernel
theorem iX3_fits_X3 : ∀ w ∈ wsX30, w ∈ wsX3_fits := by decide +kernel
set_option maxHeartbeats 4000000 in
set_option maxRecDepth 100000 in
theorem lX3_fits {l : Launch} {D : va_G} {K : Nat → ClassId} {p : Program} {e : Env} {s : State} {m : MethodId} {below : List Frame} {meth : Method} {c : Code} {A : Nat → Prop} {args : Array Value} (E : zw_E p s m args c cX3_fits 7 RX3 wsX3_fits D (zT K) A) (hr : meth.sig.returnType = (some .boolean)) (hlk : meth.locks = false) (am : Nat → Nat) (g : Md) (n en : Nat) (hn : n ≤ 80) (hm : en < 80) (hy : 1 ≤ g.1 1 en ∧ g.1 1 en ≤ 200) : ∀ (fu k : Nat), k ≤ 60 → 60 + 1 ≤ k + fu → zw_W p l e rmX3_fits s m args below meth c 7 D A 0 0 (zw_Qi D A below args s (m_fset g n en) (md_W K am g)) 234 [(0, .ref (am 0)), (1, .int (nI n)), (2, .int (nI en)), (3, .int (g.1 2 en)), (4, .int (g.1 3 en)), (5, .int (m_some g k)), (6, .int (nI k))] [] (md_W K am g) := by
  intro fu
  induction fu with
  | zero => intro k h1 h2; exact absurd h2 (by omega)
  | succ fu ih =>
    intro k hle hfu
    refine zw_iload (x := nI k) E 6 dX3_fits_234 rfl (pc' := 236) rfl ?_
    refine zw_bipush (v := 60) E dX3_fits_236 (by decide) (pc' := 238) rfl ?_
    refine zw_icmp_ge (tgt := 269) E dX3_fits_238 (by decide) (pc' := 241) rfl (fun c_1 => ?_) (fun c_1 => ?_)
    · skip
      have hk60 : k = 60 := zw_ge60 c_1 hle
      refine zw_iconst (v := 0) E dX3_fits_269 (by decide) (pc' := 270) rfl ?_
      refine zw_istore (lv' := [(6, .int 0), (0, .ref (am 0)), (1, .int (nI n)), (2, .int (nI en)), (3, .int (g.1 2 en)), (4, .int (g.1 3 en)), (5, .int (m_some g k))]) E dX3_fits_270 (by decide) rfl (pc' := 272) rfl ?_
      refine zw_iload (x := 0) E 0 dX3_fits_272 rfl (pc' := 274) rfl ?_
      refine zw_iconst (v := 3) E dX3_fits_274 (by decide) (pc' := 275) rfl ?_
      refine zw_icmp_ge (tgt := 313) E dX3_fits_275 (by decide) (pc' := 278) rfl (fun c9 => absurd c9 (by decide)) (fun _ => ?_)
      refine zw_iload (x := m_some g k) E 6 dX3_fits_278 rfl (pc' := 280) rfl ?_
      refine zw_if_eq (tgt := 304) E dX3_fits_280 (by decide) (pc' := 283) rfl (fun c_2 => ?_) (fun c_2 => ?_)
      · skip
        refine zw_iconst (v := 0) E dX3_fits_304 (by decide) (pc' := 305) rfl ?_
        refine zw_istore (lv' := [(5, .int 0), (6, .int 0), (0, .ref (am 0)), (1, .int (nI n)), (2, .int (nI en)), (3, .int (g.1 2 en)), (4, .int (g.1 3 en))]) E dX3_fits_305 (by decide) rfl (pc' := 307) rfl ?_
        refine zw_iinc (x := 0) (v := 1) (lv' := [(6, .int 1), (5, .int 0), (0, .ref (am 0)), (1, .int (nI n)), (2, .int (nI en)), (3, .int (g.1 2 en)), (4, .int (g.1 3 en))]) E 1 dX3_fits_307 rfl (by decide) (by decide) rfl (pc' := 310) rfl ?_
        refine zw_goto (tgt := 272) E dX3_fits_310 (by decide) ?_
        refine zw_iload (x := 1) E 0 dX3_fits_272 rfl (pc' := 274) rfl ?_
        refine zw_iconst (v := 3) E dX3_fits_274 (by decide) (pc' := 275) rfl ?_
        refine zw_icmp_ge (tgt := 313) E dX3_fits_275 (by decide) (pc' := 278) rfl (fun c9 => absurd c9 (by decide)) (fun _ => ?_)
        refine zw_iload (x := 0) E 1 dX3_fits_278 rfl (pc' := 280) rfl ?_
        refine zw_if_eq (tgt := 304) E dX3_fits_280 (by decide) (pc' := 283) rfl (fun _ => ?_) (fun c9 => absurd (by decide) c9)
        refine zw_iconst (v := 0) E dX3_fits_304 (by decide) (pc' := 305) rfl ?_
        refine zw_istore (lv' := [(5, .int 0), (6, .int 1), (0, .ref (am 0)), (1, .int (nI n)), (2, .int (nI en)), (3, .int (g.1 2 en)), (4, .int (g.1 3 en))]) E dX3_fits_305 (by decide) rfl (pc' := 307) rfl ?_
        refine zw_iinc (x := 1) (v := 2) (lv' := [(6, .int 2), (5, .int 0), (0, .ref (am 0)), (1, .int (nI n)), (2, .int (nI en)), (3, .int (g.1 2 en)), (4, .int (g.1 3 en))]) E 1 dX3_fits_307 rfl (by decide) (by decide) rfl (pc' := 310) rfl ?_
        refine zw_goto (tgt := 272) E dX3_fits_310 (by decide) ?_
        refine zw_iload (x := 2) E 0 dX3_fits_272 rfl (pc' := 274) rfl ?_
        refine zw_iconst (v := 3) E dX3_fits_274 (by decide) (pc' := 275) rfl ?_
        refine zw_icmp_ge (tgt := 313) E dX3_fits_275 (by decide) (pc' := 278) rfl (fun c9 => absurd c9 (by decide)) (fun _ => ?_)
        refine zw_iload (x := 0) E 1 dX3_fits_278 rfl (pc' := 280) rfl ?_
        refine zw_if_eq (tgt := 304) E dX3_fits_280 (by decide) (pc' := 283) rfl (fun _ => ?_) (fun c9 => absurd (by decide) c9)
        refine zw_iconst (v := 0) E dX3_fits_304 (by decide) (pc' := 305) rfl ?_
        refine zw_istore (lv' := [(5, .int 0), (6, .int 2), (0, .ref (am 0)), (1, .int (nI n)), (2, .int (nI en)), (3, .int (g.1 2 en)), (4, .int (g.1 3 en))]) E dX3_fits_305 (by decide) rfl (pc' := 307) rfl ?_
        refine zw_iinc (x := 2) (v := 3) (lv' := [(6, .int 3), (5, .int 0), (0, .ref (am 0)), (1, .int (nI n)), (2, .int (nI en)), (3, .int (g.1 2 en)), (4, .int (g.1 3 en))]) E 1 dX3_fits_307 rfl (by decide) (by decide) rfl (pc' := 310) rfl ?_
        refine zw_goto (tgt := 272) E dX3_fits_310 (by decide) ?_
        refine zw_iload (x := 3) E 0 dX3_fits_272 rfl (pc' := 274) rfl ?_
        refine zw_iconst (v := 3) E dX3_fits_274 (by decide) (pc' := 275) rfl ?_
        refine zw_icmp_ge (tgt := 313) E dX3_fits_275 (by decide) (pc' := 278) rfl (fun _ => ?_) (fun c9 => absurd (by decide) c9)
        refine zw_iload (x := 0) E 1 dX3_fits_313 rfl (pc' := 315) rfl ?_
        refine zw_if_eq (tgt := 329) E dX3_fits_315 (by decide) (pc' := 318) rfl (fun _ => ?_) (fun c9 => absurd (by decide) c9)
        refine zw_iconst (v := 0) E dX3_fits_329 (by decide) (pc' := 330) rfl ?_
        exact zw_zret E hr hlk dX3_fits_330 rfl (by unfold m_fset; rw [← hk60, if_pos c_2]) rfl
      · skip
        refine zw_aload_n (i := 0) (x := am 0) E 1 dX3_fits_283 rfl rfl (pc' := 284) rfl ?_
        refine zw_iload_n (i := 1) (x := nI n) E 2 dX3_fits_284 rfl rfl (pc' := 285) rfl ?_
        refine zw_aload_n (i := 0) (x := am 0) E 1 dX3_fits_285 rfl rfl (pc' := 286) rfl ?_
        refine zw_get (v := .ref (am 2)) E 0 3 iX3_fits_X3 fX3_fits_13 rfl rfl (by decide) rfl rfl dX3_fits_286 (pc' := 289) rfl ?_
        refine zw_iload_n (i := 2) (x := nI en) E 3 dX3_fits_289 rfl rfl (pc' := 290) rfl ?_
        refine zw_iald (j := en) (x := g.1 1 en) E 2 0 rfl rfl (vp_in_nI hm (by decide)) (zw_clamp hm (by decide)) rfl dX3_fits_290 (pc' := 291) rfl ?_
        refine zw_iload (x := 0) E 0 dX3_fits_291 rfl (pc' := 293) rfl ?_
        refine zw_callIw E (r := m_avg g n (g.1 1 en) 0) (As := [.int (nI n), .int (g.1 1 en), .int 0]) (rest := []) (ws' := (md_W K am g)) (qX3_averageOf l D K am g n hn (g.1 1 en) 0 hy) (cwV 3 E.2.2.2.2.1 gX3_fits_X3_averageOf rfl rfl rfl (by decide +kernel) ⟨Nat.le_of_ble_eq_true rfl, Nat.le_of_ble_eq_true rfl⟩) 0 rfl rfl rfl rfl rfl rfl (Nat.le_of_ble_eq_true rfl) ⟨Nat.zero_le _, Nat.zero_le _⟩ dX3_fits_293 (pc' := 296) rfl ?_
        refine zw_iconst (v := (-1)) E dX3_fits_296 (by decide) (pc' := 297) rfl ?_
        refine zw_icmp_eq (tgt := 304) E dX3_fits_297 (by decide) (pc' := 300) rfl (fun c_3 => ?_) (fun c_3 => ?_)
        · skip
          refine zw_iconst (v := 0) E dX3_fits_304 (by decide) (pc' := 305) rfl ?_
          refine zw_istore (lv' := [(5, .int 0), (6, .int 0), (0, .ref (am 0)), (1, .int (nI n)), (2, .int (nI en)), (3, .int (g.1 2 en)), (4, .int (g.1 3 en))]) E dX3_fits_305 (by decide) rfl (pc' := 307) rfl ?_
          refine zw_iinc (x := 0) (v := 1) (lv' := [(6, .int 1), (5, .int 0), (0, .ref (am 0)), (1, .int (nI n)), (2, .int (nI en)), (3, .int (g.1 2 en)), (4, .int (g.1 3 en))]) E 1 dX3_fits_307 rfl (by decide) (by decide) rfl (pc' := 310) rfl ?_
          refine zw_goto (tgt := 272) E dX3_fits_310 (by decide) ?_
          refine zw_iload (x := 1) E 0 dX3_fits_272 rfl (pc' := 274) rfl ?_
          refine zw_iconst (v := 3) E dX3_fits_274 (by decide) (pc' := 275) rfl ?_
          refine zw_icmp_ge (tgt := 313) E dX3_fits_275 (by decide) (pc' := 278) rfl (fun c9 => absurd c9 (by decide)) (fun _ => ?_)
          refine zw_iload (x := 0) E 1 dX3_fits_278 rfl (pc' := 280) rfl ?_
          refine zw_if_eq (tgt := 304) E dX3_fits_280 (by decide) (pc' := 283) rfl (fun _ => ?_) (fun c9 => absurd (by decide) c9)
          refine zw_iconst (v := 0) E dX3_fits_304 (by decide) (pc' := 305) rfl ?_
          refine zw_istore (lv' := [(5, .int 0), (6, .int 1), (0, .ref (am 0)), (1, .int (nI n)), (2, .int (nI en)), (3, .int (g.1 2 en)), (4, .int (g.1 3 en))]) E dX3_fits_305 (by decide) rfl (pc' := 307) rfl ?_
          refine zw_iinc (x := 1) (v := 2) (lv' := [(6, .int 2), (5, .int 0), (0, .ref (am 0)), (1, .int (nI n)), (2, .int (nI en)), (3, .int (g.1 2 en)), (4, .int (g.1 3 en))]) E 1 dX3_fits_307 rfl (by decide) (by decide) rfl (pc' := 310) rfl ?_
          refine zw_goto (tgt := 272) E dX3_fits_310 (by decide) ?_
          refine zw_iload (x := 2) E 0 dX3_fits_272 rfl (pc' := 274) rfl ?_
          refine zw_iconst (v := 3) E dX3_fits_274 (by decide) (pc' := 275) rfl ?_
          refine zw_icmp_ge (tgt := 313) E dX3_fits_275 (by decide) (pc' := 278) rfl (fun c9 => absurd c9 (by decide)) (fun _ => ?_)
          refine zw_iload (x := 0) E 1 dX3_fits_278 rfl (pc' := 280) rfl ?_
          refine zw_if_eq (tgt := 304) E dX3_fits_280 (by decide) (pc' := 283) rfl (fun _ => ?_) (fun c9 => absurd (by decide) c9)
          refine zw_iconst (v := 0) E dX3_fits_304 (by decide) (pc' := 305) rfl ?_
          refine zw_istore (lv' := [(5, .int 0), (6, .int 2), (0, .ref (am 0)), (1, .int (nI n)), (2, .int (nI en)), (3, .int (g.1 2 en)), (4, .int (g.1 3 en))]) E dX3_fits_305 (by decide) rfl (pc' := 307) rfl ?_
          refine zw_iinc (x := 2) (v := 3) (lv' := [(6, .int 3), (5, .int 0), (0, .ref (am 0)), (1, .int (nI n)), (2, .int (nI en)), (3, .int (g.1 2 en)), (4, .int (g.1 3 en))]) E 1 dX3_fits_307 rfl (by decide) (by decide) rfl (pc' := 310) rfl ?_
          refine zw_goto (tgt := 272) E dX3_fits_310 (by decide) ?_
          refine zw_iload (x := 3) E 0 dX3_fits_272 rfl (pc' := 274) rfl ?_
          refine zw_iconst (v := 3) E dX3_fits_274 (by decide) (pc' := 275) rfl ?_
          refine zw_icmp_ge (tgt := 313) E dX3_fits_275 (by decide) (pc' := 278) rfl (fun _ => ?_) (fun c9 => absurd (by decide) c9)
          refine zw_iload (x := 0) E 1 dX3_fits_313 rfl (pc' := 315) rfl ?_
          refine zw_if_eq (tgt := 329) E dX3_fits_315 (by decide) (pc' := 318) rfl (fun _ => ?_) (fun c9 => absurd (by decide) c9)
          refine zw_iconst (v := 0) E dX3_fits_329 (by decide) (pc' := 330) rfl ?_
          exact zw_zret E hr hlk dX3_fits_330 rfl (by unfold m_fset; rw [← hk60, if_neg c_2, if_pos c_3]) rfl
        · skip
          refine zw_iconst (v := 1) E dX3_fits_300 (by decide) (pc' := 301) rfl ?_
          refine zw_goto (tgt := 305) E dX3_fits_301 (by decide) ?_
          refine zw_istore (lv' := [(5, .int 1), (6, .int 0), (0, .ref (am 0)), (1, .int (nI n)), (2, .int (nI en)), (3, .int (g.1 2 en)), (4, .int (g.1 3 en))]) E dX3_fits_305 (by decide) rfl (pc' := 307) rfl ?_
          refine zw_iinc (x := 0) (v := 1) (lv' := [(6, .int 1), (5, .int 1), (0, .ref (am 0)), (1, .int (nI n)), (2, .int (nI en)), (3, .int (g.1 2 en)), (4, .int (g.1 3 en))]) E 1 dX3_fits_307 rfl (by decide) (by decide) rfl (pc' := 310) rfl ?_
          refine zw_goto (tgt := 272) E dX3_fits_310 (by decide) ?_
          refine zw_iload (x := 1) E 0 dX3_fits_272 rfl (pc' := 274) rfl ?_
          refine zw_iconst (v := 3) E dX3_fits_274 (by decide) (pc' := 275) rfl ?_
          refine zw_icmp_ge (tgt := 313) E dX3_fits_275 (by decide) (pc' := 278) rfl (fun c9 => absurd c9 (by decide)) (fun _ => ?_)
          refine zw_iload (x := 1) E 1 dX3_fits_278 rfl (pc' := 280) rfl ?_
          refine zw_if_eq (tgt := 304) E dX3_fits_280 (by decide) (pc' := 283) rfl (fun c9 => absurd c9 (by decide)) (fun _ => ?_)
          refine zw_aload_n (i := 0) (x := am 0) E 2 dX3_fits_283 rfl rfl (pc' := 284) rfl ?_
          refine zw_iload_n (i := 1) (x := nI n) E 3 dX3_fits_284 rfl rfl (pc' := 285) rfl ?_
          refine zw_aload_n (i := 0) (x := am 0) E 2 dX3_fits_285 rfl rfl (pc' := 286) rfl ?_
          refine zw_get (v := .ref (am 2)) E 0 3 iX3_fits_X3 fX3_fits_13 rfl rfl (by decide) rfl rfl dX3_fits_286 (pc' := 289) rfl ?_
          refine zw_iload_n (i := 2) (x := nI en) E 4 dX3_fits_289 rfl rfl (pc' := 290) rfl ?_
          refine zw_iald (j := en) (x := g.1 1 en) E 2 0 rfl rfl (vp_in_nI hm (by decide)) (zw_clamp hm (by decide)) rfl dX3_fits_290 (pc' := 291) rfl ?_
          refine zw_iload (x := 1) E 0 dX3_fits_291 rfl (pc' := 293) rfl ?_
          refine zw_callIw E (r := m_avg g n (g.1 1 en) 1) (As := [.int (nI n), .int (g.1 1 en), .int 1]) (rest := []) (ws' := (md_W K am g)) (qX3_averageOf l D K am g n hn (g.1 1 en) 1 hy) (cwV 3 E.2.2.2.2.1 gX3_fits_X3_averageOf rfl rfl rfl (by decide +kernel) ⟨Nat.le_of_ble_eq_true rfl, Nat.le_of_ble_eq_true rfl⟩) 0 rfl rfl rfl rfl rfl rfl (Nat.le_of_ble_eq_true rfl) ⟨Nat.zero_le _, Nat.zero_le _⟩ dX3_fits_293 (pc' := 296) rfl ?_
          refine zw_iconst (v := (-1)) E dX3_fits_296 (by decide) (pc' := 297) rfl ?_
          refine zw_icmp_eq (tgt := 304) E dX3_fits_297 (by decide) (pc' := 300) rfl (fun c_4 => ?_) (fun c_4 => ?_)
          · skip
            refine zw_iconst (v := 0) E dX3_fits_304 (by decide) (pc' := 305) rfl ?_
            refine zw_istore (lv' := [(5, .int 0), (6, .int 1), (0, .ref (am 0)), (1, .int (nI n)), (2, .int (nI en)), (3, .int (g.1 2 en)), (4, .int (g.1 3 en))]) E dX3_fits_305 (by decide) rfl (pc' := 307) rfl ?_
            refine zw_iinc (x := 1) (v := 2) (lv' := [(6, .int 2), (5, .int 0), (0, .ref (am 0)), (1, .int (nI n)), (2, .int (nI en)), (3, .int (g.1 2 en)), (4, .int (g.1 3 en))]) E 1 dX3_fits_307 rfl (by decide) (by decide) rfl (pc' := 310) rfl ?_
            refine zw_goto (tgt := 272) E dX3_fits_310 (by decide) ?_
            refine zw_iload (x := 2) E 0 dX3_fits_272 rfl (pc' := 274) rfl ?_
            refine zw_iconst (v := 3) E dX3_fits_274 (by decide) (pc' := 275) rfl ?_
            refine zw_icmp_ge (tgt := 313) E dX3_fits_275 (by decide) (pc' := 278) rfl (fun c9 => absurd c9 (by decide)) (fun _ => ?_)
            refine zw_iload (x := 0) E 1 dX3_fits_278 rfl (pc' := 280) rfl ?_
            refine zw_if_eq (tgt := 304) E dX3_fits_280 (by decide) (pc' := 283) rfl (fun _ => ?_) (fun c9 => absurd (by decide) c9)
            refine zw_iconst (v := 0) E dX3_fits_304 (by decide) (pc' := 305) rfl ?_
            refine zw_istore (lv' := [(5, .int 0), (6, .int 2), (0, .ref (am 0)), (1, .int (nI n)), (2, .int (nI en)), (3, .int (g.1 2 en)), (4, .int (g.1 3 en))]) E dX3_fits_305 (by decide) rfl (pc' := 307) rfl ?_
            refine zw_iinc (x := 2) (v := 3) (lv' := [(6, .int 3), (5, .int 0), (0, .ref (am 0)), (1, .int (nI n)), (2, .int (nI en)), (3, .int (g.1 2 en)), (4, .int (g.1 3 en))]) E 1 dX3_fits_307 rfl (by decide) (by decide) rfl (pc' := 310) rfl ?_
            refine zw_goto (tgt := 272) E dX3_fits_310 (by decide) ?_
            refine zw_iload (x := 3) E 0 dX3_fits_272 rfl (pc' := 274) rfl ?_
            refine zw_iconst (v := 3) E dX3_fits_274 (by decide) (pc' := 275) rfl ?_
            refine zw_icmp_ge (tgt := 313) E dX3_fits_275 (by decide) (pc' := 278) rfl (fun _ => ?_) (fun c9 => absurd (by decide) c9)
            refine zw_iload (x := 0) E 1 dX3_fits_313 rfl (pc' := 315) rfl ?_
            refine zw_if_eq (tgt := 329) E dX3_fits_315 (by decide) (pc' := 318) rfl (fun _ => ?_) (fun c9 => absurd (by decide) c9)
            refine zw_iconst (v := 0) E dX3_fits_329 (by decide) (pc' := 330) rfl ?_
            exact zw_zret E hr hlk dX3_fits_330 rfl (by unfold m_fset; rw [← hk60, if_neg c_2, if_neg c_3, if_pos c_4]) rfl
          · skip
            refine zw_iconst (v := 1) E dX3_fits_300 (by decide) (pc' := 301) rfl ?_
            refine zw_goto (tgt := 305) E dX3_fits_301 (by decide) ?_
            refine zw_istore (lv' := [(5, .int 1), (6, .int 1), (0, .ref (am 0)), (1, .int (nI n)), (2, .int (nI en)), (3, .int (g.1 2 en)), (4, .int (g.1 3 en))]) E dX3_fits_305 (by decide) rfl (pc' := 307) rfl ?_
            refine zw_iinc (x := 1) (v := 2) (lv' := [(6, .int 2), (5, .int 1), (0, .ref (am 0)), (1, .int (nI n)), (2, .int (nI en)), (3, .int (g.1 2 en)), (4, .int (g.1 3 en))]) E 1 dX3_fits_307 rfl (by decide) (by decide) rfl (pc' := 310) rfl ?_
            refine zw_goto (tgt := 272) E dX3_fits_310 (by decide) ?_
            refine zw_iload (x := 2) E 0 dX3_fits_272 rfl (pc' := 274) rfl ?_
            refine zw_iconst (v := 3) E dX3_fits_274 (by decide) (pc' := 275) rfl ?_
            refine zw_icmp_ge (tgt := 313) E dX3_fits_275 (by decide) (pc' := 278) rfl (fun c9 => absurd c9 (by decide)) (fun _ => ?_)
            refine zw_iload (x := 1) E 1 dX3_fits_278 rfl (pc' := 280) rfl ?_
            refine zw_if_eq (tgt := 304) E dX3_fits_280 (by decide) (pc' := 283) rfl (fun c9 => absurd c9 (by decide)) (fun _ => ?_)
            refine zw_aload_n (i := 0) (x := am 0) E 2 dX3_fits_283 rfl rfl (pc' := 284) rfl ?_
            refine zw_iload_n (i := 1) (x := nI n) E 3 dX3_fits_284 rfl rfl (pc' := 285) rfl ?_
            refine zw_aload_n (i := 0) (x := am 0) E 2 dX3_fits_285 rfl rfl (pc' := 286) rfl ?_
            refine zw_get (v := .ref (am 2)) E 0 3 iX3_fits_X3 fX3_fits_13 rfl rfl (by decide) rfl rfl dX3_fits_286 (pc' := 289) rfl ?_
            refine zw_iload_n (i := 2) (x := nI en) E 4 dX3_fits_289 rfl rfl (pc' := 290) rfl ?_
            refine zw_iald (j := en) (x := g.1 1 en) E 2 0 rfl rfl (vp_in_nI hm (by decide)) (zw_clamp hm (by decide)) rfl dX3_fits_290 (pc' := 291) rfl ?_
            refine zw_iload (x := 2) E 0 dX3_fits_291 rfl (pc' := 293) rfl ?_
            refine zw_callIw E (r := m_avg g n (g.1 1 en) 2) (As := [.int (nI n), .int (g.1 1 en), .int 2]) (rest := []) (ws' := (md_W K am g)) (qX3_averageOf l D K am g n hn (g.1 1 en) 2 hy) (cwV 3 E.2.2.2.2.1 gX3_fits_X3_averageOf rfl rfl rfl (by decide +kernel) ⟨Nat.le_of_ble_eq_true rfl, Nat.le_of_ble_eq_true rfl⟩) 0 rfl rfl rfl rfl rfl rfl (Nat.le_of_ble_eq_true rfl) ⟨Nat.zero_le _, Nat.zero_le _⟩ dX3_fits_293 (pc' := 296) rfl ?_
            refine zw_iconst (v := (-1)) E dX3_fits_296 (by decide) (pc' := 297) rfl ?_
            refine zw_icmp_eq (tgt := 304) E dX3_fits_297 (by decide) (pc' := 300) rfl (fun c_5 => ?_) (fun c_5 => ?_)
            · skip
              refine zw_iconst (v := 0) E dX3_fits_304 (by decide) (pc' := 305) rfl ?_
              refine zw_istore (lv' := [(5, .int 0), (6, .int 2), (0, .ref (am 0)), (1, .int (nI n)), (2, .int (nI en)), (3, .int (g.1 2 en)), (4, .int (g.1 3 en))]) E dX3_fits_305 (by decide) rfl (pc' := 307) rfl ?_
              refine zw_iinc (x := 2) (v := 3) (lv' := [(6, .int 3), (5, .int 0), (0, .ref (am 0)), (1, .int (nI n)), (2, .int (nI en)), (3, .int (g.1 2 en)), (4, .int (g.1 3 en))]) E 1 dX3_fits_307 rfl (by decide) (by decide) rfl (pc' := 310) rfl ?_
              refine zw_goto (tgt := 272) E dX3_fits_310 (by decide) ?_
              refine zw_iload (x := 3) E 0 dX3_fits_272 rfl (pc' := 274) rfl ?_
              refine zw_iconst (v := 3) E dX3_fits_274 (by decide) (pc' := 275) rfl ?_
              refine zw_icmp_ge (tgt := 313) E dX3_fits_275 (by decide) (pc' := 278) rfl (fun _ => ?_) (fun c9 => absurd (by decide) c9)
              refine zw_iload (x := 0) E 1 dX3_fits_313 rfl (pc' := 315) rfl ?_
              refine zw_if_eq (tgt := 329) E dX3_fits_315 (by decide) (pc' := 318) rfl (fun _ => ?_) (fun c9 => absurd (by decide) c9)
              refine zw_iconst (v := 0) E dX3_fits_329 (by decide) (pc' := 330) rfl ?_
              exact zw_zret E hr hlk dX3_fits_330 rfl (by unfold m_fset; rw [← hk60, if_neg c_2, if_neg c_3, if_neg c_4, if_pos c_5]) rfl
            · skip
              refine zw_iconst (v := 1) E dX3_fits_300 (by decide) (pc' := 301) rfl ?_
              refine zw_goto (tgt := 305) E dX3_fits_301 (by decide) ?_
              refine zw_istore (lv' := [(5, .int 1), (6, .int 2), (0, .ref (am 0)), (1, .int (nI n)), (2, .int (nI en)), (3, .int (g.1 2 en)), (4, .int (g.1 3 en))]) E dX3_fits_305 (by decide) rfl (pc' := 307) rfl ?_
              refine zw_iinc (x := 2) (v := 3) (lv' := [(6, .int 3), (5, .int 1), (0, .ref (am 0)), (1, .int (nI n)), (2, .int (nI en)), (3, .int (g.1 2 en)), (4, .int (g.1 3 en))]) E 1 dX3_fits_307 rfl (by decide) (by decide) rfl (pc' := 310) rfl ?_
              refine zw_goto (tgt := 272) E dX3_fits_310 (by decide) ?_
              refine zw_iload (x := 3) E 0 dX3_fits_272 rfl (pc' := 274) rfl ?_
              refine zw_iconst (v := 3) E dX3_fits_274 (by decide) (pc' := 275) rfl ?_
              refine zw_icmp_ge (tgt := 313) E dX3_fits_275 (by decide) (pc' := 278) rfl (fun _ => ?_) (fun c9 => absurd (by decide) c9)
              refine zw_iload (x := 1) E 1 dX3_fits_313 rfl (pc' := 315) rfl ?_
              refine zw_if_eq (tgt := 329) E dX3_fits_315 (by decide) (pc' := 318) rfl (fun c9 => absurd c9 (by decide)) (fun _ => ?_)
              refine zw_aload_n (i := 0) (x := am 0) E 2 dX3_fits_318 rfl rfl (pc' := 319) rfl ?_
              refine zw_get (v := .int g.2.2.2) E 0 19 iX3_fits_X3 fX3_fits_110 rfl rfl (by decide) rfl rfl dX3_fits_319 (pc' := 322) rfl ?_
              refine zw_if_ne (tgt := 329) E dX3_fits_322 (by decide) (pc' := 325) rfl (fun c_6 => ?_) (fun c_6 => ?_)
              · skip
                refine zw_iconst (v := 0) E dX3_fits_329 (by decide) (pc' := 330) rfl ?_
                exact zw_zret E hr hlk dX3_fits_330 rfl (by unfold m_fset; rw [← hk60, if_neg c_2, if_neg c_3, if_neg c_4, if_neg c_5, if_neg c_6]) rfl
              · skip
                refine zw_iconst (v := 1) E dX3_fits_325 (by decide) (pc' := 326) rfl ?_
                refine zw_goto (tgt := 330) E dX3_fits_326 (by decide) ?_
                exact zw_zret E hr hlk dX3_fits_330 rfl (by unfold m_fset; rw [← hk60, if_neg c_2, if_neg c_3, if_neg c_4, if_neg c_5, if_pos c_6]) rfl
    · skip
      have hk : k < 60 := zw_lt60 c_1 hle
      refine zw_iload (x := m_some g k) E 5 dX3_fits_241 rfl (pc' := 243) rfl ?_
      refine zw_if_ne (tgt := 256) E dX3_fits_243 (by decide) (pc' := 246) rfl (fun c_7 => ?_) (fun c_7 => ?_)
      · skip
        refine zw_iconst (v := 1) E dX3_fits_256 (by decide) (pc' := 257) rfl ?_
        refine zw_goto (tgt := 261) E dX3_fits_257 (by decide) ?_
        refine zw_istore (lv' := [(5, .int 1), (0, .ref (am 0)), (1, .int (nI n)), (2, .int (nI en)), (3, .int (g.1 2 en)), (4, .int (g.1 3 en)), (6, .int (nI k))]) E dX3_fits_261 (by decide) rfl (pc' := 263) rfl ?_
        refine zw_iinc (x := nI k) (v := nI (k + 1)) (lv' := [(6, .int (nI (k + 1))), (5, .int 1), (0, .ref (am 0)), (1, .int (nI n)), (2, .int (nI en)), (3, .int (g.1 2 en)), (4, .int (g.1 3 en))]) E 6 dX3_fits_263 rfl (zw_inc1 k) (by decide) rfl (pc' := 266) rfl ?_
        refine zw_goto (tgt := 234) E dX3_fits_266 (by decide) ?_
        have e1 : m_some g (k + 1) = 1 := by rw [m_some, if_neg c_7]
        refine zw_sub [2, 3, 4, 5, 6, 1, 0] (lv' := [(0, .ref (am 0)), (1, .int (nI n)), (2, .int (nI en)), (3, .int (g.1 2 en)), (4, .int (g.1 3 en)), (5, .int 1), (6, .int (nI (k + 1)))]) rfl ?_
        refine zw_as (lv' := [(0, .ref (am 0)), (1, .int (nI n)), (2, .int (nI en)), (3, .int (g.1 2 en)), (4, .int (g.1 3 en)), (5, .int (m_some g (k + 1))), (6, .int (nI (k + 1)))]) (by rw [e1]) rfl rfl ?_
        exact ih (k + 1) (by omega) (by omega)
      · skip
        refine zw_aload_n (i := 0) (x := am 0) E 0 dX3_fits_246 rfl rfl (pc' := 247) rfl ?_
        refine zw_get (v := .ref (am 12)) E 0 13 iX3_fits_X3 fX3_fits_43 rfl rfl (by decide) rfl rfl dX3_fits_247 (pc' := 250) rfl ?_
        refine zw_iload (x := nI k) E 6 dX3_fits_250 rfl (pc' := 252) rfl ?_
        refine zw_zald (j := k) (x := g.1 11 k) E 12 1 rfl rfl (vp_in_nI hk (by decide)) (zw_clamp hk (by decide)) rfl dX3_fits_252 (pc' := 253) rfl ?_
        refine zw_if_eq (tgt := 260) E dX3_fits_253 (by decide) (pc' := 256) rfl (fun c_8 => ?_) (fun c_8 => ?_)
        · skip
          refine zw_iconst (v := 0) E dX3_fits_260 (by decide) (pc' := 261) rfl ?_
          refine zw_istore (lv' := [(5, .int 0), (0, .ref (am 0)), (1, .int (nI n)), (2, .int (nI en)), (3, .int (g.1 2 en)), (4, .int (g.1 3 en)), (6, .int (nI k))]) E dX3_fits_261 (by decide) rfl (pc' := 263) rfl ?_
          refine zw_iinc (x := nI k) (v := nI (k + 1)) (lv' := [(6, .int (nI (k + 1))), (5, .int 0), (0, .ref (am 0)), (1, .int (nI n)), (2, .int (nI en)), (3, .int (g.1 2 en)), (4, .int (g.1 3 en))]) E 6 dX3_fits_263 rfl (zw_inc1 k) (by decide) rfl (pc' := 266) rfl ?_
          refine zw_goto (tgt := 234) E dX3_fits_266 (by decide) ?_
          have e1 : m_some g (k + 1) = 0 := by rw [m_some, if_pos c_7, if_pos c_8]
          refine zw_sub [2, 3, 4, 5, 6, 1, 0] (lv' := [(0, .ref (am 0)), (1, .int (nI n)), (2, .int (nI en)), (3, .int (g.1 2 en)), (4, .int (g.1 3 en)), (5, .int 0), (6, .int (nI (k + 1)))]) rfl ?_
          refine zw_as (lv' := [(0, .ref (am 0)), (1, .int (nI n)), (2, .int (nI en)), (3, .int (g.1 2 en)), (4, .int (g.1 3 en)), (5, .int (m_some g (k + 1))), (6, .int (nI (k + 1)))]) (by rw [e1]) rfl rfl ?_
          exact ih (k + 1) (by omega) (by omega)
        · skip
          refine zw_iconst (v := 1) E dX3_fits_256 (by decide) (pc' := 257) rfl ?_
          refine zw_goto (tgt := 261) E dX3_fits_257 (by decide) ?_
          refine zw_istore (lv' := [(5, .int 1), (0, .ref (am 0)), (1, .int (nI n)), (2, .int (nI en)), (3, .int (g.1 2 en)), (4, .int (g.1 3 en)), (6, .int (nI k))]) E dX3_fits_261 (by decide) rfl (pc' := 263) rfl ?_
          refine zw_iinc (x := nI k) (v := nI (k + 1)) (lv' := [(6, .int (nI (k + 1))), (5, .int 1), (0, .ref (am 0)), (1, .int (nI n)), (2, .int (nI en)), (3, .int (g.1 2 en)), (4, .int (g.1 3 en))]) E 6 dX3_fits_263 rfl (zw_inc1 k) (by decide) rfl (pc' := 266) rfl ?_
          refine zw_goto (tgt := 234) E dX3_fits_266 (by decide) ?_
          have e1 : m_some g (k + 1) = 1 := by rw [m_some, if_pos c_7, if_neg c_8]
          refine zw_sub [2, 3, 4, 5, 6, 1, 0] (lv' := [(0, .ref (am 0)), (1, .int (nI n)), (2, .int (nI en)), (3, .int (g.1 2 en)), (4, .int (g.1 3 en)), (5, .int 1), (6, .int (nI (k + 1)))]) rfl ?_
          refine zw_as (lv' := [(0, .ref (am 0)), (1, .int (nI n)), (2, .int (nI en)), (3, .int (g.1 2 en)), (4, .int (g.1 3 en)), (5, .int (m_some g (k + 1))), (6, .int (nI (k + 1)))]) (by rw [e1]) rfl rfl ?_
          exact ih (k + 1) (by omega) (by omega)

set_option maxHeartbeats 4000000 in
set_option maxRecDepth 100000 in
/-- fits(k, e) -/
theorem qX3_fits (l : Launch) (D : va_G) (K : Nat → ClassId) (am : Nat → Nat) (g : Md) (n en : Nat) (hn : n ≤ 80) (hm : en < 80) (hf60 : g.2.2.1 1 ≤ 60) (hy : 1 ≤ g.1 1 en ∧ g.1 1 en ≤ 200) : zw_I l yX3_fits wsX3_fits rmX3_fits D (zT K) [.ref (am 0), .int (nI n), .int (nI en)] (md_W K am g) (m_fits g n en) (md_W K am g) := by
  refine zw_ofI (cc := cX3_fits) (nL := 7) (ret := (some .boolean)) (own := RX3) (lv := [(0, .ref (am 0)), (1, .int (nI n)), (2, .int (nI en))]) (by decide) rfl (Nat.le_of_ble_eq_true rfl) rfl rfl ?_
  intro p e s m below meth c A E hr hlk
  refine zw_aload_n (i := 0) (x := am 0) E 0 dX3_fits_0 rfl rfl (pc' := 1) rfl ?_
  refine zw_get (v := .ref (am 3)) E 0 4 iX3_fits_X3 fX3_fits_16 rfl rfl (by decide) rfl rfl dX3_fits_1 (pc' := 4) rfl ?_
  refine zw_iload_n (i := 2) (x := nI en) E 2 dX3_fits_4 rfl rfl (pc' := 5) rfl ?_
  refine zw_iald (j := en) (x := g.1 2 en) E 3 0 rfl rfl (vp_in_nI hm (by decide)) (zw_clamp hm (by decide)) rfl dX3_fits_5 (pc' := 6) rfl ?_
  refine zw_istore_n (lv' := [(3, .int (g.1 2 en)), (0, .ref (am 0)), (1, .int (nI n)), (2, .int (nI en))]) E dX3_fits_6 rfl (by decide) rfl (pc' := 7) rfl ?_
  refine zw_aload_n (i := 0) (x := am 0) E 1 dX3_fits_7 rfl rfl (pc' := 8) rfl ?_
  refine zw_get (v := .ref (am 4)) E 0 5 iX3_fits_X3 fX3_fits_19 rfl rfl (by decide) rfl rfl dX3_fits_8 (pc' := 11) rfl ?_
  refine zw_iload_n (i := 2) (x := nI en) E 3 dX3_fits_11 rfl rfl (pc' := 12) rfl ?_
  refine zw_iald (j := en) (x := g.1 3 en) E 4 0 rfl rfl (vp_in_nI hm (by decide)) (zw_clamp hm (by decide)) rfl dX3_fits_12 (pc' := 13) rfl ?_
  refine zw_istore (lv' := [(4, .int (g.1 3 en)), (3, .int (g.1 2 en)), (0, .ref (am 0)), (1, .int (nI n)), (2, .int (nI en))]) E dX3_fits_13 (by decide) rfl (pc' := 15) rfl ?_
  refine zw_iconst (v := 0) E dX3_fits_15 (by decide) (pc' := 16) rfl ?_
  refine zw_istore (lv' := [(5, .int 0), (4, .int (g.1 3 en)), (3, .int (g.1 2 en)), (0, .ref (am 0)), (1, .int (nI n)), (2, .int (nI en))]) E dX3_fits_16 (by decide) rfl (pc' := 18) rfl ?_
  refine zw_aload_n (i := 0) (x := am 0) E 3 dX3_fits_18 rfl rfl (pc' := 19) rfl ?_
  refine zw_get (v := .ref (am 1)) E 0 2 iX3_fits_X3 fX3_fits_7 rfl rfl (by decide) rfl rfl dX3_fits_19 (pc' := 22) rfl ?_
  refine zw_iload_n (i := 2) (x := nI en) E 5 dX3_fits_22 rfl rfl (pc' := 23) rfl ?_
  refine zw_iald (j := en) (x := g.1 0 en) E 1 0 rfl rfl (vp_in_nI hm (by decide)) (zw_clamp hm (by decide)) rfl dX3_fits_23 (pc' := 24) rfl ?_
  by_cases s_1 : g.1 0 en = 1
  · refine zw_tableIn (tgt := 64) (off := 40) E dX3_fits_24 (by rw [s_1]; decide) (by rw [s_1]; decide) (by rw [s_1]; rfl) (by decide) ?_
    refine zw_iconst (v := 1) E dX3_fits_64 (by decide) (pc' := 65) rfl ?_
    exact zw_zret E hr hlk dX3_fits_65 rfl (by unfold m_fits; rw [if_pos s_1]) rfl
  · skip
    by_cases s_2 : g.1 0 en = 2
    · refine zw_tableIn (tgt := 66) (off := 42) E dX3_fits_24 (by rw [s_2]; decide) (by rw [s_2]; decide) (by rw [s_2]; rfl) (by decide) ?_
      refine zw_aload_n (i := 0) (x := am 0) E 3 dX3_fits_66 rfl rfl (pc' := 67) rfl ?_
      refine zw_iload_n (i := 3) (x := g.1 2 en) E 2 dX3_fits_67 rfl rfl (pc' := 68) rfl ?_
      refine zw_callIw E (r := zb (m_is g (g.1 2 en))) (As := [.int (g.1 2 en)]) (rest := []) (ws' := (md_W K am g)) (qX3_is l D K am g hf60 (g.1 2 en)) (cwV 1 E.2.2.2.2.1 gX3_fits_X3_is rfl rfl rfl (by decide +kernel) ⟨Nat.le_of_ble_eq_true rfl, Nat.le_of_ble_eq_true rfl⟩) 0 rfl rfl rfl rfl rfl rfl (Nat.le_of_ble_eq_true rfl) ⟨Nat.zero_le _, Nat.zero_le _⟩ dX3_fits_68 (pc' := 71) rfl ?_
      refine zw_ifb_eq (tgt := 93) E dX3_fits_71 (by decide) (pc' := 74) rfl (fun c_3 => ?_) (fun c_3 => ?_)
      · skip
        refine zw_iconst (v := 0) E dX3_fits_93 (by decide) (pc' := 94) rfl ?_
        exact zw_zret E hr hlk dX3_fits_94 rfl (by unfold m_fits m_fpart; rw [if_neg s_1, if_pos s_2, if_neg c_3]) rfl
      · skip
        refine zw_aload_n (i := 0) (x := am 0) E 3 dX3_fits_74 rfl rfl (pc' := 75) rfl ?_
        refine zw_get (v := .ref (am 13)) E 0 14 iX3_fits_X3 fX3_fits_47 rfl rfl (by decide) rfl rfl dX3_fits_75 (pc' := 78) rfl ?_
        refine zw_iload_n (i := 3) (x := g.1 2 en) E 2 dX3_fits_78 rfl rfl (pc' := 79) rfl ?_
        refine zw_iald (j := (g.1 2 en).toNatClampNeg) (x := g.1 12 ((g.1 2 en).toNatClampNeg)) E 13 0 rfl rfl (zw_mfin hf60 c_3.1) rfl rfl dX3_fits_79 (pc' := 80) rfl ?_
        refine zw_aload_n (i := 0) (x := am 0) E 3 dX3_fits_80 rfl rfl (pc' := 81) rfl ?_
        refine zw_get (v := .ref (am 5)) E 0 6 iX3_fits_X3 fX3_fits_22 rfl rfl (by decide) rfl rfl dX3_fits_81 (pc' := 84) rfl ?_
        refine zw_iload_n (i := 2) (x := nI en) E 5 dX3_fits_84 rfl rfl (pc' := 85) rfl ?_
        refine zw_iald (j := en) (x := g.1 4 en) E 5 0 rfl rfl (vp_in_nI hm (by decide)) (zw_clamp hm (by decide)) rfl dX3_fits_85 (pc' := 86) rfl ?_
        refine zw_icmp_le (tgt := 93) E dX3_fits_86 (by decide) (pc' := 89) rfl (fun c_4 => ?_) (fun c_4 => ?_)
        · skip
          refine zw_iconst (v := 0) E dX3_fits_93 (by decide) (pc' := 94) rfl ?_
          exact zw_zret E hr hlk dX3_fits_94 rfl (by unfold m_fits m_fpart; rw [if_neg s_1, if_pos s_2, if_pos c_3, if_pos c_4]) rfl
        · skip
          refine zw_iconst (v := 1) E dX3_fits_89 (by decide) (pc' := 90) rfl ?_
          refine zw_goto (tgt := 94) E dX3_fits_90 (by decide) ?_
          exact zw_zret E hr hlk dX3_fits_94 rfl (by unfold m_fits m_fpart; rw [if_neg s_1, if_pos s_2, if_pos c_3, if_neg c_4]) rfl
    · skip
      by_cases s_5 : g.1 0 en = 3
      · refine zw_tableIn (tgt := 95) (off := 71) E dX3_fits_24 (by rw [s_5]; decide) (by rw [s_5]; decide) (by rw [s_5]; rfl) (by decide) ?_
        refine zw_aload_n (i := 0) (x := am 0) E 3 dX3_fits_95 rfl rfl (pc' := 96) rfl ?_
        refine zw_iload_n (i := 3) (x := g.1 2 en) E 2 dX3_fits_96 rfl rfl (pc' := 97) rfl ?_
        refine zw_callIw E (r := zb (m_is g (g.1 2 en))) (As := [.int (g.1 2 en)]) (rest := []) (ws' := (md_W K am g)) (qX3_is l D K am g hf60 (g.1 2 en)) (cwV 1 E.2.2.2.2.1 gX3_fits_X3_is rfl rfl rfl (by decide +kernel) ⟨Nat.le_of_ble_eq_true rfl, Nat.le_of_ble_eq_true rfl⟩) 0 rfl rfl rfl rfl rfl rfl (Nat.le_of_ble_eq_true rfl) ⟨Nat.zero_le _, Nat.zero_le _⟩ dX3_fits_97 (pc' := 100) rfl ?_
        refine zw_ifb_eq (tgt := 170) E dX3_fits_100 (by decide) (pc' := 103) rfl (fun c_6 => ?_) (fun c_6 => ?_)
        · skip
          refine zw_iconst (v := 0) E dX3_fits_170 (by decide) (pc' := 171) rfl ?_
          exact zw_zret E hr hlk dX3_fits_171 rfl (by unfold m_fits m_fjoin; rw [if_neg s_1, if_neg s_2, if_pos s_5, if_neg c_6]) rfl
        · skip
          refine zw_aload_n (i := 0) (x := am 0) E 3 dX3_fits_103 rfl rfl (pc' := 104) rfl ?_
          refine zw_iload (x := g.1 3 en) E 1 dX3_fits_104 rfl (pc' := 106) rfl ?_
          refine zw_callIw E (r := zb (m_is g (g.1 3 en))) (As := [.int (g.1 3 en)]) (rest := []) (ws' := (md_W K am g)) (qX3_is l D K am g hf60 (g.1 3 en)) (cwV 1 E.2.2.2.2.1 gX3_fits_X3_is rfl rfl rfl (by decide +kernel) ⟨Nat.le_of_ble_eq_true rfl, Nat.le_of_ble_eq_true rfl⟩) 0 rfl rfl rfl rfl rfl rfl (Nat.le_of_ble_eq_true rfl) ⟨Nat.zero_le _, Nat.zero_le _⟩ dX3_fits_106 (pc' := 109) rfl ?_
          refine zw_ifb_eq (tgt := 170) E dX3_fits_109 (by decide) (pc' := 112) rfl (fun c_7 => ?_) (fun c_7 => ?_)
          · skip
            refine zw_iconst (v := 0) E dX3_fits_170 (by decide) (pc' := 171) rfl ?_
            exact zw_zret E hr hlk dX3_fits_171 rfl (by unfold m_fits m_fjoin; rw [if_neg s_1, if_neg s_2, if_pos s_5, if_pos c_6, if_neg c_7]) rfl
          · skip
            refine zw_iload_n (i := 3) (x := g.1 2 en) E 2 dX3_fits_112 rfl rfl (pc' := 113) rfl ?_
            refine zw_iload (x := g.1 3 en) E 1 dX3_fits_113 rfl (pc' := 115) rfl ?_
            refine zw_icmp_eq (tgt := 170) E dX3_fits_115 (by decide) (pc' := 118) rfl (fun c_8 => ?_) (fun c_8 => ?_)
            · skip
              refine zw_iconst (v := 0) E dX3_fits_170 (by decide) (pc' := 171) rfl ?_
              exact zw_zret E hr hlk dX3_fits_171 rfl (by unfold m_fits m_fjoin; rw [if_neg s_1, if_neg s_2, if_pos s_5, if_pos c_6, if_pos c_7, if_pos c_8]) rfl
            · skip
              refine zw_aload_n (i := 0) (x := am 0) E 3 dX3_fits_118 rfl rfl (pc' := 119) rfl ?_
              refine zw_get (v := .ref (am 14)) E 0 15 iX3_fits_X3 fX3_fits_50 rfl rfl (by decide) rfl rfl dX3_fits_119 (pc' := 122) rfl ?_
              refine zw_iload_n (i := 3) (x := g.1 2 en) E 2 dX3_fits_122 rfl rfl (pc' := 123) rfl ?_
              refine zw_iald (j := (g.1 2 en).toNatClampNeg) (x := g.1 13 ((g.1 2 en).toNatClampNeg)) E 14 0 rfl rfl (zw_mfin hf60 c_6.1) rfl rfl dX3_fits_123 (pc' := 124) rfl ?_
              refine zw_aload_n (i := 0) (x := am 0) E 3 dX3_fits_124 rfl rfl (pc' := 125) rfl ?_
              refine zw_get (v := .ref (am 14)) E 0 15 iX3_fits_X3 fX3_fits_50 rfl rfl (by decide) rfl rfl dX3_fits_125 (pc' := 128) rfl ?_
              refine zw_iload (x := g.1 3 en) E 1 dX3_fits_128 rfl (pc' := 130) rfl ?_
              refine zw_iald (j := (g.1 3 en).toNatClampNeg) (x := g.1 13 ((g.1 3 en).toNatClampNeg)) E 14 0 rfl rfl (zw_mfin hf60 c_7.1) rfl rfl dX3_fits_130 (pc' := 131) rfl ?_
              refine zw_icmp_ne (tgt := 170) E dX3_fits_131 (by decide) (pc' := 134) rfl (fun c_9 => ?_) (fun c_9 => ?_)
              · skip
                refine zw_iconst (v := 0) E dX3_fits_170 (by decide) (pc' := 171) rfl ?_
                exact zw_zret E hr hlk dX3_fits_171 rfl (by unfold m_fits m_fjoin; rw [if_neg s_1, if_neg s_2, if_pos s_5, if_pos c_6, if_pos c_7, if_neg c_8, if_neg c_9]) rfl
              · skip
                refine zw_aload_n (i := 0) (x := am 0) E 3 dX3_fits_134 rfl rfl (pc' := 135) rfl ?_
                refine zw_get (v := .ref (am 15)) E 0 16 iX3_fits_X3 fX3_fits_53 rfl rfl (by decide) rfl rfl dX3_fits_135 (pc' := 138) rfl ?_
                refine zw_iload_n (i := 3) (x := g.1 2 en) E 2 dX3_fits_138 rfl rfl (pc' := 139) rfl ?_
                refine zw_iald (j := (g.1 2 en).toNatClampNeg) (x := g.1 14 ((g.1 2 en).toNatClampNeg)) E 15 0 rfl rfl (zw_mfin hf60 c_6.1) rfl rfl dX3_fits_139 (pc' := 140) rfl ?_
                refine zw_aload_n (i := 0) (x := am 0) E 3 dX3_fits_140 rfl rfl (pc' := 141) rfl ?_
                refine zw_get (v := .ref (am 15)) E 0 16 iX3_fits_X3 fX3_fits_53 rfl rfl (by decide) rfl rfl dX3_fits_141 (pc' := 144) rfl ?_
                refine zw_iload (x := g.1 3 en) E 1 dX3_fits_144 rfl (pc' := 146) rfl ?_
                refine zw_iald (j := (g.1 3 en).toNatClampNeg) (x := g.1 14 ((g.1 3 en).toNatClampNeg)) E 15 0 rfl rfl (zw_mfin hf60 c_7.1) rfl rfl dX3_fits_146 (pc' := 147) rfl ?_
                refine zw_icmp_ne (tgt := 170) E dX3_fits_147 (by decide) (pc' := 150) rfl (fun c_10 => ?_) (fun c_10 => ?_)
                · skip
                  refine zw_iconst (v := 0) E dX3_fits_170 (by decide) (pc' := 171) rfl ?_
                  exact zw_zret E hr hlk dX3_fits_171 rfl (by unfold m_fits m_fjoin; rw [if_neg s_1, if_neg s_2, if_pos s_5, if_pos c_6, if_pos c_7, if_neg c_8, if_pos c_9, if_neg c_10]) rfl
                · skip
                  refine zw_aload_n (i := 0) (x := am 0) E 3 dX3_fits_150 rfl rfl (pc' := 151) rfl ?_
                  refine zw_get (v := .ref (am 17)) E 0 18 iX3_fits_X3 fX3_fits_59 rfl rfl (by decide) rfl rfl dX3_fits_151 (pc' := 154) rfl ?_
                  refine zw_iload_n (i := 3) (x := g.1 2 en) E 2 dX3_fits_154 rfl rfl (pc' := 155) rfl ?_
                  refine zw_zald (j := (g.1 2 en).toNatClampNeg) (x := g.1 16 ((g.1 2 en).toNatClampNeg)) E 17 1 rfl rfl (zw_mfin hf60 c_6.1) rfl rfl dX3_fits_155 (pc' := 156) rfl ?_
                  refine zw_aload_n (i := 0) (x := am 0) E 3 dX3_fits_156 rfl rfl (pc' := 157) rfl ?_
                  refine zw_get (v := .ref (am 17)) E 0 18 iX3_fits_X3 fX3_fits_59 rfl rfl (by decide) rfl rfl dX3_fits_157 (pc' := 160) rfl ?_
                  refine zw_iload (x := g.1 3 en) E 1 dX3_fits_160 rfl (pc' := 162) rfl ?_
                  refine zw_zald (j := (g.1 3 en).toNatClampNeg) (x := g.1 16 ((g.1 3 en).toNatClampNeg)) E 17 1 rfl rfl (zw_mfin hf60 c_7.1) rfl rfl dX3_fits_162 (pc' := 163) rfl ?_
                  refine zw_icmp_ne (tgt := 170) E dX3_fits_163 (by decide) (pc' := 166) rfl (fun c_11 => ?_) (fun c_11 => ?_)
                  · skip
                    refine zw_iconst (v := 0) E dX3_fits_170 (by decide) (pc' := 171) rfl ?_
                    exact zw_zret E hr hlk dX3_fits_171 rfl (by unfold m_fits m_fjoin; rw [if_neg s_1, if_neg s_2, if_pos s_5, if_pos c_6, if_pos c_7, if_neg c_8, if_pos c_9, if_pos c_10, if_neg c_11]) rfl
                  · skip
                    refine zw_iconst (v := 1) E dX3_fits_166 (by decide) (pc' := 167) rfl ?_
                    refine zw_goto (tgt := 171) E dX3_fits_167 (by decide) ?_
                    exact zw_zret E hr hlk dX3_fits_171 rfl (by unfold m_fits m_fjoin; rw [if_neg s_1, if_neg s_2, if_pos s_5, if_pos c_6, if_pos c_7, if_neg c_8, if_pos c_9, if_pos c_10, if_pos c_11]) rfl
      · skip
        by_cases s_12 : g.1 0 en = 4
        · refine zw_tableIn (tgt := 172) (off := 148) E dX3_fits_24 (by rw [s_12]; decide) (by rw [s_12]; decide) (by rw [s_12]; rfl) (by decide) ?_
          refine zw_aload_n (i := 0) (x := am 0) E 3 dX3_fits_172 rfl rfl (pc' := 173) rfl ?_
          refine zw_iload_n (i := 3) (x := g.1 2 en) E 2 dX3_fits_173 rfl rfl (pc' := 174) rfl ?_
          refine zw_callIw E (r := zb (m_is g (g.1 2 en))) (As := [.int (g.1 2 en)]) (rest := []) (ws' := (md_W K am g)) (qX3_is l D K am g hf60 (g.1 2 en)) (cwV 1 E.2.2.2.2.1 gX3_fits_X3_is rfl rfl rfl (by decide +kernel) ⟨Nat.le_of_ble_eq_true rfl, Nat.le_of_ble_eq_true rfl⟩) 0 rfl rfl rfl rfl rfl rfl (Nat.le_of_ble_eq_true rfl) ⟨Nat.zero_le _, Nat.zero_le _⟩ dX3_fits_174 (pc' := 177) rfl ?_
          refine zw_ifb_eq (tgt := 199) E dX3_fits_177 (by decide) (pc' := 180) rfl (fun c_13 => ?_) (fun c_13 => ?_)
          · skip
            refine zw_iconst (v := 0) E dX3_fits_199 (by decide) (pc' := 200) rfl ?_
            exact zw_zret E hr hlk dX3_fits_200 rfl (by unfold m_fits m_fsell; rw [if_neg s_1, if_neg s_2, if_neg s_5, if_pos s_12, if_neg c_13]) rfl
          · skip
            refine zw_aload_n (i := 0) (x := am 0) E 3 dX3_fits_180 rfl rfl (pc' := 181) rfl ?_
            refine zw_get (v := .ref (am 15)) E 0 16 iX3_fits_X3 fX3_fits_53 rfl rfl (by decide) rfl rfl dX3_fits_181 (pc' := 184) rfl ?_
            refine zw_iload_n (i := 3) (x := g.1 2 en) E 2 dX3_fits_184 rfl rfl (pc' := 185) rfl ?_
            refine zw_iald (j := (g.1 2 en).toNatClampNeg) (x := g.1 14 ((g.1 2 en).toNatClampNeg)) E 15 0 rfl rfl (zw_mfin hf60 c_13.1) rfl rfl dX3_fits_185 (pc' := 186) rfl ?_
            refine zw_aload_n (i := 0) (x := am 0) E 3 dX3_fits_186 rfl rfl (pc' := 187) rfl ?_
            refine zw_get (v := .ref (am 5)) E 0 6 iX3_fits_X3 fX3_fits_22 rfl rfl (by decide) rfl rfl dX3_fits_187 (pc' := 190) rfl ?_
            refine zw_iload_n (i := 2) (x := nI en) E 5 dX3_fits_190 rfl rfl (pc' := 191) rfl ?_
            refine zw_iald (j := en) (x := g.1 4 en) E 5 0 rfl rfl (vp_in_nI hm (by decide)) (zw_clamp hm (by decide)) rfl dX3_fits_191 (pc' := 192) rfl ?_
            refine zw_icmp_eq (tgt := 199) E dX3_fits_192 (by decide) (pc' := 195) rfl (fun c_14 => ?_) (fun c_14 => ?_)
            · skip
              refine zw_iconst (v := 0) E dX3_fits_199 (by decide) (pc' := 200) rfl ?_
              exact zw_zret E hr hlk dX3_fits_200 rfl (by unfold m_fits m_fsell; rw [if_neg s_1, if_neg s_2, if_neg s_5, if_pos s_12, if_pos c_13, if_pos c_14]) rfl
            · skip
              refine zw_iconst (v := 1) E dX3_fits_195 (by decide) (pc' := 196) rfl ?_
              refine zw_goto (tgt := 200) E dX3_fits_196 (by decide) ?_
              exact zw_zret E hr hlk dX3_fits_200 rfl (by unfold m_fits m_fsell; rw [if_neg s_1, if_neg s_2, if_neg s_5, if_pos s_12, if_pos c_13, if_neg c_14]) rfl
        · skip
          by_cases s_15 : g.1 0 en = 5
          · refine zw_tableIn (tgt := 231) (off := 207) E dX3_fits_24 (by rw [s_15]; decide) (by rw [s_15]; decide) (by rw [s_15]; rfl) (by decide) ?_
            refine zw_iconst (v := 0) E dX3_fits_231 (by decide) (pc' := 232) rfl ?_
            refine zw_istore (lv' := [(6, .int 0), (5, .int 0), (4, .int (g.1 3 en)), (3, .int (g.1 2 en)), (0, .ref (am 0)), (1, .int (nI n)), (2, .int (nI en))]) E dX3_fits_232 (by decide) rfl (pc' := 234) rfl ?_
            have e1 : m_fits g n en = m_fset g n en := by unfold m_fits; rw [if_neg s_1, if_neg s_2, if_neg s_5, if_neg s_12, if_pos s_15]
            rw [e1]
            refine zw_sub [4, 5, 6, 3, 2, 1, 0] (lv' := [(0, .ref (am 0)), (1, .int (nI n)), (2, .int (nI en)), (3, .int (g.1 2 en)), (4, .int (g.1 3 en)), (5, .int 0), (6, .int 0)]) rfl ?_
            exact lX3_fits E hr hlk am g n en hn hm hy 61 0 (by omega) (by omega)
          · skip
            by_cases s_16 : g.1 0 en = 6
            · refine zw_tableIn (tgt := 201) (off := 177) E dX3_fits_24 (by rw [s_16]; decide) (by rw [s_16]; decide) (by rw [s_16]; rfl) (by decide) ?_
              refine zw_aload_n (i := 0) (x := am 0) E 3 dX3_fits_201 rfl rfl (pc' := 202) rfl ?_
              refine zw_iload_n (i := 3) (x := g.1 2 en) E 2 dX3_fits_202 rfl rfl (pc' := 203) rfl ?_
              refine zw_callIw E (r := zb (m_is g (g.1 2 en))) (As := [.int (g.1 2 en)]) (rest := []) (ws' := (md_W K am g)) (qX3_is l D K am g hf60 (g.1 2 en)) (cwV 1 E.2.2.2.2.1 gX3_fits_X3_is rfl rfl rfl (by decide +kernel) ⟨Nat.le_of_ble_eq_true rfl, Nat.le_of_ble_eq_true rfl⟩) 0 rfl rfl rfl rfl rfl rfl (Nat.le_of_ble_eq_true rfl) ⟨Nat.zero_le _, Nat.zero_le _⟩ dX3_fits_203 (pc' := 206) rfl ?_
              refine zw_ifb_eq (tgt := 229) E dX3_fits_206 (by decide) (pc' := 209) rfl (fun c_17 => ?_) (fun c_17 => ?_)
              · skip
                refine zw_iconst (v := 0) E dX3_fits_229 (by decide) (pc' := 230) rfl ?_
                exact zw_zret E hr hlk dX3_fits_230 rfl (by unfold m_fits m_fbuy; rw [if_neg s_1, if_neg s_2, if_neg s_5, if_neg s_12, if_neg s_15, if_pos s_16, if_neg c_17]) rfl
              · skip
                refine zw_aload_n (i := 0) (x := am 0) E 3 dX3_fits_209 rfl rfl (pc' := 210) rfl ?_
                refine zw_get (v := .int g.2.2.2) E 0 19 iX3_fits_X3 fX3_fits_110 rfl rfl (by decide) rfl rfl dX3_fits_210 (pc' := 213) rfl ?_
                refine zw_if_eq (tgt := 229) E dX3_fits_213 (by decide) (pc' := 216) rfl (fun c_18 => ?_) (fun c_18 => ?_)
                · skip
                  refine zw_iconst (v := 0) E dX3_fits_229 (by decide) (pc' := 230) rfl ?_
                  exact zw_zret E hr hlk dX3_fits_230 rfl (by unfold m_fits m_fbuy; rw [if_neg s_1, if_neg s_2, if_neg s_5, if_neg s_12, if_neg s_15, if_pos s_16, if_pos c_17, if_pos c_18]) rfl
                · skip
                  refine zw_aload_n (i := 0) (x := am 0) E 3 dX3_fits_216 rfl rfl (pc' := 217) rfl ?_
                  refine zw_get (v := .ref (am 17)) E 0 18 iX3_fits_X3 fX3_fits_59 rfl rfl (by decide) rfl rfl dX3_fits_217 (pc' := 220) rfl ?_
                  refine zw_iload_n (i := 3) (x := g.1 2 en) E 2 dX3_fits_220 rfl rfl (pc' := 221) rfl ?_
                  refine zw_zald (j := (g.1 2 en).toNatClampNeg) (x := g.1 16 ((g.1 2 en).toNatClampNeg)) E 17 1 rfl rfl (zw_mfin hf60 c_17.1) rfl rfl dX3_fits_221 (pc' := 222) rfl ?_
                  refine zw_if_ne (tgt := 229) E dX3_fits_222 (by decide) (pc' := 225) rfl (fun c_19 => ?_) (fun c_19 => ?_)
                  · skip
                    refine zw_iconst (v := 0) E dX3_fits_229 (by decide) (pc' := 230) rfl ?_
                    exact zw_zret E hr hlk dX3_fits_230 rfl (by unfold m_fits m_fbuy; rw [if_neg s_1, if_neg s_2, if_neg s_5, if_neg s_12, if_neg s_15, if_pos s_16, if_pos c_17, if_neg c_18, if_neg c_19]) rfl
                  · skip
                    refine zw_iconst (v := 1) E dX3_fits_225 (by decide) (pc' := 226) rfl ?_
                    refine zw_goto (tgt := 230) E dX3_fits_226 (by decide) ?_
                    exact zw_zret E hr hlk dX3_fits_230 rfl (by unfold m_fits m_fbuy; rw [if_neg s_1, if_neg s_2, if_neg s_5, if_neg s_12, if_neg s_15, if_pos s_16, if_pos c_17, if_neg c_18, if_pos c_19]) rfl
            · skip
              refine zw_tableOut (tgt := 231) E dX3_fits_24 (by have q0 := lv_neT (a := 1) s_1 rfl; have q1 := lv_neT (a := 2) s_2 rfl; have q2 := lv_neT (a := 3) s_5 rfl; have q3 := lv_neT (a := 4) s_12 rfl; have q4 := lv_neT (a := 5) s_15 rfl; have q5 := lv_neT (a := 6) s_16 rfl; omega) (by decide) ?_
              refine zw_iconst (v := 0) E dX3_fits_231 (by decide) (pc' := 232) rfl ?_
              refine zw_istore (lv' := [(6, .int 0), (5, .int 0), (4, .int (g.1 3 en)), (3, .int (g.1 2 en)), (0, .ref (am 0)), (1, .int (nI n)), (2, .int (nI en))]) E dX3_fits_232 (by decide) rfl (pc' := 234) rfl ?_
              have e1 : m_fits g n en = m_fset g n en := by unfold m_fits; rw [if_neg s_1, if_neg s_2, if_neg s_5, if_neg s_12, if_neg s_15, if_neg s_16]
              rw [e1]
              refine zw_sub [4, 5, 6, 3, 2, 1, 0] (lv' := [(0, .ref (am 0)), (1, .int (nI n)), (2, .int (nI en)), (3, .int (g.1 2 en)), (4, .int (g.1 3 en)), (5, .int 0), (6, .int 0)]) rfl ?_
              exact lX3_fits E hr hlk am g n en hn hm hy 61 0 (by omega) (by omega)
