/-! THE STATES: rows and numbers of the class's and of the reference's objects, and their worlds -/
def zT (K : Nat → ClassId) : List (ClassId × FieldType) := [(K 0, .int), (K 1, .boolean), (K 2, .long), (K 3, .array .int)]
def zb (P : Prop) [Decidable P] : Int32 := if P then 1 else 0
theorem zb_t {P : Prop} [Decidable P] (h : P) : zb P = 1 := if_pos h
theorem zb_f {P : Prop} [Decidable P] (h : ¬ P) : zb P = 0 := if_neg h
theorem zb_0 {P : Prop} [Decidable P] : zb P = 0 ↔ ¬ P := by
  by_cases h : P
  · rw [zb_t h]; exact ⟨fun q => absurd q (by decide), fun q => absurd h q⟩
  · rw [zb_f h]; exact ⟨fun _ => h, fun _ => rfl⟩
theorem zb_nar {P : Prop} [Decidable P] : narrow .boolean (.int (zb P)) = .int (zb P) := by
  by_cases h : P
  · rw [zb_t h]; rfl
  · rw [zb_f h]; rfl
theorem zb_vp {P : Prop} [Decidable P] : vp_nar .boolean (zb P) = zb P := by
  by_cases h : P
  · rw [zb_t h]; rfl
  · rw [zb_f h]; rfl
theorem zw_inc1 (k : Nat) : nI k + Int32.ofInt 1 = nI (k + 1) := by
  rw [show Int32.ofInt 1 = 1 by decide]
  exact nI_1 k
theorem zw_clamp {n N : Nat} (h : n < N) (hN : N < 2 ^ 31) : (nI n).toNatClampNeg = n := nI_clamp (Nat.lt_trans h hN)
def up2 (f : Nat → Nat → Int32) (r i : Nat) (x : Int32) : Nat → Nat → Int32 := fun r' => if r' = r then upd (f r) i x else f r'
def up2L (f : Nat → Nat → Int64) (r i : Nat) (x : Int64) : Nat → Nat → Int64 := fun r' => if r' = r then vp_updL (f r) i x else f r'
/-- the book: rows act 0, year 1, first 2, second 3, amount 4, kind 5, owner 6, made 7, order 8, maker 9, ender 10; numbers acts 0, size 1, fields 2 -/
abbrev Bk : Type := (Nat → Nat → Int32) × (Nat → Nat)
def bk_row (b : Bk) (r i : Nat) (x : Int32) : Bk := (up2 b.1 r i x, b.2)
def bk_sc (b : Bk) (k n : Nat) : Bk := (b.1, fun j => if j = k then n else b.2 j)
def bk_W (K : Nat → ClassId) (ad : Nat → Nat) (b : Bk) : va_W :=
  [(ad 0, .inr (0, [.ref (ad 1), .ref (ad 2), .ref (ad 3), .ref (ad 4), .ref (ad 5), .ref (ad 6), .ref (ad 7), .ref (ad 8), .ref (ad 9), .ref (ad 10), .ref (ad 11), .int (nI (b.2 0)), .int (nI (b.2 1)), .int (nI (b.2 2))])),
   (ad 1, .inl (K 0, 80, .inl (b.1 0))), (ad 2, .inl (K 0, 80, .inl (b.1 1))), (ad 3, .inl (K 0, 80, .inl (b.1 2))), (ad 4, .inl (K 0, 80, .inl (b.1 3))), (ad 5, .inl (K 0, 80, .inl (b.1 4))), (ad 6, .inl (K 0, 80, .inl (b.1 5))), (ad 7, .inl (K 0, 80, .inl (b.1 6))), (ad 8, .inl (K 0, 80, .inl (b.1 7))), (ad 9, .inl (K 0, 80, .inl (b.1 8))), (ad 10, .inl (K 0, 60, .inl (b.1 9))), (ad 11, .inl (K 0, 60, .inl (b.1 10)))]
theorem bk_fst (K : Nat → ClassId) (ad : Nat → Nat) (b : Bk) : (bk_W K ad b).map Prod.fst = (List.range 12).map ad := rfl
theorem bk_ad (K : Nat → ClassId) (ad : Nat → Nat) (b b2 : Bk) : (bk_W K ad b).map Prod.fst = (bk_W K ad b2).map Prod.fst := (bk_fst K ad b).trans (bk_fst K ad b2).symm
/-- the land: int rows there 0, area 1, kind 2, owner 3, bought 4, share 5, means 6, charges 7, 8, 9; long rows weight 0, remainder 1; settled -/
abbrev Ld : Type := (Nat → Nat → Int32) × (Nat → Nat → Int64) × Int32
def ld_row (d : Ld) (r i : Nat) (x : Int32) : Ld := (up2 d.1 r i x, d.2)
def ld_rowL (d : Ld) (r i : Nat) (x : Int64) : Ld := (d.1, up2L d.2.1 r i x, d.2.2)
def ld_set (d : Ld) (v : Int32) : Ld := (d.1, d.2.1, v)
def ld_W (K : Nat → ClassId) (ad : Nat → Nat) (bq : Nat) (d : Ld) : va_W :=
  [(ad 0, .inr (1, [.ref bq, .ref (ad 1), .ref (ad 2), .ref (ad 3), .ref (ad 4), .ref (ad 5), .ref (ad 6), .ref (ad 7), .ref (ad 8), .ref (ad 9), .ref (ad 10), .int d.2.2])),
   (ad 1, .inl (K 1, 60, .inl (d.1 0))), (ad 2, .inl (K 0, 60, .inl (d.1 1))), (ad 3, .inl (K 0, 60, .inl (d.1 2))), (ad 4, .inl (K 0, 60, .inl (d.1 3))),
   (ad 5, .inl (K 3, 3, .inr (.inr (.inr (.inr (fun i => if i < 3 then some (ad (11 + i)) else none)))))),
   (ad 6, .inl (K 1, 60, .inl (d.1 4))), (ad 7, .inl (K 2, 60, .inr (.inl (d.2.1 0)))), (ad 8, .inl (K 0, 60, .inl (d.1 5))), (ad 9, .inl (K 2, 60, .inr (.inl (d.2.1 1)))), (ad 10, .inl (K 0, 3, .inl (d.1 6))),
   (ad 11, .inl (K 0, 60, .inl (d.1 7))), (ad 12, .inl (K 0, 60, .inl (d.1 8))), (ad 13, .inl (K 0, 60, .inl (d.1 9)))]
theorem ld_fst (K : Nat → ClassId) (ad : Nat → Nat) (bq : Nat) (d : Ld) : (ld_W K ad bq d).map Prod.fst = (List.range 14).map ad := rfl
theorem ld_ad (K : Nat → ClassId) (ad : Nat → Nat) (bq : Nat) (d d2 : Ld) : (ld_W K ad bq d).map Prod.fst = (ld_W K ad bq d2).map Prod.fst := (ld_fst K ad bq d).trans (ld_fst K ad bq d2).symm
def lb_W (K : Nat → ClassId) (al ab : Nat → Nat) (d : Ld) (b : Bk) : va_W := ld_W K al (ab 0) d ++ bk_W K ab b
theorem lb_fst (K : Nat → ClassId) (al ab : Nat → Nat) (d : Ld) (b : Bk) : (lb_W K al ab d b).map Prod.fst = (List.range 14).map al ++ (List.range 12).map ab := rfl
theorem lb_ad (K : Nat → ClassId) (al ab : Nat → Nat) (d d2 : Ld) (b b2 : Bk) : (lb_W K al ab d b).map Prod.fst = (lb_W K al ab d2 b2).map Prod.fst := (lb_fst K al ab d b).trans (lb_fst K al ab d2 b2).symm
def tm_W (K : Nat → ClassId) (a0 : Nat) (ab al ao : Nat → Nat) (b : Bk) (d o : Ld) : va_W := (a0, .inr (2, [.ref (ab 0), .ref (al 0), .ref (ao 0)])) :: (bk_W K ab b ++ (ld_W K al (ab 0) d ++ ld_W K ao (ab 0) o))
def l2_W (K : Nat → ClassId) (al ao : Nat → Nat) (bq : Nat) (d o : Ld) : va_W := ld_W K al bq d ++ ld_W K ao bq o
/-- the reference: int rows sort 0, year 1, one 2, two 3, more 4, most 5, made 6, madeBy 7, endedBy 8, firstOf 9, secondOf 10, isThere 11, area 12, kind 13, owner 14, charge 15, isBought 16, was 17; long rows share 0, rest 1; numbers entries 0, fields 1; isSettled -/
abbrev Md : Type := (Nat → Nat → Int32) × (Nat → Nat → Int64) × (Nat → Nat) × Int32
def md_row (g : Md) (r i : Nat) (x : Int32) : Md := (up2 g.1 r i x, g.2)
def md_rowL (g : Md) (r i : Nat) (x : Int64) : Md := (g.1, up2L g.2.1 r i x, g.2.2)
def md_sc (g : Md) (k n : Nat) : Md := (g.1, g.2.1, (fun j => if j = k then n else g.2.2.1 j), g.2.2.2)
def md_set (g : Md) (v : Int32) : Md := (g.1, g.2.1, g.2.2.1, v)
def md_W (K : Nat → ClassId) (ad : Nat → Nat) (g : Md) : va_W :=
  [(ad 0, .inr (3, [.int (nI (g.2.2.1 0)), .int (nI (g.2.2.1 1)), .ref (ad 1), .ref (ad 2), .ref (ad 3), .ref (ad 4), .ref (ad 5), .ref (ad 6), .ref (ad 7), .ref (ad 8), .ref (ad 9), .ref (ad 10), .ref (ad 11), .ref (ad 12), .ref (ad 13), .ref (ad 14), .ref (ad 15), .ref (ad 16), .ref (ad 17), .int g.2.2.2, .ref (ad 18), .ref (ad 19), .ref (ad 20)])),
   (ad 1, .inl (K 0, 80, .inl (g.1 0))), (ad 2, .inl (K 0, 80, .inl (g.1 1))), (ad 3, .inl (K 0, 80, .inl (g.1 2))), (ad 4, .inl (K 0, 80, .inl (g.1 3))), (ad 5, .inl (K 0, 80, .inl (g.1 4))), (ad 6, .inl (K 0, 80, .inl (g.1 5))), (ad 7, .inl (K 0, 80, .inl (g.1 6))), (ad 8, .inl (K 0, 60, .inl (g.1 7))), (ad 9, .inl (K 0, 60, .inl (g.1 8))), (ad 10, .inl (K 0, 60, .inl (g.1 9))), (ad 11, .inl (K 0, 60, .inl (g.1 10))), (ad 12, .inl (K 1, 60, .inl (g.1 11))), (ad 13, .inl (K 0, 60, .inl (g.1 12))), (ad 14, .inl (K 0, 60, .inl (g.1 13))), (ad 15, .inl (K 0, 60, .inl (g.1 14))), (ad 16, .inl (K 0, 180, .inl (g.1 15))), (ad 17, .inl (K 1, 60, .inl (g.1 16))), (ad 18, .inl (K 2, 60, .inr (.inl (g.2.1 0)))), (ad 19, .inl (K 2, 60, .inr (.inl (g.2.1 1)))), (ad 20, .inl (K 0, 480, .inl (g.1 17)))]
theorem md_fst (K : Nat → ClassId) (ad : Nat → Nat) (g : Md) : (md_W K ad g).map Prod.fst = (List.range 21).map ad := rfl
theorem md_ad (K : Nat → ClassId) (ad : Nat → Nat) (g g2 : Md) : (md_W K ad g).map Prod.fst = (md_W K ad g2).map Prod.fst := (md_fst K ad g).trans (md_fst K ad g2).symm
theorem tm_ad (K : Nat → ClassId) (a0 : Nat) (ab al ao : Nat → Nat) (b b2 : Bk) (d d2 o o2 : Ld) : (tm_W K a0 ab al ao b d o).map Prod.fst = (tm_W K a0 ab al ao b2 d2 o2).map Prod.fst := (show _ = a0 :: ((List.range 12).map ab ++ ((List.range 14).map al ++ (List.range 14).map ao)) from rfl).trans (show a0 :: ((List.range 12).map ab ++ ((List.range 14).map al ++ (List.range 14).map ao)) = _ from rfl)
def rmX0_draft : Room := { frames := 1, cells := 0, slots := 0, locals := 22 }
def rmX0_end : Room := { frames := 0, cells := 0, slots := 0, locals := 0 }
def rmX0_fileDraft : Room := { frames := 1, cells := 0, slots := 0, locals := 21 }
def rmX0_isFull : Room := { frames := 0, cells := 0, slots := 0, locals := 0 }
def rmX0_keep : Room := { frames := 1, cells := 0, slots := 0, locals := 22 }
def rmX0_mean : Room := { frames := 1, cells := 0, slots := 0, locals := 21 }
def rmX0_put : Room := { frames := 0, cells := 0, slots := 0, locals := 0 }
def rmX0_withdrawDraft : Room := { frames := 0, cells := 0, slots := 0, locals := 0 }
def rmX1_areMeansKnown : Room := { frames := 2, cells := 0, slots := 0, locals := 49 }
def rmX1_chargeShare : Room := { frames := 1, cells := 0, slots := 0, locals := 21 }
def rmX1_clearCharge : Room := { frames := 0, cells := 0, slots := 0, locals := 0 }
def rmX1_greatestRemainder : Room := { frames := 0, cells := 0, slots := 0, locals := 0 }
def rmX1_howMany : Room := { frames := 0, cells := 0, slots := 0, locals := 0 }
def rmX1_isNumber : Room := { frames := 0, cells := 0, slots := 0, locals := 0 }
def rmX1_isOtherwise : Room := { frames := 2, cells := 0, slots := 0, locals := 43 }
def rmX1_isThere : Room := { frames := 0, cells := 0, slots := 0, locals := 0 }
def rmX1_shareOut : Room := { frames := 1, cells := 0, slots := 0, locals := 22 }
def rmX1_show : Room := { frames := 5, cells := 0, slots := 0, locals := 123 }
def rmX1_sumOf : Room := { frames := 2, cells := 0, slots := 0, locals := 43 }
def rmX1_tell : Room := { frames := 1, cells := 0, slots := 0, locals := 21 }
def rmX1_tryAct : Room := { frames := 4, cells := 0, slots := 0, locals := 98 }
def rmX1_tryBuy : Room := { frames := 1, cells := 0, slots := 0, locals := 22 }
def rmX1_tryJoin : Room := { frames := 2, cells := 0, slots := 0, locals := 46 }
def rmX1_tryMake : Room := { frames := 1, cells := 0, slots := 0, locals := 22 }
def rmX1_tryPart : Room := { frames := 2, cells := 0, slots := 0, locals := 46 }
def rmX1_trySell : Room := { frames := 1, cells := 0, slots := 0, locals := 21 }
def rmX1_trySettle : Room := { frames := 3, cells := 0, slots := 0, locals := 72 }
def rmX1_weighAll : Room := { frames := 0, cells := 0, slots := 0, locals := 0 }
def rmX1_worth : Room := { frames := 3, cells := 0, slots := 0, locals := 72 }
def rmX1_worthByMeans : Room := { frames := 1, cells := 0, slots := 0, locals := 20 }
def rmX1_worthOfAll : Room := { frames := 3, cells := 0, slots := 0, locals := 72 }
def rmX2_at : Room := { frames := 0, cells := 0, slots := 0, locals := 0 }
def rmX2_average : Room := { frames := 2, cells := 0, slots := 0, locals := 49 }
def rmX2_buy : Room := { frames := 7, cells := 0, slots := 0, locals := 169 }
def rmX2_cost : Room := { frames := 6, cells := 0, slots := 0, locals := 148 }
def rmX2_count : Room := { frames := 0, cells := 0, slots := 0, locals := 0 }
def rmX2_differ : Room := { frames := 6, cells := 0, slots := 0, locals := 148 }
def rmX2_entry : Room := { frames := 2, cells := 0, slots := 0, locals := 42 }
def rmX2_field : Room := { frames := 2, cells := 0, slots := 0, locals := 43 }
def rmX2_firstMadeBy : Room := { frames := 1, cells := 0, slots := 0, locals := 21 }
def rmX2_isActPossible : Room := { frames := 1, cells := 0, slots := 0, locals := 22 }
def rmX2_isField : Room := { frames := 1, cells := 0, slots := 0, locals := 22 }
def rmX2_isKnowing : Room := { frames := 1, cells := 0, slots := 0, locals := 22 }
def rmX2_isOwner : Room := { frames := 1, cells := 0, slots := 0, locals := 22 }
def rmX2_isWithin : Room := { frames := 0, cells := 0, slots := 0, locals := 0 }
def rmX2_join : Room := { frames := 7, cells := 0, slots := 0, locals := 169 }
def rmX2_look : Room := { frames := 6, cells := 0, slots := 0, locals := 148 }
def rmX2_make : Room := { frames := 7, cells := 0, slots := 0, locals := 169 }
def rmX2_money : Room := { frames := 6, cells := 0, slots := 0, locals := 148 }
def rmX2_owed : Room := { frames := 6, cells := 0, slots := 0, locals := 148 }
def rmX2_parish : Room := { frames := 6, cells := 0, slots := 0, locals := 148 }
def rmX2_part : Room := { frames := 7, cells := 0, slots := 0, locals := 169 }
def rmX2_price : Room := { frames := 2, cells := 0, slots := 0, locals := 45 }
def rmX2_sell : Room := { frames := 7, cells := 0, slots := 0, locals := 169 }
def rmX2_settle : Room := { frames := 7, cells := 0, slots := 0, locals := 169 }
def rmX2_takeDraft : Room := { frames := 6, cells := 0, slots := 0, locals := 148 }
def rmX3_average : Room := { frames := 2, cells := 0, slots := 0, locals := 52 }
def rmX3_averageOf : Room := { frames := 1, cells := 0, slots := 0, locals := 25 }
def rmX3_buy : Room := { frames := 7, cells := 0, slots := 0, locals := 173 }
def rmX3_comes : Room := { frames := 0, cells := 0, slots := 0, locals := 0 }
def rmX3_cost : Room := { frames := 5, cells := 0, slots := 0, locals := 131 }
def rmX3_count : Room := { frames := 0, cells := 0, slots := 0, locals := 0 }
def rmX3_differ : Room := { frames := 5, cells := 0, slots := 0, locals := 131 }
def rmX3_does : Room := { frames := 3, cells := 0, slots := 0, locals := 82 }
def rmX3_entry : Room := { frames := 1, cells := 0, slots := 0, locals := 22 }
def rmX3_field : Room := { frames := 2, cells := 0, slots := 0, locals := 43 }
def rmX3_fits : Room := { frames := 3, cells := 0, slots := 0, locals := 64 }
def rmX3_is : Room := { frames := 2, cells := 0, slots := 0, locals := 43 }
def rmX3_isField : Room := { frames := 1, cells := 0, slots := 0, locals := 22 }
def rmX3_isKnowing : Room := { frames := 1, cells := 0, slots := 0, locals := 22 }
def rmX3_isMade : Room := { frames := 0, cells := 0, slots := 0, locals := 0 }
def rmX3_join : Room := { frames := 6, cells := 0, slots := 0, locals := 153 }
def rmX3_joins : Room := { frames := 1, cells := 0, slots := 0, locals := 26 }
def rmX3_lies : Room := { frames := 0, cells := 0, slots := 0, locals := 0 }
def rmX3_look : Room := { frames := 5, cells := 0, slots := 0, locals := 131 }
def rmX3_make : Room := { frames := 6, cells := 0, slots := 0, locals := 153 }
def rmX3_money : Room := { frames := 5, cells := 0, slots := 0, locals := 131 }
def rmX3_moneyOf : Room := { frames := 2, cells := 0, slots := 0, locals := 52 }
def rmX3_nearest : Room := { frames := 0, cells := 0, slots := 0, locals := 0 }
def rmX3_owed : Room := { frames := 5, cells := 0, slots := 0, locals := 131 }
def rmX3_parish : Room := { frames := 5, cells := 0, slots := 0, locals := 131 }
def rmX3_part : Room := { frames := 6, cells := 0, slots := 0, locals := 153 }
def rmX3_parts : Room := { frames := 1, cells := 0, slots := 0, locals := 26 }
def rmX3_price : Room := { frames := 1, cells := 0, slots := 0, locals := 26 }
def rmX3_priceOf : Room := { frames := 0, cells := 0, slots := 0, locals := 0 }
def rmX3_sell : Room := { frames := 7, cells := 0, slots := 0, locals := 173 }
def rmX3_settle : Room := { frames := 7, cells := 0, slots := 0, locals := 173 }
def rmX3_settles : Room := { frames := 2, cells := 0, slots := 0, locals := 52 }
def rmX3_taken : Room := { frames := 6, cells := 0, slots := 0, locals := 153 }
def rmX3_takes : Room := { frames := 5, cells := 0, slots := 0, locals := 131 }
def rmX3_tells : Room := { frames := 3, cells := 0, slots := 0, locals := 64 }
def rmX3_works : Room := { frames := 4, cells := 0, slots := 0, locals := 106 }
def rmX3_writes : Room := { frames := 0, cells := 0, slots := 0, locals := 0 }
section ZW2
variable {p : Program} {l : Launch} {e : Env} {R : Room} {s : State} {m : MethodId} {args : Array Value} {below : List Frame} {meth : Method} {c : Code} {cells slots : Nat} {Q : State → Prop} {cc : ByteArray} {nL : Nat} {own : String} {Ts : List Cond} {D : va_G} {tys : List (ClassId × FieldType)} {A : Nat → Prop} {pc pc' : Nat} {lv lv' : List (Nat × Value)} {st : List Value} {ws ws' : va_W}
theorem zw_topi {x x' : Int32} (h : x = x') (k : zw_W p l e R s m args below meth c nL D A cells slots Q pc lv (.int x' :: st) ws) : zw_W p l e R s m args below meth c nL D A cells slots Q pc lv (.int x :: st) ws := by rw [h]; exact k
theorem zw_topl {x x' : Int64} (h : x = x') (k : zw_W p l e R s m args below meth c nL D A cells slots Q pc lv (.long x' :: st) ws) : zw_W p l e R s m args below meth c nL D A cells slots Q pc lv (.long x :: st) ws := by rw [h]; exact k
theorem zw_ws (h : ws = ws') (k : zw_W p l e R s m args below meth c nL D A cells slots Q pc lv st ws') : zw_W p l e R s m args below meth c nL D A cells slots Q pc lv st ws := by rw [h]; exact k
theorem zw_gen_bk_b {K : Nat → ClassId} {ab : Nat → Nat} (x : Bk) (k : ∀ y, x = y → zw_W p l e R s m args below meth c nL D A cells slots Q pc lv st (bk_W K ab y)) : zw_W p l e R s m args below meth c nL D A cells slots Q pc lv st (bk_W K ab x) := k x rfl
theorem zw_gen_ld_d {K : Nat → ClassId} {al : Nat → Nat} {bq : Nat} (x : Ld) (k : ∀ y, x = y → zw_W p l e R s m args below meth c nL D A cells slots Q pc lv st (ld_W K al bq y)) : zw_W p l e R s m args below meth c nL D A cells slots Q pc lv st (ld_W K al bq x) := k x rfl
theorem zw_gen_lb_d {K : Nat → ClassId} {al ab : Nat → Nat} {b : Bk} (x : Ld) (k : ∀ y, x = y → zw_W p l e R s m args below meth c nL D A cells slots Q pc lv st (lb_W K al ab y b)) : zw_W p l e R s m args below meth c nL D A cells slots Q pc lv st (lb_W K al ab x b) := k x rfl
theorem zw_gen_tm_b {K : Nat → ClassId} {a0 : Nat} {ab al ao : Nat → Nat} {d o : Ld} (x : Bk) (k : ∀ y, x = y → zw_W p l e R s m args below meth c nL D A cells slots Q pc lv st (tm_W K a0 ab al ao y d o)) : zw_W p l e R s m args below meth c nL D A cells slots Q pc lv st (tm_W K a0 ab al ao x d o) := k x rfl
theorem zw_gen_tm_d {K : Nat → ClassId} {a0 : Nat} {ab al ao : Nat → Nat} {b : Bk} {o : Ld} (x : Ld) (k : ∀ y, x = y → zw_W p l e R s m args below meth c nL D A cells slots Q pc lv st (tm_W K a0 ab al ao b y o)) : zw_W p l e R s m args below meth c nL D A cells slots Q pc lv st (tm_W K a0 ab al ao b x o) := k x rfl
theorem zw_gen_tm_o {K : Nat → ClassId} {a0 : Nat} {ab al ao : Nat → Nat} {b : Bk} {d : Ld} (x : Ld) (k : ∀ y, x = y → zw_W p l e R s m args below meth c nL D A cells slots Q pc lv st (tm_W K a0 ab al ao b d y)) : zw_W p l e R s m args below meth c nL D A cells slots Q pc lv st (tm_W K a0 ab al ao b d x) := k x rfl
theorem zw_gen_md_g {K : Nat → ClassId} {am : Nat → Nat} (x : Md) (k : ∀ y, x = y → zw_W p l e R s m args below meth c nL D A cells slots Q pc lv st (md_W K am y)) : zw_W p l e R s m args below meth c nL D A cells slots Q pc lv st (md_W K am x) := k x rfl
theorem zw_ifb_eq (E : zw_E p s m args c cc nL own Ts D tys A) {P : Prop} [Decidable P] {off : Int} {tgt : Nat} (hdg : decode cc pc = .ok (.ifCond .eq off, 3)) (ht : (pc : Int) + off = (tgt : Int)) (hp : pc + 3 = pc') (kt : ¬ P → zw_W p l e R s m args below meth c nL D A cells slots Q tgt lv st ws) (kf : P → zw_W p l e R s m args below meth c nL D A cells slots Q pc' lv st ws) : zw_W p l e R s m args below meth c nL D A cells slots Q pc lv (.int (zb P) :: st) ws :=
  zw_if_eq E hdg ht hp (fun q => kt (zb_0.mp q)) (fun q => kf (Decidable.not_not.mp (fun h => q (zb_0.mpr h))))
theorem zw_ifb_ne (E : zw_E p s m args c cc nL own Ts D tys A) {P : Prop} [Decidable P] {off : Int} {tgt : Nat} (hdg : decode cc pc = .ok (.ifCond .ne off, 3)) (ht : (pc : Int) + off = (tgt : Int)) (hp : pc + 3 = pc') (kt : P → zw_W p l e R s m args below meth c nL D A cells slots Q tgt lv st ws) (kf : ¬ P → zw_W p l e R s m args below meth c nL D A cells slots Q pc' lv st ws) : zw_W p l e R s m args below meth c nL D A cells slots Q pc lv (.int (zb P) :: st) ws :=
  zw_if_ne E hdg ht hp (fun q => kt (Decidable.not_not.mp (fun h => q (zb_0.mpr h)))) (fun q => kf (zb_0.mp q))
theorem zw_cmp_le {x y : Int64} : lg_cmp x y ≤ 0 ↔ x ≤ y := by
  by_cases h1 : y < x
  · have : lg_cmp x y = 1 := by simp [lg_cmp, h1]
    rw [this]
    exact ⟨fun q => absurd q (by decide), fun q => absurd h1 (Int64.not_lt.mpr q)⟩
  · have h2 : x ≤ y := Int64.not_lt.mp h1
    refine ⟨fun _ => h2, fun _ => ?_⟩
    by_cases h3 : x = y
    · subst h3; simp [lg_cmp]
    · simp [lg_cmp, h1, h3]
theorem zw_cmp_eq {x y : Int64} : lg_cmp x y = 0 ↔ x = y := by
  by_cases h1 : y < x
  · have : lg_cmp x y = 1 := by simp [lg_cmp, h1]
    rw [this]
    exact ⟨fun q => absurd q (by decide), fun q => absurd (q ▸ h1) (Int64.lt_irrefl)⟩
  · by_cases h3 : x = y
    · subst h3; simp [lg_cmp]
    · simp [lg_cmp, h1, h3]
theorem zw_ifl_le (E : zw_E p s m args c cc nL own Ts D tys A) {x y : Int64} {off : Int} {tgt : Nat} (hdg : decode cc pc = .ok (.ifCond .le off, 3)) (ht : (pc : Int) + off = (tgt : Int)) (hp : pc + 3 = pc') (kt : x ≤ y → zw_W p l e R s m args below meth c nL D A cells slots Q tgt lv st ws) (kf : ¬ x ≤ y → zw_W p l e R s m args below meth c nL D A cells slots Q pc' lv st ws) : zw_W p l e R s m args below meth c nL D A cells slots Q pc lv (.int (lg_cmp x y) :: st) ws :=
  zw_if_le E hdg ht hp (fun q => kt (zw_cmp_le.mp q)) (fun q => kf (fun h => q (zw_cmp_le.mpr h)))
theorem zw_ifl_gt (E : zw_E p s m args c cc nL own Ts D tys A) {x y : Int64} {off : Int} {tgt : Nat} (hdg : decode cc pc = .ok (.ifCond .gt off, 3)) (ht : (pc : Int) + off = (tgt : Int)) (hp : pc + 3 = pc') (kt : ¬ x ≤ y → zw_W p l e R s m args below meth c nL D A cells slots Q tgt lv st ws) (kf : x ≤ y → zw_W p l e R s m args below meth c nL D A cells slots Q pc' lv st ws) : zw_W p l e R s m args below meth c nL D A cells slots Q pc lv (.int (lg_cmp x y) :: st) ws :=
  zw_if_gt E hdg ht hp (fun q => kt (fun h => absurd q (Int32.not_lt.mpr (zw_cmp_le.mpr h)))) (fun q => kf (zw_cmp_le.mp (Int32.not_lt.mp q)))
theorem zw_ifl_eq (E : zw_E p s m args c cc nL own Ts D tys A) {x y : Int64} {off : Int} {tgt : Nat} (hdg : decode cc pc = .ok (.ifCond .eq off, 3)) (ht : (pc : Int) + off = (tgt : Int)) (hp : pc + 3 = pc') (kt : x = y → zw_W p l e R s m args below meth c nL D A cells slots Q tgt lv st ws) (kf : ¬ x = y → zw_W p l e R s m args below meth c nL D A cells slots Q pc' lv st ws) : zw_W p l e R s m args below meth c nL D A cells slots Q pc lv (.int (lg_cmp x y) :: st) ws :=
  zw_if_eq E hdg ht hp (fun q => kt (zw_cmp_eq.mp q)) (fun q => kf (fun h => q (zw_cmp_eq.mpr h)))
theorem zw_ifl_ne (E : zw_E p s m args c cc nL own Ts D tys A) {x y : Int64} {off : Int} {tgt : Nat} (hdg : decode cc pc = .ok (.ifCond .ne off, 3)) (ht : (pc : Int) + off = (tgt : Int)) (hp : pc + 3 = pc') (kt : ¬ x = y → zw_W p l e R s m args below meth c nL D A cells slots Q tgt lv st ws) (kf : x = y → zw_W p l e R s m args below meth c nL D A cells slots Q pc' lv st ws) : zw_W p l e R s m args below meth c nL D A cells slots Q pc lv (.int (lg_cmp x y) :: st) ws :=
  zw_if_ne E hdg ht hp (fun q => kt (fun h => q (zw_cmp_eq.mpr h))) (fun q => kf (zw_cmp_eq.mp q))
end ZW2
