section
-- ===== PART A: goes FIRST, ahead of the names: the tables' words, and 'selects' of the private methods out of them =====
/-- a private method of a class that the tables say can be made, by its rows of tables_1 -/
def lw_okq (q : MethodName × Nat) : Prop := (q.1.cls ≠ "java/lang/invoke/MethodHandle" ∧ q.1.cls ≠ "java/lang/invoke/VarHandle") ∧ Cond.instantiable q.1.cls q.2 ∈ tables_1 ∧ Cond.privateMethod q.1 ∈ tables_1 ∧ Cond.instanceMethod q.1 ∈ tables_1
theorem lw_p0 : lw_okq (⟨"TitheMap$Book", "end", "(II)V"⟩, 14) := ⟨⟨by decide +kernel, by decide +kernel⟩, List.mem_of_getElem? (i := 15) (by decide +kernel), List.mem_of_getElem? (i := 172) (by decide +kernel), List.mem_of_getElem? (i := 173) (by decide +kernel)⟩
theorem lw_p1 : lw_okq (⟨"TitheMap", "isActPossible", "(II)Z"⟩, 3) := ⟨⟨by decide +kernel, by decide +kernel⟩, List.mem_of_getElem? (i := 7) (by decide +kernel), List.mem_of_getElem? (i := 180) (by decide +kernel), List.mem_of_getElem? (i := 181) (by decide +kernel)⟩
theorem lw_p2 : lw_okq (⟨"TitheMap", "takeDraft", "(I)I"⟩, 3) := ⟨⟨by decide +kernel, by decide +kernel⟩, List.mem_of_getElem? (i := 7) (by decide +kernel), List.mem_of_getElem? (i := 187) (by decide +kernel), List.mem_of_getElem? (i := 188) (by decide +kernel)⟩
theorem lw_p3 : lw_okq (⟨"TitheMap$Land", "tryAct", "(II)Z"⟩, 12) := ⟨⟨by decide +kernel, by decide +kernel⟩, List.mem_of_getElem? (i := 87) (by decide +kernel), List.mem_of_getElem? (i := 200) (by decide +kernel), List.mem_of_getElem? (i := 201) (by decide +kernel)⟩
theorem lw_p4 : lw_okq (⟨"TitheMap$Land", "tryMake", "(IIII)Z"⟩, 12) := ⟨⟨by decide +kernel, by decide +kernel⟩, List.mem_of_getElem? (i := 87) (by decide +kernel), List.mem_of_getElem? (i := 204) (by decide +kernel), List.mem_of_getElem? (i := 205) (by decide +kernel)⟩
theorem lw_p5 : lw_okq (⟨"TitheMap$Land", "clearCharge", "(I)V"⟩, 12) := ⟨⟨by decide +kernel, by decide +kernel⟩, List.mem_of_getElem? (i := 87) (by decide +kernel), List.mem_of_getElem? (i := 211) (by decide +kernel), List.mem_of_getElem? (i := 212) (by decide +kernel)⟩
theorem lw_p6 : lw_okq (⟨"TitheMap$Land", "tryPart", "(IIII)Z"⟩, 12) := ⟨⟨by decide +kernel, by decide +kernel⟩, List.mem_of_getElem? (i := 87) (by decide +kernel), List.mem_of_getElem? (i := 215) (by decide +kernel), List.mem_of_getElem? (i := 216) (by decide +kernel)⟩
theorem lw_p7 : lw_okq (⟨"TitheMap$Land", "tryJoin", "(III)Z"⟩, 12) := ⟨⟨by decide +kernel, by decide +kernel⟩, List.mem_of_getElem? (i := 87) (by decide +kernel), List.mem_of_getElem? (i := 223) (by decide +kernel), List.mem_of_getElem? (i := 224) (by decide +kernel)⟩
theorem lw_p8 : lw_okq (⟨"TitheMap$Land", "trySell", "(II)Z"⟩, 12) := ⟨⟨by decide +kernel, by decide +kernel⟩, List.mem_of_getElem? (i := 87) (by decide +kernel), List.mem_of_getElem? (i := 227) (by decide +kernel), List.mem_of_getElem? (i := 228) (by decide +kernel)⟩
theorem lw_p9 : lw_okq (⟨"TitheMap$Land", "trySettle", "(III)Z"⟩, 12) := ⟨⟨by decide +kernel, by decide +kernel⟩, List.mem_of_getElem? (i := 87) (by decide +kernel), List.mem_of_getElem? (i := 231) (by decide +kernel), List.mem_of_getElem? (i := 232) (by decide +kernel)⟩
theorem lw_p10 : lw_okq (⟨"TitheMap$Land", "weighAll", "()J"⟩, 12) := ⟨⟨by decide +kernel, by decide +kernel⟩, List.mem_of_getElem? (i := 87) (by decide +kernel), List.mem_of_getElem? (i := 235) (by decide +kernel), List.mem_of_getElem? (i := 236) (by decide +kernel)⟩
theorem lw_p11 : lw_okq (⟨"TitheMap$Land", "areMeansKnown", "(II)Z"⟩, 12) := ⟨⟨by decide +kernel, by decide +kernel⟩, List.mem_of_getElem? (i := 87) (by decide +kernel), List.mem_of_getElem? (i := 239) (by decide +kernel), List.mem_of_getElem? (i := 240) (by decide +kernel)⟩
theorem lw_p12 : lw_okq (⟨"TitheMap$Land", "shareOut", "(IJ)V"⟩, 12) := ⟨⟨by decide +kernel, by decide +kernel⟩, List.mem_of_getElem? (i := 87) (by decide +kernel), List.mem_of_getElem? (i := 250) (by decide +kernel), List.mem_of_getElem? (i := 251) (by decide +kernel)⟩
theorem lw_p13 : lw_okq (⟨"TitheMap$Land", "greatestRemainder", "()I"⟩, 12) := ⟨⟨by decide +kernel, by decide +kernel⟩, List.mem_of_getElem? (i := 87) (by decide +kernel), List.mem_of_getElem? (i := 254) (by decide +kernel), List.mem_of_getElem? (i := 255) (by decide +kernel)⟩
theorem lw_p14 : lw_okq (⟨"TitheMap$Land", "chargeShare", "(I)V"⟩, 12) := ⟨⟨by decide +kernel, by decide +kernel⟩, List.mem_of_getElem? (i := 87) (by decide +kernel), List.mem_of_getElem? (i := 258) (by decide +kernel), List.mem_of_getElem? (i := 259) (by decide +kernel)⟩
theorem lw_p15 : lw_okq (⟨"TitheMap$Land", "tryBuy", "(I)Z"⟩, 12) := ⟨⟨by decide +kernel, by decide +kernel⟩, List.mem_of_getElem? (i := 87) (by decide +kernel), List.mem_of_getElem? (i := 264) (by decide +kernel), List.mem_of_getElem? (i := 265) (by decide +kernel)⟩
def lw_privs_1 : List (MethodName × Nat) := [(⟨"TitheMap$Book", "end", "(II)V"⟩, 14), (⟨"TitheMap", "isActPossible", "(II)Z"⟩, 3), (⟨"TitheMap", "takeDraft", "(I)I"⟩, 3), (⟨"TitheMap$Land", "tryAct", "(II)Z"⟩, 12), (⟨"TitheMap$Land", "tryMake", "(IIII)Z"⟩, 12), (⟨"TitheMap$Land", "clearCharge", "(I)V"⟩, 12), (⟨"TitheMap$Land", "tryPart", "(IIII)Z"⟩, 12), (⟨"TitheMap$Land", "tryJoin", "(III)Z"⟩, 12), (⟨"TitheMap$Land", "trySell", "(II)Z"⟩, 12), (⟨"TitheMap$Land", "trySettle", "(III)Z"⟩, 12), (⟨"TitheMap$Land", "weighAll", "()J"⟩, 12), (⟨"TitheMap$Land", "areMeansKnown", "(II)Z"⟩, 12), (⟨"TitheMap$Land", "shareOut", "(IJ)V"⟩, 12), (⟨"TitheMap$Land", "greatestRemainder", "()I"⟩, 12), (⟨"TitheMap$Land", "chargeShare", "(I)V"⟩, 12), (⟨"TitheMap$Land", "tryBuy", "(I)Z"⟩, 12)]
theorem lw_r1 : ∀ q ∈ lw_privs_1, lw_okq q := List.forall_mem_cons.mpr ⟨lw_p0, List.forall_mem_cons.mpr ⟨lw_p1, List.forall_mem_cons.mpr ⟨lw_p2, List.forall_mem_cons.mpr ⟨lw_p3, List.forall_mem_cons.mpr ⟨lw_p4, List.forall_mem_cons.mpr ⟨lw_p5, List.forall_mem_cons.mpr ⟨lw_p6, List.forall_mem_cons.mpr ⟨lw_p7, List.forall_mem_cons.mpr ⟨lw_p8, List.forall_mem_cons.mpr ⟨lw_p9, List.forall_mem_cons.mpr ⟨lw_p10, List.forall_mem_cons.mpr ⟨lw_p11, List.forall_mem_cons.mpr ⟨lw_p12, List.forall_mem_cons.mpr ⟨lw_p13, List.forall_mem_cons.mpr ⟨lw_p14, List.forall_mem_cons.mpr ⟨lw_p15, fun _ h => absurd h List.not_mem_nil⟩⟩⟩⟩⟩⟩⟩⟩⟩⟩⟩⟩⟩⟩⟩⟩
theorem lw_p16 : lw_okq (⟨"TitheMap", "firstMadeBy", "(I)I"⟩, 3) := ⟨⟨by decide +kernel, by decide +kernel⟩, List.mem_of_getElem? (i := 7) (by decide +kernel), List.mem_of_getElem? (i := 272) (by decide +kernel), List.mem_of_getElem? (i := 273) (by decide +kernel)⟩
theorem lw_p17 : lw_okq (⟨"TitheMap", "isField", "(I)Z"⟩, 3) := ⟨⟨by decide +kernel, by decide +kernel⟩, List.mem_of_getElem? (i := 7) (by decide +kernel), List.mem_of_getElem? (i := 281) (by decide +kernel), List.mem_of_getElem? (i := 282) (by decide +kernel)⟩
theorem lw_p18 : lw_okq (⟨"TitheMap", "isKnowing", "(I)Z"⟩, 3) := ⟨⟨by decide +kernel, by decide +kernel⟩, List.mem_of_getElem? (i := 7) (by decide +kernel), List.mem_of_getElem? (i := 306) (by decide +kernel), List.mem_of_getElem? (i := 307) (by decide +kernel)⟩
theorem lw_p19 : lw_okq (⟨"TitheMap$Land", "worthByMeans", "(I)J"⟩, 12) := ⟨⟨by decide +kernel, by decide +kernel⟩, List.mem_of_getElem? (i := 87) (by decide +kernel), List.mem_of_getElem? (i := 328) (by decide +kernel), List.mem_of_getElem? (i := 329) (by decide +kernel)⟩
theorem lw_p20 : lw_okq (⟨"TitheMapModel", "isKnowing", "(I)Z"⟩, 23) := ⟨⟨by decide +kernel, by decide +kernel⟩, List.mem_of_getElem? (i := 381) (by decide +kernel), List.mem_of_getElem? (i := 461) (by decide +kernel), List.mem_of_getElem? (i := 462) (by decide +kernel)⟩
theorem lw_p21 : lw_okq (⟨"TitheMapModel", "averageOf", "(III)I"⟩, 23) := ⟨⟨by decide +kernel, by decide +kernel⟩, List.mem_of_getElem? (i := 381) (by decide +kernel), List.mem_of_getElem? (i := 468) (by decide +kernel), List.mem_of_getElem? (i := 469) (by decide +kernel)⟩
theorem lw_p22 : lw_okq (⟨"TitheMapModel", "priceOf", "(III)I"⟩, 23) := ⟨⟨by decide +kernel, by decide +kernel⟩, List.mem_of_getElem? (i := 381) (by decide +kernel), List.mem_of_getElem? (i := 472) (by decide +kernel), List.mem_of_getElem? (i := 473) (by decide +kernel)⟩
theorem lw_p23 : lw_okq (⟨"TitheMapModel", "writes", "(IIIIII)V"⟩, 23) := ⟨⟨by decide +kernel, by decide +kernel⟩, List.mem_of_getElem? (i := 381) (by decide +kernel), List.mem_of_getElem? (i := 484) (by decide +kernel), List.mem_of_getElem? (i := 485) (by decide +kernel)⟩
theorem lw_p24 : lw_okq (⟨"TitheMapModel", "takes", "(I)Z"⟩, 23) := ⟨⟨by decide +kernel, by decide +kernel⟩, List.mem_of_getElem? (i := 381) (by decide +kernel), List.mem_of_getElem? (i := 492) (by decide +kernel), List.mem_of_getElem? (i := 493) (by decide +kernel)⟩
theorem lw_p25 : lw_okq (⟨"TitheMapModel", "works", "(III)Z"⟩, 23) := ⟨⟨by decide +kernel, by decide +kernel⟩, List.mem_of_getElem? (i := 381) (by decide +kernel), List.mem_of_getElem? (i := 496) (by decide +kernel), List.mem_of_getElem? (i := 497) (by decide +kernel)⟩
theorem lw_p26 : lw_okq (⟨"TitheMapModel", "fits", "(II)Z"⟩, 23) := ⟨⟨by decide +kernel, by decide +kernel⟩, List.mem_of_getElem? (i := 381) (by decide +kernel), List.mem_of_getElem? (i := 500) (by decide +kernel), List.mem_of_getElem? (i := 501) (by decide +kernel)⟩
theorem lw_p27 : lw_okq (⟨"TitheMapModel", "is", "(I)Z"⟩, 23) := ⟨⟨by decide +kernel, by decide +kernel⟩, List.mem_of_getElem? (i := 381) (by decide +kernel), List.mem_of_getElem? (i := 504) (by decide +kernel), List.mem_of_getElem? (i := 505) (by decide +kernel)⟩
theorem lw_p28 : lw_okq (⟨"TitheMapModel", "isField", "(I)Z"⟩, 23) := ⟨⟨by decide +kernel, by decide +kernel⟩, List.mem_of_getElem? (i := 381) (by decide +kernel), List.mem_of_getElem? (i := 508) (by decide +kernel), List.mem_of_getElem? (i := 509) (by decide +kernel)⟩
theorem lw_p29 : lw_okq (⟨"TitheMapModel", "does", "(II)V"⟩, 23) := ⟨⟨by decide +kernel, by decide +kernel⟩, List.mem_of_getElem? (i := 381) (by decide +kernel), List.mem_of_getElem? (i := 512) (by decide +kernel), List.mem_of_getElem? (i := 513) (by decide +kernel)⟩
theorem lw_p30 : lw_okq (⟨"TitheMapModel", "comes", "(IIIIZ)V"⟩, 23) := ⟨⟨by decide +kernel, by decide +kernel⟩, List.mem_of_getElem? (i := 381) (by decide +kernel), List.mem_of_getElem? (i := 516) (by decide +kernel), List.mem_of_getElem? (i := 517) (by decide +kernel)⟩
theorem lw_p31 : lw_okq (⟨"TitheMapModel", "parts", "(I)V"⟩, 23) := ⟨⟨by decide +kernel, by decide +kernel⟩, List.mem_of_getElem? (i := 381) (by decide +kernel), List.mem_of_getElem? (i := 520) (by decide +kernel), List.mem_of_getElem? (i := 521) (by decide +kernel)⟩
def lw_privs_2 : List (MethodName × Nat) := [(⟨"TitheMap", "firstMadeBy", "(I)I"⟩, 3), (⟨"TitheMap", "isField", "(I)Z"⟩, 3), (⟨"TitheMap", "isKnowing", "(I)Z"⟩, 3), (⟨"TitheMap$Land", "worthByMeans", "(I)J"⟩, 12), (⟨"TitheMapModel", "isKnowing", "(I)Z"⟩, 23), (⟨"TitheMapModel", "averageOf", "(III)I"⟩, 23), (⟨"TitheMapModel", "priceOf", "(III)I"⟩, 23), (⟨"TitheMapModel", "writes", "(IIIIII)V"⟩, 23), (⟨"TitheMapModel", "takes", "(I)Z"⟩, 23), (⟨"TitheMapModel", "works", "(III)Z"⟩, 23), (⟨"TitheMapModel", "fits", "(II)Z"⟩, 23), (⟨"TitheMapModel", "is", "(I)Z"⟩, 23), (⟨"TitheMapModel", "isField", "(I)Z"⟩, 23), (⟨"TitheMapModel", "does", "(II)V"⟩, 23), (⟨"TitheMapModel", "comes", "(IIIIZ)V"⟩, 23), (⟨"TitheMapModel", "parts", "(I)V"⟩, 23)]
theorem lw_r2 : ∀ q ∈ lw_privs_2, lw_okq q := List.forall_mem_cons.mpr ⟨lw_p16, List.forall_mem_cons.mpr ⟨lw_p17, List.forall_mem_cons.mpr ⟨lw_p18, List.forall_mem_cons.mpr ⟨lw_p19, List.forall_mem_cons.mpr ⟨lw_p20, List.forall_mem_cons.mpr ⟨lw_p21, List.forall_mem_cons.mpr ⟨lw_p22, List.forall_mem_cons.mpr ⟨lw_p23, List.forall_mem_cons.mpr ⟨lw_p24, List.forall_mem_cons.mpr ⟨lw_p25, List.forall_mem_cons.mpr ⟨lw_p26, List.forall_mem_cons.mpr ⟨lw_p27, List.forall_mem_cons.mpr ⟨lw_p28, List.forall_mem_cons.mpr ⟨lw_p29, List.forall_mem_cons.mpr ⟨lw_p30, List.forall_mem_cons.mpr ⟨lw_p31, fun _ h => absurd h List.not_mem_nil⟩⟩⟩⟩⟩⟩⟩⟩⟩⟩⟩⟩⟩⟩⟩⟩
theorem lw_p32 : lw_okq (⟨"TitheMapModel", "joins", "(I)V"⟩, 23) := ⟨⟨by decide +kernel, by decide +kernel⟩, List.mem_of_getElem? (i := 381) (by decide +kernel), List.mem_of_getElem? (i := 524) (by decide +kernel), List.mem_of_getElem? (i := 525) (by decide +kernel)⟩
theorem lw_p33 : lw_okq (⟨"TitheMapModel", "settles", "(II)V"⟩, 23) := ⟨⟨by decide +kernel, by decide +kernel⟩, List.mem_of_getElem? (i := 381) (by decide +kernel), List.mem_of_getElem? (i := 528) (by decide +kernel), List.mem_of_getElem? (i := 529) (by decide +kernel)⟩
theorem lw_p34 : lw_okq (⟨"TitheMapModel", "isMade", "(III)V"⟩, 23) := ⟨⟨by decide +kernel, by decide +kernel⟩, List.mem_of_getElem? (i := 381) (by decide +kernel), List.mem_of_getElem? (i := 535) (by decide +kernel), List.mem_of_getElem? (i := 536) (by decide +kernel)⟩
theorem lw_p35 : lw_okq (⟨"TitheMapModel", "taken", "()I"⟩, 23) := ⟨⟨by decide +kernel, by decide +kernel⟩, List.mem_of_getElem? (i := 381) (by decide +kernel), List.mem_of_getElem? (i := 552) (by decide +kernel), List.mem_of_getElem? (i := 553) (by decide +kernel)⟩
theorem lw_p36 : lw_okq (⟨"TitheMapModel", "tells", "(II)I"⟩, 23) := ⟨⟨by decide +kernel, by decide +kernel⟩, List.mem_of_getElem? (i := 381) (by decide +kernel), List.mem_of_getElem? (i := 569) (by decide +kernel), List.mem_of_getElem? (i := 570) (by decide +kernel)⟩
theorem lw_p37 : lw_okq (⟨"TitheMapModel", "moneyOf", "(III)J"⟩, 23) := ⟨⟨by decide +kernel, by decide +kernel⟩, List.mem_of_getElem? (i := 381) (by decide +kernel), List.mem_of_getElem? (i := 577) (by decide +kernel), List.mem_of_getElem? (i := 578) (by decide +kernel)⟩
def lw_privs_3 : List (MethodName × Nat) := [(⟨"TitheMapModel", "joins", "(I)V"⟩, 23), (⟨"TitheMapModel", "settles", "(II)V"⟩, 23), (⟨"TitheMapModel", "isMade", "(III)V"⟩, 23), (⟨"TitheMapModel", "taken", "()I"⟩, 23), (⟨"TitheMapModel", "tells", "(II)I"⟩, 23), (⟨"TitheMapModel", "moneyOf", "(III)J"⟩, 23)]
theorem lw_r3 : ∀ q ∈ lw_privs_3, lw_okq q := List.forall_mem_cons.mpr ⟨lw_p32, List.forall_mem_cons.mpr ⟨lw_p33, List.forall_mem_cons.mpr ⟨lw_p34, List.forall_mem_cons.mpr ⟨lw_p35, List.forall_mem_cons.mpr ⟨lw_p36, List.forall_mem_cons.mpr ⟨lw_p37, fun _ h => absurd h List.not_mem_nil⟩⟩⟩⟩⟩⟩
def lw_privs : List (MethodName × Nat) := lw_privs_1 ++ (lw_privs_2 ++ (lw_privs_3))
def lw_tbl : List Cond := k2_sels lw_privs ++ tables_1
theorem lw_privs_ok : ∀ q ∈ lw_privs, lw_okq q := by
  show ∀ q ∈ lw_privs_1 ++ (lw_privs_2 ++ (lw_privs_3)), lw_okq q
  exact List.forall_mem_append.mpr ⟨lw_r1, List.forall_mem_append.mpr ⟨lw_r2, lw_r3⟩⟩
-- ===== end of PART A; then your names; then what follows =====
end
section
/-! ===== BEGIN words of one list among another's, by their places ===== -/
theorem goodIn_r {big : List Cond} (ws : List Cond) (ps : List Nat) (hp : ws = ps.filterMap (fun i => big[i]?)) (h : ws.all goodWord = true) : GoodIn big ws := by
  intro w hw
  have h1 := List.all_eq_true.mp h w hw
  rw [hp] at hw
  obtain ⟨i, -, hi⟩ := List.mem_filterMap.mp hw
  have hm : w ∈ big := by first | exact List.mem_of_getElem? hi | exact List.getElem?_mem hi
  exact ⟨hm, good_of_word h1⟩
theorem goodIn_app {big a b : List Cond} (ha : GoodIn big a) (hb : GoodIn big b) : GoodIn big (a ++ b) := fun w h => (List.mem_append.mp h).elim (ha w) (hb w)
theorem goodIn_ca {big a b : List Cond} {c : Cond} (ha : GoodIn big (c :: a)) (hb : GoodIn big b) : GoodIn big (c :: (a ++ b)) := fun w h => (List.mem_cons.mp h).elim (fun e => ha w (List.mem_cons.mpr (Or.inl e))) (fun h => (List.mem_append.mp h).elim (fun h => ha w (List.mem_cons.mpr (Or.inr h))) (hb w))
theorem goodIn_sub {big ws : List Cond} (hm : ∀ w ∈ ws, w ∈ big) (h : ws.all goodWord = true) : GoodIn big ws := fun w hw => ⟨hm w hw, good_of_word (List.all_eq_true.mp h w hw)⟩
/-! ===== END ===== -/


/-! ===== BEGIN printed: names, fields, word lists, decode rows ===== -/
def RX0 : String := "TitheMap$Book"
def TX0 : u_T := fun k => match k with
  | 0 => ("TitheMap$Book", "act", "[I", true)
  | 1 => ("TitheMap$Book", "year", "[I", true)
  | 2 => ("TitheMap$Book", "first", "[I", true)
  | 3 => ("TitheMap$Book", "second", "[I", true)
  | 4 => ("TitheMap$Book", "amount", "[I", true)
  | 5 => ("TitheMap$Book", "kind", "[I", true)
  | 6 => ("TitheMap$Book", "owner", "[I", true)
  | 7 => ("TitheMap$Book", "made", "[I", true)
  | 8 => ("TitheMap$Book", "order", "[I", true)
  | 9 => ("TitheMap$Book", "maker", "[I", true)
  | 10 => ("TitheMap$Book", "ender", "[I", true)
  | 11 => ("TitheMap$Book", "acts", "I", false)
  | 12 => ("TitheMap$Book", "size", "I", false)
  | _ => ("TitheMap$Book", "fields", "I", false)
def tyX0 : Nat → FieldType := fun k => match k with
  | 0 => .array .int
  | 1 => .array .int
  | 2 => .array .int
  | 3 => .array .int
  | 4 => .array .int
  | 5 => .array .int
  | 6 => .array .int
  | 7 => .array .int
  | 8 => .array .int
  | 9 => .array .int
  | 10 => .array .int
  | 11 => .int
  | 12 => .int
  | _ => .int
abbrev wsX00 : List Cond := u_ws RX0 TX0 14
theorem nmX0 : ∀ a, a < 14 → ∀ b, b < 14 → a ≠ b → (TX0 a).2.1 ≠ (TX0 b).2.1 := by decide +kernel
theorem tyX0_ok : ∀ k, k < 14 → parseFieldDescriptor (TX0 k).2.2.1 = some (tyX0 k) := by decide +kernel
abbrev cX0_init : ByteArray := prog_2_method_1_code
def yX0_init : MethodName := ⟨RX0, "<init>", "()V"⟩
abbrev cX0_isFull : ByteArray := prog_2_method_2_code
def yX0_isFull : MethodName := ⟨RX0, "isFull", "()Z"⟩
abbrev cX0_put : ByteArray := prog_2_method_3_code
def yX0_put : MethodName := ⟨RX0, "put", "([II)V"⟩
abbrev cX0_draft : ByteArray := prog_2_method_4_code
def yX0_draft : MethodName := ⟨RX0, "draft", "(II)V"⟩
abbrev cX0_fileDraft : ByteArray := prog_2_method_5_code
def yX0_fileDraft : MethodName := ⟨RX0, "fileDraft", "()V"⟩
abbrev cX0_withdrawDraft : ByteArray := prog_2_method_6_code
def yX0_withdrawDraft : MethodName := ⟨RX0, "withdrawDraft", "()V"⟩
abbrev cX0_keep : ByteArray := prog_2_method_7_code
def yX0_keep : MethodName := ⟨RX0, "keep", "(I)I"⟩
abbrev cX0_end : ByteArray := prog_2_method_8_code
def yX0_end : MethodName := ⟨RX0, "end", "(II)V"⟩
abbrev cX0_mean : ByteArray := prog_2_method_9_code
def yX0_mean : MethodName := ⟨RX0, "mean", "(III)I"⟩
def RX1 : String := "TitheMap$Land"
def TX1 : u_T := fun k => match k with
  | 0 => ("TitheMap$Land", "book", "LTitheMap$Book;", true)
  | 1 => ("TitheMap$Land", "there", "[Z", true)
  | 2 => ("TitheMap$Land", "area", "[I", true)
  | 3 => ("TitheMap$Land", "kind", "[I", true)
  | 4 => ("TitheMap$Land", "owner", "[I", true)
  | 5 => ("TitheMap$Land", "charge", "[[I", true)
  | 6 => ("TitheMap$Land", "bought", "[Z", true)
  | 7 => ("TitheMap$Land", "weight", "[J", true)
  | 8 => ("TitheMap$Land", "share", "[I", true)
  | 9 => ("TitheMap$Land", "remainder", "[J", true)
  | 10 => ("TitheMap$Land", "means", "[I", true)
  | _ => ("TitheMap$Land", "settled", "Z", false)
def tyX1 : Nat → FieldType := fun k => match k with
  | 0 => .object "TitheMap$Book"
  | 1 => .array .boolean
  | 2 => .array .int
  | 3 => .array .int
  | 4 => .array .int
  | 5 => .array (.array .int)
  | 6 => .array .boolean
  | 7 => .array .long
  | 8 => .array .int
  | 9 => .array .long
  | 10 => .array .int
  | _ => .boolean
abbrev wsX10 : List Cond := u_ws RX1 TX1 12
theorem nmX1 : ∀ a, a < 12 → ∀ b, b < 12 → a ≠ b → (TX1 a).2.1 ≠ (TX1 b).2.1 := by decide +kernel
theorem tyX1_ok : ∀ k, k < 12 → parseFieldDescriptor (TX1 k).2.2.1 = some (tyX1 k) := by decide +kernel
abbrev cX1_init : ByteArray := prog_3_method_1_code
def yX1_init : MethodName := ⟨RX1, "<init>", "(LTitheMap$Book;)V"⟩
abbrev cX1_show : ByteArray := prog_3_method_2_code
def yX1_show : MethodName := ⟨RX1, "show", "(III)Z"⟩
abbrev cX1_tryAct : ByteArray := prog_3_method_3_code
def yX1_tryAct : MethodName := ⟨RX1, "tryAct", "(II)Z"⟩
abbrev cX1_isNumber : ByteArray := prog_3_method_4_code
def yX1_isNumber : MethodName := ⟨RX1, "isNumber", "(I)Z"⟩
abbrev cX1_isThere : ByteArray := prog_3_method_5_code
def yX1_isThere : MethodName := ⟨RX1, "isThere", "(I)Z"⟩
abbrev cX1_tryMake : ByteArray := prog_3_method_6_code
def yX1_tryMake : MethodName := ⟨RX1, "tryMake", "(IIII)Z"⟩
abbrev cX1_clearCharge : ByteArray := prog_3_method_7_code
def yX1_clearCharge : MethodName := ⟨RX1, "clearCharge", "(I)V"⟩
abbrev cX1_tryPart : ByteArray := prog_3_method_8_code
def yX1_tryPart : MethodName := ⟨RX1, "tryPart", "(IIII)Z"⟩
abbrev cX1_tryJoin : ByteArray := prog_3_method_9_code
def yX1_tryJoin : MethodName := ⟨RX1, "tryJoin", "(III)Z"⟩
abbrev cX1_trySell : ByteArray := prog_3_method_10_code
def yX1_trySell : MethodName := ⟨RX1, "trySell", "(II)Z"⟩
abbrev cX1_tryBuy : ByteArray := prog_3_method_11_code
def yX1_tryBuy : MethodName := ⟨RX1, "tryBuy", "(I)Z"⟩
abbrev cX1_trySettle : ByteArray := prog_3_method_12_code
def yX1_trySettle : MethodName := ⟨RX1, "trySettle", "(III)Z"⟩
abbrev cX1_weighAll : ByteArray := prog_3_method_13_code
def yX1_weighAll : MethodName := ⟨RX1, "weighAll", "()J"⟩
abbrev cX1_shareOut : ByteArray := prog_3_method_14_code
def yX1_shareOut : MethodName := ⟨RX1, "shareOut", "(IJ)V"⟩
abbrev cX1_greatestRemainder : ByteArray := prog_3_method_15_code
def yX1_greatestRemainder : MethodName := ⟨RX1, "greatestRemainder", "()I"⟩
abbrev cX1_chargeShare : ByteArray := prog_3_method_16_code
def yX1_chargeShare : MethodName := ⟨RX1, "chargeShare", "(I)V"⟩
abbrev cX1_areMeansKnown : ByteArray := prog_3_method_17_code
def yX1_areMeansKnown : MethodName := ⟨RX1, "areMeansKnown", "(II)Z"⟩
abbrev cX1_worth : ByteArray := prog_3_method_18_code
def yX1_worth : MethodName := ⟨RX1, "worth", "(III)J"⟩
abbrev cX1_worthByMeans : ByteArray := prog_3_method_19_code
def yX1_worthByMeans : MethodName := ⟨RX1, "worthByMeans", "(I)J"⟩
abbrev cX1_worthOfAll : ByteArray := prog_3_method_20_code
def yX1_worthOfAll : MethodName := ⟨RX1, "worthOfAll", "(III)J"⟩
abbrev cX1_tell : ByteArray := prog_3_method_21_code
def yX1_tell : MethodName := ⟨RX1, "tell", "(II)I"⟩
abbrev cX1_howMany : ByteArray := prog_3_method_22_code
def yX1_howMany : MethodName := ⟨RX1, "howMany", "()I"⟩
abbrev cX1_sumOf : ByteArray := prog_3_method_23_code
def yX1_sumOf : MethodName := ⟨RX1, "sumOf", "(I)J"⟩
abbrev cX1_isOtherwise : ByteArray := prog_3_method_24_code
def yX1_isOtherwise : MethodName := ⟨RX1, "isOtherwise", "(LTitheMap$Land;I)Z"⟩
def RX2 : String := "TitheMap"
def TX2 : u_T := fun k => match k with
  | 0 => ("TitheMap", "book", "LTitheMap$Book;", true)
  | 1 => ("TitheMap", "land", "LTitheMap$Land;", true)
  | _ => ("TitheMap", "otherLand", "LTitheMap$Land;", true)
def tyX2 : Nat → FieldType := fun k => match k with
  | 0 => .object "TitheMap$Book"
  | 1 => .object "TitheMap$Land"
  | _ => .object "TitheMap$Land"
abbrev wsX20 : List Cond := u_ws RX2 TX2 3
theorem nmX2 : ∀ a, a < 3 → ∀ b, b < 3 → a ≠ b → (TX2 a).2.1 ≠ (TX2 b).2.1 := by decide +kernel
theorem tyX2_ok : ∀ k, k < 3 → parseFieldDescriptor (TX2 k).2.2.1 = some (tyX2 k) := by decide +kernel
abbrev cX2_init : ByteArray := prog_1_method_1_code
def yX2_init : MethodName := ⟨RX2, "<init>", "()V"⟩
abbrev cX2_price : ByteArray := prog_1_method_2_code
def yX2_price : MethodName := ⟨RX2, "price", "(III)I"⟩
abbrev cX2_make : ByteArray := prog_1_method_3_code
def yX2_make : MethodName := ⟨RX2, "make", "(IIII)I"⟩
abbrev cX2_part : ByteArray := prog_1_method_4_code
def yX2_part : MethodName := ⟨RX2, "part", "(III)I"⟩
abbrev cX2_join : ByteArray := prog_1_method_5_code
def yX2_join : MethodName := ⟨RX2, "join", "(III)I"⟩
abbrev cX2_sell : ByteArray := prog_1_method_6_code
def yX2_sell : MethodName := ⟨RX2, "sell", "(III)I"⟩
abbrev cX2_settle : ByteArray := prog_1_method_7_code
def yX2_settle : MethodName := ⟨RX2, "settle", "(II)I"⟩
abbrev cX2_buy : ByteArray := prog_1_method_8_code
def yX2_buy : MethodName := ⟨RX2, "buy", "(II)I"⟩
abbrev cX2_average : ByteArray := prog_1_method_9_code
def yX2_average : MethodName := ⟨RX2, "average", "(III)I"⟩
abbrev cX2_look : ByteArray := prog_1_method_10_code
def yX2_look : MethodName := ⟨RX2, "look", "(IIII)I"⟩
abbrev cX2_money : ByteArray := prog_1_method_11_code
def yX2_money : MethodName := ⟨RX2, "money", "(III)J"⟩
abbrev cX2_owed : ByteArray := prog_1_method_12_code
def yX2_owed : MethodName := ⟨RX2, "owed", "(III)J"⟩
abbrev cX2_parish : ByteArray := prog_1_method_13_code
def yX2_parish : MethodName := ⟨RX2, "parish", "(III)J"⟩
abbrev cX2_cost : ByteArray := prog_1_method_14_code
def yX2_cost : MethodName := ⟨RX2, "cost", "(II)J"⟩
abbrev cX2_field : ByteArray := prog_1_method_15_code
def yX2_field : MethodName := ⟨RX2, "field", "(II)I"⟩
abbrev cX2_differ : ByteArray := prog_1_method_16_code
def yX2_differ : MethodName := ⟨RX2, "differ", "(IIII)I"⟩
abbrev cX2_entry : ByteArray := prog_1_method_17_code
def yX2_entry : MethodName := ⟨RX2, "entry", "(II)I"⟩
abbrev cX2_count : ByteArray := prog_1_method_18_code
def yX2_count : MethodName := ⟨RX2, "count", "(I)I"⟩
abbrev cX2_isWithin : ByteArray := prog_1_method_19_code
def yX2_isWithin : MethodName := ⟨RX2, "isWithin", "(III)Z"⟩
abbrev cX2_isOwner : ByteArray := prog_1_method_20_code
def yX2_isOwner : MethodName := ⟨RX2, "isOwner", "(I)Z"⟩
abbrev cX2_at : ByteArray := prog_1_method_21_code
def yX2_at : MethodName := ⟨RX2, "at", "([II)I"⟩
abbrev cX2_isField : ByteArray := prog_1_method_22_code
def yX2_isField : MethodName := ⟨RX2, "isField", "(I)Z"⟩
abbrev cX2_isKnowing : ByteArray := prog_1_method_23_code
def yX2_isKnowing : MethodName := ⟨RX2, "isKnowing", "(I)Z"⟩
abbrev cX2_isActPossible : ByteArray := prog_1_method_24_code
def yX2_isActPossible : MethodName := ⟨RX2, "isActPossible", "(II)Z"⟩
abbrev cX2_firstMadeBy : ByteArray := prog_1_method_25_code
def yX2_firstMadeBy : MethodName := ⟨RX2, "firstMadeBy", "(I)I"⟩
abbrev cX2_takeDraft : ByteArray := prog_1_method_26_code
def yX2_takeDraft : MethodName := ⟨RX2, "takeDraft", "(I)I"⟩
def RX3 : String := "TitheMapModel"
def TX3 : u_T := fun k => match k with
  | 0 => ("TitheMapModel", "entries", "I", false)
  | 1 => ("TitheMapModel", "fields", "I", false)
  | 2 => ("TitheMapModel", "sort", "[I", true)
  | 3 => ("TitheMapModel", "year", "[I", true)
  | 4 => ("TitheMapModel", "one", "[I", true)
  | 5 => ("TitheMapModel", "two", "[I", true)
  | 6 => ("TitheMapModel", "more", "[I", true)
  | 7 => ("TitheMapModel", "most", "[I", true)
  | 8 => ("TitheMapModel", "made", "[I", true)
  | 9 => ("TitheMapModel", "madeBy", "[I", true)
  | 10 => ("TitheMapModel", "endedBy", "[I", true)
  | 11 => ("TitheMapModel", "firstOf", "[I", true)
  | 12 => ("TitheMapModel", "secondOf", "[I", true)
  | 13 => ("TitheMapModel", "isThere", "[Z", true)
  | 14 => ("TitheMapModel", "area", "[I", true)
  | 15 => ("TitheMapModel", "kind", "[I", true)
  | 16 => ("TitheMapModel", "owner", "[I", true)
  | 17 => ("TitheMapModel", "charge", "[I", true)
  | 18 => ("TitheMapModel", "isBought", "[Z", true)
  | 19 => ("TitheMapModel", "isSettled", "Z", false)
  | 20 => ("TitheMapModel", "share", "[J", true)
  | 21 => ("TitheMapModel", "rest", "[J", true)
  | _ => ("TitheMapModel", "was", "[I", true)
def tyX3 : Nat → FieldType := fun k => match k with
  | 0 => .int
  | 1 => .int
  | 2 => .array .int
  | 3 => .array .int
  | 4 => .array .int
  | 5 => .array .int
  | 6 => .array .int
  | 7 => .array .int
  | 8 => .array .int
  | 9 => .array .int
  | 10 => .array .int
  | 11 => .array .int
  | 12 => .array .int
  | 13 => .array .boolean
  | 14 => .array .int
  | 15 => .array .int
  | 16 => .array .int
  | 17 => .array .int
  | 18 => .array .boolean
  | 19 => .boolean
  | 20 => .array .long
  | 21 => .array .long
  | _ => .array .int
abbrev wsX30 : List Cond := u_ws RX3 TX3 23
theorem nmX3 : ∀ a, a < 23 → ∀ b, b < 23 → a ≠ b → (TX3 a).2.1 ≠ (TX3 b).2.1 := by decide +kernel
theorem tyX3_ok : ∀ k, k < 23 → parseFieldDescriptor (TX3 k).2.2.1 = some (tyX3 k) := by decide +kernel
abbrev cX3_init : ByteArray := prog_5_method_1_code
def yX3_init : MethodName := ⟨RX3, "<init>", "()V"⟩
abbrev cX3_lies : ByteArray := prog_5_method_2_code
def yX3_lies : MethodName := ⟨RX3, "lies", "(III)Z"⟩
abbrev cX3_isKnowing : ByteArray := prog_5_method_3_code
def yX3_isKnowing : MethodName := ⟨RX3, "isKnowing", "(I)Z"⟩
abbrev cX3_isField : ByteArray := prog_5_method_4_code
def yX3_isField : MethodName := ⟨RX3, "isField", "(I)Z"⟩
abbrev cX3_nearest : ByteArray := prog_5_method_5_code
def yX3_nearest : MethodName := ⟨RX3, "nearest", "(JJ)J"⟩
abbrev cX3_priceOf : ByteArray := prog_5_method_6_code
def yX3_priceOf : MethodName := ⟨RX3, "priceOf", "(III)I"⟩
abbrev cX3_averageOf : ByteArray := prog_5_method_7_code
def yX3_averageOf : MethodName := ⟨RX3, "averageOf", "(III)I"⟩
abbrev cX3_average : ByteArray := prog_5_method_8_code
def yX3_average : MethodName := ⟨RX3, "average", "(III)I"⟩
abbrev cX3_comes : ByteArray := prog_5_method_9_code
def yX3_comes : MethodName := ⟨RX3, "comes", "(IIIIZ)V"⟩
abbrev cX3_parts : ByteArray := prog_5_method_10_code
def yX3_parts : MethodName := ⟨RX3, "parts", "(I)V"⟩
abbrev cX3_joins : ByteArray := prog_5_method_11_code
def yX3_joins : MethodName := ⟨RX3, "joins", "(I)V"⟩
abbrev cX3_settles : ByteArray := prog_5_method_12_code
def yX3_settles : MethodName := ⟨RX3, "settles", "(II)V"⟩
abbrev cX3_is : ByteArray := prog_5_method_13_code
def yX3_is : MethodName := ⟨RX3, "is", "(I)Z"⟩
abbrev cX3_fits : ByteArray := prog_5_method_14_code
def yX3_fits : MethodName := ⟨RX3, "fits", "(II)Z"⟩
abbrev cX3_does : ByteArray := prog_5_method_15_code
def yX3_does : MethodName := ⟨RX3, "does", "(II)V"⟩
abbrev cX3_works : ByteArray := prog_5_method_16_code
def yX3_works : MethodName := ⟨RX3, "works", "(III)Z"⟩
abbrev cX3_writes : ByteArray := prog_5_method_17_code
def yX3_writes : MethodName := ⟨RX3, "writes", "(IIIIII)V"⟩
abbrev cX3_price : ByteArray := prog_5_method_18_code
def yX3_price : MethodName := ⟨RX3, "price", "(III)I"⟩
abbrev cX3_isMade : ByteArray := prog_5_method_19_code
def yX3_isMade : MethodName := ⟨RX3, "isMade", "(III)V"⟩
abbrev cX3_takes : ByteArray := prog_5_method_20_code
def yX3_takes : MethodName := ⟨RX3, "takes", "(I)Z"⟩
abbrev cX3_make : ByteArray := prog_5_method_21_code
def yX3_make : MethodName := ⟨RX3, "make", "(IIII)I"⟩
abbrev cX3_part : ByteArray := prog_5_method_22_code
def yX3_part : MethodName := ⟨RX3, "part", "(III)I"⟩
abbrev cX3_join : ByteArray := prog_5_method_23_code
def yX3_join : MethodName := ⟨RX3, "join", "(III)I"⟩
abbrev cX3_taken : ByteArray := prog_5_method_24_code
def yX3_taken : MethodName := ⟨RX3, "taken", "()I"⟩
abbrev cX3_sell : ByteArray := prog_5_method_25_code
def yX3_sell : MethodName := ⟨RX3, "sell", "(III)I"⟩
abbrev cX3_settle : ByteArray := prog_5_method_26_code
def yX3_settle : MethodName := ⟨RX3, "settle", "(II)I"⟩
abbrev cX3_buy : ByteArray := prog_5_method_27_code
def yX3_buy : MethodName := ⟨RX3, "buy", "(II)I"⟩
abbrev cX3_tells : ByteArray := prog_5_method_28_code
def yX3_tells : MethodName := ⟨RX3, "tells", "(II)I"⟩
abbrev cX3_look : ByteArray := prog_5_method_29_code
def yX3_look : MethodName := ⟨RX3, "look", "(IIII)I"⟩
abbrev cX3_moneyOf : ByteArray := prog_5_method_30_code
def yX3_moneyOf : MethodName := ⟨RX3, "moneyOf", "(III)J"⟩
abbrev cX3_money : ByteArray := prog_5_method_31_code
def yX3_money : MethodName := ⟨RX3, "money", "(III)J"⟩
abbrev cX3_owed : ByteArray := prog_5_method_32_code
def yX3_owed : MethodName := ⟨RX3, "owed", "(III)J"⟩
abbrev cX3_parish : ByteArray := prog_5_method_33_code
def yX3_parish : MethodName := ⟨RX3, "parish", "(III)J"⟩
abbrev cX3_cost : ByteArray := prog_5_method_34_code
def yX3_cost : MethodName := ⟨RX3, "cost", "(II)J"⟩
abbrev cX3_field : ByteArray := prog_5_method_35_code
def yX3_field : MethodName := ⟨RX3, "field", "(II)I"⟩
abbrev cX3_differ : ByteArray := prog_5_method_36_code
def yX3_differ : MethodName := ⟨RX3, "differ", "(IIII)I"⟩
abbrev cX3_entry : ByteArray := prog_5_method_37_code
def yX3_entry : MethodName := ⟨RX3, "entry", "(II)I"⟩
abbrev cX3_count : ByteArray := prog_5_method_38_code
def yX3_count : MethodName := ⟨RX3, "count", "(I)I"⟩
def RJ9 : String := "java/lang/Math"
def TJ9 : u_T := fun k => match k with
  | _ => ("", "", "", false)
def tyJ9 : Nat → FieldType := fun k => match k with
  | _ => .int
abbrev wsJ90 : List Cond := u_ws RJ9 TJ9 0
theorem nmJ9 : ∀ a, a < 0 → ∀ b, b < 0 → a ≠ b → (TJ9 a).2.1 ≠ (TJ9 b).2.1 := by decide +kernel
theorem tyJ9_ok : ∀ k, k < 0 → parseFieldDescriptor (TJ9 k).2.2.1 = some (tyJ9 k) := by decide +kernel
abbrev cJ9_min_7cf53 : ByteArray := prog_6_method_69_code
def yJ9_min_7cf53 : MethodName := ⟨RJ9, "min", "(II)I"⟩
def RL : String := "TitheMapLaw"
abbrev cL_law : ByteArray := code
def yL_law : MethodName := ⟨RL, "law", "([I)Z"⟩
def wsX0_init : List Cond := .code yX0_init cX0_init 1 none :: ([.methodLink RX0 3 objectInit, .instanceMethod objectInit, .code objectInit ⟨#[0xb1]⟩ 1 none, .arrayClass .int, .fieldLink RX0 9 "TitheMap$Book" "act" "[I", .fieldLink RX0 15 "TitheMap$Book" "year" "[I", .fieldLink RX0 18 "TitheMap$Book" "first" "[I", .fieldLink RX0 21 "TitheMap$Book" "second" "[I", .fieldLink RX0 24 "TitheMap$Book" "amount" "[I", .fieldLink RX0 27 "TitheMap$Book" "kind" "[I", .fieldLink RX0 30 "TitheMap$Book" "owner" "[I", .fieldLink RX0 33 "TitheMap$Book" "made" "[I", .fieldLink RX0 36 "TitheMap$Book" "order" "[I", .fieldLink RX0 39 "TitheMap$Book" "maker" "[I", .fieldLink RX0 42 "TitheMap$Book" "ender" "[I"] ++ wsX00)
def wsX0_isFull : List Cond := .code yX0_isFull cX0_isFull 1 (some .boolean) :: ([.fieldLink RX0 45 "TitheMap$Book" "size" "I"] ++ wsX00)
def wsX0_put : List Cond := .code yX0_put cX0_put 3 none :: ([.fieldLink RX0 45 "TitheMap$Book" "size" "I"] ++ wsX00)
def wsX0_draft : List Cond := .code yX0_draft cX0_draft 3 none :: ([.fieldLink RX0 9 "TitheMap$Book" "act" "[I", .fieldLink RX0 15 "TitheMap$Book" "year" "[I", .fieldLink RX0 18 "TitheMap$Book" "first" "[I", .fieldLink RX0 21 "TitheMap$Book" "second" "[I", .fieldLink RX0 24 "TitheMap$Book" "amount" "[I", .fieldLink RX0 27 "TitheMap$Book" "kind" "[I", .fieldLink RX0 30 "TitheMap$Book" "owner" "[I", .fieldLink RX0 33 "TitheMap$Book" "made" "[I", .methodLink RX0 49 yX0_put, .instanceMethod yX0_put, .selects RX0 yX0_put yX0_put, .initialized RX0, .code yX0_put cX0_put 3 none, .fieldLink RX0 45 "TitheMap$Book" "size" "I"] ++ wsX00)
def wsX2_at : List Cond := .code yX2_at cX2_at 2 (some .int) :: ([])
def wsX0_fileDraft : List Cond := .code yX0_fileDraft cX0_fileDraft 3 none :: ([.fieldLink RX0 53 "TitheMap$Book" "acts" "I", .fieldLink RX0 15 "TitheMap$Book" "year" "[I", .fieldLink RX0 45 "TitheMap$Book" "size" "I", .fieldLink RX0 36 "TitheMap$Book" "order" "[I", .static yX2_at, .initialized RX2, .code yX2_at cX2_at 2 (some .int)] ++ wsX00)
def wsX0_withdrawDraft : List Cond := .code yX0_withdrawDraft cX0_withdrawDraft 3 none :: ([.fieldLink RX0 53 "TitheMap$Book" "acts" "I", .fieldLink RX0 36 "TitheMap$Book" "order" "[I", .fieldLink RX0 45 "TitheMap$Book" "size" "I"] ++ wsX00)
def wsX0_end : List Cond := .code yX0_end cX0_end 3 none :: ([.fieldLink RX0 42 "TitheMap$Book" "ender" "[I"] ++ wsX00)
def wsX0_keep : List Cond := .code yX0_keep cX0_keep 4 (some .int) :: ([.fieldLink RX0 45 "TitheMap$Book" "size" "I", .fieldLink RX0 60 "TitheMap$Book" "fields" "I", .fieldLink RX0 39 "TitheMap$Book" "maker" "[I", .fieldLink RX0 42 "TitheMap$Book" "ender" "[I", .fieldLink RX0 9 "TitheMap$Book" "act" "[I", .fieldLink RX0 18 "TitheMap$Book" "first" "[I", .fieldLink RX0 21 "TitheMap$Book" "second" "[I", .static yX2_at, .initialized RX2, .code yX2_at cX2_at 2 (some .int), .methodLink RX0 63 yX0_end, .instanceMethod yX0_end, .selects RX0 yX0_end yX0_end, .initialized RX0, .code yX0_end cX0_end 3 none] ++ wsX00)
def wsX0_mean : List Cond := .code yX0_mean cX0_mean 9 (some .int) :: ([.methodLink RX0 67 Lib.Math.min.name, .static Lib.Math.min.name, .initialized "java/lang/Math", .code Lib.Math.min.name Lib.Math.min.code 2 (some .int), .fieldLink RX0 15 "TitheMap$Book" "year" "[I", .fieldLink RX0 9 "TitheMap$Book" "act" "[I", .fieldLink RX0 18 "TitheMap$Book" "first" "[I", .fieldLink RX0 24 "TitheMap$Book" "amount" "[I"] ++ wsX00)
def wsX1_init : List Cond := .code yX1_init cX1_init 2 none :: ([.methodLink RX1 3 objectInit, .instanceMethod objectInit, .code objectInit ⟨#[0xb1]⟩ 1 none, .arrayClass .boolean, .fieldLink RX1 9 "TitheMap$Land" "there" "[Z", .arrayClass .int, .fieldLink RX1 15 "TitheMap$Land" "area" "[I", .fieldLink RX1 19 "TitheMap$Land" "kind" "[I", .fieldLink RX1 22 "TitheMap$Land" "owner" "[I", .classLink RX1 25 "[[I", .fieldLink RX1 27 "TitheMap$Land" "charge" "[[I", .fieldLink RX1 30 "TitheMap$Land" "bought" "[Z", .arrayClass .long, .fieldLink RX1 33 "TitheMap$Land" "weight" "[J", .fieldLink RX1 37 "TitheMap$Land" "share" "[I", .fieldLink RX1 40 "TitheMap$Land" "remainder" "[J", .fieldLink RX1 43 "TitheMap$Land" "means" "[I", .fieldLink RX1 46 "TitheMap$Land" "book" "LTitheMap$Book;"] ++ wsX10)
def wsX1_isNumber : List Cond := .code yX1_isNumber cX1_isNumber 1 (some .boolean) :: ([])
def wsX1_clearCharge : List Cond := .code yX1_clearCharge cX1_clearCharge 3 none :: ([.fieldLink RX1 27 "TitheMap$Land" "charge" "[[I"] ++ wsX10)
def wsX1_tryMake : List Cond := .code yX1_tryMake cX1_tryMake 5 (some .boolean) :: ([.fieldLink RX1 9 "TitheMap$Land" "there" "[Z", .fieldLink RX1 15 "TitheMap$Land" "area" "[I", .fieldLink RX1 19 "TitheMap$Land" "kind" "[I", .fieldLink RX1 22 "TitheMap$Land" "owner" "[I", .fieldLink RX1 30 "TitheMap$Land" "bought" "[Z", .methodLink RX1 112 yX1_isNumber, .static yX1_isNumber, .initialized RX1, .code yX1_isNumber cX1_isNumber 1 (some .boolean), .methodLink RX1 115 yX1_clearCharge, .instanceMethod yX1_clearCharge, .selects RX1 yX1_clearCharge yX1_clearCharge, .code yX1_clearCharge cX1_clearCharge 3 none, .fieldLink RX1 27 "TitheMap$Land" "charge" "[[I"] ++ wsX10)
def wsX1_isThere : List Cond := .code yX1_isThere cX1_isThere 2 (some .boolean) :: ([.fieldLink RX1 9 "TitheMap$Land" "there" "[Z"] ++ wsX10)
def wsX1_tryPart : List Cond := .code yX1_tryPart cX1_tryPart 8 (some .boolean) :: ([.fieldLink RX1 15 "TitheMap$Land" "area" "[I", .fieldLink RX1 19 "TitheMap$Land" "kind" "[I", .fieldLink RX1 22 "TitheMap$Land" "owner" "[I", .fieldLink RX1 30 "TitheMap$Land" "bought" "[Z", .fieldLink RX1 27 "TitheMap$Land" "charge" "[[I", .fieldLink RX1 9 "TitheMap$Land" "there" "[Z", .methodLink RX1 119 yX1_isThere, .instanceMethod yX1_isThere, .selects RX1 yX1_isThere yX1_isThere, .initialized RX1, .code yX1_isThere cX1_isThere 2 (some .boolean), .methodLink RX1 112 yX1_isNumber, .static yX1_isNumber, .code yX1_isNumber cX1_isNumber 1 (some .boolean), .methodLink RX1 88 yX1_tryMake, .instanceMethod yX1_tryMake, .selects RX1 yX1_tryMake yX1_tryMake, .code yX1_tryMake cX1_tryMake 5 (some .boolean), .methodLink RX1 115 yX1_clearCharge, .instanceMethod yX1_clearCharge, .selects RX1 yX1_clearCharge yX1_clearCharge, .code yX1_clearCharge cX1_clearCharge 3 none] ++ wsX10)
def wsX1_tryJoin : List Cond := .code yX1_tryJoin cX1_tryJoin 5 (some .boolean) :: ([.fieldLink RX1 19 "TitheMap$Land" "kind" "[I", .fieldLink RX1 22 "TitheMap$Land" "owner" "[I", .fieldLink RX1 30 "TitheMap$Land" "bought" "[Z", .fieldLink RX1 15 "TitheMap$Land" "area" "[I", .fieldLink RX1 27 "TitheMap$Land" "charge" "[[I", .fieldLink RX1 9 "TitheMap$Land" "there" "[Z", .methodLink RX1 119 yX1_isThere, .instanceMethod yX1_isThere, .selects RX1 yX1_isThere yX1_isThere, .initialized RX1, .code yX1_isThere cX1_isThere 2 (some .boolean), .methodLink RX1 112 yX1_isNumber, .static yX1_isNumber, .code yX1_isNumber cX1_isNumber 1 (some .boolean), .methodLink RX1 88 yX1_tryMake, .instanceMethod yX1_tryMake, .selects RX1 yX1_tryMake yX1_tryMake, .code yX1_tryMake cX1_tryMake 5 (some .boolean), .methodLink RX1 115 yX1_clearCharge, .instanceMethod yX1_clearCharge, .selects RX1 yX1_clearCharge yX1_clearCharge, .code yX1_clearCharge cX1_clearCharge 3 none] ++ wsX10)
def wsX1_trySell : List Cond := .code yX1_trySell cX1_trySell 3 (some .boolean) :: ([.fieldLink RX1 22 "TitheMap$Land" "owner" "[I", .methodLink RX1 119 yX1_isThere, .instanceMethod yX1_isThere, .selects RX1 yX1_isThere yX1_isThere, .initialized RX1, .code yX1_isThere cX1_isThere 2 (some .boolean), .fieldLink RX1 9 "TitheMap$Land" "there" "[Z"] ++ wsX10)
def wsX1_weighAll : List Cond := .code yX1_weighAll cX1_weighAll 4 (some .long) :: ([.fieldLink RX1 33 "TitheMap$Land" "weight" "[J", .fieldLink RX1 9 "TitheMap$Land" "there" "[Z", .fieldLink RX1 15 "TitheMap$Land" "area" "[I", .fieldLink RX1 19 "TitheMap$Land" "kind" "[I"] ++ wsX10)
def wsX1_areMeansKnown : List Cond := .code yX1_areMeansKnown cX1_areMeansKnown 4 (some .boolean) :: ([.fieldLink RX1 43 "TitheMap$Land" "means" "[I", .fieldLink RX1 46 "TitheMap$Land" "book" "LTitheMap$Book;", .methodLink RX1 144 yX0_mean, .instanceMethod yX0_mean, .selects RX0 yX0_mean yX0_mean, .initialized RX0, .code yX0_mean cX0_mean 9 (some .int), .methodLink RX0 67 Lib.Math.min.name, .static Lib.Math.min.name, .initialized "java/lang/Math", .code Lib.Math.min.name Lib.Math.min.code 2 (some .int), .fieldLink RX0 15 "TitheMap$Book" "year" "[I", .fieldLink RX0 9 "TitheMap$Book" "act" "[I", .fieldLink RX0 18 "TitheMap$Book" "first" "[I", .fieldLink RX0 24 "TitheMap$Book" "amount" "[I"] ++ wsX10 ++ wsX00)
def wsX1_greatestRemainder : List Cond := .code yX1_greatestRemainder cX1_greatestRemainder 3 (some .int) :: ([.fieldLink RX1 40 "TitheMap$Land" "remainder" "[J"] ++ wsX10)
def wsX1_shareOut : List Cond := .code yX1_shareOut cX1_shareOut 8 none :: ([.fieldLink RX1 33 "TitheMap$Land" "weight" "[J", .fieldLink RX1 37 "TitheMap$Land" "share" "[I", .fieldLink RX1 40 "TitheMap$Land" "remainder" "[J", .methodLink RX1 136 yX1_greatestRemainder, .instanceMethod yX1_greatestRemainder, .selects RX1 yX1_greatestRemainder yX1_greatestRemainder, .initialized RX1, .code yX1_greatestRemainder cX1_greatestRemainder 3 (some .int)] ++ wsX10)
def wsX1_chargeShare : List Cond := .code yX1_chargeShare cX1_chargeShare 8 none :: ([.fieldLink RX1 37 "TitheMap$Land" "share" "[I", .fieldLink RX1 43 "TitheMap$Land" "means" "[I", .fieldLink RX1 27 "TitheMap$Land" "charge" "[[I", .constantLong RX1 140 (200), .constantLong RX1 142 (2), .methodLink RX1 119 yX1_isThere, .instanceMethod yX1_isThere, .selects RX1 yX1_isThere yX1_isThere, .initialized RX1, .code yX1_isThere cX1_isThere 2 (some .boolean), .fieldLink RX1 9 "TitheMap$Land" "there" "[Z"] ++ wsX10)
def wsX1_trySettle_r1 : List Cond := [Cond.fieldLink RX1 50 "TitheMap$Land" "settled" "Z", Cond.methodLink RX1 122 yX1_weighAll, Cond.instanceMethod yX1_weighAll, Cond.selects RX1 yX1_weighAll yX1_weighAll, Cond.initialized RX1, Cond.code yX1_weighAll cX1_weighAll 4 (some .long), Cond.fieldLink RX1 33 "TitheMap$Land" "weight" "[J", Cond.fieldLink RX1 9 "TitheMap$Land" "there" "[Z", Cond.fieldLink RX1 15 "TitheMap$Land" "area" "[I", Cond.fieldLink RX1 19 "TitheMap$Land" "kind" "[I", Cond.methodLink RX1 126 yX1_areMeansKnown, Cond.instanceMethod yX1_areMeansKnown, Cond.selects RX1 yX1_areMeansKnown yX1_areMeansKnown, Cond.code yX1_areMeansKnown cX1_areMeansKnown 4 (some .boolean), Cond.fieldLink RX1 43 "TitheMap$Land" "means" "[I", Cond.fieldLink RX1 46 "TitheMap$Land" "book" "LTitheMap$Book;", Cond.methodLink RX1 144 yX0_mean, Cond.instanceMethod yX0_mean, Cond.selects RX0 yX0_mean yX0_mean, Cond.initialized RX0, Cond.code yX0_mean cX0_mean 9 (some .int), Cond.methodLink RX0 67 Lib.Math.min.name, Cond.static Lib.Math.min.name, Cond.initialized "java/lang/Math"]
def wsX1_trySettle_r2 : List Cond := [Cond.code Lib.Math.min.name Lib.Math.min.code 2 (some .int), Cond.fieldLink RX0 15 "TitheMap$Book" "year" "[I", Cond.fieldLink RX0 9 "TitheMap$Book" "act" "[I", Cond.fieldLink RX0 18 "TitheMap$Book" "first" "[I", Cond.fieldLink RX0 24 "TitheMap$Book" "amount" "[I", Cond.methodLink RX1 129 yX1_shareOut, Cond.instanceMethod yX1_shareOut, Cond.selects RX1 yX1_shareOut yX1_shareOut, Cond.code yX1_shareOut cX1_shareOut 8 none, Cond.fieldLink RX1 37 "TitheMap$Land" "share" "[I", Cond.fieldLink RX1 40 "TitheMap$Land" "remainder" "[J", Cond.methodLink RX1 136 yX1_greatestRemainder, Cond.instanceMethod yX1_greatestRemainder, Cond.selects RX1 yX1_greatestRemainder yX1_greatestRemainder, Cond.code yX1_greatestRemainder cX1_greatestRemainder 3 (some .int), Cond.methodLink RX1 133 yX1_chargeShare, Cond.instanceMethod yX1_chargeShare, Cond.selects RX1 yX1_chargeShare yX1_chargeShare, Cond.code yX1_chargeShare cX1_chargeShare 8 none, Cond.fieldLink RX1 27 "TitheMap$Land" "charge" "[[I", Cond.constantLong RX1 140 (200), Cond.constantLong RX1 142 (2), Cond.methodLink RX1 119 yX1_isThere, Cond.instanceMethod yX1_isThere]
def wsX1_trySettle_r3 : List Cond := [Cond.selects RX1 yX1_isThere yX1_isThere, Cond.code yX1_isThere cX1_isThere 2 (some .boolean)]
def wsX1_trySettle : List Cond := .code yX1_trySettle cX1_trySettle 7 (some .boolean) :: ((wsX1_trySettle_r1 ++ (wsX1_trySettle_r2 ++ wsX1_trySettle_r3)) ++ wsX10 ++ wsX00)
def wsX1_tryBuy : List Cond := .code yX1_tryBuy cX1_tryBuy 2 (some .boolean) :: ([.fieldLink RX1 50 "TitheMap$Land" "settled" "Z", .fieldLink RX1 30 "TitheMap$Land" "bought" "[Z", .methodLink RX1 119 yX1_isThere, .instanceMethod yX1_isThere, .selects RX1 yX1_isThere yX1_isThere, .initialized RX1, .code yX1_isThere cX1_isThere 2 (some .boolean), .fieldLink RX1 9 "TitheMap$Land" "there" "[Z", .methodLink RX1 115 yX1_clearCharge, .instanceMethod yX1_clearCharge, .selects RX1 yX1_clearCharge yX1_clearCharge, .code yX1_clearCharge cX1_clearCharge 3 none, .fieldLink RX1 27 "TitheMap$Land" "charge" "[[I"] ++ wsX10)
def wsX1_tryAct_r1 : List Cond := [Cond.fieldLink RX1 46 "TitheMap$Land" "book" "LTitheMap$Book;", Cond.fieldLink RX1 74 "TitheMap$Book" "first" "[I", Cond.fieldLink RX1 77 "TitheMap$Book" "made" "[I", Cond.fieldLink RX1 80 "TitheMap$Book" "amount" "[I", Cond.fieldLink RX1 83 "TitheMap$Book" "act" "[I", Cond.fieldLink RX1 86 "TitheMap$Book" "kind" "[I", Cond.fieldLink RX1 87 "TitheMap$Book" "owner" "[I", Cond.fieldLink RX1 95 "TitheMap$Book" "second" "[I", Cond.fieldLink RX1 67 "TitheMap$Book" "year" "[I", Cond.static yX2_at, Cond.initialized RX2, Cond.code yX2_at cX2_at 2 (some .int), Cond.methodLink RX1 88 yX1_tryMake, Cond.instanceMethod yX1_tryMake, Cond.selects RX1 yX1_tryMake yX1_tryMake, Cond.initialized RX1, Cond.code yX1_tryMake cX1_tryMake 5 (some .boolean), Cond.fieldLink RX1 9 "TitheMap$Land" "there" "[Z", Cond.fieldLink RX1 15 "TitheMap$Land" "area" "[I", Cond.fieldLink RX1 19 "TitheMap$Land" "kind" "[I", Cond.fieldLink RX1 22 "TitheMap$Land" "owner" "[I", Cond.fieldLink RX1 30 "TitheMap$Land" "bought" "[Z", Cond.methodLink RX1 112 yX1_isNumber, Cond.static yX1_isNumber]
def wsX1_tryAct_r2 : List Cond := [Cond.code yX1_isNumber cX1_isNumber 1 (some .boolean), Cond.methodLink RX1 115 yX1_clearCharge, Cond.instanceMethod yX1_clearCharge, Cond.selects RX1 yX1_clearCharge yX1_clearCharge, Cond.code yX1_clearCharge cX1_clearCharge 3 none, Cond.fieldLink RX1 27 "TitheMap$Land" "charge" "[[I", Cond.methodLink RX1 92 yX1_tryPart, Cond.instanceMethod yX1_tryPart, Cond.selects RX1 yX1_tryPart yX1_tryPart, Cond.code yX1_tryPart cX1_tryPart 8 (some .boolean), Cond.methodLink RX1 119 yX1_isThere, Cond.instanceMethod yX1_isThere, Cond.selects RX1 yX1_isThere yX1_isThere, Cond.code yX1_isThere cX1_isThere 2 (some .boolean), Cond.methodLink RX1 98 yX1_tryJoin, Cond.instanceMethod yX1_tryJoin, Cond.selects RX1 yX1_tryJoin yX1_tryJoin, Cond.code yX1_tryJoin cX1_tryJoin 5 (some .boolean), Cond.methodLink RX1 102 yX1_trySell, Cond.instanceMethod yX1_trySell, Cond.selects RX1 yX1_trySell yX1_trySell, Cond.code yX1_trySell cX1_trySell 3 (some .boolean), Cond.methodLink RX1 105 yX1_trySettle, Cond.instanceMethod yX1_trySettle]
def wsX1_tryAct_r3 : List Cond := [Cond.selects RX1 yX1_trySettle yX1_trySettle, Cond.code yX1_trySettle cX1_trySettle 7 (some .boolean), Cond.fieldLink RX1 50 "TitheMap$Land" "settled" "Z", Cond.methodLink RX1 122 yX1_weighAll, Cond.instanceMethod yX1_weighAll, Cond.selects RX1 yX1_weighAll yX1_weighAll, Cond.code yX1_weighAll cX1_weighAll 4 (some .long), Cond.fieldLink RX1 33 "TitheMap$Land" "weight" "[J", Cond.methodLink RX1 126 yX1_areMeansKnown, Cond.instanceMethod yX1_areMeansKnown, Cond.selects RX1 yX1_areMeansKnown yX1_areMeansKnown, Cond.code yX1_areMeansKnown cX1_areMeansKnown 4 (some .boolean), Cond.fieldLink RX1 43 "TitheMap$Land" "means" "[I", Cond.methodLink RX1 144 yX0_mean, Cond.instanceMethod yX0_mean, Cond.selects RX0 yX0_mean yX0_mean, Cond.initialized RX0, Cond.code yX0_mean cX0_mean 9 (some .int), Cond.methodLink RX0 67 Lib.Math.min.name, Cond.static Lib.Math.min.name, Cond.initialized "java/lang/Math", Cond.code Lib.Math.min.name Lib.Math.min.code 2 (some .int), Cond.fieldLink RX0 15 "TitheMap$Book" "year" "[I", Cond.fieldLink RX0 9 "TitheMap$Book" "act" "[I"]
def wsX1_tryAct_r4 : List Cond := [Cond.fieldLink RX0 18 "TitheMap$Book" "first" "[I", Cond.fieldLink RX0 24 "TitheMap$Book" "amount" "[I", Cond.methodLink RX1 129 yX1_shareOut, Cond.instanceMethod yX1_shareOut, Cond.selects RX1 yX1_shareOut yX1_shareOut, Cond.code yX1_shareOut cX1_shareOut 8 none, Cond.fieldLink RX1 37 "TitheMap$Land" "share" "[I", Cond.fieldLink RX1 40 "TitheMap$Land" "remainder" "[J", Cond.methodLink RX1 136 yX1_greatestRemainder, Cond.instanceMethod yX1_greatestRemainder, Cond.selects RX1 yX1_greatestRemainder yX1_greatestRemainder, Cond.code yX1_greatestRemainder cX1_greatestRemainder 3 (some .int), Cond.methodLink RX1 133 yX1_chargeShare, Cond.instanceMethod yX1_chargeShare, Cond.selects RX1 yX1_chargeShare yX1_chargeShare, Cond.code yX1_chargeShare cX1_chargeShare 8 none, Cond.constantLong RX1 140 (200), Cond.constantLong RX1 142 (2), Cond.methodLink RX1 108 yX1_tryBuy, Cond.instanceMethod yX1_tryBuy, Cond.selects RX1 yX1_tryBuy yX1_tryBuy, Cond.code yX1_tryBuy cX1_tryBuy 2 (some .boolean)]
def wsX1_tryAct : List Cond := .code yX1_tryAct cX1_tryAct 6 (some .boolean) :: ((wsX1_tryAct_r1 ++ (wsX1_tryAct_r2 ++ (wsX1_tryAct_r3 ++ wsX1_tryAct_r4))) ++ wsX10 ++ wsX00)
def wsX1_show_r1 : List Cond := [Cond.fieldLink RX1 9 "TitheMap$Land" "there" "[Z", Cond.fieldLink RX1 50 "TitheMap$Land" "settled" "Z", Cond.fieldLink RX1 46 "TitheMap$Land" "book" "LTitheMap$Book;", Cond.fieldLink RX1 54 "TitheMap$Book" "acts" "I", Cond.fieldLink RX1 60 "TitheMap$Book" "order" "[I", Cond.fieldLink RX1 67 "TitheMap$Book" "year" "[I", Cond.static yX2_at, Cond.initialized RX2, Cond.code yX2_at cX2_at 2 (some .int), Cond.methodLink RX1 70 yX1_tryAct, Cond.instanceMethod yX1_tryAct, Cond.selects RX1 yX1_tryAct yX1_tryAct, Cond.initialized RX1, Cond.code yX1_tryAct cX1_tryAct 6 (some .boolean), Cond.fieldLink RX1 74 "TitheMap$Book" "first" "[I", Cond.fieldLink RX1 77 "TitheMap$Book" "made" "[I", Cond.fieldLink RX1 80 "TitheMap$Book" "amount" "[I", Cond.fieldLink RX1 83 "TitheMap$Book" "act" "[I", Cond.fieldLink RX1 86 "TitheMap$Book" "kind" "[I", Cond.fieldLink RX1 87 "TitheMap$Book" "owner" "[I", Cond.fieldLink RX1 95 "TitheMap$Book" "second" "[I", Cond.methodLink RX1 88 yX1_tryMake, Cond.instanceMethod yX1_tryMake, Cond.selects RX1 yX1_tryMake yX1_tryMake]
def wsX1_show_r2 : List Cond := [Cond.code yX1_tryMake cX1_tryMake 5 (some .boolean), Cond.fieldLink RX1 15 "TitheMap$Land" "area" "[I", Cond.fieldLink RX1 19 "TitheMap$Land" "kind" "[I", Cond.fieldLink RX1 22 "TitheMap$Land" "owner" "[I", Cond.fieldLink RX1 30 "TitheMap$Land" "bought" "[Z", Cond.methodLink RX1 112 yX1_isNumber, Cond.static yX1_isNumber, Cond.code yX1_isNumber cX1_isNumber 1 (some .boolean), Cond.methodLink RX1 115 yX1_clearCharge, Cond.instanceMethod yX1_clearCharge, Cond.selects RX1 yX1_clearCharge yX1_clearCharge, Cond.code yX1_clearCharge cX1_clearCharge 3 none, Cond.fieldLink RX1 27 "TitheMap$Land" "charge" "[[I", Cond.methodLink RX1 92 yX1_tryPart, Cond.instanceMethod yX1_tryPart, Cond.selects RX1 yX1_tryPart yX1_tryPart, Cond.code yX1_tryPart cX1_tryPart 8 (some .boolean), Cond.methodLink RX1 119 yX1_isThere, Cond.instanceMethod yX1_isThere, Cond.selects RX1 yX1_isThere yX1_isThere, Cond.code yX1_isThere cX1_isThere 2 (some .boolean), Cond.methodLink RX1 98 yX1_tryJoin, Cond.instanceMethod yX1_tryJoin, Cond.selects RX1 yX1_tryJoin yX1_tryJoin]
def wsX1_show_r3 : List Cond := [Cond.code yX1_tryJoin cX1_tryJoin 5 (some .boolean), Cond.methodLink RX1 102 yX1_trySell, Cond.instanceMethod yX1_trySell, Cond.selects RX1 yX1_trySell yX1_trySell, Cond.code yX1_trySell cX1_trySell 3 (some .boolean), Cond.methodLink RX1 105 yX1_trySettle, Cond.instanceMethod yX1_trySettle, Cond.selects RX1 yX1_trySettle yX1_trySettle, Cond.code yX1_trySettle cX1_trySettle 7 (some .boolean), Cond.methodLink RX1 122 yX1_weighAll, Cond.instanceMethod yX1_weighAll, Cond.selects RX1 yX1_weighAll yX1_weighAll, Cond.code yX1_weighAll cX1_weighAll 4 (some .long), Cond.fieldLink RX1 33 "TitheMap$Land" "weight" "[J", Cond.methodLink RX1 126 yX1_areMeansKnown, Cond.instanceMethod yX1_areMeansKnown, Cond.selects RX1 yX1_areMeansKnown yX1_areMeansKnown, Cond.code yX1_areMeansKnown cX1_areMeansKnown 4 (some .boolean), Cond.fieldLink RX1 43 "TitheMap$Land" "means" "[I", Cond.methodLink RX1 144 yX0_mean, Cond.instanceMethod yX0_mean, Cond.selects RX0 yX0_mean yX0_mean, Cond.initialized RX0, Cond.code yX0_mean cX0_mean 9 (some .int)]
def wsX1_show_r4 : List Cond := [Cond.methodLink RX0 67 Lib.Math.min.name, Cond.static Lib.Math.min.name, Cond.initialized "java/lang/Math", Cond.code Lib.Math.min.name Lib.Math.min.code 2 (some .int), Cond.fieldLink RX0 15 "TitheMap$Book" "year" "[I", Cond.fieldLink RX0 9 "TitheMap$Book" "act" "[I", Cond.fieldLink RX0 18 "TitheMap$Book" "first" "[I", Cond.fieldLink RX0 24 "TitheMap$Book" "amount" "[I", Cond.methodLink RX1 129 yX1_shareOut, Cond.instanceMethod yX1_shareOut, Cond.selects RX1 yX1_shareOut yX1_shareOut, Cond.code yX1_shareOut cX1_shareOut 8 none, Cond.fieldLink RX1 37 "TitheMap$Land" "share" "[I", Cond.fieldLink RX1 40 "TitheMap$Land" "remainder" "[J", Cond.methodLink RX1 136 yX1_greatestRemainder, Cond.instanceMethod yX1_greatestRemainder, Cond.selects RX1 yX1_greatestRemainder yX1_greatestRemainder, Cond.code yX1_greatestRemainder cX1_greatestRemainder 3 (some .int), Cond.methodLink RX1 133 yX1_chargeShare, Cond.instanceMethod yX1_chargeShare, Cond.selects RX1 yX1_chargeShare yX1_chargeShare, Cond.code yX1_chargeShare cX1_chargeShare 8 none, Cond.constantLong RX1 140 (200), Cond.constantLong RX1 142 (2)]
def wsX1_show_r5 : List Cond := [Cond.methodLink RX1 108 yX1_tryBuy, Cond.instanceMethod yX1_tryBuy, Cond.selects RX1 yX1_tryBuy yX1_tryBuy, Cond.code yX1_tryBuy cX1_tryBuy 2 (some .boolean)]
def wsX1_show : List Cond := .code yX1_show cX1_show 6 (some .boolean) :: ((wsX1_show_r1 ++ (wsX1_show_r2 ++ (wsX1_show_r3 ++ (wsX1_show_r4 ++ wsX1_show_r5)))) ++ wsX10 ++ wsX00)
def wsX1_worthByMeans : List Cond := .code yX1_worthByMeans cX1_worthByMeans 5 (some .long) :: ([.fieldLink RX1 27 "TitheMap$Land" "charge" "[[I", .fieldLink RX1 43 "TitheMap$Land" "means" "[I", .constantLong RX1 154 (50), .constantLong RX1 156 (100), .methodLink RX1 112 yX1_isNumber, .static yX1_isNumber, .initialized RX1, .code yX1_isNumber cX1_isNumber 1 (some .boolean)] ++ wsX10)
def wsX1_worth_r1 : List Cond := [Cond.constantLong RX1 152 (-1), Cond.methodLink RX1 119 yX1_isThere, Cond.instanceMethod yX1_isThere, Cond.selects RX1 yX1_isThere yX1_isThere, Cond.initialized RX1, Cond.code yX1_isThere cX1_isThere 2 (some .boolean), Cond.fieldLink RX1 9 "TitheMap$Land" "there" "[Z", Cond.methodLink RX1 126 yX1_areMeansKnown, Cond.instanceMethod yX1_areMeansKnown, Cond.selects RX1 yX1_areMeansKnown yX1_areMeansKnown, Cond.code yX1_areMeansKnown cX1_areMeansKnown 4 (some .boolean), Cond.fieldLink RX1 43 "TitheMap$Land" "means" "[I", Cond.fieldLink RX1 46 "TitheMap$Land" "book" "LTitheMap$Book;", Cond.methodLink RX1 144 yX0_mean, Cond.instanceMethod yX0_mean, Cond.selects RX0 yX0_mean yX0_mean, Cond.initialized RX0, Cond.code yX0_mean cX0_mean 9 (some .int), Cond.methodLink RX0 67 Lib.Math.min.name, Cond.static Lib.Math.min.name, Cond.initialized "java/lang/Math", Cond.code Lib.Math.min.name Lib.Math.min.code 2 (some .int), Cond.fieldLink RX0 15 "TitheMap$Book" "year" "[I", Cond.fieldLink RX0 9 "TitheMap$Book" "act" "[I"]
def wsX1_worth_r2 : List Cond := [Cond.fieldLink RX0 18 "TitheMap$Book" "first" "[I", Cond.fieldLink RX0 24 "TitheMap$Book" "amount" "[I", Cond.methodLink RX1 148 yX1_worthByMeans, Cond.instanceMethod yX1_worthByMeans, Cond.selects RX1 yX1_worthByMeans yX1_worthByMeans, Cond.code yX1_worthByMeans cX1_worthByMeans 5 (some .long), Cond.fieldLink RX1 27 "TitheMap$Land" "charge" "[[I", Cond.constantLong RX1 154 (50), Cond.constantLong RX1 156 (100), Cond.methodLink RX1 112 yX1_isNumber, Cond.static yX1_isNumber, Cond.code yX1_isNumber cX1_isNumber 1 (some .boolean)]
def wsX1_worth : List Cond := .code yX1_worth cX1_worth 4 (some .long) :: ((wsX1_worth_r1 ++ wsX1_worth_r2) ++ wsX10 ++ wsX00)
def wsX1_worthOfAll_r1 : List Cond := [Cond.fieldLink RX1 9 "TitheMap$Land" "there" "[Z", Cond.fieldLink RX1 22 "TitheMap$Land" "owner" "[I", Cond.constantLong RX1 152 (-1), Cond.methodLink RX1 126 yX1_areMeansKnown, Cond.instanceMethod yX1_areMeansKnown, Cond.selects RX1 yX1_areMeansKnown yX1_areMeansKnown, Cond.initialized RX1, Cond.code yX1_areMeansKnown cX1_areMeansKnown 4 (some .boolean), Cond.fieldLink RX1 43 "TitheMap$Land" "means" "[I", Cond.fieldLink RX1 46 "TitheMap$Land" "book" "LTitheMap$Book;", Cond.methodLink RX1 144 yX0_mean, Cond.instanceMethod yX0_mean, Cond.selects RX0 yX0_mean yX0_mean, Cond.initialized RX0, Cond.code yX0_mean cX0_mean 9 (some .int), Cond.methodLink RX0 67 Lib.Math.min.name, Cond.static Lib.Math.min.name, Cond.initialized "java/lang/Math", Cond.code Lib.Math.min.name Lib.Math.min.code 2 (some .int), Cond.fieldLink RX0 15 "TitheMap$Book" "year" "[I", Cond.fieldLink RX0 9 "TitheMap$Book" "act" "[I", Cond.fieldLink RX0 18 "TitheMap$Book" "first" "[I", Cond.fieldLink RX0 24 "TitheMap$Book" "amount" "[I", Cond.methodLink RX1 148 yX1_worthByMeans]
def wsX1_worthOfAll_r2 : List Cond := [Cond.instanceMethod yX1_worthByMeans, Cond.selects RX1 yX1_worthByMeans yX1_worthByMeans, Cond.code yX1_worthByMeans cX1_worthByMeans 5 (some .long), Cond.fieldLink RX1 27 "TitheMap$Land" "charge" "[[I", Cond.constantLong RX1 154 (50), Cond.constantLong RX1 156 (100), Cond.methodLink RX1 112 yX1_isNumber, Cond.static yX1_isNumber, Cond.code yX1_isNumber cX1_isNumber 1 (some .boolean)]
def wsX1_worthOfAll : List Cond := .code yX1_worthOfAll cX1_worthOfAll 8 (some .long) :: ((wsX1_worthOfAll_r1 ++ wsX1_worthOfAll_r2) ++ wsX10 ++ wsX00)
def wsX1_tell : List Cond := .code yX1_tell cX1_tell 3 (some .int) :: ([.fieldLink RX1 15 "TitheMap$Land" "area" "[I", .fieldLink RX1 19 "TitheMap$Land" "kind" "[I", .fieldLink RX1 22 "TitheMap$Land" "owner" "[I", .fieldLink RX1 27 "TitheMap$Land" "charge" "[[I", .fieldLink RX1 30 "TitheMap$Land" "bought" "[Z", .methodLink RX1 119 yX1_isThere, .instanceMethod yX1_isThere, .selects RX1 yX1_isThere yX1_isThere, .initialized RX1, .code yX1_isThere cX1_isThere 2 (some .boolean), .fieldLink RX1 9 "TitheMap$Land" "there" "[Z"] ++ wsX10)
def wsX1_howMany : List Cond := .code yX1_howMany cX1_howMany 3 (some .int) :: ([.fieldLink RX1 9 "TitheMap$Land" "there" "[Z"] ++ wsX10)
def wsX1_sumOf : List Cond := .code yX1_sumOf cX1_sumOf 5 (some .long) :: ([.fieldLink RX1 9 "TitheMap$Land" "there" "[Z", .methodLink RX1 158 yX1_tell, .instanceMethod yX1_tell, .selects RX1 yX1_tell yX1_tell, .initialized RX1, .code yX1_tell cX1_tell 3 (some .int), .fieldLink RX1 15 "TitheMap$Land" "area" "[I", .fieldLink RX1 19 "TitheMap$Land" "kind" "[I", .fieldLink RX1 22 "TitheMap$Land" "owner" "[I", .fieldLink RX1 27 "TitheMap$Land" "charge" "[[I", .fieldLink RX1 30 "TitheMap$Land" "bought" "[Z", .methodLink RX1 119 yX1_isThere, .instanceMethod yX1_isThere, .selects RX1 yX1_isThere yX1_isThere, .code yX1_isThere cX1_isThere 2 (some .boolean)] ++ wsX10)
def wsX1_isOtherwise : List Cond := .code yX1_isOtherwise cX1_isOtherwise 4 (some .boolean) :: ([.methodLink RX1 158 yX1_tell, .instanceMethod yX1_tell, .selects RX1 yX1_tell yX1_tell, .initialized RX1, .code yX1_tell cX1_tell 3 (some .int), .fieldLink RX1 15 "TitheMap$Land" "area" "[I", .fieldLink RX1 19 "TitheMap$Land" "kind" "[I", .fieldLink RX1 22 "TitheMap$Land" "owner" "[I", .fieldLink RX1 27 "TitheMap$Land" "charge" "[[I", .fieldLink RX1 30 "TitheMap$Land" "bought" "[Z", .methodLink RX1 119 yX1_isThere, .instanceMethod yX1_isThere, .selects RX1 yX1_isThere yX1_isThere, .code yX1_isThere cX1_isThere 2 (some .boolean), .fieldLink RX1 9 "TitheMap$Land" "there" "[Z"] ++ wsX10)
def wsX2_init_r1 : List Cond := [Cond.methodLink RX2 1 objectInit, Cond.instanceMethod objectInit, Cond.code objectInit ⟨#[0xb1]⟩ 1 none, Cond.classLink RX2 7 RX0, Cond.instantiable RX0 14, Cond.initialized RX0, Cond.fieldLink RX2 10 "TitheMap" "book" "LTitheMap$Book;", Cond.classLink RX2 16 RX1, Cond.instantiable RX1 12, Cond.initialized RX1, Cond.fieldLink RX2 21 "TitheMap" "land" "LTitheMap$Land;", Cond.fieldLink RX2 25 "TitheMap" "otherLand" "LTitheMap$Land;", Cond.instanceMethod yX0_init, Cond.code yX0_init cX0_init 1 none, Cond.methodLink RX0 3 objectInit, Cond.arrayClass .int, Cond.fieldLink RX0 9 "TitheMap$Book" "act" "[I", Cond.fieldLink RX0 15 "TitheMap$Book" "year" "[I", Cond.fieldLink RX0 18 "TitheMap$Book" "first" "[I", Cond.fieldLink RX0 21 "TitheMap$Book" "second" "[I", Cond.fieldLink RX0 24 "TitheMap$Book" "amount" "[I", Cond.fieldLink RX0 27 "TitheMap$Book" "kind" "[I", Cond.fieldLink RX0 30 "TitheMap$Book" "owner" "[I", Cond.fieldLink RX0 33 "TitheMap$Book" "made" "[I"]
def wsX2_init_r2 : List Cond := [Cond.fieldLink RX0 36 "TitheMap$Book" "order" "[I", Cond.fieldLink RX0 39 "TitheMap$Book" "maker" "[I", Cond.fieldLink RX0 42 "TitheMap$Book" "ender" "[I", Cond.methodLink RX2 18 yX1_init, Cond.instanceMethod yX1_init, Cond.code yX1_init cX1_init 2 none, Cond.methodLink RX1 3 objectInit, Cond.arrayClass .boolean, Cond.fieldLink RX1 9 "TitheMap$Land" "there" "[Z", Cond.fieldLink RX1 15 "TitheMap$Land" "area" "[I", Cond.fieldLink RX1 19 "TitheMap$Land" "kind" "[I", Cond.fieldLink RX1 22 "TitheMap$Land" "owner" "[I", Cond.classLink RX1 25 "[[I", Cond.fieldLink RX1 27 "TitheMap$Land" "charge" "[[I", Cond.fieldLink RX1 30 "TitheMap$Land" "bought" "[Z", Cond.arrayClass .long, Cond.fieldLink RX1 33 "TitheMap$Land" "weight" "[J", Cond.fieldLink RX1 37 "TitheMap$Land" "share" "[I", Cond.fieldLink RX1 40 "TitheMap$Land" "remainder" "[J", Cond.fieldLink RX1 43 "TitheMap$Land" "means" "[I", Cond.fieldLink RX1 46 "TitheMap$Land" "book" "LTitheMap$Book;"]
def wsX2_init : List Cond := .code yX2_init cX2_init 1 none :: ((wsX2_init_r1 ++ wsX2_init_r2) ++ wsX00 ++ wsX20 ++ wsX10)
def wsX2_isWithin : List Cond := .code yX2_isWithin cX2_isWithin 3 (some .boolean) :: ([])
def wsX2_price_r1 : List Cond := [Cond.fieldLink RX2 10 "TitheMap" "book" "LTitheMap$Book;", Cond.fieldLink RX2 40 "TitheMap$Book" "first" "[I", Cond.fieldLink RX2 48 "TitheMap$Book" "amount" "[I", Cond.methodLink RX2 28 yX0_isFull, Cond.instanceMethod yX0_isFull, Cond.selects RX0 yX0_isFull yX0_isFull, Cond.initialized RX0, Cond.code yX0_isFull cX0_isFull 1 (some .boolean), Cond.fieldLink RX0 45 "TitheMap$Book" "size" "I", Cond.methodLink RX2 32 yX2_isWithin, Cond.static yX2_isWithin, Cond.initialized RX2, Cond.code yX2_isWithin cX2_isWithin 3 (some .boolean), Cond.methodLink RX2 36 yX0_draft, Cond.instanceMethod yX0_draft, Cond.selects RX0 yX0_draft yX0_draft, Cond.code yX0_draft cX0_draft 3 none, Cond.fieldLink RX0 9 "TitheMap$Book" "act" "[I", Cond.fieldLink RX0 15 "TitheMap$Book" "year" "[I", Cond.fieldLink RX0 18 "TitheMap$Book" "first" "[I", Cond.fieldLink RX0 21 "TitheMap$Book" "second" "[I", Cond.fieldLink RX0 24 "TitheMap$Book" "amount" "[I", Cond.fieldLink RX0 27 "TitheMap$Book" "kind" "[I", Cond.fieldLink RX0 30 "TitheMap$Book" "owner" "[I"]
def wsX2_price_r2 : List Cond := [Cond.fieldLink RX0 33 "TitheMap$Book" "made" "[I", Cond.methodLink RX0 49 yX0_put, Cond.instanceMethod yX0_put, Cond.selects RX0 yX0_put yX0_put, Cond.code yX0_put cX0_put 3 none, Cond.methodLink RX2 44 yX0_put, Cond.methodLink RX2 51 yX0_keep, Cond.instanceMethod yX0_keep, Cond.selects RX0 yX0_keep yX0_keep, Cond.code yX0_keep cX0_keep 4 (some .int), Cond.fieldLink RX0 60 "TitheMap$Book" "fields" "I", Cond.fieldLink RX0 39 "TitheMap$Book" "maker" "[I", Cond.fieldLink RX0 42 "TitheMap$Book" "ender" "[I", Cond.static yX2_at, Cond.code yX2_at cX2_at 2 (some .int), Cond.methodLink RX0 63 yX0_end, Cond.instanceMethod yX0_end, Cond.selects RX0 yX0_end yX0_end, Cond.code yX0_end cX0_end 3 none]
def wsX2_price : List Cond := .code yX2_price cX2_price 4 (some .int) :: ((wsX2_price_r1 ++ wsX2_price_r2) ++ wsX20 ++ wsX00)
def wsX2_isActPossible : List Cond := .code yX2_isActPossible cX2_isActPossible 3 (some .boolean) :: ([.fieldLink RX2 10 "TitheMap" "book" "LTitheMap$Book;", .fieldLink RX2 143 "TitheMap$Book" "fields" "I", .methodLink RX2 28 yX0_isFull, .instanceMethod yX0_isFull, .selects RX0 yX0_isFull yX0_isFull, .initialized RX0, .code yX0_isFull cX0_isFull 1 (some .boolean), .fieldLink RX0 45 "TitheMap$Book" "size" "I", .methodLink RX2 32 yX2_isWithin, .static yX2_isWithin, .initialized RX2, .code yX2_isWithin cX2_isWithin 3 (some .boolean)] ++ wsX20 ++ wsX00)
def wsX2_isOwner : List Cond := .code yX2_isOwner cX2_isOwner 1 (some .boolean) :: ([.methodLink RX2 32 yX2_isWithin, .static yX2_isWithin, .initialized RX2, .code yX2_isWithin cX2_isWithin 3 (some .boolean)])
def wsX2_takeDraft_r1 : List Cond := [Cond.fieldLink RX2 10 "TitheMap" "book" "LTitheMap$Book;", Cond.fieldLink RX2 146 "TitheMap$Book" "made" "[I", Cond.fieldLink RX2 143 "TitheMap$Book" "fields" "I", Cond.fieldLink RX2 21 "TitheMap" "land" "LTitheMap$Land;", Cond.fieldLink RX2 139 "TitheMap$Book" "size" "I", Cond.methodLink RX2 44 yX0_put, Cond.instanceMethod yX0_put, Cond.selects RX0 yX0_put yX0_put, Cond.initialized RX0, Cond.code yX0_put cX0_put 3 none, Cond.fieldLink RX0 45 "TitheMap$Book" "size" "I", Cond.methodLink RX2 149 yX0_fileDraft, Cond.instanceMethod yX0_fileDraft, Cond.selects RX0 yX0_fileDraft yX0_fileDraft, Cond.code yX0_fileDraft cX0_fileDraft 3 none, Cond.fieldLink RX0 53 "TitheMap$Book" "acts" "I", Cond.fieldLink RX0 15 "TitheMap$Book" "year" "[I", Cond.fieldLink RX0 36 "TitheMap$Book" "order" "[I", Cond.static yX2_at, Cond.initialized RX2, Cond.code yX2_at cX2_at 2 (some .int), Cond.methodLink RX2 89 yX1_show, Cond.instanceMethod yX1_show, Cond.selects RX1 yX1_show yX1_show]
def wsX2_takeDraft_r2 : List Cond := [Cond.initialized RX1, Cond.code yX1_show cX1_show 6 (some .boolean), Cond.fieldLink RX1 9 "TitheMap$Land" "there" "[Z", Cond.fieldLink RX1 50 "TitheMap$Land" "settled" "Z", Cond.fieldLink RX1 46 "TitheMap$Land" "book" "LTitheMap$Book;", Cond.fieldLink RX1 54 "TitheMap$Book" "acts" "I", Cond.fieldLink RX1 60 "TitheMap$Book" "order" "[I", Cond.fieldLink RX1 67 "TitheMap$Book" "year" "[I", Cond.methodLink RX1 70 yX1_tryAct, Cond.instanceMethod yX1_tryAct, Cond.selects RX1 yX1_tryAct yX1_tryAct, Cond.code yX1_tryAct cX1_tryAct 6 (some .boolean), Cond.fieldLink RX1 74 "TitheMap$Book" "first" "[I", Cond.fieldLink RX1 77 "TitheMap$Book" "made" "[I", Cond.fieldLink RX1 80 "TitheMap$Book" "amount" "[I", Cond.fieldLink RX1 83 "TitheMap$Book" "act" "[I", Cond.fieldLink RX1 86 "TitheMap$Book" "kind" "[I", Cond.fieldLink RX1 87 "TitheMap$Book" "owner" "[I", Cond.fieldLink RX1 95 "TitheMap$Book" "second" "[I", Cond.methodLink RX1 88 yX1_tryMake, Cond.instanceMethod yX1_tryMake, Cond.selects RX1 yX1_tryMake yX1_tryMake, Cond.code yX1_tryMake cX1_tryMake 5 (some .boolean), Cond.fieldLink RX1 15 "TitheMap$Land" "area" "[I"]
def wsX2_takeDraft_r3 : List Cond := [Cond.fieldLink RX1 19 "TitheMap$Land" "kind" "[I", Cond.fieldLink RX1 22 "TitheMap$Land" "owner" "[I", Cond.fieldLink RX1 30 "TitheMap$Land" "bought" "[Z", Cond.methodLink RX1 112 yX1_isNumber, Cond.static yX1_isNumber, Cond.code yX1_isNumber cX1_isNumber 1 (some .boolean), Cond.methodLink RX1 115 yX1_clearCharge, Cond.instanceMethod yX1_clearCharge, Cond.selects RX1 yX1_clearCharge yX1_clearCharge, Cond.code yX1_clearCharge cX1_clearCharge 3 none, Cond.fieldLink RX1 27 "TitheMap$Land" "charge" "[[I", Cond.methodLink RX1 92 yX1_tryPart, Cond.instanceMethod yX1_tryPart, Cond.selects RX1 yX1_tryPart yX1_tryPart, Cond.code yX1_tryPart cX1_tryPart 8 (some .boolean), Cond.methodLink RX1 119 yX1_isThere, Cond.instanceMethod yX1_isThere, Cond.selects RX1 yX1_isThere yX1_isThere, Cond.code yX1_isThere cX1_isThere 2 (some .boolean), Cond.methodLink RX1 98 yX1_tryJoin, Cond.instanceMethod yX1_tryJoin, Cond.selects RX1 yX1_tryJoin yX1_tryJoin, Cond.code yX1_tryJoin cX1_tryJoin 5 (some .boolean), Cond.methodLink RX1 102 yX1_trySell]
def wsX2_takeDraft_r4 : List Cond := [Cond.instanceMethod yX1_trySell, Cond.selects RX1 yX1_trySell yX1_trySell, Cond.code yX1_trySell cX1_trySell 3 (some .boolean), Cond.methodLink RX1 105 yX1_trySettle, Cond.instanceMethod yX1_trySettle, Cond.selects RX1 yX1_trySettle yX1_trySettle, Cond.code yX1_trySettle cX1_trySettle 7 (some .boolean), Cond.methodLink RX1 122 yX1_weighAll, Cond.instanceMethod yX1_weighAll, Cond.selects RX1 yX1_weighAll yX1_weighAll, Cond.code yX1_weighAll cX1_weighAll 4 (some .long), Cond.fieldLink RX1 33 "TitheMap$Land" "weight" "[J", Cond.methodLink RX1 126 yX1_areMeansKnown, Cond.instanceMethod yX1_areMeansKnown, Cond.selects RX1 yX1_areMeansKnown yX1_areMeansKnown, Cond.code yX1_areMeansKnown cX1_areMeansKnown 4 (some .boolean), Cond.fieldLink RX1 43 "TitheMap$Land" "means" "[I", Cond.methodLink RX1 144 yX0_mean, Cond.instanceMethod yX0_mean, Cond.selects RX0 yX0_mean yX0_mean, Cond.code yX0_mean cX0_mean 9 (some .int), Cond.methodLink RX0 67 Lib.Math.min.name, Cond.static Lib.Math.min.name, Cond.initialized "java/lang/Math"]
def wsX2_takeDraft_r5 : List Cond := [Cond.code Lib.Math.min.name Lib.Math.min.code 2 (some .int), Cond.fieldLink RX0 9 "TitheMap$Book" "act" "[I", Cond.fieldLink RX0 18 "TitheMap$Book" "first" "[I", Cond.fieldLink RX0 24 "TitheMap$Book" "amount" "[I", Cond.methodLink RX1 129 yX1_shareOut, Cond.instanceMethod yX1_shareOut, Cond.selects RX1 yX1_shareOut yX1_shareOut, Cond.code yX1_shareOut cX1_shareOut 8 none, Cond.fieldLink RX1 37 "TitheMap$Land" "share" "[I", Cond.fieldLink RX1 40 "TitheMap$Land" "remainder" "[J", Cond.methodLink RX1 136 yX1_greatestRemainder, Cond.instanceMethod yX1_greatestRemainder, Cond.selects RX1 yX1_greatestRemainder yX1_greatestRemainder, Cond.code yX1_greatestRemainder cX1_greatestRemainder 3 (some .int), Cond.methodLink RX1 133 yX1_chargeShare, Cond.instanceMethod yX1_chargeShare, Cond.selects RX1 yX1_chargeShare yX1_chargeShare, Cond.code yX1_chargeShare cX1_chargeShare 8 none, Cond.constantLong RX1 140 (200), Cond.constantLong RX1 142 (2), Cond.methodLink RX1 108 yX1_tryBuy, Cond.instanceMethod yX1_tryBuy, Cond.selects RX1 yX1_tryBuy yX1_tryBuy, Cond.code yX1_tryBuy cX1_tryBuy 2 (some .boolean)]
def wsX2_takeDraft_r6 : List Cond := [Cond.methodLink RX2 152 yX0_withdrawDraft, Cond.instanceMethod yX0_withdrawDraft, Cond.selects RX0 yX0_withdrawDraft yX0_withdrawDraft, Cond.code yX0_withdrawDraft cX0_withdrawDraft 3 none, Cond.methodLink RX2 51 yX0_keep, Cond.instanceMethod yX0_keep, Cond.selects RX0 yX0_keep yX0_keep, Cond.code yX0_keep cX0_keep 4 (some .int), Cond.fieldLink RX0 60 "TitheMap$Book" "fields" "I", Cond.fieldLink RX0 39 "TitheMap$Book" "maker" "[I", Cond.fieldLink RX0 42 "TitheMap$Book" "ender" "[I", Cond.fieldLink RX0 21 "TitheMap$Book" "second" "[I", Cond.methodLink RX0 63 yX0_end, Cond.instanceMethod yX0_end, Cond.selects RX0 yX0_end yX0_end, Cond.code yX0_end cX0_end 3 none]
def wsX2_takeDraft : List Cond := .code yX2_takeDraft cX2_takeDraft 2 (some .int) :: ((wsX2_takeDraft_r1 ++ (wsX2_takeDraft_r2 ++ (wsX2_takeDraft_r3 ++ (wsX2_takeDraft_r4 ++ (wsX2_takeDraft_r5 ++ wsX2_takeDraft_r6))))) ++ wsX20 ++ wsX00 ++ wsX10)
def wsX2_firstMadeBy : List Cond := .code yX2_firstMadeBy cX2_firstMadeBy 2 (some .int) :: ([.fieldLink RX2 10 "TitheMap" "book" "LTitheMap$Book;", .fieldLink RX2 146 "TitheMap$Book" "made" "[I", .methodLink RX2 120 yX2_at, .static yX2_at, .initialized RX2, .code yX2_at cX2_at 2 (some .int)] ++ wsX20 ++ wsX00)
def wsX2_make_r1 : List Cond := [Cond.fieldLink RX2 10 "TitheMap" "book" "LTitheMap$Book;", Cond.fieldLink RX2 48 "TitheMap$Book" "amount" "[I", Cond.fieldLink RX2 63 "TitheMap$Book" "kind" "[I", Cond.fieldLink RX2 66 "TitheMap$Book" "owner" "[I", Cond.methodLink RX2 55 yX2_isActPossible, Cond.instanceMethod yX2_isActPossible, Cond.selects RX2 yX2_isActPossible yX2_isActPossible, Cond.initialized RX2, Cond.code yX2_isActPossible cX2_isActPossible 3 (some .boolean), Cond.fieldLink RX2 143 "TitheMap$Book" "fields" "I", Cond.methodLink RX2 28 yX0_isFull, Cond.instanceMethod yX0_isFull, Cond.selects RX0 yX0_isFull yX0_isFull, Cond.initialized RX0, Cond.code yX0_isFull cX0_isFull 1 (some .boolean), Cond.fieldLink RX0 45 "TitheMap$Book" "size" "I", Cond.methodLink RX2 32 yX2_isWithin, Cond.static yX2_isWithin, Cond.code yX2_isWithin cX2_isWithin 3 (some .boolean), Cond.methodLink RX2 59 yX2_isOwner, Cond.static yX2_isOwner, Cond.code yX2_isOwner cX2_isOwner 1 (some .boolean), Cond.methodLink RX2 36 yX0_draft, Cond.instanceMethod yX0_draft]
def wsX2_make_r2 : List Cond := [Cond.selects RX0 yX0_draft yX0_draft, Cond.code yX0_draft cX0_draft 3 none, Cond.fieldLink RX0 9 "TitheMap$Book" "act" "[I", Cond.fieldLink RX0 15 "TitheMap$Book" "year" "[I", Cond.fieldLink RX0 18 "TitheMap$Book" "first" "[I", Cond.fieldLink RX0 21 "TitheMap$Book" "second" "[I", Cond.fieldLink RX0 24 "TitheMap$Book" "amount" "[I", Cond.fieldLink RX0 27 "TitheMap$Book" "kind" "[I", Cond.fieldLink RX0 30 "TitheMap$Book" "owner" "[I", Cond.fieldLink RX0 33 "TitheMap$Book" "made" "[I", Cond.methodLink RX0 49 yX0_put, Cond.instanceMethod yX0_put, Cond.selects RX0 yX0_put yX0_put, Cond.code yX0_put cX0_put 3 none, Cond.methodLink RX2 44 yX0_put, Cond.methodLink RX2 69 yX2_takeDraft, Cond.instanceMethod yX2_takeDraft, Cond.selects RX2 yX2_takeDraft yX2_takeDraft, Cond.code yX2_takeDraft cX2_takeDraft 2 (some .int), Cond.fieldLink RX2 146 "TitheMap$Book" "made" "[I", Cond.fieldLink RX2 21 "TitheMap" "land" "LTitheMap$Land;", Cond.fieldLink RX2 139 "TitheMap$Book" "size" "I", Cond.methodLink RX2 149 yX0_fileDraft, Cond.instanceMethod yX0_fileDraft]
def wsX2_make_r3 : List Cond := [Cond.selects RX0 yX0_fileDraft yX0_fileDraft, Cond.code yX0_fileDraft cX0_fileDraft 3 none, Cond.fieldLink RX0 53 "TitheMap$Book" "acts" "I", Cond.fieldLink RX0 36 "TitheMap$Book" "order" "[I", Cond.static yX2_at, Cond.code yX2_at cX2_at 2 (some .int), Cond.methodLink RX2 89 yX1_show, Cond.instanceMethod yX1_show, Cond.selects RX1 yX1_show yX1_show, Cond.initialized RX1, Cond.code yX1_show cX1_show 6 (some .boolean), Cond.fieldLink RX1 9 "TitheMap$Land" "there" "[Z", Cond.fieldLink RX1 50 "TitheMap$Land" "settled" "Z", Cond.fieldLink RX1 46 "TitheMap$Land" "book" "LTitheMap$Book;", Cond.fieldLink RX1 54 "TitheMap$Book" "acts" "I", Cond.fieldLink RX1 60 "TitheMap$Book" "order" "[I", Cond.fieldLink RX1 67 "TitheMap$Book" "year" "[I", Cond.methodLink RX1 70 yX1_tryAct, Cond.instanceMethod yX1_tryAct, Cond.selects RX1 yX1_tryAct yX1_tryAct, Cond.code yX1_tryAct cX1_tryAct 6 (some .boolean), Cond.fieldLink RX1 74 "TitheMap$Book" "first" "[I", Cond.fieldLink RX1 77 "TitheMap$Book" "made" "[I", Cond.fieldLink RX1 80 "TitheMap$Book" "amount" "[I"]
def wsX2_make_r4 : List Cond := [Cond.fieldLink RX1 83 "TitheMap$Book" "act" "[I", Cond.fieldLink RX1 86 "TitheMap$Book" "kind" "[I", Cond.fieldLink RX1 87 "TitheMap$Book" "owner" "[I", Cond.fieldLink RX1 95 "TitheMap$Book" "second" "[I", Cond.methodLink RX1 88 yX1_tryMake, Cond.instanceMethod yX1_tryMake, Cond.selects RX1 yX1_tryMake yX1_tryMake, Cond.code yX1_tryMake cX1_tryMake 5 (some .boolean), Cond.fieldLink RX1 15 "TitheMap$Land" "area" "[I", Cond.fieldLink RX1 19 "TitheMap$Land" "kind" "[I", Cond.fieldLink RX1 22 "TitheMap$Land" "owner" "[I", Cond.fieldLink RX1 30 "TitheMap$Land" "bought" "[Z", Cond.methodLink RX1 112 yX1_isNumber, Cond.static yX1_isNumber, Cond.code yX1_isNumber cX1_isNumber 1 (some .boolean), Cond.methodLink RX1 115 yX1_clearCharge, Cond.instanceMethod yX1_clearCharge, Cond.selects RX1 yX1_clearCharge yX1_clearCharge, Cond.code yX1_clearCharge cX1_clearCharge 3 none, Cond.fieldLink RX1 27 "TitheMap$Land" "charge" "[[I", Cond.methodLink RX1 92 yX1_tryPart, Cond.instanceMethod yX1_tryPart, Cond.selects RX1 yX1_tryPart yX1_tryPart, Cond.code yX1_tryPart cX1_tryPart 8 (some .boolean)]
def wsX2_make_r5 : List Cond := [Cond.methodLink RX1 119 yX1_isThere, Cond.instanceMethod yX1_isThere, Cond.selects RX1 yX1_isThere yX1_isThere, Cond.code yX1_isThere cX1_isThere 2 (some .boolean), Cond.methodLink RX1 98 yX1_tryJoin, Cond.instanceMethod yX1_tryJoin, Cond.selects RX1 yX1_tryJoin yX1_tryJoin, Cond.code yX1_tryJoin cX1_tryJoin 5 (some .boolean), Cond.methodLink RX1 102 yX1_trySell, Cond.instanceMethod yX1_trySell, Cond.selects RX1 yX1_trySell yX1_trySell, Cond.code yX1_trySell cX1_trySell 3 (some .boolean), Cond.methodLink RX1 105 yX1_trySettle, Cond.instanceMethod yX1_trySettle, Cond.selects RX1 yX1_trySettle yX1_trySettle, Cond.code yX1_trySettle cX1_trySettle 7 (some .boolean), Cond.methodLink RX1 122 yX1_weighAll, Cond.instanceMethod yX1_weighAll, Cond.selects RX1 yX1_weighAll yX1_weighAll, Cond.code yX1_weighAll cX1_weighAll 4 (some .long), Cond.fieldLink RX1 33 "TitheMap$Land" "weight" "[J", Cond.methodLink RX1 126 yX1_areMeansKnown, Cond.instanceMethod yX1_areMeansKnown, Cond.selects RX1 yX1_areMeansKnown yX1_areMeansKnown]
def wsX2_make_r6 : List Cond := [Cond.code yX1_areMeansKnown cX1_areMeansKnown 4 (some .boolean), Cond.fieldLink RX1 43 "TitheMap$Land" "means" "[I", Cond.methodLink RX1 144 yX0_mean, Cond.instanceMethod yX0_mean, Cond.selects RX0 yX0_mean yX0_mean, Cond.code yX0_mean cX0_mean 9 (some .int), Cond.methodLink RX0 67 Lib.Math.min.name, Cond.static Lib.Math.min.name, Cond.initialized "java/lang/Math", Cond.code Lib.Math.min.name Lib.Math.min.code 2 (some .int), Cond.methodLink RX1 129 yX1_shareOut, Cond.instanceMethod yX1_shareOut, Cond.selects RX1 yX1_shareOut yX1_shareOut, Cond.code yX1_shareOut cX1_shareOut 8 none, Cond.fieldLink RX1 37 "TitheMap$Land" "share" "[I", Cond.fieldLink RX1 40 "TitheMap$Land" "remainder" "[J", Cond.methodLink RX1 136 yX1_greatestRemainder, Cond.instanceMethod yX1_greatestRemainder, Cond.selects RX1 yX1_greatestRemainder yX1_greatestRemainder, Cond.code yX1_greatestRemainder cX1_greatestRemainder 3 (some .int), Cond.methodLink RX1 133 yX1_chargeShare, Cond.instanceMethod yX1_chargeShare, Cond.selects RX1 yX1_chargeShare yX1_chargeShare, Cond.code yX1_chargeShare cX1_chargeShare 8 none]
def wsX2_make_r7 : List Cond := [Cond.constantLong RX1 140 (200), Cond.constantLong RX1 142 (2), Cond.methodLink RX1 108 yX1_tryBuy, Cond.instanceMethod yX1_tryBuy, Cond.selects RX1 yX1_tryBuy yX1_tryBuy, Cond.code yX1_tryBuy cX1_tryBuy 2 (some .boolean), Cond.methodLink RX2 152 yX0_withdrawDraft, Cond.instanceMethod yX0_withdrawDraft, Cond.selects RX0 yX0_withdrawDraft yX0_withdrawDraft, Cond.code yX0_withdrawDraft cX0_withdrawDraft 3 none, Cond.methodLink RX2 51 yX0_keep, Cond.instanceMethod yX0_keep, Cond.selects RX0 yX0_keep yX0_keep, Cond.code yX0_keep cX0_keep 4 (some .int), Cond.fieldLink RX0 60 "TitheMap$Book" "fields" "I", Cond.fieldLink RX0 39 "TitheMap$Book" "maker" "[I", Cond.fieldLink RX0 42 "TitheMap$Book" "ender" "[I", Cond.methodLink RX0 63 yX0_end, Cond.instanceMethod yX0_end, Cond.selects RX0 yX0_end yX0_end, Cond.code yX0_end cX0_end 3 none, Cond.methodLink RX2 72 yX2_firstMadeBy, Cond.instanceMethod yX2_firstMadeBy, Cond.selects RX2 yX2_firstMadeBy yX2_firstMadeBy]
def wsX2_make_r8 : List Cond := [Cond.code yX2_firstMadeBy cX2_firstMadeBy 2 (some .int), Cond.methodLink RX2 120 yX2_at]
def wsX2_make : List Cond := .code yX2_make cX2_make 5 (some .int) :: ((wsX2_make_r1 ++ (wsX2_make_r2 ++ (wsX2_make_r3 ++ (wsX2_make_r4 ++ (wsX2_make_r5 ++ (wsX2_make_r6 ++ (wsX2_make_r7 ++ wsX2_make_r8))))))) ++ wsX20 ++ wsX00 ++ wsX10)
def wsX2_isField : List Cond := .code yX2_isField cX2_isField 2 (some .boolean) :: ([.fieldLink RX2 10 "TitheMap" "book" "LTitheMap$Book;", .fieldLink RX2 143 "TitheMap$Book" "fields" "I", .methodLink RX2 32 yX2_isWithin, .static yX2_isWithin, .initialized RX2, .code yX2_isWithin cX2_isWithin 3 (some .boolean)] ++ wsX20 ++ wsX00)
def wsX2_part_r1 : List Cond := [Cond.fieldLink RX2 10 "TitheMap" "book" "LTitheMap$Book;", Cond.fieldLink RX2 40 "TitheMap$Book" "first" "[I", Cond.fieldLink RX2 48 "TitheMap$Book" "amount" "[I", Cond.methodLink RX2 55 yX2_isActPossible, Cond.instanceMethod yX2_isActPossible, Cond.selects RX2 yX2_isActPossible yX2_isActPossible, Cond.initialized RX2, Cond.code yX2_isActPossible cX2_isActPossible 3 (some .boolean), Cond.fieldLink RX2 143 "TitheMap$Book" "fields" "I", Cond.methodLink RX2 28 yX0_isFull, Cond.instanceMethod yX0_isFull, Cond.selects RX0 yX0_isFull yX0_isFull, Cond.initialized RX0, Cond.code yX0_isFull cX0_isFull 1 (some .boolean), Cond.fieldLink RX0 45 "TitheMap$Book" "size" "I", Cond.methodLink RX2 32 yX2_isWithin, Cond.static yX2_isWithin, Cond.code yX2_isWithin cX2_isWithin 3 (some .boolean), Cond.methodLink RX2 75 yX2_isField, Cond.instanceMethod yX2_isField, Cond.selects RX2 yX2_isField yX2_isField, Cond.code yX2_isField cX2_isField 2 (some .boolean), Cond.methodLink RX2 36 yX0_draft, Cond.instanceMethod yX0_draft]
def wsX2_part_r2 : List Cond := [Cond.selects RX0 yX0_draft yX0_draft, Cond.code yX0_draft cX0_draft 3 none, Cond.fieldLink RX0 9 "TitheMap$Book" "act" "[I", Cond.fieldLink RX0 15 "TitheMap$Book" "year" "[I", Cond.fieldLink RX0 18 "TitheMap$Book" "first" "[I", Cond.fieldLink RX0 21 "TitheMap$Book" "second" "[I", Cond.fieldLink RX0 24 "TitheMap$Book" "amount" "[I", Cond.fieldLink RX0 27 "TitheMap$Book" "kind" "[I", Cond.fieldLink RX0 30 "TitheMap$Book" "owner" "[I", Cond.fieldLink RX0 33 "TitheMap$Book" "made" "[I", Cond.methodLink RX0 49 yX0_put, Cond.instanceMethod yX0_put, Cond.selects RX0 yX0_put yX0_put, Cond.code yX0_put cX0_put 3 none, Cond.methodLink RX2 44 yX0_put, Cond.methodLink RX2 69 yX2_takeDraft, Cond.instanceMethod yX2_takeDraft, Cond.selects RX2 yX2_takeDraft yX2_takeDraft, Cond.code yX2_takeDraft cX2_takeDraft 2 (some .int), Cond.fieldLink RX2 146 "TitheMap$Book" "made" "[I", Cond.fieldLink RX2 21 "TitheMap" "land" "LTitheMap$Land;", Cond.fieldLink RX2 139 "TitheMap$Book" "size" "I", Cond.methodLink RX2 149 yX0_fileDraft, Cond.instanceMethod yX0_fileDraft]
def wsX2_part_r3 : List Cond := [Cond.selects RX0 yX0_fileDraft yX0_fileDraft, Cond.code yX0_fileDraft cX0_fileDraft 3 none, Cond.fieldLink RX0 53 "TitheMap$Book" "acts" "I", Cond.fieldLink RX0 36 "TitheMap$Book" "order" "[I", Cond.static yX2_at, Cond.code yX2_at cX2_at 2 (some .int), Cond.methodLink RX2 89 yX1_show, Cond.instanceMethod yX1_show, Cond.selects RX1 yX1_show yX1_show, Cond.initialized RX1, Cond.code yX1_show cX1_show 6 (some .boolean), Cond.fieldLink RX1 9 "TitheMap$Land" "there" "[Z", Cond.fieldLink RX1 50 "TitheMap$Land" "settled" "Z", Cond.fieldLink RX1 46 "TitheMap$Land" "book" "LTitheMap$Book;", Cond.fieldLink RX1 54 "TitheMap$Book" "acts" "I", Cond.fieldLink RX1 60 "TitheMap$Book" "order" "[I", Cond.fieldLink RX1 67 "TitheMap$Book" "year" "[I", Cond.methodLink RX1 70 yX1_tryAct, Cond.instanceMethod yX1_tryAct, Cond.selects RX1 yX1_tryAct yX1_tryAct, Cond.code yX1_tryAct cX1_tryAct 6 (some .boolean), Cond.fieldLink RX1 74 "TitheMap$Book" "first" "[I", Cond.fieldLink RX1 77 "TitheMap$Book" "made" "[I", Cond.fieldLink RX1 80 "TitheMap$Book" "amount" "[I"]
def wsX2_part_r4 : List Cond := [Cond.fieldLink RX1 83 "TitheMap$Book" "act" "[I", Cond.fieldLink RX1 86 "TitheMap$Book" "kind" "[I", Cond.fieldLink RX1 87 "TitheMap$Book" "owner" "[I", Cond.fieldLink RX1 95 "TitheMap$Book" "second" "[I", Cond.methodLink RX1 88 yX1_tryMake, Cond.instanceMethod yX1_tryMake, Cond.selects RX1 yX1_tryMake yX1_tryMake, Cond.code yX1_tryMake cX1_tryMake 5 (some .boolean), Cond.fieldLink RX1 15 "TitheMap$Land" "area" "[I", Cond.fieldLink RX1 19 "TitheMap$Land" "kind" "[I", Cond.fieldLink RX1 22 "TitheMap$Land" "owner" "[I", Cond.fieldLink RX1 30 "TitheMap$Land" "bought" "[Z", Cond.methodLink RX1 112 yX1_isNumber, Cond.static yX1_isNumber, Cond.code yX1_isNumber cX1_isNumber 1 (some .boolean), Cond.methodLink RX1 115 yX1_clearCharge, Cond.instanceMethod yX1_clearCharge, Cond.selects RX1 yX1_clearCharge yX1_clearCharge, Cond.code yX1_clearCharge cX1_clearCharge 3 none, Cond.fieldLink RX1 27 "TitheMap$Land" "charge" "[[I", Cond.methodLink RX1 92 yX1_tryPart, Cond.instanceMethod yX1_tryPart, Cond.selects RX1 yX1_tryPart yX1_tryPart, Cond.code yX1_tryPart cX1_tryPart 8 (some .boolean)]
def wsX2_part_r5 : List Cond := [Cond.methodLink RX1 119 yX1_isThere, Cond.instanceMethod yX1_isThere, Cond.selects RX1 yX1_isThere yX1_isThere, Cond.code yX1_isThere cX1_isThere 2 (some .boolean), Cond.methodLink RX1 98 yX1_tryJoin, Cond.instanceMethod yX1_tryJoin, Cond.selects RX1 yX1_tryJoin yX1_tryJoin, Cond.code yX1_tryJoin cX1_tryJoin 5 (some .boolean), Cond.methodLink RX1 102 yX1_trySell, Cond.instanceMethod yX1_trySell, Cond.selects RX1 yX1_trySell yX1_trySell, Cond.code yX1_trySell cX1_trySell 3 (some .boolean), Cond.methodLink RX1 105 yX1_trySettle, Cond.instanceMethod yX1_trySettle, Cond.selects RX1 yX1_trySettle yX1_trySettle, Cond.code yX1_trySettle cX1_trySettle 7 (some .boolean), Cond.methodLink RX1 122 yX1_weighAll, Cond.instanceMethod yX1_weighAll, Cond.selects RX1 yX1_weighAll yX1_weighAll, Cond.code yX1_weighAll cX1_weighAll 4 (some .long), Cond.fieldLink RX1 33 "TitheMap$Land" "weight" "[J", Cond.methodLink RX1 126 yX1_areMeansKnown, Cond.instanceMethod yX1_areMeansKnown, Cond.selects RX1 yX1_areMeansKnown yX1_areMeansKnown]
def wsX2_part_r6 : List Cond := [Cond.code yX1_areMeansKnown cX1_areMeansKnown 4 (some .boolean), Cond.fieldLink RX1 43 "TitheMap$Land" "means" "[I", Cond.methodLink RX1 144 yX0_mean, Cond.instanceMethod yX0_mean, Cond.selects RX0 yX0_mean yX0_mean, Cond.code yX0_mean cX0_mean 9 (some .int), Cond.methodLink RX0 67 Lib.Math.min.name, Cond.static Lib.Math.min.name, Cond.initialized "java/lang/Math", Cond.code Lib.Math.min.name Lib.Math.min.code 2 (some .int), Cond.methodLink RX1 129 yX1_shareOut, Cond.instanceMethod yX1_shareOut, Cond.selects RX1 yX1_shareOut yX1_shareOut, Cond.code yX1_shareOut cX1_shareOut 8 none, Cond.fieldLink RX1 37 "TitheMap$Land" "share" "[I", Cond.fieldLink RX1 40 "TitheMap$Land" "remainder" "[J", Cond.methodLink RX1 136 yX1_greatestRemainder, Cond.instanceMethod yX1_greatestRemainder, Cond.selects RX1 yX1_greatestRemainder yX1_greatestRemainder, Cond.code yX1_greatestRemainder cX1_greatestRemainder 3 (some .int), Cond.methodLink RX1 133 yX1_chargeShare, Cond.instanceMethod yX1_chargeShare, Cond.selects RX1 yX1_chargeShare yX1_chargeShare, Cond.code yX1_chargeShare cX1_chargeShare 8 none]
def wsX2_part_r7 : List Cond := [Cond.constantLong RX1 140 (200), Cond.constantLong RX1 142 (2), Cond.methodLink RX1 108 yX1_tryBuy, Cond.instanceMethod yX1_tryBuy, Cond.selects RX1 yX1_tryBuy yX1_tryBuy, Cond.code yX1_tryBuy cX1_tryBuy 2 (some .boolean), Cond.methodLink RX2 152 yX0_withdrawDraft, Cond.instanceMethod yX0_withdrawDraft, Cond.selects RX0 yX0_withdrawDraft yX0_withdrawDraft, Cond.code yX0_withdrawDraft cX0_withdrawDraft 3 none, Cond.methodLink RX2 51 yX0_keep, Cond.instanceMethod yX0_keep, Cond.selects RX0 yX0_keep yX0_keep, Cond.code yX0_keep cX0_keep 4 (some .int), Cond.fieldLink RX0 60 "TitheMap$Book" "fields" "I", Cond.fieldLink RX0 39 "TitheMap$Book" "maker" "[I", Cond.fieldLink RX0 42 "TitheMap$Book" "ender" "[I", Cond.methodLink RX0 63 yX0_end, Cond.instanceMethod yX0_end, Cond.selects RX0 yX0_end yX0_end, Cond.code yX0_end cX0_end 3 none, Cond.methodLink RX2 72 yX2_firstMadeBy, Cond.instanceMethod yX2_firstMadeBy, Cond.selects RX2 yX2_firstMadeBy yX2_firstMadeBy]
def wsX2_part_r8 : List Cond := [Cond.code yX2_firstMadeBy cX2_firstMadeBy 2 (some .int), Cond.methodLink RX2 120 yX2_at]
def wsX2_part : List Cond := .code yX2_part cX2_part 4 (some .int) :: ((wsX2_part_r1 ++ (wsX2_part_r2 ++ (wsX2_part_r3 ++ (wsX2_part_r4 ++ (wsX2_part_r5 ++ (wsX2_part_r6 ++ (wsX2_part_r7 ++ wsX2_part_r8))))))) ++ wsX20 ++ wsX00 ++ wsX10)
def wsX2_join_r1 : List Cond := [Cond.fieldLink RX2 10 "TitheMap" "book" "LTitheMap$Book;", Cond.fieldLink RX2 40 "TitheMap$Book" "first" "[I", Cond.fieldLink RX2 78 "TitheMap$Book" "second" "[I", Cond.methodLink RX2 55 yX2_isActPossible, Cond.instanceMethod yX2_isActPossible, Cond.selects RX2 yX2_isActPossible yX2_isActPossible, Cond.initialized RX2, Cond.code yX2_isActPossible cX2_isActPossible 3 (some .boolean), Cond.fieldLink RX2 143 "TitheMap$Book" "fields" "I", Cond.methodLink RX2 28 yX0_isFull, Cond.instanceMethod yX0_isFull, Cond.selects RX0 yX0_isFull yX0_isFull, Cond.initialized RX0, Cond.code yX0_isFull cX0_isFull 1 (some .boolean), Cond.fieldLink RX0 45 "TitheMap$Book" "size" "I", Cond.methodLink RX2 32 yX2_isWithin, Cond.static yX2_isWithin, Cond.code yX2_isWithin cX2_isWithin 3 (some .boolean), Cond.methodLink RX2 75 yX2_isField, Cond.instanceMethod yX2_isField, Cond.selects RX2 yX2_isField yX2_isField, Cond.code yX2_isField cX2_isField 2 (some .boolean), Cond.methodLink RX2 36 yX0_draft, Cond.instanceMethod yX0_draft]
def wsX2_join_r2 : List Cond := [Cond.selects RX0 yX0_draft yX0_draft, Cond.code yX0_draft cX0_draft 3 none, Cond.fieldLink RX0 9 "TitheMap$Book" "act" "[I", Cond.fieldLink RX0 15 "TitheMap$Book" "year" "[I", Cond.fieldLink RX0 18 "TitheMap$Book" "first" "[I", Cond.fieldLink RX0 21 "TitheMap$Book" "second" "[I", Cond.fieldLink RX0 24 "TitheMap$Book" "amount" "[I", Cond.fieldLink RX0 27 "TitheMap$Book" "kind" "[I", Cond.fieldLink RX0 30 "TitheMap$Book" "owner" "[I", Cond.fieldLink RX0 33 "TitheMap$Book" "made" "[I", Cond.methodLink RX0 49 yX0_put, Cond.instanceMethod yX0_put, Cond.selects RX0 yX0_put yX0_put, Cond.code yX0_put cX0_put 3 none, Cond.methodLink RX2 44 yX0_put, Cond.methodLink RX2 69 yX2_takeDraft, Cond.instanceMethod yX2_takeDraft, Cond.selects RX2 yX2_takeDraft yX2_takeDraft, Cond.code yX2_takeDraft cX2_takeDraft 2 (some .int), Cond.fieldLink RX2 146 "TitheMap$Book" "made" "[I", Cond.fieldLink RX2 21 "TitheMap" "land" "LTitheMap$Land;", Cond.fieldLink RX2 139 "TitheMap$Book" "size" "I", Cond.methodLink RX2 149 yX0_fileDraft, Cond.instanceMethod yX0_fileDraft]
def wsX2_join_r3 : List Cond := [Cond.selects RX0 yX0_fileDraft yX0_fileDraft, Cond.code yX0_fileDraft cX0_fileDraft 3 none, Cond.fieldLink RX0 53 "TitheMap$Book" "acts" "I", Cond.fieldLink RX0 36 "TitheMap$Book" "order" "[I", Cond.static yX2_at, Cond.code yX2_at cX2_at 2 (some .int), Cond.methodLink RX2 89 yX1_show, Cond.instanceMethod yX1_show, Cond.selects RX1 yX1_show yX1_show, Cond.initialized RX1, Cond.code yX1_show cX1_show 6 (some .boolean), Cond.fieldLink RX1 9 "TitheMap$Land" "there" "[Z", Cond.fieldLink RX1 50 "TitheMap$Land" "settled" "Z", Cond.fieldLink RX1 46 "TitheMap$Land" "book" "LTitheMap$Book;", Cond.fieldLink RX1 54 "TitheMap$Book" "acts" "I", Cond.fieldLink RX1 60 "TitheMap$Book" "order" "[I", Cond.fieldLink RX1 67 "TitheMap$Book" "year" "[I", Cond.methodLink RX1 70 yX1_tryAct, Cond.instanceMethod yX1_tryAct, Cond.selects RX1 yX1_tryAct yX1_tryAct, Cond.code yX1_tryAct cX1_tryAct 6 (some .boolean), Cond.fieldLink RX1 74 "TitheMap$Book" "first" "[I", Cond.fieldLink RX1 77 "TitheMap$Book" "made" "[I", Cond.fieldLink RX1 80 "TitheMap$Book" "amount" "[I"]
def wsX2_join_r4 : List Cond := [Cond.fieldLink RX1 83 "TitheMap$Book" "act" "[I", Cond.fieldLink RX1 86 "TitheMap$Book" "kind" "[I", Cond.fieldLink RX1 87 "TitheMap$Book" "owner" "[I", Cond.fieldLink RX1 95 "TitheMap$Book" "second" "[I", Cond.methodLink RX1 88 yX1_tryMake, Cond.instanceMethod yX1_tryMake, Cond.selects RX1 yX1_tryMake yX1_tryMake, Cond.code yX1_tryMake cX1_tryMake 5 (some .boolean), Cond.fieldLink RX1 15 "TitheMap$Land" "area" "[I", Cond.fieldLink RX1 19 "TitheMap$Land" "kind" "[I", Cond.fieldLink RX1 22 "TitheMap$Land" "owner" "[I", Cond.fieldLink RX1 30 "TitheMap$Land" "bought" "[Z", Cond.methodLink RX1 112 yX1_isNumber, Cond.static yX1_isNumber, Cond.code yX1_isNumber cX1_isNumber 1 (some .boolean), Cond.methodLink RX1 115 yX1_clearCharge, Cond.instanceMethod yX1_clearCharge, Cond.selects RX1 yX1_clearCharge yX1_clearCharge, Cond.code yX1_clearCharge cX1_clearCharge 3 none, Cond.fieldLink RX1 27 "TitheMap$Land" "charge" "[[I", Cond.methodLink RX1 92 yX1_tryPart, Cond.instanceMethod yX1_tryPart, Cond.selects RX1 yX1_tryPart yX1_tryPart, Cond.code yX1_tryPart cX1_tryPart 8 (some .boolean)]
def wsX2_join_r5 : List Cond := [Cond.methodLink RX1 119 yX1_isThere, Cond.instanceMethod yX1_isThere, Cond.selects RX1 yX1_isThere yX1_isThere, Cond.code yX1_isThere cX1_isThere 2 (some .boolean), Cond.methodLink RX1 98 yX1_tryJoin, Cond.instanceMethod yX1_tryJoin, Cond.selects RX1 yX1_tryJoin yX1_tryJoin, Cond.code yX1_tryJoin cX1_tryJoin 5 (some .boolean), Cond.methodLink RX1 102 yX1_trySell, Cond.instanceMethod yX1_trySell, Cond.selects RX1 yX1_trySell yX1_trySell, Cond.code yX1_trySell cX1_trySell 3 (some .boolean), Cond.methodLink RX1 105 yX1_trySettle, Cond.instanceMethod yX1_trySettle, Cond.selects RX1 yX1_trySettle yX1_trySettle, Cond.code yX1_trySettle cX1_trySettle 7 (some .boolean), Cond.methodLink RX1 122 yX1_weighAll, Cond.instanceMethod yX1_weighAll, Cond.selects RX1 yX1_weighAll yX1_weighAll, Cond.code yX1_weighAll cX1_weighAll 4 (some .long), Cond.fieldLink RX1 33 "TitheMap$Land" "weight" "[J", Cond.methodLink RX1 126 yX1_areMeansKnown, Cond.instanceMethod yX1_areMeansKnown, Cond.selects RX1 yX1_areMeansKnown yX1_areMeansKnown]
def wsX2_join_r6 : List Cond := [Cond.code yX1_areMeansKnown cX1_areMeansKnown 4 (some .boolean), Cond.fieldLink RX1 43 "TitheMap$Land" "means" "[I", Cond.methodLink RX1 144 yX0_mean, Cond.instanceMethod yX0_mean, Cond.selects RX0 yX0_mean yX0_mean, Cond.code yX0_mean cX0_mean 9 (some .int), Cond.methodLink RX0 67 Lib.Math.min.name, Cond.static Lib.Math.min.name, Cond.initialized "java/lang/Math", Cond.code Lib.Math.min.name Lib.Math.min.code 2 (some .int), Cond.methodLink RX1 129 yX1_shareOut, Cond.instanceMethod yX1_shareOut, Cond.selects RX1 yX1_shareOut yX1_shareOut, Cond.code yX1_shareOut cX1_shareOut 8 none, Cond.fieldLink RX1 37 "TitheMap$Land" "share" "[I", Cond.fieldLink RX1 40 "TitheMap$Land" "remainder" "[J", Cond.methodLink RX1 136 yX1_greatestRemainder, Cond.instanceMethod yX1_greatestRemainder, Cond.selects RX1 yX1_greatestRemainder yX1_greatestRemainder, Cond.code yX1_greatestRemainder cX1_greatestRemainder 3 (some .int), Cond.methodLink RX1 133 yX1_chargeShare, Cond.instanceMethod yX1_chargeShare, Cond.selects RX1 yX1_chargeShare yX1_chargeShare, Cond.code yX1_chargeShare cX1_chargeShare 8 none]
def wsX2_join_r7 : List Cond := [Cond.constantLong RX1 140 (200), Cond.constantLong RX1 142 (2), Cond.methodLink RX1 108 yX1_tryBuy, Cond.instanceMethod yX1_tryBuy, Cond.selects RX1 yX1_tryBuy yX1_tryBuy, Cond.code yX1_tryBuy cX1_tryBuy 2 (some .boolean), Cond.methodLink RX2 152 yX0_withdrawDraft, Cond.instanceMethod yX0_withdrawDraft, Cond.selects RX0 yX0_withdrawDraft yX0_withdrawDraft, Cond.code yX0_withdrawDraft cX0_withdrawDraft 3 none, Cond.methodLink RX2 51 yX0_keep, Cond.instanceMethod yX0_keep, Cond.selects RX0 yX0_keep yX0_keep, Cond.code yX0_keep cX0_keep 4 (some .int), Cond.fieldLink RX0 60 "TitheMap$Book" "fields" "I", Cond.fieldLink RX0 39 "TitheMap$Book" "maker" "[I", Cond.fieldLink RX0 42 "TitheMap$Book" "ender" "[I", Cond.methodLink RX0 63 yX0_end, Cond.instanceMethod yX0_end, Cond.selects RX0 yX0_end yX0_end, Cond.code yX0_end cX0_end 3 none, Cond.methodLink RX2 72 yX2_firstMadeBy, Cond.instanceMethod yX2_firstMadeBy, Cond.selects RX2 yX2_firstMadeBy yX2_firstMadeBy]
def wsX2_join_r8 : List Cond := [Cond.code yX2_firstMadeBy cX2_firstMadeBy 2 (some .int), Cond.methodLink RX2 120 yX2_at]
def wsX2_join : List Cond := .code yX2_join cX2_join 4 (some .int) :: ((wsX2_join_r1 ++ (wsX2_join_r2 ++ (wsX2_join_r3 ++ (wsX2_join_r4 ++ (wsX2_join_r5 ++ (wsX2_join_r6 ++ (wsX2_join_r7 ++ wsX2_join_r8))))))) ++ wsX20 ++ wsX00 ++ wsX10)
def wsX2_sell_r1 : List Cond := [Cond.fieldLink RX2 10 "TitheMap" "book" "LTitheMap$Book;", Cond.fieldLink RX2 40 "TitheMap$Book" "first" "[I", Cond.fieldLink RX2 66 "TitheMap$Book" "owner" "[I", Cond.methodLink RX2 55 yX2_isActPossible, Cond.instanceMethod yX2_isActPossible, Cond.selects RX2 yX2_isActPossible yX2_isActPossible, Cond.initialized RX2, Cond.code yX2_isActPossible cX2_isActPossible 3 (some .boolean), Cond.fieldLink RX2 143 "TitheMap$Book" "fields" "I", Cond.methodLink RX2 28 yX0_isFull, Cond.instanceMethod yX0_isFull, Cond.selects RX0 yX0_isFull yX0_isFull, Cond.initialized RX0, Cond.code yX0_isFull cX0_isFull 1 (some .boolean), Cond.fieldLink RX0 45 "TitheMap$Book" "size" "I", Cond.methodLink RX2 32 yX2_isWithin, Cond.static yX2_isWithin, Cond.code yX2_isWithin cX2_isWithin 3 (some .boolean), Cond.methodLink RX2 75 yX2_isField, Cond.instanceMethod yX2_isField, Cond.selects RX2 yX2_isField yX2_isField, Cond.code yX2_isField cX2_isField 2 (some .boolean), Cond.methodLink RX2 59 yX2_isOwner, Cond.static yX2_isOwner]
def wsX2_sell_r2 : List Cond := [Cond.code yX2_isOwner cX2_isOwner 1 (some .boolean), Cond.methodLink RX2 36 yX0_draft, Cond.instanceMethod yX0_draft, Cond.selects RX0 yX0_draft yX0_draft, Cond.code yX0_draft cX0_draft 3 none, Cond.fieldLink RX0 9 "TitheMap$Book" "act" "[I", Cond.fieldLink RX0 15 "TitheMap$Book" "year" "[I", Cond.fieldLink RX0 18 "TitheMap$Book" "first" "[I", Cond.fieldLink RX0 21 "TitheMap$Book" "second" "[I", Cond.fieldLink RX0 24 "TitheMap$Book" "amount" "[I", Cond.fieldLink RX0 27 "TitheMap$Book" "kind" "[I", Cond.fieldLink RX0 30 "TitheMap$Book" "owner" "[I", Cond.fieldLink RX0 33 "TitheMap$Book" "made" "[I", Cond.methodLink RX0 49 yX0_put, Cond.instanceMethod yX0_put, Cond.selects RX0 yX0_put yX0_put, Cond.code yX0_put cX0_put 3 none, Cond.methodLink RX2 44 yX0_put, Cond.methodLink RX2 69 yX2_takeDraft, Cond.instanceMethod yX2_takeDraft, Cond.selects RX2 yX2_takeDraft yX2_takeDraft, Cond.code yX2_takeDraft cX2_takeDraft 2 (some .int), Cond.fieldLink RX2 146 "TitheMap$Book" "made" "[I", Cond.fieldLink RX2 21 "TitheMap" "land" "LTitheMap$Land;"]
def wsX2_sell_r3 : List Cond := [Cond.fieldLink RX2 139 "TitheMap$Book" "size" "I", Cond.methodLink RX2 149 yX0_fileDraft, Cond.instanceMethod yX0_fileDraft, Cond.selects RX0 yX0_fileDraft yX0_fileDraft, Cond.code yX0_fileDraft cX0_fileDraft 3 none, Cond.fieldLink RX0 53 "TitheMap$Book" "acts" "I", Cond.fieldLink RX0 36 "TitheMap$Book" "order" "[I", Cond.static yX2_at, Cond.code yX2_at cX2_at 2 (some .int), Cond.methodLink RX2 89 yX1_show, Cond.instanceMethod yX1_show, Cond.selects RX1 yX1_show yX1_show, Cond.initialized RX1, Cond.code yX1_show cX1_show 6 (some .boolean), Cond.fieldLink RX1 9 "TitheMap$Land" "there" "[Z", Cond.fieldLink RX1 50 "TitheMap$Land" "settled" "Z", Cond.fieldLink RX1 46 "TitheMap$Land" "book" "LTitheMap$Book;", Cond.fieldLink RX1 54 "TitheMap$Book" "acts" "I", Cond.fieldLink RX1 60 "TitheMap$Book" "order" "[I", Cond.fieldLink RX1 67 "TitheMap$Book" "year" "[I", Cond.methodLink RX1 70 yX1_tryAct, Cond.instanceMethod yX1_tryAct, Cond.selects RX1 yX1_tryAct yX1_tryAct, Cond.code yX1_tryAct cX1_tryAct 6 (some .boolean)]
def wsX2_sell_r4 : List Cond := [Cond.fieldLink RX1 74 "TitheMap$Book" "first" "[I", Cond.fieldLink RX1 77 "TitheMap$Book" "made" "[I", Cond.fieldLink RX1 80 "TitheMap$Book" "amount" "[I", Cond.fieldLink RX1 83 "TitheMap$Book" "act" "[I", Cond.fieldLink RX1 86 "TitheMap$Book" "kind" "[I", Cond.fieldLink RX1 87 "TitheMap$Book" "owner" "[I", Cond.fieldLink RX1 95 "TitheMap$Book" "second" "[I", Cond.methodLink RX1 88 yX1_tryMake, Cond.instanceMethod yX1_tryMake, Cond.selects RX1 yX1_tryMake yX1_tryMake, Cond.code yX1_tryMake cX1_tryMake 5 (some .boolean), Cond.fieldLink RX1 15 "TitheMap$Land" "area" "[I", Cond.fieldLink RX1 19 "TitheMap$Land" "kind" "[I", Cond.fieldLink RX1 22 "TitheMap$Land" "owner" "[I", Cond.fieldLink RX1 30 "TitheMap$Land" "bought" "[Z", Cond.methodLink RX1 112 yX1_isNumber, Cond.static yX1_isNumber, Cond.code yX1_isNumber cX1_isNumber 1 (some .boolean), Cond.methodLink RX1 115 yX1_clearCharge, Cond.instanceMethod yX1_clearCharge, Cond.selects RX1 yX1_clearCharge yX1_clearCharge, Cond.code yX1_clearCharge cX1_clearCharge 3 none, Cond.fieldLink RX1 27 "TitheMap$Land" "charge" "[[I", Cond.methodLink RX1 92 yX1_tryPart]
def wsX2_sell_r5 : List Cond := [Cond.instanceMethod yX1_tryPart, Cond.selects RX1 yX1_tryPart yX1_tryPart, Cond.code yX1_tryPart cX1_tryPart 8 (some .boolean), Cond.methodLink RX1 119 yX1_isThere, Cond.instanceMethod yX1_isThere, Cond.selects RX1 yX1_isThere yX1_isThere, Cond.code yX1_isThere cX1_isThere 2 (some .boolean), Cond.methodLink RX1 98 yX1_tryJoin, Cond.instanceMethod yX1_tryJoin, Cond.selects RX1 yX1_tryJoin yX1_tryJoin, Cond.code yX1_tryJoin cX1_tryJoin 5 (some .boolean), Cond.methodLink RX1 102 yX1_trySell, Cond.instanceMethod yX1_trySell, Cond.selects RX1 yX1_trySell yX1_trySell, Cond.code yX1_trySell cX1_trySell 3 (some .boolean), Cond.methodLink RX1 105 yX1_trySettle, Cond.instanceMethod yX1_trySettle, Cond.selects RX1 yX1_trySettle yX1_trySettle, Cond.code yX1_trySettle cX1_trySettle 7 (some .boolean), Cond.methodLink RX1 122 yX1_weighAll, Cond.instanceMethod yX1_weighAll, Cond.selects RX1 yX1_weighAll yX1_weighAll, Cond.code yX1_weighAll cX1_weighAll 4 (some .long), Cond.fieldLink RX1 33 "TitheMap$Land" "weight" "[J"]
def wsX2_sell_r6 : List Cond := [Cond.methodLink RX1 126 yX1_areMeansKnown, Cond.instanceMethod yX1_areMeansKnown, Cond.selects RX1 yX1_areMeansKnown yX1_areMeansKnown, Cond.code yX1_areMeansKnown cX1_areMeansKnown 4 (some .boolean), Cond.fieldLink RX1 43 "TitheMap$Land" "means" "[I", Cond.methodLink RX1 144 yX0_mean, Cond.instanceMethod yX0_mean, Cond.selects RX0 yX0_mean yX0_mean, Cond.code yX0_mean cX0_mean 9 (some .int), Cond.methodLink RX0 67 Lib.Math.min.name, Cond.static Lib.Math.min.name, Cond.initialized "java/lang/Math", Cond.code Lib.Math.min.name Lib.Math.min.code 2 (some .int), Cond.methodLink RX1 129 yX1_shareOut, Cond.instanceMethod yX1_shareOut, Cond.selects RX1 yX1_shareOut yX1_shareOut, Cond.code yX1_shareOut cX1_shareOut 8 none, Cond.fieldLink RX1 37 "TitheMap$Land" "share" "[I", Cond.fieldLink RX1 40 "TitheMap$Land" "remainder" "[J", Cond.methodLink RX1 136 yX1_greatestRemainder, Cond.instanceMethod yX1_greatestRemainder, Cond.selects RX1 yX1_greatestRemainder yX1_greatestRemainder, Cond.code yX1_greatestRemainder cX1_greatestRemainder 3 (some .int), Cond.methodLink RX1 133 yX1_chargeShare]
def wsX2_sell_r7 : List Cond := [Cond.instanceMethod yX1_chargeShare, Cond.selects RX1 yX1_chargeShare yX1_chargeShare, Cond.code yX1_chargeShare cX1_chargeShare 8 none, Cond.constantLong RX1 140 (200), Cond.constantLong RX1 142 (2), Cond.methodLink RX1 108 yX1_tryBuy, Cond.instanceMethod yX1_tryBuy, Cond.selects RX1 yX1_tryBuy yX1_tryBuy, Cond.code yX1_tryBuy cX1_tryBuy 2 (some .boolean), Cond.methodLink RX2 152 yX0_withdrawDraft, Cond.instanceMethod yX0_withdrawDraft, Cond.selects RX0 yX0_withdrawDraft yX0_withdrawDraft, Cond.code yX0_withdrawDraft cX0_withdrawDraft 3 none, Cond.methodLink RX2 51 yX0_keep, Cond.instanceMethod yX0_keep, Cond.selects RX0 yX0_keep yX0_keep, Cond.code yX0_keep cX0_keep 4 (some .int), Cond.fieldLink RX0 60 "TitheMap$Book" "fields" "I", Cond.fieldLink RX0 39 "TitheMap$Book" "maker" "[I", Cond.fieldLink RX0 42 "TitheMap$Book" "ender" "[I", Cond.methodLink RX0 63 yX0_end, Cond.instanceMethod yX0_end, Cond.selects RX0 yX0_end yX0_end, Cond.code yX0_end cX0_end 3 none]
def wsX2_sell : List Cond := .code yX2_sell cX2_sell 4 (some .int) :: ((wsX2_sell_r1 ++ (wsX2_sell_r2 ++ (wsX2_sell_r3 ++ (wsX2_sell_r4 ++ (wsX2_sell_r5 ++ (wsX2_sell_r6 ++ wsX2_sell_r7)))))) ++ wsX20 ++ wsX00 ++ wsX10)
def wsX2_settle_r1 : List Cond := [Cond.constant RX2 81 (1000000), Cond.fieldLink RX2 10 "TitheMap" "book" "LTitheMap$Book;", Cond.fieldLink RX2 48 "TitheMap$Book" "amount" "[I", Cond.methodLink RX2 55 yX2_isActPossible, Cond.instanceMethod yX2_isActPossible, Cond.selects RX2 yX2_isActPossible yX2_isActPossible, Cond.initialized RX2, Cond.code yX2_isActPossible cX2_isActPossible 3 (some .boolean), Cond.fieldLink RX2 143 "TitheMap$Book" "fields" "I", Cond.methodLink RX2 28 yX0_isFull, Cond.instanceMethod yX0_isFull, Cond.selects RX0 yX0_isFull yX0_isFull, Cond.initialized RX0, Cond.code yX0_isFull cX0_isFull 1 (some .boolean), Cond.fieldLink RX0 45 "TitheMap$Book" "size" "I", Cond.methodLink RX2 32 yX2_isWithin, Cond.static yX2_isWithin, Cond.code yX2_isWithin cX2_isWithin 3 (some .boolean), Cond.methodLink RX2 36 yX0_draft, Cond.instanceMethod yX0_draft, Cond.selects RX0 yX0_draft yX0_draft, Cond.code yX0_draft cX0_draft 3 none, Cond.fieldLink RX0 9 "TitheMap$Book" "act" "[I", Cond.fieldLink RX0 15 "TitheMap$Book" "year" "[I"]
def wsX2_settle_r2 : List Cond := [Cond.fieldLink RX0 18 "TitheMap$Book" "first" "[I", Cond.fieldLink RX0 21 "TitheMap$Book" "second" "[I", Cond.fieldLink RX0 24 "TitheMap$Book" "amount" "[I", Cond.fieldLink RX0 27 "TitheMap$Book" "kind" "[I", Cond.fieldLink RX0 30 "TitheMap$Book" "owner" "[I", Cond.fieldLink RX0 33 "TitheMap$Book" "made" "[I", Cond.methodLink RX0 49 yX0_put, Cond.instanceMethod yX0_put, Cond.selects RX0 yX0_put yX0_put, Cond.code yX0_put cX0_put 3 none, Cond.methodLink RX2 44 yX0_put, Cond.methodLink RX2 69 yX2_takeDraft, Cond.instanceMethod yX2_takeDraft, Cond.selects RX2 yX2_takeDraft yX2_takeDraft, Cond.code yX2_takeDraft cX2_takeDraft 2 (some .int), Cond.fieldLink RX2 146 "TitheMap$Book" "made" "[I", Cond.fieldLink RX2 21 "TitheMap" "land" "LTitheMap$Land;", Cond.fieldLink RX2 139 "TitheMap$Book" "size" "I", Cond.methodLink RX2 149 yX0_fileDraft, Cond.instanceMethod yX0_fileDraft, Cond.selects RX0 yX0_fileDraft yX0_fileDraft, Cond.code yX0_fileDraft cX0_fileDraft 3 none, Cond.fieldLink RX0 53 "TitheMap$Book" "acts" "I", Cond.fieldLink RX0 36 "TitheMap$Book" "order" "[I"]
def wsX2_settle_r3 : List Cond := [Cond.static yX2_at, Cond.code yX2_at cX2_at 2 (some .int), Cond.methodLink RX2 89 yX1_show, Cond.instanceMethod yX1_show, Cond.selects RX1 yX1_show yX1_show, Cond.initialized RX1, Cond.code yX1_show cX1_show 6 (some .boolean), Cond.fieldLink RX1 9 "TitheMap$Land" "there" "[Z", Cond.fieldLink RX1 50 "TitheMap$Land" "settled" "Z", Cond.fieldLink RX1 46 "TitheMap$Land" "book" "LTitheMap$Book;", Cond.fieldLink RX1 54 "TitheMap$Book" "acts" "I", Cond.fieldLink RX1 60 "TitheMap$Book" "order" "[I", Cond.fieldLink RX1 67 "TitheMap$Book" "year" "[I", Cond.methodLink RX1 70 yX1_tryAct, Cond.instanceMethod yX1_tryAct, Cond.selects RX1 yX1_tryAct yX1_tryAct, Cond.code yX1_tryAct cX1_tryAct 6 (some .boolean), Cond.fieldLink RX1 74 "TitheMap$Book" "first" "[I", Cond.fieldLink RX1 77 "TitheMap$Book" "made" "[I", Cond.fieldLink RX1 80 "TitheMap$Book" "amount" "[I", Cond.fieldLink RX1 83 "TitheMap$Book" "act" "[I", Cond.fieldLink RX1 86 "TitheMap$Book" "kind" "[I", Cond.fieldLink RX1 87 "TitheMap$Book" "owner" "[I", Cond.fieldLink RX1 95 "TitheMap$Book" "second" "[I"]
def wsX2_settle_r4 : List Cond := [Cond.methodLink RX1 88 yX1_tryMake, Cond.instanceMethod yX1_tryMake, Cond.selects RX1 yX1_tryMake yX1_tryMake, Cond.code yX1_tryMake cX1_tryMake 5 (some .boolean), Cond.fieldLink RX1 15 "TitheMap$Land" "area" "[I", Cond.fieldLink RX1 19 "TitheMap$Land" "kind" "[I", Cond.fieldLink RX1 22 "TitheMap$Land" "owner" "[I", Cond.fieldLink RX1 30 "TitheMap$Land" "bought" "[Z", Cond.methodLink RX1 112 yX1_isNumber, Cond.static yX1_isNumber, Cond.code yX1_isNumber cX1_isNumber 1 (some .boolean), Cond.methodLink RX1 115 yX1_clearCharge, Cond.instanceMethod yX1_clearCharge, Cond.selects RX1 yX1_clearCharge yX1_clearCharge, Cond.code yX1_clearCharge cX1_clearCharge 3 none, Cond.fieldLink RX1 27 "TitheMap$Land" "charge" "[[I", Cond.methodLink RX1 92 yX1_tryPart, Cond.instanceMethod yX1_tryPart, Cond.selects RX1 yX1_tryPart yX1_tryPart, Cond.code yX1_tryPart cX1_tryPart 8 (some .boolean), Cond.methodLink RX1 119 yX1_isThere, Cond.instanceMethod yX1_isThere, Cond.selects RX1 yX1_isThere yX1_isThere, Cond.code yX1_isThere cX1_isThere 2 (some .boolean)]
def wsX2_settle_r5 : List Cond := [Cond.methodLink RX1 98 yX1_tryJoin, Cond.instanceMethod yX1_tryJoin, Cond.selects RX1 yX1_tryJoin yX1_tryJoin, Cond.code yX1_tryJoin cX1_tryJoin 5 (some .boolean), Cond.methodLink RX1 102 yX1_trySell, Cond.instanceMethod yX1_trySell, Cond.selects RX1 yX1_trySell yX1_trySell, Cond.code yX1_trySell cX1_trySell 3 (some .boolean), Cond.methodLink RX1 105 yX1_trySettle, Cond.instanceMethod yX1_trySettle, Cond.selects RX1 yX1_trySettle yX1_trySettle, Cond.code yX1_trySettle cX1_trySettle 7 (some .boolean), Cond.methodLink RX1 122 yX1_weighAll, Cond.instanceMethod yX1_weighAll, Cond.selects RX1 yX1_weighAll yX1_weighAll, Cond.code yX1_weighAll cX1_weighAll 4 (some .long), Cond.fieldLink RX1 33 "TitheMap$Land" "weight" "[J", Cond.methodLink RX1 126 yX1_areMeansKnown, Cond.instanceMethod yX1_areMeansKnown, Cond.selects RX1 yX1_areMeansKnown yX1_areMeansKnown, Cond.code yX1_areMeansKnown cX1_areMeansKnown 4 (some .boolean), Cond.fieldLink RX1 43 "TitheMap$Land" "means" "[I", Cond.methodLink RX1 144 yX0_mean, Cond.instanceMethod yX0_mean]
def wsX2_settle_r6 : List Cond := [Cond.selects RX0 yX0_mean yX0_mean, Cond.code yX0_mean cX0_mean 9 (some .int), Cond.methodLink RX0 67 Lib.Math.min.name, Cond.static Lib.Math.min.name, Cond.initialized "java/lang/Math", Cond.code Lib.Math.min.name Lib.Math.min.code 2 (some .int), Cond.methodLink RX1 129 yX1_shareOut, Cond.instanceMethod yX1_shareOut, Cond.selects RX1 yX1_shareOut yX1_shareOut, Cond.code yX1_shareOut cX1_shareOut 8 none, Cond.fieldLink RX1 37 "TitheMap$Land" "share" "[I", Cond.fieldLink RX1 40 "TitheMap$Land" "remainder" "[J", Cond.methodLink RX1 136 yX1_greatestRemainder, Cond.instanceMethod yX1_greatestRemainder, Cond.selects RX1 yX1_greatestRemainder yX1_greatestRemainder, Cond.code yX1_greatestRemainder cX1_greatestRemainder 3 (some .int), Cond.methodLink RX1 133 yX1_chargeShare, Cond.instanceMethod yX1_chargeShare, Cond.selects RX1 yX1_chargeShare yX1_chargeShare, Cond.code yX1_chargeShare cX1_chargeShare 8 none, Cond.constantLong RX1 140 (200), Cond.constantLong RX1 142 (2), Cond.methodLink RX1 108 yX1_tryBuy, Cond.instanceMethod yX1_tryBuy]
def wsX2_settle_r7 : List Cond := [Cond.selects RX1 yX1_tryBuy yX1_tryBuy, Cond.code yX1_tryBuy cX1_tryBuy 2 (some .boolean), Cond.methodLink RX2 152 yX0_withdrawDraft, Cond.instanceMethod yX0_withdrawDraft, Cond.selects RX0 yX0_withdrawDraft yX0_withdrawDraft, Cond.code yX0_withdrawDraft cX0_withdrawDraft 3 none, Cond.methodLink RX2 51 yX0_keep, Cond.instanceMethod yX0_keep, Cond.selects RX0 yX0_keep yX0_keep, Cond.code yX0_keep cX0_keep 4 (some .int), Cond.fieldLink RX0 60 "TitheMap$Book" "fields" "I", Cond.fieldLink RX0 39 "TitheMap$Book" "maker" "[I", Cond.fieldLink RX0 42 "TitheMap$Book" "ender" "[I", Cond.methodLink RX0 63 yX0_end, Cond.instanceMethod yX0_end, Cond.selects RX0 yX0_end yX0_end, Cond.code yX0_end cX0_end 3 none]
def wsX2_settle : List Cond := .code yX2_settle cX2_settle 3 (some .int) :: ((wsX2_settle_r1 ++ (wsX2_settle_r2 ++ (wsX2_settle_r3 ++ (wsX2_settle_r4 ++ (wsX2_settle_r5 ++ (wsX2_settle_r6 ++ wsX2_settle_r7)))))) ++ wsX20 ++ wsX00 ++ wsX10)
def wsX2_buy_r1 : List Cond := [Cond.fieldLink RX2 10 "TitheMap" "book" "LTitheMap$Book;", Cond.fieldLink RX2 40 "TitheMap$Book" "first" "[I", Cond.methodLink RX2 55 yX2_isActPossible, Cond.instanceMethod yX2_isActPossible, Cond.selects RX2 yX2_isActPossible yX2_isActPossible, Cond.initialized RX2, Cond.code yX2_isActPossible cX2_isActPossible 3 (some .boolean), Cond.fieldLink RX2 143 "TitheMap$Book" "fields" "I", Cond.methodLink RX2 28 yX0_isFull, Cond.instanceMethod yX0_isFull, Cond.selects RX0 yX0_isFull yX0_isFull, Cond.initialized RX0, Cond.code yX0_isFull cX0_isFull 1 (some .boolean), Cond.fieldLink RX0 45 "TitheMap$Book" "size" "I", Cond.methodLink RX2 32 yX2_isWithin, Cond.static yX2_isWithin, Cond.code yX2_isWithin cX2_isWithin 3 (some .boolean), Cond.methodLink RX2 75 yX2_isField, Cond.instanceMethod yX2_isField, Cond.selects RX2 yX2_isField yX2_isField, Cond.code yX2_isField cX2_isField 2 (some .boolean), Cond.methodLink RX2 36 yX0_draft, Cond.instanceMethod yX0_draft, Cond.selects RX0 yX0_draft yX0_draft]
def wsX2_buy_r2 : List Cond := [Cond.code yX0_draft cX0_draft 3 none, Cond.fieldLink RX0 9 "TitheMap$Book" "act" "[I", Cond.fieldLink RX0 15 "TitheMap$Book" "year" "[I", Cond.fieldLink RX0 18 "TitheMap$Book" "first" "[I", Cond.fieldLink RX0 21 "TitheMap$Book" "second" "[I", Cond.fieldLink RX0 24 "TitheMap$Book" "amount" "[I", Cond.fieldLink RX0 27 "TitheMap$Book" "kind" "[I", Cond.fieldLink RX0 30 "TitheMap$Book" "owner" "[I", Cond.fieldLink RX0 33 "TitheMap$Book" "made" "[I", Cond.methodLink RX0 49 yX0_put, Cond.instanceMethod yX0_put, Cond.selects RX0 yX0_put yX0_put, Cond.code yX0_put cX0_put 3 none, Cond.methodLink RX2 44 yX0_put, Cond.methodLink RX2 69 yX2_takeDraft, Cond.instanceMethod yX2_takeDraft, Cond.selects RX2 yX2_takeDraft yX2_takeDraft, Cond.code yX2_takeDraft cX2_takeDraft 2 (some .int), Cond.fieldLink RX2 146 "TitheMap$Book" "made" "[I", Cond.fieldLink RX2 21 "TitheMap" "land" "LTitheMap$Land;", Cond.fieldLink RX2 139 "TitheMap$Book" "size" "I", Cond.methodLink RX2 149 yX0_fileDraft, Cond.instanceMethod yX0_fileDraft, Cond.selects RX0 yX0_fileDraft yX0_fileDraft]
def wsX2_buy_r3 : List Cond := [Cond.code yX0_fileDraft cX0_fileDraft 3 none, Cond.fieldLink RX0 53 "TitheMap$Book" "acts" "I", Cond.fieldLink RX0 36 "TitheMap$Book" "order" "[I", Cond.static yX2_at, Cond.code yX2_at cX2_at 2 (some .int), Cond.methodLink RX2 89 yX1_show, Cond.instanceMethod yX1_show, Cond.selects RX1 yX1_show yX1_show, Cond.initialized RX1, Cond.code yX1_show cX1_show 6 (some .boolean), Cond.fieldLink RX1 9 "TitheMap$Land" "there" "[Z", Cond.fieldLink RX1 50 "TitheMap$Land" "settled" "Z", Cond.fieldLink RX1 46 "TitheMap$Land" "book" "LTitheMap$Book;", Cond.fieldLink RX1 54 "TitheMap$Book" "acts" "I", Cond.fieldLink RX1 60 "TitheMap$Book" "order" "[I", Cond.fieldLink RX1 67 "TitheMap$Book" "year" "[I", Cond.methodLink RX1 70 yX1_tryAct, Cond.instanceMethod yX1_tryAct, Cond.selects RX1 yX1_tryAct yX1_tryAct, Cond.code yX1_tryAct cX1_tryAct 6 (some .boolean), Cond.fieldLink RX1 74 "TitheMap$Book" "first" "[I", Cond.fieldLink RX1 77 "TitheMap$Book" "made" "[I", Cond.fieldLink RX1 80 "TitheMap$Book" "amount" "[I", Cond.fieldLink RX1 83 "TitheMap$Book" "act" "[I"]
def wsX2_buy_r4 : List Cond := [Cond.fieldLink RX1 86 "TitheMap$Book" "kind" "[I", Cond.fieldLink RX1 87 "TitheMap$Book" "owner" "[I", Cond.fieldLink RX1 95 "TitheMap$Book" "second" "[I", Cond.methodLink RX1 88 yX1_tryMake, Cond.instanceMethod yX1_tryMake, Cond.selects RX1 yX1_tryMake yX1_tryMake, Cond.code yX1_tryMake cX1_tryMake 5 (some .boolean), Cond.fieldLink RX1 15 "TitheMap$Land" "area" "[I", Cond.fieldLink RX1 19 "TitheMap$Land" "kind" "[I", Cond.fieldLink RX1 22 "TitheMap$Land" "owner" "[I", Cond.fieldLink RX1 30 "TitheMap$Land" "bought" "[Z", Cond.methodLink RX1 112 yX1_isNumber, Cond.static yX1_isNumber, Cond.code yX1_isNumber cX1_isNumber 1 (some .boolean), Cond.methodLink RX1 115 yX1_clearCharge, Cond.instanceMethod yX1_clearCharge, Cond.selects RX1 yX1_clearCharge yX1_clearCharge, Cond.code yX1_clearCharge cX1_clearCharge 3 none, Cond.fieldLink RX1 27 "TitheMap$Land" "charge" "[[I", Cond.methodLink RX1 92 yX1_tryPart, Cond.instanceMethod yX1_tryPart, Cond.selects RX1 yX1_tryPart yX1_tryPart, Cond.code yX1_tryPart cX1_tryPart 8 (some .boolean), Cond.methodLink RX1 119 yX1_isThere]
def wsX2_buy_r5 : List Cond := [Cond.instanceMethod yX1_isThere, Cond.selects RX1 yX1_isThere yX1_isThere, Cond.code yX1_isThere cX1_isThere 2 (some .boolean), Cond.methodLink RX1 98 yX1_tryJoin, Cond.instanceMethod yX1_tryJoin, Cond.selects RX1 yX1_tryJoin yX1_tryJoin, Cond.code yX1_tryJoin cX1_tryJoin 5 (some .boolean), Cond.methodLink RX1 102 yX1_trySell, Cond.instanceMethod yX1_trySell, Cond.selects RX1 yX1_trySell yX1_trySell, Cond.code yX1_trySell cX1_trySell 3 (some .boolean), Cond.methodLink RX1 105 yX1_trySettle, Cond.instanceMethod yX1_trySettle, Cond.selects RX1 yX1_trySettle yX1_trySettle, Cond.code yX1_trySettle cX1_trySettle 7 (some .boolean), Cond.methodLink RX1 122 yX1_weighAll, Cond.instanceMethod yX1_weighAll, Cond.selects RX1 yX1_weighAll yX1_weighAll, Cond.code yX1_weighAll cX1_weighAll 4 (some .long), Cond.fieldLink RX1 33 "TitheMap$Land" "weight" "[J", Cond.methodLink RX1 126 yX1_areMeansKnown, Cond.instanceMethod yX1_areMeansKnown, Cond.selects RX1 yX1_areMeansKnown yX1_areMeansKnown, Cond.code yX1_areMeansKnown cX1_areMeansKnown 4 (some .boolean)]
def wsX2_buy_r6 : List Cond := [Cond.fieldLink RX1 43 "TitheMap$Land" "means" "[I", Cond.methodLink RX1 144 yX0_mean, Cond.instanceMethod yX0_mean, Cond.selects RX0 yX0_mean yX0_mean, Cond.code yX0_mean cX0_mean 9 (some .int), Cond.methodLink RX0 67 Lib.Math.min.name, Cond.static Lib.Math.min.name, Cond.initialized "java/lang/Math", Cond.code Lib.Math.min.name Lib.Math.min.code 2 (some .int), Cond.methodLink RX1 129 yX1_shareOut, Cond.instanceMethod yX1_shareOut, Cond.selects RX1 yX1_shareOut yX1_shareOut, Cond.code yX1_shareOut cX1_shareOut 8 none, Cond.fieldLink RX1 37 "TitheMap$Land" "share" "[I", Cond.fieldLink RX1 40 "TitheMap$Land" "remainder" "[J", Cond.methodLink RX1 136 yX1_greatestRemainder, Cond.instanceMethod yX1_greatestRemainder, Cond.selects RX1 yX1_greatestRemainder yX1_greatestRemainder, Cond.code yX1_greatestRemainder cX1_greatestRemainder 3 (some .int), Cond.methodLink RX1 133 yX1_chargeShare, Cond.instanceMethod yX1_chargeShare, Cond.selects RX1 yX1_chargeShare yX1_chargeShare, Cond.code yX1_chargeShare cX1_chargeShare 8 none, Cond.constantLong RX1 140 (200)]
def wsX2_buy_r7 : List Cond := [Cond.constantLong RX1 142 (2), Cond.methodLink RX1 108 yX1_tryBuy, Cond.instanceMethod yX1_tryBuy, Cond.selects RX1 yX1_tryBuy yX1_tryBuy, Cond.code yX1_tryBuy cX1_tryBuy 2 (some .boolean), Cond.methodLink RX2 152 yX0_withdrawDraft, Cond.instanceMethod yX0_withdrawDraft, Cond.selects RX0 yX0_withdrawDraft yX0_withdrawDraft, Cond.code yX0_withdrawDraft cX0_withdrawDraft 3 none, Cond.methodLink RX2 51 yX0_keep, Cond.instanceMethod yX0_keep, Cond.selects RX0 yX0_keep yX0_keep, Cond.code yX0_keep cX0_keep 4 (some .int), Cond.fieldLink RX0 60 "TitheMap$Book" "fields" "I", Cond.fieldLink RX0 39 "TitheMap$Book" "maker" "[I", Cond.fieldLink RX0 42 "TitheMap$Book" "ender" "[I", Cond.methodLink RX0 63 yX0_end, Cond.instanceMethod yX0_end, Cond.selects RX0 yX0_end yX0_end, Cond.code yX0_end cX0_end 3 none]
def wsX2_buy : List Cond := .code yX2_buy cX2_buy 3 (some .int) :: ((wsX2_buy_r1 ++ (wsX2_buy_r2 ++ (wsX2_buy_r3 ++ (wsX2_buy_r4 ++ (wsX2_buy_r5 ++ (wsX2_buy_r6 ++ wsX2_buy_r7)))))) ++ wsX20 ++ wsX00 ++ wsX10)
def wsX2_isKnowing : List Cond := .code yX2_isKnowing cX2_isKnowing 2 (some .boolean) :: ([.fieldLink RX2 10 "TitheMap" "book" "LTitheMap$Book;", .fieldLink RX2 139 "TitheMap$Book" "size" "I", .methodLink RX2 32 yX2_isWithin, .static yX2_isWithin, .initialized RX2, .code yX2_isWithin cX2_isWithin 3 (some .boolean)] ++ wsX20 ++ wsX00)
def wsX2_average : List Cond := .code yX2_average cX2_average 4 (some .int) :: ([.fieldLink RX2 10 "TitheMap" "book" "LTitheMap$Book;", .methodLink RX2 82 yX2_isKnowing, .instanceMethod yX2_isKnowing, .selects RX2 yX2_isKnowing yX2_isKnowing, .initialized RX2, .code yX2_isKnowing cX2_isKnowing 2 (some .boolean), .fieldLink RX2 139 "TitheMap$Book" "size" "I", .methodLink RX2 32 yX2_isWithin, .static yX2_isWithin, .code yX2_isWithin cX2_isWithin 3 (some .boolean), .methodLink RX2 85 yX0_mean, .instanceMethod yX0_mean, .selects RX0 yX0_mean yX0_mean, .initialized RX0, .code yX0_mean cX0_mean 9 (some .int), .methodLink RX0 67 Lib.Math.min.name, .static Lib.Math.min.name, .initialized "java/lang/Math", .code Lib.Math.min.name Lib.Math.min.code 2 (some .int), .fieldLink RX0 15 "TitheMap$Book" "year" "[I", .fieldLink RX0 9 "TitheMap$Book" "act" "[I", .fieldLink RX0 18 "TitheMap$Book" "first" "[I", .fieldLink RX0 24 "TitheMap$Book" "amount" "[I"] ++ wsX20 ++ wsX00)
def wsX2_look_r1 : List Cond := [Cond.fieldLink RX2 21 "TitheMap" "land" "LTitheMap$Land;", Cond.methodLink RX2 82 yX2_isKnowing, Cond.instanceMethod yX2_isKnowing, Cond.selects RX2 yX2_isKnowing yX2_isKnowing, Cond.initialized RX2, Cond.code yX2_isKnowing cX2_isKnowing 2 (some .boolean), Cond.fieldLink RX2 10 "TitheMap" "book" "LTitheMap$Book;", Cond.fieldLink RX2 139 "TitheMap$Book" "size" "I", Cond.methodLink RX2 32 yX2_isWithin, Cond.static yX2_isWithin, Cond.code yX2_isWithin cX2_isWithin 3 (some .boolean), Cond.methodLink RX2 75 yX2_isField, Cond.instanceMethod yX2_isField, Cond.selects RX2 yX2_isField yX2_isField, Cond.code yX2_isField cX2_isField 2 (some .boolean), Cond.fieldLink RX2 143 "TitheMap$Book" "fields" "I", Cond.methodLink RX2 89 yX1_show, Cond.instanceMethod yX1_show, Cond.selects RX1 yX1_show yX1_show, Cond.initialized RX1, Cond.code yX1_show cX1_show 6 (some .boolean), Cond.fieldLink RX1 9 "TitheMap$Land" "there" "[Z", Cond.fieldLink RX1 50 "TitheMap$Land" "settled" "Z", Cond.fieldLink RX1 46 "TitheMap$Land" "book" "LTitheMap$Book;"]
def wsX2_look_r2 : List Cond := [Cond.fieldLink RX1 54 "TitheMap$Book" "acts" "I", Cond.fieldLink RX1 60 "TitheMap$Book" "order" "[I", Cond.fieldLink RX1 67 "TitheMap$Book" "year" "[I", Cond.static yX2_at, Cond.code yX2_at cX2_at 2 (some .int), Cond.methodLink RX1 70 yX1_tryAct, Cond.instanceMethod yX1_tryAct, Cond.selects RX1 yX1_tryAct yX1_tryAct, Cond.code yX1_tryAct cX1_tryAct 6 (some .boolean), Cond.fieldLink RX1 74 "TitheMap$Book" "first" "[I", Cond.fieldLink RX1 77 "TitheMap$Book" "made" "[I", Cond.fieldLink RX1 80 "TitheMap$Book" "amount" "[I", Cond.fieldLink RX1 83 "TitheMap$Book" "act" "[I", Cond.fieldLink RX1 86 "TitheMap$Book" "kind" "[I", Cond.fieldLink RX1 87 "TitheMap$Book" "owner" "[I", Cond.fieldLink RX1 95 "TitheMap$Book" "second" "[I", Cond.methodLink RX1 88 yX1_tryMake, Cond.instanceMethod yX1_tryMake, Cond.selects RX1 yX1_tryMake yX1_tryMake, Cond.code yX1_tryMake cX1_tryMake 5 (some .boolean), Cond.fieldLink RX1 15 "TitheMap$Land" "area" "[I", Cond.fieldLink RX1 19 "TitheMap$Land" "kind" "[I", Cond.fieldLink RX1 22 "TitheMap$Land" "owner" "[I", Cond.fieldLink RX1 30 "TitheMap$Land" "bought" "[Z"]
def wsX2_look_r3 : List Cond := [Cond.methodLink RX1 112 yX1_isNumber, Cond.static yX1_isNumber, Cond.code yX1_isNumber cX1_isNumber 1 (some .boolean), Cond.methodLink RX1 115 yX1_clearCharge, Cond.instanceMethod yX1_clearCharge, Cond.selects RX1 yX1_clearCharge yX1_clearCharge, Cond.code yX1_clearCharge cX1_clearCharge 3 none, Cond.fieldLink RX1 27 "TitheMap$Land" "charge" "[[I", Cond.methodLink RX1 92 yX1_tryPart, Cond.instanceMethod yX1_tryPart, Cond.selects RX1 yX1_tryPart yX1_tryPart, Cond.code yX1_tryPart cX1_tryPart 8 (some .boolean), Cond.methodLink RX1 119 yX1_isThere, Cond.instanceMethod yX1_isThere, Cond.selects RX1 yX1_isThere yX1_isThere, Cond.code yX1_isThere cX1_isThere 2 (some .boolean), Cond.methodLink RX1 98 yX1_tryJoin, Cond.instanceMethod yX1_tryJoin, Cond.selects RX1 yX1_tryJoin yX1_tryJoin, Cond.code yX1_tryJoin cX1_tryJoin 5 (some .boolean), Cond.methodLink RX1 102 yX1_trySell, Cond.instanceMethod yX1_trySell, Cond.selects RX1 yX1_trySell yX1_trySell, Cond.code yX1_trySell cX1_trySell 3 (some .boolean)]
def wsX2_look_r4 : List Cond := [Cond.methodLink RX1 105 yX1_trySettle, Cond.instanceMethod yX1_trySettle, Cond.selects RX1 yX1_trySettle yX1_trySettle, Cond.code yX1_trySettle cX1_trySettle 7 (some .boolean), Cond.methodLink RX1 122 yX1_weighAll, Cond.instanceMethod yX1_weighAll, Cond.selects RX1 yX1_weighAll yX1_weighAll, Cond.code yX1_weighAll cX1_weighAll 4 (some .long), Cond.fieldLink RX1 33 "TitheMap$Land" "weight" "[J", Cond.methodLink RX1 126 yX1_areMeansKnown, Cond.instanceMethod yX1_areMeansKnown, Cond.selects RX1 yX1_areMeansKnown yX1_areMeansKnown, Cond.code yX1_areMeansKnown cX1_areMeansKnown 4 (some .boolean), Cond.fieldLink RX1 43 "TitheMap$Land" "means" "[I", Cond.methodLink RX1 144 yX0_mean, Cond.instanceMethod yX0_mean, Cond.selects RX0 yX0_mean yX0_mean, Cond.initialized RX0, Cond.code yX0_mean cX0_mean 9 (some .int), Cond.methodLink RX0 67 Lib.Math.min.name, Cond.static Lib.Math.min.name, Cond.initialized "java/lang/Math", Cond.code Lib.Math.min.name Lib.Math.min.code 2 (some .int), Cond.fieldLink RX0 15 "TitheMap$Book" "year" "[I"]
def wsX2_look_r5 : List Cond := [Cond.fieldLink RX0 9 "TitheMap$Book" "act" "[I", Cond.fieldLink RX0 18 "TitheMap$Book" "first" "[I", Cond.fieldLink RX0 24 "TitheMap$Book" "amount" "[I", Cond.methodLink RX1 129 yX1_shareOut, Cond.instanceMethod yX1_shareOut, Cond.selects RX1 yX1_shareOut yX1_shareOut, Cond.code yX1_shareOut cX1_shareOut 8 none, Cond.fieldLink RX1 37 "TitheMap$Land" "share" "[I", Cond.fieldLink RX1 40 "TitheMap$Land" "remainder" "[J", Cond.methodLink RX1 136 yX1_greatestRemainder, Cond.instanceMethod yX1_greatestRemainder, Cond.selects RX1 yX1_greatestRemainder yX1_greatestRemainder, Cond.code yX1_greatestRemainder cX1_greatestRemainder 3 (some .int), Cond.methodLink RX1 133 yX1_chargeShare, Cond.instanceMethod yX1_chargeShare, Cond.selects RX1 yX1_chargeShare yX1_chargeShare, Cond.code yX1_chargeShare cX1_chargeShare 8 none, Cond.constantLong RX1 140 (200), Cond.constantLong RX1 142 (2), Cond.methodLink RX1 108 yX1_tryBuy, Cond.instanceMethod yX1_tryBuy, Cond.selects RX1 yX1_tryBuy yX1_tryBuy, Cond.code yX1_tryBuy cX1_tryBuy 2 (some .boolean), Cond.methodLink RX2 92 yX1_tell]
def wsX2_look_r6 : List Cond := [Cond.instanceMethod yX1_tell, Cond.selects RX1 yX1_tell yX1_tell, Cond.code yX1_tell cX1_tell 3 (some .int)]
def wsX2_look : List Cond := .code yX2_look cX2_look 5 (some .int) :: ((wsX2_look_r1 ++ (wsX2_look_r2 ++ (wsX2_look_r3 ++ (wsX2_look_r4 ++ (wsX2_look_r5 ++ wsX2_look_r6))))) ++ wsX20 ++ wsX00 ++ wsX10)
def wsX2_money_r1 : List Cond := [Cond.constantLong RX2 96 (-1), Cond.fieldLink RX2 21 "TitheMap" "land" "LTitheMap$Land;", Cond.methodLink RX2 82 yX2_isKnowing, Cond.instanceMethod yX2_isKnowing, Cond.selects RX2 yX2_isKnowing yX2_isKnowing, Cond.initialized RX2, Cond.code yX2_isKnowing cX2_isKnowing 2 (some .boolean), Cond.fieldLink RX2 10 "TitheMap" "book" "LTitheMap$Book;", Cond.fieldLink RX2 139 "TitheMap$Book" "size" "I", Cond.methodLink RX2 32 yX2_isWithin, Cond.static yX2_isWithin, Cond.code yX2_isWithin cX2_isWithin 3 (some .boolean), Cond.methodLink RX2 75 yX2_isField, Cond.instanceMethod yX2_isField, Cond.selects RX2 yX2_isField yX2_isField, Cond.code yX2_isField cX2_isField 2 (some .boolean), Cond.fieldLink RX2 143 "TitheMap$Book" "fields" "I", Cond.methodLink RX2 89 yX1_show, Cond.instanceMethod yX1_show, Cond.selects RX1 yX1_show yX1_show, Cond.initialized RX1, Cond.code yX1_show cX1_show 6 (some .boolean), Cond.fieldLink RX1 9 "TitheMap$Land" "there" "[Z", Cond.fieldLink RX1 50 "TitheMap$Land" "settled" "Z"]
def wsX2_money_r2 : List Cond := [Cond.fieldLink RX1 46 "TitheMap$Land" "book" "LTitheMap$Book;", Cond.fieldLink RX1 54 "TitheMap$Book" "acts" "I", Cond.fieldLink RX1 60 "TitheMap$Book" "order" "[I", Cond.fieldLink RX1 67 "TitheMap$Book" "year" "[I", Cond.static yX2_at, Cond.code yX2_at cX2_at 2 (some .int), Cond.methodLink RX1 70 yX1_tryAct, Cond.instanceMethod yX1_tryAct, Cond.selects RX1 yX1_tryAct yX1_tryAct, Cond.code yX1_tryAct cX1_tryAct 6 (some .boolean), Cond.fieldLink RX1 74 "TitheMap$Book" "first" "[I", Cond.fieldLink RX1 77 "TitheMap$Book" "made" "[I", Cond.fieldLink RX1 80 "TitheMap$Book" "amount" "[I", Cond.fieldLink RX1 83 "TitheMap$Book" "act" "[I", Cond.fieldLink RX1 86 "TitheMap$Book" "kind" "[I", Cond.fieldLink RX1 87 "TitheMap$Book" "owner" "[I", Cond.fieldLink RX1 95 "TitheMap$Book" "second" "[I", Cond.methodLink RX1 88 yX1_tryMake, Cond.instanceMethod yX1_tryMake, Cond.selects RX1 yX1_tryMake yX1_tryMake, Cond.code yX1_tryMake cX1_tryMake 5 (some .boolean), Cond.fieldLink RX1 15 "TitheMap$Land" "area" "[I", Cond.fieldLink RX1 19 "TitheMap$Land" "kind" "[I", Cond.fieldLink RX1 22 "TitheMap$Land" "owner" "[I"]
def wsX2_money_r3 : List Cond := [Cond.fieldLink RX1 30 "TitheMap$Land" "bought" "[Z", Cond.methodLink RX1 112 yX1_isNumber, Cond.static yX1_isNumber, Cond.code yX1_isNumber cX1_isNumber 1 (some .boolean), Cond.methodLink RX1 115 yX1_clearCharge, Cond.instanceMethod yX1_clearCharge, Cond.selects RX1 yX1_clearCharge yX1_clearCharge, Cond.code yX1_clearCharge cX1_clearCharge 3 none, Cond.fieldLink RX1 27 "TitheMap$Land" "charge" "[[I", Cond.methodLink RX1 92 yX1_tryPart, Cond.instanceMethod yX1_tryPart, Cond.selects RX1 yX1_tryPart yX1_tryPart, Cond.code yX1_tryPart cX1_tryPart 8 (some .boolean), Cond.methodLink RX1 119 yX1_isThere, Cond.instanceMethod yX1_isThere, Cond.selects RX1 yX1_isThere yX1_isThere, Cond.code yX1_isThere cX1_isThere 2 (some .boolean), Cond.methodLink RX1 98 yX1_tryJoin, Cond.instanceMethod yX1_tryJoin, Cond.selects RX1 yX1_tryJoin yX1_tryJoin, Cond.code yX1_tryJoin cX1_tryJoin 5 (some .boolean), Cond.methodLink RX1 102 yX1_trySell, Cond.instanceMethod yX1_trySell, Cond.selects RX1 yX1_trySell yX1_trySell]
def wsX2_money_r4 : List Cond := [Cond.code yX1_trySell cX1_trySell 3 (some .boolean), Cond.methodLink RX1 105 yX1_trySettle, Cond.instanceMethod yX1_trySettle, Cond.selects RX1 yX1_trySettle yX1_trySettle, Cond.code yX1_trySettle cX1_trySettle 7 (some .boolean), Cond.methodLink RX1 122 yX1_weighAll, Cond.instanceMethod yX1_weighAll, Cond.selects RX1 yX1_weighAll yX1_weighAll, Cond.code yX1_weighAll cX1_weighAll 4 (some .long), Cond.fieldLink RX1 33 "TitheMap$Land" "weight" "[J", Cond.methodLink RX1 126 yX1_areMeansKnown, Cond.instanceMethod yX1_areMeansKnown, Cond.selects RX1 yX1_areMeansKnown yX1_areMeansKnown, Cond.code yX1_areMeansKnown cX1_areMeansKnown 4 (some .boolean), Cond.fieldLink RX1 43 "TitheMap$Land" "means" "[I", Cond.methodLink RX1 144 yX0_mean, Cond.instanceMethod yX0_mean, Cond.selects RX0 yX0_mean yX0_mean, Cond.initialized RX0, Cond.code yX0_mean cX0_mean 9 (some .int), Cond.methodLink RX0 67 Lib.Math.min.name, Cond.static Lib.Math.min.name, Cond.initialized "java/lang/Math", Cond.code Lib.Math.min.name Lib.Math.min.code 2 (some .int)]
def wsX2_money_r5 : List Cond := [Cond.fieldLink RX0 15 "TitheMap$Book" "year" "[I", Cond.fieldLink RX0 9 "TitheMap$Book" "act" "[I", Cond.fieldLink RX0 18 "TitheMap$Book" "first" "[I", Cond.fieldLink RX0 24 "TitheMap$Book" "amount" "[I", Cond.methodLink RX1 129 yX1_shareOut, Cond.instanceMethod yX1_shareOut, Cond.selects RX1 yX1_shareOut yX1_shareOut, Cond.code yX1_shareOut cX1_shareOut 8 none, Cond.fieldLink RX1 37 "TitheMap$Land" "share" "[I", Cond.fieldLink RX1 40 "TitheMap$Land" "remainder" "[J", Cond.methodLink RX1 136 yX1_greatestRemainder, Cond.instanceMethod yX1_greatestRemainder, Cond.selects RX1 yX1_greatestRemainder yX1_greatestRemainder, Cond.code yX1_greatestRemainder cX1_greatestRemainder 3 (some .int), Cond.methodLink RX1 133 yX1_chargeShare, Cond.instanceMethod yX1_chargeShare, Cond.selects RX1 yX1_chargeShare yX1_chargeShare, Cond.code yX1_chargeShare cX1_chargeShare 8 none, Cond.constantLong RX1 140 (200), Cond.constantLong RX1 142 (2), Cond.methodLink RX1 108 yX1_tryBuy, Cond.instanceMethod yX1_tryBuy, Cond.selects RX1 yX1_tryBuy yX1_tryBuy, Cond.code yX1_tryBuy cX1_tryBuy 2 (some .boolean)]
def wsX2_money_r6 : List Cond := [Cond.methodLink RX2 98 yX1_worth, Cond.instanceMethod yX1_worth, Cond.selects RX1 yX1_worth yX1_worth, Cond.code yX1_worth cX1_worth 4 (some .long), Cond.constantLong RX1 152 (-1), Cond.methodLink RX1 148 yX1_worthByMeans, Cond.instanceMethod yX1_worthByMeans, Cond.selects RX1 yX1_worthByMeans yX1_worthByMeans, Cond.code yX1_worthByMeans cX1_worthByMeans 5 (some .long), Cond.constantLong RX1 154 (50), Cond.constantLong RX1 156 (100)]
def wsX2_money : List Cond := .code yX2_money cX2_money 4 (some .long) :: ((wsX2_money_r1 ++ (wsX2_money_r2 ++ (wsX2_money_r3 ++ (wsX2_money_r4 ++ (wsX2_money_r5 ++ wsX2_money_r6))))) ++ wsX20 ++ wsX00 ++ wsX10)
def wsX2_owed_r1 : List Cond := [Cond.constantLong RX2 96 (-1), Cond.fieldLink RX2 21 "TitheMap" "land" "LTitheMap$Land;", Cond.methodLink RX2 82 yX2_isKnowing, Cond.instanceMethod yX2_isKnowing, Cond.selects RX2 yX2_isKnowing yX2_isKnowing, Cond.initialized RX2, Cond.code yX2_isKnowing cX2_isKnowing 2 (some .boolean), Cond.fieldLink RX2 10 "TitheMap" "book" "LTitheMap$Book;", Cond.fieldLink RX2 139 "TitheMap$Book" "size" "I", Cond.methodLink RX2 32 yX2_isWithin, Cond.static yX2_isWithin, Cond.code yX2_isWithin cX2_isWithin 3 (some .boolean), Cond.methodLink RX2 59 yX2_isOwner, Cond.static yX2_isOwner, Cond.code yX2_isOwner cX2_isOwner 1 (some .boolean), Cond.methodLink RX2 89 yX1_show, Cond.instanceMethod yX1_show, Cond.selects RX1 yX1_show yX1_show, Cond.initialized RX1, Cond.code yX1_show cX1_show 6 (some .boolean), Cond.fieldLink RX1 9 "TitheMap$Land" "there" "[Z", Cond.fieldLink RX1 50 "TitheMap$Land" "settled" "Z", Cond.fieldLink RX1 46 "TitheMap$Land" "book" "LTitheMap$Book;", Cond.fieldLink RX1 54 "TitheMap$Book" "acts" "I"]
def wsX2_owed_r2 : List Cond := [Cond.fieldLink RX1 60 "TitheMap$Book" "order" "[I", Cond.fieldLink RX1 67 "TitheMap$Book" "year" "[I", Cond.static yX2_at, Cond.code yX2_at cX2_at 2 (some .int), Cond.methodLink RX1 70 yX1_tryAct, Cond.instanceMethod yX1_tryAct, Cond.selects RX1 yX1_tryAct yX1_tryAct, Cond.code yX1_tryAct cX1_tryAct 6 (some .boolean), Cond.fieldLink RX1 74 "TitheMap$Book" "first" "[I", Cond.fieldLink RX1 77 "TitheMap$Book" "made" "[I", Cond.fieldLink RX1 80 "TitheMap$Book" "amount" "[I", Cond.fieldLink RX1 83 "TitheMap$Book" "act" "[I", Cond.fieldLink RX1 86 "TitheMap$Book" "kind" "[I", Cond.fieldLink RX1 87 "TitheMap$Book" "owner" "[I", Cond.fieldLink RX1 95 "TitheMap$Book" "second" "[I", Cond.methodLink RX1 88 yX1_tryMake, Cond.instanceMethod yX1_tryMake, Cond.selects RX1 yX1_tryMake yX1_tryMake, Cond.code yX1_tryMake cX1_tryMake 5 (some .boolean), Cond.fieldLink RX1 15 "TitheMap$Land" "area" "[I", Cond.fieldLink RX1 19 "TitheMap$Land" "kind" "[I", Cond.fieldLink RX1 22 "TitheMap$Land" "owner" "[I", Cond.fieldLink RX1 30 "TitheMap$Land" "bought" "[Z", Cond.methodLink RX1 112 yX1_isNumber]
def wsX2_owed_r3 : List Cond := [Cond.static yX1_isNumber, Cond.code yX1_isNumber cX1_isNumber 1 (some .boolean), Cond.methodLink RX1 115 yX1_clearCharge, Cond.instanceMethod yX1_clearCharge, Cond.selects RX1 yX1_clearCharge yX1_clearCharge, Cond.code yX1_clearCharge cX1_clearCharge 3 none, Cond.fieldLink RX1 27 "TitheMap$Land" "charge" "[[I", Cond.methodLink RX1 92 yX1_tryPart, Cond.instanceMethod yX1_tryPart, Cond.selects RX1 yX1_tryPart yX1_tryPart, Cond.code yX1_tryPart cX1_tryPart 8 (some .boolean), Cond.methodLink RX1 119 yX1_isThere, Cond.instanceMethod yX1_isThere, Cond.selects RX1 yX1_isThere yX1_isThere, Cond.code yX1_isThere cX1_isThere 2 (some .boolean), Cond.methodLink RX1 98 yX1_tryJoin, Cond.instanceMethod yX1_tryJoin, Cond.selects RX1 yX1_tryJoin yX1_tryJoin, Cond.code yX1_tryJoin cX1_tryJoin 5 (some .boolean), Cond.methodLink RX1 102 yX1_trySell, Cond.instanceMethod yX1_trySell, Cond.selects RX1 yX1_trySell yX1_trySell, Cond.code yX1_trySell cX1_trySell 3 (some .boolean), Cond.methodLink RX1 105 yX1_trySettle]
def wsX2_owed_r4 : List Cond := [Cond.instanceMethod yX1_trySettle, Cond.selects RX1 yX1_trySettle yX1_trySettle, Cond.code yX1_trySettle cX1_trySettle 7 (some .boolean), Cond.methodLink RX1 122 yX1_weighAll, Cond.instanceMethod yX1_weighAll, Cond.selects RX1 yX1_weighAll yX1_weighAll, Cond.code yX1_weighAll cX1_weighAll 4 (some .long), Cond.fieldLink RX1 33 "TitheMap$Land" "weight" "[J", Cond.methodLink RX1 126 yX1_areMeansKnown, Cond.instanceMethod yX1_areMeansKnown, Cond.selects RX1 yX1_areMeansKnown yX1_areMeansKnown, Cond.code yX1_areMeansKnown cX1_areMeansKnown 4 (some .boolean), Cond.fieldLink RX1 43 "TitheMap$Land" "means" "[I", Cond.methodLink RX1 144 yX0_mean, Cond.instanceMethod yX0_mean, Cond.selects RX0 yX0_mean yX0_mean, Cond.initialized RX0, Cond.code yX0_mean cX0_mean 9 (some .int), Cond.methodLink RX0 67 Lib.Math.min.name, Cond.static Lib.Math.min.name, Cond.initialized "java/lang/Math", Cond.code Lib.Math.min.name Lib.Math.min.code 2 (some .int), Cond.fieldLink RX0 15 "TitheMap$Book" "year" "[I", Cond.fieldLink RX0 9 "TitheMap$Book" "act" "[I"]
def wsX2_owed_r5 : List Cond := [Cond.fieldLink RX0 18 "TitheMap$Book" "first" "[I", Cond.fieldLink RX0 24 "TitheMap$Book" "amount" "[I", Cond.methodLink RX1 129 yX1_shareOut, Cond.instanceMethod yX1_shareOut, Cond.selects RX1 yX1_shareOut yX1_shareOut, Cond.code yX1_shareOut cX1_shareOut 8 none, Cond.fieldLink RX1 37 "TitheMap$Land" "share" "[I", Cond.fieldLink RX1 40 "TitheMap$Land" "remainder" "[J", Cond.methodLink RX1 136 yX1_greatestRemainder, Cond.instanceMethod yX1_greatestRemainder, Cond.selects RX1 yX1_greatestRemainder yX1_greatestRemainder, Cond.code yX1_greatestRemainder cX1_greatestRemainder 3 (some .int), Cond.methodLink RX1 133 yX1_chargeShare, Cond.instanceMethod yX1_chargeShare, Cond.selects RX1 yX1_chargeShare yX1_chargeShare, Cond.code yX1_chargeShare cX1_chargeShare 8 none, Cond.constantLong RX1 140 (200), Cond.constantLong RX1 142 (2), Cond.methodLink RX1 108 yX1_tryBuy, Cond.instanceMethod yX1_tryBuy, Cond.selects RX1 yX1_tryBuy yX1_tryBuy, Cond.code yX1_tryBuy cX1_tryBuy 2 (some .boolean), Cond.methodLink RX2 102 yX1_worthOfAll, Cond.instanceMethod yX1_worthOfAll]
def wsX2_owed_r6 : List Cond := [Cond.selects RX1 yX1_worthOfAll yX1_worthOfAll, Cond.code yX1_worthOfAll cX1_worthOfAll 8 (some .long), Cond.constantLong RX1 152 (-1), Cond.methodLink RX1 148 yX1_worthByMeans, Cond.instanceMethod yX1_worthByMeans, Cond.selects RX1 yX1_worthByMeans yX1_worthByMeans, Cond.code yX1_worthByMeans cX1_worthByMeans 5 (some .long), Cond.constantLong RX1 154 (50), Cond.constantLong RX1 156 (100)]
def wsX2_owed : List Cond := .code yX2_owed cX2_owed 4 (some .long) :: ((wsX2_owed_r1 ++ (wsX2_owed_r2 ++ (wsX2_owed_r3 ++ (wsX2_owed_r4 ++ (wsX2_owed_r5 ++ wsX2_owed_r6))))) ++ wsX20 ++ wsX00 ++ wsX10)
def wsX2_parish_r1 : List Cond := [Cond.constantLong RX2 96 (-1), Cond.fieldLink RX2 21 "TitheMap" "land" "LTitheMap$Land;", Cond.fieldLink RX2 113 "TitheMap$Land" "settled" "Z", Cond.methodLink RX2 82 yX2_isKnowing, Cond.instanceMethod yX2_isKnowing, Cond.selects RX2 yX2_isKnowing yX2_isKnowing, Cond.initialized RX2, Cond.code yX2_isKnowing cX2_isKnowing 2 (some .boolean), Cond.fieldLink RX2 10 "TitheMap" "book" "LTitheMap$Book;", Cond.fieldLink RX2 139 "TitheMap$Book" "size" "I", Cond.methodLink RX2 32 yX2_isWithin, Cond.static yX2_isWithin, Cond.code yX2_isWithin cX2_isWithin 3 (some .boolean), Cond.methodLink RX2 89 yX1_show, Cond.instanceMethod yX1_show, Cond.selects RX1 yX1_show yX1_show, Cond.initialized RX1, Cond.code yX1_show cX1_show 6 (some .boolean), Cond.fieldLink RX1 9 "TitheMap$Land" "there" "[Z", Cond.fieldLink RX1 50 "TitheMap$Land" "settled" "Z", Cond.fieldLink RX1 46 "TitheMap$Land" "book" "LTitheMap$Book;", Cond.fieldLink RX1 54 "TitheMap$Book" "acts" "I", Cond.fieldLink RX1 60 "TitheMap$Book" "order" "[I", Cond.fieldLink RX1 67 "TitheMap$Book" "year" "[I"]
def wsX2_parish_r2 : List Cond := [Cond.static yX2_at, Cond.code yX2_at cX2_at 2 (some .int), Cond.methodLink RX1 70 yX1_tryAct, Cond.instanceMethod yX1_tryAct, Cond.selects RX1 yX1_tryAct yX1_tryAct, Cond.code yX1_tryAct cX1_tryAct 6 (some .boolean), Cond.fieldLink RX1 74 "TitheMap$Book" "first" "[I", Cond.fieldLink RX1 77 "TitheMap$Book" "made" "[I", Cond.fieldLink RX1 80 "TitheMap$Book" "amount" "[I", Cond.fieldLink RX1 83 "TitheMap$Book" "act" "[I", Cond.fieldLink RX1 86 "TitheMap$Book" "kind" "[I", Cond.fieldLink RX1 87 "TitheMap$Book" "owner" "[I", Cond.fieldLink RX1 95 "TitheMap$Book" "second" "[I", Cond.methodLink RX1 88 yX1_tryMake, Cond.instanceMethod yX1_tryMake, Cond.selects RX1 yX1_tryMake yX1_tryMake, Cond.code yX1_tryMake cX1_tryMake 5 (some .boolean), Cond.fieldLink RX1 15 "TitheMap$Land" "area" "[I", Cond.fieldLink RX1 19 "TitheMap$Land" "kind" "[I", Cond.fieldLink RX1 22 "TitheMap$Land" "owner" "[I", Cond.fieldLink RX1 30 "TitheMap$Land" "bought" "[Z", Cond.methodLink RX1 112 yX1_isNumber, Cond.static yX1_isNumber, Cond.code yX1_isNumber cX1_isNumber 1 (some .boolean)]
def wsX2_parish_r3 : List Cond := [Cond.methodLink RX1 115 yX1_clearCharge, Cond.instanceMethod yX1_clearCharge, Cond.selects RX1 yX1_clearCharge yX1_clearCharge, Cond.code yX1_clearCharge cX1_clearCharge 3 none, Cond.fieldLink RX1 27 "TitheMap$Land" "charge" "[[I", Cond.methodLink RX1 92 yX1_tryPart, Cond.instanceMethod yX1_tryPart, Cond.selects RX1 yX1_tryPart yX1_tryPart, Cond.code yX1_tryPart cX1_tryPart 8 (some .boolean), Cond.methodLink RX1 119 yX1_isThere, Cond.instanceMethod yX1_isThere, Cond.selects RX1 yX1_isThere yX1_isThere, Cond.code yX1_isThere cX1_isThere 2 (some .boolean), Cond.methodLink RX1 98 yX1_tryJoin, Cond.instanceMethod yX1_tryJoin, Cond.selects RX1 yX1_tryJoin yX1_tryJoin, Cond.code yX1_tryJoin cX1_tryJoin 5 (some .boolean), Cond.methodLink RX1 102 yX1_trySell, Cond.instanceMethod yX1_trySell, Cond.selects RX1 yX1_trySell yX1_trySell, Cond.code yX1_trySell cX1_trySell 3 (some .boolean), Cond.methodLink RX1 105 yX1_trySettle, Cond.instanceMethod yX1_trySettle, Cond.selects RX1 yX1_trySettle yX1_trySettle]
def wsX2_parish_r4 : List Cond := [Cond.code yX1_trySettle cX1_trySettle 7 (some .boolean), Cond.methodLink RX1 122 yX1_weighAll, Cond.instanceMethod yX1_weighAll, Cond.selects RX1 yX1_weighAll yX1_weighAll, Cond.code yX1_weighAll cX1_weighAll 4 (some .long), Cond.fieldLink RX1 33 "TitheMap$Land" "weight" "[J", Cond.methodLink RX1 126 yX1_areMeansKnown, Cond.instanceMethod yX1_areMeansKnown, Cond.selects RX1 yX1_areMeansKnown yX1_areMeansKnown, Cond.code yX1_areMeansKnown cX1_areMeansKnown 4 (some .boolean), Cond.fieldLink RX1 43 "TitheMap$Land" "means" "[I", Cond.methodLink RX1 144 yX0_mean, Cond.instanceMethod yX0_mean, Cond.selects RX0 yX0_mean yX0_mean, Cond.initialized RX0, Cond.code yX0_mean cX0_mean 9 (some .int), Cond.methodLink RX0 67 Lib.Math.min.name, Cond.static Lib.Math.min.name, Cond.initialized "java/lang/Math", Cond.code Lib.Math.min.name Lib.Math.min.code 2 (some .int), Cond.fieldLink RX0 15 "TitheMap$Book" "year" "[I", Cond.fieldLink RX0 9 "TitheMap$Book" "act" "[I", Cond.fieldLink RX0 18 "TitheMap$Book" "first" "[I", Cond.fieldLink RX0 24 "TitheMap$Book" "amount" "[I"]
def wsX2_parish_r5 : List Cond := [Cond.methodLink RX1 129 yX1_shareOut, Cond.instanceMethod yX1_shareOut, Cond.selects RX1 yX1_shareOut yX1_shareOut, Cond.code yX1_shareOut cX1_shareOut 8 none, Cond.fieldLink RX1 37 "TitheMap$Land" "share" "[I", Cond.fieldLink RX1 40 "TitheMap$Land" "remainder" "[J", Cond.methodLink RX1 136 yX1_greatestRemainder, Cond.instanceMethod yX1_greatestRemainder, Cond.selects RX1 yX1_greatestRemainder yX1_greatestRemainder, Cond.code yX1_greatestRemainder cX1_greatestRemainder 3 (some .int), Cond.methodLink RX1 133 yX1_chargeShare, Cond.instanceMethod yX1_chargeShare, Cond.selects RX1 yX1_chargeShare yX1_chargeShare, Cond.code yX1_chargeShare cX1_chargeShare 8 none, Cond.constantLong RX1 140 (200), Cond.constantLong RX1 142 (2), Cond.methodLink RX1 108 yX1_tryBuy, Cond.instanceMethod yX1_tryBuy, Cond.selects RX1 yX1_tryBuy yX1_tryBuy, Cond.code yX1_tryBuy cX1_tryBuy 2 (some .boolean), Cond.methodLink RX2 105 yX1_howMany, Cond.instanceMethod yX1_howMany, Cond.selects RX1 yX1_howMany yX1_howMany, Cond.code yX1_howMany cX1_howMany 3 (some .int)]
def wsX2_parish_r6 : List Cond := [Cond.methodLink RX2 109 yX1_sumOf, Cond.instanceMethod yX1_sumOf, Cond.selects RX1 yX1_sumOf yX1_sumOf, Cond.code yX1_sumOf cX1_sumOf 5 (some .long), Cond.methodLink RX1 158 yX1_tell, Cond.instanceMethod yX1_tell, Cond.selects RX1 yX1_tell yX1_tell, Cond.code yX1_tell cX1_tell 3 (some .int)]
def wsX2_parish : List Cond := .code yX2_parish cX2_parish 4 (some .long) :: ((wsX2_parish_r1 ++ (wsX2_parish_r2 ++ (wsX2_parish_r3 ++ (wsX2_parish_r4 ++ (wsX2_parish_r5 ++ wsX2_parish_r6))))) ++ wsX20 ++ wsX10 ++ wsX00)
def wsX2_cost_r1 : List Cond := [Cond.fieldLink RX2 10 "TitheMap" "book" "LTitheMap$Book;", Cond.fieldLink RX2 117 "TitheMap$Book" "act" "[I", Cond.constantLong RX2 96 (-1), Cond.fieldLink RX2 124 "TitheMap$Book" "year" "[I", Cond.fieldLink RX2 21 "TitheMap" "land" "LTitheMap$Land;", Cond.fieldLink RX2 40 "TitheMap$Book" "first" "[I", Cond.constantLong RX2 127 (25), Cond.methodLink RX2 82 yX2_isKnowing, Cond.instanceMethod yX2_isKnowing, Cond.selects RX2 yX2_isKnowing yX2_isKnowing, Cond.initialized RX2, Cond.code yX2_isKnowing cX2_isKnowing 2 (some .boolean), Cond.fieldLink RX2 139 "TitheMap$Book" "size" "I", Cond.methodLink RX2 32 yX2_isWithin, Cond.static yX2_isWithin, Cond.code yX2_isWithin cX2_isWithin 3 (some .boolean), Cond.methodLink RX2 120 yX2_at, Cond.static yX2_at, Cond.code yX2_at cX2_at 2 (some .int), Cond.methodLink RX2 89 yX1_show, Cond.instanceMethod yX1_show, Cond.selects RX1 yX1_show yX1_show, Cond.initialized RX1, Cond.code yX1_show cX1_show 6 (some .boolean)]
def wsX2_cost_r2 : List Cond := [Cond.fieldLink RX1 9 "TitheMap$Land" "there" "[Z", Cond.fieldLink RX1 50 "TitheMap$Land" "settled" "Z", Cond.fieldLink RX1 46 "TitheMap$Land" "book" "LTitheMap$Book;", Cond.fieldLink RX1 54 "TitheMap$Book" "acts" "I", Cond.fieldLink RX1 60 "TitheMap$Book" "order" "[I", Cond.fieldLink RX1 67 "TitheMap$Book" "year" "[I", Cond.methodLink RX1 70 yX1_tryAct, Cond.instanceMethod yX1_tryAct, Cond.selects RX1 yX1_tryAct yX1_tryAct, Cond.code yX1_tryAct cX1_tryAct 6 (some .boolean), Cond.fieldLink RX1 74 "TitheMap$Book" "first" "[I", Cond.fieldLink RX1 77 "TitheMap$Book" "made" "[I", Cond.fieldLink RX1 80 "TitheMap$Book" "amount" "[I", Cond.fieldLink RX1 83 "TitheMap$Book" "act" "[I", Cond.fieldLink RX1 86 "TitheMap$Book" "kind" "[I", Cond.fieldLink RX1 87 "TitheMap$Book" "owner" "[I", Cond.fieldLink RX1 95 "TitheMap$Book" "second" "[I", Cond.methodLink RX1 88 yX1_tryMake, Cond.instanceMethod yX1_tryMake, Cond.selects RX1 yX1_tryMake yX1_tryMake, Cond.code yX1_tryMake cX1_tryMake 5 (some .boolean), Cond.fieldLink RX1 15 "TitheMap$Land" "area" "[I", Cond.fieldLink RX1 19 "TitheMap$Land" "kind" "[I", Cond.fieldLink RX1 22 "TitheMap$Land" "owner" "[I"]
def wsX2_cost_r3 : List Cond := [Cond.fieldLink RX1 30 "TitheMap$Land" "bought" "[Z", Cond.methodLink RX1 112 yX1_isNumber, Cond.static yX1_isNumber, Cond.code yX1_isNumber cX1_isNumber 1 (some .boolean), Cond.methodLink RX1 115 yX1_clearCharge, Cond.instanceMethod yX1_clearCharge, Cond.selects RX1 yX1_clearCharge yX1_clearCharge, Cond.code yX1_clearCharge cX1_clearCharge 3 none, Cond.fieldLink RX1 27 "TitheMap$Land" "charge" "[[I", Cond.methodLink RX1 92 yX1_tryPart, Cond.instanceMethod yX1_tryPart, Cond.selects RX1 yX1_tryPart yX1_tryPart, Cond.code yX1_tryPart cX1_tryPart 8 (some .boolean), Cond.methodLink RX1 119 yX1_isThere, Cond.instanceMethod yX1_isThere, Cond.selects RX1 yX1_isThere yX1_isThere, Cond.code yX1_isThere cX1_isThere 2 (some .boolean), Cond.methodLink RX1 98 yX1_tryJoin, Cond.instanceMethod yX1_tryJoin, Cond.selects RX1 yX1_tryJoin yX1_tryJoin, Cond.code yX1_tryJoin cX1_tryJoin 5 (some .boolean), Cond.methodLink RX1 102 yX1_trySell, Cond.instanceMethod yX1_trySell, Cond.selects RX1 yX1_trySell yX1_trySell]
def wsX2_cost_r4 : List Cond := [Cond.code yX1_trySell cX1_trySell 3 (some .boolean), Cond.methodLink RX1 105 yX1_trySettle, Cond.instanceMethod yX1_trySettle, Cond.selects RX1 yX1_trySettle yX1_trySettle, Cond.code yX1_trySettle cX1_trySettle 7 (some .boolean), Cond.methodLink RX1 122 yX1_weighAll, Cond.instanceMethod yX1_weighAll, Cond.selects RX1 yX1_weighAll yX1_weighAll, Cond.code yX1_weighAll cX1_weighAll 4 (some .long), Cond.fieldLink RX1 33 "TitheMap$Land" "weight" "[J", Cond.methodLink RX1 126 yX1_areMeansKnown, Cond.instanceMethod yX1_areMeansKnown, Cond.selects RX1 yX1_areMeansKnown yX1_areMeansKnown, Cond.code yX1_areMeansKnown cX1_areMeansKnown 4 (some .boolean), Cond.fieldLink RX1 43 "TitheMap$Land" "means" "[I", Cond.methodLink RX1 144 yX0_mean, Cond.instanceMethod yX0_mean, Cond.selects RX0 yX0_mean yX0_mean, Cond.initialized RX0, Cond.code yX0_mean cX0_mean 9 (some .int), Cond.methodLink RX0 67 Lib.Math.min.name, Cond.static Lib.Math.min.name, Cond.initialized "java/lang/Math", Cond.code Lib.Math.min.name Lib.Math.min.code 2 (some .int)]
def wsX2_cost_r5 : List Cond := [Cond.fieldLink RX0 15 "TitheMap$Book" "year" "[I", Cond.fieldLink RX0 9 "TitheMap$Book" "act" "[I", Cond.fieldLink RX0 18 "TitheMap$Book" "first" "[I", Cond.fieldLink RX0 24 "TitheMap$Book" "amount" "[I", Cond.methodLink RX1 129 yX1_shareOut, Cond.instanceMethod yX1_shareOut, Cond.selects RX1 yX1_shareOut yX1_shareOut, Cond.code yX1_shareOut cX1_shareOut 8 none, Cond.fieldLink RX1 37 "TitheMap$Land" "share" "[I", Cond.fieldLink RX1 40 "TitheMap$Land" "remainder" "[J", Cond.methodLink RX1 136 yX1_greatestRemainder, Cond.instanceMethod yX1_greatestRemainder, Cond.selects RX1 yX1_greatestRemainder yX1_greatestRemainder, Cond.code yX1_greatestRemainder cX1_greatestRemainder 3 (some .int), Cond.methodLink RX1 133 yX1_chargeShare, Cond.instanceMethod yX1_chargeShare, Cond.selects RX1 yX1_chargeShare yX1_chargeShare, Cond.code yX1_chargeShare cX1_chargeShare 8 none, Cond.constantLong RX1 140 (200), Cond.constantLong RX1 142 (2), Cond.methodLink RX1 108 yX1_tryBuy, Cond.instanceMethod yX1_tryBuy, Cond.selects RX1 yX1_tryBuy yX1_tryBuy, Cond.code yX1_tryBuy cX1_tryBuy 2 (some .boolean)]
def wsX2_cost_r6 : List Cond := [Cond.methodLink RX2 98 yX1_worth, Cond.instanceMethod yX1_worth, Cond.selects RX1 yX1_worth yX1_worth, Cond.code yX1_worth cX1_worth 4 (some .long), Cond.constantLong RX1 152 (-1), Cond.methodLink RX1 148 yX1_worthByMeans, Cond.instanceMethod yX1_worthByMeans, Cond.selects RX1 yX1_worthByMeans yX1_worthByMeans, Cond.code yX1_worthByMeans cX1_worthByMeans 5 (some .long), Cond.constantLong RX1 154 (50), Cond.constantLong RX1 156 (100)]
def wsX2_cost : List Cond := .code yX2_cost cX2_cost 6 (some .long) :: ((wsX2_cost_r1 ++ (wsX2_cost_r2 ++ (wsX2_cost_r3 ++ (wsX2_cost_r4 ++ (wsX2_cost_r5 ++ wsX2_cost_r6))))) ++ wsX20 ++ wsX00 ++ wsX10)
def wsX2_field : List Cond := .code yX2_field cX2_field 5 (some .int) :: ([.fieldLink RX2 10 "TitheMap" "book" "LTitheMap$Book;", .fieldLink RX2 129 "TitheMap$Book" "maker" "[I", .fieldLink RX2 132 "TitheMap$Book" "ender" "[I", .fieldLink RX2 124 "TitheMap$Book" "year" "[I", .fieldLink RX2 40 "TitheMap$Book" "first" "[I", .fieldLink RX2 78 "TitheMap$Book" "second" "[I", .methodLink RX2 75 yX2_isField, .instanceMethod yX2_isField, .selects RX2 yX2_isField yX2_isField, .initialized RX2, .code yX2_isField cX2_isField 2 (some .boolean), .fieldLink RX2 143 "TitheMap$Book" "fields" "I", .methodLink RX2 32 yX2_isWithin, .static yX2_isWithin, .code yX2_isWithin cX2_isWithin 3 (some .boolean), .methodLink RX2 120 yX2_at, .static yX2_at, .code yX2_at cX2_at 2 (some .int)] ++ wsX20 ++ wsX00)
def wsX2_differ_r1 : List Cond := [Cond.fieldLink RX2 21 "TitheMap" "land" "LTitheMap$Land;", Cond.fieldLink RX2 25 "TitheMap" "otherLand" "LTitheMap$Land;", Cond.methodLink RX2 82 yX2_isKnowing, Cond.instanceMethod yX2_isKnowing, Cond.selects RX2 yX2_isKnowing yX2_isKnowing, Cond.initialized RX2, Cond.code yX2_isKnowing cX2_isKnowing 2 (some .boolean), Cond.fieldLink RX2 10 "TitheMap" "book" "LTitheMap$Book;", Cond.fieldLink RX2 139 "TitheMap$Book" "size" "I", Cond.methodLink RX2 32 yX2_isWithin, Cond.static yX2_isWithin, Cond.code yX2_isWithin cX2_isWithin 3 (some .boolean), Cond.methodLink RX2 89 yX1_show, Cond.instanceMethod yX1_show, Cond.selects RX1 yX1_show yX1_show, Cond.initialized RX1, Cond.code yX1_show cX1_show 6 (some .boolean), Cond.fieldLink RX1 9 "TitheMap$Land" "there" "[Z", Cond.fieldLink RX1 50 "TitheMap$Land" "settled" "Z", Cond.fieldLink RX1 46 "TitheMap$Land" "book" "LTitheMap$Book;", Cond.fieldLink RX1 54 "TitheMap$Book" "acts" "I", Cond.fieldLink RX1 60 "TitheMap$Book" "order" "[I", Cond.fieldLink RX1 67 "TitheMap$Book" "year" "[I", Cond.static yX2_at]
def wsX2_differ_r2 : List Cond := [Cond.code yX2_at cX2_at 2 (some .int), Cond.methodLink RX1 70 yX1_tryAct, Cond.instanceMethod yX1_tryAct, Cond.selects RX1 yX1_tryAct yX1_tryAct, Cond.code yX1_tryAct cX1_tryAct 6 (some .boolean), Cond.fieldLink RX1 74 "TitheMap$Book" "first" "[I", Cond.fieldLink RX1 77 "TitheMap$Book" "made" "[I", Cond.fieldLink RX1 80 "TitheMap$Book" "amount" "[I", Cond.fieldLink RX1 83 "TitheMap$Book" "act" "[I", Cond.fieldLink RX1 86 "TitheMap$Book" "kind" "[I", Cond.fieldLink RX1 87 "TitheMap$Book" "owner" "[I", Cond.fieldLink RX1 95 "TitheMap$Book" "second" "[I", Cond.methodLink RX1 88 yX1_tryMake, Cond.instanceMethod yX1_tryMake, Cond.selects RX1 yX1_tryMake yX1_tryMake, Cond.code yX1_tryMake cX1_tryMake 5 (some .boolean), Cond.fieldLink RX1 15 "TitheMap$Land" "area" "[I", Cond.fieldLink RX1 19 "TitheMap$Land" "kind" "[I", Cond.fieldLink RX1 22 "TitheMap$Land" "owner" "[I", Cond.fieldLink RX1 30 "TitheMap$Land" "bought" "[Z", Cond.methodLink RX1 112 yX1_isNumber, Cond.static yX1_isNumber, Cond.code yX1_isNumber cX1_isNumber 1 (some .boolean), Cond.methodLink RX1 115 yX1_clearCharge]
def wsX2_differ_r3 : List Cond := [Cond.instanceMethod yX1_clearCharge, Cond.selects RX1 yX1_clearCharge yX1_clearCharge, Cond.code yX1_clearCharge cX1_clearCharge 3 none, Cond.fieldLink RX1 27 "TitheMap$Land" "charge" "[[I", Cond.methodLink RX1 92 yX1_tryPart, Cond.instanceMethod yX1_tryPart, Cond.selects RX1 yX1_tryPart yX1_tryPart, Cond.code yX1_tryPart cX1_tryPart 8 (some .boolean), Cond.methodLink RX1 119 yX1_isThere, Cond.instanceMethod yX1_isThere, Cond.selects RX1 yX1_isThere yX1_isThere, Cond.code yX1_isThere cX1_isThere 2 (some .boolean), Cond.methodLink RX1 98 yX1_tryJoin, Cond.instanceMethod yX1_tryJoin, Cond.selects RX1 yX1_tryJoin yX1_tryJoin, Cond.code yX1_tryJoin cX1_tryJoin 5 (some .boolean), Cond.methodLink RX1 102 yX1_trySell, Cond.instanceMethod yX1_trySell, Cond.selects RX1 yX1_trySell yX1_trySell, Cond.code yX1_trySell cX1_trySell 3 (some .boolean), Cond.methodLink RX1 105 yX1_trySettle, Cond.instanceMethod yX1_trySettle, Cond.selects RX1 yX1_trySettle yX1_trySettle, Cond.code yX1_trySettle cX1_trySettle 7 (some .boolean)]
def wsX2_differ_r4 : List Cond := [Cond.methodLink RX1 122 yX1_weighAll, Cond.instanceMethod yX1_weighAll, Cond.selects RX1 yX1_weighAll yX1_weighAll, Cond.code yX1_weighAll cX1_weighAll 4 (some .long), Cond.fieldLink RX1 33 "TitheMap$Land" "weight" "[J", Cond.methodLink RX1 126 yX1_areMeansKnown, Cond.instanceMethod yX1_areMeansKnown, Cond.selects RX1 yX1_areMeansKnown yX1_areMeansKnown, Cond.code yX1_areMeansKnown cX1_areMeansKnown 4 (some .boolean), Cond.fieldLink RX1 43 "TitheMap$Land" "means" "[I", Cond.methodLink RX1 144 yX0_mean, Cond.instanceMethod yX0_mean, Cond.selects RX0 yX0_mean yX0_mean, Cond.initialized RX0, Cond.code yX0_mean cX0_mean 9 (some .int), Cond.methodLink RX0 67 Lib.Math.min.name, Cond.static Lib.Math.min.name, Cond.initialized "java/lang/Math", Cond.code Lib.Math.min.name Lib.Math.min.code 2 (some .int), Cond.fieldLink RX0 15 "TitheMap$Book" "year" "[I", Cond.fieldLink RX0 9 "TitheMap$Book" "act" "[I", Cond.fieldLink RX0 18 "TitheMap$Book" "first" "[I", Cond.fieldLink RX0 24 "TitheMap$Book" "amount" "[I", Cond.methodLink RX1 129 yX1_shareOut]
def wsX2_differ_r5 : List Cond := [Cond.instanceMethod yX1_shareOut, Cond.selects RX1 yX1_shareOut yX1_shareOut, Cond.code yX1_shareOut cX1_shareOut 8 none, Cond.fieldLink RX1 37 "TitheMap$Land" "share" "[I", Cond.fieldLink RX1 40 "TitheMap$Land" "remainder" "[J", Cond.methodLink RX1 136 yX1_greatestRemainder, Cond.instanceMethod yX1_greatestRemainder, Cond.selects RX1 yX1_greatestRemainder yX1_greatestRemainder, Cond.code yX1_greatestRemainder cX1_greatestRemainder 3 (some .int), Cond.methodLink RX1 133 yX1_chargeShare, Cond.instanceMethod yX1_chargeShare, Cond.selects RX1 yX1_chargeShare yX1_chargeShare, Cond.code yX1_chargeShare cX1_chargeShare 8 none, Cond.constantLong RX1 140 (200), Cond.constantLong RX1 142 (2), Cond.methodLink RX1 108 yX1_tryBuy, Cond.instanceMethod yX1_tryBuy, Cond.selects RX1 yX1_tryBuy yX1_tryBuy, Cond.code yX1_tryBuy cX1_tryBuy 2 (some .boolean), Cond.methodLink RX2 135 yX1_isOtherwise, Cond.instanceMethod yX1_isOtherwise, Cond.selects RX1 yX1_isOtherwise yX1_isOtherwise, Cond.code yX1_isOtherwise cX1_isOtherwise 4 (some .boolean), Cond.methodLink RX1 158 yX1_tell]
def wsX2_differ_r6 : List Cond := [Cond.instanceMethod yX1_tell, Cond.selects RX1 yX1_tell yX1_tell, Cond.code yX1_tell cX1_tell 3 (some .int)]
def wsX2_differ : List Cond := .code yX2_differ cX2_differ 7 (some .int) :: ((wsX2_differ_r1 ++ (wsX2_differ_r2 ++ (wsX2_differ_r3 ++ (wsX2_differ_r4 ++ (wsX2_differ_r5 ++ wsX2_differ_r6))))) ++ wsX20 ++ wsX00 ++ wsX10)
def wsX2_entry : List Cond := .code yX2_entry cX2_entry 3 (some .int) :: ([.fieldLink RX2 10 "TitheMap" "book" "LTitheMap$Book;", .fieldLink RX2 139 "TitheMap$Book" "size" "I", .fieldLink RX2 117 "TitheMap$Book" "act" "[I", .fieldLink RX2 124 "TitheMap$Book" "year" "[I", .fieldLink RX2 40 "TitheMap$Book" "first" "[I", .methodLink RX2 32 yX2_isWithin, .static yX2_isWithin, .initialized RX2, .code yX2_isWithin cX2_isWithin 3 (some .boolean), .methodLink RX2 120 yX2_at, .static yX2_at, .code yX2_at cX2_at 2 (some .int), .methodLink RX2 72 yX2_firstMadeBy, .instanceMethod yX2_firstMadeBy, .selects RX2 yX2_firstMadeBy yX2_firstMadeBy, .code yX2_firstMadeBy cX2_firstMadeBy 2 (some .int), .fieldLink RX2 146 "TitheMap$Book" "made" "[I"] ++ wsX20 ++ wsX00)
def wsX2_count : List Cond := .code yX2_count cX2_count 2 (some .int) :: ([.fieldLink RX2 10 "TitheMap" "book" "LTitheMap$Book;", .fieldLink RX2 139 "TitheMap$Book" "size" "I", .fieldLink RX2 143 "TitheMap$Book" "fields" "I"] ++ wsX20 ++ wsX00)
def wsX3_init_r1 : List Cond := [Cond.methodLink RX3 1 objectInit, Cond.instanceMethod objectInit, Cond.code objectInit ⟨#[0xb1]⟩ 1 none, Cond.arrayClass .int, Cond.fieldLink RX3 7 "TitheMapModel" "sort" "[I", Cond.fieldLink RX3 13 "TitheMapModel" "year" "[I", Cond.fieldLink RX3 16 "TitheMapModel" "one" "[I", Cond.fieldLink RX3 19 "TitheMapModel" "two" "[I", Cond.fieldLink RX3 22 "TitheMapModel" "more" "[I", Cond.fieldLink RX3 25 "TitheMapModel" "most" "[I", Cond.fieldLink RX3 28 "TitheMapModel" "made" "[I", Cond.fieldLink RX3 31 "TitheMapModel" "madeBy" "[I", Cond.fieldLink RX3 34 "TitheMapModel" "endedBy" "[I", Cond.fieldLink RX3 37 "TitheMapModel" "firstOf" "[I", Cond.fieldLink RX3 40 "TitheMapModel" "secondOf" "[I", Cond.arrayClass .boolean, Cond.fieldLink RX3 43 "TitheMapModel" "isThere" "[Z", Cond.fieldLink RX3 47 "TitheMapModel" "area" "[I", Cond.fieldLink RX3 50 "TitheMapModel" "kind" "[I", Cond.fieldLink RX3 53 "TitheMapModel" "owner" "[I", Cond.fieldLink RX3 56 "TitheMapModel" "charge" "[I", Cond.fieldLink RX3 59 "TitheMapModel" "isBought" "[Z", Cond.arrayClass .long, Cond.fieldLink RX3 62 "TitheMapModel" "share" "[J"]
def wsX3_init_r2 : List Cond := [Cond.fieldLink RX3 66 "TitheMapModel" "rest" "[J", Cond.fieldLink RX3 69 "TitheMapModel" "was" "[I"]
def wsX3_init : List Cond := .code yX3_init cX3_init 1 none :: ((wsX3_init_r1 ++ wsX3_init_r2) ++ wsX30)
def wsX3_lies : List Cond := .code yX3_lies cX3_lies 3 (some .boolean) :: ([])
def wsX3_isKnowing : List Cond := .code yX3_isKnowing cX3_isKnowing 2 (some .boolean) :: ([.fieldLink RX3 72 "TitheMapModel" "entries" "I", .methodLink RX3 76 yX3_lies, .static yX3_lies, .initialized RX3, .code yX3_lies cX3_lies 3 (some .boolean)] ++ wsX30)
def wsX3_isField : List Cond := .code yX3_isField cX3_isField 2 (some .boolean) :: ([.fieldLink RX3 80 "TitheMapModel" "fields" "I", .methodLink RX3 76 yX3_lies, .static yX3_lies, .initialized RX3, .code yX3_lies cX3_lies 3 (some .boolean)] ++ wsX30)
def wsX3_nearest : List Cond := .code yX3_nearest cX3_nearest 4 (some .long) :: ([.constantLong RX3 83 (2)])
def wsX3_priceOf : List Cond := .code yX3_priceOf cX3_priceOf 6 (some .int) :: ([.fieldLink RX3 7 "TitheMapModel" "sort" "[I", .fieldLink RX3 13 "TitheMapModel" "year" "[I", .fieldLink RX3 16 "TitheMapModel" "one" "[I", .fieldLink RX3 22 "TitheMapModel" "more" "[I"] ++ wsX30)
def wsX3_averageOf : List Cond := .code yX3_averageOf cX3_averageOf 8 (some .int) :: ([.methodLink RX3 85 yX3_priceOf, .instanceMethod yX3_priceOf, .selects RX3 yX3_priceOf yX3_priceOf, .initialized RX3, .code yX3_priceOf cX3_priceOf 6 (some .int), .fieldLink RX3 7 "TitheMapModel" "sort" "[I", .fieldLink RX3 13 "TitheMapModel" "year" "[I", .fieldLink RX3 16 "TitheMapModel" "one" "[I", .fieldLink RX3 22 "TitheMapModel" "more" "[I", .methodLink RX3 89 yX3_nearest, .static yX3_nearest, .code yX3_nearest cX3_nearest 4 (some .long), .constantLong RX3 83 (2)] ++ wsX30)
def wsX3_average_r1 : List Cond := [Cond.methodLink RX3 93 yX3_isKnowing, Cond.instanceMethod yX3_isKnowing, Cond.selects RX3 yX3_isKnowing yX3_isKnowing, Cond.initialized RX3, Cond.code yX3_isKnowing cX3_isKnowing 2 (some .boolean), Cond.fieldLink RX3 72 "TitheMapModel" "entries" "I", Cond.methodLink RX3 76 yX3_lies, Cond.static yX3_lies, Cond.code yX3_lies cX3_lies 3 (some .boolean), Cond.methodLink RX3 97 yX3_averageOf, Cond.instanceMethod yX3_averageOf, Cond.selects RX3 yX3_averageOf yX3_averageOf, Cond.code yX3_averageOf cX3_averageOf 8 (some .int), Cond.methodLink RX3 85 yX3_priceOf, Cond.instanceMethod yX3_priceOf, Cond.selects RX3 yX3_priceOf yX3_priceOf, Cond.code yX3_priceOf cX3_priceOf 6 (some .int), Cond.fieldLink RX3 7 "TitheMapModel" "sort" "[I", Cond.fieldLink RX3 13 "TitheMapModel" "year" "[I", Cond.fieldLink RX3 16 "TitheMapModel" "one" "[I", Cond.fieldLink RX3 22 "TitheMapModel" "more" "[I", Cond.methodLink RX3 89 yX3_nearest, Cond.static yX3_nearest, Cond.code yX3_nearest cX3_nearest 4 (some .long)]
def wsX3_average_r2 : List Cond := [Cond.constantLong RX3 83 (2)]
def wsX3_average : List Cond := .code yX3_average cX3_average 4 (some .int) :: ((wsX3_average_r1 ++ wsX3_average_r2) ++ wsX30)
def wsX3_comes : List Cond := .code yX3_comes cX3_comes 7 none :: ([.fieldLink RX3 43 "TitheMapModel" "isThere" "[Z", .fieldLink RX3 47 "TitheMapModel" "area" "[I", .fieldLink RX3 50 "TitheMapModel" "kind" "[I", .fieldLink RX3 53 "TitheMapModel" "owner" "[I", .fieldLink RX3 59 "TitheMapModel" "isBought" "[Z", .fieldLink RX3 56 "TitheMapModel" "charge" "[I"] ++ wsX30)
def wsX3_parts : List Cond := .code yX3_parts cX3_parts 5 none :: ([.fieldLink RX3 16 "TitheMapModel" "one" "[I", .fieldLink RX3 28 "TitheMapModel" "made" "[I", .fieldLink RX3 22 "TitheMapModel" "more" "[I", .fieldLink RX3 50 "TitheMapModel" "kind" "[I", .fieldLink RX3 53 "TitheMapModel" "owner" "[I", .fieldLink RX3 59 "TitheMapModel" "isBought" "[Z", .fieldLink RX3 47 "TitheMapModel" "area" "[I", .fieldLink RX3 56 "TitheMapModel" "charge" "[I", .fieldLink RX3 43 "TitheMapModel" "isThere" "[Z", .methodLink RX3 100 yX3_comes, .instanceMethod yX3_comes, .selects RX3 yX3_comes yX3_comes, .initialized RX3, .code yX3_comes cX3_comes 7 none] ++ wsX30)
def wsX3_joins : List Cond := .code yX3_joins cX3_joins 5 none :: ([.fieldLink RX3 16 "TitheMapModel" "one" "[I", .fieldLink RX3 19 "TitheMapModel" "two" "[I", .fieldLink RX3 28 "TitheMapModel" "made" "[I", .fieldLink RX3 47 "TitheMapModel" "area" "[I", .fieldLink RX3 50 "TitheMapModel" "kind" "[I", .fieldLink RX3 53 "TitheMapModel" "owner" "[I", .fieldLink RX3 59 "TitheMapModel" "isBought" "[Z", .fieldLink RX3 56 "TitheMapModel" "charge" "[I", .fieldLink RX3 43 "TitheMapModel" "isThere" "[Z", .methodLink RX3 100 yX3_comes, .instanceMethod yX3_comes, .selects RX3 yX3_comes yX3_comes, .initialized RX3, .code yX3_comes cX3_comes 7 none] ++ wsX30)
def wsX3_settles_r1 : List Cond := [Cond.fieldLink RX3 43 "TitheMapModel" "isThere" "[Z", Cond.fieldLink RX3 47 "TitheMapModel" "area" "[I", Cond.fieldLink RX3 50 "TitheMapModel" "kind" "[I", Cond.fieldLink RX3 22 "TitheMapModel" "more" "[I", Cond.fieldLink RX3 62 "TitheMapModel" "share" "[J", Cond.fieldLink RX3 66 "TitheMapModel" "rest" "[J", Cond.constantLong RX3 104 (-1), Cond.constantLong RX3 106 (3), Cond.fieldLink RX3 56 "TitheMapModel" "charge" "[I", Cond.constantLong RX3 108 (100), Cond.fieldLink RX3 13 "TitheMapModel" "year" "[I", Cond.fieldLink RX3 110 "TitheMapModel" "isSettled" "Z", Cond.methodLink RX3 97 yX3_averageOf, Cond.instanceMethod yX3_averageOf, Cond.selects RX3 yX3_averageOf yX3_averageOf, Cond.initialized RX3, Cond.code yX3_averageOf cX3_averageOf 8 (some .int), Cond.methodLink RX3 85 yX3_priceOf, Cond.instanceMethod yX3_priceOf, Cond.selects RX3 yX3_priceOf yX3_priceOf, Cond.code yX3_priceOf cX3_priceOf 6 (some .int), Cond.fieldLink RX3 7 "TitheMapModel" "sort" "[I", Cond.fieldLink RX3 16 "TitheMapModel" "one" "[I", Cond.methodLink RX3 89 yX3_nearest]
def wsX3_settles_r2 : List Cond := [Cond.static yX3_nearest, Cond.code yX3_nearest cX3_nearest 4 (some .long), Cond.constantLong RX3 83 (2)]
def wsX3_settles : List Cond := .code yX3_settles cX3_settles 11 none :: ((wsX3_settles_r1 ++ wsX3_settles_r2) ++ wsX30)
def wsX3_is : List Cond := .code yX3_is cX3_is 2 (some .boolean) :: ([.fieldLink RX3 43 "TitheMapModel" "isThere" "[Z", .methodLink RX3 114 yX3_isField, .instanceMethod yX3_isField, .selects RX3 yX3_isField yX3_isField, .initialized RX3, .code yX3_isField cX3_isField 2 (some .boolean), .fieldLink RX3 80 "TitheMapModel" "fields" "I", .methodLink RX3 76 yX3_lies, .static yX3_lies, .code yX3_lies cX3_lies 3 (some .boolean)] ++ wsX30)
def wsX3_fits_r1 : List Cond := [Cond.fieldLink RX3 16 "TitheMapModel" "one" "[I", Cond.fieldLink RX3 19 "TitheMapModel" "two" "[I", Cond.fieldLink RX3 7 "TitheMapModel" "sort" "[I", Cond.fieldLink RX3 47 "TitheMapModel" "area" "[I", Cond.fieldLink RX3 22 "TitheMapModel" "more" "[I", Cond.fieldLink RX3 50 "TitheMapModel" "kind" "[I", Cond.fieldLink RX3 53 "TitheMapModel" "owner" "[I", Cond.fieldLink RX3 59 "TitheMapModel" "isBought" "[Z", Cond.fieldLink RX3 110 "TitheMapModel" "isSettled" "Z", Cond.fieldLink RX3 43 "TitheMapModel" "isThere" "[Z", Cond.fieldLink RX3 13 "TitheMapModel" "year" "[I", Cond.methodLink RX3 117 yX3_is, Cond.instanceMethod yX3_is, Cond.selects RX3 yX3_is yX3_is, Cond.initialized RX3, Cond.code yX3_is cX3_is 2 (some .boolean), Cond.methodLink RX3 114 yX3_isField, Cond.instanceMethod yX3_isField, Cond.selects RX3 yX3_isField yX3_isField, Cond.code yX3_isField cX3_isField 2 (some .boolean), Cond.fieldLink RX3 80 "TitheMapModel" "fields" "I", Cond.methodLink RX3 76 yX3_lies, Cond.static yX3_lies, Cond.code yX3_lies cX3_lies 3 (some .boolean)]
def wsX3_fits_r2 : List Cond := [Cond.methodLink RX3 97 yX3_averageOf, Cond.instanceMethod yX3_averageOf, Cond.selects RX3 yX3_averageOf yX3_averageOf, Cond.code yX3_averageOf cX3_averageOf 8 (some .int), Cond.methodLink RX3 85 yX3_priceOf, Cond.instanceMethod yX3_priceOf, Cond.selects RX3 yX3_priceOf yX3_priceOf, Cond.code yX3_priceOf cX3_priceOf 6 (some .int), Cond.methodLink RX3 89 yX3_nearest, Cond.static yX3_nearest, Cond.code yX3_nearest cX3_nearest 4 (some .long), Cond.constantLong RX3 83 (2)]
def wsX3_fits : List Cond := .code yX3_fits cX3_fits 7 (some .boolean) :: ((wsX3_fits_r1 ++ wsX3_fits_r2) ++ wsX30)
def wsX3_does_r1 : List Cond := [Cond.fieldLink RX3 16 "TitheMapModel" "one" "[I", Cond.fieldLink RX3 7 "TitheMapModel" "sort" "[I", Cond.fieldLink RX3 28 "TitheMapModel" "made" "[I", Cond.fieldLink RX3 22 "TitheMapModel" "more" "[I", Cond.fieldLink RX3 19 "TitheMapModel" "two" "[I", Cond.fieldLink RX3 25 "TitheMapModel" "most" "[I", Cond.fieldLink RX3 53 "TitheMapModel" "owner" "[I", Cond.fieldLink RX3 59 "TitheMapModel" "isBought" "[Z", Cond.fieldLink RX3 56 "TitheMapModel" "charge" "[I", Cond.methodLink RX3 100 yX3_comes, Cond.instanceMethod yX3_comes, Cond.selects RX3 yX3_comes yX3_comes, Cond.initialized RX3, Cond.code yX3_comes cX3_comes 7 none, Cond.fieldLink RX3 43 "TitheMapModel" "isThere" "[Z", Cond.fieldLink RX3 47 "TitheMapModel" "area" "[I", Cond.fieldLink RX3 50 "TitheMapModel" "kind" "[I", Cond.methodLink RX3 120 yX3_parts, Cond.instanceMethod yX3_parts, Cond.selects RX3 yX3_parts yX3_parts, Cond.code yX3_parts cX3_parts 5 none, Cond.methodLink RX3 124 yX3_joins, Cond.instanceMethod yX3_joins, Cond.selects RX3 yX3_joins yX3_joins]
def wsX3_does_r2 : List Cond := [Cond.code yX3_joins cX3_joins 5 none, Cond.methodLink RX3 127 yX3_settles, Cond.instanceMethod yX3_settles, Cond.selects RX3 yX3_settles yX3_settles, Cond.code yX3_settles cX3_settles 11 none, Cond.fieldLink RX3 62 "TitheMapModel" "share" "[J", Cond.fieldLink RX3 66 "TitheMapModel" "rest" "[J", Cond.constantLong RX3 104 (-1), Cond.constantLong RX3 106 (3), Cond.constantLong RX3 108 (100), Cond.fieldLink RX3 13 "TitheMapModel" "year" "[I", Cond.fieldLink RX3 110 "TitheMapModel" "isSettled" "Z", Cond.methodLink RX3 97 yX3_averageOf, Cond.instanceMethod yX3_averageOf, Cond.selects RX3 yX3_averageOf yX3_averageOf, Cond.code yX3_averageOf cX3_averageOf 8 (some .int), Cond.methodLink RX3 85 yX3_priceOf, Cond.instanceMethod yX3_priceOf, Cond.selects RX3 yX3_priceOf yX3_priceOf, Cond.code yX3_priceOf cX3_priceOf 6 (some .int), Cond.methodLink RX3 89 yX3_nearest, Cond.static yX3_nearest, Cond.code yX3_nearest cX3_nearest 4 (some .long), Cond.constantLong RX3 83 (2)]
def wsX3_does : List Cond := .code yX3_does cX3_does 5 none :: ((wsX3_does_r1 ++ wsX3_does_r2) ++ wsX30)
def wsX3_works_r1 : List Cond := [Cond.fieldLink RX3 43 "TitheMapModel" "isThere" "[Z", Cond.fieldLink RX3 110 "TitheMapModel" "isSettled" "Z", Cond.fieldLink RX3 7 "TitheMapModel" "sort" "[I", Cond.fieldLink RX3 13 "TitheMapModel" "year" "[I", Cond.methodLink RX3 131 yX3_fits, Cond.instanceMethod yX3_fits, Cond.selects RX3 yX3_fits yX3_fits, Cond.initialized RX3, Cond.code yX3_fits cX3_fits 7 (some .boolean), Cond.fieldLink RX3 16 "TitheMapModel" "one" "[I", Cond.fieldLink RX3 19 "TitheMapModel" "two" "[I", Cond.fieldLink RX3 47 "TitheMapModel" "area" "[I", Cond.fieldLink RX3 22 "TitheMapModel" "more" "[I", Cond.fieldLink RX3 50 "TitheMapModel" "kind" "[I", Cond.fieldLink RX3 53 "TitheMapModel" "owner" "[I", Cond.fieldLink RX3 59 "TitheMapModel" "isBought" "[Z", Cond.methodLink RX3 117 yX3_is, Cond.instanceMethod yX3_is, Cond.selects RX3 yX3_is yX3_is, Cond.code yX3_is cX3_is 2 (some .boolean), Cond.methodLink RX3 114 yX3_isField, Cond.instanceMethod yX3_isField, Cond.selects RX3 yX3_isField yX3_isField, Cond.code yX3_isField cX3_isField 2 (some .boolean)]
def wsX3_works_r2 : List Cond := [Cond.fieldLink RX3 80 "TitheMapModel" "fields" "I", Cond.methodLink RX3 76 yX3_lies, Cond.static yX3_lies, Cond.code yX3_lies cX3_lies 3 (some .boolean), Cond.methodLink RX3 97 yX3_averageOf, Cond.instanceMethod yX3_averageOf, Cond.selects RX3 yX3_averageOf yX3_averageOf, Cond.code yX3_averageOf cX3_averageOf 8 (some .int), Cond.methodLink RX3 85 yX3_priceOf, Cond.instanceMethod yX3_priceOf, Cond.selects RX3 yX3_priceOf yX3_priceOf, Cond.code yX3_priceOf cX3_priceOf 6 (some .int), Cond.methodLink RX3 89 yX3_nearest, Cond.static yX3_nearest, Cond.code yX3_nearest cX3_nearest 4 (some .long), Cond.constantLong RX3 83 (2), Cond.methodLink RX3 135 yX3_does, Cond.instanceMethod yX3_does, Cond.selects RX3 yX3_does yX3_does, Cond.code yX3_does cX3_does 5 none, Cond.fieldLink RX3 28 "TitheMapModel" "made" "[I", Cond.fieldLink RX3 25 "TitheMapModel" "most" "[I", Cond.fieldLink RX3 56 "TitheMapModel" "charge" "[I", Cond.methodLink RX3 100 yX3_comes]
def wsX3_works_r3 : List Cond := [Cond.instanceMethod yX3_comes, Cond.selects RX3 yX3_comes yX3_comes, Cond.code yX3_comes cX3_comes 7 none, Cond.methodLink RX3 120 yX3_parts, Cond.instanceMethod yX3_parts, Cond.selects RX3 yX3_parts yX3_parts, Cond.code yX3_parts cX3_parts 5 none, Cond.methodLink RX3 124 yX3_joins, Cond.instanceMethod yX3_joins, Cond.selects RX3 yX3_joins yX3_joins, Cond.code yX3_joins cX3_joins 5 none, Cond.methodLink RX3 127 yX3_settles, Cond.instanceMethod yX3_settles, Cond.selects RX3 yX3_settles yX3_settles, Cond.code yX3_settles cX3_settles 11 none, Cond.fieldLink RX3 62 "TitheMapModel" "share" "[J", Cond.fieldLink RX3 66 "TitheMapModel" "rest" "[J", Cond.constantLong RX3 104 (-1), Cond.constantLong RX3 106 (3), Cond.constantLong RX3 108 (100)]
def wsX3_works : List Cond := .code yX3_works cX3_works 6 (some .boolean) :: ((wsX3_works_r1 ++ (wsX3_works_r2 ++ wsX3_works_r3)) ++ wsX30)
def wsX3_writes : List Cond := .code yX3_writes cX3_writes 7 none :: ([.fieldLink RX3 7 "TitheMapModel" "sort" "[I", .fieldLink RX3 72 "TitheMapModel" "entries" "I", .fieldLink RX3 13 "TitheMapModel" "year" "[I", .fieldLink RX3 16 "TitheMapModel" "one" "[I", .fieldLink RX3 19 "TitheMapModel" "two" "[I", .fieldLink RX3 22 "TitheMapModel" "more" "[I", .fieldLink RX3 25 "TitheMapModel" "most" "[I", .fieldLink RX3 28 "TitheMapModel" "made" "[I"] ++ wsX30)
def wsX3_price : List Cond := .code yX3_price cX3_price 4 (some .int) :: ([.fieldLink RX3 72 "TitheMapModel" "entries" "I", .methodLink RX3 76 yX3_lies, .static yX3_lies, .initialized RX3, .code yX3_lies cX3_lies 3 (some .boolean), .methodLink RX3 138 yX3_writes, .instanceMethod yX3_writes, .selects RX3 yX3_writes yX3_writes, .code yX3_writes cX3_writes 7 none, .fieldLink RX3 7 "TitheMapModel" "sort" "[I", .fieldLink RX3 13 "TitheMapModel" "year" "[I", .fieldLink RX3 16 "TitheMapModel" "one" "[I", .fieldLink RX3 19 "TitheMapModel" "two" "[I", .fieldLink RX3 22 "TitheMapModel" "more" "[I", .fieldLink RX3 25 "TitheMapModel" "most" "[I", .fieldLink RX3 28 "TitheMapModel" "made" "[I"] ++ wsX30)
def wsX3_isMade : List Cond := .code yX3_isMade cX3_isMade 4 none :: ([.fieldLink RX3 31 "TitheMapModel" "madeBy" "[I", .fieldLink RX3 72 "TitheMapModel" "entries" "I", .fieldLink RX3 34 "TitheMapModel" "endedBy" "[I", .fieldLink RX3 37 "TitheMapModel" "firstOf" "[I", .fieldLink RX3 40 "TitheMapModel" "secondOf" "[I"] ++ wsX30)
def wsX3_takes_r1 : List Cond := [Cond.fieldLink RX3 28 "TitheMapModel" "made" "[I", Cond.fieldLink RX3 72 "TitheMapModel" "entries" "I", Cond.fieldLink RX3 80 "TitheMapModel" "fields" "I", Cond.methodLink RX3 142 yX3_works, Cond.instanceMethod yX3_works, Cond.selects RX3 yX3_works yX3_works, Cond.initialized RX3, Cond.code yX3_works cX3_works 6 (some .boolean), Cond.fieldLink RX3 43 "TitheMapModel" "isThere" "[Z", Cond.fieldLink RX3 110 "TitheMapModel" "isSettled" "Z", Cond.fieldLink RX3 7 "TitheMapModel" "sort" "[I", Cond.fieldLink RX3 13 "TitheMapModel" "year" "[I", Cond.methodLink RX3 131 yX3_fits, Cond.instanceMethod yX3_fits, Cond.selects RX3 yX3_fits yX3_fits, Cond.code yX3_fits cX3_fits 7 (some .boolean), Cond.fieldLink RX3 16 "TitheMapModel" "one" "[I", Cond.fieldLink RX3 19 "TitheMapModel" "two" "[I", Cond.fieldLink RX3 47 "TitheMapModel" "area" "[I", Cond.fieldLink RX3 22 "TitheMapModel" "more" "[I", Cond.fieldLink RX3 50 "TitheMapModel" "kind" "[I", Cond.fieldLink RX3 53 "TitheMapModel" "owner" "[I", Cond.fieldLink RX3 59 "TitheMapModel" "isBought" "[Z", Cond.methodLink RX3 117 yX3_is]
def wsX3_takes_r2 : List Cond := [Cond.instanceMethod yX3_is, Cond.selects RX3 yX3_is yX3_is, Cond.code yX3_is cX3_is 2 (some .boolean), Cond.methodLink RX3 114 yX3_isField, Cond.instanceMethod yX3_isField, Cond.selects RX3 yX3_isField yX3_isField, Cond.code yX3_isField cX3_isField 2 (some .boolean), Cond.methodLink RX3 76 yX3_lies, Cond.static yX3_lies, Cond.code yX3_lies cX3_lies 3 (some .boolean), Cond.methodLink RX3 97 yX3_averageOf, Cond.instanceMethod yX3_averageOf, Cond.selects RX3 yX3_averageOf yX3_averageOf, Cond.code yX3_averageOf cX3_averageOf 8 (some .int), Cond.methodLink RX3 85 yX3_priceOf, Cond.instanceMethod yX3_priceOf, Cond.selects RX3 yX3_priceOf yX3_priceOf, Cond.code yX3_priceOf cX3_priceOf 6 (some .int), Cond.methodLink RX3 89 yX3_nearest, Cond.static yX3_nearest, Cond.code yX3_nearest cX3_nearest 4 (some .long), Cond.constantLong RX3 83 (2), Cond.methodLink RX3 135 yX3_does, Cond.instanceMethod yX3_does]
def wsX3_takes_r3 : List Cond := [Cond.selects RX3 yX3_does yX3_does, Cond.code yX3_does cX3_does 5 none, Cond.fieldLink RX3 25 "TitheMapModel" "most" "[I", Cond.fieldLink RX3 56 "TitheMapModel" "charge" "[I", Cond.methodLink RX3 100 yX3_comes, Cond.instanceMethod yX3_comes, Cond.selects RX3 yX3_comes yX3_comes, Cond.code yX3_comes cX3_comes 7 none, Cond.methodLink RX3 120 yX3_parts, Cond.instanceMethod yX3_parts, Cond.selects RX3 yX3_parts yX3_parts, Cond.code yX3_parts cX3_parts 5 none, Cond.methodLink RX3 124 yX3_joins, Cond.instanceMethod yX3_joins, Cond.selects RX3 yX3_joins yX3_joins, Cond.code yX3_joins cX3_joins 5 none, Cond.methodLink RX3 127 yX3_settles, Cond.instanceMethod yX3_settles, Cond.selects RX3 yX3_settles yX3_settles, Cond.code yX3_settles cX3_settles 11 none, Cond.fieldLink RX3 62 "TitheMapModel" "share" "[J", Cond.fieldLink RX3 66 "TitheMapModel" "rest" "[J", Cond.constantLong RX3 104 (-1), Cond.constantLong RX3 106 (3)]
def wsX3_takes_r4 : List Cond := [Cond.constantLong RX3 108 (100)]
def wsX3_takes : List Cond := .code yX3_takes cX3_takes 3 (some .boolean) :: ((wsX3_takes_r1 ++ (wsX3_takes_r2 ++ (wsX3_takes_r3 ++ wsX3_takes_r4))) ++ wsX30)
def wsX3_make_r1 : List Cond := [Cond.fieldLink RX3 72 "TitheMapModel" "entries" "I", Cond.fieldLink RX3 80 "TitheMapModel" "fields" "I", Cond.methodLink RX3 76 yX3_lies, Cond.static yX3_lies, Cond.initialized RX3, Cond.code yX3_lies cX3_lies 3 (some .boolean), Cond.methodLink RX3 138 yX3_writes, Cond.instanceMethod yX3_writes, Cond.selects RX3 yX3_writes yX3_writes, Cond.code yX3_writes cX3_writes 7 none, Cond.fieldLink RX3 7 "TitheMapModel" "sort" "[I", Cond.fieldLink RX3 13 "TitheMapModel" "year" "[I", Cond.fieldLink RX3 16 "TitheMapModel" "one" "[I", Cond.fieldLink RX3 19 "TitheMapModel" "two" "[I", Cond.fieldLink RX3 22 "TitheMapModel" "more" "[I", Cond.fieldLink RX3 25 "TitheMapModel" "most" "[I", Cond.fieldLink RX3 28 "TitheMapModel" "made" "[I", Cond.methodLink RX3 145 yX3_takes, Cond.instanceMethod yX3_takes, Cond.selects RX3 yX3_takes yX3_takes, Cond.code yX3_takes cX3_takes 3 (some .boolean), Cond.methodLink RX3 142 yX3_works, Cond.instanceMethod yX3_works, Cond.selects RX3 yX3_works yX3_works]
def wsX3_make_r2 : List Cond := [Cond.code yX3_works cX3_works 6 (some .boolean), Cond.fieldLink RX3 43 "TitheMapModel" "isThere" "[Z", Cond.fieldLink RX3 110 "TitheMapModel" "isSettled" "Z", Cond.methodLink RX3 131 yX3_fits, Cond.instanceMethod yX3_fits, Cond.selects RX3 yX3_fits yX3_fits, Cond.code yX3_fits cX3_fits 7 (some .boolean), Cond.fieldLink RX3 47 "TitheMapModel" "area" "[I", Cond.fieldLink RX3 50 "TitheMapModel" "kind" "[I", Cond.fieldLink RX3 53 "TitheMapModel" "owner" "[I", Cond.fieldLink RX3 59 "TitheMapModel" "isBought" "[Z", Cond.methodLink RX3 117 yX3_is, Cond.instanceMethod yX3_is, Cond.selects RX3 yX3_is yX3_is, Cond.code yX3_is cX3_is 2 (some .boolean), Cond.methodLink RX3 114 yX3_isField, Cond.instanceMethod yX3_isField, Cond.selects RX3 yX3_isField yX3_isField, Cond.code yX3_isField cX3_isField 2 (some .boolean), Cond.methodLink RX3 97 yX3_averageOf, Cond.instanceMethod yX3_averageOf, Cond.selects RX3 yX3_averageOf yX3_averageOf, Cond.code yX3_averageOf cX3_averageOf 8 (some .int), Cond.methodLink RX3 85 yX3_priceOf]
def wsX3_make_r3 : List Cond := [Cond.instanceMethod yX3_priceOf, Cond.selects RX3 yX3_priceOf yX3_priceOf, Cond.code yX3_priceOf cX3_priceOf 6 (some .int), Cond.methodLink RX3 89 yX3_nearest, Cond.static yX3_nearest, Cond.code yX3_nearest cX3_nearest 4 (some .long), Cond.constantLong RX3 83 (2), Cond.methodLink RX3 135 yX3_does, Cond.instanceMethod yX3_does, Cond.selects RX3 yX3_does yX3_does, Cond.code yX3_does cX3_does 5 none, Cond.fieldLink RX3 56 "TitheMapModel" "charge" "[I", Cond.methodLink RX3 100 yX3_comes, Cond.instanceMethod yX3_comes, Cond.selects RX3 yX3_comes yX3_comes, Cond.code yX3_comes cX3_comes 7 none, Cond.methodLink RX3 120 yX3_parts, Cond.instanceMethod yX3_parts, Cond.selects RX3 yX3_parts yX3_parts, Cond.code yX3_parts cX3_parts 5 none, Cond.methodLink RX3 124 yX3_joins, Cond.instanceMethod yX3_joins, Cond.selects RX3 yX3_joins yX3_joins, Cond.code yX3_joins cX3_joins 5 none]
def wsX3_make_r4 : List Cond := [Cond.methodLink RX3 127 yX3_settles, Cond.instanceMethod yX3_settles, Cond.selects RX3 yX3_settles yX3_settles, Cond.code yX3_settles cX3_settles 11 none, Cond.fieldLink RX3 62 "TitheMapModel" "share" "[J", Cond.fieldLink RX3 66 "TitheMapModel" "rest" "[J", Cond.constantLong RX3 104 (-1), Cond.constantLong RX3 106 (3), Cond.constantLong RX3 108 (100), Cond.methodLink RX3 148 yX3_isMade, Cond.instanceMethod yX3_isMade, Cond.selects RX3 yX3_isMade yX3_isMade, Cond.code yX3_isMade cX3_isMade 4 none, Cond.fieldLink RX3 31 "TitheMapModel" "madeBy" "[I", Cond.fieldLink RX3 34 "TitheMapModel" "endedBy" "[I", Cond.fieldLink RX3 37 "TitheMapModel" "firstOf" "[I", Cond.fieldLink RX3 40 "TitheMapModel" "secondOf" "[I"]
def wsX3_make : List Cond := .code yX3_make cX3_make 5 (some .int) :: ((wsX3_make_r1 ++ (wsX3_make_r2 ++ (wsX3_make_r3 ++ wsX3_make_r4))) ++ wsX30)
def wsX3_part_r1 : List Cond := [Cond.fieldLink RX3 72 "TitheMapModel" "entries" "I", Cond.fieldLink RX3 80 "TitheMapModel" "fields" "I", Cond.constant RX3 152 (10000000), Cond.fieldLink RX3 34 "TitheMapModel" "endedBy" "[I", Cond.methodLink RX3 76 yX3_lies, Cond.static yX3_lies, Cond.initialized RX3, Cond.code yX3_lies cX3_lies 3 (some .boolean), Cond.methodLink RX3 114 yX3_isField, Cond.instanceMethod yX3_isField, Cond.selects RX3 yX3_isField yX3_isField, Cond.code yX3_isField cX3_isField 2 (some .boolean), Cond.methodLink RX3 138 yX3_writes, Cond.instanceMethod yX3_writes, Cond.selects RX3 yX3_writes yX3_writes, Cond.code yX3_writes cX3_writes 7 none, Cond.fieldLink RX3 7 "TitheMapModel" "sort" "[I", Cond.fieldLink RX3 13 "TitheMapModel" "year" "[I", Cond.fieldLink RX3 16 "TitheMapModel" "one" "[I", Cond.fieldLink RX3 19 "TitheMapModel" "two" "[I", Cond.fieldLink RX3 22 "TitheMapModel" "more" "[I", Cond.fieldLink RX3 25 "TitheMapModel" "most" "[I", Cond.fieldLink RX3 28 "TitheMapModel" "made" "[I", Cond.methodLink RX3 145 yX3_takes]
def wsX3_part_r2 : List Cond := [Cond.instanceMethod yX3_takes, Cond.selects RX3 yX3_takes yX3_takes, Cond.code yX3_takes cX3_takes 3 (some .boolean), Cond.methodLink RX3 142 yX3_works, Cond.instanceMethod yX3_works, Cond.selects RX3 yX3_works yX3_works, Cond.code yX3_works cX3_works 6 (some .boolean), Cond.fieldLink RX3 43 "TitheMapModel" "isThere" "[Z", Cond.fieldLink RX3 110 "TitheMapModel" "isSettled" "Z", Cond.methodLink RX3 131 yX3_fits, Cond.instanceMethod yX3_fits, Cond.selects RX3 yX3_fits yX3_fits, Cond.code yX3_fits cX3_fits 7 (some .boolean), Cond.fieldLink RX3 47 "TitheMapModel" "area" "[I", Cond.fieldLink RX3 50 "TitheMapModel" "kind" "[I", Cond.fieldLink RX3 53 "TitheMapModel" "owner" "[I", Cond.fieldLink RX3 59 "TitheMapModel" "isBought" "[Z", Cond.methodLink RX3 117 yX3_is, Cond.instanceMethod yX3_is, Cond.selects RX3 yX3_is yX3_is, Cond.code yX3_is cX3_is 2 (some .boolean), Cond.methodLink RX3 97 yX3_averageOf, Cond.instanceMethod yX3_averageOf, Cond.selects RX3 yX3_averageOf yX3_averageOf]
def wsX3_part_r3 : List Cond := [Cond.code yX3_averageOf cX3_averageOf 8 (some .int), Cond.methodLink RX3 85 yX3_priceOf, Cond.instanceMethod yX3_priceOf, Cond.selects RX3 yX3_priceOf yX3_priceOf, Cond.code yX3_priceOf cX3_priceOf 6 (some .int), Cond.methodLink RX3 89 yX3_nearest, Cond.static yX3_nearest, Cond.code yX3_nearest cX3_nearest 4 (some .long), Cond.constantLong RX3 83 (2), Cond.methodLink RX3 135 yX3_does, Cond.instanceMethod yX3_does, Cond.selects RX3 yX3_does yX3_does, Cond.code yX3_does cX3_does 5 none, Cond.fieldLink RX3 56 "TitheMapModel" "charge" "[I", Cond.methodLink RX3 100 yX3_comes, Cond.instanceMethod yX3_comes, Cond.selects RX3 yX3_comes yX3_comes, Cond.code yX3_comes cX3_comes 7 none, Cond.methodLink RX3 120 yX3_parts, Cond.instanceMethod yX3_parts, Cond.selects RX3 yX3_parts yX3_parts, Cond.code yX3_parts cX3_parts 5 none, Cond.methodLink RX3 124 yX3_joins, Cond.instanceMethod yX3_joins]
def wsX3_part_r4 : List Cond := [Cond.selects RX3 yX3_joins yX3_joins, Cond.code yX3_joins cX3_joins 5 none, Cond.methodLink RX3 127 yX3_settles, Cond.instanceMethod yX3_settles, Cond.selects RX3 yX3_settles yX3_settles, Cond.code yX3_settles cX3_settles 11 none, Cond.fieldLink RX3 62 "TitheMapModel" "share" "[J", Cond.fieldLink RX3 66 "TitheMapModel" "rest" "[J", Cond.constantLong RX3 104 (-1), Cond.constantLong RX3 106 (3), Cond.constantLong RX3 108 (100), Cond.methodLink RX3 148 yX3_isMade, Cond.instanceMethod yX3_isMade, Cond.selects RX3 yX3_isMade yX3_isMade, Cond.code yX3_isMade cX3_isMade 4 none, Cond.fieldLink RX3 31 "TitheMapModel" "madeBy" "[I", Cond.fieldLink RX3 37 "TitheMapModel" "firstOf" "[I", Cond.fieldLink RX3 40 "TitheMapModel" "secondOf" "[I"]
def wsX3_part : List Cond := .code yX3_part cX3_part 4 (some .int) :: ((wsX3_part_r1 ++ (wsX3_part_r2 ++ (wsX3_part_r3 ++ wsX3_part_r4))) ++ wsX30)
def wsX3_join_r1 : List Cond := [Cond.fieldLink RX3 72 "TitheMapModel" "entries" "I", Cond.fieldLink RX3 80 "TitheMapModel" "fields" "I", Cond.fieldLink RX3 34 "TitheMapModel" "endedBy" "[I", Cond.methodLink RX3 76 yX3_lies, Cond.static yX3_lies, Cond.initialized RX3, Cond.code yX3_lies cX3_lies 3 (some .boolean), Cond.methodLink RX3 114 yX3_isField, Cond.instanceMethod yX3_isField, Cond.selects RX3 yX3_isField yX3_isField, Cond.code yX3_isField cX3_isField 2 (some .boolean), Cond.methodLink RX3 138 yX3_writes, Cond.instanceMethod yX3_writes, Cond.selects RX3 yX3_writes yX3_writes, Cond.code yX3_writes cX3_writes 7 none, Cond.fieldLink RX3 7 "TitheMapModel" "sort" "[I", Cond.fieldLink RX3 13 "TitheMapModel" "year" "[I", Cond.fieldLink RX3 16 "TitheMapModel" "one" "[I", Cond.fieldLink RX3 19 "TitheMapModel" "two" "[I", Cond.fieldLink RX3 22 "TitheMapModel" "more" "[I", Cond.fieldLink RX3 25 "TitheMapModel" "most" "[I", Cond.fieldLink RX3 28 "TitheMapModel" "made" "[I", Cond.methodLink RX3 145 yX3_takes, Cond.instanceMethod yX3_takes]
def wsX3_join_r2 : List Cond := [Cond.selects RX3 yX3_takes yX3_takes, Cond.code yX3_takes cX3_takes 3 (some .boolean), Cond.methodLink RX3 142 yX3_works, Cond.instanceMethod yX3_works, Cond.selects RX3 yX3_works yX3_works, Cond.code yX3_works cX3_works 6 (some .boolean), Cond.fieldLink RX3 43 "TitheMapModel" "isThere" "[Z", Cond.fieldLink RX3 110 "TitheMapModel" "isSettled" "Z", Cond.methodLink RX3 131 yX3_fits, Cond.instanceMethod yX3_fits, Cond.selects RX3 yX3_fits yX3_fits, Cond.code yX3_fits cX3_fits 7 (some .boolean), Cond.fieldLink RX3 47 "TitheMapModel" "area" "[I", Cond.fieldLink RX3 50 "TitheMapModel" "kind" "[I", Cond.fieldLink RX3 53 "TitheMapModel" "owner" "[I", Cond.fieldLink RX3 59 "TitheMapModel" "isBought" "[Z", Cond.methodLink RX3 117 yX3_is, Cond.instanceMethod yX3_is, Cond.selects RX3 yX3_is yX3_is, Cond.code yX3_is cX3_is 2 (some .boolean), Cond.methodLink RX3 97 yX3_averageOf, Cond.instanceMethod yX3_averageOf, Cond.selects RX3 yX3_averageOf yX3_averageOf, Cond.code yX3_averageOf cX3_averageOf 8 (some .int)]
def wsX3_join_r3 : List Cond := [Cond.methodLink RX3 85 yX3_priceOf, Cond.instanceMethod yX3_priceOf, Cond.selects RX3 yX3_priceOf yX3_priceOf, Cond.code yX3_priceOf cX3_priceOf 6 (some .int), Cond.methodLink RX3 89 yX3_nearest, Cond.static yX3_nearest, Cond.code yX3_nearest cX3_nearest 4 (some .long), Cond.constantLong RX3 83 (2), Cond.methodLink RX3 135 yX3_does, Cond.instanceMethod yX3_does, Cond.selects RX3 yX3_does yX3_does, Cond.code yX3_does cX3_does 5 none, Cond.fieldLink RX3 56 "TitheMapModel" "charge" "[I", Cond.methodLink RX3 100 yX3_comes, Cond.instanceMethod yX3_comes, Cond.selects RX3 yX3_comes yX3_comes, Cond.code yX3_comes cX3_comes 7 none, Cond.methodLink RX3 120 yX3_parts, Cond.instanceMethod yX3_parts, Cond.selects RX3 yX3_parts yX3_parts, Cond.code yX3_parts cX3_parts 5 none, Cond.methodLink RX3 124 yX3_joins, Cond.instanceMethod yX3_joins, Cond.selects RX3 yX3_joins yX3_joins]
def wsX3_join_r4 : List Cond := [Cond.code yX3_joins cX3_joins 5 none, Cond.methodLink RX3 127 yX3_settles, Cond.instanceMethod yX3_settles, Cond.selects RX3 yX3_settles yX3_settles, Cond.code yX3_settles cX3_settles 11 none, Cond.fieldLink RX3 62 "TitheMapModel" "share" "[J", Cond.fieldLink RX3 66 "TitheMapModel" "rest" "[J", Cond.constantLong RX3 104 (-1), Cond.constantLong RX3 106 (3), Cond.constantLong RX3 108 (100), Cond.methodLink RX3 148 yX3_isMade, Cond.instanceMethod yX3_isMade, Cond.selects RX3 yX3_isMade yX3_isMade, Cond.code yX3_isMade cX3_isMade 4 none, Cond.fieldLink RX3 31 "TitheMapModel" "madeBy" "[I", Cond.fieldLink RX3 37 "TitheMapModel" "firstOf" "[I", Cond.fieldLink RX3 40 "TitheMapModel" "secondOf" "[I"]
def wsX3_join : List Cond := .code yX3_join cX3_join 4 (some .int) :: ((wsX3_join_r1 ++ (wsX3_join_r2 ++ (wsX3_join_r3 ++ wsX3_join_r4))) ++ wsX30)
def wsX3_taken_r1 : List Cond := [Cond.fieldLink RX3 72 "TitheMapModel" "entries" "I", Cond.methodLink RX3 145 yX3_takes, Cond.instanceMethod yX3_takes, Cond.selects RX3 yX3_takes yX3_takes, Cond.initialized RX3, Cond.code yX3_takes cX3_takes 3 (some .boolean), Cond.fieldLink RX3 28 "TitheMapModel" "made" "[I", Cond.fieldLink RX3 80 "TitheMapModel" "fields" "I", Cond.methodLink RX3 142 yX3_works, Cond.instanceMethod yX3_works, Cond.selects RX3 yX3_works yX3_works, Cond.code yX3_works cX3_works 6 (some .boolean), Cond.fieldLink RX3 43 "TitheMapModel" "isThere" "[Z", Cond.fieldLink RX3 110 "TitheMapModel" "isSettled" "Z", Cond.fieldLink RX3 7 "TitheMapModel" "sort" "[I", Cond.fieldLink RX3 13 "TitheMapModel" "year" "[I", Cond.methodLink RX3 131 yX3_fits, Cond.instanceMethod yX3_fits, Cond.selects RX3 yX3_fits yX3_fits, Cond.code yX3_fits cX3_fits 7 (some .boolean), Cond.fieldLink RX3 16 "TitheMapModel" "one" "[I", Cond.fieldLink RX3 19 "TitheMapModel" "two" "[I", Cond.fieldLink RX3 47 "TitheMapModel" "area" "[I", Cond.fieldLink RX3 22 "TitheMapModel" "more" "[I"]
def wsX3_taken_r2 : List Cond := [Cond.fieldLink RX3 50 "TitheMapModel" "kind" "[I", Cond.fieldLink RX3 53 "TitheMapModel" "owner" "[I", Cond.fieldLink RX3 59 "TitheMapModel" "isBought" "[Z", Cond.methodLink RX3 117 yX3_is, Cond.instanceMethod yX3_is, Cond.selects RX3 yX3_is yX3_is, Cond.code yX3_is cX3_is 2 (some .boolean), Cond.methodLink RX3 114 yX3_isField, Cond.instanceMethod yX3_isField, Cond.selects RX3 yX3_isField yX3_isField, Cond.code yX3_isField cX3_isField 2 (some .boolean), Cond.methodLink RX3 76 yX3_lies, Cond.static yX3_lies, Cond.code yX3_lies cX3_lies 3 (some .boolean), Cond.methodLink RX3 97 yX3_averageOf, Cond.instanceMethod yX3_averageOf, Cond.selects RX3 yX3_averageOf yX3_averageOf, Cond.code yX3_averageOf cX3_averageOf 8 (some .int), Cond.methodLink RX3 85 yX3_priceOf, Cond.instanceMethod yX3_priceOf, Cond.selects RX3 yX3_priceOf yX3_priceOf, Cond.code yX3_priceOf cX3_priceOf 6 (some .int), Cond.methodLink RX3 89 yX3_nearest, Cond.static yX3_nearest]
def wsX3_taken_r3 : List Cond := [Cond.code yX3_nearest cX3_nearest 4 (some .long), Cond.constantLong RX3 83 (2), Cond.methodLink RX3 135 yX3_does, Cond.instanceMethod yX3_does, Cond.selects RX3 yX3_does yX3_does, Cond.code yX3_does cX3_does 5 none, Cond.fieldLink RX3 25 "TitheMapModel" "most" "[I", Cond.fieldLink RX3 56 "TitheMapModel" "charge" "[I", Cond.methodLink RX3 100 yX3_comes, Cond.instanceMethod yX3_comes, Cond.selects RX3 yX3_comes yX3_comes, Cond.code yX3_comes cX3_comes 7 none, Cond.methodLink RX3 120 yX3_parts, Cond.instanceMethod yX3_parts, Cond.selects RX3 yX3_parts yX3_parts, Cond.code yX3_parts cX3_parts 5 none, Cond.methodLink RX3 124 yX3_joins, Cond.instanceMethod yX3_joins, Cond.selects RX3 yX3_joins yX3_joins, Cond.code yX3_joins cX3_joins 5 none, Cond.methodLink RX3 127 yX3_settles, Cond.instanceMethod yX3_settles, Cond.selects RX3 yX3_settles yX3_settles, Cond.code yX3_settles cX3_settles 11 none]
def wsX3_taken_r4 : List Cond := [Cond.fieldLink RX3 62 "TitheMapModel" "share" "[J", Cond.fieldLink RX3 66 "TitheMapModel" "rest" "[J", Cond.constantLong RX3 104 (-1), Cond.constantLong RX3 106 (3), Cond.constantLong RX3 108 (100)]
def wsX3_taken : List Cond := .code yX3_taken cX3_taken 1 (some .int) :: ((wsX3_taken_r1 ++ (wsX3_taken_r2 ++ (wsX3_taken_r3 ++ wsX3_taken_r4))) ++ wsX30)
def wsX3_sell_r1 : List Cond := [Cond.fieldLink RX3 72 "TitheMapModel" "entries" "I", Cond.methodLink RX3 76 yX3_lies, Cond.static yX3_lies, Cond.initialized RX3, Cond.code yX3_lies cX3_lies 3 (some .boolean), Cond.methodLink RX3 114 yX3_isField, Cond.instanceMethod yX3_isField, Cond.selects RX3 yX3_isField yX3_isField, Cond.code yX3_isField cX3_isField 2 (some .boolean), Cond.fieldLink RX3 80 "TitheMapModel" "fields" "I", Cond.methodLink RX3 138 yX3_writes, Cond.instanceMethod yX3_writes, Cond.selects RX3 yX3_writes yX3_writes, Cond.code yX3_writes cX3_writes 7 none, Cond.fieldLink RX3 7 "TitheMapModel" "sort" "[I", Cond.fieldLink RX3 13 "TitheMapModel" "year" "[I", Cond.fieldLink RX3 16 "TitheMapModel" "one" "[I", Cond.fieldLink RX3 19 "TitheMapModel" "two" "[I", Cond.fieldLink RX3 22 "TitheMapModel" "more" "[I", Cond.fieldLink RX3 25 "TitheMapModel" "most" "[I", Cond.fieldLink RX3 28 "TitheMapModel" "made" "[I", Cond.methodLink RX3 153 yX3_taken, Cond.instanceMethod yX3_taken, Cond.selects RX3 yX3_taken yX3_taken]
def wsX3_sell_r2 : List Cond := [Cond.code yX3_taken cX3_taken 1 (some .int), Cond.methodLink RX3 145 yX3_takes, Cond.instanceMethod yX3_takes, Cond.selects RX3 yX3_takes yX3_takes, Cond.code yX3_takes cX3_takes 3 (some .boolean), Cond.methodLink RX3 142 yX3_works, Cond.instanceMethod yX3_works, Cond.selects RX3 yX3_works yX3_works, Cond.code yX3_works cX3_works 6 (some .boolean), Cond.fieldLink RX3 43 "TitheMapModel" "isThere" "[Z", Cond.fieldLink RX3 110 "TitheMapModel" "isSettled" "Z", Cond.methodLink RX3 131 yX3_fits, Cond.instanceMethod yX3_fits, Cond.selects RX3 yX3_fits yX3_fits, Cond.code yX3_fits cX3_fits 7 (some .boolean), Cond.fieldLink RX3 47 "TitheMapModel" "area" "[I", Cond.fieldLink RX3 50 "TitheMapModel" "kind" "[I", Cond.fieldLink RX3 53 "TitheMapModel" "owner" "[I", Cond.fieldLink RX3 59 "TitheMapModel" "isBought" "[Z", Cond.methodLink RX3 117 yX3_is, Cond.instanceMethod yX3_is, Cond.selects RX3 yX3_is yX3_is, Cond.code yX3_is cX3_is 2 (some .boolean), Cond.methodLink RX3 97 yX3_averageOf]
def wsX3_sell_r3 : List Cond := [Cond.instanceMethod yX3_averageOf, Cond.selects RX3 yX3_averageOf yX3_averageOf, Cond.code yX3_averageOf cX3_averageOf 8 (some .int), Cond.methodLink RX3 85 yX3_priceOf, Cond.instanceMethod yX3_priceOf, Cond.selects RX3 yX3_priceOf yX3_priceOf, Cond.code yX3_priceOf cX3_priceOf 6 (some .int), Cond.methodLink RX3 89 yX3_nearest, Cond.static yX3_nearest, Cond.code yX3_nearest cX3_nearest 4 (some .long), Cond.constantLong RX3 83 (2), Cond.methodLink RX3 135 yX3_does, Cond.instanceMethod yX3_does, Cond.selects RX3 yX3_does yX3_does, Cond.code yX3_does cX3_does 5 none, Cond.fieldLink RX3 56 "TitheMapModel" "charge" "[I", Cond.methodLink RX3 100 yX3_comes, Cond.instanceMethod yX3_comes, Cond.selects RX3 yX3_comes yX3_comes, Cond.code yX3_comes cX3_comes 7 none, Cond.methodLink RX3 120 yX3_parts, Cond.instanceMethod yX3_parts, Cond.selects RX3 yX3_parts yX3_parts, Cond.code yX3_parts cX3_parts 5 none]
def wsX3_sell_r4 : List Cond := [Cond.methodLink RX3 124 yX3_joins, Cond.instanceMethod yX3_joins, Cond.selects RX3 yX3_joins yX3_joins, Cond.code yX3_joins cX3_joins 5 none, Cond.methodLink RX3 127 yX3_settles, Cond.instanceMethod yX3_settles, Cond.selects RX3 yX3_settles yX3_settles, Cond.code yX3_settles cX3_settles 11 none, Cond.fieldLink RX3 62 "TitheMapModel" "share" "[J", Cond.fieldLink RX3 66 "TitheMapModel" "rest" "[J", Cond.constantLong RX3 104 (-1), Cond.constantLong RX3 106 (3), Cond.constantLong RX3 108 (100)]
def wsX3_sell : List Cond := .code yX3_sell cX3_sell 4 (some .int) :: ((wsX3_sell_r1 ++ (wsX3_sell_r2 ++ (wsX3_sell_r3 ++ wsX3_sell_r4))) ++ wsX30)
def wsX3_settle_r1 : List Cond := [Cond.fieldLink RX3 72 "TitheMapModel" "entries" "I", Cond.constant RX3 157 (1000000), Cond.methodLink RX3 76 yX3_lies, Cond.static yX3_lies, Cond.initialized RX3, Cond.code yX3_lies cX3_lies 3 (some .boolean), Cond.methodLink RX3 138 yX3_writes, Cond.instanceMethod yX3_writes, Cond.selects RX3 yX3_writes yX3_writes, Cond.code yX3_writes cX3_writes 7 none, Cond.fieldLink RX3 7 "TitheMapModel" "sort" "[I", Cond.fieldLink RX3 13 "TitheMapModel" "year" "[I", Cond.fieldLink RX3 16 "TitheMapModel" "one" "[I", Cond.fieldLink RX3 19 "TitheMapModel" "two" "[I", Cond.fieldLink RX3 22 "TitheMapModel" "more" "[I", Cond.fieldLink RX3 25 "TitheMapModel" "most" "[I", Cond.fieldLink RX3 28 "TitheMapModel" "made" "[I", Cond.methodLink RX3 153 yX3_taken, Cond.instanceMethod yX3_taken, Cond.selects RX3 yX3_taken yX3_taken, Cond.code yX3_taken cX3_taken 1 (some .int), Cond.methodLink RX3 145 yX3_takes, Cond.instanceMethod yX3_takes, Cond.selects RX3 yX3_takes yX3_takes]
def wsX3_settle_r2 : List Cond := [Cond.code yX3_takes cX3_takes 3 (some .boolean), Cond.fieldLink RX3 80 "TitheMapModel" "fields" "I", Cond.methodLink RX3 142 yX3_works, Cond.instanceMethod yX3_works, Cond.selects RX3 yX3_works yX3_works, Cond.code yX3_works cX3_works 6 (some .boolean), Cond.fieldLink RX3 43 "TitheMapModel" "isThere" "[Z", Cond.fieldLink RX3 110 "TitheMapModel" "isSettled" "Z", Cond.methodLink RX3 131 yX3_fits, Cond.instanceMethod yX3_fits, Cond.selects RX3 yX3_fits yX3_fits, Cond.code yX3_fits cX3_fits 7 (some .boolean), Cond.fieldLink RX3 47 "TitheMapModel" "area" "[I", Cond.fieldLink RX3 50 "TitheMapModel" "kind" "[I", Cond.fieldLink RX3 53 "TitheMapModel" "owner" "[I", Cond.fieldLink RX3 59 "TitheMapModel" "isBought" "[Z", Cond.methodLink RX3 117 yX3_is, Cond.instanceMethod yX3_is, Cond.selects RX3 yX3_is yX3_is, Cond.code yX3_is cX3_is 2 (some .boolean), Cond.methodLink RX3 114 yX3_isField, Cond.instanceMethod yX3_isField, Cond.selects RX3 yX3_isField yX3_isField, Cond.code yX3_isField cX3_isField 2 (some .boolean)]
def wsX3_settle_r3 : List Cond := [Cond.methodLink RX3 97 yX3_averageOf, Cond.instanceMethod yX3_averageOf, Cond.selects RX3 yX3_averageOf yX3_averageOf, Cond.code yX3_averageOf cX3_averageOf 8 (some .int), Cond.methodLink RX3 85 yX3_priceOf, Cond.instanceMethod yX3_priceOf, Cond.selects RX3 yX3_priceOf yX3_priceOf, Cond.code yX3_priceOf cX3_priceOf 6 (some .int), Cond.methodLink RX3 89 yX3_nearest, Cond.static yX3_nearest, Cond.code yX3_nearest cX3_nearest 4 (some .long), Cond.constantLong RX3 83 (2), Cond.methodLink RX3 135 yX3_does, Cond.instanceMethod yX3_does, Cond.selects RX3 yX3_does yX3_does, Cond.code yX3_does cX3_does 5 none, Cond.fieldLink RX3 56 "TitheMapModel" "charge" "[I", Cond.methodLink RX3 100 yX3_comes, Cond.instanceMethod yX3_comes, Cond.selects RX3 yX3_comes yX3_comes, Cond.code yX3_comes cX3_comes 7 none, Cond.methodLink RX3 120 yX3_parts, Cond.instanceMethod yX3_parts, Cond.selects RX3 yX3_parts yX3_parts]
def wsX3_settle_r4 : List Cond := [Cond.code yX3_parts cX3_parts 5 none, Cond.methodLink RX3 124 yX3_joins, Cond.instanceMethod yX3_joins, Cond.selects RX3 yX3_joins yX3_joins, Cond.code yX3_joins cX3_joins 5 none, Cond.methodLink RX3 127 yX3_settles, Cond.instanceMethod yX3_settles, Cond.selects RX3 yX3_settles yX3_settles, Cond.code yX3_settles cX3_settles 11 none, Cond.fieldLink RX3 62 "TitheMapModel" "share" "[J", Cond.fieldLink RX3 66 "TitheMapModel" "rest" "[J", Cond.constantLong RX3 104 (-1), Cond.constantLong RX3 106 (3), Cond.constantLong RX3 108 (100)]
def wsX3_settle : List Cond := .code yX3_settle cX3_settle 3 (some .int) :: ((wsX3_settle_r1 ++ (wsX3_settle_r2 ++ (wsX3_settle_r3 ++ wsX3_settle_r4))) ++ wsX30)
def wsX3_buy_r1 : List Cond := [Cond.fieldLink RX3 72 "TitheMapModel" "entries" "I", Cond.methodLink RX3 76 yX3_lies, Cond.static yX3_lies, Cond.initialized RX3, Cond.code yX3_lies cX3_lies 3 (some .boolean), Cond.methodLink RX3 114 yX3_isField, Cond.instanceMethod yX3_isField, Cond.selects RX3 yX3_isField yX3_isField, Cond.code yX3_isField cX3_isField 2 (some .boolean), Cond.fieldLink RX3 80 "TitheMapModel" "fields" "I", Cond.methodLink RX3 138 yX3_writes, Cond.instanceMethod yX3_writes, Cond.selects RX3 yX3_writes yX3_writes, Cond.code yX3_writes cX3_writes 7 none, Cond.fieldLink RX3 7 "TitheMapModel" "sort" "[I", Cond.fieldLink RX3 13 "TitheMapModel" "year" "[I", Cond.fieldLink RX3 16 "TitheMapModel" "one" "[I", Cond.fieldLink RX3 19 "TitheMapModel" "two" "[I", Cond.fieldLink RX3 22 "TitheMapModel" "more" "[I", Cond.fieldLink RX3 25 "TitheMapModel" "most" "[I", Cond.fieldLink RX3 28 "TitheMapModel" "made" "[I", Cond.methodLink RX3 153 yX3_taken, Cond.instanceMethod yX3_taken, Cond.selects RX3 yX3_taken yX3_taken]
def wsX3_buy_r2 : List Cond := [Cond.code yX3_taken cX3_taken 1 (some .int), Cond.methodLink RX3 145 yX3_takes, Cond.instanceMethod yX3_takes, Cond.selects RX3 yX3_takes yX3_takes, Cond.code yX3_takes cX3_takes 3 (some .boolean), Cond.methodLink RX3 142 yX3_works, Cond.instanceMethod yX3_works, Cond.selects RX3 yX3_works yX3_works, Cond.code yX3_works cX3_works 6 (some .boolean), Cond.fieldLink RX3 43 "TitheMapModel" "isThere" "[Z", Cond.fieldLink RX3 110 "TitheMapModel" "isSettled" "Z", Cond.methodLink RX3 131 yX3_fits, Cond.instanceMethod yX3_fits, Cond.selects RX3 yX3_fits yX3_fits, Cond.code yX3_fits cX3_fits 7 (some .boolean), Cond.fieldLink RX3 47 "TitheMapModel" "area" "[I", Cond.fieldLink RX3 50 "TitheMapModel" "kind" "[I", Cond.fieldLink RX3 53 "TitheMapModel" "owner" "[I", Cond.fieldLink RX3 59 "TitheMapModel" "isBought" "[Z", Cond.methodLink RX3 117 yX3_is, Cond.instanceMethod yX3_is, Cond.selects RX3 yX3_is yX3_is, Cond.code yX3_is cX3_is 2 (some .boolean), Cond.methodLink RX3 97 yX3_averageOf]
def wsX3_buy_r3 : List Cond := [Cond.instanceMethod yX3_averageOf, Cond.selects RX3 yX3_averageOf yX3_averageOf, Cond.code yX3_averageOf cX3_averageOf 8 (some .int), Cond.methodLink RX3 85 yX3_priceOf, Cond.instanceMethod yX3_priceOf, Cond.selects RX3 yX3_priceOf yX3_priceOf, Cond.code yX3_priceOf cX3_priceOf 6 (some .int), Cond.methodLink RX3 89 yX3_nearest, Cond.static yX3_nearest, Cond.code yX3_nearest cX3_nearest 4 (some .long), Cond.constantLong RX3 83 (2), Cond.methodLink RX3 135 yX3_does, Cond.instanceMethod yX3_does, Cond.selects RX3 yX3_does yX3_does, Cond.code yX3_does cX3_does 5 none, Cond.fieldLink RX3 56 "TitheMapModel" "charge" "[I", Cond.methodLink RX3 100 yX3_comes, Cond.instanceMethod yX3_comes, Cond.selects RX3 yX3_comes yX3_comes, Cond.code yX3_comes cX3_comes 7 none, Cond.methodLink RX3 120 yX3_parts, Cond.instanceMethod yX3_parts, Cond.selects RX3 yX3_parts yX3_parts, Cond.code yX3_parts cX3_parts 5 none]
def wsX3_buy_r4 : List Cond := [Cond.methodLink RX3 124 yX3_joins, Cond.instanceMethod yX3_joins, Cond.selects RX3 yX3_joins yX3_joins, Cond.code yX3_joins cX3_joins 5 none, Cond.methodLink RX3 127 yX3_settles, Cond.instanceMethod yX3_settles, Cond.selects RX3 yX3_settles yX3_settles, Cond.code yX3_settles cX3_settles 11 none, Cond.fieldLink RX3 62 "TitheMapModel" "share" "[J", Cond.fieldLink RX3 66 "TitheMapModel" "rest" "[J", Cond.constantLong RX3 104 (-1), Cond.constantLong RX3 106 (3), Cond.constantLong RX3 108 (100)]
def wsX3_buy : List Cond := .code yX3_buy cX3_buy 3 (some .int) :: ((wsX3_buy_r1 ++ (wsX3_buy_r2 ++ (wsX3_buy_r3 ++ wsX3_buy_r4))) ++ wsX30)
def wsX3_tells : List Cond := .code yX3_tells cX3_tells 3 (some .int) :: ([.fieldLink RX3 47 "TitheMapModel" "area" "[I", .fieldLink RX3 50 "TitheMapModel" "kind" "[I", .fieldLink RX3 53 "TitheMapModel" "owner" "[I", .fieldLink RX3 56 "TitheMapModel" "charge" "[I", .fieldLink RX3 59 "TitheMapModel" "isBought" "[Z", .methodLink RX3 117 yX3_is, .instanceMethod yX3_is, .selects RX3 yX3_is yX3_is, .initialized RX3, .code yX3_is cX3_is 2 (some .boolean), .fieldLink RX3 43 "TitheMapModel" "isThere" "[Z", .methodLink RX3 114 yX3_isField, .instanceMethod yX3_isField, .selects RX3 yX3_isField yX3_isField, .code yX3_isField cX3_isField 2 (some .boolean), .fieldLink RX3 80 "TitheMapModel" "fields" "I", .methodLink RX3 76 yX3_lies, .static yX3_lies, .code yX3_lies cX3_lies 3 (some .boolean)] ++ wsX30)
def wsX3_look_r1 : List Cond := [Cond.methodLink RX3 93 yX3_isKnowing, Cond.instanceMethod yX3_isKnowing, Cond.selects RX3 yX3_isKnowing yX3_isKnowing, Cond.initialized RX3, Cond.code yX3_isKnowing cX3_isKnowing 2 (some .boolean), Cond.fieldLink RX3 72 "TitheMapModel" "entries" "I", Cond.methodLink RX3 76 yX3_lies, Cond.static yX3_lies, Cond.code yX3_lies cX3_lies 3 (some .boolean), Cond.methodLink RX3 114 yX3_isField, Cond.instanceMethod yX3_isField, Cond.selects RX3 yX3_isField yX3_isField, Cond.code yX3_isField cX3_isField 2 (some .boolean), Cond.fieldLink RX3 80 "TitheMapModel" "fields" "I", Cond.methodLink RX3 142 yX3_works, Cond.instanceMethod yX3_works, Cond.selects RX3 yX3_works yX3_works, Cond.code yX3_works cX3_works 6 (some .boolean), Cond.fieldLink RX3 43 "TitheMapModel" "isThere" "[Z", Cond.fieldLink RX3 110 "TitheMapModel" "isSettled" "Z", Cond.fieldLink RX3 7 "TitheMapModel" "sort" "[I", Cond.fieldLink RX3 13 "TitheMapModel" "year" "[I", Cond.methodLink RX3 131 yX3_fits, Cond.instanceMethod yX3_fits]
def wsX3_look_r2 : List Cond := [Cond.selects RX3 yX3_fits yX3_fits, Cond.code yX3_fits cX3_fits 7 (some .boolean), Cond.fieldLink RX3 16 "TitheMapModel" "one" "[I", Cond.fieldLink RX3 19 "TitheMapModel" "two" "[I", Cond.fieldLink RX3 47 "TitheMapModel" "area" "[I", Cond.fieldLink RX3 22 "TitheMapModel" "more" "[I", Cond.fieldLink RX3 50 "TitheMapModel" "kind" "[I", Cond.fieldLink RX3 53 "TitheMapModel" "owner" "[I", Cond.fieldLink RX3 59 "TitheMapModel" "isBought" "[Z", Cond.methodLink RX3 117 yX3_is, Cond.instanceMethod yX3_is, Cond.selects RX3 yX3_is yX3_is, Cond.code yX3_is cX3_is 2 (some .boolean), Cond.methodLink RX3 97 yX3_averageOf, Cond.instanceMethod yX3_averageOf, Cond.selects RX3 yX3_averageOf yX3_averageOf, Cond.code yX3_averageOf cX3_averageOf 8 (some .int), Cond.methodLink RX3 85 yX3_priceOf, Cond.instanceMethod yX3_priceOf, Cond.selects RX3 yX3_priceOf yX3_priceOf, Cond.code yX3_priceOf cX3_priceOf 6 (some .int), Cond.methodLink RX3 89 yX3_nearest, Cond.static yX3_nearest, Cond.code yX3_nearest cX3_nearest 4 (some .long)]
def wsX3_look_r3 : List Cond := [Cond.constantLong RX3 83 (2), Cond.methodLink RX3 135 yX3_does, Cond.instanceMethod yX3_does, Cond.selects RX3 yX3_does yX3_does, Cond.code yX3_does cX3_does 5 none, Cond.fieldLink RX3 28 "TitheMapModel" "made" "[I", Cond.fieldLink RX3 25 "TitheMapModel" "most" "[I", Cond.fieldLink RX3 56 "TitheMapModel" "charge" "[I", Cond.methodLink RX3 100 yX3_comes, Cond.instanceMethod yX3_comes, Cond.selects RX3 yX3_comes yX3_comes, Cond.code yX3_comes cX3_comes 7 none, Cond.methodLink RX3 120 yX3_parts, Cond.instanceMethod yX3_parts, Cond.selects RX3 yX3_parts yX3_parts, Cond.code yX3_parts cX3_parts 5 none, Cond.methodLink RX3 124 yX3_joins, Cond.instanceMethod yX3_joins, Cond.selects RX3 yX3_joins yX3_joins, Cond.code yX3_joins cX3_joins 5 none, Cond.methodLink RX3 127 yX3_settles, Cond.instanceMethod yX3_settles, Cond.selects RX3 yX3_settles yX3_settles, Cond.code yX3_settles cX3_settles 11 none]
def wsX3_look_r4 : List Cond := [Cond.fieldLink RX3 62 "TitheMapModel" "share" "[J", Cond.fieldLink RX3 66 "TitheMapModel" "rest" "[J", Cond.constantLong RX3 104 (-1), Cond.constantLong RX3 106 (3), Cond.constantLong RX3 108 (100), Cond.methodLink RX3 158 yX3_tells, Cond.instanceMethod yX3_tells, Cond.selects RX3 yX3_tells yX3_tells, Cond.code yX3_tells cX3_tells 3 (some .int)]
def wsX3_look : List Cond := .code yX3_look cX3_look 6 (some .int) :: ((wsX3_look_r1 ++ (wsX3_look_r2 ++ (wsX3_look_r3 ++ wsX3_look_r4))) ++ wsX30)
def wsX3_moneyOf : List Cond := .code yX3_moneyOf cX3_moneyOf 8 (some .long) :: ([.constantLong RX3 104 (-1), .fieldLink RX3 56 "TitheMapModel" "charge" "[I", .constantLong RX3 108 (100), .methodLink RX3 97 yX3_averageOf, .instanceMethod yX3_averageOf, .selects RX3 yX3_averageOf yX3_averageOf, .initialized RX3, .code yX3_averageOf cX3_averageOf 8 (some .int), .methodLink RX3 85 yX3_priceOf, .instanceMethod yX3_priceOf, .selects RX3 yX3_priceOf yX3_priceOf, .code yX3_priceOf cX3_priceOf 6 (some .int), .fieldLink RX3 7 "TitheMapModel" "sort" "[I", .fieldLink RX3 13 "TitheMapModel" "year" "[I", .fieldLink RX3 16 "TitheMapModel" "one" "[I", .fieldLink RX3 22 "TitheMapModel" "more" "[I", .methodLink RX3 89 yX3_nearest, .static yX3_nearest, .code yX3_nearest cX3_nearest 4 (some .long), .constantLong RX3 83 (2)] ++ wsX30)
def wsX3_money_r1 : List Cond := [Cond.constantLong RX3 104 (-1), Cond.fieldLink RX3 43 "TitheMapModel" "isThere" "[Z", Cond.methodLink RX3 93 yX3_isKnowing, Cond.instanceMethod yX3_isKnowing, Cond.selects RX3 yX3_isKnowing yX3_isKnowing, Cond.initialized RX3, Cond.code yX3_isKnowing cX3_isKnowing 2 (some .boolean), Cond.fieldLink RX3 72 "TitheMapModel" "entries" "I", Cond.methodLink RX3 76 yX3_lies, Cond.static yX3_lies, Cond.code yX3_lies cX3_lies 3 (some .boolean), Cond.methodLink RX3 114 yX3_isField, Cond.instanceMethod yX3_isField, Cond.selects RX3 yX3_isField yX3_isField, Cond.code yX3_isField cX3_isField 2 (some .boolean), Cond.fieldLink RX3 80 "TitheMapModel" "fields" "I", Cond.methodLink RX3 142 yX3_works, Cond.instanceMethod yX3_works, Cond.selects RX3 yX3_works yX3_works, Cond.code yX3_works cX3_works 6 (some .boolean), Cond.fieldLink RX3 110 "TitheMapModel" "isSettled" "Z", Cond.fieldLink RX3 7 "TitheMapModel" "sort" "[I", Cond.fieldLink RX3 13 "TitheMapModel" "year" "[I", Cond.methodLink RX3 131 yX3_fits]
def wsX3_money_r2 : List Cond := [Cond.instanceMethod yX3_fits, Cond.selects RX3 yX3_fits yX3_fits, Cond.code yX3_fits cX3_fits 7 (some .boolean), Cond.fieldLink RX3 16 "TitheMapModel" "one" "[I", Cond.fieldLink RX3 19 "TitheMapModel" "two" "[I", Cond.fieldLink RX3 47 "TitheMapModel" "area" "[I", Cond.fieldLink RX3 22 "TitheMapModel" "more" "[I", Cond.fieldLink RX3 50 "TitheMapModel" "kind" "[I", Cond.fieldLink RX3 53 "TitheMapModel" "owner" "[I", Cond.fieldLink RX3 59 "TitheMapModel" "isBought" "[Z", Cond.methodLink RX3 117 yX3_is, Cond.instanceMethod yX3_is, Cond.selects RX3 yX3_is yX3_is, Cond.code yX3_is cX3_is 2 (some .boolean), Cond.methodLink RX3 97 yX3_averageOf, Cond.instanceMethod yX3_averageOf, Cond.selects RX3 yX3_averageOf yX3_averageOf, Cond.code yX3_averageOf cX3_averageOf 8 (some .int), Cond.methodLink RX3 85 yX3_priceOf, Cond.instanceMethod yX3_priceOf, Cond.selects RX3 yX3_priceOf yX3_priceOf, Cond.code yX3_priceOf cX3_priceOf 6 (some .int), Cond.methodLink RX3 89 yX3_nearest, Cond.static yX3_nearest]
def wsX3_money_r3 : List Cond := [Cond.code yX3_nearest cX3_nearest 4 (some .long), Cond.constantLong RX3 83 (2), Cond.methodLink RX3 135 yX3_does, Cond.instanceMethod yX3_does, Cond.selects RX3 yX3_does yX3_does, Cond.code yX3_does cX3_does 5 none, Cond.fieldLink RX3 28 "TitheMapModel" "made" "[I", Cond.fieldLink RX3 25 "TitheMapModel" "most" "[I", Cond.fieldLink RX3 56 "TitheMapModel" "charge" "[I", Cond.methodLink RX3 100 yX3_comes, Cond.instanceMethod yX3_comes, Cond.selects RX3 yX3_comes yX3_comes, Cond.code yX3_comes cX3_comes 7 none, Cond.methodLink RX3 120 yX3_parts, Cond.instanceMethod yX3_parts, Cond.selects RX3 yX3_parts yX3_parts, Cond.code yX3_parts cX3_parts 5 none, Cond.methodLink RX3 124 yX3_joins, Cond.instanceMethod yX3_joins, Cond.selects RX3 yX3_joins yX3_joins, Cond.code yX3_joins cX3_joins 5 none, Cond.methodLink RX3 127 yX3_settles, Cond.instanceMethod yX3_settles, Cond.selects RX3 yX3_settles yX3_settles]
def wsX3_money_r4 : List Cond := [Cond.code yX3_settles cX3_settles 11 none, Cond.fieldLink RX3 62 "TitheMapModel" "share" "[J", Cond.fieldLink RX3 66 "TitheMapModel" "rest" "[J", Cond.constantLong RX3 106 (3), Cond.constantLong RX3 108 (100), Cond.methodLink RX3 162 yX3_moneyOf, Cond.instanceMethod yX3_moneyOf, Cond.selects RX3 yX3_moneyOf yX3_moneyOf, Cond.code yX3_moneyOf cX3_moneyOf 8 (some .long)]
def wsX3_money : List Cond := .code yX3_money cX3_money 5 (some .long) :: ((wsX3_money_r1 ++ (wsX3_money_r2 ++ (wsX3_money_r3 ++ wsX3_money_r4))) ++ wsX30)
def wsX3_owed_r1 : List Cond := [Cond.constantLong RX3 104 (-1), Cond.fieldLink RX3 80 "TitheMapModel" "fields" "I", Cond.fieldLink RX3 43 "TitheMapModel" "isThere" "[Z", Cond.fieldLink RX3 53 "TitheMapModel" "owner" "[I", Cond.methodLink RX3 93 yX3_isKnowing, Cond.instanceMethod yX3_isKnowing, Cond.selects RX3 yX3_isKnowing yX3_isKnowing, Cond.initialized RX3, Cond.code yX3_isKnowing cX3_isKnowing 2 (some .boolean), Cond.fieldLink RX3 72 "TitheMapModel" "entries" "I", Cond.methodLink RX3 76 yX3_lies, Cond.static yX3_lies, Cond.code yX3_lies cX3_lies 3 (some .boolean), Cond.methodLink RX3 142 yX3_works, Cond.instanceMethod yX3_works, Cond.selects RX3 yX3_works yX3_works, Cond.code yX3_works cX3_works 6 (some .boolean), Cond.fieldLink RX3 110 "TitheMapModel" "isSettled" "Z", Cond.fieldLink RX3 7 "TitheMapModel" "sort" "[I", Cond.fieldLink RX3 13 "TitheMapModel" "year" "[I", Cond.methodLink RX3 131 yX3_fits, Cond.instanceMethod yX3_fits, Cond.selects RX3 yX3_fits yX3_fits, Cond.code yX3_fits cX3_fits 7 (some .boolean)]
def wsX3_owed_r2 : List Cond := [Cond.fieldLink RX3 16 "TitheMapModel" "one" "[I", Cond.fieldLink RX3 19 "TitheMapModel" "two" "[I", Cond.fieldLink RX3 47 "TitheMapModel" "area" "[I", Cond.fieldLink RX3 22 "TitheMapModel" "more" "[I", Cond.fieldLink RX3 50 "TitheMapModel" "kind" "[I", Cond.fieldLink RX3 59 "TitheMapModel" "isBought" "[Z", Cond.methodLink RX3 117 yX3_is, Cond.instanceMethod yX3_is, Cond.selects RX3 yX3_is yX3_is, Cond.code yX3_is cX3_is 2 (some .boolean), Cond.methodLink RX3 114 yX3_isField, Cond.instanceMethod yX3_isField, Cond.selects RX3 yX3_isField yX3_isField, Cond.code yX3_isField cX3_isField 2 (some .boolean), Cond.methodLink RX3 97 yX3_averageOf, Cond.instanceMethod yX3_averageOf, Cond.selects RX3 yX3_averageOf yX3_averageOf, Cond.code yX3_averageOf cX3_averageOf 8 (some .int), Cond.methodLink RX3 85 yX3_priceOf, Cond.instanceMethod yX3_priceOf, Cond.selects RX3 yX3_priceOf yX3_priceOf, Cond.code yX3_priceOf cX3_priceOf 6 (some .int), Cond.methodLink RX3 89 yX3_nearest, Cond.static yX3_nearest]
def wsX3_owed_r3 : List Cond := [Cond.code yX3_nearest cX3_nearest 4 (some .long), Cond.constantLong RX3 83 (2), Cond.methodLink RX3 135 yX3_does, Cond.instanceMethod yX3_does, Cond.selects RX3 yX3_does yX3_does, Cond.code yX3_does cX3_does 5 none, Cond.fieldLink RX3 28 "TitheMapModel" "made" "[I", Cond.fieldLink RX3 25 "TitheMapModel" "most" "[I", Cond.fieldLink RX3 56 "TitheMapModel" "charge" "[I", Cond.methodLink RX3 100 yX3_comes, Cond.instanceMethod yX3_comes, Cond.selects RX3 yX3_comes yX3_comes, Cond.code yX3_comes cX3_comes 7 none, Cond.methodLink RX3 120 yX3_parts, Cond.instanceMethod yX3_parts, Cond.selects RX3 yX3_parts yX3_parts, Cond.code yX3_parts cX3_parts 5 none, Cond.methodLink RX3 124 yX3_joins, Cond.instanceMethod yX3_joins, Cond.selects RX3 yX3_joins yX3_joins, Cond.code yX3_joins cX3_joins 5 none, Cond.methodLink RX3 127 yX3_settles, Cond.instanceMethod yX3_settles, Cond.selects RX3 yX3_settles yX3_settles]
def wsX3_owed_r4 : List Cond := [Cond.code yX3_settles cX3_settles 11 none, Cond.fieldLink RX3 62 "TitheMapModel" "share" "[J", Cond.fieldLink RX3 66 "TitheMapModel" "rest" "[J", Cond.constantLong RX3 106 (3), Cond.constantLong RX3 108 (100), Cond.methodLink RX3 162 yX3_moneyOf, Cond.instanceMethod yX3_moneyOf, Cond.selects RX3 yX3_moneyOf yX3_moneyOf, Cond.code yX3_moneyOf cX3_moneyOf 8 (some .long)]
def wsX3_owed : List Cond := .code yX3_owed cX3_owed 10 (some .long) :: ((wsX3_owed_r1 ++ (wsX3_owed_r2 ++ (wsX3_owed_r3 ++ wsX3_owed_r4))) ++ wsX30)
def wsX3_parish_r1 : List Cond := [Cond.constantLong RX3 104 (-1), Cond.fieldLink RX3 80 "TitheMapModel" "fields" "I", Cond.fieldLink RX3 43 "TitheMapModel" "isThere" "[Z", Cond.fieldLink RX3 47 "TitheMapModel" "area" "[I", Cond.fieldLink RX3 56 "TitheMapModel" "charge" "[I", Cond.fieldLink RX3 59 "TitheMapModel" "isBought" "[Z", Cond.fieldLink RX3 110 "TitheMapModel" "isSettled" "Z", Cond.methodLink RX3 93 yX3_isKnowing, Cond.instanceMethod yX3_isKnowing, Cond.selects RX3 yX3_isKnowing yX3_isKnowing, Cond.initialized RX3, Cond.code yX3_isKnowing cX3_isKnowing 2 (some .boolean), Cond.fieldLink RX3 72 "TitheMapModel" "entries" "I", Cond.methodLink RX3 76 yX3_lies, Cond.static yX3_lies, Cond.code yX3_lies cX3_lies 3 (some .boolean), Cond.methodLink RX3 142 yX3_works, Cond.instanceMethod yX3_works, Cond.selects RX3 yX3_works yX3_works, Cond.code yX3_works cX3_works 6 (some .boolean), Cond.fieldLink RX3 7 "TitheMapModel" "sort" "[I", Cond.fieldLink RX3 13 "TitheMapModel" "year" "[I", Cond.methodLink RX3 131 yX3_fits, Cond.instanceMethod yX3_fits]
def wsX3_parish_r2 : List Cond := [Cond.selects RX3 yX3_fits yX3_fits, Cond.code yX3_fits cX3_fits 7 (some .boolean), Cond.fieldLink RX3 16 "TitheMapModel" "one" "[I", Cond.fieldLink RX3 19 "TitheMapModel" "two" "[I", Cond.fieldLink RX3 22 "TitheMapModel" "more" "[I", Cond.fieldLink RX3 50 "TitheMapModel" "kind" "[I", Cond.fieldLink RX3 53 "TitheMapModel" "owner" "[I", Cond.methodLink RX3 117 yX3_is, Cond.instanceMethod yX3_is, Cond.selects RX3 yX3_is yX3_is, Cond.code yX3_is cX3_is 2 (some .boolean), Cond.methodLink RX3 114 yX3_isField, Cond.instanceMethod yX3_isField, Cond.selects RX3 yX3_isField yX3_isField, Cond.code yX3_isField cX3_isField 2 (some .boolean), Cond.methodLink RX3 97 yX3_averageOf, Cond.instanceMethod yX3_averageOf, Cond.selects RX3 yX3_averageOf yX3_averageOf, Cond.code yX3_averageOf cX3_averageOf 8 (some .int), Cond.methodLink RX3 85 yX3_priceOf, Cond.instanceMethod yX3_priceOf, Cond.selects RX3 yX3_priceOf yX3_priceOf, Cond.code yX3_priceOf cX3_priceOf 6 (some .int), Cond.methodLink RX3 89 yX3_nearest]
def wsX3_parish_r3 : List Cond := [Cond.static yX3_nearest, Cond.code yX3_nearest cX3_nearest 4 (some .long), Cond.constantLong RX3 83 (2), Cond.methodLink RX3 135 yX3_does, Cond.instanceMethod yX3_does, Cond.selects RX3 yX3_does yX3_does, Cond.code yX3_does cX3_does 5 none, Cond.fieldLink RX3 28 "TitheMapModel" "made" "[I", Cond.fieldLink RX3 25 "TitheMapModel" "most" "[I", Cond.methodLink RX3 100 yX3_comes, Cond.instanceMethod yX3_comes, Cond.selects RX3 yX3_comes yX3_comes, Cond.code yX3_comes cX3_comes 7 none, Cond.methodLink RX3 120 yX3_parts, Cond.instanceMethod yX3_parts, Cond.selects RX3 yX3_parts yX3_parts, Cond.code yX3_parts cX3_parts 5 none, Cond.methodLink RX3 124 yX3_joins, Cond.instanceMethod yX3_joins, Cond.selects RX3 yX3_joins yX3_joins, Cond.code yX3_joins cX3_joins 5 none, Cond.methodLink RX3 127 yX3_settles, Cond.instanceMethod yX3_settles, Cond.selects RX3 yX3_settles yX3_settles]
def wsX3_parish_r4 : List Cond := [Cond.code yX3_settles cX3_settles 11 none, Cond.fieldLink RX3 62 "TitheMapModel" "share" "[J", Cond.fieldLink RX3 66 "TitheMapModel" "rest" "[J", Cond.constantLong RX3 106 (3), Cond.constantLong RX3 108 (100)]
def wsX3_parish : List Cond := .code yX3_parish cX3_parish 8 (some .long) :: ((wsX3_parish_r1 ++ (wsX3_parish_r2 ++ (wsX3_parish_r3 ++ wsX3_parish_r4))) ++ wsX30)
def wsX3_cost_r1 : List Cond := [Cond.fieldLink RX3 7 "TitheMapModel" "sort" "[I", Cond.constantLong RX3 104 (-1), Cond.fieldLink RX3 13 "TitheMapModel" "year" "[I", Cond.fieldLink RX3 16 "TitheMapModel" "one" "[I", Cond.constantLong RX3 166 (25), Cond.methodLink RX3 93 yX3_isKnowing, Cond.instanceMethod yX3_isKnowing, Cond.selects RX3 yX3_isKnowing yX3_isKnowing, Cond.initialized RX3, Cond.code yX3_isKnowing cX3_isKnowing 2 (some .boolean), Cond.fieldLink RX3 72 "TitheMapModel" "entries" "I", Cond.methodLink RX3 76 yX3_lies, Cond.static yX3_lies, Cond.code yX3_lies cX3_lies 3 (some .boolean), Cond.methodLink RX3 142 yX3_works, Cond.instanceMethod yX3_works, Cond.selects RX3 yX3_works yX3_works, Cond.code yX3_works cX3_works 6 (some .boolean), Cond.fieldLink RX3 43 "TitheMapModel" "isThere" "[Z", Cond.fieldLink RX3 110 "TitheMapModel" "isSettled" "Z", Cond.methodLink RX3 131 yX3_fits, Cond.instanceMethod yX3_fits, Cond.selects RX3 yX3_fits yX3_fits, Cond.code yX3_fits cX3_fits 7 (some .boolean)]
def wsX3_cost_r2 : List Cond := [Cond.fieldLink RX3 19 "TitheMapModel" "two" "[I", Cond.fieldLink RX3 47 "TitheMapModel" "area" "[I", Cond.fieldLink RX3 22 "TitheMapModel" "more" "[I", Cond.fieldLink RX3 50 "TitheMapModel" "kind" "[I", Cond.fieldLink RX3 53 "TitheMapModel" "owner" "[I", Cond.fieldLink RX3 59 "TitheMapModel" "isBought" "[Z", Cond.methodLink RX3 117 yX3_is, Cond.instanceMethod yX3_is, Cond.selects RX3 yX3_is yX3_is, Cond.code yX3_is cX3_is 2 (some .boolean), Cond.methodLink RX3 114 yX3_isField, Cond.instanceMethod yX3_isField, Cond.selects RX3 yX3_isField yX3_isField, Cond.code yX3_isField cX3_isField 2 (some .boolean), Cond.fieldLink RX3 80 "TitheMapModel" "fields" "I", Cond.methodLink RX3 97 yX3_averageOf, Cond.instanceMethod yX3_averageOf, Cond.selects RX3 yX3_averageOf yX3_averageOf, Cond.code yX3_averageOf cX3_averageOf 8 (some .int), Cond.methodLink RX3 85 yX3_priceOf, Cond.instanceMethod yX3_priceOf, Cond.selects RX3 yX3_priceOf yX3_priceOf, Cond.code yX3_priceOf cX3_priceOf 6 (some .int), Cond.methodLink RX3 89 yX3_nearest]
def wsX3_cost_r3 : List Cond := [Cond.static yX3_nearest, Cond.code yX3_nearest cX3_nearest 4 (some .long), Cond.constantLong RX3 83 (2), Cond.methodLink RX3 135 yX3_does, Cond.instanceMethod yX3_does, Cond.selects RX3 yX3_does yX3_does, Cond.code yX3_does cX3_does 5 none, Cond.fieldLink RX3 28 "TitheMapModel" "made" "[I", Cond.fieldLink RX3 25 "TitheMapModel" "most" "[I", Cond.fieldLink RX3 56 "TitheMapModel" "charge" "[I", Cond.methodLink RX3 100 yX3_comes, Cond.instanceMethod yX3_comes, Cond.selects RX3 yX3_comes yX3_comes, Cond.code yX3_comes cX3_comes 7 none, Cond.methodLink RX3 120 yX3_parts, Cond.instanceMethod yX3_parts, Cond.selects RX3 yX3_parts yX3_parts, Cond.code yX3_parts cX3_parts 5 none, Cond.methodLink RX3 124 yX3_joins, Cond.instanceMethod yX3_joins, Cond.selects RX3 yX3_joins yX3_joins, Cond.code yX3_joins cX3_joins 5 none, Cond.methodLink RX3 127 yX3_settles, Cond.instanceMethod yX3_settles]
def wsX3_cost_r4 : List Cond := [Cond.selects RX3 yX3_settles yX3_settles, Cond.code yX3_settles cX3_settles 11 none, Cond.fieldLink RX3 62 "TitheMapModel" "share" "[J", Cond.fieldLink RX3 66 "TitheMapModel" "rest" "[J", Cond.constantLong RX3 106 (3), Cond.constantLong RX3 108 (100), Cond.methodLink RX3 162 yX3_moneyOf, Cond.instanceMethod yX3_moneyOf, Cond.selects RX3 yX3_moneyOf yX3_moneyOf, Cond.code yX3_moneyOf cX3_moneyOf 8 (some .long)]
def wsX3_cost : List Cond := .code yX3_cost cX3_cost 6 (some .long) :: ((wsX3_cost_r1 ++ (wsX3_cost_r2 ++ (wsX3_cost_r3 ++ wsX3_cost_r4))) ++ wsX30)
def wsX3_field : List Cond := .code yX3_field cX3_field 3 (some .int) :: ([.fieldLink RX3 13 "TitheMapModel" "year" "[I", .fieldLink RX3 31 "TitheMapModel" "madeBy" "[I", .fieldLink RX3 34 "TitheMapModel" "endedBy" "[I", .fieldLink RX3 37 "TitheMapModel" "firstOf" "[I", .fieldLink RX3 40 "TitheMapModel" "secondOf" "[I", .methodLink RX3 114 yX3_isField, .instanceMethod yX3_isField, .selects RX3 yX3_isField yX3_isField, .initialized RX3, .code yX3_isField cX3_isField 2 (some .boolean), .fieldLink RX3 80 "TitheMapModel" "fields" "I", .methodLink RX3 76 yX3_lies, .static yX3_lies, .code yX3_lies cX3_lies 3 (some .boolean)] ++ wsX30)
def wsX3_differ_r1 : List Cond := [Cond.fieldLink RX3 80 "TitheMapModel" "fields" "I", Cond.fieldLink RX3 69 "TitheMapModel" "was" "[I", Cond.fieldLink RX3 43 "TitheMapModel" "isThere" "[Z", Cond.methodLink RX3 93 yX3_isKnowing, Cond.instanceMethod yX3_isKnowing, Cond.selects RX3 yX3_isKnowing yX3_isKnowing, Cond.initialized RX3, Cond.code yX3_isKnowing cX3_isKnowing 2 (some .boolean), Cond.fieldLink RX3 72 "TitheMapModel" "entries" "I", Cond.methodLink RX3 76 yX3_lies, Cond.static yX3_lies, Cond.code yX3_lies cX3_lies 3 (some .boolean), Cond.methodLink RX3 142 yX3_works, Cond.instanceMethod yX3_works, Cond.selects RX3 yX3_works yX3_works, Cond.code yX3_works cX3_works 6 (some .boolean), Cond.fieldLink RX3 110 "TitheMapModel" "isSettled" "Z", Cond.fieldLink RX3 7 "TitheMapModel" "sort" "[I", Cond.fieldLink RX3 13 "TitheMapModel" "year" "[I", Cond.methodLink RX3 131 yX3_fits, Cond.instanceMethod yX3_fits, Cond.selects RX3 yX3_fits yX3_fits, Cond.code yX3_fits cX3_fits 7 (some .boolean), Cond.fieldLink RX3 16 "TitheMapModel" "one" "[I"]
def wsX3_differ_r2 : List Cond := [Cond.fieldLink RX3 19 "TitheMapModel" "two" "[I", Cond.fieldLink RX3 47 "TitheMapModel" "area" "[I", Cond.fieldLink RX3 22 "TitheMapModel" "more" "[I", Cond.fieldLink RX3 50 "TitheMapModel" "kind" "[I", Cond.fieldLink RX3 53 "TitheMapModel" "owner" "[I", Cond.fieldLink RX3 59 "TitheMapModel" "isBought" "[Z", Cond.methodLink RX3 117 yX3_is, Cond.instanceMethod yX3_is, Cond.selects RX3 yX3_is yX3_is, Cond.code yX3_is cX3_is 2 (some .boolean), Cond.methodLink RX3 114 yX3_isField, Cond.instanceMethod yX3_isField, Cond.selects RX3 yX3_isField yX3_isField, Cond.code yX3_isField cX3_isField 2 (some .boolean), Cond.methodLink RX3 97 yX3_averageOf, Cond.instanceMethod yX3_averageOf, Cond.selects RX3 yX3_averageOf yX3_averageOf, Cond.code yX3_averageOf cX3_averageOf 8 (some .int), Cond.methodLink RX3 85 yX3_priceOf, Cond.instanceMethod yX3_priceOf, Cond.selects RX3 yX3_priceOf yX3_priceOf, Cond.code yX3_priceOf cX3_priceOf 6 (some .int), Cond.methodLink RX3 89 yX3_nearest, Cond.static yX3_nearest]
def wsX3_differ_r3 : List Cond := [Cond.code yX3_nearest cX3_nearest 4 (some .long), Cond.constantLong RX3 83 (2), Cond.methodLink RX3 135 yX3_does, Cond.instanceMethod yX3_does, Cond.selects RX3 yX3_does yX3_does, Cond.code yX3_does cX3_does 5 none, Cond.fieldLink RX3 28 "TitheMapModel" "made" "[I", Cond.fieldLink RX3 25 "TitheMapModel" "most" "[I", Cond.fieldLink RX3 56 "TitheMapModel" "charge" "[I", Cond.methodLink RX3 100 yX3_comes, Cond.instanceMethod yX3_comes, Cond.selects RX3 yX3_comes yX3_comes, Cond.code yX3_comes cX3_comes 7 none, Cond.methodLink RX3 120 yX3_parts, Cond.instanceMethod yX3_parts, Cond.selects RX3 yX3_parts yX3_parts, Cond.code yX3_parts cX3_parts 5 none, Cond.methodLink RX3 124 yX3_joins, Cond.instanceMethod yX3_joins, Cond.selects RX3 yX3_joins yX3_joins, Cond.code yX3_joins cX3_joins 5 none, Cond.methodLink RX3 127 yX3_settles, Cond.instanceMethod yX3_settles, Cond.selects RX3 yX3_settles yX3_settles]
def wsX3_differ_r4 : List Cond := [Cond.code yX3_settles cX3_settles 11 none, Cond.fieldLink RX3 62 "TitheMapModel" "share" "[J", Cond.fieldLink RX3 66 "TitheMapModel" "rest" "[J", Cond.constantLong RX3 104 (-1), Cond.constantLong RX3 106 (3), Cond.constantLong RX3 108 (100), Cond.methodLink RX3 158 yX3_tells, Cond.instanceMethod yX3_tells, Cond.selects RX3 yX3_tells yX3_tells, Cond.code yX3_tells cX3_tells 3 (some .int)]
def wsX3_differ : List Cond := .code yX3_differ cX3_differ 10 (some .int) :: ((wsX3_differ_r1 ++ (wsX3_differ_r2 ++ (wsX3_differ_r3 ++ wsX3_differ_r4))) ++ wsX30)
def wsX3_entry : List Cond := .code yX3_entry cX3_entry 3 (some .int) :: ([.fieldLink RX3 72 "TitheMapModel" "entries" "I", .fieldLink RX3 7 "TitheMapModel" "sort" "[I", .fieldLink RX3 13 "TitheMapModel" "year" "[I", .fieldLink RX3 16 "TitheMapModel" "one" "[I", .fieldLink RX3 28 "TitheMapModel" "made" "[I", .methodLink RX3 76 yX3_lies, .static yX3_lies, .initialized RX3, .code yX3_lies cX3_lies 3 (some .boolean)] ++ wsX30)
def wsX3_count : List Cond := .code yX3_count cX3_count 2 (some .int) :: ([.fieldLink RX3 72 "TitheMapModel" "entries" "I", .fieldLink RX3 80 "TitheMapModel" "fields" "I"] ++ wsX30)
def wsJ9_min_7cf53 : List Cond := .code yJ9_min_7cf53 cJ9_min_7cf53 2 (some .int) :: ([])
def wsL_law_r1 : List Cond := [Cond.classLink RL 7 RX2, Cond.instantiable RX2 3, Cond.initialized RX2, Cond.classLink RL 10 RX3, Cond.instantiable RX3 23, Cond.initialized RX3, Cond.methodLink RL 9 yX2_init, Cond.instanceMethod yX2_init, Cond.code yX2_init cX2_init 1 none, Cond.methodLink RX2 1 objectInit, Cond.instanceMethod objectInit, Cond.code objectInit ⟨#[0xb1]⟩ 1 none, Cond.classLink RX2 7 RX0, Cond.instantiable RX0 14, Cond.initialized RX0, Cond.fieldLink RX2 10 "TitheMap" "book" "LTitheMap$Book;", Cond.classLink RX2 16 RX1, Cond.instantiable RX1 12, Cond.initialized RX1, Cond.fieldLink RX2 21 "TitheMap" "land" "LTitheMap$Land;", Cond.fieldLink RX2 25 "TitheMap" "otherLand" "LTitheMap$Land;", Cond.instanceMethod yX0_init, Cond.code yX0_init cX0_init 1 none, Cond.methodLink RX0 3 objectInit]
def wsL_law_r2 : List Cond := [Cond.arrayClass .int, Cond.fieldLink RX0 9 "TitheMap$Book" "act" "[I", Cond.fieldLink RX0 15 "TitheMap$Book" "year" "[I", Cond.fieldLink RX0 18 "TitheMap$Book" "first" "[I", Cond.fieldLink RX0 21 "TitheMap$Book" "second" "[I", Cond.fieldLink RX0 24 "TitheMap$Book" "amount" "[I", Cond.fieldLink RX0 27 "TitheMap$Book" "kind" "[I", Cond.fieldLink RX0 30 "TitheMap$Book" "owner" "[I", Cond.fieldLink RX0 33 "TitheMap$Book" "made" "[I", Cond.fieldLink RX0 36 "TitheMap$Book" "order" "[I", Cond.fieldLink RX0 39 "TitheMap$Book" "maker" "[I", Cond.fieldLink RX0 42 "TitheMap$Book" "ender" "[I", Cond.methodLink RX2 18 yX1_init, Cond.instanceMethod yX1_init, Cond.code yX1_init cX1_init 2 none, Cond.methodLink RX1 3 objectInit, Cond.arrayClass .boolean, Cond.fieldLink RX1 9 "TitheMap$Land" "there" "[Z", Cond.fieldLink RX1 15 "TitheMap$Land" "area" "[I", Cond.fieldLink RX1 19 "TitheMap$Land" "kind" "[I", Cond.fieldLink RX1 22 "TitheMap$Land" "owner" "[I", Cond.classLink RX1 25 "[[I", Cond.fieldLink RX1 27 "TitheMap$Land" "charge" "[[I", Cond.fieldLink RX1 30 "TitheMap$Land" "bought" "[Z"]
def wsL_law_r3 : List Cond := [Cond.arrayClass .long, Cond.fieldLink RX1 33 "TitheMap$Land" "weight" "[J", Cond.fieldLink RX1 37 "TitheMap$Land" "share" "[I", Cond.fieldLink RX1 40 "TitheMap$Land" "remainder" "[J", Cond.fieldLink RX1 43 "TitheMap$Land" "means" "[I", Cond.fieldLink RX1 46 "TitheMap$Land" "book" "LTitheMap$Book;", Cond.methodLink RL 12 yX3_init, Cond.instanceMethod yX3_init, Cond.code yX3_init cX3_init 1 none, Cond.methodLink RX3 1 objectInit, Cond.fieldLink RX3 7 "TitheMapModel" "sort" "[I", Cond.fieldLink RX3 13 "TitheMapModel" "year" "[I", Cond.fieldLink RX3 16 "TitheMapModel" "one" "[I", Cond.fieldLink RX3 19 "TitheMapModel" "two" "[I", Cond.fieldLink RX3 22 "TitheMapModel" "more" "[I", Cond.fieldLink RX3 25 "TitheMapModel" "most" "[I", Cond.fieldLink RX3 28 "TitheMapModel" "made" "[I", Cond.fieldLink RX3 31 "TitheMapModel" "madeBy" "[I", Cond.fieldLink RX3 34 "TitheMapModel" "endedBy" "[I", Cond.fieldLink RX3 37 "TitheMapModel" "firstOf" "[I", Cond.fieldLink RX3 40 "TitheMapModel" "secondOf" "[I", Cond.fieldLink RX3 43 "TitheMapModel" "isThere" "[Z", Cond.fieldLink RX3 47 "TitheMapModel" "area" "[I", Cond.fieldLink RX3 50 "TitheMapModel" "kind" "[I"]
def wsL_law_r4 : List Cond := [Cond.fieldLink RX3 53 "TitheMapModel" "owner" "[I", Cond.fieldLink RX3 56 "TitheMapModel" "charge" "[I", Cond.fieldLink RX3 59 "TitheMapModel" "isBought" "[Z", Cond.fieldLink RX3 62 "TitheMapModel" "share" "[J", Cond.fieldLink RX3 66 "TitheMapModel" "rest" "[J", Cond.fieldLink RX3 69 "TitheMapModel" "was" "[I", Cond.methodLink RL 13 yX2_price, Cond.instanceMethod yX2_price, Cond.selects RX2 yX2_price yX2_price, Cond.code yX2_price cX2_price 4 (some .int), Cond.fieldLink RX2 40 "TitheMap$Book" "first" "[I", Cond.fieldLink RX2 48 "TitheMap$Book" "amount" "[I", Cond.methodLink RX2 28 yX0_isFull, Cond.instanceMethod yX0_isFull, Cond.selects RX0 yX0_isFull yX0_isFull, Cond.code yX0_isFull cX0_isFull 1 (some .boolean), Cond.fieldLink RX0 45 "TitheMap$Book" "size" "I", Cond.methodLink RX2 32 yX2_isWithin, Cond.static yX2_isWithin, Cond.code yX2_isWithin cX2_isWithin 3 (some .boolean), Cond.methodLink RX2 36 yX0_draft, Cond.instanceMethod yX0_draft, Cond.selects RX0 yX0_draft yX0_draft, Cond.code yX0_draft cX0_draft 3 none]
def wsL_law_r5 : List Cond := [Cond.methodLink RX0 49 yX0_put, Cond.instanceMethod yX0_put, Cond.selects RX0 yX0_put yX0_put, Cond.code yX0_put cX0_put 3 none, Cond.methodLink RX2 44 yX0_put, Cond.methodLink RX2 51 yX0_keep, Cond.instanceMethod yX0_keep, Cond.selects RX0 yX0_keep yX0_keep, Cond.code yX0_keep cX0_keep 4 (some .int), Cond.fieldLink RX0 60 "TitheMap$Book" "fields" "I", Cond.static yX2_at, Cond.code yX2_at cX2_at 2 (some .int), Cond.methodLink RX0 63 yX0_end, Cond.instanceMethod yX0_end, Cond.selects RX0 yX0_end yX0_end, Cond.code yX0_end cX0_end 3 none, Cond.methodLink RL 17 yX3_price, Cond.instanceMethod yX3_price, Cond.selects RX3 yX3_price yX3_price, Cond.code yX3_price cX3_price 4 (some .int), Cond.fieldLink RX3 72 "TitheMapModel" "entries" "I", Cond.methodLink RX3 76 yX3_lies, Cond.static yX3_lies, Cond.code yX3_lies cX3_lies 3 (some .boolean)]
def wsL_law_r6 : List Cond := [Cond.methodLink RX3 138 yX3_writes, Cond.instanceMethod yX3_writes, Cond.selects RX3 yX3_writes yX3_writes, Cond.code yX3_writes cX3_writes 7 none, Cond.methodLink RL 18 yX2_make, Cond.instanceMethod yX2_make, Cond.selects RX2 yX2_make yX2_make, Cond.code yX2_make cX2_make 5 (some .int), Cond.fieldLink RX2 63 "TitheMap$Book" "kind" "[I", Cond.fieldLink RX2 66 "TitheMap$Book" "owner" "[I", Cond.methodLink RX2 55 yX2_isActPossible, Cond.instanceMethod yX2_isActPossible, Cond.selects RX2 yX2_isActPossible yX2_isActPossible, Cond.code yX2_isActPossible cX2_isActPossible 3 (some .boolean), Cond.fieldLink RX2 143 "TitheMap$Book" "fields" "I", Cond.methodLink RX2 59 yX2_isOwner, Cond.static yX2_isOwner, Cond.code yX2_isOwner cX2_isOwner 1 (some .boolean), Cond.methodLink RX2 69 yX2_takeDraft, Cond.instanceMethod yX2_takeDraft, Cond.selects RX2 yX2_takeDraft yX2_takeDraft, Cond.code yX2_takeDraft cX2_takeDraft 2 (some .int), Cond.fieldLink RX2 146 "TitheMap$Book" "made" "[I", Cond.fieldLink RX2 139 "TitheMap$Book" "size" "I"]
def wsL_law_r7 : List Cond := [Cond.methodLink RX2 149 yX0_fileDraft, Cond.instanceMethod yX0_fileDraft, Cond.selects RX0 yX0_fileDraft yX0_fileDraft, Cond.code yX0_fileDraft cX0_fileDraft 3 none, Cond.fieldLink RX0 53 "TitheMap$Book" "acts" "I", Cond.methodLink RX2 89 yX1_show, Cond.instanceMethod yX1_show, Cond.selects RX1 yX1_show yX1_show, Cond.code yX1_show cX1_show 6 (some .boolean), Cond.fieldLink RX1 50 "TitheMap$Land" "settled" "Z", Cond.fieldLink RX1 54 "TitheMap$Book" "acts" "I", Cond.fieldLink RX1 60 "TitheMap$Book" "order" "[I", Cond.fieldLink RX1 67 "TitheMap$Book" "year" "[I", Cond.methodLink RX1 70 yX1_tryAct, Cond.instanceMethod yX1_tryAct, Cond.selects RX1 yX1_tryAct yX1_tryAct, Cond.code yX1_tryAct cX1_tryAct 6 (some .boolean), Cond.fieldLink RX1 74 "TitheMap$Book" "first" "[I", Cond.fieldLink RX1 77 "TitheMap$Book" "made" "[I", Cond.fieldLink RX1 80 "TitheMap$Book" "amount" "[I", Cond.fieldLink RX1 83 "TitheMap$Book" "act" "[I", Cond.fieldLink RX1 86 "TitheMap$Book" "kind" "[I", Cond.fieldLink RX1 87 "TitheMap$Book" "owner" "[I", Cond.fieldLink RX1 95 "TitheMap$Book" "second" "[I"]
def wsL_law_r8 : List Cond := [Cond.methodLink RX1 88 yX1_tryMake, Cond.instanceMethod yX1_tryMake, Cond.selects RX1 yX1_tryMake yX1_tryMake, Cond.code yX1_tryMake cX1_tryMake 5 (some .boolean), Cond.methodLink RX1 112 yX1_isNumber, Cond.static yX1_isNumber, Cond.code yX1_isNumber cX1_isNumber 1 (some .boolean), Cond.methodLink RX1 115 yX1_clearCharge, Cond.instanceMethod yX1_clearCharge, Cond.selects RX1 yX1_clearCharge yX1_clearCharge, Cond.code yX1_clearCharge cX1_clearCharge 3 none, Cond.methodLink RX1 92 yX1_tryPart, Cond.instanceMethod yX1_tryPart, Cond.selects RX1 yX1_tryPart yX1_tryPart, Cond.code yX1_tryPart cX1_tryPart 8 (some .boolean), Cond.methodLink RX1 119 yX1_isThere, Cond.instanceMethod yX1_isThere, Cond.selects RX1 yX1_isThere yX1_isThere, Cond.code yX1_isThere cX1_isThere 2 (some .boolean), Cond.methodLink RX1 98 yX1_tryJoin, Cond.instanceMethod yX1_tryJoin, Cond.selects RX1 yX1_tryJoin yX1_tryJoin, Cond.code yX1_tryJoin cX1_tryJoin 5 (some .boolean), Cond.methodLink RX1 102 yX1_trySell]
def wsL_law_r9 : List Cond := [Cond.instanceMethod yX1_trySell, Cond.selects RX1 yX1_trySell yX1_trySell, Cond.code yX1_trySell cX1_trySell 3 (some .boolean), Cond.methodLink RX1 105 yX1_trySettle, Cond.instanceMethod yX1_trySettle, Cond.selects RX1 yX1_trySettle yX1_trySettle, Cond.code yX1_trySettle cX1_trySettle 7 (some .boolean), Cond.methodLink RX1 122 yX1_weighAll, Cond.instanceMethod yX1_weighAll, Cond.selects RX1 yX1_weighAll yX1_weighAll, Cond.code yX1_weighAll cX1_weighAll 4 (some .long), Cond.methodLink RX1 126 yX1_areMeansKnown, Cond.instanceMethod yX1_areMeansKnown, Cond.selects RX1 yX1_areMeansKnown yX1_areMeansKnown, Cond.code yX1_areMeansKnown cX1_areMeansKnown 4 (some .boolean), Cond.methodLink RX1 144 yX0_mean, Cond.instanceMethod yX0_mean, Cond.selects RX0 yX0_mean yX0_mean, Cond.code yX0_mean cX0_mean 9 (some .int), Cond.methodLink RX0 67 Lib.Math.min.name, Cond.static Lib.Math.min.name, Cond.initialized "java/lang/Math", Cond.code Lib.Math.min.name Lib.Math.min.code 2 (some .int), Cond.methodLink RX1 129 yX1_shareOut]
def wsL_law_r10 : List Cond := [Cond.instanceMethod yX1_shareOut, Cond.selects RX1 yX1_shareOut yX1_shareOut, Cond.code yX1_shareOut cX1_shareOut 8 none, Cond.methodLink RX1 136 yX1_greatestRemainder, Cond.instanceMethod yX1_greatestRemainder, Cond.selects RX1 yX1_greatestRemainder yX1_greatestRemainder, Cond.code yX1_greatestRemainder cX1_greatestRemainder 3 (some .int), Cond.methodLink RX1 133 yX1_chargeShare, Cond.instanceMethod yX1_chargeShare, Cond.selects RX1 yX1_chargeShare yX1_chargeShare, Cond.code yX1_chargeShare cX1_chargeShare 8 none, Cond.constantLong RX1 140 (200), Cond.constantLong RX1 142 (2), Cond.methodLink RX1 108 yX1_tryBuy, Cond.instanceMethod yX1_tryBuy, Cond.selects RX1 yX1_tryBuy yX1_tryBuy, Cond.code yX1_tryBuy cX1_tryBuy 2 (some .boolean), Cond.methodLink RX2 152 yX0_withdrawDraft, Cond.instanceMethod yX0_withdrawDraft, Cond.selects RX0 yX0_withdrawDraft yX0_withdrawDraft, Cond.code yX0_withdrawDraft cX0_withdrawDraft 3 none, Cond.methodLink RX2 72 yX2_firstMadeBy, Cond.instanceMethod yX2_firstMadeBy, Cond.selects RX2 yX2_firstMadeBy yX2_firstMadeBy]
def wsL_law_r11 : List Cond := [Cond.code yX2_firstMadeBy cX2_firstMadeBy 2 (some .int), Cond.methodLink RX2 120 yX2_at, Cond.methodLink RL 22 yX3_make, Cond.instanceMethod yX3_make, Cond.selects RX3 yX3_make yX3_make, Cond.code yX3_make cX3_make 5 (some .int), Cond.fieldLink RX3 80 "TitheMapModel" "fields" "I", Cond.methodLink RX3 145 yX3_takes, Cond.instanceMethod yX3_takes, Cond.selects RX3 yX3_takes yX3_takes, Cond.code yX3_takes cX3_takes 3 (some .boolean), Cond.methodLink RX3 142 yX3_works, Cond.instanceMethod yX3_works, Cond.selects RX3 yX3_works yX3_works, Cond.code yX3_works cX3_works 6 (some .boolean), Cond.fieldLink RX3 110 "TitheMapModel" "isSettled" "Z", Cond.methodLink RX3 131 yX3_fits, Cond.instanceMethod yX3_fits, Cond.selects RX3 yX3_fits yX3_fits, Cond.code yX3_fits cX3_fits 7 (some .boolean), Cond.methodLink RX3 117 yX3_is, Cond.instanceMethod yX3_is, Cond.selects RX3 yX3_is yX3_is, Cond.code yX3_is cX3_is 2 (some .boolean)]
def wsL_law_r12 : List Cond := [Cond.methodLink RX3 114 yX3_isField, Cond.instanceMethod yX3_isField, Cond.selects RX3 yX3_isField yX3_isField, Cond.code yX3_isField cX3_isField 2 (some .boolean), Cond.methodLink RX3 97 yX3_averageOf, Cond.instanceMethod yX3_averageOf, Cond.selects RX3 yX3_averageOf yX3_averageOf, Cond.code yX3_averageOf cX3_averageOf 8 (some .int), Cond.methodLink RX3 85 yX3_priceOf, Cond.instanceMethod yX3_priceOf, Cond.selects RX3 yX3_priceOf yX3_priceOf, Cond.code yX3_priceOf cX3_priceOf 6 (some .int), Cond.methodLink RX3 89 yX3_nearest, Cond.static yX3_nearest, Cond.code yX3_nearest cX3_nearest 4 (some .long), Cond.constantLong RX3 83 (2), Cond.methodLink RX3 135 yX3_does, Cond.instanceMethod yX3_does, Cond.selects RX3 yX3_does yX3_does, Cond.code yX3_does cX3_does 5 none, Cond.methodLink RX3 100 yX3_comes, Cond.instanceMethod yX3_comes, Cond.selects RX3 yX3_comes yX3_comes, Cond.code yX3_comes cX3_comes 7 none]
def wsL_law_r13 : List Cond := [Cond.methodLink RX3 120 yX3_parts, Cond.instanceMethod yX3_parts, Cond.selects RX3 yX3_parts yX3_parts, Cond.code yX3_parts cX3_parts 5 none, Cond.methodLink RX3 124 yX3_joins, Cond.instanceMethod yX3_joins, Cond.selects RX3 yX3_joins yX3_joins, Cond.code yX3_joins cX3_joins 5 none, Cond.methodLink RX3 127 yX3_settles, Cond.instanceMethod yX3_settles, Cond.selects RX3 yX3_settles yX3_settles, Cond.code yX3_settles cX3_settles 11 none, Cond.constantLong RX3 104 (-1), Cond.constantLong RX3 106 (3), Cond.constantLong RX3 108 (100), Cond.methodLink RX3 148 yX3_isMade, Cond.instanceMethod yX3_isMade, Cond.selects RX3 yX3_isMade yX3_isMade, Cond.code yX3_isMade cX3_isMade 4 none, Cond.methodLink RL 23 yX2_part, Cond.instanceMethod yX2_part, Cond.selects RX2 yX2_part yX2_part, Cond.code yX2_part cX2_part 4 (some .int), Cond.methodLink RX2 75 yX2_isField]
def wsL_law_r14 : List Cond := [Cond.instanceMethod yX2_isField, Cond.selects RX2 yX2_isField yX2_isField, Cond.code yX2_isField cX2_isField 2 (some .boolean), Cond.methodLink RL 26 yX3_part, Cond.instanceMethod yX3_part, Cond.selects RX3 yX3_part yX3_part, Cond.code yX3_part cX3_part 4 (some .int), Cond.constant RX3 152 (10000000), Cond.methodLink RL 27 yX2_join, Cond.instanceMethod yX2_join, Cond.selects RX2 yX2_join yX2_join, Cond.code yX2_join cX2_join 4 (some .int), Cond.fieldLink RX2 78 "TitheMap$Book" "second" "[I", Cond.methodLink RL 30 yX3_join, Cond.instanceMethod yX3_join, Cond.selects RX3 yX3_join yX3_join, Cond.code yX3_join cX3_join 4 (some .int), Cond.methodLink RL 31 yX2_sell, Cond.instanceMethod yX2_sell, Cond.selects RX2 yX2_sell yX2_sell, Cond.code yX2_sell cX2_sell 4 (some .int), Cond.methodLink RL 34 yX3_sell, Cond.instanceMethod yX3_sell, Cond.selects RX3 yX3_sell yX3_sell]
def wsL_law_r15 : List Cond := [Cond.code yX3_sell cX3_sell 4 (some .int), Cond.methodLink RX3 153 yX3_taken, Cond.instanceMethod yX3_taken, Cond.selects RX3 yX3_taken yX3_taken, Cond.code yX3_taken cX3_taken 1 (some .int), Cond.methodLink RL 35 yX2_settle, Cond.instanceMethod yX2_settle, Cond.selects RX2 yX2_settle yX2_settle, Cond.code yX2_settle cX2_settle 3 (some .int), Cond.constant RX2 81 (1000000), Cond.methodLink RL 39 yX3_settle, Cond.instanceMethod yX3_settle, Cond.selects RX3 yX3_settle yX3_settle, Cond.code yX3_settle cX3_settle 3 (some .int), Cond.constant RX3 157 (1000000), Cond.methodLink RL 40 yX2_buy, Cond.instanceMethod yX2_buy, Cond.selects RX2 yX2_buy yX2_buy, Cond.code yX2_buy cX2_buy 3 (some .int), Cond.methodLink RL 43 yX3_buy, Cond.instanceMethod yX3_buy, Cond.selects RX3 yX3_buy yX3_buy, Cond.code yX3_buy cX3_buy 3 (some .int), Cond.methodLink RL 44 yX2_average]
def wsL_law_r16 : List Cond := [Cond.instanceMethod yX2_average, Cond.selects RX2 yX2_average yX2_average, Cond.code yX2_average cX2_average 4 (some .int), Cond.methodLink RX2 82 yX2_isKnowing, Cond.instanceMethod yX2_isKnowing, Cond.selects RX2 yX2_isKnowing yX2_isKnowing, Cond.code yX2_isKnowing cX2_isKnowing 2 (some .boolean), Cond.methodLink RX2 85 yX0_mean, Cond.methodLink RL 47 yX3_average, Cond.instanceMethod yX3_average, Cond.selects RX3 yX3_average yX3_average, Cond.code yX3_average cX3_average 4 (some .int), Cond.methodLink RX3 93 yX3_isKnowing, Cond.instanceMethod yX3_isKnowing, Cond.selects RX3 yX3_isKnowing yX3_isKnowing, Cond.code yX3_isKnowing cX3_isKnowing 2 (some .boolean), Cond.methodLink RL 48 yX2_look, Cond.instanceMethod yX2_look, Cond.selects RX2 yX2_look yX2_look, Cond.code yX2_look cX2_look 5 (some .int), Cond.methodLink RX2 92 yX1_tell, Cond.instanceMethod yX1_tell, Cond.selects RX1 yX1_tell yX1_tell, Cond.code yX1_tell cX1_tell 3 (some .int)]
def wsL_law_r17 : List Cond := [Cond.methodLink RL 51 yX3_look, Cond.instanceMethod yX3_look, Cond.selects RX3 yX3_look yX3_look, Cond.code yX3_look cX3_look 6 (some .int), Cond.methodLink RX3 158 yX3_tells, Cond.instanceMethod yX3_tells, Cond.selects RX3 yX3_tells yX3_tells, Cond.code yX3_tells cX3_tells 3 (some .int), Cond.methodLink RL 52 yX2_money, Cond.instanceMethod yX2_money, Cond.selects RX2 yX2_money yX2_money, Cond.code yX2_money cX2_money 4 (some .long), Cond.constantLong RX2 96 (-1), Cond.methodLink RX2 98 yX1_worth, Cond.instanceMethod yX1_worth, Cond.selects RX1 yX1_worth yX1_worth, Cond.code yX1_worth cX1_worth 4 (some .long), Cond.constantLong RX1 152 (-1), Cond.methodLink RX1 148 yX1_worthByMeans, Cond.instanceMethod yX1_worthByMeans, Cond.selects RX1 yX1_worthByMeans yX1_worthByMeans, Cond.code yX1_worthByMeans cX1_worthByMeans 5 (some .long), Cond.constantLong RX1 154 (50), Cond.constantLong RX1 156 (100)]
def wsL_law_r18 : List Cond := [Cond.methodLink RL 56 yX3_money, Cond.instanceMethod yX3_money, Cond.selects RX3 yX3_money yX3_money, Cond.code yX3_money cX3_money 5 (some .long), Cond.methodLink RX3 162 yX3_moneyOf, Cond.instanceMethod yX3_moneyOf, Cond.selects RX3 yX3_moneyOf yX3_moneyOf, Cond.code yX3_moneyOf cX3_moneyOf 8 (some .long), Cond.methodLink RL 57 yX2_owed, Cond.instanceMethod yX2_owed, Cond.selects RX2 yX2_owed yX2_owed, Cond.code yX2_owed cX2_owed 4 (some .long), Cond.methodLink RX2 102 yX1_worthOfAll, Cond.instanceMethod yX1_worthOfAll, Cond.selects RX1 yX1_worthOfAll yX1_worthOfAll, Cond.code yX1_worthOfAll cX1_worthOfAll 8 (some .long), Cond.methodLink RL 60 yX3_owed, Cond.instanceMethod yX3_owed, Cond.selects RX3 yX3_owed yX3_owed, Cond.code yX3_owed cX3_owed 10 (some .long), Cond.methodLink RL 61 yX2_parish, Cond.instanceMethod yX2_parish, Cond.selects RX2 yX2_parish yX2_parish, Cond.code yX2_parish cX2_parish 4 (some .long)]
def wsL_law_r19 : List Cond := [Cond.fieldLink RX2 113 "TitheMap$Land" "settled" "Z", Cond.methodLink RX2 105 yX1_howMany, Cond.instanceMethod yX1_howMany, Cond.selects RX1 yX1_howMany yX1_howMany, Cond.code yX1_howMany cX1_howMany 3 (some .int), Cond.methodLink RX2 109 yX1_sumOf, Cond.instanceMethod yX1_sumOf, Cond.selects RX1 yX1_sumOf yX1_sumOf, Cond.code yX1_sumOf cX1_sumOf 5 (some .long), Cond.methodLink RX1 158 yX1_tell, Cond.methodLink RL 64 yX3_parish, Cond.instanceMethod yX3_parish, Cond.selects RX3 yX3_parish yX3_parish, Cond.code yX3_parish cX3_parish 8 (some .long), Cond.methodLink RL 65 yX2_cost, Cond.instanceMethod yX2_cost, Cond.selects RX2 yX2_cost yX2_cost, Cond.code yX2_cost cX2_cost 6 (some .long), Cond.fieldLink RX2 117 "TitheMap$Book" "act" "[I", Cond.fieldLink RX2 124 "TitheMap$Book" "year" "[I", Cond.constantLong RX2 127 (25), Cond.methodLink RL 69 yX3_cost, Cond.instanceMethod yX3_cost, Cond.selects RX3 yX3_cost yX3_cost]
def wsL_law_r20 : List Cond := [Cond.code yX3_cost cX3_cost 6 (some .long), Cond.constantLong RX3 166 (25), Cond.methodLink RL 70 yX2_field, Cond.instanceMethod yX2_field, Cond.selects RX2 yX2_field yX2_field, Cond.code yX2_field cX2_field 5 (some .int), Cond.fieldLink RX2 129 "TitheMap$Book" "maker" "[I", Cond.fieldLink RX2 132 "TitheMap$Book" "ender" "[I", Cond.methodLink RL 73 yX3_field, Cond.instanceMethod yX3_field, Cond.selects RX3 yX3_field yX3_field, Cond.code yX3_field cX3_field 3 (some .int), Cond.methodLink RL 74 yX2_differ, Cond.instanceMethod yX2_differ, Cond.selects RX2 yX2_differ yX2_differ, Cond.code yX2_differ cX2_differ 7 (some .int), Cond.methodLink RX2 135 yX1_isOtherwise, Cond.instanceMethod yX1_isOtherwise, Cond.selects RX1 yX1_isOtherwise yX1_isOtherwise, Cond.code yX1_isOtherwise cX1_isOtherwise 4 (some .boolean), Cond.methodLink RL 77 yX3_differ, Cond.instanceMethod yX3_differ, Cond.selects RX3 yX3_differ yX3_differ, Cond.code yX3_differ cX3_differ 10 (some .int)]
def wsL_law_r21 : List Cond := [Cond.methodLink RL 78 yX2_entry, Cond.instanceMethod yX2_entry, Cond.selects RX2 yX2_entry yX2_entry, Cond.code yX2_entry cX2_entry 3 (some .int), Cond.methodLink RL 81 yX3_entry, Cond.instanceMethod yX3_entry, Cond.selects RX3 yX3_entry yX3_entry, Cond.code yX3_entry cX3_entry 3 (some .int), Cond.methodLink RL 82 yX2_count, Cond.instanceMethod yX2_count, Cond.selects RX2 yX2_count yX2_count, Cond.code yX2_count cX2_count 2 (some .int), Cond.methodLink RL 86 yX3_count, Cond.instanceMethod yX3_count, Cond.selects RX3 yX3_count yX3_count, Cond.code yX3_count cX3_count 2 (some .int)]
def wsL_law : List Cond := (wsL_law_r1 ++ (wsL_law_r2 ++ (wsL_law_r3 ++ (wsL_law_r4 ++ (wsL_law_r5 ++ (wsL_law_r6 ++ (wsL_law_r7 ++ (wsL_law_r8 ++ (wsL_law_r9 ++ (wsL_law_r10 ++ (wsL_law_r11 ++ (wsL_law_r12 ++ (wsL_law_r13 ++ (wsL_law_r14 ++ (wsL_law_r15 ++ (wsL_law_r16 ++ (wsL_law_r17 ++ (wsL_law_r18 ++ (wsL_law_r19 ++ (wsL_law_r20 ++ wsL_law_r21)))))))))))))))))))) ++ wsX20 ++ wsX30 ++ wsX00 ++ wsX10 ++ ([] : List Cond)
end
section
abbrev vwCl : List vw_C := [(RX0, TX0, 14), (RX1, TX1, 12), (RX2, TX2, 3), (RX3, TX3, 23)]
end
section
theorem dX0_init_0 : decode cX0_init 0 = .ok (.aload_n 0, 1) := by decide +kernel
theorem dX0_init_1 : decode cX0_init 1 = .ok (.invokespecial 3, 3) := by decide +kernel
theorem dX0_init_4 : decode cX0_init 4 = .ok (.aload_n 0, 1) := by decide +kernel
theorem dX0_init_5 : decode cX0_init 5 = .ok (.bipush 80, 2) := by decide +kernel
theorem dX0_init_7 : decode cX0_init 7 = .ok (.newarray .int, 2) := by decide +kernel
theorem dX0_init_9 : decode cX0_init 9 = .ok (.putfield 9, 3) := by decide +kernel
theorem dX0_init_12 : decode cX0_init 12 = .ok (.aload_n 0, 1) := by decide +kernel
theorem dX0_init_13 : decode cX0_init 13 = .ok (.bipush 80, 2) := by decide +kernel
theorem dX0_init_15 : decode cX0_init 15 = .ok (.newarray .int, 2) := by decide +kernel
theorem dX0_init_17 : decode cX0_init 17 = .ok (.putfield 15, 3) := by decide +kernel
theorem dX0_init_20 : decode cX0_init 20 = .ok (.aload_n 0, 1) := by decide +kernel
theorem dX0_init_21 : decode cX0_init 21 = .ok (.bipush 80, 2) := by decide +kernel
theorem dX0_init_23 : decode cX0_init 23 = .ok (.newarray .int, 2) := by decide +kernel
theorem dX0_init_25 : decode cX0_init 25 = .ok (.putfield 18, 3) := by decide +kernel
theorem dX0_init_28 : decode cX0_init 28 = .ok (.aload_n 0, 1) := by decide +kernel
theorem dX0_init_29 : decode cX0_init 29 = .ok (.bipush 80, 2) := by decide +kernel
theorem dX0_init_31 : decode cX0_init 31 = .ok (.newarray .int, 2) := by decide +kernel
theorem dX0_init_33 : decode cX0_init 33 = .ok (.putfield 21, 3) := by decide +kernel
theorem dX0_init_36 : decode cX0_init 36 = .ok (.aload_n 0, 1) := by decide +kernel
theorem dX0_init_37 : decode cX0_init 37 = .ok (.bipush 80, 2) := by decide +kernel
theorem dX0_init_39 : decode cX0_init 39 = .ok (.newarray .int, 2) := by decide +kernel
theorem dX0_init_41 : decode cX0_init 41 = .ok (.putfield 24, 3) := by decide +kernel
theorem dX0_init_44 : decode cX0_init 44 = .ok (.aload_n 0, 1) := by decide +kernel
theorem dX0_init_45 : decode cX0_init 45 = .ok (.bipush 80, 2) := by decide +kernel
theorem dX0_init_47 : decode cX0_init 47 = .ok (.newarray .int, 2) := by decide +kernel
theorem dX0_init_49 : decode cX0_init 49 = .ok (.putfield 27, 3) := by decide +kernel
theorem dX0_init_52 : decode cX0_init 52 = .ok (.aload_n 0, 1) := by decide +kernel
theorem dX0_init_53 : decode cX0_init 53 = .ok (.bipush 80, 2) := by decide +kernel
theorem dX0_init_55 : decode cX0_init 55 = .ok (.newarray .int, 2) := by decide +kernel
theorem dX0_init_57 : decode cX0_init 57 = .ok (.putfield 30, 3) := by decide +kernel
theorem dX0_init_60 : decode cX0_init 60 = .ok (.aload_n 0, 1) := by decide +kernel
theorem dX0_init_61 : decode cX0_init 61 = .ok (.bipush 80, 2) := by decide +kernel
theorem dX0_init_63 : decode cX0_init 63 = .ok (.newarray .int, 2) := by decide +kernel
theorem dX0_init_65 : decode cX0_init 65 = .ok (.putfield 33, 3) := by decide +kernel
theorem dX0_init_68 : decode cX0_init 68 = .ok (.aload_n 0, 1) := by decide +kernel
theorem dX0_init_69 : decode cX0_init 69 = .ok (.bipush 80, 2) := by decide +kernel
theorem dX0_init_71 : decode cX0_init 71 = .ok (.newarray .int, 2) := by decide +kernel
theorem dX0_init_73 : decode cX0_init 73 = .ok (.putfield 36, 3) := by decide +kernel
theorem dX0_init_76 : decode cX0_init 76 = .ok (.aload_n 0, 1) := by decide +kernel
theorem dX0_init_77 : decode cX0_init 77 = .ok (.bipush 60, 2) := by decide +kernel
theorem dX0_init_79 : decode cX0_init 79 = .ok (.newarray .int, 2) := by decide +kernel
theorem dX0_init_81 : decode cX0_init 81 = .ok (.putfield 39, 3) := by decide +kernel
theorem dX0_init_84 : decode cX0_init 84 = .ok (.aload_n 0, 1) := by decide +kernel
theorem dX0_init_85 : decode cX0_init 85 = .ok (.bipush 60, 2) := by decide +kernel
theorem dX0_init_87 : decode cX0_init 87 = .ok (.newarray .int, 2) := by decide +kernel
theorem dX0_init_89 : decode cX0_init 89 = .ok (.putfield 42, 3) := by decide +kernel
theorem dX0_init_92 : decode cX0_init 92 = .ok (.return_, 1) := by decide +kernel
theorem dX0_isFull_0 : decode cX0_isFull 0 = .ok (.aload_n 0, 1) := by decide +kernel
theorem dX0_isFull_1 : decode cX0_isFull 1 = .ok (.getfield 45, 3) := by decide +kernel
theorem dX0_isFull_4 : decode cX0_isFull 4 = .ok (.bipush 80, 2) := by decide +kernel
theorem dX0_isFull_6 : decode cX0_isFull 6 = .ok (.if_icmp .lt 7, 3) := by decide +kernel
theorem dX0_isFull_9 : decode cX0_isFull 9 = .ok (.iconst 1, 1) := by decide +kernel
theorem dX0_isFull_10 : decode cX0_isFull 10 = .ok (.goto 4, 3) := by decide +kernel
theorem dX0_isFull_13 : decode cX0_isFull 13 = .ok (.iconst 0, 1) := by decide +kernel
theorem dX0_isFull_14 : decode cX0_isFull 14 = .ok (.ireturn, 1) := by decide +kernel
theorem dX0_put_0 : decode cX0_put 0 = .ok (.aload_n 0, 1) := by decide +kernel
theorem dX0_put_1 : decode cX0_put 1 = .ok (.getfield 45, 3) := by decide +kernel
theorem dX0_put_4 : decode cX0_put 4 = .ok (.ifCond .lt 19, 3) := by decide +kernel
theorem dX0_put_7 : decode cX0_put 7 = .ok (.aload_n 0, 1) := by decide +kernel
theorem dX0_put_8 : decode cX0_put 8 = .ok (.getfield 45, 3) := by decide +kernel
theorem dX0_put_11 : decode cX0_put 11 = .ok (.aload_n 1, 1) := by decide +kernel
theorem dX0_put_12 : decode cX0_put 12 = .ok (.arraylength, 1) := by decide +kernel
theorem dX0_put_13 : decode cX0_put 13 = .ok (.if_icmp .ge 10, 3) := by decide +kernel
theorem dX0_put_16 : decode cX0_put 16 = .ok (.aload_n 1, 1) := by decide +kernel
theorem dX0_put_17 : decode cX0_put 17 = .ok (.aload_n 0, 1) := by decide +kernel
theorem dX0_put_18 : decode cX0_put 18 = .ok (.getfield 45, 3) := by decide +kernel
theorem dX0_put_21 : decode cX0_put 21 = .ok (.iload_n 2, 1) := by decide +kernel
theorem dX0_put_22 : decode cX0_put 22 = .ok (.iastore, 1) := by decide +kernel
theorem dX0_put_23 : decode cX0_put 23 = .ok (.return_, 1) := by decide +kernel
set_option maxRecDepth 20000 in
theorem ggX0_draft_X0_put : GoodIn wsX0_draft wsX0_put := goodIn_r _ [13, 14, 15, 16, 17, 18, 19, 20, 21, 22, 23, 24, 25, 26, 27, 28] (by decide +kernel) (by decide +kernel)
set_option maxRecDepth 20000 in
theorem gX0_draft_X0_put : GoodIn wsX0_draft (wsV RX0 49 RX0 yX0_put wsX0_put) := goodIn_app (goodIn_of _ (by decide +kernel)) ggX0_draft_X0_put
theorem dX0_draft_0 : decode cX0_draft 0 = .ok (.aload_n 0, 1) := by decide +kernel
theorem dX0_draft_1 : decode cX0_draft 1 = .ok (.aload_n 0, 1) := by decide +kernel
theorem dX0_draft_2 : decode cX0_draft 2 = .ok (.getfield 9, 3) := by decide +kernel
theorem dX0_draft_5 : decode cX0_draft 5 = .ok (.iload_n 1, 1) := by decide +kernel
theorem dX0_draft_6 : decode cX0_draft 6 = .ok (.invokevirtual 49, 3) := by decide +kernel
theorem dX0_draft_9 : decode cX0_draft 9 = .ok (.aload_n 0, 1) := by decide +kernel
theorem dX0_draft_10 : decode cX0_draft 10 = .ok (.aload_n 0, 1) := by decide +kernel
theorem dX0_draft_11 : decode cX0_draft 11 = .ok (.getfield 15, 3) := by decide +kernel
theorem dX0_draft_14 : decode cX0_draft 14 = .ok (.iload_n 2, 1) := by decide +kernel
theorem dX0_draft_15 : decode cX0_draft 15 = .ok (.invokevirtual 49, 3) := by decide +kernel
theorem dX0_draft_18 : decode cX0_draft 18 = .ok (.aload_n 0, 1) := by decide +kernel
theorem dX0_draft_19 : decode cX0_draft 19 = .ok (.aload_n 0, 1) := by decide +kernel
theorem dX0_draft_20 : decode cX0_draft 20 = .ok (.getfield 18, 3) := by decide +kernel
theorem dX0_draft_23 : decode cX0_draft 23 = .ok (.iconst (-1), 1) := by decide +kernel
theorem dX0_draft_24 : decode cX0_draft 24 = .ok (.invokevirtual 49, 3) := by decide +kernel
theorem dX0_draft_27 : decode cX0_draft 27 = .ok (.aload_n 0, 1) := by decide +kernel
theorem dX0_draft_28 : decode cX0_draft 28 = .ok (.aload_n 0, 1) := by decide +kernel
theorem dX0_draft_29 : decode cX0_draft 29 = .ok (.getfield 21, 3) := by decide +kernel
theorem dX0_draft_32 : decode cX0_draft 32 = .ok (.iconst (-1), 1) := by decide +kernel
theorem dX0_draft_33 : decode cX0_draft 33 = .ok (.invokevirtual 49, 3) := by decide +kernel
theorem dX0_draft_36 : decode cX0_draft 36 = .ok (.aload_n 0, 1) := by decide +kernel
theorem dX0_draft_37 : decode cX0_draft 37 = .ok (.aload_n 0, 1) := by decide +kernel
theorem dX0_draft_38 : decode cX0_draft 38 = .ok (.getfield 24, 3) := by decide +kernel
theorem dX0_draft_41 : decode cX0_draft 41 = .ok (.iconst (-1), 1) := by decide +kernel
theorem dX0_draft_42 : decode cX0_draft 42 = .ok (.invokevirtual 49, 3) := by decide +kernel
theorem dX0_draft_45 : decode cX0_draft 45 = .ok (.aload_n 0, 1) := by decide +kernel
theorem dX0_draft_46 : decode cX0_draft 46 = .ok (.aload_n 0, 1) := by decide +kernel
theorem dX0_draft_47 : decode cX0_draft 47 = .ok (.getfield 27, 3) := by decide +kernel
theorem dX0_draft_50 : decode cX0_draft 50 = .ok (.iconst (-1), 1) := by decide +kernel
theorem dX0_draft_51 : decode cX0_draft 51 = .ok (.invokevirtual 49, 3) := by decide +kernel
theorem dX0_draft_54 : decode cX0_draft 54 = .ok (.aload_n 0, 1) := by decide +kernel
theorem dX0_draft_55 : decode cX0_draft 55 = .ok (.aload_n 0, 1) := by decide +kernel
theorem dX0_draft_56 : decode cX0_draft 56 = .ok (.getfield 30, 3) := by decide +kernel
theorem dX0_draft_59 : decode cX0_draft 59 = .ok (.iconst (-1), 1) := by decide +kernel
theorem dX0_draft_60 : decode cX0_draft 60 = .ok (.invokevirtual 49, 3) := by decide +kernel
theorem dX0_draft_63 : decode cX0_draft 63 = .ok (.aload_n 0, 1) := by decide +kernel
theorem dX0_draft_64 : decode cX0_draft 64 = .ok (.aload_n 0, 1) := by decide +kernel
theorem dX0_draft_65 : decode cX0_draft 65 = .ok (.getfield 33, 3) := by decide +kernel
theorem dX0_draft_68 : decode cX0_draft 68 = .ok (.iconst (-1), 1) := by decide +kernel
theorem dX0_draft_69 : decode cX0_draft 69 = .ok (.invokevirtual 49, 3) := by decide +kernel
theorem dX0_draft_72 : decode cX0_draft 72 = .ok (.return_, 1) := by decide +kernel
set_option maxRecDepth 20000 in
theorem ggX0_fileDraft_X2_at : GoodIn wsX0_fileDraft wsX2_at := goodIn_r _ [7] (by decide +kernel) (by decide +kernel)
set_option maxRecDepth 20000 in
theorem gX0_fileDraft_X2_at_n56 : GoodIn wsX0_fileDraft (wsX2_at) := ggX0_fileDraft_X2_at
theorem dX0_fileDraft_0 : decode cX0_fileDraft 0 = .ok (.aload_n 0, 1) := by decide +kernel
theorem dX0_fileDraft_1 : decode cX0_fileDraft 1 = .ok (.getfield 53, 3) := by decide +kernel
theorem dX0_fileDraft_4 : decode cX0_fileDraft 4 = .ok (.istore_n 1, 1) := by decide +kernel
theorem dX0_fileDraft_5 : decode cX0_fileDraft 5 = .ok (.iload_n 1, 1) := by decide +kernel
theorem dX0_fileDraft_6 : decode cX0_fileDraft 6 = .ok (.ifCond .lt 9, 3) := by decide +kernel
theorem dX0_fileDraft_9 : decode cX0_fileDraft 9 = .ok (.iload_n 1, 1) := by decide +kernel
theorem dX0_fileDraft_10 : decode cX0_fileDraft 10 = .ok (.bipush 80, 2) := by decide +kernel
theorem dX0_fileDraft_12 : decode cX0_fileDraft 12 = .ok (.if_icmp .lt 4, 3) := by decide +kernel
theorem dX0_fileDraft_15 : decode cX0_fileDraft 15 = .ok (.return_, 1) := by decide +kernel
theorem dX0_fileDraft_16 : decode cX0_fileDraft 16 = .ok (.aload_n 0, 1) := by decide +kernel
theorem dX0_fileDraft_17 : decode cX0_fileDraft 17 = .ok (.getfield 15, 3) := by decide +kernel
theorem dX0_fileDraft_20 : decode cX0_fileDraft 20 = .ok (.aload_n 0, 1) := by decide +kernel
theorem dX0_fileDraft_21 : decode cX0_fileDraft 21 = .ok (.getfield 45, 3) := by decide +kernel
theorem dX0_fileDraft_24 : decode cX0_fileDraft 24 = .ok (.invokestatic 56, 3) := by decide +kernel
theorem dX0_fileDraft_27 : decode cX0_fileDraft 27 = .ok (.istore_n 2, 1) := by decide +kernel
theorem dX0_fileDraft_28 : decode cX0_fileDraft 28 = .ok (.iload_n 1, 1) := by decide +kernel
theorem dX0_fileDraft_29 : decode cX0_fileDraft 29 = .ok (.ifCond .le 42, 3) := by decide +kernel
theorem dX0_fileDraft_32 : decode cX0_fileDraft 32 = .ok (.aload_n 0, 1) := by decide +kernel
theorem dX0_fileDraft_33 : decode cX0_fileDraft 33 = .ok (.getfield 15, 3) := by decide +kernel
theorem dX0_fileDraft_36 : decode cX0_fileDraft 36 = .ok (.aload_n 0, 1) := by decide +kernel
theorem dX0_fileDraft_37 : decode cX0_fileDraft 37 = .ok (.getfield 36, 3) := by decide +kernel
theorem dX0_fileDraft_40 : decode cX0_fileDraft 40 = .ok (.iload_n 1, 1) := by decide +kernel
theorem dX0_fileDraft_41 : decode cX0_fileDraft 41 = .ok (.iconst 1, 1) := by decide +kernel
theorem dX0_fileDraft_42 : decode cX0_fileDraft 42 = .ok (.isub, 1) := by decide +kernel
theorem dX0_fileDraft_43 : decode cX0_fileDraft 43 = .ok (.iaload, 1) := by decide +kernel
theorem dX0_fileDraft_44 : decode cX0_fileDraft 44 = .ok (.invokestatic 56, 3) := by decide +kernel
theorem dX0_fileDraft_47 : decode cX0_fileDraft 47 = .ok (.iload_n 2, 1) := by decide +kernel
theorem dX0_fileDraft_48 : decode cX0_fileDraft 48 = .ok (.if_icmp .le 23, 3) := by decide +kernel
theorem dX0_fileDraft_51 : decode cX0_fileDraft 51 = .ok (.aload_n 0, 1) := by decide +kernel
theorem dX0_fileDraft_52 : decode cX0_fileDraft 52 = .ok (.getfield 36, 3) := by decide +kernel
theorem dX0_fileDraft_55 : decode cX0_fileDraft 55 = .ok (.iload_n 1, 1) := by decide +kernel
theorem dX0_fileDraft_56 : decode cX0_fileDraft 56 = .ok (.aload_n 0, 1) := by decide +kernel
theorem dX0_fileDraft_57 : decode cX0_fileDraft 57 = .ok (.getfield 36, 3) := by decide +kernel
theorem dX0_fileDraft_60 : decode cX0_fileDraft 60 = .ok (.iload_n 1, 1) := by decide +kernel
theorem dX0_fileDraft_61 : decode cX0_fileDraft 61 = .ok (.iconst 1, 1) := by decide +kernel
theorem dX0_fileDraft_62 : decode cX0_fileDraft 62 = .ok (.isub, 1) := by decide +kernel
theorem dX0_fileDraft_63 : decode cX0_fileDraft 63 = .ok (.iaload, 1) := by decide +kernel
theorem dX0_fileDraft_64 : decode cX0_fileDraft 64 = .ok (.iastore, 1) := by decide +kernel
theorem dX0_fileDraft_65 : decode cX0_fileDraft 65 = .ok (.iinc 1 (-1), 3) := by decide +kernel
theorem dX0_fileDraft_68 : decode cX0_fileDraft 68 = .ok (.goto (-40), 3) := by decide +kernel
theorem dX0_fileDraft_71 : decode cX0_fileDraft 71 = .ok (.aload_n 0, 1) := by decide +kernel
theorem dX0_fileDraft_72 : decode cX0_fileDraft 72 = .ok (.getfield 36, 3) := by decide +kernel
theorem dX0_fileDraft_75 : decode cX0_fileDraft 75 = .ok (.iload_n 1, 1) := by decide +kernel
theorem dX0_fileDraft_76 : decode cX0_fileDraft 76 = .ok (.aload_n 0, 1) := by decide +kernel
theorem dX0_fileDraft_77 : decode cX0_fileDraft 77 = .ok (.getfield 45, 3) := by decide +kernel
theorem dX0_fileDraft_80 : decode cX0_fileDraft 80 = .ok (.iastore, 1) := by decide +kernel
theorem dX0_fileDraft_81 : decode cX0_fileDraft 81 = .ok (.aload_n 0, 1) := by decide +kernel
theorem dX0_fileDraft_82 : decode cX0_fileDraft 82 = .ok (.dup, 1) := by decide +kernel
theorem dX0_fileDraft_83 : decode cX0_fileDraft 83 = .ok (.getfield 53, 3) := by decide +kernel
theorem dX0_fileDraft_86 : decode cX0_fileDraft 86 = .ok (.iconst 1, 1) := by decide +kernel
theorem dX0_fileDraft_87 : decode cX0_fileDraft 87 = .ok (.iadd, 1) := by decide +kernel
theorem dX0_fileDraft_88 : decode cX0_fileDraft 88 = .ok (.putfield 53, 3) := by decide +kernel
theorem dX0_fileDraft_91 : decode cX0_fileDraft 91 = .ok (.return_, 1) := by decide +kernel
theorem dX0_withdrawDraft_0 : decode cX0_withdrawDraft 0 = .ok (.iconst 0, 1) := by decide +kernel
theorem dX0_withdrawDraft_1 : decode cX0_withdrawDraft 1 = .ok (.istore_n 1, 1) := by decide +kernel
theorem dX0_withdrawDraft_2 : decode cX0_withdrawDraft 2 = .ok (.iconst 0, 1) := by decide +kernel
theorem dX0_withdrawDraft_3 : decode cX0_withdrawDraft 3 = .ok (.istore_n 2, 1) := by decide +kernel
theorem dX0_withdrawDraft_4 : decode cX0_withdrawDraft 4 = .ok (.iload_n 2, 1) := by decide +kernel
theorem dX0_withdrawDraft_5 : decode cX0_withdrawDraft 5 = .ok (.aload_n 0, 1) := by decide +kernel
theorem dX0_withdrawDraft_6 : decode cX0_withdrawDraft 6 = .ok (.getfield 53, 3) := by decide +kernel
theorem dX0_withdrawDraft_9 : decode cX0_withdrawDraft 9 = .ok (.if_icmp .ge 43, 3) := by decide +kernel
theorem dX0_withdrawDraft_12 : decode cX0_withdrawDraft 12 = .ok (.iload_n 2, 1) := by decide +kernel
theorem dX0_withdrawDraft_13 : decode cX0_withdrawDraft 13 = .ok (.bipush 80, 2) := by decide +kernel
theorem dX0_withdrawDraft_15 : decode cX0_withdrawDraft 15 = .ok (.if_icmp .ge 37, 3) := by decide +kernel
theorem dX0_withdrawDraft_18 : decode cX0_withdrawDraft 18 = .ok (.aload_n 0, 1) := by decide +kernel
theorem dX0_withdrawDraft_19 : decode cX0_withdrawDraft 19 = .ok (.getfield 36, 3) := by decide +kernel
theorem dX0_withdrawDraft_22 : decode cX0_withdrawDraft 22 = .ok (.iload_n 2, 1) := by decide +kernel
theorem dX0_withdrawDraft_23 : decode cX0_withdrawDraft 23 = .ok (.iaload, 1) := by decide +kernel
theorem dX0_withdrawDraft_24 : decode cX0_withdrawDraft 24 = .ok (.aload_n 0, 1) := by decide +kernel
theorem dX0_withdrawDraft_25 : decode cX0_withdrawDraft 25 = .ok (.getfield 45, 3) := by decide +kernel
theorem dX0_withdrawDraft_28 : decode cX0_withdrawDraft 28 = .ok (.if_icmp .eq 18, 3) := by decide +kernel
theorem dX0_withdrawDraft_31 : decode cX0_withdrawDraft 31 = .ok (.aload_n 0, 1) := by decide +kernel
theorem dX0_withdrawDraft_32 : decode cX0_withdrawDraft 32 = .ok (.getfield 36, 3) := by decide +kernel
theorem dX0_withdrawDraft_35 : decode cX0_withdrawDraft 35 = .ok (.iload_n 1, 1) := by decide +kernel
theorem dX0_withdrawDraft_36 : decode cX0_withdrawDraft 36 = .ok (.aload_n 0, 1) := by decide +kernel
theorem dX0_withdrawDraft_37 : decode cX0_withdrawDraft 37 = .ok (.getfield 36, 3) := by decide +kernel
theorem dX0_withdrawDraft_40 : decode cX0_withdrawDraft 40 = .ok (.iload_n 2, 1) := by decide +kernel
theorem dX0_withdrawDraft_41 : decode cX0_withdrawDraft 41 = .ok (.iaload, 1) := by decide +kernel
theorem dX0_withdrawDraft_42 : decode cX0_withdrawDraft 42 = .ok (.iastore, 1) := by decide +kernel
theorem dX0_withdrawDraft_43 : decode cX0_withdrawDraft 43 = .ok (.iinc 1 1, 3) := by decide +kernel
theorem dX0_withdrawDraft_46 : decode cX0_withdrawDraft 46 = .ok (.iinc 2 1, 3) := by decide +kernel
theorem dX0_withdrawDraft_49 : decode cX0_withdrawDraft 49 = .ok (.goto (-45), 3) := by decide +kernel
theorem dX0_withdrawDraft_52 : decode cX0_withdrawDraft 52 = .ok (.aload_n 0, 1) := by decide +kernel
theorem dX0_withdrawDraft_53 : decode cX0_withdrawDraft 53 = .ok (.iload_n 1, 1) := by decide +kernel
theorem dX0_withdrawDraft_54 : decode cX0_withdrawDraft 54 = .ok (.putfield 53, 3) := by decide +kernel
theorem dX0_withdrawDraft_57 : decode cX0_withdrawDraft 57 = .ok (.return_, 1) := by decide +kernel
set_option maxRecDepth 20000 in
theorem ggX0_keep_X2_at : GoodIn wsX0_keep wsX2_at := goodIn_r _ [10] (by decide +kernel) (by decide +kernel)
set_option maxRecDepth 20000 in
theorem gX0_keep_X2_at_n56 : GoodIn wsX0_keep (wsX2_at) := ggX0_keep_X2_at
set_option maxRecDepth 20000 in
theorem ggX0_keep_X0_end : GoodIn wsX0_keep wsX0_end := goodIn_r _ [15, 4, 16, 17, 18, 19, 20, 21, 22, 23, 24, 25, 26, 27, 28, 29] (by decide +kernel) (by decide +kernel)
set_option maxRecDepth 20000 in
theorem gX0_keep_X0_end : GoodIn wsX0_keep (wsV RX0 63 RX0 yX0_end wsX0_end) := goodIn_app (goodIn_of _ (by decide +kernel)) ggX0_keep_X0_end
theorem dX0_keep_0 : decode cX0_keep 0 = .ok (.aload_n 0, 1) := by decide +kernel
theorem dX0_keep_1 : decode cX0_keep 1 = .ok (.getfield 45, 3) := by decide +kernel
theorem dX0_keep_4 : decode cX0_keep 4 = .ok (.istore_n 2, 1) := by decide +kernel
theorem dX0_keep_5 : decode cX0_keep 5 = .ok (.iconst 0, 1) := by decide +kernel
theorem dX0_keep_6 : decode cX0_keep 6 = .ok (.istore_n 3, 1) := by decide +kernel
theorem dX0_keep_7 : decode cX0_keep 7 = .ok (.iload_n 3, 1) := by decide +kernel
theorem dX0_keep_8 : decode cX0_keep 8 = .ok (.iload_n 1, 1) := by decide +kernel
theorem dX0_keep_9 : decode cX0_keep 9 = .ok (.if_icmp .ge 48, 3) := by decide +kernel
theorem dX0_keep_12 : decode cX0_keep 12 = .ok (.aload_n 0, 1) := by decide +kernel
theorem dX0_keep_13 : decode cX0_keep 13 = .ok (.getfield 60, 3) := by decide +kernel
theorem dX0_keep_16 : decode cX0_keep 16 = .ok (.bipush 60, 2) := by decide +kernel
theorem dX0_keep_18 : decode cX0_keep 18 = .ok (.if_icmp .ge 39, 3) := by decide +kernel
theorem dX0_keep_21 : decode cX0_keep 21 = .ok (.aload_n 0, 1) := by decide +kernel
theorem dX0_keep_22 : decode cX0_keep 22 = .ok (.getfield 39, 3) := by decide +kernel
theorem dX0_keep_25 : decode cX0_keep 25 = .ok (.aload_n 0, 1) := by decide +kernel
theorem dX0_keep_26 : decode cX0_keep 26 = .ok (.getfield 60, 3) := by decide +kernel
theorem dX0_keep_29 : decode cX0_keep 29 = .ok (.iload_n 2, 1) := by decide +kernel
theorem dX0_keep_30 : decode cX0_keep 30 = .ok (.iastore, 1) := by decide +kernel
theorem dX0_keep_31 : decode cX0_keep 31 = .ok (.aload_n 0, 1) := by decide +kernel
theorem dX0_keep_32 : decode cX0_keep 32 = .ok (.getfield 42, 3) := by decide +kernel
theorem dX0_keep_35 : decode cX0_keep 35 = .ok (.aload_n 0, 1) := by decide +kernel
theorem dX0_keep_36 : decode cX0_keep 36 = .ok (.getfield 60, 3) := by decide +kernel
theorem dX0_keep_39 : decode cX0_keep 39 = .ok (.iconst (-1), 1) := by decide +kernel
theorem dX0_keep_40 : decode cX0_keep 40 = .ok (.iastore, 1) := by decide +kernel
theorem dX0_keep_41 : decode cX0_keep 41 = .ok (.aload_n 0, 1) := by decide +kernel
theorem dX0_keep_42 : decode cX0_keep 42 = .ok (.dup, 1) := by decide +kernel
theorem dX0_keep_43 : decode cX0_keep 43 = .ok (.getfield 60, 3) := by decide +kernel
theorem dX0_keep_46 : decode cX0_keep 46 = .ok (.iconst 1, 1) := by decide +kernel
theorem dX0_keep_47 : decode cX0_keep 47 = .ok (.iadd, 1) := by decide +kernel
theorem dX0_keep_48 : decode cX0_keep 48 = .ok (.putfield 60, 3) := by decide +kernel
theorem dX0_keep_51 : decode cX0_keep 51 = .ok (.iinc 3 1, 3) := by decide +kernel
theorem dX0_keep_54 : decode cX0_keep 54 = .ok (.goto (-47), 3) := by decide +kernel
theorem dX0_keep_57 : decode cX0_keep 57 = .ok (.aload_n 0, 1) := by decide +kernel
theorem dX0_keep_58 : decode cX0_keep 58 = .ok (.getfield 9, 3) := by decide +kernel
theorem dX0_keep_61 : decode cX0_keep 61 = .ok (.iload_n 2, 1) := by decide +kernel
theorem dX0_keep_62 : decode cX0_keep 62 = .ok (.invokestatic 56, 3) := by decide +kernel
theorem dX0_keep_65 : decode cX0_keep 65 = .ok (.istore_n 3, 1) := by decide +kernel
theorem dX0_keep_66 : decode cX0_keep 66 = .ok (.iload_n 3, 1) := by decide +kernel
theorem dX0_keep_67 : decode cX0_keep 67 = .ok (.iconst 2, 1) := by decide +kernel
theorem dX0_keep_68 : decode cX0_keep 68 = .ok (.if_icmp .eq 8, 3) := by decide +kernel
theorem dX0_keep_71 : decode cX0_keep 71 = .ok (.iload_n 3, 1) := by decide +kernel
theorem dX0_keep_72 : decode cX0_keep 72 = .ok (.iconst 3, 1) := by decide +kernel
theorem dX0_keep_73 : decode cX0_keep 73 = .ok (.if_icmp .ne 29, 3) := by decide +kernel
theorem dX0_keep_76 : decode cX0_keep 76 = .ok (.aload_n 0, 1) := by decide +kernel
theorem dX0_keep_77 : decode cX0_keep 77 = .ok (.aload_n 0, 1) := by decide +kernel
theorem dX0_keep_78 : decode cX0_keep 78 = .ok (.getfield 18, 3) := by decide +kernel
theorem dX0_keep_81 : decode cX0_keep 81 = .ok (.iload_n 2, 1) := by decide +kernel
theorem dX0_keep_82 : decode cX0_keep 82 = .ok (.invokestatic 56, 3) := by decide +kernel
theorem dX0_keep_85 : decode cX0_keep 85 = .ok (.iload_n 2, 1) := by decide +kernel
theorem dX0_keep_86 : decode cX0_keep 86 = .ok (.invokevirtual 63, 3) := by decide +kernel
theorem dX0_keep_89 : decode cX0_keep 89 = .ok (.aload_n 0, 1) := by decide +kernel
theorem dX0_keep_90 : decode cX0_keep 90 = .ok (.aload_n 0, 1) := by decide +kernel
theorem dX0_keep_91 : decode cX0_keep 91 = .ok (.getfield 21, 3) := by decide +kernel
theorem dX0_keep_94 : decode cX0_keep 94 = .ok (.iload_n 2, 1) := by decide +kernel
theorem dX0_keep_95 : decode cX0_keep 95 = .ok (.invokestatic 56, 3) := by decide +kernel
theorem dX0_keep_98 : decode cX0_keep 98 = .ok (.iload_n 2, 1) := by decide +kernel
theorem dX0_keep_99 : decode cX0_keep 99 = .ok (.invokevirtual 63, 3) := by decide +kernel
theorem dX0_keep_102 : decode cX0_keep 102 = .ok (.aload_n 0, 1) := by decide +kernel
theorem dX0_keep_103 : decode cX0_keep 103 = .ok (.dup, 1) := by decide +kernel
theorem dX0_keep_104 : decode cX0_keep 104 = .ok (.getfield 45, 3) := by decide +kernel
theorem dX0_keep_107 : decode cX0_keep 107 = .ok (.iconst 1, 1) := by decide +kernel
theorem dX0_keep_108 : decode cX0_keep 108 = .ok (.iadd, 1) := by decide +kernel
theorem dX0_keep_109 : decode cX0_keep 109 = .ok (.putfield 45, 3) := by decide +kernel
theorem dX0_keep_112 : decode cX0_keep 112 = .ok (.iload_n 2, 1) := by decide +kernel
theorem dX0_keep_113 : decode cX0_keep 113 = .ok (.ireturn, 1) := by decide +kernel
theorem dX0_end_0 : decode cX0_end 0 = .ok (.iload_n 1, 1) := by decide +kernel
theorem dX0_end_1 : decode cX0_end 1 = .ok (.ifCond .lt 16, 3) := by decide +kernel
theorem dX0_end_4 : decode cX0_end 4 = .ok (.iload_n 1, 1) := by decide +kernel
theorem dX0_end_5 : decode cX0_end 5 = .ok (.bipush 60, 2) := by decide +kernel
theorem dX0_end_7 : decode cX0_end 7 = .ok (.if_icmp .ge 10, 3) := by decide +kernel
theorem dX0_end_10 : decode cX0_end 10 = .ok (.aload_n 0, 1) := by decide +kernel
theorem dX0_end_11 : decode cX0_end 11 = .ok (.getfield 42, 3) := by decide +kernel
theorem dX0_end_14 : decode cX0_end 14 = .ok (.iload_n 1, 1) := by decide +kernel
theorem dX0_end_15 : decode cX0_end 15 = .ok (.iload_n 2, 1) := by decide +kernel
theorem dX0_end_16 : decode cX0_end 16 = .ok (.iastore, 1) := by decide +kernel
theorem dX0_end_17 : decode cX0_end 17 = .ok (.return_, 1) := by decide +kernel
theorem dX0_mean_0 : decode cX0_mean 0 = .ok (.iconst 0, 1) := by decide +kernel
theorem dX0_mean_1 : decode cX0_mean 1 = .ok (.istore 4, 2) := by decide +kernel
theorem dX0_mean_3 : decode cX0_mean 3 = .ok (.iconst 0, 1) := by decide +kernel
theorem dX0_mean_4 : decode cX0_mean 4 = .ok (.istore 5, 2) := by decide +kernel
theorem dX0_mean_6 : decode cX0_mean 6 = .ok (.iconst 0, 1) := by decide +kernel
theorem dX0_mean_7 : decode cX0_mean 7 = .ok (.istore 6, 2) := by decide +kernel
theorem dX0_mean_9 : decode cX0_mean 9 = .ok (.iload_n 1, 1) := by decide +kernel
theorem dX0_mean_10 : decode cX0_mean 10 = .ok (.bipush 80, 2) := by decide +kernel
theorem dX0_mean_12 : decode cX0_mean 12 = .ok (.invokestatic 67, 3) := by decide +kernel
theorem dX0_mean_15 : decode cX0_mean 15 = .ok (.iconst 1, 1) := by decide +kernel
theorem dX0_mean_16 : decode cX0_mean 16 = .ok (.isub, 1) := by decide +kernel
theorem dX0_mean_17 : decode cX0_mean 17 = .ok (.istore 7, 2) := by decide +kernel
theorem dX0_mean_19 : decode cX0_mean 19 = .ok (.iload 7, 2) := by decide +kernel
theorem dX0_mean_21 : decode cX0_mean 21 = .ok (.ifCond .lt 88, 3) := by decide +kernel
theorem dX0_mean_24 : decode cX0_mean 24 = .ok (.iload_n 2, 1) := by decide +kernel
theorem dX0_mean_25 : decode cX0_mean 25 = .ok (.aload_n 0, 1) := by decide +kernel
theorem dX0_mean_26 : decode cX0_mean 26 = .ok (.getfield 15, 3) := by decide +kernel
theorem dX0_mean_29 : decode cX0_mean 29 = .ok (.iload 7, 2) := by decide +kernel
theorem dX0_mean_31 : decode cX0_mean 31 = .ok (.iaload, 1) := by decide +kernel
theorem dX0_mean_32 : decode cX0_mean 32 = .ok (.isub, 1) := by decide +kernel
theorem dX0_mean_33 : decode cX0_mean 33 = .ok (.istore 8, 2) := by decide +kernel
theorem dX0_mean_35 : decode cX0_mean 35 = .ok (.aload_n 0, 1) := by decide +kernel
theorem dX0_mean_36 : decode cX0_mean 36 = .ok (.getfield 9, 3) := by decide +kernel
theorem dX0_mean_39 : decode cX0_mean 39 = .ok (.iload 7, 2) := by decide +kernel
theorem dX0_mean_41 : decode cX0_mean 41 = .ok (.iaload, 1) := by decide +kernel
theorem dX0_mean_42 : decode cX0_mean 42 = .ok (.ifCond .ne 61, 3) := by decide +kernel
theorem dX0_mean_45 : decode cX0_mean 45 = .ok (.aload_n 0, 1) := by decide +kernel
theorem dX0_mean_46 : decode cX0_mean 46 = .ok (.getfield 18, 3) := by decide +kernel
theorem dX0_mean_49 : decode cX0_mean 49 = .ok (.iload 7, 2) := by decide +kernel
theorem dX0_mean_51 : decode cX0_mean 51 = .ok (.iaload, 1) := by decide +kernel
theorem dX0_mean_52 : decode cX0_mean 52 = .ok (.iload_n 3, 1) := by decide +kernel
theorem dX0_mean_53 : decode cX0_mean 53 = .ok (.if_icmp .ne 50, 3) := by decide +kernel
theorem dX0_mean_56 : decode cX0_mean 56 = .ok (.iload 8, 2) := by decide +kernel
theorem dX0_mean_58 : decode cX0_mean 58 = .ok (.iconst 1, 1) := by decide +kernel
theorem dX0_mean_59 : decode cX0_mean 59 = .ok (.if_icmp .lt 44, 3) := by decide +kernel
theorem dX0_mean_62 : decode cX0_mean 62 = .ok (.iload 8, 2) := by decide +kernel
theorem dX0_mean_64 : decode cX0_mean 64 = .ok (.bipush 7, 2) := by decide +kernel
theorem dX0_mean_66 : decode cX0_mean 66 = .ok (.if_icmp .gt 37, 3) := by decide +kernel
theorem dX0_mean_69 : decode cX0_mean 69 = .ok (.iload 6, 2) := by decide +kernel
theorem dX0_mean_71 : decode cX0_mean 71 = .ok (.iload 8, 2) := by decide +kernel
theorem dX0_mean_73 : decode cX0_mean 73 = .ok (.ishr, 1) := by decide +kernel
theorem dX0_mean_74 : decode cX0_mean 74 = .ok (.iconst 1, 1) := by decide +kernel
theorem dX0_mean_75 : decode cX0_mean 75 = .ok (.iand, 1) := by decide +kernel
theorem dX0_mean_76 : decode cX0_mean 76 = .ok (.ifCond .ne 27, 3) := by decide +kernel
theorem dX0_mean_79 : decode cX0_mean 79 = .ok (.iload 6, 2) := by decide +kernel
theorem dX0_mean_81 : decode cX0_mean 81 = .ok (.iconst 1, 1) := by decide +kernel
theorem dX0_mean_82 : decode cX0_mean 82 = .ok (.iload 8, 2) := by decide +kernel
theorem dX0_mean_84 : decode cX0_mean 84 = .ok (.ishl, 1) := by decide +kernel
theorem dX0_mean_85 : decode cX0_mean 85 = .ok (.ior, 1) := by decide +kernel
theorem dX0_mean_86 : decode cX0_mean 86 = .ok (.istore 6, 2) := by decide +kernel
theorem dX0_mean_88 : decode cX0_mean 88 = .ok (.iload 4, 2) := by decide +kernel
theorem dX0_mean_90 : decode cX0_mean 90 = .ok (.aload_n 0, 1) := by decide +kernel
theorem dX0_mean_91 : decode cX0_mean 91 = .ok (.getfield 24, 3) := by decide +kernel
theorem dX0_mean_94 : decode cX0_mean 94 = .ok (.iload 7, 2) := by decide +kernel
theorem dX0_mean_96 : decode cX0_mean 96 = .ok (.iaload, 1) := by decide +kernel
theorem dX0_mean_97 : decode cX0_mean 97 = .ok (.iadd, 1) := by decide +kernel
theorem dX0_mean_98 : decode cX0_mean 98 = .ok (.istore 4, 2) := by decide +kernel
theorem dX0_mean_100 : decode cX0_mean 100 = .ok (.iinc 5 1, 3) := by decide +kernel
theorem dX0_mean_103 : decode cX0_mean 103 = .ok (.iinc 7 (-1), 3) := by decide +kernel
theorem dX0_mean_106 : decode cX0_mean 106 = .ok (.goto (-87), 3) := by decide +kernel
theorem dX0_mean_109 : decode cX0_mean 109 = .ok (.iload 5, 2) := by decide +kernel
theorem dX0_mean_111 : decode cX0_mean 111 = .ok (.ifCond .ne 7, 3) := by decide +kernel
theorem dX0_mean_114 : decode cX0_mean 114 = .ok (.iconst (-1), 1) := by decide +kernel
theorem dX0_mean_115 : decode cX0_mean 115 = .ok (.goto 15, 3) := by decide +kernel
theorem dX0_mean_118 : decode cX0_mean 118 = .ok (.iconst 2, 1) := by decide +kernel
theorem dX0_mean_119 : decode cX0_mean 119 = .ok (.iload 4, 2) := by decide +kernel
theorem dX0_mean_121 : decode cX0_mean 121 = .ok (.imul, 1) := by decide +kernel
theorem dX0_mean_122 : decode cX0_mean 122 = .ok (.iload 5, 2) := by decide +kernel
theorem dX0_mean_124 : decode cX0_mean 124 = .ok (.iadd, 1) := by decide +kernel
theorem dX0_mean_125 : decode cX0_mean 125 = .ok (.iconst 2, 1) := by decide +kernel
theorem dX0_mean_126 : decode cX0_mean 126 = .ok (.iload 5, 2) := by decide +kernel
theorem dX0_mean_128 : decode cX0_mean 128 = .ok (.imul, 1) := by decide +kernel
theorem dX0_mean_129 : decode cX0_mean 129 = .ok (.idiv, 1) := by decide +kernel
theorem dX0_mean_130 : decode cX0_mean 130 = .ok (.ireturn, 1) := by decide +kernel
theorem dX1_init_0 : decode cX1_init 0 = .ok (.aload_n 0, 1) := by decide +kernel
theorem dX1_init_1 : decode cX1_init 1 = .ok (.invokespecial 3, 3) := by decide +kernel
theorem dX1_init_4 : decode cX1_init 4 = .ok (.aload_n 0, 1) := by decide +kernel
theorem dX1_init_5 : decode cX1_init 5 = .ok (.bipush 60, 2) := by decide +kernel
theorem dX1_init_7 : decode cX1_init 7 = .ok (.newarray .boolean, 2) := by decide +kernel
theorem dX1_init_9 : decode cX1_init 9 = .ok (.putfield 9, 3) := by decide +kernel
theorem dX1_init_12 : decode cX1_init 12 = .ok (.aload_n 0, 1) := by decide +kernel
theorem dX1_init_13 : decode cX1_init 13 = .ok (.bipush 60, 2) := by decide +kernel
theorem dX1_init_15 : decode cX1_init 15 = .ok (.newarray .int, 2) := by decide +kernel
theorem dX1_init_17 : decode cX1_init 17 = .ok (.putfield 15, 3) := by decide +kernel
theorem dX1_init_20 : decode cX1_init 20 = .ok (.aload_n 0, 1) := by decide +kernel
theorem dX1_init_21 : decode cX1_init 21 = .ok (.bipush 60, 2) := by decide +kernel
theorem dX1_init_23 : decode cX1_init 23 = .ok (.newarray .int, 2) := by decide +kernel
theorem dX1_init_25 : decode cX1_init 25 = .ok (.putfield 19, 3) := by decide +kernel
theorem dX1_init_28 : decode cX1_init 28 = .ok (.aload_n 0, 1) := by decide +kernel
theorem dX1_init_29 : decode cX1_init 29 = .ok (.bipush 60, 2) := by decide +kernel
theorem dX1_init_31 : decode cX1_init 31 = .ok (.newarray .int, 2) := by decide +kernel
theorem dX1_init_33 : decode cX1_init 33 = .ok (.putfield 22, 3) := by decide +kernel
theorem dX1_init_36 : decode cX1_init 36 = .ok (.aload_n 0, 1) := by decide +kernel
theorem dX1_init_37 : decode cX1_init 37 = .ok (.iconst 3, 1) := by decide +kernel
theorem dX1_init_38 : decode cX1_init 38 = .ok (.bipush 60, 2) := by decide +kernel
theorem dX1_init_40 : decode cX1_init 40 = .ok (.multianewarray 25 2, 4) := by decide +kernel
theorem dX1_init_44 : decode cX1_init 44 = .ok (.putfield 27, 3) := by decide +kernel
theorem dX1_init_47 : decode cX1_init 47 = .ok (.aload_n 0, 1) := by decide +kernel
theorem dX1_init_48 : decode cX1_init 48 = .ok (.bipush 60, 2) := by decide +kernel
theorem dX1_init_50 : decode cX1_init 50 = .ok (.newarray .boolean, 2) := by decide +kernel
theorem dX1_init_52 : decode cX1_init 52 = .ok (.putfield 30, 3) := by decide +kernel
theorem dX1_init_55 : decode cX1_init 55 = .ok (.aload_n 0, 1) := by decide +kernel
theorem dX1_init_56 : decode cX1_init 56 = .ok (.bipush 60, 2) := by decide +kernel
theorem dX1_init_58 : decode cX1_init 58 = .ok (.newarray .long, 2) := by decide +kernel
theorem dX1_init_60 : decode cX1_init 60 = .ok (.putfield 33, 3) := by decide +kernel
theorem dX1_init_63 : decode cX1_init 63 = .ok (.aload_n 0, 1) := by decide +kernel
theorem dX1_init_64 : decode cX1_init 64 = .ok (.bipush 60, 2) := by decide +kernel
theorem dX1_init_66 : decode cX1_init 66 = .ok (.newarray .int, 2) := by decide +kernel
theorem dX1_init_68 : decode cX1_init 68 = .ok (.putfield 37, 3) := by decide +kernel
theorem dX1_init_71 : decode cX1_init 71 = .ok (.aload_n 0, 1) := by decide +kernel
theorem dX1_init_72 : decode cX1_init 72 = .ok (.bipush 60, 2) := by decide +kernel
theorem dX1_init_74 : decode cX1_init 74 = .ok (.newarray .long, 2) := by decide +kernel
theorem dX1_init_76 : decode cX1_init 76 = .ok (.putfield 40, 3) := by decide +kernel
theorem dX1_init_79 : decode cX1_init 79 = .ok (.aload_n 0, 1) := by decide +kernel
theorem dX1_init_80 : decode cX1_init 80 = .ok (.iconst 3, 1) := by decide +kernel
theorem dX1_init_81 : decode cX1_init 81 = .ok (.newarray .int, 2) := by decide +kernel
theorem dX1_init_83 : decode cX1_init 83 = .ok (.putfield 43, 3) := by decide +kernel
theorem dX1_init_86 : decode cX1_init 86 = .ok (.aload_n 0, 1) := by decide +kernel
theorem dX1_init_87 : decode cX1_init 87 = .ok (.aload_n 1, 1) := by decide +kernel
theorem dX1_init_88 : decode cX1_init 88 = .ok (.putfield 46, 3) := by decide +kernel
theorem dX1_init_91 : decode cX1_init 91 = .ok (.return_, 1) := by decide +kernel
set_option maxRecDepth 20000 in
theorem ggX1_show_X2_at : GoodIn wsX1_show wsX2_at := goodIn_r _ [9] (by decide +kernel) (by decide +kernel)
set_option maxRecDepth 20000 in
theorem gX1_show_X2_at_n63 : GoodIn wsX1_show (wsX2_at) := ggX1_show_X2_at
set_option maxRecDepth 20000 in
theorem ggX1_show_X1_tryAct : GoodIn wsX1_show wsX1_tryAct := goodIn_r _ [14, 3, 15, 16, 17, 18, 19, 20, 21, 6, 7, 8, 9, 22, 23, 24, 13, 25, 1, 26, 27, 28, 29, 30, 31, 32, 33, 34, 35, 36, 37, 38, 39, 40, 41, 42, 43, 44, 45, 46, 47, 48, 49, 50, 51, 52, 53, 54, 55, 56, 57, 2, 58, 59, 60, 61, 62, 63, 64, 65, 66, 67, 68, 69, 70, 71, 72, 73, 74, 75, 76, 77, 78, 79, 80, 81, 82, 83, 84, 85, 86, 87, 88, 89, 90, 91, 92, 93, 94, 95, 96, 97, 98, 99, 100, 101, 102, 103, 104, 105, 106, 107, 108, 109, 110, 111, 112, 113, 114, 115, 116, 117, 118, 119, 120, 121, 122, 123, 124, 125, 126] (by decide +kernel) (by decide +kernel)
set_option maxRecDepth 20000 in
theorem gX1_show_X1_tryAct : GoodIn wsX1_show (wsV RX1 70 RX1 yX1_tryAct wsX1_tryAct) := goodIn_app (goodIn_of _ (by decide +kernel)) ggX1_show_X1_tryAct
theorem dX1_show_0 : decode cX1_show 0 = .ok (.iconst 0, 1) := by decide +kernel
theorem dX1_show_1 : decode cX1_show 1 = .ok (.istore 4, 2) := by decide +kernel
theorem dX1_show_3 : decode cX1_show 3 = .ok (.iload 4, 2) := by decide +kernel
theorem dX1_show_5 : decode cX1_show 5 = .ok (.bipush 60, 2) := by decide +kernel
theorem dX1_show_7 : decode cX1_show 7 = .ok (.if_icmp .ge 17, 3) := by decide +kernel
theorem dX1_show_10 : decode cX1_show 10 = .ok (.aload_n 0, 1) := by decide +kernel
theorem dX1_show_11 : decode cX1_show 11 = .ok (.getfield 9, 3) := by decide +kernel
theorem dX1_show_14 : decode cX1_show 14 = .ok (.iload 4, 2) := by decide +kernel
theorem dX1_show_16 : decode cX1_show 16 = .ok (.iconst 0, 1) := by decide +kernel
theorem dX1_show_17 : decode cX1_show 17 = .ok (.bastore, 1) := by decide +kernel
theorem dX1_show_18 : decode cX1_show 18 = .ok (.iinc 4 1, 3) := by decide +kernel
theorem dX1_show_21 : decode cX1_show 21 = .ok (.goto (-18), 3) := by decide +kernel
theorem dX1_show_24 : decode cX1_show 24 = .ok (.aload_n 0, 1) := by decide +kernel
theorem dX1_show_25 : decode cX1_show 25 = .ok (.iconst 0, 1) := by decide +kernel
theorem dX1_show_26 : decode cX1_show 26 = .ok (.putfield 50, 3) := by decide +kernel
theorem dX1_show_29 : decode cX1_show 29 = .ok (.iconst 0, 1) := by decide +kernel
theorem dX1_show_30 : decode cX1_show 30 = .ok (.istore 4, 2) := by decide +kernel
theorem dX1_show_32 : decode cX1_show 32 = .ok (.iload 4, 2) := by decide +kernel
theorem dX1_show_34 : decode cX1_show 34 = .ok (.aload_n 0, 1) := by decide +kernel
theorem dX1_show_35 : decode cX1_show 35 = .ok (.getfield 46, 3) := by decide +kernel
theorem dX1_show_38 : decode cX1_show 38 = .ok (.getfield 54, 3) := by decide +kernel
theorem dX1_show_41 : decode cX1_show 41 = .ok (.if_icmp .ge 65, 3) := by decide +kernel
theorem dX1_show_44 : decode cX1_show 44 = .ok (.aload_n 0, 1) := by decide +kernel
theorem dX1_show_45 : decode cX1_show 45 = .ok (.getfield 46, 3) := by decide +kernel
theorem dX1_show_48 : decode cX1_show 48 = .ok (.getfield 60, 3) := by decide +kernel
theorem dX1_show_51 : decode cX1_show 51 = .ok (.iload 4, 2) := by decide +kernel
theorem dX1_show_53 : decode cX1_show 53 = .ok (.invokestatic 63, 3) := by decide +kernel
theorem dX1_show_56 : decode cX1_show 56 = .ok (.istore 5, 2) := by decide +kernel
theorem dX1_show_58 : decode cX1_show 58 = .ok (.iload 5, 2) := by decide +kernel
theorem dX1_show_60 : decode cX1_show 60 = .ok (.iload_n 3, 1) := by decide +kernel
theorem dX1_show_61 : decode cX1_show 61 = .ok (.if_icmp .eq 19, 3) := by decide +kernel
theorem dX1_show_64 : decode cX1_show 64 = .ok (.aload_n 0, 1) := by decide +kernel
theorem dX1_show_65 : decode cX1_show 65 = .ok (.getfield 46, 3) := by decide +kernel
theorem dX1_show_68 : decode cX1_show 68 = .ok (.getfield 67, 3) := by decide +kernel
theorem dX1_show_71 : decode cX1_show 71 = .ok (.iload 5, 2) := by decide +kernel
theorem dX1_show_73 : decode cX1_show 73 = .ok (.invokestatic 63, 3) := by decide +kernel
theorem dX1_show_76 : decode cX1_show 76 = .ok (.iload_n 2, 1) := by decide +kernel
theorem dX1_show_77 : decode cX1_show 77 = .ok (.if_icmp .le 5, 3) := by decide +kernel
theorem dX1_show_80 : decode cX1_show 80 = .ok (.iconst 1, 1) := by decide +kernel
theorem dX1_show_81 : decode cX1_show 81 = .ok (.ireturn, 1) := by decide +kernel
theorem dX1_show_82 : decode cX1_show 82 = .ok (.iload 5, 2) := by decide +kernel
theorem dX1_show_84 : decode cX1_show 84 = .ok (.iload_n 1, 1) := by decide +kernel
theorem dX1_show_85 : decode cX1_show 85 = .ok (.if_icmp .ge 15, 3) := by decide +kernel
theorem dX1_show_88 : decode cX1_show 88 = .ok (.aload_n 0, 1) := by decide +kernel
theorem dX1_show_89 : decode cX1_show 89 = .ok (.iload 5, 2) := by decide +kernel
theorem dX1_show_91 : decode cX1_show 91 = .ok (.iload_n 1, 1) := by decide +kernel
theorem dX1_show_92 : decode cX1_show 92 = .ok (.invokevirtual 70, 3) := by decide +kernel
theorem dX1_show_95 : decode cX1_show 95 = .ok (.ifCond .ne 5, 3) := by decide +kernel
theorem dX1_show_98 : decode cX1_show 98 = .ok (.iconst 0, 1) := by decide +kernel
theorem dX1_show_99 : decode cX1_show 99 = .ok (.ireturn, 1) := by decide +kernel
theorem dX1_show_100 : decode cX1_show 100 = .ok (.iinc 4 1, 3) := by decide +kernel
theorem dX1_show_103 : decode cX1_show 103 = .ok (.goto (-71), 3) := by decide +kernel
theorem dX1_show_106 : decode cX1_show 106 = .ok (.iconst 1, 1) := by decide +kernel
theorem dX1_show_107 : decode cX1_show 107 = .ok (.ireturn, 1) := by decide +kernel
set_option maxRecDepth 20000 in
theorem ggX1_tryAct_X2_at : GoodIn wsX1_tryAct wsX2_at := goodIn_r _ [12] (by decide +kernel) (by decide +kernel)
set_option maxRecDepth 20000 in
theorem gX1_tryAct_X2_at_n63 : GoodIn wsX1_tryAct (wsX2_at) := ggX1_tryAct_X2_at
set_option maxRecDepth 20000 in
theorem ggX1_tryAct_X1_tryMake : GoodIn wsX1_tryAct wsX1_tryMake := goodIn_r _ [17, 18, 19, 20, 21, 22, 23, 24, 16, 25, 26, 27, 28, 29, 30, 95, 96, 97, 98, 99, 100, 101, 102, 103, 104, 105, 106] (by decide +kernel) (by decide +kernel)
set_option maxRecDepth 20000 in
theorem gX1_tryAct_X1_tryMake : GoodIn wsX1_tryAct (wsV RX1 88 RX1 yX1_tryMake wsX1_tryMake) := goodIn_app (goodIn_of _ (by decide +kernel)) ggX1_tryAct_X1_tryMake
set_option maxRecDepth 20000 in
theorem ggX1_tryAct_X1_tryPart : GoodIn wsX1_tryAct wsX1_tryPart := goodIn_r _ [34, 19, 20, 21, 22, 30, 18, 35, 36, 37, 16, 38, 23, 24, 25, 13, 14, 15, 17, 26, 27, 28, 29, 95, 96, 97, 98, 99, 100, 101, 102, 103, 104, 105, 106] (by decide +kernel) (by decide +kernel)
set_option maxRecDepth 20000 in
theorem gX1_tryAct_X1_tryPart : GoodIn wsX1_tryAct (wsV RX1 92 RX1 yX1_tryPart wsX1_tryPart) := goodIn_app (goodIn_of _ (by decide +kernel)) ggX1_tryAct_X1_tryPart
set_option maxRecDepth 20000 in
theorem ggX1_tryAct_X1_tryJoin : GoodIn wsX1_tryAct wsX1_tryJoin := goodIn_r _ [42, 20, 21, 22, 19, 30, 18, 35, 36, 37, 16, 38, 23, 24, 25, 13, 14, 15, 17, 26, 27, 28, 29, 95, 96, 97, 98, 99, 100, 101, 102, 103, 104, 105, 106] (by decide +kernel) (by decide +kernel)
set_option maxRecDepth 20000 in
theorem gX1_tryAct_X1_tryJoin : GoodIn wsX1_tryAct (wsV RX1 98 RX1 yX1_tryJoin wsX1_tryJoin) := goodIn_app (goodIn_of _ (by decide +kernel)) ggX1_tryAct_X1_tryJoin
set_option maxRecDepth 20000 in
theorem ggX1_tryAct_X1_trySell : GoodIn wsX1_tryAct wsX1_trySell := goodIn_r _ [46, 21, 35, 36, 37, 16, 38, 18, 95, 96, 97, 98, 99, 100, 101, 102, 103, 104, 105, 106] (by decide +kernel) (by decide +kernel)
set_option maxRecDepth 20000 in
theorem gX1_tryAct_X1_trySell : GoodIn wsX1_tryAct (wsV RX1 102 RX1 yX1_trySell wsX1_trySell) := goodIn_app (goodIn_of _ (by decide +kernel)) ggX1_tryAct_X1_trySell
set_option maxRecDepth 20000 in
theorem ggX1_tryAct_X1_trySettle : GoodIn wsX1_tryAct wsX1_trySettle := goodIn_r _ [50, 51, 52, 53, 54, 16, 55, 56, 18, 19, 20, 57, 58, 59, 60, 61, 1, 62, 63, 64, 65, 66, 67, 68, 69, 70, 71, 72, 73, 74, 75, 76, 77, 78, 79, 80, 81, 82, 83, 84, 85, 86, 87, 88, 30, 89, 90, 35, 36, 37, 38, 95, 96, 97, 98, 99, 100, 101, 102, 103, 104, 105, 106, 107, 108, 109, 110, 111, 112, 113, 114, 115, 116, 117, 118, 119, 120] (by decide +kernel) (by decide +kernel)
set_option maxRecDepth 20000 in
theorem gX1_tryAct_X1_trySettle : GoodIn wsX1_tryAct (wsV RX1 105 RX1 yX1_trySettle wsX1_trySettle) := goodIn_app (goodIn_of _ (by decide +kernel)) ggX1_tryAct_X1_trySettle
set_option maxRecDepth 20000 in
theorem ggX1_tryAct_X1_tryBuy : GoodIn wsX1_tryAct wsX1_tryBuy := goodIn_r _ [94, 51, 22, 35, 36, 37, 16, 38, 18, 26, 27, 28, 29, 30, 95, 96, 97, 98, 99, 100, 101, 102, 103, 104, 105, 106] (by decide +kernel) (by decide +kernel)
set_option maxRecDepth 20000 in
theorem gX1_tryAct_X1_tryBuy : GoodIn wsX1_tryAct (wsV RX1 108 RX1 yX1_tryBuy wsX1_tryBuy) := goodIn_app (goodIn_of _ (by decide +kernel)) ggX1_tryAct_X1_tryBuy
theorem dX1_tryAct_0 : decode cX1_tryAct 0 = .ok (.aload_n 0, 1) := by decide +kernel
theorem dX1_tryAct_1 : decode cX1_tryAct 1 = .ok (.getfield 46, 3) := by decide +kernel
theorem dX1_tryAct_4 : decode cX1_tryAct 4 = .ok (.getfield 74, 3) := by decide +kernel
theorem dX1_tryAct_7 : decode cX1_tryAct 7 = .ok (.iload_n 1, 1) := by decide +kernel
theorem dX1_tryAct_8 : decode cX1_tryAct 8 = .ok (.invokestatic 63, 3) := by decide +kernel
theorem dX1_tryAct_11 : decode cX1_tryAct 11 = .ok (.istore_n 3, 1) := by decide +kernel
theorem dX1_tryAct_12 : decode cX1_tryAct 12 = .ok (.aload_n 0, 1) := by decide +kernel
theorem dX1_tryAct_13 : decode cX1_tryAct 13 = .ok (.getfield 46, 3) := by decide +kernel
theorem dX1_tryAct_16 : decode cX1_tryAct 16 = .ok (.getfield 77, 3) := by decide +kernel
theorem dX1_tryAct_19 : decode cX1_tryAct 19 = .ok (.iload_n 1, 1) := by decide +kernel
theorem dX1_tryAct_20 : decode cX1_tryAct 20 = .ok (.invokestatic 63, 3) := by decide +kernel
theorem dX1_tryAct_23 : decode cX1_tryAct 23 = .ok (.istore 4, 2) := by decide +kernel
theorem dX1_tryAct_25 : decode cX1_tryAct 25 = .ok (.aload_n 0, 1) := by decide +kernel
theorem dX1_tryAct_26 : decode cX1_tryAct 26 = .ok (.getfield 46, 3) := by decide +kernel
theorem dX1_tryAct_29 : decode cX1_tryAct 29 = .ok (.getfield 80, 3) := by decide +kernel
theorem dX1_tryAct_32 : decode cX1_tryAct 32 = .ok (.iload_n 1, 1) := by decide +kernel
theorem dX1_tryAct_33 : decode cX1_tryAct 33 = .ok (.invokestatic 63, 3) := by decide +kernel
theorem dX1_tryAct_36 : decode cX1_tryAct 36 = .ok (.istore 5, 2) := by decide +kernel
theorem dX1_tryAct_38 : decode cX1_tryAct 38 = .ok (.aload_n 0, 1) := by decide +kernel
theorem dX1_tryAct_39 : decode cX1_tryAct 39 = .ok (.getfield 46, 3) := by decide +kernel
theorem dX1_tryAct_42 : decode cX1_tryAct 42 = .ok (.getfield 83, 3) := by decide +kernel
theorem dX1_tryAct_45 : decode cX1_tryAct 45 = .ok (.iload_n 1, 1) := by decide +kernel
theorem dX1_tryAct_46 : decode cX1_tryAct 46 = .ok (.invokestatic 63, 3) := by decide +kernel
theorem dX1_tryAct_49 : decode cX1_tryAct 49 = .ok (.tableswitch 145 1 6 #[39, 70, 84, 103, 120, 139], 39) := by decide +kernel
theorem dX1_tryAct_88 : decode cX1_tryAct 88 = .ok (.aload_n 0, 1) := by decide +kernel
theorem dX1_tryAct_89 : decode cX1_tryAct 89 = .ok (.iload 4, 2) := by decide +kernel
theorem dX1_tryAct_91 : decode cX1_tryAct 91 = .ok (.iload 5, 2) := by decide +kernel
theorem dX1_tryAct_93 : decode cX1_tryAct 93 = .ok (.aload_n 0, 1) := by decide +kernel
theorem dX1_tryAct_94 : decode cX1_tryAct 94 = .ok (.getfield 46, 3) := by decide +kernel
theorem dX1_tryAct_97 : decode cX1_tryAct 97 = .ok (.getfield 86, 3) := by decide +kernel
theorem dX1_tryAct_100 : decode cX1_tryAct 100 = .ok (.iload_n 1, 1) := by decide +kernel
theorem dX1_tryAct_101 : decode cX1_tryAct 101 = .ok (.invokestatic 63, 3) := by decide +kernel
theorem dX1_tryAct_104 : decode cX1_tryAct 104 = .ok (.aload_n 0, 1) := by decide +kernel
theorem dX1_tryAct_105 : decode cX1_tryAct 105 = .ok (.getfield 46, 3) := by decide +kernel
theorem dX1_tryAct_108 : decode cX1_tryAct 108 = .ok (.getfield 87, 3) := by decide +kernel
theorem dX1_tryAct_111 : decode cX1_tryAct 111 = .ok (.iload_n 1, 1) := by decide +kernel
theorem dX1_tryAct_112 : decode cX1_tryAct 112 = .ok (.invokestatic 63, 3) := by decide +kernel
theorem dX1_tryAct_115 : decode cX1_tryAct 115 = .ok (.invokevirtual 88, 3) := by decide +kernel
theorem dX1_tryAct_118 : decode cX1_tryAct 118 = .ok (.ireturn, 1) := by decide +kernel
theorem dX1_tryAct_119 : decode cX1_tryAct 119 = .ok (.aload_n 0, 1) := by decide +kernel
theorem dX1_tryAct_120 : decode cX1_tryAct 120 = .ok (.iload_n 3, 1) := by decide +kernel
theorem dX1_tryAct_121 : decode cX1_tryAct 121 = .ok (.iload 5, 2) := by decide +kernel
theorem dX1_tryAct_123 : decode cX1_tryAct 123 = .ok (.iload 4, 2) := by decide +kernel
theorem dX1_tryAct_125 : decode cX1_tryAct 125 = .ok (.iload 4, 2) := by decide +kernel
theorem dX1_tryAct_127 : decode cX1_tryAct 127 = .ok (.iconst 1, 1) := by decide +kernel
theorem dX1_tryAct_128 : decode cX1_tryAct 128 = .ok (.iadd, 1) := by decide +kernel
theorem dX1_tryAct_129 : decode cX1_tryAct 129 = .ok (.invokevirtual 92, 3) := by decide +kernel
theorem dX1_tryAct_132 : decode cX1_tryAct 132 = .ok (.ireturn, 1) := by decide +kernel
theorem dX1_tryAct_133 : decode cX1_tryAct 133 = .ok (.aload_n 0, 1) := by decide +kernel
theorem dX1_tryAct_134 : decode cX1_tryAct 134 = .ok (.iload_n 3, 1) := by decide +kernel
theorem dX1_tryAct_135 : decode cX1_tryAct 135 = .ok (.aload_n 0, 1) := by decide +kernel
theorem dX1_tryAct_136 : decode cX1_tryAct 136 = .ok (.getfield 46, 3) := by decide +kernel
theorem dX1_tryAct_139 : decode cX1_tryAct 139 = .ok (.getfield 95, 3) := by decide +kernel
theorem dX1_tryAct_142 : decode cX1_tryAct 142 = .ok (.iload_n 1, 1) := by decide +kernel
theorem dX1_tryAct_143 : decode cX1_tryAct 143 = .ok (.invokestatic 63, 3) := by decide +kernel
theorem dX1_tryAct_146 : decode cX1_tryAct 146 = .ok (.iload 4, 2) := by decide +kernel
theorem dX1_tryAct_148 : decode cX1_tryAct 148 = .ok (.invokevirtual 98, 3) := by decide +kernel
theorem dX1_tryAct_151 : decode cX1_tryAct 151 = .ok (.ireturn, 1) := by decide +kernel
theorem dX1_tryAct_152 : decode cX1_tryAct 152 = .ok (.aload_n 0, 1) := by decide +kernel
theorem dX1_tryAct_153 : decode cX1_tryAct 153 = .ok (.iload_n 3, 1) := by decide +kernel
theorem dX1_tryAct_154 : decode cX1_tryAct 154 = .ok (.aload_n 0, 1) := by decide +kernel
theorem dX1_tryAct_155 : decode cX1_tryAct 155 = .ok (.getfield 46, 3) := by decide +kernel
theorem dX1_tryAct_158 : decode cX1_tryAct 158 = .ok (.getfield 87, 3) := by decide +kernel
theorem dX1_tryAct_161 : decode cX1_tryAct 161 = .ok (.iload_n 1, 1) := by decide +kernel
theorem dX1_tryAct_162 : decode cX1_tryAct 162 = .ok (.invokestatic 63, 3) := by decide +kernel
theorem dX1_tryAct_165 : decode cX1_tryAct 165 = .ok (.invokevirtual 102, 3) := by decide +kernel
theorem dX1_tryAct_168 : decode cX1_tryAct 168 = .ok (.ireturn, 1) := by decide +kernel
theorem dX1_tryAct_169 : decode cX1_tryAct 169 = .ok (.aload_n 0, 1) := by decide +kernel
theorem dX1_tryAct_170 : decode cX1_tryAct 170 = .ok (.iload 5, 2) := by decide +kernel
theorem dX1_tryAct_172 : decode cX1_tryAct 172 = .ok (.iload_n 2, 1) := by decide +kernel
theorem dX1_tryAct_173 : decode cX1_tryAct 173 = .ok (.aload_n 0, 1) := by decide +kernel
theorem dX1_tryAct_174 : decode cX1_tryAct 174 = .ok (.getfield 46, 3) := by decide +kernel
theorem dX1_tryAct_177 : decode cX1_tryAct 177 = .ok (.getfield 67, 3) := by decide +kernel
theorem dX1_tryAct_180 : decode cX1_tryAct 180 = .ok (.iload_n 1, 1) := by decide +kernel
theorem dX1_tryAct_181 : decode cX1_tryAct 181 = .ok (.invokestatic 63, 3) := by decide +kernel
theorem dX1_tryAct_184 : decode cX1_tryAct 184 = .ok (.invokevirtual 105, 3) := by decide +kernel
theorem dX1_tryAct_187 : decode cX1_tryAct 187 = .ok (.ireturn, 1) := by decide +kernel
theorem dX1_tryAct_188 : decode cX1_tryAct 188 = .ok (.aload_n 0, 1) := by decide +kernel
theorem dX1_tryAct_189 : decode cX1_tryAct 189 = .ok (.iload_n 3, 1) := by decide +kernel
theorem dX1_tryAct_190 : decode cX1_tryAct 190 = .ok (.invokevirtual 108, 3) := by decide +kernel
theorem dX1_tryAct_193 : decode cX1_tryAct 193 = .ok (.ireturn, 1) := by decide +kernel
theorem dX1_tryAct_194 : decode cX1_tryAct 194 = .ok (.iconst 0, 1) := by decide +kernel
theorem dX1_tryAct_195 : decode cX1_tryAct 195 = .ok (.ireturn, 1) := by decide +kernel
theorem dX1_isNumber_0 : decode cX1_isNumber 0 = .ok (.iload_n 0, 1) := by decide +kernel
theorem dX1_isNumber_1 : decode cX1_isNumber 1 = .ok (.ifCond .lt 13, 3) := by decide +kernel
theorem dX1_isNumber_4 : decode cX1_isNumber 4 = .ok (.iload_n 0, 1) := by decide +kernel
theorem dX1_isNumber_5 : decode cX1_isNumber 5 = .ok (.bipush 60, 2) := by decide +kernel
theorem dX1_isNumber_7 : decode cX1_isNumber 7 = .ok (.if_icmp .ge 7, 3) := by decide +kernel
theorem dX1_isNumber_10 : decode cX1_isNumber 10 = .ok (.iconst 1, 1) := by decide +kernel
theorem dX1_isNumber_11 : decode cX1_isNumber 11 = .ok (.goto 4, 3) := by decide +kernel
theorem dX1_isNumber_14 : decode cX1_isNumber 14 = .ok (.iconst 0, 1) := by decide +kernel
theorem dX1_isNumber_15 : decode cX1_isNumber 15 = .ok (.ireturn, 1) := by decide +kernel
theorem dX1_isThere_0 : decode cX1_isThere 0 = .ok (.iload_n 1, 1) := by decide +kernel
theorem dX1_isThere_1 : decode cX1_isThere 1 = .ok (.ifCond .lt 22, 3) := by decide +kernel
theorem dX1_isThere_4 : decode cX1_isThere 4 = .ok (.iload_n 1, 1) := by decide +kernel
theorem dX1_isThere_5 : decode cX1_isThere 5 = .ok (.bipush 60, 2) := by decide +kernel
theorem dX1_isThere_7 : decode cX1_isThere 7 = .ok (.if_icmp .ge 16, 3) := by decide +kernel
theorem dX1_isThere_10 : decode cX1_isThere 10 = .ok (.aload_n 0, 1) := by decide +kernel
theorem dX1_isThere_11 : decode cX1_isThere 11 = .ok (.getfield 9, 3) := by decide +kernel
theorem dX1_isThere_14 : decode cX1_isThere 14 = .ok (.iload_n 1, 1) := by decide +kernel
theorem dX1_isThere_15 : decode cX1_isThere 15 = .ok (.baload, 1) := by decide +kernel
theorem dX1_isThere_16 : decode cX1_isThere 16 = .ok (.ifCond .eq 7, 3) := by decide +kernel
theorem dX1_isThere_19 : decode cX1_isThere 19 = .ok (.iconst 1, 1) := by decide +kernel
theorem dX1_isThere_20 : decode cX1_isThere 20 = .ok (.goto 4, 3) := by decide +kernel
theorem dX1_isThere_23 : decode cX1_isThere 23 = .ok (.iconst 0, 1) := by decide +kernel
theorem dX1_isThere_24 : decode cX1_isThere 24 = .ok (.ireturn, 1) := by decide +kernel
set_option maxRecDepth 20000 in
theorem ggX1_tryMake_X1_isNumber : GoodIn wsX1_tryMake wsX1_isNumber := goodIn_r _ [9] (by decide +kernel) (by decide +kernel)
set_option maxRecDepth 20000 in
theorem gX1_tryMake_X1_isNumber : GoodIn wsX1_tryMake (va_wsS RX1 112 yX1_isNumber wsX1_isNumber) := goodIn_app (goodIn_of _ (by decide +kernel)) ggX1_tryMake_X1_isNumber
set_option maxRecDepth 20000 in
theorem ggX1_tryMake_X1_clearCharge : GoodIn wsX1_tryMake wsX1_clearCharge := goodIn_r _ [13, 14, 15, 16, 17, 18, 19, 20, 21, 22, 23, 24, 25, 26] (by decide +kernel) (by decide +kernel)
set_option maxRecDepth 20000 in
theorem gX1_tryMake_X1_clearCharge : GoodIn wsX1_tryMake (wsV RX1 115 RX1 yX1_clearCharge wsX1_clearCharge) := goodIn_app (goodIn_of _ (by decide +kernel)) ggX1_tryMake_X1_clearCharge
theorem dX1_tryMake_0 : decode cX1_tryMake 0 = .ok (.iload_n 1, 1) := by decide +kernel
theorem dX1_tryMake_1 : decode cX1_tryMake 1 = .ok (.invokestatic 112, 3) := by decide +kernel
theorem dX1_tryMake_4 : decode cX1_tryMake 4 = .ok (.ifCond .ne 5, 3) := by decide +kernel
theorem dX1_tryMake_7 : decode cX1_tryMake 7 = .ok (.iconst 0, 1) := by decide +kernel
theorem dX1_tryMake_8 : decode cX1_tryMake 8 = .ok (.ireturn, 1) := by decide +kernel
theorem dX1_tryMake_9 : decode cX1_tryMake 9 = .ok (.aload_n 0, 1) := by decide +kernel
theorem dX1_tryMake_10 : decode cX1_tryMake 10 = .ok (.getfield 9, 3) := by decide +kernel
theorem dX1_tryMake_13 : decode cX1_tryMake 13 = .ok (.iload_n 1, 1) := by decide +kernel
theorem dX1_tryMake_14 : decode cX1_tryMake 14 = .ok (.iconst 1, 1) := by decide +kernel
theorem dX1_tryMake_15 : decode cX1_tryMake 15 = .ok (.bastore, 1) := by decide +kernel
theorem dX1_tryMake_16 : decode cX1_tryMake 16 = .ok (.aload_n 0, 1) := by decide +kernel
theorem dX1_tryMake_17 : decode cX1_tryMake 17 = .ok (.getfield 15, 3) := by decide +kernel
theorem dX1_tryMake_20 : decode cX1_tryMake 20 = .ok (.iload_n 1, 1) := by decide +kernel
theorem dX1_tryMake_21 : decode cX1_tryMake 21 = .ok (.iload_n 2, 1) := by decide +kernel
theorem dX1_tryMake_22 : decode cX1_tryMake 22 = .ok (.iastore, 1) := by decide +kernel
theorem dX1_tryMake_23 : decode cX1_tryMake 23 = .ok (.aload_n 0, 1) := by decide +kernel
theorem dX1_tryMake_24 : decode cX1_tryMake 24 = .ok (.getfield 19, 3) := by decide +kernel
theorem dX1_tryMake_27 : decode cX1_tryMake 27 = .ok (.iload_n 1, 1) := by decide +kernel
theorem dX1_tryMake_28 : decode cX1_tryMake 28 = .ok (.iload_n 3, 1) := by decide +kernel
theorem dX1_tryMake_29 : decode cX1_tryMake 29 = .ok (.iastore, 1) := by decide +kernel
theorem dX1_tryMake_30 : decode cX1_tryMake 30 = .ok (.aload_n 0, 1) := by decide +kernel
theorem dX1_tryMake_31 : decode cX1_tryMake 31 = .ok (.getfield 22, 3) := by decide +kernel
theorem dX1_tryMake_34 : decode cX1_tryMake 34 = .ok (.iload_n 1, 1) := by decide +kernel
theorem dX1_tryMake_35 : decode cX1_tryMake 35 = .ok (.iload 4, 2) := by decide +kernel
theorem dX1_tryMake_37 : decode cX1_tryMake 37 = .ok (.iastore, 1) := by decide +kernel
theorem dX1_tryMake_38 : decode cX1_tryMake 38 = .ok (.aload_n 0, 1) := by decide +kernel
theorem dX1_tryMake_39 : decode cX1_tryMake 39 = .ok (.getfield 30, 3) := by decide +kernel
theorem dX1_tryMake_42 : decode cX1_tryMake 42 = .ok (.iload_n 1, 1) := by decide +kernel
theorem dX1_tryMake_43 : decode cX1_tryMake 43 = .ok (.iconst 0, 1) := by decide +kernel
theorem dX1_tryMake_44 : decode cX1_tryMake 44 = .ok (.bastore, 1) := by decide +kernel
theorem dX1_tryMake_45 : decode cX1_tryMake 45 = .ok (.aload_n 0, 1) := by decide +kernel
theorem dX1_tryMake_46 : decode cX1_tryMake 46 = .ok (.iload_n 1, 1) := by decide +kernel
theorem dX1_tryMake_47 : decode cX1_tryMake 47 = .ok (.invokevirtual 115, 3) := by decide +kernel
theorem dX1_tryMake_50 : decode cX1_tryMake 50 = .ok (.iconst 1, 1) := by decide +kernel
theorem dX1_tryMake_51 : decode cX1_tryMake 51 = .ok (.ireturn, 1) := by decide +kernel
theorem dX1_clearCharge_0 : decode cX1_clearCharge 0 = .ok (.iconst 0, 1) := by decide +kernel
theorem dX1_clearCharge_1 : decode cX1_clearCharge 1 = .ok (.istore_n 2, 1) := by decide +kernel
theorem dX1_clearCharge_2 : decode cX1_clearCharge 2 = .ok (.iload_n 2, 1) := by decide +kernel
theorem dX1_clearCharge_3 : decode cX1_clearCharge 3 = .ok (.iconst 3, 1) := by decide +kernel
theorem dX1_clearCharge_4 : decode cX1_clearCharge 4 = .ok (.if_icmp .ge 28, 3) := by decide +kernel
theorem dX1_clearCharge_7 : decode cX1_clearCharge 7 = .ok (.iload_n 1, 1) := by decide +kernel
theorem dX1_clearCharge_8 : decode cX1_clearCharge 8 = .ok (.ifCond .lt 24, 3) := by decide +kernel
theorem dX1_clearCharge_11 : decode cX1_clearCharge 11 = .ok (.iload_n 1, 1) := by decide +kernel
theorem dX1_clearCharge_12 : decode cX1_clearCharge 12 = .ok (.bipush 60, 2) := by decide +kernel
theorem dX1_clearCharge_14 : decode cX1_clearCharge 14 = .ok (.if_icmp .ge 18, 3) := by decide +kernel
theorem dX1_clearCharge_17 : decode cX1_clearCharge 17 = .ok (.aload_n 0, 1) := by decide +kernel
theorem dX1_clearCharge_18 : decode cX1_clearCharge 18 = .ok (.getfield 27, 3) := by decide +kernel
theorem dX1_clearCharge_21 : decode cX1_clearCharge 21 = .ok (.iload_n 2, 1) := by decide +kernel
theorem dX1_clearCharge_22 : decode cX1_clearCharge 22 = .ok (.aaload, 1) := by decide +kernel
theorem dX1_clearCharge_23 : decode cX1_clearCharge 23 = .ok (.iload_n 1, 1) := by decide +kernel
theorem dX1_clearCharge_24 : decode cX1_clearCharge 24 = .ok (.iconst 0, 1) := by decide +kernel
theorem dX1_clearCharge_25 : decode cX1_clearCharge 25 = .ok (.iastore, 1) := by decide +kernel
theorem dX1_clearCharge_26 : decode cX1_clearCharge 26 = .ok (.iinc 2 1, 3) := by decide +kernel
theorem dX1_clearCharge_29 : decode cX1_clearCharge 29 = .ok (.goto (-27), 3) := by decide +kernel
theorem dX1_clearCharge_32 : decode cX1_clearCharge 32 = .ok (.return_, 1) := by decide +kernel
set_option maxRecDepth 20000 in
theorem ggX1_tryPart_X1_isThere : GoodIn wsX1_tryPart wsX1_isThere := goodIn_r _ [11, 6, 23, 24, 25, 26, 27, 28, 29, 30, 31, 32, 33, 34] (by decide +kernel) (by decide +kernel)
set_option maxRecDepth 20000 in
theorem gX1_tryPart_X1_isThere : GoodIn wsX1_tryPart (wsV RX1 119 RX1 yX1_isThere wsX1_isThere) := goodIn_app (goodIn_of _ (by decide +kernel)) ggX1_tryPart_X1_isThere
set_option maxRecDepth 20000 in
theorem ggX1_tryPart_X1_isNumber : GoodIn wsX1_tryPart wsX1_isNumber := goodIn_r _ [14] (by decide +kernel) (by decide +kernel)
set_option maxRecDepth 20000 in
theorem gX1_tryPart_X1_isNumber : GoodIn wsX1_tryPart (va_wsS RX1 112 yX1_isNumber wsX1_isNumber) := goodIn_app (goodIn_of _ (by decide +kernel)) ggX1_tryPart_X1_isNumber
set_option maxRecDepth 20000 in
theorem ggX1_tryPart_X1_tryMake : GoodIn wsX1_tryPart wsX1_tryMake := goodIn_r _ [18, 6, 1, 2, 3, 4, 12, 13, 10, 14, 19, 20, 21, 22, 5, 23, 24, 25, 26, 27, 28, 29, 30, 31, 32, 33, 34] (by decide +kernel) (by decide +kernel)
set_option maxRecDepth 20000 in
theorem gX1_tryPart_X1_tryMake : GoodIn wsX1_tryPart (wsV RX1 88 RX1 yX1_tryMake wsX1_tryMake) := goodIn_app (goodIn_of _ (by decide +kernel)) ggX1_tryPart_X1_tryMake
theorem dX1_tryPart_0 : decode cX1_tryPart 0 = .ok (.aload_n 0, 1) := by decide +kernel
theorem dX1_tryPart_1 : decode cX1_tryPart 1 = .ok (.iload_n 1, 1) := by decide +kernel
theorem dX1_tryPart_2 : decode cX1_tryPart 2 = .ok (.invokevirtual 119, 3) := by decide +kernel
theorem dX1_tryPart_5 : decode cX1_tryPart 5 = .ok (.ifCond .eq 33, 3) := by decide +kernel
theorem dX1_tryPart_8 : decode cX1_tryPart 8 = .ok (.iload_n 3, 1) := by decide +kernel
theorem dX1_tryPart_9 : decode cX1_tryPart 9 = .ok (.invokestatic 112, 3) := by decide +kernel
theorem dX1_tryPart_12 : decode cX1_tryPart 12 = .ok (.ifCond .eq 26, 3) := by decide +kernel
theorem dX1_tryPart_15 : decode cX1_tryPart 15 = .ok (.iload 4, 2) := by decide +kernel
theorem dX1_tryPart_17 : decode cX1_tryPart 17 = .ok (.invokestatic 112, 3) := by decide +kernel
theorem dX1_tryPart_20 : decode cX1_tryPart 20 = .ok (.ifCond .eq 18, 3) := by decide +kernel
theorem dX1_tryPart_23 : decode cX1_tryPart 23 = .ok (.iload_n 2, 1) := by decide +kernel
theorem dX1_tryPart_24 : decode cX1_tryPart 24 = .ok (.iconst 1, 1) := by decide +kernel
theorem dX1_tryPart_25 : decode cX1_tryPart 25 = .ok (.if_icmp .lt 13, 3) := by decide +kernel
theorem dX1_tryPart_28 : decode cX1_tryPart 28 = .ok (.aload_n 0, 1) := by decide +kernel
theorem dX1_tryPart_29 : decode cX1_tryPart 29 = .ok (.getfield 15, 3) := by decide +kernel
theorem dX1_tryPart_32 : decode cX1_tryPart 32 = .ok (.iload_n 1, 1) := by decide +kernel
theorem dX1_tryPart_33 : decode cX1_tryPart 33 = .ok (.iaload, 1) := by decide +kernel
theorem dX1_tryPart_34 : decode cX1_tryPart 34 = .ok (.iload_n 2, 1) := by decide +kernel
theorem dX1_tryPart_35 : decode cX1_tryPart 35 = .ok (.if_icmp .gt 5, 3) := by decide +kernel
theorem dX1_tryPart_38 : decode cX1_tryPart 38 = .ok (.iconst 0, 1) := by decide +kernel
theorem dX1_tryPart_39 : decode cX1_tryPart 39 = .ok (.ireturn, 1) := by decide +kernel
theorem dX1_tryPart_40 : decode cX1_tryPart 40 = .ok (.aload_n 0, 1) := by decide +kernel
theorem dX1_tryPart_41 : decode cX1_tryPart 41 = .ok (.getfield 15, 3) := by decide +kernel
theorem dX1_tryPart_44 : decode cX1_tryPart 44 = .ok (.iload_n 1, 1) := by decide +kernel
theorem dX1_tryPart_45 : decode cX1_tryPart 45 = .ok (.iaload, 1) := by decide +kernel
theorem dX1_tryPart_46 : decode cX1_tryPart 46 = .ok (.istore 5, 2) := by decide +kernel
theorem dX1_tryPart_48 : decode cX1_tryPart 48 = .ok (.aload_n 0, 1) := by decide +kernel
theorem dX1_tryPart_49 : decode cX1_tryPart 49 = .ok (.iload_n 3, 1) := by decide +kernel
theorem dX1_tryPart_50 : decode cX1_tryPart 50 = .ok (.iload_n 2, 1) := by decide +kernel
theorem dX1_tryPart_51 : decode cX1_tryPart 51 = .ok (.aload_n 0, 1) := by decide +kernel
theorem dX1_tryPart_52 : decode cX1_tryPart 52 = .ok (.getfield 19, 3) := by decide +kernel
theorem dX1_tryPart_55 : decode cX1_tryPart 55 = .ok (.iload_n 1, 1) := by decide +kernel
theorem dX1_tryPart_56 : decode cX1_tryPart 56 = .ok (.iaload, 1) := by decide +kernel
theorem dX1_tryPart_57 : decode cX1_tryPart 57 = .ok (.aload_n 0, 1) := by decide +kernel
theorem dX1_tryPart_58 : decode cX1_tryPart 58 = .ok (.getfield 22, 3) := by decide +kernel
theorem dX1_tryPart_61 : decode cX1_tryPart 61 = .ok (.iload_n 1, 1) := by decide +kernel
theorem dX1_tryPart_62 : decode cX1_tryPart 62 = .ok (.iaload, 1) := by decide +kernel
theorem dX1_tryPart_63 : decode cX1_tryPart 63 = .ok (.invokevirtual 88, 3) := by decide +kernel
theorem dX1_tryPart_66 : decode cX1_tryPart 66 = .ok (.pop, 1) := by decide +kernel
theorem dX1_tryPart_67 : decode cX1_tryPart 67 = .ok (.aload_n 0, 1) := by decide +kernel
theorem dX1_tryPart_68 : decode cX1_tryPart 68 = .ok (.iload 4, 2) := by decide +kernel
theorem dX1_tryPart_70 : decode cX1_tryPart 70 = .ok (.iload 5, 2) := by decide +kernel
theorem dX1_tryPart_72 : decode cX1_tryPart 72 = .ok (.iload_n 2, 1) := by decide +kernel
theorem dX1_tryPart_73 : decode cX1_tryPart 73 = .ok (.isub, 1) := by decide +kernel
theorem dX1_tryPart_74 : decode cX1_tryPart 74 = .ok (.aload_n 0, 1) := by decide +kernel
theorem dX1_tryPart_75 : decode cX1_tryPart 75 = .ok (.getfield 19, 3) := by decide +kernel
theorem dX1_tryPart_78 : decode cX1_tryPart 78 = .ok (.iload_n 1, 1) := by decide +kernel
theorem dX1_tryPart_79 : decode cX1_tryPart 79 = .ok (.iaload, 1) := by decide +kernel
theorem dX1_tryPart_80 : decode cX1_tryPart 80 = .ok (.aload_n 0, 1) := by decide +kernel
theorem dX1_tryPart_81 : decode cX1_tryPart 81 = .ok (.getfield 22, 3) := by decide +kernel
theorem dX1_tryPart_84 : decode cX1_tryPart 84 = .ok (.iload_n 1, 1) := by decide +kernel
theorem dX1_tryPart_85 : decode cX1_tryPart 85 = .ok (.iaload, 1) := by decide +kernel
theorem dX1_tryPart_86 : decode cX1_tryPart 86 = .ok (.invokevirtual 88, 3) := by decide +kernel
theorem dX1_tryPart_89 : decode cX1_tryPart 89 = .ok (.pop, 1) := by decide +kernel
theorem dX1_tryPart_90 : decode cX1_tryPart 90 = .ok (.aload_n 0, 1) := by decide +kernel
theorem dX1_tryPart_91 : decode cX1_tryPart 91 = .ok (.getfield 30, 3) := by decide +kernel
theorem dX1_tryPart_94 : decode cX1_tryPart 94 = .ok (.iload_n 3, 1) := by decide +kernel
theorem dX1_tryPart_95 : decode cX1_tryPart 95 = .ok (.aload_n 0, 1) := by decide +kernel
theorem dX1_tryPart_96 : decode cX1_tryPart 96 = .ok (.getfield 30, 3) := by decide +kernel
theorem dX1_tryPart_99 : decode cX1_tryPart 99 = .ok (.iload_n 1, 1) := by decide +kernel
theorem dX1_tryPart_100 : decode cX1_tryPart 100 = .ok (.baload, 1) := by decide +kernel
theorem dX1_tryPart_101 : decode cX1_tryPart 101 = .ok (.bastore, 1) := by decide +kernel
theorem dX1_tryPart_102 : decode cX1_tryPart 102 = .ok (.aload_n 0, 1) := by decide +kernel
theorem dX1_tryPart_103 : decode cX1_tryPart 103 = .ok (.getfield 30, 3) := by decide +kernel
theorem dX1_tryPart_106 : decode cX1_tryPart 106 = .ok (.iload 4, 2) := by decide +kernel
theorem dX1_tryPart_108 : decode cX1_tryPart 108 = .ok (.aload_n 0, 1) := by decide +kernel
theorem dX1_tryPart_109 : decode cX1_tryPart 109 = .ok (.getfield 30, 3) := by decide +kernel
theorem dX1_tryPart_112 : decode cX1_tryPart 112 = .ok (.iload_n 1, 1) := by decide +kernel
theorem dX1_tryPart_113 : decode cX1_tryPart 113 = .ok (.baload, 1) := by decide +kernel
theorem dX1_tryPart_114 : decode cX1_tryPart 114 = .ok (.bastore, 1) := by decide +kernel
theorem dX1_tryPart_115 : decode cX1_tryPart 115 = .ok (.iconst 0, 1) := by decide +kernel
theorem dX1_tryPart_116 : decode cX1_tryPart 116 = .ok (.istore 6, 2) := by decide +kernel
theorem dX1_tryPart_118 : decode cX1_tryPart 118 = .ok (.iload 6, 2) := by decide +kernel
theorem dX1_tryPart_120 : decode cX1_tryPart 120 = .ok (.iconst 3, 1) := by decide +kernel
theorem dX1_tryPart_121 : decode cX1_tryPart 121 = .ok (.if_icmp .ge 62, 3) := by decide +kernel
theorem dX1_tryPart_124 : decode cX1_tryPart 124 = .ok (.aload_n 0, 1) := by decide +kernel
theorem dX1_tryPart_125 : decode cX1_tryPart 125 = .ok (.getfield 27, 3) := by decide +kernel
theorem dX1_tryPart_128 : decode cX1_tryPart 128 = .ok (.iload 6, 2) := by decide +kernel
theorem dX1_tryPart_130 : decode cX1_tryPart 130 = .ok (.aaload, 1) := by decide +kernel
theorem dX1_tryPart_131 : decode cX1_tryPart 131 = .ok (.iload_n 1, 1) := by decide +kernel
theorem dX1_tryPart_132 : decode cX1_tryPart 132 = .ok (.iaload, 1) := by decide +kernel
theorem dX1_tryPart_133 : decode cX1_tryPart 133 = .ok (.istore 7, 2) := by decide +kernel
theorem dX1_tryPart_135 : decode cX1_tryPart 135 = .ok (.aload_n 0, 1) := by decide +kernel
theorem dX1_tryPart_136 : decode cX1_tryPart 136 = .ok (.getfield 27, 3) := by decide +kernel
theorem dX1_tryPart_139 : decode cX1_tryPart 139 = .ok (.iload 6, 2) := by decide +kernel
theorem dX1_tryPart_141 : decode cX1_tryPart 141 = .ok (.aaload, 1) := by decide +kernel
theorem dX1_tryPart_142 : decode cX1_tryPart 142 = .ok (.iload_n 3, 1) := by decide +kernel
theorem dX1_tryPart_143 : decode cX1_tryPart 143 = .ok (.iload 7, 2) := by decide +kernel
theorem dX1_tryPart_145 : decode cX1_tryPart 145 = .ok (.i2l, 1) := by decide +kernel
theorem dX1_tryPart_146 : decode cX1_tryPart 146 = .ok (.iload_n 2, 1) := by decide +kernel
theorem dX1_tryPart_147 : decode cX1_tryPart 147 = .ok (.i2l, 1) := by decide +kernel
theorem dX1_tryPart_148 : decode cX1_tryPart 148 = .ok (.lmul, 1) := by decide +kernel
theorem dX1_tryPart_149 : decode cX1_tryPart 149 = .ok (.iload 5, 2) := by decide +kernel
theorem dX1_tryPart_151 : decode cX1_tryPart 151 = .ok (.i2l, 1) := by decide +kernel
theorem dX1_tryPart_152 : decode cX1_tryPart 152 = .ok (.ldiv, 1) := by decide +kernel
theorem dX1_tryPart_153 : decode cX1_tryPart 153 = .ok (.l2i, 1) := by decide +kernel
theorem dX1_tryPart_154 : decode cX1_tryPart 154 = .ok (.iastore, 1) := by decide +kernel
theorem dX1_tryPart_155 : decode cX1_tryPart 155 = .ok (.aload_n 0, 1) := by decide +kernel
theorem dX1_tryPart_156 : decode cX1_tryPart 156 = .ok (.getfield 27, 3) := by decide +kernel
theorem dX1_tryPart_159 : decode cX1_tryPart 159 = .ok (.iload 6, 2) := by decide +kernel
theorem dX1_tryPart_161 : decode cX1_tryPart 161 = .ok (.aaload, 1) := by decide +kernel
theorem dX1_tryPart_162 : decode cX1_tryPart 162 = .ok (.iload 4, 2) := by decide +kernel
theorem dX1_tryPart_164 : decode cX1_tryPart 164 = .ok (.iload 7, 2) := by decide +kernel
theorem dX1_tryPart_166 : decode cX1_tryPart 166 = .ok (.aload_n 0, 1) := by decide +kernel
theorem dX1_tryPart_167 : decode cX1_tryPart 167 = .ok (.getfield 27, 3) := by decide +kernel
theorem dX1_tryPart_170 : decode cX1_tryPart 170 = .ok (.iload 6, 2) := by decide +kernel
theorem dX1_tryPart_172 : decode cX1_tryPart 172 = .ok (.aaload, 1) := by decide +kernel
theorem dX1_tryPart_173 : decode cX1_tryPart 173 = .ok (.iload_n 3, 1) := by decide +kernel
theorem dX1_tryPart_174 : decode cX1_tryPart 174 = .ok (.iaload, 1) := by decide +kernel
theorem dX1_tryPart_175 : decode cX1_tryPart 175 = .ok (.isub, 1) := by decide +kernel
theorem dX1_tryPart_176 : decode cX1_tryPart 176 = .ok (.iastore, 1) := by decide +kernel
theorem dX1_tryPart_177 : decode cX1_tryPart 177 = .ok (.iinc 6 1, 3) := by decide +kernel
theorem dX1_tryPart_180 : decode cX1_tryPart 180 = .ok (.goto (-62), 3) := by decide +kernel
theorem dX1_tryPart_183 : decode cX1_tryPart 183 = .ok (.aload_n 0, 1) := by decide +kernel
theorem dX1_tryPart_184 : decode cX1_tryPart 184 = .ok (.getfield 9, 3) := by decide +kernel
theorem dX1_tryPart_187 : decode cX1_tryPart 187 = .ok (.iload_n 1, 1) := by decide +kernel
theorem dX1_tryPart_188 : decode cX1_tryPart 188 = .ok (.iconst 0, 1) := by decide +kernel
theorem dX1_tryPart_189 : decode cX1_tryPart 189 = .ok (.bastore, 1) := by decide +kernel
theorem dX1_tryPart_190 : decode cX1_tryPart 190 = .ok (.iconst 1, 1) := by decide +kernel
theorem dX1_tryPart_191 : decode cX1_tryPart 191 = .ok (.ireturn, 1) := by decide +kernel
set_option maxRecDepth 20000 in
theorem ggX1_tryJoin_X1_isThere : GoodIn wsX1_tryJoin wsX1_isThere := goodIn_r _ [11, 6, 23, 24, 25, 26, 27, 28, 29, 30, 31, 32, 33, 34] (by decide +kernel) (by decide +kernel)
set_option maxRecDepth 20000 in
theorem gX1_tryJoin_X1_isThere : GoodIn wsX1_tryJoin (wsV RX1 119 RX1 yX1_isThere wsX1_isThere) := goodIn_app (goodIn_of _ (by decide +kernel)) ggX1_tryJoin_X1_isThere
set_option maxRecDepth 20000 in
theorem ggX1_tryJoin_X1_isNumber : GoodIn wsX1_tryJoin wsX1_isNumber := goodIn_r _ [14] (by decide +kernel) (by decide +kernel)
set_option maxRecDepth 20000 in
theorem gX1_tryJoin_X1_isNumber : GoodIn wsX1_tryJoin (va_wsS RX1 112 yX1_isNumber wsX1_isNumber) := goodIn_app (goodIn_of _ (by decide +kernel)) ggX1_tryJoin_X1_isNumber
set_option maxRecDepth 20000 in
theorem ggX1_tryJoin_X1_tryMake : GoodIn wsX1_tryJoin wsX1_tryMake := goodIn_r _ [18, 6, 4, 1, 2, 3, 12, 13, 10, 14, 19, 20, 21, 22, 5, 23, 24, 25, 26, 27, 28, 29, 30, 31, 32, 33, 34] (by decide +kernel) (by decide +kernel)
set_option maxRecDepth 20000 in
theorem gX1_tryJoin_X1_tryMake : GoodIn wsX1_tryJoin (wsV RX1 88 RX1 yX1_tryMake wsX1_tryMake) := goodIn_app (goodIn_of _ (by decide +kernel)) ggX1_tryJoin_X1_tryMake
theorem dX1_tryJoin_0 : decode cX1_tryJoin 0 = .ok (.iload_n 1, 1) := by decide +kernel
theorem dX1_tryJoin_1 : decode cX1_tryJoin 1 = .ok (.iload_n 2, 1) := by decide +kernel
theorem dX1_tryJoin_2 : decode cX1_tryJoin 2 = .ok (.if_icmp .eq 71, 3) := by decide +kernel
theorem dX1_tryJoin_5 : decode cX1_tryJoin 5 = .ok (.aload_n 0, 1) := by decide +kernel
theorem dX1_tryJoin_6 : decode cX1_tryJoin 6 = .ok (.iload_n 1, 1) := by decide +kernel
theorem dX1_tryJoin_7 : decode cX1_tryJoin 7 = .ok (.invokevirtual 119, 3) := by decide +kernel
theorem dX1_tryJoin_10 : decode cX1_tryJoin 10 = .ok (.ifCond .eq 63, 3) := by decide +kernel
theorem dX1_tryJoin_13 : decode cX1_tryJoin 13 = .ok (.aload_n 0, 1) := by decide +kernel
theorem dX1_tryJoin_14 : decode cX1_tryJoin 14 = .ok (.iload_n 2, 1) := by decide +kernel
theorem dX1_tryJoin_15 : decode cX1_tryJoin 15 = .ok (.invokevirtual 119, 3) := by decide +kernel
theorem dX1_tryJoin_18 : decode cX1_tryJoin 18 = .ok (.ifCond .eq 55, 3) := by decide +kernel
theorem dX1_tryJoin_21 : decode cX1_tryJoin 21 = .ok (.iload_n 3, 1) := by decide +kernel
theorem dX1_tryJoin_22 : decode cX1_tryJoin 22 = .ok (.invokestatic 112, 3) := by decide +kernel
theorem dX1_tryJoin_25 : decode cX1_tryJoin 25 = .ok (.ifCond .eq 48, 3) := by decide +kernel
theorem dX1_tryJoin_28 : decode cX1_tryJoin 28 = .ok (.aload_n 0, 1) := by decide +kernel
theorem dX1_tryJoin_29 : decode cX1_tryJoin 29 = .ok (.getfield 19, 3) := by decide +kernel
theorem dX1_tryJoin_32 : decode cX1_tryJoin 32 = .ok (.iload_n 1, 1) := by decide +kernel
theorem dX1_tryJoin_33 : decode cX1_tryJoin 33 = .ok (.iaload, 1) := by decide +kernel
theorem dX1_tryJoin_34 : decode cX1_tryJoin 34 = .ok (.aload_n 0, 1) := by decide +kernel
theorem dX1_tryJoin_35 : decode cX1_tryJoin 35 = .ok (.getfield 19, 3) := by decide +kernel
theorem dX1_tryJoin_38 : decode cX1_tryJoin 38 = .ok (.iload_n 2, 1) := by decide +kernel
theorem dX1_tryJoin_39 : decode cX1_tryJoin 39 = .ok (.iaload, 1) := by decide +kernel
theorem dX1_tryJoin_40 : decode cX1_tryJoin 40 = .ok (.if_icmp .ne 33, 3) := by decide +kernel
theorem dX1_tryJoin_43 : decode cX1_tryJoin 43 = .ok (.aload_n 0, 1) := by decide +kernel
theorem dX1_tryJoin_44 : decode cX1_tryJoin 44 = .ok (.getfield 22, 3) := by decide +kernel
theorem dX1_tryJoin_47 : decode cX1_tryJoin 47 = .ok (.iload_n 1, 1) := by decide +kernel
theorem dX1_tryJoin_48 : decode cX1_tryJoin 48 = .ok (.iaload, 1) := by decide +kernel
theorem dX1_tryJoin_49 : decode cX1_tryJoin 49 = .ok (.aload_n 0, 1) := by decide +kernel
theorem dX1_tryJoin_50 : decode cX1_tryJoin 50 = .ok (.getfield 22, 3) := by decide +kernel
theorem dX1_tryJoin_53 : decode cX1_tryJoin 53 = .ok (.iload_n 2, 1) := by decide +kernel
theorem dX1_tryJoin_54 : decode cX1_tryJoin 54 = .ok (.iaload, 1) := by decide +kernel
theorem dX1_tryJoin_55 : decode cX1_tryJoin 55 = .ok (.if_icmp .ne 18, 3) := by decide +kernel
theorem dX1_tryJoin_58 : decode cX1_tryJoin 58 = .ok (.aload_n 0, 1) := by decide +kernel
theorem dX1_tryJoin_59 : decode cX1_tryJoin 59 = .ok (.getfield 30, 3) := by decide +kernel
theorem dX1_tryJoin_62 : decode cX1_tryJoin 62 = .ok (.iload_n 1, 1) := by decide +kernel
theorem dX1_tryJoin_63 : decode cX1_tryJoin 63 = .ok (.baload, 1) := by decide +kernel
theorem dX1_tryJoin_64 : decode cX1_tryJoin 64 = .ok (.aload_n 0, 1) := by decide +kernel
theorem dX1_tryJoin_65 : decode cX1_tryJoin 65 = .ok (.getfield 30, 3) := by decide +kernel
theorem dX1_tryJoin_68 : decode cX1_tryJoin 68 = .ok (.iload_n 2, 1) := by decide +kernel
theorem dX1_tryJoin_69 : decode cX1_tryJoin 69 = .ok (.baload, 1) := by decide +kernel
theorem dX1_tryJoin_70 : decode cX1_tryJoin 70 = .ok (.if_icmp .eq 5, 3) := by decide +kernel
theorem dX1_tryJoin_73 : decode cX1_tryJoin 73 = .ok (.iconst 0, 1) := by decide +kernel
theorem dX1_tryJoin_74 : decode cX1_tryJoin 74 = .ok (.ireturn, 1) := by decide +kernel
theorem dX1_tryJoin_75 : decode cX1_tryJoin 75 = .ok (.aload_n 0, 1) := by decide +kernel
theorem dX1_tryJoin_76 : decode cX1_tryJoin 76 = .ok (.iload_n 3, 1) := by decide +kernel
theorem dX1_tryJoin_77 : decode cX1_tryJoin 77 = .ok (.aload_n 0, 1) := by decide +kernel
theorem dX1_tryJoin_78 : decode cX1_tryJoin 78 = .ok (.getfield 15, 3) := by decide +kernel
theorem dX1_tryJoin_81 : decode cX1_tryJoin 81 = .ok (.iload_n 1, 1) := by decide +kernel
theorem dX1_tryJoin_82 : decode cX1_tryJoin 82 = .ok (.iaload, 1) := by decide +kernel
theorem dX1_tryJoin_83 : decode cX1_tryJoin 83 = .ok (.aload_n 0, 1) := by decide +kernel
theorem dX1_tryJoin_84 : decode cX1_tryJoin 84 = .ok (.getfield 15, 3) := by decide +kernel
theorem dX1_tryJoin_87 : decode cX1_tryJoin 87 = .ok (.iload_n 2, 1) := by decide +kernel
theorem dX1_tryJoin_88 : decode cX1_tryJoin 88 = .ok (.iaload, 1) := by decide +kernel
theorem dX1_tryJoin_89 : decode cX1_tryJoin 89 = .ok (.iadd, 1) := by decide +kernel
theorem dX1_tryJoin_90 : decode cX1_tryJoin 90 = .ok (.aload_n 0, 1) := by decide +kernel
theorem dX1_tryJoin_91 : decode cX1_tryJoin 91 = .ok (.getfield 19, 3) := by decide +kernel
theorem dX1_tryJoin_94 : decode cX1_tryJoin 94 = .ok (.iload_n 1, 1) := by decide +kernel
theorem dX1_tryJoin_95 : decode cX1_tryJoin 95 = .ok (.iaload, 1) := by decide +kernel
theorem dX1_tryJoin_96 : decode cX1_tryJoin 96 = .ok (.aload_n 0, 1) := by decide +kernel
theorem dX1_tryJoin_97 : decode cX1_tryJoin 97 = .ok (.getfield 22, 3) := by decide +kernel
theorem dX1_tryJoin_100 : decode cX1_tryJoin 100 = .ok (.iload_n 1, 1) := by decide +kernel
theorem dX1_tryJoin_101 : decode cX1_tryJoin 101 = .ok (.iaload, 1) := by decide +kernel
theorem dX1_tryJoin_102 : decode cX1_tryJoin 102 = .ok (.invokevirtual 88, 3) := by decide +kernel
theorem dX1_tryJoin_105 : decode cX1_tryJoin 105 = .ok (.pop, 1) := by decide +kernel
theorem dX1_tryJoin_106 : decode cX1_tryJoin 106 = .ok (.aload_n 0, 1) := by decide +kernel
theorem dX1_tryJoin_107 : decode cX1_tryJoin 107 = .ok (.getfield 30, 3) := by decide +kernel
theorem dX1_tryJoin_110 : decode cX1_tryJoin 110 = .ok (.iload_n 3, 1) := by decide +kernel
theorem dX1_tryJoin_111 : decode cX1_tryJoin 111 = .ok (.aload_n 0, 1) := by decide +kernel
theorem dX1_tryJoin_112 : decode cX1_tryJoin 112 = .ok (.getfield 30, 3) := by decide +kernel
theorem dX1_tryJoin_115 : decode cX1_tryJoin 115 = .ok (.iload_n 1, 1) := by decide +kernel
theorem dX1_tryJoin_116 : decode cX1_tryJoin 116 = .ok (.baload, 1) := by decide +kernel
theorem dX1_tryJoin_117 : decode cX1_tryJoin 117 = .ok (.bastore, 1) := by decide +kernel
theorem dX1_tryJoin_118 : decode cX1_tryJoin 118 = .ok (.iconst 0, 1) := by decide +kernel
theorem dX1_tryJoin_119 : decode cX1_tryJoin 119 = .ok (.istore 4, 2) := by decide +kernel
theorem dX1_tryJoin_121 : decode cX1_tryJoin 121 = .ok (.iload 4, 2) := by decide +kernel
theorem dX1_tryJoin_123 : decode cX1_tryJoin 123 = .ok (.iconst 3, 1) := by decide +kernel
theorem dX1_tryJoin_124 : decode cX1_tryJoin 124 = .ok (.if_icmp .ge 37, 3) := by decide +kernel
theorem dX1_tryJoin_127 : decode cX1_tryJoin 127 = .ok (.aload_n 0, 1) := by decide +kernel
theorem dX1_tryJoin_128 : decode cX1_tryJoin 128 = .ok (.getfield 27, 3) := by decide +kernel
theorem dX1_tryJoin_131 : decode cX1_tryJoin 131 = .ok (.iload 4, 2) := by decide +kernel
theorem dX1_tryJoin_133 : decode cX1_tryJoin 133 = .ok (.aaload, 1) := by decide +kernel
theorem dX1_tryJoin_134 : decode cX1_tryJoin 134 = .ok (.iload_n 3, 1) := by decide +kernel
theorem dX1_tryJoin_135 : decode cX1_tryJoin 135 = .ok (.aload_n 0, 1) := by decide +kernel
theorem dX1_tryJoin_136 : decode cX1_tryJoin 136 = .ok (.getfield 27, 3) := by decide +kernel
theorem dX1_tryJoin_139 : decode cX1_tryJoin 139 = .ok (.iload 4, 2) := by decide +kernel
theorem dX1_tryJoin_141 : decode cX1_tryJoin 141 = .ok (.aaload, 1) := by decide +kernel
theorem dX1_tryJoin_142 : decode cX1_tryJoin 142 = .ok (.iload_n 1, 1) := by decide +kernel
theorem dX1_tryJoin_143 : decode cX1_tryJoin 143 = .ok (.iaload, 1) := by decide +kernel
theorem dX1_tryJoin_144 : decode cX1_tryJoin 144 = .ok (.aload_n 0, 1) := by decide +kernel
theorem dX1_tryJoin_145 : decode cX1_tryJoin 145 = .ok (.getfield 27, 3) := by decide +kernel
theorem dX1_tryJoin_148 : decode cX1_tryJoin 148 = .ok (.iload 4, 2) := by decide +kernel
theorem dX1_tryJoin_150 : decode cX1_tryJoin 150 = .ok (.aaload, 1) := by decide +kernel
theorem dX1_tryJoin_151 : decode cX1_tryJoin 151 = .ok (.iload_n 2, 1) := by decide +kernel
theorem dX1_tryJoin_152 : decode cX1_tryJoin 152 = .ok (.iaload, 1) := by decide +kernel
theorem dX1_tryJoin_153 : decode cX1_tryJoin 153 = .ok (.iadd, 1) := by decide +kernel
theorem dX1_tryJoin_154 : decode cX1_tryJoin 154 = .ok (.iastore, 1) := by decide +kernel
theorem dX1_tryJoin_155 : decode cX1_tryJoin 155 = .ok (.iinc 4 1, 3) := by decide +kernel
theorem dX1_tryJoin_158 : decode cX1_tryJoin 158 = .ok (.goto (-37), 3) := by decide +kernel
theorem dX1_tryJoin_161 : decode cX1_tryJoin 161 = .ok (.aload_n 0, 1) := by decide +kernel
theorem dX1_tryJoin_162 : decode cX1_tryJoin 162 = .ok (.getfield 9, 3) := by decide +kernel
theorem dX1_tryJoin_165 : decode cX1_tryJoin 165 = .ok (.iload_n 1, 1) := by decide +kernel
theorem dX1_tryJoin_166 : decode cX1_tryJoin 166 = .ok (.iconst 0, 1) := by decide +kernel
theorem dX1_tryJoin_167 : decode cX1_tryJoin 167 = .ok (.bastore, 1) := by decide +kernel
theorem dX1_tryJoin_168 : decode cX1_tryJoin 168 = .ok (.aload_n 0, 1) := by decide +kernel
theorem dX1_tryJoin_169 : decode cX1_tryJoin 169 = .ok (.getfield 9, 3) := by decide +kernel
theorem dX1_tryJoin_172 : decode cX1_tryJoin 172 = .ok (.iload_n 2, 1) := by decide +kernel
theorem dX1_tryJoin_173 : decode cX1_tryJoin 173 = .ok (.iconst 0, 1) := by decide +kernel
theorem dX1_tryJoin_174 : decode cX1_tryJoin 174 = .ok (.bastore, 1) := by decide +kernel
theorem dX1_tryJoin_175 : decode cX1_tryJoin 175 = .ok (.iconst 1, 1) := by decide +kernel
theorem dX1_tryJoin_176 : decode cX1_tryJoin 176 = .ok (.ireturn, 1) := by decide +kernel
set_option maxRecDepth 20000 in
theorem ggX1_trySell_X1_isThere : GoodIn wsX1_trySell wsX1_isThere := goodIn_r _ [6, 7, 8, 9, 10, 11, 12, 13, 14, 15, 16, 17, 18, 19] (by decide +kernel) (by decide +kernel)
set_option maxRecDepth 20000 in
theorem gX1_trySell_X1_isThere : GoodIn wsX1_trySell (wsV RX1 119 RX1 yX1_isThere wsX1_isThere) := goodIn_app (goodIn_of _ (by decide +kernel)) ggX1_trySell_X1_isThere
theorem dX1_trySell_0 : decode cX1_trySell 0 = .ok (.aload_n 0, 1) := by decide +kernel
theorem dX1_trySell_1 : decode cX1_trySell 1 = .ok (.iload_n 1, 1) := by decide +kernel
theorem dX1_trySell_2 : decode cX1_trySell 2 = .ok (.invokevirtual 119, 3) := by decide +kernel
theorem dX1_trySell_5 : decode cX1_trySell 5 = .ok (.ifCond .eq 13, 3) := by decide +kernel
theorem dX1_trySell_8 : decode cX1_trySell 8 = .ok (.aload_n 0, 1) := by decide +kernel
theorem dX1_trySell_9 : decode cX1_trySell 9 = .ok (.getfield 22, 3) := by decide +kernel
theorem dX1_trySell_12 : decode cX1_trySell 12 = .ok (.iload_n 1, 1) := by decide +kernel
theorem dX1_trySell_13 : decode cX1_trySell 13 = .ok (.iaload, 1) := by decide +kernel
theorem dX1_trySell_14 : decode cX1_trySell 14 = .ok (.iload_n 2, 1) := by decide +kernel
theorem dX1_trySell_15 : decode cX1_trySell 15 = .ok (.if_icmp .ne 5, 3) := by decide +kernel
theorem dX1_trySell_18 : decode cX1_trySell 18 = .ok (.iconst 0, 1) := by decide +kernel
theorem dX1_trySell_19 : decode cX1_trySell 19 = .ok (.ireturn, 1) := by decide +kernel
theorem dX1_trySell_20 : decode cX1_trySell 20 = .ok (.aload_n 0, 1) := by decide +kernel
theorem dX1_trySell_21 : decode cX1_trySell 21 = .ok (.getfield 22, 3) := by decide +kernel
theorem dX1_trySell_24 : decode cX1_trySell 24 = .ok (.iload_n 1, 1) := by decide +kernel
theorem dX1_trySell_25 : decode cX1_trySell 25 = .ok (.iload_n 2, 1) := by decide +kernel
theorem dX1_trySell_26 : decode cX1_trySell 26 = .ok (.iastore, 1) := by decide +kernel
theorem dX1_trySell_27 : decode cX1_trySell 27 = .ok (.iconst 1, 1) := by decide +kernel
theorem dX1_trySell_28 : decode cX1_trySell 28 = .ok (.ireturn, 1) := by decide +kernel
set_option maxRecDepth 20000 in
theorem ggX1_tryBuy_X1_isThere : GoodIn wsX1_tryBuy wsX1_isThere := goodIn_r _ [7, 8, 14, 15, 16, 17, 18, 19, 20, 21, 22, 23, 24, 25] (by decide +kernel) (by decide +kernel)
set_option maxRecDepth 20000 in
theorem gX1_tryBuy_X1_isThere : GoodIn wsX1_tryBuy (wsV RX1 119 RX1 yX1_isThere wsX1_isThere) := goodIn_app (goodIn_of _ (by decide +kernel)) ggX1_tryBuy_X1_isThere
set_option maxRecDepth 20000 in
theorem ggX1_tryBuy_X1_clearCharge : GoodIn wsX1_tryBuy wsX1_clearCharge := goodIn_r _ [12, 13, 14, 15, 16, 17, 18, 19, 20, 21, 22, 23, 24, 25] (by decide +kernel) (by decide +kernel)
set_option maxRecDepth 20000 in
theorem gX1_tryBuy_X1_clearCharge : GoodIn wsX1_tryBuy (wsV RX1 115 RX1 yX1_clearCharge wsX1_clearCharge) := goodIn_app (goodIn_of _ (by decide +kernel)) ggX1_tryBuy_X1_clearCharge
theorem dX1_tryBuy_0 : decode cX1_tryBuy 0 = .ok (.aload_n 0, 1) := by decide +kernel
theorem dX1_tryBuy_1 : decode cX1_tryBuy 1 = .ok (.getfield 50, 3) := by decide +kernel
theorem dX1_tryBuy_4 : decode cX1_tryBuy 4 = .ok (.ifCond .eq 20, 3) := by decide +kernel
theorem dX1_tryBuy_7 : decode cX1_tryBuy 7 = .ok (.aload_n 0, 1) := by decide +kernel
theorem dX1_tryBuy_8 : decode cX1_tryBuy 8 = .ok (.iload_n 1, 1) := by decide +kernel
theorem dX1_tryBuy_9 : decode cX1_tryBuy 9 = .ok (.invokevirtual 119, 3) := by decide +kernel
theorem dX1_tryBuy_12 : decode cX1_tryBuy 12 = .ok (.ifCond .eq 12, 3) := by decide +kernel
theorem dX1_tryBuy_15 : decode cX1_tryBuy 15 = .ok (.aload_n 0, 1) := by decide +kernel
theorem dX1_tryBuy_16 : decode cX1_tryBuy 16 = .ok (.getfield 30, 3) := by decide +kernel
theorem dX1_tryBuy_19 : decode cX1_tryBuy 19 = .ok (.iload_n 1, 1) := by decide +kernel
theorem dX1_tryBuy_20 : decode cX1_tryBuy 20 = .ok (.baload, 1) := by decide +kernel
theorem dX1_tryBuy_21 : decode cX1_tryBuy 21 = .ok (.ifCond .eq 5, 3) := by decide +kernel
theorem dX1_tryBuy_24 : decode cX1_tryBuy 24 = .ok (.iconst 0, 1) := by decide +kernel
theorem dX1_tryBuy_25 : decode cX1_tryBuy 25 = .ok (.ireturn, 1) := by decide +kernel
theorem dX1_tryBuy_26 : decode cX1_tryBuy 26 = .ok (.aload_n 0, 1) := by decide +kernel
theorem dX1_tryBuy_27 : decode cX1_tryBuy 27 = .ok (.getfield 30, 3) := by decide +kernel
theorem dX1_tryBuy_30 : decode cX1_tryBuy 30 = .ok (.iload_n 1, 1) := by decide +kernel
theorem dX1_tryBuy_31 : decode cX1_tryBuy 31 = .ok (.iconst 1, 1) := by decide +kernel
theorem dX1_tryBuy_32 : decode cX1_tryBuy 32 = .ok (.bastore, 1) := by decide +kernel
theorem dX1_tryBuy_33 : decode cX1_tryBuy 33 = .ok (.aload_n 0, 1) := by decide +kernel
theorem dX1_tryBuy_34 : decode cX1_tryBuy 34 = .ok (.iload_n 1, 1) := by decide +kernel
theorem dX1_tryBuy_35 : decode cX1_tryBuy 35 = .ok (.invokevirtual 115, 3) := by decide +kernel
theorem dX1_tryBuy_38 : decode cX1_tryBuy 38 = .ok (.iconst 1, 1) := by decide +kernel
theorem dX1_tryBuy_39 : decode cX1_tryBuy 39 = .ok (.ireturn, 1) := by decide +kernel
set_option maxRecDepth 20000 in
theorem ggX1_trySettle_X1_weighAll : GoodIn wsX1_trySettle wsX1_weighAll := goodIn_r _ [6, 7, 8, 9, 10, 51, 52, 53, 54, 55, 56, 57, 58, 59, 60, 61, 62] (by decide +kernel) (by decide +kernel)
set_option maxRecDepth 20000 in
theorem gX1_trySettle_X1_weighAll : GoodIn wsX1_trySettle (wsV RX1 122 RX1 yX1_weighAll wsX1_weighAll) := goodIn_app (goodIn_of _ (by decide +kernel)) ggX1_trySettle_X1_weighAll
set_option maxRecDepth 20000 in
theorem ggX1_trySettle_X1_areMeansKnown : GoodIn wsX1_trySettle wsX1_areMeansKnown := goodIn_r _ [14, 15, 16, 17, 18, 19, 20, 21, 22, 23, 24, 25, 26, 27, 28, 29, 51, 52, 53, 54, 55, 56, 57, 58, 59, 60, 61, 62, 63, 64, 65, 66, 67, 68, 69, 70, 71, 72, 73, 74, 75, 76] (by decide +kernel) (by decide +kernel)
set_option maxRecDepth 20000 in
theorem gX1_trySettle_X1_areMeansKnown : GoodIn wsX1_trySettle (wsV RX1 126 RX1 yX1_areMeansKnown wsX1_areMeansKnown) := goodIn_app (goodIn_of _ (by decide +kernel)) ggX1_trySettle_X1_areMeansKnown
set_option maxRecDepth 20000 in
theorem ggX1_trySettle_X1_shareOut : GoodIn wsX1_trySettle wsX1_shareOut := goodIn_r _ [33, 7, 34, 35, 36, 37, 38, 5, 39, 51, 52, 53, 54, 55, 56, 57, 58, 59, 60, 61, 62] (by decide +kernel) (by decide +kernel)
set_option maxRecDepth 20000 in
theorem gX1_trySettle_X1_shareOut : GoodIn wsX1_trySettle (wsV RX1 129 RX1 yX1_shareOut wsX1_shareOut) := goodIn_app (goodIn_of _ (by decide +kernel)) ggX1_trySettle_X1_shareOut
set_option maxRecDepth 20000 in
theorem ggX1_trySettle_X1_chargeShare : GoodIn wsX1_trySettle wsX1_chargeShare := goodIn_r _ [43, 34, 15, 44, 45, 46, 47, 48, 49, 5, 50, 8, 51, 52, 53, 54, 55, 56, 57, 58, 59, 60, 61, 62] (by decide +kernel) (by decide +kernel)
set_option maxRecDepth 20000 in
theorem gX1_trySettle_X1_chargeShare : GoodIn wsX1_trySettle (wsV RX1 133 RX1 yX1_chargeShare wsX1_chargeShare) := goodIn_app (goodIn_of _ (by decide +kernel)) ggX1_trySettle_X1_chargeShare
theorem dX1_trySettle_0 : decode cX1_trySettle 0 = .ok (.aload_n 0, 1) := by decide +kernel
theorem dX1_trySettle_1 : decode cX1_trySettle 1 = .ok (.invokevirtual 122, 3) := by decide +kernel
theorem dX1_trySettle_4 : decode cX1_trySettle 4 = .ok (.lstore 4, 2) := by decide +kernel
theorem dX1_trySettle_6 : decode cX1_trySettle 6 = .ok (.aload_n 0, 1) := by decide +kernel
theorem dX1_trySettle_7 : decode cX1_trySettle 7 = .ok (.getfield 50, 3) := by decide +kernel
theorem dX1_trySettle_10 : decode cX1_trySettle 10 = .ok (.ifCond .ne 19, 3) := by decide +kernel
theorem dX1_trySettle_13 : decode cX1_trySettle 13 = .ok (.lload 4, 2) := by decide +kernel
theorem dX1_trySettle_15 : decode cX1_trySettle 15 = .ok (.lconst 0, 1) := by decide +kernel
theorem dX1_trySettle_16 : decode cX1_trySettle 16 = .ok (.lcmp, 1) := by decide +kernel
theorem dX1_trySettle_17 : decode cX1_trySettle 17 = .ok (.ifCond .le 12, 3) := by decide +kernel
theorem dX1_trySettle_20 : decode cX1_trySettle 20 = .ok (.aload_n 0, 1) := by decide +kernel
theorem dX1_trySettle_21 : decode cX1_trySettle 21 = .ok (.iload_n 2, 1) := by decide +kernel
theorem dX1_trySettle_22 : decode cX1_trySettle 22 = .ok (.iload_n 3, 1) := by decide +kernel
theorem dX1_trySettle_23 : decode cX1_trySettle 23 = .ok (.invokevirtual 126, 3) := by decide +kernel
theorem dX1_trySettle_26 : decode cX1_trySettle 26 = .ok (.ifCond .ne 5, 3) := by decide +kernel
theorem dX1_trySettle_29 : decode cX1_trySettle 29 = .ok (.iconst 0, 1) := by decide +kernel
theorem dX1_trySettle_30 : decode cX1_trySettle 30 = .ok (.ireturn, 1) := by decide +kernel
theorem dX1_trySettle_31 : decode cX1_trySettle 31 = .ok (.aload_n 0, 1) := by decide +kernel
theorem dX1_trySettle_32 : decode cX1_trySettle 32 = .ok (.iload_n 1, 1) := by decide +kernel
theorem dX1_trySettle_33 : decode cX1_trySettle 33 = .ok (.lload 4, 2) := by decide +kernel
theorem dX1_trySettle_35 : decode cX1_trySettle 35 = .ok (.invokevirtual 129, 3) := by decide +kernel
theorem dX1_trySettle_38 : decode cX1_trySettle 38 = .ok (.iconst 0, 1) := by decide +kernel
theorem dX1_trySettle_39 : decode cX1_trySettle 39 = .ok (.istore 6, 2) := by decide +kernel
theorem dX1_trySettle_41 : decode cX1_trySettle 41 = .ok (.iload 6, 2) := by decide +kernel
theorem dX1_trySettle_43 : decode cX1_trySettle 43 = .ok (.bipush 60, 2) := by decide +kernel
theorem dX1_trySettle_45 : decode cX1_trySettle 45 = .ok (.if_icmp .ge 15, 3) := by decide +kernel
theorem dX1_trySettle_48 : decode cX1_trySettle 48 = .ok (.aload_n 0, 1) := by decide +kernel
theorem dX1_trySettle_49 : decode cX1_trySettle 49 = .ok (.iload 6, 2) := by decide +kernel
theorem dX1_trySettle_51 : decode cX1_trySettle 51 = .ok (.invokevirtual 133, 3) := by decide +kernel
theorem dX1_trySettle_54 : decode cX1_trySettle 54 = .ok (.iinc 6 1, 3) := by decide +kernel
theorem dX1_trySettle_57 : decode cX1_trySettle 57 = .ok (.goto (-16), 3) := by decide +kernel
theorem dX1_trySettle_60 : decode cX1_trySettle 60 = .ok (.aload_n 0, 1) := by decide +kernel
theorem dX1_trySettle_61 : decode cX1_trySettle 61 = .ok (.iconst 1, 1) := by decide +kernel
theorem dX1_trySettle_62 : decode cX1_trySettle 62 = .ok (.putfield 50, 3) := by decide +kernel
theorem dX1_trySettle_65 : decode cX1_trySettle 65 = .ok (.iconst 1, 1) := by decide +kernel
theorem dX1_trySettle_66 : decode cX1_trySettle 66 = .ok (.ireturn, 1) := by decide +kernel
theorem dX1_weighAll_0 : decode cX1_weighAll 0 = .ok (.lconst 0, 1) := by decide +kernel
theorem dX1_weighAll_1 : decode cX1_weighAll 1 = .ok (.lstore_n 1, 1) := by decide +kernel
theorem dX1_weighAll_2 : decode cX1_weighAll 2 = .ok (.iconst 0, 1) := by decide +kernel
theorem dX1_weighAll_3 : decode cX1_weighAll 3 = .ok (.istore_n 3, 1) := by decide +kernel
theorem dX1_weighAll_4 : decode cX1_weighAll 4 = .ok (.iload_n 3, 1) := by decide +kernel
theorem dX1_weighAll_5 : decode cX1_weighAll 5 = .ok (.bipush 60, 2) := by decide +kernel
theorem dX1_weighAll_7 : decode cX1_weighAll 7 = .ok (.if_icmp .ge 54, 3) := by decide +kernel
theorem dX1_weighAll_10 : decode cX1_weighAll 10 = .ok (.aload_n 0, 1) := by decide +kernel
theorem dX1_weighAll_11 : decode cX1_weighAll 11 = .ok (.getfield 33, 3) := by decide +kernel
theorem dX1_weighAll_14 : decode cX1_weighAll 14 = .ok (.iload_n 3, 1) := by decide +kernel
theorem dX1_weighAll_15 : decode cX1_weighAll 15 = .ok (.aload_n 0, 1) := by decide +kernel
theorem dX1_weighAll_16 : decode cX1_weighAll 16 = .ok (.getfield 9, 3) := by decide +kernel
theorem dX1_weighAll_19 : decode cX1_weighAll 19 = .ok (.iload_n 3, 1) := by decide +kernel
theorem dX1_weighAll_20 : decode cX1_weighAll 20 = .ok (.baload, 1) := by decide +kernel
theorem dX1_weighAll_21 : decode cX1_weighAll 21 = .ok (.ifCond .eq 23, 3) := by decide +kernel
theorem dX1_weighAll_24 : decode cX1_weighAll 24 = .ok (.aload_n 0, 1) := by decide +kernel
theorem dX1_weighAll_25 : decode cX1_weighAll 25 = .ok (.getfield 15, 3) := by decide +kernel
theorem dX1_weighAll_28 : decode cX1_weighAll 28 = .ok (.iload_n 3, 1) := by decide +kernel
theorem dX1_weighAll_29 : decode cX1_weighAll 29 = .ok (.iaload, 1) := by decide +kernel
theorem dX1_weighAll_30 : decode cX1_weighAll 30 = .ok (.i2l, 1) := by decide +kernel
theorem dX1_weighAll_31 : decode cX1_weighAll 31 = .ok (.iconst 3, 1) := by decide +kernel
theorem dX1_weighAll_32 : decode cX1_weighAll 32 = .ok (.aload_n 0, 1) := by decide +kernel
theorem dX1_weighAll_33 : decode cX1_weighAll 33 = .ok (.getfield 19, 3) := by decide +kernel
theorem dX1_weighAll_36 : decode cX1_weighAll 36 = .ok (.iload_n 3, 1) := by decide +kernel
theorem dX1_weighAll_37 : decode cX1_weighAll 37 = .ok (.iaload, 1) := by decide +kernel
theorem dX1_weighAll_38 : decode cX1_weighAll 38 = .ok (.isub, 1) := by decide +kernel
theorem dX1_weighAll_39 : decode cX1_weighAll 39 = .ok (.i2l, 1) := by decide +kernel
theorem dX1_weighAll_40 : decode cX1_weighAll 40 = .ok (.lmul, 1) := by decide +kernel
theorem dX1_weighAll_41 : decode cX1_weighAll 41 = .ok (.goto 4, 3) := by decide +kernel
theorem dX1_weighAll_44 : decode cX1_weighAll 44 = .ok (.lconst 0, 1) := by decide +kernel
theorem dX1_weighAll_45 : decode cX1_weighAll 45 = .ok (.lastore, 1) := by decide +kernel
theorem dX1_weighAll_46 : decode cX1_weighAll 46 = .ok (.lload_n 1, 1) := by decide +kernel
theorem dX1_weighAll_47 : decode cX1_weighAll 47 = .ok (.aload_n 0, 1) := by decide +kernel
theorem dX1_weighAll_48 : decode cX1_weighAll 48 = .ok (.getfield 33, 3) := by decide +kernel
theorem dX1_weighAll_51 : decode cX1_weighAll 51 = .ok (.iload_n 3, 1) := by decide +kernel
theorem dX1_weighAll_52 : decode cX1_weighAll 52 = .ok (.laload, 1) := by decide +kernel
theorem dX1_weighAll_53 : decode cX1_weighAll 53 = .ok (.ladd, 1) := by decide +kernel
theorem dX1_weighAll_54 : decode cX1_weighAll 54 = .ok (.lstore_n 1, 1) := by decide +kernel
theorem dX1_weighAll_55 : decode cX1_weighAll 55 = .ok (.iinc 3 1, 3) := by decide +kernel
theorem dX1_weighAll_58 : decode cX1_weighAll 58 = .ok (.goto (-54), 3) := by decide +kernel
theorem dX1_weighAll_61 : decode cX1_weighAll 61 = .ok (.lload_n 1, 1) := by decide +kernel
theorem dX1_weighAll_62 : decode cX1_weighAll 62 = .ok (.lreturn, 1) := by decide +kernel
set_option maxRecDepth 20000 in
theorem ggX1_shareOut_X1_greatestRemainder : GoodIn wsX1_shareOut wsX1_greatestRemainder := goodIn_r _ [8, 3, 9, 10, 11, 12, 13, 14, 15, 16, 17, 18, 19, 20] (by decide +kernel) (by decide +kernel)
set_option maxRecDepth 20000 in
theorem gX1_shareOut_X1_greatestRemainder : GoodIn wsX1_shareOut (wsV RX1 136 RX1 yX1_greatestRemainder wsX1_greatestRemainder) := goodIn_app (goodIn_of _ (by decide +kernel)) ggX1_shareOut_X1_greatestRemainder
theorem dX1_shareOut_0 : decode cX1_shareOut 0 = .ok (.iload_n 1, 1) := by decide +kernel
theorem dX1_shareOut_1 : decode cX1_shareOut 1 = .ok (.istore 4, 2) := by decide +kernel
theorem dX1_shareOut_3 : decode cX1_shareOut 3 = .ok (.iconst 0, 1) := by decide +kernel
theorem dX1_shareOut_4 : decode cX1_shareOut 4 = .ok (.istore 5, 2) := by decide +kernel
theorem dX1_shareOut_6 : decode cX1_shareOut 6 = .ok (.iload 5, 2) := by decide +kernel
theorem dX1_shareOut_8 : decode cX1_shareOut 8 = .ok (.bipush 60, 2) := by decide +kernel
theorem dX1_shareOut_10 : decode cX1_shareOut 10 = .ok (.if_icmp .ge 62, 3) := by decide +kernel
theorem dX1_shareOut_13 : decode cX1_shareOut 13 = .ok (.lload_n 2, 1) := by decide +kernel
theorem dX1_shareOut_14 : decode cX1_shareOut 14 = .ok (.lconst 0, 1) := by decide +kernel
theorem dX1_shareOut_15 : decode cX1_shareOut 15 = .ok (.lcmp, 1) := by decide +kernel
theorem dX1_shareOut_16 : decode cX1_shareOut 16 = .ok (.ifCond .le 56, 3) := by decide +kernel
theorem dX1_shareOut_19 : decode cX1_shareOut 19 = .ok (.iload_n 1, 1) := by decide +kernel
theorem dX1_shareOut_20 : decode cX1_shareOut 20 = .ok (.i2l, 1) := by decide +kernel
theorem dX1_shareOut_21 : decode cX1_shareOut 21 = .ok (.aload_n 0, 1) := by decide +kernel
theorem dX1_shareOut_22 : decode cX1_shareOut 22 = .ok (.getfield 33, 3) := by decide +kernel
theorem dX1_shareOut_25 : decode cX1_shareOut 25 = .ok (.iload 5, 2) := by decide +kernel
theorem dX1_shareOut_27 : decode cX1_shareOut 27 = .ok (.laload, 1) := by decide +kernel
theorem dX1_shareOut_28 : decode cX1_shareOut 28 = .ok (.lmul, 1) := by decide +kernel
theorem dX1_shareOut_29 : decode cX1_shareOut 29 = .ok (.lstore 6, 2) := by decide +kernel
theorem dX1_shareOut_31 : decode cX1_shareOut 31 = .ok (.aload_n 0, 1) := by decide +kernel
theorem dX1_shareOut_32 : decode cX1_shareOut 32 = .ok (.getfield 37, 3) := by decide +kernel
theorem dX1_shareOut_35 : decode cX1_shareOut 35 = .ok (.iload 5, 2) := by decide +kernel
theorem dX1_shareOut_37 : decode cX1_shareOut 37 = .ok (.lload 6, 2) := by decide +kernel
theorem dX1_shareOut_39 : decode cX1_shareOut 39 = .ok (.lload_n 2, 1) := by decide +kernel
theorem dX1_shareOut_40 : decode cX1_shareOut 40 = .ok (.ldiv, 1) := by decide +kernel
theorem dX1_shareOut_41 : decode cX1_shareOut 41 = .ok (.l2i, 1) := by decide +kernel
theorem dX1_shareOut_42 : decode cX1_shareOut 42 = .ok (.iastore, 1) := by decide +kernel
theorem dX1_shareOut_43 : decode cX1_shareOut 43 = .ok (.aload_n 0, 1) := by decide +kernel
theorem dX1_shareOut_44 : decode cX1_shareOut 44 = .ok (.getfield 40, 3) := by decide +kernel
theorem dX1_shareOut_47 : decode cX1_shareOut 47 = .ok (.iload 5, 2) := by decide +kernel
theorem dX1_shareOut_49 : decode cX1_shareOut 49 = .ok (.lload 6, 2) := by decide +kernel
theorem dX1_shareOut_51 : decode cX1_shareOut 51 = .ok (.lload_n 2, 1) := by decide +kernel
theorem dX1_shareOut_52 : decode cX1_shareOut 52 = .ok (.lrem, 1) := by decide +kernel
theorem dX1_shareOut_53 : decode cX1_shareOut 53 = .ok (.lastore, 1) := by decide +kernel
theorem dX1_shareOut_54 : decode cX1_shareOut 54 = .ok (.iload 4, 2) := by decide +kernel
theorem dX1_shareOut_56 : decode cX1_shareOut 56 = .ok (.aload_n 0, 1) := by decide +kernel
theorem dX1_shareOut_57 : decode cX1_shareOut 57 = .ok (.getfield 37, 3) := by decide +kernel
theorem dX1_shareOut_60 : decode cX1_shareOut 60 = .ok (.iload 5, 2) := by decide +kernel
theorem dX1_shareOut_62 : decode cX1_shareOut 62 = .ok (.iaload, 1) := by decide +kernel
theorem dX1_shareOut_63 : decode cX1_shareOut 63 = .ok (.isub, 1) := by decide +kernel
theorem dX1_shareOut_64 : decode cX1_shareOut 64 = .ok (.istore 4, 2) := by decide +kernel
theorem dX1_shareOut_66 : decode cX1_shareOut 66 = .ok (.iinc 5 1, 3) := by decide +kernel
theorem dX1_shareOut_69 : decode cX1_shareOut 69 = .ok (.goto (-63), 3) := by decide +kernel
theorem dX1_shareOut_72 : decode cX1_shareOut 72 = .ok (.iconst 0, 1) := by decide +kernel
theorem dX1_shareOut_73 : decode cX1_shareOut 73 = .ok (.istore 5, 2) := by decide +kernel
theorem dX1_shareOut_75 : decode cX1_shareOut 75 = .ok (.iload 5, 2) := by decide +kernel
theorem dX1_shareOut_77 : decode cX1_shareOut 77 = .ok (.iload 4, 2) := by decide +kernel
theorem dX1_shareOut_79 : decode cX1_shareOut 79 = .ok (.if_icmp .ge 41, 3) := by decide +kernel
theorem dX1_shareOut_82 : decode cX1_shareOut 82 = .ok (.iload 5, 2) := by decide +kernel
theorem dX1_shareOut_84 : decode cX1_shareOut 84 = .ok (.bipush 60, 2) := by decide +kernel
theorem dX1_shareOut_86 : decode cX1_shareOut 86 = .ok (.if_icmp .ge 34, 3) := by decide +kernel
theorem dX1_shareOut_89 : decode cX1_shareOut 89 = .ok (.aload_n 0, 1) := by decide +kernel
theorem dX1_shareOut_90 : decode cX1_shareOut 90 = .ok (.invokevirtual 136, 3) := by decide +kernel
theorem dX1_shareOut_93 : decode cX1_shareOut 93 = .ok (.istore 6, 2) := by decide +kernel
theorem dX1_shareOut_95 : decode cX1_shareOut 95 = .ok (.aload_n 0, 1) := by decide +kernel
theorem dX1_shareOut_96 : decode cX1_shareOut 96 = .ok (.getfield 37, 3) := by decide +kernel
theorem dX1_shareOut_99 : decode cX1_shareOut 99 = .ok (.iload 6, 2) := by decide +kernel
theorem dX1_shareOut_101 : decode cX1_shareOut 101 = .ok (.dup2, 1) := by decide +kernel
theorem dX1_shareOut_102 : decode cX1_shareOut 102 = .ok (.iaload, 1) := by decide +kernel
theorem dX1_shareOut_103 : decode cX1_shareOut 103 = .ok (.iconst 1, 1) := by decide +kernel
theorem dX1_shareOut_104 : decode cX1_shareOut 104 = .ok (.iadd, 1) := by decide +kernel
theorem dX1_shareOut_105 : decode cX1_shareOut 105 = .ok (.iastore, 1) := by decide +kernel
theorem dX1_shareOut_106 : decode cX1_shareOut 106 = .ok (.aload_n 0, 1) := by decide +kernel
theorem dX1_shareOut_107 : decode cX1_shareOut 107 = .ok (.getfield 40, 3) := by decide +kernel
theorem dX1_shareOut_110 : decode cX1_shareOut 110 = .ok (.iload 6, 2) := by decide +kernel
theorem dX1_shareOut_112 : decode cX1_shareOut 112 = .ok (.lconst 0, 1) := by decide +kernel
theorem dX1_shareOut_113 : decode cX1_shareOut 113 = .ok (.lastore, 1) := by decide +kernel
theorem dX1_shareOut_114 : decode cX1_shareOut 114 = .ok (.iinc 5 1, 3) := by decide +kernel
theorem dX1_shareOut_117 : decode cX1_shareOut 117 = .ok (.goto (-42), 3) := by decide +kernel
theorem dX1_shareOut_120 : decode cX1_shareOut 120 = .ok (.return_, 1) := by decide +kernel
theorem dX1_greatestRemainder_0 : decode cX1_greatestRemainder 0 = .ok (.iconst 0, 1) := by decide +kernel
theorem dX1_greatestRemainder_1 : decode cX1_greatestRemainder 1 = .ok (.istore_n 1, 1) := by decide +kernel
theorem dX1_greatestRemainder_2 : decode cX1_greatestRemainder 2 = .ok (.iconst 1, 1) := by decide +kernel
theorem dX1_greatestRemainder_3 : decode cX1_greatestRemainder 3 = .ok (.istore_n 2, 1) := by decide +kernel
theorem dX1_greatestRemainder_4 : decode cX1_greatestRemainder 4 = .ok (.iload_n 2, 1) := by decide +kernel
theorem dX1_greatestRemainder_5 : decode cX1_greatestRemainder 5 = .ok (.bipush 60, 2) := by decide +kernel
theorem dX1_greatestRemainder_7 : decode cX1_greatestRemainder 7 = .ok (.if_icmp .ge 27, 3) := by decide +kernel
theorem dX1_greatestRemainder_10 : decode cX1_greatestRemainder 10 = .ok (.aload_n 0, 1) := by decide +kernel
theorem dX1_greatestRemainder_11 : decode cX1_greatestRemainder 11 = .ok (.getfield 40, 3) := by decide +kernel
theorem dX1_greatestRemainder_14 : decode cX1_greatestRemainder 14 = .ok (.iload_n 2, 1) := by decide +kernel
theorem dX1_greatestRemainder_15 : decode cX1_greatestRemainder 15 = .ok (.laload, 1) := by decide +kernel
theorem dX1_greatestRemainder_16 : decode cX1_greatestRemainder 16 = .ok (.aload_n 0, 1) := by decide +kernel
theorem dX1_greatestRemainder_17 : decode cX1_greatestRemainder 17 = .ok (.getfield 40, 3) := by decide +kernel
theorem dX1_greatestRemainder_20 : decode cX1_greatestRemainder 20 = .ok (.iload_n 1, 1) := by decide +kernel
theorem dX1_greatestRemainder_21 : decode cX1_greatestRemainder 21 = .ok (.laload, 1) := by decide +kernel
theorem dX1_greatestRemainder_22 : decode cX1_greatestRemainder 22 = .ok (.lcmp, 1) := by decide +kernel
theorem dX1_greatestRemainder_23 : decode cX1_greatestRemainder 23 = .ok (.ifCond .le 5, 3) := by decide +kernel
theorem dX1_greatestRemainder_26 : decode cX1_greatestRemainder 26 = .ok (.iload_n 2, 1) := by decide +kernel
theorem dX1_greatestRemainder_27 : decode cX1_greatestRemainder 27 = .ok (.istore_n 1, 1) := by decide +kernel
theorem dX1_greatestRemainder_28 : decode cX1_greatestRemainder 28 = .ok (.iinc 2 1, 3) := by decide +kernel
theorem dX1_greatestRemainder_31 : decode cX1_greatestRemainder 31 = .ok (.goto (-27), 3) := by decide +kernel
theorem dX1_greatestRemainder_34 : decode cX1_greatestRemainder 34 = .ok (.iload_n 1, 1) := by decide +kernel
theorem dX1_greatestRemainder_35 : decode cX1_greatestRemainder 35 = .ok (.ireturn, 1) := by decide +kernel
set_option maxRecDepth 20000 in
theorem ggX1_chargeShare_X1_isThere : GoodIn wsX1_chargeShare wsX1_isThere := goodIn_r _ [10, 11, 12, 13, 14, 15, 16, 17, 18, 19, 20, 21, 22, 23] (by decide +kernel) (by decide +kernel)
set_option maxRecDepth 20000 in
theorem gX1_chargeShare_X1_isThere : GoodIn wsX1_chargeShare (wsV RX1 119 RX1 yX1_isThere wsX1_isThere) := goodIn_app (goodIn_of _ (by decide +kernel)) ggX1_chargeShare_X1_isThere
theorem dX1_chargeShare_0 : decode cX1_chargeShare 0 = .ok (.aload_n 0, 1) := by decide +kernel
theorem dX1_chargeShare_1 : decode cX1_chargeShare 1 = .ok (.iload_n 1, 1) := by decide +kernel
theorem dX1_chargeShare_2 : decode cX1_chargeShare 2 = .ok (.invokevirtual 119, 3) := by decide +kernel
theorem dX1_chargeShare_5 : decode cX1_chargeShare 5 = .ok (.ifCond .ne 4, 3) := by decide +kernel
theorem dX1_chargeShare_8 : decode cX1_chargeShare 8 = .ok (.return_, 1) := by decide +kernel
theorem dX1_chargeShare_9 : decode cX1_chargeShare 9 = .ok (.aload_n 0, 1) := by decide +kernel
theorem dX1_chargeShare_10 : decode cX1_chargeShare 10 = .ok (.getfield 37, 3) := by decide +kernel
theorem dX1_chargeShare_13 : decode cX1_chargeShare 13 = .ok (.iload_n 1, 1) := by decide +kernel
theorem dX1_chargeShare_14 : decode cX1_chargeShare 14 = .ok (.iaload, 1) := by decide +kernel
theorem dX1_chargeShare_15 : decode cX1_chargeShare 15 = .ok (.iconst 3, 1) := by decide +kernel
theorem dX1_chargeShare_16 : decode cX1_chargeShare 16 = .ok (.irem, 1) := by decide +kernel
theorem dX1_chargeShare_17 : decode cX1_chargeShare 17 = .ok (.istore_n 2, 1) := by decide +kernel
theorem dX1_chargeShare_18 : decode cX1_chargeShare 18 = .ok (.iconst 0, 1) := by decide +kernel
theorem dX1_chargeShare_19 : decode cX1_chargeShare 19 = .ok (.istore_n 3, 1) := by decide +kernel
theorem dX1_chargeShare_20 : decode cX1_chargeShare 20 = .ok (.iload_n 3, 1) := by decide +kernel
theorem dX1_chargeShare_21 : decode cX1_chargeShare 21 = .ok (.iconst 3, 1) := by decide +kernel
theorem dX1_chargeShare_22 : decode cX1_chargeShare 22 = .ok (.if_icmp .ge 72, 3) := by decide +kernel
theorem dX1_chargeShare_25 : decode cX1_chargeShare 25 = .ok (.aload_n 0, 1) := by decide +kernel
theorem dX1_chargeShare_26 : decode cX1_chargeShare 26 = .ok (.getfield 37, 3) := by decide +kernel
theorem dX1_chargeShare_29 : decode cX1_chargeShare 29 = .ok (.iload_n 1, 1) := by decide +kernel
theorem dX1_chargeShare_30 : decode cX1_chargeShare 30 = .ok (.iaload, 1) := by decide +kernel
theorem dX1_chargeShare_31 : decode cX1_chargeShare 31 = .ok (.iconst 3, 1) := by decide +kernel
theorem dX1_chargeShare_32 : decode cX1_chargeShare 32 = .ok (.idiv, 1) := by decide +kernel
theorem dX1_chargeShare_33 : decode cX1_chargeShare 33 = .ok (.iload_n 3, 1) := by decide +kernel
theorem dX1_chargeShare_34 : decode cX1_chargeShare 34 = .ok (.iload_n 2, 1) := by decide +kernel
theorem dX1_chargeShare_35 : decode cX1_chargeShare 35 = .ok (.if_icmp .ge 7, 3) := by decide +kernel
theorem dX1_chargeShare_38 : decode cX1_chargeShare 38 = .ok (.iconst 1, 1) := by decide +kernel
theorem dX1_chargeShare_39 : decode cX1_chargeShare 39 = .ok (.goto 4, 3) := by decide +kernel
theorem dX1_chargeShare_42 : decode cX1_chargeShare 42 = .ok (.iconst 0, 1) := by decide +kernel
theorem dX1_chargeShare_43 : decode cX1_chargeShare 43 = .ok (.iadd, 1) := by decide +kernel
theorem dX1_chargeShare_44 : decode cX1_chargeShare 44 = .ok (.i2l, 1) := by decide +kernel
theorem dX1_chargeShare_45 : decode cX1_chargeShare 45 = .ok (.lstore 4, 2) := by decide +kernel
theorem dX1_chargeShare_47 : decode cX1_chargeShare 47 = .ok (.aload_n 0, 1) := by decide +kernel
theorem dX1_chargeShare_48 : decode cX1_chargeShare 48 = .ok (.getfield 43, 3) := by decide +kernel
theorem dX1_chargeShare_51 : decode cX1_chargeShare 51 = .ok (.iload_n 3, 1) := by decide +kernel
theorem dX1_chargeShare_52 : decode cX1_chargeShare 52 = .ok (.iaload, 1) := by decide +kernel
theorem dX1_chargeShare_53 : decode cX1_chargeShare 53 = .ok (.i2l, 1) := by decide +kernel
theorem dX1_chargeShare_54 : decode cX1_chargeShare 54 = .ok (.lstore 6, 2) := by decide +kernel
theorem dX1_chargeShare_56 : decode cX1_chargeShare 56 = .ok (.lload 6, 2) := by decide +kernel
theorem dX1_chargeShare_58 : decode cX1_chargeShare 58 = .ok (.lconst 0, 1) := by decide +kernel
theorem dX1_chargeShare_59 : decode cX1_chargeShare 59 = .ok (.lcmp, 1) := by decide +kernel
theorem dX1_chargeShare_60 : decode cX1_chargeShare 60 = .ok (.ifCond .le 28, 3) := by decide +kernel
theorem dX1_chargeShare_63 : decode cX1_chargeShare 63 = .ok (.aload_n 0, 1) := by decide +kernel
theorem dX1_chargeShare_64 : decode cX1_chargeShare 64 = .ok (.getfield 27, 3) := by decide +kernel
theorem dX1_chargeShare_67 : decode cX1_chargeShare 67 = .ok (.iload_n 3, 1) := by decide +kernel
theorem dX1_chargeShare_68 : decode cX1_chargeShare 68 = .ok (.aaload, 1) := by decide +kernel
theorem dX1_chargeShare_69 : decode cX1_chargeShare 69 = .ok (.iload_n 1, 1) := by decide +kernel
theorem dX1_chargeShare_70 : decode cX1_chargeShare 70 = .ok (.ldc2_w 140, 3) := by decide +kernel
theorem dX1_chargeShare_73 : decode cX1_chargeShare 73 = .ok (.lload 4, 2) := by decide +kernel
theorem dX1_chargeShare_75 : decode cX1_chargeShare 75 = .ok (.lmul, 1) := by decide +kernel
theorem dX1_chargeShare_76 : decode cX1_chargeShare 76 = .ok (.lload 6, 2) := by decide +kernel
theorem dX1_chargeShare_78 : decode cX1_chargeShare 78 = .ok (.ladd, 1) := by decide +kernel
theorem dX1_chargeShare_79 : decode cX1_chargeShare 79 = .ok (.ldc2_w 142, 3) := by decide +kernel
theorem dX1_chargeShare_82 : decode cX1_chargeShare 82 = .ok (.lload 6, 2) := by decide +kernel
theorem dX1_chargeShare_84 : decode cX1_chargeShare 84 = .ok (.lmul, 1) := by decide +kernel
theorem dX1_chargeShare_85 : decode cX1_chargeShare 85 = .ok (.ldiv, 1) := by decide +kernel
theorem dX1_chargeShare_86 : decode cX1_chargeShare 86 = .ok (.l2i, 1) := by decide +kernel
theorem dX1_chargeShare_87 : decode cX1_chargeShare 87 = .ok (.iastore, 1) := by decide +kernel
theorem dX1_chargeShare_88 : decode cX1_chargeShare 88 = .ok (.iinc 3 1, 3) := by decide +kernel
theorem dX1_chargeShare_91 : decode cX1_chargeShare 91 = .ok (.goto (-71), 3) := by decide +kernel
theorem dX1_chargeShare_94 : decode cX1_chargeShare 94 = .ok (.return_, 1) := by decide +kernel
set_option maxRecDepth 20000 in
theorem ggX1_areMeansKnown_X0_mean : GoodIn wsX1_areMeansKnown wsX0_mean := goodIn_r _ [7, 8, 9, 10, 11, 12, 13, 14, 15, 28, 29, 30, 31, 32, 33, 34, 35, 36, 37, 38, 39, 40, 41] (by decide +kernel) (by decide +kernel)
set_option maxRecDepth 20000 in
theorem gX1_areMeansKnown_X0_mean : GoodIn wsX1_areMeansKnown (wsV RX1 144 RX0 yX0_mean wsX0_mean) := goodIn_app (goodIn_of _ (by decide +kernel)) ggX1_areMeansKnown_X0_mean
theorem dX1_areMeansKnown_0 : decode cX1_areMeansKnown 0 = .ok (.iconst 0, 1) := by decide +kernel
theorem dX1_areMeansKnown_1 : decode cX1_areMeansKnown 1 = .ok (.istore_n 3, 1) := by decide +kernel
theorem dX1_areMeansKnown_2 : decode cX1_areMeansKnown 2 = .ok (.iload_n 3, 1) := by decide +kernel
theorem dX1_areMeansKnown_3 : decode cX1_areMeansKnown 3 = .ok (.iconst 3, 1) := by decide +kernel
theorem dX1_areMeansKnown_4 : decode cX1_areMeansKnown 4 = .ok (.if_icmp .ge 37, 3) := by decide +kernel
theorem dX1_areMeansKnown_7 : decode cX1_areMeansKnown 7 = .ok (.aload_n 0, 1) := by decide +kernel
theorem dX1_areMeansKnown_8 : decode cX1_areMeansKnown 8 = .ok (.getfield 43, 3) := by decide +kernel
theorem dX1_areMeansKnown_11 : decode cX1_areMeansKnown 11 = .ok (.iload_n 3, 1) := by decide +kernel
theorem dX1_areMeansKnown_12 : decode cX1_areMeansKnown 12 = .ok (.aload_n 0, 1) := by decide +kernel
theorem dX1_areMeansKnown_13 : decode cX1_areMeansKnown 13 = .ok (.getfield 46, 3) := by decide +kernel
theorem dX1_areMeansKnown_16 : decode cX1_areMeansKnown 16 = .ok (.iload_n 1, 1) := by decide +kernel
theorem dX1_areMeansKnown_17 : decode cX1_areMeansKnown 17 = .ok (.iload_n 2, 1) := by decide +kernel
theorem dX1_areMeansKnown_18 : decode cX1_areMeansKnown 18 = .ok (.iload_n 3, 1) := by decide +kernel
theorem dX1_areMeansKnown_19 : decode cX1_areMeansKnown 19 = .ok (.invokevirtual 144, 3) := by decide +kernel
theorem dX1_areMeansKnown_22 : decode cX1_areMeansKnown 22 = .ok (.iastore, 1) := by decide +kernel
theorem dX1_areMeansKnown_23 : decode cX1_areMeansKnown 23 = .ok (.aload_n 0, 1) := by decide +kernel
theorem dX1_areMeansKnown_24 : decode cX1_areMeansKnown 24 = .ok (.getfield 43, 3) := by decide +kernel
theorem dX1_areMeansKnown_27 : decode cX1_areMeansKnown 27 = .ok (.iload_n 3, 1) := by decide +kernel
theorem dX1_areMeansKnown_28 : decode cX1_areMeansKnown 28 = .ok (.iaload, 1) := by decide +kernel
theorem dX1_areMeansKnown_29 : decode cX1_areMeansKnown 29 = .ok (.iconst (-1), 1) := by decide +kernel
theorem dX1_areMeansKnown_30 : decode cX1_areMeansKnown 30 = .ok (.if_icmp .ne 5, 3) := by decide +kernel
theorem dX1_areMeansKnown_33 : decode cX1_areMeansKnown 33 = .ok (.iconst 0, 1) := by decide +kernel
theorem dX1_areMeansKnown_34 : decode cX1_areMeansKnown 34 = .ok (.ireturn, 1) := by decide +kernel
theorem dX1_areMeansKnown_35 : decode cX1_areMeansKnown 35 = .ok (.iinc 3 1, 3) := by decide +kernel
theorem dX1_areMeansKnown_38 : decode cX1_areMeansKnown 38 = .ok (.goto (-36), 3) := by decide +kernel
theorem dX1_areMeansKnown_41 : decode cX1_areMeansKnown 41 = .ok (.iconst 1, 1) := by decide +kernel
theorem dX1_areMeansKnown_42 : decode cX1_areMeansKnown 42 = .ok (.ireturn, 1) := by decide +kernel
set_option maxRecDepth 20000 in
theorem ggX1_worth_X1_isThere : GoodIn wsX1_worth wsX1_isThere := goodIn_r _ [6, 7, 37, 38, 39, 40, 41, 42, 43, 44, 45, 46, 47, 48] (by decide +kernel) (by decide +kernel)
set_option maxRecDepth 20000 in
theorem gX1_worth_X1_isThere : GoodIn wsX1_worth (wsV RX1 119 RX1 yX1_isThere wsX1_isThere) := goodIn_app (goodIn_of _ (by decide +kernel)) ggX1_worth_X1_isThere
set_option maxRecDepth 20000 in
theorem ggX1_worth_X1_areMeansKnown : GoodIn wsX1_worth wsX1_areMeansKnown := goodIn_r _ [11, 12, 13, 14, 15, 16, 17, 18, 19, 20, 21, 22, 23, 24, 25, 26, 37, 38, 39, 40, 41, 42, 43, 44, 45, 46, 47, 48, 49, 50, 51, 52, 53, 54, 55, 56, 57, 58, 59, 60, 61, 62] (by decide +kernel) (by decide +kernel)
set_option maxRecDepth 20000 in
theorem gX1_worth_X1_areMeansKnown : GoodIn wsX1_worth (wsV RX1 126 RX1 yX1_areMeansKnown wsX1_areMeansKnown) := goodIn_app (goodIn_of _ (by decide +kernel)) ggX1_worth_X1_areMeansKnown
set_option maxRecDepth 20000 in
theorem ggX1_worth_X1_worthByMeans : GoodIn wsX1_worth wsX1_worthByMeans := goodIn_r _ [30, 31, 12, 32, 33, 34, 35, 5, 36, 37, 38, 39, 40, 41, 42, 43, 44, 45, 46, 47, 48] (by decide +kernel) (by decide +kernel)
set_option maxRecDepth 20000 in
theorem gX1_worth_X1_worthByMeans : GoodIn wsX1_worth (wsV RX1 148 RX1 yX1_worthByMeans wsX1_worthByMeans) := goodIn_app (goodIn_of _ (by decide +kernel)) ggX1_worth_X1_worthByMeans
theorem dX1_worth_0 : decode cX1_worth 0 = .ok (.aload_n 0, 1) := by decide +kernel
theorem dX1_worth_1 : decode cX1_worth 1 = .ok (.iload_n 3, 1) := by decide +kernel
theorem dX1_worth_2 : decode cX1_worth 2 = .ok (.invokevirtual 119, 3) := by decide +kernel
theorem dX1_worth_5 : decode cX1_worth 5 = .ok (.ifCond .eq 20, 3) := by decide +kernel
theorem dX1_worth_8 : decode cX1_worth 8 = .ok (.aload_n 0, 1) := by decide +kernel
theorem dX1_worth_9 : decode cX1_worth 9 = .ok (.iload_n 1, 1) := by decide +kernel
theorem dX1_worth_10 : decode cX1_worth 10 = .ok (.iload_n 2, 1) := by decide +kernel
theorem dX1_worth_11 : decode cX1_worth 11 = .ok (.invokevirtual 126, 3) := by decide +kernel
theorem dX1_worth_14 : decode cX1_worth 14 = .ok (.ifCond .eq 11, 3) := by decide +kernel
theorem dX1_worth_17 : decode cX1_worth 17 = .ok (.aload_n 0, 1) := by decide +kernel
theorem dX1_worth_18 : decode cX1_worth 18 = .ok (.iload_n 3, 1) := by decide +kernel
theorem dX1_worth_19 : decode cX1_worth 19 = .ok (.invokevirtual 148, 3) := by decide +kernel
theorem dX1_worth_22 : decode cX1_worth 22 = .ok (.goto 6, 3) := by decide +kernel
theorem dX1_worth_25 : decode cX1_worth 25 = .ok (.ldc2_w 152, 3) := by decide +kernel
theorem dX1_worth_28 : decode cX1_worth 28 = .ok (.lreturn, 1) := by decide +kernel
set_option maxRecDepth 20000 in
theorem ggX1_worthByMeans_X1_isNumber : GoodIn wsX1_worthByMeans wsX1_isNumber := goodIn_r _ [8] (by decide +kernel) (by decide +kernel)
set_option maxRecDepth 20000 in
theorem gX1_worthByMeans_X1_isNumber : GoodIn wsX1_worthByMeans (va_wsS RX1 112 yX1_isNumber wsX1_isNumber) := goodIn_app (goodIn_of _ (by decide +kernel)) ggX1_worthByMeans_X1_isNumber
theorem dX1_worthByMeans_0 : decode cX1_worthByMeans 0 = .ok (.lconst 0, 1) := by decide +kernel
theorem dX1_worthByMeans_1 : decode cX1_worthByMeans 1 = .ok (.lstore_n 2, 1) := by decide +kernel
theorem dX1_worthByMeans_2 : decode cX1_worthByMeans 2 = .ok (.iconst 0, 1) := by decide +kernel
theorem dX1_worthByMeans_3 : decode cX1_worthByMeans 3 = .ok (.istore 4, 2) := by decide +kernel
theorem dX1_worthByMeans_5 : decode cX1_worthByMeans 5 = .ok (.iload 4, 2) := by decide +kernel
theorem dX1_worthByMeans_7 : decode cX1_worthByMeans 7 = .ok (.iconst 3, 1) := by decide +kernel
theorem dX1_worthByMeans_8 : decode cX1_worthByMeans 8 = .ok (.if_icmp .ge 38, 3) := by decide +kernel
theorem dX1_worthByMeans_11 : decode cX1_worthByMeans 11 = .ok (.iload_n 1, 1) := by decide +kernel
theorem dX1_worthByMeans_12 : decode cX1_worthByMeans 12 = .ok (.invokestatic 112, 3) := by decide +kernel
theorem dX1_worthByMeans_15 : decode cX1_worthByMeans 15 = .ok (.ifCond .eq 31, 3) := by decide +kernel
theorem dX1_worthByMeans_18 : decode cX1_worthByMeans 18 = .ok (.lload_n 2, 1) := by decide +kernel
theorem dX1_worthByMeans_19 : decode cX1_worthByMeans 19 = .ok (.aload_n 0, 1) := by decide +kernel
theorem dX1_worthByMeans_20 : decode cX1_worthByMeans 20 = .ok (.getfield 27, 3) := by decide +kernel
theorem dX1_worthByMeans_23 : decode cX1_worthByMeans 23 = .ok (.iload 4, 2) := by decide +kernel
theorem dX1_worthByMeans_25 : decode cX1_worthByMeans 25 = .ok (.aaload, 1) := by decide +kernel
theorem dX1_worthByMeans_26 : decode cX1_worthByMeans 26 = .ok (.iload_n 1, 1) := by decide +kernel
theorem dX1_worthByMeans_27 : decode cX1_worthByMeans 27 = .ok (.iaload, 1) := by decide +kernel
theorem dX1_worthByMeans_28 : decode cX1_worthByMeans 28 = .ok (.i2l, 1) := by decide +kernel
theorem dX1_worthByMeans_29 : decode cX1_worthByMeans 29 = .ok (.aload_n 0, 1) := by decide +kernel
theorem dX1_worthByMeans_30 : decode cX1_worthByMeans 30 = .ok (.getfield 43, 3) := by decide +kernel
theorem dX1_worthByMeans_33 : decode cX1_worthByMeans 33 = .ok (.iload 4, 2) := by decide +kernel
theorem dX1_worthByMeans_35 : decode cX1_worthByMeans 35 = .ok (.iaload, 1) := by decide +kernel
theorem dX1_worthByMeans_36 : decode cX1_worthByMeans 36 = .ok (.i2l, 1) := by decide +kernel
theorem dX1_worthByMeans_37 : decode cX1_worthByMeans 37 = .ok (.lmul, 1) := by decide +kernel
theorem dX1_worthByMeans_38 : decode cX1_worthByMeans 38 = .ok (.ladd, 1) := by decide +kernel
theorem dX1_worthByMeans_39 : decode cX1_worthByMeans 39 = .ok (.lstore_n 2, 1) := by decide +kernel
theorem dX1_worthByMeans_40 : decode cX1_worthByMeans 40 = .ok (.iinc 4 1, 3) := by decide +kernel
theorem dX1_worthByMeans_43 : decode cX1_worthByMeans 43 = .ok (.goto (-38), 3) := by decide +kernel
theorem dX1_worthByMeans_46 : decode cX1_worthByMeans 46 = .ok (.lload_n 2, 1) := by decide +kernel
theorem dX1_worthByMeans_47 : decode cX1_worthByMeans 47 = .ok (.ldc2_w 154, 3) := by decide +kernel
theorem dX1_worthByMeans_50 : decode cX1_worthByMeans 50 = .ok (.ladd, 1) := by decide +kernel
theorem dX1_worthByMeans_51 : decode cX1_worthByMeans 51 = .ok (.ldc2_w 156, 3) := by decide +kernel
theorem dX1_worthByMeans_54 : decode cX1_worthByMeans 54 = .ok (.ldiv, 1) := by decide +kernel
theorem dX1_worthByMeans_55 : decode cX1_worthByMeans 55 = .ok (.lreturn, 1) := by decide +kernel
set_option maxRecDepth 20000 in
theorem ggX1_worthOfAll_X1_areMeansKnown : GoodIn wsX1_worthOfAll wsX1_areMeansKnown := goodIn_r _ [8, 9, 10, 11, 12, 13, 14, 15, 16, 17, 18, 19, 20, 21, 22, 23, 34, 35, 36, 37, 38, 39, 40, 41, 42, 43, 44, 45, 46, 47, 48, 49, 50, 51, 52, 53, 54, 55, 56, 57, 58, 59] (by decide +kernel) (by decide +kernel)
set_option maxRecDepth 20000 in
theorem gX1_worthOfAll_X1_areMeansKnown : GoodIn wsX1_worthOfAll (wsV RX1 126 RX1 yX1_areMeansKnown wsX1_areMeansKnown) := goodIn_app (goodIn_of _ (by decide +kernel)) ggX1_worthOfAll_X1_areMeansKnown
set_option maxRecDepth 20000 in
theorem ggX1_worthOfAll_X1_worthByMeans : GoodIn wsX1_worthOfAll wsX1_worthByMeans := goodIn_r _ [27, 28, 9, 29, 30, 31, 32, 7, 33, 34, 35, 36, 37, 38, 39, 40, 41, 42, 43, 44, 45] (by decide +kernel) (by decide +kernel)
set_option maxRecDepth 20000 in
theorem gX1_worthOfAll_X1_worthByMeans : GoodIn wsX1_worthOfAll (wsV RX1 148 RX1 yX1_worthByMeans wsX1_worthByMeans) := goodIn_app (goodIn_of _ (by decide +kernel)) ggX1_worthOfAll_X1_worthByMeans
theorem dX1_worthOfAll_0 : decode cX1_worthOfAll 0 = .ok (.aload_n 0, 1) := by decide +kernel
theorem dX1_worthOfAll_1 : decode cX1_worthOfAll 1 = .ok (.iload_n 1, 1) := by decide +kernel
theorem dX1_worthOfAll_2 : decode cX1_worthOfAll 2 = .ok (.iload_n 2, 1) := by decide +kernel
theorem dX1_worthOfAll_3 : decode cX1_worthOfAll 3 = .ok (.invokevirtual 126, 3) := by decide +kernel
theorem dX1_worthOfAll_6 : decode cX1_worthOfAll 6 = .ok (.istore 4, 2) := by decide +kernel
theorem dX1_worthOfAll_8 : decode cX1_worthOfAll 8 = .ok (.lconst 0, 1) := by decide +kernel
theorem dX1_worthOfAll_9 : decode cX1_worthOfAll 9 = .ok (.lstore 5, 2) := by decide +kernel
theorem dX1_worthOfAll_11 : decode cX1_worthOfAll 11 = .ok (.iconst 0, 1) := by decide +kernel
theorem dX1_worthOfAll_12 : decode cX1_worthOfAll 12 = .ok (.istore 7, 2) := by decide +kernel
theorem dX1_worthOfAll_14 : decode cX1_worthOfAll 14 = .ok (.iload 7, 2) := by decide +kernel
theorem dX1_worthOfAll_16 : decode cX1_worthOfAll 16 = .ok (.bipush 60, 2) := by decide +kernel
theorem dX1_worthOfAll_18 : decode cX1_worthOfAll 18 = .ok (.if_icmp .ge 55, 3) := by decide +kernel
theorem dX1_worthOfAll_21 : decode cX1_worthOfAll 21 = .ok (.aload_n 0, 1) := by decide +kernel
theorem dX1_worthOfAll_22 : decode cX1_worthOfAll 22 = .ok (.getfield 9, 3) := by decide +kernel
theorem dX1_worthOfAll_25 : decode cX1_worthOfAll 25 = .ok (.iload 7, 2) := by decide +kernel
theorem dX1_worthOfAll_27 : decode cX1_worthOfAll 27 = .ok (.baload, 1) := by decide +kernel
theorem dX1_worthOfAll_28 : decode cX1_worthOfAll 28 = .ok (.ifCond .eq 39, 3) := by decide +kernel
theorem dX1_worthOfAll_31 : decode cX1_worthOfAll 31 = .ok (.iload_n 3, 1) := by decide +kernel
theorem dX1_worthOfAll_32 : decode cX1_worthOfAll 32 = .ok (.iconst (-1), 1) := by decide +kernel
theorem dX1_worthOfAll_33 : decode cX1_worthOfAll 33 = .ok (.if_icmp .eq 14, 3) := by decide +kernel
theorem dX1_worthOfAll_36 : decode cX1_worthOfAll 36 = .ok (.aload_n 0, 1) := by decide +kernel
theorem dX1_worthOfAll_37 : decode cX1_worthOfAll 37 = .ok (.getfield 22, 3) := by decide +kernel
theorem dX1_worthOfAll_40 : decode cX1_worthOfAll 40 = .ok (.iload 7, 2) := by decide +kernel
theorem dX1_worthOfAll_42 : decode cX1_worthOfAll 42 = .ok (.iaload, 1) := by decide +kernel
theorem dX1_worthOfAll_43 : decode cX1_worthOfAll 43 = .ok (.iload_n 3, 1) := by decide +kernel
theorem dX1_worthOfAll_44 : decode cX1_worthOfAll 44 = .ok (.if_icmp .ne 23, 3) := by decide +kernel
theorem dX1_worthOfAll_47 : decode cX1_worthOfAll 47 = .ok (.iload 4, 2) := by decide +kernel
theorem dX1_worthOfAll_49 : decode cX1_worthOfAll 49 = .ok (.ifCond .ne 7, 3) := by decide +kernel
theorem dX1_worthOfAll_52 : decode cX1_worthOfAll 52 = .ok (.ldc2_w 152, 3) := by decide +kernel
theorem dX1_worthOfAll_55 : decode cX1_worthOfAll 55 = .ok (.lreturn, 1) := by decide +kernel
theorem dX1_worthOfAll_56 : decode cX1_worthOfAll 56 = .ok (.lload 5, 2) := by decide +kernel
theorem dX1_worthOfAll_58 : decode cX1_worthOfAll 58 = .ok (.aload_n 0, 1) := by decide +kernel
theorem dX1_worthOfAll_59 : decode cX1_worthOfAll 59 = .ok (.iload 7, 2) := by decide +kernel
theorem dX1_worthOfAll_61 : decode cX1_worthOfAll 61 = .ok (.invokevirtual 148, 3) := by decide +kernel
theorem dX1_worthOfAll_64 : decode cX1_worthOfAll 64 = .ok (.ladd, 1) := by decide +kernel
theorem dX1_worthOfAll_65 : decode cX1_worthOfAll 65 = .ok (.lstore 5, 2) := by decide +kernel
theorem dX1_worthOfAll_67 : decode cX1_worthOfAll 67 = .ok (.iinc 7 1, 3) := by decide +kernel
theorem dX1_worthOfAll_70 : decode cX1_worthOfAll 70 = .ok (.goto (-56), 3) := by decide +kernel
theorem dX1_worthOfAll_73 : decode cX1_worthOfAll 73 = .ok (.lload 5, 2) := by decide +kernel
theorem dX1_worthOfAll_75 : decode cX1_worthOfAll 75 = .ok (.lreturn, 1) := by decide +kernel
set_option maxRecDepth 20000 in
theorem ggX1_tell_X1_isThere : GoodIn wsX1_tell wsX1_isThere := goodIn_r _ [10, 11, 12, 13, 14, 15, 16, 17, 18, 19, 20, 21, 22, 23] (by decide +kernel) (by decide +kernel)
set_option maxRecDepth 20000 in
theorem gX1_tell_X1_isThere : GoodIn wsX1_tell (wsV RX1 119 RX1 yX1_isThere wsX1_isThere) := goodIn_app (goodIn_of _ (by decide +kernel)) ggX1_tell_X1_isThere
theorem dX1_tell_0 : decode cX1_tell 0 = .ok (.aload_n 0, 1) := by decide +kernel
theorem dX1_tell_1 : decode cX1_tell 1 = .ok (.iload_n 1, 1) := by decide +kernel
theorem dX1_tell_2 : decode cX1_tell 2 = .ok (.invokevirtual 119, 3) := by decide +kernel
theorem dX1_tell_5 : decode cX1_tell 5 = .ok (.ifCond .ne 5, 3) := by decide +kernel
theorem dX1_tell_8 : decode cX1_tell 8 = .ok (.iconst (-1), 1) := by decide +kernel
theorem dX1_tell_9 : decode cX1_tell 9 = .ok (.ireturn, 1) := by decide +kernel
theorem dX1_tell_10 : decode cX1_tell 10 = .ok (.iload_n 2, 1) := by decide +kernel
theorem dX1_tell_11 : decode cX1_tell 11 = .ok (.tableswitch 88 0 6 #[41, 48, 55, 62, 62, 62, 73], 41) := by decide +kernel
theorem dX1_tell_52 : decode cX1_tell 52 = .ok (.aload_n 0, 1) := by decide +kernel
theorem dX1_tell_53 : decode cX1_tell 53 = .ok (.getfield 15, 3) := by decide +kernel
theorem dX1_tell_56 : decode cX1_tell 56 = .ok (.iload_n 1, 1) := by decide +kernel
theorem dX1_tell_57 : decode cX1_tell 57 = .ok (.iaload, 1) := by decide +kernel
theorem dX1_tell_58 : decode cX1_tell 58 = .ok (.ireturn, 1) := by decide +kernel
theorem dX1_tell_59 : decode cX1_tell 59 = .ok (.aload_n 0, 1) := by decide +kernel
theorem dX1_tell_60 : decode cX1_tell 60 = .ok (.getfield 19, 3) := by decide +kernel
theorem dX1_tell_63 : decode cX1_tell 63 = .ok (.iload_n 1, 1) := by decide +kernel
theorem dX1_tell_64 : decode cX1_tell 64 = .ok (.iaload, 1) := by decide +kernel
theorem dX1_tell_65 : decode cX1_tell 65 = .ok (.ireturn, 1) := by decide +kernel
theorem dX1_tell_66 : decode cX1_tell 66 = .ok (.aload_n 0, 1) := by decide +kernel
theorem dX1_tell_67 : decode cX1_tell 67 = .ok (.getfield 22, 3) := by decide +kernel
theorem dX1_tell_70 : decode cX1_tell 70 = .ok (.iload_n 1, 1) := by decide +kernel
theorem dX1_tell_71 : decode cX1_tell 71 = .ok (.iaload, 1) := by decide +kernel
theorem dX1_tell_72 : decode cX1_tell 72 = .ok (.ireturn, 1) := by decide +kernel
theorem dX1_tell_73 : decode cX1_tell 73 = .ok (.aload_n 0, 1) := by decide +kernel
theorem dX1_tell_74 : decode cX1_tell 74 = .ok (.getfield 27, 3) := by decide +kernel
theorem dX1_tell_77 : decode cX1_tell 77 = .ok (.iload_n 2, 1) := by decide +kernel
theorem dX1_tell_78 : decode cX1_tell 78 = .ok (.iconst 3, 1) := by decide +kernel
theorem dX1_tell_79 : decode cX1_tell 79 = .ok (.isub, 1) := by decide +kernel
theorem dX1_tell_80 : decode cX1_tell 80 = .ok (.aaload, 1) := by decide +kernel
theorem dX1_tell_81 : decode cX1_tell 81 = .ok (.iload_n 1, 1) := by decide +kernel
theorem dX1_tell_82 : decode cX1_tell 82 = .ok (.iaload, 1) := by decide +kernel
theorem dX1_tell_83 : decode cX1_tell 83 = .ok (.ireturn, 1) := by decide +kernel
theorem dX1_tell_84 : decode cX1_tell 84 = .ok (.aload_n 0, 1) := by decide +kernel
theorem dX1_tell_85 : decode cX1_tell 85 = .ok (.getfield 30, 3) := by decide +kernel
theorem dX1_tell_88 : decode cX1_tell 88 = .ok (.iload_n 1, 1) := by decide +kernel
theorem dX1_tell_89 : decode cX1_tell 89 = .ok (.baload, 1) := by decide +kernel
theorem dX1_tell_90 : decode cX1_tell 90 = .ok (.ifCond .eq 7, 3) := by decide +kernel
theorem dX1_tell_93 : decode cX1_tell 93 = .ok (.iconst 1, 1) := by decide +kernel
theorem dX1_tell_94 : decode cX1_tell 94 = .ok (.goto 4, 3) := by decide +kernel
theorem dX1_tell_97 : decode cX1_tell 97 = .ok (.iconst 0, 1) := by decide +kernel
theorem dX1_tell_98 : decode cX1_tell 98 = .ok (.ireturn, 1) := by decide +kernel
theorem dX1_tell_99 : decode cX1_tell 99 = .ok (.iconst (-1), 1) := by decide +kernel
theorem dX1_tell_100 : decode cX1_tell 100 = .ok (.ireturn, 1) := by decide +kernel
theorem dX1_howMany_0 : decode cX1_howMany 0 = .ok (.iconst 0, 1) := by decide +kernel
theorem dX1_howMany_1 : decode cX1_howMany 1 = .ok (.istore_n 1, 1) := by decide +kernel
theorem dX1_howMany_2 : decode cX1_howMany 2 = .ok (.iconst 0, 1) := by decide +kernel
theorem dX1_howMany_3 : decode cX1_howMany 3 = .ok (.istore_n 2, 1) := by decide +kernel
theorem dX1_howMany_4 : decode cX1_howMany 4 = .ok (.iload_n 2, 1) := by decide +kernel
theorem dX1_howMany_5 : decode cX1_howMany 5 = .ok (.bipush 60, 2) := by decide +kernel
theorem dX1_howMany_7 : decode cX1_howMany 7 = .ok (.if_icmp .ge 26, 3) := by decide +kernel
theorem dX1_howMany_10 : decode cX1_howMany 10 = .ok (.iload_n 1, 1) := by decide +kernel
theorem dX1_howMany_11 : decode cX1_howMany 11 = .ok (.aload_n 0, 1) := by decide +kernel
theorem dX1_howMany_12 : decode cX1_howMany 12 = .ok (.getfield 9, 3) := by decide +kernel
theorem dX1_howMany_15 : decode cX1_howMany 15 = .ok (.iload_n 2, 1) := by decide +kernel
theorem dX1_howMany_16 : decode cX1_howMany 16 = .ok (.baload, 1) := by decide +kernel
theorem dX1_howMany_17 : decode cX1_howMany 17 = .ok (.ifCond .eq 7, 3) := by decide +kernel
theorem dX1_howMany_20 : decode cX1_howMany 20 = .ok (.iconst 1, 1) := by decide +kernel
theorem dX1_howMany_21 : decode cX1_howMany 21 = .ok (.goto 4, 3) := by decide +kernel
theorem dX1_howMany_24 : decode cX1_howMany 24 = .ok (.iconst 0, 1) := by decide +kernel
theorem dX1_howMany_25 : decode cX1_howMany 25 = .ok (.iadd, 1) := by decide +kernel
theorem dX1_howMany_26 : decode cX1_howMany 26 = .ok (.istore_n 1, 1) := by decide +kernel
theorem dX1_howMany_27 : decode cX1_howMany 27 = .ok (.iinc 2 1, 3) := by decide +kernel
theorem dX1_howMany_30 : decode cX1_howMany 30 = .ok (.goto (-26), 3) := by decide +kernel
theorem dX1_howMany_33 : decode cX1_howMany 33 = .ok (.iload_n 1, 1) := by decide +kernel
theorem dX1_howMany_34 : decode cX1_howMany 34 = .ok (.ireturn, 1) := by decide +kernel
set_option maxRecDepth 20000 in
theorem ggX1_sumOf_X1_tell : GoodIn wsX1_sumOf wsX1_tell := goodIn_r _ [6, 7, 8, 9, 10, 11, 12, 13, 14, 5, 15, 1, 16, 17, 18, 19, 20, 21, 22, 23, 24, 25, 26, 27] (by decide +kernel) (by decide +kernel)
set_option maxRecDepth 20000 in
theorem gX1_sumOf_X1_tell : GoodIn wsX1_sumOf (wsV RX1 158 RX1 yX1_tell wsX1_tell) := goodIn_app (goodIn_of _ (by decide +kernel)) ggX1_sumOf_X1_tell
theorem dX1_sumOf_0 : decode cX1_sumOf 0 = .ok (.lconst 0, 1) := by decide +kernel
theorem dX1_sumOf_1 : decode cX1_sumOf 1 = .ok (.lstore_n 2, 1) := by decide +kernel
theorem dX1_sumOf_2 : decode cX1_sumOf 2 = .ok (.iconst 0, 1) := by decide +kernel
theorem dX1_sumOf_3 : decode cX1_sumOf 3 = .ok (.istore 4, 2) := by decide +kernel
theorem dX1_sumOf_5 : decode cX1_sumOf 5 = .ok (.iload 4, 2) := by decide +kernel
theorem dX1_sumOf_7 : decode cX1_sumOf 7 = .ok (.bipush 60, 2) := by decide +kernel
theorem dX1_sumOf_9 : decode cX1_sumOf 9 = .ok (.if_icmp .ge 34, 3) := by decide +kernel
theorem dX1_sumOf_12 : decode cX1_sumOf 12 = .ok (.lload_n 2, 1) := by decide +kernel
theorem dX1_sumOf_13 : decode cX1_sumOf 13 = .ok (.aload_n 0, 1) := by decide +kernel
theorem dX1_sumOf_14 : decode cX1_sumOf 14 = .ok (.getfield 9, 3) := by decide +kernel
theorem dX1_sumOf_17 : decode cX1_sumOf 17 = .ok (.iload 4, 2) := by decide +kernel
theorem dX1_sumOf_19 : decode cX1_sumOf 19 = .ok (.baload, 1) := by decide +kernel
theorem dX1_sumOf_20 : decode cX1_sumOf 20 = .ok (.ifCond .eq 14, 3) := by decide +kernel
theorem dX1_sumOf_23 : decode cX1_sumOf 23 = .ok (.aload_n 0, 1) := by decide +kernel
theorem dX1_sumOf_24 : decode cX1_sumOf 24 = .ok (.iload 4, 2) := by decide +kernel
theorem dX1_sumOf_26 : decode cX1_sumOf 26 = .ok (.iload_n 1, 1) := by decide +kernel
theorem dX1_sumOf_27 : decode cX1_sumOf 27 = .ok (.invokevirtual 158, 3) := by decide +kernel
theorem dX1_sumOf_30 : decode cX1_sumOf 30 = .ok (.i2l, 1) := by decide +kernel
theorem dX1_sumOf_31 : decode cX1_sumOf 31 = .ok (.goto 4, 3) := by decide +kernel
theorem dX1_sumOf_34 : decode cX1_sumOf 34 = .ok (.lconst 0, 1) := by decide +kernel
theorem dX1_sumOf_35 : decode cX1_sumOf 35 = .ok (.ladd, 1) := by decide +kernel
theorem dX1_sumOf_36 : decode cX1_sumOf 36 = .ok (.lstore_n 2, 1) := by decide +kernel
theorem dX1_sumOf_37 : decode cX1_sumOf 37 = .ok (.iinc 4 1, 3) := by decide +kernel
theorem dX1_sumOf_40 : decode cX1_sumOf 40 = .ok (.goto (-35), 3) := by decide +kernel
theorem dX1_sumOf_43 : decode cX1_sumOf 43 = .ok (.lload_n 2, 1) := by decide +kernel
theorem dX1_sumOf_44 : decode cX1_sumOf 44 = .ok (.lreturn, 1) := by decide +kernel
set_option maxRecDepth 20000 in
theorem ggX1_isOtherwise_X1_tell : GoodIn wsX1_isOtherwise wsX1_tell := goodIn_r _ [5, 6, 7, 8, 9, 10, 11, 12, 13, 4, 14, 15, 16, 17, 18, 19, 20, 21, 22, 23, 24, 25, 26, 27] (by decide +kernel) (by decide +kernel)
set_option maxRecDepth 20000 in
theorem gX1_isOtherwise_X1_tell : GoodIn wsX1_isOtherwise (wsV RX1 158 RX1 yX1_tell wsX1_tell) := goodIn_app (goodIn_of _ (by decide +kernel)) ggX1_isOtherwise_X1_tell
theorem dX1_isOtherwise_0 : decode cX1_isOtherwise 0 = .ok (.iconst 0, 1) := by decide +kernel
theorem dX1_isOtherwise_1 : decode cX1_isOtherwise 1 = .ok (.istore_n 3, 1) := by decide +kernel
theorem dX1_isOtherwise_2 : decode cX1_isOtherwise 2 = .ok (.iload_n 3, 1) := by decide +kernel
theorem dX1_isOtherwise_3 : decode cX1_isOtherwise 3 = .ok (.bipush 7, 2) := by decide +kernel
theorem dX1_isOtherwise_5 : decode cX1_isOtherwise 5 = .ok (.if_icmp .ge 26, 3) := by decide +kernel
theorem dX1_isOtherwise_8 : decode cX1_isOtherwise 8 = .ok (.aload_n 0, 1) := by decide +kernel
theorem dX1_isOtherwise_9 : decode cX1_isOtherwise 9 = .ok (.iload_n 2, 1) := by decide +kernel
theorem dX1_isOtherwise_10 : decode cX1_isOtherwise 10 = .ok (.iload_n 3, 1) := by decide +kernel
theorem dX1_isOtherwise_11 : decode cX1_isOtherwise 11 = .ok (.invokevirtual 158, 3) := by decide +kernel
theorem dX1_isOtherwise_14 : decode cX1_isOtherwise 14 = .ok (.aload_n 1, 1) := by decide +kernel
theorem dX1_isOtherwise_15 : decode cX1_isOtherwise 15 = .ok (.iload_n 2, 1) := by decide +kernel
theorem dX1_isOtherwise_16 : decode cX1_isOtherwise 16 = .ok (.iload_n 3, 1) := by decide +kernel
theorem dX1_isOtherwise_17 : decode cX1_isOtherwise 17 = .ok (.invokevirtual 158, 3) := by decide +kernel
theorem dX1_isOtherwise_20 : decode cX1_isOtherwise 20 = .ok (.if_icmp .eq 5, 3) := by decide +kernel
theorem dX1_isOtherwise_23 : decode cX1_isOtherwise 23 = .ok (.iconst 1, 1) := by decide +kernel
theorem dX1_isOtherwise_24 : decode cX1_isOtherwise 24 = .ok (.ireturn, 1) := by decide +kernel
theorem dX1_isOtherwise_25 : decode cX1_isOtherwise 25 = .ok (.iinc 3 1, 3) := by decide +kernel
theorem dX1_isOtherwise_28 : decode cX1_isOtherwise 28 = .ok (.goto (-26), 3) := by decide +kernel
theorem dX1_isOtherwise_31 : decode cX1_isOtherwise 31 = .ok (.iconst 0, 1) := by decide +kernel
theorem dX1_isOtherwise_32 : decode cX1_isOtherwise 32 = .ok (.ireturn, 1) := by decide +kernel
end
section
set_option maxRecDepth 20000 in
theorem ggX2_init_X0_init : GoodIn wsX2_init wsX0_init := goodIn_r _ [14, 15, 2, 3, 16, 17, 18, 19, 20, 21, 22, 23, 24, 25, 26, 27, 46, 47, 48, 49, 50, 51, 52, 53, 54, 55, 56, 57, 58, 59] (by decide +kernel) (by decide +kernel)
set_option maxRecDepth 20000 in
theorem gX2_init_X0_init_n9 : GoodIn wsX2_init (wsX0_init) := ggX2_init_X0_init
set_option maxRecDepth 20000 in
theorem ggX2_init_X1_init : GoodIn wsX2_init wsX1_init := goodIn_r _ [30, 31, 2, 3, 32, 33, 16, 34, 35, 36, 37, 38, 39, 40, 41, 42, 43, 44, 45, 63, 64, 65, 66, 67, 68, 69, 70, 71, 72, 73, 74] (by decide +kernel) (by decide +kernel)
set_option maxRecDepth 20000 in
theorem gX2_init_X1_init : GoodIn wsX2_init (wsX1_init) := ggX2_init_X1_init
theorem dX2_init_0 : decode cX2_init 0 = .ok (.aload_n 0, 1) := by decide +kernel
theorem dX2_init_1 : decode cX2_init 1 = .ok (.invokespecial 1, 3) := by decide +kernel
theorem dX2_init_4 : decode cX2_init 4 = .ok (.aload_n 0, 1) := by decide +kernel
theorem dX2_init_5 : decode cX2_init 5 = .ok (.new 7, 3) := by decide +kernel
theorem dX2_init_8 : decode cX2_init 8 = .ok (.dup, 1) := by decide +kernel
theorem dX2_init_9 : decode cX2_init 9 = .ok (.invokespecial 9, 3) := by decide +kernel
theorem dX2_init_12 : decode cX2_init 12 = .ok (.putfield 10, 3) := by decide +kernel
theorem dX2_init_15 : decode cX2_init 15 = .ok (.aload_n 0, 1) := by decide +kernel
theorem dX2_init_16 : decode cX2_init 16 = .ok (.new 16, 3) := by decide +kernel
theorem dX2_init_19 : decode cX2_init 19 = .ok (.dup, 1) := by decide +kernel
theorem dX2_init_20 : decode cX2_init 20 = .ok (.aload_n 0, 1) := by decide +kernel
theorem dX2_init_21 : decode cX2_init 21 = .ok (.getfield 10, 3) := by decide +kernel
theorem dX2_init_24 : decode cX2_init 24 = .ok (.invokespecial 18, 3) := by decide +kernel
theorem dX2_init_27 : decode cX2_init 27 = .ok (.putfield 21, 3) := by decide +kernel
theorem dX2_init_30 : decode cX2_init 30 = .ok (.aload_n 0, 1) := by decide +kernel
theorem dX2_init_31 : decode cX2_init 31 = .ok (.new 16, 3) := by decide +kernel
theorem dX2_init_34 : decode cX2_init 34 = .ok (.dup, 1) := by decide +kernel
theorem dX2_init_35 : decode cX2_init 35 = .ok (.aload_n 0, 1) := by decide +kernel
theorem dX2_init_36 : decode cX2_init 36 = .ok (.getfield 10, 3) := by decide +kernel
theorem dX2_init_39 : decode cX2_init 39 = .ok (.invokespecial 18, 3) := by decide +kernel
theorem dX2_init_42 : decode cX2_init 42 = .ok (.putfield 25, 3) := by decide +kernel
theorem dX2_init_45 : decode cX2_init 45 = .ok (.return_, 1) := by decide +kernel
set_option maxRecDepth 20000 in
theorem ggX2_price_X0_isFull : GoodIn wsX2_price wsX0_isFull := goodIn_r _ [8, 9, 47, 48, 49, 50, 51, 52, 53, 54, 55, 56, 57, 58, 59, 60] (by decide +kernel) (by decide +kernel)
set_option maxRecDepth 20000 in
theorem gX2_price_X0_isFull : GoodIn wsX2_price (wsV RX2 28 RX0 yX0_isFull wsX0_isFull) := goodIn_app (goodIn_of _ (by decide +kernel)) ggX2_price_X0_isFull
set_option maxRecDepth 20000 in
theorem ggX2_price_X2_isWithin : GoodIn wsX2_price wsX2_isWithin := goodIn_r _ [13] (by decide +kernel) (by decide +kernel)
set_option maxRecDepth 20000 in
theorem gX2_price_X2_isWithin : GoodIn wsX2_price (va_wsS RX2 32 yX2_isWithin wsX2_isWithin) := goodIn_app (goodIn_of _ (by decide +kernel)) ggX2_price_X2_isWithin
set_option maxRecDepth 20000 in
theorem ggX2_price_X0_draft : GoodIn wsX2_price wsX0_draft := goodIn_r _ [17, 18, 19, 20, 21, 22, 23, 24, 25, 26, 27, 28, 7, 29, 9, 47, 48, 49, 50, 51, 52, 53, 54, 55, 56, 57, 58, 59, 60] (by decide +kernel) (by decide +kernel)
set_option maxRecDepth 20000 in
theorem gX2_price_X0_draft : GoodIn wsX2_price (wsV RX2 36 RX0 yX0_draft wsX0_draft) := goodIn_app (goodIn_of _ (by decide +kernel)) ggX2_price_X0_draft
set_option maxRecDepth 20000 in
theorem ggX2_price_X0_put : GoodIn wsX2_price wsX0_put := goodIn_r _ [29, 9, 47, 48, 49, 50, 51, 52, 53, 54, 55, 56, 57, 58, 59, 60] (by decide +kernel) (by decide +kernel)
set_option maxRecDepth 20000 in
theorem gX2_price_X0_put : GoodIn wsX2_price (wsV RX2 44 RX0 yX0_put wsX0_put) := goodIn_app (goodIn_of _ (by decide +kernel)) ggX2_price_X0_put
set_option maxRecDepth 20000 in
theorem ggX2_price_X0_keep : GoodIn wsX2_price wsX0_keep := goodIn_r _ [34, 9, 35, 36, 37, 18, 20, 21, 38, 12, 39, 40, 41, 42, 7, 43, 47, 48, 49, 50, 51, 52, 53, 54, 55, 56, 57, 58, 59, 60] (by decide +kernel) (by decide +kernel)
set_option maxRecDepth 20000 in
theorem gX2_price_X0_keep : GoodIn wsX2_price (wsV RX2 51 RX0 yX0_keep wsX0_keep) := goodIn_app (goodIn_of _ (by decide +kernel)) ggX2_price_X0_keep
theorem dX2_price_0 : decode cX2_price 0 = .ok (.aload_n 0, 1) := by decide +kernel
theorem dX2_price_1 : decode cX2_price 1 = .ok (.getfield 10, 3) := by decide +kernel
theorem dX2_price_4 : decode cX2_price 4 = .ok (.invokevirtual 28, 3) := by decide +kernel
theorem dX2_price_7 : decode cX2_price 7 = .ok (.ifCond .ne 34, 3) := by decide +kernel
theorem dX2_price_10 : decode cX2_price 10 = .ok (.iload_n 1, 1) := by decide +kernel
theorem dX2_price_11 : decode cX2_price 11 = .ok (.iconst 1, 1) := by decide +kernel
theorem dX2_price_12 : decode cX2_price 12 = .ok (.sipush 200, 3) := by decide +kernel
theorem dX2_price_15 : decode cX2_price 15 = .ok (.invokestatic 32, 3) := by decide +kernel
theorem dX2_price_18 : decode cX2_price 18 = .ok (.ifCond .eq 23, 3) := by decide +kernel
theorem dX2_price_21 : decode cX2_price 21 = .ok (.iload_n 2, 1) := by decide +kernel
theorem dX2_price_22 : decode cX2_price 22 = .ok (.iconst 0, 1) := by decide +kernel
theorem dX2_price_23 : decode cX2_price 23 = .ok (.iconst 2, 1) := by decide +kernel
theorem dX2_price_24 : decode cX2_price 24 = .ok (.invokestatic 32, 3) := by decide +kernel
theorem dX2_price_27 : decode cX2_price 27 = .ok (.ifCond .eq 14, 3) := by decide +kernel
theorem dX2_price_30 : decode cX2_price 30 = .ok (.iload_n 3, 1) := by decide +kernel
theorem dX2_price_31 : decode cX2_price 31 = .ok (.iconst 1, 1) := by decide +kernel
theorem dX2_price_32 : decode cX2_price 32 = .ok (.sipush 1000, 3) := by decide +kernel
theorem dX2_price_35 : decode cX2_price 35 = .ok (.invokestatic 32, 3) := by decide +kernel
theorem dX2_price_38 : decode cX2_price 38 = .ok (.ifCond .ne 5, 3) := by decide +kernel
theorem dX2_price_41 : decode cX2_price 41 = .ok (.iconst (-1), 1) := by decide +kernel
theorem dX2_price_42 : decode cX2_price 42 = .ok (.ireturn, 1) := by decide +kernel
theorem dX2_price_43 : decode cX2_price 43 = .ok (.aload_n 0, 1) := by decide +kernel
theorem dX2_price_44 : decode cX2_price 44 = .ok (.getfield 10, 3) := by decide +kernel
theorem dX2_price_47 : decode cX2_price 47 = .ok (.iconst 0, 1) := by decide +kernel
theorem dX2_price_48 : decode cX2_price 48 = .ok (.iload_n 1, 1) := by decide +kernel
theorem dX2_price_49 : decode cX2_price 49 = .ok (.invokevirtual 36, 3) := by decide +kernel
theorem dX2_price_52 : decode cX2_price 52 = .ok (.aload_n 0, 1) := by decide +kernel
theorem dX2_price_53 : decode cX2_price 53 = .ok (.getfield 10, 3) := by decide +kernel
theorem dX2_price_56 : decode cX2_price 56 = .ok (.aload_n 0, 1) := by decide +kernel
theorem dX2_price_57 : decode cX2_price 57 = .ok (.getfield 10, 3) := by decide +kernel
theorem dX2_price_60 : decode cX2_price 60 = .ok (.getfield 40, 3) := by decide +kernel
theorem dX2_price_63 : decode cX2_price 63 = .ok (.iload_n 2, 1) := by decide +kernel
theorem dX2_price_64 : decode cX2_price 64 = .ok (.invokevirtual 44, 3) := by decide +kernel
theorem dX2_price_67 : decode cX2_price 67 = .ok (.aload_n 0, 1) := by decide +kernel
theorem dX2_price_68 : decode cX2_price 68 = .ok (.getfield 10, 3) := by decide +kernel
theorem dX2_price_71 : decode cX2_price 71 = .ok (.aload_n 0, 1) := by decide +kernel
theorem dX2_price_72 : decode cX2_price 72 = .ok (.getfield 10, 3) := by decide +kernel
theorem dX2_price_75 : decode cX2_price 75 = .ok (.getfield 48, 3) := by decide +kernel
theorem dX2_price_78 : decode cX2_price 78 = .ok (.iload_n 3, 1) := by decide +kernel
theorem dX2_price_79 : decode cX2_price 79 = .ok (.invokevirtual 44, 3) := by decide +kernel
theorem dX2_price_82 : decode cX2_price 82 = .ok (.aload_n 0, 1) := by decide +kernel
theorem dX2_price_83 : decode cX2_price 83 = .ok (.getfield 10, 3) := by decide +kernel
theorem dX2_price_86 : decode cX2_price 86 = .ok (.iconst 0, 1) := by decide +kernel
theorem dX2_price_87 : decode cX2_price 87 = .ok (.invokevirtual 51, 3) := by decide +kernel
theorem dX2_price_90 : decode cX2_price 90 = .ok (.ireturn, 1) := by decide +kernel
set_option maxRecDepth 20000 in
theorem ggX2_make_X2_isActPossible : GoodIn wsX2_make wsX2_isActPossible := goodIn_r _ [9, 1, 10, 11, 12, 13, 14, 15, 16, 17, 18, 8, 19, 171, 172, 173, 174, 175, 176, 177, 178, 179, 180, 181, 182, 183, 184, 185, 186, 187] (by decide +kernel) (by decide +kernel)
set_option maxRecDepth 20000 in
theorem gX2_make_X2_isActPossible : GoodIn wsX2_make (wsV RX2 55 RX2 yX2_isActPossible wsX2_isActPossible) := goodIn_app (goodIn_of _ (by decide +kernel)) ggX2_make_X2_isActPossible
set_option maxRecDepth 20000 in
theorem ggX2_make_X2_isWithin : GoodIn wsX2_make wsX2_isWithin := goodIn_r _ [19] (by decide +kernel) (by decide +kernel)
set_option maxRecDepth 20000 in
theorem gX2_make_X2_isWithin : GoodIn wsX2_make (va_wsS RX2 32 yX2_isWithin wsX2_isWithin) := goodIn_app (goodIn_of _ (by decide +kernel)) ggX2_make_X2_isWithin
set_option maxRecDepth 20000 in
theorem ggX2_make_X2_isOwner : GoodIn wsX2_make wsX2_isOwner := goodIn_r _ [22, 17, 18, 8, 19] (by decide +kernel) (by decide +kernel)
set_option maxRecDepth 20000 in
theorem gX2_make_X2_isOwner : GoodIn wsX2_make (va_wsS RX2 59 yX2_isOwner wsX2_isOwner) := goodIn_app (goodIn_of _ (by decide +kernel)) ggX2_make_X2_isOwner
set_option maxRecDepth 20000 in
theorem ggX2_make_X0_draft : GoodIn wsX2_make wsX0_draft := goodIn_r _ [26, 27, 28, 29, 30, 31, 32, 33, 34, 35, 36, 37, 14, 38, 16, 174, 175, 176, 177, 178, 179, 180, 181, 182, 183, 184, 185, 186, 187] (by decide +kernel) (by decide +kernel)
set_option maxRecDepth 20000 in
theorem gX2_make_X0_draft : GoodIn wsX2_make (wsV RX2 36 RX0 yX0_draft wsX0_draft) := goodIn_app (goodIn_of _ (by decide +kernel)) ggX2_make_X0_draft
set_option maxRecDepth 20000 in
theorem ggX2_make_X0_put : GoodIn wsX2_make wsX0_put := goodIn_r _ [38, 16, 174, 175, 176, 177, 178, 179, 180, 181, 182, 183, 184, 185, 186, 187] (by decide +kernel) (by decide +kernel)
set_option maxRecDepth 20000 in
theorem gX2_make_X0_put : GoodIn wsX2_make (wsV RX2 44 RX0 yX0_put wsX0_put) := goodIn_app (goodIn_of _ (by decide +kernel)) ggX2_make_X0_put
set_option maxRecDepth 20000 in
theorem ggX2_make_X2_takeDraft : GoodIn wsX2_make wsX2_takeDraft := goodIn_r _ [43, 1, 44, 10, 45, 46, 39, 36, 37, 14, 38, 16, 47, 48, 49, 50, 51, 28, 52, 53, 8, 54, 55, 56, 57, 58, 59, 60, 61, 62, 63, 64, 65, 66, 67, 68, 69, 70, 71, 72, 73, 74, 75, 76, 77, 78, 79, 80, 81, 82, 83, 84, 85, 86, 87, 88, 89, 90, 91, 92, 93, 94, 95, 96, 97, 98, 99, 100, 101, 102, 103, 104, 105, 106, 107, 108, 109, 110, 111, 112, 113, 114, 115, 116, 117, 118, 119, 120, 121, 122, 123, 124, 125, 126, 127, 128, 129, 130, 27, 29, 31, 131, 132, 133, 134, 135, 136, 137, 138, 139, 140, 141, 142, 143, 144, 145, 146, 147, 148, 149, 150, 151, 152, 153, 154, 155, 156, 157, 158, 159, 160, 161, 30, 162, 163, 164, 165, 171, 172, 173, 174, 175, 176, 177, 178, 179, 180, 181, 182, 183, 184, 185, 186, 187, 188, 189, 190, 191, 192, 193, 194, 195, 196, 197, 198, 199] (by decide +kernel) (by decide +kernel)
set_option maxRecDepth 20000 in
theorem gX2_make_X2_takeDraft : GoodIn wsX2_make (wsV RX2 69 RX2 yX2_takeDraft wsX2_takeDraft) := goodIn_app (goodIn_of _ (by decide +kernel)) ggX2_make_X2_takeDraft
set_option maxRecDepth 20000 in
theorem ggX2_make_X2_firstMadeBy : GoodIn wsX2_make wsX2_firstMadeBy := goodIn_r _ [169, 1, 44, 170, 53, 8, 54, 171, 172, 173, 174, 175, 176, 177, 178, 179, 180, 181, 182, 183, 184, 185, 186, 187] (by decide +kernel) (by decide +kernel)
set_option maxRecDepth 20000 in
theorem gX2_make_X2_firstMadeBy : GoodIn wsX2_make (wsV RX2 72 RX2 yX2_firstMadeBy wsX2_firstMadeBy) := goodIn_app (goodIn_of _ (by decide +kernel)) ggX2_make_X2_firstMadeBy
theorem dX2_make_0 : decode cX2_make 0 = .ok (.aload_n 0, 1) := by decide +kernel
theorem dX2_make_1 : decode cX2_make 1 = .ok (.iload_n 1, 1) := by decide +kernel
theorem dX2_make_2 : decode cX2_make 2 = .ok (.iconst 1, 1) := by decide +kernel
theorem dX2_make_3 : decode cX2_make 3 = .ok (.invokevirtual 55, 3) := by decide +kernel
theorem dX2_make_6 : decode cX2_make 6 = .ok (.ifCond .eq 31, 3) := by decide +kernel
theorem dX2_make_9 : decode cX2_make 9 = .ok (.iload_n 2, 1) := by decide +kernel
theorem dX2_make_10 : decode cX2_make 10 = .ok (.iconst 1, 1) := by decide +kernel
theorem dX2_make_11 : decode cX2_make 11 = .ok (.sipush 10000, 3) := by decide +kernel
theorem dX2_make_14 : decode cX2_make 14 = .ok (.invokestatic 32, 3) := by decide +kernel
theorem dX2_make_17 : decode cX2_make 17 = .ok (.ifCond .eq 20, 3) := by decide +kernel
theorem dX2_make_20 : decode cX2_make 20 = .ok (.iload_n 3, 1) := by decide +kernel
theorem dX2_make_21 : decode cX2_make 21 = .ok (.iconst 0, 1) := by decide +kernel
theorem dX2_make_22 : decode cX2_make 22 = .ok (.iconst 2, 1) := by decide +kernel
theorem dX2_make_23 : decode cX2_make 23 = .ok (.invokestatic 32, 3) := by decide +kernel
theorem dX2_make_26 : decode cX2_make 26 = .ok (.ifCond .eq 11, 3) := by decide +kernel
theorem dX2_make_29 : decode cX2_make 29 = .ok (.iload 4, 2) := by decide +kernel
theorem dX2_make_31 : decode cX2_make 31 = .ok (.invokestatic 59, 3) := by decide +kernel
theorem dX2_make_34 : decode cX2_make 34 = .ok (.ifCond .ne 5, 3) := by decide +kernel
theorem dX2_make_37 : decode cX2_make 37 = .ok (.iconst (-1), 1) := by decide +kernel
theorem dX2_make_38 : decode cX2_make 38 = .ok (.ireturn, 1) := by decide +kernel
theorem dX2_make_39 : decode cX2_make 39 = .ok (.aload_n 0, 1) := by decide +kernel
theorem dX2_make_40 : decode cX2_make 40 = .ok (.getfield 10, 3) := by decide +kernel
theorem dX2_make_43 : decode cX2_make 43 = .ok (.iconst 1, 1) := by decide +kernel
theorem dX2_make_44 : decode cX2_make 44 = .ok (.iload_n 1, 1) := by decide +kernel
theorem dX2_make_45 : decode cX2_make 45 = .ok (.invokevirtual 36, 3) := by decide +kernel
theorem dX2_make_48 : decode cX2_make 48 = .ok (.aload_n 0, 1) := by decide +kernel
theorem dX2_make_49 : decode cX2_make 49 = .ok (.getfield 10, 3) := by decide +kernel
theorem dX2_make_52 : decode cX2_make 52 = .ok (.aload_n 0, 1) := by decide +kernel
theorem dX2_make_53 : decode cX2_make 53 = .ok (.getfield 10, 3) := by decide +kernel
theorem dX2_make_56 : decode cX2_make 56 = .ok (.getfield 48, 3) := by decide +kernel
theorem dX2_make_59 : decode cX2_make 59 = .ok (.iload_n 2, 1) := by decide +kernel
theorem dX2_make_60 : decode cX2_make 60 = .ok (.invokevirtual 44, 3) := by decide +kernel
theorem dX2_make_63 : decode cX2_make 63 = .ok (.aload_n 0, 1) := by decide +kernel
theorem dX2_make_64 : decode cX2_make 64 = .ok (.getfield 10, 3) := by decide +kernel
theorem dX2_make_67 : decode cX2_make 67 = .ok (.aload_n 0, 1) := by decide +kernel
theorem dX2_make_68 : decode cX2_make 68 = .ok (.getfield 10, 3) := by decide +kernel
theorem dX2_make_71 : decode cX2_make 71 = .ok (.getfield 63, 3) := by decide +kernel
theorem dX2_make_74 : decode cX2_make 74 = .ok (.iload_n 3, 1) := by decide +kernel
theorem dX2_make_75 : decode cX2_make 75 = .ok (.invokevirtual 44, 3) := by decide +kernel
theorem dX2_make_78 : decode cX2_make 78 = .ok (.aload_n 0, 1) := by decide +kernel
theorem dX2_make_79 : decode cX2_make 79 = .ok (.getfield 10, 3) := by decide +kernel
theorem dX2_make_82 : decode cX2_make 82 = .ok (.aload_n 0, 1) := by decide +kernel
theorem dX2_make_83 : decode cX2_make 83 = .ok (.getfield 10, 3) := by decide +kernel
theorem dX2_make_86 : decode cX2_make 86 = .ok (.getfield 66, 3) := by decide +kernel
theorem dX2_make_89 : decode cX2_make 89 = .ok (.iload 4, 2) := by decide +kernel
theorem dX2_make_91 : decode cX2_make 91 = .ok (.invokevirtual 44, 3) := by decide +kernel
theorem dX2_make_94 : decode cX2_make 94 = .ok (.aload_n 0, 1) := by decide +kernel
theorem dX2_make_95 : decode cX2_make 95 = .ok (.aload_n 0, 1) := by decide +kernel
theorem dX2_make_96 : decode cX2_make 96 = .ok (.iconst 1, 1) := by decide +kernel
theorem dX2_make_97 : decode cX2_make 97 = .ok (.invokevirtual 69, 3) := by decide +kernel
theorem dX2_make_100 : decode cX2_make 100 = .ok (.invokevirtual 72, 3) := by decide +kernel
theorem dX2_make_103 : decode cX2_make 103 = .ok (.ireturn, 1) := by decide +kernel
set_option maxRecDepth 20000 in
theorem ggX2_part_X2_isActPossible : GoodIn wsX2_part wsX2_isActPossible := goodIn_r _ [8, 1, 9, 10, 11, 12, 13, 14, 15, 16, 17, 7, 18, 171, 172, 173, 174, 175, 176, 177, 178, 179, 180, 181, 182, 183, 184, 185, 186, 187] (by decide +kernel) (by decide +kernel)
set_option maxRecDepth 20000 in
theorem gX2_part_X2_isActPossible : GoodIn wsX2_part (wsV RX2 55 RX2 yX2_isActPossible wsX2_isActPossible) := goodIn_app (goodIn_of _ (by decide +kernel)) ggX2_part_X2_isActPossible
set_option maxRecDepth 20000 in
theorem ggX2_part_X2_isField : GoodIn wsX2_part wsX2_isField := goodIn_r _ [22, 1, 9, 16, 17, 7, 18, 171, 172, 173, 174, 175, 176, 177, 178, 179, 180, 181, 182, 183, 184, 185, 186, 187] (by decide +kernel) (by decide +kernel)
set_option maxRecDepth 20000 in
theorem gX2_part_X2_isField : GoodIn wsX2_part (wsV RX2 75 RX2 yX2_isField wsX2_isField) := goodIn_app (goodIn_of _ (by decide +kernel)) ggX2_part_X2_isField
set_option maxRecDepth 20000 in
theorem ggX2_part_X0_draft : GoodIn wsX2_part wsX0_draft := goodIn_r _ [26, 27, 28, 29, 30, 31, 32, 33, 34, 35, 36, 37, 13, 38, 15, 174, 175, 176, 177, 178, 179, 180, 181, 182, 183, 184, 185, 186, 187] (by decide +kernel) (by decide +kernel)
set_option maxRecDepth 20000 in
theorem gX2_part_X0_draft : GoodIn wsX2_part (wsV RX2 36 RX0 yX0_draft wsX0_draft) := goodIn_app (goodIn_of _ (by decide +kernel)) ggX2_part_X0_draft
set_option maxRecDepth 20000 in
theorem ggX2_part_X0_put : GoodIn wsX2_part wsX0_put := goodIn_r _ [38, 15, 174, 175, 176, 177, 178, 179, 180, 181, 182, 183, 184, 185, 186, 187] (by decide +kernel) (by decide +kernel)
set_option maxRecDepth 20000 in
theorem gX2_part_X0_put : GoodIn wsX2_part (wsV RX2 44 RX0 yX0_put wsX0_put) := goodIn_app (goodIn_of _ (by decide +kernel)) ggX2_part_X0_put
set_option maxRecDepth 20000 in
theorem ggX2_part_X2_takeDraft : GoodIn wsX2_part wsX2_takeDraft := goodIn_r _ [43, 1, 44, 9, 45, 46, 39, 36, 37, 13, 38, 15, 47, 48, 49, 50, 51, 28, 52, 53, 7, 54, 55, 56, 57, 58, 59, 60, 61, 62, 63, 64, 65, 66, 67, 68, 69, 70, 71, 72, 73, 74, 75, 76, 77, 78, 79, 80, 81, 82, 83, 84, 85, 86, 87, 88, 89, 90, 91, 92, 93, 94, 95, 96, 97, 98, 99, 100, 101, 102, 103, 104, 105, 106, 107, 108, 109, 110, 111, 112, 113, 114, 115, 116, 117, 118, 119, 120, 121, 122, 123, 124, 125, 126, 127, 128, 129, 130, 27, 29, 31, 131, 132, 133, 134, 135, 136, 137, 138, 139, 140, 141, 142, 143, 144, 145, 146, 147, 148, 149, 150, 151, 152, 153, 154, 155, 156, 157, 158, 159, 160, 161, 30, 162, 163, 164, 165, 171, 172, 173, 174, 175, 176, 177, 178, 179, 180, 181, 182, 183, 184, 185, 186, 187, 188, 189, 190, 191, 192, 193, 194, 195, 196, 197, 198, 199] (by decide +kernel) (by decide +kernel)
set_option maxRecDepth 20000 in
theorem gX2_part_X2_takeDraft : GoodIn wsX2_part (wsV RX2 69 RX2 yX2_takeDraft wsX2_takeDraft) := goodIn_app (goodIn_of _ (by decide +kernel)) ggX2_part_X2_takeDraft
set_option maxRecDepth 20000 in
theorem ggX2_part_X2_firstMadeBy : GoodIn wsX2_part wsX2_firstMadeBy := goodIn_r _ [169, 1, 44, 170, 53, 7, 54, 171, 172, 173, 174, 175, 176, 177, 178, 179, 180, 181, 182, 183, 184, 185, 186, 187] (by decide +kernel) (by decide +kernel)
set_option maxRecDepth 20000 in
theorem gX2_part_X2_firstMadeBy : GoodIn wsX2_part (wsV RX2 72 RX2 yX2_firstMadeBy wsX2_firstMadeBy) := goodIn_app (goodIn_of _ (by decide +kernel)) ggX2_part_X2_firstMadeBy
theorem dX2_part_0 : decode cX2_part 0 = .ok (.aload_n 0, 1) := by decide +kernel
theorem dX2_part_1 : decode cX2_part 1 = .ok (.iload_n 1, 1) := by decide +kernel
theorem dX2_part_2 : decode cX2_part 2 = .ok (.iconst 2, 1) := by decide +kernel
theorem dX2_part_3 : decode cX2_part 3 = .ok (.invokevirtual 55, 3) := by decide +kernel
theorem dX2_part_6 : decode cX2_part 6 = .ok (.ifCond .eq 16, 3) := by decide +kernel
theorem dX2_part_9 : decode cX2_part 9 = .ok (.aload_n 0, 1) := by decide +kernel
theorem dX2_part_10 : decode cX2_part 10 = .ok (.iload_n 2, 1) := by decide +kernel
theorem dX2_part_11 : decode cX2_part 11 = .ok (.invokevirtual 75, 3) := by decide +kernel
theorem dX2_part_14 : decode cX2_part 14 = .ok (.ifCond .eq 8, 3) := by decide +kernel
theorem dX2_part_17 : decode cX2_part 17 = .ok (.iload_n 3, 1) := by decide +kernel
theorem dX2_part_18 : decode cX2_part 18 = .ok (.iconst 1, 1) := by decide +kernel
theorem dX2_part_19 : decode cX2_part 19 = .ok (.if_icmp .ge 5, 3) := by decide +kernel
theorem dX2_part_22 : decode cX2_part 22 = .ok (.iconst (-1), 1) := by decide +kernel
theorem dX2_part_23 : decode cX2_part 23 = .ok (.ireturn, 1) := by decide +kernel
theorem dX2_part_24 : decode cX2_part 24 = .ok (.aload_n 0, 1) := by decide +kernel
theorem dX2_part_25 : decode cX2_part 25 = .ok (.getfield 10, 3) := by decide +kernel
theorem dX2_part_28 : decode cX2_part 28 = .ok (.iconst 2, 1) := by decide +kernel
theorem dX2_part_29 : decode cX2_part 29 = .ok (.iload_n 1, 1) := by decide +kernel
theorem dX2_part_30 : decode cX2_part 30 = .ok (.invokevirtual 36, 3) := by decide +kernel
theorem dX2_part_33 : decode cX2_part 33 = .ok (.aload_n 0, 1) := by decide +kernel
theorem dX2_part_34 : decode cX2_part 34 = .ok (.getfield 10, 3) := by decide +kernel
theorem dX2_part_37 : decode cX2_part 37 = .ok (.aload_n 0, 1) := by decide +kernel
theorem dX2_part_38 : decode cX2_part 38 = .ok (.getfield 10, 3) := by decide +kernel
theorem dX2_part_41 : decode cX2_part 41 = .ok (.getfield 40, 3) := by decide +kernel
theorem dX2_part_44 : decode cX2_part 44 = .ok (.iload_n 2, 1) := by decide +kernel
theorem dX2_part_45 : decode cX2_part 45 = .ok (.invokevirtual 44, 3) := by decide +kernel
theorem dX2_part_48 : decode cX2_part 48 = .ok (.aload_n 0, 1) := by decide +kernel
theorem dX2_part_49 : decode cX2_part 49 = .ok (.getfield 10, 3) := by decide +kernel
theorem dX2_part_52 : decode cX2_part 52 = .ok (.aload_n 0, 1) := by decide +kernel
theorem dX2_part_53 : decode cX2_part 53 = .ok (.getfield 10, 3) := by decide +kernel
theorem dX2_part_56 : decode cX2_part 56 = .ok (.getfield 48, 3) := by decide +kernel
theorem dX2_part_59 : decode cX2_part 59 = .ok (.iload_n 3, 1) := by decide +kernel
theorem dX2_part_60 : decode cX2_part 60 = .ok (.invokevirtual 44, 3) := by decide +kernel
theorem dX2_part_63 : decode cX2_part 63 = .ok (.aload_n 0, 1) := by decide +kernel
theorem dX2_part_64 : decode cX2_part 64 = .ok (.aload_n 0, 1) := by decide +kernel
theorem dX2_part_65 : decode cX2_part 65 = .ok (.iconst 2, 1) := by decide +kernel
theorem dX2_part_66 : decode cX2_part 66 = .ok (.invokevirtual 69, 3) := by decide +kernel
theorem dX2_part_69 : decode cX2_part 69 = .ok (.invokevirtual 72, 3) := by decide +kernel
theorem dX2_part_72 : decode cX2_part 72 = .ok (.ireturn, 1) := by decide +kernel
set_option maxRecDepth 20000 in
theorem ggX2_join_X2_isActPossible : GoodIn wsX2_join wsX2_isActPossible := goodIn_r _ [8, 1, 9, 10, 11, 12, 13, 14, 15, 16, 17, 7, 18, 171, 172, 173, 174, 175, 176, 177, 178, 179, 180, 181, 182, 183, 184, 185, 186, 187] (by decide +kernel) (by decide +kernel)
set_option maxRecDepth 20000 in
theorem gX2_join_X2_isActPossible : GoodIn wsX2_join (wsV RX2 55 RX2 yX2_isActPossible wsX2_isActPossible) := goodIn_app (goodIn_of _ (by decide +kernel)) ggX2_join_X2_isActPossible
set_option maxRecDepth 20000 in
theorem ggX2_join_X2_isField : GoodIn wsX2_join wsX2_isField := goodIn_r _ [22, 1, 9, 16, 17, 7, 18, 171, 172, 173, 174, 175, 176, 177, 178, 179, 180, 181, 182, 183, 184, 185, 186, 187] (by decide +kernel) (by decide +kernel)
set_option maxRecDepth 20000 in
theorem gX2_join_X2_isField : GoodIn wsX2_join (wsV RX2 75 RX2 yX2_isField wsX2_isField) := goodIn_app (goodIn_of _ (by decide +kernel)) ggX2_join_X2_isField
set_option maxRecDepth 20000 in
theorem ggX2_join_X0_draft : GoodIn wsX2_join wsX0_draft := goodIn_r _ [26, 27, 28, 29, 30, 31, 32, 33, 34, 35, 36, 37, 13, 38, 15, 174, 175, 176, 177, 178, 179, 180, 181, 182, 183, 184, 185, 186, 187] (by decide +kernel) (by decide +kernel)
set_option maxRecDepth 20000 in
theorem gX2_join_X0_draft : GoodIn wsX2_join (wsV RX2 36 RX0 yX0_draft wsX0_draft) := goodIn_app (goodIn_of _ (by decide +kernel)) ggX2_join_X0_draft
set_option maxRecDepth 20000 in
theorem ggX2_join_X0_put : GoodIn wsX2_join wsX0_put := goodIn_r _ [38, 15, 174, 175, 176, 177, 178, 179, 180, 181, 182, 183, 184, 185, 186, 187] (by decide +kernel) (by decide +kernel)
set_option maxRecDepth 20000 in
theorem gX2_join_X0_put : GoodIn wsX2_join (wsV RX2 44 RX0 yX0_put wsX0_put) := goodIn_app (goodIn_of _ (by decide +kernel)) ggX2_join_X0_put
set_option maxRecDepth 20000 in
theorem ggX2_join_X2_takeDraft : GoodIn wsX2_join wsX2_takeDraft := goodIn_r _ [43, 1, 44, 9, 45, 46, 39, 36, 37, 13, 38, 15, 47, 48, 49, 50, 51, 28, 52, 53, 7, 54, 55, 56, 57, 58, 59, 60, 61, 62, 63, 64, 65, 66, 67, 68, 69, 70, 71, 72, 73, 74, 75, 76, 77, 78, 79, 80, 81, 82, 83, 84, 85, 86, 87, 88, 89, 90, 91, 92, 93, 94, 95, 96, 97, 98, 99, 100, 101, 102, 103, 104, 105, 106, 107, 108, 109, 110, 111, 112, 113, 114, 115, 116, 117, 118, 119, 120, 121, 122, 123, 124, 125, 126, 127, 128, 129, 130, 27, 29, 31, 131, 132, 133, 134, 135, 136, 137, 138, 139, 140, 141, 142, 143, 144, 145, 146, 147, 148, 149, 150, 151, 152, 153, 154, 155, 156, 157, 158, 159, 160, 161, 30, 162, 163, 164, 165, 171, 172, 173, 174, 175, 176, 177, 178, 179, 180, 181, 182, 183, 184, 185, 186, 187, 188, 189, 190, 191, 192, 193, 194, 195, 196, 197, 198, 199] (by decide +kernel) (by decide +kernel)
set_option maxRecDepth 20000 in
theorem gX2_join_X2_takeDraft : GoodIn wsX2_join (wsV RX2 69 RX2 yX2_takeDraft wsX2_takeDraft) := goodIn_app (goodIn_of _ (by decide +kernel)) ggX2_join_X2_takeDraft
set_option maxRecDepth 20000 in
theorem ggX2_join_X2_firstMadeBy : GoodIn wsX2_join wsX2_firstMadeBy := goodIn_r _ [169, 1, 44, 170, 53, 7, 54, 171, 172, 173, 174, 175, 176, 177, 178, 179, 180, 181, 182, 183, 184, 185, 186, 187] (by decide +kernel) (by decide +kernel)
set_option maxRecDepth 20000 in
theorem gX2_join_X2_firstMadeBy : GoodIn wsX2_join (wsV RX2 72 RX2 yX2_firstMadeBy wsX2_firstMadeBy) := goodIn_app (goodIn_of _ (by decide +kernel)) ggX2_join_X2_firstMadeBy
theorem dX2_join_0 : decode cX2_join 0 = .ok (.aload_n 0, 1) := by decide +kernel
theorem dX2_join_1 : decode cX2_join 1 = .ok (.iload_n 1, 1) := by decide +kernel
theorem dX2_join_2 : decode cX2_join 2 = .ok (.iconst 1, 1) := by decide +kernel
theorem dX2_join_3 : decode cX2_join 3 = .ok (.invokevirtual 55, 3) := by decide +kernel
theorem dX2_join_6 : decode cX2_join 6 = .ok (.ifCond .eq 19, 3) := by decide +kernel
theorem dX2_join_9 : decode cX2_join 9 = .ok (.aload_n 0, 1) := by decide +kernel
theorem dX2_join_10 : decode cX2_join 10 = .ok (.iload_n 2, 1) := by decide +kernel
theorem dX2_join_11 : decode cX2_join 11 = .ok (.invokevirtual 75, 3) := by decide +kernel
theorem dX2_join_14 : decode cX2_join 14 = .ok (.ifCond .eq 11, 3) := by decide +kernel
theorem dX2_join_17 : decode cX2_join 17 = .ok (.aload_n 0, 1) := by decide +kernel
theorem dX2_join_18 : decode cX2_join 18 = .ok (.iload_n 3, 1) := by decide +kernel
theorem dX2_join_19 : decode cX2_join 19 = .ok (.invokevirtual 75, 3) := by decide +kernel
theorem dX2_join_22 : decode cX2_join 22 = .ok (.ifCond .ne 5, 3) := by decide +kernel
theorem dX2_join_25 : decode cX2_join 25 = .ok (.iconst (-1), 1) := by decide +kernel
theorem dX2_join_26 : decode cX2_join 26 = .ok (.ireturn, 1) := by decide +kernel
theorem dX2_join_27 : decode cX2_join 27 = .ok (.aload_n 0, 1) := by decide +kernel
theorem dX2_join_28 : decode cX2_join 28 = .ok (.getfield 10, 3) := by decide +kernel
theorem dX2_join_31 : decode cX2_join 31 = .ok (.iconst 3, 1) := by decide +kernel
theorem dX2_join_32 : decode cX2_join 32 = .ok (.iload_n 1, 1) := by decide +kernel
theorem dX2_join_33 : decode cX2_join 33 = .ok (.invokevirtual 36, 3) := by decide +kernel
theorem dX2_join_36 : decode cX2_join 36 = .ok (.aload_n 0, 1) := by decide +kernel
theorem dX2_join_37 : decode cX2_join 37 = .ok (.getfield 10, 3) := by decide +kernel
theorem dX2_join_40 : decode cX2_join 40 = .ok (.aload_n 0, 1) := by decide +kernel
theorem dX2_join_41 : decode cX2_join 41 = .ok (.getfield 10, 3) := by decide +kernel
theorem dX2_join_44 : decode cX2_join 44 = .ok (.getfield 40, 3) := by decide +kernel
theorem dX2_join_47 : decode cX2_join 47 = .ok (.iload_n 2, 1) := by decide +kernel
theorem dX2_join_48 : decode cX2_join 48 = .ok (.invokevirtual 44, 3) := by decide +kernel
theorem dX2_join_51 : decode cX2_join 51 = .ok (.aload_n 0, 1) := by decide +kernel
theorem dX2_join_52 : decode cX2_join 52 = .ok (.getfield 10, 3) := by decide +kernel
theorem dX2_join_55 : decode cX2_join 55 = .ok (.aload_n 0, 1) := by decide +kernel
theorem dX2_join_56 : decode cX2_join 56 = .ok (.getfield 10, 3) := by decide +kernel
theorem dX2_join_59 : decode cX2_join 59 = .ok (.getfield 78, 3) := by decide +kernel
theorem dX2_join_62 : decode cX2_join 62 = .ok (.iload_n 3, 1) := by decide +kernel
theorem dX2_join_63 : decode cX2_join 63 = .ok (.invokevirtual 44, 3) := by decide +kernel
theorem dX2_join_66 : decode cX2_join 66 = .ok (.aload_n 0, 1) := by decide +kernel
theorem dX2_join_67 : decode cX2_join 67 = .ok (.aload_n 0, 1) := by decide +kernel
theorem dX2_join_68 : decode cX2_join 68 = .ok (.iconst 1, 1) := by decide +kernel
theorem dX2_join_69 : decode cX2_join 69 = .ok (.invokevirtual 69, 3) := by decide +kernel
theorem dX2_join_72 : decode cX2_join 72 = .ok (.invokevirtual 72, 3) := by decide +kernel
theorem dX2_join_75 : decode cX2_join 75 = .ok (.ireturn, 1) := by decide +kernel
set_option maxRecDepth 20000 in
theorem ggX2_sell_X2_isActPossible : GoodIn wsX2_sell wsX2_isActPossible := goodIn_r _ [8, 1, 9, 10, 11, 12, 13, 14, 15, 16, 17, 7, 18, 169, 170, 171, 172, 173, 174, 175, 176, 177, 178, 179, 180, 181, 182, 183, 184, 185] (by decide +kernel) (by decide +kernel)
set_option maxRecDepth 20000 in
theorem gX2_sell_X2_isActPossible : GoodIn wsX2_sell (wsV RX2 55 RX2 yX2_isActPossible wsX2_isActPossible) := goodIn_app (goodIn_of _ (by decide +kernel)) ggX2_sell_X2_isActPossible
set_option maxRecDepth 20000 in
theorem ggX2_sell_X2_isField : GoodIn wsX2_sell wsX2_isField := goodIn_r _ [22, 1, 9, 16, 17, 7, 18, 169, 170, 171, 172, 173, 174, 175, 176, 177, 178, 179, 180, 181, 182, 183, 184, 185] (by decide +kernel) (by decide +kernel)
set_option maxRecDepth 20000 in
theorem gX2_sell_X2_isField : GoodIn wsX2_sell (wsV RX2 75 RX2 yX2_isField wsX2_isField) := goodIn_app (goodIn_of _ (by decide +kernel)) ggX2_sell_X2_isField
set_option maxRecDepth 20000 in
theorem ggX2_sell_X2_isOwner : GoodIn wsX2_sell wsX2_isOwner := goodIn_r _ [25, 16, 17, 7, 18] (by decide +kernel) (by decide +kernel)
set_option maxRecDepth 20000 in
theorem gX2_sell_X2_isOwner : GoodIn wsX2_sell (va_wsS RX2 59 yX2_isOwner wsX2_isOwner) := goodIn_app (goodIn_of _ (by decide +kernel)) ggX2_sell_X2_isOwner
set_option maxRecDepth 20000 in
theorem ggX2_sell_X0_draft : GoodIn wsX2_sell wsX0_draft := goodIn_r _ [29, 30, 31, 32, 33, 34, 35, 36, 37, 38, 39, 40, 13, 41, 15, 172, 173, 174, 175, 176, 177, 178, 179, 180, 181, 182, 183, 184, 185] (by decide +kernel) (by decide +kernel)
set_option maxRecDepth 20000 in
theorem gX2_sell_X0_draft : GoodIn wsX2_sell (wsV RX2 36 RX0 yX0_draft wsX0_draft) := goodIn_app (goodIn_of _ (by decide +kernel)) ggX2_sell_X0_draft
set_option maxRecDepth 20000 in
theorem ggX2_sell_X0_put : GoodIn wsX2_sell wsX0_put := goodIn_r _ [41, 15, 172, 173, 174, 175, 176, 177, 178, 179, 180, 181, 182, 183, 184, 185] (by decide +kernel) (by decide +kernel)
set_option maxRecDepth 20000 in
theorem gX2_sell_X0_put : GoodIn wsX2_sell (wsV RX2 44 RX0 yX0_put wsX0_put) := goodIn_app (goodIn_of _ (by decide +kernel)) ggX2_sell_X0_put
set_option maxRecDepth 20000 in
theorem ggX2_sell_X2_takeDraft : GoodIn wsX2_sell wsX2_takeDraft := goodIn_r _ [46, 1, 47, 9, 48, 49, 42, 39, 40, 13, 41, 15, 50, 51, 52, 53, 54, 31, 55, 56, 7, 57, 58, 59, 60, 61, 62, 63, 64, 65, 66, 67, 68, 69, 70, 71, 72, 73, 74, 75, 76, 77, 78, 79, 80, 81, 82, 83, 84, 85, 86, 87, 88, 89, 90, 91, 92, 93, 94, 95, 96, 97, 98, 99, 100, 101, 102, 103, 104, 105, 106, 107, 108, 109, 110, 111, 112, 113, 114, 115, 116, 117, 118, 119, 120, 121, 122, 123, 124, 125, 126, 127, 128, 129, 130, 131, 132, 133, 30, 32, 34, 134, 135, 136, 137, 138, 139, 140, 141, 142, 143, 144, 145, 146, 147, 148, 149, 150, 151, 152, 153, 154, 155, 156, 157, 158, 159, 160, 161, 162, 163, 164, 33, 165, 166, 167, 168, 169, 170, 171, 172, 173, 174, 175, 176, 177, 178, 179, 180, 181, 182, 183, 184, 185, 186, 187, 188, 189, 190, 191, 192, 193, 194, 195, 196, 197] (by decide +kernel) (by decide +kernel)
set_option maxRecDepth 20000 in
theorem gX2_sell_X2_takeDraft : GoodIn wsX2_sell (wsV RX2 69 RX2 yX2_takeDraft wsX2_takeDraft) := goodIn_app (goodIn_of _ (by decide +kernel)) ggX2_sell_X2_takeDraft
theorem dX2_sell_0 : decode cX2_sell 0 = .ok (.aload_n 0, 1) := by decide +kernel
theorem dX2_sell_1 : decode cX2_sell 1 = .ok (.iload_n 1, 1) := by decide +kernel
theorem dX2_sell_2 : decode cX2_sell 2 = .ok (.iconst 0, 1) := by decide +kernel
theorem dX2_sell_3 : decode cX2_sell 3 = .ok (.invokevirtual 55, 3) := by decide +kernel
theorem dX2_sell_6 : decode cX2_sell 6 = .ok (.ifCond .eq 18, 3) := by decide +kernel
theorem dX2_sell_9 : decode cX2_sell 9 = .ok (.aload_n 0, 1) := by decide +kernel
theorem dX2_sell_10 : decode cX2_sell 10 = .ok (.iload_n 2, 1) := by decide +kernel
theorem dX2_sell_11 : decode cX2_sell 11 = .ok (.invokevirtual 75, 3) := by decide +kernel
theorem dX2_sell_14 : decode cX2_sell 14 = .ok (.ifCond .eq 10, 3) := by decide +kernel
theorem dX2_sell_17 : decode cX2_sell 17 = .ok (.iload_n 3, 1) := by decide +kernel
theorem dX2_sell_18 : decode cX2_sell 18 = .ok (.invokestatic 59, 3) := by decide +kernel
theorem dX2_sell_21 : decode cX2_sell 21 = .ok (.ifCond .ne 5, 3) := by decide +kernel
theorem dX2_sell_24 : decode cX2_sell 24 = .ok (.iconst (-1), 1) := by decide +kernel
theorem dX2_sell_25 : decode cX2_sell 25 = .ok (.ireturn, 1) := by decide +kernel
theorem dX2_sell_26 : decode cX2_sell 26 = .ok (.aload_n 0, 1) := by decide +kernel
theorem dX2_sell_27 : decode cX2_sell 27 = .ok (.getfield 10, 3) := by decide +kernel
theorem dX2_sell_30 : decode cX2_sell 30 = .ok (.iconst 4, 1) := by decide +kernel
theorem dX2_sell_31 : decode cX2_sell 31 = .ok (.iload_n 1, 1) := by decide +kernel
theorem dX2_sell_32 : decode cX2_sell 32 = .ok (.invokevirtual 36, 3) := by decide +kernel
theorem dX2_sell_35 : decode cX2_sell 35 = .ok (.aload_n 0, 1) := by decide +kernel
theorem dX2_sell_36 : decode cX2_sell 36 = .ok (.getfield 10, 3) := by decide +kernel
theorem dX2_sell_39 : decode cX2_sell 39 = .ok (.aload_n 0, 1) := by decide +kernel
theorem dX2_sell_40 : decode cX2_sell 40 = .ok (.getfield 10, 3) := by decide +kernel
theorem dX2_sell_43 : decode cX2_sell 43 = .ok (.getfield 40, 3) := by decide +kernel
theorem dX2_sell_46 : decode cX2_sell 46 = .ok (.iload_n 2, 1) := by decide +kernel
theorem dX2_sell_47 : decode cX2_sell 47 = .ok (.invokevirtual 44, 3) := by decide +kernel
theorem dX2_sell_50 : decode cX2_sell 50 = .ok (.aload_n 0, 1) := by decide +kernel
theorem dX2_sell_51 : decode cX2_sell 51 = .ok (.getfield 10, 3) := by decide +kernel
theorem dX2_sell_54 : decode cX2_sell 54 = .ok (.aload_n 0, 1) := by decide +kernel
theorem dX2_sell_55 : decode cX2_sell 55 = .ok (.getfield 10, 3) := by decide +kernel
theorem dX2_sell_58 : decode cX2_sell 58 = .ok (.getfield 66, 3) := by decide +kernel
theorem dX2_sell_61 : decode cX2_sell 61 = .ok (.iload_n 3, 1) := by decide +kernel
theorem dX2_sell_62 : decode cX2_sell 62 = .ok (.invokevirtual 44, 3) := by decide +kernel
theorem dX2_sell_65 : decode cX2_sell 65 = .ok (.aload_n 0, 1) := by decide +kernel
theorem dX2_sell_66 : decode cX2_sell 66 = .ok (.iconst 0, 1) := by decide +kernel
theorem dX2_sell_67 : decode cX2_sell 67 = .ok (.invokevirtual 69, 3) := by decide +kernel
theorem dX2_sell_70 : decode cX2_sell 70 = .ok (.ireturn, 1) := by decide +kernel
set_option maxRecDepth 20000 in
theorem ggX2_settle_X2_isActPossible : GoodIn wsX2_settle wsX2_isActPossible := goodIn_r _ [8, 2, 9, 10, 11, 12, 13, 14, 15, 16, 17, 7, 18, 162, 163, 164, 165, 166, 167, 168, 169, 170, 171, 172, 173, 174, 175, 176, 177, 178] (by decide +kernel) (by decide +kernel)
set_option maxRecDepth 20000 in
theorem gX2_settle_X2_isActPossible : GoodIn wsX2_settle (wsV RX2 55 RX2 yX2_isActPossible wsX2_isActPossible) := goodIn_app (goodIn_of _ (by decide +kernel)) ggX2_settle_X2_isActPossible
set_option maxRecDepth 20000 in
theorem ggX2_settle_X2_isWithin : GoodIn wsX2_settle wsX2_isWithin := goodIn_r _ [18] (by decide +kernel) (by decide +kernel)
set_option maxRecDepth 20000 in
theorem gX2_settle_X2_isWithin : GoodIn wsX2_settle (va_wsS RX2 32 yX2_isWithin wsX2_isWithin) := goodIn_app (goodIn_of _ (by decide +kernel)) ggX2_settle_X2_isWithin
set_option maxRecDepth 20000 in
theorem ggX2_settle_X0_draft : GoodIn wsX2_settle wsX0_draft := goodIn_r _ [22, 23, 24, 25, 26, 27, 28, 29, 30, 31, 32, 33, 13, 34, 15, 165, 166, 167, 168, 169, 170, 171, 172, 173, 174, 175, 176, 177, 178] (by decide +kernel) (by decide +kernel)
set_option maxRecDepth 20000 in
theorem gX2_settle_X0_draft : GoodIn wsX2_settle (wsV RX2 36 RX0 yX0_draft wsX0_draft) := goodIn_app (goodIn_of _ (by decide +kernel)) ggX2_settle_X0_draft
set_option maxRecDepth 20000 in
theorem ggX2_settle_X0_put : GoodIn wsX2_settle wsX0_put := goodIn_r _ [34, 15, 165, 166, 167, 168, 169, 170, 171, 172, 173, 174, 175, 176, 177, 178] (by decide +kernel) (by decide +kernel)
set_option maxRecDepth 20000 in
theorem gX2_settle_X0_put : GoodIn wsX2_settle (wsV RX2 44 RX0 yX0_put wsX0_put) := goodIn_app (goodIn_of _ (by decide +kernel)) ggX2_settle_X0_put
set_option maxRecDepth 20000 in
theorem ggX2_settle_X2_takeDraft : GoodIn wsX2_settle wsX2_takeDraft := goodIn_r _ [39, 2, 40, 9, 41, 42, 35, 32, 33, 13, 34, 15, 43, 44, 45, 46, 47, 24, 48, 49, 7, 50, 51, 52, 53, 54, 55, 56, 57, 58, 59, 60, 61, 62, 63, 64, 65, 66, 67, 68, 69, 70, 71, 72, 73, 74, 75, 76, 77, 78, 79, 80, 81, 82, 83, 84, 85, 86, 87, 88, 89, 90, 91, 92, 93, 94, 95, 96, 97, 98, 99, 100, 101, 102, 103, 104, 105, 106, 107, 108, 109, 110, 111, 112, 113, 114, 115, 116, 117, 118, 119, 120, 121, 122, 123, 124, 125, 126, 23, 25, 27, 127, 128, 129, 130, 131, 132, 133, 134, 135, 136, 137, 138, 139, 140, 141, 142, 143, 144, 145, 146, 147, 148, 149, 150, 151, 152, 153, 154, 155, 156, 157, 26, 158, 159, 160, 161, 162, 163, 164, 165, 166, 167, 168, 169, 170, 171, 172, 173, 174, 175, 176, 177, 178, 179, 180, 181, 182, 183, 184, 185, 186, 187, 188, 189, 190] (by decide +kernel) (by decide +kernel)
set_option maxRecDepth 20000 in
theorem gX2_settle_X2_takeDraft : GoodIn wsX2_settle (wsV RX2 69 RX2 yX2_takeDraft wsX2_takeDraft) := goodIn_app (goodIn_of _ (by decide +kernel)) ggX2_settle_X2_takeDraft
theorem dX2_settle_0 : decode cX2_settle 0 = .ok (.aload_n 0, 1) := by decide +kernel
theorem dX2_settle_1 : decode cX2_settle 1 = .ok (.iload_n 1, 1) := by decide +kernel
theorem dX2_settle_2 : decode cX2_settle 2 = .ok (.iconst 0, 1) := by decide +kernel
theorem dX2_settle_3 : decode cX2_settle 3 = .ok (.invokevirtual 55, 3) := by decide +kernel
theorem dX2_settle_6 : decode cX2_settle 6 = .ok (.ifCond .eq 13, 3) := by decide +kernel
theorem dX2_settle_9 : decode cX2_settle 9 = .ok (.iload_n 2, 1) := by decide +kernel
theorem dX2_settle_10 : decode cX2_settle 10 = .ok (.iconst 1, 1) := by decide +kernel
theorem dX2_settle_11 : decode cX2_settle 11 = .ok (.ldc 81, 2) := by decide +kernel
theorem dX2_settle_13 : decode cX2_settle 13 = .ok (.invokestatic 32, 3) := by decide +kernel
theorem dX2_settle_16 : decode cX2_settle 16 = .ok (.ifCond .ne 5, 3) := by decide +kernel
theorem dX2_settle_19 : decode cX2_settle 19 = .ok (.iconst (-1), 1) := by decide +kernel
theorem dX2_settle_20 : decode cX2_settle 20 = .ok (.ireturn, 1) := by decide +kernel
theorem dX2_settle_21 : decode cX2_settle 21 = .ok (.aload_n 0, 1) := by decide +kernel
theorem dX2_settle_22 : decode cX2_settle 22 = .ok (.getfield 10, 3) := by decide +kernel
theorem dX2_settle_25 : decode cX2_settle 25 = .ok (.iconst 5, 1) := by decide +kernel
theorem dX2_settle_26 : decode cX2_settle 26 = .ok (.iload_n 1, 1) := by decide +kernel
theorem dX2_settle_27 : decode cX2_settle 27 = .ok (.invokevirtual 36, 3) := by decide +kernel
theorem dX2_settle_30 : decode cX2_settle 30 = .ok (.aload_n 0, 1) := by decide +kernel
theorem dX2_settle_31 : decode cX2_settle 31 = .ok (.getfield 10, 3) := by decide +kernel
theorem dX2_settle_34 : decode cX2_settle 34 = .ok (.aload_n 0, 1) := by decide +kernel
theorem dX2_settle_35 : decode cX2_settle 35 = .ok (.getfield 10, 3) := by decide +kernel
theorem dX2_settle_38 : decode cX2_settle 38 = .ok (.getfield 48, 3) := by decide +kernel
theorem dX2_settle_41 : decode cX2_settle 41 = .ok (.iload_n 2, 1) := by decide +kernel
theorem dX2_settle_42 : decode cX2_settle 42 = .ok (.invokevirtual 44, 3) := by decide +kernel
theorem dX2_settle_45 : decode cX2_settle 45 = .ok (.aload_n 0, 1) := by decide +kernel
theorem dX2_settle_46 : decode cX2_settle 46 = .ok (.iconst 0, 1) := by decide +kernel
theorem dX2_settle_47 : decode cX2_settle 47 = .ok (.invokevirtual 69, 3) := by decide +kernel
theorem dX2_settle_50 : decode cX2_settle 50 = .ok (.ireturn, 1) := by decide +kernel
set_option maxRecDepth 20000 in
theorem ggX2_buy_X2_isActPossible : GoodIn wsX2_buy wsX2_isActPossible := goodIn_r _ [7, 1, 8, 9, 10, 11, 12, 13, 14, 15, 16, 6, 17, 165, 166, 167, 168, 169, 170, 171, 172, 173, 174, 175, 176, 177, 178, 179, 180, 181] (by decide +kernel) (by decide +kernel)
set_option maxRecDepth 20000 in
theorem gX2_buy_X2_isActPossible : GoodIn wsX2_buy (wsV RX2 55 RX2 yX2_isActPossible wsX2_isActPossible) := goodIn_app (goodIn_of _ (by decide +kernel)) ggX2_buy_X2_isActPossible
set_option maxRecDepth 20000 in
theorem ggX2_buy_X2_isField : GoodIn wsX2_buy wsX2_isField := goodIn_r _ [21, 1, 8, 15, 16, 6, 17, 165, 166, 167, 168, 169, 170, 171, 172, 173, 174, 175, 176, 177, 178, 179, 180, 181] (by decide +kernel) (by decide +kernel)
set_option maxRecDepth 20000 in
theorem gX2_buy_X2_isField : GoodIn wsX2_buy (wsV RX2 75 RX2 yX2_isField wsX2_isField) := goodIn_app (goodIn_of _ (by decide +kernel)) ggX2_buy_X2_isField
set_option maxRecDepth 20000 in
theorem ggX2_buy_X0_draft : GoodIn wsX2_buy wsX0_draft := goodIn_r _ [25, 26, 27, 28, 29, 30, 31, 32, 33, 34, 35, 36, 12, 37, 14, 168, 169, 170, 171, 172, 173, 174, 175, 176, 177, 178, 179, 180, 181] (by decide +kernel) (by decide +kernel)
set_option maxRecDepth 20000 in
theorem gX2_buy_X0_draft : GoodIn wsX2_buy (wsV RX2 36 RX0 yX0_draft wsX0_draft) := goodIn_app (goodIn_of _ (by decide +kernel)) ggX2_buy_X0_draft
set_option maxRecDepth 20000 in
theorem ggX2_buy_X0_put : GoodIn wsX2_buy wsX0_put := goodIn_r _ [37, 14, 168, 169, 170, 171, 172, 173, 174, 175, 176, 177, 178, 179, 180, 181] (by decide +kernel) (by decide +kernel)
set_option maxRecDepth 20000 in
theorem gX2_buy_X0_put : GoodIn wsX2_buy (wsV RX2 44 RX0 yX0_put wsX0_put) := goodIn_app (goodIn_of _ (by decide +kernel)) ggX2_buy_X0_put
set_option maxRecDepth 20000 in
theorem ggX2_buy_X2_takeDraft : GoodIn wsX2_buy wsX2_takeDraft := goodIn_r _ [42, 1, 43, 8, 44, 45, 38, 35, 36, 12, 37, 14, 46, 47, 48, 49, 50, 27, 51, 52, 6, 53, 54, 55, 56, 57, 58, 59, 60, 61, 62, 63, 64, 65, 66, 67, 68, 69, 70, 71, 72, 73, 74, 75, 76, 77, 78, 79, 80, 81, 82, 83, 84, 85, 86, 87, 88, 89, 90, 91, 92, 93, 94, 95, 96, 97, 98, 99, 100, 101, 102, 103, 104, 105, 106, 107, 108, 109, 110, 111, 112, 113, 114, 115, 116, 117, 118, 119, 120, 121, 122, 123, 124, 125, 126, 127, 128, 129, 26, 28, 30, 130, 131, 132, 133, 134, 135, 136, 137, 138, 139, 140, 141, 142, 143, 144, 145, 146, 147, 148, 149, 150, 151, 152, 153, 154, 155, 156, 157, 158, 159, 160, 29, 161, 162, 163, 164, 165, 166, 167, 168, 169, 170, 171, 172, 173, 174, 175, 176, 177, 178, 179, 180, 181, 182, 183, 184, 185, 186, 187, 188, 189, 190, 191, 192, 193] (by decide +kernel) (by decide +kernel)
set_option maxRecDepth 20000 in
theorem gX2_buy_X2_takeDraft : GoodIn wsX2_buy (wsV RX2 69 RX2 yX2_takeDraft wsX2_takeDraft) := goodIn_app (goodIn_of _ (by decide +kernel)) ggX2_buy_X2_takeDraft
theorem dX2_buy_0 : decode cX2_buy 0 = .ok (.aload_n 0, 1) := by decide +kernel
theorem dX2_buy_1 : decode cX2_buy 1 = .ok (.iload_n 1, 1) := by decide +kernel
theorem dX2_buy_2 : decode cX2_buy 2 = .ok (.iconst 0, 1) := by decide +kernel
theorem dX2_buy_3 : decode cX2_buy 3 = .ok (.invokevirtual 55, 3) := by decide +kernel
theorem dX2_buy_6 : decode cX2_buy 6 = .ok (.ifCond .eq 11, 3) := by decide +kernel
theorem dX2_buy_9 : decode cX2_buy 9 = .ok (.aload_n 0, 1) := by decide +kernel
theorem dX2_buy_10 : decode cX2_buy 10 = .ok (.iload_n 2, 1) := by decide +kernel
theorem dX2_buy_11 : decode cX2_buy 11 = .ok (.invokevirtual 75, 3) := by decide +kernel
theorem dX2_buy_14 : decode cX2_buy 14 = .ok (.ifCond .ne 5, 3) := by decide +kernel
theorem dX2_buy_17 : decode cX2_buy 17 = .ok (.iconst (-1), 1) := by decide +kernel
theorem dX2_buy_18 : decode cX2_buy 18 = .ok (.ireturn, 1) := by decide +kernel
theorem dX2_buy_19 : decode cX2_buy 19 = .ok (.aload_n 0, 1) := by decide +kernel
theorem dX2_buy_20 : decode cX2_buy 20 = .ok (.getfield 10, 3) := by decide +kernel
theorem dX2_buy_23 : decode cX2_buy 23 = .ok (.bipush 6, 2) := by decide +kernel
theorem dX2_buy_25 : decode cX2_buy 25 = .ok (.iload_n 1, 1) := by decide +kernel
theorem dX2_buy_26 : decode cX2_buy 26 = .ok (.invokevirtual 36, 3) := by decide +kernel
theorem dX2_buy_29 : decode cX2_buy 29 = .ok (.aload_n 0, 1) := by decide +kernel
theorem dX2_buy_30 : decode cX2_buy 30 = .ok (.getfield 10, 3) := by decide +kernel
theorem dX2_buy_33 : decode cX2_buy 33 = .ok (.aload_n 0, 1) := by decide +kernel
theorem dX2_buy_34 : decode cX2_buy 34 = .ok (.getfield 10, 3) := by decide +kernel
theorem dX2_buy_37 : decode cX2_buy 37 = .ok (.getfield 40, 3) := by decide +kernel
theorem dX2_buy_40 : decode cX2_buy 40 = .ok (.iload_n 2, 1) := by decide +kernel
theorem dX2_buy_41 : decode cX2_buy 41 = .ok (.invokevirtual 44, 3) := by decide +kernel
theorem dX2_buy_44 : decode cX2_buy 44 = .ok (.aload_n 0, 1) := by decide +kernel
theorem dX2_buy_45 : decode cX2_buy 45 = .ok (.iconst 0, 1) := by decide +kernel
theorem dX2_buy_46 : decode cX2_buy 46 = .ok (.invokevirtual 69, 3) := by decide +kernel
theorem dX2_buy_49 : decode cX2_buy 49 = .ok (.ireturn, 1) := by decide +kernel
set_option maxRecDepth 20000 in
theorem ggX2_average_X2_isKnowing : GoodIn wsX2_average wsX2_isKnowing := goodIn_r _ [6, 1, 7, 8, 9, 5, 10, 24, 25, 26, 27, 28, 29, 30, 31, 32, 33, 34, 35, 36, 37, 38, 39, 40] (by decide +kernel) (by decide +kernel)
set_option maxRecDepth 20000 in
theorem gX2_average_X2_isKnowing : GoodIn wsX2_average (wsV RX2 82 RX2 yX2_isKnowing wsX2_isKnowing) := goodIn_app (goodIn_of _ (by decide +kernel)) ggX2_average_X2_isKnowing
set_option maxRecDepth 20000 in
theorem ggX2_average_X2_isWithin : GoodIn wsX2_average wsX2_isWithin := goodIn_r _ [10] (by decide +kernel) (by decide +kernel)
set_option maxRecDepth 20000 in
theorem gX2_average_X2_isWithin : GoodIn wsX2_average (va_wsS RX2 32 yX2_isWithin wsX2_isWithin) := goodIn_app (goodIn_of _ (by decide +kernel)) ggX2_average_X2_isWithin
set_option maxRecDepth 20000 in
theorem ggX2_average_X0_mean : GoodIn wsX2_average wsX0_mean := goodIn_r _ [15, 16, 17, 18, 19, 20, 21, 22, 23, 27, 28, 29, 30, 31, 32, 33, 34, 35, 36, 37, 38, 39, 40] (by decide +kernel) (by decide +kernel)
set_option maxRecDepth 20000 in
theorem gX2_average_X0_mean : GoodIn wsX2_average (wsV RX2 85 RX0 yX0_mean wsX0_mean) := goodIn_app (goodIn_of _ (by decide +kernel)) ggX2_average_X0_mean
theorem dX2_average_0 : decode cX2_average 0 = .ok (.aload_n 0, 1) := by decide +kernel
theorem dX2_average_1 : decode cX2_average 1 = .ok (.iload_n 1, 1) := by decide +kernel
theorem dX2_average_2 : decode cX2_average 2 = .ok (.invokevirtual 82, 3) := by decide +kernel
theorem dX2_average_5 : decode cX2_average 5 = .ok (.ifCond .eq 23, 3) := by decide +kernel
theorem dX2_average_8 : decode cX2_average 8 = .ok (.iload_n 2, 1) := by decide +kernel
theorem dX2_average_9 : decode cX2_average 9 = .ok (.iconst 1, 1) := by decide +kernel
theorem dX2_average_10 : decode cX2_average 10 = .ok (.sipush 200, 3) := by decide +kernel
theorem dX2_average_13 : decode cX2_average 13 = .ok (.invokestatic 32, 3) := by decide +kernel
theorem dX2_average_16 : decode cX2_average 16 = .ok (.ifCond .eq 12, 3) := by decide +kernel
theorem dX2_average_19 : decode cX2_average 19 = .ok (.iload_n 3, 1) := by decide +kernel
theorem dX2_average_20 : decode cX2_average 20 = .ok (.iconst 0, 1) := by decide +kernel
theorem dX2_average_21 : decode cX2_average 21 = .ok (.iconst 2, 1) := by decide +kernel
theorem dX2_average_22 : decode cX2_average 22 = .ok (.invokestatic 32, 3) := by decide +kernel
theorem dX2_average_25 : decode cX2_average 25 = .ok (.ifCond .ne 5, 3) := by decide +kernel
theorem dX2_average_28 : decode cX2_average 28 = .ok (.iconst (-1), 1) := by decide +kernel
theorem dX2_average_29 : decode cX2_average 29 = .ok (.ireturn, 1) := by decide +kernel
theorem dX2_average_30 : decode cX2_average 30 = .ok (.aload_n 0, 1) := by decide +kernel
theorem dX2_average_31 : decode cX2_average 31 = .ok (.getfield 10, 3) := by decide +kernel
theorem dX2_average_34 : decode cX2_average 34 = .ok (.iload_n 1, 1) := by decide +kernel
theorem dX2_average_35 : decode cX2_average 35 = .ok (.iload_n 2, 1) := by decide +kernel
theorem dX2_average_36 : decode cX2_average 36 = .ok (.iload_n 3, 1) := by decide +kernel
theorem dX2_average_37 : decode cX2_average 37 = .ok (.invokevirtual 85, 3) := by decide +kernel
theorem dX2_average_40 : decode cX2_average 40 = .ok (.ireturn, 1) := by decide +kernel
set_option maxRecDepth 20000 in
theorem ggX2_look_X2_isKnowing : GoodIn wsX2_look wsX2_isKnowing := goodIn_r _ [6, 7, 8, 9, 10, 5, 11, 124, 125, 126, 127, 128, 129, 130, 131, 132, 133, 134, 135, 136, 137, 138, 139, 140] (by decide +kernel) (by decide +kernel)
set_option maxRecDepth 20000 in
theorem gX2_look_X2_isKnowing : GoodIn wsX2_look (wsV RX2 82 RX2 yX2_isKnowing wsX2_isKnowing) := goodIn_app (goodIn_of _ (by decide +kernel)) ggX2_look_X2_isKnowing
set_option maxRecDepth 20000 in
theorem ggX2_look_X2_isWithin : GoodIn wsX2_look wsX2_isWithin := goodIn_r _ [11] (by decide +kernel) (by decide +kernel)
set_option maxRecDepth 20000 in
theorem gX2_look_X2_isWithin : GoodIn wsX2_look (va_wsS RX2 32 yX2_isWithin wsX2_isWithin) := goodIn_app (goodIn_of _ (by decide +kernel)) ggX2_look_X2_isWithin
set_option maxRecDepth 20000 in
theorem ggX2_look_X2_isField : GoodIn wsX2_look wsX2_isField := goodIn_r _ [15, 7, 16, 9, 10, 5, 11, 124, 125, 126, 127, 128, 129, 130, 131, 132, 133, 134, 135, 136, 137, 138, 139, 140] (by decide +kernel) (by decide +kernel)
set_option maxRecDepth 20000 in
theorem gX2_look_X2_isField : GoodIn wsX2_look (wsV RX2 75 RX2 yX2_isField wsX2_isField) := goodIn_app (goodIn_of _ (by decide +kernel)) ggX2_look_X2_isField
set_option maxRecDepth 20000 in
theorem ggX2_look_X1_show : GoodIn wsX2_look wsX1_show := goodIn_r _ [21, 22, 23, 24, 25, 26, 27, 28, 5, 29, 30, 31, 32, 20, 33, 34, 35, 36, 37, 38, 39, 40, 41, 42, 43, 44, 45, 46, 47, 48, 49, 50, 51, 52, 53, 54, 55, 56, 57, 58, 59, 60, 61, 62, 63, 64, 65, 66, 67, 68, 69, 70, 71, 72, 73, 74, 75, 76, 77, 78, 79, 80, 81, 82, 83, 84, 85, 86, 87, 88, 89, 90, 91, 92, 93, 94, 95, 96, 97, 98, 99, 100, 101, 102, 103, 104, 105, 106, 107, 108, 109, 110, 111, 112, 113, 114, 115, 116, 117, 118, 119, 141, 142, 143, 144, 145, 146, 147, 148, 149, 150, 151, 152, 127, 128, 129, 130, 131, 132, 133, 134, 135, 136, 137, 138, 139, 140] (by decide +kernel) (by decide +kernel)
set_option maxRecDepth 20000 in
theorem gX2_look_X1_show : GoodIn wsX2_look (wsV RX2 89 RX1 yX1_show wsX1_show) := goodIn_app (goodIn_of _ (by decide +kernel)) ggX2_look_X1_show
set_option maxRecDepth 20000 in
theorem ggX2_look_X1_tell : GoodIn wsX2_look wsX1_tell := goodIn_r _ [123, 45, 46, 47, 56, 48, 61, 62, 63, 20, 64, 22, 141, 142, 143, 144, 145, 146, 147, 148, 149, 150, 151, 152] (by decide +kernel) (by decide +kernel)
set_option maxRecDepth 20000 in
theorem gX2_look_X1_tell : GoodIn wsX2_look (wsV RX2 92 RX1 yX1_tell wsX1_tell) := goodIn_app (goodIn_of _ (by decide +kernel)) ggX2_look_X1_tell
theorem dX2_look_0 : decode cX2_look 0 = .ok (.aload_n 0, 1) := by decide +kernel
theorem dX2_look_1 : decode cX2_look 1 = .ok (.iload_n 1, 1) := by decide +kernel
theorem dX2_look_2 : decode cX2_look 2 = .ok (.invokevirtual 82, 3) := by decide +kernel
theorem dX2_look_5 : decode cX2_look 5 = .ok (.ifCond .eq 22, 3) := by decide +kernel
theorem dX2_look_8 : decode cX2_look 8 = .ok (.iload_n 2, 1) := by decide +kernel
theorem dX2_look_9 : decode cX2_look 9 = .ok (.iconst 0, 1) := by decide +kernel
theorem dX2_look_10 : decode cX2_look 10 = .ok (.sipush 200, 3) := by decide +kernel
theorem dX2_look_13 : decode cX2_look 13 = .ok (.invokestatic 32, 3) := by decide +kernel
theorem dX2_look_16 : decode cX2_look 16 = .ok (.ifCond .eq 11, 3) := by decide +kernel
theorem dX2_look_19 : decode cX2_look 19 = .ok (.aload_n 0, 1) := by decide +kernel
theorem dX2_look_20 : decode cX2_look 20 = .ok (.iload_n 3, 1) := by decide +kernel
theorem dX2_look_21 : decode cX2_look 21 = .ok (.invokevirtual 75, 3) := by decide +kernel
theorem dX2_look_24 : decode cX2_look 24 = .ok (.ifCond .ne 5, 3) := by decide +kernel
theorem dX2_look_27 : decode cX2_look 27 = .ok (.iconst (-1), 1) := by decide +kernel
theorem dX2_look_28 : decode cX2_look 28 = .ok (.ireturn, 1) := by decide +kernel
theorem dX2_look_29 : decode cX2_look 29 = .ok (.aload_n 0, 1) := by decide +kernel
theorem dX2_look_30 : decode cX2_look 30 = .ok (.getfield 21, 3) := by decide +kernel
theorem dX2_look_33 : decode cX2_look 33 = .ok (.iload_n 1, 1) := by decide +kernel
theorem dX2_look_34 : decode cX2_look 34 = .ok (.iload_n 2, 1) := by decide +kernel
theorem dX2_look_35 : decode cX2_look 35 = .ok (.iconst (-1), 1) := by decide +kernel
theorem dX2_look_36 : decode cX2_look 36 = .ok (.invokevirtual 89, 3) := by decide +kernel
theorem dX2_look_39 : decode cX2_look 39 = .ok (.pop, 1) := by decide +kernel
theorem dX2_look_40 : decode cX2_look 40 = .ok (.aload_n 0, 1) := by decide +kernel
theorem dX2_look_41 : decode cX2_look 41 = .ok (.getfield 21, 3) := by decide +kernel
theorem dX2_look_44 : decode cX2_look 44 = .ok (.iload_n 3, 1) := by decide +kernel
theorem dX2_look_45 : decode cX2_look 45 = .ok (.iload 4, 2) := by decide +kernel
theorem dX2_look_47 : decode cX2_look 47 = .ok (.invokevirtual 92, 3) := by decide +kernel
theorem dX2_look_50 : decode cX2_look 50 = .ok (.ireturn, 1) := by decide +kernel
set_option maxRecDepth 20000 in
theorem ggX2_money_X2_isKnowing : GoodIn wsX2_money wsX2_isKnowing := goodIn_r _ [7, 8, 9, 10, 11, 6, 12, 132, 133, 134, 135, 136, 137, 138, 139, 140, 141, 142, 143, 144, 145, 146, 147, 148] (by decide +kernel) (by decide +kernel)
set_option maxRecDepth 20000 in
theorem gX2_money_X2_isKnowing : GoodIn wsX2_money (wsV RX2 82 RX2 yX2_isKnowing wsX2_isKnowing) := goodIn_app (goodIn_of _ (by decide +kernel)) ggX2_money_X2_isKnowing
set_option maxRecDepth 20000 in
theorem ggX2_money_X2_isWithin : GoodIn wsX2_money wsX2_isWithin := goodIn_r _ [12] (by decide +kernel) (by decide +kernel)
set_option maxRecDepth 20000 in
theorem gX2_money_X2_isWithin : GoodIn wsX2_money (va_wsS RX2 32 yX2_isWithin wsX2_isWithin) := goodIn_app (goodIn_of _ (by decide +kernel)) ggX2_money_X2_isWithin
set_option maxRecDepth 20000 in
theorem ggX2_money_X2_isField : GoodIn wsX2_money wsX2_isField := goodIn_r _ [16, 8, 17, 10, 11, 6, 12, 132, 133, 134, 135, 136, 137, 138, 139, 140, 141, 142, 143, 144, 145, 146, 147, 148] (by decide +kernel) (by decide +kernel)
set_option maxRecDepth 20000 in
theorem gX2_money_X2_isField : GoodIn wsX2_money (wsV RX2 75 RX2 yX2_isField wsX2_isField) := goodIn_app (goodIn_of _ (by decide +kernel)) ggX2_money_X2_isField
set_option maxRecDepth 20000 in
theorem ggX2_money_X1_show : GoodIn wsX2_money wsX1_show := goodIn_r _ [22, 23, 24, 25, 26, 27, 28, 29, 6, 30, 31, 32, 33, 21, 34, 35, 36, 37, 38, 39, 40, 41, 42, 43, 44, 45, 46, 47, 48, 49, 50, 51, 52, 53, 54, 55, 56, 57, 58, 59, 60, 61, 62, 63, 64, 65, 66, 67, 68, 69, 70, 71, 72, 73, 74, 75, 76, 77, 78, 79, 80, 81, 82, 83, 84, 85, 86, 87, 88, 89, 90, 91, 92, 93, 94, 95, 96, 97, 98, 99, 100, 101, 102, 103, 104, 105, 106, 107, 108, 109, 110, 111, 112, 113, 114, 115, 116, 117, 118, 119, 120, 149, 150, 151, 152, 153, 154, 155, 156, 157, 158, 159, 160, 135, 136, 137, 138, 139, 140, 141, 142, 143, 144, 145, 146, 147, 148] (by decide +kernel) (by decide +kernel)
set_option maxRecDepth 20000 in
theorem gX2_money_X1_show : GoodIn wsX2_money (wsV RX2 89 RX1 yX1_show wsX1_show) := goodIn_app (goodIn_of _ (by decide +kernel)) ggX2_money_X1_show
set_option maxRecDepth 20000 in
theorem ggX2_money_X1_worth : GoodIn wsX2_money wsX1_worth := goodIn_r _ [124, 125, 62, 63, 64, 21, 65, 23, 83, 84, 85, 86, 87, 25, 88, 89, 90, 91, 92, 93, 94, 95, 96, 97, 98, 99, 100, 126, 127, 128, 129, 57, 130, 131, 50, 51, 52, 149, 150, 151, 152, 153, 154, 155, 156, 157, 158, 159, 160, 135, 136, 137, 138, 139, 140, 141, 142, 143, 144, 145, 146, 147, 148] (by decide +kernel) (by decide +kernel)
set_option maxRecDepth 20000 in
theorem gX2_money_X1_worth : GoodIn wsX2_money (wsV RX2 98 RX1 yX1_worth wsX1_worth) := goodIn_app (goodIn_of _ (by decide +kernel)) ggX2_money_X1_worth
theorem dX2_money_0 : decode cX2_money 0 = .ok (.aload_n 0, 1) := by decide +kernel
theorem dX2_money_1 : decode cX2_money 1 = .ok (.iload_n 1, 1) := by decide +kernel
theorem dX2_money_2 : decode cX2_money 2 = .ok (.invokevirtual 82, 3) := by decide +kernel
theorem dX2_money_5 : decode cX2_money 5 = .ok (.ifCond .eq 22, 3) := by decide +kernel
theorem dX2_money_8 : decode cX2_money 8 = .ok (.iload_n 2, 1) := by decide +kernel
theorem dX2_money_9 : decode cX2_money 9 = .ok (.iconst 1, 1) := by decide +kernel
theorem dX2_money_10 : decode cX2_money 10 = .ok (.sipush 200, 3) := by decide +kernel
theorem dX2_money_13 : decode cX2_money 13 = .ok (.invokestatic 32, 3) := by decide +kernel
theorem dX2_money_16 : decode cX2_money 16 = .ok (.ifCond .eq 11, 3) := by decide +kernel
theorem dX2_money_19 : decode cX2_money 19 = .ok (.aload_n 0, 1) := by decide +kernel
theorem dX2_money_20 : decode cX2_money 20 = .ok (.iload_n 3, 1) := by decide +kernel
theorem dX2_money_21 : decode cX2_money 21 = .ok (.invokevirtual 75, 3) := by decide +kernel
theorem dX2_money_24 : decode cX2_money 24 = .ok (.ifCond .ne 7, 3) := by decide +kernel
theorem dX2_money_27 : decode cX2_money 27 = .ok (.ldc2_w 96, 3) := by decide +kernel
theorem dX2_money_30 : decode cX2_money 30 = .ok (.lreturn, 1) := by decide +kernel
theorem dX2_money_31 : decode cX2_money 31 = .ok (.aload_n 0, 1) := by decide +kernel
theorem dX2_money_32 : decode cX2_money 32 = .ok (.getfield 21, 3) := by decide +kernel
theorem dX2_money_35 : decode cX2_money 35 = .ok (.iload_n 1, 1) := by decide +kernel
theorem dX2_money_36 : decode cX2_money 36 = .ok (.iload_n 2, 1) := by decide +kernel
theorem dX2_money_37 : decode cX2_money 37 = .ok (.iconst (-1), 1) := by decide +kernel
theorem dX2_money_38 : decode cX2_money 38 = .ok (.invokevirtual 89, 3) := by decide +kernel
theorem dX2_money_41 : decode cX2_money 41 = .ok (.pop, 1) := by decide +kernel
theorem dX2_money_42 : decode cX2_money 42 = .ok (.aload_n 0, 1) := by decide +kernel
theorem dX2_money_43 : decode cX2_money 43 = .ok (.getfield 21, 3) := by decide +kernel
theorem dX2_money_46 : decode cX2_money 46 = .ok (.iload_n 1, 1) := by decide +kernel
theorem dX2_money_47 : decode cX2_money 47 = .ok (.iload_n 2, 1) := by decide +kernel
theorem dX2_money_48 : decode cX2_money 48 = .ok (.iload_n 3, 1) := by decide +kernel
theorem dX2_money_49 : decode cX2_money 49 = .ok (.invokevirtual 98, 3) := by decide +kernel
theorem dX2_money_52 : decode cX2_money 52 = .ok (.lreturn, 1) := by decide +kernel
set_option maxRecDepth 20000 in
theorem ggX2_owed_X2_isKnowing : GoodIn wsX2_owed wsX2_isKnowing := goodIn_r _ [7, 8, 9, 10, 11, 6, 12, 130, 131, 132, 133, 134, 135, 136, 137, 138, 139, 140, 141, 142, 143, 144, 145, 146] (by decide +kernel) (by decide +kernel)
set_option maxRecDepth 20000 in
theorem gX2_owed_X2_isKnowing : GoodIn wsX2_owed (wsV RX2 82 RX2 yX2_isKnowing wsX2_isKnowing) := goodIn_app (goodIn_of _ (by decide +kernel)) ggX2_owed_X2_isKnowing
set_option maxRecDepth 20000 in
theorem ggX2_owed_X2_isWithin : GoodIn wsX2_owed wsX2_isWithin := goodIn_r _ [12] (by decide +kernel) (by decide +kernel)
set_option maxRecDepth 20000 in
theorem gX2_owed_X2_isWithin : GoodIn wsX2_owed (va_wsS RX2 32 yX2_isWithin wsX2_isWithin) := goodIn_app (goodIn_of _ (by decide +kernel)) ggX2_owed_X2_isWithin
set_option maxRecDepth 20000 in
theorem ggX2_owed_X2_isOwner : GoodIn wsX2_owed wsX2_isOwner := goodIn_r _ [15, 10, 11, 6, 12] (by decide +kernel) (by decide +kernel)
set_option maxRecDepth 20000 in
theorem gX2_owed_X2_isOwner : GoodIn wsX2_owed (va_wsS RX2 59 yX2_isOwner wsX2_isOwner) := goodIn_app (goodIn_of _ (by decide +kernel)) ggX2_owed_X2_isOwner
set_option maxRecDepth 20000 in
theorem ggX2_owed_X1_show : GoodIn wsX2_owed wsX1_show := goodIn_r _ [20, 21, 22, 23, 24, 25, 26, 27, 6, 28, 29, 30, 31, 19, 32, 33, 34, 35, 36, 37, 38, 39, 40, 41, 42, 43, 44, 45, 46, 47, 48, 49, 50, 51, 52, 53, 54, 55, 56, 57, 58, 59, 60, 61, 62, 63, 64, 65, 66, 67, 68, 69, 70, 71, 72, 73, 74, 75, 76, 77, 78, 79, 80, 81, 82, 83, 84, 85, 86, 87, 88, 89, 90, 91, 92, 93, 94, 95, 96, 97, 98, 99, 100, 101, 102, 103, 104, 105, 106, 107, 108, 109, 110, 111, 112, 113, 114, 115, 116, 117, 118, 147, 148, 149, 150, 151, 152, 153, 154, 155, 156, 157, 158, 133, 134, 135, 136, 137, 138, 139, 140, 141, 142, 143, 144, 145, 146] (by decide +kernel) (by decide +kernel)
set_option maxRecDepth 20000 in
theorem gX2_owed_X1_show : GoodIn wsX2_owed (wsV RX2 89 RX1 yX1_show wsX1_show) := goodIn_app (goodIn_of _ (by decide +kernel)) ggX2_owed_X1_show
set_option maxRecDepth 20000 in
theorem ggX2_owed_X1_worthOfAll : GoodIn wsX2_owed wsX1_worthOfAll := goodIn_r _ [122, 21, 46, 123, 81, 82, 83, 19, 84, 85, 23, 86, 87, 88, 89, 90, 91, 92, 93, 94, 95, 96, 97, 98, 124, 125, 126, 127, 55, 128, 129, 48, 49, 50, 147, 148, 149, 150, 151, 152, 153, 154, 155, 156, 157, 158, 133, 134, 135, 136, 137, 138, 139, 140, 141, 142, 143, 144, 145, 146] (by decide +kernel) (by decide +kernel)
set_option maxRecDepth 20000 in
theorem gX2_owed_X1_worthOfAll : GoodIn wsX2_owed (wsV RX2 102 RX1 yX1_worthOfAll wsX1_worthOfAll) := goodIn_app (goodIn_of _ (by decide +kernel)) ggX2_owed_X1_worthOfAll
theorem dX2_owed_0 : decode cX2_owed 0 = .ok (.aload_n 0, 1) := by decide +kernel
theorem dX2_owed_1 : decode cX2_owed 1 = .ok (.iload_n 1, 1) := by decide +kernel
theorem dX2_owed_2 : decode cX2_owed 2 = .ok (.invokevirtual 82, 3) := by decide +kernel
theorem dX2_owed_5 : decode cX2_owed 5 = .ok (.ifCond .eq 26, 3) := by decide +kernel
theorem dX2_owed_8 : decode cX2_owed 8 = .ok (.iload_n 2, 1) := by decide +kernel
theorem dX2_owed_9 : decode cX2_owed 9 = .ok (.iconst 1, 1) := by decide +kernel
theorem dX2_owed_10 : decode cX2_owed 10 = .ok (.sipush 200, 3) := by decide +kernel
theorem dX2_owed_13 : decode cX2_owed 13 = .ok (.invokestatic 32, 3) := by decide +kernel
theorem dX2_owed_16 : decode cX2_owed 16 = .ok (.ifCond .eq 15, 3) := by decide +kernel
theorem dX2_owed_19 : decode cX2_owed 19 = .ok (.iload_n 3, 1) := by decide +kernel
theorem dX2_owed_20 : decode cX2_owed 20 = .ok (.iconst (-1), 1) := by decide +kernel
theorem dX2_owed_21 : decode cX2_owed 21 = .ok (.if_icmp .eq 14, 3) := by decide +kernel
theorem dX2_owed_24 : decode cX2_owed 24 = .ok (.iload_n 3, 1) := by decide +kernel
theorem dX2_owed_25 : decode cX2_owed 25 = .ok (.invokestatic 59, 3) := by decide +kernel
theorem dX2_owed_28 : decode cX2_owed 28 = .ok (.ifCond .ne 7, 3) := by decide +kernel
theorem dX2_owed_31 : decode cX2_owed 31 = .ok (.ldc2_w 96, 3) := by decide +kernel
theorem dX2_owed_34 : decode cX2_owed 34 = .ok (.lreturn, 1) := by decide +kernel
theorem dX2_owed_35 : decode cX2_owed 35 = .ok (.aload_n 0, 1) := by decide +kernel
theorem dX2_owed_36 : decode cX2_owed 36 = .ok (.getfield 21, 3) := by decide +kernel
theorem dX2_owed_39 : decode cX2_owed 39 = .ok (.iload_n 1, 1) := by decide +kernel
theorem dX2_owed_40 : decode cX2_owed 40 = .ok (.iload_n 2, 1) := by decide +kernel
theorem dX2_owed_41 : decode cX2_owed 41 = .ok (.iconst (-1), 1) := by decide +kernel
theorem dX2_owed_42 : decode cX2_owed 42 = .ok (.invokevirtual 89, 3) := by decide +kernel
theorem dX2_owed_45 : decode cX2_owed 45 = .ok (.pop, 1) := by decide +kernel
theorem dX2_owed_46 : decode cX2_owed 46 = .ok (.aload_n 0, 1) := by decide +kernel
theorem dX2_owed_47 : decode cX2_owed 47 = .ok (.getfield 21, 3) := by decide +kernel
theorem dX2_owed_50 : decode cX2_owed 50 = .ok (.iload_n 1, 1) := by decide +kernel
theorem dX2_owed_51 : decode cX2_owed 51 = .ok (.iload_n 2, 1) := by decide +kernel
theorem dX2_owed_52 : decode cX2_owed 52 = .ok (.iload_n 3, 1) := by decide +kernel
theorem dX2_owed_53 : decode cX2_owed 53 = .ok (.invokevirtual 102, 3) := by decide +kernel
theorem dX2_owed_56 : decode cX2_owed 56 = .ok (.lreturn, 1) := by decide +kernel
set_option maxRecDepth 20000 in
theorem ggX2_parish_X2_isKnowing : GoodIn wsX2_parish wsX2_isKnowing := goodIn_r _ [8, 9, 10, 11, 12, 7, 13, 129, 130, 131, 144, 145, 146, 147, 148, 149, 150, 151, 152, 153, 154, 155, 156, 157] (by decide +kernel) (by decide +kernel)
set_option maxRecDepth 20000 in
theorem gX2_parish_X2_isKnowing : GoodIn wsX2_parish (wsV RX2 82 RX2 yX2_isKnowing wsX2_isKnowing) := goodIn_app (goodIn_of _ (by decide +kernel)) ggX2_parish_X2_isKnowing
set_option maxRecDepth 20000 in
theorem ggX2_parish_X2_isWithin : GoodIn wsX2_parish wsX2_isWithin := goodIn_r _ [13] (by decide +kernel) (by decide +kernel)
set_option maxRecDepth 20000 in
theorem gX2_parish_X2_isWithin : GoodIn wsX2_parish (va_wsS RX2 32 yX2_isWithin wsX2_isWithin) := goodIn_app (goodIn_of _ (by decide +kernel)) ggX2_parish_X2_isWithin
set_option maxRecDepth 20000 in
theorem ggX2_parish_X1_show : GoodIn wsX2_parish wsX1_show := goodIn_r _ [18, 19, 20, 21, 22, 23, 24, 25, 7, 26, 27, 28, 29, 17, 30, 31, 32, 33, 34, 35, 36, 37, 38, 39, 40, 41, 42, 43, 44, 45, 46, 47, 48, 49, 50, 51, 52, 53, 54, 55, 56, 57, 58, 59, 60, 61, 62, 63, 64, 65, 66, 67, 68, 69, 70, 71, 72, 73, 74, 75, 76, 77, 78, 79, 80, 81, 82, 83, 84, 85, 86, 87, 88, 89, 90, 91, 92, 93, 94, 95, 96, 97, 98, 99, 100, 101, 102, 103, 104, 105, 106, 107, 108, 109, 110, 111, 112, 113, 114, 115, 116, 132, 133, 134, 135, 136, 137, 138, 139, 140, 141, 142, 143, 144, 145, 146, 147, 148, 149, 150, 151, 152, 153, 154, 155, 156, 157] (by decide +kernel) (by decide +kernel)
set_option maxRecDepth 20000 in
theorem gX2_parish_X1_show : GoodIn wsX2_parish (wsV RX2 89 RX1 yX1_show wsX1_show) := goodIn_app (goodIn_of _ (by decide +kernel)) ggX2_parish_X1_show
set_option maxRecDepth 20000 in
theorem ggX2_parish_X1_howMany : GoodIn wsX2_parish wsX1_howMany := goodIn_r _ [120, 19, 132, 133, 134, 135, 136, 137, 138, 139, 140, 141, 142, 143] (by decide +kernel) (by decide +kernel)
set_option maxRecDepth 20000 in
theorem gX2_parish_X1_howMany : GoodIn wsX2_parish (wsV RX2 105 RX1 yX1_howMany wsX1_howMany) := goodIn_app (goodIn_of _ (by decide +kernel)) ggX2_parish_X1_howMany
set_option maxRecDepth 20000 in
theorem ggX2_parish_X1_sumOf : GoodIn wsX2_parish wsX1_sumOf := goodIn_r _ [124, 19, 125, 126, 127, 17, 128, 42, 43, 44, 53, 45, 58, 59, 60, 61, 132, 133, 134, 135, 136, 137, 138, 139, 140, 141, 142, 143] (by decide +kernel) (by decide +kernel)
set_option maxRecDepth 20000 in
theorem gX2_parish_X1_sumOf : GoodIn wsX2_parish (wsV RX2 109 RX1 yX1_sumOf wsX1_sumOf) := goodIn_app (goodIn_of _ (by decide +kernel)) ggX2_parish_X1_sumOf
theorem dX2_parish_0 : decode cX2_parish 0 = .ok (.aload_n 0, 1) := by decide +kernel
theorem dX2_parish_1 : decode cX2_parish 1 = .ok (.iload_n 1, 1) := by decide +kernel
theorem dX2_parish_2 : decode cX2_parish 2 = .ok (.invokevirtual 82, 3) := by decide +kernel
theorem dX2_parish_5 : decode cX2_parish 5 = .ok (.ifCond .eq 14, 3) := by decide +kernel
theorem dX2_parish_8 : decode cX2_parish 8 = .ok (.iload_n 2, 1) := by decide +kernel
theorem dX2_parish_9 : decode cX2_parish 9 = .ok (.iconst 0, 1) := by decide +kernel
theorem dX2_parish_10 : decode cX2_parish 10 = .ok (.sipush 200, 3) := by decide +kernel
theorem dX2_parish_13 : decode cX2_parish 13 = .ok (.invokestatic 32, 3) := by decide +kernel
theorem dX2_parish_16 : decode cX2_parish 16 = .ok (.ifCond .ne 7, 3) := by decide +kernel
theorem dX2_parish_19 : decode cX2_parish 19 = .ok (.ldc2_w 96, 3) := by decide +kernel
theorem dX2_parish_22 : decode cX2_parish 22 = .ok (.lreturn, 1) := by decide +kernel
theorem dX2_parish_23 : decode cX2_parish 23 = .ok (.aload_n 0, 1) := by decide +kernel
theorem dX2_parish_24 : decode cX2_parish 24 = .ok (.getfield 21, 3) := by decide +kernel
theorem dX2_parish_27 : decode cX2_parish 27 = .ok (.iload_n 1, 1) := by decide +kernel
theorem dX2_parish_28 : decode cX2_parish 28 = .ok (.iload_n 2, 1) := by decide +kernel
theorem dX2_parish_29 : decode cX2_parish 29 = .ok (.iconst (-1), 1) := by decide +kernel
theorem dX2_parish_30 : decode cX2_parish 30 = .ok (.invokevirtual 89, 3) := by decide +kernel
theorem dX2_parish_33 : decode cX2_parish 33 = .ok (.pop, 1) := by decide +kernel
theorem dX2_parish_34 : decode cX2_parish 34 = .ok (.iload_n 3, 1) := by decide +kernel
theorem dX2_parish_35 : decode cX2_parish 35 = .ok (.tableswitch 96 0 6 #[41, 50, 59, 59, 59, 70, 80], 41) := by decide +kernel
theorem dX2_parish_76 : decode cX2_parish 76 = .ok (.aload_n 0, 1) := by decide +kernel
theorem dX2_parish_77 : decode cX2_parish 77 = .ok (.getfield 21, 3) := by decide +kernel
theorem dX2_parish_80 : decode cX2_parish 80 = .ok (.invokevirtual 105, 3) := by decide +kernel
theorem dX2_parish_83 : decode cX2_parish 83 = .ok (.i2l, 1) := by decide +kernel
theorem dX2_parish_84 : decode cX2_parish 84 = .ok (.lreturn, 1) := by decide +kernel
theorem dX2_parish_85 : decode cX2_parish 85 = .ok (.aload_n 0, 1) := by decide +kernel
theorem dX2_parish_86 : decode cX2_parish 86 = .ok (.getfield 21, 3) := by decide +kernel
theorem dX2_parish_89 : decode cX2_parish 89 = .ok (.iconst 0, 1) := by decide +kernel
theorem dX2_parish_90 : decode cX2_parish 90 = .ok (.invokevirtual 109, 3) := by decide +kernel
theorem dX2_parish_93 : decode cX2_parish 93 = .ok (.lreturn, 1) := by decide +kernel
theorem dX2_parish_94 : decode cX2_parish 94 = .ok (.aload_n 0, 1) := by decide +kernel
theorem dX2_parish_95 : decode cX2_parish 95 = .ok (.getfield 21, 3) := by decide +kernel
theorem dX2_parish_98 : decode cX2_parish 98 = .ok (.iload_n 3, 1) := by decide +kernel
theorem dX2_parish_99 : decode cX2_parish 99 = .ok (.iconst 1, 1) := by decide +kernel
theorem dX2_parish_100 : decode cX2_parish 100 = .ok (.iadd, 1) := by decide +kernel
theorem dX2_parish_101 : decode cX2_parish 101 = .ok (.invokevirtual 109, 3) := by decide +kernel
theorem dX2_parish_104 : decode cX2_parish 104 = .ok (.lreturn, 1) := by decide +kernel
theorem dX2_parish_105 : decode cX2_parish 105 = .ok (.aload_n 0, 1) := by decide +kernel
theorem dX2_parish_106 : decode cX2_parish 106 = .ok (.getfield 21, 3) := by decide +kernel
theorem dX2_parish_109 : decode cX2_parish 109 = .ok (.bipush 6, 2) := by decide +kernel
theorem dX2_parish_111 : decode cX2_parish 111 = .ok (.invokevirtual 109, 3) := by decide +kernel
theorem dX2_parish_114 : decode cX2_parish 114 = .ok (.lreturn, 1) := by decide +kernel
theorem dX2_parish_115 : decode cX2_parish 115 = .ok (.aload_n 0, 1) := by decide +kernel
theorem dX2_parish_116 : decode cX2_parish 116 = .ok (.getfield 21, 3) := by decide +kernel
theorem dX2_parish_119 : decode cX2_parish 119 = .ok (.getfield 113, 3) := by decide +kernel
theorem dX2_parish_122 : decode cX2_parish 122 = .ok (.ifCond .eq 7, 3) := by decide +kernel
theorem dX2_parish_125 : decode cX2_parish 125 = .ok (.lconst 1, 1) := by decide +kernel
theorem dX2_parish_126 : decode cX2_parish 126 = .ok (.goto 4, 3) := by decide +kernel
theorem dX2_parish_129 : decode cX2_parish 129 = .ok (.lconst 0, 1) := by decide +kernel
theorem dX2_parish_130 : decode cX2_parish 130 = .ok (.lreturn, 1) := by decide +kernel
theorem dX2_parish_131 : decode cX2_parish 131 = .ok (.ldc2_w 96, 3) := by decide +kernel
theorem dX2_parish_134 : decode cX2_parish 134 = .ok (.lreturn, 1) := by decide +kernel
set_option maxRecDepth 20000 in
theorem ggX2_cost_X2_isKnowing : GoodIn wsX2_cost wsX2_isKnowing := goodIn_r _ [12, 1, 13, 14, 15, 11, 16, 132, 133, 134, 135, 136, 137, 138, 139, 140, 141, 142, 143, 144, 145, 146, 147, 148] (by decide +kernel) (by decide +kernel)
set_option maxRecDepth 20000 in
theorem gX2_cost_X2_isKnowing : GoodIn wsX2_cost (wsV RX2 82 RX2 yX2_isKnowing wsX2_isKnowing) := goodIn_app (goodIn_of _ (by decide +kernel)) ggX2_cost_X2_isKnowing
set_option maxRecDepth 20000 in
theorem ggX2_cost_X2_isWithin : GoodIn wsX2_cost wsX2_isWithin := goodIn_r _ [16] (by decide +kernel) (by decide +kernel)
set_option maxRecDepth 20000 in
theorem gX2_cost_X2_isWithin : GoodIn wsX2_cost (va_wsS RX2 32 yX2_isWithin wsX2_isWithin) := goodIn_app (goodIn_of _ (by decide +kernel)) ggX2_cost_X2_isWithin
set_option maxRecDepth 20000 in
theorem ggX2_cost_X2_at : GoodIn wsX2_cost wsX2_at := goodIn_r _ [19] (by decide +kernel) (by decide +kernel)
set_option maxRecDepth 20000 in
theorem gX2_cost_X2_at : GoodIn wsX2_cost (va_wsS RX2 120 yX2_at wsX2_at) := goodIn_app (goodIn_of _ (by decide +kernel)) ggX2_cost_X2_at
set_option maxRecDepth 20000 in
theorem ggX2_cost_X1_show : GoodIn wsX2_cost wsX1_show := goodIn_r _ [24, 25, 26, 27, 28, 29, 30, 18, 11, 19, 31, 32, 33, 23, 34, 35, 36, 37, 38, 39, 40, 41, 42, 43, 44, 45, 46, 47, 48, 49, 50, 51, 52, 53, 54, 55, 56, 57, 58, 59, 60, 61, 62, 63, 64, 65, 66, 67, 68, 69, 70, 71, 72, 73, 74, 75, 76, 77, 78, 79, 80, 81, 82, 83, 84, 85, 86, 87, 88, 89, 90, 91, 92, 93, 94, 95, 96, 97, 98, 99, 100, 101, 102, 103, 104, 105, 106, 107, 108, 109, 110, 111, 112, 113, 114, 115, 116, 117, 118, 119, 120, 149, 150, 151, 152, 153, 154, 155, 156, 157, 158, 159, 160, 135, 136, 137, 138, 139, 140, 141, 142, 143, 144, 145, 146, 147, 148] (by decide +kernel) (by decide +kernel)
set_option maxRecDepth 20000 in
theorem gX2_cost_X1_show : GoodIn wsX2_cost (wsV RX2 89 RX1 yX1_show wsX1_show) := goodIn_app (goodIn_of _ (by decide +kernel)) ggX2_cost_X1_show
set_option maxRecDepth 20000 in
theorem ggX2_cost_X1_worth : GoodIn wsX2_cost wsX1_worth := goodIn_r _ [124, 125, 62, 63, 64, 23, 65, 25, 83, 84, 85, 86, 87, 27, 88, 89, 90, 91, 92, 93, 94, 95, 96, 97, 98, 99, 100, 126, 127, 128, 129, 57, 130, 131, 50, 51, 52, 149, 150, 151, 152, 153, 154, 155, 156, 157, 158, 159, 160, 135, 136, 137, 138, 139, 140, 141, 142, 143, 144, 145, 146, 147, 148] (by decide +kernel) (by decide +kernel)
set_option maxRecDepth 20000 in
theorem gX2_cost_X1_worth : GoodIn wsX2_cost (wsV RX2 98 RX1 yX1_worth wsX1_worth) := goodIn_app (goodIn_of _ (by decide +kernel)) ggX2_cost_X1_worth
theorem dX2_cost_0 : decode cX2_cost 0 = .ok (.aload_n 0, 1) := by decide +kernel
theorem dX2_cost_1 : decode cX2_cost 1 = .ok (.iload_n 1, 1) := by decide +kernel
theorem dX2_cost_2 : decode cX2_cost 2 = .ok (.invokevirtual 82, 3) := by decide +kernel
theorem dX2_cost_5 : decode cX2_cost 5 = .ok (.ifCond .eq 30, 3) := by decide +kernel
theorem dX2_cost_8 : decode cX2_cost 8 = .ok (.iload_n 2, 1) := by decide +kernel
theorem dX2_cost_9 : decode cX2_cost 9 = .ok (.iconst 0, 1) := by decide +kernel
theorem dX2_cost_10 : decode cX2_cost 10 = .ok (.iload_n 1, 1) := by decide +kernel
theorem dX2_cost_11 : decode cX2_cost 11 = .ok (.iconst 1, 1) := by decide +kernel
theorem dX2_cost_12 : decode cX2_cost 12 = .ok (.isub, 1) := by decide +kernel
theorem dX2_cost_13 : decode cX2_cost 13 = .ok (.invokestatic 32, 3) := by decide +kernel
theorem dX2_cost_16 : decode cX2_cost 16 = .ok (.ifCond .eq 19, 3) := by decide +kernel
theorem dX2_cost_19 : decode cX2_cost 19 = .ok (.aload_n 0, 1) := by decide +kernel
theorem dX2_cost_20 : decode cX2_cost 20 = .ok (.getfield 10, 3) := by decide +kernel
theorem dX2_cost_23 : decode cX2_cost 23 = .ok (.getfield 117, 3) := by decide +kernel
theorem dX2_cost_26 : decode cX2_cost 26 = .ok (.iload_n 2, 1) := by decide +kernel
theorem dX2_cost_27 : decode cX2_cost 27 = .ok (.invokestatic 120, 3) := by decide +kernel
theorem dX2_cost_30 : decode cX2_cost 30 = .ok (.bipush 6, 2) := by decide +kernel
theorem dX2_cost_32 : decode cX2_cost 32 = .ok (.if_icmp .eq 7, 3) := by decide +kernel
theorem dX2_cost_35 : decode cX2_cost 35 = .ok (.ldc2_w 96, 3) := by decide +kernel
theorem dX2_cost_38 : decode cX2_cost 38 = .ok (.lreturn, 1) := by decide +kernel
theorem dX2_cost_39 : decode cX2_cost 39 = .ok (.aload_n 0, 1) := by decide +kernel
theorem dX2_cost_40 : decode cX2_cost 40 = .ok (.getfield 10, 3) := by decide +kernel
theorem dX2_cost_43 : decode cX2_cost 43 = .ok (.getfield 124, 3) := by decide +kernel
theorem dX2_cost_46 : decode cX2_cost 46 = .ok (.iload_n 2, 1) := by decide +kernel
theorem dX2_cost_47 : decode cX2_cost 47 = .ok (.invokestatic 120, 3) := by decide +kernel
theorem dX2_cost_50 : decode cX2_cost 50 = .ok (.istore_n 3, 1) := by decide +kernel
theorem dX2_cost_51 : decode cX2_cost 51 = .ok (.aload_n 0, 1) := by decide +kernel
theorem dX2_cost_52 : decode cX2_cost 52 = .ok (.getfield 21, 3) := by decide +kernel
theorem dX2_cost_55 : decode cX2_cost 55 = .ok (.iload_n 1, 1) := by decide +kernel
theorem dX2_cost_56 : decode cX2_cost 56 = .ok (.iload_n 3, 1) := by decide +kernel
theorem dX2_cost_57 : decode cX2_cost 57 = .ok (.iload_n 2, 1) := by decide +kernel
theorem dX2_cost_58 : decode cX2_cost 58 = .ok (.invokevirtual 89, 3) := by decide +kernel
theorem dX2_cost_61 : decode cX2_cost 61 = .ok (.pop, 1) := by decide +kernel
theorem dX2_cost_62 : decode cX2_cost 62 = .ok (.aload_n 0, 1) := by decide +kernel
theorem dX2_cost_63 : decode cX2_cost 63 = .ok (.getfield 21, 3) := by decide +kernel
theorem dX2_cost_66 : decode cX2_cost 66 = .ok (.iload_n 1, 1) := by decide +kernel
theorem dX2_cost_67 : decode cX2_cost 67 = .ok (.iload_n 3, 1) := by decide +kernel
theorem dX2_cost_68 : decode cX2_cost 68 = .ok (.aload_n 0, 1) := by decide +kernel
theorem dX2_cost_69 : decode cX2_cost 69 = .ok (.getfield 10, 3) := by decide +kernel
theorem dX2_cost_72 : decode cX2_cost 72 = .ok (.getfield 40, 3) := by decide +kernel
theorem dX2_cost_75 : decode cX2_cost 75 = .ok (.iload_n 2, 1) := by decide +kernel
theorem dX2_cost_76 : decode cX2_cost 76 = .ok (.invokestatic 120, 3) := by decide +kernel
theorem dX2_cost_79 : decode cX2_cost 79 = .ok (.invokevirtual 98, 3) := by decide +kernel
theorem dX2_cost_82 : decode cX2_cost 82 = .ok (.lstore 4, 2) := by decide +kernel
theorem dX2_cost_84 : decode cX2_cost 84 = .ok (.lload 4, 2) := by decide +kernel
theorem dX2_cost_86 : decode cX2_cost 86 = .ok (.ldc2_w 96, 3) := by decide +kernel
theorem dX2_cost_89 : decode cX2_cost 89 = .ok (.lcmp, 1) := by decide +kernel
theorem dX2_cost_90 : decode cX2_cost 90 = .ok (.ifCond .ne 9, 3) := by decide +kernel
theorem dX2_cost_93 : decode cX2_cost 93 = .ok (.ldc2_w 96, 3) := by decide +kernel
theorem dX2_cost_96 : decode cX2_cost 96 = .ok (.goto 9, 3) := by decide +kernel
theorem dX2_cost_99 : decode cX2_cost 99 = .ok (.ldc2_w 127, 3) := by decide +kernel
theorem dX2_cost_102 : decode cX2_cost 102 = .ok (.lload 4, 2) := by decide +kernel
theorem dX2_cost_104 : decode cX2_cost 104 = .ok (.lmul, 1) := by decide +kernel
theorem dX2_cost_105 : decode cX2_cost 105 = .ok (.lreturn, 1) := by decide +kernel
set_option maxRecDepth 20000 in
theorem ggX2_field_X2_isField : GoodIn wsX2_field wsX2_isField := goodIn_r _ [11, 1, 12, 13, 14, 10, 15, 19, 20, 21, 22, 23, 24, 25, 26, 27, 28, 29, 30, 31, 32, 33, 34, 35] (by decide +kernel) (by decide +kernel)
set_option maxRecDepth 20000 in
theorem gX2_field_X2_isField : GoodIn wsX2_field (wsV RX2 75 RX2 yX2_isField wsX2_isField) := goodIn_app (goodIn_of _ (by decide +kernel)) ggX2_field_X2_isField
set_option maxRecDepth 20000 in
theorem ggX2_field_X2_at : GoodIn wsX2_field wsX2_at := goodIn_r _ [18] (by decide +kernel) (by decide +kernel)
set_option maxRecDepth 20000 in
theorem gX2_field_X2_at : GoodIn wsX2_field (va_wsS RX2 120 yX2_at wsX2_at) := goodIn_app (goodIn_of _ (by decide +kernel)) ggX2_field_X2_at
theorem dX2_field_0 : decode cX2_field 0 = .ok (.aload_n 0, 1) := by decide +kernel
theorem dX2_field_1 : decode cX2_field 1 = .ok (.iload_n 1, 1) := by decide +kernel
theorem dX2_field_2 : decode cX2_field 2 = .ok (.invokevirtual 75, 3) := by decide +kernel
theorem dX2_field_5 : decode cX2_field 5 = .ok (.ifCond .ne 5, 3) := by decide +kernel
theorem dX2_field_8 : decode cX2_field 8 = .ok (.iconst (-1), 1) := by decide +kernel
theorem dX2_field_9 : decode cX2_field 9 = .ok (.ireturn, 1) := by decide +kernel
theorem dX2_field_10 : decode cX2_field 10 = .ok (.aload_n 0, 1) := by decide +kernel
theorem dX2_field_11 : decode cX2_field 11 = .ok (.getfield 10, 3) := by decide +kernel
theorem dX2_field_14 : decode cX2_field 14 = .ok (.getfield 129, 3) := by decide +kernel
theorem dX2_field_17 : decode cX2_field 17 = .ok (.iload_n 1, 1) := by decide +kernel
theorem dX2_field_18 : decode cX2_field 18 = .ok (.invokestatic 120, 3) := by decide +kernel
theorem dX2_field_21 : decode cX2_field 21 = .ok (.istore_n 3, 1) := by decide +kernel
theorem dX2_field_22 : decode cX2_field 22 = .ok (.aload_n 0, 1) := by decide +kernel
theorem dX2_field_23 : decode cX2_field 23 = .ok (.getfield 10, 3) := by decide +kernel
theorem dX2_field_26 : decode cX2_field 26 = .ok (.getfield 132, 3) := by decide +kernel
theorem dX2_field_29 : decode cX2_field 29 = .ok (.iload_n 1, 1) := by decide +kernel
theorem dX2_field_30 : decode cX2_field 30 = .ok (.invokestatic 120, 3) := by decide +kernel
theorem dX2_field_33 : decode cX2_field 33 = .ok (.istore 4, 2) := by decide +kernel
theorem dX2_field_35 : decode cX2_field 35 = .ok (.iload_n 2, 1) := by decide +kernel
theorem dX2_field_36 : decode cX2_field 36 = .ok (.tableswitch 94 0 5 #[40, 52, 65, 67, 70, 82], 40) := by decide +kernel
theorem dX2_field_76 : decode cX2_field 76 = .ok (.aload_n 0, 1) := by decide +kernel
theorem dX2_field_77 : decode cX2_field 77 = .ok (.getfield 10, 3) := by decide +kernel
theorem dX2_field_80 : decode cX2_field 80 = .ok (.getfield 124, 3) := by decide +kernel
theorem dX2_field_83 : decode cX2_field 83 = .ok (.iload_n 3, 1) := by decide +kernel
theorem dX2_field_84 : decode cX2_field 84 = .ok (.invokestatic 120, 3) := by decide +kernel
theorem dX2_field_87 : decode cX2_field 87 = .ok (.ireturn, 1) := by decide +kernel
theorem dX2_field_88 : decode cX2_field 88 = .ok (.aload_n 0, 1) := by decide +kernel
theorem dX2_field_89 : decode cX2_field 89 = .ok (.getfield 10, 3) := by decide +kernel
theorem dX2_field_92 : decode cX2_field 92 = .ok (.getfield 124, 3) := by decide +kernel
theorem dX2_field_95 : decode cX2_field 95 = .ok (.iload 4, 2) := by decide +kernel
theorem dX2_field_97 : decode cX2_field 97 = .ok (.invokestatic 120, 3) := by decide +kernel
theorem dX2_field_100 : decode cX2_field 100 = .ok (.ireturn, 1) := by decide +kernel
theorem dX2_field_101 : decode cX2_field 101 = .ok (.iload_n 3, 1) := by decide +kernel
theorem dX2_field_102 : decode cX2_field 102 = .ok (.ireturn, 1) := by decide +kernel
theorem dX2_field_103 : decode cX2_field 103 = .ok (.iload 4, 2) := by decide +kernel
theorem dX2_field_105 : decode cX2_field 105 = .ok (.ireturn, 1) := by decide +kernel
theorem dX2_field_106 : decode cX2_field 106 = .ok (.aload_n 0, 1) := by decide +kernel
theorem dX2_field_107 : decode cX2_field 107 = .ok (.getfield 10, 3) := by decide +kernel
theorem dX2_field_110 : decode cX2_field 110 = .ok (.getfield 40, 3) := by decide +kernel
theorem dX2_field_113 : decode cX2_field 113 = .ok (.iload_n 3, 1) := by decide +kernel
theorem dX2_field_114 : decode cX2_field 114 = .ok (.invokestatic 120, 3) := by decide +kernel
theorem dX2_field_117 : decode cX2_field 117 = .ok (.ireturn, 1) := by decide +kernel
theorem dX2_field_118 : decode cX2_field 118 = .ok (.aload_n 0, 1) := by decide +kernel
theorem dX2_field_119 : decode cX2_field 119 = .ok (.getfield 10, 3) := by decide +kernel
theorem dX2_field_122 : decode cX2_field 122 = .ok (.getfield 78, 3) := by decide +kernel
theorem dX2_field_125 : decode cX2_field 125 = .ok (.iload_n 3, 1) := by decide +kernel
theorem dX2_field_126 : decode cX2_field 126 = .ok (.invokestatic 120, 3) := by decide +kernel
theorem dX2_field_129 : decode cX2_field 129 = .ok (.ireturn, 1) := by decide +kernel
theorem dX2_field_130 : decode cX2_field 130 = .ok (.iconst (-1), 1) := by decide +kernel
theorem dX2_field_131 : decode cX2_field 131 = .ok (.ireturn, 1) := by decide +kernel
set_option maxRecDepth 20000 in
theorem ggX2_differ_X2_isKnowing : GoodIn wsX2_differ wsX2_isKnowing := goodIn_r _ [7, 8, 9, 10, 11, 6, 12, 124, 125, 126, 127, 128, 129, 130, 131, 132, 133, 134, 135, 136, 137, 138, 139, 140] (by decide +kernel) (by decide +kernel)
set_option maxRecDepth 20000 in
theorem gX2_differ_X2_isKnowing : GoodIn wsX2_differ (wsV RX2 82 RX2 yX2_isKnowing wsX2_isKnowing) := goodIn_app (goodIn_of _ (by decide +kernel)) ggX2_differ_X2_isKnowing
set_option maxRecDepth 20000 in
theorem ggX2_differ_X2_isWithin : GoodIn wsX2_differ wsX2_isWithin := goodIn_r _ [12] (by decide +kernel) (by decide +kernel)
set_option maxRecDepth 20000 in
theorem gX2_differ_X2_isWithin : GoodIn wsX2_differ (va_wsS RX2 32 yX2_isWithin wsX2_isWithin) := goodIn_app (goodIn_of _ (by decide +kernel)) ggX2_differ_X2_isWithin
set_option maxRecDepth 20000 in
theorem ggX2_differ_X1_show : GoodIn wsX2_differ wsX1_show := goodIn_r _ [17, 18, 19, 20, 21, 22, 23, 24, 6, 25, 26, 27, 28, 16, 29, 30, 31, 32, 33, 34, 35, 36, 37, 38, 39, 40, 41, 42, 43, 44, 45, 46, 47, 48, 49, 50, 51, 52, 53, 54, 55, 56, 57, 58, 59, 60, 61, 62, 63, 64, 65, 66, 67, 68, 69, 70, 71, 72, 73, 74, 75, 76, 77, 78, 79, 80, 81, 82, 83, 84, 85, 86, 87, 88, 89, 90, 91, 92, 93, 94, 95, 96, 97, 98, 99, 100, 101, 102, 103, 104, 105, 106, 107, 108, 109, 110, 111, 112, 113, 114, 115, 141, 142, 143, 144, 145, 146, 147, 148, 149, 150, 151, 152, 127, 128, 129, 130, 131, 132, 133, 134, 135, 136, 137, 138, 139, 140] (by decide +kernel) (by decide +kernel)
set_option maxRecDepth 20000 in
theorem gX2_differ_X1_show : GoodIn wsX2_differ (wsV RX2 89 RX1 yX1_show wsX1_show) := goodIn_app (goodIn_of _ (by decide +kernel)) ggX2_differ_X1_show
set_option maxRecDepth 20000 in
theorem ggX2_differ_X1_isOtherwise : GoodIn wsX2_differ wsX1_isOtherwise := goodIn_r _ [119, 120, 121, 122, 16, 123, 41, 42, 43, 52, 44, 57, 58, 59, 60, 18, 141, 142, 143, 144, 145, 146, 147, 148, 149, 150, 151, 152] (by decide +kernel) (by decide +kernel)
set_option maxRecDepth 20000 in
theorem gX2_differ_X1_isOtherwise : GoodIn wsX2_differ (wsV RX2 135 RX1 yX1_isOtherwise wsX1_isOtherwise) := goodIn_app (goodIn_of _ (by decide +kernel)) ggX2_differ_X1_isOtherwise
theorem dX2_differ_0 : decode cX2_differ 0 = .ok (.aload_n 0, 1) := by decide +kernel
theorem dX2_differ_1 : decode cX2_differ 1 = .ok (.iload_n 1, 1) := by decide +kernel
theorem dX2_differ_2 : decode cX2_differ 2 = .ok (.invokevirtual 82, 3) := by decide +kernel
theorem dX2_differ_5 : decode cX2_differ 5 = .ok (.ifCond .eq 22, 3) := by decide +kernel
theorem dX2_differ_8 : decode cX2_differ 8 = .ok (.aload_n 0, 1) := by decide +kernel
theorem dX2_differ_9 : decode cX2_differ 9 = .ok (.iload_n 2, 1) := by decide +kernel
theorem dX2_differ_10 : decode cX2_differ 10 = .ok (.invokevirtual 82, 3) := by decide +kernel
theorem dX2_differ_13 : decode cX2_differ 13 = .ok (.ifCond .eq 14, 3) := by decide +kernel
theorem dX2_differ_16 : decode cX2_differ 16 = .ok (.iload_n 3, 1) := by decide +kernel
theorem dX2_differ_17 : decode cX2_differ 17 = .ok (.iconst 0, 1) := by decide +kernel
theorem dX2_differ_18 : decode cX2_differ 18 = .ok (.sipush 200, 3) := by decide +kernel
theorem dX2_differ_21 : decode cX2_differ 21 = .ok (.invokestatic 32, 3) := by decide +kernel
theorem dX2_differ_24 : decode cX2_differ 24 = .ok (.ifCond .ne 5, 3) := by decide +kernel
theorem dX2_differ_27 : decode cX2_differ 27 = .ok (.iconst (-1), 1) := by decide +kernel
theorem dX2_differ_28 : decode cX2_differ 28 = .ok (.ireturn, 1) := by decide +kernel
theorem dX2_differ_29 : decode cX2_differ 29 = .ok (.aload_n 0, 1) := by decide +kernel
theorem dX2_differ_30 : decode cX2_differ 30 = .ok (.getfield 21, 3) := by decide +kernel
theorem dX2_differ_33 : decode cX2_differ 33 = .ok (.iload_n 1, 1) := by decide +kernel
theorem dX2_differ_34 : decode cX2_differ 34 = .ok (.iload_n 3, 1) := by decide +kernel
theorem dX2_differ_35 : decode cX2_differ 35 = .ok (.iconst (-1), 1) := by decide +kernel
theorem dX2_differ_36 : decode cX2_differ 36 = .ok (.invokevirtual 89, 3) := by decide +kernel
theorem dX2_differ_39 : decode cX2_differ 39 = .ok (.pop, 1) := by decide +kernel
theorem dX2_differ_40 : decode cX2_differ 40 = .ok (.aload_n 0, 1) := by decide +kernel
theorem dX2_differ_41 : decode cX2_differ 41 = .ok (.getfield 25, 3) := by decide +kernel
theorem dX2_differ_44 : decode cX2_differ 44 = .ok (.iload_n 2, 1) := by decide +kernel
theorem dX2_differ_45 : decode cX2_differ 45 = .ok (.iload_n 3, 1) := by decide +kernel
theorem dX2_differ_46 : decode cX2_differ 46 = .ok (.iconst (-1), 1) := by decide +kernel
theorem dX2_differ_47 : decode cX2_differ 47 = .ok (.invokevirtual 89, 3) := by decide +kernel
theorem dX2_differ_50 : decode cX2_differ 50 = .ok (.pop, 1) := by decide +kernel
theorem dX2_differ_51 : decode cX2_differ 51 = .ok (.iconst 0, 1) := by decide +kernel
theorem dX2_differ_52 : decode cX2_differ 52 = .ok (.istore 5, 2) := by decide +kernel
theorem dX2_differ_54 : decode cX2_differ 54 = .ok (.iconst 0, 1) := by decide +kernel
theorem dX2_differ_55 : decode cX2_differ 55 = .ok (.istore 6, 2) := by decide +kernel
theorem dX2_differ_57 : decode cX2_differ 57 = .ok (.iload 6, 2) := by decide +kernel
theorem dX2_differ_59 : decode cX2_differ 59 = .ok (.bipush 60, 2) := by decide +kernel
theorem dX2_differ_61 : decode cX2_differ 61 = .ok (.if_icmp .ge 38, 3) := by decide +kernel
theorem dX2_differ_64 : decode cX2_differ 64 = .ok (.aload_n 0, 1) := by decide +kernel
theorem dX2_differ_65 : decode cX2_differ 65 = .ok (.getfield 21, 3) := by decide +kernel
theorem dX2_differ_68 : decode cX2_differ 68 = .ok (.aload_n 0, 1) := by decide +kernel
theorem dX2_differ_69 : decode cX2_differ 69 = .ok (.getfield 25, 3) := by decide +kernel
theorem dX2_differ_72 : decode cX2_differ 72 = .ok (.iload 6, 2) := by decide +kernel
theorem dX2_differ_74 : decode cX2_differ 74 = .ok (.invokevirtual 135, 3) := by decide +kernel
theorem dX2_differ_77 : decode cX2_differ 77 = .ok (.ifCond .eq 16, 3) := by decide +kernel
theorem dX2_differ_80 : decode cX2_differ 80 = .ok (.iload 5, 2) := by decide +kernel
theorem dX2_differ_82 : decode cX2_differ 82 = .ok (.iload 4, 2) := by decide +kernel
theorem dX2_differ_84 : decode cX2_differ 84 = .ok (.if_icmp .ne 6, 3) := by decide +kernel
theorem dX2_differ_87 : decode cX2_differ 87 = .ok (.iload 6, 2) := by decide +kernel
theorem dX2_differ_89 : decode cX2_differ 89 = .ok (.ireturn, 1) := by decide +kernel
theorem dX2_differ_90 : decode cX2_differ 90 = .ok (.iinc 5 1, 3) := by decide +kernel
theorem dX2_differ_93 : decode cX2_differ 93 = .ok (.iinc 6 1, 3) := by decide +kernel
theorem dX2_differ_96 : decode cX2_differ 96 = .ok (.goto (-39), 3) := by decide +kernel
theorem dX2_differ_99 : decode cX2_differ 99 = .ok (.iconst (-1), 1) := by decide +kernel
theorem dX2_differ_100 : decode cX2_differ 100 = .ok (.ireturn, 1) := by decide +kernel
set_option maxRecDepth 20000 in
theorem ggX2_entry_X2_isWithin : GoodIn wsX2_entry wsX2_isWithin := goodIn_r _ [9] (by decide +kernel) (by decide +kernel)
set_option maxRecDepth 20000 in
theorem gX2_entry_X2_isWithin : GoodIn wsX2_entry (va_wsS RX2 32 yX2_isWithin wsX2_isWithin) := goodIn_app (goodIn_of _ (by decide +kernel)) ggX2_entry_X2_isWithin
set_option maxRecDepth 20000 in
theorem ggX2_entry_X2_at : GoodIn wsX2_entry wsX2_at := goodIn_r _ [12] (by decide +kernel) (by decide +kernel)
set_option maxRecDepth 20000 in
theorem gX2_entry_X2_at : GoodIn wsX2_entry (va_wsS RX2 120 yX2_at wsX2_at) := goodIn_app (goodIn_of _ (by decide +kernel)) ggX2_entry_X2_at
set_option maxRecDepth 20000 in
theorem ggX2_entry_X2_firstMadeBy : GoodIn wsX2_entry wsX2_firstMadeBy := goodIn_r _ [16, 1, 17, 10, 11, 8, 12, 18, 19, 20, 21, 22, 23, 24, 25, 26, 27, 28, 29, 30, 31, 32, 33, 34] (by decide +kernel) (by decide +kernel)
set_option maxRecDepth 20000 in
theorem gX2_entry_X2_firstMadeBy : GoodIn wsX2_entry (wsV RX2 72 RX2 yX2_firstMadeBy wsX2_firstMadeBy) := goodIn_app (goodIn_of _ (by decide +kernel)) ggX2_entry_X2_firstMadeBy
theorem dX2_entry_0 : decode cX2_entry 0 = .ok (.iload_n 1, 1) := by decide +kernel
theorem dX2_entry_1 : decode cX2_entry 1 = .ok (.iconst 0, 1) := by decide +kernel
theorem dX2_entry_2 : decode cX2_entry 2 = .ok (.aload_n 0, 1) := by decide +kernel
theorem dX2_entry_3 : decode cX2_entry 3 = .ok (.getfield 10, 3) := by decide +kernel
theorem dX2_entry_6 : decode cX2_entry 6 = .ok (.getfield 139, 3) := by decide +kernel
theorem dX2_entry_9 : decode cX2_entry 9 = .ok (.iconst 1, 1) := by decide +kernel
theorem dX2_entry_10 : decode cX2_entry 10 = .ok (.isub, 1) := by decide +kernel
theorem dX2_entry_11 : decode cX2_entry 11 = .ok (.invokestatic 32, 3) := by decide +kernel
theorem dX2_entry_14 : decode cX2_entry 14 = .ok (.ifCond .ne 5, 3) := by decide +kernel
theorem dX2_entry_17 : decode cX2_entry 17 = .ok (.iconst (-1), 1) := by decide +kernel
theorem dX2_entry_18 : decode cX2_entry 18 = .ok (.ireturn, 1) := by decide +kernel
theorem dX2_entry_19 : decode cX2_entry 19 = .ok (.iload_n 2, 1) := by decide +kernel
theorem dX2_entry_20 : decode cX2_entry 20 = .ok (.tableswitch 74 0 3 #[32, 44, 56, 68], 32) := by decide +kernel
theorem dX2_entry_52 : decode cX2_entry 52 = .ok (.aload_n 0, 1) := by decide +kernel
theorem dX2_entry_53 : decode cX2_entry 53 = .ok (.getfield 10, 3) := by decide +kernel
theorem dX2_entry_56 : decode cX2_entry 56 = .ok (.getfield 117, 3) := by decide +kernel
theorem dX2_entry_59 : decode cX2_entry 59 = .ok (.iload_n 1, 1) := by decide +kernel
theorem dX2_entry_60 : decode cX2_entry 60 = .ok (.invokestatic 120, 3) := by decide +kernel
theorem dX2_entry_63 : decode cX2_entry 63 = .ok (.ireturn, 1) := by decide +kernel
theorem dX2_entry_64 : decode cX2_entry 64 = .ok (.aload_n 0, 1) := by decide +kernel
theorem dX2_entry_65 : decode cX2_entry 65 = .ok (.getfield 10, 3) := by decide +kernel
theorem dX2_entry_68 : decode cX2_entry 68 = .ok (.getfield 124, 3) := by decide +kernel
theorem dX2_entry_71 : decode cX2_entry 71 = .ok (.iload_n 1, 1) := by decide +kernel
theorem dX2_entry_72 : decode cX2_entry 72 = .ok (.invokestatic 120, 3) := by decide +kernel
theorem dX2_entry_75 : decode cX2_entry 75 = .ok (.ireturn, 1) := by decide +kernel
theorem dX2_entry_76 : decode cX2_entry 76 = .ok (.aload_n 0, 1) := by decide +kernel
theorem dX2_entry_77 : decode cX2_entry 77 = .ok (.getfield 10, 3) := by decide +kernel
theorem dX2_entry_80 : decode cX2_entry 80 = .ok (.getfield 40, 3) := by decide +kernel
theorem dX2_entry_83 : decode cX2_entry 83 = .ok (.iload_n 1, 1) := by decide +kernel
theorem dX2_entry_84 : decode cX2_entry 84 = .ok (.invokestatic 120, 3) := by decide +kernel
theorem dX2_entry_87 : decode cX2_entry 87 = .ok (.ireturn, 1) := by decide +kernel
theorem dX2_entry_88 : decode cX2_entry 88 = .ok (.aload_n 0, 1) := by decide +kernel
theorem dX2_entry_89 : decode cX2_entry 89 = .ok (.iload_n 1, 1) := by decide +kernel
theorem dX2_entry_90 : decode cX2_entry 90 = .ok (.invokevirtual 72, 3) := by decide +kernel
theorem dX2_entry_93 : decode cX2_entry 93 = .ok (.ireturn, 1) := by decide +kernel
theorem dX2_entry_94 : decode cX2_entry 94 = .ok (.iconst (-1), 1) := by decide +kernel
theorem dX2_entry_95 : decode cX2_entry 95 = .ok (.ireturn, 1) := by decide +kernel
theorem dX2_count_0 : decode cX2_count 0 = .ok (.iload_n 1, 1) := by decide +kernel
theorem dX2_count_1 : decode cX2_count 1 = .ok (.lookupswitch 43 #[(0, 27), (1, 35)], 27) := by decide +kernel
theorem dX2_count_28 : decode cX2_count 28 = .ok (.aload_n 0, 1) := by decide +kernel
theorem dX2_count_29 : decode cX2_count 29 = .ok (.getfield 10, 3) := by decide +kernel
theorem dX2_count_32 : decode cX2_count 32 = .ok (.getfield 139, 3) := by decide +kernel
theorem dX2_count_35 : decode cX2_count 35 = .ok (.ireturn, 1) := by decide +kernel
theorem dX2_count_36 : decode cX2_count 36 = .ok (.aload_n 0, 1) := by decide +kernel
theorem dX2_count_37 : decode cX2_count 37 = .ok (.getfield 10, 3) := by decide +kernel
theorem dX2_count_40 : decode cX2_count 40 = .ok (.getfield 143, 3) := by decide +kernel
theorem dX2_count_43 : decode cX2_count 43 = .ok (.ireturn, 1) := by decide +kernel
theorem dX2_count_44 : decode cX2_count 44 = .ok (.iconst (-1), 1) := by decide +kernel
theorem dX2_count_45 : decode cX2_count 45 = .ok (.ireturn, 1) := by decide +kernel
theorem dX2_isWithin_0 : decode cX2_isWithin 0 = .ok (.iload_n 0, 1) := by decide +kernel
theorem dX2_isWithin_1 : decode cX2_isWithin 1 = .ok (.iload_n 1, 1) := by decide +kernel
theorem dX2_isWithin_2 : decode cX2_isWithin 2 = .ok (.if_icmp .lt 12, 3) := by decide +kernel
theorem dX2_isWithin_5 : decode cX2_isWithin 5 = .ok (.iload_n 0, 1) := by decide +kernel
theorem dX2_isWithin_6 : decode cX2_isWithin 6 = .ok (.iload_n 2, 1) := by decide +kernel
theorem dX2_isWithin_7 : decode cX2_isWithin 7 = .ok (.if_icmp .gt 7, 3) := by decide +kernel
theorem dX2_isWithin_10 : decode cX2_isWithin 10 = .ok (.iconst 1, 1) := by decide +kernel
theorem dX2_isWithin_11 : decode cX2_isWithin 11 = .ok (.goto 4, 3) := by decide +kernel
theorem dX2_isWithin_14 : decode cX2_isWithin 14 = .ok (.iconst 0, 1) := by decide +kernel
theorem dX2_isWithin_15 : decode cX2_isWithin 15 = .ok (.ireturn, 1) := by decide +kernel
set_option maxRecDepth 20000 in
theorem ggX2_isOwner_X2_isWithin : GoodIn wsX2_isOwner wsX2_isWithin := goodIn_r _ [4] (by decide +kernel) (by decide +kernel)
set_option maxRecDepth 20000 in
theorem gX2_isOwner_X2_isWithin : GoodIn wsX2_isOwner (va_wsS RX2 32 yX2_isWithin wsX2_isWithin) := goodIn_app (goodIn_of _ (by decide +kernel)) ggX2_isOwner_X2_isWithin
theorem dX2_isOwner_0 : decode cX2_isOwner 0 = .ok (.iload_n 0, 1) := by decide +kernel
theorem dX2_isOwner_1 : decode cX2_isOwner 1 = .ok (.iconst 0, 1) := by decide +kernel
theorem dX2_isOwner_2 : decode cX2_isOwner 2 = .ok (.bipush 9, 2) := by decide +kernel
theorem dX2_isOwner_4 : decode cX2_isOwner 4 = .ok (.invokestatic 32, 3) := by decide +kernel
theorem dX2_isOwner_7 : decode cX2_isOwner 7 = .ok (.ireturn, 1) := by decide +kernel
theorem dX2_at_0 : decode cX2_at 0 = .ok (.iload_n 1, 1) := by decide +kernel
theorem dX2_at_1 : decode cX2_at 1 = .ok (.ifCond .lt 9, 3) := by decide +kernel
theorem dX2_at_4 : decode cX2_at 4 = .ok (.iload_n 1, 1) := by decide +kernel
theorem dX2_at_5 : decode cX2_at 5 = .ok (.aload_n 0, 1) := by decide +kernel
theorem dX2_at_6 : decode cX2_at 6 = .ok (.arraylength, 1) := by decide +kernel
theorem dX2_at_7 : decode cX2_at 7 = .ok (.if_icmp .lt 7, 3) := by decide +kernel
theorem dX2_at_10 : decode cX2_at 10 = .ok (.iconst (-1), 1) := by decide +kernel
theorem dX2_at_11 : decode cX2_at 11 = .ok (.goto 6, 3) := by decide +kernel
theorem dX2_at_14 : decode cX2_at 14 = .ok (.aload_n 0, 1) := by decide +kernel
theorem dX2_at_15 : decode cX2_at 15 = .ok (.iload_n 1, 1) := by decide +kernel
theorem dX2_at_16 : decode cX2_at 16 = .ok (.iaload, 1) := by decide +kernel
theorem dX2_at_17 : decode cX2_at 17 = .ok (.ireturn, 1) := by decide +kernel
set_option maxRecDepth 20000 in
theorem ggX2_isField_X2_isWithin : GoodIn wsX2_isField wsX2_isWithin := goodIn_r _ [6] (by decide +kernel) (by decide +kernel)
set_option maxRecDepth 20000 in
theorem gX2_isField_X2_isWithin : GoodIn wsX2_isField (va_wsS RX2 32 yX2_isWithin wsX2_isWithin) := goodIn_app (goodIn_of _ (by decide +kernel)) ggX2_isField_X2_isWithin
theorem dX2_isField_0 : decode cX2_isField 0 = .ok (.iload_n 1, 1) := by decide +kernel
theorem dX2_isField_1 : decode cX2_isField 1 = .ok (.iconst 0, 1) := by decide +kernel
theorem dX2_isField_2 : decode cX2_isField 2 = .ok (.aload_n 0, 1) := by decide +kernel
theorem dX2_isField_3 : decode cX2_isField 3 = .ok (.getfield 10, 3) := by decide +kernel
theorem dX2_isField_6 : decode cX2_isField 6 = .ok (.getfield 143, 3) := by decide +kernel
theorem dX2_isField_9 : decode cX2_isField 9 = .ok (.iconst 1, 1) := by decide +kernel
theorem dX2_isField_10 : decode cX2_isField 10 = .ok (.isub, 1) := by decide +kernel
theorem dX2_isField_11 : decode cX2_isField 11 = .ok (.invokestatic 32, 3) := by decide +kernel
theorem dX2_isField_14 : decode cX2_isField 14 = .ok (.ireturn, 1) := by decide +kernel
set_option maxRecDepth 20000 in
theorem ggX2_isKnowing_X2_isWithin : GoodIn wsX2_isKnowing wsX2_isWithin := goodIn_r _ [6] (by decide +kernel) (by decide +kernel)
set_option maxRecDepth 20000 in
theorem gX2_isKnowing_X2_isWithin : GoodIn wsX2_isKnowing (va_wsS RX2 32 yX2_isWithin wsX2_isWithin) := goodIn_app (goodIn_of _ (by decide +kernel)) ggX2_isKnowing_X2_isWithin
theorem dX2_isKnowing_0 : decode cX2_isKnowing 0 = .ok (.iload_n 1, 1) := by decide +kernel
theorem dX2_isKnowing_1 : decode cX2_isKnowing 1 = .ok (.iconst 0, 1) := by decide +kernel
theorem dX2_isKnowing_2 : decode cX2_isKnowing 2 = .ok (.aload_n 0, 1) := by decide +kernel
theorem dX2_isKnowing_3 : decode cX2_isKnowing 3 = .ok (.getfield 10, 3) := by decide +kernel
theorem dX2_isKnowing_6 : decode cX2_isKnowing 6 = .ok (.getfield 139, 3) := by decide +kernel
theorem dX2_isKnowing_9 : decode cX2_isKnowing 9 = .ok (.invokestatic 32, 3) := by decide +kernel
theorem dX2_isKnowing_12 : decode cX2_isKnowing 12 = .ok (.ireturn, 1) := by decide +kernel
set_option maxRecDepth 20000 in
theorem ggX2_isActPossible_X0_isFull : GoodIn wsX2_isActPossible wsX0_isFull := goodIn_r _ [7, 8, 16, 17, 18, 19, 20, 21, 22, 23, 24, 25, 26, 27, 28, 29] (by decide +kernel) (by decide +kernel)
set_option maxRecDepth 20000 in
theorem gX2_isActPossible_X0_isFull : GoodIn wsX2_isActPossible (wsV RX2 28 RX0 yX0_isFull wsX0_isFull) := goodIn_app (goodIn_of _ (by decide +kernel)) ggX2_isActPossible_X0_isFull
set_option maxRecDepth 20000 in
theorem ggX2_isActPossible_X2_isWithin : GoodIn wsX2_isActPossible wsX2_isWithin := goodIn_r _ [12] (by decide +kernel) (by decide +kernel)
set_option maxRecDepth 20000 in
theorem gX2_isActPossible_X2_isWithin : GoodIn wsX2_isActPossible (va_wsS RX2 32 yX2_isWithin wsX2_isWithin) := goodIn_app (goodIn_of _ (by decide +kernel)) ggX2_isActPossible_X2_isWithin
theorem dX2_isActPossible_0 : decode cX2_isActPossible 0 = .ok (.aload_n 0, 1) := by decide +kernel
theorem dX2_isActPossible_1 : decode cX2_isActPossible 1 = .ok (.getfield 10, 3) := by decide +kernel
theorem dX2_isActPossible_4 : decode cX2_isActPossible 4 = .ok (.invokevirtual 28, 3) := by decide +kernel
theorem dX2_isActPossible_7 : decode cX2_isActPossible 7 = .ok (.ifCond .ne 33, 3) := by decide +kernel
theorem dX2_isActPossible_10 : decode cX2_isActPossible 10 = .ok (.iload_n 1, 1) := by decide +kernel
theorem dX2_isActPossible_11 : decode cX2_isActPossible 11 = .ok (.bipush 8, 2) := by decide +kernel
theorem dX2_isActPossible_13 : decode cX2_isActPossible 13 = .ok (.sipush 200, 3) := by decide +kernel
theorem dX2_isActPossible_16 : decode cX2_isActPossible 16 = .ok (.invokestatic 32, 3) := by decide +kernel
theorem dX2_isActPossible_19 : decode cX2_isActPossible 19 = .ok (.ifCond .eq 21, 3) := by decide +kernel
theorem dX2_isActPossible_22 : decode cX2_isActPossible 22 = .ok (.aload_n 0, 1) := by decide +kernel
theorem dX2_isActPossible_23 : decode cX2_isActPossible 23 = .ok (.getfield 10, 3) := by decide +kernel
theorem dX2_isActPossible_26 : decode cX2_isActPossible 26 = .ok (.getfield 143, 3) := by decide +kernel
theorem dX2_isActPossible_29 : decode cX2_isActPossible 29 = .ok (.iload_n 2, 1) := by decide +kernel
theorem dX2_isActPossible_30 : decode cX2_isActPossible 30 = .ok (.iadd, 1) := by decide +kernel
theorem dX2_isActPossible_31 : decode cX2_isActPossible 31 = .ok (.bipush 60, 2) := by decide +kernel
theorem dX2_isActPossible_33 : decode cX2_isActPossible 33 = .ok (.if_icmp .gt 7, 3) := by decide +kernel
theorem dX2_isActPossible_36 : decode cX2_isActPossible 36 = .ok (.iconst 1, 1) := by decide +kernel
theorem dX2_isActPossible_37 : decode cX2_isActPossible 37 = .ok (.goto 4, 3) := by decide +kernel
theorem dX2_isActPossible_40 : decode cX2_isActPossible 40 = .ok (.iconst 0, 1) := by decide +kernel
theorem dX2_isActPossible_41 : decode cX2_isActPossible 41 = .ok (.ireturn, 1) := by decide +kernel
set_option maxRecDepth 20000 in
theorem ggX2_firstMadeBy_X2_at : GoodIn wsX2_firstMadeBy wsX2_at := goodIn_r _ [6] (by decide +kernel) (by decide +kernel)
set_option maxRecDepth 20000 in
theorem gX2_firstMadeBy_X2_at : GoodIn wsX2_firstMadeBy (va_wsS RX2 120 yX2_at wsX2_at) := goodIn_app (goodIn_of _ (by decide +kernel)) ggX2_firstMadeBy_X2_at
theorem dX2_firstMadeBy_0 : decode cX2_firstMadeBy 0 = .ok (.aload_n 0, 1) := by decide +kernel
theorem dX2_firstMadeBy_1 : decode cX2_firstMadeBy 1 = .ok (.getfield 10, 3) := by decide +kernel
theorem dX2_firstMadeBy_4 : decode cX2_firstMadeBy 4 = .ok (.getfield 146, 3) := by decide +kernel
theorem dX2_firstMadeBy_7 : decode cX2_firstMadeBy 7 = .ok (.iload_n 1, 1) := by decide +kernel
theorem dX2_firstMadeBy_8 : decode cX2_firstMadeBy 8 = .ok (.invokestatic 120, 3) := by decide +kernel
theorem dX2_firstMadeBy_11 : decode cX2_firstMadeBy 11 = .ok (.ireturn, 1) := by decide +kernel
set_option maxRecDepth 20000 in
theorem ggX2_takeDraft_X0_put : GoodIn wsX2_takeDraft wsX0_put := goodIn_r _ [10, 11, 140, 141, 142, 143, 144, 145, 146, 147, 148, 149, 150, 151, 152, 153] (by decide +kernel) (by decide +kernel)
set_option maxRecDepth 20000 in
theorem gX2_takeDraft_X0_put : GoodIn wsX2_takeDraft (wsV RX2 44 RX0 yX0_put wsX0_put) := goodIn_app (goodIn_of _ (by decide +kernel)) ggX2_takeDraft_X0_put
set_option maxRecDepth 20000 in
theorem ggX2_takeDraft_X0_fileDraft : GoodIn wsX2_takeDraft wsX0_fileDraft := goodIn_r _ [15, 16, 17, 11, 18, 19, 20, 21, 140, 141, 142, 143, 144, 145, 146, 147, 148, 149, 150, 151, 152, 153] (by decide +kernel) (by decide +kernel)
set_option maxRecDepth 20000 in
theorem gX2_takeDraft_X0_fileDraft : GoodIn wsX2_takeDraft (wsV RX2 149 RX0 yX0_fileDraft wsX0_fileDraft) := goodIn_app (goodIn_of _ (by decide +kernel)) ggX2_takeDraft_X0_fileDraft
set_option maxRecDepth 20000 in
theorem ggX2_takeDraft_X1_show : GoodIn wsX2_takeDraft wsX1_show := goodIn_r _ [26, 27, 28, 29, 30, 31, 32, 19, 20, 21, 33, 34, 35, 25, 36, 37, 38, 39, 40, 41, 42, 43, 44, 45, 46, 47, 48, 49, 50, 51, 52, 53, 54, 55, 56, 57, 58, 59, 60, 61, 62, 63, 64, 65, 66, 67, 68, 69, 70, 71, 72, 73, 74, 75, 76, 77, 78, 79, 80, 81, 82, 83, 84, 85, 86, 87, 88, 89, 90, 91, 92, 9, 93, 94, 95, 96, 97, 17, 98, 99, 100, 101, 102, 103, 104, 105, 106, 107, 108, 109, 110, 111, 112, 113, 114, 115, 116, 117, 118, 119, 120, 154, 155, 156, 157, 158, 159, 160, 161, 162, 163, 164, 165, 140, 141, 142, 143, 144, 145, 146, 147, 148, 149, 150, 151, 152, 153] (by decide +kernel) (by decide +kernel)
set_option maxRecDepth 20000 in
theorem gX2_takeDraft_X1_show : GoodIn wsX2_takeDraft (wsV RX2 89 RX1 yX1_show wsX1_show) := goodIn_app (goodIn_of _ (by decide +kernel)) ggX2_takeDraft_X1_show
set_option maxRecDepth 20000 in
theorem ggX2_takeDraft_X0_withdrawDraft : GoodIn wsX2_takeDraft wsX0_withdrawDraft := goodIn_r _ [124, 16, 18, 11, 140, 141, 142, 143, 144, 145, 146, 147, 148, 149, 150, 151, 152, 153] (by decide +kernel) (by decide +kernel)
set_option maxRecDepth 20000 in
theorem gX2_takeDraft_X0_withdrawDraft : GoodIn wsX2_takeDraft (wsV RX2 152 RX0 yX0_withdrawDraft wsX0_withdrawDraft) := goodIn_app (goodIn_of _ (by decide +kernel)) ggX2_takeDraft_X0_withdrawDraft
set_option maxRecDepth 20000 in
theorem ggX2_takeDraft_X0_keep : GoodIn wsX2_takeDraft wsX0_keep := goodIn_r _ [128, 11, 129, 130, 131, 98, 99, 132, 19, 20, 21, 133, 134, 135, 9, 136, 140, 141, 142, 143, 144, 145, 146, 147, 148, 149, 150, 151, 152, 153] (by decide +kernel) (by decide +kernel)
set_option maxRecDepth 20000 in
theorem gX2_takeDraft_X0_keep : GoodIn wsX2_takeDraft (wsV RX2 51 RX0 yX0_keep wsX0_keep) := goodIn_app (goodIn_of _ (by decide +kernel)) ggX2_takeDraft_X0_keep
theorem dX2_takeDraft_0 : decode cX2_takeDraft 0 = .ok (.iload_n 1, 1) := by decide +kernel
theorem dX2_takeDraft_1 : decode cX2_takeDraft 1 = .ok (.ifCond .le 24, 3) := by decide +kernel
theorem dX2_takeDraft_4 : decode cX2_takeDraft 4 = .ok (.aload_n 0, 1) := by decide +kernel
theorem dX2_takeDraft_5 : decode cX2_takeDraft 5 = .ok (.getfield 10, 3) := by decide +kernel
theorem dX2_takeDraft_8 : decode cX2_takeDraft 8 = .ok (.aload_n 0, 1) := by decide +kernel
theorem dX2_takeDraft_9 : decode cX2_takeDraft 9 = .ok (.getfield 10, 3) := by decide +kernel
theorem dX2_takeDraft_12 : decode cX2_takeDraft 12 = .ok (.getfield 146, 3) := by decide +kernel
theorem dX2_takeDraft_15 : decode cX2_takeDraft 15 = .ok (.aload_n 0, 1) := by decide +kernel
theorem dX2_takeDraft_16 : decode cX2_takeDraft 16 = .ok (.getfield 10, 3) := by decide +kernel
theorem dX2_takeDraft_19 : decode cX2_takeDraft 19 = .ok (.getfield 143, 3) := by decide +kernel
theorem dX2_takeDraft_22 : decode cX2_takeDraft 22 = .ok (.invokevirtual 44, 3) := by decide +kernel
theorem dX2_takeDraft_25 : decode cX2_takeDraft 25 = .ok (.aload_n 0, 1) := by decide +kernel
theorem dX2_takeDraft_26 : decode cX2_takeDraft 26 = .ok (.getfield 10, 3) := by decide +kernel
theorem dX2_takeDraft_29 : decode cX2_takeDraft 29 = .ok (.invokevirtual 149, 3) := by decide +kernel
theorem dX2_takeDraft_32 : decode cX2_takeDraft 32 = .ok (.aload_n 0, 1) := by decide +kernel
theorem dX2_takeDraft_33 : decode cX2_takeDraft 33 = .ok (.getfield 21, 3) := by decide +kernel
theorem dX2_takeDraft_36 : decode cX2_takeDraft 36 = .ok (.aload_n 0, 1) := by decide +kernel
theorem dX2_takeDraft_37 : decode cX2_takeDraft 37 = .ok (.getfield 10, 3) := by decide +kernel
theorem dX2_takeDraft_40 : decode cX2_takeDraft 40 = .ok (.getfield 139, 3) := by decide +kernel
theorem dX2_takeDraft_43 : decode cX2_takeDraft 43 = .ok (.iconst 1, 1) := by decide +kernel
theorem dX2_takeDraft_44 : decode cX2_takeDraft 44 = .ok (.iadd, 1) := by decide +kernel
theorem dX2_takeDraft_45 : decode cX2_takeDraft 45 = .ok (.sipush 200, 3) := by decide +kernel
theorem dX2_takeDraft_48 : decode cX2_takeDraft 48 = .ok (.iconst (-1), 1) := by decide +kernel
theorem dX2_takeDraft_49 : decode cX2_takeDraft 49 = .ok (.invokevirtual 89, 3) := by decide +kernel
theorem dX2_takeDraft_52 : decode cX2_takeDraft 52 = .ok (.ifCond .ne 12, 3) := by decide +kernel
theorem dX2_takeDraft_55 : decode cX2_takeDraft 55 = .ok (.aload_n 0, 1) := by decide +kernel
theorem dX2_takeDraft_56 : decode cX2_takeDraft 56 = .ok (.getfield 10, 3) := by decide +kernel
theorem dX2_takeDraft_59 : decode cX2_takeDraft 59 = .ok (.invokevirtual 152, 3) := by decide +kernel
theorem dX2_takeDraft_62 : decode cX2_takeDraft 62 = .ok (.iconst (-1), 1) := by decide +kernel
theorem dX2_takeDraft_63 : decode cX2_takeDraft 63 = .ok (.ireturn, 1) := by decide +kernel
theorem dX2_takeDraft_64 : decode cX2_takeDraft 64 = .ok (.aload_n 0, 1) := by decide +kernel
theorem dX2_takeDraft_65 : decode cX2_takeDraft 65 = .ok (.getfield 10, 3) := by decide +kernel
theorem dX2_takeDraft_68 : decode cX2_takeDraft 68 = .ok (.iload_n 1, 1) := by decide +kernel
theorem dX2_takeDraft_69 : decode cX2_takeDraft 69 = .ok (.invokevirtual 51, 3) := by decide +kernel
theorem dX2_takeDraft_72 : decode cX2_takeDraft 72 = .ok (.ireturn, 1) := by decide +kernel
end
section
/-! THE LAYER: a judgement over (pc, locals, stack, world) alone; a row an instruction; contracts that say which answer and which world come back -/
def zw_N (s : State) : Prop := va_Nw (.methodLinkNest RX2 9 yX0_init "TitheMap") s ∧ va_Nw (.methodLinkNest RX0 56 yX2_at "TitheMap") s ∧ va_Nw (.methodLinkNest RX1 63 yX2_at "TitheMap") s
theorem zw_N.warm {s U : State} (hW : s.WarmedH U.vm) (h : zw_N s) : zw_N U := ⟨h.1.warmM hW, h.2.1.warmM hW, h.2.2.warmM hW⟩
theorem zw_N.same {u U : State} (hv : u.vm = U.vm) (h : zw_N u) : zw_N U := ⟨va_Nw.same rfl hv h.1, va_Nw.same rfl hv h.2.1, va_Nw.same rfl hv h.2.2⟩
def zw_W (p : Program) (l : Launch) (e : Env) (R : Room) (s : State) (m : MethodId) (args : Array Value) (below : List Frame) (meth : Method) (c : Code) (nL : Nat) (D : va_G) (A : Nat → Prop) (cells slots : Nat) (Q : State → Prop) (pc : Nat) (lv : List (Nat × Value)) (st : List Value) (ws : va_W) : Prop :=
  ∀ (H : Heap) (locs : List Loc) (ls : Array Slot), lv_has ls nL lv → va_P D vwCl ws H → va_D A ws → va_S A s.heap H locs → W p l e R s m args below meth c H locs cells slots Q (F0 m pc ls st)
def zw_E (p : Program) (s : State) (m : MethodId) (args : Array Value) (c : Code) (cc : ByteArray) (nL : Nat) (own : String) (Ts : List Cond) (D : va_G) (tys : List (ClassId × FieldType)) (A : Nat → Prop) : Prop :=
  p.tables.exec = Jvm.exec ∧ c.code = cc ∧ c.maxLocals = nL ∧ s.vm.findClass own = some m.cls ∧ (∀ w ∈ Ts, w.before args s = true) ∧ va_K D vwCl tys s ∧ (∀ q : Nat, s.heap.size ≤ q → A q) ∧ zw_N s
theorem zw_D.congr {A : Nat → Prop} {ws ws' : va_W} (h : ws.map Prod.fst = ws'.map Prod.fst) (hD : va_D A ws) : va_D A ws' := by
  have key : ∀ (k : Nat) (q : Nat × va_E), ws'[k]? = some q → ∃ q0, ws[k]? = some q0 ∧ q0.1 = q.1 := by
    intro k q hk
    have h1 : (ws.map Prod.fst)[k]? = some q.1 := by rw [h, List.getElem?_map, hk]; rfl
    rw [List.getElem?_map] at h1
    cases hi : ws[k]? with
    | none => rw [hi] at h1; cases h1
    | some q0 => rw [hi] at h1; exact ⟨q0, rfl, Option.some.inj h1⟩
  refine ⟨fun i j x y hi hj hxy => ?_, fun k q hk => ?_⟩
  · obtain ⟨x0, h1, h2⟩ := key i x hi
    obtain ⟨y0, h3, h4⟩ := key j y hj
    exact hD.1 i j x0 y0 h1 h3 (h2.trans (hxy.trans h4.symm))
  · obtain ⟨q0, h1, h2⟩ := key k q hk
    rw [← h2]
    exact hD.2 k q0 h1
def zw_put : va_W → List Nat → va_W → va_W
  | ws, i :: is, x :: xs => zw_put (ws.set i x) is xs
  | ws, _, _ => ws
theorem zw_put_get : ∀ (is : List Nat) (W1 ws : va_W) (k : Nat) (q : Nat × va_E), is.length = W1.length → (zw_put ws is W1)[k]? = some q → (ws[k]? = some q ∧ k ∉ is) ∨ ∃ j : Nat, is[j]? = some k ∧ W1[j]? = some q
  | [], [], ws, k, q, _, h => Or.inl ⟨h, List.not_mem_nil⟩
  | [], x :: xs, ws, k, q, hl, _ => by cases hl
  | i :: is, [], ws, k, q, hl, _ => by cases hl
  | i :: is, x :: xs, ws, k, q, hl, h => by
    rcases zw_put_get is xs (ws.set i x) k q (Nat.succ.inj hl) h with ⟨h1, h2⟩ | ⟨j, h1, h2⟩
    · by_cases hk : i = k
      · subst hk
        refine Or.inr ⟨0, rfl, ?_⟩
        have hlt : i < ws.length := by
          rcases Nat.lt_or_ge i ws.length with z | z
          · exact z
          · rw [List.getElem?_eq_none (by rw [List.length_set]; exact z)] at h1
            cases h1
        rw [List.getElem?_set_self hlt] at h1
        exact h1
      · rw [List.getElem?_set_ne hk] at h1
        exact Or.inl ⟨h1, fun hm => by rcases List.mem_cons.mp hm with z | z; exact hk z.symm; exact h2 z⟩
    · exact Or.inr ⟨j + 1, h1, h2⟩
theorem zw_set_fst (ws : va_W) (i : Nat) (x : Nat × va_E) (h : (ws.map Prod.fst)[i]? = some x.1) : (ws.set i x).map Prod.fst = ws.map Prod.fst := by
  apply List.ext_getElem?
  intro j
  rw [List.map_set]
  by_cases hj : i = j
  · subst hj
    have hlt := (List.getElem?_eq_some_iff.mp h).1
    rw [List.getElem?_set_self hlt, h]
  · rw [List.getElem?_set_ne hj]
theorem zw_put_fst : ∀ (is : List Nat) (W1 ws : va_W), (is.map (fun i => (ws.map Prod.fst)[i]?) = W1.map (fun x => some x.1)) → (zw_put ws is W1).map Prod.fst = ws.map Prod.fst
  | [], [], ws, _ => rfl
  | [], _ :: _, ws, _ => rfl
  | _ :: _, [], ws, _ => rfl
  | i :: is, x :: xs, ws, h => by
    have h1 := (List.cons.inj h).1
    have h2 := (List.cons.inj h).2
    have e := zw_set_fst ws i x h1
    show (zw_put (ws.set i x) is xs).map Prod.fst = _
    rw [zw_put_fst is xs (ws.set i x) (by rw [e]; exact h2), e]
theorem zw_fst_of {is : List Nat} {ws W0 W1 : va_W} (hC : is.map (fun i => ws[i]?) = W0.map some) (had : W1.map Prod.fst = W0.map Prod.fst) : is.map (fun i => (ws.map Prod.fst)[i]?) = W1.map (fun x => some x.1) := by
  have h1 : is.map (fun i => (ws.map Prod.fst)[i]?) = (is.map (fun i => ws[i]?)).map (fun o => o.map Prod.fst) := by
    rw [List.map_map]
    apply List.map_congr_left
    intro i _
    exact List.getElem?_map
  have h2 : W1.map (fun x => some x.1) = (W1.map Prod.fst).map some := by rw [List.map_map]; rfl
  rw [h1, h2, hC, had, List.map_map, List.map_map]
  rfl
theorem zw_get_of {is : List Nat} {ws W0 : va_W} (hC : is.map (fun i => ws[i]?) = W0.map some) {j : Nat} {q : Nat × va_E} (h : W0[j]? = some q) : ∃ i : Nat, is[j]? = some i ∧ ws[i]? = some q := by
  have h1 : (is.map (fun i => ws[i]?))[j]? = some (some q) := by rw [hC, List.getElem?_map, h]; rfl
  rw [List.getElem?_map] at h1
  cases hi : is[j]? with
  | none => rw [hi] at h1; cases h1
  | some i => rw [hi] at h1; exact ⟨i, rfl, Option.some.inj h1⟩
theorem zw_put_P {A : Nat → Prop} {D : va_G} {cl : List vw_C} {is : List Nat} {ws W0 W1 : va_W} {H H1 : Heap} (hP : va_P D cl ws H) (hD : va_D A ws) (hC : is.map (fun i => ws[i]?) = W0.map some) (had : W1.map Prod.fst = W0.map Prod.fst)
    (hk : ∀ q : Nat, q < H.size → ¬ va_A W0 H.size q → H1[q]? = H[q]?) (hP1 : va_P D cl W1 H1) : va_P D cl (zw_put ws is W1) H1 := by
  intro k q hq
  have hl : is.length = W1.length := by
    have h1 : is.length = W0.length := by have := congrArg List.length hC; simpa using this
    have h2 : W1.length = W0.length := by have := congrArg List.length had; simpa using this
    omega
  rcases zw_put_get is W1 ws k q hl hq with ⟨h1, h2⟩ | ⟨j, h1, h2⟩
  · have hlt := (hP k q h1).lt
    refine (hP k q h1).kept (hk q.1 hlt (fun h => ?_))
    rcases h with ⟨k2, e, h⟩ | h
    · obtain ⟨i, h3, h4⟩ := zw_get_of hC h
      have hij := hD.1 k i q (q.1, e) h1 h4 rfl
      subst hij
      exact h2 (List.mem_of_getElem? h3)
    · omega
  · exact hP1 j q h2
theorem zw_part_P {D : va_G} {cl : List vw_C} {is : List Nat} {ws W0 : va_W} {H : Heap} (hP : va_P D cl ws H) (hC : is.map (fun i => ws[i]?) = W0.map some) : va_P D cl W0 H := by
  intro k q hq
  obtain ⟨i, -, h4⟩ := zw_get_of hC hq
  exact hP i q h4
/-- a contract's start -/
def zw_B (D : va_G) (tys : List (ClassId × FieldType)) (W0 : va_W) (sz : Nat) (U : State) : Prop := U.heap.size = sz ∧ va_P D vwCl W0 U.heap ∧ va_K D vwCl tys U ∧ va_D (fun _ => True) W0 ∧ zw_N U
/-- contracts: from the world W0 with these arguments the answer r and the world W1 come; no cell is made -/
def zw_I (l : Launch) (y : MethodName) (w : List Cond) (rm : Room) (D : va_G) (tys : List (ClassId × FieldType)) (av : List Value) (W0 : va_W) (r : Int32) (W1 : va_W) : Prop :=
  ∀ sz : Nat, Met l y w rm (va_Pc av (zw_B D tys W0 sz)) (va_Qi (fun r' (_ : Unit) => r' = r) (fun _ t => va_P D vwCl W1 t.heap) (va_A W0 sz)) 0 0 (va_A W0 sz)
def zw_L (l : Launch) (y : MethodName) (w : List Cond) (rm : Room) (D : va_G) (tys : List (ClassId × FieldType)) (av : List Value) (W0 : va_W) (r : Int64) (W1 : va_W) : Prop :=
  ∀ sz : Nat, Met l y w rm (va_Pc av (zw_B D tys W0 sz)) (va_Ql (fun r' (_ : Unit) => r' = r) (fun _ t => va_P D vwCl W1 t.heap) (va_A W0 sz)) 0 0 (va_A W0 sz)
def zw_V (l : Launch) (y : MethodName) (w : List Cond) (rm : Room) (D : va_G) (tys : List (ClassId × FieldType)) (av : List Value) (W0 : va_W) (W1 : va_W) : Prop :=
  ∀ sz : Nat, Met l y w rm (va_Pc av (zw_B D tys W0 sz)) (va_Qv (fun (_ : Unit) => True) (fun _ t => va_P D vwCl W1 t.heap) (va_A W0 sz)) 0 0 (va_A W0 sz)
/-- what a body comes to -/
def zw_Qi (D : va_G) (A : Nat → Prop) (below : List Frame) (args : Array Value) (s : State) (r : Int32) (W1 : va_W) : State → Prop := MQ below (va_Qi (fun r' (_ : Unit) => r' = r) (fun _ t => va_P D vwCl W1 t.heap) A) args s 0 0 A
def zw_Ql (D : va_G) (A : Nat → Prop) (below : List Frame) (args : Array Value) (s : State) (r : Int64) (W1 : va_W) : State → Prop := MQ below (va_Ql (fun r' (_ : Unit) => r' = r) (fun _ t => va_P D vwCl W1 t.heap) A) args s 0 0 A
def zw_Qv (D : va_G) (A : Nat → Prop) (below : List Frame) (args : Array Value) (s : State) (W1 : va_W) : State → Prop := MQ below (va_Qv (fun (_ : Unit) => True) (fun _ t => va_P D vwCl W1 t.heap) A) args s 0 0 A

theorem zw_ofI {l : Launch} {y : MethodName} {w w' : List Cond} {rm : Room} {D : va_G} {tys : List (ClassId × FieldType)} {av : List Value} {W0 W1 : va_W} {r : Int32} {cc : ByteArray} {nL : Nat} {ret : Option FieldType} {own : String} {lv : List (Nat × Value)} (hy : plainName y.cls = true) (hw : w = Cond.code y cc nL ret :: w') (hlen : (lg_sl av).length ≤ nL) (ho : y.cls = own) (hlv : lv_args 0 av = lv)
    (body : ∀ (p : Program) (e : Env) (s : State) (m : MethodId) (below : List Frame) (meth : Method) (c : Code) (A : Nat → Prop), zw_E p s m av.toArray c cc nL own w D tys A → meth.sig.returnType = ret → meth.locks = false → zw_W p l e rm s m av.toArray below meth c nL D A 0 0 (zw_Qi D A below av.toArray s r W1) 0 lv [] W0) : zw_I l y w rm D tys av W0 r W1 := by
  intro sz
  refine Met.ofW (cc := cc) (maxL := nL) (ret := ret) hy hw ?_
  intro p e s m args below meth c s₁ B hml hv
  obtain ⟨rfl, hsz, hP, hK, hD0, hN⟩ := hv
  have hts := atoms_spec (ws := w) B.pre
  have hown : s.vm.findClass own = some m.cls := by rw [← ho]; exact findClass_of_methodNamed B.named
  subst hsz
  have hD := hD0.self (sz := s.heap.size)
  generalize hAe : va_A W0 s.heap.size = A at hD ⊢
  have hA : ∀ q : Nat, s.heap.size ≤ q → A q := fun q h => by rw [← hAe]; exact Or.inr h
  have hl := lv_entry av (n := nL) hlen
  rw [lg_entry_eq]
  generalize (lg_sl av ++ List.replicate (nL - (lg_sl av).length) Slot.unset).toArray = ls at hl ⊢
  rw [hlv] at hl
  exact body p e s m below meth c A ⟨B.exec, B.bytes, hml, hown, hts, hK, hA, hN⟩ B.returns B.notSynchronized s.heap [] ls hl hP hD va_S.rf

theorem zw_ofL {l : Launch} {y : MethodName} {w w' : List Cond} {rm : Room} {D : va_G} {tys : List (ClassId × FieldType)} {av : List Value} {W0 W1 : va_W} {r : Int64} {cc : ByteArray} {nL : Nat} {ret : Option FieldType} {own : String} {lv : List (Nat × Value)} (hy : plainName y.cls = true) (hw : w = Cond.code y cc nL ret :: w') (hlen : (lg_sl av).length ≤ nL) (ho : y.cls = own) (hlv : lv_args 0 av = lv)
    (body : ∀ (p : Program) (e : Env) (s : State) (m : MethodId) (below : List Frame) (meth : Method) (c : Code) (A : Nat → Prop), zw_E p s m av.toArray c cc nL own w D tys A → meth.sig.returnType = ret → meth.locks = false → zw_W p l e rm s m av.toArray below meth c nL D A 0 0 (zw_Ql D A below av.toArray s r W1) 0 lv [] W0) : zw_L l y w rm D tys av W0 r W1 := by
  intro sz
  refine Met.ofW (cc := cc) (maxL := nL) (ret := ret) hy hw ?_
  intro p e s m args below meth c s₁ B hml hv
  obtain ⟨rfl, hsz, hP, hK, hD0, hN⟩ := hv
  have hts := atoms_spec (ws := w) B.pre
  have hown : s.vm.findClass own = some m.cls := by rw [← ho]; exact findClass_of_methodNamed B.named
  subst hsz
  have hD := hD0.self (sz := s.heap.size)
  generalize hAe : va_A W0 s.heap.size = A at hD ⊢
  have hA : ∀ q : Nat, s.heap.size ≤ q → A q := fun q h => by rw [← hAe]; exact Or.inr h
  have hl := lv_entry av (n := nL) hlen
  rw [lg_entry_eq]
  generalize (lg_sl av ++ List.replicate (nL - (lg_sl av).length) Slot.unset).toArray = ls at hl ⊢
  rw [hlv] at hl
  exact body p e s m below meth c A ⟨B.exec, B.bytes, hml, hown, hts, hK, hA, hN⟩ B.returns B.notSynchronized s.heap [] ls hl hP hD va_S.rf

theorem zw_ofV {l : Launch} {y : MethodName} {w w' : List Cond} {rm : Room} {D : va_G} {tys : List (ClassId × FieldType)} {av : List Value} {W0 W1 : va_W} {cc : ByteArray} {nL : Nat} {ret : Option FieldType} {own : String} {lv : List (Nat × Value)} (hy : plainName y.cls = true) (hw : w = Cond.code y cc nL ret :: w') (hlen : (lg_sl av).length ≤ nL) (ho : y.cls = own) (hlv : lv_args 0 av = lv)
    (body : ∀ (p : Program) (e : Env) (s : State) (m : MethodId) (below : List Frame) (meth : Method) (c : Code) (A : Nat → Prop), zw_E p s m av.toArray c cc nL own w D tys A → meth.sig.returnType = ret → meth.locks = false → zw_W p l e rm s m av.toArray below meth c nL D A 0 0 (zw_Qv D A below av.toArray s W1) 0 lv [] W0) : zw_V l y w rm D tys av W0 W1 := by
  intro sz
  refine Met.ofW (cc := cc) (maxL := nL) (ret := ret) hy hw ?_
  intro p e s m args below meth c s₁ B hml hv
  obtain ⟨rfl, hsz, hP, hK, hD0, hN⟩ := hv
  have hts := atoms_spec (ws := w) B.pre
  have hown : s.vm.findClass own = some m.cls := by rw [← ho]; exact findClass_of_methodNamed B.named
  subst hsz
  have hD := hD0.self (sz := s.heap.size)
  generalize hAe : va_A W0 s.heap.size = A at hD ⊢
  have hA : ∀ q : Nat, s.heap.size ≤ q → A q := fun q h => by rw [← hAe]; exact Or.inr h
  have hl := lv_entry av (n := nL) hlen
  rw [lg_entry_eq]
  generalize (lg_sl av ++ List.replicate (nL - (lg_sl av).length) Slot.unset).toArray = ls at hl ⊢
  rw [hlv] at hl
  exact body p e s m below meth c A ⟨B.exec, B.bytes, hml, hown, hts, hK, hA, hN⟩ B.returns B.notSynchronized s.heap [] ls hl hP hD va_S.rf

section ZW
variable {p : Program} {l : Launch} {e : Env} {R : Room} {s : State} {m : MethodId} {args : Array Value} {below : List Frame} {meth : Method} {c : Code} {cells slots : Nat} {Q : State → Prop} {cc : ByteArray} {nL : Nat} {own : String} {Ts : List Cond} {D : va_G} {tys : List (ClassId × FieldType)} {A : Nat → Prop} {pc pc' : Nat} {lv lv' : List (Nat × Value)} {st : List Value} {ws ws' : va_W}

theorem zw_iconst (E : zw_E p s m args c cc nL own Ts D tys A) {n : Int} {v : Int32} (hdg : decode cc pc = .ok (.iconst n, 1)) (hv : Int32.ofInt n = v) (hp : pc + 1 = pc') (k : zw_W p l e R s m args below meth c nL D A cells slots Q pc' lv (.int v :: st) ws) : zw_W p l e R s m args below meth c nL D A cells slots Q pc lv st ws := by
  subst hp
  exact fun H locs ls h1 h2 h3 h4 => lv_iconst E.1 E.2.1 hdg hv (k H locs ls h1 h2 h3 h4)

theorem zw_bipush (E : zw_E p s m args c cc nL own Ts D tys A) {n : Int} {v : Int32} (hdg : decode cc pc = .ok (.bipush n, 2)) (hv : (Int8.ofInt n).toInt32 = v) (hp : pc + 2 = pc') (k : zw_W p l e R s m args below meth c nL D A cells slots Q pc' lv (.int v :: st) ws) : zw_W p l e R s m args below meth c nL D A cells slots Q pc lv st ws := by
  subst hp
  exact fun H locs ls h1 h2 h3 h4 => lv_bipush E.1 E.2.1 hdg hv (k H locs ls h1 h2 h3 h4)

theorem zw_sipush (E : zw_E p s m args c cc nL own Ts D tys A) {n : Int} {v : Int32} (hdg : decode cc pc = .ok (.sipush n, 3)) (hv : (Int16.ofInt n).toInt32 = v) (hp : pc + 3 = pc') (k : zw_W p l e R s m args below meth c nL D A cells slots Q pc' lv (.int v :: st) ws) : zw_W p l e R s m args below meth c nL D A cells slots Q pc lv st ws := by
  subst hp
  exact fun H locs ls h1 h2 h3 h4 => lv_sipush E.1 E.2.1 hdg hv (k H locs ls h1 h2 h3 h4)

theorem zw_lconst (E : zw_E p s m args c cc nL own Ts D tys A) {n : Fin 2} {v : Int64} (hdg : decode cc pc = .ok (.lconst n, 1)) (hv : Int64.ofNat (n : Nat) = v) (hp : pc + 1 = pc') (k : zw_W p l e R s m args below meth c nL D A cells slots Q pc' lv (.long v :: st) ws) : zw_W p l e R s m args below meth c nL D A cells slots Q pc lv st ws := by
  subst hp
  exact fun H locs ls h1 h2 h3 h4 => lv_lconst E.1 E.2.1 hdg hv (k H locs ls h1 h2 h3 h4)

theorem zw_ldc (E : zw_E p s m args c cc nL own Ts D tys A) {index : Nat} {v : Int32} (hdg : decode cc pc = .ok (.ldc index, 2)) (hm : Cond.constant own index v ∈ Ts) (hp : pc + 2 = pc') (k : zw_W p l e R s m args below meth c nL D A cells slots Q pc' lv (.int v :: st) ws) : zw_W p l e R s m args below meth c nL D A cells slots Q pc lv st ws := by
  subst hp
  exact fun H locs ls h1 h2 h3 h4 => lv_ldc E.1 E.2.1 E.2.2.2.1 (E.2.2.2.2.1 _ hm) hdg (k H locs ls h1 h2 h3 h4)

theorem zw_ldc2 (E : zw_E p s m args c cc nL own Ts D tys A) {index : Nat} {v : Int64} (hdg : decode cc pc = .ok (.ldc2_w index, 3)) (hm : Cond.constantLong own index v ∈ Ts) (hp : pc + 3 = pc') (k : zw_W p l e R s m args below meth c nL D A cells slots Q pc' lv (.long v :: st) ws) : zw_W p l e R s m args below meth c nL D A cells slots Q pc lv st ws := by
  subst hp
  exact fun H locs ls h1 h2 h3 h4 => lv_ldc2 E.1 E.2.1 E.2.2.2.1 (E.2.2.2.2.1 _ hm) hdg (k H locs ls h1 h2 h3 h4)

theorem zw_iload_n (E : zw_E p s m args c cc nL own Ts D tys A) {j : Fin 4} {i : Nat} {x : Int32} (q : Nat) (hdg : decode cc pc = .ok (.iload_n j, 1)) (hi : (j : Nat) = i) (hl : lv[q]? = some (i, .int x)) (hp : pc + 1 = pc') (k : zw_W p l e R s m args below meth c nL D A cells slots Q pc' lv (.int x :: st) ws) : zw_W p l e R s m args below meth c nL D A cells slots Q pc lv st ws := by
  subst hp
  exact fun H locs ls h1 h2 h3 h4 => lv_iload_n E.1 E.2.1 hdg hi (lv_at h1 q hl) (k H locs ls h1 h2 h3 h4)

theorem zw_iload (E : zw_E p s m args c cc nL own Ts D tys A) {i : Nat} {x : Int32} (q : Nat) (hdg : decode cc pc = .ok (.iload i, 2)) (hl : lv[q]? = some (i, .int x)) (hp : pc + 2 = pc') (k : zw_W p l e R s m args below meth c nL D A cells slots Q pc' lv (.int x :: st) ws) : zw_W p l e R s m args below meth c nL D A cells slots Q pc lv st ws := by
  subst hp
  exact fun H locs ls h1 h2 h3 h4 => lv_iload E.1 E.2.1 hdg (lv_at h1 q hl) (k H locs ls h1 h2 h3 h4)

theorem zw_lload_n (E : zw_E p s m args c cc nL own Ts D tys A) {j : Fin 4} {i : Nat} {x : Int64} (q : Nat) (hdg : decode cc pc = .ok (.lload_n j, 1)) (hi : (j : Nat) = i) (hl : lv[q]? = some (i, .long x)) (hp : pc + 1 = pc') (k : zw_W p l e R s m args below meth c nL D A cells slots Q pc' lv (.long x :: st) ws) : zw_W p l e R s m args below meth c nL D A cells slots Q pc lv st ws := by
  subst hp
  exact fun H locs ls h1 h2 h3 h4 => lv_lload_n E.1 E.2.1 hdg hi (lv_at h1 q hl) (k H locs ls h1 h2 h3 h4)

theorem zw_lload (E : zw_E p s m args c cc nL own Ts D tys A) {i : Nat} {x : Int64} (q : Nat) (hdg : decode cc pc = .ok (.lload i, 2)) (hl : lv[q]? = some (i, .long x)) (hp : pc + 2 = pc') (k : zw_W p l e R s m args below meth c nL D A cells slots Q pc' lv (.long x :: st) ws) : zw_W p l e R s m args below meth c nL D A cells slots Q pc lv st ws := by
  subst hp
  exact fun H locs ls h1 h2 h3 h4 => lv_lload E.1 E.2.1 hdg (lv_at h1 q hl) (k H locs ls h1 h2 h3 h4)

theorem zw_aload_n (E : zw_E p s m args c cc nL own Ts D tys A) {j : Fin 4} {i : Nat} {x : Nat} (q : Nat) (hdg : decode cc pc = .ok (.aload_n j, 1)) (hi : (j : Nat) = i) (hl : lv[q]? = some (i, .ref x)) (hp : pc + 1 = pc') (k : zw_W p l e R s m args below meth c nL D A cells slots Q pc' lv (.ref x :: st) ws) : zw_W p l e R s m args below meth c nL D A cells slots Q pc lv st ws := by
  subst hp
  exact fun H locs ls h1 h2 h3 h4 => lv_aload_n E.1 E.2.1 hdg hi (lv_at h1 q hl) (k H locs ls h1 h2 h3 h4)

theorem zw_aload (E : zw_E p s m args c cc nL own Ts D tys A) {i : Nat} {x : Nat} (q : Nat) (hdg : decode cc pc = .ok (.aload i, 2)) (hl : lv[q]? = some (i, .ref x)) (hp : pc + 2 = pc') (k : zw_W p l e R s m args below meth c nL D A cells slots Q pc' lv (.ref x :: st) ws) : zw_W p l e R s m args below meth c nL D A cells slots Q pc lv st ws := by
  subst hp
  exact fun H locs ls h1 h2 h3 h4 => lv_aload E.1 E.2.1 hdg (lv_at h1 q hl) (k H locs ls h1 h2 h3 h4)

theorem zw_istore_n (E : zw_E p s m args c cc nL own Ts D tys A) {j : Fin 4} {i : Nat} {x : Int32} (hdg : decode cc pc = .ok (.istore_n j, 1)) (hi : (j : Nat) = i) (hn : i < nL) (hl : (i, Value.int x) :: lv.filter (fun q => !(q.1 == i) && !(q.1 + 1 == i && q.2.category == 2)) = lv') (hp : pc + 1 = pc') (k : zw_W p l e R s m args below meth c nL D A cells slots Q pc' lv' st ws) : zw_W p l e R s m args below meth c nL D A cells slots Q pc lv (.int x :: st) ws := by
  subst hp
  exact fun H locs ls h1 h2 h3 h4 => lv_istore_n E.1 E.2.1 hdg hi h1 hn hl (fun ls h1 => k H locs ls h1 h2 h3 h4)

theorem zw_istore (E : zw_E p s m args c cc nL own Ts D tys A) {i : Nat} {x : Int32} (hdg : decode cc pc = .ok (.istore i, 2)) (hn : i < nL) (hl : (i, Value.int x) :: lv.filter (fun q => !(q.1 == i) && !(q.1 + 1 == i && q.2.category == 2)) = lv') (hp : pc + 2 = pc') (k : zw_W p l e R s m args below meth c nL D A cells slots Q pc' lv' st ws) : zw_W p l e R s m args below meth c nL D A cells slots Q pc lv (.int x :: st) ws := by
  subst hp
  exact fun H locs ls h1 h2 h3 h4 => lv_istore E.1 E.2.1 hdg h1 hn hl (fun ls h1 => k H locs ls h1 h2 h3 h4)

theorem zw_lstore_n (E : zw_E p s m args c cc nL own Ts D tys A) {j : Fin 4} {i : Nat} {x : Int64} (hdg : decode cc pc = .ok (.lstore_n j, 1)) (hi : (j : Nat) = i) (hn : i + 1 < nL) (hl : (i, Value.long x) :: lv.filter (fun q => !(q.1 == i) && (!(q.1 == i + 1) && !(q.1 + 1 == i && q.2.category == 2))) = lv') (hp : pc + 1 = pc') (k : zw_W p l e R s m args below meth c nL D A cells slots Q pc' lv' st ws) : zw_W p l e R s m args below meth c nL D A cells slots Q pc lv (.long x :: st) ws := by
  subst hp
  exact fun H locs ls h1 h2 h3 h4 => lv_lstore_n E.1 E.2.1 hdg hi h1 hn hl (fun ls h1 => k H locs ls h1 h2 h3 h4)

theorem zw_lstore (E : zw_E p s m args c cc nL own Ts D tys A) {i : Nat} {x : Int64} (hdg : decode cc pc = .ok (.lstore i, 2)) (hn : i + 1 < nL) (hl : (i, Value.long x) :: lv.filter (fun q => !(q.1 == i) && (!(q.1 == i + 1) && !(q.1 + 1 == i && q.2.category == 2))) = lv') (hp : pc + 2 = pc') (k : zw_W p l e R s m args below meth c nL D A cells slots Q pc' lv' st ws) : zw_W p l e R s m args below meth c nL D A cells slots Q pc lv (.long x :: st) ws := by
  subst hp
  exact fun H locs ls h1 h2 h3 h4 => lv_lstore E.1 E.2.1 hdg h1 hn hl (fun ls h1 => k H locs ls h1 h2 h3 h4)

theorem zw_astore_n (E : zw_E p s m args c cc nL own Ts D tys A) {j : Fin 4} {i : Nat} {x : Nat} (hdg : decode cc pc = .ok (.astore_n j, 1)) (hi : (j : Nat) = i) (hn : i < nL) (hl : (i, Value.ref x) :: lv.filter (fun q => !(q.1 == i) && !(q.1 + 1 == i && q.2.category == 2)) = lv') (hp : pc + 1 = pc') (k : zw_W p l e R s m args below meth c nL D A cells slots Q pc' lv' st ws) : zw_W p l e R s m args below meth c nL D A cells slots Q pc lv (.ref x :: st) ws := by
  subst hp
  exact fun H locs ls h1 h2 h3 h4 => lv_astore_n E.1 E.2.1 hdg hi h1 hn hl (fun ls h1 => k H locs ls h1 h2 h3 h4)

theorem zw_astore (E : zw_E p s m args c cc nL own Ts D tys A) {i : Nat} {x : Nat} (hdg : decode cc pc = .ok (.astore i, 2)) (hn : i < nL) (hl : (i, Value.ref x) :: lv.filter (fun q => !(q.1 == i) && !(q.1 + 1 == i && q.2.category == 2)) = lv') (hp : pc + 2 = pc') (k : zw_W p l e R s m args below meth c nL D A cells slots Q pc' lv' st ws) : zw_W p l e R s m args below meth c nL D A cells slots Q pc lv (.ref x :: st) ws := by
  subst hp
  exact fun H locs ls h1 h2 h3 h4 => lv_astore E.1 E.2.1 hdg h1 hn hl (fun ls h1 => k H locs ls h1 h2 h3 h4)

theorem zw_iinc (E : zw_E p s m args c cc nL own Ts D tys A) {i : Nat} {n : Int} {x v : Int32} (q : Nat) (hdg : decode cc pc = .ok (.iinc i n, 3)) (hq : lv[q]? = some (i, .int x)) (hv : x + Int32.ofInt n = v) (hn : i < nL) (hl : (i, Value.int v) :: lv.filter (fun q => !(q.1 == i) && !(q.1 + 1 == i && q.2.category == 2)) = lv') (hp : pc + 3 = pc') (k : zw_W p l e R s m args below meth c nL D A cells slots Q pc' lv' st ws) : zw_W p l e R s m args below meth c nL D A cells slots Q pc lv st ws := by
  subst hp
  exact fun H locs ls h1 h2 h3 h4 => lv_iinc E.1 E.2.1 hdg h1 hq hv hn hl (fun ls h1 => k H locs ls h1 h2 h3 h4)

theorem zw_iadd (E : zw_E p s m args c cc nL own Ts D tys A) {x y : Int32} (hdg : decode cc pc = .ok (.iadd, 1)) (hp : pc + 1 = pc') (k : zw_W p l e R s m args below meth c nL D A cells slots Q pc' lv (.int (x + y) :: st) ws) : zw_W p l e R s m args below meth c nL D A cells slots Q pc lv (.int y :: .int x :: st) ws := by
  subst hp
  exact fun H locs ls h1 h2 h3 h4 => lv_iadd E.1 E.2.1 hdg (k H locs ls h1 h2 h3 h4)

theorem zw_isub (E : zw_E p s m args c cc nL own Ts D tys A) {x y : Int32} (hdg : decode cc pc = .ok (.isub, 1)) (hp : pc + 1 = pc') (k : zw_W p l e R s m args below meth c nL D A cells slots Q pc' lv (.int (x - y) :: st) ws) : zw_W p l e R s m args below meth c nL D A cells slots Q pc lv (.int y :: .int x :: st) ws := by
  subst hp
  exact fun H locs ls h1 h2 h3 h4 => lv_isub E.1 E.2.1 hdg (k H locs ls h1 h2 h3 h4)

theorem zw_imul (E : zw_E p s m args c cc nL own Ts D tys A) {x y : Int32} (hdg : decode cc pc = .ok (.imul, 1)) (hp : pc + 1 = pc') (k : zw_W p l e R s m args below meth c nL D A cells slots Q pc' lv (.int (x * y) :: st) ws) : zw_W p l e R s m args below meth c nL D A cells slots Q pc lv (.int y :: .int x :: st) ws := by
  subst hp
  exact fun H locs ls h1 h2 h3 h4 => lv_imul E.1 E.2.1 hdg (k H locs ls h1 h2 h3 h4)

theorem zw_iand (E : zw_E p s m args c cc nL own Ts D tys A) {x y : Int32} (hdg : decode cc pc = .ok (.iand, 1)) (hp : pc + 1 = pc') (k : zw_W p l e R s m args below meth c nL D A cells slots Q pc' lv (.int (x &&& y) :: st) ws) : zw_W p l e R s m args below meth c nL D A cells slots Q pc lv (.int y :: .int x :: st) ws := by
  subst hp
  exact fun H locs ls h1 h2 h3 h4 => lv_iand E.1 E.2.1 hdg (k H locs ls h1 h2 h3 h4)

theorem zw_ior (E : zw_E p s m args c cc nL own Ts D tys A) {x y : Int32} (hdg : decode cc pc = .ok (.ior, 1)) (hp : pc + 1 = pc') (k : zw_W p l e R s m args below meth c nL D A cells slots Q pc' lv (.int (x ||| y) :: st) ws) : zw_W p l e R s m args below meth c nL D A cells slots Q pc lv (.int y :: .int x :: st) ws := by
  subst hp
  exact fun H locs ls h1 h2 h3 h4 => lv_ior E.1 E.2.1 hdg (k H locs ls h1 h2 h3 h4)

theorem zw_ishl (E : zw_E p s m args c cc nL own Ts D tys A) {x y : Int32} (hdg : decode cc pc = .ok (.ishl, 1)) (hp : pc + 1 = pc') (k : zw_W p l e R s m args below meth c nL D A cells slots Q pc' lv (.int (x <<< (y &&& 31)) :: st) ws) : zw_W p l e R s m args below meth c nL D A cells slots Q pc lv (.int y :: .int x :: st) ws := by
  subst hp
  exact fun H locs ls h1 h2 h3 h4 => lv_ishl E.1 E.2.1 hdg (k H locs ls h1 h2 h3 h4)

theorem zw_ishr (E : zw_E p s m args c cc nL own Ts D tys A) {x y : Int32} (hdg : decode cc pc = .ok (.ishr, 1)) (hp : pc + 1 = pc') (k : zw_W p l e R s m args below meth c nL D A cells slots Q pc' lv (.int (x >>> (y &&& 31)) :: st) ws) : zw_W p l e R s m args below meth c nL D A cells slots Q pc lv (.int y :: .int x :: st) ws := by
  subst hp
  exact fun H locs ls h1 h2 h3 h4 => lv_ishr E.1 E.2.1 hdg (k H locs ls h1 h2 h3 h4)

theorem zw_idiv (E : zw_E p s m args c cc nL own Ts D tys A) {x y : Int32} (hdg : decode cc pc = .ok (.idiv, 1)) (hne : ¬ y = 0) (hp : pc + 1 = pc') (k : zw_W p l e R s m args below meth c nL D A cells slots Q pc' lv (.int (x / y) :: st) ws) : zw_W p l e R s m args below meth c nL D A cells slots Q pc lv (.int y :: .int x :: st) ws := by
  subst hp
  exact fun H locs ls h1 h2 h3 h4 => lv_idiv E.1 E.2.1 hdg hne (k H locs ls h1 h2 h3 h4)

theorem zw_irem (E : zw_E p s m args c cc nL own Ts D tys A) {x y : Int32} (hdg : decode cc pc = .ok (.irem, 1)) (hne : ¬ y = 0) (hp : pc + 1 = pc') (k : zw_W p l e R s m args below meth c nL D A cells slots Q pc' lv (.int (x - x / y * y) :: st) ws) : zw_W p l e R s m args below meth c nL D A cells slots Q pc lv (.int y :: .int x :: st) ws := by
  subst hp
  exact fun H locs ls h1 h2 h3 h4 => lv_irem E.1 E.2.1 hdg hne (k H locs ls h1 h2 h3 h4)

theorem zw_ladd (E : zw_E p s m args c cc nL own Ts D tys A) {x y : Int64} (hdg : decode cc pc = .ok (.ladd, 1)) (hp : pc + 1 = pc') (k : zw_W p l e R s m args below meth c nL D A cells slots Q pc' lv (.long (x + y) :: st) ws) : zw_W p l e R s m args below meth c nL D A cells slots Q pc lv (.long y :: .long x :: st) ws := by
  subst hp
  exact fun H locs ls h1 h2 h3 h4 => lv_ladd E.1 E.2.1 hdg (k H locs ls h1 h2 h3 h4)

theorem zw_lsub (E : zw_E p s m args c cc nL own Ts D tys A) {x y : Int64} (hdg : decode cc pc = .ok (.lsub, 1)) (hp : pc + 1 = pc') (k : zw_W p l e R s m args below meth c nL D A cells slots Q pc' lv (.long (x - y) :: st) ws) : zw_W p l e R s m args below meth c nL D A cells slots Q pc lv (.long y :: .long x :: st) ws := by
  subst hp
  exact fun H locs ls h1 h2 h3 h4 => lv_lsub E.1 E.2.1 hdg (k H locs ls h1 h2 h3 h4)

theorem zw_lmul (E : zw_E p s m args c cc nL own Ts D tys A) {x y : Int64} (hdg : decode cc pc = .ok (.lmul, 1)) (hp : pc + 1 = pc') (k : zw_W p l e R s m args below meth c nL D A cells slots Q pc' lv (.long (x * y) :: st) ws) : zw_W p l e R s m args below meth c nL D A cells slots Q pc lv (.long y :: .long x :: st) ws := by
  subst hp
  exact fun H locs ls h1 h2 h3 h4 => lv_lmul E.1 E.2.1 hdg (k H locs ls h1 h2 h3 h4)

theorem zw_ldiv (E : zw_E p s m args c cc nL own Ts D tys A) {x y : Int64} (hdg : decode cc pc = .ok (.ldiv, 1)) (hne : ¬ y = 0) (hp : pc + 1 = pc') (k : zw_W p l e R s m args below meth c nL D A cells slots Q pc' lv (.long (x / y) :: st) ws) : zw_W p l e R s m args below meth c nL D A cells slots Q pc lv (.long y :: .long x :: st) ws := by
  subst hp
  exact fun H locs ls h1 h2 h3 h4 => lv_ldiv E.1 E.2.1 hdg hne (k H locs ls h1 h2 h3 h4)

theorem zw_lrem (E : zw_E p s m args c cc nL own Ts D tys A) {x y : Int64} (hdg : decode cc pc = .ok (.lrem, 1)) (hne : ¬ y = 0) (hp : pc + 1 = pc') (k : zw_W p l e R s m args below meth c nL D A cells slots Q pc' lv (.long (x - x / y * y) :: st) ws) : zw_W p l e R s m args below meth c nL D A cells slots Q pc lv (.long y :: .long x :: st) ws := by
  subst hp
  exact fun H locs ls h1 h2 h3 h4 => lv_lrem E.1 E.2.1 hdg hne (k H locs ls h1 h2 h3 h4)

theorem zw_i2l (E : zw_E p s m args c cc nL own Ts D tys A) {x : Int32} (hdg : decode cc pc = .ok (.i2l, 1)) (hp : pc + 1 = pc') (k : zw_W p l e R s m args below meth c nL D A cells slots Q pc' lv (.long x.toInt64 :: st) ws) : zw_W p l e R s m args below meth c nL D A cells slots Q pc lv (.int x :: st) ws := by
  subst hp
  exact fun H locs ls h1 h2 h3 h4 => lv_i2l E.1 E.2.1 hdg rfl (k H locs ls h1 h2 h3 h4)

theorem zw_l2i (E : zw_E p s m args c cc nL own Ts D tys A) {x : Int64} (hdg : decode cc pc = .ok (.l2i, 1)) (hp : pc + 1 = pc') (k : zw_W p l e R s m args below meth c nL D A cells slots Q pc' lv (.int x.toInt32 :: st) ws) : zw_W p l e R s m args below meth c nL D A cells slots Q pc lv (.long x :: st) ws := by
  subst hp
  exact fun H locs ls h1 h2 h3 h4 => lv_l2i E.1 E.2.1 hdg rfl (k H locs ls h1 h2 h3 h4)

theorem zw_lcmp (E : zw_E p s m args c cc nL own Ts D tys A) {x y : Int64} (hdg : decode cc pc = .ok (.lcmp, 1)) (hp : pc + 1 = pc') (k : zw_W p l e R s m args below meth c nL D A cells slots Q pc' lv (.int (lg_cmp x y) :: st) ws) : zw_W p l e R s m args below meth c nL D A cells slots Q pc lv (.long y :: .long x :: st) ws := by
  subst hp
  exact fun H locs ls h1 h2 h3 h4 => W.lcmp E.1 E.2.1 hdg (k H locs ls h1 h2 h3 h4)

theorem zw_dup (E : zw_E p s m args c cc nL own Ts D tys A) {va : Value} (hdg : decode cc pc = .ok (.dup, 1)) (hva : va.category = 1) (hp : pc + 1 = pc') (k : zw_W p l e R s m args below meth c nL D A cells slots Q pc' lv (va :: va :: st) ws) : zw_W p l e R s m args below meth c nL D A cells slots Q pc lv (va :: st) ws := by
  subst hp
  exact fun H locs ls h1 h2 h3 h4 => lv_dup E.1 E.2.1 hdg hva (k H locs ls h1 h2 h3 h4)

theorem zw_pop (E : zw_E p s m args c cc nL own Ts D tys A) {va : Value} (hdg : decode cc pc = .ok (.pop, 1)) (hva : va.category = 1) (hp : pc + 1 = pc') (k : zw_W p l e R s m args below meth c nL D A cells slots Q pc' lv st ws) : zw_W p l e R s m args below meth c nL D A cells slots Q pc lv (va :: st) ws := by
  subst hp
  exact fun H locs ls h1 h2 h3 h4 => lv_pop E.1 E.2.1 hdg hva (k H locs ls h1 h2 h3 h4)

theorem zw_dup2 (E : zw_E p s m args c cc nL own Ts D tys A) {va vb : Value} (hdg : decode cc pc = .ok (.dup2, 1)) (hva : va.category = 1) (hvb : vb.category = 1) (hp : pc + 1 = pc') (k : zw_W p l e R s m args below meth c nL D A cells slots Q pc' lv (va :: vb :: va :: vb :: st) ws) : zw_W p l e R s m args below meth c nL D A cells slots Q pc lv (va :: vb :: st) ws := by
  subst hp
  exact fun H locs ls h1 h2 h3 h4 => lv_dup2_11 E.1 E.2.1 hdg hva hvb (k H locs ls h1 h2 h3 h4)

theorem zw_if_eq (E : zw_E p s m args c cc nL own Ts D tys A) {x : Int32} {off : Int} {tgt : Nat} (hdg : decode cc pc = .ok (.ifCond .eq off, 3)) (ht : (pc : Int) + off = (tgt : Int)) (hp : pc + 3 = pc') (kt : x = 0 → zw_W p l e R s m args below meth c nL D A cells slots Q tgt lv st ws) (kf : ¬ x = 0 → zw_W p l e R s m args below meth c nL D A cells slots Q pc' lv st ws) : zw_W p l e R s m args below meth c nL D A cells slots Q pc lv (.int x :: st) ws := by
  subst hp
  exact fun H locs ls h1 h2 h3 h4 => lv_if_eq E.1 E.2.1 hdg ht (fun q => kt q H locs ls h1 h2 h3 h4) (fun q => kf q H locs ls h1 h2 h3 h4)

theorem zw_if_ne (E : zw_E p s m args c cc nL own Ts D tys A) {x : Int32} {off : Int} {tgt : Nat} (hdg : decode cc pc = .ok (.ifCond .ne off, 3)) (ht : (pc : Int) + off = (tgt : Int)) (hp : pc + 3 = pc') (kt : ¬ x = 0 → zw_W p l e R s m args below meth c nL D A cells slots Q tgt lv st ws) (kf : x = 0 → zw_W p l e R s m args below meth c nL D A cells slots Q pc' lv st ws) : zw_W p l e R s m args below meth c nL D A cells slots Q pc lv (.int x :: st) ws := by
  subst hp
  exact fun H locs ls h1 h2 h3 h4 => lv_if_ne E.1 E.2.1 hdg ht (fun q => kt q H locs ls h1 h2 h3 h4) (fun q => kf q H locs ls h1 h2 h3 h4)

theorem zw_if_lt (E : zw_E p s m args c cc nL own Ts D tys A) {x : Int32} {off : Int} {tgt : Nat} (hdg : decode cc pc = .ok (.ifCond .lt off, 3)) (ht : (pc : Int) + off = (tgt : Int)) (hp : pc + 3 = pc') (kt : x < 0 → zw_W p l e R s m args below meth c nL D A cells slots Q tgt lv st ws) (kf : ¬ x < 0 → zw_W p l e R s m args below meth c nL D A cells slots Q pc' lv st ws) : zw_W p l e R s m args below meth c nL D A cells slots Q pc lv (.int x :: st) ws := by
  subst hp
  exact fun H locs ls h1 h2 h3 h4 => lv_if_lt E.1 E.2.1 hdg ht (fun q => kt q H locs ls h1 h2 h3 h4) (fun q => kf q H locs ls h1 h2 h3 h4)

theorem zw_if_ge (E : zw_E p s m args c cc nL own Ts D tys A) {x : Int32} {off : Int} {tgt : Nat} (hdg : decode cc pc = .ok (.ifCond .ge off, 3)) (ht : (pc : Int) + off = (tgt : Int)) (hp : pc + 3 = pc') (kt : 0 ≤ x → zw_W p l e R s m args below meth c nL D A cells slots Q tgt lv st ws) (kf : ¬ 0 ≤ x → zw_W p l e R s m args below meth c nL D A cells slots Q pc' lv st ws) : zw_W p l e R s m args below meth c nL D A cells slots Q pc lv (.int x :: st) ws := by
  subst hp
  exact fun H locs ls h1 h2 h3 h4 => lv_if_ge E.1 E.2.1 hdg ht (fun q => kt q H locs ls h1 h2 h3 h4) (fun q => kf q H locs ls h1 h2 h3 h4)

theorem zw_if_gt (E : zw_E p s m args c cc nL own Ts D tys A) {x : Int32} {off : Int} {tgt : Nat} (hdg : decode cc pc = .ok (.ifCond .gt off, 3)) (ht : (pc : Int) + off = (tgt : Int)) (hp : pc + 3 = pc') (kt : 0 < x → zw_W p l e R s m args below meth c nL D A cells slots Q tgt lv st ws) (kf : ¬ 0 < x → zw_W p l e R s m args below meth c nL D A cells slots Q pc' lv st ws) : zw_W p l e R s m args below meth c nL D A cells slots Q pc lv (.int x :: st) ws := by
  subst hp
  exact fun H locs ls h1 h2 h3 h4 => lv_if_gt E.1 E.2.1 hdg ht (fun q => kt q H locs ls h1 h2 h3 h4) (fun q => kf q H locs ls h1 h2 h3 h4)

theorem zw_if_le (E : zw_E p s m args c cc nL own Ts D tys A) {x : Int32} {off : Int} {tgt : Nat} (hdg : decode cc pc = .ok (.ifCond .le off, 3)) (ht : (pc : Int) + off = (tgt : Int)) (hp : pc + 3 = pc') (kt : x ≤ 0 → zw_W p l e R s m args below meth c nL D A cells slots Q tgt lv st ws) (kf : ¬ x ≤ 0 → zw_W p l e R s m args below meth c nL D A cells slots Q pc' lv st ws) : zw_W p l e R s m args below meth c nL D A cells slots Q pc lv (.int x :: st) ws := by
  subst hp
  exact fun H locs ls h1 h2 h3 h4 => lv_if_le E.1 E.2.1 hdg ht (fun q => kt q H locs ls h1 h2 h3 h4) (fun q => kf q H locs ls h1 h2 h3 h4)

theorem zw_icmp_eq (E : zw_E p s m args c cc nL own Ts D tys A) {x y : Int32} {off : Int} {tgt : Nat} (hdg : decode cc pc = .ok (.if_icmp .eq off, 3)) (ht : (pc : Int) + off = (tgt : Int)) (hp : pc + 3 = pc') (kt : x = y → zw_W p l e R s m args below meth c nL D A cells slots Q tgt lv st ws) (kf : ¬ x = y → zw_W p l e R s m args below meth c nL D A cells slots Q pc' lv st ws) : zw_W p l e R s m args below meth c nL D A cells slots Q pc lv (.int y :: .int x :: st) ws := by
  subst hp
  exact fun H locs ls h1 h2 h3 h4 => lv_icmp_eq E.1 E.2.1 hdg ht (fun q => kt q H locs ls h1 h2 h3 h4) (fun q => kf q H locs ls h1 h2 h3 h4)

theorem zw_icmp_ne (E : zw_E p s m args c cc nL own Ts D tys A) {x y : Int32} {off : Int} {tgt : Nat} (hdg : decode cc pc = .ok (.if_icmp .ne off, 3)) (ht : (pc : Int) + off = (tgt : Int)) (hp : pc + 3 = pc') (kt : ¬ x = y → zw_W p l e R s m args below meth c nL D A cells slots Q tgt lv st ws) (kf : x = y → zw_W p l e R s m args below meth c nL D A cells slots Q pc' lv st ws) : zw_W p l e R s m args below meth c nL D A cells slots Q pc lv (.int y :: .int x :: st) ws := by
  subst hp
  exact fun H locs ls h1 h2 h3 h4 => lv_icmp_ne E.1 E.2.1 hdg ht (fun q => kt q H locs ls h1 h2 h3 h4) (fun q => kf q H locs ls h1 h2 h3 h4)

theorem zw_icmp_lt (E : zw_E p s m args c cc nL own Ts D tys A) {x y : Int32} {off : Int} {tgt : Nat} (hdg : decode cc pc = .ok (.if_icmp .lt off, 3)) (ht : (pc : Int) + off = (tgt : Int)) (hp : pc + 3 = pc') (kt : x < y → zw_W p l e R s m args below meth c nL D A cells slots Q tgt lv st ws) (kf : ¬ x < y → zw_W p l e R s m args below meth c nL D A cells slots Q pc' lv st ws) : zw_W p l e R s m args below meth c nL D A cells slots Q pc lv (.int y :: .int x :: st) ws := by
  subst hp
  exact fun H locs ls h1 h2 h3 h4 => lv_icmp_lt E.1 E.2.1 hdg ht (fun q => kt q H locs ls h1 h2 h3 h4) (fun q => kf q H locs ls h1 h2 h3 h4)

theorem zw_icmp_ge (E : zw_E p s m args c cc nL own Ts D tys A) {x y : Int32} {off : Int} {tgt : Nat} (hdg : decode cc pc = .ok (.if_icmp .ge off, 3)) (ht : (pc : Int) + off = (tgt : Int)) (hp : pc + 3 = pc') (kt : y ≤ x → zw_W p l e R s m args below meth c nL D A cells slots Q tgt lv st ws) (kf : ¬ y ≤ x → zw_W p l e R s m args below meth c nL D A cells slots Q pc' lv st ws) : zw_W p l e R s m args below meth c nL D A cells slots Q pc lv (.int y :: .int x :: st) ws := by
  subst hp
  exact fun H locs ls h1 h2 h3 h4 => lv_icmp_ge E.1 E.2.1 hdg ht (fun q => kt q H locs ls h1 h2 h3 h4) (fun q => kf q H locs ls h1 h2 h3 h4)

theorem zw_icmp_gt (E : zw_E p s m args c cc nL own Ts D tys A) {x y : Int32} {off : Int} {tgt : Nat} (hdg : decode cc pc = .ok (.if_icmp .gt off, 3)) (ht : (pc : Int) + off = (tgt : Int)) (hp : pc + 3 = pc') (kt : y < x → zw_W p l e R s m args below meth c nL D A cells slots Q tgt lv st ws) (kf : ¬ y < x → zw_W p l e R s m args below meth c nL D A cells slots Q pc' lv st ws) : zw_W p l e R s m args below meth c nL D A cells slots Q pc lv (.int y :: .int x :: st) ws := by
  subst hp
  exact fun H locs ls h1 h2 h3 h4 => lv_icmp_gt E.1 E.2.1 hdg ht (fun q => kt q H locs ls h1 h2 h3 h4) (fun q => kf q H locs ls h1 h2 h3 h4)

theorem zw_icmp_le (E : zw_E p s m args c cc nL own Ts D tys A) {x y : Int32} {off : Int} {tgt : Nat} (hdg : decode cc pc = .ok (.if_icmp .le off, 3)) (ht : (pc : Int) + off = (tgt : Int)) (hp : pc + 3 = pc') (kt : x ≤ y → zw_W p l e R s m args below meth c nL D A cells slots Q tgt lv st ws) (kf : ¬ x ≤ y → zw_W p l e R s m args below meth c nL D A cells slots Q pc' lv st ws) : zw_W p l e R s m args below meth c nL D A cells slots Q pc lv (.int y :: .int x :: st) ws := by
  subst hp
  exact fun H locs ls h1 h2 h3 h4 => lv_icmp_le E.1 E.2.1 hdg ht (fun q => kt q H locs ls h1 h2 h3 h4) (fun q => kf q H locs ls h1 h2 h3 h4)

theorem zw_goto (E : zw_E p s m args c cc nL own Ts D tys A) {off : Int} {tgt : Nat} (hdg : decode cc pc = .ok (.goto off, 3)) (ht : (pc : Int) + off = (tgt : Int)) (k : zw_W p l e R s m args below meth c nL D A cells slots Q tgt lv st ws) : zw_W p l e R s m args below meth c nL D A cells slots Q pc lv st ws := fun H locs ls h1 h2 h3 h4 => lv_goto E.1 E.2.1 hdg ht (k H locs ls h1 h2 h3 h4)
theorem zw_tableOut (E : zw_E p s m args c cc nL own Ts D tys A) {dflt lo hi : Int} {offs : Array Int} {len : Nat} {x : Int32} {tgt : Nat} (hdg : decode cc pc = .ok (.tableswitch dflt lo hi offs, len)) (h : x.toInt < lo ∨ hi < x.toInt) (ht : (pc : Int) + dflt = (tgt : Int)) (k : zw_W p l e R s m args below meth c nL D A cells slots Q tgt lv st ws) : zw_W p l e R s m args below meth c nL D A cells slots Q pc lv (.int x :: st) ws := fun H locs ls h1 h2 h3 h4 => lv_tableOut E.1 E.2.1 hdg h ht (k H locs ls h1 h2 h3 h4)
theorem zw_tableIn (E : zw_E p s m args c cc nL own Ts D tys A) {dflt lo hi : Int} {offs : Array Int} {len : Nat} {x : Int32} {off : Int} {tgt : Nat} (hdg : decode cc pc = .ok (.tableswitch dflt lo hi offs, len)) (hl : ¬ x.toInt < lo) (hh : ¬ hi < x.toInt) (ho : offs[(x.toInt - lo).toNat]? = some off) (ht : (pc : Int) + off = (tgt : Int)) (k : zw_W p l e R s m args below meth c nL D A cells slots Q tgt lv st ws) : zw_W p l e R s m args below meth c nL D A cells slots Q pc lv (.int x :: st) ws := fun H locs ls h1 h2 h3 h4 => lv_tableIn E.1 E.2.1 hdg hl hh ho ht (k H locs ls h1 h2 h3 h4)
theorem zw_lookup (E : zw_E p s m args c cc nL own Ts D tys A) {dflt : Int} {ps : Array (Int × Int)} {len : Nat} {x : Int32} {off : Int} {tgt : Nat} (hdg : decode cc pc = .ok (.lookupswitch dflt ps, len)) (hq : (ps.toList.zip (ps.toList.drop 1)).all (fun (a, next) => a.1 < next.1) = true) (ho : Op.lookupswitch.offset ps.toList dflt x.toInt = off) (ht : (pc : Int) + off = (tgt : Int)) (k : zw_W p l e R s m args below meth c nL D A cells slots Q tgt lv st ws) : zw_W p l e R s m args below meth c nL D A cells slots Q pc lv (.int x :: st) ws := fun H locs ls h1 h2 h3 h4 => lv_lookup E.1 E.2.1 hdg hq ho ht (k H locs ls h1 h2 h3 h4)

theorem zw_get (E : zw_E p s m args c cc nL own Ts D tys A) {C ref : String} {T : u_T} {N ci index : Nat} (q0 : Nat) (k : Nat) {a : Nat} {fs : List Value} {v : Value} (hin : ∀ w ∈ u_ws C T N, w ∈ Ts) (hm : Cond.fieldLink own index ref (T k).2.1 (T k).2.2.1 ∈ Ts) (he : ws[q0]? = some (a, .inr (ci, fs))) (hc : vwCl[ci]? = some (C, T, N)) (hk : k < N) (href : (T k).1 = ref) (hv : fs[k]? = some v) (hdg : decode cc pc = .ok (.getfield index, 3)) (hp : pc + 3 = pc') (kk : zw_W p l e R s m args below meth c nL D A cells slots Q pc' lv (v :: st) ws) : zw_W p l e R s m args below meth c nL D A cells slots Q pc lv (.ref a :: st) ws := by
  subst hp
  exact fun H locs ls h1 h2 h3 h4 => va_get E.1 E.2.1 E.2.2.2.2.1 hin E.2.2.2.1 E.2.2.2.2.2.1 h2 q0 he hc k hk (E.2.2.2.2.1 _ hm) (fun _ h => href ▸ h) hv hdg (kk H locs ls h1 h2 h3 h4)
theorem zw_putf (E : zw_E p s m args c cc nL own Ts D tys A) {C ref : String} {T : u_T} {N ci index : Nat} (q0 : Nat) (k : Nat) {a : Nat} {fs : List Value} {v : Value} {ty : FieldType} (hin : ∀ w ∈ u_ws C T N, w ∈ Ts) {ty0 : Nat → FieldType} (hty : ∀ k, k < N → parseFieldDescriptor (T k).2.2.1 = some (ty0 k)) (hnm : ∀ a, a < N → ∀ b, b < N → a ≠ b → (T a).2.1 ≠ (T b).2.1) (hm : Cond.fieldLink own index ref (T k).2.1 (T k).2.2.1 ∈ Ts) (he : ws[q0]? = some (a, .inr (ci, fs))) (hc : vwCl[ci]? = some (C, T, N)) (hk : k < N) (href : (T k).1 = ref) (hfin : (T k).2.2.2 = false) (hd : ty0 k = ty) (hn : narrow ty v = v) (hfit : fits ty v = true) (hl : k < fs.length) (hw : ws.set q0 (a, .inr (ci, fs.set k v)) = ws') (hdg : decode cc pc = .ok (.putfield index, 3)) (hp : pc + 3 = pc') (kk : zw_W p l e R s m args below meth c nL D A cells slots Q pc' lv st ws') : zw_W p l e R s m args below meth c nL D A cells slots Q pc lv (v :: .ref a :: st) ws := by
  subst hp
  subst hw
  exact fun H locs ls h1 h2 h3 h4 => va_put E.1 E.2.1 E.2.2.2.2.1 hin ty0 hty hnm E.2.2.2.1 E.2.2.2.2.2.1 h2 h3 h4 q0 he hc k hk (E.2.2.2.2.1 _ hm) (fun _ h => href ▸ h) hfin (by rw [hty k hk, hd]) hn hfit hl hdg (fun H locs h2 h3 h4 => kk H locs ls h1 h2 h3 h4)

theorem zw_iald (E : zw_E p s m args c cc nL own Ts D tys A) (q0 t0 : Nat) {a : Nat} {cA : ClassId} {n : Nat} {f : Nat → Int32} (ha : ws[q0]? = some (a, .inl (cA, n, .inl f))) (ht : tys[t0]? = some (cA, .int)) {i : Int32} {j : Nat} {x : Int32} (hin : vp_in i n) (hj : i.toNatClampNeg = j) (hx : f j = x) (hdg : decode cc pc = .ok (.iaload, 1)) (hp : pc + 1 = pc') (kk : zw_W p l e R s m args below meth c nL D A cells slots Q pc' lv (.int x :: st) ws) : zw_W p l e R s m args below meth c nL D A cells slots Q pc lv (.int i :: .ref a :: st) ws := by
  subst hp
  subst hj
  subst hx
  exact fun H locs ls h1 h2 h3 h4 => va_iald E.1 E.2.1 E.2.2.2.2.2.1 h2 q0 t0 ha ht hin hdg (kk H locs ls h1 h2 h3 h4)

theorem zw_zald (E : zw_E p s m args c cc nL own Ts D tys A) (q0 t0 : Nat) {a : Nat} {cA : ClassId} {n : Nat} {f : Nat → Int32} (ha : ws[q0]? = some (a, .inl (cA, n, .inl f))) (ht : tys[t0]? = some (cA, .boolean)) {i : Int32} {j : Nat} {x : Int32} (hin : vp_in i n) (hj : i.toNatClampNeg = j) (hx : f j = x) (hdg : decode cc pc = .ok (.baload, 1)) (hp : pc + 1 = pc') (kk : zw_W p l e R s m args below meth c nL D A cells slots Q pc' lv (.int x :: st) ws) : zw_W p l e R s m args below meth c nL D A cells slots Q pc lv (.int i :: .ref a :: st) ws := by
  subst hp
  subst hj
  subst hx
  exact fun H locs ls h1 h2 h3 h4 => va_zald E.1 E.2.1 E.2.2.2.2.2.1 h2 q0 t0 ha ht hin hdg (kk H locs ls h1 h2 h3 h4)

theorem zw_lald (E : zw_E p s m args c cc nL own Ts D tys A) (q0 t0 : Nat) {a : Nat} {cA : ClassId} {n : Nat} {f : Nat → Int64} (ha : ws[q0]? = some (a, .inl (cA, n, .inr (.inl f)))) (ht : tys[t0]? = some (cA, .long)) {i : Int32} {j : Nat} {x : Int64} (hin : vp_in i n) (hj : i.toNatClampNeg = j) (hx : f j = x) (hdg : decode cc pc = .ok (.laload, 1)) (hp : pc + 1 = pc') (kk : zw_W p l e R s m args below meth c nL D A cells slots Q pc' lv (.long x :: st) ws) : zw_W p l e R s m args below meth c nL D A cells slots Q pc lv (.int i :: .ref a :: st) ws := by
  subst hp
  subst hj
  subst hx
  exact fun H locs ls h1 h2 h3 h4 => va_lald E.1 E.2.1 E.2.2.2.2.2.1 h2 q0 t0 ha ht hin hdg (kk H locs ls h1 h2 h3 h4)

theorem zw_iast (E : zw_E p s m args c cc nL own Ts D tys A) (q0 t0 : Nat) {a : Nat} {cA : ClassId} {n : Nat} {f : Nat → Int32} (ha : ws[q0]? = some (a, .inl (cA, n, .inl f))) (ht : tys[t0]? = some (cA, .int)) {i : Int32} {j : Nat} {x : Int32} (hin : vp_in i n) (hj : i.toNatClampNeg = j) (hw : ws.set q0 (a, .inl (cA, n, .inl (upd f j x))) = ws') (hdg : decode cc pc = .ok (.iastore, 1)) (hp : pc + 1 = pc') (kk : zw_W p l e R s m args below meth c nL D A cells slots Q pc' lv st ws') : zw_W p l e R s m args below meth c nL D A cells slots Q pc lv (.int x :: .int i :: .ref a :: st) ws := by
  subst hp
  subst hj
  subst hw
  exact fun H locs ls h1 h2 h3 h4 => va_iast E.1 E.2.1 E.2.2.2.2.2.1 h2 h3 h4 q0 t0 ha ht hin hdg (fun H locs h2 h3 h4 => kk H locs ls h1 h2 h3 h4)

theorem zw_zast (E : zw_E p s m args c cc nL own Ts D tys A) (q0 t0 : Nat) {a : Nat} {cA : ClassId} {n : Nat} {f : Nat → Int32} (ha : ws[q0]? = some (a, .inl (cA, n, .inl f))) (ht : tys[t0]? = some (cA, .boolean)) {i : Int32} {j : Nat} {x : Int32} (hin : vp_in i n) (hj : i.toNatClampNeg = j) (hw : ws.set q0 (a, .inl (cA, n, .inl (upd f j (vp_nar .boolean x)))) = ws') (hdg : decode cc pc = .ok (.bastore, 1)) (hp : pc + 1 = pc') (kk : zw_W p l e R s m args below meth c nL D A cells slots Q pc' lv st ws') : zw_W p l e R s m args below meth c nL D A cells slots Q pc lv (.int x :: .int i :: .ref a :: st) ws := by
  subst hp
  subst hj
  subst hw
  exact fun H locs ls h1 h2 h3 h4 => va_zast E.1 E.2.1 E.2.2.2.2.2.1 h2 h3 h4 q0 t0 ha ht hin hdg (fun H locs h2 h3 h4 => kk H locs ls h1 h2 h3 h4)

theorem zw_last (E : zw_E p s m args c cc nL own Ts D tys A) (q0 t0 : Nat) {a : Nat} {cA : ClassId} {n : Nat} {f : Nat → Int64} (ha : ws[q0]? = some (a, .inl (cA, n, .inr (.inl f)))) (ht : tys[t0]? = some (cA, .long)) {i : Int32} {j : Nat} {x : Int64} (hin : vp_in i n) (hj : i.toNatClampNeg = j) (hw : ws.set q0 (a, .inl (cA, n, .inr (.inl (vp_updL f j x)))) = ws') (hdg : decode cc pc = .ok (.lastore, 1)) (hp : pc + 1 = pc') (kk : zw_W p l e R s m args below meth c nL D A cells slots Q pc' lv st ws') : zw_W p l e R s m args below meth c nL D A cells slots Q pc lv (.long x :: .int i :: .ref a :: st) ws := by
  subst hp
  subst hj
  subst hw
  exact fun H locs ls h1 h2 h3 h4 => va_last E.1 E.2.1 E.2.2.2.2.2.1 h2 h3 h4 q0 t0 ha ht hin hdg (fun H locs h2 h3 h4 => kk H locs ls h1 h2 h3 h4)

theorem zw_alen (E : zw_E p s m args c cc nL own Ts D tys A) (q0 t0 : Nat) {a : Nat} {cA : ClassId} {x : vp_A} (ha : ws[q0]? = some (a, .inl (cA, x))) {ty : FieldType} (ht : tys[t0]? = some (cA, ty)) {v : Int32} (hv : Int32.ofNat x.1 = v) (hdg : decode cc pc = .ok (.arraylength, 1)) (hp : pc + 1 = pc') (kk : zw_W p l e R s m args below meth c nL D A cells slots Q pc' lv (.int v :: st) ws) : zw_W p l e R s m args below meth c nL D A cells slots Q pc lv (.ref a :: st) ws := by
  subst hp
  exact fun H locs ls h1 h2 h3 h4 => va_alen E.1 E.2.1 E.2.2.2.2.2.1 h2 q0 t0 ha ht hv hdg (kk H locs ls h1 h2 h3 h4)
/-- a row out of an array of rows -/
theorem zw_aald (E : zw_E p s m args c cc nL own Ts D tys A) (q0 t0 : Nat) {a : Nat} {cA : ClassId} {n : Nat} {f : Nat → Option Nat} {ty : FieldType} (ha : ws[q0]? = some (a, .inl (cA, n, .inr (.inr (.inr (.inr f)))))) (ht : tys[t0]? = some (cA, .array ty)) {i : Int32} {j b : Nat} (hin : vp_in i n) (hj : i.toNatClampNeg = j) (hf : f j = some b) (hdg : decode cc pc = .ok (.aaload, 1)) (hp : pc + 1 = pc') (kk : zw_W p l e R s m args below meth c nL D A cells slots Q pc' lv (.ref b :: st) ws) : zw_W p l e R s m args below meth c nL D A cells slots Q pc lv (.int i :: .ref a :: st) ws := by
  subst hp
  subst hj
  intro H locs ls h1 h2 h3 h4
  have hlt : i.toNatClampNeg < n := Nat.not_le.mp fun q => hin (Or.inr q)
  refine W.aald (v := va_rf (f i.toNatClampNeg)) (ty := .array ty) E.1 E.2.1 (h2 q0 _ ha) ((E.2.2.2.2.2.1.2 t0 _ ht).1 n (fun j => va_rf (f j))) rfl (fun q => by cases q) (by show ¬ (i < 0 ∨ (arrV _ _ _).slots.size ≤ _); rw [arrV_size]; exact hin) (by show (arrV _ _ _).slots[_]? = _; rw [arrV_read _ _ hlt]) rfl rfl hdg ?_
  rw [hf]
  exact kk H locs ls h1 h2 h3 h4
theorem zw_mmin (E : zw_E p s m args c cc nL own Ts D tys A) {index : Nat} {x y : Int32} (hl : Cond.methodLink own index Lib.Math.min.name ∈ Ts) (hs : Cond.static Lib.Math.min.name ∈ Ts) (hi : Cond.initialized "java/lang/Math" ∈ Ts) (hcd : Cond.code Lib.Math.min.name Lib.Math.min.code 2 (some .int) ∈ Ts) (hfr : 1 ≤ R.frames) (hlo : (st.map fun v => v.category).sum + 13 ≤ R.locals) (hc : cells ≤ R.cells) (hsl : slots ≤ R.slots) (hdg : decode cc pc = .ok (.invokestatic index, 3)) (hp : pc + 3 = pc') (k : zw_W p l e R s m args below meth c nL D A cells slots Q pc' lv (.int (if y < x then y else x) :: st) ws) : zw_W p l e R s m args below meth c nL D A cells slots Q pc lv (.int y :: .int x :: st) ws := by
  subst hp
  exact fun H locs ls h1 h2 h3 h4 => va_mmin E.1 E.2.1 (E.2.2.1.trans h1.1.symm) E.2.2.2.1 (E.2.2.2.2.1 _ hl) (E.2.2.2.2.1 _ hs) (E.2.2.2.2.1 _ hi) (E.2.2.2.2.1 _ hcd) hfr hlo hc hsl hdg (k H locs ls h1 h2 h3 h4)
/-- other names for the same state -/
theorem zw_as {st' : List Value} (hl : lv' = lv) (hs : st' = st) (hw : ws' = ws) (k : zw_W p l e R s m args below meth c nL D A cells slots Q pc lv' st' ws') : zw_W p l e R s m args below meth c nL D A cells slots Q pc lv st ws := by
  subst hl; subst hs; subst hw
  exact k
/-- fewer locals, in another order -/
theorem zw_sub (ks : List Nat) (hl : lv_pick lv ks = lv') (k : zw_W p l e R s m args below meth c nL D A cells slots Q pc lv' st ws) : zw_W p l e R s m args below meth c nL D A cells slots Q pc lv st ws := fun H locs ls h1 h2 h3 h4 => k H locs ls (lv_sub h1 ks hl) h2 h3 h4

theorem zw_iret (E : zw_E p s m args c cc nL own Ts D tys A) {r v : Int32} {W1 : va_W} (hr : meth.sig.returnType = some .int) (hlk : meth.locks = false) (hdg : decode cc pc = .ok (.ireturn, 1)) (hv : v = r) (hw : ws = W1) : zw_W p l e R s m args below meth c nL D A 0 0 (zw_Qi D A below args s r W1) pc lv [.int v] ws := by
  subst hv
  subst hw
  exact fun H locs ls h1 h2 h3 h4 => W.iret E.1 E.2.1 hr (fun t ht hW => ⟨⟨v, (), rfl, rfl, by show va_P D vwCl ws t.heap; rw [ht]; exact h2⟩, h4.F ht⟩) h4.2.2 hdg hlk
theorem zw_zret (E : zw_E p s m args c cc nL own Ts D tys A) {r v : Int32} {W1 : va_W} (hr : meth.sig.returnType = some .boolean) (hlk : meth.locks = false) (hdg : decode cc pc = .ok (.ireturn, 1)) (hn : narrow .boolean (.int v) = .int v) (hv : v = r) (hw : ws = W1) : zw_W p l e R s m args below meth c nL D A 0 0 (zw_Qi D A below args s r W1) pc lv [.int v] ws := by
  subst hv
  subst hw
  exact fun H locs ls h1 h2 h3 h4 => W.zret E.1 E.2.1 hr hn (fun t ht hW => ⟨⟨v, (), rfl, rfl, by show va_P D vwCl ws t.heap; rw [ht]; exact h2⟩, h4.F ht⟩) h4.2.2 hdg hlk
theorem zw_lret (E : zw_E p s m args c cc nL own Ts D tys A) {r v : Int64} {W1 : va_W} (hr : meth.sig.returnType = some .long) (hlk : meth.locks = false) (hdg : decode cc pc = .ok (.lreturn, 1)) (hv : v = r) (hw : ws = W1) : zw_W p l e R s m args below meth c nL D A 0 0 (zw_Ql D A below args s r W1) pc lv [.long v] ws := by
  subst hv
  subst hw
  exact fun H locs ls h1 h2 h3 h4 => W.lret E.1 E.2.1 hr (fun t ht hW => ⟨⟨v, (), rfl, rfl, by show va_P D vwCl ws t.heap; rw [ht]; exact h2⟩, h4.F ht⟩) h4.2.2 hdg hlk
theorem zw_vret (E : zw_E p s m args c cc nL own Ts D tys A) {W1 : va_W} (hr : meth.sig.returnType = none) (hlk : meth.locks = false) (hdg : decode cc pc = .ok (.return_, 1)) (hw : ws = W1) : zw_W p l e R s m args below meth c nL D A 0 0 (zw_Qv D A below args s W1) pc lv [] ws := by
  subst hw
  exact fun H locs ls h1 h2 h3 h4 => W.vret E.1 E.2.1 hr (fun t ht hW => ⟨⟨(), rfl, trivial, by show va_P D vwCl ws t.heap; rw [ht]; exact h2⟩, h4.F ht⟩) h4.2.2 hdg hlk

theorem zw_blind {D : va_G} {tys : List (ClassId × FieldType)} {W0 : va_W} {sz : Nat} {av : List Value} : FrameBlind (va_Pc av (zw_B D tys W0 sz)) := fun a U g mk q => by
  obtain ⟨q0, q1, qP, qK, qD, qN⟩ := q
  exact ⟨q0, q1, qP, va_K.moved (u := U) (U := U.calling g mk a) (Vm.Alike.refl U.vm) qK, qD, zw_N.same rfl qN⟩

theorem zw_callIv (E : zw_E p s m args c cc nL own Ts D tys A) {C : String} {y : MethodName} {bytes : ByteArray} {maxL n index : Nat} {ret : Option FieldType} {w : List Cond} {rm : Room} {As rest : List Value} {W0 W1 : va_W} {r : Int32} {b ci : Nat} {cq : vw_C} {fs : List Value} (hM : zw_I l y w rm D tys (.ref b :: As) W0 r W1) (cw : CallW R s args own C index y bytes maxL ret w rm 0 0 n) (qr : Nat) (hcl : vwCl[ci]? = some cq) (hCn : cq.1 = C) (hq : W0[qr]? = some (b, .inr (ci, fs))) (is : List Nat) (hnd : va_nd is = true) (hC : is.map (fun i => ws[i]?) = W0.map some) (had : W1.map Prod.fst = W0.map Prod.fst) (hw : zw_put ws is W1 = ws') (hn : As.length = n) (hst : As.reverse ++ .ref b :: rest = st) (hW : (rest.map fun v => v.category).sum ≤ 8) (hcs : cells ≤ R.cells ∧ slots ≤ R.slots) (hdg : decode cc pc = .ok (.invokevirtual index, 3)) (hp : pc + 3 = pc') (k : zw_W p l e R s m args below meth c nL D A cells slots Q pc' lv (.int r :: rest) ws') : zw_W p l e R s m args below meth c nL D A cells slots Q pc lv st ws := by
  subst hp
  subst hst
  subst hw
  intro H locs ls h1 h2 h3 h4
  have hPc : va_P D vwCl W0 H := zw_part_P h2 hC
  have hDc : va_D A W0 := h3.sub is hnd hC
  have hFc := va_free (wc := W0) h3 h4 E.2.2.2.2.2.2.1 is hC
  refine va_calli (va_runV (As := As) (rest := rest) ⟨E.1, E.2.1, E.2.2.1, E.2.2.2.1, E.2.2.2.2.1⟩ (hM H.size) cw ⟨zw_blind, by rw [← hCn]; exact va_recv E.2.2.2.2.2.1 hPc hcl hq, fun U hU hW => ⟨rfl, by rw [hU], by rw [hU]; exact hPc, va_K.moved hW.alike E.2.2.2.2.2.1, hDc.weaken (fun _ _ _ _ => trivial), zw_N.warm hW E.2.2.2.2.2.2.2⟩⟩ rfl hn h1.1 rfl (lv_room hW) hdg hcs) h4 (fun q _ h => hFc q h) hFc (fun r' u t H1 locs1 ht hvm hv hB hz1 hk1 hS => ?_)
  subst hv
  have hB2 : va_P D vwCl W1 H1 := by rw [← ht]; exact hB
  exact k H1 locs1 ls h1 (zw_put_P h2 h3 hC had hk1 hB2) (zw_D.congr (zw_put_fst is W1 ws (zw_fst_of hC had)).symm h3) hS

theorem zw_callIs (E : zw_E p s m args c cc nL own Ts D tys A) {y : MethodName} {bytes : ByteArray} {maxL n index : Nat} {ret : Option FieldType} {w : List Cond} {rm : Room} {As rest : List Value} {W0 W1 : va_W} {r : Int32} (hM : zw_I l y w rm D tys As W0 r W1) (cw : (CallB R s args own index y bytes maxL ret w rm 0 0 n ∧ (Cond.static y).before args s = true)) (is : List Nat) (hnd : va_nd is = true) (hC : is.map (fun i => ws[i]?) = W0.map some) (had : W1.map Prod.fst = W0.map Prod.fst) (hw : zw_put ws is W1 = ws') (hn : As.length = n) (hst : As.reverse ++ rest = st) (hW : (rest.map fun v => v.category).sum ≤ 8) (hcs : cells ≤ R.cells ∧ slots ≤ R.slots) (hdg : decode cc pc = .ok (.invokestatic index, 3)) (hp : pc + 3 = pc') (k : zw_W p l e R s m args below meth c nL D A cells slots Q pc' lv (.int r :: rest) ws') : zw_W p l e R s m args below meth c nL D A cells slots Q pc lv st ws := by
  subst hp
  subst hst
  subst hw
  intro H locs ls h1 h2 h3 h4
  have hPc : va_P D vwCl W0 H := zw_part_P h2 hC
  have hDc : va_D A W0 := h3.sub is hnd hC
  have hFc := va_free (wc := W0) h3 h4 E.2.2.2.2.2.2.1 is hC
  refine va_calli (va_runS (As := As) (rest := rest) ⟨E.1, E.2.1, E.2.2.1, E.2.2.2.1, E.2.2.2.2.1⟩ (hM H.size) cw ⟨zw_blind, fun U hU hW => ⟨rfl, by rw [hU], by rw [hU]; exact hPc, va_K.moved hW.alike E.2.2.2.2.2.1, hDc.weaken (fun _ _ _ _ => trivial), zw_N.warm hW E.2.2.2.2.2.2.2⟩⟩ rfl hn h1.1 rfl (lv_room hW) hdg hcs) h4 (fun q _ h => hFc q h) hFc (fun r' u t H1 locs1 ht hvm hv hB hz1 hk1 hS => ?_)
  subst hv
  have hB2 : va_P D vwCl W1 H1 := by rw [← ht]; exact hB
  exact k H1 locs1 ls h1 (zw_put_P h2 h3 hC had hk1 hB2) (zw_D.congr (zw_put_fst is W1 ws (zw_fst_of hC had)).symm h3) hS

theorem zw_callIn (E : zw_E p s m args c cc nL own Ts D tys A) {host : String} {y : MethodName} {bytes : ByteArray} {maxL n index : Nat} {ret : Option FieldType} {w : List Cond} {rm : Room} {As rest : List Value} {W0 W1 : va_W} {r : Int32} (hM : zw_I l y w rm D tys As W0 r W1) (cw : (va_CN R s args own index y host bytes maxL ret w rm 0 0 n ∧ (Cond.static y).before args s = true ∧ True)) (is : List Nat) (hnd : va_nd is = true) (hC : is.map (fun i => ws[i]?) = W0.map some) (had : W1.map Prod.fst = W0.map Prod.fst) (hw : zw_put ws is W1 = ws') (hn : As.length = n) (hst : As.reverse ++ rest = st) (hW : (rest.map fun v => v.category).sum ≤ 8) (hcs : cells ≤ R.cells ∧ slots ≤ R.slots) (hdg : decode cc pc = .ok (.invokestatic index, 3)) (hp : pc + 3 = pc') (k : zw_W p l e R s m args below meth c nL D A cells slots Q pc' lv (.int r :: rest) ws') : zw_W p l e R s m args below meth c nL D A cells slots Q pc lv st ws := by
  subst hp
  subst hst
  subst hw
  intro H locs ls h1 h2 h3 h4
  have hPc : va_P D vwCl W0 H := zw_part_P h2 hC
  have hDc : va_D A W0 := h3.sub is hnd hC
  have hFc := va_free (wc := W0) h3 h4 E.2.2.2.2.2.2.1 is hC
  refine va_calli (va_runSN (As := As) (rest := rest) ⟨E.1, E.2.1, E.2.2.1, E.2.2.2.1, E.2.2.2.2.1⟩ (hM H.size) cw ⟨zw_blind, fun U hU hW => ⟨rfl, by rw [hU], by rw [hU]; exact hPc, va_K.moved hW.alike E.2.2.2.2.2.1, hDc.weaken (fun _ _ _ _ => trivial), zw_N.warm hW E.2.2.2.2.2.2.2⟩⟩ rfl hn h1.1 rfl (lv_room hW) hdg hcs) h4 (fun q _ h => hFc q h) hFc (fun r' u t H1 locs1 ht hvm hv hB hz1 hk1 hS => ?_)
  subst hv
  have hB2 : va_P D vwCl W1 H1 := by rw [← ht]; exact hB
  exact k H1 locs1 ls h1 (zw_put_P h2 h3 hC had hk1 hB2) (zw_D.congr (zw_put_fst is W1 ws (zw_fst_of hC had)).symm h3) hS

theorem zw_callLv (E : zw_E p s m args c cc nL own Ts D tys A) {C : String} {y : MethodName} {bytes : ByteArray} {maxL n index : Nat} {ret : Option FieldType} {w : List Cond} {rm : Room} {As rest : List Value} {W0 W1 : va_W} {r : Int64} {b ci : Nat} {cq : vw_C} {fs : List Value} (hM : zw_L l y w rm D tys (.ref b :: As) W0 r W1) (cw : CallW R s args own C index y bytes maxL ret w rm 0 0 n) (qr : Nat) (hcl : vwCl[ci]? = some cq) (hCn : cq.1 = C) (hq : W0[qr]? = some (b, .inr (ci, fs))) (is : List Nat) (hnd : va_nd is = true) (hC : is.map (fun i => ws[i]?) = W0.map some) (had : W1.map Prod.fst = W0.map Prod.fst) (hw : zw_put ws is W1 = ws') (hn : As.length = n) (hst : As.reverse ++ .ref b :: rest = st) (hW : (rest.map fun v => v.category).sum ≤ 8) (hcs : cells ≤ R.cells ∧ slots ≤ R.slots) (hdg : decode cc pc = .ok (.invokevirtual index, 3)) (hp : pc + 3 = pc') (k : zw_W p l e R s m args below meth c nL D A cells slots Q pc' lv (.long r :: rest) ws') : zw_W p l e R s m args below meth c nL D A cells slots Q pc lv st ws := by
  subst hp
  subst hst
  subst hw
  intro H locs ls h1 h2 h3 h4
  have hPc : va_P D vwCl W0 H := zw_part_P h2 hC
  have hDc : va_D A W0 := h3.sub is hnd hC
  have hFc := va_free (wc := W0) h3 h4 E.2.2.2.2.2.2.1 is hC
  refine va_calll (va_runV (As := As) (rest := rest) ⟨E.1, E.2.1, E.2.2.1, E.2.2.2.1, E.2.2.2.2.1⟩ (hM H.size) cw ⟨zw_blind, by rw [← hCn]; exact va_recv E.2.2.2.2.2.1 hPc hcl hq, fun U hU hW => ⟨rfl, by rw [hU], by rw [hU]; exact hPc, va_K.moved hW.alike E.2.2.2.2.2.1, hDc.weaken (fun _ _ _ _ => trivial), zw_N.warm hW E.2.2.2.2.2.2.2⟩⟩ rfl hn h1.1 rfl (lv_room hW) hdg hcs) h4 (fun q _ h => hFc q h) hFc (fun r' u t H1 locs1 ht hvm hv hB hz1 hk1 hS => ?_)
  subst hv
  have hB2 : va_P D vwCl W1 H1 := by rw [← ht]; exact hB
  exact k H1 locs1 ls h1 (zw_put_P h2 h3 hC had hk1 hB2) (zw_D.congr (zw_put_fst is W1 ws (zw_fst_of hC had)).symm h3) hS

theorem zw_callLs (E : zw_E p s m args c cc nL own Ts D tys A) {y : MethodName} {bytes : ByteArray} {maxL n index : Nat} {ret : Option FieldType} {w : List Cond} {rm : Room} {As rest : List Value} {W0 W1 : va_W} {r : Int64} (hM : zw_L l y w rm D tys As W0 r W1) (cw : (CallB R s args own index y bytes maxL ret w rm 0 0 n ∧ (Cond.static y).before args s = true)) (is : List Nat) (hnd : va_nd is = true) (hC : is.map (fun i => ws[i]?) = W0.map some) (had : W1.map Prod.fst = W0.map Prod.fst) (hw : zw_put ws is W1 = ws') (hn : As.length = n) (hst : As.reverse ++ rest = st) (hW : (rest.map fun v => v.category).sum ≤ 8) (hcs : cells ≤ R.cells ∧ slots ≤ R.slots) (hdg : decode cc pc = .ok (.invokestatic index, 3)) (hp : pc + 3 = pc') (k : zw_W p l e R s m args below meth c nL D A cells slots Q pc' lv (.long r :: rest) ws') : zw_W p l e R s m args below meth c nL D A cells slots Q pc lv st ws := by
  subst hp
  subst hst
  subst hw
  intro H locs ls h1 h2 h3 h4
  have hPc : va_P D vwCl W0 H := zw_part_P h2 hC
  have hDc : va_D A W0 := h3.sub is hnd hC
  have hFc := va_free (wc := W0) h3 h4 E.2.2.2.2.2.2.1 is hC
  refine va_calll (va_runS (As := As) (rest := rest) ⟨E.1, E.2.1, E.2.2.1, E.2.2.2.1, E.2.2.2.2.1⟩ (hM H.size) cw ⟨zw_blind, fun U hU hW => ⟨rfl, by rw [hU], by rw [hU]; exact hPc, va_K.moved hW.alike E.2.2.2.2.2.1, hDc.weaken (fun _ _ _ _ => trivial), zw_N.warm hW E.2.2.2.2.2.2.2⟩⟩ rfl hn h1.1 rfl (lv_room hW) hdg hcs) h4 (fun q _ h => hFc q h) hFc (fun r' u t H1 locs1 ht hvm hv hB hz1 hk1 hS => ?_)
  subst hv
  have hB2 : va_P D vwCl W1 H1 := by rw [← ht]; exact hB
  exact k H1 locs1 ls h1 (zw_put_P h2 h3 hC had hk1 hB2) (zw_D.congr (zw_put_fst is W1 ws (zw_fst_of hC had)).symm h3) hS

theorem zw_callVv (E : zw_E p s m args c cc nL own Ts D tys A) {C : String} {y : MethodName} {bytes : ByteArray} {maxL n index : Nat} {ret : Option FieldType} {w : List Cond} {rm : Room} {As rest : List Value} {W0 W1 : va_W} {b ci : Nat} {cq : vw_C} {fs : List Value} (hM : zw_V l y w rm D tys (.ref b :: As) W0 W1) (cw : CallW R s args own C index y bytes maxL ret w rm 0 0 n) (qr : Nat) (hcl : vwCl[ci]? = some cq) (hCn : cq.1 = C) (hq : W0[qr]? = some (b, .inr (ci, fs))) (is : List Nat) (hnd : va_nd is = true) (hC : is.map (fun i => ws[i]?) = W0.map some) (had : W1.map Prod.fst = W0.map Prod.fst) (hw : zw_put ws is W1 = ws') (hn : As.length = n) (hst : As.reverse ++ .ref b :: rest = st) (hW : (rest.map fun v => v.category).sum ≤ 8) (hcs : cells ≤ R.cells ∧ slots ≤ R.slots) (hdg : decode cc pc = .ok (.invokevirtual index, 3)) (hp : pc + 3 = pc') (k : zw_W p l e R s m args below meth c nL D A cells slots Q pc' lv rest ws') : zw_W p l e R s m args below meth c nL D A cells slots Q pc lv st ws := by
  subst hp
  subst hst
  subst hw
  intro H locs ls h1 h2 h3 h4
  have hPc : va_P D vwCl W0 H := zw_part_P h2 hC
  have hDc : va_D A W0 := h3.sub is hnd hC
  have hFc := va_free (wc := W0) h3 h4 E.2.2.2.2.2.2.1 is hC
  refine va_callv (va_runV (As := As) (rest := rest) ⟨E.1, E.2.1, E.2.2.1, E.2.2.2.1, E.2.2.2.2.1⟩ (hM H.size) cw ⟨zw_blind, by rw [← hCn]; exact va_recv E.2.2.2.2.2.1 hPc hcl hq, fun U hU hW => ⟨rfl, by rw [hU], by rw [hU]; exact hPc, va_K.moved hW.alike E.2.2.2.2.2.1, hDc.weaken (fun _ _ _ _ => trivial), zw_N.warm hW E.2.2.2.2.2.2.2⟩⟩ rfl hn h1.1 rfl (lv_room hW) hdg hcs) h4 (fun q _ h => hFc q h) hFc (fun u t H1 locs1 ht hvm hv hB hz1 hk1 hS => ?_)
  skip
  have hB2 : va_P D vwCl W1 H1 := by rw [← ht]; exact hB
  exact k H1 locs1 ls h1 (zw_put_P h2 h3 hC had hk1 hB2) (zw_D.congr (zw_put_fst is W1 ws (zw_fst_of hC had)).symm h3) hS

theorem zw_callVs (E : zw_E p s m args c cc nL own Ts D tys A) {y : MethodName} {bytes : ByteArray} {maxL n index : Nat} {ret : Option FieldType} {w : List Cond} {rm : Room} {As rest : List Value} {W0 W1 : va_W} (hM : zw_V l y w rm D tys As W0 W1) (cw : (CallB R s args own index y bytes maxL ret w rm 0 0 n ∧ (Cond.static y).before args s = true)) (is : List Nat) (hnd : va_nd is = true) (hC : is.map (fun i => ws[i]?) = W0.map some) (had : W1.map Prod.fst = W0.map Prod.fst) (hw : zw_put ws is W1 = ws') (hn : As.length = n) (hst : As.reverse ++ rest = st) (hW : (rest.map fun v => v.category).sum ≤ 8) (hcs : cells ≤ R.cells ∧ slots ≤ R.slots) (hdg : decode cc pc = .ok (.invokestatic index, 3)) (hp : pc + 3 = pc') (k : zw_W p l e R s m args below meth c nL D A cells slots Q pc' lv rest ws') : zw_W p l e R s m args below meth c nL D A cells slots Q pc lv st ws := by
  subst hp
  subst hst
  subst hw
  intro H locs ls h1 h2 h3 h4
  have hPc : va_P D vwCl W0 H := zw_part_P h2 hC
  have hDc : va_D A W0 := h3.sub is hnd hC
  have hFc := va_free (wc := W0) h3 h4 E.2.2.2.2.2.2.1 is hC
  refine va_callv (va_runS (As := As) (rest := rest) ⟨E.1, E.2.1, E.2.2.1, E.2.2.2.1, E.2.2.2.2.1⟩ (hM H.size) cw ⟨zw_blind, fun U hU hW => ⟨rfl, by rw [hU], by rw [hU]; exact hPc, va_K.moved hW.alike E.2.2.2.2.2.1, hDc.weaken (fun _ _ _ _ => trivial), zw_N.warm hW E.2.2.2.2.2.2.2⟩⟩ rfl hn h1.1 rfl (lv_room hW) hdg hcs) h4 (fun q _ h => hFc q h) hFc (fun u t H1 locs1 ht hvm hv hB hz1 hk1 hS => ?_)
  skip
  have hB2 : va_P D vwCl W1 H1 := by rw [← ht]; exact hB
  exact k H1 locs1 ls h1 (zw_put_P h2 h3 hC had hk1 hB2) (zw_D.congr (zw_put_fst is W1 ws (zw_fst_of hC had)).symm h3) hS

theorem zw_range (ws : va_W) : (List.range ws.length).map (fun i => ws[i]?) = ws.map some := by
  apply List.ext_getElem?
  intro i
  rw [List.getElem?_map, List.getElem?_map]
  by_cases h : i < ws.length
  · rw [List.getElem?_range h, List.getElem?_eq_getElem h]
    show some ws[i]? = _
    rw [List.getElem?_eq_getElem h]
    rfl
  · rw [List.getElem?_eq_none (by rw [List.length_range]; omega), List.getElem?_eq_none (by omega)]
    rfl
theorem zw_callIw (E : zw_E p s m args c cc nL own Ts D tys A) {C : String} {y : MethodName} {bytes : ByteArray} {maxL n index : Nat} {ret : Option FieldType} {w : List Cond} {rm : Room} {As rest : List Value} {r : Int32} {b ci : Nat} {cq : vw_C} {fs : List Value} (hM : zw_I l y w rm D tys (.ref b :: As) ws r ws') (cw : CallW R s args own C index y bytes maxL ret w rm 0 0 n) (qr : Nat) (hcl : vwCl[ci]? = some cq) (hCn : cq.1 = C) (hq : ws[qr]? = some (b, .inr (ci, fs))) (had : ws'.map Prod.fst = ws.map Prod.fst) (hn : As.length = n) (hst : As.reverse ++ .ref b :: rest = st) (hW : (rest.map fun v => v.category).sum ≤ 8) (hcs : cells ≤ R.cells ∧ slots ≤ R.slots) (hdg : decode cc pc = .ok (.invokevirtual index, 3)) (hp : pc + 3 = pc') (k : zw_W p l e R s m args below meth c nL D A cells slots Q pc' lv (.int r :: rest) ws') : zw_W p l e R s m args below meth c nL D A cells slots Q pc lv st ws := by
  subst hp
  subst hst
  intro H locs ls h1 h2 h3 h4
  have hFc := va_free (wc := ws) h3 h4 E.2.2.2.2.2.2.1 (List.range ws.length) (zw_range ws)
  refine va_calli (va_runV (As := As) (rest := rest) ⟨E.1, E.2.1, E.2.2.1, E.2.2.2.1, E.2.2.2.2.1⟩ (hM H.size) cw ⟨zw_blind, by rw [← hCn]; exact va_recv E.2.2.2.2.2.1 h2 hcl hq, fun U hU hW => ⟨rfl, by rw [hU], by rw [hU]; exact h2, va_K.moved hW.alike E.2.2.2.2.2.1, h3.weaken (fun _ _ _ _ => trivial), zw_N.warm hW E.2.2.2.2.2.2.2⟩⟩ rfl hn h1.1 rfl (lv_room hW) hdg hcs) h4 (fun q _ h => hFc q h) hFc (fun r' u t H1 locs1 ht hvm hv hB hz1 hk1 hS => ?_)
  subst hv
  have hB2 : va_P D vwCl ws' H1 := by rw [← ht]; exact hB
  exact k H1 locs1 ls h1 hB2 (zw_D.congr had.symm h3) hS

theorem zw_callLw (E : zw_E p s m args c cc nL own Ts D tys A) {C : String} {y : MethodName} {bytes : ByteArray} {maxL n index : Nat} {ret : Option FieldType} {w : List Cond} {rm : Room} {As rest : List Value} {r : Int64} {b ci : Nat} {cq : vw_C} {fs : List Value} (hM : zw_L l y w rm D tys (.ref b :: As) ws r ws') (cw : CallW R s args own C index y bytes maxL ret w rm 0 0 n) (qr : Nat) (hcl : vwCl[ci]? = some cq) (hCn : cq.1 = C) (hq : ws[qr]? = some (b, .inr (ci, fs))) (had : ws'.map Prod.fst = ws.map Prod.fst) (hn : As.length = n) (hst : As.reverse ++ .ref b :: rest = st) (hW : (rest.map fun v => v.category).sum ≤ 8) (hcs : cells ≤ R.cells ∧ slots ≤ R.slots) (hdg : decode cc pc = .ok (.invokevirtual index, 3)) (hp : pc + 3 = pc') (k : zw_W p l e R s m args below meth c nL D A cells slots Q pc' lv (.long r :: rest) ws') : zw_W p l e R s m args below meth c nL D A cells slots Q pc lv st ws := by
  subst hp
  subst hst
  intro H locs ls h1 h2 h3 h4
  have hFc := va_free (wc := ws) h3 h4 E.2.2.2.2.2.2.1 (List.range ws.length) (zw_range ws)
  refine va_calll (va_runV (As := As) (rest := rest) ⟨E.1, E.2.1, E.2.2.1, E.2.2.2.1, E.2.2.2.2.1⟩ (hM H.size) cw ⟨zw_blind, by rw [← hCn]; exact va_recv E.2.2.2.2.2.1 h2 hcl hq, fun U hU hW => ⟨rfl, by rw [hU], by rw [hU]; exact h2, va_K.moved hW.alike E.2.2.2.2.2.1, h3.weaken (fun _ _ _ _ => trivial), zw_N.warm hW E.2.2.2.2.2.2.2⟩⟩ rfl hn h1.1 rfl (lv_room hW) hdg hcs) h4 (fun q _ h => hFc q h) hFc (fun r' u t H1 locs1 ht hvm hv hB hz1 hk1 hS => ?_)
  subst hv
  have hB2 : va_P D vwCl ws' H1 := by rw [← ht]; exact hB
  exact k H1 locs1 ls h1 hB2 (zw_D.congr had.symm h3) hS

theorem zw_callVw (E : zw_E p s m args c cc nL own Ts D tys A) {C : String} {y : MethodName} {bytes : ByteArray} {maxL n index : Nat} {ret : Option FieldType} {w : List Cond} {rm : Room} {As rest : List Value} {b ci : Nat} {cq : vw_C} {fs : List Value} (hM : zw_V l y w rm D tys (.ref b :: As) ws ws') (cw : CallW R s args own C index y bytes maxL ret w rm 0 0 n) (qr : Nat) (hcl : vwCl[ci]? = some cq) (hCn : cq.1 = C) (hq : ws[qr]? = some (b, .inr (ci, fs))) (had : ws'.map Prod.fst = ws.map Prod.fst) (hn : As.length = n) (hst : As.reverse ++ .ref b :: rest = st) (hW : (rest.map fun v => v.category).sum ≤ 8) (hcs : cells ≤ R.cells ∧ slots ≤ R.slots) (hdg : decode cc pc = .ok (.invokevirtual index, 3)) (hp : pc + 3 = pc') (k : zw_W p l e R s m args below meth c nL D A cells slots Q pc' lv rest ws') : zw_W p l e R s m args below meth c nL D A cells slots Q pc lv st ws := by
  subst hp
  subst hst
  intro H locs ls h1 h2 h3 h4
  have hFc := va_free (wc := ws) h3 h4 E.2.2.2.2.2.2.1 (List.range ws.length) (zw_range ws)
  refine va_callv (va_runV (As := As) (rest := rest) ⟨E.1, E.2.1, E.2.2.1, E.2.2.2.1, E.2.2.2.2.1⟩ (hM H.size) cw ⟨zw_blind, by rw [← hCn]; exact va_recv E.2.2.2.2.2.1 h2 hcl hq, fun U hU hW => ⟨rfl, by rw [hU], by rw [hU]; exact h2, va_K.moved hW.alike E.2.2.2.2.2.1, h3.weaken (fun _ _ _ _ => trivial), zw_N.warm hW E.2.2.2.2.2.2.2⟩⟩ rfl hn h1.1 rfl (lv_room hW) hdg hcs) h4 (fun q _ h => hFc q h) hFc (fun u t H1 locs1 ht hvm hv hB hz1 hk1 hS => ?_)
  skip
  have hB2 : va_P D vwCl ws' H1 := by rw [← ht]; exact hB
  exact k H1 locs1 ls h1 hB2 (zw_D.congr had.symm h3) hS

end ZW
end
section
/-! THE STATES: rows and numbers of the class's and of the reference's objects, and their worlds -/
def zT (K : Nat → ClassId) : List (ClassId × FieldType) := [(K 0, .int), (K 1, .boolean), (K 2, .long), (K 3, .array .int)]
def zb (P : Prop) [Decidable P] : Int32 := if P then 1 else 0
theorem zb_t {P : Prop} [Decidable P] (h : P) : zb P = 1 := if_pos h
theorem zb_f {P : Prop} [Decidable P] (h : ¬ P) : zb P = 0 := if_neg h
theorem zb_0 {P : Prop} [Decidable P] : zb P = 0 ↔ ¬ P := by
  by_cases h : P
  · rw [zb_t h]; exact ⟨fun q => absurd q (by decide), fun q => absurd h q⟩
  · rw [zb_f h]; exact ⟨fun _ => h, fun _ => rfl⟩
theorem zb_nar {P : Prop} [Decidable P] : narrow .boolean (.int (zb P)) = .int (zb P) := by
  by_cases h : P
  · rw [zb_t h]; rfl
  · rw [zb_f h]; rfl
theorem zb_vp {P : Prop} [Decidable P] : vp_nar .boolean (zb P) = zb P := by
  by_cases h : P
  · rw [zb_t h]; rfl
  · rw [zb_f h]; rfl
theorem zw_inc1 (k : Nat) : nI k + Int32.ofInt 1 = nI (k + 1) := by
  rw [show Int32.ofInt 1 = 1 by decide]
  exact nI_1 k
theorem zw_clamp {n N : Nat} (h : n < N) (hN : N < 2 ^ 31) : (nI n).toNatClampNeg = n := nI_clamp (Nat.lt_trans h hN)
def up2 (f : Nat → Nat → Int32) (r i : Nat) (x : Int32) : Nat → Nat → Int32 := fun r' => if r' = r then upd (f r) i x else f r'
def up2L (f : Nat → Nat → Int64) (r i : Nat) (x : Int64) : Nat → Nat → Int64 := fun r' => if r' = r then vp_updL (f r) i x else f r'
/-- the book: rows act 0, year 1, first 2, second 3, amount 4, kind 5, owner 6, made 7, order 8, maker 9, ender 10; numbers acts 0, size 1, fields 2 -/
abbrev Bk : Type := (Nat → Nat → Int32) × (Nat → Nat)
def bk_row (b : Bk) (r i : Nat) (x : Int32) : Bk := (up2 b.1 r i x, b.2)
def bk_sc (b : Bk) (k n : Nat) : Bk := (b.1, fun j => if j = k then n else b.2 j)
def bk_W (K : Nat → ClassId) (ad : Nat → Nat) (b : Bk) : va_W :=
  [(ad 0, .inr (0, [.ref (ad 1), .ref (ad 2), .ref (ad 3), .ref (ad 4), .ref (ad 5), .ref (ad 6), .ref (ad 7), .ref (ad 8), .ref (ad 9), .ref (ad 10), .ref (ad 11), .int (nI (b.2 0)), .int (nI (b.2 1)), .int (nI (b.2 2))])),
   (ad 1, .inl (K 0, 80, .inl (b.1 0))), (ad 2, .inl (K 0, 80, .inl (b.1 1))), (ad 3, .inl (K 0, 80, .inl (b.1 2))), (ad 4, .inl (K 0, 80, .inl (b.1 3))), (ad 5, .inl (K 0, 80, .inl (b.1 4))), (ad 6, .inl (K 0, 80, .inl (b.1 5))), (ad 7, .inl (K 0, 80, .inl (b.1 6))), (ad 8, .inl (K 0, 80, .inl (b.1 7))), (ad 9, .inl (K 0, 80, .inl (b.1 8))), (ad 10, .inl (K 0, 60, .inl (b.1 9))), (ad 11, .inl (K 0, 60, .inl (b.1 10)))]
theorem bk_fst (K : Nat → ClassId) (ad : Nat → Nat) (b : Bk) : (bk_W K ad b).map Prod.fst = (List.range 12).map ad := rfl
theorem bk_ad (K : Nat → ClassId) (ad : Nat → Nat) (b b2 : Bk) : (bk_W K ad b).map Prod.fst = (bk_W K ad b2).map Prod.fst := (bk_fst K ad b).trans (bk_fst K ad b2).symm
/-- the land: int rows there 0, area 1, kind 2, owner 3, bought 4, share 5, means 6, charges 7, 8, 9; long rows weight 0, remainder 1; settled -/
abbrev Ld : Type := (Nat → Nat → Int32) × (Nat → Nat → Int64) × Int32
def ld_row (d : Ld) (r i : Nat) (x : Int32) : Ld := (up2 d.1 r i x, d.2)
def ld_rowL (d : Ld) (r i : Nat) (x : Int64) : Ld := (d.1, up2L d.2.1 r i x, d.2.2)
def ld_set (d : Ld) (v : Int32) : Ld := (d.1, d.2.1, v)
def ld_W (K : Nat → ClassId) (ad : Nat → Nat) (bq : Nat) (d : Ld) : va_W :=
  [(ad 0, .inr (1, [.ref bq, .ref (ad 1), .ref (ad 2), .ref (ad 3), .ref (ad 4), .ref (ad 5), .ref (ad 6), .ref (ad 7), .ref (ad 8), .ref (ad 9), .ref (ad 10), .int d.2.2])),
   (ad 1, .inl (K 1, 60, .inl (d.1 0))), (ad 2, .inl (K 0, 60, .inl (d.1 1))), (ad 3, .inl (K 0, 60, .inl (d.1 2))), (ad 4, .inl (K 0, 60, .inl (d.1 3))),
   (ad 5, .inl (K 3, 3, .inr (.inr (.inr (.inr (fun i => if i < 3 then some (ad (11 + i)) else none)))))),
   (ad 6, .inl (K 1, 60, .inl (d.1 4))), (ad 7, .inl (K 2, 60, .inr (.inl (d.2.1 0)))), (ad 8, .inl (K 0, 60, .inl (d.1 5))), (ad 9, .inl (K 2, 60, .inr (.inl (d.2.1 1)))), (ad 10, .inl (K 0, 3, .inl (d.1 6))),
   (ad 11, .inl (K 0, 60, .inl (d.1 7))), (ad 12, .inl (K 0, 60, .inl (d.1 8))), (ad 13, .inl (K 0, 60, .inl (d.1 9)))]
theorem ld_fst (K : Nat → ClassId) (ad : Nat → Nat) (bq : Nat) (d : Ld) : (ld_W K ad bq d).map Prod.fst = (List.range 14).map ad := rfl
theorem ld_ad (K : Nat → ClassId) (ad : Nat → Nat) (bq : Nat) (d d2 : Ld) : (ld_W K ad bq d).map Prod.fst = (ld_W K ad bq d2).map Prod.fst := (ld_fst K ad bq d).trans (ld_fst K ad bq d2).symm
def lb_W (K : Nat → ClassId) (al ab : Nat → Nat) (d : Ld) (b : Bk) : va_W := ld_W K al (ab 0) d ++ bk_W K ab b
theorem lb_fst (K : Nat → ClassId) (al ab : Nat → Nat) (d : Ld) (b : Bk) : (lb_W K al ab d b).map Prod.fst = (List.range 14).map al ++ (List.range 12).map ab := rfl
theorem lb_ad (K : Nat → ClassId) (al ab : Nat → Nat) (d d2 : Ld) (b b2 : Bk) : (lb_W K al ab d b).map Prod.fst = (lb_W K al ab d2 b2).map Prod.fst := (lb_fst K al ab d b).trans (lb_fst K al ab d2 b2).symm
def tm_W (K : Nat → ClassId) (a0 : Nat) (ab al ao : Nat → Nat) (b : Bk) (d o : Ld) : va_W := (a0, .inr (2, [.ref (ab 0), .ref (al 0), .ref (ao 0)])) :: (bk_W K ab b ++ (ld_W K al (ab 0) d ++ ld_W K ao (ab 0) o))
def l2_W (K : Nat → ClassId) (al ao : Nat → Nat) (bq : Nat) (d o : Ld) : va_W := ld_W K al bq d ++ ld_W K ao bq o
/-- the reference: int rows sort 0, year 1, one 2, two 3, more 4, most 5, made 6, madeBy 7, endedBy 8, firstOf 9, secondOf 10, isThere 11, area 12, kind 13, owner 14, charge 15, isBought 16, was 17; long rows share 0, rest 1; numbers entries 0, fields 1; isSettled -/
abbrev Md : Type := (Nat → Nat → Int32) × (Nat → Nat → Int64) × (Nat → Nat) × Int32
def md_row (g : Md) (r i : Nat) (x : Int32) : Md := (up2 g.1 r i x, g.2)
def md_rowL (g : Md) (r i : Nat) (x : Int64) : Md := (g.1, up2L g.2.1 r i x, g.2.2)
def md_sc (g : Md) (k n : Nat) : Md := (g.1, g.2.1, (fun j => if j = k then n else g.2.2.1 j), g.2.2.2)
def md_set (g : Md) (v : Int32) : Md := (g.1, g.2.1, g.2.2.1, v)
def md_W (K : Nat → ClassId) (ad : Nat → Nat) (g : Md) : va_W :=
  [(ad 0, .inr (3, [.int (nI (g.2.2.1 0)), .int (nI (g.2.2.1 1)), .ref (ad 1), .ref (ad 2), .ref (ad 3), .ref (ad 4), .ref (ad 5), .ref (ad 6), .ref (ad 7), .ref (ad 8), .ref (ad 9), .ref (ad 10), .ref (ad 11), .ref (ad 12), .ref (ad 13), .ref (ad 14), .ref (ad 15), .ref (ad 16), .ref (ad 17), .int g.2.2.2, .ref (ad 18), .ref (ad 19), .ref (ad 20)])),
   (ad 1, .inl (K 0, 80, .inl (g.1 0))), (ad 2, .inl (K 0, 80, .inl (g.1 1))), (ad 3, .inl (K 0, 80, .inl (g.1 2))), (ad 4, .inl (K 0, 80, .inl (g.1 3))), (ad 5, .inl (K 0, 80, .inl (g.1 4))), (ad 6, .inl (K 0, 80, .inl (g.1 5))), (ad 7, .inl (K 0, 80, .inl (g.1 6))), (ad 8, .inl (K 0, 60, .inl (g.1 7))), (ad 9, .inl (K 0, 60, .inl (g.1 8))), (ad 10, .inl (K 0, 60, .inl (g.1 9))), (ad 11, .inl (K 0, 60, .inl (g.1 10))), (ad 12, .inl (K 1, 60, .inl (g.1 11))), (ad 13, .inl (K 0, 60, .inl (g.1 12))), (ad 14, .inl (K 0, 60, .inl (g.1 13))), (ad 15, .inl (K 0, 60, .inl (g.1 14))), (ad 16, .inl (K 0, 180, .inl (g.1 15))), (ad 17, .inl (K 1, 60, .inl (g.1 16))), (ad 18, .inl (K 2, 60, .inr (.inl (g.2.1 0)))), (ad 19, .inl (K 2, 60, .inr (.inl (g.2.1 1)))), (ad 20, .inl (K 0, 480, .inl (g.1 17)))]
theorem md_fst (K : Nat → ClassId) (ad : Nat → Nat) (g : Md) : (md_W K ad g).map Prod.fst = (List.range 21).map ad := rfl
theorem md_ad (K : Nat → ClassId) (ad : Nat → Nat) (g g2 : Md) : (md_W K ad g).map Prod.fst = (md_W K ad g2).map Prod.fst := (md_fst K ad g).trans (md_fst K ad g2).symm
theorem tm_ad (K : Nat → ClassId) (a0 : Nat) (ab al ao : Nat → Nat) (b b2 : Bk) (d d2 o o2 : Ld) : (tm_W K a0 ab al ao b d o).map Prod.fst = (tm_W K a0 ab al ao b2 d2 o2).map Prod.fst := (show _ = a0 :: ((List.range 12).map ab ++ ((List.range 14).map al ++ (List.range 14).map ao)) from rfl).trans (show a0 :: ((List.range 12).map ab ++ ((List.range 14).map al ++ (List.range 14).map ao)) = _ from rfl)
def rmX0_draft : Room := { frames := 1, cells := 0, slots := 0, locals := 22 }
def rmX0_end : Room := { frames := 0, cells := 0, slots := 0, locals := 0 }
def rmX0_fileDraft : Room := { frames := 1, cells := 0, slots := 0, locals := 21 }
def rmX0_isFull : Room := { frames := 0, cells := 0, slots := 0, locals := 0 }
def rmX0_keep : Room := { frames := 1, cells := 0, slots := 0, locals := 22 }
def rmX0_mean : Room := { frames := 1, cells := 0, slots := 0, locals := 21 }
def rmX0_put : Room := { frames := 0, cells := 0, slots := 0, locals := 0 }
def rmX0_withdrawDraft : Room := { frames := 0, cells := 0, slots := 0, locals := 0 }
def rmX1_areMeansKnown : Room := { frames := 2, cells := 0, slots := 0, locals := 49 }
def rmX1_chargeShare : Room := { frames := 1, cells := 0, slots := 0, locals := 21 }
def rmX1_clearCharge : Room := { frames := 0, cells := 0, slots := 0, locals := 0 }
def rmX1_greatestRemainder : Room := { frames := 0, cells := 0, slots := 0, locals := 0 }
def rmX1_howMany : Room := { frames := 0, cells := 0, slots := 0, locals := 0 }
def rmX1_isNumber : Room := { frames := 0, cells := 0, slots := 0, locals := 0 }
def rmX1_isOtherwise : Room := { frames := 2, cells := 0, slots := 0, locals := 43 }
def rmX1_isThere : Room := { frames := 0, cells := 0, slots := 0, locals := 0 }
def rmX1_shareOut : Room := { frames := 1, cells := 0, slots := 0, locals := 22 }
def rmX1_show : Room := { frames := 5, cells := 0, slots := 0, locals := 123 }
def rmX1_sumOf : Room := { frames := 2, cells := 0, slots := 0, locals := 43 }
def rmX1_tell : Room := { frames := 1, cells := 0, slots := 0, locals := 21 }
def rmX1_tryAct : Room := { frames := 4, cells := 0, slots := 0, locals := 98 }
def rmX1_tryBuy : Room := { frames := 1, cells := 0, slots := 0, locals := 22 }
def rmX1_tryJoin : Room := { frames := 2, cells := 0, slots := 0, locals := 46 }
def rmX1_tryMake : Room := { frames := 1, cells := 0, slots := 0, locals := 22 }
def rmX1_tryPart : Room := { frames := 2, cells := 0, slots := 0, locals := 46 }
def rmX1_trySell : Room := { frames := 1, cells := 0, slots := 0, locals := 21 }
def rmX1_trySettle : Room := { frames := 3, cells := 0, slots := 0, locals := 72 }
def rmX1_weighAll : Room := { frames := 0, cells := 0, slots := 0, locals := 0 }
def rmX1_worth : Room := { frames := 3, cells := 0, slots := 0, locals := 72 }
def rmX1_worthByMeans : Room := { frames := 1, cells := 0, slots := 0, locals := 20 }
def rmX1_worthOfAll : Room := { frames := 3, cells := 0, slots := 0, locals := 72 }
def rmX2_at : Room := { frames := 0, cells := 0, slots := 0, locals := 0 }
def rmX2_average : Room := { frames := 2, cells := 0, slots := 0, locals := 49 }
def rmX2_buy : Room := { frames := 7, cells := 0, slots := 0, locals := 169 }
def rmX2_cost : Room := { frames := 6, cells := 0, slots := 0, locals := 148 }
def rmX2_count : Room := { frames := 0, cells := 0, slots := 0, locals := 0 }
def rmX2_differ : Room := { frames := 6, cells := 0, slots := 0, locals := 148 }
def rmX2_entry : Room := { frames := 2, cells := 0, slots := 0, locals := 42 }
def rmX2_field : Room := { frames := 2, cells := 0, slots := 0, locals := 43 }
def rmX2_firstMadeBy : Room := { frames := 1, cells := 0, slots := 0, locals := 21 }
def rmX2_isActPossible : Room := { frames := 1, cells := 0, slots := 0, locals := 22 }
def rmX2_isField : Room := { frames := 1, cells := 0, slots := 0, locals := 22 }
def rmX2_isKnowing : Room := { frames := 1, cells := 0, slots := 0, locals := 22 }
def rmX2_isOwner : Room := { frames := 1, cells := 0, slots := 0, locals := 22 }
def rmX2_isWithin : Room := { frames := 0, cells := 0, slots := 0, locals := 0 }
def rmX2_join : Room := { frames := 7, cells := 0, slots := 0, locals := 169 }
def rmX2_look : Room := { frames := 6, cells := 0, slots := 0, locals := 148 }
def rmX2_make : Room := { frames := 7, cells := 0, slots := 0, locals := 169 }
def rmX2_money : Room := { frames := 6, cells := 0, slots := 0, locals := 148 }
def rmX2_owed : Room := { frames := 6, cells := 0, slots := 0, locals := 148 }
def rmX2_parish : Room := { frames := 6, cells := 0, slots := 0, locals := 148 }
def rmX2_part : Room := { frames := 7, cells := 0, slots := 0, locals := 169 }
def rmX2_price : Room := { frames := 2, cells := 0, slots := 0, locals := 45 }
def rmX2_sell : Room := { frames := 7, cells := 0, slots := 0, locals := 169 }
def rmX2_settle : Room := { frames := 7, cells := 0, slots := 0, locals := 169 }
def rmX2_takeDraft : Room := { frames := 6, cells := 0, slots := 0, locals := 148 }
def rmX3_average : Room := { frames := 2, cells := 0, slots := 0, locals := 52 }
def rmX3_averageOf : Room := { frames := 1, cells := 0, slots := 0, locals := 25 }
def rmX3_buy : Room := { frames := 7, cells := 0, slots := 0, locals := 173 }
def rmX3_comes : Room := { frames := 0, cells := 0, slots := 0, locals := 0 }
def rmX3_cost : Room := { frames := 5, cells := 0, slots := 0, locals := 131 }
def rmX3_count : Room := { frames := 0, cells := 0, slots := 0, locals := 0 }
def rmX3_differ : Room := { frames := 5, cells := 0, slots := 0, locals := 131 }
def rmX3_does : Room := { frames := 3, cells := 0, slots := 0, locals := 82 }
def rmX3_entry : Room := { frames := 1, cells := 0, slots := 0, locals := 22 }
def rmX3_field : Room := { frames := 2, cells := 0, slots := 0, locals := 43 }
def rmX3_fits : Room := { frames := 3, cells := 0, slots := 0, locals := 64 }
def rmX3_is : Room := { frames := 2, cells := 0, slots := 0, locals := 43 }
def rmX3_isField : Room := { frames := 1, cells := 0, slots := 0, locals := 22 }
def rmX3_isKnowing : Room := { frames := 1, cells := 0, slots := 0, locals := 22 }
def rmX3_isMade : Room := { frames := 0, cells := 0, slots := 0, locals := 0 }
def rmX3_join : Room := { frames := 6, cells := 0, slots := 0, locals := 153 }
def rmX3_joins : Room := { frames := 1, cells := 0, slots := 0, locals := 26 }
def rmX3_lies : Room := { frames := 0, cells := 0, slots := 0, locals := 0 }
def rmX3_look : Room := { frames := 5, cells := 0, slots := 0, locals := 131 }
def rmX3_make : Room := { frames := 6, cells := 0, slots := 0, locals := 153 }
def rmX3_money : Room := { frames := 5, cells := 0, slots := 0, locals := 131 }
def rmX3_moneyOf : Room := { frames := 2, cells := 0, slots := 0, locals := 52 }
def rmX3_nearest : Room := { frames := 0, cells := 0, slots := 0, locals := 0 }
def rmX3_owed : Room := { frames := 5, cells := 0, slots := 0, locals := 131 }
def rmX3_parish : Room := { frames := 5, cells := 0, slots := 0, locals := 131 }
def rmX3_part : Room := { frames := 6, cells := 0, slots := 0, locals := 153 }
def rmX3_parts : Room := { frames := 1, cells := 0, slots := 0, locals := 26 }
def rmX3_price : Room := { frames := 1, cells := 0, slots := 0, locals := 26 }
def rmX3_priceOf : Room := { frames := 0, cells := 0, slots := 0, locals := 0 }
def rmX3_sell : Room := { frames := 7, cells := 0, slots := 0, locals := 173 }
def rmX3_settle : Room := { frames := 7, cells := 0, slots := 0, locals := 173 }
def rmX3_settles : Room := { frames := 2, cells := 0, slots := 0, locals := 52 }
def rmX3_taken : Room := { frames := 6, cells := 0, slots := 0, locals := 153 }
def rmX3_takes : Room := { frames := 5, cells := 0, slots := 0, locals := 131 }
def rmX3_tells : Room := { frames := 3, cells := 0, slots := 0, locals := 64 }
def rmX3_works : Room := { frames := 4, cells := 0, slots := 0, locals := 106 }
def rmX3_writes : Room := { frames := 0, cells := 0, slots := 0, locals := 0 }
section ZW2
variable {p : Program} {l : Launch} {e : Env} {R : Room} {s : State} {m : MethodId} {args : Array Value} {below : List Frame} {meth : Method} {c : Code} {cells slots : Nat} {Q : State → Prop} {cc : ByteArray} {nL : Nat} {own : String} {Ts : List Cond} {D : va_G} {tys : List (ClassId × FieldType)} {A : Nat → Prop} {pc pc' : Nat} {lv lv' : List (Nat × Value)} {st : List Value} {ws ws' : va_W}
theorem zw_topi {x x' : Int32} (h : x = x') (k : zw_W p l e R s m args below meth c nL D A cells slots Q pc lv (.int x' :: st) ws) : zw_W p l e R s m args below meth c nL D A cells slots Q pc lv (.int x :: st) ws := by rw [h]; exact k
theorem zw_topl {x x' : Int64} (h : x = x') (k : zw_W p l e R s m args below meth c nL D A cells slots Q pc lv (.long x' :: st) ws) : zw_W p l e R s m args below meth c nL D A cells slots Q pc lv (.long x :: st) ws := by rw [h]; exact k
theorem zw_ws (h : ws = ws') (k : zw_W p l e R s m args below meth c nL D A cells slots Q pc lv st ws') : zw_W p l e R s m args below meth c nL D A cells slots Q pc lv st ws := by rw [h]; exact k
theorem zw_gen_bk_b {K : Nat → ClassId} {ab : Nat → Nat} (x : Bk) (k : ∀ y, x = y → zw_W p l e R s m args below meth c nL D A cells slots Q pc lv st (bk_W K ab y)) : zw_W p l e R s m args below meth c nL D A cells slots Q pc lv st (bk_W K ab x) := k x rfl
theorem zw_gen_ld_d {K : Nat → ClassId} {al : Nat → Nat} {bq : Nat} (x : Ld) (k : ∀ y, x = y → zw_W p l e R s m args below meth c nL D A cells slots Q pc lv st (ld_W K al bq y)) : zw_W p l e R s m args below meth c nL D A cells slots Q pc lv st (ld_W K al bq x) := k x rfl
theorem zw_gen_lb_d {K : Nat → ClassId} {al ab : Nat → Nat} {b : Bk} (x : Ld) (k : ∀ y, x = y → zw_W p l e R s m args below meth c nL D A cells slots Q pc lv st (lb_W K al ab y b)) : zw_W p l e R s m args below meth c nL D A cells slots Q pc lv st (lb_W K al ab x b) := k x rfl
theorem zw_gen_tm_b {K : Nat → ClassId} {a0 : Nat} {ab al ao : Nat → Nat} {d o : Ld} (x : Bk) (k : ∀ y, x = y → zw_W p l e R s m args below meth c nL D A cells slots Q pc lv st (tm_W K a0 ab al ao y d o)) : zw_W p l e R s m args below meth c nL D A cells slots Q pc lv st (tm_W K a0 ab al ao x d o) := k x rfl
theorem zw_gen_tm_d {K : Nat → ClassId} {a0 : Nat} {ab al ao : Nat → Nat} {b : Bk} {o : Ld} (x : Ld) (k : ∀ y, x = y → zw_W p l e R s m args below meth c nL D A cells slots Q pc lv st (tm_W K a0 ab al ao b y o)) : zw_W p l e R s m args below meth c nL D A cells slots Q pc lv st (tm_W K a0 ab al ao b x o) := k x rfl
theorem zw_gen_tm_o {K : Nat → ClassId} {a0 : Nat} {ab al ao : Nat → Nat} {b : Bk} {d : Ld} (x : Ld) (k : ∀ y, x = y → zw_W p l e R s m args below meth c nL D A cells slots Q pc lv st (tm_W K a0 ab al ao b d y)) : zw_W p l e R s m args below meth c nL D A cells slots Q pc lv st (tm_W K a0 ab al ao b d x) := k x rfl
theorem zw_gen_md_g {K : Nat → ClassId} {am : Nat → Nat} (x : Md) (k : ∀ y, x = y → zw_W p l e R s m args below meth c nL D A cells slots Q pc lv st (md_W K am y)) : zw_W p l e R s m args below meth c nL D A cells slots Q pc lv st (md_W K am x) := k x rfl
theorem zw_ifb_eq (E : zw_E p s m args c cc nL own Ts D tys A) {P : Prop} [Decidable P] {off : Int} {tgt : Nat} (hdg : decode cc pc = .ok (.ifCond .eq off, 3)) (ht : (pc : Int) + off = (tgt : Int)) (hp : pc + 3 = pc') (kt : ¬ P → zw_W p l e R s m args below meth c nL D A cells slots Q tgt lv st ws) (kf : P → zw_W p l e R s m args below meth c nL D A cells slots Q pc' lv st ws) : zw_W p l e R s m args below meth c nL D A cells slots Q pc lv (.int (zb P) :: st) ws :=
  zw_if_eq E hdg ht hp (fun q => kt (zb_0.mp q)) (fun q => kf (Decidable.not_not.mp (fun h => q (zb_0.mpr h))))
theorem zw_ifb_ne (E : zw_E p s m args c cc nL own Ts D tys A) {P : Prop} [Decidable P] {off : Int} {tgt : Nat} (hdg : decode cc pc = .ok (.ifCond .ne off, 3)) (ht : (pc : Int) + off = (tgt : Int)) (hp : pc + 3 = pc') (kt : P → zw_W p l e R s m args below meth c nL D A cells slots Q tgt lv st ws) (kf : ¬ P → zw_W p l e R s m args below meth c nL D A cells slots Q pc' lv st ws) : zw_W p l e R s m args below meth c nL D A cells slots Q pc lv (.int (zb P) :: st) ws :=
  zw_if_ne E hdg ht hp (fun q => kt (Decidable.not_not.mp (fun h => q (zb_0.mpr h)))) (fun q => kf (zb_0.mp q))
theorem zw_cmp_le {x y : Int64} : lg_cmp x y ≤ 0 ↔ x ≤ y := by
  by_cases h1 : y < x
  · have : lg_cmp x y = 1 := by simp [lg_cmp, h1]
    rw [this]
    exact ⟨fun q => absurd q (by decide), fun q => absurd h1 (Int64.not_lt.mpr q)⟩
  · have h2 : x ≤ y := Int64.not_lt.mp h1
    refine ⟨fun _ => h2, fun _ => ?_⟩
    by_cases h3 : x = y
    · subst h3; simp [lg_cmp]
    · simp [lg_cmp, h1, h3]
theorem zw_cmp_eq {x y : Int64} : lg_cmp x y = 0 ↔ x = y := by
  by_cases h1 : y < x
  · have : lg_cmp x y = 1 := by simp [lg_cmp, h1]
    rw [this]
    exact ⟨fun q => absurd q (by decide), fun q => absurd (q ▸ h1) (Int64.lt_irrefl)⟩
  · by_cases h3 : x = y
    · subst h3; simp [lg_cmp]
    · simp [lg_cmp, h1, h3]
theorem zw_ifl_le (E : zw_E p s m args c cc nL own Ts D tys A) {x y : Int64} {off : Int} {tgt : Nat} (hdg : decode cc pc = .ok (.ifCond .le off, 3)) (ht : (pc : Int) + off = (tgt : Int)) (hp : pc + 3 = pc') (kt : x ≤ y → zw_W p l e R s m args below meth c nL D A cells slots Q tgt lv st ws) (kf : ¬ x ≤ y → zw_W p l e R s m args below meth c nL D A cells slots Q pc' lv st ws) : zw_W p l e R s m args below meth c nL D A cells slots Q pc lv (.int (lg_cmp x y) :: st) ws :=
  zw_if_le E hdg ht hp (fun q => kt (zw_cmp_le.mp q)) (fun q => kf (fun h => q (zw_cmp_le.mpr h)))
theorem zw_ifl_gt (E : zw_E p s m args c cc nL own Ts D tys A) {x y : Int64} {off : Int} {tgt : Nat} (hdg : decode cc pc = .ok (.ifCond .gt off, 3)) (ht : (pc : Int) + off = (tgt : Int)) (hp : pc + 3 = pc') (kt : ¬ x ≤ y → zw_W p l e R s m args below meth c nL D A cells slots Q tgt lv st ws) (kf : x ≤ y → zw_W p l e R s m args below meth c nL D A cells slots Q pc' lv st ws) : zw_W p l e R s m args below meth c nL D A cells slots Q pc lv (.int (lg_cmp x y) :: st) ws :=
  zw_if_gt E hdg ht hp (fun q => kt (fun h => absurd q (Int32.not_lt.mpr (zw_cmp_le.mpr h)))) (fun q => kf (zw_cmp_le.mp (Int32.not_lt.mp q)))
theorem zw_ifl_eq (E : zw_E p s m args c cc nL own Ts D tys A) {x y : Int64} {off : Int} {tgt : Nat} (hdg : decode cc pc = .ok (.ifCond .eq off, 3)) (ht : (pc : Int) + off = (tgt : Int)) (hp : pc + 3 = pc') (kt : x = y → zw_W p l e R s m args below meth c nL D A cells slots Q tgt lv st ws) (kf : ¬ x = y → zw_W p l e R s m args below meth c nL D A cells slots Q pc' lv st ws) : zw_W p l e R s m args below meth c nL D A cells slots Q pc lv (.int (lg_cmp x y) :: st) ws :=
  zw_if_eq E hdg ht hp (fun q => kt (zw_cmp_eq.mp q)) (fun q => kf (fun h => q (zw_cmp_eq.mpr h)))
theorem zw_ifl_ne (E : zw_E p s m args c cc nL own Ts D tys A) {x y : Int64} {off : Int} {tgt : Nat} (hdg : decode cc pc = .ok (.ifCond .ne off, 3)) (ht : (pc : Int) + off = (tgt : Int)) (hp : pc + 3 = pc') (kt : ¬ x = y → zw_W p l e R s m args below meth c nL D A cells slots Q tgt lv st ws) (kf : x = y → zw_W p l e R s m args below meth c nL D A cells slots Q pc' lv st ws) : zw_W p l e R s m args below meth c nL D A cells slots Q pc lv (.int (lg_cmp x y) :: st) ws :=
  zw_if_ne E hdg ht hp (fun q => kt (fun h => q (zw_cmp_eq.mpr h))) (fun q => kf (zw_cmp_eq.mp q))
end ZW2
end
section
/-! the parts of a world that a call takes: by their places, once and for all -/
theorem zw_put_same : ∀ (is : List Nat) (ws W0 : va_W), is.map (fun i => ws[i]?) = W0.map some → zw_put ws is W0 = ws
  | [], ws, [], _ => rfl
  | [], ws, _ :: _, h => by cases h
  | _ :: _, ws, [], h => by cases h
  | i :: is, ws, x :: xs, h => by
    have h1 : ws[i]? = some x := (List.cons.inj h).1
    have e : ws.set i x = ws := by
      apply List.ext_getElem?
      intro j
      by_cases hj : i = j
      · subst hj
        rw [List.getElem?_set_self (List.getElem?_eq_some_iff.mp h1).1, h1]
      · rw [List.getElem?_set_ne hj]
    show zw_put (ws.set i x) is xs = ws
    rw [e]
    exact zw_put_same is ws xs (List.cons.inj h).2
theorem zw_put_seg : ∀ (Y Y2 X Z : va_W), Y.length = Y2.length → zw_put (X ++ (Y ++ Z)) (List.range' X.length Y.length) Y2 = X ++ (Y2 ++ Z)
  | [], [], X, Z, _ => rfl
  | [], _ :: _, X, Z, h => by cases h
  | _ :: _, [], X, Z, h => by cases h
  | y :: Y, y2 :: Y2, X, Z, h => by
    have e1 : List.range' X.length (y :: Y).length = X.length :: List.range' (X.length + 1) Y.length := rfl
    have e2 : (X ++ (y :: Y ++ Z)).set X.length y2 = (X ++ [y2]) ++ (Y ++ Z) := by
      rw [List.set_append_right _ _ (Nat.le_refl _), Nat.sub_self]
      simp
    rw [e1]
    show zw_put ((X ++ (y :: Y ++ Z)).set X.length y2) _ Y2 = _
    rw [e2]
    have h3 := zw_put_seg Y Y2 (X ++ [y2]) Z (Nat.succ.inj h)
    have e3 : (X ++ [y2]).length = X.length + 1 := by simp
    rw [e3] at h3
    rw [h3]
    simp
theorem zw_put_app : ∀ (i1 : List Nat) (w1 ws : va_W) (i2 : List Nat) (w2 : va_W), i1.length = w1.length → zw_put ws (i1 ++ i2) (w1 ++ w2) = zw_put (zw_put ws i1 w1) i2 w2
  | [], [], ws, i2, w2, _ => rfl
  | [], _ :: _, _, _, _, h => by cases h
  | _ :: _, [], _, _, _, h => by cases h
  | i :: i1, x :: w1, ws, i2, w2, h => zw_put_app i1 w1 (ws.set i x) i2 w2 (Nat.succ.inj h)
set_option maxRecDepth 20000 in
theorem emC_lb_d {K : Nat → ClassId} {al : Nat → Nat} {ab : Nat → Nat} {d : Ld} {b : Bk} : ([0, 1, 2, 3, 4, 5, 6, 7, 8, 9, 10, 11, 12, 13] : List Nat).map (fun i => (lb_W K al ab d b)[i]?) = (ld_W K al (ab 0) d).map some := rfl
set_option maxRecDepth 20000 in
theorem emP_lb_d {K : Nat → ClassId} {al : Nat → Nat} {ab : Nat → Nat} {d : Ld} {d2 : Ld} {b : Bk} : zw_put (lb_W K al ab d b) [0, 1, 2, 3, 4, 5, 6, 7, 8, 9, 10, 11, 12, 13] (ld_W K al (ab 0) d2) = lb_W K al ab d2 b := zw_put_seg (ld_W K al (ab 0) d) (ld_W K al (ab 0) d2) [] (bk_W K ab b) rfl
set_option maxRecDepth 20000 in
theorem emC_lb_b {K : Nat → ClassId} {al : Nat → Nat} {ab : Nat → Nat} {d : Ld} {b : Bk} : ([14, 15, 16, 17, 18, 19, 20, 21, 22, 23, 24, 25] : List Nat).map (fun i => (lb_W K al ab d b)[i]?) = (bk_W K ab b).map some := rfl
set_option maxRecDepth 20000 in
theorem emP_lb_b {K : Nat → ClassId} {al : Nat → Nat} {ab : Nat → Nat} {d : Ld} {b : Bk} {b2 : Bk} : zw_put (lb_W K al ab d b) [14, 15, 16, 17, 18, 19, 20, 21, 22, 23, 24, 25] (bk_W K ab b2) = lb_W K al ab d b2 := by
  have h := zw_put_seg (bk_W K ab b) (bk_W K ab b2) (ld_W K al (ab 0) d) [] rfl
  rw [List.append_nil, List.append_nil] at h
  exact h
set_option maxRecDepth 20000 in
theorem emC_l2_d {K : Nat → ClassId} {bq : Nat} {al : Nat → Nat} {ao : Nat → Nat} {d : Ld} {o : Ld} : ([0, 1, 2, 3, 4, 5, 6, 7, 8, 9, 10, 11, 12, 13] : List Nat).map (fun i => (l2_W K al ao bq d o)[i]?) = (ld_W K al bq d).map some := rfl
set_option maxRecDepth 20000 in
theorem emP_l2_d {K : Nat → ClassId} {bq : Nat} {al : Nat → Nat} {ao : Nat → Nat} {d : Ld} {d2 : Ld} {o : Ld} : zw_put (l2_W K al ao bq d o) [0, 1, 2, 3, 4, 5, 6, 7, 8, 9, 10, 11, 12, 13] (ld_W K al bq d2) = l2_W K al ao bq d2 o := zw_put_seg (ld_W K al bq d) (ld_W K al bq d2) [] (ld_W K ao bq o) rfl
set_option maxRecDepth 20000 in
theorem emC_l2_o {K : Nat → ClassId} {bq : Nat} {al : Nat → Nat} {ao : Nat → Nat} {d : Ld} {o : Ld} : ([14, 15, 16, 17, 18, 19, 20, 21, 22, 23, 24, 25, 26, 27] : List Nat).map (fun i => (l2_W K al ao bq d o)[i]?) = (ld_W K ao bq o).map some := rfl
set_option maxRecDepth 20000 in
theorem emP_l2_o {K : Nat → ClassId} {bq : Nat} {al : Nat → Nat} {ao : Nat → Nat} {d : Ld} {o : Ld} {o2 : Ld} : zw_put (l2_W K al ao bq d o) [14, 15, 16, 17, 18, 19, 20, 21, 22, 23, 24, 25, 26, 27] (ld_W K ao bq o2) = l2_W K al ao bq d o2 := by
  have h := zw_put_seg (ld_W K ao bq o) (ld_W K ao bq o2) (ld_W K al bq d) [] rfl
  rw [List.append_nil, List.append_nil] at h
  exact h
set_option maxRecDepth 20000 in
theorem emC_tm_b {K : Nat → ClassId} {a0 : Nat} {al : Nat → Nat} {ab : Nat → Nat} {ao : Nat → Nat} {d : Ld} {o : Ld} {b : Bk} : ([1, 2, 3, 4, 5, 6, 7, 8, 9, 10, 11, 12] : List Nat).map (fun i => (tm_W K a0 ab al ao b d o)[i]?) = (bk_W K ab b).map some := rfl
set_option maxRecDepth 20000 in
theorem emP_tm_b {K : Nat → ClassId} {a0 : Nat} {al : Nat → Nat} {ab : Nat → Nat} {ao : Nat → Nat} {d : Ld} {o : Ld} {b : Bk} {b2 : Bk} : zw_put (tm_W K a0 ab al ao b d o) [1, 2, 3, 4, 5, 6, 7, 8, 9, 10, 11, 12] (bk_W K ab b2) = tm_W K a0 ab al ao b2 d o := zw_put_seg (bk_W K ab b) (bk_W K ab b2) [(a0, .inr (2, [.ref (ab 0), .ref (al 0), .ref (ao 0)]))] (ld_W K al (ab 0) d ++ ld_W K ao (ab 0) o) rfl
set_option maxRecDepth 20000 in
theorem emC_tm_d {K : Nat → ClassId} {a0 : Nat} {al : Nat → Nat} {ab : Nat → Nat} {ao : Nat → Nat} {d : Ld} {o : Ld} {b : Bk} : ([13, 14, 15, 16, 17, 18, 19, 20, 21, 22, 23, 24, 25, 26] : List Nat).map (fun i => (tm_W K a0 ab al ao b d o)[i]?) = (ld_W K al (ab 0) d).map some := rfl
set_option maxRecDepth 20000 in
theorem emP_tm_d {K : Nat → ClassId} {a0 : Nat} {al : Nat → Nat} {ab : Nat → Nat} {ao : Nat → Nat} {d : Ld} {d2 : Ld} {o : Ld} {b : Bk} : zw_put (tm_W K a0 ab al ao b d o) [13, 14, 15, 16, 17, 18, 19, 20, 21, 22, 23, 24, 25, 26] (ld_W K al (ab 0) d2) = tm_W K a0 ab al ao b d2 o := zw_put_seg (ld_W K al (ab 0) d) (ld_W K al (ab 0) d2) ((a0, .inr (2, [.ref (ab 0), .ref (al 0), .ref (ao 0)])) :: bk_W K ab b) (ld_W K ao (ab 0) o) rfl
set_option maxRecDepth 20000 in
theorem emC_tm_o {K : Nat → ClassId} {a0 : Nat} {al : Nat → Nat} {ab : Nat → Nat} {ao : Nat → Nat} {d : Ld} {o : Ld} {b : Bk} : ([27, 28, 29, 30, 31, 32, 33, 34, 35, 36, 37, 38, 39, 40] : List Nat).map (fun i => (tm_W K a0 ab al ao b d o)[i]?) = (ld_W K ao (ab 0) o).map some := rfl
set_option maxRecDepth 20000 in
theorem emP_tm_o {K : Nat → ClassId} {a0 : Nat} {al : Nat → Nat} {ab : Nat → Nat} {ao : Nat → Nat} {d : Ld} {o : Ld} {o2 : Ld} {b : Bk} : zw_put (tm_W K a0 ab al ao b d o) [27, 28, 29, 30, 31, 32, 33, 34, 35, 36, 37, 38, 39, 40] (ld_W K ao (ab 0) o2) = tm_W K a0 ab al ao b d o2 := by
  have h := zw_put_seg (ld_W K ao (ab 0) o) (ld_W K ao (ab 0) o2) ((a0, .inr (2, [.ref (ab 0), .ref (al 0), .ref (ao 0)])) :: (bk_W K ab b ++ ld_W K al (ab 0) d)) [] rfl
  rw [List.append_nil, List.append_nil, List.cons_append, List.cons_append, List.append_assoc, List.append_assoc] at h
  exact h
set_option maxRecDepth 20000 in
theorem emC_tm_lbd {K : Nat → ClassId} {a0 : Nat} {al : Nat → Nat} {ab : Nat → Nat} {ao : Nat → Nat} {d : Ld} {o : Ld} {b : Bk} : ([13, 14, 15, 16, 17, 18, 19, 20, 21, 22, 23, 24, 25, 26, 1, 2, 3, 4, 5, 6, 7, 8, 9, 10, 11, 12] : List Nat).map (fun i => (tm_W K a0 ab al ao b d o)[i]?) = (lb_W K al ab d b).map some := rfl
set_option maxRecDepth 20000 in
theorem emP_tm_lbd {K : Nat → ClassId} {a0 : Nat} {al : Nat → Nat} {ab : Nat → Nat} {ao : Nat → Nat} {d : Ld} {d2 : Ld} {o : Ld} {b : Bk} : zw_put (tm_W K a0 ab al ao b d o) [13, 14, 15, 16, 17, 18, 19, 20, 21, 22, 23, 24, 25, 26, 1, 2, 3, 4, 5, 6, 7, 8, 9, 10, 11, 12] (lb_W K al ab d2 b) = tm_W K a0 ab al ao b d2 o := (zw_put_app [13, 14, 15, 16, 17, 18, 19, 20, 21, 22, 23, 24, 25, 26] (ld_W K al (ab 0) d2) (tm_W K a0 ab al ao b d o) [1, 2, 3, 4, 5, 6, 7, 8, 9, 10, 11, 12] (bk_W K ab b) rfl).trans (by rw [emP_tm_d]; exact emP_tm_b)
set_option maxRecDepth 20000 in
theorem emC_tm_lbo {K : Nat → ClassId} {a0 : Nat} {al : Nat → Nat} {ab : Nat → Nat} {ao : Nat → Nat} {d : Ld} {o : Ld} {b : Bk} : ([27, 28, 29, 30, 31, 32, 33, 34, 35, 36, 37, 38, 39, 40, 1, 2, 3, 4, 5, 6, 7, 8, 9, 10, 11, 12] : List Nat).map (fun i => (tm_W K a0 ab al ao b d o)[i]?) = (lb_W K ao ab o b).map some := rfl
set_option maxRecDepth 20000 in
theorem emP_tm_lbo {K : Nat → ClassId} {a0 : Nat} {al : Nat → Nat} {ab : Nat → Nat} {ao : Nat → Nat} {d : Ld} {o : Ld} {o2 : Ld} {b : Bk} : zw_put (tm_W K a0 ab al ao b d o) [27, 28, 29, 30, 31, 32, 33, 34, 35, 36, 37, 38, 39, 40, 1, 2, 3, 4, 5, 6, 7, 8, 9, 10, 11, 12] (lb_W K ao ab o2 b) = tm_W K a0 ab al ao b d o2 := (zw_put_app [27, 28, 29, 30, 31, 32, 33, 34, 35, 36, 37, 38, 39, 40] (ld_W K ao (ab 0) o2) (tm_W K a0 ab al ao b d o) [1, 2, 3, 4, 5, 6, 7, 8, 9, 10, 11, 12] (bk_W K ab b) rfl).trans (by rw [emP_tm_o]; exact emP_tm_b)
set_option maxRecDepth 20000 in
theorem emC_tm_l2 {K : Nat → ClassId} {a0 : Nat} {al : Nat → Nat} {ab : Nat → Nat} {ao : Nat → Nat} {d : Ld} {o : Ld} {b : Bk} : ([13, 14, 15, 16, 17, 18, 19, 20, 21, 22, 23, 24, 25, 26, 27, 28, 29, 30, 31, 32, 33, 34, 35, 36, 37, 38, 39, 40] : List Nat).map (fun i => (tm_W K a0 ab al ao b d o)[i]?) = (l2_W K al ao (ab 0) d o).map some := rfl
set_option maxRecDepth 20000 in
theorem emP_tm_l2 {K : Nat → ClassId} {a0 : Nat} {al : Nat → Nat} {ab : Nat → Nat} {ao : Nat → Nat} {d : Ld} {d2 : Ld} {o : Ld} {o2 : Ld} {b : Bk} : zw_put (tm_W K a0 ab al ao b d o) [13, 14, 15, 16, 17, 18, 19, 20, 21, 22, 23, 24, 25, 26, 27, 28, 29, 30, 31, 32, 33, 34, 35, 36, 37, 38, 39, 40] (l2_W K al ao (ab 0) d2 o2) = tm_W K a0 ab al ao b d2 o2 := (zw_put_app [13, 14, 15, 16, 17, 18, 19, 20, 21, 22, 23, 24, 25, 26] (ld_W K al (ab 0) d2) (tm_W K a0 ab al ao b d o) [27, 28, 29, 30, 31, 32, 33, 34, 35, 36, 37, 38, 39, 40] (ld_W K ao (ab 0) o2) rfl).trans (by rw [emP_tm_d]; exact emP_tm_o)
end
section
/-! small methods: at, isWithin, isOwner; the book's isFull, put, end -/
/-- what stands at a place of a row of n -/
def z_at (n : Nat) (f : Nat → Int32) (i : Int32) : Int32 := if i < 0 then -1 else if nI n ≤ i then -1 else f i.toNatClampNeg
theorem zw_in2 {i : Int32} {n : Nat} (hn : n < 2 ^ 31) (h1 : ¬ i < 0) (h2 : i < nI n) : vp_in i n := by
  rw [vp_in_iff]
  have a := Int32.not_lt.mp h1
  rw [Int32.le_iff_toInt_le] at a
  rw [Int32.lt_iff_toInt_lt, nI_toInt hn] at h2
  exact ⟨a, h2⟩

set_option maxHeartbeats 4000000 in
set_option maxRecDepth 100000 in
/-- at(row, place) -/
theorem qX2_at (l : Launch) (D : va_G) (K : Nat → ClassId) (a n : Nat) (f : Nat → Int32) (i : Int32) (hn : n < 2 ^ 31) : zw_I l yX2_at wsX2_at rmX2_at D (zT K) [.ref a, .int i] [(a, .inl (K 0, n, .inl f))] (z_at n f i) [(a, .inl (K 0, n, .inl f))] := by
  refine zw_ofI (cc := cX2_at) (nL := 2) (ret := (some .int)) (own := RX2) (lv := [(0, .ref a), (1, .int i)]) (by decide) rfl (Nat.le_of_ble_eq_true rfl) rfl rfl ?_
  intro p e s m below meth c A E hr hlk
  refine zw_iload_n (i := 1) (x := i) E 1 dX2_at_0 rfl rfl (pc' := 1) rfl ?_
  refine zw_if_lt (tgt := 10) E dX2_at_1 (by decide) (pc' := 4) rfl (fun c_1 => ?_) (fun c_1 => ?_)
  · skip
    refine zw_iconst (v := (-1)) E dX2_at_10 (by decide) (pc' := 11) rfl ?_
    refine zw_goto (tgt := 17) E dX2_at_11 (by decide) ?_
    exact zw_iret E hr hlk dX2_at_17 (by unfold z_at; rw [if_pos c_1]) rfl
  · skip
    refine zw_iload_n (i := 1) (x := i) E 1 dX2_at_4 rfl rfl (pc' := 5) rfl ?_
    refine zw_aload_n (i := 0) (x := a) E 0 dX2_at_5 rfl rfl (pc' := 6) rfl ?_
    refine zw_alen (v := nI n) E 0 0 rfl rfl rfl dX2_at_6 (pc' := 7) rfl ?_
    refine zw_icmp_lt (tgt := 14) E dX2_at_7 (by decide) (pc' := 10) rfl (fun c_2 => ?_) (fun c_2 => ?_)
    · skip
      refine zw_aload_n (i := 0) (x := a) E 0 dX2_at_14 rfl rfl (pc' := 15) rfl ?_
      refine zw_iload_n (i := 1) (x := i) E 1 dX2_at_15 rfl rfl (pc' := 16) rfl ?_
      refine zw_iald (j := i.toNatClampNeg) (x := f i.toNatClampNeg) E 0 0 rfl rfl (zw_in2 hn c_1 c_2) rfl rfl dX2_at_16 (pc' := 17) rfl ?_
      exact zw_iret E hr hlk dX2_at_17 (by unfold z_at; rw [if_neg c_1, if_neg (Int32.not_le.mpr c_2)]) rfl
    · skip
      refine zw_iconst (v := (-1)) E dX2_at_10 (by decide) (pc' := 11) rfl ?_
      refine zw_goto (tgt := 17) E dX2_at_11 (by decide) ?_
      exact zw_iret E hr hlk dX2_at_17 (by unfold z_at; rw [if_neg c_1, if_pos (Int32.not_lt.mp c_2)]) rfl

set_option maxHeartbeats 4000000 in
set_option maxRecDepth 100000 in
/-- isWithin(value, least, most) -/
theorem qX2_isWithin (l : Launch) (D : va_G) (K : Nat → ClassId) (v lo hi : Int32) : zw_I l yX2_isWithin wsX2_isWithin rmX2_isWithin D (zT K) [.int v, .int lo, .int hi] [] (zb (lo ≤ v ∧ v ≤ hi)) [] := by
  refine zw_ofI (cc := cX2_isWithin) (nL := 3) (ret := (some .boolean)) (own := RX2) (lv := [(0, .int v), (1, .int lo), (2, .int hi)]) (by decide) rfl (Nat.le_of_ble_eq_true rfl) rfl rfl ?_
  intro p e s m below meth c A E hr hlk
  refine zw_iload_n (i := 0) (x := v) E 0 dX2_isWithin_0 rfl rfl (pc' := 1) rfl ?_
  refine zw_iload_n (i := 1) (x := lo) E 1 dX2_isWithin_1 rfl rfl (pc' := 2) rfl ?_
  refine zw_icmp_lt (tgt := 14) E dX2_isWithin_2 (by decide) (pc' := 5) rfl (fun c_1 => ?_) (fun c_1 => ?_)
  · skip
    refine zw_iconst (v := 0) E dX2_isWithin_14 (by decide) (pc' := 15) rfl ?_
    exact zw_zret E hr hlk dX2_isWithin_15 rfl (zb_f (fun h => absurd c_1 (Int32.not_lt.mpr h.1))).symm rfl
  · skip
    refine zw_iload_n (i := 0) (x := v) E 0 dX2_isWithin_5 rfl rfl (pc' := 6) rfl ?_
    refine zw_iload_n (i := 2) (x := hi) E 2 dX2_isWithin_6 rfl rfl (pc' := 7) rfl ?_
    refine zw_icmp_gt (tgt := 14) E dX2_isWithin_7 (by decide) (pc' := 10) rfl (fun c_2 => ?_) (fun c_2 => ?_)
    · skip
      refine zw_iconst (v := 0) E dX2_isWithin_14 (by decide) (pc' := 15) rfl ?_
      exact zw_zret E hr hlk dX2_isWithin_15 rfl (zb_f (fun h => absurd c_2 (Int32.not_lt.mpr h.2))).symm rfl
    · skip
      refine zw_iconst (v := 1) E dX2_isWithin_10 (by decide) (pc' := 11) rfl ?_
      refine zw_goto (tgt := 15) E dX2_isWithin_11 (by decide) ?_
      exact zw_zret E hr hlk dX2_isWithin_15 rfl (zb_t ⟨Int32.not_lt.mp c_1, Int32.not_lt.mp c_2⟩).symm rfl

set_option maxHeartbeats 4000000 in
set_option maxRecDepth 100000 in
/-- isOwner(owner) -/
theorem qX2_isOwner (l : Launch) (D : va_G) (K : Nat → ClassId) (v : Int32) : zw_I l yX2_isOwner wsX2_isOwner rmX2_isOwner D (zT K) [.int v] [] (zb (0 ≤ v ∧ v ≤ 9)) [] := by
  refine zw_ofI (cc := cX2_isOwner) (nL := 1) (ret := (some .boolean)) (own := RX2) (lv := [(0, .int v)]) (by decide) rfl (Nat.le_of_ble_eq_true rfl) rfl rfl ?_
  intro p e s m below meth c A E hr hlk
  refine zw_iload_n (i := 0) (x := v) E 0 dX2_isOwner_0 rfl rfl (pc' := 1) rfl ?_
  refine zw_iconst (v := 0) E dX2_isOwner_1 (by decide) (pc' := 2) rfl ?_
  refine zw_bipush (v := 9) E dX2_isOwner_2 (by decide) (pc' := 4) rfl ?_
  refine zw_callIs E (r := zb (0 ≤ v ∧ v ≤ 9)) (As := [.int v, .int 0, .int 9]) (rest := []) (ws' := []) (qX2_isWithin l D K v 0 9) (va_cwS 3 E.2.2.2.2.1 gX2_isOwner_X2_isWithin rfl rfl rfl (by decide +kernel) ⟨Nat.le_of_ble_eq_true rfl, Nat.le_of_ble_eq_true rfl⟩) [] (by decide) rfl rfl (zw_put_same _ _ _ rfl) rfl rfl (Nat.le_of_ble_eq_true rfl) ⟨Nat.zero_le _, Nat.zero_le _⟩ dX2_isOwner_4 (pc' := 7) rfl ?_
  exact zw_zret E hr hlk dX2_isOwner_7 zb_nar rfl rfl

theorem fX0_isFull_45 : Cond.fieldLink RX0 45 "TitheMap$Book" "size" "I" ∈ wsX0_isFull := by decide +kernel
theorem iX0_isFull_X0 : ∀ w ∈ wsX00, w ∈ wsX0_isFull := by decide +kernel
set_option maxHeartbeats 4000000 in
set_option maxRecDepth 100000 in
/-- isFull() -/
theorem qX0_isFull (l : Launch) (D : va_G) (K : Nat → ClassId) (ab : Nat → Nat) (b : Bk) : zw_I l yX0_isFull wsX0_isFull rmX0_isFull D (zT K) [.ref (ab 0)] (bk_W K ab b) (zb (80 ≤ nI (b.2 1))) (bk_W K ab b) := by
  refine zw_ofI (cc := cX0_isFull) (nL := 1) (ret := (some .boolean)) (own := RX0) (lv := [(0, .ref (ab 0))]) (by decide) rfl (Nat.le_of_ble_eq_true rfl) rfl rfl ?_
  intro p e s m below meth c A E hr hlk
  refine zw_aload_n (i := 0) (x := ab 0) E 0 dX0_isFull_0 rfl rfl (pc' := 1) rfl ?_
  refine zw_get (v := .int (nI (b.2 1))) E 0 12 iX0_isFull_X0 fX0_isFull_45 rfl rfl (by decide) rfl rfl dX0_isFull_1 (pc' := 4) rfl ?_
  refine zw_bipush (v := 80) E dX0_isFull_4 (by decide) (pc' := 6) rfl ?_
  refine zw_icmp_lt (tgt := 13) E dX0_isFull_6 (by decide) (pc' := 9) rfl (fun c_1 => ?_) (fun c_1 => ?_)
  · skip
    refine zw_iconst (v := 0) E dX0_isFull_13 (by decide) (pc' := 14) rfl ?_
    exact zw_zret E hr hlk dX0_isFull_14 rfl (zb_f (fun h => absurd c_1 (Int32.not_lt.mpr h))).symm rfl
  · skip
    refine zw_iconst (v := 1) E dX0_isFull_9 (by decide) (pc' := 10) rfl ?_
    refine zw_goto (tgt := 14) E dX0_isFull_10 (by decide) ?_
    exact zw_zret E hr hlk dX0_isFull_14 rfl (zb_t (Int32.not_lt.mp c_1)).symm rfl
end
section
/-! the book: put, end, draft, fileDraft, withdrawDraft, keep -/
theorem zw_n80 {n : Nat} (h : n < 80) : ¬ (80 : Int32) ≤ nI n := nI_ge h (by decide)
theorem zw_n60 {n : Nat} (h : n < 60) : ¬ (60 : Int32) ≤ nI n := nI_ge h (by decide)
theorem fX0_put_45 : Cond.fieldLink RX0 45 "TitheMap$Book" "size" "I" ∈ wsX0_put := by decide +kernel
theorem iX0_put_X0 : ∀ w ∈ wsX00, w ∈ wsX0_put := by decide +kernel
set_option maxHeartbeats 4000000 in
set_option maxRecDepth 100000 in
/-- put(row 0, x) -/
theorem qX0_put_0 (l : Launch) (D : va_G) (K : Nat → ClassId) (ab : Nat → Nat) (b : Bk) (x : Int32) (hn : b.2 1 < 80) : zw_V l yX0_put wsX0_put rmX0_put D (zT K) [.ref (ab 0), .ref (ab 1), .int x] (bk_W K ab b) (bk_W K ab (bk_row b 0 (b.2 1) x)) := by
  refine zw_ofV (cc := cX0_put) (nL := 3) (ret := none) (own := RX0) (lv := [(0, .ref (ab 0)), (1, .ref (ab 1)), (2, .int x)]) (by decide) rfl (Nat.le_of_ble_eq_true rfl) rfl rfl ?_
  intro p e s m below meth c A E hr hlk
  refine zw_aload_n (i := 0) (x := ab 0) E 0 dX0_put_0 rfl rfl (pc' := 1) rfl ?_
  refine zw_get (v := .int (nI (b.2 1))) E 0 12 iX0_put_X0 fX0_put_45 rfl rfl (by decide) rfl rfl dX0_put_1 (pc' := 4) rfl ?_
  refine zw_if_lt (tgt := 23) E dX0_put_4 (by decide) (pc' := 7) rfl (fun c_1 => ?_) (fun c_1 => ?_)
  · exact absurd c_1 (nI_pos (Nat.lt_trans hn (by decide)))
  · skip
    refine zw_aload_n (i := 0) (x := ab 0) E 0 dX0_put_7 rfl rfl (pc' := 8) rfl ?_
    refine zw_get (v := .int (nI (b.2 1))) E 0 12 iX0_put_X0 fX0_put_45 rfl rfl (by decide) rfl rfl dX0_put_8 (pc' := 11) rfl ?_
    refine zw_aload_n (i := 1) (x := ab 1) E 1 dX0_put_11 rfl rfl (pc' := 12) rfl ?_
    refine zw_alen (v := 80) E 1 0 rfl rfl rfl dX0_put_12 (pc' := 13) rfl ?_
    refine zw_icmp_ge (tgt := 23) E dX0_put_13 (by decide) (pc' := 16) rfl (fun c_2 => ?_) (fun c_2 => ?_)
    · exact absurd c_2 (zw_n80 hn)
    · skip
      refine zw_aload_n (i := 1) (x := ab 1) E 1 dX0_put_16 rfl rfl (pc' := 17) rfl ?_
      refine zw_aload_n (i := 0) (x := ab 0) E 0 dX0_put_17 rfl rfl (pc' := 18) rfl ?_
      refine zw_get (v := .int (nI (b.2 1))) E 0 12 iX0_put_X0 fX0_put_45 rfl rfl (by decide) rfl rfl dX0_put_18 (pc' := 21) rfl ?_
      refine zw_iload_n (i := 2) (x := x) E 2 dX0_put_21 rfl rfl (pc' := 22) rfl ?_
      refine zw_iast (j := b.2 1) (ws' := (bk_W K ab (bk_row b 0 (b.2 1) x))) E 1 0 rfl rfl (vp_in_nI hn (by decide)) (zw_clamp hn (by decide)) rfl dX0_put_22 (pc' := 23) rfl ?_
      exact zw_vret E hr hlk dX0_put_23 rfl

set_option maxHeartbeats 4000000 in
set_option maxRecDepth 100000 in
/-- put(row 1, x) -/
theorem qX0_put_1 (l : Launch) (D : va_G) (K : Nat → ClassId) (ab : Nat → Nat) (b : Bk) (x : Int32) (hn : b.2 1 < 80) : zw_V l yX0_put wsX0_put rmX0_put D (zT K) [.ref (ab 0), .ref (ab 2), .int x] (bk_W K ab b) (bk_W K ab (bk_row b 1 (b.2 1) x)) := by
  refine zw_ofV (cc := cX0_put) (nL := 3) (ret := none) (own := RX0) (lv := [(0, .ref (ab 0)), (1, .ref (ab 2)), (2, .int x)]) (by decide) rfl (Nat.le_of_ble_eq_true rfl) rfl rfl ?_
  intro p e s m below meth c A E hr hlk
  refine zw_aload_n (i := 0) (x := ab 0) E 0 dX0_put_0 rfl rfl (pc' := 1) rfl ?_
  refine zw_get (v := .int (nI (b.2 1))) E 0 12 iX0_put_X0 fX0_put_45 rfl rfl (by decide) rfl rfl dX0_put_1 (pc' := 4) rfl ?_
  refine zw_if_lt (tgt := 23) E dX0_put_4 (by decide) (pc' := 7) rfl (fun c_1 => ?_) (fun c_1 => ?_)
  · exact absurd c_1 (nI_pos (Nat.lt_trans hn (by decide)))
  · skip
    refine zw_aload_n (i := 0) (x := ab 0) E 0 dX0_put_7 rfl rfl (pc' := 8) rfl ?_
    refine zw_get (v := .int (nI (b.2 1))) E 0 12 iX0_put_X0 fX0_put_45 rfl rfl (by decide) rfl rfl dX0_put_8 (pc' := 11) rfl ?_
    refine zw_aload_n (i := 1) (x := ab 2) E 1 dX0_put_11 rfl rfl (pc' := 12) rfl ?_
    refine zw_alen (v := 80) E 2 0 rfl rfl rfl dX0_put_12 (pc' := 13) rfl ?_
    refine zw_icmp_ge (tgt := 23) E dX0_put_13 (by decide) (pc' := 16) rfl (fun c_2 => ?_) (fun c_2 => ?_)
    · exact absurd c_2 (zw_n80 hn)
    · skip
      refine zw_aload_n (i := 1) (x := ab 2) E 1 dX0_put_16 rfl rfl (pc' := 17) rfl ?_
      refine zw_aload_n (i := 0) (x := ab 0) E 0 dX0_put_17 rfl rfl (pc' := 18) rfl ?_
      refine zw_get (v := .int (nI (b.2 1))) E 0 12 iX0_put_X0 fX0_put_45 rfl rfl (by decide) rfl rfl dX0_put_18 (pc' := 21) rfl ?_
      refine zw_iload_n (i := 2) (x := x) E 2 dX0_put_21 rfl rfl (pc' := 22) rfl ?_
      refine zw_iast (j := b.2 1) (ws' := (bk_W K ab (bk_row b 1 (b.2 1) x))) E 2 0 rfl rfl (vp_in_nI hn (by decide)) (zw_clamp hn (by decide)) rfl dX0_put_22 (pc' := 23) rfl ?_
      exact zw_vret E hr hlk dX0_put_23 rfl

set_option maxHeartbeats 4000000 in
set_option maxRecDepth 100000 in
/-- put(row 2, x) -/
theorem qX0_put_2 (l : Launch) (D : va_G) (K : Nat → ClassId) (ab : Nat → Nat) (b : Bk) (x : Int32) (hn : b.2 1 < 80) : zw_V l yX0_put wsX0_put rmX0_put D (zT K) [.ref (ab 0), .ref (ab 3), .int x] (bk_W K ab b) (bk_W K ab (bk_row b 2 (b.2 1) x)) := by
  refine zw_ofV (cc := cX0_put) (nL := 3) (ret := none) (own := RX0) (lv := [(0, .ref (ab 0)), (1, .ref (ab 3)), (2, .int x)]) (by decide) rfl (Nat.le_of_ble_eq_true rfl) rfl rfl ?_
  intro p e s m below meth c A E hr hlk
  refine zw_aload_n (i := 0) (x := ab 0) E 0 dX0_put_0 rfl rfl (pc' := 1) rfl ?_
  refine zw_get (v := .int (nI (b.2 1))) E 0 12 iX0_put_X0 fX0_put_45 rfl rfl (by decide) rfl rfl dX0_put_1 (pc' := 4) rfl ?_
  refine zw_if_lt (tgt := 23) E dX0_put_4 (by decide) (pc' := 7) rfl (fun c_1 => ?_) (fun c_1 => ?_)
  · exact absurd c_1 (nI_pos (Nat.lt_trans hn (by decide)))
  · skip
    refine zw_aload_n (i := 0) (x := ab 0) E 0 dX0_put_7 rfl rfl (pc' := 8) rfl ?_
    refine zw_get (v := .int (nI (b.2 1))) E 0 12 iX0_put_X0 fX0_put_45 rfl rfl (by decide) rfl rfl dX0_put_8 (pc' := 11) rfl ?_
    refine zw_aload_n (i := 1) (x := ab 3) E 1 dX0_put_11 rfl rfl (pc' := 12) rfl ?_
    refine zw_alen (v := 80) E 3 0 rfl rfl rfl dX0_put_12 (pc' := 13) rfl ?_
    refine zw_icmp_ge (tgt := 23) E dX0_put_13 (by decide) (pc' := 16) rfl (fun c_2 => ?_) (fun c_2 => ?_)
    · exact absurd c_2 (zw_n80 hn)
    · skip
      refine zw_aload_n (i := 1) (x := ab 3) E 1 dX0_put_16 rfl rfl (pc' := 17) rfl ?_
      refine zw_aload_n (i := 0) (x := ab 0) E 0 dX0_put_17 rfl rfl (pc' := 18) rfl ?_
      refine zw_get (v := .int (nI (b.2 1))) E 0 12 iX0_put_X0 fX0_put_45 rfl rfl (by decide) rfl rfl dX0_put_18 (pc' := 21) rfl ?_
      refine zw_iload_n (i := 2) (x := x) E 2 dX0_put_21 rfl rfl (pc' := 22) rfl ?_
      refine zw_iast (j := b.2 1) (ws' := (bk_W K ab (bk_row b 2 (b.2 1) x))) E 3 0 rfl rfl (vp_in_nI hn (by decide)) (zw_clamp hn (by decide)) rfl dX0_put_22 (pc' := 23) rfl ?_
      exact zw_vret E hr hlk dX0_put_23 rfl

set_option maxHeartbeats 4000000 in
set_option maxRecDepth 100000 in
/-- put(row 3, x) -/
theorem qX0_put_3 (l : Launch) (D : va_G) (K : Nat → ClassId) (ab : Nat → Nat) (b : Bk) (x : Int32) (hn : b.2 1 < 80) : zw_V l yX0_put wsX0_put rmX0_put D (zT K) [.ref (ab 0), .ref (ab 4), .int x] (bk_W K ab b) (bk_W K ab (bk_row b 3 (b.2 1) x)) := by
  refine zw_ofV (cc := cX0_put) (nL := 3) (ret := none) (own := RX0) (lv := [(0, .ref (ab 0)), (1, .ref (ab 4)), (2, .int x)]) (by decide) rfl (Nat.le_of_ble_eq_true rfl) rfl rfl ?_
  intro p e s m below meth c A E hr hlk
  refine zw_aload_n (i := 0) (x := ab 0) E 0 dX0_put_0 rfl rfl (pc' := 1) rfl ?_
  refine zw_get (v := .int (nI (b.2 1))) E 0 12 iX0_put_X0 fX0_put_45 rfl rfl (by decide) rfl rfl dX0_put_1 (pc' := 4) rfl ?_
  refine zw_if_lt (tgt := 23) E dX0_put_4 (by decide) (pc' := 7) rfl (fun c_1 => ?_) (fun c_1 => ?_)
  · exact absurd c_1 (nI_pos (Nat.lt_trans hn (by decide)))
  · skip
    refine zw_aload_n (i := 0) (x := ab 0) E 0 dX0_put_7 rfl rfl (pc' := 8) rfl ?_
    refine zw_get (v := .int (nI (b.2 1))) E 0 12 iX0_put_X0 fX0_put_45 rfl rfl (by decide) rfl rfl dX0_put_8 (pc' := 11) rfl ?_
    refine zw_aload_n (i := 1) (x := ab 4) E 1 dX0_put_11 rfl rfl (pc' := 12) rfl ?_
    refine zw_alen (v := 80) E 4 0 rfl rfl rfl dX0_put_12 (pc' := 13) rfl ?_
    refine zw_icmp_ge (tgt := 23) E dX0_put_13 (by decide) (pc' := 16) rfl (fun c_2 => ?_) (fun c_2 => ?_)
    · exact absurd c_2 (zw_n80 hn)
    · skip
      refine zw_aload_n (i := 1) (x := ab 4) E 1 dX0_put_16 rfl rfl (pc' := 17) rfl ?_
      refine zw_aload_n (i := 0) (x := ab 0) E 0 dX0_put_17 rfl rfl (pc' := 18) rfl ?_
      refine zw_get (v := .int (nI (b.2 1))) E 0 12 iX0_put_X0 fX0_put_45 rfl rfl (by decide) rfl rfl dX0_put_18 (pc' := 21) rfl ?_
      refine zw_iload_n (i := 2) (x := x) E 2 dX0_put_21 rfl rfl (pc' := 22) rfl ?_
      refine zw_iast (j := b.2 1) (ws' := (bk_W K ab (bk_row b 3 (b.2 1) x))) E 4 0 rfl rfl (vp_in_nI hn (by decide)) (zw_clamp hn (by decide)) rfl dX0_put_22 (pc' := 23) rfl ?_
      exact zw_vret E hr hlk dX0_put_23 rfl

set_option maxHeartbeats 4000000 in
set_option maxRecDepth 100000 in
/-- put(row 4, x) -/
theorem qX0_put_4 (l : Launch) (D : va_G) (K : Nat → ClassId) (ab : Nat → Nat) (b : Bk) (x : Int32) (hn : b.2 1 < 80) : zw_V l yX0_put wsX0_put rmX0_put D (zT K) [.ref (ab 0), .ref (ab 5), .int x] (bk_W K ab b) (bk_W K ab (bk_row b 4 (b.2 1) x)) := by
  refine zw_ofV (cc := cX0_put) (nL := 3) (ret := none) (own := RX0) (lv := [(0, .ref (ab 0)), (1, .ref (ab 5)), (2, .int x)]) (by decide) rfl (Nat.le_of_ble_eq_true rfl) rfl rfl ?_
  intro p e s m below meth c A E hr hlk
  refine zw_aload_n (i := 0) (x := ab 0) E 0 dX0_put_0 rfl rfl (pc' := 1) rfl ?_
  refine zw_get (v := .int (nI (b.2 1))) E 0 12 iX0_put_X0 fX0_put_45 rfl rfl (by decide) rfl rfl dX0_put_1 (pc' := 4) rfl ?_
  refine zw_if_lt (tgt := 23) E dX0_put_4 (by decide) (pc' := 7) rfl (fun c_1 => ?_) (fun c_1 => ?_)
  · exact absurd c_1 (nI_pos (Nat.lt_trans hn (by decide)))
  · skip
    refine zw_aload_n (i := 0) (x := ab 0) E 0 dX0_put_7 rfl rfl (pc' := 8) rfl ?_
    refine zw_get (v := .int (nI (b.2 1))) E 0 12 iX0_put_X0 fX0_put_45 rfl rfl (by decide) rfl rfl dX0_put_8 (pc' := 11) rfl ?_
    refine zw_aload_n (i := 1) (x := ab 5) E 1 dX0_put_11 rfl rfl (pc' := 12) rfl ?_
    refine zw_alen (v := 80) E 5 0 rfl rfl rfl dX0_put_12 (pc' := 13) rfl ?_
    refine zw_icmp_ge (tgt := 23) E dX0_put_13 (by decide) (pc' := 16) rfl (fun c_2 => ?_) (fun c_2 => ?_)
    · exact absurd c_2 (zw_n80 hn)
    · skip
      refine zw_aload_n (i := 1) (x := ab 5) E 1 dX0_put_16 rfl rfl (pc' := 17) rfl ?_
      refine zw_aload_n (i := 0) (x := ab 0) E 0 dX0_put_17 rfl rfl (pc' := 18) rfl ?_
      refine zw_get (v := .int (nI (b.2 1))) E 0 12 iX0_put_X0 fX0_put_45 rfl rfl (by decide) rfl rfl dX0_put_18 (pc' := 21) rfl ?_
      refine zw_iload_n (i := 2) (x := x) E 2 dX0_put_21 rfl rfl (pc' := 22) rfl ?_
      refine zw_iast (j := b.2 1) (ws' := (bk_W K ab (bk_row b 4 (b.2 1) x))) E 5 0 rfl rfl (vp_in_nI hn (by decide)) (zw_clamp hn (by decide)) rfl dX0_put_22 (pc' := 23) rfl ?_
      exact zw_vret E hr hlk dX0_put_23 rfl

set_option maxHeartbeats 4000000 in
set_option maxRecDepth 100000 in
/-- put(row 5, x) -/
theorem qX0_put_5 (l : Launch) (D : va_G) (K : Nat → ClassId) (ab : Nat → Nat) (b : Bk) (x : Int32) (hn : b.2 1 < 80) : zw_V l yX0_put wsX0_put rmX0_put D (zT K) [.ref (ab 0), .ref (ab 6), .int x] (bk_W K ab b) (bk_W K ab (bk_row b 5 (b.2 1) x)) := by
  refine zw_ofV (cc := cX0_put) (nL := 3) (ret := none) (own := RX0) (lv := [(0, .ref (ab 0)), (1, .ref (ab 6)), (2, .int x)]) (by decide) rfl (Nat.le_of_ble_eq_true rfl) rfl rfl ?_
  intro p e s m below meth c A E hr hlk
  refine zw_aload_n (i := 0) (x := ab 0) E 0 dX0_put_0 rfl rfl (pc' := 1) rfl ?_
  refine zw_get (v := .int (nI (b.2 1))) E 0 12 iX0_put_X0 fX0_put_45 rfl rfl (by decide) rfl rfl dX0_put_1 (pc' := 4) rfl ?_
  refine zw_if_lt (tgt := 23) E dX0_put_4 (by decide) (pc' := 7) rfl (fun c_1 => ?_) (fun c_1 => ?_)
  · exact absurd c_1 (nI_pos (Nat.lt_trans hn (by decide)))
  · skip
    refine zw_aload_n (i := 0) (x := ab 0) E 0 dX0_put_7 rfl rfl (pc' := 8) rfl ?_
    refine zw_get (v := .int (nI (b.2 1))) E 0 12 iX0_put_X0 fX0_put_45 rfl rfl (by decide) rfl rfl dX0_put_8 (pc' := 11) rfl ?_
    refine zw_aload_n (i := 1) (x := ab 6) E 1 dX0_put_11 rfl rfl (pc' := 12) rfl ?_
    refine zw_alen (v := 80) E 6 0 rfl rfl rfl dX0_put_12 (pc' := 13) rfl ?_
    refine zw_icmp_ge (tgt := 23) E dX0_put_13 (by decide) (pc' := 16) rfl (fun c_2 => ?_) (fun c_2 => ?_)
    · exact absurd c_2 (zw_n80 hn)
    · skip
      refine zw_aload_n (i := 1) (x := ab 6) E 1 dX0_put_16 rfl rfl (pc' := 17) rfl ?_
      refine zw_aload_n (i := 0) (x := ab 0) E 0 dX0_put_17 rfl rfl (pc' := 18) rfl ?_
      refine zw_get (v := .int (nI (b.2 1))) E 0 12 iX0_put_X0 fX0_put_45 rfl rfl (by decide) rfl rfl dX0_put_18 (pc' := 21) rfl ?_
      refine zw_iload_n (i := 2) (x := x) E 2 dX0_put_21 rfl rfl (pc' := 22) rfl ?_
      refine zw_iast (j := b.2 1) (ws' := (bk_W K ab (bk_row b 5 (b.2 1) x))) E 6 0 rfl rfl (vp_in_nI hn (by decide)) (zw_clamp hn (by decide)) rfl dX0_put_22 (pc' := 23) rfl ?_
      exact zw_vret E hr hlk dX0_put_23 rfl

set_option maxHeartbeats 4000000 in
set_option maxRecDepth 100000 in
/-- put(row 6, x) -/
theorem qX0_put_6 (l : Launch) (D : va_G) (K : Nat → ClassId) (ab : Nat → Nat) (b : Bk) (x : Int32) (hn : b.2 1 < 80) : zw_V l yX0_put wsX0_put rmX0_put D (zT K) [.ref (ab 0), .ref (ab 7), .int x] (bk_W K ab b) (bk_W K ab (bk_row b 6 (b.2 1) x)) := by
  refine zw_ofV (cc := cX0_put) (nL := 3) (ret := none) (own := RX0) (lv := [(0, .ref (ab 0)), (1, .ref (ab 7)), (2, .int x)]) (by decide) rfl (Nat.le_of_ble_eq_true rfl) rfl rfl ?_
  intro p e s m below meth c A E hr hlk
  refine zw_aload_n (i := 0) (x := ab 0) E 0 dX0_put_0 rfl rfl (pc' := 1) rfl ?_
  refine zw_get (v := .int (nI (b.2 1))) E 0 12 iX0_put_X0 fX0_put_45 rfl rfl (by decide) rfl rfl dX0_put_1 (pc' := 4) rfl ?_
  refine zw_if_lt (tgt := 23) E dX0_put_4 (by decide) (pc' := 7) rfl (fun c_1 => ?_) (fun c_1 => ?_)
  · exact absurd c_1 (nI_pos (Nat.lt_trans hn (by decide)))
  · skip
    refine zw_aload_n (i := 0) (x := ab 0) E 0 dX0_put_7 rfl rfl (pc' := 8) rfl ?_
    refine zw_get (v := .int (nI (b.2 1))) E 0 12 iX0_put_X0 fX0_put_45 rfl rfl (by decide) rfl rfl dX0_put_8 (pc' := 11) rfl ?_
    refine zw_aload_n (i := 1) (x := ab 7) E 1 dX0_put_11 rfl rfl (pc' := 12) rfl ?_
    refine zw_alen (v := 80) E 7 0 rfl rfl rfl dX0_put_12 (pc' := 13) rfl ?_
    refine zw_icmp_ge (tgt := 23) E dX0_put_13 (by decide) (pc' := 16) rfl (fun c_2 => ?_) (fun c_2 => ?_)
    · exact absurd c_2 (zw_n80 hn)
    · skip
      refine zw_aload_n (i := 1) (x := ab 7) E 1 dX0_put_16 rfl rfl (pc' := 17) rfl ?_
      refine zw_aload_n (i := 0) (x := ab 0) E 0 dX0_put_17 rfl rfl (pc' := 18) rfl ?_
      refine zw_get (v := .int (nI (b.2 1))) E 0 12 iX0_put_X0 fX0_put_45 rfl rfl (by decide) rfl rfl dX0_put_18 (pc' := 21) rfl ?_
      refine zw_iload_n (i := 2) (x := x) E 2 dX0_put_21 rfl rfl (pc' := 22) rfl ?_
      refine zw_iast (j := b.2 1) (ws' := (bk_W K ab (bk_row b 6 (b.2 1) x))) E 7 0 rfl rfl (vp_in_nI hn (by decide)) (zw_clamp hn (by decide)) rfl dX0_put_22 (pc' := 23) rfl ?_
      exact zw_vret E hr hlk dX0_put_23 rfl

set_option maxHeartbeats 4000000 in
set_option maxRecDepth 100000 in
/-- put(row 7, x) -/
theorem qX0_put_7 (l : Launch) (D : va_G) (K : Nat → ClassId) (ab : Nat → Nat) (b : Bk) (x : Int32) (hn : b.2 1 < 80) : zw_V l yX0_put wsX0_put rmX0_put D (zT K) [.ref (ab 0), .ref (ab 8), .int x] (bk_W K ab b) (bk_W K ab (bk_row b 7 (b.2 1) x)) := by
  refine zw_ofV (cc := cX0_put) (nL := 3) (ret := none) (own := RX0) (lv := [(0, .ref (ab 0)), (1, .ref (ab 8)), (2, .int x)]) (by decide) rfl (Nat.le_of_ble_eq_true rfl) rfl rfl ?_
  intro p e s m below meth c A E hr hlk
  refine zw_aload_n (i := 0) (x := ab 0) E 0 dX0_put_0 rfl rfl (pc' := 1) rfl ?_
  refine zw_get (v := .int (nI (b.2 1))) E 0 12 iX0_put_X0 fX0_put_45 rfl rfl (by decide) rfl rfl dX0_put_1 (pc' := 4) rfl ?_
  refine zw_if_lt (tgt := 23) E dX0_put_4 (by decide) (pc' := 7) rfl (fun c_1 => ?_) (fun c_1 => ?_)
  · exact absurd c_1 (nI_pos (Nat.lt_trans hn (by decide)))
  · skip
    refine zw_aload_n (i := 0) (x := ab 0) E 0 dX0_put_7 rfl rfl (pc' := 8) rfl ?_
    refine zw_get (v := .int (nI (b.2 1))) E 0 12 iX0_put_X0 fX0_put_45 rfl rfl (by decide) rfl rfl dX0_put_8 (pc' := 11) rfl ?_
    refine zw_aload_n (i := 1) (x := ab 8) E 1 dX0_put_11 rfl rfl (pc' := 12) rfl ?_
    refine zw_alen (v := 80) E 8 0 rfl rfl rfl dX0_put_12 (pc' := 13) rfl ?_
    refine zw_icmp_ge (tgt := 23) E dX0_put_13 (by decide) (pc' := 16) rfl (fun c_2 => ?_) (fun c_2 => ?_)
    · exact absurd c_2 (zw_n80 hn)
    · skip
      refine zw_aload_n (i := 1) (x := ab 8) E 1 dX0_put_16 rfl rfl (pc' := 17) rfl ?_
      refine zw_aload_n (i := 0) (x := ab 0) E 0 dX0_put_17 rfl rfl (pc' := 18) rfl ?_
      refine zw_get (v := .int (nI (b.2 1))) E 0 12 iX0_put_X0 fX0_put_45 rfl rfl (by decide) rfl rfl dX0_put_18 (pc' := 21) rfl ?_
      refine zw_iload_n (i := 2) (x := x) E 2 dX0_put_21 rfl rfl (pc' := 22) rfl ?_
      refine zw_iast (j := b.2 1) (ws' := (bk_W K ab (bk_row b 7 (b.2 1) x))) E 8 0 rfl rfl (vp_in_nI hn (by decide)) (zw_clamp hn (by decide)) rfl dX0_put_22 (pc' := 23) rfl ?_
      exact zw_vret E hr hlk dX0_put_23 rfl

def bk_end (b : Bk) (f x : Int32) : Bk := ((if f < 0 then b.1 else if 60 ≤ f then b.1 else up2 b.1 10 f.toNatClampNeg x), b.2)
theorem zw_in60 {i : Int32} (h1 : ¬ i < 0) (h2 : ¬ 60 ≤ i) : vp_in i 60 := zw_in2 (n := 60) (by decide) h1 (Int32.not_le.mp h2)
theorem bk_end_2 (b : Bk) (f x : Int32) : (bk_end b f x).2 = b.2 := rfl
theorem fX0_end_42 : Cond.fieldLink RX0 42 "TitheMap$Book" "ender" "[I" ∈ wsX0_end := by decide +kernel
theorem iX0_end_X0 : ∀ w ∈ wsX00, w ∈ wsX0_end := by decide +kernel
set_option maxHeartbeats 4000000 in
set_option maxRecDepth 100000 in
/-- end(f, e) -/
theorem qX0_end (l : Launch) (D : va_G) (K : Nat → ClassId) (ab : Nat → Nat) (b : Bk) (f x : Int32) : zw_V l yX0_end wsX0_end rmX0_end D (zT K) [.ref (ab 0), .int f, .int x] (bk_W K ab b) (bk_W K ab (bk_end b f x)) := by
  refine zw_ofV (cc := cX0_end) (nL := 3) (ret := none) (own := RX0) (lv := [(0, .ref (ab 0)), (1, .int f), (2, .int x)]) (by decide) rfl (Nat.le_of_ble_eq_true rfl) rfl rfl ?_
  intro p e s m below meth c A E hr hlk
  refine zw_iload_n (i := 1) (x := f) E 1 dX0_end_0 rfl rfl (pc' := 1) rfl ?_
  refine zw_if_lt (tgt := 17) E dX0_end_1 (by decide) (pc' := 4) rfl (fun c_1 => ?_) (fun c_1 => ?_)
  · skip
    exact zw_vret E hr hlk dX0_end_17 (by unfold bk_end; rw [if_pos c_1])
  · skip
    refine zw_iload_n (i := 1) (x := f) E 1 dX0_end_4 rfl rfl (pc' := 5) rfl ?_
    refine zw_bipush (v := 60) E dX0_end_5 (by decide) (pc' := 7) rfl ?_
    refine zw_icmp_ge (tgt := 17) E dX0_end_7 (by decide) (pc' := 10) rfl (fun c_2 => ?_) (fun c_2 => ?_)
    · skip
      exact zw_vret E hr hlk dX0_end_17 (by unfold bk_end; rw [if_neg c_1, if_pos c_2])
    · skip
      refine zw_aload_n (i := 0) (x := ab 0) E 0 dX0_end_10 rfl rfl (pc' := 11) rfl ?_
      refine zw_get (v := .ref (ab 11)) E 0 10 iX0_end_X0 fX0_end_42 rfl rfl (by decide) rfl rfl dX0_end_11 (pc' := 14) rfl ?_
      refine zw_iload_n (i := 1) (x := f) E 1 dX0_end_14 rfl rfl (pc' := 15) rfl ?_
      refine zw_iload_n (i := 2) (x := x) E 2 dX0_end_15 rfl rfl (pc' := 16) rfl ?_
      refine zw_iast (j := f.toNatClampNeg) (ws' := (bk_W K ab (bk_row b 10 f.toNatClampNeg x))) E 11 0 rfl rfl (zw_in60 c_1 c_2) rfl rfl dX0_end_16 (pc' := 17) rfl ?_
      exact zw_vret E hr hlk dX0_end_17 (by unfold bk_end; rw [if_neg c_1, if_neg c_2]; rfl)

/-- a draft: every row at the draft's place told anew -/
def bk_draft (b : Bk) (a y : Int32) : Bk := bk_row (bk_row (bk_row (bk_row (bk_row (bk_row (bk_row (bk_row b 0 (b.2 1) a) 1 (b.2 1) y) 2 (b.2 1) (-1)) 3 (b.2 1) (-1)) 4 (b.2 1) (-1)) 5 (b.2 1) (-1)) 6 (b.2 1) (-1)) 7 (b.2 1) (-1)
theorem fX0_draft_15 : Cond.fieldLink RX0 15 "TitheMap$Book" "year" "[I" ∈ wsX0_draft := by decide +kernel
theorem fX0_draft_18 : Cond.fieldLink RX0 18 "TitheMap$Book" "first" "[I" ∈ wsX0_draft := by decide +kernel
theorem fX0_draft_21 : Cond.fieldLink RX0 21 "TitheMap$Book" "second" "[I" ∈ wsX0_draft := by decide +kernel
theorem fX0_draft_24 : Cond.fieldLink RX0 24 "TitheMap$Book" "amount" "[I" ∈ wsX0_draft := by decide +kernel
theorem fX0_draft_27 : Cond.fieldLink RX0 27 "TitheMap$Book" "kind" "[I" ∈ wsX0_draft := by decide +kernel
theorem fX0_draft_30 : Cond.fieldLink RX0 30 "TitheMap$Book" "owner" "[I" ∈ wsX0_draft := by decide +kernel
theorem fX0_draft_33 : Cond.fieldLink RX0 33 "TitheMap$Book" "made" "[I" ∈ wsX0_draft := by decide +kernel
theorem fX0_draft_9 : Cond.fieldLink RX0 9 "TitheMap$Book" "act" "[I" ∈ wsX0_draft := by decide +kernel
theorem iX0_draft_X0 : ∀ w ∈ wsX00, w ∈ wsX0_draft := by decide +kernel
set_option maxHeartbeats 4000000 in
set_option maxRecDepth 100000 in
/-- draft(act, year) -/
theorem qX0_draft (l : Launch) (D : va_G) (K : Nat → ClassId) (ab : Nat → Nat) (b : Bk) (a y : Int32) (hn : b.2 1 < 80) : zw_V l yX0_draft wsX0_draft rmX0_draft D (zT K) [.ref (ab 0), .int a, .int y] (bk_W K ab b) (bk_W K ab (bk_draft b a y)) := by
  refine zw_ofV (cc := cX0_draft) (nL := 3) (ret := none) (own := RX0) (lv := [(0, .ref (ab 0)), (1, .int a), (2, .int y)]) (by decide) rfl (Nat.le_of_ble_eq_true rfl) rfl rfl ?_
  intro p e s m below meth c A E hr hlk
  refine zw_aload_n (i := 0) (x := ab 0) E 0 dX0_draft_0 rfl rfl (pc' := 1) rfl ?_
  refine zw_aload_n (i := 0) (x := ab 0) E 0 dX0_draft_1 rfl rfl (pc' := 2) rfl ?_
  refine zw_get (v := .ref (ab 1)) E 0 0 iX0_draft_X0 fX0_draft_9 rfl rfl (by decide) rfl rfl dX0_draft_2 (pc' := 5) rfl ?_
  refine zw_iload_n (i := 1) (x := a) E 1 dX0_draft_5 rfl rfl (pc' := 6) rfl ?_
  refine zw_callVw E (As := [.ref (ab 1), .int a]) (rest := []) (ws' := (bk_W K ab (bk_row b 0 (b.2 1) a))) (qX0_put_0 l D K ab b a hn) (cwV 2 E.2.2.2.2.1 gX0_draft_X0_put rfl rfl rfl (by decide +kernel) ⟨Nat.le_of_ble_eq_true rfl, Nat.le_of_ble_eq_true rfl⟩) 0 rfl rfl rfl (bk_ad _ _ _ _) rfl rfl (Nat.le_of_ble_eq_true rfl) ⟨Nat.zero_le _, Nat.zero_le _⟩ dX0_draft_6 (pc' := 9) rfl ?_
  refine zw_aload_n (i := 0) (x := ab 0) E 0 dX0_draft_9 rfl rfl (pc' := 10) rfl ?_
  refine zw_aload_n (i := 0) (x := ab 0) E 0 dX0_draft_10 rfl rfl (pc' := 11) rfl ?_
  refine zw_get (v := .ref (ab 2)) E 0 1 iX0_draft_X0 fX0_draft_15 rfl rfl (by decide) rfl rfl dX0_draft_11 (pc' := 14) rfl ?_
  refine zw_iload_n (i := 2) (x := y) E 2 dX0_draft_14 rfl rfl (pc' := 15) rfl ?_
  refine zw_callVw E (As := [.ref (ab 2), .int y]) (rest := []) (ws' := (bk_W K ab (bk_row (bk_row b 0 (b.2 1) a) 1 (b.2 1) y))) (qX0_put_1 l D K ab (bk_row b 0 (b.2 1) a) y hn) (cwV 2 E.2.2.2.2.1 gX0_draft_X0_put rfl rfl rfl (by decide +kernel) ⟨Nat.le_of_ble_eq_true rfl, Nat.le_of_ble_eq_true rfl⟩) 0 rfl rfl rfl (bk_ad _ _ _ _) rfl rfl (Nat.le_of_ble_eq_true rfl) ⟨Nat.zero_le _, Nat.zero_le _⟩ dX0_draft_15 (pc' := 18) rfl ?_
  refine zw_aload_n (i := 0) (x := ab 0) E 0 dX0_draft_18 rfl rfl (pc' := 19) rfl ?_
  refine zw_aload_n (i := 0) (x := ab 0) E 0 dX0_draft_19 rfl rfl (pc' := 20) rfl ?_
  refine zw_get (v := .ref (ab 3)) E 0 2 iX0_draft_X0 fX0_draft_18 rfl rfl (by decide) rfl rfl dX0_draft_20 (pc' := 23) rfl ?_
  refine zw_iconst (v := (-1)) E dX0_draft_23 (by decide) (pc' := 24) rfl ?_
  refine zw_callVw E (As := [.ref (ab 3), .int (-1)]) (rest := []) (ws' := (bk_W K ab (bk_row (bk_row (bk_row b 0 (b.2 1) a) 1 (b.2 1) y) 2 (b.2 1) (-1)))) (qX0_put_2 l D K ab (bk_row (bk_row b 0 (b.2 1) a) 1 (b.2 1) y) (-1) hn) (cwV 2 E.2.2.2.2.1 gX0_draft_X0_put rfl rfl rfl (by decide +kernel) ⟨Nat.le_of_ble_eq_true rfl, Nat.le_of_ble_eq_true rfl⟩) 0 rfl rfl rfl (bk_ad _ _ _ _) rfl rfl (Nat.le_of_ble_eq_true rfl) ⟨Nat.zero_le _, Nat.zero_le _⟩ dX0_draft_24 (pc' := 27) rfl ?_
  refine zw_aload_n (i := 0) (x := ab 0) E 0 dX0_draft_27 rfl rfl (pc' := 28) rfl ?_
  refine zw_aload_n (i := 0) (x := ab 0) E 0 dX0_draft_28 rfl rfl (pc' := 29) rfl ?_
  refine zw_get (v := .ref (ab 4)) E 0 3 iX0_draft_X0 fX0_draft_21 rfl rfl (by decide) rfl rfl dX0_draft_29 (pc' := 32) rfl ?_
  refine zw_iconst (v := (-1)) E dX0_draft_32 (by decide) (pc' := 33) rfl ?_
  refine zw_callVw E (As := [.ref (ab 4), .int (-1)]) (rest := []) (ws' := (bk_W K ab (bk_row (bk_row (bk_row (bk_row b 0 (b.2 1) a) 1 (b.2 1) y) 2 (b.2 1) (-1)) 3 (b.2 1) (-1)))) (qX0_put_3 l D K ab (bk_row (bk_row (bk_row b 0 (b.2 1) a) 1 (b.2 1) y) 2 (b.2 1) (-1)) (-1) hn) (cwV 2 E.2.2.2.2.1 gX0_draft_X0_put rfl rfl rfl (by decide +kernel) ⟨Nat.le_of_ble_eq_true rfl, Nat.le_of_ble_eq_true rfl⟩) 0 rfl rfl rfl (bk_ad _ _ _ _) rfl rfl (Nat.le_of_ble_eq_true rfl) ⟨Nat.zero_le _, Nat.zero_le _⟩ dX0_draft_33 (pc' := 36) rfl ?_
  refine zw_aload_n (i := 0) (x := ab 0) E 0 dX0_draft_36 rfl rfl (pc' := 37) rfl ?_
  refine zw_aload_n (i := 0) (x := ab 0) E 0 dX0_draft_37 rfl rfl (pc' := 38) rfl ?_
  refine zw_get (v := .ref (ab 5)) E 0 4 iX0_draft_X0 fX0_draft_24 rfl rfl (by decide) rfl rfl dX0_draft_38 (pc' := 41) rfl ?_
  refine zw_iconst (v := (-1)) E dX0_draft_41 (by decide) (pc' := 42) rfl ?_
  refine zw_callVw E (As := [.ref (ab 5), .int (-1)]) (rest := []) (ws' := (bk_W K ab (bk_row (bk_row (bk_row (bk_row (bk_row b 0 (b.2 1) a) 1 (b.2 1) y) 2 (b.2 1) (-1)) 3 (b.2 1) (-1)) 4 (b.2 1) (-1)))) (qX0_put_4 l D K ab (bk_row (bk_row (bk_row (bk_row b 0 (b.2 1) a) 1 (b.2 1) y) 2 (b.2 1) (-1)) 3 (b.2 1) (-1)) (-1) hn) (cwV 2 E.2.2.2.2.1 gX0_draft_X0_put rfl rfl rfl (by decide +kernel) ⟨Nat.le_of_ble_eq_true rfl, Nat.le_of_ble_eq_true rfl⟩) 0 rfl rfl rfl (bk_ad _ _ _ _) rfl rfl (Nat.le_of_ble_eq_true rfl) ⟨Nat.zero_le _, Nat.zero_le _⟩ dX0_draft_42 (pc' := 45) rfl ?_
  refine zw_aload_n (i := 0) (x := ab 0) E 0 dX0_draft_45 rfl rfl (pc' := 46) rfl ?_
  refine zw_aload_n (i := 0) (x := ab 0) E 0 dX0_draft_46 rfl rfl (pc' := 47) rfl ?_
  refine zw_get (v := .ref (ab 6)) E 0 5 iX0_draft_X0 fX0_draft_27 rfl rfl (by decide) rfl rfl dX0_draft_47 (pc' := 50) rfl ?_
  refine zw_iconst (v := (-1)) E dX0_draft_50 (by decide) (pc' := 51) rfl ?_
  refine zw_callVw E (As := [.ref (ab 6), .int (-1)]) (rest := []) (ws' := (bk_W K ab (bk_row (bk_row (bk_row (bk_row (bk_row (bk_row b 0 (b.2 1) a) 1 (b.2 1) y) 2 (b.2 1) (-1)) 3 (b.2 1) (-1)) 4 (b.2 1) (-1)) 5 (b.2 1) (-1)))) (qX0_put_5 l D K ab (bk_row (bk_row (bk_row (bk_row (bk_row b 0 (b.2 1) a) 1 (b.2 1) y) 2 (b.2 1) (-1)) 3 (b.2 1) (-1)) 4 (b.2 1) (-1)) (-1) hn) (cwV 2 E.2.2.2.2.1 gX0_draft_X0_put rfl rfl rfl (by decide +kernel) ⟨Nat.le_of_ble_eq_true rfl, Nat.le_of_ble_eq_true rfl⟩) 0 rfl rfl rfl (bk_ad _ _ _ _) rfl rfl (Nat.le_of_ble_eq_true rfl) ⟨Nat.zero_le _, Nat.zero_le _⟩ dX0_draft_51 (pc' := 54) rfl ?_
  refine zw_aload_n (i := 0) (x := ab 0) E 0 dX0_draft_54 rfl rfl (pc' := 55) rfl ?_
  refine zw_aload_n (i := 0) (x := ab 0) E 0 dX0_draft_55 rfl rfl (pc' := 56) rfl ?_
  refine zw_get (v := .ref (ab 7)) E 0 6 iX0_draft_X0 fX0_draft_30 rfl rfl (by decide) rfl rfl dX0_draft_56 (pc' := 59) rfl ?_
  refine zw_iconst (v := (-1)) E dX0_draft_59 (by decide) (pc' := 60) rfl ?_
  refine zw_callVw E (As := [.ref (ab 7), .int (-1)]) (rest := []) (ws' := (bk_W K ab (bk_row (bk_row (bk_row (bk_row (bk_row (bk_row (bk_row b 0 (b.2 1) a) 1 (b.2 1) y) 2 (b.2 1) (-1)) 3 (b.2 1) (-1)) 4 (b.2 1) (-1)) 5 (b.2 1) (-1)) 6 (b.2 1) (-1)))) (qX0_put_6 l D K ab (bk_row (bk_row (bk_row (bk_row (bk_row (bk_row b 0 (b.2 1) a) 1 (b.2 1) y) 2 (b.2 1) (-1)) 3 (b.2 1) (-1)) 4 (b.2 1) (-1)) 5 (b.2 1) (-1)) (-1) hn) (cwV 2 E.2.2.2.2.1 gX0_draft_X0_put rfl rfl rfl (by decide +kernel) ⟨Nat.le_of_ble_eq_true rfl, Nat.le_of_ble_eq_true rfl⟩) 0 rfl rfl rfl (bk_ad _ _ _ _) rfl rfl (Nat.le_of_ble_eq_true rfl) ⟨Nat.zero_le _, Nat.zero_le _⟩ dX0_draft_60 (pc' := 63) rfl ?_
  refine zw_aload_n (i := 0) (x := ab 0) E 0 dX0_draft_63 rfl rfl (pc' := 64) rfl ?_
  refine zw_aload_n (i := 0) (x := ab 0) E 0 dX0_draft_64 rfl rfl (pc' := 65) rfl ?_
  refine zw_get (v := .ref (ab 8)) E 0 7 iX0_draft_X0 fX0_draft_33 rfl rfl (by decide) rfl rfl dX0_draft_65 (pc' := 68) rfl ?_
  refine zw_iconst (v := (-1)) E dX0_draft_68 (by decide) (pc' := 69) rfl ?_
  refine zw_callVw E (As := [.ref (ab 8), .int (-1)]) (rest := []) (ws' := (bk_W K ab (bk_row (bk_row (bk_row (bk_row (bk_row (bk_row (bk_row (bk_row b 0 (b.2 1) a) 1 (b.2 1) y) 2 (b.2 1) (-1)) 3 (b.2 1) (-1)) 4 (b.2 1) (-1)) 5 (b.2 1) (-1)) 6 (b.2 1) (-1)) 7 (b.2 1) (-1)))) (qX0_put_7 l D K ab (bk_row (bk_row (bk_row (bk_row (bk_row (bk_row (bk_row b 0 (b.2 1) a) 1 (b.2 1) y) 2 (b.2 1) (-1)) 3 (b.2 1) (-1)) 4 (b.2 1) (-1)) 5 (b.2 1) (-1)) 6 (b.2 1) (-1)) (-1) hn) (cwV 2 E.2.2.2.2.1 gX0_draft_X0_put rfl rfl rfl (by decide +kernel) ⟨Nat.le_of_ble_eq_true rfl, Nat.le_of_ble_eq_true rfl⟩) 0 rfl rfl rfl (bk_ad _ _ _ _) rfl rfl (Nat.le_of_ble_eq_true rfl) ⟨Nat.zero_le _, Nat.zero_le _⟩ dX0_draft_69 (pc' := 72) rfl ?_
  exact zw_vret E hr hlk dX0_draft_72 rfl

/-- the order with the acts from place k on moved up by one -/
def fd_sh (b : Bk) (k : Nat) : Bk := ((fun r => if r = 8 then (fun i => if k < i ∧ i ≤ b.2 0 then b.1 8 (i - 1) else b.1 8 i) else b.1 r), b.2)
/-- where the draft comes to stand, looking down from place k -/
def fd_pos (b : Bk) (dy : Int32) : Nat → Nat
  | 0 => 0
  | j + 1 => if z_at 80 (b.1 1) (b.1 8 j) ≤ dy then j + 1 else fd_pos b dy j
def fd_end (b : Bk) (k : Nat) : Bk := bk_sc (bk_row (fd_sh b k) 8 k (nI (b.2 1))) 0 (b.2 0 + 1)
def bk_file (b : Bk) : Bk := fd_end b (fd_pos b (z_at 80 (b.1 1) (nI (b.2 1))) (b.2 0))
theorem fd_sh_top (b : Bk) : fd_sh b (b.2 0) = b := by
  refine Prod.ext (funext fun r => ?_) rfl
  show (if r = 8 then _ else _) = _
  by_cases h : r = 8
  · subst h
    rw [if_pos rfl]
    funext i
    rw [if_neg (by omega)]
  · rw [if_neg h]
theorem fd_sh_lo (b : Bk) (j : Nat) : (fd_sh b (j + 1)).1 8 j = b.1 8 j := by
  show (if j + 1 < j ∧ j ≤ b.2 0 then b.1 8 (j - 1) else b.1 8 j) = b.1 8 j
  rw [if_neg (by omega)]
theorem fd_sh_dn (b : Bk) (j : Nat) (h : j + 1 ≤ b.2 0) : bk_row (fd_sh b (j + 1)) 8 (j + 1) (b.1 8 j) = fd_sh b j := by
  refine Prod.ext (funext fun r => ?_) rfl
  show (if r = 8 then upd ((fd_sh b (j + 1)).1 8) (j + 1) (b.1 8 j) else (fd_sh b (j + 1)).1 r) = (fd_sh b j).1 r
  by_cases hr : r = 8
  · subst hr
    rw [if_pos rfl]
    funext i
    show (if i = j + 1 then b.1 8 j else (if j + 1 < i ∧ i ≤ b.2 0 then b.1 8 (i - 1) else b.1 8 i)) = (if j < i ∧ i ≤ b.2 0 then b.1 8 (i - 1) else b.1 8 i)
    by_cases h1 : i = j + 1
    · subst h1
      rw [if_pos rfl, if_pos ⟨by omega, h⟩]
      rfl
    · rw [if_neg h1]
      by_cases h2 : j + 1 < i ∧ i ≤ b.2 0
      · rw [if_pos h2, if_pos ⟨by omega, h2.2⟩]
      · rw [if_neg h2, if_neg (by omega)]
  · rw [if_neg hr]
    show (if r = 8 then _ else _) = (if r = 8 then _ else _)
    rw [if_neg hr, if_neg hr]
theorem zw_dec1 (j : Nat) : nI (j + 1) + Int32.ofInt (-1) = nI j := by
  rw [show Int32.ofInt (-1) = -1 by decide]
  exact pk_m1 j
theorem fX0_fileDraft_15 : Cond.fieldLink RX0 15 "TitheMap$Book" "year" "[I" ∈ wsX0_fileDraft := by decide +kernel
theorem fX0_fileDraft_36 : Cond.fieldLink RX0 36 "TitheMap$Book" "order" "[I" ∈ wsX0_fileDraft := by decide +kernel
theorem fX0_fileDraft_45 : Cond.fieldLink RX0 45 "TitheMap$Book" "size" "I" ∈ wsX0_fileDraft := by decide +kernel
theorem fX0_fileDraft_53 : Cond.fieldLink RX0 53 "TitheMap$Book" "acts" "I" ∈ wsX0_fileDraft := by decide +kernel
theorem iX0_fileDraft_X0 : ∀ w ∈ wsX00, w ∈ wsX0_fileDraft := by decide +kernel
set_option maxHeartbeats 4000000 in
set_option maxRecDepth 100000 in
theorem lX0_fileDraft {l : Launch} {D : va_G} {K : Nat → ClassId} {p : Program} {e : Env} {s : State} {m : MethodId} {below : List Frame} {meth : Method} {c : Code} {A : Nat → Prop} {args : Array Value} (E : zw_E p s m args c cX0_fileDraft 3 RX0 wsX0_fileDraft D (zT K) A) (hr : meth.sig.returnType = none) (hlk : meth.locks = false) (ab : Nat → Nat) (b : Bk) (dy : Int32) (h80 : b.2 0 < 80) : ∀ (k : Nat), k ≤ b.2 0 → zw_W p l e rmX0_fileDraft s m args below meth c 3 D A 0 0 (zw_Qv D A below args s (bk_W K ab (fd_end b (fd_pos b dy k)))) 28 [(0, .ref (ab 0)), (1, .int (nI k)), (2, .int dy)] [] (bk_W K ab (fd_sh b k)) := by
  intro k
  induction k with
  | zero =>
    intro hle
    have hk : 0 < 80 := by decide
    refine zw_iload_n (i := 1) (x := nI 0) E 1 dX0_fileDraft_28 rfl rfl (pc' := 29) rfl ?_
    refine zw_if_le (tgt := 71) E dX0_fileDraft_29 (by decide) (pc' := 32) rfl (fun c_1 => ?_) (fun c_1 => ?_)
    · skip
      refine zw_aload_n (i := 0) (x := ab 0) E 0 dX0_fileDraft_71 rfl rfl (pc' := 72) rfl ?_
      refine zw_get (v := .ref (ab 9)) E 0 8 iX0_fileDraft_X0 fX0_fileDraft_36 rfl rfl (by decide) rfl rfl dX0_fileDraft_72 (pc' := 75) rfl ?_
      refine zw_iload_n (i := 1) (x := nI 0) E 1 dX0_fileDraft_75 rfl rfl (pc' := 76) rfl ?_
      refine zw_aload_n (i := 0) (x := ab 0) E 0 dX0_fileDraft_76 rfl rfl (pc' := 77) rfl ?_
      refine zw_get (v := .int (nI (b.2 1))) E 0 12 iX0_fileDraft_X0 fX0_fileDraft_45 rfl rfl (by decide) rfl rfl dX0_fileDraft_77 (pc' := 80) rfl ?_
      refine zw_iast (j := 0) (ws' := (bk_W K ab (bk_row (fd_sh b 0) 8 0 (nI (b.2 1))))) E 9 0 rfl rfl (vp_in_nI hk (by decide)) (zw_clamp hk (by decide)) rfl dX0_fileDraft_80 (pc' := 81) rfl ?_
      refine zw_aload_n (i := 0) (x := ab 0) E 0 dX0_fileDraft_81 rfl rfl (pc' := 82) rfl ?_
      refine zw_dup E dX0_fileDraft_82 rfl (pc' := 83) rfl ?_
      refine zw_get (v := .int (nI (b.2 0))) E 0 11 iX0_fileDraft_X0 fX0_fileDraft_53 rfl rfl (by decide) rfl rfl dX0_fileDraft_83 (pc' := 86) rfl ?_
      refine zw_iconst (v := 1) E dX0_fileDraft_86 (by decide) (pc' := 87) rfl ?_
      refine zw_iadd E dX0_fileDraft_87 (pc' := 88) rfl ?_
      refine zw_topi (x' := nI (b.2 0 + 1)) (nI_1 (b.2 0)) ?_
      refine zw_putf (v := .int (nI (b.2 0 + 1))) (ty := .int) (ws' := (bk_W K ab (bk_sc (bk_row (fd_sh b 0) 8 0 (nI (b.2 1))) 0 (b.2 0 + 1)))) E 0 11 iX0_fileDraft_X0 tyX0_ok nmX0 fX0_fileDraft_53 rfl rfl (by decide) rfl rfl rfl rfl rfl (Nat.le_of_ble_eq_true rfl) rfl dX0_fileDraft_88 (pc' := 91) rfl ?_
      exact zw_vret E hr hlk dX0_fileDraft_91 (by rw [fd_pos]; rfl)
    · exact absurd (Int32.le_refl 0) c_1
  | succ j ih =>
    intro hle
    have hj : j + 1 < 80 := by omega
    have hk : j + 1 < 80 := hj
    refine zw_iload_n (i := 1) (x := nI (j + 1)) E 1 dX0_fileDraft_28 rfl rfl (pc' := 29) rfl ?_
    refine zw_if_le (tgt := 71) E dX0_fileDraft_29 (by decide) (pc' := 32) rfl (fun c_1 => ?_) (fun c_1 => ?_)
    · exact absurd c_1 (nI_nle (Nat.succ_pos j) (by omega))
    · skip
      refine zw_aload_n (i := 0) (x := ab 0) E 0 dX0_fileDraft_32 rfl rfl (pc' := 33) rfl ?_
      refine zw_get (v := .ref (ab 2)) E 0 1 iX0_fileDraft_X0 fX0_fileDraft_15 rfl rfl (by decide) rfl rfl dX0_fileDraft_33 (pc' := 36) rfl ?_
      refine zw_aload_n (i := 0) (x := ab 0) E 0 dX0_fileDraft_36 rfl rfl (pc' := 37) rfl ?_
      refine zw_get (v := .ref (ab 9)) E 0 8 iX0_fileDraft_X0 fX0_fileDraft_36 rfl rfl (by decide) rfl rfl dX0_fileDraft_37 (pc' := 40) rfl ?_
      refine zw_iload_n (i := 1) (x := nI (j + 1)) E 1 dX0_fileDraft_40 rfl rfl (pc' := 41) rfl ?_
      refine zw_iconst (v := 1) E dX0_fileDraft_41 (by decide) (pc' := 42) rfl ?_
      refine zw_isub E dX0_fileDraft_42 (pc' := 43) rfl ?_
      refine zw_topi (x' := nI j) (nI_pred j) ?_
      refine zw_iald (j := j) (x := (fd_sh b (j + 1)).1 8 j) E 9 0 rfl rfl (vp_in_nI (Nat.lt_of_lt_of_le (Nat.lt_succ_self j) (Nat.le_of_lt hj)) (by decide)) (zw_clamp (Nat.lt_of_lt_of_le (Nat.lt_succ_self j) (Nat.le_of_lt hj)) (by decide)) rfl dX0_fileDraft_43 (pc' := 44) rfl ?_
      refine zw_topi (x' := b.1 8 j) (fd_sh_lo b j) ?_
      refine zw_callIn E (r := z_at 80 (b.1 1) (b.1 8 j)) (As := [.ref (ab 2), .int (b.1 8 j)]) (rest := []) (ws' := (bk_W K ab (fd_sh b (j + 1)))) (qX2_at l D K (ab 2) 80 ((fd_sh b (j + 1)).1 1) (b.1 8 j) (by decide)) ⟨va_cnB 2 E.2.2.2.2.1 gX0_fileDraft_X2_at_n56 rfl rfl rfl E.2.2.2.2.2.2.2.2.1 (E.2.2.2.2.1 _ (by decide +kernel)) (by decide +kernel) ⟨Nat.le_of_ble_eq_true rfl, Nat.le_of_ble_eq_true rfl⟩, E.2.2.2.2.1 _ (by decide +kernel), trivial⟩ [2] (by decide) rfl rfl (zw_put_same _ _ _ rfl) rfl rfl (Nat.le_of_ble_eq_true rfl) ⟨Nat.zero_le _, Nat.zero_le _⟩ dX0_fileDraft_44 (pc' := 47) rfl ?_
      refine zw_iload_n (i := 2) (x := dy) E 2 dX0_fileDraft_47 rfl rfl (pc' := 48) rfl ?_
      refine zw_icmp_le (tgt := 71) E dX0_fileDraft_48 (by decide) (pc' := 51) rfl (fun c_2 => ?_) (fun c_2 => ?_)
      · skip
        refine zw_aload_n (i := 0) (x := ab 0) E 0 dX0_fileDraft_71 rfl rfl (pc' := 72) rfl ?_
        refine zw_get (v := .ref (ab 9)) E 0 8 iX0_fileDraft_X0 fX0_fileDraft_36 rfl rfl (by decide) rfl rfl dX0_fileDraft_72 (pc' := 75) rfl ?_
        refine zw_iload_n (i := 1) (x := nI (j + 1)) E 1 dX0_fileDraft_75 rfl rfl (pc' := 76) rfl ?_
        refine zw_aload_n (i := 0) (x := ab 0) E 0 dX0_fileDraft_76 rfl rfl (pc' := 77) rfl ?_
        refine zw_get (v := .int (nI (b.2 1))) E 0 12 iX0_fileDraft_X0 fX0_fileDraft_45 rfl rfl (by decide) rfl rfl dX0_fileDraft_77 (pc' := 80) rfl ?_
        refine zw_iast (j := j + 1) (ws' := (bk_W K ab (bk_row (fd_sh b (j + 1)) 8 (j + 1) (nI (b.2 1))))) E 9 0 rfl rfl (vp_in_nI hk (by decide)) (zw_clamp hk (by decide)) rfl dX0_fileDraft_80 (pc' := 81) rfl ?_
        refine zw_aload_n (i := 0) (x := ab 0) E 0 dX0_fileDraft_81 rfl rfl (pc' := 82) rfl ?_
        refine zw_dup E dX0_fileDraft_82 rfl (pc' := 83) rfl ?_
        refine zw_get (v := .int (nI (b.2 0))) E 0 11 iX0_fileDraft_X0 fX0_fileDraft_53 rfl rfl (by decide) rfl rfl dX0_fileDraft_83 (pc' := 86) rfl ?_
        refine zw_iconst (v := 1) E dX0_fileDraft_86 (by decide) (pc' := 87) rfl ?_
        refine zw_iadd E dX0_fileDraft_87 (pc' := 88) rfl ?_
        refine zw_topi (x' := nI (b.2 0 + 1)) (nI_1 (b.2 0)) ?_
        refine zw_putf (v := .int (nI (b.2 0 + 1))) (ty := .int) (ws' := (bk_W K ab (bk_sc (bk_row (fd_sh b (j + 1)) 8 (j + 1) (nI (b.2 1))) 0 (b.2 0 + 1)))) E 0 11 iX0_fileDraft_X0 tyX0_ok nmX0 fX0_fileDraft_53 rfl rfl (by decide) rfl rfl rfl rfl rfl (Nat.le_of_ble_eq_true rfl) rfl dX0_fileDraft_88 (pc' := 91) rfl ?_
        exact zw_vret E hr hlk dX0_fileDraft_91 (by rw [fd_pos, if_pos c_2]; rfl)
      · skip
        refine zw_aload_n (i := 0) (x := ab 0) E 0 dX0_fileDraft_51 rfl rfl (pc' := 52) rfl ?_
        refine zw_get (v := .ref (ab 9)) E 0 8 iX0_fileDraft_X0 fX0_fileDraft_36 rfl rfl (by decide) rfl rfl dX0_fileDraft_52 (pc' := 55) rfl ?_
        refine zw_iload_n (i := 1) (x := nI (j + 1)) E 1 dX0_fileDraft_55 rfl rfl (pc' := 56) rfl ?_
        refine zw_aload_n (i := 0) (x := ab 0) E 0 dX0_fileDraft_56 rfl rfl (pc' := 57) rfl ?_
        refine zw_get (v := .ref (ab 9)) E 0 8 iX0_fileDraft_X0 fX0_fileDraft_36 rfl rfl (by decide) rfl rfl dX0_fileDraft_57 (pc' := 60) rfl ?_
        refine zw_iload_n (i := 1) (x := nI (j + 1)) E 1 dX0_fileDraft_60 rfl rfl (pc' := 61) rfl ?_
        refine zw_iconst (v := 1) E dX0_fileDraft_61 (by decide) (pc' := 62) rfl ?_
        refine zw_isub E dX0_fileDraft_62 (pc' := 63) rfl ?_
        refine zw_topi (x' := nI j) (nI_pred j) ?_
        refine zw_iald (j := j) (x := (fd_sh b (j + 1)).1 8 j) E 9 0 rfl rfl (vp_in_nI (Nat.lt_of_lt_of_le (Nat.lt_succ_self j) (Nat.le_of_lt hj)) (by decide)) (zw_clamp (Nat.lt_of_lt_of_le (Nat.lt_succ_self j) (Nat.le_of_lt hj)) (by decide)) rfl dX0_fileDraft_63 (pc' := 64) rfl ?_
        refine zw_topi (x' := b.1 8 j) (fd_sh_lo b j) ?_
        refine zw_iast (j := j + 1) (ws' := (bk_W K ab (bk_row (fd_sh b (j + 1)) 8 (j + 1) (b.1 8 j)))) E 9 0 rfl rfl (vp_in_nI hk (by decide)) (zw_clamp hk (by decide)) rfl dX0_fileDraft_64 (pc' := 65) rfl ?_
        refine zw_iinc (x := nI (j + 1)) (v := nI j) (lv' := [(1, .int (nI j)), (0, .ref (ab 0)), (2, .int dy)]) E 1 dX0_fileDraft_65 rfl (zw_dec1 j) (by decide) rfl (pc' := 68) rfl ?_
        refine zw_goto (tgt := 28) E dX0_fileDraft_68 (by decide) ?_
        refine zw_ws (ws' := bk_W K ab (fd_sh b j)) (congrArg (bk_W K ab) (fd_sh_dn b j hle)) ?_
        refine zw_sub [1, 0, 2] (lv' := [(0, .ref (ab 0)), (1, .int (nI j)), (2, .int dy)]) rfl ?_
        have e1 : fd_pos b dy (j + 1) = fd_pos b dy j := by rw [fd_pos, if_neg c_2]
        rw [e1]
        exact ih (by omega)

set_option maxHeartbeats 4000000 in
set_option maxRecDepth 100000 in
/-- fileDraft() -/
theorem qX0_fileDraft (l : Launch) (D : va_G) (K : Nat → ClassId) (ab : Nat → Nat) (b : Bk) (h80 : b.2 0 < 80) : zw_V l yX0_fileDraft wsX0_fileDraft rmX0_fileDraft D (zT K) [.ref (ab 0)] (bk_W K ab b) (bk_W K ab (bk_file b)) := by
  refine zw_ofV (cc := cX0_fileDraft) (nL := 3) (ret := none) (own := RX0) (lv := [(0, .ref (ab 0))]) (by decide) rfl (Nat.le_of_ble_eq_true rfl) rfl rfl ?_
  intro p e s m below meth c A E hr hlk
  refine zw_aload_n (i := 0) (x := ab 0) E 0 dX0_fileDraft_0 rfl rfl (pc' := 1) rfl ?_
  refine zw_get (v := .int (nI (b.2 0))) E 0 11 iX0_fileDraft_X0 fX0_fileDraft_53 rfl rfl (by decide) rfl rfl dX0_fileDraft_1 (pc' := 4) rfl ?_
  refine zw_istore_n (lv' := [(1, .int (nI (b.2 0))), (0, .ref (ab 0))]) E dX0_fileDraft_4 rfl (by decide) rfl (pc' := 5) rfl ?_
  refine zw_iload_n (i := 1) (x := nI (b.2 0)) E 0 dX0_fileDraft_5 rfl rfl (pc' := 6) rfl ?_
  refine zw_if_lt (tgt := 15) E dX0_fileDraft_6 (by decide) (pc' := 9) rfl (fun c_1 => ?_) (fun c_1 => ?_)
  · exact absurd c_1 (nI_pos (Nat.lt_trans h80 (by decide)))
  · skip
    refine zw_iload_n (i := 1) (x := nI (b.2 0)) E 0 dX0_fileDraft_9 rfl rfl (pc' := 10) rfl ?_
    refine zw_bipush (v := 80) E dX0_fileDraft_10 (by decide) (pc' := 12) rfl ?_
    refine zw_icmp_lt (tgt := 16) E dX0_fileDraft_12 (by decide) (pc' := 15) rfl (fun c_2 => ?_) (fun c_2 => ?_)
    · skip
      refine zw_aload_n (i := 0) (x := ab 0) E 1 dX0_fileDraft_16 rfl rfl (pc' := 17) rfl ?_
      refine zw_get (v := .ref (ab 2)) E 0 1 iX0_fileDraft_X0 fX0_fileDraft_15 rfl rfl (by decide) rfl rfl dX0_fileDraft_17 (pc' := 20) rfl ?_
      refine zw_aload_n (i := 0) (x := ab 0) E 1 dX0_fileDraft_20 rfl rfl (pc' := 21) rfl ?_
      refine zw_get (v := .int (nI (b.2 1))) E 0 12 iX0_fileDraft_X0 fX0_fileDraft_45 rfl rfl (by decide) rfl rfl dX0_fileDraft_21 (pc' := 24) rfl ?_
      refine zw_callIn E (r := z_at 80 (b.1 1) (nI (b.2 1))) (As := [.ref (ab 2), .int (nI (b.2 1))]) (rest := []) (ws' := (bk_W K ab b)) (qX2_at l D K (ab 2) 80 (b.1 1) (nI (b.2 1)) (by decide)) ⟨va_cnB 2 E.2.2.2.2.1 gX0_fileDraft_X2_at_n56 rfl rfl rfl E.2.2.2.2.2.2.2.2.1 (E.2.2.2.2.1 _ (by decide +kernel)) (by decide +kernel) ⟨Nat.le_of_ble_eq_true rfl, Nat.le_of_ble_eq_true rfl⟩, E.2.2.2.2.1 _ (by decide +kernel), trivial⟩ [2] (by decide) rfl rfl (zw_put_same _ _ _ rfl) rfl rfl (Nat.le_of_ble_eq_true rfl) ⟨Nat.zero_le _, Nat.zero_le _⟩ dX0_fileDraft_24 (pc' := 27) rfl ?_
      refine zw_istore_n (lv' := [(2, .int (z_at 80 (b.1 1) (nI (b.2 1)))), (1, .int (nI (b.2 0))), (0, .ref (ab 0))]) E dX0_fileDraft_27 rfl (by decide) rfl (pc' := 28) rfl ?_
      refine zw_ws (ws' := bk_W K ab (fd_sh b (b.2 0))) (congrArg (bk_W K ab) (fd_sh_top b).symm) ?_
      refine zw_sub [2, 1, 0] (lv' := [(0, .ref (ab 0)), (1, .int (nI (b.2 0))), (2, .int (z_at 80 (b.1 1) (nI (b.2 1))))]) rfl ?_
      exact lX0_fileDraft E hr hlk ab b _ h80 (b.2 0) (Nat.le_refl _)
    · exact absurd (Int32.not_lt.mp c_2) (zw_n80 h80)

/-- the draft taken out of the order: how many are kept of the first i, and the row -/
def wd (o : Nat → Int32) (x : Int32) : Nat → Nat × (Nat → Int32)
  | 0 => (0, o)
  | i + 1 => if (wd o x i).2 i = x then wd o x i else ((wd o x i).1 + 1, upd (wd o x i).2 (wd o x i).1 ((wd o x i).2 i))
theorem wd_le (o : Nat → Int32) (x : Int32) : ∀ i, (wd o x i).1 ≤ i
  | 0 => Nat.le_refl 0
  | i + 1 => by
    rw [wd]
    have := wd_le o x i
    split
    · omega
    · show (wd o x i).1 + 1 ≤ i + 1
      omega
def wd_st (b : Bk) (i : Nat) : Bk := ((fun r => if r = 8 then (wd (b.1 8) (nI (b.2 1)) i).2 else b.1 r), b.2)
def bk_wdraw (b : Bk) : Bk := bk_sc (wd_st b (b.2 0)) 0 (wd (b.1 8) (nI (b.2 1)) (b.2 0)).1
theorem wd_st_0 (b : Bk) : wd_st b 0 = b := by
  refine Prod.ext (funext fun r => ?_) rfl
  show (if r = 8 then b.1 8 else b.1 r) = b.1 r
  by_cases h : r = 8
  · subst h; rw [if_pos rfl]
  · rw [if_neg h]
theorem wd_st_eq (b : Bk) (i : Nat) (h : (wd (b.1 8) (nI (b.2 1)) i).2 i = nI (b.2 1)) : wd_st b (i + 1) = wd_st b i := by
  unfold wd_st
  rw [wd, if_pos h]
theorem wd_st_ne (b : Bk) (i : Nat) (h : ¬ (wd (b.1 8) (nI (b.2 1)) i).2 i = nI (b.2 1)) : bk_row (wd_st b i) 8 (wd (b.1 8) (nI (b.2 1)) i).1 ((wd (b.1 8) (nI (b.2 1)) i).2 i) = wd_st b (i + 1) := by
  refine Prod.ext (funext fun r => ?_) rfl
  show (if r = 8 then upd ((wd_st b i).1 8) (wd (b.1 8) (nI (b.2 1)) i).1 ((wd (b.1 8) (nI (b.2 1)) i).2 i) else (wd_st b i).1 r) = (if r = 8 then (wd (b.1 8) (nI (b.2 1)) (i + 1)).2 else b.1 r)
  by_cases hr : r = 8
  · subst hr
    rw [if_pos rfl, if_pos rfl, wd, if_neg h]
    rfl
  · rw [if_neg hr, if_neg hr]
    show (if r = 8 then _ else _) = _
    rw [if_neg hr]
theorem fX0_withdrawDraft_36 : Cond.fieldLink RX0 36 "TitheMap$Book" "order" "[I" ∈ wsX0_withdrawDraft := by decide +kernel
theorem fX0_withdrawDraft_45 : Cond.fieldLink RX0 45 "TitheMap$Book" "size" "I" ∈ wsX0_withdrawDraft := by decide +kernel
theorem fX0_withdrawDraft_53 : Cond.fieldLink RX0 53 "TitheMap$Book" "acts" "I" ∈ wsX0_withdrawDraft := by decide +kernel
theorem iX0_withdrawDraft_X0 : ∀ w ∈ wsX00, w ∈ wsX0_withdrawDraft := by decide +kernel
set_option maxHeartbeats 4000000 in
set_option maxRecDepth 100000 in
theorem lX0_withdrawDraft {l : Launch} {D : va_G} {K : Nat → ClassId} {p : Program} {e : Env} {s : State} {m : MethodId} {below : List Frame} {meth : Method} {c : Code} {A : Nat → Prop} {args : Array Value} (E : zw_E p s m args c cX0_withdrawDraft 3 RX0 wsX0_withdrawDraft D (zT K) A) (hr : meth.sig.returnType = none) (hlk : meth.locks = false) (ab : Nat → Nat) (b : Bk) (h80 : b.2 0 ≤ 80) : ∀ (n i : Nat), i ≤ b.2 0 → b.2 0 + 1 ≤ i + n → zw_W p l e rmX0_withdrawDraft s m args below meth c 3 D A 0 0 (zw_Qv D A below args s (bk_W K ab (bk_wdraw b))) 4 [(0, .ref (ab 0)), (1, .int (nI ((wd (b.1 8) (nI (b.2 1)) i).1))), (2, .int (nI i))] [] (bk_W K ab (wd_st b i)) := by
  intro n
  induction n with
  | zero => intro i h1 h2; exact absurd h2 (by omega)
  | succ n ih =>
    intro i hle hn
    refine zw_iload_n (i := 2) (x := nI i) E 2 dX0_withdrawDraft_4 rfl rfl (pc' := 5) rfl ?_
    refine zw_aload_n (i := 0) (x := ab 0) E 0 dX0_withdrawDraft_5 rfl rfl (pc' := 6) rfl ?_
    refine zw_get (v := .int (nI (b.2 0))) E 0 11 iX0_withdrawDraft_X0 fX0_withdrawDraft_53 rfl rfl (by decide) rfl rfl dX0_withdrawDraft_6 (pc' := 9) rfl ?_
    refine zw_icmp_ge (tgt := 52) E dX0_withdrawDraft_9 (by decide) (pc' := 12) rfl (fun c_1 => ?_) (fun c_1 => ?_)
    · skip
      have hi : i = b.2 0 := Nat.le_antisymm hle ((nI_leI (by omega) (by omega)).mp c_1)
      refine zw_aload_n (i := 0) (x := ab 0) E 0 dX0_withdrawDraft_52 rfl rfl (pc' := 53) rfl ?_
      refine zw_iload_n (i := 1) (x := nI ((wd (b.1 8) (nI (b.2 1)) i).1)) E 1 dX0_withdrawDraft_53 rfl rfl (pc' := 54) rfl ?_
      refine zw_putf (v := .int (nI ((wd (b.1 8) (nI (b.2 1)) i).1))) (ty := .int) (ws' := (bk_W K ab (bk_sc (wd_st b i) 0 ((wd (b.1 8) (nI (b.2 1)) i).1)))) E 0 11 iX0_withdrawDraft_X0 tyX0_ok nmX0 fX0_withdrawDraft_53 rfl rfl (by decide) rfl rfl rfl rfl rfl (Nat.le_of_ble_eq_true rfl) rfl dX0_withdrawDraft_54 (pc' := 57) rfl ?_
      exact zw_vret E hr hlk dX0_withdrawDraft_57 (by unfold bk_wdraw; rw [hi])
    · skip
      have hlt : i < b.2 0 := Nat.lt_of_not_le (fun h => c_1 (nI_le h (by omega)))
      have hi : i < 80 := by omega
      have hk : (wd (b.1 8) (nI (b.2 1)) i).1 < 80 := Nat.lt_of_le_of_lt (wd_le _ _ i) hi
      refine zw_iload_n (i := 2) (x := nI i) E 2 dX0_withdrawDraft_12 rfl rfl (pc' := 13) rfl ?_
      refine zw_bipush (v := 80) E dX0_withdrawDraft_13 (by decide) (pc' := 15) rfl ?_
      refine zw_icmp_ge (tgt := 52) E dX0_withdrawDraft_15 (by decide) (pc' := 18) rfl (fun c_2 => ?_) (fun c_2 => ?_)
      · exact absurd c_2 (zw_n80 hi)
      · skip
        refine zw_aload_n (i := 0) (x := ab 0) E 0 dX0_withdrawDraft_18 rfl rfl (pc' := 19) rfl ?_
        refine zw_get (v := .ref (ab 9)) E 0 8 iX0_withdrawDraft_X0 fX0_withdrawDraft_36 rfl rfl (by decide) rfl rfl dX0_withdrawDraft_19 (pc' := 22) rfl ?_
        refine zw_iload_n (i := 2) (x := nI i) E 2 dX0_withdrawDraft_22 rfl rfl (pc' := 23) rfl ?_
        refine zw_iald (j := i) (x := (wd_st b i).1 8 i) E 9 0 rfl rfl (vp_in_nI hi (by decide)) (zw_clamp hi (by decide)) rfl dX0_withdrawDraft_23 (pc' := 24) rfl ?_
        refine zw_topi (x' := (wd (b.1 8) (nI (b.2 1)) i).2 i) rfl ?_
        refine zw_aload_n (i := 0) (x := ab 0) E 0 dX0_withdrawDraft_24 rfl rfl (pc' := 25) rfl ?_
        refine zw_get (v := .int (nI (b.2 1))) E 0 12 iX0_withdrawDraft_X0 fX0_withdrawDraft_45 rfl rfl (by decide) rfl rfl dX0_withdrawDraft_25 (pc' := 28) rfl ?_
        refine zw_icmp_eq (tgt := 46) E dX0_withdrawDraft_28 (by decide) (pc' := 31) rfl (fun c_3 => ?_) (fun c_3 => ?_)
        · skip
          refine zw_iinc (x := nI i) (v := nI (i + 1)) (lv' := [(2, .int (nI (i + 1))), (0, .ref (ab 0)), (1, .int (nI ((wd (b.1 8) (nI (b.2 1)) i).1)))]) E 2 dX0_withdrawDraft_46 rfl (zw_inc1 i) (by decide) rfl (pc' := 49) rfl ?_
          refine zw_goto (tgt := 4) E dX0_withdrawDraft_49 (by decide) ?_
          refine zw_ws (ws' := bk_W K ab (wd_st b (i + 1))) (congrArg (bk_W K ab) (wd_st_eq b i c_3).symm) ?_
          have e1 : (wd (b.1 8) (nI (b.2 1)) (i + 1)).1 = (wd (b.1 8) (nI (b.2 1)) i).1 := by rw [wd, if_pos c_3]
          refine zw_sub [1, 2, 0] (lv' := [(0, .ref (ab 0)), (1, .int (nI ((wd (b.1 8) (nI (b.2 1)) i).1))), (2, .int (nI (i + 1)))]) rfl ?_
          rw [← e1]
          exact ih (i + 1) (by omega) (by omega)
        · skip
          refine zw_aload_n (i := 0) (x := ab 0) E 0 dX0_withdrawDraft_31 rfl rfl (pc' := 32) rfl ?_
          refine zw_get (v := .ref (ab 9)) E 0 8 iX0_withdrawDraft_X0 fX0_withdrawDraft_36 rfl rfl (by decide) rfl rfl dX0_withdrawDraft_32 (pc' := 35) rfl ?_
          refine zw_iload_n (i := 1) (x := nI ((wd (b.1 8) (nI (b.2 1)) i).1)) E 1 dX0_withdrawDraft_35 rfl rfl (pc' := 36) rfl ?_
          refine zw_aload_n (i := 0) (x := ab 0) E 0 dX0_withdrawDraft_36 rfl rfl (pc' := 37) rfl ?_
          refine zw_get (v := .ref (ab 9)) E 0 8 iX0_withdrawDraft_X0 fX0_withdrawDraft_36 rfl rfl (by decide) rfl rfl dX0_withdrawDraft_37 (pc' := 40) rfl ?_
          refine zw_iload_n (i := 2) (x := nI i) E 2 dX0_withdrawDraft_40 rfl rfl (pc' := 41) rfl ?_
          refine zw_iald (j := i) (x := (wd_st b i).1 8 i) E 9 0 rfl rfl (vp_in_nI hi (by decide)) (zw_clamp hi (by decide)) rfl dX0_withdrawDraft_41 (pc' := 42) rfl ?_
          refine zw_topi (x' := (wd (b.1 8) (nI (b.2 1)) i).2 i) rfl ?_
          refine zw_iast (j := (wd (b.1 8) (nI (b.2 1)) i).1) (ws' := (bk_W K ab (bk_row (wd_st b i) 8 ((wd (b.1 8) (nI (b.2 1)) i).1) ((wd (b.1 8) (nI (b.2 1)) i).2 i)))) E 9 0 rfl rfl (vp_in_nI hk (by decide)) (zw_clamp hk (by decide)) rfl dX0_withdrawDraft_42 (pc' := 43) rfl ?_
          refine zw_iinc (x := nI ((wd (b.1 8) (nI (b.2 1)) i).1)) (v := nI ((wd (b.1 8) (nI (b.2 1)) i).1 + 1)) (lv' := [(1, .int (nI ((wd (b.1 8) (nI (b.2 1)) i).1 + 1))), (0, .ref (ab 0)), (2, .int (nI i))]) E 1 dX0_withdrawDraft_43 rfl (zw_inc1 ((wd (b.1 8) (nI (b.2 1)) i).1)) (by decide) rfl (pc' := 46) rfl ?_
          refine zw_iinc (x := nI i) (v := nI (i + 1)) (lv' := [(2, .int (nI (i + 1))), (1, .int (nI ((wd (b.1 8) (nI (b.2 1)) i).1 + 1))), (0, .ref (ab 0))]) E 2 dX0_withdrawDraft_46 rfl (zw_inc1 i) (by decide) rfl (pc' := 49) rfl ?_
          refine zw_goto (tgt := 4) E dX0_withdrawDraft_49 (by decide) ?_
          refine zw_ws (ws' := bk_W K ab (wd_st b (i + 1))) (congrArg (bk_W K ab) (wd_st_ne b i c_3)) ?_
          have e1 : (wd (b.1 8) (nI (b.2 1)) (i + 1)).1 = (wd (b.1 8) (nI (b.2 1)) i).1 + 1 := by rw [wd, if_neg c_3]
          refine zw_sub [2, 1, 0] (lv' := [(0, .ref (ab 0)), (1, .int (nI ((wd (b.1 8) (nI (b.2 1)) i).1 + 1))), (2, .int (nI (i + 1)))]) rfl ?_
          rw [← e1]
          exact ih (i + 1) (by omega) (by omega)

set_option maxHeartbeats 4000000 in
set_option maxRecDepth 100000 in
/-- withdrawDraft() -/
theorem qX0_withdrawDraft (l : Launch) (D : va_G) (K : Nat → ClassId) (ab : Nat → Nat) (b : Bk) (h80 : b.2 0 ≤ 80) : zw_V l yX0_withdrawDraft wsX0_withdrawDraft rmX0_withdrawDraft D (zT K) [.ref (ab 0)] (bk_W K ab b) (bk_W K ab (bk_wdraw b)) := by
  refine zw_ofV (cc := cX0_withdrawDraft) (nL := 3) (ret := none) (own := RX0) (lv := [(0, .ref (ab 0))]) (by decide) rfl (Nat.le_of_ble_eq_true rfl) rfl rfl ?_
  intro p e s m below meth c A E hr hlk
  refine zw_iconst (v := 0) E dX0_withdrawDraft_0 (by decide) (pc' := 1) rfl ?_
  refine zw_istore_n (lv' := [(1, .int 0), (0, .ref (ab 0))]) E dX0_withdrawDraft_1 rfl (by decide) rfl (pc' := 2) rfl ?_
  refine zw_iconst (v := 0) E dX0_withdrawDraft_2 (by decide) (pc' := 3) rfl ?_
  refine zw_istore_n (lv' := [(2, .int 0), (1, .int 0), (0, .ref (ab 0))]) E dX0_withdrawDraft_3 rfl (by decide) rfl (pc' := 4) rfl ?_
  refine zw_ws (ws' := bk_W K ab (wd_st b 0)) (congrArg (bk_W K ab) (wd_st_0 b).symm) ?_
  refine zw_sub [2, 1, 0] (lv' := [(0, .ref (ab 0)), (1, .int 0), (2, .int 0)]) rfl ?_
  exact lX0_withdrawDraft E hr hlk ab b h80 (b.2 0 + 1) 0 (Nat.zero_le _) (by omega)

/-- so many new fields -/
def kpr (b : Bk) : Nat → Nat → Nat → Int32
  | 0 => b.1
  | i + 1 => up2 (up2 (kpr b i) 9 (b.2 2 + i) (nI (b.2 1))) 10 (b.2 2 + i) (-1)
def kp (b : Bk) (i : Nat) : Bk := (kpr b i, fun j => if j = 2 then b.2 2 + i else b.2 j)
theorem kp_zero (b : Bk) : kp b 0 = b := by
  refine Prod.ext rfl (funext fun j => ?_)
  show (if j = 2 then b.2 2 + 0 else b.2 j) = b.2 j
  by_cases h : j = 2
  · subst h; rfl
  · rw [if_neg h]
theorem kp_succ (b : Bk) (i : Nat) : bk_sc (bk_row (bk_row (kp b i) 9 (b.2 2 + i) (nI (b.2 1))) 10 (b.2 2 + i) (-1)) 2 (b.2 2 + (i + 1)) = kp b (i + 1) := by
  refine Prod.ext rfl (funext fun j => ?_)
  show (if j = 2 then b.2 2 + (i + 1) else (if j = 2 then b.2 2 + i else b.2 j)) = (if j = 2 then b.2 2 + (i + 1) else b.2 j)
  by_cases h : j = 2
  · rw [if_pos h, if_pos h]
  · rw [if_neg h, if_neg h, if_neg h]
theorem kp_1 (b : Bk) (i : Nat) : (kp b i).2 1 = b.2 1 := rfl
def bk_ends (q : Bk) (x : Int32) : Bk := bk_end (bk_end q (z_at 80 (q.1 2) x) x) (z_at 80 ((bk_end q (z_at 80 (q.1 2) x) x).1 3) x) x
def bk_kept (q : Bk) (x : Int32) : Bk := if z_at 80 (q.1 0) x = 2 then bk_ends q x else if z_at 80 (q.1 0) x = 3 then bk_ends q x else q
def bk_keep (b : Bk) (n : Nat) : Bk := bk_sc (bk_kept (kp b n) (nI (b.2 1))) 1 (b.2 1 + 1)
theorem bk_ends_2 (q : Bk) (x : Int32) : (bk_ends q x).2 = q.2 := rfl
theorem bk_kept_2 (q : Bk) (x : Int32) : (bk_kept q x).2 = q.2 := by
  unfold bk_kept
  split
  · exact bk_ends_2 q x
  · split
    · exact bk_ends_2 q x
    · rfl
theorem fX0_keep_18 : Cond.fieldLink RX0 18 "TitheMap$Book" "first" "[I" ∈ wsX0_keep := by decide +kernel
theorem fX0_keep_21 : Cond.fieldLink RX0 21 "TitheMap$Book" "second" "[I" ∈ wsX0_keep := by decide +kernel
theorem fX0_keep_39 : Cond.fieldLink RX0 39 "TitheMap$Book" "maker" "[I" ∈ wsX0_keep := by decide +kernel
theorem fX0_keep_42 : Cond.fieldLink RX0 42 "TitheMap$Book" "ender" "[I" ∈ wsX0_keep := by decide +kernel
theorem fX0_keep_45 : Cond.fieldLink RX0 45 "TitheMap$Book" "size" "I" ∈ wsX0_keep := by decide +kernel
theorem fX0_keep_60 : Cond.fieldLink RX0 60 "TitheMap$Book" "fields" "I" ∈ wsX0_keep := by decide +kernel
theorem fX0_keep_9 : Cond.fieldLink RX0 9 "TitheMap$Book" "act" "[I" ∈ wsX0_keep := by decide +kernel
theorem iX0_keep_X0 : ∀ w ∈ wsX00, w ∈ wsX0_keep := by decide +kernel
set_option maxHeartbeats 4000000 in
set_option maxRecDepth 100000 in
theorem lX0_keep {l : Launch} {D : va_G} {K : Nat → ClassId} {p : Program} {e : Env} {s : State} {m : MethodId} {below : List Frame} {meth : Method} {c : Code} {A : Nat → Prop} {args : Array Value} (E : zw_E p s m args c cX0_keep 4 RX0 wsX0_keep D (zT K) A) (hr : meth.sig.returnType = some .int) (hlk : meth.locks = false) (ab : Nat → Nat) (b : Bk) (n : Nat) (hs : b.2 1 < 80) (h60 : b.2 2 + n ≤ 60) : ∀ (t i : Nat), i ≤ n → n + 1 ≤ i + t → zw_W p l e rmX0_keep s m args below meth c 4 D A 0 0 (zw_Qi D A below args s (nI (b.2 1)) (bk_W K ab (bk_keep b n))) 7 [(0, .ref (ab 0)), (1, .int (nI n)), (2, .int (nI (b.2 1))), (3, .int (nI i))] [] (bk_W K ab (kp b i)) := by
  intro t
  induction t with
  | zero => intro i h1 h2; exact absurd h2 (by omega)
  | succ t ih =>
    intro i hle hn
    refine zw_iload_n (i := 3) (x := nI i) E 3 dX0_keep_7 rfl rfl (pc' := 8) rfl ?_
    refine zw_iload_n (i := 1) (x := nI n) E 1 dX0_keep_8 rfl rfl (pc' := 9) rfl ?_
    refine zw_icmp_ge (tgt := 57) E dX0_keep_9 (by decide) (pc' := 12) rfl (fun c_1 => ?_) (fun c_1 => ?_)
    · skip
      have hi : i = n := Nat.le_antisymm hle ((nI_leI (by omega) (by omega)).mp c_1)
      refine zw_aload_n (i := 0) (x := ab 0) E 0 dX0_keep_57 rfl rfl (pc' := 58) rfl ?_
      refine zw_get (v := .ref (ab 1)) E 0 0 iX0_keep_X0 fX0_keep_9 rfl rfl (by decide) rfl rfl dX0_keep_58 (pc' := 61) rfl ?_
      refine zw_iload_n (i := 2) (x := nI (b.2 1)) E 2 dX0_keep_61 rfl rfl (pc' := 62) rfl ?_
      refine zw_callIn E (r := z_at 80 ((kp b i).1 0) (nI (b.2 1))) (As := [.ref (ab 1), .int (nI (b.2 1))]) (rest := []) (ws' := (bk_W K ab (kp b i))) (qX2_at l D K (ab 1) 80 ((kp b i).1 0) (nI (b.2 1)) (by decide)) ⟨va_cnB 2 E.2.2.2.2.1 gX0_keep_X2_at_n56 rfl rfl rfl E.2.2.2.2.2.2.2.2.1 (E.2.2.2.2.1 _ (by decide +kernel)) (by decide +kernel) ⟨Nat.le_of_ble_eq_true rfl, Nat.le_of_ble_eq_true rfl⟩, E.2.2.2.2.1 _ (by decide +kernel), trivial⟩ [1] (by decide) rfl rfl (zw_put_same _ _ _ rfl) rfl rfl (Nat.le_of_ble_eq_true rfl) ⟨Nat.zero_le _, Nat.zero_le _⟩ dX0_keep_62 (pc' := 65) rfl ?_
      refine zw_istore_n (lv' := [(3, .int (z_at 80 ((kp b i).1 0) (nI (b.2 1)))), (0, .ref (ab 0)), (1, .int (nI n)), (2, .int (nI (b.2 1)))]) E dX0_keep_65 rfl (by decide) rfl (pc' := 66) rfl ?_
      refine zw_iload_n (i := 3) (x := z_at 80 ((kp b i).1 0) (nI (b.2 1))) E 0 dX0_keep_66 rfl rfl (pc' := 67) rfl ?_
      refine zw_iconst (v := 2) E dX0_keep_67 (by decide) (pc' := 68) rfl ?_
      refine zw_icmp_eq (tgt := 76) E dX0_keep_68 (by decide) (pc' := 71) rfl (fun c_2 => ?_) (fun c_2 => ?_)
      · skip
        refine zw_aload_n (i := 0) (x := ab 0) E 1 dX0_keep_76 rfl rfl (pc' := 77) rfl ?_
        refine zw_aload_n (i := 0) (x := ab 0) E 1 dX0_keep_77 rfl rfl (pc' := 78) rfl ?_
        refine zw_get (v := .ref (ab 3)) E 0 2 iX0_keep_X0 fX0_keep_18 rfl rfl (by decide) rfl rfl dX0_keep_78 (pc' := 81) rfl ?_
        refine zw_iload_n (i := 2) (x := nI (b.2 1)) E 3 dX0_keep_81 rfl rfl (pc' := 82) rfl ?_
        refine zw_callIn E (r := z_at 80 ((kp b i).1 2) (nI (b.2 1))) (As := [.ref (ab 3), .int (nI (b.2 1))]) (rest := [.ref (ab 0)]) (ws' := (bk_W K ab (kp b i))) (qX2_at l D K (ab 3) 80 ((kp b i).1 2) (nI (b.2 1)) (by decide)) ⟨va_cnB 2 E.2.2.2.2.1 gX0_keep_X2_at_n56 rfl rfl rfl E.2.2.2.2.2.2.2.2.1 (E.2.2.2.2.1 _ (by decide +kernel)) (by decide +kernel) ⟨Nat.le_of_ble_eq_true rfl, Nat.le_of_ble_eq_true rfl⟩, E.2.2.2.2.1 _ (by decide +kernel), trivial⟩ [3] (by decide) rfl rfl (zw_put_same _ _ _ rfl) rfl rfl (Nat.le_of_ble_eq_true rfl) ⟨Nat.zero_le _, Nat.zero_le _⟩ dX0_keep_82 (pc' := 85) rfl ?_
        refine zw_iload_n (i := 2) (x := nI (b.2 1)) E 3 dX0_keep_85 rfl rfl (pc' := 86) rfl ?_
        refine zw_callVw E (As := [.int (z_at 80 ((kp b i).1 2) (nI (b.2 1))), .int (nI (b.2 1))]) (rest := []) (ws' := (bk_W K ab (bk_end (kp b i) (z_at 80 ((kp b i).1 2) (nI (b.2 1))) (nI (b.2 1))))) (qX0_end l D K ab (kp b i) (z_at 80 ((kp b i).1 2) (nI (b.2 1))) (nI (b.2 1))) (cwV 2 E.2.2.2.2.1 gX0_keep_X0_end rfl rfl rfl (by decide +kernel) ⟨Nat.le_of_ble_eq_true rfl, Nat.le_of_ble_eq_true rfl⟩) 0 rfl rfl rfl (bk_ad _ _ _ _) rfl rfl (Nat.le_of_ble_eq_true rfl) ⟨Nat.zero_le _, Nat.zero_le _⟩ dX0_keep_86 (pc' := 89) rfl ?_
        refine zw_gen_bk_b (bk_end (kp b i) (z_at 80 ((kp b i).1 2) (nI (b.2 1))) (nI (b.2 1))) (fun q0 hq0 => ?_)
        have hz : q0.2 1 = b.2 1 := by rw [← hq0, bk_end_2]; rfl
        refine zw_aload_n (i := 0) (x := ab 0) E 1 dX0_keep_89 rfl rfl (pc' := 90) rfl ?_
        refine zw_aload_n (i := 0) (x := ab 0) E 1 dX0_keep_90 rfl rfl (pc' := 91) rfl ?_
        refine zw_get (v := .ref (ab 4)) E 0 3 iX0_keep_X0 fX0_keep_21 rfl rfl (by decide) rfl rfl dX0_keep_91 (pc' := 94) rfl ?_
        refine zw_iload_n (i := 2) (x := nI (b.2 1)) E 3 dX0_keep_94 rfl rfl (pc' := 95) rfl ?_
        refine zw_callIn E (r := z_at 80 (q0.1 3) (nI (b.2 1))) (As := [.ref (ab 4), .int (nI (b.2 1))]) (rest := [.ref (ab 0)]) (ws' := (bk_W K ab q0)) (qX2_at l D K (ab 4) 80 (q0.1 3) (nI (b.2 1)) (by decide)) ⟨va_cnB 2 E.2.2.2.2.1 gX0_keep_X2_at_n56 rfl rfl rfl E.2.2.2.2.2.2.2.2.1 (E.2.2.2.2.1 _ (by decide +kernel)) (by decide +kernel) ⟨Nat.le_of_ble_eq_true rfl, Nat.le_of_ble_eq_true rfl⟩, E.2.2.2.2.1 _ (by decide +kernel), trivial⟩ [4] (by decide) rfl rfl (zw_put_same _ _ _ rfl) rfl rfl (Nat.le_of_ble_eq_true rfl) ⟨Nat.zero_le _, Nat.zero_le _⟩ dX0_keep_95 (pc' := 98) rfl ?_
        refine zw_iload_n (i := 2) (x := nI (b.2 1)) E 3 dX0_keep_98 rfl rfl (pc' := 99) rfl ?_
        refine zw_callVw E (As := [.int (z_at 80 (q0.1 3) (nI (b.2 1))), .int (nI (b.2 1))]) (rest := []) (ws' := (bk_W K ab (bk_end q0 (z_at 80 (q0.1 3) (nI (b.2 1))) (nI (b.2 1))))) (qX0_end l D K ab q0 (z_at 80 (q0.1 3) (nI (b.2 1))) (nI (b.2 1))) (cwV 2 E.2.2.2.2.1 gX0_keep_X0_end rfl rfl rfl (by decide +kernel) ⟨Nat.le_of_ble_eq_true rfl, Nat.le_of_ble_eq_true rfl⟩) 0 rfl rfl rfl (bk_ad _ _ _ _) rfl rfl (Nat.le_of_ble_eq_true rfl) ⟨Nat.zero_le _, Nat.zero_le _⟩ dX0_keep_99 (pc' := 102) rfl ?_
        refine zw_gen_bk_b (bk_end q0 (z_at 80 (q0.1 3) (nI (b.2 1))) (nI (b.2 1))) (fun q hq => ?_)
        have hq1 : q.2 1 = b.2 1 := by rw [← hq, bk_end_2]; exact hz
        refine zw_aload_n (i := 0) (x := ab 0) E 1 dX0_keep_102 rfl rfl (pc' := 103) rfl ?_
        refine zw_dup E dX0_keep_103 rfl (pc' := 104) rfl ?_
        refine zw_get (v := .int (nI (q.2 1))) E 0 12 iX0_keep_X0 fX0_keep_45 rfl rfl (by decide) rfl rfl dX0_keep_104 (pc' := 107) rfl ?_
        refine zw_topi (x' := nI (b.2 1)) (congrArg nI hq1) ?_
        refine zw_iconst (v := 1) E dX0_keep_107 (by decide) (pc' := 108) rfl ?_
        refine zw_iadd E dX0_keep_108 (pc' := 109) rfl ?_
        refine zw_topi (x' := nI (b.2 1 + 1)) (nI_1 (b.2 1)) ?_
        refine zw_putf (v := .int (nI (b.2 1 + 1))) (ty := .int) (ws' := (bk_W K ab (bk_sc q 1 (b.2 1 + 1)))) E 0 12 iX0_keep_X0 tyX0_ok nmX0 fX0_keep_45 rfl rfl (by decide) rfl rfl rfl rfl rfl (Nat.le_of_ble_eq_true rfl) rfl dX0_keep_109 (pc' := 112) rfl ?_
        refine zw_iload_n (i := 2) (x := nI (b.2 1)) E 3 dX0_keep_112 rfl rfl (pc' := 113) rfl ?_
        exact zw_iret E hr hlk dX0_keep_113 rfl (by unfold bk_keep bk_kept bk_ends; rw [← hi, if_pos c_2, hq0, hq])
      · skip
        refine zw_iload_n (i := 3) (x := z_at 80 ((kp b i).1 0) (nI (b.2 1))) E 0 dX0_keep_71 rfl rfl (pc' := 72) rfl ?_
        refine zw_iconst (v := 3) E dX0_keep_72 (by decide) (pc' := 73) rfl ?_
        refine zw_icmp_ne (tgt := 102) E dX0_keep_73 (by decide) (pc' := 76) rfl (fun c_3 => ?_) (fun c_3 => ?_)
        · skip
          refine zw_aload_n (i := 0) (x := ab 0) E 1 dX0_keep_102 rfl rfl (pc' := 103) rfl ?_
          refine zw_dup E dX0_keep_103 rfl (pc' := 104) rfl ?_
          refine zw_get (v := .int (nI (b.2 1))) E 0 12 iX0_keep_X0 fX0_keep_45 rfl rfl (by decide) rfl rfl dX0_keep_104 (pc' := 107) rfl ?_
          refine zw_topi (x' := nI (b.2 1)) rfl ?_
          refine zw_iconst (v := 1) E dX0_keep_107 (by decide) (pc' := 108) rfl ?_
          refine zw_iadd E dX0_keep_108 (pc' := 109) rfl ?_
          refine zw_topi (x' := nI (b.2 1 + 1)) (nI_1 (b.2 1)) ?_
          refine zw_putf (v := .int (nI (b.2 1 + 1))) (ty := .int) (ws' := (bk_W K ab (bk_sc (kp b i) 1 (b.2 1 + 1)))) E 0 12 iX0_keep_X0 tyX0_ok nmX0 fX0_keep_45 rfl rfl (by decide) rfl rfl rfl rfl rfl (Nat.le_of_ble_eq_true rfl) rfl dX0_keep_109 (pc' := 112) rfl ?_
          refine zw_iload_n (i := 2) (x := nI (b.2 1)) E 3 dX0_keep_112 rfl rfl (pc' := 113) rfl ?_
          exact zw_iret E hr hlk dX0_keep_113 rfl (by unfold bk_keep bk_kept; rw [← hi, if_neg c_2, if_neg c_3])
        · skip
          refine zw_aload_n (i := 0) (x := ab 0) E 1 dX0_keep_76 rfl rfl (pc' := 77) rfl ?_
          refine zw_aload_n (i := 0) (x := ab 0) E 1 dX0_keep_77 rfl rfl (pc' := 78) rfl ?_
          refine zw_get (v := .ref (ab 3)) E 0 2 iX0_keep_X0 fX0_keep_18 rfl rfl (by decide) rfl rfl dX0_keep_78 (pc' := 81) rfl ?_
          refine zw_iload_n (i := 2) (x := nI (b.2 1)) E 3 dX0_keep_81 rfl rfl (pc' := 82) rfl ?_
          refine zw_callIn E (r := z_at 80 ((kp b i).1 2) (nI (b.2 1))) (As := [.ref (ab 3), .int (nI (b.2 1))]) (rest := [.ref (ab 0)]) (ws' := (bk_W K ab (kp b i))) (qX2_at l D K (ab 3) 80 ((kp b i).1 2) (nI (b.2 1)) (by decide)) ⟨va_cnB 2 E.2.2.2.2.1 gX0_keep_X2_at_n56 rfl rfl rfl E.2.2.2.2.2.2.2.2.1 (E.2.2.2.2.1 _ (by decide +kernel)) (by decide +kernel) ⟨Nat.le_of_ble_eq_true rfl, Nat.le_of_ble_eq_true rfl⟩, E.2.2.2.2.1 _ (by decide +kernel), trivial⟩ [3] (by decide) rfl rfl (zw_put_same _ _ _ rfl) rfl rfl (Nat.le_of_ble_eq_true rfl) ⟨Nat.zero_le _, Nat.zero_le _⟩ dX0_keep_82 (pc' := 85) rfl ?_
          refine zw_iload_n (i := 2) (x := nI (b.2 1)) E 3 dX0_keep_85 rfl rfl (pc' := 86) rfl ?_
          refine zw_callVw E (As := [.int (z_at 80 ((kp b i).1 2) (nI (b.2 1))), .int (nI (b.2 1))]) (rest := []) (ws' := (bk_W K ab (bk_end (kp b i) (z_at 80 ((kp b i).1 2) (nI (b.2 1))) (nI (b.2 1))))) (qX0_end l D K ab (kp b i) (z_at 80 ((kp b i).1 2) (nI (b.2 1))) (nI (b.2 1))) (cwV 2 E.2.2.2.2.1 gX0_keep_X0_end rfl rfl rfl (by decide +kernel) ⟨Nat.le_of_ble_eq_true rfl, Nat.le_of_ble_eq_true rfl⟩) 0 rfl rfl rfl (bk_ad _ _ _ _) rfl rfl (Nat.le_of_ble_eq_true rfl) ⟨Nat.zero_le _, Nat.zero_le _⟩ dX0_keep_86 (pc' := 89) rfl ?_
          refine zw_gen_bk_b (bk_end (kp b i) (z_at 80 ((kp b i).1 2) (nI (b.2 1))) (nI (b.2 1))) (fun q0 hq0 => ?_)
          have hz : q0.2 1 = b.2 1 := by rw [← hq0, bk_end_2]; rfl
          refine zw_aload_n (i := 0) (x := ab 0) E 1 dX0_keep_89 rfl rfl (pc' := 90) rfl ?_
          refine zw_aload_n (i := 0) (x := ab 0) E 1 dX0_keep_90 rfl rfl (pc' := 91) rfl ?_
          refine zw_get (v := .ref (ab 4)) E 0 3 iX0_keep_X0 fX0_keep_21 rfl rfl (by decide) rfl rfl dX0_keep_91 (pc' := 94) rfl ?_
          refine zw_iload_n (i := 2) (x := nI (b.2 1)) E 3 dX0_keep_94 rfl rfl (pc' := 95) rfl ?_
          refine zw_callIn E (r := z_at 80 (q0.1 3) (nI (b.2 1))) (As := [.ref (ab 4), .int (nI (b.2 1))]) (rest := [.ref (ab 0)]) (ws' := (bk_W K ab q0)) (qX2_at l D K (ab 4) 80 (q0.1 3) (nI (b.2 1)) (by decide)) ⟨va_cnB 2 E.2.2.2.2.1 gX0_keep_X2_at_n56 rfl rfl rfl E.2.2.2.2.2.2.2.2.1 (E.2.2.2.2.1 _ (by decide +kernel)) (by decide +kernel) ⟨Nat.le_of_ble_eq_true rfl, Nat.le_of_ble_eq_true rfl⟩, E.2.2.2.2.1 _ (by decide +kernel), trivial⟩ [4] (by decide) rfl rfl (zw_put_same _ _ _ rfl) rfl rfl (Nat.le_of_ble_eq_true rfl) ⟨Nat.zero_le _, Nat.zero_le _⟩ dX0_keep_95 (pc' := 98) rfl ?_
          refine zw_iload_n (i := 2) (x := nI (b.2 1)) E 3 dX0_keep_98 rfl rfl (pc' := 99) rfl ?_
          refine zw_callVw E (As := [.int (z_at 80 (q0.1 3) (nI (b.2 1))), .int (nI (b.2 1))]) (rest := []) (ws' := (bk_W K ab (bk_end q0 (z_at 80 (q0.1 3) (nI (b.2 1))) (nI (b.2 1))))) (qX0_end l D K ab q0 (z_at 80 (q0.1 3) (nI (b.2 1))) (nI (b.2 1))) (cwV 2 E.2.2.2.2.1 gX0_keep_X0_end rfl rfl rfl (by decide +kernel) ⟨Nat.le_of_ble_eq_true rfl, Nat.le_of_ble_eq_true rfl⟩) 0 rfl rfl rfl (bk_ad _ _ _ _) rfl rfl (Nat.le_of_ble_eq_true rfl) ⟨Nat.zero_le _, Nat.zero_le _⟩ dX0_keep_99 (pc' := 102) rfl ?_
          refine zw_gen_bk_b (bk_end q0 (z_at 80 (q0.1 3) (nI (b.2 1))) (nI (b.2 1))) (fun q hq => ?_)
          have hq1 : q.2 1 = b.2 1 := by rw [← hq, bk_end_2]; exact hz
          refine zw_aload_n (i := 0) (x := ab 0) E 1 dX0_keep_102 rfl rfl (pc' := 103) rfl ?_
          refine zw_dup E dX0_keep_103 rfl (pc' := 104) rfl ?_
          refine zw_get (v := .int (nI (q.2 1))) E 0 12 iX0_keep_X0 fX0_keep_45 rfl rfl (by decide) rfl rfl dX0_keep_104 (pc' := 107) rfl ?_
          refine zw_topi (x' := nI (b.2 1)) (congrArg nI hq1) ?_
          refine zw_iconst (v := 1) E dX0_keep_107 (by decide) (pc' := 108) rfl ?_
          refine zw_iadd E dX0_keep_108 (pc' := 109) rfl ?_
          refine zw_topi (x' := nI (b.2 1 + 1)) (nI_1 (b.2 1)) ?_
          refine zw_putf (v := .int (nI (b.2 1 + 1))) (ty := .int) (ws' := (bk_W K ab (bk_sc q 1 (b.2 1 + 1)))) E 0 12 iX0_keep_X0 tyX0_ok nmX0 fX0_keep_45 rfl rfl (by decide) rfl rfl rfl rfl rfl (Nat.le_of_ble_eq_true rfl) rfl dX0_keep_109 (pc' := 112) rfl ?_
          refine zw_iload_n (i := 2) (x := nI (b.2 1)) E 3 dX0_keep_112 rfl rfl (pc' := 113) rfl ?_
          exact zw_iret E hr hlk dX0_keep_113 rfl (by unfold bk_keep bk_kept bk_ends; rw [← hi, if_neg c_2, if_pos c_3, hq0, hq])
    · skip
      have hlt : i < n := Nat.lt_of_not_le (fun h => c_1 (nI_le h (by omega)))
      have hf : b.2 2 + i < 60 := by omega
      refine zw_aload_n (i := 0) (x := ab 0) E 0 dX0_keep_12 rfl rfl (pc' := 13) rfl ?_
      refine zw_get (v := .int (nI (b.2 2 + i))) E 0 13 iX0_keep_X0 fX0_keep_60 rfl rfl (by decide) rfl rfl dX0_keep_13 (pc' := 16) rfl ?_
      refine zw_bipush (v := 60) E dX0_keep_16 (by decide) (pc' := 18) rfl ?_
      refine zw_icmp_ge (tgt := 57) E dX0_keep_18 (by decide) (pc' := 21) rfl (fun c_4 => ?_) (fun c_4 => ?_)
      · exact absurd c_4 (zw_n60 hf)
      · skip
        refine zw_aload_n (i := 0) (x := ab 0) E 0 dX0_keep_21 rfl rfl (pc' := 22) rfl ?_
        refine zw_get (v := .ref (ab 10)) E 0 9 iX0_keep_X0 fX0_keep_39 rfl rfl (by decide) rfl rfl dX0_keep_22 (pc' := 25) rfl ?_
        refine zw_aload_n (i := 0) (x := ab 0) E 0 dX0_keep_25 rfl rfl (pc' := 26) rfl ?_
        refine zw_get (v := .int (nI (b.2 2 + i))) E 0 13 iX0_keep_X0 fX0_keep_60 rfl rfl (by decide) rfl rfl dX0_keep_26 (pc' := 29) rfl ?_
        refine zw_iload_n (i := 2) (x := nI (b.2 1)) E 2 dX0_keep_29 rfl rfl (pc' := 30) rfl ?_
        refine zw_iast (j := b.2 2 + i) (ws' := (bk_W K ab (bk_row (kp b i) 9 (b.2 2 + i) (nI (b.2 1))))) E 10 0 rfl rfl (vp_in_nI hf (by decide)) (zw_clamp hf (by decide)) rfl dX0_keep_30 (pc' := 31) rfl ?_
        refine zw_aload_n (i := 0) (x := ab 0) E 0 dX0_keep_31 rfl rfl (pc' := 32) rfl ?_
        refine zw_get (v := .ref (ab 11)) E 0 10 iX0_keep_X0 fX0_keep_42 rfl rfl (by decide) rfl rfl dX0_keep_32 (pc' := 35) rfl ?_
        refine zw_aload_n (i := 0) (x := ab 0) E 0 dX0_keep_35 rfl rfl (pc' := 36) rfl ?_
        refine zw_get (v := .int (nI (b.2 2 + i))) E 0 13 iX0_keep_X0 fX0_keep_60 rfl rfl (by decide) rfl rfl dX0_keep_36 (pc' := 39) rfl ?_
        refine zw_iconst (v := (-1)) E dX0_keep_39 (by decide) (pc' := 40) rfl ?_
        refine zw_iast (j := b.2 2 + i) (ws' := (bk_W K ab (bk_row (bk_row (kp b i) 9 (b.2 2 + i) (nI (b.2 1))) 10 (b.2 2 + i) (-1)))) E 11 0 rfl rfl (vp_in_nI hf (by decide)) (zw_clamp hf (by decide)) rfl dX0_keep_40 (pc' := 41) rfl ?_
        refine zw_aload_n (i := 0) (x := ab 0) E 0 dX0_keep_41 rfl rfl (pc' := 42) rfl ?_
        refine zw_dup E dX0_keep_42 rfl (pc' := 43) rfl ?_
        refine zw_get (v := .int (nI (b.2 2 + i))) E 0 13 iX0_keep_X0 fX0_keep_60 rfl rfl (by decide) rfl rfl dX0_keep_43 (pc' := 46) rfl ?_
        refine zw_iconst (v := 1) E dX0_keep_46 (by decide) (pc' := 47) rfl ?_
        refine zw_iadd E dX0_keep_47 (pc' := 48) rfl ?_
        refine zw_topi (x' := nI (b.2 2 + (i + 1))) (nI_1 (b.2 2 + i)) ?_
        refine zw_putf (v := .int (nI (b.2 2 + (i + 1)))) (ty := .int) (ws' := (bk_W K ab (bk_sc (bk_row (bk_row (kp b i) 9 (b.2 2 + i) (nI (b.2 1))) 10 (b.2 2 + i) (-1)) 2 (b.2 2 + (i + 1))))) E 0 13 iX0_keep_X0 tyX0_ok nmX0 fX0_keep_60 rfl rfl (by decide) rfl rfl rfl rfl rfl (Nat.le_of_ble_eq_true rfl) rfl dX0_keep_48 (pc' := 51) rfl ?_
        refine zw_iinc (x := nI i) (v := nI (i + 1)) (lv' := [(3, .int (nI (i + 1))), (0, .ref (ab 0)), (1, .int (nI n)), (2, .int (nI (b.2 1)))]) E 3 dX0_keep_51 rfl (zw_inc1 i) (by decide) rfl (pc' := 54) rfl ?_
        refine zw_goto (tgt := 7) E dX0_keep_54 (by decide) ?_
        refine zw_ws (ws' := bk_W K ab (kp b (i + 1))) (congrArg (bk_W K ab) (kp_succ b i)) ?_
        refine zw_sub [1, 2, 3, 0] (lv' := [(0, .ref (ab 0)), (1, .int (nI n)), (2, .int (nI (b.2 1))), (3, .int (nI (i + 1)))]) rfl ?_
        exact ih (i + 1) (by omega) (by omega)

set_option maxHeartbeats 4000000 in
set_option maxRecDepth 100000 in
/-- keep(newFields) -/
theorem qX0_keep (l : Launch) (D : va_G) (K : Nat → ClassId) (ab : Nat → Nat) (b : Bk) (n : Nat) (hs : b.2 1 < 80) (h60 : b.2 2 + n ≤ 60) : zw_I l yX0_keep wsX0_keep rmX0_keep D (zT K) [.ref (ab 0), .int (nI n)] (bk_W K ab b) (nI (b.2 1)) (bk_W K ab (bk_keep b n)) := by
  refine zw_ofI (cc := cX0_keep) (nL := 4) (ret := (some .int)) (own := RX0) (lv := [(0, .ref (ab 0)), (1, .int (nI n))]) (by decide) rfl (Nat.le_of_ble_eq_true rfl) rfl rfl ?_
  intro p e s m below meth c A E hr hlk
  refine zw_aload_n (i := 0) (x := ab 0) E 0 dX0_keep_0 rfl rfl (pc' := 1) rfl ?_
  refine zw_get (v := .int (nI (b.2 1))) E 0 12 iX0_keep_X0 fX0_keep_45 rfl rfl (by decide) rfl rfl dX0_keep_1 (pc' := 4) rfl ?_
  refine zw_istore_n (lv' := [(2, .int (nI (b.2 1))), (0, .ref (ab 0)), (1, .int (nI n))]) E dX0_keep_4 rfl (by decide) rfl (pc' := 5) rfl ?_
  refine zw_iconst (v := 0) E dX0_keep_5 (by decide) (pc' := 6) rfl ?_
  refine zw_istore_n (lv' := [(3, .int 0), (2, .int (nI (b.2 1))), (0, .ref (ab 0)), (1, .int (nI n))]) E dX0_keep_6 rfl (by decide) rfl (pc' := 7) rfl ?_
  refine zw_ws (ws' := bk_W K ab (kp b 0)) (congrArg (bk_W K ab) (kp_zero b).symm) ?_
  refine zw_sub [2, 3, 1, 0] (lv' := [(0, .ref (ab 0)), (1, .int (nI n)), (2, .int (nI (b.2 1))), (3, .int 0)]) rfl ?_
  exact lX0_keep E hr hlk ab b n hs h60 (n + 1) 0 (Nat.zero_le _) (by omega)
end
section
/-! the book: mean -/
def zp : Nat → Int32
  | 0 => -1
  | j + 1 => nI j
theorem zp_dec (j : Nat) : nI j + Int32.ofInt (-1) = zp j := by
  cases j with
  | zero => decide
  | succ j => exact zw_dec1 j
theorem zp_sub (n : Nat) : nI n - 1 = zp n := by
  cases n with
  | zero => decide
  | succ j => exact nI_pred j
/-- the average, from the entries below j, with so much summed, so many years, these bits seen -/
def mn (b : Bk) (y corn : Int32) : Nat → Int32 → Nat → Int32 → Int32
  | 0, sm, ys, _ => if nI ys = 0 then -1 else (2 * sm + nI ys) / (2 * nI ys)
  | j + 1, sm, ys, sn =>
    if b.1 0 j = 0 then if b.1 2 j = corn then if y - b.1 1 j < 1 then mn b y corn j sm ys sn else if 7 < y - b.1 1 j then mn b y corn j sm ys sn else
      if (sn >>> ((y - b.1 1 j) &&& 31)) &&& 1 = 0 then mn b y corn j (sm + b.1 4 j) (ys + 1) (sn ||| 1 <<< ((y - b.1 1 j) &&& 31)) else mn b y corn j sm ys sn
    else mn b y corn j sm ys sn else mn b y corn j sm ys sn
theorem mn_div {ys : Nat} (h : ys ≤ 80) (h0 : ¬ nI ys = 0) : ¬ (2 : Int32) * nI ys = 0 := by
  rw [show (2 : Int32) = nI 2 from rfl, pk_mul]
  have : ys ≠ 0 := fun q => h0 (by rw [q]; rfl)
  exact nI_ne0 (by omega) (by omega)
def bk_mean (b : Bk) (k : Nat) (y corn : Int32) : Int32 := mn b y corn k 0 0 0
theorem fX0_mean_15 : Cond.fieldLink RX0 15 "TitheMap$Book" "year" "[I" ∈ wsX0_mean := by decide +kernel
theorem fX0_mean_18 : Cond.fieldLink RX0 18 "TitheMap$Book" "first" "[I" ∈ wsX0_mean := by decide +kernel
theorem fX0_mean_24 : Cond.fieldLink RX0 24 "TitheMap$Book" "amount" "[I" ∈ wsX0_mean := by decide +kernel
theorem fX0_mean_9 : Cond.fieldLink RX0 9 "TitheMap$Book" "act" "[I" ∈ wsX0_mean := by decide +kernel
theorem iX0_mean_X0 : ∀ w ∈ wsX00, w ∈ wsX0_mean := by decide +kernel
set_option maxHeartbeats 4000000 in
set_option maxRecDepth 100000 in
theorem lX0_mean {l : Launch} {D : va_G} {K : Nat → ClassId} {p : Program} {e : Env} {s : State} {m : MethodId} {below : List Frame} {meth : Method} {c : Code} {A : Nat → Prop} {args : Array Value} (E : zw_E p s m args c cX0_mean 9 RX0 wsX0_mean D (zT K) A) (hr : meth.sig.returnType = some .int) (hlk : meth.locks = false) (ab : Nat → Nat) (b : Bk) (n : Nat) (hn : n ≤ 80) (y corn : Int32) : ∀ (j : Nat) (sm : Int32) (ys : Nat) (sn : Int32), ys + j ≤ n → zw_W p l e rmX0_mean s m args below meth c 9 D A 0 0 (zw_Qi D A below args s (mn b y corn j sm ys sn) (bk_W K ab b)) 19 [(0, .ref (ab 0)), (1, .int (nI n)), (2, .int y), (3, .int corn), (4, .int sm), (5, .int (nI ys)), (6, .int sn), (7, .int (zp j))] [] (bk_W K ab b) := by
  intro j
  induction j with
  | zero =>
    intro sm ys sn hle
    refine zw_iload (x := zp 0) E 7 dX0_mean_19 rfl (pc' := 21) rfl ?_
    refine zw_if_lt (tgt := 109) E dX0_mean_21 (by decide) (pc' := 24) rfl (fun c_1 => ?_) (fun c_1 => ?_)
    · skip
      refine zw_iload (x := nI ys) E 5 dX0_mean_109 rfl (pc' := 111) rfl ?_
      refine zw_if_ne (tgt := 118) E dX0_mean_111 (by decide) (pc' := 114) rfl (fun c_2 => ?_) (fun c_2 => ?_)
      · skip
        refine zw_iconst (v := 2) E dX0_mean_118 (by decide) (pc' := 119) rfl ?_
        refine zw_iload (x := sm) E 4 dX0_mean_119 rfl (pc' := 121) rfl ?_
        refine zw_imul E dX0_mean_121 (pc' := 122) rfl ?_
        refine zw_iload (x := nI ys) E 5 dX0_mean_122 rfl (pc' := 124) rfl ?_
        refine zw_iadd E dX0_mean_124 (pc' := 125) rfl ?_
        refine zw_iconst (v := 2) E dX0_mean_125 (by decide) (pc' := 126) rfl ?_
        refine zw_iload (x := nI ys) E 5 dX0_mean_126 rfl (pc' := 128) rfl ?_
        refine zw_imul E dX0_mean_128 (pc' := 129) rfl ?_
        refine zw_idiv E dX0_mean_129 (mn_div (by omega) c_2) (pc' := 130) rfl ?_
        exact zw_iret E hr hlk dX0_mean_130 (by rw [mn, if_neg c_2]) rfl
      · skip
        refine zw_iconst (v := (-1)) E dX0_mean_114 (by decide) (pc' := 115) rfl ?_
        refine zw_goto (tgt := 130) E dX0_mean_115 (by decide) ?_
        exact zw_iret E hr hlk dX0_mean_130 (by rw [mn, if_pos c_2]) rfl
    · exact absurd (by decide) c_1
  | succ j ih =>
    intro sm ys sn hle
    have hj : j < 80 := by omega
    show zw_W p l e rmX0_mean s m args below meth c 9 D A 0 0 (zw_Qi D A below args s (mn b y corn (j + 1) sm ys sn) (bk_W K ab b)) 19 [(0, .ref (ab 0)), (1, .int (nI n)), (2, .int y), (3, .int corn), (4, .int sm), (5, .int (nI ys)), (6, .int sn), (7, .int (nI j))] [] (bk_W K ab b)
    refine zw_iload (x := nI j) E 7 dX0_mean_19 rfl (pc' := 21) rfl ?_
    refine zw_if_lt (tgt := 109) E dX0_mean_21 (by decide) (pc' := 24) rfl (fun c_1 => ?_) (fun c_1 => ?_)
    · exact absurd c_1 (nI_pos (by omega))
    · skip
      refine zw_iload_n (i := 2) (x := y) E 2 dX0_mean_24 rfl rfl (pc' := 25) rfl ?_
      refine zw_aload_n (i := 0) (x := ab 0) E 0 dX0_mean_25 rfl rfl (pc' := 26) rfl ?_
      refine zw_get (v := .ref (ab 2)) E 0 1 iX0_mean_X0 fX0_mean_15 rfl rfl (by decide) rfl rfl dX0_mean_26 (pc' := 29) rfl ?_
      refine zw_iload (x := nI j) E 7 dX0_mean_29 rfl (pc' := 31) rfl ?_
      refine zw_iald (j := j) (x := b.1 1 j) E 2 0 rfl rfl (vp_in_nI hj (by decide)) (zw_clamp hj (by decide)) rfl dX0_mean_31 (pc' := 32) rfl ?_
      refine zw_isub E dX0_mean_32 (pc' := 33) rfl ?_
      refine zw_istore (lv' := [(8, .int (y - (b.1 1 j))), (0, .ref (ab 0)), (1, .int (nI n)), (2, .int y), (3, .int corn), (4, .int sm), (5, .int (nI ys)), (6, .int sn), (7, .int (nI j))]) E dX0_mean_33 (by decide) rfl (pc' := 35) rfl ?_
      refine zw_aload_n (i := 0) (x := ab 0) E 1 dX0_mean_35 rfl rfl (pc' := 36) rfl ?_
      refine zw_get (v := .ref (ab 1)) E 0 0 iX0_mean_X0 fX0_mean_9 rfl rfl (by decide) rfl rfl dX0_mean_36 (pc' := 39) rfl ?_
      refine zw_iload (x := nI j) E 8 dX0_mean_39 rfl (pc' := 41) rfl ?_
      refine zw_iald (j := j) (x := b.1 0 j) E 1 0 rfl rfl (vp_in_nI hj (by decide)) (zw_clamp hj (by decide)) rfl dX0_mean_41 (pc' := 42) rfl ?_
      refine zw_if_ne (tgt := 103) E dX0_mean_42 (by decide) (pc' := 45) rfl (fun c_2 => ?_) (fun c_2 => ?_)
      · skip
        refine zw_iinc (x := nI j) (v := zp j) (lv' := [(7, .int (zp j)), (8, .int (y - (b.1 1 j))), (0, .ref (ab 0)), (1, .int (nI n)), (2, .int y), (3, .int corn), (4, .int sm), (5, .int (nI ys)), (6, .int sn)]) E 8 dX0_mean_103 rfl (zp_dec j) (by decide) rfl (pc' := 106) rfl ?_
        refine zw_goto (tgt := 19) E dX0_mean_106 (by decide) ?_
        have e1 : mn b y corn (j + 1) sm ys sn = mn b y corn j sm ys sn := by rw [mn, if_neg c_2]
        rw [e1]
        refine zw_sub [2, 3, 4, 5, 6, 7, 8, 0] (lv' := [(0, .ref (ab 0)), (1, .int (nI n)), (2, .int y), (3, .int corn), (4, .int sm), (5, .int (nI ys)), (6, .int sn), (7, .int (zp j))]) rfl ?_
        exact ih _ _ _ (by omega)
      · skip
        refine zw_aload_n (i := 0) (x := ab 0) E 1 dX0_mean_45 rfl rfl (pc' := 46) rfl ?_
        refine zw_get (v := .ref (ab 3)) E 0 2 iX0_mean_X0 fX0_mean_18 rfl rfl (by decide) rfl rfl dX0_mean_46 (pc' := 49) rfl ?_
        refine zw_iload (x := nI j) E 8 dX0_mean_49 rfl (pc' := 51) rfl ?_
        refine zw_iald (j := j) (x := b.1 2 j) E 3 0 rfl rfl (vp_in_nI hj (by decide)) (zw_clamp hj (by decide)) rfl dX0_mean_51 (pc' := 52) rfl ?_
        refine zw_iload_n (i := 3) (x := corn) E 4 dX0_mean_52 rfl rfl (pc' := 53) rfl ?_
        refine zw_icmp_ne (tgt := 103) E dX0_mean_53 (by decide) (pc' := 56) rfl (fun c_3 => ?_) (fun c_3 => ?_)
        · skip
          refine zw_iinc (x := nI j) (v := zp j) (lv' := [(7, .int (zp j)), (8, .int (y - (b.1 1 j))), (0, .ref (ab 0)), (1, .int (nI n)), (2, .int y), (3, .int corn), (4, .int sm), (5, .int (nI ys)), (6, .int sn)]) E 8 dX0_mean_103 rfl (zp_dec j) (by decide) rfl (pc' := 106) rfl ?_
          refine zw_goto (tgt := 19) E dX0_mean_106 (by decide) ?_
          have e1 : mn b y corn (j + 1) sm ys sn = mn b y corn j sm ys sn := by rw [mn, if_pos c_2, if_neg c_3]
          rw [e1]
          refine zw_sub [2, 3, 4, 5, 6, 7, 8, 0] (lv' := [(0, .ref (ab 0)), (1, .int (nI n)), (2, .int y), (3, .int corn), (4, .int sm), (5, .int (nI ys)), (6, .int sn), (7, .int (zp j))]) rfl ?_
          exact ih _ _ _ (by omega)
        · skip
          refine zw_iload (x := y - (b.1 1 j)) E 0 dX0_mean_56 rfl (pc' := 58) rfl ?_
          refine zw_iconst (v := 1) E dX0_mean_58 (by decide) (pc' := 59) rfl ?_
          refine zw_icmp_lt (tgt := 103) E dX0_mean_59 (by decide) (pc' := 62) rfl (fun c_4 => ?_) (fun c_4 => ?_)
          · skip
            refine zw_iinc (x := nI j) (v := zp j) (lv' := [(7, .int (zp j)), (8, .int (y - (b.1 1 j))), (0, .ref (ab 0)), (1, .int (nI n)), (2, .int y), (3, .int corn), (4, .int sm), (5, .int (nI ys)), (6, .int sn)]) E 8 dX0_mean_103 rfl (zp_dec j) (by decide) rfl (pc' := 106) rfl ?_
            refine zw_goto (tgt := 19) E dX0_mean_106 (by decide) ?_
            have e1 : mn b y corn (j + 1) sm ys sn = mn b y corn j sm ys sn := by rw [mn, if_pos c_2, if_pos c_3, if_pos c_4]
            rw [e1]
            refine zw_sub [2, 3, 4, 5, 6, 7, 8, 0] (lv' := [(0, .ref (ab 0)), (1, .int (nI n)), (2, .int y), (3, .int corn), (4, .int sm), (5, .int (nI ys)), (6, .int sn), (7, .int (zp j))]) rfl ?_
            exact ih _ _ _ (by omega)
          · skip
            refine zw_iload (x := y - (b.1 1 j)) E 0 dX0_mean_62 rfl (pc' := 64) rfl ?_
            refine zw_bipush (v := 7) E dX0_mean_64 (by decide) (pc' := 66) rfl ?_
            refine zw_icmp_gt (tgt := 103) E dX0_mean_66 (by decide) (pc' := 69) rfl (fun c_5 => ?_) (fun c_5 => ?_)
            · skip
              refine zw_iinc (x := nI j) (v := zp j) (lv' := [(7, .int (zp j)), (8, .int (y - (b.1 1 j))), (0, .ref (ab 0)), (1, .int (nI n)), (2, .int y), (3, .int corn), (4, .int sm), (5, .int (nI ys)), (6, .int sn)]) E 8 dX0_mean_103 rfl (zp_dec j) (by decide) rfl (pc' := 106) rfl ?_
              refine zw_goto (tgt := 19) E dX0_mean_106 (by decide) ?_
              have e1 : mn b y corn (j + 1) sm ys sn = mn b y corn j sm ys sn := by rw [mn, if_pos c_2, if_pos c_3, if_neg c_4, if_pos c_5]
              rw [e1]
              refine zw_sub [2, 3, 4, 5, 6, 7, 8, 0] (lv' := [(0, .ref (ab 0)), (1, .int (nI n)), (2, .int y), (3, .int corn), (4, .int sm), (5, .int (nI ys)), (6, .int sn), (7, .int (zp j))]) rfl ?_
              exact ih _ _ _ (by omega)
            · skip
              refine zw_iload (x := sn) E 7 dX0_mean_69 rfl (pc' := 71) rfl ?_
              refine zw_iload (x := y - (b.1 1 j)) E 0 dX0_mean_71 rfl (pc' := 73) rfl ?_
              refine zw_ishr E dX0_mean_73 (pc' := 74) rfl ?_
              refine zw_iconst (v := 1) E dX0_mean_74 (by decide) (pc' := 75) rfl ?_
              refine zw_iand E dX0_mean_75 (pc' := 76) rfl ?_
              refine zw_if_ne (tgt := 103) E dX0_mean_76 (by decide) (pc' := 79) rfl (fun c_6 => ?_) (fun c_6 => ?_)
              · skip
                refine zw_iinc (x := nI j) (v := zp j) (lv' := [(7, .int (zp j)), (8, .int (y - (b.1 1 j))), (0, .ref (ab 0)), (1, .int (nI n)), (2, .int y), (3, .int corn), (4, .int sm), (5, .int (nI ys)), (6, .int sn)]) E 8 dX0_mean_103 rfl (zp_dec j) (by decide) rfl (pc' := 106) rfl ?_
                refine zw_goto (tgt := 19) E dX0_mean_106 (by decide) ?_
                have e1 : mn b y corn (j + 1) sm ys sn = mn b y corn j sm ys sn := by rw [mn, if_pos c_2, if_pos c_3, if_neg c_4, if_neg c_5, if_neg c_6]
                rw [e1]
                refine zw_sub [2, 3, 4, 5, 6, 7, 8, 0] (lv' := [(0, .ref (ab 0)), (1, .int (nI n)), (2, .int y), (3, .int corn), (4, .int sm), (5, .int (nI ys)), (6, .int sn), (7, .int (zp j))]) rfl ?_
                exact ih _ _ _ (by omega)
              · skip
                refine zw_iload (x := sn) E 7 dX0_mean_79 rfl (pc' := 81) rfl ?_
                refine zw_iconst (v := 1) E dX0_mean_81 (by decide) (pc' := 82) rfl ?_
                refine zw_iload (x := y - (b.1 1 j)) E 0 dX0_mean_82 rfl (pc' := 84) rfl ?_
                refine zw_ishl E dX0_mean_84 (pc' := 85) rfl ?_
                refine zw_ior E dX0_mean_85 (pc' := 86) rfl ?_
                refine zw_istore (lv' := [(6, .int (sn ||| (1 <<< ((y - (b.1 1 j)) &&& 31)))), (8, .int (y - (b.1 1 j))), (0, .ref (ab 0)), (1, .int (nI n)), (2, .int y), (3, .int corn), (4, .int sm), (5, .int (nI ys)), (7, .int (nI j))]) E dX0_mean_86 (by decide) rfl (pc' := 88) rfl ?_
                refine zw_iload (x := sm) E 6 dX0_mean_88 rfl (pc' := 90) rfl ?_
                refine zw_aload_n (i := 0) (x := ab 0) E 2 dX0_mean_90 rfl rfl (pc' := 91) rfl ?_
                refine zw_get (v := .ref (ab 5)) E 0 4 iX0_mean_X0 fX0_mean_24 rfl rfl (by decide) rfl rfl dX0_mean_91 (pc' := 94) rfl ?_
                refine zw_iload (x := nI j) E 8 dX0_mean_94 rfl (pc' := 96) rfl ?_
                refine zw_iald (j := j) (x := b.1 4 j) E 5 0 rfl rfl (vp_in_nI hj (by decide)) (zw_clamp hj (by decide)) rfl dX0_mean_96 (pc' := 97) rfl ?_
                refine zw_iadd E dX0_mean_97 (pc' := 98) rfl ?_
                refine zw_istore (lv' := [(4, .int (sm + (b.1 4 j))), (6, .int (sn ||| (1 <<< ((y - (b.1 1 j)) &&& 31)))), (8, .int (y - (b.1 1 j))), (0, .ref (ab 0)), (1, .int (nI n)), (2, .int y), (3, .int corn), (5, .int (nI ys)), (7, .int (nI j))]) E dX0_mean_98 (by decide) rfl (pc' := 100) rfl ?_
                refine zw_iinc (x := nI ys) (v := nI (ys + 1)) (lv' := [(5, .int (nI (ys + 1))), (4, .int (sm + (b.1 4 j))), (6, .int (sn ||| (1 <<< ((y - (b.1 1 j)) &&& 31)))), (8, .int (y - (b.1 1 j))), (0, .ref (ab 0)), (1, .int (nI n)), (2, .int y), (3, .int corn), (7, .int (nI j))]) E 7 dX0_mean_100 rfl (zw_inc1 ys) (by decide) rfl (pc' := 103) rfl ?_
                refine zw_iinc (x := nI j) (v := zp j) (lv' := [(7, .int (zp j)), (5, .int (nI (ys + 1))), (4, .int (sm + (b.1 4 j))), (6, .int (sn ||| (1 <<< ((y - (b.1 1 j)) &&& 31)))), (8, .int (y - (b.1 1 j))), (0, .ref (ab 0)), (1, .int (nI n)), (2, .int y), (3, .int corn)]) E 8 dX0_mean_103 rfl (zp_dec j) (by decide) rfl (pc' := 106) rfl ?_
                refine zw_goto (tgt := 19) E dX0_mean_106 (by decide) ?_
                have e1 : mn b y corn (j + 1) sm ys sn = mn b y corn j (sm + (b.1 4 j)) (ys + 1) (sn ||| (1 <<< ((y - (b.1 1 j)) &&& 31))) := by rw [mn, if_pos c_2, if_pos c_3, if_neg c_4, if_neg c_5, if_pos c_6]
                rw [e1]
                refine zw_sub [5, 6, 7, 8, 2, 1, 3, 0] (lv' := [(0, .ref (ab 0)), (1, .int (nI n)), (2, .int y), (3, .int corn), (4, .int (sm + (b.1 4 j))), (5, .int (nI (ys + 1))), (6, .int (sn ||| (1 <<< ((y - (b.1 1 j)) &&& 31)))), (7, .int (zp j))]) rfl ?_
                exact ih _ _ _ (by omega)

set_option maxHeartbeats 4000000 in
set_option maxRecDepth 100000 in
/-- mean(k, y, corn) -/
theorem qX0_mean (l : Launch) (D : va_G) (K : Nat → ClassId) (ab : Nat → Nat) (b : Bk) (n : Nat) (hn : n ≤ 80) (y corn : Int32) : zw_I l yX0_mean wsX0_mean rmX0_mean D (zT K) [.ref (ab 0), .int (nI n), .int y, .int corn] (bk_W K ab b) (bk_mean b n y corn) (bk_W K ab b) := by
  refine zw_ofI (cc := cX0_mean) (nL := 9) (ret := (some .int)) (own := RX0) (lv := [(0, .ref (ab 0)), (1, .int (nI n)), (2, .int y), (3, .int corn)]) (by decide) rfl (Nat.le_of_ble_eq_true rfl) rfl rfl ?_
  intro p e s m below meth c A E hr hlk
  refine zw_iconst (v := 0) E dX0_mean_0 (by decide) (pc' := 1) rfl ?_
  refine zw_istore (lv' := [(4, .int 0), (0, .ref (ab 0)), (1, .int (nI n)), (2, .int y), (3, .int corn)]) E dX0_mean_1 (by decide) rfl (pc' := 3) rfl ?_
  refine zw_iconst (v := 0) E dX0_mean_3 (by decide) (pc' := 4) rfl ?_
  refine zw_istore (lv' := [(5, .int 0), (4, .int 0), (0, .ref (ab 0)), (1, .int (nI n)), (2, .int y), (3, .int corn)]) E dX0_mean_4 (by decide) rfl (pc' := 6) rfl ?_
  refine zw_iconst (v := 0) E dX0_mean_6 (by decide) (pc' := 7) rfl ?_
  refine zw_istore (lv' := [(6, .int 0), (5, .int 0), (4, .int 0), (0, .ref (ab 0)), (1, .int (nI n)), (2, .int y), (3, .int corn)]) E dX0_mean_7 (by decide) rfl (pc' := 9) rfl ?_
  refine zw_iload_n (i := 1) (x := nI n) E 4 dX0_mean_9 rfl rfl (pc' := 10) rfl ?_
  refine zw_bipush (v := 80) E dX0_mean_10 (by decide) (pc' := 12) rfl ?_
  refine zw_mmin E (index := 67) (by decide +kernel) (by decide +kernel) (by decide +kernel) (by decide +kernel) (Nat.le_of_ble_eq_true rfl) (Nat.le_of_ble_eq_true rfl) (Nat.zero_le _) (Nat.zero_le _) dX0_mean_12 (pc' := 15) rfl ?_
  refine zw_topi (x' := nI n) (if_neg (Int32.not_lt.mpr (nI_le (b := 80) hn (by decide)))) ?_
  refine zw_iconst (v := 1) E dX0_mean_15 (by decide) (pc' := 16) rfl ?_
  refine zw_isub E dX0_mean_16 (pc' := 17) rfl ?_
  refine zw_topi (x' := zp n) (zp_sub n) ?_
  refine zw_istore (lv' := [(7, .int (zp n)), (6, .int 0), (5, .int 0), (4, .int 0), (0, .ref (ab 0)), (1, .int (nI n)), (2, .int y), (3, .int corn)]) E dX0_mean_17 (by decide) rfl (pc' := 19) rfl ?_
  refine zw_sub [4, 5, 6, 7, 3, 2, 1, 0] (lv' := [(0, .ref (ab 0)), (1, .int (nI n)), (2, .int y), (3, .int corn), (4, .int 0), (5, .int 0), (6, .int 0), (7, .int (zp n))]) rfl ?_
  exact lX0_mean E hr hlk ab b n hn y corn n 0 0 0 (by omega)
end
section
/-! the land: isNumber, isThere, clearCharge, tryMake, trySell, tryBuy, tryPart, tryJoin -/
theorem zw_in3 {f : Int32} (h0 : 0 ≤ f) (h1 : f < 60) : vp_in f 60 := zw_in2 (n := 60) (by decide) (Int32.not_lt.mpr h0) h1
theorem zw_num {j : Nat} (h : j < 60) : 0 ≤ nI j ∧ nI j < 60 := ⟨nI_pos' (by omega), nI_lt (b := 60) h (by decide)⟩
abbrev is_there (d : Ld) (f : Int32) : Prop := 0 ≤ f ∧ f < 60 ∧ ¬ d.1 0 f.toNatClampNeg = 0
def ld_clear (d : Ld) (i : Nat) : Ld := ld_row (ld_row (ld_row d 7 i 0) 8 i 0) 9 i 0
def ld_make (d : Ld) (j : Nat) (a k o : Int32) : Ld := ld_clear (ld_row (ld_row (ld_row (ld_row (ld_row d 0 j 1) 1 j a) 2 j k) 3 j o) 4 j 0) j
set_option maxHeartbeats 4000000 in
set_option maxRecDepth 100000 in
/-- isNumber(f) -/
theorem qX1_isNumber (l : Launch) (D : va_G) (K : Nat → ClassId) (f : Int32) : zw_I l yX1_isNumber wsX1_isNumber rmX1_isNumber D (zT K) [.int f] [] (zb (0 ≤ f ∧ f < 60)) [] := by
  refine zw_ofI (cc := cX1_isNumber) (nL := 1) (ret := (some .boolean)) (own := RX1) (lv := [(0, .int f)]) (by decide) rfl (Nat.le_of_ble_eq_true rfl) rfl rfl ?_
  intro p e s m below meth c A E hr hlk
  refine zw_iload_n (i := 0) (x := f) E 0 dX1_isNumber_0 rfl rfl (pc' := 1) rfl ?_
  refine zw_if_lt (tgt := 14) E dX1_isNumber_1 (by decide) (pc' := 4) rfl (fun c_1 => ?_) (fun c_1 => ?_)
  · skip
    refine zw_iconst (v := 0) E dX1_isNumber_14 (by decide) (pc' := 15) rfl ?_
    exact zw_zret E hr hlk dX1_isNumber_15 rfl (zb_f (fun h => absurd c_1 (Int32.not_lt.mpr h.1))).symm rfl
  · skip
    refine zw_iload_n (i := 0) (x := f) E 0 dX1_isNumber_4 rfl rfl (pc' := 5) rfl ?_
    refine zw_bipush (v := 60) E dX1_isNumber_5 (by decide) (pc' := 7) rfl ?_
    refine zw_icmp_ge (tgt := 14) E dX1_isNumber_7 (by decide) (pc' := 10) rfl (fun c_2 => ?_) (fun c_2 => ?_)
    · skip
      refine zw_iconst (v := 0) E dX1_isNumber_14 (by decide) (pc' := 15) rfl ?_
      exact zw_zret E hr hlk dX1_isNumber_15 rfl (zb_f (fun h => absurd h.2 (Int32.not_lt.mpr c_2))).symm rfl
    · skip
      refine zw_iconst (v := 1) E dX1_isNumber_10 (by decide) (pc' := 11) rfl ?_
      refine zw_goto (tgt := 15) E dX1_isNumber_11 (by decide) ?_
      exact zw_zret E hr hlk dX1_isNumber_15 rfl (zb_t ⟨Int32.not_lt.mp c_1, Int32.not_le.mp c_2⟩).symm rfl

theorem fX1_isThere_9 : Cond.fieldLink RX1 9 "TitheMap$Land" "there" "[Z" ∈ wsX1_isThere := by decide +kernel
theorem iX1_isThere_X1 : ∀ w ∈ wsX10, w ∈ wsX1_isThere := by decide +kernel
set_option maxHeartbeats 4000000 in
set_option maxRecDepth 100000 in
/-- isThere(f) -/
theorem qX1_isThere (l : Launch) (D : va_G) (K : Nat → ClassId) (al : Nat → Nat) (bq : Nat) (d : Ld) (f : Int32) : zw_I l yX1_isThere wsX1_isThere rmX1_isThere D (zT K) [.ref (al 0), .int f] (ld_W K al bq d) (zb (is_there d f)) (ld_W K al bq d) := by
  refine zw_ofI (cc := cX1_isThere) (nL := 2) (ret := (some .boolean)) (own := RX1) (lv := [(0, .ref (al 0)), (1, .int f)]) (by decide) rfl (Nat.le_of_ble_eq_true rfl) rfl rfl ?_
  intro p e s m below meth c A E hr hlk
  refine zw_iload_n (i := 1) (x := f) E 1 dX1_isThere_0 rfl rfl (pc' := 1) rfl ?_
  refine zw_if_lt (tgt := 23) E dX1_isThere_1 (by decide) (pc' := 4) rfl (fun c_1 => ?_) (fun c_1 => ?_)
  · skip
    refine zw_iconst (v := 0) E dX1_isThere_23 (by decide) (pc' := 24) rfl ?_
    exact zw_zret E hr hlk dX1_isThere_24 rfl (zb_f (fun h => absurd c_1 (Int32.not_lt.mpr h.1))).symm rfl
  · skip
    refine zw_iload_n (i := 1) (x := f) E 1 dX1_isThere_4 rfl rfl (pc' := 5) rfl ?_
    refine zw_bipush (v := 60) E dX1_isThere_5 (by decide) (pc' := 7) rfl ?_
    refine zw_icmp_ge (tgt := 23) E dX1_isThere_7 (by decide) (pc' := 10) rfl (fun c_2 => ?_) (fun c_2 => ?_)
    · skip
      refine zw_iconst (v := 0) E dX1_isThere_23 (by decide) (pc' := 24) rfl ?_
      exact zw_zret E hr hlk dX1_isThere_24 rfl (zb_f (fun h => absurd h.2.1 (Int32.not_lt.mpr c_2))).symm rfl
    · skip
      refine zw_aload_n (i := 0) (x := al 0) E 0 dX1_isThere_10 rfl rfl (pc' := 11) rfl ?_
      refine zw_get (v := .ref (al 1)) E 0 1 iX1_isThere_X1 fX1_isThere_9 rfl rfl (by decide) rfl rfl dX1_isThere_11 (pc' := 14) rfl ?_
      refine zw_iload_n (i := 1) (x := f) E 1 dX1_isThere_14 rfl rfl (pc' := 15) rfl ?_
      refine zw_zald (j := f.toNatClampNeg) (x := d.1 0 f.toNatClampNeg) E 1 1 rfl rfl (zw_in60 c_1 c_2) rfl rfl dX1_isThere_15 (pc' := 16) rfl ?_
      refine zw_if_eq (tgt := 23) E dX1_isThere_16 (by decide) (pc' := 19) rfl (fun c_3 => ?_) (fun c_3 => ?_)
      · skip
        refine zw_iconst (v := 0) E dX1_isThere_23 (by decide) (pc' := 24) rfl ?_
        exact zw_zret E hr hlk dX1_isThere_24 rfl (zb_f (fun h => h.2.2 c_3)).symm rfl
      · skip
        refine zw_iconst (v := 1) E dX1_isThere_19 (by decide) (pc' := 20) rfl ?_
        refine zw_goto (tgt := 24) E dX1_isThere_20 (by decide) ?_
        exact zw_zret E hr hlk dX1_isThere_24 rfl (zb_t ⟨Int32.not_lt.mp c_1, Int32.not_le.mp c_2, c_3⟩).symm rfl

theorem fX1_clearCharge_27 : Cond.fieldLink RX1 27 "TitheMap$Land" "charge" "[[I" ∈ wsX1_clearCharge := by decide +kernel
theorem iX1_clearCharge_X1 : ∀ w ∈ wsX10, w ∈ wsX1_clearCharge := by decide +kernel
set_option maxHeartbeats 4000000 in
set_option maxRecDepth 100000 in
/-- clearCharge(f) -/
theorem qX1_clearCharge (l : Launch) (D : va_G) (K : Nat → ClassId) (al : Nat → Nat) (bq : Nat) (d : Ld) (f : Int32) (i : Nat) (h0 : ¬ f < 0) (h1 : ¬ 60 ≤ f) (hi : f.toNatClampNeg = i) : zw_V l yX1_clearCharge wsX1_clearCharge rmX1_clearCharge D (zT K) [.ref (al 0), .int f] (ld_W K al bq d) (ld_W K al bq (ld_clear d i)) := by
  refine zw_ofV (cc := cX1_clearCharge) (nL := 3) (ret := none) (own := RX1) (lv := [(0, .ref (al 0)), (1, .int f)]) (by decide) rfl (Nat.le_of_ble_eq_true rfl) rfl rfl ?_
  intro p e s m below meth c A E hr hlk
  refine zw_iconst (v := 0) E dX1_clearCharge_0 (by decide) (pc' := 1) rfl ?_
  refine zw_istore_n (lv' := [(2, .int 0), (0, .ref (al 0)), (1, .int f)]) E dX1_clearCharge_1 rfl (by decide) rfl (pc' := 2) rfl ?_
  refine zw_iload_n (i := 2) (x := 0) E 0 dX1_clearCharge_2 rfl rfl (pc' := 3) rfl ?_
  refine zw_iconst (v := 3) E dX1_clearCharge_3 (by decide) (pc' := 4) rfl ?_
  refine zw_icmp_ge (tgt := 32) E dX1_clearCharge_4 (by decide) (pc' := 7) rfl (fun c9 => absurd c9 (by decide)) (fun _ => ?_)
  refine zw_iload_n (i := 1) (x := f) E 2 dX1_clearCharge_7 rfl rfl (pc' := 8) rfl ?_
  refine zw_if_lt (tgt := 32) E dX1_clearCharge_8 (by decide) (pc' := 11) rfl (fun c_1 => ?_) (fun c_1 => ?_)
  · exact absurd c_1 h0
  · skip
    refine zw_iload_n (i := 1) (x := f) E 2 dX1_clearCharge_11 rfl rfl (pc' := 12) rfl ?_
    refine zw_bipush (v := 60) E dX1_clearCharge_12 (by decide) (pc' := 14) rfl ?_
    refine zw_icmp_ge (tgt := 32) E dX1_clearCharge_14 (by decide) (pc' := 17) rfl (fun c_2 => ?_) (fun c_2 => ?_)
    · exact absurd c_2 h1
    · skip
      refine zw_aload_n (i := 0) (x := al 0) E 1 dX1_clearCharge_17 rfl rfl (pc' := 18) rfl ?_
      refine zw_get (v := .ref (al 5)) E 0 5 iX1_clearCharge_X1 fX1_clearCharge_27 rfl rfl (by decide) rfl rfl dX1_clearCharge_18 (pc' := 21) rfl ?_
      refine zw_iload_n (i := 2) (x := 0) E 0 dX1_clearCharge_21 rfl rfl (pc' := 22) rfl ?_
      refine zw_aald (j := 0) (b := al 11) E 5 3 rfl rfl (vp_in_nI (n := 0) (N := 3) (by decide) (by decide)) rfl rfl dX1_clearCharge_22 (pc' := 23) rfl ?_
      refine zw_iload_n (i := 1) (x := f) E 2 dX1_clearCharge_23 rfl rfl (pc' := 24) rfl ?_
      refine zw_iconst (v := 0) E dX1_clearCharge_24 (by decide) (pc' := 25) rfl ?_
      refine zw_iast (j := i) (ws' := (ld_W K al bq (ld_row d 7 i 0))) E 11 0 rfl rfl (zw_in60 h0 h1) hi rfl dX1_clearCharge_25 (pc' := 26) rfl ?_
      refine zw_gen_ld_d (ld_row d 7 i 0) (fun d_1 hg_1 => ?_)
      refine zw_iinc (x := 0) (v := 1) (lv' := [(2, .int 1), (0, .ref (al 0)), (1, .int f)]) E 0 dX1_clearCharge_26 rfl (by decide) (by decide) rfl (pc' := 29) rfl ?_
      refine zw_goto (tgt := 2) E dX1_clearCharge_29 (by decide) ?_
      refine zw_iload_n (i := 2) (x := 1) E 0 dX1_clearCharge_2 rfl rfl (pc' := 3) rfl ?_
      refine zw_iconst (v := 3) E dX1_clearCharge_3 (by decide) (pc' := 4) rfl ?_
      refine zw_icmp_ge (tgt := 32) E dX1_clearCharge_4 (by decide) (pc' := 7) rfl (fun c9 => absurd c9 (by decide)) (fun _ => ?_)
      refine zw_iload_n (i := 1) (x := f) E 2 dX1_clearCharge_7 rfl rfl (pc' := 8) rfl ?_
      refine zw_if_lt (tgt := 32) E dX1_clearCharge_8 (by decide) (pc' := 11) rfl (fun c_3 => ?_) (fun c_3 => ?_)
      · exact absurd c_3 h0
      · skip
        refine zw_iload_n (i := 1) (x := f) E 2 dX1_clearCharge_11 rfl rfl (pc' := 12) rfl ?_
        refine zw_bipush (v := 60) E dX1_clearCharge_12 (by decide) (pc' := 14) rfl ?_
        refine zw_icmp_ge (tgt := 32) E dX1_clearCharge_14 (by decide) (pc' := 17) rfl (fun c_4 => ?_) (fun c_4 => ?_)
        · exact absurd c_4 h1
        · skip
          refine zw_aload_n (i := 0) (x := al 0) E 1 dX1_clearCharge_17 rfl rfl (pc' := 18) rfl ?_
          refine zw_get (v := .ref (al 5)) E 0 5 iX1_clearCharge_X1 fX1_clearCharge_27 rfl rfl (by decide) rfl rfl dX1_clearCharge_18 (pc' := 21) rfl ?_
          refine zw_iload_n (i := 2) (x := 1) E 0 dX1_clearCharge_21 rfl rfl (pc' := 22) rfl ?_
          refine zw_aald (j := 1) (b := al 12) E 5 3 rfl rfl (vp_in_nI (n := 1) (N := 3) (by decide) (by decide)) rfl rfl dX1_clearCharge_22 (pc' := 23) rfl ?_
          refine zw_iload_n (i := 1) (x := f) E 2 dX1_clearCharge_23 rfl rfl (pc' := 24) rfl ?_
          refine zw_iconst (v := 0) E dX1_clearCharge_24 (by decide) (pc' := 25) rfl ?_
          refine zw_iast (j := i) (ws' := (ld_W K al bq (ld_row d_1 8 i 0))) E 12 0 rfl rfl (zw_in60 h0 h1) hi rfl dX1_clearCharge_25 (pc' := 26) rfl ?_
          refine zw_gen_ld_d (ld_row d_1 8 i 0) (fun d_2 hg_2 => ?_)
          refine zw_iinc (x := 1) (v := 2) (lv' := [(2, .int 2), (0, .ref (al 0)), (1, .int f)]) E 0 dX1_clearCharge_26 rfl (by decide) (by decide) rfl (pc' := 29) rfl ?_
          refine zw_goto (tgt := 2) E dX1_clearCharge_29 (by decide) ?_
          refine zw_iload_n (i := 2) (x := 2) E 0 dX1_clearCharge_2 rfl rfl (pc' := 3) rfl ?_
          refine zw_iconst (v := 3) E dX1_clearCharge_3 (by decide) (pc' := 4) rfl ?_
          refine zw_icmp_ge (tgt := 32) E dX1_clearCharge_4 (by decide) (pc' := 7) rfl (fun c9 => absurd c9 (by decide)) (fun _ => ?_)
          refine zw_iload_n (i := 1) (x := f) E 2 dX1_clearCharge_7 rfl rfl (pc' := 8) rfl ?_
          refine zw_if_lt (tgt := 32) E dX1_clearCharge_8 (by decide) (pc' := 11) rfl (fun c_5 => ?_) (fun c_5 => ?_)
          · exact absurd c_5 h0
          · skip
            refine zw_iload_n (i := 1) (x := f) E 2 dX1_clearCharge_11 rfl rfl (pc' := 12) rfl ?_
            refine zw_bipush (v := 60) E dX1_clearCharge_12 (by decide) (pc' := 14) rfl ?_
            refine zw_icmp_ge (tgt := 32) E dX1_clearCharge_14 (by decide) (pc' := 17) rfl (fun c_6 => ?_) (fun c_6 => ?_)
            · exact absurd c_6 h1
            · skip
              refine zw_aload_n (i := 0) (x := al 0) E 1 dX1_clearCharge_17 rfl rfl (pc' := 18) rfl ?_
              refine zw_get (v := .ref (al 5)) E 0 5 iX1_clearCharge_X1 fX1_clearCharge_27 rfl rfl (by decide) rfl rfl dX1_clearCharge_18 (pc' := 21) rfl ?_
              refine zw_iload_n (i := 2) (x := 2) E 0 dX1_clearCharge_21 rfl rfl (pc' := 22) rfl ?_
              refine zw_aald (j := 2) (b := al 13) E 5 3 rfl rfl (vp_in_nI (n := 2) (N := 3) (by decide) (by decide)) rfl rfl dX1_clearCharge_22 (pc' := 23) rfl ?_
              refine zw_iload_n (i := 1) (x := f) E 2 dX1_clearCharge_23 rfl rfl (pc' := 24) rfl ?_
              refine zw_iconst (v := 0) E dX1_clearCharge_24 (by decide) (pc' := 25) rfl ?_
              refine zw_iast (j := i) (ws' := (ld_W K al bq (ld_row d_2 9 i 0))) E 13 0 rfl rfl (zw_in60 h0 h1) hi rfl dX1_clearCharge_25 (pc' := 26) rfl ?_
              refine zw_gen_ld_d (ld_row d_2 9 i 0) (fun d_3 hg_3 => ?_)
              refine zw_iinc (x := 2) (v := 3) (lv' := [(2, .int 3), (0, .ref (al 0)), (1, .int f)]) E 0 dX1_clearCharge_26 rfl (by decide) (by decide) rfl (pc' := 29) rfl ?_
              refine zw_goto (tgt := 2) E dX1_clearCharge_29 (by decide) ?_
              refine zw_iload_n (i := 2) (x := 3) E 0 dX1_clearCharge_2 rfl rfl (pc' := 3) rfl ?_
              refine zw_iconst (v := 3) E dX1_clearCharge_3 (by decide) (pc' := 4) rfl ?_
              refine zw_icmp_ge (tgt := 32) E dX1_clearCharge_4 (by decide) (pc' := 7) rfl (fun _ => ?_) (fun c9 => absurd (by decide) c9)
              exact zw_vret E hr hlk dX1_clearCharge_32 (by subst hg_1 hg_2 hg_3; rfl)

theorem fX1_tryMake_15 : Cond.fieldLink RX1 15 "TitheMap$Land" "area" "[I" ∈ wsX1_tryMake := by decide +kernel
theorem fX1_tryMake_19 : Cond.fieldLink RX1 19 "TitheMap$Land" "kind" "[I" ∈ wsX1_tryMake := by decide +kernel
theorem fX1_tryMake_22 : Cond.fieldLink RX1 22 "TitheMap$Land" "owner" "[I" ∈ wsX1_tryMake := by decide +kernel
theorem fX1_tryMake_30 : Cond.fieldLink RX1 30 "TitheMap$Land" "bought" "[Z" ∈ wsX1_tryMake := by decide +kernel
theorem fX1_tryMake_9 : Cond.fieldLink RX1 9 "TitheMap$Land" "there" "[Z" ∈ wsX1_tryMake := by decide +kernel
theorem iX1_tryMake_X1 : ∀ w ∈ wsX10, w ∈ wsX1_tryMake := by decide +kernel
set_option maxHeartbeats 4000000 in
set_option maxRecDepth 100000 in
/-- tryMake(f, area, kind, owner) -/
theorem qX1_tryMake (l : Launch) (D : va_G) (K : Nat → ClassId) (al : Nat → Nat) (bq : Nat) (d : Ld) (j : Nat) (hj : j < 60) (a k o : Int32) : zw_I l yX1_tryMake wsX1_tryMake rmX1_tryMake D (zT K) [.ref (al 0), .int (nI j), .int a, .int k, .int o] (ld_W K al bq d) 1 (ld_W K al bq (ld_make d j a k o)) := by
  refine zw_ofI (cc := cX1_tryMake) (nL := 5) (ret := (some .boolean)) (own := RX1) (lv := [(0, .ref (al 0)), (1, .int (nI j)), (2, .int a), (3, .int k), (4, .int o)]) (by decide) rfl (Nat.le_of_ble_eq_true rfl) rfl rfl ?_
  intro p e s m below meth c A E hr hlk
  refine zw_iload_n (i := 1) (x := nI j) E 1 dX1_tryMake_0 rfl rfl (pc' := 1) rfl ?_
  refine zw_callIs E (r := zb (0 ≤ nI j ∧ nI j < 60)) (As := [.int (nI j)]) (rest := []) (ws' := (ld_W K al bq d)) (qX1_isNumber l D K (nI j)) (va_cwS 1 E.2.2.2.2.1 gX1_tryMake_X1_isNumber rfl rfl rfl (by decide +kernel) ⟨Nat.le_of_ble_eq_true rfl, Nat.le_of_ble_eq_true rfl⟩) [] (by decide) rfl rfl (zw_put_same _ _ _ rfl) rfl rfl (Nat.le_of_ble_eq_true rfl) ⟨Nat.zero_le _, Nat.zero_le _⟩ dX1_tryMake_1 (pc' := 4) rfl ?_
  refine zw_ifb_ne (tgt := 9) E dX1_tryMake_4 (by decide) (pc' := 7) rfl (fun c_1 => ?_) (fun c_1 => ?_)
  · skip
    refine zw_aload_n (i := 0) (x := al 0) E 0 dX1_tryMake_9 rfl rfl (pc' := 10) rfl ?_
    refine zw_get (v := .ref (al 1)) E 0 1 iX1_tryMake_X1 fX1_tryMake_9 rfl rfl (by decide) rfl rfl dX1_tryMake_10 (pc' := 13) rfl ?_
    refine zw_iload_n (i := 1) (x := nI j) E 1 dX1_tryMake_13 rfl rfl (pc' := 14) rfl ?_
    refine zw_iconst (v := 1) E dX1_tryMake_14 (by decide) (pc' := 15) rfl ?_
    refine zw_zast (j := j) (ws' := (ld_W K al bq (ld_row d 0 j 1))) E 1 1 rfl rfl (vp_in_nI hj (by decide)) (zw_clamp hj (by decide)) rfl dX1_tryMake_15 (pc' := 16) rfl ?_
    refine zw_gen_ld_d (ld_row d 0 j 1) (fun d_1 hg_1 => ?_)
    refine zw_aload_n (i := 0) (x := al 0) E 0 dX1_tryMake_16 rfl rfl (pc' := 17) rfl ?_
    refine zw_get (v := .ref (al 2)) E 0 2 iX1_tryMake_X1 fX1_tryMake_15 rfl rfl (by decide) rfl rfl dX1_tryMake_17 (pc' := 20) rfl ?_
    refine zw_iload_n (i := 1) (x := nI j) E 1 dX1_tryMake_20 rfl rfl (pc' := 21) rfl ?_
    refine zw_iload_n (i := 2) (x := a) E 2 dX1_tryMake_21 rfl rfl (pc' := 22) rfl ?_
    refine zw_iast (j := j) (ws' := (ld_W K al bq (ld_row d_1 1 j a))) E 2 0 rfl rfl (vp_in_nI hj (by decide)) (zw_clamp hj (by decide)) rfl dX1_tryMake_22 (pc' := 23) rfl ?_
    refine zw_gen_ld_d (ld_row d_1 1 j a) (fun d_2 hg_2 => ?_)
    refine zw_aload_n (i := 0) (x := al 0) E 0 dX1_tryMake_23 rfl rfl (pc' := 24) rfl ?_
    refine zw_get (v := .ref (al 3)) E 0 3 iX1_tryMake_X1 fX1_tryMake_19 rfl rfl (by decide) rfl rfl dX1_tryMake_24 (pc' := 27) rfl ?_
    refine zw_iload_n (i := 1) (x := nI j) E 1 dX1_tryMake_27 rfl rfl (pc' := 28) rfl ?_
    refine zw_iload_n (i := 3) (x := k) E 3 dX1_tryMake_28 rfl rfl (pc' := 29) rfl ?_
    refine zw_iast (j := j) (ws' := (ld_W K al bq (ld_row d_2 2 j k))) E 3 0 rfl rfl (vp_in_nI hj (by decide)) (zw_clamp hj (by decide)) rfl dX1_tryMake_29 (pc' := 30) rfl ?_
    refine zw_gen_ld_d (ld_row d_2 2 j k) (fun d_3 hg_3 => ?_)
    refine zw_aload_n (i := 0) (x := al 0) E 0 dX1_tryMake_30 rfl rfl (pc' := 31) rfl ?_
    refine zw_get (v := .ref (al 4)) E 0 4 iX1_tryMake_X1 fX1_tryMake_22 rfl rfl (by decide) rfl rfl dX1_tryMake_31 (pc' := 34) rfl ?_
    refine zw_iload_n (i := 1) (x := nI j) E 1 dX1_tryMake_34 rfl rfl (pc' := 35) rfl ?_
    refine zw_iload (x := o) E 4 dX1_tryMake_35 rfl (pc' := 37) rfl ?_
    refine zw_iast (j := j) (ws' := (ld_W K al bq (ld_row d_3 3 j o))) E 4 0 rfl rfl (vp_in_nI hj (by decide)) (zw_clamp hj (by decide)) rfl dX1_tryMake_37 (pc' := 38) rfl ?_
    refine zw_gen_ld_d (ld_row d_3 3 j o) (fun d_4 hg_4 => ?_)
    refine zw_aload_n (i := 0) (x := al 0) E 0 dX1_tryMake_38 rfl rfl (pc' := 39) rfl ?_
    refine zw_get (v := .ref (al 6)) E 0 6 iX1_tryMake_X1 fX1_tryMake_30 rfl rfl (by decide) rfl rfl dX1_tryMake_39 (pc' := 42) rfl ?_
    refine zw_iload_n (i := 1) (x := nI j) E 1 dX1_tryMake_42 rfl rfl (pc' := 43) rfl ?_
    refine zw_iconst (v := 0) E dX1_tryMake_43 (by decide) (pc' := 44) rfl ?_
    refine zw_zast (j := j) (ws' := (ld_W K al bq (ld_row d_4 4 j 0))) E 6 1 rfl rfl (vp_in_nI hj (by decide)) (zw_clamp hj (by decide)) rfl dX1_tryMake_44 (pc' := 45) rfl ?_
    refine zw_gen_ld_d (ld_row d_4 4 j 0) (fun d_5 hg_5 => ?_)
    refine zw_aload_n (i := 0) (x := al 0) E 0 dX1_tryMake_45 rfl rfl (pc' := 46) rfl ?_
    refine zw_iload_n (i := 1) (x := nI j) E 1 dX1_tryMake_46 rfl rfl (pc' := 47) rfl ?_
    refine zw_callVw E (As := [.int (nI j)]) (rest := []) (ws' := (ld_W K al bq (ld_clear d_5 j))) (qX1_clearCharge l D K al bq d_5 (nI j) j (nI_pos (by omega)) (zw_n60 hj) (nI_clamp (by omega))) (cwV 1 E.2.2.2.2.1 gX1_tryMake_X1_clearCharge rfl rfl rfl (by decide +kernel) ⟨Nat.le_of_ble_eq_true rfl, Nat.le_of_ble_eq_true rfl⟩) 0 rfl rfl rfl (ld_ad _ _ _ _ _) rfl rfl (Nat.le_of_ble_eq_true rfl) ⟨Nat.zero_le _, Nat.zero_le _⟩ dX1_tryMake_47 (pc' := 50) rfl ?_
    refine zw_gen_ld_d (ld_clear d_5 j) (fun d_6 hg_6 => ?_)
    refine zw_iconst (v := 1) E dX1_tryMake_50 (by decide) (pc' := 51) rfl ?_
    exact zw_zret E hr hlk dX1_tryMake_51 rfl rfl (by subst hg_1 hg_2 hg_3 hg_4 hg_5 hg_6; rfl)
  · exact absurd (zw_num hj) c_1

def ld_sell_ok (d : Ld) (f o : Int32) : Prop := is_there d f ∧ ¬ d.1 3 f.toNatClampNeg = o
theorem zw_if2 {α : Type} {c : Prop} [Decidable c] {a b : α} (h : c) : (if c then a else b) = a := if_pos h
/-- the six acts, tried: the answer and the land behind it -/
def r_sell (d : Ld) (f o : Int32) : Int32 := if is_there d f then if d.1 3 f.toNatClampNeg = o then 0 else 1 else 0
def d_sell (d : Ld) (f o : Int32) : Ld := if is_there d f then if d.1 3 f.toNatClampNeg = o then d else ld_row d 3 f.toNatClampNeg o else d
def r_buy (d : Ld) (f : Int32) : Int32 := if d.2.2 = 0 then 0 else if is_there d f then if d.1 4 f.toNatClampNeg = 0 then 1 else 0 else 0
def d_buy (d : Ld) (f : Int32) : Ld := if d.2.2 = 0 then d else if is_there d f then if d.1 4 f.toNatClampNeg = 0 then ld_clear (ld_row d 4 f.toNatClampNeg 1) f.toNatClampNeg else d else d
theorem fX1_trySell_22 : Cond.fieldLink RX1 22 "TitheMap$Land" "owner" "[I" ∈ wsX1_trySell := by decide +kernel
theorem iX1_trySell_X1 : ∀ w ∈ wsX10, w ∈ wsX1_trySell := by decide +kernel
set_option maxHeartbeats 4000000 in
set_option maxRecDepth 100000 in
/-- trySell(f, owner) -/
theorem qX1_trySell (l : Launch) (D : va_G) (K : Nat → ClassId) (al : Nat → Nat) (bq : Nat) (d : Ld) (f o : Int32) : zw_I l yX1_trySell wsX1_trySell rmX1_trySell D (zT K) [.ref (al 0), .int f, .int o] (ld_W K al bq d) (r_sell d f o) (ld_W K al bq (d_sell d f o)) := by
  refine zw_ofI (cc := cX1_trySell) (nL := 3) (ret := (some .boolean)) (own := RX1) (lv := [(0, .ref (al 0)), (1, .int f), (2, .int o)]) (by decide) rfl (Nat.le_of_ble_eq_true rfl) rfl rfl ?_
  intro p e s m below meth c A E hr hlk
  refine zw_aload_n (i := 0) (x := al 0) E 0 dX1_trySell_0 rfl rfl (pc' := 1) rfl ?_
  refine zw_iload_n (i := 1) (x := f) E 1 dX1_trySell_1 rfl rfl (pc' := 2) rfl ?_
  refine zw_callIw E (r := zb (is_there d f)) (As := [.int f]) (rest := []) (ws' := (ld_W K al bq d)) (qX1_isThere l D K al bq d f) (cwV 1 E.2.2.2.2.1 gX1_trySell_X1_isThere rfl rfl rfl (by decide +kernel) ⟨Nat.le_of_ble_eq_true rfl, Nat.le_of_ble_eq_true rfl⟩) 0 rfl rfl rfl rfl rfl rfl (Nat.le_of_ble_eq_true rfl) ⟨Nat.zero_le _, Nat.zero_le _⟩ dX1_trySell_2 (pc' := 5) rfl ?_
  refine zw_ifb_eq (tgt := 18) E dX1_trySell_5 (by decide) (pc' := 8) rfl (fun c_1 => ?_) (fun c_1 => ?_)
  · skip
    refine zw_iconst (v := 0) E dX1_trySell_18 (by decide) (pc' := 19) rfl ?_
    exact zw_zret E hr hlk dX1_trySell_19 rfl (by unfold r_sell; rw [if_neg c_1]) (by unfold d_sell; rw [if_neg c_1])
  · skip
    refine zw_aload_n (i := 0) (x := al 0) E 0 dX1_trySell_8 rfl rfl (pc' := 9) rfl ?_
    refine zw_get (v := .ref (al 4)) E 0 4 iX1_trySell_X1 fX1_trySell_22 rfl rfl (by decide) rfl rfl dX1_trySell_9 (pc' := 12) rfl ?_
    refine zw_iload_n (i := 1) (x := f) E 1 dX1_trySell_12 rfl rfl (pc' := 13) rfl ?_
    refine zw_iald (j := f.toNatClampNeg) (x := d.1 3 f.toNatClampNeg) E 4 0 rfl rfl (zw_in3 c_1.1 c_1.2.1) rfl rfl dX1_trySell_13 (pc' := 14) rfl ?_
    refine zw_iload_n (i := 2) (x := o) E 2 dX1_trySell_14 rfl rfl (pc' := 15) rfl ?_
    refine zw_icmp_ne (tgt := 20) E dX1_trySell_15 (by decide) (pc' := 18) rfl (fun c_2 => ?_) (fun c_2 => ?_)
    · skip
      refine zw_aload_n (i := 0) (x := al 0) E 0 dX1_trySell_20 rfl rfl (pc' := 21) rfl ?_
      refine zw_get (v := .ref (al 4)) E 0 4 iX1_trySell_X1 fX1_trySell_22 rfl rfl (by decide) rfl rfl dX1_trySell_21 (pc' := 24) rfl ?_
      refine zw_iload_n (i := 1) (x := f) E 1 dX1_trySell_24 rfl rfl (pc' := 25) rfl ?_
      refine zw_iload_n (i := 2) (x := o) E 2 dX1_trySell_25 rfl rfl (pc' := 26) rfl ?_
      refine zw_iast (j := f.toNatClampNeg) (ws' := (ld_W K al bq (ld_row d 3 f.toNatClampNeg o))) E 4 0 rfl rfl (zw_in3 c_1.1 c_1.2.1) rfl rfl dX1_trySell_26 (pc' := 27) rfl ?_
      refine zw_iconst (v := 1) E dX1_trySell_27 (by decide) (pc' := 28) rfl ?_
      exact zw_zret E hr hlk dX1_trySell_28 rfl (by unfold r_sell; rw [if_pos c_1, if_neg c_2]) (by unfold d_sell; rw [if_pos c_1, if_neg c_2])
    · skip
      refine zw_iconst (v := 0) E dX1_trySell_18 (by decide) (pc' := 19) rfl ?_
      exact zw_zret E hr hlk dX1_trySell_19 rfl (by unfold r_sell; rw [if_pos c_1, if_pos c_2]) (by unfold d_sell; rw [if_pos c_1, if_pos c_2])

theorem fX1_tryBuy_30 : Cond.fieldLink RX1 30 "TitheMap$Land" "bought" "[Z" ∈ wsX1_tryBuy := by decide +kernel
theorem fX1_tryBuy_50 : Cond.fieldLink RX1 50 "TitheMap$Land" "settled" "Z" ∈ wsX1_tryBuy := by decide +kernel
theorem iX1_tryBuy_X1 : ∀ w ∈ wsX10, w ∈ wsX1_tryBuy := by decide +kernel
set_option maxHeartbeats 4000000 in
set_option maxRecDepth 100000 in
/-- tryBuy(f) -/
theorem qX1_tryBuy (l : Launch) (D : va_G) (K : Nat → ClassId) (al : Nat → Nat) (bq : Nat) (d : Ld) (f : Int32) : zw_I l yX1_tryBuy wsX1_tryBuy rmX1_tryBuy D (zT K) [.ref (al 0), .int f] (ld_W K al bq d) (r_buy d f) (ld_W K al bq (d_buy d f)) := by
  refine zw_ofI (cc := cX1_tryBuy) (nL := 2) (ret := (some .boolean)) (own := RX1) (lv := [(0, .ref (al 0)), (1, .int f)]) (by decide) rfl (Nat.le_of_ble_eq_true rfl) rfl rfl ?_
  intro p e s m below meth c A E hr hlk
  refine zw_aload_n (i := 0) (x := al 0) E 0 dX1_tryBuy_0 rfl rfl (pc' := 1) rfl ?_
  refine zw_get (v := .int d.2.2) E 0 11 iX1_tryBuy_X1 fX1_tryBuy_50 rfl rfl (by decide) rfl rfl dX1_tryBuy_1 (pc' := 4) rfl ?_
  refine zw_if_eq (tgt := 24) E dX1_tryBuy_4 (by decide) (pc' := 7) rfl (fun c_1 => ?_) (fun c_1 => ?_)
  · skip
    refine zw_iconst (v := 0) E dX1_tryBuy_24 (by decide) (pc' := 25) rfl ?_
    exact zw_zret E hr hlk dX1_tryBuy_25 rfl (by unfold r_buy; rw [if_pos c_1]) (by unfold d_buy; rw [if_pos c_1])
  · skip
    refine zw_aload_n (i := 0) (x := al 0) E 0 dX1_tryBuy_7 rfl rfl (pc' := 8) rfl ?_
    refine zw_iload_n (i := 1) (x := f) E 1 dX1_tryBuy_8 rfl rfl (pc' := 9) rfl ?_
    refine zw_callIw E (r := zb (is_there d f)) (As := [.int f]) (rest := []) (ws' := (ld_W K al bq d)) (qX1_isThere l D K al bq d f) (cwV 1 E.2.2.2.2.1 gX1_tryBuy_X1_isThere rfl rfl rfl (by decide +kernel) ⟨Nat.le_of_ble_eq_true rfl, Nat.le_of_ble_eq_true rfl⟩) 0 rfl rfl rfl rfl rfl rfl (Nat.le_of_ble_eq_true rfl) ⟨Nat.zero_le _, Nat.zero_le _⟩ dX1_tryBuy_9 (pc' := 12) rfl ?_
    refine zw_ifb_eq (tgt := 24) E dX1_tryBuy_12 (by decide) (pc' := 15) rfl (fun c_2 => ?_) (fun c_2 => ?_)
    · skip
      refine zw_iconst (v := 0) E dX1_tryBuy_24 (by decide) (pc' := 25) rfl ?_
      exact zw_zret E hr hlk dX1_tryBuy_25 rfl (by unfold r_buy; rw [if_neg c_1, if_neg c_2]) (by unfold d_buy; rw [if_neg c_1, if_neg c_2])
    · skip
      refine zw_aload_n (i := 0) (x := al 0) E 0 dX1_tryBuy_15 rfl rfl (pc' := 16) rfl ?_
      refine zw_get (v := .ref (al 6)) E 0 6 iX1_tryBuy_X1 fX1_tryBuy_30 rfl rfl (by decide) rfl rfl dX1_tryBuy_16 (pc' := 19) rfl ?_
      refine zw_iload_n (i := 1) (x := f) E 1 dX1_tryBuy_19 rfl rfl (pc' := 20) rfl ?_
      refine zw_zald (j := f.toNatClampNeg) (x := d.1 4 f.toNatClampNeg) E 6 1 rfl rfl (zw_in3 c_2.1 c_2.2.1) rfl rfl dX1_tryBuy_20 (pc' := 21) rfl ?_
      refine zw_if_eq (tgt := 26) E dX1_tryBuy_21 (by decide) (pc' := 24) rfl (fun c_3 => ?_) (fun c_3 => ?_)
      · skip
        refine zw_aload_n (i := 0) (x := al 0) E 0 dX1_tryBuy_26 rfl rfl (pc' := 27) rfl ?_
        refine zw_get (v := .ref (al 6)) E 0 6 iX1_tryBuy_X1 fX1_tryBuy_30 rfl rfl (by decide) rfl rfl dX1_tryBuy_27 (pc' := 30) rfl ?_
        refine zw_iload_n (i := 1) (x := f) E 1 dX1_tryBuy_30 rfl rfl (pc' := 31) rfl ?_
        refine zw_iconst (v := 1) E dX1_tryBuy_31 (by decide) (pc' := 32) rfl ?_
        refine zw_zast (j := f.toNatClampNeg) (ws' := (ld_W K al bq (ld_row d 4 f.toNatClampNeg 1))) E 6 1 rfl rfl (zw_in3 c_2.1 c_2.2.1) rfl rfl dX1_tryBuy_32 (pc' := 33) rfl ?_
        refine zw_aload_n (i := 0) (x := al 0) E 0 dX1_tryBuy_33 rfl rfl (pc' := 34) rfl ?_
        refine zw_iload_n (i := 1) (x := f) E 1 dX1_tryBuy_34 rfl rfl (pc' := 35) rfl ?_
        refine zw_callVw E (As := [.int f]) (rest := []) (ws' := (ld_W K al bq (ld_clear (ld_row d 4 f.toNatClampNeg 1) f.toNatClampNeg))) (qX1_clearCharge l D K al bq (ld_row d 4 f.toNatClampNeg 1) f f.toNatClampNeg (Int32.not_lt.mpr c_2.1) (Int32.not_le.mpr c_2.2.1) rfl) (cwV 1 E.2.2.2.2.1 gX1_tryBuy_X1_clearCharge rfl rfl rfl (by decide +kernel) ⟨Nat.le_of_ble_eq_true rfl, Nat.le_of_ble_eq_true rfl⟩) 0 rfl rfl rfl (ld_ad _ _ _ _ _) rfl rfl (Nat.le_of_ble_eq_true rfl) ⟨Nat.zero_le _, Nat.zero_le _⟩ dX1_tryBuy_35 (pc' := 38) rfl ?_
        refine zw_iconst (v := 1) E dX1_tryBuy_38 (by decide) (pc' := 39) rfl ?_
        exact zw_zret E hr hlk dX1_tryBuy_39 rfl (by unfold r_buy; rw [if_neg c_1, if_pos c_2, if_pos c_3]) (by unfold d_buy; rw [if_neg c_1, if_pos c_2, if_pos c_3])
      · skip
        refine zw_iconst (v := 0) E dX1_tryBuy_24 (by decide) (pc' := 25) rfl ?_
        exact zw_zret E hr hlk dX1_tryBuy_25 rfl (by unfold r_buy; rw [if_neg c_1, if_pos c_2, if_neg c_3]) (by unfold d_buy; rw [if_neg c_1, if_pos c_2, if_neg c_3])

def p_b1 (d : Ld) (i j : Nat) : Ld := ld_row d 4 j (vp_nar .boolean (d.1 4 i))
def p_x (d : Ld) (r i : Nat) (told old : Int32) : Int32 := ((d.1 r i).toInt64 * told.toInt64 / old.toInt64).toInt32
def p_c1 (d : Ld) (r i j : Nat) (told old : Int32) : Ld := ld_row d r j (p_x d r i told old)
def p_c2 (d : Ld) (r j : Nat) (v : Int32) : Ld := ld_row d r (j + 1) (v - d.1 r j)
def p_c (d : Ld) (r i j : Nat) (told old : Int32) : Ld := p_c2 (p_c1 d r i j told old) r j (d.1 r i)
def ld_part2 (d : Ld) (i j : Nat) (told old : Int32) : Ld := ld_row (p_c (p_c (p_c (p_b1 (p_b1 d i j) i (j + 1)) 7 i j told old) 8 i j told old) 9 i j told old) 0 i 0
def ld_part1 (d : Ld) (i j : Nat) (told old : Int32) : Ld := ld_make d (j + 1) (old - told) (d.1 2 i) (d.1 3 i)
def ld_part (d : Ld) (i j : Nat) (told : Int32) : Ld := ld_part2 (ld_part1 (ld_make d j told (d.1 2 i) (d.1 3 i)) i j told (d.1 1 i)) i j told (d.1 1 i)
def r_part (d : Ld) (f told : Int32) : Int32 := if is_there d f then if told < 1 then 0 else if told < d.1 1 f.toNatClampNeg then 1 else 0 else 0
def d_part (d : Ld) (f told : Int32) (j : Nat) : Ld := if is_there d f then if told < 1 then d else if told < d.1 1 f.toNatClampNeg then ld_part d f.toNatClampNeg j told else d else d
theorem zw_old {told old : Int32} (h1 : ¬ told < 1) (h2 : told < old) : ¬ old.toInt64 = 0 := by
  intro h
  have e : old.toInt = 0 := by
    have := congrArg Int64.toInt h
    rw [Int32.toInt_toInt64] at this
    exact this
  rw [Int32.lt_iff_toInt_lt] at h2
  have a := Int32.not_lt.mp h1
  rw [Int32.le_iff_toInt_le] at a
  have : (1 : Int32).toInt = 1 := rfl
  omega
theorem fX1_tryPart_15 : Cond.fieldLink RX1 15 "TitheMap$Land" "area" "[I" ∈ wsX1_tryPart := by decide +kernel
theorem fX1_tryPart_19 : Cond.fieldLink RX1 19 "TitheMap$Land" "kind" "[I" ∈ wsX1_tryPart := by decide +kernel
theorem fX1_tryPart_22 : Cond.fieldLink RX1 22 "TitheMap$Land" "owner" "[I" ∈ wsX1_tryPart := by decide +kernel
theorem fX1_tryPart_27 : Cond.fieldLink RX1 27 "TitheMap$Land" "charge" "[[I" ∈ wsX1_tryPart := by decide +kernel
theorem fX1_tryPart_30 : Cond.fieldLink RX1 30 "TitheMap$Land" "bought" "[Z" ∈ wsX1_tryPart := by decide +kernel
theorem fX1_tryPart_9 : Cond.fieldLink RX1 9 "TitheMap$Land" "there" "[Z" ∈ wsX1_tryPart := by decide +kernel
theorem iX1_tryPart_X1 : ∀ w ∈ wsX10, w ∈ wsX1_tryPart := by decide +kernel
set_option maxHeartbeats 4000000 in
set_option maxRecDepth 100000 in
/-- tryPart(f, told, g, h) -/
theorem qX1_tryPart (l : Launch) (D : va_G) (K : Nat → ClassId) (al : Nat → Nat) (bq : Nat) (d : Ld) (f told : Int32) (j : Nat) (hj : j + 1 < 60) : zw_I l yX1_tryPart wsX1_tryPart rmX1_tryPart D (zT K) [.ref (al 0), .int f, .int told, .int (nI j), .int (nI (j + 1))] (ld_W K al bq d) (r_part d f told) (ld_W K al bq (d_part d f told j)) := by
  refine zw_ofI (cc := cX1_tryPart) (nL := 8) (ret := (some .boolean)) (own := RX1) (lv := [(0, .ref (al 0)), (1, .int f), (2, .int told), (3, .int (nI j)), (4, .int (nI (j + 1)))]) (by decide) rfl (Nat.le_of_ble_eq_true rfl) rfl rfl ?_
  intro p e s m below meth c A E hr hlk
  refine zw_aload_n (i := 0) (x := al 0) E 0 dX1_tryPart_0 rfl rfl (pc' := 1) rfl ?_
  refine zw_iload_n (i := 1) (x := f) E 1 dX1_tryPart_1 rfl rfl (pc' := 2) rfl ?_
  refine zw_callIw E (r := zb (is_there d f)) (As := [.int f]) (rest := []) (ws' := (ld_W K al bq d)) (qX1_isThere l D K al bq d f) (cwV 1 E.2.2.2.2.1 gX1_tryPart_X1_isThere rfl rfl rfl (by decide +kernel) ⟨Nat.le_of_ble_eq_true rfl, Nat.le_of_ble_eq_true rfl⟩) 0 rfl rfl rfl rfl rfl rfl (Nat.le_of_ble_eq_true rfl) ⟨Nat.zero_le _, Nat.zero_le _⟩ dX1_tryPart_2 (pc' := 5) rfl ?_
  refine zw_ifb_eq (tgt := 38) E dX1_tryPart_5 (by decide) (pc' := 8) rfl (fun c_1 => ?_) (fun c_1 => ?_)
  · skip
    refine zw_iconst (v := 0) E dX1_tryPart_38 (by decide) (pc' := 39) rfl ?_
    exact zw_zret E hr hlk dX1_tryPart_39 rfl (by unfold r_part; rw [if_neg c_1]) (by unfold d_part; rw [if_neg c_1])
  · skip
    refine zw_iload_n (i := 3) (x := nI j) E 3 dX1_tryPart_8 rfl rfl (pc' := 9) rfl ?_
    refine zw_callIs E (r := zb (0 ≤ nI j ∧ nI j < 60)) (As := [.int (nI j)]) (rest := []) (ws' := (ld_W K al bq d)) (qX1_isNumber l D K (nI j)) (va_cwS 1 E.2.2.2.2.1 gX1_tryPart_X1_isNumber rfl rfl rfl (by decide +kernel) ⟨Nat.le_of_ble_eq_true rfl, Nat.le_of_ble_eq_true rfl⟩) [] (by decide) rfl rfl (zw_put_same _ _ _ rfl) rfl rfl (Nat.le_of_ble_eq_true rfl) ⟨Nat.zero_le _, Nat.zero_le _⟩ dX1_tryPart_9 (pc' := 12) rfl ?_
    refine zw_ifb_eq (tgt := 38) E dX1_tryPart_12 (by decide) (pc' := 15) rfl (fun c_2 => ?_) (fun c_2 => ?_)
    · exact absurd (zw_num (Nat.lt_of_succ_lt hj)) c_2
    · skip
      refine zw_iload (x := nI (j + 1)) E 4 dX1_tryPart_15 rfl (pc' := 17) rfl ?_
      refine zw_callIs E (r := zb (0 ≤ nI (j + 1) ∧ nI (j + 1) < 60)) (As := [.int (nI (j + 1))]) (rest := []) (ws' := (ld_W K al bq d)) (qX1_isNumber l D K (nI (j + 1))) (va_cwS 1 E.2.2.2.2.1 gX1_tryPart_X1_isNumber rfl rfl rfl (by decide +kernel) ⟨Nat.le_of_ble_eq_true rfl, Nat.le_of_ble_eq_true rfl⟩) [] (by decide) rfl rfl (zw_put_same _ _ _ rfl) rfl rfl (Nat.le_of_ble_eq_true rfl) ⟨Nat.zero_le _, Nat.zero_le _⟩ dX1_tryPart_17 (pc' := 20) rfl ?_
      refine zw_ifb_eq (tgt := 38) E dX1_tryPart_20 (by decide) (pc' := 23) rfl (fun c_3 => ?_) (fun c_3 => ?_)
      · exact absurd (zw_num hj) c_3
      · skip
        refine zw_iload_n (i := 2) (x := told) E 2 dX1_tryPart_23 rfl rfl (pc' := 24) rfl ?_
        refine zw_iconst (v := 1) E dX1_tryPart_24 (by decide) (pc' := 25) rfl ?_
        refine zw_icmp_lt (tgt := 38) E dX1_tryPart_25 (by decide) (pc' := 28) rfl (fun c_4 => ?_) (fun c_4 => ?_)
        · skip
          refine zw_iconst (v := 0) E dX1_tryPart_38 (by decide) (pc' := 39) rfl ?_
          exact zw_zret E hr hlk dX1_tryPart_39 rfl (by unfold r_part; rw [if_pos c_1, if_pos c_4]) (by unfold d_part; rw [if_pos c_1, if_pos c_4])
        · skip
          refine zw_aload_n (i := 0) (x := al 0) E 0 dX1_tryPart_28 rfl rfl (pc' := 29) rfl ?_
          refine zw_get (v := .ref (al 2)) E 0 2 iX1_tryPart_X1 fX1_tryPart_15 rfl rfl (by decide) rfl rfl dX1_tryPart_29 (pc' := 32) rfl ?_
          refine zw_iload_n (i := 1) (x := f) E 1 dX1_tryPart_32 rfl rfl (pc' := 33) rfl ?_
          refine zw_iald (j := f.toNatClampNeg) (x := d.1 1 f.toNatClampNeg) E 2 0 rfl rfl (zw_in3 c_1.1 c_1.2.1) rfl rfl dX1_tryPart_33 (pc' := 34) rfl ?_
          refine zw_iload_n (i := 2) (x := told) E 2 dX1_tryPart_34 rfl rfl (pc' := 35) rfl ?_
          refine zw_icmp_gt (tgt := 40) E dX1_tryPart_35 (by decide) (pc' := 38) rfl (fun c_5 => ?_) (fun c_5 => ?_)
          · skip
            refine zw_aload_n (i := 0) (x := al 0) E 0 dX1_tryPart_40 rfl rfl (pc' := 41) rfl ?_
            refine zw_get (v := .ref (al 2)) E 0 2 iX1_tryPart_X1 fX1_tryPart_15 rfl rfl (by decide) rfl rfl dX1_tryPart_41 (pc' := 44) rfl ?_
            refine zw_iload_n (i := 1) (x := f) E 1 dX1_tryPart_44 rfl rfl (pc' := 45) rfl ?_
            refine zw_iald (j := f.toNatClampNeg) (x := d.1 1 f.toNatClampNeg) E 2 0 rfl rfl (zw_in3 c_1.1 c_1.2.1) rfl rfl dX1_tryPart_45 (pc' := 46) rfl ?_
            refine zw_istore (lv' := [(5, .int (d.1 1 f.toNatClampNeg)), (0, .ref (al 0)), (1, .int f), (2, .int told), (3, .int (nI j)), (4, .int (nI (j + 1)))]) E dX1_tryPart_46 (by decide) rfl (pc' := 48) rfl ?_
            refine zw_aload_n (i := 0) (x := al 0) E 1 dX1_tryPart_48 rfl rfl (pc' := 49) rfl ?_
            refine zw_iload_n (i := 3) (x := nI j) E 4 dX1_tryPart_49 rfl rfl (pc' := 50) rfl ?_
            refine zw_iload_n (i := 2) (x := told) E 3 dX1_tryPart_50 rfl rfl (pc' := 51) rfl ?_
            refine zw_aload_n (i := 0) (x := al 0) E 1 dX1_tryPart_51 rfl rfl (pc' := 52) rfl ?_
            refine zw_get (v := .ref (al 3)) E 0 3 iX1_tryPart_X1 fX1_tryPart_19 rfl rfl (by decide) rfl rfl dX1_tryPart_52 (pc' := 55) rfl ?_
            refine zw_iload_n (i := 1) (x := f) E 2 dX1_tryPart_55 rfl rfl (pc' := 56) rfl ?_
            refine zw_iald (j := f.toNatClampNeg) (x := d.1 2 f.toNatClampNeg) E 3 0 rfl rfl (zw_in3 c_1.1 c_1.2.1) rfl rfl dX1_tryPart_56 (pc' := 57) rfl ?_
            refine zw_aload_n (i := 0) (x := al 0) E 1 dX1_tryPart_57 rfl rfl (pc' := 58) rfl ?_
            refine zw_get (v := .ref (al 4)) E 0 4 iX1_tryPart_X1 fX1_tryPart_22 rfl rfl (by decide) rfl rfl dX1_tryPart_58 (pc' := 61) rfl ?_
            refine zw_iload_n (i := 1) (x := f) E 2 dX1_tryPart_61 rfl rfl (pc' := 62) rfl ?_
            refine zw_iald (j := f.toNatClampNeg) (x := d.1 3 f.toNatClampNeg) E 4 0 rfl rfl (zw_in3 c_1.1 c_1.2.1) rfl rfl dX1_tryPart_62 (pc' := 63) rfl ?_
            refine zw_callIw E (r := 1) (As := [.int (nI j), .int told, .int (d.1 2 f.toNatClampNeg), .int (d.1 3 f.toNatClampNeg)]) (rest := []) (ws' := (ld_W K al bq (ld_make d j told (d.1 2 f.toNatClampNeg) (d.1 3 f.toNatClampNeg)))) (qX1_tryMake l D K al bq d j (Nat.lt_of_succ_lt hj) told (d.1 2 f.toNatClampNeg) (d.1 3 f.toNatClampNeg)) (cwV 4 E.2.2.2.2.1 gX1_tryPart_X1_tryMake rfl rfl rfl (by decide +kernel) ⟨Nat.le_of_ble_eq_true rfl, Nat.le_of_ble_eq_true rfl⟩) 0 rfl rfl rfl (ld_ad _ _ _ _ _) rfl rfl (Nat.le_of_ble_eq_true rfl) ⟨Nat.zero_le _, Nat.zero_le _⟩ dX1_tryPart_63 (pc' := 66) rfl ?_
            refine zw_gen_ld_d (ld_make d j told (d.1 2 f.toNatClampNeg) (d.1 3 f.toNatClampNeg)) (fun d_1 hg_1 => ?_)
            refine zw_pop E dX1_tryPart_66 rfl (pc' := 67) rfl ?_
            refine zw_aload_n (i := 0) (x := al 0) E 1 dX1_tryPart_67 rfl rfl (pc' := 68) rfl ?_
            refine zw_iload (x := nI (j + 1)) E 5 dX1_tryPart_68 rfl (pc' := 70) rfl ?_
            refine zw_iload (x := d.1 1 f.toNatClampNeg) E 0 dX1_tryPart_70 rfl (pc' := 72) rfl ?_
            refine zw_iload_n (i := 2) (x := told) E 3 dX1_tryPart_72 rfl rfl (pc' := 73) rfl ?_
            refine zw_isub E dX1_tryPart_73 (pc' := 74) rfl ?_
            refine zw_aload_n (i := 0) (x := al 0) E 1 dX1_tryPart_74 rfl rfl (pc' := 75) rfl ?_
            refine zw_get (v := .ref (al 3)) E 0 3 iX1_tryPart_X1 fX1_tryPart_19 rfl rfl (by decide) rfl rfl dX1_tryPart_75 (pc' := 78) rfl ?_
            refine zw_iload_n (i := 1) (x := f) E 2 dX1_tryPart_78 rfl rfl (pc' := 79) rfl ?_
            refine zw_iald (j := f.toNatClampNeg) (x := d_1.1 2 f.toNatClampNeg) E 3 0 rfl rfl (zw_in3 c_1.1 c_1.2.1) rfl rfl dX1_tryPart_79 (pc' := 80) rfl ?_
            refine zw_aload_n (i := 0) (x := al 0) E 1 dX1_tryPart_80 rfl rfl (pc' := 81) rfl ?_
            refine zw_get (v := .ref (al 4)) E 0 4 iX1_tryPart_X1 fX1_tryPart_22 rfl rfl (by decide) rfl rfl dX1_tryPart_81 (pc' := 84) rfl ?_
            refine zw_iload_n (i := 1) (x := f) E 2 dX1_tryPart_84 rfl rfl (pc' := 85) rfl ?_
            refine zw_iald (j := f.toNatClampNeg) (x := d_1.1 3 f.toNatClampNeg) E 4 0 rfl rfl (zw_in3 c_1.1 c_1.2.1) rfl rfl dX1_tryPart_85 (pc' := 86) rfl ?_
            refine zw_callIw E (r := 1) (As := [.int (nI (j + 1)), .int ((d.1 1 f.toNatClampNeg) - told), .int (d_1.1 2 f.toNatClampNeg), .int (d_1.1 3 f.toNatClampNeg)]) (rest := []) (ws' := (ld_W K al bq (ld_make d_1 (j + 1) ((d.1 1 f.toNatClampNeg) - told) (d_1.1 2 f.toNatClampNeg) (d_1.1 3 f.toNatClampNeg)))) (qX1_tryMake l D K al bq d_1 (j + 1) hj ((d.1 1 f.toNatClampNeg) - told) (d_1.1 2 f.toNatClampNeg) (d_1.1 3 f.toNatClampNeg)) (cwV 4 E.2.2.2.2.1 gX1_tryPart_X1_tryMake rfl rfl rfl (by decide +kernel) ⟨Nat.le_of_ble_eq_true rfl, Nat.le_of_ble_eq_true rfl⟩) 0 rfl rfl rfl (ld_ad _ _ _ _ _) rfl rfl (Nat.le_of_ble_eq_true rfl) ⟨Nat.zero_le _, Nat.zero_le _⟩ dX1_tryPart_86 (pc' := 89) rfl ?_
            refine zw_gen_ld_d (ld_make d_1 (j + 1) ((d.1 1 f.toNatClampNeg) - told) (d_1.1 2 f.toNatClampNeg) (d_1.1 3 f.toNatClampNeg)) (fun d_2 hg_2 => ?_)
            refine zw_pop E dX1_tryPart_89 rfl (pc' := 90) rfl ?_
            refine zw_aload_n (i := 0) (x := al 0) E 1 dX1_tryPart_90 rfl rfl (pc' := 91) rfl ?_
            refine zw_get (v := .ref (al 6)) E 0 6 iX1_tryPart_X1 fX1_tryPart_30 rfl rfl (by decide) rfl rfl dX1_tryPart_91 (pc' := 94) rfl ?_
            refine zw_iload_n (i := 3) (x := nI j) E 4 dX1_tryPart_94 rfl rfl (pc' := 95) rfl ?_
            refine zw_aload_n (i := 0) (x := al 0) E 1 dX1_tryPart_95 rfl rfl (pc' := 96) rfl ?_
            refine zw_get (v := .ref (al 6)) E 0 6 iX1_tryPart_X1 fX1_tryPart_30 rfl rfl (by decide) rfl rfl dX1_tryPart_96 (pc' := 99) rfl ?_
            refine zw_iload_n (i := 1) (x := f) E 2 dX1_tryPart_99 rfl rfl (pc' := 100) rfl ?_
            refine zw_zald (j := f.toNatClampNeg) (x := d_2.1 4 f.toNatClampNeg) E 6 1 rfl rfl (zw_in3 c_1.1 c_1.2.1) rfl rfl dX1_tryPart_100 (pc' := 101) rfl ?_
            refine zw_zast (j := j) (ws' := (ld_W K al bq (ld_row d_2 4 j (vp_nar .boolean (d_2.1 4 f.toNatClampNeg))))) E 6 1 rfl rfl (vp_in_nI (Nat.lt_of_succ_lt hj) (by decide)) (zw_clamp (Nat.lt_of_succ_lt hj) (by decide)) rfl dX1_tryPart_101 (pc' := 102) rfl ?_
            refine zw_gen_ld_d (ld_row d_2 4 j (vp_nar .boolean (d_2.1 4 f.toNatClampNeg))) (fun d_3 hg_3 => ?_)
            refine zw_aload_n (i := 0) (x := al 0) E 1 dX1_tryPart_102 rfl rfl (pc' := 103) rfl ?_
            refine zw_get (v := .ref (al 6)) E 0 6 iX1_tryPart_X1 fX1_tryPart_30 rfl rfl (by decide) rfl rfl dX1_tryPart_103 (pc' := 106) rfl ?_
            refine zw_iload (x := nI (j + 1)) E 5 dX1_tryPart_106 rfl (pc' := 108) rfl ?_
            refine zw_aload_n (i := 0) (x := al 0) E 1 dX1_tryPart_108 rfl rfl (pc' := 109) rfl ?_
            refine zw_get (v := .ref (al 6)) E 0 6 iX1_tryPart_X1 fX1_tryPart_30 rfl rfl (by decide) rfl rfl dX1_tryPart_109 (pc' := 112) rfl ?_
            refine zw_iload_n (i := 1) (x := f) E 2 dX1_tryPart_112 rfl rfl (pc' := 113) rfl ?_
            refine zw_zald (j := f.toNatClampNeg) (x := d_3.1 4 f.toNatClampNeg) E 6 1 rfl rfl (zw_in3 c_1.1 c_1.2.1) rfl rfl dX1_tryPart_113 (pc' := 114) rfl ?_
            refine zw_zast (j := j + 1) (ws' := (ld_W K al bq (ld_row d_3 4 (j + 1) (vp_nar .boolean (d_3.1 4 f.toNatClampNeg))))) E 6 1 rfl rfl (vp_in_nI hj (by decide)) (zw_clamp hj (by decide)) rfl dX1_tryPart_114 (pc' := 115) rfl ?_
            refine zw_gen_ld_d (ld_row d_3 4 (j + 1) (vp_nar .boolean (d_3.1 4 f.toNatClampNeg))) (fun d_4 hg_4 => ?_)
            refine zw_iconst (v := 0) E dX1_tryPart_115 (by decide) (pc' := 116) rfl ?_
            refine zw_istore (lv' := [(6, .int 0), (5, .int (d.1 1 f.toNatClampNeg)), (0, .ref (al 0)), (1, .int f), (2, .int told), (3, .int (nI j)), (4, .int (nI (j + 1)))]) E dX1_tryPart_116 (by decide) rfl (pc' := 118) rfl ?_
            refine zw_iload (x := 0) E 0 dX1_tryPart_118 rfl (pc' := 120) rfl ?_
            refine zw_iconst (v := 3) E dX1_tryPart_120 (by decide) (pc' := 121) rfl ?_
            refine zw_icmp_ge (tgt := 183) E dX1_tryPart_121 (by decide) (pc' := 124) rfl (fun c9 => absurd c9 (by decide)) (fun _ => ?_)
            refine zw_aload_n (i := 0) (x := al 0) E 2 dX1_tryPart_124 rfl rfl (pc' := 125) rfl ?_
            refine zw_get (v := .ref (al 5)) E 0 5 iX1_tryPart_X1 fX1_tryPart_27 rfl rfl (by decide) rfl rfl dX1_tryPart_125 (pc' := 128) rfl ?_
            refine zw_iload (x := 0) E 0 dX1_tryPart_128 rfl (pc' := 130) rfl ?_
            refine zw_aald (j := 0) (b := al 11) E 5 3 rfl rfl (vp_in_nI (n := 0) (N := 3) (by decide) (by decide)) rfl rfl dX1_tryPart_130 (pc' := 131) rfl ?_
            refine zw_iload_n (i := 1) (x := f) E 3 dX1_tryPart_131 rfl rfl (pc' := 132) rfl ?_
            refine zw_iald (j := f.toNatClampNeg) (x := d_4.1 7 f.toNatClampNeg) E 11 0 rfl rfl (zw_in3 c_1.1 c_1.2.1) rfl rfl dX1_tryPart_132 (pc' := 133) rfl ?_
            refine zw_istore (lv' := [(7, .int (d_4.1 7 f.toNatClampNeg)), (6, .int 0), (5, .int (d.1 1 f.toNatClampNeg)), (0, .ref (al 0)), (1, .int f), (2, .int told), (3, .int (nI j)), (4, .int (nI (j + 1)))]) E dX1_tryPart_133 (by decide) rfl (pc' := 135) rfl ?_
            refine zw_aload_n (i := 0) (x := al 0) E 3 dX1_tryPart_135 rfl rfl (pc' := 136) rfl ?_
            refine zw_get (v := .ref (al 5)) E 0 5 iX1_tryPart_X1 fX1_tryPart_27 rfl rfl (by decide) rfl rfl dX1_tryPart_136 (pc' := 139) rfl ?_
            refine zw_iload (x := 0) E 1 dX1_tryPart_139 rfl (pc' := 141) rfl ?_
            refine zw_aald (j := 0) (b := al 11) E 5 3 rfl rfl (vp_in_nI (n := 0) (N := 3) (by decide) (by decide)) rfl rfl dX1_tryPart_141 (pc' := 142) rfl ?_
            refine zw_iload_n (i := 3) (x := nI j) E 6 dX1_tryPart_142 rfl rfl (pc' := 143) rfl ?_
            refine zw_iload (x := d_4.1 7 f.toNatClampNeg) E 0 dX1_tryPart_143 rfl (pc' := 145) rfl ?_
            refine zw_i2l E dX1_tryPart_145 (pc' := 146) rfl ?_
            refine zw_iload_n (i := 2) (x := told) E 5 dX1_tryPart_146 rfl rfl (pc' := 147) rfl ?_
            refine zw_i2l E dX1_tryPart_147 (pc' := 148) rfl ?_
            refine zw_lmul E dX1_tryPart_148 (pc' := 149) rfl ?_
            refine zw_iload (x := d.1 1 f.toNatClampNeg) E 2 dX1_tryPart_149 rfl (pc' := 151) rfl ?_
            refine zw_i2l E dX1_tryPart_151 (pc' := 152) rfl ?_
            refine zw_ldiv E dX1_tryPart_152 (zw_old c_4 c_5) (pc' := 153) rfl ?_
            refine zw_l2i E dX1_tryPart_153 (pc' := 154) rfl ?_
            refine zw_iast (j := j) (ws' := (ld_W K al bq (ld_row d_4 7 j (((((d_4.1 7 f.toNatClampNeg).toInt64) * told.toInt64) / ((d.1 1 f.toNatClampNeg).toInt64)).toInt32)))) E 11 0 rfl rfl (vp_in_nI (Nat.lt_of_succ_lt hj) (by decide)) (zw_clamp (Nat.lt_of_succ_lt hj) (by decide)) rfl dX1_tryPart_154 (pc' := 155) rfl ?_
            refine zw_gen_ld_d (ld_row d_4 7 j (((((d_4.1 7 f.toNatClampNeg).toInt64) * told.toInt64) / ((d.1 1 f.toNatClampNeg).toInt64)).toInt32)) (fun d_5 hg_5 => ?_)
            refine zw_aload_n (i := 0) (x := al 0) E 3 dX1_tryPart_155 rfl rfl (pc' := 156) rfl ?_
            refine zw_get (v := .ref (al 5)) E 0 5 iX1_tryPart_X1 fX1_tryPart_27 rfl rfl (by decide) rfl rfl dX1_tryPart_156 (pc' := 159) rfl ?_
            refine zw_iload (x := 0) E 1 dX1_tryPart_159 rfl (pc' := 161) rfl ?_
            refine zw_aald (j := 0) (b := al 11) E 5 3 rfl rfl (vp_in_nI (n := 0) (N := 3) (by decide) (by decide)) rfl rfl dX1_tryPart_161 (pc' := 162) rfl ?_
            refine zw_iload (x := nI (j + 1)) E 7 dX1_tryPart_162 rfl (pc' := 164) rfl ?_
            refine zw_iload (x := d_4.1 7 f.toNatClampNeg) E 0 dX1_tryPart_164 rfl (pc' := 166) rfl ?_
            refine zw_aload_n (i := 0) (x := al 0) E 3 dX1_tryPart_166 rfl rfl (pc' := 167) rfl ?_
            refine zw_get (v := .ref (al 5)) E 0 5 iX1_tryPart_X1 fX1_tryPart_27 rfl rfl (by decide) rfl rfl dX1_tryPart_167 (pc' := 170) rfl ?_
            refine zw_iload (x := 0) E 1 dX1_tryPart_170 rfl (pc' := 172) rfl ?_
            refine zw_aald (j := 0) (b := al 11) E 5 3 rfl rfl (vp_in_nI (n := 0) (N := 3) (by decide) (by decide)) rfl rfl dX1_tryPart_172 (pc' := 173) rfl ?_
            refine zw_iload_n (i := 3) (x := nI j) E 6 dX1_tryPart_173 rfl rfl (pc' := 174) rfl ?_
            refine zw_iald (j := j) (x := d_5.1 7 j) E 11 0 rfl rfl (vp_in_nI (Nat.lt_of_succ_lt hj) (by decide)) (zw_clamp (Nat.lt_of_succ_lt hj) (by decide)) rfl dX1_tryPart_174 (pc' := 175) rfl ?_
            refine zw_isub E dX1_tryPart_175 (pc' := 176) rfl ?_
            refine zw_iast (j := j + 1) (ws' := (ld_W K al bq (ld_row d_5 7 (j + 1) ((d_4.1 7 f.toNatClampNeg) - (d_5.1 7 j))))) E 11 0 rfl rfl (vp_in_nI hj (by decide)) (zw_clamp hj (by decide)) rfl dX1_tryPart_176 (pc' := 177) rfl ?_
            refine zw_gen_ld_d (ld_row d_5 7 (j + 1) ((d_4.1 7 f.toNatClampNeg) - (d_5.1 7 j))) (fun d_6 hg_6 => ?_)
            refine zw_iinc (x := 0) (v := 1) (lv' := [(6, .int 1), (7, .int (d_4.1 7 f.toNatClampNeg)), (5, .int (d.1 1 f.toNatClampNeg)), (0, .ref (al 0)), (1, .int f), (2, .int told), (3, .int (nI j)), (4, .int (nI (j + 1)))]) E 1 dX1_tryPart_177 rfl (by decide) (by decide) rfl (pc' := 180) rfl ?_
            refine zw_goto (tgt := 118) E dX1_tryPart_180 (by decide) ?_
            refine zw_iload (x := 1) E 0 dX1_tryPart_118 rfl (pc' := 120) rfl ?_
            refine zw_iconst (v := 3) E dX1_tryPart_120 (by decide) (pc' := 121) rfl ?_
            refine zw_icmp_ge (tgt := 183) E dX1_tryPart_121 (by decide) (pc' := 124) rfl (fun c9 => absurd c9 (by decide)) (fun _ => ?_)
            refine zw_aload_n (i := 0) (x := al 0) E 3 dX1_tryPart_124 rfl rfl (pc' := 125) rfl ?_
            refine zw_get (v := .ref (al 5)) E 0 5 iX1_tryPart_X1 fX1_tryPart_27 rfl rfl (by decide) rfl rfl dX1_tryPart_125 (pc' := 128) rfl ?_
            refine zw_iload (x := 1) E 0 dX1_tryPart_128 rfl (pc' := 130) rfl ?_
            refine zw_aald (j := 1) (b := al 12) E 5 3 rfl rfl (vp_in_nI (n := 1) (N := 3) (by decide) (by decide)) rfl rfl dX1_tryPart_130 (pc' := 131) rfl ?_
            refine zw_iload_n (i := 1) (x := f) E 4 dX1_tryPart_131 rfl rfl (pc' := 132) rfl ?_
            refine zw_iald (j := f.toNatClampNeg) (x := d_6.1 8 f.toNatClampNeg) E 12 0 rfl rfl (zw_in3 c_1.1 c_1.2.1) rfl rfl dX1_tryPart_132 (pc' := 133) rfl ?_
            refine zw_istore (lv' := [(7, .int (d_6.1 8 f.toNatClampNeg)), (6, .int 1), (5, .int (d.1 1 f.toNatClampNeg)), (0, .ref (al 0)), (1, .int f), (2, .int told), (3, .int (nI j)), (4, .int (nI (j + 1)))]) E dX1_tryPart_133 (by decide) rfl (pc' := 135) rfl ?_
            refine zw_aload_n (i := 0) (x := al 0) E 3 dX1_tryPart_135 rfl rfl (pc' := 136) rfl ?_
            refine zw_get (v := .ref (al 5)) E 0 5 iX1_tryPart_X1 fX1_tryPart_27 rfl rfl (by decide) rfl rfl dX1_tryPart_136 (pc' := 139) rfl ?_
            refine zw_iload (x := 1) E 1 dX1_tryPart_139 rfl (pc' := 141) rfl ?_
            refine zw_aald (j := 1) (b := al 12) E 5 3 rfl rfl (vp_in_nI (n := 1) (N := 3) (by decide) (by decide)) rfl rfl dX1_tryPart_141 (pc' := 142) rfl ?_
            refine zw_iload_n (i := 3) (x := nI j) E 6 dX1_tryPart_142 rfl rfl (pc' := 143) rfl ?_
            refine zw_iload (x := d_6.1 8 f.toNatClampNeg) E 0 dX1_tryPart_143 rfl (pc' := 145) rfl ?_
            refine zw_i2l E dX1_tryPart_145 (pc' := 146) rfl ?_
            refine zw_iload_n (i := 2) (x := told) E 5 dX1_tryPart_146 rfl rfl (pc' := 147) rfl ?_
            refine zw_i2l E dX1_tryPart_147 (pc' := 148) rfl ?_
            refine zw_lmul E dX1_tryPart_148 (pc' := 149) rfl ?_
            refine zw_iload (x := d.1 1 f.toNatClampNeg) E 2 dX1_tryPart_149 rfl (pc' := 151) rfl ?_
            refine zw_i2l E dX1_tryPart_151 (pc' := 152) rfl ?_
            refine zw_ldiv E dX1_tryPart_152 (zw_old c_4 c_5) (pc' := 153) rfl ?_
            refine zw_l2i E dX1_tryPart_153 (pc' := 154) rfl ?_
            refine zw_iast (j := j) (ws' := (ld_W K al bq (ld_row d_6 8 j (((((d_6.1 8 f.toNatClampNeg).toInt64) * told.toInt64) / ((d.1 1 f.toNatClampNeg).toInt64)).toInt32)))) E 12 0 rfl rfl (vp_in_nI (Nat.lt_of_succ_lt hj) (by decide)) (zw_clamp (Nat.lt_of_succ_lt hj) (by decide)) rfl dX1_tryPart_154 (pc' := 155) rfl ?_
            refine zw_gen_ld_d (ld_row d_6 8 j (((((d_6.1 8 f.toNatClampNeg).toInt64) * told.toInt64) / ((d.1 1 f.toNatClampNeg).toInt64)).toInt32)) (fun d_7 hg_7 => ?_)
            refine zw_aload_n (i := 0) (x := al 0) E 3 dX1_tryPart_155 rfl rfl (pc' := 156) rfl ?_
            refine zw_get (v := .ref (al 5)) E 0 5 iX1_tryPart_X1 fX1_tryPart_27 rfl rfl (by decide) rfl rfl dX1_tryPart_156 (pc' := 159) rfl ?_
            refine zw_iload (x := 1) E 1 dX1_tryPart_159 rfl (pc' := 161) rfl ?_
            refine zw_aald (j := 1) (b := al 12) E 5 3 rfl rfl (vp_in_nI (n := 1) (N := 3) (by decide) (by decide)) rfl rfl dX1_tryPart_161 (pc' := 162) rfl ?_
            refine zw_iload (x := nI (j + 1)) E 7 dX1_tryPart_162 rfl (pc' := 164) rfl ?_
            refine zw_iload (x := d_6.1 8 f.toNatClampNeg) E 0 dX1_tryPart_164 rfl (pc' := 166) rfl ?_
            refine zw_aload_n (i := 0) (x := al 0) E 3 dX1_tryPart_166 rfl rfl (pc' := 167) rfl ?_
            refine zw_get (v := .ref (al 5)) E 0 5 iX1_tryPart_X1 fX1_tryPart_27 rfl rfl (by decide) rfl rfl dX1_tryPart_167 (pc' := 170) rfl ?_
            refine zw_iload (x := 1) E 1 dX1_tryPart_170 rfl (pc' := 172) rfl ?_
            refine zw_aald (j := 1) (b := al 12) E 5 3 rfl rfl (vp_in_nI (n := 1) (N := 3) (by decide) (by decide)) rfl rfl dX1_tryPart_172 (pc' := 173) rfl ?_
            refine zw_iload_n (i := 3) (x := nI j) E 6 dX1_tryPart_173 rfl rfl (pc' := 174) rfl ?_
            refine zw_iald (j := j) (x := d_7.1 8 j) E 12 0 rfl rfl (vp_in_nI (Nat.lt_of_succ_lt hj) (by decide)) (zw_clamp (Nat.lt_of_succ_lt hj) (by decide)) rfl dX1_tryPart_174 (pc' := 175) rfl ?_
            refine zw_isub E dX1_tryPart_175 (pc' := 176) rfl ?_
            refine zw_iast (j := j + 1) (ws' := (ld_W K al bq (ld_row d_7 8 (j + 1) ((d_6.1 8 f.toNatClampNeg) - (d_7.1 8 j))))) E 12 0 rfl rfl (vp_in_nI hj (by decide)) (zw_clamp hj (by decide)) rfl dX1_tryPart_176 (pc' := 177) rfl ?_
            refine zw_gen_ld_d (ld_row d_7 8 (j + 1) ((d_6.1 8 f.toNatClampNeg) - (d_7.1 8 j))) (fun d_8 hg_8 => ?_)
            refine zw_iinc (x := 1) (v := 2) (lv' := [(6, .int 2), (7, .int (d_6.1 8 f.toNatClampNeg)), (5, .int (d.1 1 f.toNatClampNeg)), (0, .ref (al 0)), (1, .int f), (2, .int told), (3, .int (nI j)), (4, .int (nI (j + 1)))]) E 1 dX1_tryPart_177 rfl (by decide) (by decide) rfl (pc' := 180) rfl ?_
            refine zw_goto (tgt := 118) E dX1_tryPart_180 (by decide) ?_
            refine zw_iload (x := 2) E 0 dX1_tryPart_118 rfl (pc' := 120) rfl ?_
            refine zw_iconst (v := 3) E dX1_tryPart_120 (by decide) (pc' := 121) rfl ?_
            refine zw_icmp_ge (tgt := 183) E dX1_tryPart_121 (by decide) (pc' := 124) rfl (fun c9 => absurd c9 (by decide)) (fun _ => ?_)
            refine zw_aload_n (i := 0) (x := al 0) E 3 dX1_tryPart_124 rfl rfl (pc' := 125) rfl ?_
            refine zw_get (v := .ref (al 5)) E 0 5 iX1_tryPart_X1 fX1_tryPart_27 rfl rfl (by decide) rfl rfl dX1_tryPart_125 (pc' := 128) rfl ?_
            refine zw_iload (x := 2) E 0 dX1_tryPart_128 rfl (pc' := 130) rfl ?_
            refine zw_aald (j := 2) (b := al 13) E 5 3 rfl rfl (vp_in_nI (n := 2) (N := 3) (by decide) (by decide)) rfl rfl dX1_tryPart_130 (pc' := 131) rfl ?_
            refine zw_iload_n (i := 1) (x := f) E 4 dX1_tryPart_131 rfl rfl (pc' := 132) rfl ?_
            refine zw_iald (j := f.toNatClampNeg) (x := d_8.1 9 f.toNatClampNeg) E 13 0 rfl rfl (zw_in3 c_1.1 c_1.2.1) rfl rfl dX1_tryPart_132 (pc' := 133) rfl ?_
            refine zw_istore (lv' := [(7, .int (d_8.1 9 f.toNatClampNeg)), (6, .int 2), (5, .int (d.1 1 f.toNatClampNeg)), (0, .ref (al 0)), (1, .int f), (2, .int told), (3, .int (nI j)), (4, .int (nI (j + 1)))]) E dX1_tryPart_133 (by decide) rfl (pc' := 135) rfl ?_
            refine zw_aload_n (i := 0) (x := al 0) E 3 dX1_tryPart_135 rfl rfl (pc' := 136) rfl ?_
            refine zw_get (v := .ref (al 5)) E 0 5 iX1_tryPart_X1 fX1_tryPart_27 rfl rfl (by decide) rfl rfl dX1_tryPart_136 (pc' := 139) rfl ?_
            refine zw_iload (x := 2) E 1 dX1_tryPart_139 rfl (pc' := 141) rfl ?_
            refine zw_aald (j := 2) (b := al 13) E 5 3 rfl rfl (vp_in_nI (n := 2) (N := 3) (by decide) (by decide)) rfl rfl dX1_tryPart_141 (pc' := 142) rfl ?_
            refine zw_iload_n (i := 3) (x := nI j) E 6 dX1_tryPart_142 rfl rfl (pc' := 143) rfl ?_
            refine zw_iload (x := d_8.1 9 f.toNatClampNeg) E 0 dX1_tryPart_143 rfl (pc' := 145) rfl ?_
            refine zw_i2l E dX1_tryPart_145 (pc' := 146) rfl ?_
            refine zw_iload_n (i := 2) (x := told) E 5 dX1_tryPart_146 rfl rfl (pc' := 147) rfl ?_
            refine zw_i2l E dX1_tryPart_147 (pc' := 148) rfl ?_
            refine zw_lmul E dX1_tryPart_148 (pc' := 149) rfl ?_
            refine zw_iload (x := d.1 1 f.toNatClampNeg) E 2 dX1_tryPart_149 rfl (pc' := 151) rfl ?_
            refine zw_i2l E dX1_tryPart_151 (pc' := 152) rfl ?_
            refine zw_ldiv E dX1_tryPart_152 (zw_old c_4 c_5) (pc' := 153) rfl ?_
            refine zw_l2i E dX1_tryPart_153 (pc' := 154) rfl ?_
            refine zw_iast (j := j) (ws' := (ld_W K al bq (ld_row d_8 9 j (((((d_8.1 9 f.toNatClampNeg).toInt64) * told.toInt64) / ((d.1 1 f.toNatClampNeg).toInt64)).toInt32)))) E 13 0 rfl rfl (vp_in_nI (Nat.lt_of_succ_lt hj) (by decide)) (zw_clamp (Nat.lt_of_succ_lt hj) (by decide)) rfl dX1_tryPart_154 (pc' := 155) rfl ?_
            refine zw_gen_ld_d (ld_row d_8 9 j (((((d_8.1 9 f.toNatClampNeg).toInt64) * told.toInt64) / ((d.1 1 f.toNatClampNeg).toInt64)).toInt32)) (fun d_9 hg_9 => ?_)
            refine zw_aload_n (i := 0) (x := al 0) E 3 dX1_tryPart_155 rfl rfl (pc' := 156) rfl ?_
            refine zw_get (v := .ref (al 5)) E 0 5 iX1_tryPart_X1 fX1_tryPart_27 rfl rfl (by decide) rfl rfl dX1_tryPart_156 (pc' := 159) rfl ?_
            refine zw_iload (x := 2) E 1 dX1_tryPart_159 rfl (pc' := 161) rfl ?_
            refine zw_aald (j := 2) (b := al 13) E 5 3 rfl rfl (vp_in_nI (n := 2) (N := 3) (by decide) (by decide)) rfl rfl dX1_tryPart_161 (pc' := 162) rfl ?_
            refine zw_iload (x := nI (j + 1)) E 7 dX1_tryPart_162 rfl (pc' := 164) rfl ?_
            refine zw_iload (x := d_8.1 9 f.toNatClampNeg) E 0 dX1_tryPart_164 rfl (pc' := 166) rfl ?_
            refine zw_aload_n (i := 0) (x := al 0) E 3 dX1_tryPart_166 rfl rfl (pc' := 167) rfl ?_
            refine zw_get (v := .ref (al 5)) E 0 5 iX1_tryPart_X1 fX1_tryPart_27 rfl rfl (by decide) rfl rfl dX1_tryPart_167 (pc' := 170) rfl ?_
            refine zw_iload (x := 2) E 1 dX1_tryPart_170 rfl (pc' := 172) rfl ?_
            refine zw_aald (j := 2) (b := al 13) E 5 3 rfl rfl (vp_in_nI (n := 2) (N := 3) (by decide) (by decide)) rfl rfl dX1_tryPart_172 (pc' := 173) rfl ?_
            refine zw_iload_n (i := 3) (x := nI j) E 6 dX1_tryPart_173 rfl rfl (pc' := 174) rfl ?_
            refine zw_iald (j := j) (x := d_9.1 9 j) E 13 0 rfl rfl (vp_in_nI (Nat.lt_of_succ_lt hj) (by decide)) (zw_clamp (Nat.lt_of_succ_lt hj) (by decide)) rfl dX1_tryPart_174 (pc' := 175) rfl ?_
            refine zw_isub E dX1_tryPart_175 (pc' := 176) rfl ?_
            refine zw_iast (j := j + 1) (ws' := (ld_W K al bq (ld_row d_9 9 (j + 1) ((d_8.1 9 f.toNatClampNeg) - (d_9.1 9 j))))) E 13 0 rfl rfl (vp_in_nI hj (by decide)) (zw_clamp hj (by decide)) rfl dX1_tryPart_176 (pc' := 177) rfl ?_
            refine zw_gen_ld_d (ld_row d_9 9 (j + 1) ((d_8.1 9 f.toNatClampNeg) - (d_9.1 9 j))) (fun d_10 hg_10 => ?_)
            refine zw_iinc (x := 2) (v := 3) (lv' := [(6, .int 3), (7, .int (d_8.1 9 f.toNatClampNeg)), (5, .int (d.1 1 f.toNatClampNeg)), (0, .ref (al 0)), (1, .int f), (2, .int told), (3, .int (nI j)), (4, .int (nI (j + 1)))]) E 1 dX1_tryPart_177 rfl (by decide) (by decide) rfl (pc' := 180) rfl ?_
            refine zw_goto (tgt := 118) E dX1_tryPart_180 (by decide) ?_
            refine zw_iload (x := 3) E 0 dX1_tryPart_118 rfl (pc' := 120) rfl ?_
            refine zw_iconst (v := 3) E dX1_tryPart_120 (by decide) (pc' := 121) rfl ?_
            refine zw_icmp_ge (tgt := 183) E dX1_tryPart_121 (by decide) (pc' := 124) rfl (fun _ => ?_) (fun c9 => absurd (by decide) c9)
            refine zw_aload_n (i := 0) (x := al 0) E 3 dX1_tryPart_183 rfl rfl (pc' := 184) rfl ?_
            refine zw_get (v := .ref (al 1)) E 0 1 iX1_tryPart_X1 fX1_tryPart_9 rfl rfl (by decide) rfl rfl dX1_tryPart_184 (pc' := 187) rfl ?_
            refine zw_iload_n (i := 1) (x := f) E 4 dX1_tryPart_187 rfl rfl (pc' := 188) rfl ?_
            refine zw_iconst (v := 0) E dX1_tryPart_188 (by decide) (pc' := 189) rfl ?_
            refine zw_zast (j := f.toNatClampNeg) (ws' := (ld_W K al bq (ld_row d_10 0 f.toNatClampNeg 0))) E 1 1 rfl rfl (zw_in3 c_1.1 c_1.2.1) rfl rfl dX1_tryPart_189 (pc' := 190) rfl ?_
            refine zw_gen_ld_d (ld_row d_10 0 f.toNatClampNeg 0) (fun d_11 hg_11 => ?_)
            refine zw_iconst (v := 1) E dX1_tryPart_190 (by decide) (pc' := 191) rfl ?_
            exact zw_zret E hr hlk dX1_tryPart_191 rfl (by unfold r_part; rw [if_pos c_1, if_neg c_4, if_pos c_5]) (by unfold d_part; rw [if_pos c_1, if_neg c_4, if_pos c_5]; unfold ld_part ld_part1 ld_part2 p_c; rw [hg_1, hg_2, show p_b1 d_2 f.toNatClampNeg j = d_3 from hg_3, show p_b1 d_3 f.toNatClampNeg (j + 1) = d_4 from hg_4, show p_c1 d_4 7 f.toNatClampNeg j told (d.1 1 f.toNatClampNeg) = d_5 from hg_5, show p_c2 d_5 7 j (d_4.1 7 f.toNatClampNeg) = d_6 from hg_6, show p_c1 d_6 8 f.toNatClampNeg j told (d.1 1 f.toNatClampNeg) = d_7 from hg_7, show p_c2 d_7 8 j (d_6.1 8 f.toNatClampNeg) = d_8 from hg_8, show p_c1 d_8 9 f.toNatClampNeg j told (d.1 1 f.toNatClampNeg) = d_9 from hg_9, show p_c2 d_9 9 j (d_8.1 9 f.toNatClampNeg) = d_10 from hg_10, hg_11])
          · skip
            refine zw_iconst (v := 0) E dX1_tryPart_38 (by decide) (pc' := 39) rfl ?_
            exact zw_zret E hr hlk dX1_tryPart_39 rfl (by unfold r_part; rw [if_pos c_1, if_neg c_4, if_neg c_5]) (by unfold d_part; rw [if_pos c_1, if_neg c_4, if_neg c_5])

def j_c (d : Ld) (r i i2 j : Nat) : Ld := ld_row d r j (d.1 r i + d.1 r i2)
def ld_join2 (d : Ld) (i i2 j : Nat) : Ld := ld_row (ld_row (j_c (j_c (j_c (p_b1 d i j) 7 i i2 j) 8 i i2 j) 9 i i2 j) 0 i 0) 0 i2 0
def ld_join (d : Ld) (i i2 j : Nat) : Ld := ld_join2 (ld_make d j (d.1 1 i + d.1 1 i2) (d.1 2 i) (d.1 3 i)) i i2 j
def r_join (d : Ld) (f h : Int32) : Int32 := if f = h then 0 else if is_there d f then if is_there d h then if d.1 2 f.toNatClampNeg = d.1 2 h.toNatClampNeg then if d.1 3 f.toNatClampNeg = d.1 3 h.toNatClampNeg then if d.1 4 f.toNatClampNeg = d.1 4 h.toNatClampNeg then 1 else 0 else 0 else 0 else 0 else 0
def d_join (d : Ld) (f h : Int32) (j : Nat) : Ld := if f = h then d else if is_there d f then if is_there d h then if d.1 2 f.toNatClampNeg = d.1 2 h.toNatClampNeg then if d.1 3 f.toNatClampNeg = d.1 3 h.toNatClampNeg then if d.1 4 f.toNatClampNeg = d.1 4 h.toNatClampNeg then ld_join d f.toNatClampNeg h.toNatClampNeg j else d else d else d else d else d
theorem fX1_tryJoin_15 : Cond.fieldLink RX1 15 "TitheMap$Land" "area" "[I" ∈ wsX1_tryJoin := by decide +kernel
theorem fX1_tryJoin_19 : Cond.fieldLink RX1 19 "TitheMap$Land" "kind" "[I" ∈ wsX1_tryJoin := by decide +kernel
theorem fX1_tryJoin_22 : Cond.fieldLink RX1 22 "TitheMap$Land" "owner" "[I" ∈ wsX1_tryJoin := by decide +kernel
theorem fX1_tryJoin_27 : Cond.fieldLink RX1 27 "TitheMap$Land" "charge" "[[I" ∈ wsX1_tryJoin := by decide +kernel
theorem fX1_tryJoin_30 : Cond.fieldLink RX1 30 "TitheMap$Land" "bought" "[Z" ∈ wsX1_tryJoin := by decide +kernel
theorem fX1_tryJoin_9 : Cond.fieldLink RX1 9 "TitheMap$Land" "there" "[Z" ∈ wsX1_tryJoin := by decide +kernel
theorem iX1_tryJoin_X1 : ∀ w ∈ wsX10, w ∈ wsX1_tryJoin := by decide +kernel
set_option maxHeartbeats 4000000 in
set_option maxRecDepth 100000 in
/-- tryJoin(f, g, h) -/
theorem qX1_tryJoin (l : Launch) (D : va_G) (K : Nat → ClassId) (al : Nat → Nat) (bq : Nat) (d : Ld) (f h : Int32) (j : Nat) (hj : j < 60) : zw_I l yX1_tryJoin wsX1_tryJoin rmX1_tryJoin D (zT K) [.ref (al 0), .int f, .int h, .int (nI j)] (ld_W K al bq d) (r_join d f h) (ld_W K al bq (d_join d f h j)) := by
  refine zw_ofI (cc := cX1_tryJoin) (nL := 5) (ret := (some .boolean)) (own := RX1) (lv := [(0, .ref (al 0)), (1, .int f), (2, .int h), (3, .int (nI j))]) (by decide) rfl (Nat.le_of_ble_eq_true rfl) rfl rfl ?_
  intro p e s m below meth c A E hr hlk
  refine zw_iload_n (i := 1) (x := f) E 1 dX1_tryJoin_0 rfl rfl (pc' := 1) rfl ?_
  refine zw_iload_n (i := 2) (x := h) E 2 dX1_tryJoin_1 rfl rfl (pc' := 2) rfl ?_
  refine zw_icmp_eq (tgt := 73) E dX1_tryJoin_2 (by decide) (pc' := 5) rfl (fun c_1 => ?_) (fun c_1 => ?_)
  · skip
    refine zw_iconst (v := 0) E dX1_tryJoin_73 (by decide) (pc' := 74) rfl ?_
    exact zw_zret E hr hlk dX1_tryJoin_74 rfl (by unfold r_join; rw [if_pos c_1]) (by unfold d_join; rw [if_pos c_1])
  · skip
    refine zw_aload_n (i := 0) (x := al 0) E 0 dX1_tryJoin_5 rfl rfl (pc' := 6) rfl ?_
    refine zw_iload_n (i := 1) (x := f) E 1 dX1_tryJoin_6 rfl rfl (pc' := 7) rfl ?_
    refine zw_callIw E (r := zb (is_there d f)) (As := [.int f]) (rest := []) (ws' := (ld_W K al bq d)) (qX1_isThere l D K al bq d f) (cwV 1 E.2.2.2.2.1 gX1_tryJoin_X1_isThere rfl rfl rfl (by decide +kernel) ⟨Nat.le_of_ble_eq_true rfl, Nat.le_of_ble_eq_true rfl⟩) 0 rfl rfl rfl rfl rfl rfl (Nat.le_of_ble_eq_true rfl) ⟨Nat.zero_le _, Nat.zero_le _⟩ dX1_tryJoin_7 (pc' := 10) rfl ?_
    refine zw_ifb_eq (tgt := 73) E dX1_tryJoin_10 (by decide) (pc' := 13) rfl (fun c_2 => ?_) (fun c_2 => ?_)
    · skip
      refine zw_iconst (v := 0) E dX1_tryJoin_73 (by decide) (pc' := 74) rfl ?_
      exact zw_zret E hr hlk dX1_tryJoin_74 rfl (by unfold r_join; rw [if_neg c_1, if_neg c_2]) (by unfold d_join; rw [if_neg c_1, if_neg c_2])
    · skip
      refine zw_aload_n (i := 0) (x := al 0) E 0 dX1_tryJoin_13 rfl rfl (pc' := 14) rfl ?_
      refine zw_iload_n (i := 2) (x := h) E 2 dX1_tryJoin_14 rfl rfl (pc' := 15) rfl ?_
      refine zw_callIw E (r := zb (is_there d h)) (As := [.int h]) (rest := []) (ws' := (ld_W K al bq d)) (qX1_isThere l D K al bq d h) (cwV 1 E.2.2.2.2.1 gX1_tryJoin_X1_isThere rfl rfl rfl (by decide +kernel) ⟨Nat.le_of_ble_eq_true rfl, Nat.le_of_ble_eq_true rfl⟩) 0 rfl rfl rfl rfl rfl rfl (Nat.le_of_ble_eq_true rfl) ⟨Nat.zero_le _, Nat.zero_le _⟩ dX1_tryJoin_15 (pc' := 18) rfl ?_
      refine zw_ifb_eq (tgt := 73) E dX1_tryJoin_18 (by decide) (pc' := 21) rfl (fun c_3 => ?_) (fun c_3 => ?_)
      · skip
        refine zw_iconst (v := 0) E dX1_tryJoin_73 (by decide) (pc' := 74) rfl ?_
        exact zw_zret E hr hlk dX1_tryJoin_74 rfl (by unfold r_join; rw [if_neg c_1, if_pos c_2, if_neg c_3]) (by unfold d_join; rw [if_neg c_1, if_pos c_2, if_neg c_3])
      · skip
        refine zw_iload_n (i := 3) (x := nI j) E 3 dX1_tryJoin_21 rfl rfl (pc' := 22) rfl ?_
        refine zw_callIs E (r := zb (0 ≤ nI j ∧ nI j < 60)) (As := [.int (nI j)]) (rest := []) (ws' := (ld_W K al bq d)) (qX1_isNumber l D K (nI j)) (va_cwS 1 E.2.2.2.2.1 gX1_tryJoin_X1_isNumber rfl rfl rfl (by decide +kernel) ⟨Nat.le_of_ble_eq_true rfl, Nat.le_of_ble_eq_true rfl⟩) [] (by decide) rfl rfl (zw_put_same _ _ _ rfl) rfl rfl (Nat.le_of_ble_eq_true rfl) ⟨Nat.zero_le _, Nat.zero_le _⟩ dX1_tryJoin_22 (pc' := 25) rfl ?_
        refine zw_ifb_eq (tgt := 73) E dX1_tryJoin_25 (by decide) (pc' := 28) rfl (fun c_4 => ?_) (fun c_4 => ?_)
        · exact absurd (zw_num hj) c_4
        · skip
          refine zw_aload_n (i := 0) (x := al 0) E 0 dX1_tryJoin_28 rfl rfl (pc' := 29) rfl ?_
          refine zw_get (v := .ref (al 3)) E 0 3 iX1_tryJoin_X1 fX1_tryJoin_19 rfl rfl (by decide) rfl rfl dX1_tryJoin_29 (pc' := 32) rfl ?_
          refine zw_iload_n (i := 1) (x := f) E 1 dX1_tryJoin_32 rfl rfl (pc' := 33) rfl ?_
          refine zw_iald (j := f.toNatClampNeg) (x := d.1 2 f.toNatClampNeg) E 3 0 rfl rfl (zw_in3 c_2.1 c_2.2.1) rfl rfl dX1_tryJoin_33 (pc' := 34) rfl ?_
          refine zw_aload_n (i := 0) (x := al 0) E 0 dX1_tryJoin_34 rfl rfl (pc' := 35) rfl ?_
          refine zw_get (v := .ref (al 3)) E 0 3 iX1_tryJoin_X1 fX1_tryJoin_19 rfl rfl (by decide) rfl rfl dX1_tryJoin_35 (pc' := 38) rfl ?_
          refine zw_iload_n (i := 2) (x := h) E 2 dX1_tryJoin_38 rfl rfl (pc' := 39) rfl ?_
          refine zw_iald (j := h.toNatClampNeg) (x := d.1 2 h.toNatClampNeg) E 3 0 rfl rfl (zw_in3 c_3.1 c_3.2.1) rfl rfl dX1_tryJoin_39 (pc' := 40) rfl ?_
          refine zw_icmp_ne (tgt := 73) E dX1_tryJoin_40 (by decide) (pc' := 43) rfl (fun c_5 => ?_) (fun c_5 => ?_)
          · skip
            refine zw_iconst (v := 0) E dX1_tryJoin_73 (by decide) (pc' := 74) rfl ?_
            exact zw_zret E hr hlk dX1_tryJoin_74 rfl (by unfold r_join; rw [if_neg c_1, if_pos c_2, if_pos c_3, if_neg c_5]) (by unfold d_join; rw [if_neg c_1, if_pos c_2, if_pos c_3, if_neg c_5])
          · skip
            refine zw_aload_n (i := 0) (x := al 0) E 0 dX1_tryJoin_43 rfl rfl (pc' := 44) rfl ?_
            refine zw_get (v := .ref (al 4)) E 0 4 iX1_tryJoin_X1 fX1_tryJoin_22 rfl rfl (by decide) rfl rfl dX1_tryJoin_44 (pc' := 47) rfl ?_
            refine zw_iload_n (i := 1) (x := f) E 1 dX1_tryJoin_47 rfl rfl (pc' := 48) rfl ?_
            refine zw_iald (j := f.toNatClampNeg) (x := d.1 3 f.toNatClampNeg) E 4 0 rfl rfl (zw_in3 c_2.1 c_2.2.1) rfl rfl dX1_tryJoin_48 (pc' := 49) rfl ?_
            refine zw_aload_n (i := 0) (x := al 0) E 0 dX1_tryJoin_49 rfl rfl (pc' := 50) rfl ?_
            refine zw_get (v := .ref (al 4)) E 0 4 iX1_tryJoin_X1 fX1_tryJoin_22 rfl rfl (by decide) rfl rfl dX1_tryJoin_50 (pc' := 53) rfl ?_
            refine zw_iload_n (i := 2) (x := h) E 2 dX1_tryJoin_53 rfl rfl (pc' := 54) rfl ?_
            refine zw_iald (j := h.toNatClampNeg) (x := d.1 3 h.toNatClampNeg) E 4 0 rfl rfl (zw_in3 c_3.1 c_3.2.1) rfl rfl dX1_tryJoin_54 (pc' := 55) rfl ?_
            refine zw_icmp_ne (tgt := 73) E dX1_tryJoin_55 (by decide) (pc' := 58) rfl (fun c_6 => ?_) (fun c_6 => ?_)
            · skip
              refine zw_iconst (v := 0) E dX1_tryJoin_73 (by decide) (pc' := 74) rfl ?_
              exact zw_zret E hr hlk dX1_tryJoin_74 rfl (by unfold r_join; rw [if_neg c_1, if_pos c_2, if_pos c_3, if_pos c_5, if_neg c_6]) (by unfold d_join; rw [if_neg c_1, if_pos c_2, if_pos c_3, if_pos c_5, if_neg c_6])
            · skip
              refine zw_aload_n (i := 0) (x := al 0) E 0 dX1_tryJoin_58 rfl rfl (pc' := 59) rfl ?_
              refine zw_get (v := .ref (al 6)) E 0 6 iX1_tryJoin_X1 fX1_tryJoin_30 rfl rfl (by decide) rfl rfl dX1_tryJoin_59 (pc' := 62) rfl ?_
              refine zw_iload_n (i := 1) (x := f) E 1 dX1_tryJoin_62 rfl rfl (pc' := 63) rfl ?_
              refine zw_zald (j := f.toNatClampNeg) (x := d.1 4 f.toNatClampNeg) E 6 1 rfl rfl (zw_in3 c_2.1 c_2.2.1) rfl rfl dX1_tryJoin_63 (pc' := 64) rfl ?_
              refine zw_aload_n (i := 0) (x := al 0) E 0 dX1_tryJoin_64 rfl rfl (pc' := 65) rfl ?_
              refine zw_get (v := .ref (al 6)) E 0 6 iX1_tryJoin_X1 fX1_tryJoin_30 rfl rfl (by decide) rfl rfl dX1_tryJoin_65 (pc' := 68) rfl ?_
              refine zw_iload_n (i := 2) (x := h) E 2 dX1_tryJoin_68 rfl rfl (pc' := 69) rfl ?_
              refine zw_zald (j := h.toNatClampNeg) (x := d.1 4 h.toNatClampNeg) E 6 1 rfl rfl (zw_in3 c_3.1 c_3.2.1) rfl rfl dX1_tryJoin_69 (pc' := 70) rfl ?_
              refine zw_icmp_eq (tgt := 75) E dX1_tryJoin_70 (by decide) (pc' := 73) rfl (fun c_7 => ?_) (fun c_7 => ?_)
              · skip
                refine zw_aload_n (i := 0) (x := al 0) E 0 dX1_tryJoin_75 rfl rfl (pc' := 76) rfl ?_
                refine zw_iload_n (i := 3) (x := nI j) E 3 dX1_tryJoin_76 rfl rfl (pc' := 77) rfl ?_
                refine zw_aload_n (i := 0) (x := al 0) E 0 dX1_tryJoin_77 rfl rfl (pc' := 78) rfl ?_
                refine zw_get (v := .ref (al 2)) E 0 2 iX1_tryJoin_X1 fX1_tryJoin_15 rfl rfl (by decide) rfl rfl dX1_tryJoin_78 (pc' := 81) rfl ?_
                refine zw_iload_n (i := 1) (x := f) E 1 dX1_tryJoin_81 rfl rfl (pc' := 82) rfl ?_
                refine zw_iald (j := f.toNatClampNeg) (x := d.1 1 f.toNatClampNeg) E 2 0 rfl rfl (zw_in3 c_2.1 c_2.2.1) rfl rfl dX1_tryJoin_82 (pc' := 83) rfl ?_
                refine zw_aload_n (i := 0) (x := al 0) E 0 dX1_tryJoin_83 rfl rfl (pc' := 84) rfl ?_
                refine zw_get (v := .ref (al 2)) E 0 2 iX1_tryJoin_X1 fX1_tryJoin_15 rfl rfl (by decide) rfl rfl dX1_tryJoin_84 (pc' := 87) rfl ?_
                refine zw_iload_n (i := 2) (x := h) E 2 dX1_tryJoin_87 rfl rfl (pc' := 88) rfl ?_
                refine zw_iald (j := h.toNatClampNeg) (x := d.1 1 h.toNatClampNeg) E 2 0 rfl rfl (zw_in3 c_3.1 c_3.2.1) rfl rfl dX1_tryJoin_88 (pc' := 89) rfl ?_
                refine zw_iadd E dX1_tryJoin_89 (pc' := 90) rfl ?_
                refine zw_aload_n (i := 0) (x := al 0) E 0 dX1_tryJoin_90 rfl rfl (pc' := 91) rfl ?_
                refine zw_get (v := .ref (al 3)) E 0 3 iX1_tryJoin_X1 fX1_tryJoin_19 rfl rfl (by decide) rfl rfl dX1_tryJoin_91 (pc' := 94) rfl ?_
                refine zw_iload_n (i := 1) (x := f) E 1 dX1_tryJoin_94 rfl rfl (pc' := 95) rfl ?_
                refine zw_iald (j := f.toNatClampNeg) (x := d.1 2 f.toNatClampNeg) E 3 0 rfl rfl (zw_in3 c_2.1 c_2.2.1) rfl rfl dX1_tryJoin_95 (pc' := 96) rfl ?_
                refine zw_aload_n (i := 0) (x := al 0) E 0 dX1_tryJoin_96 rfl rfl (pc' := 97) rfl ?_
                refine zw_get (v := .ref (al 4)) E 0 4 iX1_tryJoin_X1 fX1_tryJoin_22 rfl rfl (by decide) rfl rfl dX1_tryJoin_97 (pc' := 100) rfl ?_
                refine zw_iload_n (i := 1) (x := f) E 1 dX1_tryJoin_100 rfl rfl (pc' := 101) rfl ?_
                refine zw_iald (j := f.toNatClampNeg) (x := d.1 3 f.toNatClampNeg) E 4 0 rfl rfl (zw_in3 c_2.1 c_2.2.1) rfl rfl dX1_tryJoin_101 (pc' := 102) rfl ?_
                refine zw_callIw E (r := 1) (As := [.int (nI j), .int ((d.1 1 f.toNatClampNeg) + (d.1 1 h.toNatClampNeg)), .int (d.1 2 f.toNatClampNeg), .int (d.1 3 f.toNatClampNeg)]) (rest := []) (ws' := (ld_W K al bq (ld_make d j ((d.1 1 f.toNatClampNeg) + (d.1 1 h.toNatClampNeg)) (d.1 2 f.toNatClampNeg) (d.1 3 f.toNatClampNeg)))) (qX1_tryMake l D K al bq d j hj ((d.1 1 f.toNatClampNeg) + (d.1 1 h.toNatClampNeg)) (d.1 2 f.toNatClampNeg) (d.1 3 f.toNatClampNeg)) (cwV 4 E.2.2.2.2.1 gX1_tryJoin_X1_tryMake rfl rfl rfl (by decide +kernel) ⟨Nat.le_of_ble_eq_true rfl, Nat.le_of_ble_eq_true rfl⟩) 0 rfl rfl rfl (ld_ad _ _ _ _ _) rfl rfl (Nat.le_of_ble_eq_true rfl) ⟨Nat.zero_le _, Nat.zero_le _⟩ dX1_tryJoin_102 (pc' := 105) rfl ?_
                refine zw_gen_ld_d (ld_make d j ((d.1 1 f.toNatClampNeg) + (d.1 1 h.toNatClampNeg)) (d.1 2 f.toNatClampNeg) (d.1 3 f.toNatClampNeg)) (fun d_1 hg_1 => ?_)
                refine zw_pop E dX1_tryJoin_105 rfl (pc' := 106) rfl ?_
                refine zw_aload_n (i := 0) (x := al 0) E 0 dX1_tryJoin_106 rfl rfl (pc' := 107) rfl ?_
                refine zw_get (v := .ref (al 6)) E 0 6 iX1_tryJoin_X1 fX1_tryJoin_30 rfl rfl (by decide) rfl rfl dX1_tryJoin_107 (pc' := 110) rfl ?_
                refine zw_iload_n (i := 3) (x := nI j) E 3 dX1_tryJoin_110 rfl rfl (pc' := 111) rfl ?_
                refine zw_aload_n (i := 0) (x := al 0) E 0 dX1_tryJoin_111 rfl rfl (pc' := 112) rfl ?_
                refine zw_get (v := .ref (al 6)) E 0 6 iX1_tryJoin_X1 fX1_tryJoin_30 rfl rfl (by decide) rfl rfl dX1_tryJoin_112 (pc' := 115) rfl ?_
                refine zw_iload_n (i := 1) (x := f) E 1 dX1_tryJoin_115 rfl rfl (pc' := 116) rfl ?_
                refine zw_zald (j := f.toNatClampNeg) (x := d_1.1 4 f.toNatClampNeg) E 6 1 rfl rfl (zw_in3 c_2.1 c_2.2.1) rfl rfl dX1_tryJoin_116 (pc' := 117) rfl ?_
                refine zw_zast (j := j) (ws' := (ld_W K al bq (ld_row d_1 4 j (vp_nar .boolean (d_1.1 4 f.toNatClampNeg))))) E 6 1 rfl rfl (vp_in_nI hj (by decide)) (zw_clamp hj (by decide)) rfl dX1_tryJoin_117 (pc' := 118) rfl ?_
                refine zw_gen_ld_d (ld_row d_1 4 j (vp_nar .boolean (d_1.1 4 f.toNatClampNeg))) (fun d_2 hg_2 => ?_)
                refine zw_iconst (v := 0) E dX1_tryJoin_118 (by decide) (pc' := 119) rfl ?_
                refine zw_istore (lv' := [(4, .int 0), (0, .ref (al 0)), (1, .int f), (2, .int h), (3, .int (nI j))]) E dX1_tryJoin_119 (by decide) rfl (pc' := 121) rfl ?_
                refine zw_iload (x := 0) E 0 dX1_tryJoin_121 rfl (pc' := 123) rfl ?_
                refine zw_iconst (v := 3) E dX1_tryJoin_123 (by decide) (pc' := 124) rfl ?_
                refine zw_icmp_ge (tgt := 161) E dX1_tryJoin_124 (by decide) (pc' := 127) rfl (fun c9 => absurd c9 (by decide)) (fun _ => ?_)
                refine zw_aload_n (i := 0) (x := al 0) E 1 dX1_tryJoin_127 rfl rfl (pc' := 128) rfl ?_
                refine zw_get (v := .ref (al 5)) E 0 5 iX1_tryJoin_X1 fX1_tryJoin_27 rfl rfl (by decide) rfl rfl dX1_tryJoin_128 (pc' := 131) rfl ?_
                refine zw_iload (x := 0) E 0 dX1_tryJoin_131 rfl (pc' := 133) rfl ?_
                refine zw_aald (j := 0) (b := al 11) E 5 3 rfl rfl (vp_in_nI (n := 0) (N := 3) (by decide) (by decide)) rfl rfl dX1_tryJoin_133 (pc' := 134) rfl ?_
                refine zw_iload_n (i := 3) (x := nI j) E 4 dX1_tryJoin_134 rfl rfl (pc' := 135) rfl ?_
                refine zw_aload_n (i := 0) (x := al 0) E 1 dX1_tryJoin_135 rfl rfl (pc' := 136) rfl ?_
                refine zw_get (v := .ref (al 5)) E 0 5 iX1_tryJoin_X1 fX1_tryJoin_27 rfl rfl (by decide) rfl rfl dX1_tryJoin_136 (pc' := 139) rfl ?_
                refine zw_iload (x := 0) E 0 dX1_tryJoin_139 rfl (pc' := 141) rfl ?_
                refine zw_aald (j := 0) (b := al 11) E 5 3 rfl rfl (vp_in_nI (n := 0) (N := 3) (by decide) (by decide)) rfl rfl dX1_tryJoin_141 (pc' := 142) rfl ?_
                refine zw_iload_n (i := 1) (x := f) E 2 dX1_tryJoin_142 rfl rfl (pc' := 143) rfl ?_
                refine zw_iald (j := f.toNatClampNeg) (x := d_2.1 7 f.toNatClampNeg) E 11 0 rfl rfl (zw_in3 c_2.1 c_2.2.1) rfl rfl dX1_tryJoin_143 (pc' := 144) rfl ?_
                refine zw_aload_n (i := 0) (x := al 0) E 1 dX1_tryJoin_144 rfl rfl (pc' := 145) rfl ?_
                refine zw_get (v := .ref (al 5)) E 0 5 iX1_tryJoin_X1 fX1_tryJoin_27 rfl rfl (by decide) rfl rfl dX1_tryJoin_145 (pc' := 148) rfl ?_
                refine zw_iload (x := 0) E 0 dX1_tryJoin_148 rfl (pc' := 150) rfl ?_
                refine zw_aald (j := 0) (b := al 11) E 5 3 rfl rfl (vp_in_nI (n := 0) (N := 3) (by decide) (by decide)) rfl rfl dX1_tryJoin_150 (pc' := 151) rfl ?_
                refine zw_iload_n (i := 2) (x := h) E 3 dX1_tryJoin_151 rfl rfl (pc' := 152) rfl ?_
                refine zw_iald (j := h.toNatClampNeg) (x := d_2.1 7 h.toNatClampNeg) E 11 0 rfl rfl (zw_in3 c_3.1 c_3.2.1) rfl rfl dX1_tryJoin_152 (pc' := 153) rfl ?_
                refine zw_iadd E dX1_tryJoin_153 (pc' := 154) rfl ?_
                refine zw_iast (j := j) (ws' := (ld_W K al bq (ld_row d_2 7 j ((d_2.1 7 f.toNatClampNeg) + (d_2.1 7 h.toNatClampNeg))))) E 11 0 rfl rfl (vp_in_nI hj (by decide)) (zw_clamp hj (by decide)) rfl dX1_tryJoin_154 (pc' := 155) rfl ?_
                refine zw_gen_ld_d (ld_row d_2 7 j ((d_2.1 7 f.toNatClampNeg) + (d_2.1 7 h.toNatClampNeg))) (fun d_3 hg_3 => ?_)
                refine zw_iinc (x := 0) (v := 1) (lv' := [(4, .int 1), (0, .ref (al 0)), (1, .int f), (2, .int h), (3, .int (nI j))]) E 0 dX1_tryJoin_155 rfl (by decide) (by decide) rfl (pc' := 158) rfl ?_
                refine zw_goto (tgt := 121) E dX1_tryJoin_158 (by decide) ?_
                refine zw_iload (x := 1) E 0 dX1_tryJoin_121 rfl (pc' := 123) rfl ?_
                refine zw_iconst (v := 3) E dX1_tryJoin_123 (by decide) (pc' := 124) rfl ?_
                refine zw_icmp_ge (tgt := 161) E dX1_tryJoin_124 (by decide) (pc' := 127) rfl (fun c9 => absurd c9 (by decide)) (fun _ => ?_)
                refine zw_aload_n (i := 0) (x := al 0) E 1 dX1_tryJoin_127 rfl rfl (pc' := 128) rfl ?_
                refine zw_get (v := .ref (al 5)) E 0 5 iX1_tryJoin_X1 fX1_tryJoin_27 rfl rfl (by decide) rfl rfl dX1_tryJoin_128 (pc' := 131) rfl ?_
                refine zw_iload (x := 1) E 0 dX1_tryJoin_131 rfl (pc' := 133) rfl ?_
                refine zw_aald (j := 1) (b := al 12) E 5 3 rfl rfl (vp_in_nI (n := 1) (N := 3) (by decide) (by decide)) rfl rfl dX1_tryJoin_133 (pc' := 134) rfl ?_
                refine zw_iload_n (i := 3) (x := nI j) E 4 dX1_tryJoin_134 rfl rfl (pc' := 135) rfl ?_
                refine zw_aload_n (i := 0) (x := al 0) E 1 dX1_tryJoin_135 rfl rfl (pc' := 136) rfl ?_
                refine zw_get (v := .ref (al 5)) E 0 5 iX1_tryJoin_X1 fX1_tryJoin_27 rfl rfl (by decide) rfl rfl dX1_tryJoin_136 (pc' := 139) rfl ?_
                refine zw_iload (x := 1) E 0 dX1_tryJoin_139 rfl (pc' := 141) rfl ?_
                refine zw_aald (j := 1) (b := al 12) E 5 3 rfl rfl (vp_in_nI (n := 1) (N := 3) (by decide) (by decide)) rfl rfl dX1_tryJoin_141 (pc' := 142) rfl ?_
                refine zw_iload_n (i := 1) (x := f) E 2 dX1_tryJoin_142 rfl rfl (pc' := 143) rfl ?_
                refine zw_iald (j := f.toNatClampNeg) (x := d_3.1 8 f.toNatClampNeg) E 12 0 rfl rfl (zw_in3 c_2.1 c_2.2.1) rfl rfl dX1_tryJoin_143 (pc' := 144) rfl ?_
                refine zw_aload_n (i := 0) (x := al 0) E 1 dX1_tryJoin_144 rfl rfl (pc' := 145) rfl ?_
                refine zw_get (v := .ref (al 5)) E 0 5 iX1_tryJoin_X1 fX1_tryJoin_27 rfl rfl (by decide) rfl rfl dX1_tryJoin_145 (pc' := 148) rfl ?_
                refine zw_iload (x := 1) E 0 dX1_tryJoin_148 rfl (pc' := 150) rfl ?_
                refine zw_aald (j := 1) (b := al 12) E 5 3 rfl rfl (vp_in_nI (n := 1) (N := 3) (by decide) (by decide)) rfl rfl dX1_tryJoin_150 (pc' := 151) rfl ?_
                refine zw_iload_n (i := 2) (x := h) E 3 dX1_tryJoin_151 rfl rfl (pc' := 152) rfl ?_
                refine zw_iald (j := h.toNatClampNeg) (x := d_3.1 8 h.toNatClampNeg) E 12 0 rfl rfl (zw_in3 c_3.1 c_3.2.1) rfl rfl dX1_tryJoin_152 (pc' := 153) rfl ?_
                refine zw_iadd E dX1_tryJoin_153 (pc' := 154) rfl ?_
                refine zw_iast (j := j) (ws' := (ld_W K al bq (ld_row d_3 8 j ((d_3.1 8 f.toNatClampNeg) + (d_3.1 8 h.toNatClampNeg))))) E 12 0 rfl rfl (vp_in_nI hj (by decide)) (zw_clamp hj (by decide)) rfl dX1_tryJoin_154 (pc' := 155) rfl ?_
                refine zw_gen_ld_d (ld_row d_3 8 j ((d_3.1 8 f.toNatClampNeg) + (d_3.1 8 h.toNatClampNeg))) (fun d_4 hg_4 => ?_)
                refine zw_iinc (x := 1) (v := 2) (lv' := [(4, .int 2), (0, .ref (al 0)), (1, .int f), (2, .int h), (3, .int (nI j))]) E 0 dX1_tryJoin_155 rfl (by decide) (by decide) rfl (pc' := 158) rfl ?_
                refine zw_goto (tgt := 121) E dX1_tryJoin_158 (by decide) ?_
                refine zw_iload (x := 2) E 0 dX1_tryJoin_121 rfl (pc' := 123) rfl ?_
                refine zw_iconst (v := 3) E dX1_tryJoin_123 (by decide) (pc' := 124) rfl ?_
                refine zw_icmp_ge (tgt := 161) E dX1_tryJoin_124 (by decide) (pc' := 127) rfl (fun c9 => absurd c9 (by decide)) (fun _ => ?_)
                refine zw_aload_n (i := 0) (x := al 0) E 1 dX1_tryJoin_127 rfl rfl (pc' := 128) rfl ?_
                refine zw_get (v := .ref (al 5)) E 0 5 iX1_tryJoin_X1 fX1_tryJoin_27 rfl rfl (by decide) rfl rfl dX1_tryJoin_128 (pc' := 131) rfl ?_
                refine zw_iload (x := 2) E 0 dX1_tryJoin_131 rfl (pc' := 133) rfl ?_
                refine zw_aald (j := 2) (b := al 13) E 5 3 rfl rfl (vp_in_nI (n := 2) (N := 3) (by decide) (by decide)) rfl rfl dX1_tryJoin_133 (pc' := 134) rfl ?_
                refine zw_iload_n (i := 3) (x := nI j) E 4 dX1_tryJoin_134 rfl rfl (pc' := 135) rfl ?_
                refine zw_aload_n (i := 0) (x := al 0) E 1 dX1_tryJoin_135 rfl rfl (pc' := 136) rfl ?_
                refine zw_get (v := .ref (al 5)) E 0 5 iX1_tryJoin_X1 fX1_tryJoin_27 rfl rfl (by decide) rfl rfl dX1_tryJoin_136 (pc' := 139) rfl ?_
                refine zw_iload (x := 2) E 0 dX1_tryJoin_139 rfl (pc' := 141) rfl ?_
                refine zw_aald (j := 2) (b := al 13) E 5 3 rfl rfl (vp_in_nI (n := 2) (N := 3) (by decide) (by decide)) rfl rfl dX1_tryJoin_141 (pc' := 142) rfl ?_
                refine zw_iload_n (i := 1) (x := f) E 2 dX1_tryJoin_142 rfl rfl (pc' := 143) rfl ?_
                refine zw_iald (j := f.toNatClampNeg) (x := d_4.1 9 f.toNatClampNeg) E 13 0 rfl rfl (zw_in3 c_2.1 c_2.2.1) rfl rfl dX1_tryJoin_143 (pc' := 144) rfl ?_
                refine zw_aload_n (i := 0) (x := al 0) E 1 dX1_tryJoin_144 rfl rfl (pc' := 145) rfl ?_
                refine zw_get (v := .ref (al 5)) E 0 5 iX1_tryJoin_X1 fX1_tryJoin_27 rfl rfl (by decide) rfl rfl dX1_tryJoin_145 (pc' := 148) rfl ?_
                refine zw_iload (x := 2) E 0 dX1_tryJoin_148 rfl (pc' := 150) rfl ?_
                refine zw_aald (j := 2) (b := al 13) E 5 3 rfl rfl (vp_in_nI (n := 2) (N := 3) (by decide) (by decide)) rfl rfl dX1_tryJoin_150 (pc' := 151) rfl ?_
                refine zw_iload_n (i := 2) (x := h) E 3 dX1_tryJoin_151 rfl rfl (pc' := 152) rfl ?_
                refine zw_iald (j := h.toNatClampNeg) (x := d_4.1 9 h.toNatClampNeg) E 13 0 rfl rfl (zw_in3 c_3.1 c_3.2.1) rfl rfl dX1_tryJoin_152 (pc' := 153) rfl ?_
                refine zw_iadd E dX1_tryJoin_153 (pc' := 154) rfl ?_
                refine zw_iast (j := j) (ws' := (ld_W K al bq (ld_row d_4 9 j ((d_4.1 9 f.toNatClampNeg) + (d_4.1 9 h.toNatClampNeg))))) E 13 0 rfl rfl (vp_in_nI hj (by decide)) (zw_clamp hj (by decide)) rfl dX1_tryJoin_154 (pc' := 155) rfl ?_
                refine zw_gen_ld_d (ld_row d_4 9 j ((d_4.1 9 f.toNatClampNeg) + (d_4.1 9 h.toNatClampNeg))) (fun d_5 hg_5 => ?_)
                refine zw_iinc (x := 2) (v := 3) (lv' := [(4, .int 3), (0, .ref (al 0)), (1, .int f), (2, .int h), (3, .int (nI j))]) E 0 dX1_tryJoin_155 rfl (by decide) (by decide) rfl (pc' := 158) rfl ?_
                refine zw_goto (tgt := 121) E dX1_tryJoin_158 (by decide) ?_
                refine zw_iload (x := 3) E 0 dX1_tryJoin_121 rfl (pc' := 123) rfl ?_
                refine zw_iconst (v := 3) E dX1_tryJoin_123 (by decide) (pc' := 124) rfl ?_
                refine zw_icmp_ge (tgt := 161) E dX1_tryJoin_124 (by decide) (pc' := 127) rfl (fun _ => ?_) (fun c9 => absurd (by decide) c9)
                refine zw_aload_n (i := 0) (x := al 0) E 1 dX1_tryJoin_161 rfl rfl (pc' := 162) rfl ?_
                refine zw_get (v := .ref (al 1)) E 0 1 iX1_tryJoin_X1 fX1_tryJoin_9 rfl rfl (by decide) rfl rfl dX1_tryJoin_162 (pc' := 165) rfl ?_
                refine zw_iload_n (i := 1) (x := f) E 2 dX1_tryJoin_165 rfl rfl (pc' := 166) rfl ?_
                refine zw_iconst (v := 0) E dX1_tryJoin_166 (by decide) (pc' := 167) rfl ?_
                refine zw_zast (j := f.toNatClampNeg) (ws' := (ld_W K al bq (ld_row d_5 0 f.toNatClampNeg 0))) E 1 1 rfl rfl (zw_in3 c_2.1 c_2.2.1) rfl rfl dX1_tryJoin_167 (pc' := 168) rfl ?_
                refine zw_gen_ld_d (ld_row d_5 0 f.toNatClampNeg 0) (fun d_6 hg_6 => ?_)
                refine zw_aload_n (i := 0) (x := al 0) E 1 dX1_tryJoin_168 rfl rfl (pc' := 169) rfl ?_
                refine zw_get (v := .ref (al 1)) E 0 1 iX1_tryJoin_X1 fX1_tryJoin_9 rfl rfl (by decide) rfl rfl dX1_tryJoin_169 (pc' := 172) rfl ?_
                refine zw_iload_n (i := 2) (x := h) E 3 dX1_tryJoin_172 rfl rfl (pc' := 173) rfl ?_
                refine zw_iconst (v := 0) E dX1_tryJoin_173 (by decide) (pc' := 174) rfl ?_
                refine zw_zast (j := h.toNatClampNeg) (ws' := (ld_W K al bq (ld_row d_6 0 h.toNatClampNeg 0))) E 1 1 rfl rfl (zw_in3 c_3.1 c_3.2.1) rfl rfl dX1_tryJoin_174 (pc' := 175) rfl ?_
                refine zw_gen_ld_d (ld_row d_6 0 h.toNatClampNeg 0) (fun d_7 hg_7 => ?_)
                refine zw_iconst (v := 1) E dX1_tryJoin_175 (by decide) (pc' := 176) rfl ?_
                exact zw_zret E hr hlk dX1_tryJoin_176 rfl (by unfold r_join; rw [if_neg c_1, if_pos c_2, if_pos c_3, if_pos c_5, if_pos c_6, if_pos c_7]) (by unfold d_join; rw [if_neg c_1, if_pos c_2, if_pos c_3, if_pos c_5, if_pos c_6, if_pos c_7]; unfold ld_join ld_join2; rw [hg_1, show p_b1 d_1 f.toNatClampNeg j = d_2 from hg_2, show j_c d_2 7 f.toNatClampNeg h.toNatClampNeg j = d_3 from hg_3, show j_c d_3 8 f.toNatClampNeg h.toNatClampNeg j = d_4 from hg_4, show j_c d_4 9 f.toNatClampNeg h.toNatClampNeg j = d_5 from hg_5, hg_6, hg_7])
              · skip
                refine zw_iconst (v := 0) E dX1_tryJoin_73 (by decide) (pc' := 74) rfl ?_
                exact zw_zret E hr hlk dX1_tryJoin_74 rfl (by unfold r_join; rw [if_neg c_1, if_pos c_2, if_pos c_3, if_pos c_5, if_pos c_6, if_neg c_7]) (by unfold d_join; rw [if_neg c_1, if_pos c_2, if_pos c_3, if_pos c_5, if_pos c_6, if_neg c_7])
end
section
/-! the land: weighAll, greatestRemainder, shareOut, chargeShare -/
theorem zw_ge60 {k : Nat} (h : (60 : Int32) ≤ nI k) (hk : k ≤ 60) : k = 60 := Nat.le_antisymm hk ((nI_leI (a := 60) (by decide) (by omega)).mp h)
theorem zw_lt60 {k : Nat} (h : ¬ (60 : Int32) ≤ nI k) (hk : k ≤ 60) : k < 60 := Nat.lt_of_not_le (fun q => h (nI_le (a := 60) q (by omega)))
theorem ld_row_same (d : Ld) (r i : Nat) (x : Int32) : (ld_row d r i x).1 r i = x := by simp [ld_row, up2, upd]
theorem ld_rowL_same (d : Ld) (r i : Nat) (x : Int64) : (ld_rowL d r i x).2.1 r i = x := by simp [ld_rowL, up2L, vp_updL]
/-- a field's weight in the sharing out -/
def wt (d : Ld) (f : Nat) : Int64 := if d.1 0 f = 0 then 0 else (d.1 1 f).toInt64 * (3 - d.1 2 f).toInt64
def wsum (d : Ld) : Nat → Int64
  | 0 => 0
  | k + 1 => wsum d k + wt d k
def wst (d : Ld) (k : Nat) : Ld := (d.1, (fun r => if r = 0 then (fun f => if f < k then wt d f else d.2.1 0 f) else d.2.1 r), d.2.2)
theorem wst_0 (d : Ld) : wst d 0 = d := by
  refine Prod.ext rfl (Prod.ext (funext fun r => ?_) rfl)
  show (if r = 0 then (fun f => if f < 0 then wt d f else d.2.1 0 f) else d.2.1 r) = d.2.1 r
  by_cases h : r = 0
  · subst h
    rw [if_pos rfl]
    funext f
    rw [if_neg (Nat.not_lt_zero f)]
  · rw [if_neg h]
theorem wst_succ (d : Ld) (k : Nat) (x : Int64) (h : wt d k = x) : ld_rowL (wst d k) 0 k x = wst d (k + 1) := by
  subst h
  refine Prod.ext rfl (Prod.ext (funext fun r => ?_) rfl)
  show (if r = 0 then vp_updL ((wst d k).2.1 0) k (wt d k) else (wst d k).2.1 r) = (if r = 0 then (fun f => if f < k + 1 then wt d f else d.2.1 0 f) else d.2.1 r)
  by_cases h : r = 0
  · subst h
    rw [if_pos rfl, if_pos rfl]
    funext f
    show (if f = k then wt d k else (if f < k then wt d f else d.2.1 0 f)) = _
    by_cases h1 : f = k
    · subst h1
      rw [if_pos rfl, if_pos (Nat.lt_succ_self f)]
    · rw [if_neg h1]
      by_cases h2 : f < k
      · rw [if_pos h2, if_pos (by omega)]
      · rw [if_neg h2, if_neg (by omega)]
  · rw [if_neg h, if_neg h]
    show (if r = 0 then _ else _) = _
    rw [if_neg h]
theorem fX1_weighAll_15 : Cond.fieldLink RX1 15 "TitheMap$Land" "area" "[I" ∈ wsX1_weighAll := by decide +kernel
theorem fX1_weighAll_19 : Cond.fieldLink RX1 19 "TitheMap$Land" "kind" "[I" ∈ wsX1_weighAll := by decide +kernel
theorem fX1_weighAll_33 : Cond.fieldLink RX1 33 "TitheMap$Land" "weight" "[J" ∈ wsX1_weighAll := by decide +kernel
theorem fX1_weighAll_9 : Cond.fieldLink RX1 9 "TitheMap$Land" "there" "[Z" ∈ wsX1_weighAll := by decide +kernel
theorem iX1_weighAll_X1 : ∀ w ∈ wsX10, w ∈ wsX1_weighAll := by decide +kernel
set_option maxHeartbeats 4000000 in
set_option maxRecDepth 100000 in
theorem lX1_weighAll {l : Launch} {D : va_G} {K : Nat → ClassId} {p : Program} {e : Env} {s : State} {m : MethodId} {below : List Frame} {meth : Method} {c : Code} {A : Nat → Prop} {args : Array Value} (E : zw_E p s m args c cX1_weighAll 4 RX1 wsX1_weighAll D (zT K) A) (hr : meth.sig.returnType = (some .long)) (hlk : meth.locks = false) (al : Nat → Nat) (bq : Nat) (d : Ld) : ∀ (fu k : Nat), k ≤ 60 → 60 + 1 ≤ k + fu → zw_W p l e rmX1_weighAll s m args below meth c 4 D A 0 0 (zw_Ql D A below args s (wsum d 60) (ld_W K al bq (wst d 60))) 4 [(0, .ref (al 0)), (1, .long (wsum d k)), (3, .int (nI k))] [] (ld_W K al bq (wst d k)) := by
  intro fu
  induction fu with
  | zero => intro k h1 h2; exact absurd h2 (by omega)
  | succ fu ih =>
    intro k hle hfu
    refine zw_iload_n (i := 3) (x := nI k) E 2 dX1_weighAll_4 rfl rfl (pc' := 5) rfl ?_
    refine zw_bipush (v := 60) E dX1_weighAll_5 (by decide) (pc' := 7) rfl ?_
    refine zw_icmp_ge (tgt := 61) E dX1_weighAll_7 (by decide) (pc' := 10) rfl (fun c_1 => ?_) (fun c_1 => ?_)
    · skip
      have hk60 : k = 60 := zw_ge60 c_1 hle
      refine zw_lload_n (i := 1) (x := wsum d k) E 1 dX1_weighAll_61 rfl rfl (pc' := 62) rfl ?_
      exact zw_lret E hr hlk dX1_weighAll_62 (by rw [hk60]) (by rw [hk60])
    · skip
      have hk : k < 60 := zw_lt60 c_1 hle
      refine zw_aload_n (i := 0) (x := al 0) E 0 dX1_weighAll_10 rfl rfl (pc' := 11) rfl ?_
      refine zw_get (v := .ref (al 7)) E 0 7 iX1_weighAll_X1 fX1_weighAll_33 rfl rfl (by decide) rfl rfl dX1_weighAll_11 (pc' := 14) rfl ?_
      refine zw_iload_n (i := 3) (x := nI k) E 2 dX1_weighAll_14 rfl rfl (pc' := 15) rfl ?_
      refine zw_aload_n (i := 0) (x := al 0) E 0 dX1_weighAll_15 rfl rfl (pc' := 16) rfl ?_
      refine zw_get (v := .ref (al 1)) E 0 1 iX1_weighAll_X1 fX1_weighAll_9 rfl rfl (by decide) rfl rfl dX1_weighAll_16 (pc' := 19) rfl ?_
      refine zw_iload_n (i := 3) (x := nI k) E 2 dX1_weighAll_19 rfl rfl (pc' := 20) rfl ?_
      refine zw_zald (j := k) (x := (wst d k).1 0 k) E 1 1 rfl rfl (vp_in_nI hk (by decide)) (zw_clamp hk (by decide)) rfl dX1_weighAll_20 (pc' := 21) rfl ?_
      refine zw_topi (x' := d.1 0 k) rfl ?_
      refine zw_if_eq (tgt := 44) E dX1_weighAll_21 (by decide) (pc' := 24) rfl (fun c_2 => ?_) (fun c_2 => ?_)
      · skip
        refine zw_lconst (v := 0) E dX1_weighAll_44 (by decide) (pc' := 45) rfl ?_
        refine zw_last (j := k) (ws' := (ld_W K al bq (ld_rowL (wst d k) 0 k 0))) E 7 2 rfl rfl (vp_in_nI hk (by decide)) (zw_clamp hk (by decide)) rfl dX1_weighAll_45 (pc' := 46) rfl ?_
        refine zw_lload_n (i := 1) (x := wsum d k) E 1 dX1_weighAll_46 rfl rfl (pc' := 47) rfl ?_
        refine zw_aload_n (i := 0) (x := al 0) E 0 dX1_weighAll_47 rfl rfl (pc' := 48) rfl ?_
        refine zw_get (v := .ref (al 7)) E 0 7 iX1_weighAll_X1 fX1_weighAll_33 rfl rfl (by decide) rfl rfl dX1_weighAll_48 (pc' := 51) rfl ?_
        refine zw_iload_n (i := 3) (x := nI k) E 2 dX1_weighAll_51 rfl rfl (pc' := 52) rfl ?_
        refine zw_lald (j := k) (x := (ld_rowL (wst d k) 0 k 0).2.1 0 k) E 7 2 rfl rfl (vp_in_nI hk (by decide)) (zw_clamp hk (by decide)) rfl dX1_weighAll_52 (pc' := 53) rfl ?_
        refine zw_topl (x' := 0) (ld_rowL_same _ _ _ _) ?_
        refine zw_ladd E dX1_weighAll_53 (pc' := 54) rfl ?_
        refine zw_lstore_n (lv' := [(1, .long ((wsum d k) + 0)), (0, .ref (al 0)), (3, .int (nI k))]) E dX1_weighAll_54 rfl (by decide) rfl (pc' := 55) rfl ?_
        refine zw_iinc (x := nI k) (v := nI (k + 1)) (lv' := [(3, .int (nI (k + 1))), (1, .long ((wsum d k) + 0)), (0, .ref (al 0))]) E 2 dX1_weighAll_55 rfl (zw_inc1 k) (by decide) rfl (pc' := 58) rfl ?_
        refine zw_goto (tgt := 4) E dX1_weighAll_58 (by decide) ?_
        have e1 : wt d k = 0 := by unfold wt; rw [if_pos c_2]
        refine zw_ws (ws' := ld_W K al bq (wst d (k + 1))) (congrArg (ld_W K al bq) (wst_succ d k _ e1)) ?_
        refine zw_sub [2, 1, 0] (lv' := [(0, .ref (al 0)), (1, .long ((wsum d k) + 0)), (3, .int (nI (k + 1)))]) rfl ?_
        rw [← e1]
        exact ih (k + 1) (by omega) (by omega)
      · skip
        refine zw_aload_n (i := 0) (x := al 0) E 0 dX1_weighAll_24 rfl rfl (pc' := 25) rfl ?_
        refine zw_get (v := .ref (al 2)) E 0 2 iX1_weighAll_X1 fX1_weighAll_15 rfl rfl (by decide) rfl rfl dX1_weighAll_25 (pc' := 28) rfl ?_
        refine zw_iload_n (i := 3) (x := nI k) E 2 dX1_weighAll_28 rfl rfl (pc' := 29) rfl ?_
        refine zw_iald (j := k) (x := (wst d k).1 1 k) E 2 0 rfl rfl (vp_in_nI hk (by decide)) (zw_clamp hk (by decide)) rfl dX1_weighAll_29 (pc' := 30) rfl ?_
        refine zw_topi (x' := d.1 1 k) rfl ?_
        refine zw_i2l E dX1_weighAll_30 (pc' := 31) rfl ?_
        refine zw_iconst (v := 3) E dX1_weighAll_31 (by decide) (pc' := 32) rfl ?_
        refine zw_aload_n (i := 0) (x := al 0) E 0 dX1_weighAll_32 rfl rfl (pc' := 33) rfl ?_
        refine zw_get (v := .ref (al 3)) E 0 3 iX1_weighAll_X1 fX1_weighAll_19 rfl rfl (by decide) rfl rfl dX1_weighAll_33 (pc' := 36) rfl ?_
        refine zw_iload_n (i := 3) (x := nI k) E 2 dX1_weighAll_36 rfl rfl (pc' := 37) rfl ?_
        refine zw_iald (j := k) (x := (wst d k).1 2 k) E 3 0 rfl rfl (vp_in_nI hk (by decide)) (zw_clamp hk (by decide)) rfl dX1_weighAll_37 (pc' := 38) rfl ?_
        refine zw_topi (x' := d.1 2 k) rfl ?_
        refine zw_isub E dX1_weighAll_38 (pc' := 39) rfl ?_
        refine zw_i2l E dX1_weighAll_39 (pc' := 40) rfl ?_
        refine zw_lmul E dX1_weighAll_40 (pc' := 41) rfl ?_
        refine zw_goto (tgt := 45) E dX1_weighAll_41 (by decide) ?_
        refine zw_last (j := k) (ws' := (ld_W K al bq (ld_rowL (wst d k) 0 k (((d.1 1 k).toInt64) * ((3 - (d.1 2 k)).toInt64))))) E 7 2 rfl rfl (vp_in_nI hk (by decide)) (zw_clamp hk (by decide)) rfl dX1_weighAll_45 (pc' := 46) rfl ?_
        refine zw_lload_n (i := 1) (x := wsum d k) E 1 dX1_weighAll_46 rfl rfl (pc' := 47) rfl ?_
        refine zw_aload_n (i := 0) (x := al 0) E 0 dX1_weighAll_47 rfl rfl (pc' := 48) rfl ?_
        refine zw_get (v := .ref (al 7)) E 0 7 iX1_weighAll_X1 fX1_weighAll_33 rfl rfl (by decide) rfl rfl dX1_weighAll_48 (pc' := 51) rfl ?_
        refine zw_iload_n (i := 3) (x := nI k) E 2 dX1_weighAll_51 rfl rfl (pc' := 52) rfl ?_
        refine zw_lald (j := k) (x := (ld_rowL (wst d k) 0 k (((d.1 1 k).toInt64) * ((3 - (d.1 2 k)).toInt64))).2.1 0 k) E 7 2 rfl rfl (vp_in_nI hk (by decide)) (zw_clamp hk (by decide)) rfl dX1_weighAll_52 (pc' := 53) rfl ?_
        refine zw_topl (x' := (((d.1 1 k).toInt64) * ((3 - (d.1 2 k)).toInt64))) (ld_rowL_same _ _ _ _) ?_
        refine zw_ladd E dX1_weighAll_53 (pc' := 54) rfl ?_
        refine zw_lstore_n (lv' := [(1, .long ((wsum d k) + (((d.1 1 k).toInt64) * ((3 - (d.1 2 k)).toInt64)))), (0, .ref (al 0)), (3, .int (nI k))]) E dX1_weighAll_54 rfl (by decide) rfl (pc' := 55) rfl ?_
        refine zw_iinc (x := nI k) (v := nI (k + 1)) (lv' := [(3, .int (nI (k + 1))), (1, .long ((wsum d k) + (((d.1 1 k).toInt64) * ((3 - (d.1 2 k)).toInt64)))), (0, .ref (al 0))]) E 2 dX1_weighAll_55 rfl (zw_inc1 k) (by decide) rfl (pc' := 58) rfl ?_
        refine zw_goto (tgt := 4) E dX1_weighAll_58 (by decide) ?_
        have e1 : wt d k = (d.1 1 k).toInt64 * (3 - d.1 2 k).toInt64 := by unfold wt; rw [if_neg c_2]
        refine zw_ws (ws' := ld_W K al bq (wst d (k + 1))) (congrArg (ld_W K al bq) (wst_succ d k _ e1)) ?_
        refine zw_sub [2, 1, 0] (lv' := [(0, .ref (al 0)), (1, .long ((wsum d k) + (((d.1 1 k).toInt64) * ((3 - (d.1 2 k)).toInt64)))), (3, .int (nI (k + 1)))]) rfl ?_
        rw [← e1]
        exact ih (k + 1) (by omega) (by omega)

set_option maxHeartbeats 4000000 in
set_option maxRecDepth 100000 in
/-- weighAll() -/
theorem qX1_weighAll (l : Launch) (D : va_G) (K : Nat → ClassId) (al : Nat → Nat) (bq : Nat) (d : Ld) : zw_L l yX1_weighAll wsX1_weighAll rmX1_weighAll D (zT K) [.ref (al 0)] (ld_W K al bq d) (wsum d 60) (ld_W K al bq (wst d 60)) := by
  refine zw_ofL (cc := cX1_weighAll) (nL := 4) (ret := (some .long)) (own := RX1) (lv := [(0, .ref (al 0))]) (by decide) rfl (Nat.le_of_ble_eq_true rfl) rfl rfl ?_
  intro p e s m below meth c A E hr hlk
  refine zw_lconst (v := 0) E dX1_weighAll_0 (by decide) (pc' := 1) rfl ?_
  refine zw_lstore_n (lv' := [(1, .long 0), (0, .ref (al 0))]) E dX1_weighAll_1 rfl (by decide) rfl (pc' := 2) rfl ?_
  refine zw_iconst (v := 0) E dX1_weighAll_2 (by decide) (pc' := 3) rfl ?_
  refine zw_istore_n (lv' := [(3, .int 0), (1, .long 0), (0, .ref (al 0))]) E dX1_weighAll_3 rfl (by decide) rfl (pc' := 4) rfl ?_
  refine zw_ws (ws' := ld_W K al bq (wst d 0)) (congrArg (ld_W K al bq) (wst_0 d).symm) ?_
  refine zw_sub [2, 1, 0] (lv' := [(0, .ref (al 0)), (1, .long 0), (3, .int 0)]) rfl ?_
  exact lX1_weighAll E hr hlk al bq d 61 0 (by omega) (by omega)

/-- the lowest of the first k with the greatest number -/
def gbest (f : Nat → Int64) : Nat → Nat
  | 0 => 0
  | k + 1 => if f k ≤ f (gbest f k) then gbest f k else k
theorem gbest_lt (f : Nat → Int64) : ∀ k, gbest f (k + 1) < k + 1
  | 0 => by
    rw [gbest]
    split
    · exact Nat.zero_lt_one
    · exact Nat.zero_lt_one
  | k + 1 => by
    have h := gbest_lt f k
    rw [gbest]
    split
    · omega
    · omega
theorem gbest_1 (f : Nat → Int64) : gbest f 1 = 0 := Nat.lt_one_iff.mp (gbest_lt f 0)
theorem gbest_60 (f : Nat → Int64) : gbest f 60 < 60 := gbest_lt f 59
theorem fX1_greatestRemainder_40 : Cond.fieldLink RX1 40 "TitheMap$Land" "remainder" "[J" ∈ wsX1_greatestRemainder := by decide +kernel
theorem iX1_greatestRemainder_X1 : ∀ w ∈ wsX10, w ∈ wsX1_greatestRemainder := by decide +kernel
set_option maxHeartbeats 4000000 in
set_option maxRecDepth 100000 in
theorem lX1_greatestRemainder {l : Launch} {D : va_G} {K : Nat → ClassId} {p : Program} {e : Env} {s : State} {m : MethodId} {below : List Frame} {meth : Method} {c : Code} {A : Nat → Prop} {args : Array Value} (E : zw_E p s m args c cX1_greatestRemainder 3 RX1 wsX1_greatestRemainder D (zT K) A) (hr : meth.sig.returnType = (some .int)) (hlk : meth.locks = false) (al : Nat → Nat) (bq : Nat) (d : Ld) : ∀ (fu k : Nat), k ≤ 60 → 60 + 1 ≤ k + fu → 1 ≤ k → zw_W p l e rmX1_greatestRemainder s m args below meth c 3 D A 0 0 (zw_Qi D A below args s (nI (gbest (d.2.1 1) 60)) (ld_W K al bq d)) 4 [(0, .ref (al 0)), (1, .int (nI (gbest (d.2.1 1) k))), (2, .int (nI k))] [] (ld_W K al bq d) := by
  intro fu
  induction fu with
  | zero => intro k h1 h2; exact absurd h2 (by omega)
  | succ fu ih =>
    intro k hle hfu h1
    refine zw_iload_n (i := 2) (x := nI k) E 2 dX1_greatestRemainder_4 rfl rfl (pc' := 5) rfl ?_
    refine zw_bipush (v := 60) E dX1_greatestRemainder_5 (by decide) (pc' := 7) rfl ?_
    refine zw_icmp_ge (tgt := 34) E dX1_greatestRemainder_7 (by decide) (pc' := 10) rfl (fun c_1 => ?_) (fun c_1 => ?_)
    · skip
      have hk60 : k = 60 := zw_ge60 c_1 hle
      refine zw_iload_n (i := 1) (x := nI (gbest (d.2.1 1) k)) E 1 dX1_greatestRemainder_34 rfl rfl (pc' := 35) rfl ?_
      exact zw_iret E hr hlk dX1_greatestRemainder_35 (by rw [hk60]) rfl
    · skip
      have hk : k < 60 := zw_lt60 c_1 hle
      have hb : gbest (d.2.1 1) k < 60 := by obtain ⟨j, rfl⟩ : ∃ j, k = j + 1 := ⟨k - 1, by omega⟩; exact Nat.lt_trans (gbest_lt _ j) hk
      refine zw_aload_n (i := 0) (x := al 0) E 0 dX1_greatestRemainder_10 rfl rfl (pc' := 11) rfl ?_
      refine zw_get (v := .ref (al 9)) E 0 9 iX1_greatestRemainder_X1 fX1_greatestRemainder_40 rfl rfl (by decide) rfl rfl dX1_greatestRemainder_11 (pc' := 14) rfl ?_
      refine zw_iload_n (i := 2) (x := nI k) E 2 dX1_greatestRemainder_14 rfl rfl (pc' := 15) rfl ?_
      refine zw_lald (j := k) (x := d.2.1 1 k) E 9 2 rfl rfl (vp_in_nI hk (by decide)) (zw_clamp hk (by decide)) rfl dX1_greatestRemainder_15 (pc' := 16) rfl ?_
      refine zw_aload_n (i := 0) (x := al 0) E 0 dX1_greatestRemainder_16 rfl rfl (pc' := 17) rfl ?_
      refine zw_get (v := .ref (al 9)) E 0 9 iX1_greatestRemainder_X1 fX1_greatestRemainder_40 rfl rfl (by decide) rfl rfl dX1_greatestRemainder_17 (pc' := 20) rfl ?_
      refine zw_iload_n (i := 1) (x := nI (gbest (d.2.1 1) k)) E 1 dX1_greatestRemainder_20 rfl rfl (pc' := 21) rfl ?_
      refine zw_lald (j := gbest (d.2.1 1) k) (x := d.2.1 1 (gbest (d.2.1 1) k)) E 9 2 rfl rfl (vp_in_nI hb (by decide)) (zw_clamp hb (by decide)) rfl dX1_greatestRemainder_21 (pc' := 22) rfl ?_
      refine zw_lcmp E dX1_greatestRemainder_22 (pc' := 23) rfl ?_
      refine zw_ifl_le (tgt := 28) E dX1_greatestRemainder_23 (by decide) (pc' := 26) rfl (fun c_2 => ?_) (fun c_2 => ?_)
      · skip
        refine zw_iinc (x := nI k) (v := nI (k + 1)) (lv' := [(2, .int (nI (k + 1))), (0, .ref (al 0)), (1, .int (nI (gbest (d.2.1 1) k)))]) E 2 dX1_greatestRemainder_28 rfl (zw_inc1 k) (by decide) rfl (pc' := 31) rfl ?_
        refine zw_goto (tgt := 4) E dX1_greatestRemainder_31 (by decide) ?_
        have e1 : gbest (d.2.1 1) (k + 1) = gbest (d.2.1 1) k := by rw [gbest, if_pos c_2]
        refine zw_sub [1, 2, 0] (lv' := [(0, .ref (al 0)), (1, .int (nI (gbest (d.2.1 1) k))), (2, .int (nI (k + 1)))]) rfl ?_
        refine zw_as (lv' := [(0, .ref (al 0)), (1, .int (nI (gbest (d.2.1 1) (k + 1)))), (2, .int (nI (k + 1)))]) (by rw [e1]) rfl rfl ?_
        exact ih (k + 1) (by omega) (by omega) (by omega)
      · skip
        refine zw_iload_n (i := 2) (x := nI k) E 2 dX1_greatestRemainder_26 rfl rfl (pc' := 27) rfl ?_
        refine zw_istore_n (lv' := [(1, .int (nI k)), (0, .ref (al 0)), (2, .int (nI k))]) E dX1_greatestRemainder_27 rfl (by decide) rfl (pc' := 28) rfl ?_
        refine zw_iinc (x := nI k) (v := nI (k + 1)) (lv' := [(2, .int (nI (k + 1))), (1, .int (nI k)), (0, .ref (al 0))]) E 2 dX1_greatestRemainder_28 rfl (zw_inc1 k) (by decide) rfl (pc' := 31) rfl ?_
        refine zw_goto (tgt := 4) E dX1_greatestRemainder_31 (by decide) ?_
        have e1 : gbest (d.2.1 1) (k + 1) = k := by rw [gbest, if_neg c_2]
        refine zw_sub [2, 1, 0] (lv' := [(0, .ref (al 0)), (1, .int (nI k)), (2, .int (nI (k + 1)))]) rfl ?_
        refine zw_as (lv' := [(0, .ref (al 0)), (1, .int (nI (gbest (d.2.1 1) (k + 1)))), (2, .int (nI (k + 1)))]) (by rw [e1]) rfl rfl ?_
        exact ih (k + 1) (by omega) (by omega) (by omega)

set_option maxHeartbeats 4000000 in
set_option maxRecDepth 100000 in
/-- greatestRemainder() -/
theorem qX1_greatestRemainder (l : Launch) (D : va_G) (K : Nat → ClassId) (al : Nat → Nat) (bq : Nat) (d : Ld) : zw_I l yX1_greatestRemainder wsX1_greatestRemainder rmX1_greatestRemainder D (zT K) [.ref (al 0)] (ld_W K al bq d) (nI (gbest (d.2.1 1) 60)) (ld_W K al bq d) := by
  refine zw_ofI (cc := cX1_greatestRemainder) (nL := 3) (ret := (some .int)) (own := RX1) (lv := [(0, .ref (al 0))]) (by decide) rfl (Nat.le_of_ble_eq_true rfl) rfl rfl ?_
  intro p e s m below meth c A E hr hlk
  refine zw_iconst (v := 0) E dX1_greatestRemainder_0 (by decide) (pc' := 1) rfl ?_
  refine zw_istore_n (lv' := [(1, .int 0), (0, .ref (al 0))]) E dX1_greatestRemainder_1 rfl (by decide) rfl (pc' := 2) rfl ?_
  refine zw_iconst (v := 1) E dX1_greatestRemainder_2 (by decide) (pc' := 3) rfl ?_
  refine zw_istore_n (lv' := [(2, .int 1), (1, .int 0), (0, .ref (al 0))]) E dX1_greatestRemainder_3 rfl (by decide) rfl (pc' := 4) rfl ?_
  refine zw_sub [2, 1, 0] (lv' := [(0, .ref (al 0)), (1, .int 0), (2, .int 1)]) rfl ?_
  refine zw_as (lv' := [(0, .ref (al 0)), (1, .int (nI (gbest (d.2.1 1) 1))), (2, .int (nI 1))]) (by rw [gbest_1]; rfl) rfl rfl ?_
  exact lX1_greatestRemainder E hr hlk al bq d 60 1 (by omega) (by omega) (by omega)

def sh_p (d : Ld) (q : Int32) (f : Nat) : Int64 := q.toInt64 * d.2.1 0 f
def so1 (d : Ld) (q : Int32) (t : Int64) (k : Nat) : Ld := ((fun r => if r = 5 then (fun f => if f < k then (sh_p d q f / t).toInt32 else d.1 5 f) else d.1 r), (fun r => if r = 1 then (fun f => if f < k then sh_p d q f - sh_p d q f / t * t else d.2.1 1 f) else d.2.1 r), d.2.2)
def lft (d : Ld) (q : Int32) (t : Int64) : Nat → Int32
  | 0 => q
  | k + 1 => lft d q t k - (sh_p d q k / t).toInt32
theorem so1_0 (d : Ld) (q : Int32) (t : Int64) : so1 d q t 0 = d := by
  refine Prod.ext (funext fun r => ?_) (Prod.ext (funext fun r => ?_) rfl)
  · show (if r = 5 then (fun f => if f < 0 then (sh_p d q f / t).toInt32 else d.1 5 f) else d.1 r) = d.1 r
    by_cases h : r = 5
    · subst h
      rw [if_pos rfl]
      funext f
      rw [if_neg (Nat.not_lt_zero f)]
    · rw [if_neg h]
  · show (if r = 1 then (fun f => if f < 0 then sh_p d q f - sh_p d q f / t * t else d.2.1 1 f) else d.2.1 r) = d.2.1 r
    by_cases h : r = 1
    · subst h
      rw [if_pos rfl]
      funext f
      rw [if_neg (Nat.not_lt_zero f)]
    · rw [if_neg h]
theorem so1_succ (d : Ld) (q : Int32) (t : Int64) (k : Nat) : ld_rowL (ld_row (so1 d q t k) 5 k (sh_p d q k / t).toInt32) 1 k (sh_p d q k - sh_p d q k / t * t) = so1 d q t (k + 1) := by
  refine Prod.ext (funext fun r => ?_) (Prod.ext (funext fun r => ?_) rfl)
  · show (if r = 5 then upd ((so1 d q t k).1 5) k (sh_p d q k / t).toInt32 else (so1 d q t k).1 r) = (if r = 5 then (fun f => if f < k + 1 then (sh_p d q f / t).toInt32 else d.1 5 f) else d.1 r)
    by_cases h : r = 5
    · subst h
      rw [if_pos rfl, if_pos rfl]
      funext f
      show (if f = k then (sh_p d q k / t).toInt32 else (if f < k then (sh_p d q f / t).toInt32 else d.1 5 f)) = _
      by_cases h1 : f = k
      · subst h1
        rw [if_pos rfl, if_pos (Nat.lt_succ_self f)]
      · rw [if_neg h1]
        by_cases h2 : f < k
        · rw [if_pos h2, if_pos (by omega)]
        · rw [if_neg h2, if_neg (by omega)]
    · rw [if_neg h, if_neg h]
      show (if r = 5 then _ else _) = _
      rw [if_neg h]
  · show (if r = 1 then vp_updL ((so1 d q t k).2.1 1) k (sh_p d q k - sh_p d q k / t * t) else (so1 d q t k).2.1 r) = (if r = 1 then (fun f => if f < k + 1 then sh_p d q f - sh_p d q f / t * t else d.2.1 1 f) else d.2.1 r)
    by_cases h : r = 1
    · subst h
      rw [if_pos rfl, if_pos rfl]
      funext f
      show (if f = k then sh_p d q k - sh_p d q k / t * t else (if f < k then sh_p d q f - sh_p d q f / t * t else d.2.1 1 f)) = _
      by_cases h1 : f = k
      · subst h1
        rw [if_pos rfl, if_pos (Nat.lt_succ_self f)]
      · rw [if_neg h1]
        by_cases h2 : f < k
        · rw [if_pos h2, if_pos (by omega)]
        · rw [if_neg h2, if_neg (by omega)]
    · rw [if_neg h, if_neg h]
      show (if r = 1 then _ else _) = _
      rw [if_neg h]
/-- one penny more for the greatest remainder -/
def so_step (d : Ld) : Ld := ld_rowL (ld_row d 5 (gbest (d.2.1 1) 60) (d.1 5 (gbest (d.2.1 1) 60) + 1)) 1 (gbest (d.2.1 1) 60) 0
def so2 (d : Ld) : Nat → Ld
  | 0 => d
  | k + 1 => so_step (so2 d k)
/-- how many pence are left to give, at most 60 -/
def itN (x : Int32) : Nat := if x ≤ 0 then 0 else if 60 ≤ x then 60 else x.toNatClampNeg
theorem itN_le (x : Int32) : itN x ≤ 60 := by
  unfold itN
  split
  · omega
  · split
    · omega
    · rename_i h1 h2
      have a := Int32.not_le.mp h2
      have b := Int32.not_le.mp h1
      rw [Int32.lt_iff_toInt_lt] at a b
      have e1 : (60 : Int32).toInt = 60 := rfl
      have e0 : (0 : Int32).toInt = 0 := rfl
      have e : x.toNatClampNeg = x.toInt.toNat := rfl
      omega
theorem itN_ex {x : Int32} {k : Nat} (hk : k ≤ itN x) (h : x ≤ nI k) : k = itN x := by
  have h60 := itN_le x
  rw [Int32.le_iff_toInt_le, nI_toInt (by omega)] at h
  unfold itN at *
  split at hk
  · rename_i h1; rw [if_pos h1]; omega
  · rename_i h1
    rw [if_neg h1]
    split at hk
    · rename_i h2
      rw [if_pos h2]
      rw [Int32.le_iff_toInt_le] at h2
      have e1 : (60 : Int32).toInt = 60 := rfl
      omega
    · rename_i h2
      rw [if_neg h2]
      have e : x.toNatClampNeg = x.toInt.toNat := rfl
      omega
theorem itN_lt {x : Int32} {k : Nat} (hk : k ≤ itN x) (h : ¬ x ≤ nI k) (h2 : ¬ (60 : Int32) ≤ nI k) : k < itN x := by
  have h60 := itN_le x
  have hl := zw_lt60 h2 (by omega)
  have a := Int32.not_le.mp h
  rw [Int32.lt_iff_toInt_lt, nI_toInt (by omega)] at a
  unfold itN
  split
  · rename_i h1
    rw [Int32.le_iff_toInt_le] at h1
    have e0 : (0 : Int32).toInt = 0 := rfl
    omega
  · split
    · exact hl
    · have e : x.toNatClampNeg = x.toInt.toNat := rfl
      omega
def ld_share (d : Ld) (q : Int32) (t : Int64) : Ld := so2 (so1 d q t 60) (itN (lft d q t 60))
theorem zw_tne {t : Int64} (h : ¬ t ≤ 0) : ¬ t = 0 := fun e => h (by rw [e]; exact Int64.le_refl 0)
theorem fX1_shareOut_33 : Cond.fieldLink RX1 33 "TitheMap$Land" "weight" "[J" ∈ wsX1_shareOut := by decide +kernel
theorem fX1_shareOut_37 : Cond.fieldLink RX1 37 "TitheMap$Land" "share" "[I" ∈ wsX1_shareOut := by decide +kernel
theorem fX1_shareOut_40 : Cond.fieldLink RX1 40 "TitheMap$Land" "remainder" "[J" ∈ wsX1_shareOut := by decide +kernel
theorem iX1_shareOut_X1 : ∀ w ∈ wsX10, w ∈ wsX1_shareOut := by decide +kernel
set_option maxHeartbeats 4000000 in
set_option maxRecDepth 100000 in
theorem lX1_shareOut2 {l : Launch} {D : va_G} {K : Nat → ClassId} {p : Program} {e : Env} {s : State} {m : MethodId} {below : List Frame} {meth : Method} {c : Code} {A : Nat → Prop} {args : Array Value} (E : zw_E p s m args c cX1_shareOut 8 RX1 wsX1_shareOut D (zT K) A) (hr : meth.sig.returnType = none) (hlk : meth.locks = false) (al : Nat → Nat) (bq : Nat) (d : Ld) (q L : Int32) (t : Int64) : ∀ (fu k : Nat), k ≤ itN L → itN L + 1 ≤ k + fu → zw_W p l e rmX1_shareOut s m args below meth c 8 D A 0 0 (zw_Qv D A below args s (ld_W K al bq (so2 d (itN L)))) 75 [(0, .ref (al 0)), (1, .int q), (2, .long t), (4, .int L), (5, .int (nI k))] [] (ld_W K al bq (so2 d k)) := by
  intro fu
  induction fu with
  | zero => intro k h1 h2; exact absurd h2 (by omega)
  | succ fu ih =>
    intro k hle hfu
    refine zw_iload (x := nI k) E 4 dX1_shareOut_75 rfl (pc' := 77) rfl ?_
    refine zw_iload (x := L) E 3 dX1_shareOut_77 rfl (pc' := 79) rfl ?_
    refine zw_icmp_ge (tgt := 120) E dX1_shareOut_79 (by decide) (pc' := 82) rfl (fun c_1 => ?_) (fun c_1 => ?_)
    · skip
      have hke : k = itN L := itN_ex hle c_1
      exact zw_vret E hr hlk dX1_shareOut_120 (by rw [hke])
    · skip
      refine zw_iload (x := nI k) E 4 dX1_shareOut_82 rfl (pc' := 84) rfl ?_
      refine zw_bipush (v := 60) E dX1_shareOut_84 (by decide) (pc' := 86) rfl ?_
      refine zw_icmp_ge (tgt := 120) E dX1_shareOut_86 (by decide) (pc' := 89) rfl (fun c_2 => ?_) (fun c_2 => ?_)
      · skip
        have hke : k = itN L := by have := zw_ge60 c_2 (Nat.le_trans hle (itN_le L)); have := itN_le L; omega
        exact zw_vret E hr hlk dX1_shareOut_120 (by rw [hke])
      · skip
        have hk : k < itN L := itN_lt hle c_1 c_2
        have hg : gbest ((so2 d k).2.1 1) 60 < 60 := gbest_60 _
        refine zw_aload_n (i := 0) (x := al 0) E 0 dX1_shareOut_89 rfl rfl (pc' := 90) rfl ?_
        refine zw_callIw E (r := nI (gbest ((so2 d k).2.1 1) 60)) (As := []) (rest := []) (ws' := (ld_W K al bq (so2 d k))) (qX1_greatestRemainder l D K al bq (so2 d k)) (cwV 0 E.2.2.2.2.1 gX1_shareOut_X1_greatestRemainder rfl rfl rfl (by decide +kernel) ⟨Nat.le_of_ble_eq_true rfl, Nat.le_of_ble_eq_true rfl⟩) 0 rfl rfl rfl rfl rfl rfl (Nat.le_of_ble_eq_true rfl) ⟨Nat.zero_le _, Nat.zero_le _⟩ dX1_shareOut_90 (pc' := 93) rfl ?_
        refine zw_istore (lv' := [(6, .int (nI (gbest ((so2 d k).2.1 1) 60))), (0, .ref (al 0)), (1, .int q), (2, .long t), (4, .int L), (5, .int (nI k))]) E dX1_shareOut_93 (by decide) rfl (pc' := 95) rfl ?_
        refine zw_aload_n (i := 0) (x := al 0) E 1 dX1_shareOut_95 rfl rfl (pc' := 96) rfl ?_
        refine zw_get (v := .ref (al 8)) E 0 8 iX1_shareOut_X1 fX1_shareOut_37 rfl rfl (by decide) rfl rfl dX1_shareOut_96 (pc' := 99) rfl ?_
        refine zw_iload (x := nI (gbest ((so2 d k).2.1 1) 60)) E 0 dX1_shareOut_99 rfl (pc' := 101) rfl ?_
        refine zw_dup2 E dX1_shareOut_101 rfl rfl (pc' := 102) rfl ?_
        refine zw_iald (j := gbest ((so2 d k).2.1 1) 60) (x := (so2 d k).1 5 (gbest ((so2 d k).2.1 1) 60)) E 8 0 rfl rfl (vp_in_nI hg (by decide)) (zw_clamp hg (by decide)) rfl dX1_shareOut_102 (pc' := 103) rfl ?_
        refine zw_iconst (v := 1) E dX1_shareOut_103 (by decide) (pc' := 104) rfl ?_
        refine zw_iadd E dX1_shareOut_104 (pc' := 105) rfl ?_
        refine zw_iast (j := gbest ((so2 d k).2.1 1) 60) (ws' := (ld_W K al bq (ld_row (so2 d k) 5 (gbest ((so2 d k).2.1 1) 60) (((so2 d k).1 5 (gbest ((so2 d k).2.1 1) 60)) + 1)))) E 8 0 rfl rfl (vp_in_nI hg (by decide)) (zw_clamp hg (by decide)) rfl dX1_shareOut_105 (pc' := 106) rfl ?_
        refine zw_aload_n (i := 0) (x := al 0) E 1 dX1_shareOut_106 rfl rfl (pc' := 107) rfl ?_
        refine zw_get (v := .ref (al 9)) E 0 9 iX1_shareOut_X1 fX1_shareOut_40 rfl rfl (by decide) rfl rfl dX1_shareOut_107 (pc' := 110) rfl ?_
        refine zw_iload (x := nI (gbest ((so2 d k).2.1 1) 60)) E 0 dX1_shareOut_110 rfl (pc' := 112) rfl ?_
        refine zw_lconst (v := 0) E dX1_shareOut_112 (by decide) (pc' := 113) rfl ?_
        refine zw_last (j := gbest ((so2 d k).2.1 1) 60) (ws' := (ld_W K al bq (ld_rowL (ld_row (so2 d k) 5 (gbest ((so2 d k).2.1 1) 60) (((so2 d k).1 5 (gbest ((so2 d k).2.1 1) 60)) + 1)) 1 (gbest ((so2 d k).2.1 1) 60) 0))) E 9 2 rfl rfl (vp_in_nI hg (by decide)) (zw_clamp hg (by decide)) rfl dX1_shareOut_113 (pc' := 114) rfl ?_
        refine zw_iinc (x := nI k) (v := nI (k + 1)) (lv' := [(5, .int (nI (k + 1))), (6, .int (nI (gbest ((so2 d k).2.1 1) 60))), (0, .ref (al 0)), (1, .int q), (2, .long t), (4, .int L)]) E 5 dX1_shareOut_114 rfl (zw_inc1 k) (by decide) rfl (pc' := 117) rfl ?_
        refine zw_goto (tgt := 75) E dX1_shareOut_117 (by decide) ?_
        refine zw_sub [2, 3, 4, 5, 0] (lv' := [(0, .ref (al 0)), (1, .int q), (2, .long t), (4, .int L), (5, .int (nI (k + 1)))]) rfl ?_
        exact ih (k + 1) (by omega) (by omega)

set_option maxHeartbeats 4000000 in
set_option maxRecDepth 100000 in
theorem lX1_shareOut {l : Launch} {D : va_G} {K : Nat → ClassId} {p : Program} {e : Env} {s : State} {m : MethodId} {below : List Frame} {meth : Method} {c : Code} {A : Nat → Prop} {args : Array Value} (E : zw_E p s m args c cX1_shareOut 8 RX1 wsX1_shareOut D (zT K) A) (hr : meth.sig.returnType = none) (hlk : meth.locks = false) (al : Nat → Nat) (bq : Nat) (d : Ld) (q : Int32) (t : Int64) (ht : ¬ t ≤ 0) : ∀ (fu k : Nat), k ≤ 60 → 60 + 1 ≤ k + fu → zw_W p l e rmX1_shareOut s m args below meth c 8 D A 0 0 (zw_Qv D A below args s (ld_W K al bq (ld_share d q t))) 6 [(0, .ref (al 0)), (1, .int q), (2, .long t), (4, .int (lft d q t k)), (5, .int (nI k))] [] (ld_W K al bq (so1 d q t k)) := by
  intro fu
  induction fu with
  | zero => intro k h1 h2; exact absurd h2 (by omega)
  | succ fu ih =>
    intro k hle hfu
    refine zw_iload (x := nI k) E 4 dX1_shareOut_6 rfl (pc' := 8) rfl ?_
    refine zw_bipush (v := 60) E dX1_shareOut_8 (by decide) (pc' := 10) rfl ?_
    refine zw_icmp_ge (tgt := 72) E dX1_shareOut_10 (by decide) (pc' := 13) rfl (fun c_1 => ?_) (fun c_1 => ?_)
    · skip
      have hk60 : k = 60 := zw_ge60 c_1 hle
      refine zw_iconst (v := 0) E dX1_shareOut_72 (by decide) (pc' := 73) rfl ?_
      refine zw_istore (lv' := [(5, .int 0), (0, .ref (al 0)), (1, .int q), (2, .long t), (4, .int (lft d q t k))]) E dX1_shareOut_73 (by decide) rfl (pc' := 75) rfl ?_
      refine zw_sub [1, 2, 3, 4, 0] (lv' := [(0, .ref (al 0)), (1, .int q), (2, .long t), (4, .int (lft d q t k)), (5, .int 0)]) rfl ?_
      rw [hk60]
      exact lX1_shareOut2 E hr hlk al bq (so1 d q t 60) q (lft d q t 60) t (itN (lft d q t 60) + 1) 0 (Nat.zero_le _) (by omega)
    · skip
      have hk : k < 60 := zw_lt60 c_1 hle
      refine zw_lload_n (i := 2) (x := t) E 2 dX1_shareOut_13 rfl rfl (pc' := 14) rfl ?_
      refine zw_lconst (v := 0) E dX1_shareOut_14 (by decide) (pc' := 15) rfl ?_
      refine zw_lcmp E dX1_shareOut_15 (pc' := 16) rfl ?_
      refine zw_ifl_le (tgt := 72) E dX1_shareOut_16 (by decide) (pc' := 19) rfl (fun c_2 => ?_) (fun c_2 => ?_)
      · exact absurd c_2 ht
      · skip
        refine zw_iload_n (i := 1) (x := q) E 1 dX1_shareOut_19 rfl rfl (pc' := 20) rfl ?_
        refine zw_i2l E dX1_shareOut_20 (pc' := 21) rfl ?_
        refine zw_aload_n (i := 0) (x := al 0) E 0 dX1_shareOut_21 rfl rfl (pc' := 22) rfl ?_
        refine zw_get (v := .ref (al 7)) E 0 7 iX1_shareOut_X1 fX1_shareOut_33 rfl rfl (by decide) rfl rfl dX1_shareOut_22 (pc' := 25) rfl ?_
        refine zw_iload (x := nI k) E 4 dX1_shareOut_25 rfl (pc' := 27) rfl ?_
        refine zw_lald (j := k) (x := (so1 d q t k).2.1 0 k) E 7 2 rfl rfl (vp_in_nI hk (by decide)) (zw_clamp hk (by decide)) rfl dX1_shareOut_27 (pc' := 28) rfl ?_
        refine zw_topl (x' := d.2.1 0 k) rfl ?_
        refine zw_lmul E dX1_shareOut_28 (pc' := 29) rfl ?_
        refine zw_topl (x' := sh_p d q k) rfl ?_
        refine zw_lstore (lv' := [(6, .long (sh_p d q k)), (0, .ref (al 0)), (1, .int q), (2, .long t), (4, .int (lft d q t k)), (5, .int (nI k))]) E dX1_shareOut_29 (by decide) rfl (pc' := 31) rfl ?_
        refine zw_aload_n (i := 0) (x := al 0) E 1 dX1_shareOut_31 rfl rfl (pc' := 32) rfl ?_
        refine zw_get (v := .ref (al 8)) E 0 8 iX1_shareOut_X1 fX1_shareOut_37 rfl rfl (by decide) rfl rfl dX1_shareOut_32 (pc' := 35) rfl ?_
        refine zw_iload (x := nI k) E 5 dX1_shareOut_35 rfl (pc' := 37) rfl ?_
        refine zw_lload (x := sh_p d q k) E 0 dX1_shareOut_37 rfl (pc' := 39) rfl ?_
        refine zw_lload_n (i := 2) (x := t) E 3 dX1_shareOut_39 rfl rfl (pc' := 40) rfl ?_
        refine zw_ldiv E dX1_shareOut_40 (zw_tne ht) (pc' := 41) rfl ?_
        refine zw_l2i E dX1_shareOut_41 (pc' := 42) rfl ?_
        refine zw_iast (j := k) (ws' := (ld_W K al bq (ld_row (so1 d q t k) 5 k (((sh_p d q k) / t).toInt32)))) E 8 0 rfl rfl (vp_in_nI hk (by decide)) (zw_clamp hk (by decide)) rfl dX1_shareOut_42 (pc' := 43) rfl ?_
        refine zw_aload_n (i := 0) (x := al 0) E 1 dX1_shareOut_43 rfl rfl (pc' := 44) rfl ?_
        refine zw_get (v := .ref (al 9)) E 0 9 iX1_shareOut_X1 fX1_shareOut_40 rfl rfl (by decide) rfl rfl dX1_shareOut_44 (pc' := 47) rfl ?_
        refine zw_iload (x := nI k) E 5 dX1_shareOut_47 rfl (pc' := 49) rfl ?_
        refine zw_lload (x := sh_p d q k) E 0 dX1_shareOut_49 rfl (pc' := 51) rfl ?_
        refine zw_lload_n (i := 2) (x := t) E 3 dX1_shareOut_51 rfl rfl (pc' := 52) rfl ?_
        refine zw_lrem E dX1_shareOut_52 (zw_tne ht) (pc' := 53) rfl ?_
        refine zw_last (j := k) (ws' := (ld_W K al bq (ld_rowL (ld_row (so1 d q t k) 5 k (((sh_p d q k) / t).toInt32)) 1 k ((sh_p d q k) - (sh_p d q k) / t * t)))) E 9 2 rfl rfl (vp_in_nI hk (by decide)) (zw_clamp hk (by decide)) rfl dX1_shareOut_53 (pc' := 54) rfl ?_
        refine zw_iload (x := lft d q t k) E 4 dX1_shareOut_54 rfl (pc' := 56) rfl ?_
        refine zw_aload_n (i := 0) (x := al 0) E 1 dX1_shareOut_56 rfl rfl (pc' := 57) rfl ?_
        refine zw_get (v := .ref (al 8)) E 0 8 iX1_shareOut_X1 fX1_shareOut_37 rfl rfl (by decide) rfl rfl dX1_shareOut_57 (pc' := 60) rfl ?_
        refine zw_iload (x := nI k) E 5 dX1_shareOut_60 rfl (pc' := 62) rfl ?_
        refine zw_iald (j := k) (x := (ld_rowL (ld_row (so1 d q t k) 5 k (((sh_p d q k) / t).toInt32)) 1 k ((sh_p d q k) - (sh_p d q k) / t * t)).1 5 k) E 8 0 rfl rfl (vp_in_nI hk (by decide)) (zw_clamp hk (by decide)) rfl dX1_shareOut_62 (pc' := 63) rfl ?_
        refine zw_topi (x' := (sh_p d q k / t).toInt32) (ld_row_same (so1 d q t k) 5 k (sh_p d q k / t).toInt32) ?_
        refine zw_isub E dX1_shareOut_63 (pc' := 64) rfl ?_
        refine zw_istore (lv' := [(4, .int ((lft d q t k) - ((sh_p d q k / t).toInt32))), (6, .long (sh_p d q k)), (0, .ref (al 0)), (1, .int q), (2, .long t), (5, .int (nI k))]) E dX1_shareOut_64 (by decide) rfl (pc' := 66) rfl ?_
        refine zw_iinc (x := nI k) (v := nI (k + 1)) (lv' := [(5, .int (nI (k + 1))), (4, .int ((lft d q t k) - ((sh_p d q k / t).toInt32))), (6, .long (sh_p d q k)), (0, .ref (al 0)), (1, .int q), (2, .long t)]) E 5 dX1_shareOut_66 rfl (zw_inc1 k) (by decide) rfl (pc' := 69) rfl ?_
        refine zw_goto (tgt := 6) E dX1_shareOut_69 (by decide) ?_
        refine zw_ws (ws' := ld_W K al bq (so1 d q t (k + 1))) (congrArg (ld_W K al bq) (so1_succ d q t k)) ?_
        refine zw_sub [3, 4, 5, 1, 0] (lv' := [(0, .ref (al 0)), (1, .int q), (2, .long t), (4, .int ((lft d q t k) - ((sh_p d q k / t).toInt32))), (5, .int (nI (k + 1)))]) rfl ?_
        exact ih (k + 1) (by omega) (by omega)

set_option maxHeartbeats 4000000 in
set_option maxRecDepth 100000 in
/-- shareOut(pence, total) -/
theorem qX1_shareOut (l : Launch) (D : va_G) (K : Nat → ClassId) (al : Nat → Nat) (bq : Nat) (d : Ld) (q : Int32) (t : Int64) (ht : ¬ t ≤ 0) : zw_V l yX1_shareOut wsX1_shareOut rmX1_shareOut D (zT K) [.ref (al 0), .int q, .long t] (ld_W K al bq d) (ld_W K al bq (ld_share d q t)) := by
  refine zw_ofV (cc := cX1_shareOut) (nL := 8) (ret := none) (own := RX1) (lv := [(0, .ref (al 0)), (1, .int q), (2, .long t)]) (by decide) rfl (Nat.le_of_ble_eq_true rfl) rfl rfl ?_
  intro p e s m below meth c A E hr hlk
  refine zw_iload_n (i := 1) (x := q) E 1 dX1_shareOut_0 rfl rfl (pc' := 1) rfl ?_
  refine zw_istore (lv' := [(4, .int q), (0, .ref (al 0)), (1, .int q), (2, .long t)]) E dX1_shareOut_1 (by decide) rfl (pc' := 3) rfl ?_
  refine zw_iconst (v := 0) E dX1_shareOut_3 (by decide) (pc' := 4) rfl ?_
  refine zw_istore (lv' := [(5, .int 0), (4, .int q), (0, .ref (al 0)), (1, .int q), (2, .long t)]) E dX1_shareOut_4 (by decide) rfl (pc' := 6) rfl ?_
  refine zw_ws (ws' := ld_W K al bq (so1 d q t 0)) (congrArg (ld_W K al bq) (so1_0 d q t).symm) ?_
  refine zw_sub [2, 3, 4, 1, 0] (lv' := [(0, .ref (al 0)), (1, .int q), (2, .long t), (4, .int q), (5, .int 0)]) rfl ?_
  exact lX1_shareOut E hr hlk al bq d q t ht 61 0 (by omega) (by omega)
end
section
/-! the land: chargeShare, areMeansKnown, trySettle -/
def c_third (d : Ld) (i : Nat) (c odd : Int32) : Int64 := (d.1 5 i / 3 + (if odd ≤ c then 0 else 1)).toInt64
def cs (d : Ld) (i cn : Nat) (c odd : Int32) : Ld := if (d.1 6 cn).toInt64 ≤ 0 then d else ld_row d (7 + cn) i ((200 * c_third d i c odd + (d.1 6 cn).toInt64) / (2 * (d.1 6 cn).toInt64)).toInt32
def c_odd (d : Ld) (i : Nat) : Int32 := d.1 5 i - d.1 5 i / 3 * 3
def ld_charge (d : Ld) (i : Nat) : Ld := if is_there d (nI i) then cs (cs (cs d i 0 0 (c_odd d i)) i 1 1 (c_odd d i)) i 2 2 (c_odd d i) else d
theorem zw_m2 {x : Int32} (h : ¬ x.toInt64 ≤ 0) : ¬ (2 : Int64) * x.toInt64 = 0 := by
  intro e
  have a := Int64.not_le.mp h
  rw [Int64.lt_iff_toInt_lt, Int32.toInt_toInt64] at a
  have e2 := congrArg Int64.toInt e
  rw [Int64.toInt_mul, Int32.toInt_toInt64] at e2
  have e0 : (0 : Int64).toInt = 0 := rfl
  have e3 : (2 : Int64).toInt = 2 := rfl
  have hx := Int32.toInt_lt x
  have hx0 := Int32.le_toInt x
  rw [e0] at a e2
  rw [e3] at e2
  rw [Int.bmod_eq_of_le (by omega) (by omega)] at e2
  omega
theorem kX1_chargeShare_140 : Cond.constantLong RX1 140 (200) ∈ wsX1_chargeShare := by decide +kernel
theorem kX1_chargeShare_142 : Cond.constantLong RX1 142 (2) ∈ wsX1_chargeShare := by decide +kernel
theorem fX1_chargeShare_27 : Cond.fieldLink RX1 27 "TitheMap$Land" "charge" "[[I" ∈ wsX1_chargeShare := by decide +kernel
theorem fX1_chargeShare_37 : Cond.fieldLink RX1 37 "TitheMap$Land" "share" "[I" ∈ wsX1_chargeShare := by decide +kernel
theorem fX1_chargeShare_43 : Cond.fieldLink RX1 43 "TitheMap$Land" "means" "[I" ∈ wsX1_chargeShare := by decide +kernel
theorem iX1_chargeShare_X1 : ∀ w ∈ wsX10, w ∈ wsX1_chargeShare := by decide +kernel
set_option maxHeartbeats 4000000 in
set_option maxRecDepth 100000 in
theorem lX1_cs_0 {l : Launch} {D : va_G} {K : Nat → ClassId} {p : Program} {e : Env} {s : State} {m : MethodId} {below : List Frame} {meth : Method} {c : Code} {A : Nat → Prop} {args : Array Value} {Q : State → Prop} (E : zw_E p s m args c cX1_chargeShare 8 RX1 wsX1_chargeShare D (zT K) A) (al : Nat → Nat) (bq : Nat) (d : Ld) (i : Nat) (hi : i < 60) (odd : Int32) (kk : zw_W p l e rmX1_chargeShare s m args below meth c 8 D A 0 0 Q 20 [(0, .ref (al 0)), (1, .int (nI i)), (2, .int odd), (3, .int 1)] [] (ld_W K al bq (cs d i 0 0 odd))) : zw_W p l e rmX1_chargeShare s m args below meth c 8 D A 0 0 Q 20 [(0, .ref (al 0)), (1, .int (nI i)), (2, .int odd), (3, .int 0)] [] (ld_W K al bq d) := by
  refine zw_iload_n (i := 3) (x := 0) E 3 dX1_chargeShare_20 rfl rfl (pc' := 21) rfl ?_
  refine zw_iconst (v := 3) E dX1_chargeShare_21 (by decide) (pc' := 22) rfl ?_
  refine zw_icmp_ge (tgt := 94) E dX1_chargeShare_22 (by decide) (pc' := 25) rfl (fun c9 => absurd c9 (by decide)) (fun _ => ?_)
  refine zw_aload_n (i := 0) (x := al 0) E 0 dX1_chargeShare_25 rfl rfl (pc' := 26) rfl ?_
  refine zw_get (v := .ref (al 8)) E 0 8 iX1_chargeShare_X1 fX1_chargeShare_37 rfl rfl (by decide) rfl rfl dX1_chargeShare_26 (pc' := 29) rfl ?_
  refine zw_iload_n (i := 1) (x := nI i) E 1 dX1_chargeShare_29 rfl rfl (pc' := 30) rfl ?_
  refine zw_iald (j := i) (x := d.1 5 i) E 8 0 rfl rfl (vp_in_nI hi (by decide)) (zw_clamp hi (by decide)) rfl dX1_chargeShare_30 (pc' := 31) rfl ?_
  refine zw_iconst (v := 3) E dX1_chargeShare_31 (by decide) (pc' := 32) rfl ?_
  refine zw_idiv E dX1_chargeShare_32 (by decide) (pc' := 33) rfl ?_
  refine zw_iload_n (i := 3) (x := 0) E 3 dX1_chargeShare_33 rfl rfl (pc' := 34) rfl ?_
  refine zw_iload_n (i := 2) (x := odd) E 2 dX1_chargeShare_34 rfl rfl (pc' := 35) rfl ?_
  refine zw_icmp_ge (tgt := 42) E dX1_chargeShare_35 (by decide) (pc' := 38) rfl (fun c_1 => ?_) (fun c_1 => ?_)
  · skip
    refine zw_iconst (v := 0) E dX1_chargeShare_42 (by decide) (pc' := 43) rfl ?_
    refine zw_iadd E dX1_chargeShare_43 (pc' := 44) rfl ?_
    refine zw_i2l E dX1_chargeShare_44 (pc' := 45) rfl ?_
    refine zw_lstore (lv' := [(4, .long ((((d.1 5 i) / 3) + 0).toInt64)), (0, .ref (al 0)), (1, .int (nI i)), (2, .int odd), (3, .int 0)]) E dX1_chargeShare_45 (by decide) rfl (pc' := 47) rfl ?_
    refine zw_aload_n (i := 0) (x := al 0) E 1 dX1_chargeShare_47 rfl rfl (pc' := 48) rfl ?_
    refine zw_get (v := .ref (al 10)) E 0 10 iX1_chargeShare_X1 fX1_chargeShare_43 rfl rfl (by decide) rfl rfl dX1_chargeShare_48 (pc' := 51) rfl ?_
    refine zw_iload_n (i := 3) (x := 0) E 4 dX1_chargeShare_51 rfl rfl (pc' := 52) rfl ?_
    refine zw_iald (j := 0) (x := d.1 6 0) E 10 0 rfl rfl (vp_in_nI (n := 0) (N := 3) (by decide) (by decide)) rfl rfl dX1_chargeShare_52 (pc' := 53) rfl ?_
    refine zw_i2l E dX1_chargeShare_53 (pc' := 54) rfl ?_
    refine zw_lstore (lv' := [(6, .long ((d.1 6 0).toInt64)), (4, .long ((((d.1 5 i) / 3) + 0).toInt64)), (0, .ref (al 0)), (1, .int (nI i)), (2, .int odd), (3, .int 0)]) E dX1_chargeShare_54 (by decide) rfl (pc' := 56) rfl ?_
    refine zw_lload (x := (d.1 6 0).toInt64) E 0 dX1_chargeShare_56 rfl (pc' := 58) rfl ?_
    refine zw_lconst (v := 0) E dX1_chargeShare_58 (by decide) (pc' := 59) rfl ?_
    refine zw_lcmp E dX1_chargeShare_59 (pc' := 60) rfl ?_
    refine zw_ifl_le (tgt := 88) E dX1_chargeShare_60 (by decide) (pc' := 63) rfl (fun c_2 => ?_) (fun c_2 => ?_)
    · skip
      refine zw_iinc (x := 0) (v := 1) (lv' := [(3, .int 1), (6, .long ((d.1 6 0).toInt64)), (4, .long ((((d.1 5 i) / 3) + 0).toInt64)), (0, .ref (al 0)), (1, .int (nI i)), (2, .int odd)]) E 5 dX1_chargeShare_88 rfl (by decide) (by decide) rfl (pc' := 91) rfl ?_
      refine zw_goto (tgt := 20) E dX1_chargeShare_91 (by decide) ?_
      refine zw_ws (ws' := ld_W K al bq (cs d i 0 0 odd)) (by unfold cs; rw [if_pos c_2]) ?_
      refine zw_sub [3, 4, 5, 0] (lv' := [(0, .ref (al 0)), (1, .int (nI i)), (2, .int odd), (3, .int 1)]) rfl ?_
      exact kk
    · skip
      refine zw_aload_n (i := 0) (x := al 0) E 2 dX1_chargeShare_63 rfl rfl (pc' := 64) rfl ?_
      refine zw_get (v := .ref (al 5)) E 0 5 iX1_chargeShare_X1 fX1_chargeShare_27 rfl rfl (by decide) rfl rfl dX1_chargeShare_64 (pc' := 67) rfl ?_
      refine zw_iload_n (i := 3) (x := 0) E 5 dX1_chargeShare_67 rfl rfl (pc' := 68) rfl ?_
      refine zw_aald (j := 0) (b := al 11) E 5 3 rfl rfl (vp_in_nI (n := 0) (N := 3) (by decide) (by decide)) rfl rfl dX1_chargeShare_68 (pc' := 69) rfl ?_
      refine zw_iload_n (i := 1) (x := nI i) E 3 dX1_chargeShare_69 rfl rfl (pc' := 70) rfl ?_
      refine zw_ldc2 (v := 200) E dX1_chargeShare_70 kX1_chargeShare_140 (pc' := 73) rfl ?_
      refine zw_lload (x := (((d.1 5 i) / 3) + 0).toInt64) E 1 dX1_chargeShare_73 rfl (pc' := 75) rfl ?_
      refine zw_lmul E dX1_chargeShare_75 (pc' := 76) rfl ?_
      refine zw_lload (x := (d.1 6 0).toInt64) E 0 dX1_chargeShare_76 rfl (pc' := 78) rfl ?_
      refine zw_ladd E dX1_chargeShare_78 (pc' := 79) rfl ?_
      refine zw_ldc2 (v := 2) E dX1_chargeShare_79 kX1_chargeShare_142 (pc' := 82) rfl ?_
      refine zw_lload (x := (d.1 6 0).toInt64) E 0 dX1_chargeShare_82 rfl (pc' := 84) rfl ?_
      refine zw_lmul E dX1_chargeShare_84 (pc' := 85) rfl ?_
      refine zw_ldiv E dX1_chargeShare_85 (zw_m2 c_2) (pc' := 86) rfl ?_
      refine zw_l2i E dX1_chargeShare_86 (pc' := 87) rfl ?_
      refine zw_iast (j := i) (ws' := (ld_W K al bq (ld_row d 7 i ((((200 * ((((d.1 5 i) / 3) + 0).toInt64)) + ((d.1 6 0).toInt64)) / (2 * ((d.1 6 0).toInt64))).toInt32)))) E 11 0 rfl rfl (vp_in_nI hi (by decide)) (zw_clamp hi (by decide)) rfl dX1_chargeShare_87 (pc' := 88) rfl ?_
      refine zw_iinc (x := 0) (v := 1) (lv' := [(3, .int 1), (6, .long ((d.1 6 0).toInt64)), (4, .long ((((d.1 5 i) / 3) + 0).toInt64)), (0, .ref (al 0)), (1, .int (nI i)), (2, .int odd)]) E 5 dX1_chargeShare_88 rfl (by decide) (by decide) rfl (pc' := 91) rfl ?_
      refine zw_goto (tgt := 20) E dX1_chargeShare_91 (by decide) ?_
      refine zw_ws (ws' := ld_W K al bq (cs d i 0 0 odd)) (by unfold cs c_third; rw [if_neg c_2, if_pos c_1]) ?_
      refine zw_sub [3, 4, 5, 0] (lv' := [(0, .ref (al 0)), (1, .int (nI i)), (2, .int odd), (3, .int 1)]) rfl ?_
      exact kk
  · skip
    refine zw_iconst (v := 1) E dX1_chargeShare_38 (by decide) (pc' := 39) rfl ?_
    refine zw_goto (tgt := 43) E dX1_chargeShare_39 (by decide) ?_
    refine zw_iadd E dX1_chargeShare_43 (pc' := 44) rfl ?_
    refine zw_i2l E dX1_chargeShare_44 (pc' := 45) rfl ?_
    refine zw_lstore (lv' := [(4, .long ((((d.1 5 i) / 3) + 1).toInt64)), (0, .ref (al 0)), (1, .int (nI i)), (2, .int odd), (3, .int 0)]) E dX1_chargeShare_45 (by decide) rfl (pc' := 47) rfl ?_
    refine zw_aload_n (i := 0) (x := al 0) E 1 dX1_chargeShare_47 rfl rfl (pc' := 48) rfl ?_
    refine zw_get (v := .ref (al 10)) E 0 10 iX1_chargeShare_X1 fX1_chargeShare_43 rfl rfl (by decide) rfl rfl dX1_chargeShare_48 (pc' := 51) rfl ?_
    refine zw_iload_n (i := 3) (x := 0) E 4 dX1_chargeShare_51 rfl rfl (pc' := 52) rfl ?_
    refine zw_iald (j := 0) (x := d.1 6 0) E 10 0 rfl rfl (vp_in_nI (n := 0) (N := 3) (by decide) (by decide)) rfl rfl dX1_chargeShare_52 (pc' := 53) rfl ?_
    refine zw_i2l E dX1_chargeShare_53 (pc' := 54) rfl ?_
    refine zw_lstore (lv' := [(6, .long ((d.1 6 0).toInt64)), (4, .long ((((d.1 5 i) / 3) + 1).toInt64)), (0, .ref (al 0)), (1, .int (nI i)), (2, .int odd), (3, .int 0)]) E dX1_chargeShare_54 (by decide) rfl (pc' := 56) rfl ?_
    refine zw_lload (x := (d.1 6 0).toInt64) E 0 dX1_chargeShare_56 rfl (pc' := 58) rfl ?_
    refine zw_lconst (v := 0) E dX1_chargeShare_58 (by decide) (pc' := 59) rfl ?_
    refine zw_lcmp E dX1_chargeShare_59 (pc' := 60) rfl ?_
    refine zw_ifl_le (tgt := 88) E dX1_chargeShare_60 (by decide) (pc' := 63) rfl (fun c_3 => ?_) (fun c_3 => ?_)
    · skip
      refine zw_iinc (x := 0) (v := 1) (lv' := [(3, .int 1), (6, .long ((d.1 6 0).toInt64)), (4, .long ((((d.1 5 i) / 3) + 1).toInt64)), (0, .ref (al 0)), (1, .int (nI i)), (2, .int odd)]) E 5 dX1_chargeShare_88 rfl (by decide) (by decide) rfl (pc' := 91) rfl ?_
      refine zw_goto (tgt := 20) E dX1_chargeShare_91 (by decide) ?_
      refine zw_ws (ws' := ld_W K al bq (cs d i 0 0 odd)) (by unfold cs; rw [if_pos c_3]) ?_
      refine zw_sub [3, 4, 5, 0] (lv' := [(0, .ref (al 0)), (1, .int (nI i)), (2, .int odd), (3, .int 1)]) rfl ?_
      exact kk
    · skip
      refine zw_aload_n (i := 0) (x := al 0) E 2 dX1_chargeShare_63 rfl rfl (pc' := 64) rfl ?_
      refine zw_get (v := .ref (al 5)) E 0 5 iX1_chargeShare_X1 fX1_chargeShare_27 rfl rfl (by decide) rfl rfl dX1_chargeShare_64 (pc' := 67) rfl ?_
      refine zw_iload_n (i := 3) (x := 0) E 5 dX1_chargeShare_67 rfl rfl (pc' := 68) rfl ?_
      refine zw_aald (j := 0) (b := al 11) E 5 3 rfl rfl (vp_in_nI (n := 0) (N := 3) (by decide) (by decide)) rfl rfl dX1_chargeShare_68 (pc' := 69) rfl ?_
      refine zw_iload_n (i := 1) (x := nI i) E 3 dX1_chargeShare_69 rfl rfl (pc' := 70) rfl ?_
      refine zw_ldc2 (v := 200) E dX1_chargeShare_70 kX1_chargeShare_140 (pc' := 73) rfl ?_
      refine zw_lload (x := (((d.1 5 i) / 3) + 1).toInt64) E 1 dX1_chargeShare_73 rfl (pc' := 75) rfl ?_
      refine zw_lmul E dX1_chargeShare_75 (pc' := 76) rfl ?_
      refine zw_lload (x := (d.1 6 0).toInt64) E 0 dX1_chargeShare_76 rfl (pc' := 78) rfl ?_
      refine zw_ladd E dX1_chargeShare_78 (pc' := 79) rfl ?_
      refine zw_ldc2 (v := 2) E dX1_chargeShare_79 kX1_chargeShare_142 (pc' := 82) rfl ?_
      refine zw_lload (x := (d.1 6 0).toInt64) E 0 dX1_chargeShare_82 rfl (pc' := 84) rfl ?_
      refine zw_lmul E dX1_chargeShare_84 (pc' := 85) rfl ?_
      refine zw_ldiv E dX1_chargeShare_85 (zw_m2 c_3) (pc' := 86) rfl ?_
      refine zw_l2i E dX1_chargeShare_86 (pc' := 87) rfl ?_
      refine zw_iast (j := i) (ws' := (ld_W K al bq (ld_row d 7 i ((((200 * ((((d.1 5 i) / 3) + 1).toInt64)) + ((d.1 6 0).toInt64)) / (2 * ((d.1 6 0).toInt64))).toInt32)))) E 11 0 rfl rfl (vp_in_nI hi (by decide)) (zw_clamp hi (by decide)) rfl dX1_chargeShare_87 (pc' := 88) rfl ?_
      refine zw_iinc (x := 0) (v := 1) (lv' := [(3, .int 1), (6, .long ((d.1 6 0).toInt64)), (4, .long ((((d.1 5 i) / 3) + 1).toInt64)), (0, .ref (al 0)), (1, .int (nI i)), (2, .int odd)]) E 5 dX1_chargeShare_88 rfl (by decide) (by decide) rfl (pc' := 91) rfl ?_
      refine zw_goto (tgt := 20) E dX1_chargeShare_91 (by decide) ?_
      refine zw_ws (ws' := ld_W K al bq (cs d i 0 0 odd)) (by unfold cs c_third; rw [if_neg c_3, if_neg c_1]) ?_
      refine zw_sub [3, 4, 5, 0] (lv' := [(0, .ref (al 0)), (1, .int (nI i)), (2, .int odd), (3, .int 1)]) rfl ?_
      exact kk

set_option maxHeartbeats 4000000 in
set_option maxRecDepth 100000 in
theorem lX1_cs_1 {l : Launch} {D : va_G} {K : Nat → ClassId} {p : Program} {e : Env} {s : State} {m : MethodId} {below : List Frame} {meth : Method} {c : Code} {A : Nat → Prop} {args : Array Value} {Q : State → Prop} (E : zw_E p s m args c cX1_chargeShare 8 RX1 wsX1_chargeShare D (zT K) A) (al : Nat → Nat) (bq : Nat) (d : Ld) (i : Nat) (hi : i < 60) (odd : Int32) (kk : zw_W p l e rmX1_chargeShare s m args below meth c 8 D A 0 0 Q 20 [(0, .ref (al 0)), (1, .int (nI i)), (2, .int odd), (3, .int 2)] [] (ld_W K al bq (cs d i 1 1 odd))) : zw_W p l e rmX1_chargeShare s m args below meth c 8 D A 0 0 Q 20 [(0, .ref (al 0)), (1, .int (nI i)), (2, .int odd), (3, .int 1)] [] (ld_W K al bq d) := by
  refine zw_iload_n (i := 3) (x := 1) E 3 dX1_chargeShare_20 rfl rfl (pc' := 21) rfl ?_
  refine zw_iconst (v := 3) E dX1_chargeShare_21 (by decide) (pc' := 22) rfl ?_
  refine zw_icmp_ge (tgt := 94) E dX1_chargeShare_22 (by decide) (pc' := 25) rfl (fun c9 => absurd c9 (by decide)) (fun _ => ?_)
  refine zw_aload_n (i := 0) (x := al 0) E 0 dX1_chargeShare_25 rfl rfl (pc' := 26) rfl ?_
  refine zw_get (v := .ref (al 8)) E 0 8 iX1_chargeShare_X1 fX1_chargeShare_37 rfl rfl (by decide) rfl rfl dX1_chargeShare_26 (pc' := 29) rfl ?_
  refine zw_iload_n (i := 1) (x := nI i) E 1 dX1_chargeShare_29 rfl rfl (pc' := 30) rfl ?_
  refine zw_iald (j := i) (x := d.1 5 i) E 8 0 rfl rfl (vp_in_nI hi (by decide)) (zw_clamp hi (by decide)) rfl dX1_chargeShare_30 (pc' := 31) rfl ?_
  refine zw_iconst (v := 3) E dX1_chargeShare_31 (by decide) (pc' := 32) rfl ?_
  refine zw_idiv E dX1_chargeShare_32 (by decide) (pc' := 33) rfl ?_
  refine zw_iload_n (i := 3) (x := 1) E 3 dX1_chargeShare_33 rfl rfl (pc' := 34) rfl ?_
  refine zw_iload_n (i := 2) (x := odd) E 2 dX1_chargeShare_34 rfl rfl (pc' := 35) rfl ?_
  refine zw_icmp_ge (tgt := 42) E dX1_chargeShare_35 (by decide) (pc' := 38) rfl (fun c_1 => ?_) (fun c_1 => ?_)
  · skip
    refine zw_iconst (v := 0) E dX1_chargeShare_42 (by decide) (pc' := 43) rfl ?_
    refine zw_iadd E dX1_chargeShare_43 (pc' := 44) rfl ?_
    refine zw_i2l E dX1_chargeShare_44 (pc' := 45) rfl ?_
    refine zw_lstore (lv' := [(4, .long ((((d.1 5 i) / 3) + 0).toInt64)), (0, .ref (al 0)), (1, .int (nI i)), (2, .int odd), (3, .int 1)]) E dX1_chargeShare_45 (by decide) rfl (pc' := 47) rfl ?_
    refine zw_aload_n (i := 0) (x := al 0) E 1 dX1_chargeShare_47 rfl rfl (pc' := 48) rfl ?_
    refine zw_get (v := .ref (al 10)) E 0 10 iX1_chargeShare_X1 fX1_chargeShare_43 rfl rfl (by decide) rfl rfl dX1_chargeShare_48 (pc' := 51) rfl ?_
    refine zw_iload_n (i := 3) (x := 1) E 4 dX1_chargeShare_51 rfl rfl (pc' := 52) rfl ?_
    refine zw_iald (j := 1) (x := d.1 6 1) E 10 0 rfl rfl (vp_in_nI (n := 1) (N := 3) (by decide) (by decide)) rfl rfl dX1_chargeShare_52 (pc' := 53) rfl ?_
    refine zw_i2l E dX1_chargeShare_53 (pc' := 54) rfl ?_
    refine zw_lstore (lv' := [(6, .long ((d.1 6 1).toInt64)), (4, .long ((((d.1 5 i) / 3) + 0).toInt64)), (0, .ref (al 0)), (1, .int (nI i)), (2, .int odd), (3, .int 1)]) E dX1_chargeShare_54 (by decide) rfl (pc' := 56) rfl ?_
    refine zw_lload (x := (d.1 6 1).toInt64) E 0 dX1_chargeShare_56 rfl (pc' := 58) rfl ?_
    refine zw_lconst (v := 0) E dX1_chargeShare_58 (by decide) (pc' := 59) rfl ?_
    refine zw_lcmp E dX1_chargeShare_59 (pc' := 60) rfl ?_
    refine zw_ifl_le (tgt := 88) E dX1_chargeShare_60 (by decide) (pc' := 63) rfl (fun c_2 => ?_) (fun c_2 => ?_)
    · skip
      refine zw_iinc (x := 1) (v := 2) (lv' := [(3, .int 2), (6, .long ((d.1 6 1).toInt64)), (4, .long ((((d.1 5 i) / 3) + 0).toInt64)), (0, .ref (al 0)), (1, .int (nI i)), (2, .int odd)]) E 5 dX1_chargeShare_88 rfl (by decide) (by decide) rfl (pc' := 91) rfl ?_
      refine zw_goto (tgt := 20) E dX1_chargeShare_91 (by decide) ?_
      refine zw_ws (ws' := ld_W K al bq (cs d i 1 1 odd)) (by unfold cs; rw [if_pos c_2]) ?_
      refine zw_sub [3, 4, 5, 0] (lv' := [(0, .ref (al 0)), (1, .int (nI i)), (2, .int odd), (3, .int 2)]) rfl ?_
      exact kk
    · skip
      refine zw_aload_n (i := 0) (x := al 0) E 2 dX1_chargeShare_63 rfl rfl (pc' := 64) rfl ?_
      refine zw_get (v := .ref (al 5)) E 0 5 iX1_chargeShare_X1 fX1_chargeShare_27 rfl rfl (by decide) rfl rfl dX1_chargeShare_64 (pc' := 67) rfl ?_
      refine zw_iload_n (i := 3) (x := 1) E 5 dX1_chargeShare_67 rfl rfl (pc' := 68) rfl ?_
      refine zw_aald (j := 1) (b := al 12) E 5 3 rfl rfl (vp_in_nI (n := 1) (N := 3) (by decide) (by decide)) rfl rfl dX1_chargeShare_68 (pc' := 69) rfl ?_
      refine zw_iload_n (i := 1) (x := nI i) E 3 dX1_chargeShare_69 rfl rfl (pc' := 70) rfl ?_
      refine zw_ldc2 (v := 200) E dX1_chargeShare_70 kX1_chargeShare_140 (pc' := 73) rfl ?_
      refine zw_lload (x := (((d.1 5 i) / 3) + 0).toInt64) E 1 dX1_chargeShare_73 rfl (pc' := 75) rfl ?_
      refine zw_lmul E dX1_chargeShare_75 (pc' := 76) rfl ?_
      refine zw_lload (x := (d.1 6 1).toInt64) E 0 dX1_chargeShare_76 rfl (pc' := 78) rfl ?_
      refine zw_ladd E dX1_chargeShare_78 (pc' := 79) rfl ?_
      refine zw_ldc2 (v := 2) E dX1_chargeShare_79 kX1_chargeShare_142 (pc' := 82) rfl ?_
      refine zw_lload (x := (d.1 6 1).toInt64) E 0 dX1_chargeShare_82 rfl (pc' := 84) rfl ?_
      refine zw_lmul E dX1_chargeShare_84 (pc' := 85) rfl ?_
      refine zw_ldiv E dX1_chargeShare_85 (zw_m2 c_2) (pc' := 86) rfl ?_
      refine zw_l2i E dX1_chargeShare_86 (pc' := 87) rfl ?_
      refine zw_iast (j := i) (ws' := (ld_W K al bq (ld_row d 8 i ((((200 * ((((d.1 5 i) / 3) + 0).toInt64)) + ((d.1 6 1).toInt64)) / (2 * ((d.1 6 1).toInt64))).toInt32)))) E 12 0 rfl rfl (vp_in_nI hi (by decide)) (zw_clamp hi (by decide)) rfl dX1_chargeShare_87 (pc' := 88) rfl ?_
      refine zw_iinc (x := 1) (v := 2) (lv' := [(3, .int 2), (6, .long ((d.1 6 1).toInt64)), (4, .long ((((d.1 5 i) / 3) + 0).toInt64)), (0, .ref (al 0)), (1, .int (nI i)), (2, .int odd)]) E 5 dX1_chargeShare_88 rfl (by decide) (by decide) rfl (pc' := 91) rfl ?_
      refine zw_goto (tgt := 20) E dX1_chargeShare_91 (by decide) ?_
      refine zw_ws (ws' := ld_W K al bq (cs d i 1 1 odd)) (by unfold cs c_third; rw [if_neg c_2, if_pos c_1]) ?_
      refine zw_sub [3, 4, 5, 0] (lv' := [(0, .ref (al 0)), (1, .int (nI i)), (2, .int odd), (3, .int 2)]) rfl ?_
      exact kk
  · skip
    refine zw_iconst (v := 1) E dX1_chargeShare_38 (by decide) (pc' := 39) rfl ?_
    refine zw_goto (tgt := 43) E dX1_chargeShare_39 (by decide) ?_
    refine zw_iadd E dX1_chargeShare_43 (pc' := 44) rfl ?_
    refine zw_i2l E dX1_chargeShare_44 (pc' := 45) rfl ?_
    refine zw_lstore (lv' := [(4, .long ((((d.1 5 i) / 3) + 1).toInt64)), (0, .ref (al 0)), (1, .int (nI i)), (2, .int odd), (3, .int 1)]) E dX1_chargeShare_45 (by decide) rfl (pc' := 47) rfl ?_
    refine zw_aload_n (i := 0) (x := al 0) E 1 dX1_chargeShare_47 rfl rfl (pc' := 48) rfl ?_
    refine zw_get (v := .ref (al 10)) E 0 10 iX1_chargeShare_X1 fX1_chargeShare_43 rfl rfl (by decide) rfl rfl dX1_chargeShare_48 (pc' := 51) rfl ?_
    refine zw_iload_n (i := 3) (x := 1) E 4 dX1_chargeShare_51 rfl rfl (pc' := 52) rfl ?_
    refine zw_iald (j := 1) (x := d.1 6 1) E 10 0 rfl rfl (vp_in_nI (n := 1) (N := 3) (by decide) (by decide)) rfl rfl dX1_chargeShare_52 (pc' := 53) rfl ?_
    refine zw_i2l E dX1_chargeShare_53 (pc' := 54) rfl ?_
    refine zw_lstore (lv' := [(6, .long ((d.1 6 1).toInt64)), (4, .long ((((d.1 5 i) / 3) + 1).toInt64)), (0, .ref (al 0)), (1, .int (nI i)), (2, .int odd), (3, .int 1)]) E dX1_chargeShare_54 (by decide) rfl (pc' := 56) rfl ?_
    refine zw_lload (x := (d.1 6 1).toInt64) E 0 dX1_chargeShare_56 rfl (pc' := 58) rfl ?_
    refine zw_lconst (v := 0) E dX1_chargeShare_58 (by decide) (pc' := 59) rfl ?_
    refine zw_lcmp E dX1_chargeShare_59 (pc' := 60) rfl ?_
    refine zw_ifl_le (tgt := 88) E dX1_chargeShare_60 (by decide) (pc' := 63) rfl (fun c_3 => ?_) (fun c_3 => ?_)
    · skip
      refine zw_iinc (x := 1) (v := 2) (lv' := [(3, .int 2), (6, .long ((d.1 6 1).toInt64)), (4, .long ((((d.1 5 i) / 3) + 1).toInt64)), (0, .ref (al 0)), (1, .int (nI i)), (2, .int odd)]) E 5 dX1_chargeShare_88 rfl (by decide) (by decide) rfl (pc' := 91) rfl ?_
      refine zw_goto (tgt := 20) E dX1_chargeShare_91 (by decide) ?_
      refine zw_ws (ws' := ld_W K al bq (cs d i 1 1 odd)) (by unfold cs; rw [if_pos c_3]) ?_
      refine zw_sub [3, 4, 5, 0] (lv' := [(0, .ref (al 0)), (1, .int (nI i)), (2, .int odd), (3, .int 2)]) rfl ?_
      exact kk
    · skip
      refine zw_aload_n (i := 0) (x := al 0) E 2 dX1_chargeShare_63 rfl rfl (pc' := 64) rfl ?_
      refine zw_get (v := .ref (al 5)) E 0 5 iX1_chargeShare_X1 fX1_chargeShare_27 rfl rfl (by decide) rfl rfl dX1_chargeShare_64 (pc' := 67) rfl ?_
      refine zw_iload_n (i := 3) (x := 1) E 5 dX1_chargeShare_67 rfl rfl (pc' := 68) rfl ?_
      refine zw_aald (j := 1) (b := al 12) E 5 3 rfl rfl (vp_in_nI (n := 1) (N := 3) (by decide) (by decide)) rfl rfl dX1_chargeShare_68 (pc' := 69) rfl ?_
      refine zw_iload_n (i := 1) (x := nI i) E 3 dX1_chargeShare_69 rfl rfl (pc' := 70) rfl ?_
      refine zw_ldc2 (v := 200) E dX1_chargeShare_70 kX1_chargeShare_140 (pc' := 73) rfl ?_
      refine zw_lload (x := (((d.1 5 i) / 3) + 1).toInt64) E 1 dX1_chargeShare_73 rfl (pc' := 75) rfl ?_
      refine zw_lmul E dX1_chargeShare_75 (pc' := 76) rfl ?_
      refine zw_lload (x := (d.1 6 1).toInt64) E 0 dX1_chargeShare_76 rfl (pc' := 78) rfl ?_
      refine zw_ladd E dX1_chargeShare_78 (pc' := 79) rfl ?_
      refine zw_ldc2 (v := 2) E dX1_chargeShare_79 kX1_chargeShare_142 (pc' := 82) rfl ?_
      refine zw_lload (x := (d.1 6 1).toInt64) E 0 dX1_chargeShare_82 rfl (pc' := 84) rfl ?_
      refine zw_lmul E dX1_chargeShare_84 (pc' := 85) rfl ?_
      refine zw_ldiv E dX1_chargeShare_85 (zw_m2 c_3) (pc' := 86) rfl ?_
      refine zw_l2i E dX1_chargeShare_86 (pc' := 87) rfl ?_
      refine zw_iast (j := i) (ws' := (ld_W K al bq (ld_row d 8 i ((((200 * ((((d.1 5 i) / 3) + 1).toInt64)) + ((d.1 6 1).toInt64)) / (2 * ((d.1 6 1).toInt64))).toInt32)))) E 12 0 rfl rfl (vp_in_nI hi (by decide)) (zw_clamp hi (by decide)) rfl dX1_chargeShare_87 (pc' := 88) rfl ?_
      refine zw_iinc (x := 1) (v := 2) (lv' := [(3, .int 2), (6, .long ((d.1 6 1).toInt64)), (4, .long ((((d.1 5 i) / 3) + 1).toInt64)), (0, .ref (al 0)), (1, .int (nI i)), (2, .int odd)]) E 5 dX1_chargeShare_88 rfl (by decide) (by decide) rfl (pc' := 91) rfl ?_
      refine zw_goto (tgt := 20) E dX1_chargeShare_91 (by decide) ?_
      refine zw_ws (ws' := ld_W K al bq (cs d i 1 1 odd)) (by unfold cs c_third; rw [if_neg c_3, if_neg c_1]) ?_
      refine zw_sub [3, 4, 5, 0] (lv' := [(0, .ref (al 0)), (1, .int (nI i)), (2, .int odd), (3, .int 2)]) rfl ?_
      exact kk

set_option maxHeartbeats 4000000 in
set_option maxRecDepth 100000 in
theorem lX1_cs_2 {l : Launch} {D : va_G} {K : Nat → ClassId} {p : Program} {e : Env} {s : State} {m : MethodId} {below : List Frame} {meth : Method} {c : Code} {A : Nat → Prop} {args : Array Value} {Q : State → Prop} (E : zw_E p s m args c cX1_chargeShare 8 RX1 wsX1_chargeShare D (zT K) A) (al : Nat → Nat) (bq : Nat) (d : Ld) (i : Nat) (hi : i < 60) (odd : Int32) (kk : zw_W p l e rmX1_chargeShare s m args below meth c 8 D A 0 0 Q 20 [(0, .ref (al 0)), (1, .int (nI i)), (2, .int odd), (3, .int 3)] [] (ld_W K al bq (cs d i 2 2 odd))) : zw_W p l e rmX1_chargeShare s m args below meth c 8 D A 0 0 Q 20 [(0, .ref (al 0)), (1, .int (nI i)), (2, .int odd), (3, .int 2)] [] (ld_W K al bq d) := by
  refine zw_iload_n (i := 3) (x := 2) E 3 dX1_chargeShare_20 rfl rfl (pc' := 21) rfl ?_
  refine zw_iconst (v := 3) E dX1_chargeShare_21 (by decide) (pc' := 22) rfl ?_
  refine zw_icmp_ge (tgt := 94) E dX1_chargeShare_22 (by decide) (pc' := 25) rfl (fun c9 => absurd c9 (by decide)) (fun _ => ?_)
  refine zw_aload_n (i := 0) (x := al 0) E 0 dX1_chargeShare_25 rfl rfl (pc' := 26) rfl ?_
  refine zw_get (v := .ref (al 8)) E 0 8 iX1_chargeShare_X1 fX1_chargeShare_37 rfl rfl (by decide) rfl rfl dX1_chargeShare_26 (pc' := 29) rfl ?_
  refine zw_iload_n (i := 1) (x := nI i) E 1 dX1_chargeShare_29 rfl rfl (pc' := 30) rfl ?_
  refine zw_iald (j := i) (x := d.1 5 i) E 8 0 rfl rfl (vp_in_nI hi (by decide)) (zw_clamp hi (by decide)) rfl dX1_chargeShare_30 (pc' := 31) rfl ?_
  refine zw_iconst (v := 3) E dX1_chargeShare_31 (by decide) (pc' := 32) rfl ?_
  refine zw_idiv E dX1_chargeShare_32 (by decide) (pc' := 33) rfl ?_
  refine zw_iload_n (i := 3) (x := 2) E 3 dX1_chargeShare_33 rfl rfl (pc' := 34) rfl ?_
  refine zw_iload_n (i := 2) (x := odd) E 2 dX1_chargeShare_34 rfl rfl (pc' := 35) rfl ?_
  refine zw_icmp_ge (tgt := 42) E dX1_chargeShare_35 (by decide) (pc' := 38) rfl (fun c_1 => ?_) (fun c_1 => ?_)
  · skip
    refine zw_iconst (v := 0) E dX1_chargeShare_42 (by decide) (pc' := 43) rfl ?_
    refine zw_iadd E dX1_chargeShare_43 (pc' := 44) rfl ?_
    refine zw_i2l E dX1_chargeShare_44 (pc' := 45) rfl ?_
    refine zw_lstore (lv' := [(4, .long ((((d.1 5 i) / 3) + 0).toInt64)), (0, .ref (al 0)), (1, .int (nI i)), (2, .int odd), (3, .int 2)]) E dX1_chargeShare_45 (by decide) rfl (pc' := 47) rfl ?_
    refine zw_aload_n (i := 0) (x := al 0) E 1 dX1_chargeShare_47 rfl rfl (pc' := 48) rfl ?_
    refine zw_get (v := .ref (al 10)) E 0 10 iX1_chargeShare_X1 fX1_chargeShare_43 rfl rfl (by decide) rfl rfl dX1_chargeShare_48 (pc' := 51) rfl ?_
    refine zw_iload_n (i := 3) (x := 2) E 4 dX1_chargeShare_51 rfl rfl (pc' := 52) rfl ?_
    refine zw_iald (j := 2) (x := d.1 6 2) E 10 0 rfl rfl (vp_in_nI (n := 2) (N := 3) (by decide) (by decide)) rfl rfl dX1_chargeShare_52 (pc' := 53) rfl ?_
    refine zw_i2l E dX1_chargeShare_53 (pc' := 54) rfl ?_
    refine zw_lstore (lv' := [(6, .long ((d.1 6 2).toInt64)), (4, .long ((((d.1 5 i) / 3) + 0).toInt64)), (0, .ref (al 0)), (1, .int (nI i)), (2, .int odd), (3, .int 2)]) E dX1_chargeShare_54 (by decide) rfl (pc' := 56) rfl ?_
    refine zw_lload (x := (d.1 6 2).toInt64) E 0 dX1_chargeShare_56 rfl (pc' := 58) rfl ?_
    refine zw_lconst (v := 0) E dX1_chargeShare_58 (by decide) (pc' := 59) rfl ?_
    refine zw_lcmp E dX1_chargeShare_59 (pc' := 60) rfl ?_
    refine zw_ifl_le (tgt := 88) E dX1_chargeShare_60 (by decide) (pc' := 63) rfl (fun c_2 => ?_) (fun c_2 => ?_)
    · skip
      refine zw_iinc (x := 2) (v := 3) (lv' := [(3, .int 3), (6, .long ((d.1 6 2).toInt64)), (4, .long ((((d.1 5 i) / 3) + 0).toInt64)), (0, .ref (al 0)), (1, .int (nI i)), (2, .int odd)]) E 5 dX1_chargeShare_88 rfl (by decide) (by decide) rfl (pc' := 91) rfl ?_
      refine zw_goto (tgt := 20) E dX1_chargeShare_91 (by decide) ?_
      refine zw_ws (ws' := ld_W K al bq (cs d i 2 2 odd)) (by unfold cs; rw [if_pos c_2]) ?_
      refine zw_sub [3, 4, 5, 0] (lv' := [(0, .ref (al 0)), (1, .int (nI i)), (2, .int odd), (3, .int 3)]) rfl ?_
      exact kk
    · skip
      refine zw_aload_n (i := 0) (x := al 0) E 2 dX1_chargeShare_63 rfl rfl (pc' := 64) rfl ?_
      refine zw_get (v := .ref (al 5)) E 0 5 iX1_chargeShare_X1 fX1_chargeShare_27 rfl rfl (by decide) rfl rfl dX1_chargeShare_64 (pc' := 67) rfl ?_
      refine zw_iload_n (i := 3) (x := 2) E 5 dX1_chargeShare_67 rfl rfl (pc' := 68) rfl ?_
      refine zw_aald (j := 2) (b := al 13) E 5 3 rfl rfl (vp_in_nI (n := 2) (N := 3) (by decide) (by decide)) rfl rfl dX1_chargeShare_68 (pc' := 69) rfl ?_
      refine zw_iload_n (i := 1) (x := nI i) E 3 dX1_chargeShare_69 rfl rfl (pc' := 70) rfl ?_
      refine zw_ldc2 (v := 200) E dX1_chargeShare_70 kX1_chargeShare_140 (pc' := 73) rfl ?_
      refine zw_lload (x := (((d.1 5 i) / 3) + 0).toInt64) E 1 dX1_chargeShare_73 rfl (pc' := 75) rfl ?_
      refine zw_lmul E dX1_chargeShare_75 (pc' := 76) rfl ?_
      refine zw_lload (x := (d.1 6 2).toInt64) E 0 dX1_chargeShare_76 rfl (pc' := 78) rfl ?_
      refine zw_ladd E dX1_chargeShare_78 (pc' := 79) rfl ?_
      refine zw_ldc2 (v := 2) E dX1_chargeShare_79 kX1_chargeShare_142 (pc' := 82) rfl ?_
      refine zw_lload (x := (d.1 6 2).toInt64) E 0 dX1_chargeShare_82 rfl (pc' := 84) rfl ?_
      refine zw_lmul E dX1_chargeShare_84 (pc' := 85) rfl ?_
      refine zw_ldiv E dX1_chargeShare_85 (zw_m2 c_2) (pc' := 86) rfl ?_
      refine zw_l2i E dX1_chargeShare_86 (pc' := 87) rfl ?_
      refine zw_iast (j := i) (ws' := (ld_W K al bq (ld_row d 9 i ((((200 * ((((d.1 5 i) / 3) + 0).toInt64)) + ((d.1 6 2).toInt64)) / (2 * ((d.1 6 2).toInt64))).toInt32)))) E 13 0 rfl rfl (vp_in_nI hi (by decide)) (zw_clamp hi (by decide)) rfl dX1_chargeShare_87 (pc' := 88) rfl ?_
      refine zw_iinc (x := 2) (v := 3) (lv' := [(3, .int 3), (6, .long ((d.1 6 2).toInt64)), (4, .long ((((d.1 5 i) / 3) + 0).toInt64)), (0, .ref (al 0)), (1, .int (nI i)), (2, .int odd)]) E 5 dX1_chargeShare_88 rfl (by decide) (by decide) rfl (pc' := 91) rfl ?_
      refine zw_goto (tgt := 20) E dX1_chargeShare_91 (by decide) ?_
      refine zw_ws (ws' := ld_W K al bq (cs d i 2 2 odd)) (by unfold cs c_third; rw [if_neg c_2, if_pos c_1]) ?_
      refine zw_sub [3, 4, 5, 0] (lv' := [(0, .ref (al 0)), (1, .int (nI i)), (2, .int odd), (3, .int 3)]) rfl ?_
      exact kk
  · skip
    refine zw_iconst (v := 1) E dX1_chargeShare_38 (by decide) (pc' := 39) rfl ?_
    refine zw_goto (tgt := 43) E dX1_chargeShare_39 (by decide) ?_
    refine zw_iadd E dX1_chargeShare_43 (pc' := 44) rfl ?_
    refine zw_i2l E dX1_chargeShare_44 (pc' := 45) rfl ?_
    refine zw_lstore (lv' := [(4, .long ((((d.1 5 i) / 3) + 1).toInt64)), (0, .ref (al 0)), (1, .int (nI i)), (2, .int odd), (3, .int 2)]) E dX1_chargeShare_45 (by decide) rfl (pc' := 47) rfl ?_
    refine zw_aload_n (i := 0) (x := al 0) E 1 dX1_chargeShare_47 rfl rfl (pc' := 48) rfl ?_
    refine zw_get (v := .ref (al 10)) E 0 10 iX1_chargeShare_X1 fX1_chargeShare_43 rfl rfl (by decide) rfl rfl dX1_chargeShare_48 (pc' := 51) rfl ?_
    refine zw_iload_n (i := 3) (x := 2) E 4 dX1_chargeShare_51 rfl rfl (pc' := 52) rfl ?_
    refine zw_iald (j := 2) (x := d.1 6 2) E 10 0 rfl rfl (vp_in_nI (n := 2) (N := 3) (by decide) (by decide)) rfl rfl dX1_chargeShare_52 (pc' := 53) rfl ?_
    refine zw_i2l E dX1_chargeShare_53 (pc' := 54) rfl ?_
    refine zw_lstore (lv' := [(6, .long ((d.1 6 2).toInt64)), (4, .long ((((d.1 5 i) / 3) + 1).toInt64)), (0, .ref (al 0)), (1, .int (nI i)), (2, .int odd), (3, .int 2)]) E dX1_chargeShare_54 (by decide) rfl (pc' := 56) rfl ?_
    refine zw_lload (x := (d.1 6 2).toInt64) E 0 dX1_chargeShare_56 rfl (pc' := 58) rfl ?_
    refine zw_lconst (v := 0) E dX1_chargeShare_58 (by decide) (pc' := 59) rfl ?_
    refine zw_lcmp E dX1_chargeShare_59 (pc' := 60) rfl ?_
    refine zw_ifl_le (tgt := 88) E dX1_chargeShare_60 (by decide) (pc' := 63) rfl (fun c_3 => ?_) (fun c_3 => ?_)
    · skip
      refine zw_iinc (x := 2) (v := 3) (lv' := [(3, .int 3), (6, .long ((d.1 6 2).toInt64)), (4, .long ((((d.1 5 i) / 3) + 1).toInt64)), (0, .ref (al 0)), (1, .int (nI i)), (2, .int odd)]) E 5 dX1_chargeShare_88 rfl (by decide) (by decide) rfl (pc' := 91) rfl ?_
      refine zw_goto (tgt := 20) E dX1_chargeShare_91 (by decide) ?_
      refine zw_ws (ws' := ld_W K al bq (cs d i 2 2 odd)) (by unfold cs; rw [if_pos c_3]) ?_
      refine zw_sub [3, 4, 5, 0] (lv' := [(0, .ref (al 0)), (1, .int (nI i)), (2, .int odd), (3, .int 3)]) rfl ?_
      exact kk
    · skip
      refine zw_aload_n (i := 0) (x := al 0) E 2 dX1_chargeShare_63 rfl rfl (pc' := 64) rfl ?_
      refine zw_get (v := .ref (al 5)) E 0 5 iX1_chargeShare_X1 fX1_chargeShare_27 rfl rfl (by decide) rfl rfl dX1_chargeShare_64 (pc' := 67) rfl ?_
      refine zw_iload_n (i := 3) (x := 2) E 5 dX1_chargeShare_67 rfl rfl (pc' := 68) rfl ?_
      refine zw_aald (j := 2) (b := al 13) E 5 3 rfl rfl (vp_in_nI (n := 2) (N := 3) (by decide) (by decide)) rfl rfl dX1_chargeShare_68 (pc' := 69) rfl ?_
      refine zw_iload_n (i := 1) (x := nI i) E 3 dX1_chargeShare_69 rfl rfl (pc' := 70) rfl ?_
      refine zw_ldc2 (v := 200) E dX1_chargeShare_70 kX1_chargeShare_140 (pc' := 73) rfl ?_
      refine zw_lload (x := (((d.1 5 i) / 3) + 1).toInt64) E 1 dX1_chargeShare_73 rfl (pc' := 75) rfl ?_
      refine zw_lmul E dX1_chargeShare_75 (pc' := 76) rfl ?_
      refine zw_lload (x := (d.1 6 2).toInt64) E 0 dX1_chargeShare_76 rfl (pc' := 78) rfl ?_
      refine zw_ladd E dX1_chargeShare_78 (pc' := 79) rfl ?_
      refine zw_ldc2 (v := 2) E dX1_chargeShare_79 kX1_chargeShare_142 (pc' := 82) rfl ?_
      refine zw_lload (x := (d.1 6 2).toInt64) E 0 dX1_chargeShare_82 rfl (pc' := 84) rfl ?_
      refine zw_lmul E dX1_chargeShare_84 (pc' := 85) rfl ?_
      refine zw_ldiv E dX1_chargeShare_85 (zw_m2 c_3) (pc' := 86) rfl ?_
      refine zw_l2i E dX1_chargeShare_86 (pc' := 87) rfl ?_
      refine zw_iast (j := i) (ws' := (ld_W K al bq (ld_row d 9 i ((((200 * ((((d.1 5 i) / 3) + 1).toInt64)) + ((d.1 6 2).toInt64)) / (2 * ((d.1 6 2).toInt64))).toInt32)))) E 13 0 rfl rfl (vp_in_nI hi (by decide)) (zw_clamp hi (by decide)) rfl dX1_chargeShare_87 (pc' := 88) rfl ?_
      refine zw_iinc (x := 2) (v := 3) (lv' := [(3, .int 3), (6, .long ((d.1 6 2).toInt64)), (4, .long ((((d.1 5 i) / 3) + 1).toInt64)), (0, .ref (al 0)), (1, .int (nI i)), (2, .int odd)]) E 5 dX1_chargeShare_88 rfl (by decide) (by decide) rfl (pc' := 91) rfl ?_
      refine zw_goto (tgt := 20) E dX1_chargeShare_91 (by decide) ?_
      refine zw_ws (ws' := ld_W K al bq (cs d i 2 2 odd)) (by unfold cs c_third; rw [if_neg c_3, if_neg c_1]) ?_
      refine zw_sub [3, 4, 5, 0] (lv' := [(0, .ref (al 0)), (1, .int (nI i)), (2, .int odd), (3, .int 3)]) rfl ?_
      exact kk

set_option maxHeartbeats 4000000 in
set_option maxRecDepth 100000 in
/-- chargeShare(f) -/
theorem qX1_chargeShare (l : Launch) (D : va_G) (K : Nat → ClassId) (al : Nat → Nat) (bq : Nat) (d : Ld) (i : Nat) (hi : i < 60) : zw_V l yX1_chargeShare wsX1_chargeShare rmX1_chargeShare D (zT K) [.ref (al 0), .int (nI i)] (ld_W K al bq d) (ld_W K al bq (ld_charge d i)) := by
  refine zw_ofV (cc := cX1_chargeShare) (nL := 8) (ret := none) (own := RX1) (lv := [(0, .ref (al 0)), (1, .int (nI i))]) (by decide) rfl (Nat.le_of_ble_eq_true rfl) rfl rfl ?_
  intro p e s m below meth c A E hr hlk
  refine zw_aload_n (i := 0) (x := al 0) E 0 dX1_chargeShare_0 rfl rfl (pc' := 1) rfl ?_
  refine zw_iload_n (i := 1) (x := nI i) E 1 dX1_chargeShare_1 rfl rfl (pc' := 2) rfl ?_
  refine zw_callIw E (r := zb (is_there d (nI i))) (As := [.int (nI i)]) (rest := []) (ws' := (ld_W K al bq d)) (qX1_isThere l D K al bq d (nI i)) (cwV 1 E.2.2.2.2.1 gX1_chargeShare_X1_isThere rfl rfl rfl (by decide +kernel) ⟨Nat.le_of_ble_eq_true rfl, Nat.le_of_ble_eq_true rfl⟩) 0 rfl rfl rfl rfl rfl rfl (Nat.le_of_ble_eq_true rfl) ⟨Nat.zero_le _, Nat.zero_le _⟩ dX1_chargeShare_2 (pc' := 5) rfl ?_
  refine zw_ifb_ne (tgt := 9) E dX1_chargeShare_5 (by decide) (pc' := 8) rfl (fun c_1 => ?_) (fun c_1 => ?_)
  · skip
    refine zw_aload_n (i := 0) (x := al 0) E 0 dX1_chargeShare_9 rfl rfl (pc' := 10) rfl ?_
    refine zw_get (v := .ref (al 8)) E 0 8 iX1_chargeShare_X1 fX1_chargeShare_37 rfl rfl (by decide) rfl rfl dX1_chargeShare_10 (pc' := 13) rfl ?_
    refine zw_iload_n (i := 1) (x := nI i) E 1 dX1_chargeShare_13 rfl rfl (pc' := 14) rfl ?_
    refine zw_iald (j := i) (x := d.1 5 i) E 8 0 rfl rfl (vp_in_nI hi (by decide)) (zw_clamp hi (by decide)) rfl dX1_chargeShare_14 (pc' := 15) rfl ?_
    refine zw_iconst (v := 3) E dX1_chargeShare_15 (by decide) (pc' := 16) rfl ?_
    refine zw_irem E dX1_chargeShare_16 (by decide) (pc' := 17) rfl ?_
    refine zw_topi (x' := c_odd d i) rfl ?_
    refine zw_istore_n (lv' := [(2, .int (c_odd d i)), (0, .ref (al 0)), (1, .int (nI i))]) E dX1_chargeShare_17 rfl (by decide) rfl (pc' := 18) rfl ?_
    refine zw_iconst (v := 0) E dX1_chargeShare_18 (by decide) (pc' := 19) rfl ?_
    refine zw_istore_n (lv' := [(3, .int 0), (2, .int (c_odd d i)), (0, .ref (al 0)), (1, .int (nI i))]) E dX1_chargeShare_19 rfl (by decide) rfl (pc' := 20) rfl ?_
    refine zw_sub [2, 3, 1, 0] (lv' := [(0, .ref (al 0)), (1, .int (nI i)), (2, .int (c_odd d i)), (3, .int 0)]) rfl ?_
    refine lX1_cs_0 E al bq d i hi (c_odd d i) ?_
    refine lX1_cs_1 E al bq (cs d i 0 0 (c_odd d i)) i hi (c_odd d i) ?_
    refine lX1_cs_2 E al bq (cs (cs d i 0 0 (c_odd d i)) i 1 1 (c_odd d i)) i hi (c_odd d i) ?_
    refine zw_iload_n (i := 3) (x := 3) E 3 dX1_chargeShare_20 rfl rfl (pc' := 21) rfl ?_
    refine zw_iconst (v := 3) E dX1_chargeShare_21 (by decide) (pc' := 22) rfl ?_
    refine zw_icmp_ge (tgt := 94) E dX1_chargeShare_22 (by decide) (pc' := 25) rfl (fun _ => ?_) (fun c9 => absurd (by decide) c9)
    exact zw_vret E hr hlk dX1_chargeShare_94 (by unfold ld_charge; rw [if_pos c_1])
  · skip
    exact zw_vret E hr hlk dX1_chargeShare_8 (by unfold ld_charge; rw [if_neg c_1])

def ld_means (d : Ld) (b : Bk) (k : Nat) (y : Int32) : Ld := ((if bk_mean b k y 0 = -1 then up2 d.1 6 0 (bk_mean b k y 0) else if bk_mean b k y 1 = -1 then up2 (up2 d.1 6 0 (bk_mean b k y 0)) 6 1 (bk_mean b k y 1) else up2 (up2 (up2 d.1 6 0 (bk_mean b k y 0)) 6 1 (bk_mean b k y 1)) 6 2 (bk_mean b k y 2)), d.2)
abbrev means_known (b : Bk) (k : Nat) (y : Int32) : Prop := ¬ bk_mean b k y 0 = -1 ∧ ¬ bk_mean b k y 1 = -1 ∧ ¬ bk_mean b k y 2 = -1
theorem fX1_areMeansKnown_43 : Cond.fieldLink RX1 43 "TitheMap$Land" "means" "[I" ∈ wsX1_areMeansKnown := by decide +kernel
theorem fX1_areMeansKnown_46 : Cond.fieldLink RX1 46 "TitheMap$Land" "book" "LTitheMap$Book;" ∈ wsX1_areMeansKnown := by decide +kernel
theorem iX1_areMeansKnown_X1 : ∀ w ∈ wsX10, w ∈ wsX1_areMeansKnown := by decide +kernel
set_option maxHeartbeats 4000000 in
set_option maxRecDepth 100000 in
/-- areMeansKnown(k, y) -/
theorem qX1_areMeansKnown (l : Launch) (D : va_G) (K : Nat → ClassId) (al ab : Nat → Nat) (d : Ld) (b : Bk) (n : Nat) (hn : n ≤ 80) (y : Int32) : zw_I l yX1_areMeansKnown wsX1_areMeansKnown rmX1_areMeansKnown D (zT K) [.ref (al 0), .int (nI n), .int y] (lb_W K al ab d b) (zb (means_known b n y)) (lb_W K al ab (ld_means d b n y) b) := by
  refine zw_ofI (cc := cX1_areMeansKnown) (nL := 4) (ret := (some .boolean)) (own := RX1) (lv := [(0, .ref (al 0)), (1, .int (nI n)), (2, .int y)]) (by decide) rfl (Nat.le_of_ble_eq_true rfl) rfl rfl ?_
  intro p e s m below meth c A E hr hlk
  refine zw_iconst (v := 0) E dX1_areMeansKnown_0 (by decide) (pc' := 1) rfl ?_
  refine zw_istore_n (lv' := [(3, .int 0), (0, .ref (al 0)), (1, .int (nI n)), (2, .int y)]) E dX1_areMeansKnown_1 rfl (by decide) rfl (pc' := 2) rfl ?_
  refine zw_iload_n (i := 3) (x := 0) E 0 dX1_areMeansKnown_2 rfl rfl (pc' := 3) rfl ?_
  refine zw_iconst (v := 3) E dX1_areMeansKnown_3 (by decide) (pc' := 4) rfl ?_
  refine zw_icmp_ge (tgt := 41) E dX1_areMeansKnown_4 (by decide) (pc' := 7) rfl (fun c9 => absurd c9 (by decide)) (fun _ => ?_)
  refine zw_aload_n (i := 0) (x := al 0) E 1 dX1_areMeansKnown_7 rfl rfl (pc' := 8) rfl ?_
  refine zw_get (v := .ref (al 10)) E 0 10 iX1_areMeansKnown_X1 fX1_areMeansKnown_43 rfl rfl (by decide) rfl rfl dX1_areMeansKnown_8 (pc' := 11) rfl ?_
  refine zw_iload_n (i := 3) (x := 0) E 0 dX1_areMeansKnown_11 rfl rfl (pc' := 12) rfl ?_
  refine zw_aload_n (i := 0) (x := al 0) E 1 dX1_areMeansKnown_12 rfl rfl (pc' := 13) rfl ?_
  refine zw_get (v := .ref (ab 0)) E 0 0 iX1_areMeansKnown_X1 fX1_areMeansKnown_46 rfl rfl (by decide) rfl rfl dX1_areMeansKnown_13 (pc' := 16) rfl ?_
  refine zw_iload_n (i := 1) (x := nI n) E 2 dX1_areMeansKnown_16 rfl rfl (pc' := 17) rfl ?_
  refine zw_iload_n (i := 2) (x := y) E 3 dX1_areMeansKnown_17 rfl rfl (pc' := 18) rfl ?_
  refine zw_iload_n (i := 3) (x := 0) E 0 dX1_areMeansKnown_18 rfl rfl (pc' := 19) rfl ?_
  refine zw_callIv E (r := bk_mean b n y 0) (As := [.int (nI n), .int y, .int 0]) (rest := [.int 0, .ref (al 10)]) (ws' := (lb_W K al ab d b)) (qX0_mean l D K ab b n hn y 0) (cwV 3 E.2.2.2.2.1 gX1_areMeansKnown_X0_mean rfl rfl rfl (by decide +kernel) ⟨Nat.le_of_ble_eq_true rfl, Nat.le_of_ble_eq_true rfl⟩) 0 rfl rfl rfl [14, 15, 16, 17, 18, 19, 20, 21, 22, 23, 24, 25] (by decide) emC_lb_b rfl (zw_put_same _ _ _ emC_lb_b) rfl rfl (Nat.le_of_ble_eq_true rfl) ⟨Nat.zero_le _, Nat.zero_le _⟩ dX1_areMeansKnown_19 (pc' := 22) rfl ?_
  refine zw_iast (j := 0) (ws' := (lb_W K al ab (ld_row d 6 0 (bk_mean b n y 0)) b)) E 10 0 rfl rfl (vp_in_nI (n := 0) (N := 3) (by decide) (by decide)) rfl rfl dX1_areMeansKnown_22 (pc' := 23) rfl ?_
  refine zw_gen_lb_d (ld_row d 6 0 (bk_mean b n y 0)) (fun d_1 hg_1 => ?_)
  refine zw_aload_n (i := 0) (x := al 0) E 1 dX1_areMeansKnown_23 rfl rfl (pc' := 24) rfl ?_
  refine zw_get (v := .ref (al 10)) E 0 10 iX1_areMeansKnown_X1 fX1_areMeansKnown_43 rfl rfl (by decide) rfl rfl dX1_areMeansKnown_24 (pc' := 27) rfl ?_
  refine zw_iload_n (i := 3) (x := 0) E 0 dX1_areMeansKnown_27 rfl rfl (pc' := 28) rfl ?_
  refine zw_iald (j := 0) (x := d_1.1 6 0) E 10 0 rfl rfl (vp_in_nI (n := 0) (N := 3) (by decide) (by decide)) rfl rfl dX1_areMeansKnown_28 (pc' := 29) rfl ?_
  refine zw_topi (x' := bk_mean b n y 0) (by rw [← hg_1]; exact ld_row_same _ _ _ _) ?_
  refine zw_iconst (v := (-1)) E dX1_areMeansKnown_29 (by decide) (pc' := 30) rfl ?_
  refine zw_icmp_ne (tgt := 35) E dX1_areMeansKnown_30 (by decide) (pc' := 33) rfl (fun c_1 => ?_) (fun c_1 => ?_)
  · skip
    refine zw_iinc (x := 0) (v := 1) (lv' := [(3, .int 1), (0, .ref (al 0)), (1, .int (nI n)), (2, .int y)]) E 0 dX1_areMeansKnown_35 rfl (by decide) (by decide) rfl (pc' := 38) rfl ?_
    refine zw_goto (tgt := 2) E dX1_areMeansKnown_38 (by decide) ?_
    refine zw_iload_n (i := 3) (x := 1) E 0 dX1_areMeansKnown_2 rfl rfl (pc' := 3) rfl ?_
    refine zw_iconst (v := 3) E dX1_areMeansKnown_3 (by decide) (pc' := 4) rfl ?_
    refine zw_icmp_ge (tgt := 41) E dX1_areMeansKnown_4 (by decide) (pc' := 7) rfl (fun c9 => absurd c9 (by decide)) (fun _ => ?_)
    refine zw_aload_n (i := 0) (x := al 0) E 1 dX1_areMeansKnown_7 rfl rfl (pc' := 8) rfl ?_
    refine zw_get (v := .ref (al 10)) E 0 10 iX1_areMeansKnown_X1 fX1_areMeansKnown_43 rfl rfl (by decide) rfl rfl dX1_areMeansKnown_8 (pc' := 11) rfl ?_
    refine zw_iload_n (i := 3) (x := 1) E 0 dX1_areMeansKnown_11 rfl rfl (pc' := 12) rfl ?_
    refine zw_aload_n (i := 0) (x := al 0) E 1 dX1_areMeansKnown_12 rfl rfl (pc' := 13) rfl ?_
    refine zw_get (v := .ref (ab 0)) E 0 0 iX1_areMeansKnown_X1 fX1_areMeansKnown_46 rfl rfl (by decide) rfl rfl dX1_areMeansKnown_13 (pc' := 16) rfl ?_
    refine zw_iload_n (i := 1) (x := nI n) E 2 dX1_areMeansKnown_16 rfl rfl (pc' := 17) rfl ?_
    refine zw_iload_n (i := 2) (x := y) E 3 dX1_areMeansKnown_17 rfl rfl (pc' := 18) rfl ?_
    refine zw_iload_n (i := 3) (x := 1) E 0 dX1_areMeansKnown_18 rfl rfl (pc' := 19) rfl ?_
    refine zw_callIv E (r := bk_mean b n y 1) (As := [.int (nI n), .int y, .int 1]) (rest := [.int 1, .ref (al 10)]) (ws' := (lb_W K al ab d_1 b)) (qX0_mean l D K ab b n hn y 1) (cwV 3 E.2.2.2.2.1 gX1_areMeansKnown_X0_mean rfl rfl rfl (by decide +kernel) ⟨Nat.le_of_ble_eq_true rfl, Nat.le_of_ble_eq_true rfl⟩) 0 rfl rfl rfl [14, 15, 16, 17, 18, 19, 20, 21, 22, 23, 24, 25] (by decide) emC_lb_b rfl (zw_put_same _ _ _ emC_lb_b) rfl rfl (Nat.le_of_ble_eq_true rfl) ⟨Nat.zero_le _, Nat.zero_le _⟩ dX1_areMeansKnown_19 (pc' := 22) rfl ?_
    refine zw_iast (j := 1) (ws' := (lb_W K al ab (ld_row d_1 6 1 (bk_mean b n y 1)) b)) E 10 0 rfl rfl (vp_in_nI (n := 1) (N := 3) (by decide) (by decide)) rfl rfl dX1_areMeansKnown_22 (pc' := 23) rfl ?_
    refine zw_gen_lb_d (ld_row d_1 6 1 (bk_mean b n y 1)) (fun d_2 hg_2 => ?_)
    refine zw_aload_n (i := 0) (x := al 0) E 1 dX1_areMeansKnown_23 rfl rfl (pc' := 24) rfl ?_
    refine zw_get (v := .ref (al 10)) E 0 10 iX1_areMeansKnown_X1 fX1_areMeansKnown_43 rfl rfl (by decide) rfl rfl dX1_areMeansKnown_24 (pc' := 27) rfl ?_
    refine zw_iload_n (i := 3) (x := 1) E 0 dX1_areMeansKnown_27 rfl rfl (pc' := 28) rfl ?_
    refine zw_iald (j := 1) (x := d_2.1 6 1) E 10 0 rfl rfl (vp_in_nI (n := 1) (N := 3) (by decide) (by decide)) rfl rfl dX1_areMeansKnown_28 (pc' := 29) rfl ?_
    refine zw_topi (x' := bk_mean b n y 1) (by rw [← hg_2]; exact ld_row_same _ _ _ _) ?_
    refine zw_iconst (v := (-1)) E dX1_areMeansKnown_29 (by decide) (pc' := 30) rfl ?_
    refine zw_icmp_ne (tgt := 35) E dX1_areMeansKnown_30 (by decide) (pc' := 33) rfl (fun c_2 => ?_) (fun c_2 => ?_)
    · skip
      refine zw_iinc (x := 1) (v := 2) (lv' := [(3, .int 2), (0, .ref (al 0)), (1, .int (nI n)), (2, .int y)]) E 0 dX1_areMeansKnown_35 rfl (by decide) (by decide) rfl (pc' := 38) rfl ?_
      refine zw_goto (tgt := 2) E dX1_areMeansKnown_38 (by decide) ?_
      refine zw_iload_n (i := 3) (x := 2) E 0 dX1_areMeansKnown_2 rfl rfl (pc' := 3) rfl ?_
      refine zw_iconst (v := 3) E dX1_areMeansKnown_3 (by decide) (pc' := 4) rfl ?_
      refine zw_icmp_ge (tgt := 41) E dX1_areMeansKnown_4 (by decide) (pc' := 7) rfl (fun c9 => absurd c9 (by decide)) (fun _ => ?_)
      refine zw_aload_n (i := 0) (x := al 0) E 1 dX1_areMeansKnown_7 rfl rfl (pc' := 8) rfl ?_
      refine zw_get (v := .ref (al 10)) E 0 10 iX1_areMeansKnown_X1 fX1_areMeansKnown_43 rfl rfl (by decide) rfl rfl dX1_areMeansKnown_8 (pc' := 11) rfl ?_
      refine zw_iload_n (i := 3) (x := 2) E 0 dX1_areMeansKnown_11 rfl rfl (pc' := 12) rfl ?_
      refine zw_aload_n (i := 0) (x := al 0) E 1 dX1_areMeansKnown_12 rfl rfl (pc' := 13) rfl ?_
      refine zw_get (v := .ref (ab 0)) E 0 0 iX1_areMeansKnown_X1 fX1_areMeansKnown_46 rfl rfl (by decide) rfl rfl dX1_areMeansKnown_13 (pc' := 16) rfl ?_
      refine zw_iload_n (i := 1) (x := nI n) E 2 dX1_areMeansKnown_16 rfl rfl (pc' := 17) rfl ?_
      refine zw_iload_n (i := 2) (x := y) E 3 dX1_areMeansKnown_17 rfl rfl (pc' := 18) rfl ?_
      refine zw_iload_n (i := 3) (x := 2) E 0 dX1_areMeansKnown_18 rfl rfl (pc' := 19) rfl ?_
      refine zw_callIv E (r := bk_mean b n y 2) (As := [.int (nI n), .int y, .int 2]) (rest := [.int 2, .ref (al 10)]) (ws' := (lb_W K al ab d_2 b)) (qX0_mean l D K ab b n hn y 2) (cwV 3 E.2.2.2.2.1 gX1_areMeansKnown_X0_mean rfl rfl rfl (by decide +kernel) ⟨Nat.le_of_ble_eq_true rfl, Nat.le_of_ble_eq_true rfl⟩) 0 rfl rfl rfl [14, 15, 16, 17, 18, 19, 20, 21, 22, 23, 24, 25] (by decide) emC_lb_b rfl (zw_put_same _ _ _ emC_lb_b) rfl rfl (Nat.le_of_ble_eq_true rfl) ⟨Nat.zero_le _, Nat.zero_le _⟩ dX1_areMeansKnown_19 (pc' := 22) rfl ?_
      refine zw_iast (j := 2) (ws' := (lb_W K al ab (ld_row d_2 6 2 (bk_mean b n y 2)) b)) E 10 0 rfl rfl (vp_in_nI (n := 2) (N := 3) (by decide) (by decide)) rfl rfl dX1_areMeansKnown_22 (pc' := 23) rfl ?_
      refine zw_gen_lb_d (ld_row d_2 6 2 (bk_mean b n y 2)) (fun d_3 hg_3 => ?_)
      refine zw_aload_n (i := 0) (x := al 0) E 1 dX1_areMeansKnown_23 rfl rfl (pc' := 24) rfl ?_
      refine zw_get (v := .ref (al 10)) E 0 10 iX1_areMeansKnown_X1 fX1_areMeansKnown_43 rfl rfl (by decide) rfl rfl dX1_areMeansKnown_24 (pc' := 27) rfl ?_
      refine zw_iload_n (i := 3) (x := 2) E 0 dX1_areMeansKnown_27 rfl rfl (pc' := 28) rfl ?_
      refine zw_iald (j := 2) (x := d_3.1 6 2) E 10 0 rfl rfl (vp_in_nI (n := 2) (N := 3) (by decide) (by decide)) rfl rfl dX1_areMeansKnown_28 (pc' := 29) rfl ?_
      refine zw_topi (x' := bk_mean b n y 2) (by rw [← hg_3]; exact ld_row_same _ _ _ _) ?_
      refine zw_iconst (v := (-1)) E dX1_areMeansKnown_29 (by decide) (pc' := 30) rfl ?_
      refine zw_icmp_ne (tgt := 35) E dX1_areMeansKnown_30 (by decide) (pc' := 33) rfl (fun c_3 => ?_) (fun c_3 => ?_)
      · skip
        refine zw_iinc (x := 2) (v := 3) (lv' := [(3, .int 3), (0, .ref (al 0)), (1, .int (nI n)), (2, .int y)]) E 0 dX1_areMeansKnown_35 rfl (by decide) (by decide) rfl (pc' := 38) rfl ?_
        refine zw_goto (tgt := 2) E dX1_areMeansKnown_38 (by decide) ?_
        refine zw_iload_n (i := 3) (x := 3) E 0 dX1_areMeansKnown_2 rfl rfl (pc' := 3) rfl ?_
        refine zw_iconst (v := 3) E dX1_areMeansKnown_3 (by decide) (pc' := 4) rfl ?_
        refine zw_icmp_ge (tgt := 41) E dX1_areMeansKnown_4 (by decide) (pc' := 7) rfl (fun _ => ?_) (fun c9 => absurd (by decide) c9)
        refine zw_iconst (v := 1) E dX1_areMeansKnown_41 (by decide) (pc' := 42) rfl ?_
        exact zw_zret E hr hlk dX1_areMeansKnown_42 rfl (zb_t ⟨c_1, c_2, c_3⟩).symm (by subst hg_1 hg_2 hg_3; unfold ld_means; rw [if_neg c_1, if_neg c_2]; rfl)
      · skip
        refine zw_iconst (v := 0) E dX1_areMeansKnown_33 (by decide) (pc' := 34) rfl ?_
        exact zw_zret E hr hlk dX1_areMeansKnown_34 rfl (zb_f (fun h => h.2.2 c_3)).symm (by subst hg_1 hg_2 hg_3; unfold ld_means; rw [if_neg c_1, if_neg c_2]; rfl)
    · skip
      refine zw_iconst (v := 0) E dX1_areMeansKnown_33 (by decide) (pc' := 34) rfl ?_
      exact zw_zret E hr hlk dX1_areMeansKnown_34 rfl (zb_f (fun h => h.2.1 c_2)).symm (by subst hg_1 hg_2; unfold ld_means; rw [if_neg c_1, if_pos c_2]; rfl)
  · skip
    refine zw_iconst (v := 0) E dX1_areMeansKnown_33 (by decide) (pc' := 34) rfl ?_
    exact zw_zret E hr hlk dX1_areMeansKnown_34 rfl (zb_f (fun h => h.1 c_1)).symm (by subst hg_1; unfold ld_means; rw [if_pos c_1]; rfl)

def ch_all (d : Ld) : Nat → Ld
  | 0 => d
  | k + 1 => ld_charge (ch_all d k) k
def ld_settle (d : Ld) (b : Bk) (q : Int32) (k : Nat) (y : Int32) : Ld := ld_set (ch_all (ld_share (ld_means (wst d 60) b k y) q (wsum d 60)) 60) 1
def r_settle (d : Ld) (b : Bk) (k : Nat) (y : Int32) : Int32 := if d.2.2 = 0 then if wsum d 60 ≤ 0 then 0 else if means_known b k y then 1 else 0 else 0
def d_settle (d : Ld) (b : Bk) (q : Int32) (k : Nat) (y : Int32) : Ld := if d.2.2 = 0 then if wsum d 60 ≤ 0 then wst d 60 else if means_known b k y then ld_settle d b q k y else ld_means (wst d 60) b k y else wst d 60
theorem fX1_trySettle_50 : Cond.fieldLink RX1 50 "TitheMap$Land" "settled" "Z" ∈ wsX1_trySettle := by decide +kernel
theorem iX1_trySettle_X1 : ∀ w ∈ wsX10, w ∈ wsX1_trySettle := by decide +kernel
set_option maxHeartbeats 4000000 in
set_option maxRecDepth 100000 in
theorem lX1_trySettle {l : Launch} {D : va_G} {K : Nat → ClassId} {p : Program} {e : Env} {s : State} {m : MethodId} {below : List Frame} {meth : Method} {c : Code} {A : Nat → Prop} {args : Array Value} (E : zw_E p s m args c cX1_trySettle 7 RX1 wsX1_trySettle D (zT K) A) (hr : meth.sig.returnType = (some .boolean)) (hlk : meth.locks = false) (al ab : Nat → Nat) (d : Ld) (b : Bk) (q : Int32) (n : Nat) (y : Int32) (t : Int64) : ∀ (fu k : Nat), k ≤ 60 → 60 + 1 ≤ k + fu → zw_W p l e rmX1_trySettle s m args below meth c 7 D A 0 0 (zw_Qi D A below args s 1 (lb_W K al ab (ld_set (ch_all d 60) 1) b)) 41 [(0, .ref (al 0)), (1, .int q), (2, .int (nI n)), (3, .int y), (4, .long t), (6, .int (nI k))] [] (lb_W K al ab (ch_all d k) b) := by
  intro fu
  induction fu with
  | zero => intro k h1 h2; exact absurd h2 (by omega)
  | succ fu ih =>
    intro k hle hfu
    refine zw_iload (x := nI k) E 5 dX1_trySettle_41 rfl (pc' := 43) rfl ?_
    refine zw_bipush (v := 60) E dX1_trySettle_43 (by decide) (pc' := 45) rfl ?_
    refine zw_icmp_ge (tgt := 60) E dX1_trySettle_45 (by decide) (pc' := 48) rfl (fun c_1 => ?_) (fun c_1 => ?_)
    · skip
      have hk60 : k = 60 := zw_ge60 c_1 hle
      refine zw_aload_n (i := 0) (x := al 0) E 0 dX1_trySettle_60 rfl rfl (pc' := 61) rfl ?_
      refine zw_iconst (v := 1) E dX1_trySettle_61 (by decide) (pc' := 62) rfl ?_
      refine zw_putf (v := .int 1) (ty := .boolean) (ws' := (lb_W K al ab (ld_set (ch_all d k) 1) b)) E 0 11 iX1_trySettle_X1 tyX1_ok nmX1 fX1_trySettle_50 rfl rfl (by decide) rfl rfl rfl rfl rfl (Nat.le_of_ble_eq_true rfl) rfl dX1_trySettle_62 (pc' := 65) rfl ?_
      refine zw_iconst (v := 1) E dX1_trySettle_65 (by decide) (pc' := 66) rfl ?_
      exact zw_zret E hr hlk dX1_trySettle_66 rfl rfl (by rw [hk60])
    · skip
      have hk : k < 60 := zw_lt60 c_1 hle
      refine zw_aload_n (i := 0) (x := al 0) E 0 dX1_trySettle_48 rfl rfl (pc' := 49) rfl ?_
      refine zw_iload (x := nI k) E 5 dX1_trySettle_49 rfl (pc' := 51) rfl ?_
      refine zw_callVv E (As := [.int (nI k)]) (rest := []) (ws' := (lb_W K al ab (ld_charge (ch_all d k) k) b)) (qX1_chargeShare l D K al (ab 0) (ch_all d k) k hk) (cwV 1 E.2.2.2.2.1 gX1_trySettle_X1_chargeShare rfl rfl rfl (by decide +kernel) ⟨Nat.le_of_ble_eq_true rfl, Nat.le_of_ble_eq_true rfl⟩) 0 rfl rfl rfl [0, 1, 2, 3, 4, 5, 6, 7, 8, 9, 10, 11, 12, 13] (by decide) emC_lb_d (ld_ad _ _ _ _ _) emP_lb_d rfl rfl (Nat.le_of_ble_eq_true rfl) ⟨Nat.zero_le _, Nat.zero_le _⟩ dX1_trySettle_51 (pc' := 54) rfl ?_
      refine zw_iinc (x := nI k) (v := nI (k + 1)) (lv' := [(6, .int (nI (k + 1))), (0, .ref (al 0)), (1, .int q), (2, .int (nI n)), (3, .int y), (4, .long t)]) E 5 dX1_trySettle_54 rfl (zw_inc1 k) (by decide) rfl (pc' := 57) rfl ?_
      refine zw_goto (tgt := 41) E dX1_trySettle_57 (by decide) ?_
      refine zw_sub [1, 2, 3, 4, 5, 0] (lv' := [(0, .ref (al 0)), (1, .int q), (2, .int (nI n)), (3, .int y), (4, .long t), (6, .int (nI (k + 1)))]) rfl ?_
      exact ih (k + 1) (by omega) (by omega)

set_option maxHeartbeats 4000000 in
set_option maxRecDepth 100000 in
/-- trySettle(pence, k, year) -/
theorem qX1_trySettle (l : Launch) (D : va_G) (K : Nat → ClassId) (al ab : Nat → Nat) (d : Ld) (b : Bk) (q : Int32) (n : Nat) (hn : n ≤ 80) (y : Int32) : zw_I l yX1_trySettle wsX1_trySettle rmX1_trySettle D (zT K) [.ref (al 0), .int q, .int (nI n), .int y] (lb_W K al ab d b) (r_settle d b n y) (lb_W K al ab (d_settle d b q n y) b) := by
  refine zw_ofI (cc := cX1_trySettle) (nL := 7) (ret := (some .boolean)) (own := RX1) (lv := [(0, .ref (al 0)), (1, .int q), (2, .int (nI n)), (3, .int y)]) (by decide) rfl (Nat.le_of_ble_eq_true rfl) rfl rfl ?_
  intro p e s m below meth c A E hr hlk
  refine zw_aload_n (i := 0) (x := al 0) E 0 dX1_trySettle_0 rfl rfl (pc' := 1) rfl ?_
  refine zw_callLv E (r := wsum d 60) (As := []) (rest := []) (ws' := (lb_W K al ab (wst d 60) b)) (qX1_weighAll l D K al (ab 0) d ) (cwV 0 E.2.2.2.2.1 gX1_trySettle_X1_weighAll rfl rfl rfl (by decide +kernel) ⟨Nat.le_of_ble_eq_true rfl, Nat.le_of_ble_eq_true rfl⟩) 0 rfl rfl rfl [0, 1, 2, 3, 4, 5, 6, 7, 8, 9, 10, 11, 12, 13] (by decide) emC_lb_d (ld_ad _ _ _ _ _) emP_lb_d rfl rfl (Nat.le_of_ble_eq_true rfl) ⟨Nat.zero_le _, Nat.zero_le _⟩ dX1_trySettle_1 (pc' := 4) rfl ?_
  refine zw_lstore (lv' := [(4, .long (wsum d 60)), (0, .ref (al 0)), (1, .int q), (2, .int (nI n)), (3, .int y)]) E dX1_trySettle_4 (by decide) rfl (pc' := 6) rfl ?_
  refine zw_aload_n (i := 0) (x := al 0) E 1 dX1_trySettle_6 rfl rfl (pc' := 7) rfl ?_
  refine zw_get (v := .int ((wst d 60).2.2)) E 0 11 iX1_trySettle_X1 fX1_trySettle_50 rfl rfl (by decide) rfl rfl dX1_trySettle_7 (pc' := 10) rfl ?_
  refine zw_topi (x' := d.2.2) rfl ?_
  refine zw_if_ne (tgt := 29) E dX1_trySettle_10 (by decide) (pc' := 13) rfl (fun c_1 => ?_) (fun c_1 => ?_)
  · skip
    refine zw_iconst (v := 0) E dX1_trySettle_29 (by decide) (pc' := 30) rfl ?_
    exact zw_zret E hr hlk dX1_trySettle_30 rfl (by unfold r_settle; rw [if_neg c_1]) (by unfold d_settle; rw [if_neg c_1])
  · skip
    refine zw_lload (x := wsum d 60) E 0 dX1_trySettle_13 rfl (pc' := 15) rfl ?_
    refine zw_lconst (v := 0) E dX1_trySettle_15 (by decide) (pc' := 16) rfl ?_
    refine zw_lcmp E dX1_trySettle_16 (pc' := 17) rfl ?_
    refine zw_ifl_le (tgt := 29) E dX1_trySettle_17 (by decide) (pc' := 20) rfl (fun c_2 => ?_) (fun c_2 => ?_)
    · skip
      refine zw_iconst (v := 0) E dX1_trySettle_29 (by decide) (pc' := 30) rfl ?_
      exact zw_zret E hr hlk dX1_trySettle_30 rfl (by unfold r_settle; rw [if_pos c_1, if_pos c_2]) (by unfold d_settle; rw [if_pos c_1, if_pos c_2])
    · skip
      refine zw_aload_n (i := 0) (x := al 0) E 1 dX1_trySettle_20 rfl rfl (pc' := 21) rfl ?_
      refine zw_iload_n (i := 2) (x := nI n) E 3 dX1_trySettle_21 rfl rfl (pc' := 22) rfl ?_
      refine zw_iload_n (i := 3) (x := y) E 4 dX1_trySettle_22 rfl rfl (pc' := 23) rfl ?_
      refine zw_callIw E (r := zb (means_known b n y)) (As := [.int (nI n), .int y]) (rest := []) (ws' := (lb_W K al ab (ld_means (wst d 60) b n y) b)) (qX1_areMeansKnown l D K al ab (wst d 60) b n hn y) (cwV 2 E.2.2.2.2.1 gX1_trySettle_X1_areMeansKnown rfl rfl rfl (by decide +kernel) ⟨Nat.le_of_ble_eq_true rfl, Nat.le_of_ble_eq_true rfl⟩) 0 rfl rfl rfl (lb_ad _ _ _ _ _ _ _) rfl rfl (Nat.le_of_ble_eq_true rfl) ⟨Nat.zero_le _, Nat.zero_le _⟩ dX1_trySettle_23 (pc' := 26) rfl ?_
      refine zw_ifb_ne (tgt := 31) E dX1_trySettle_26 (by decide) (pc' := 29) rfl (fun c_3 => ?_) (fun c_3 => ?_)
      · skip
        refine zw_aload_n (i := 0) (x := al 0) E 1 dX1_trySettle_31 rfl rfl (pc' := 32) rfl ?_
        refine zw_iload_n (i := 1) (x := q) E 2 dX1_trySettle_32 rfl rfl (pc' := 33) rfl ?_
        refine zw_lload (x := wsum d 60) E 0 dX1_trySettle_33 rfl (pc' := 35) rfl ?_
        refine zw_callVv E (As := [.int q, .long (wsum d 60)]) (rest := []) (ws' := (lb_W K al ab (ld_share (ld_means (wst d 60) b n y) q (wsum d 60)) b)) (qX1_shareOut l D K al (ab 0) (ld_means (wst d 60) b n y) q (wsum d 60) c_2) (cwV 2 E.2.2.2.2.1 gX1_trySettle_X1_shareOut rfl rfl rfl (by decide +kernel) ⟨Nat.le_of_ble_eq_true rfl, Nat.le_of_ble_eq_true rfl⟩) 0 rfl rfl rfl [0, 1, 2, 3, 4, 5, 6, 7, 8, 9, 10, 11, 12, 13] (by decide) emC_lb_d (ld_ad _ _ _ _ _) emP_lb_d rfl rfl (Nat.le_of_ble_eq_true rfl) ⟨Nat.zero_le _, Nat.zero_le _⟩ dX1_trySettle_35 (pc' := 38) rfl ?_
        refine zw_iconst (v := 0) E dX1_trySettle_38 (by decide) (pc' := 39) rfl ?_
        refine zw_istore (lv' := [(6, .int 0), (4, .long (wsum d 60)), (0, .ref (al 0)), (1, .int q), (2, .int (nI n)), (3, .int y)]) E dX1_trySettle_39 (by decide) rfl (pc' := 41) rfl ?_
        have e1 : r_settle d b n y = 1 := by unfold r_settle; rw [if_pos c_1, if_neg c_2, if_pos c_3]
        have e2 : d_settle d b q n y = ld_settle d b q n y := by unfold d_settle; rw [if_pos c_1, if_neg c_2, if_pos c_3]
        rw [e1, e2]
        refine zw_sub [2, 3, 4, 5, 1, 0] (lv' := [(0, .ref (al 0)), (1, .int q), (2, .int (nI n)), (3, .int y), (4, .long (wsum d 60)), (6, .int 0)]) rfl ?_
        exact lX1_trySettle E hr hlk al ab _ b q n y _ 61 0 (by omega) (by omega)
      · skip
        refine zw_iconst (v := 0) E dX1_trySettle_29 (by decide) (pc' := 30) rfl ?_
        exact zw_zret E hr hlk dX1_trySettle_30 rfl (by unfold r_settle; rw [if_pos c_1, if_neg c_2, if_neg c_3]) (by unfold d_settle; rw [if_pos c_1, if_neg c_2, if_neg c_3])
end
section
/-! the land: tryAct, show -/
abbrev en_ok (b : Bk) (x : Int32) : Prop := (z_at 80 (b.1 0) x = 1 → ∃ j, j < 60 ∧ z_at 80 (b.1 7) x = nI j) ∧ (z_at 80 (b.1 0) x = 2 → ∃ j, j + 1 < 60 ∧ z_at 80 (b.1 7) x = nI j) ∧ (z_at 80 (b.1 0) x = 3 → ∃ j, j < 60 ∧ z_at 80 (b.1 7) x = nI j)
def e_mk (b : Bk) (x : Int32) : Nat := (z_at 80 (b.1 7) x).toNatClampNeg
def r_act (d : Ld) (b : Bk) (kn : Nat) (x : Int32) : Int32 :=
  if z_at 80 (b.1 0) x = 1 then 1 else if z_at 80 (b.1 0) x = 2 then r_part d (z_at 80 (b.1 2) x) (z_at 80 (b.1 4) x) else if z_at 80 (b.1 0) x = 3 then r_join d (z_at 80 (b.1 2) x) (z_at 80 (b.1 3) x)
  else if z_at 80 (b.1 0) x = 4 then r_sell d (z_at 80 (b.1 2) x) (z_at 80 (b.1 6) x) else if z_at 80 (b.1 0) x = 5 then r_settle d b kn (z_at 80 (b.1 1) x) else if z_at 80 (b.1 0) x = 6 then r_buy d (z_at 80 (b.1 2) x) else 0
def d_act (d : Ld) (b : Bk) (kn : Nat) (x : Int32) : Ld :=
  if z_at 80 (b.1 0) x = 1 then ld_make d (e_mk b x) (z_at 80 (b.1 4) x) (z_at 80 (b.1 5) x) (z_at 80 (b.1 6) x) else if z_at 80 (b.1 0) x = 2 then d_part d (z_at 80 (b.1 2) x) (z_at 80 (b.1 4) x) (e_mk b x) else if z_at 80 (b.1 0) x = 3 then d_join d (z_at 80 (b.1 2) x) (z_at 80 (b.1 3) x) (e_mk b x)
  else if z_at 80 (b.1 0) x = 4 then d_sell d (z_at 80 (b.1 2) x) (z_at 80 (b.1 6) x) else if z_at 80 (b.1 0) x = 5 then d_settle d b (z_at 80 (b.1 4) x) kn (z_at 80 (b.1 1) x) else if z_at 80 (b.1 0) x = 6 then d_buy d (z_at 80 (b.1 2) x) else d
theorem zw_inc1' (k : Nat) : nI k + 1 = nI (k + 1) := nI_1 k
theorem r_sell_01 (d : Ld) (f o : Int32) : r_sell d f o = 0 ∨ r_sell d f o = 1 := by
  unfold r_sell; repeat' split
  all_goals simp
theorem r_buy_01 (d : Ld) (f : Int32) : r_buy d f = 0 ∨ r_buy d f = 1 := by
  unfold r_buy; repeat' split
  all_goals simp
theorem r_part_01 (d : Ld) (f o : Int32) : r_part d f o = 0 ∨ r_part d f o = 1 := by
  unfold r_part; repeat' split
  all_goals simp
theorem r_join_01 (d : Ld) (f o : Int32) : r_join d f o = 0 ∨ r_join d f o = 1 := by
  unfold r_join; repeat' split
  all_goals simp
theorem r_settle_01 (d : Ld) (b : Bk) (k : Nat) (y : Int32) : r_settle d b k y = 0 ∨ r_settle d b k y = 1 := by
  unfold r_settle; repeat' split
  all_goals simp
theorem zw_01 {x : Int32} (h : x = 0 ∨ x = 1) : narrow .boolean (.int x) = .int x := by
  rcases h with h | h <;> rw [h] <;> rfl
theorem r_act_01 (d : Ld) (b : Bk) (k : Nat) (x : Int32) : r_act d b k x = 0 ∨ r_act d b k x = 1 := by
  unfold r_act
  split
  · exact Or.inr rfl
  · split
    · exact r_part_01 _ _ _
    · split
      · exact r_join_01 _ _ _
      · split
        · exact r_sell_01 _ _ _
        · split
          · exact r_settle_01 _ _ _ _
          · split
            · exact r_buy_01 _ _
            · exact Or.inl rfl
theorem fX1_tryAct_46 : Cond.fieldLink RX1 46 "TitheMap$Land" "book" "LTitheMap$Book;" ∈ wsX1_tryAct := by decide +kernel
theorem fX1_tryAct_67 : Cond.fieldLink RX1 67 "TitheMap$Book" "year" "[I" ∈ wsX1_tryAct := by decide +kernel
theorem fX1_tryAct_74 : Cond.fieldLink RX1 74 "TitheMap$Book" "first" "[I" ∈ wsX1_tryAct := by decide +kernel
theorem fX1_tryAct_77 : Cond.fieldLink RX1 77 "TitheMap$Book" "made" "[I" ∈ wsX1_tryAct := by decide +kernel
theorem fX1_tryAct_80 : Cond.fieldLink RX1 80 "TitheMap$Book" "amount" "[I" ∈ wsX1_tryAct := by decide +kernel
theorem fX1_tryAct_83 : Cond.fieldLink RX1 83 "TitheMap$Book" "act" "[I" ∈ wsX1_tryAct := by decide +kernel
theorem fX1_tryAct_86 : Cond.fieldLink RX1 86 "TitheMap$Book" "kind" "[I" ∈ wsX1_tryAct := by decide +kernel
theorem fX1_tryAct_87 : Cond.fieldLink RX1 87 "TitheMap$Book" "owner" "[I" ∈ wsX1_tryAct := by decide +kernel
theorem fX1_tryAct_95 : Cond.fieldLink RX1 95 "TitheMap$Book" "second" "[I" ∈ wsX1_tryAct := by decide +kernel
theorem iX1_tryAct_X0 : ∀ w ∈ wsX00, w ∈ wsX1_tryAct := by decide +kernel
theorem iX1_tryAct_X1 : ∀ w ∈ wsX10, w ∈ wsX1_tryAct := by decide +kernel
set_option maxHeartbeats 4000000 in
set_option maxRecDepth 100000 in
/-- tryAct(e, k) -/
theorem qX1_tryAct (l : Launch) (D : va_G) (K : Nat → ClassId) (al ab : Nat → Nat) (d : Ld) (b : Bk) (x : Int32) (kn : Nat) (hkn : kn ≤ 80) (hok : en_ok b x) : zw_I l yX1_tryAct wsX1_tryAct rmX1_tryAct D (zT K) [.ref (al 0), .int x, .int (nI kn)] (lb_W K al ab d b) (r_act d b kn x) (lb_W K al ab (d_act d b kn x) b) := by
  refine zw_ofI (cc := cX1_tryAct) (nL := 6) (ret := (some .boolean)) (own := RX1) (lv := [(0, .ref (al 0)), (1, .int x), (2, .int (nI kn))]) (by decide) rfl (Nat.le_of_ble_eq_true rfl) rfl rfl ?_
  intro p e s m below meth c A E hr hlk
  refine zw_aload_n (i := 0) (x := al 0) E 0 dX1_tryAct_0 rfl rfl (pc' := 1) rfl ?_
  refine zw_get (v := .ref (ab 0)) E 0 0 iX1_tryAct_X1 fX1_tryAct_46 rfl rfl (by decide) rfl rfl dX1_tryAct_1 (pc' := 4) rfl ?_
  refine zw_get (v := .ref (ab 3)) E 14 2 iX1_tryAct_X0 fX1_tryAct_74 rfl rfl (by decide) rfl rfl dX1_tryAct_4 (pc' := 7) rfl ?_
  refine zw_iload_n (i := 1) (x := x) E 1 dX1_tryAct_7 rfl rfl (pc' := 8) rfl ?_
  refine zw_callIn E (r := z_at 80 (b.1 2) x) (As := [.ref (ab 3), .int x]) (rest := []) (ws' := (lb_W K al ab d b)) (qX2_at l D K (ab 3) 80 (b.1 2) x (by decide)) ⟨va_cnB 2 E.2.2.2.2.1 gX1_tryAct_X2_at_n63 rfl rfl rfl E.2.2.2.2.2.2.2.2.2 (E.2.2.2.2.1 _ (by decide +kernel)) (by decide +kernel) ⟨Nat.le_of_ble_eq_true rfl, Nat.le_of_ble_eq_true rfl⟩, E.2.2.2.2.1 _ (by decide +kernel), trivial⟩ [17] (by decide) rfl rfl (zw_put_same _ _ _ rfl) rfl rfl (Nat.le_of_ble_eq_true rfl) ⟨Nat.zero_le _, Nat.zero_le _⟩ dX1_tryAct_8 (pc' := 11) rfl ?_
  refine zw_istore_n (lv' := [(3, .int (z_at 80 (b.1 2) x)), (0, .ref (al 0)), (1, .int x), (2, .int (nI kn))]) E dX1_tryAct_11 rfl (by decide) rfl (pc' := 12) rfl ?_
  refine zw_aload_n (i := 0) (x := al 0) E 1 dX1_tryAct_12 rfl rfl (pc' := 13) rfl ?_
  refine zw_get (v := .ref (ab 0)) E 0 0 iX1_tryAct_X1 fX1_tryAct_46 rfl rfl (by decide) rfl rfl dX1_tryAct_13 (pc' := 16) rfl ?_
  refine zw_get (v := .ref (ab 8)) E 14 7 iX1_tryAct_X0 fX1_tryAct_77 rfl rfl (by decide) rfl rfl dX1_tryAct_16 (pc' := 19) rfl ?_
  refine zw_iload_n (i := 1) (x := x) E 2 dX1_tryAct_19 rfl rfl (pc' := 20) rfl ?_
  refine zw_callIn E (r := z_at 80 (b.1 7) x) (As := [.ref (ab 8), .int x]) (rest := []) (ws' := (lb_W K al ab d b)) (qX2_at l D K (ab 8) 80 (b.1 7) x (by decide)) ⟨va_cnB 2 E.2.2.2.2.1 gX1_tryAct_X2_at_n63 rfl rfl rfl E.2.2.2.2.2.2.2.2.2 (E.2.2.2.2.1 _ (by decide +kernel)) (by decide +kernel) ⟨Nat.le_of_ble_eq_true rfl, Nat.le_of_ble_eq_true rfl⟩, E.2.2.2.2.1 _ (by decide +kernel), trivial⟩ [22] (by decide) rfl rfl (zw_put_same _ _ _ rfl) rfl rfl (Nat.le_of_ble_eq_true rfl) ⟨Nat.zero_le _, Nat.zero_le _⟩ dX1_tryAct_20 (pc' := 23) rfl ?_
  refine zw_istore (lv' := [(4, .int (z_at 80 (b.1 7) x)), (3, .int (z_at 80 (b.1 2) x)), (0, .ref (al 0)), (1, .int x), (2, .int (nI kn))]) E dX1_tryAct_23 (by decide) rfl (pc' := 25) rfl ?_
  refine zw_aload_n (i := 0) (x := al 0) E 2 dX1_tryAct_25 rfl rfl (pc' := 26) rfl ?_
  refine zw_get (v := .ref (ab 0)) E 0 0 iX1_tryAct_X1 fX1_tryAct_46 rfl rfl (by decide) rfl rfl dX1_tryAct_26 (pc' := 29) rfl ?_
  refine zw_get (v := .ref (ab 5)) E 14 4 iX1_tryAct_X0 fX1_tryAct_80 rfl rfl (by decide) rfl rfl dX1_tryAct_29 (pc' := 32) rfl ?_
  refine zw_iload_n (i := 1) (x := x) E 3 dX1_tryAct_32 rfl rfl (pc' := 33) rfl ?_
  refine zw_callIn E (r := z_at 80 (b.1 4) x) (As := [.ref (ab 5), .int x]) (rest := []) (ws' := (lb_W K al ab d b)) (qX2_at l D K (ab 5) 80 (b.1 4) x (by decide)) ⟨va_cnB 2 E.2.2.2.2.1 gX1_tryAct_X2_at_n63 rfl rfl rfl E.2.2.2.2.2.2.2.2.2 (E.2.2.2.2.1 _ (by decide +kernel)) (by decide +kernel) ⟨Nat.le_of_ble_eq_true rfl, Nat.le_of_ble_eq_true rfl⟩, E.2.2.2.2.1 _ (by decide +kernel), trivial⟩ [19] (by decide) rfl rfl (zw_put_same _ _ _ rfl) rfl rfl (Nat.le_of_ble_eq_true rfl) ⟨Nat.zero_le _, Nat.zero_le _⟩ dX1_tryAct_33 (pc' := 36) rfl ?_
  refine zw_istore (lv' := [(5, .int (z_at 80 (b.1 4) x)), (4, .int (z_at 80 (b.1 7) x)), (3, .int (z_at 80 (b.1 2) x)), (0, .ref (al 0)), (1, .int x), (2, .int (nI kn))]) E dX1_tryAct_36 (by decide) rfl (pc' := 38) rfl ?_
  refine zw_aload_n (i := 0) (x := al 0) E 3 dX1_tryAct_38 rfl rfl (pc' := 39) rfl ?_
  refine zw_get (v := .ref (ab 0)) E 0 0 iX1_tryAct_X1 fX1_tryAct_46 rfl rfl (by decide) rfl rfl dX1_tryAct_39 (pc' := 42) rfl ?_
  refine zw_get (v := .ref (ab 1)) E 14 0 iX1_tryAct_X0 fX1_tryAct_83 rfl rfl (by decide) rfl rfl dX1_tryAct_42 (pc' := 45) rfl ?_
  refine zw_iload_n (i := 1) (x := x) E 4 dX1_tryAct_45 rfl rfl (pc' := 46) rfl ?_
  refine zw_callIn E (r := z_at 80 (b.1 0) x) (As := [.ref (ab 1), .int x]) (rest := []) (ws' := (lb_W K al ab d b)) (qX2_at l D K (ab 1) 80 (b.1 0) x (by decide)) ⟨va_cnB 2 E.2.2.2.2.1 gX1_tryAct_X2_at_n63 rfl rfl rfl E.2.2.2.2.2.2.2.2.2 (E.2.2.2.2.1 _ (by decide +kernel)) (by decide +kernel) ⟨Nat.le_of_ble_eq_true rfl, Nat.le_of_ble_eq_true rfl⟩, E.2.2.2.2.1 _ (by decide +kernel), trivial⟩ [15] (by decide) rfl rfl (zw_put_same _ _ _ rfl) rfl rfl (Nat.le_of_ble_eq_true rfl) ⟨Nat.zero_le _, Nat.zero_le _⟩ dX1_tryAct_46 (pc' := 49) rfl ?_
  by_cases s_1 : z_at 80 (b.1 0) x = 1
  · refine zw_tableIn (tgt := 88) (off := 39) E dX1_tryAct_49 (by rw [s_1]; decide) (by rw [s_1]; decide) (by rw [s_1]; rfl) (by decide) ?_
    obtain ⟨j, hj, ej⟩ := hok.1 s_1
    refine zw_aload_n (i := 0) (x := al 0) E 3 dX1_tryAct_88 rfl rfl (pc' := 89) rfl ?_
    refine zw_iload (x := z_at 80 (b.1 7) x) E 1 dX1_tryAct_89 rfl (pc' := 91) rfl ?_
    refine zw_topi (x' := nI j) ej ?_
    refine zw_iload (x := z_at 80 (b.1 4) x) E 0 dX1_tryAct_91 rfl (pc' := 93) rfl ?_
    refine zw_aload_n (i := 0) (x := al 0) E 3 dX1_tryAct_93 rfl rfl (pc' := 94) rfl ?_
    refine zw_get (v := .ref (ab 0)) E 0 0 iX1_tryAct_X1 fX1_tryAct_46 rfl rfl (by decide) rfl rfl dX1_tryAct_94 (pc' := 97) rfl ?_
    refine zw_get (v := .ref (ab 6)) E 14 5 iX1_tryAct_X0 fX1_tryAct_86 rfl rfl (by decide) rfl rfl dX1_tryAct_97 (pc' := 100) rfl ?_
    refine zw_iload_n (i := 1) (x := x) E 4 dX1_tryAct_100 rfl rfl (pc' := 101) rfl ?_
    refine zw_callIn E (r := z_at 80 (b.1 5) x) (As := [.ref (ab 6), .int x]) (rest := [.int (z_at 80 (b.1 4) x), .int (nI j), .ref (al 0)]) (ws' := (lb_W K al ab d b)) (qX2_at l D K (ab 6) 80 (b.1 5) x (by decide)) ⟨va_cnB 2 E.2.2.2.2.1 gX1_tryAct_X2_at_n63 rfl rfl rfl E.2.2.2.2.2.2.2.2.2 (E.2.2.2.2.1 _ (by decide +kernel)) (by decide +kernel) ⟨Nat.le_of_ble_eq_true rfl, Nat.le_of_ble_eq_true rfl⟩, E.2.2.2.2.1 _ (by decide +kernel), trivial⟩ [20] (by decide) rfl rfl (zw_put_same _ _ _ rfl) rfl rfl (Nat.le_of_ble_eq_true rfl) ⟨Nat.zero_le _, Nat.zero_le _⟩ dX1_tryAct_101 (pc' := 104) rfl ?_
    refine zw_aload_n (i := 0) (x := al 0) E 3 dX1_tryAct_104 rfl rfl (pc' := 105) rfl ?_
    refine zw_get (v := .ref (ab 0)) E 0 0 iX1_tryAct_X1 fX1_tryAct_46 rfl rfl (by decide) rfl rfl dX1_tryAct_105 (pc' := 108) rfl ?_
    refine zw_get (v := .ref (ab 7)) E 14 6 iX1_tryAct_X0 fX1_tryAct_87 rfl rfl (by decide) rfl rfl dX1_tryAct_108 (pc' := 111) rfl ?_
    refine zw_iload_n (i := 1) (x := x) E 4 dX1_tryAct_111 rfl rfl (pc' := 112) rfl ?_
    refine zw_callIn E (r := z_at 80 (b.1 6) x) (As := [.ref (ab 7), .int x]) (rest := [.int (z_at 80 (b.1 5) x), .int (z_at 80 (b.1 4) x), .int (nI j), .ref (al 0)]) (ws' := (lb_W K al ab d b)) (qX2_at l D K (ab 7) 80 (b.1 6) x (by decide)) ⟨va_cnB 2 E.2.2.2.2.1 gX1_tryAct_X2_at_n63 rfl rfl rfl E.2.2.2.2.2.2.2.2.2 (E.2.2.2.2.1 _ (by decide +kernel)) (by decide +kernel) ⟨Nat.le_of_ble_eq_true rfl, Nat.le_of_ble_eq_true rfl⟩, E.2.2.2.2.1 _ (by decide +kernel), trivial⟩ [21] (by decide) rfl rfl (zw_put_same _ _ _ rfl) rfl rfl (Nat.le_of_ble_eq_true rfl) ⟨Nat.zero_le _, Nat.zero_le _⟩ dX1_tryAct_112 (pc' := 115) rfl ?_
    refine zw_callIv E (r := 1) (As := [.int (nI j), .int (z_at 80 (b.1 4) x), .int (z_at 80 (b.1 5) x), .int (z_at 80 (b.1 6) x)]) (rest := []) (ws' := (lb_W K al ab (ld_make d j (z_at 80 (b.1 4) x) (z_at 80 (b.1 5) x) (z_at 80 (b.1 6) x)) b)) (qX1_tryMake l D K al (ab 0) d j hj (z_at 80 (b.1 4) x) (z_at 80 (b.1 5) x) (z_at 80 (b.1 6) x)) (cwV 4 E.2.2.2.2.1 gX1_tryAct_X1_tryMake rfl rfl rfl (by decide +kernel) ⟨Nat.le_of_ble_eq_true rfl, Nat.le_of_ble_eq_true rfl⟩) 0 rfl rfl rfl [0, 1, 2, 3, 4, 5, 6, 7, 8, 9, 10, 11, 12, 13] (by decide) emC_lb_d (ld_ad _ _ _ _ _) emP_lb_d rfl rfl (Nat.le_of_ble_eq_true rfl) ⟨Nat.zero_le _, Nat.zero_le _⟩ dX1_tryAct_115 (pc' := 118) rfl ?_
    exact zw_zret E hr hlk dX1_tryAct_118 rfl (by unfold r_act; rw [if_pos s_1]) (by unfold d_act; rw [if_pos s_1]; unfold e_mk; rw [ej, nI_clamp (by omega)])
  · skip
    by_cases s_2 : z_at 80 (b.1 0) x = 2
    · refine zw_tableIn (tgt := 119) (off := 70) E dX1_tryAct_49 (by rw [s_2]; decide) (by rw [s_2]; decide) (by rw [s_2]; rfl) (by decide) ?_
      obtain ⟨j, hj, ej⟩ := hok.2.1 s_2
      refine zw_aload_n (i := 0) (x := al 0) E 3 dX1_tryAct_119 rfl rfl (pc' := 120) rfl ?_
      refine zw_iload_n (i := 3) (x := z_at 80 (b.1 2) x) E 2 dX1_tryAct_120 rfl rfl (pc' := 121) rfl ?_
      refine zw_iload (x := z_at 80 (b.1 4) x) E 0 dX1_tryAct_121 rfl (pc' := 123) rfl ?_
      refine zw_iload (x := z_at 80 (b.1 7) x) E 1 dX1_tryAct_123 rfl (pc' := 125) rfl ?_
      refine zw_topi (x' := nI j) ej ?_
      refine zw_iload (x := z_at 80 (b.1 7) x) E 1 dX1_tryAct_125 rfl (pc' := 127) rfl ?_
      refine zw_topi (x' := nI j) ej ?_
      refine zw_iconst (v := 1) E dX1_tryAct_127 (by decide) (pc' := 128) rfl ?_
      refine zw_iadd E dX1_tryAct_128 (pc' := 129) rfl ?_
      refine zw_topi (x' := nI (j + 1)) (nI_1 j) ?_
      refine zw_callIv E (r := r_part d (z_at 80 (b.1 2) x) (z_at 80 (b.1 4) x)) (As := [.int (z_at 80 (b.1 2) x), .int (z_at 80 (b.1 4) x), .int (nI j), .int (nI (j + 1))]) (rest := []) (ws' := (lb_W K al ab (d_part d (z_at 80 (b.1 2) x) (z_at 80 (b.1 4) x) j) b)) (qX1_tryPart l D K al (ab 0) d (z_at 80 (b.1 2) x) (z_at 80 (b.1 4) x) j hj) (cwV 4 E.2.2.2.2.1 gX1_tryAct_X1_tryPart rfl rfl rfl (by decide +kernel) ⟨Nat.le_of_ble_eq_true rfl, Nat.le_of_ble_eq_true rfl⟩) 0 rfl rfl rfl [0, 1, 2, 3, 4, 5, 6, 7, 8, 9, 10, 11, 12, 13] (by decide) emC_lb_d (ld_ad _ _ _ _ _) emP_lb_d rfl rfl (Nat.le_of_ble_eq_true rfl) ⟨Nat.zero_le _, Nat.zero_le _⟩ dX1_tryAct_129 (pc' := 132) rfl ?_
      exact zw_zret E hr hlk dX1_tryAct_132 (zw_01 (r_part_01 _ _ _)) (by unfold r_act; rw [if_neg s_1, if_pos s_2]) (by unfold d_act; rw [if_neg s_1, if_pos s_2]; unfold e_mk; rw [ej, nI_clamp (by omega)])
    · skip
      by_cases s_3 : z_at 80 (b.1 0) x = 3
      · refine zw_tableIn (tgt := 133) (off := 84) E dX1_tryAct_49 (by rw [s_3]; decide) (by rw [s_3]; decide) (by rw [s_3]; rfl) (by decide) ?_
        obtain ⟨j, hj, ej⟩ := hok.2.2 s_3
        refine zw_aload_n (i := 0) (x := al 0) E 3 dX1_tryAct_133 rfl rfl (pc' := 134) rfl ?_
        refine zw_iload_n (i := 3) (x := z_at 80 (b.1 2) x) E 2 dX1_tryAct_134 rfl rfl (pc' := 135) rfl ?_
        refine zw_aload_n (i := 0) (x := al 0) E 3 dX1_tryAct_135 rfl rfl (pc' := 136) rfl ?_
        refine zw_get (v := .ref (ab 0)) E 0 0 iX1_tryAct_X1 fX1_tryAct_46 rfl rfl (by decide) rfl rfl dX1_tryAct_136 (pc' := 139) rfl ?_
        refine zw_get (v := .ref (ab 4)) E 14 3 iX1_tryAct_X0 fX1_tryAct_95 rfl rfl (by decide) rfl rfl dX1_tryAct_139 (pc' := 142) rfl ?_
        refine zw_iload_n (i := 1) (x := x) E 4 dX1_tryAct_142 rfl rfl (pc' := 143) rfl ?_
        refine zw_callIn E (r := z_at 80 (b.1 3) x) (As := [.ref (ab 4), .int x]) (rest := [.int (z_at 80 (b.1 2) x), .ref (al 0)]) (ws' := (lb_W K al ab d b)) (qX2_at l D K (ab 4) 80 (b.1 3) x (by decide)) ⟨va_cnB 2 E.2.2.2.2.1 gX1_tryAct_X2_at_n63 rfl rfl rfl E.2.2.2.2.2.2.2.2.2 (E.2.2.2.2.1 _ (by decide +kernel)) (by decide +kernel) ⟨Nat.le_of_ble_eq_true rfl, Nat.le_of_ble_eq_true rfl⟩, E.2.2.2.2.1 _ (by decide +kernel), trivial⟩ [18] (by decide) rfl rfl (zw_put_same _ _ _ rfl) rfl rfl (Nat.le_of_ble_eq_true rfl) ⟨Nat.zero_le _, Nat.zero_le _⟩ dX1_tryAct_143 (pc' := 146) rfl ?_
        refine zw_iload (x := z_at 80 (b.1 7) x) E 1 dX1_tryAct_146 rfl (pc' := 148) rfl ?_
        refine zw_topi (x' := nI j) ej ?_
        refine zw_callIv E (r := r_join d (z_at 80 (b.1 2) x) (z_at 80 (b.1 3) x)) (As := [.int (z_at 80 (b.1 2) x), .int (z_at 80 (b.1 3) x), .int (nI j)]) (rest := []) (ws' := (lb_W K al ab (d_join d (z_at 80 (b.1 2) x) (z_at 80 (b.1 3) x) j) b)) (qX1_tryJoin l D K al (ab 0) d (z_at 80 (b.1 2) x) (z_at 80 (b.1 3) x) j hj) (cwV 3 E.2.2.2.2.1 gX1_tryAct_X1_tryJoin rfl rfl rfl (by decide +kernel) ⟨Nat.le_of_ble_eq_true rfl, Nat.le_of_ble_eq_true rfl⟩) 0 rfl rfl rfl [0, 1, 2, 3, 4, 5, 6, 7, 8, 9, 10, 11, 12, 13] (by decide) emC_lb_d (ld_ad _ _ _ _ _) emP_lb_d rfl rfl (Nat.le_of_ble_eq_true rfl) ⟨Nat.zero_le _, Nat.zero_le _⟩ dX1_tryAct_148 (pc' := 151) rfl ?_
        exact zw_zret E hr hlk dX1_tryAct_151 (zw_01 (r_join_01 _ _ _)) (by unfold r_act; rw [if_neg s_1, if_neg s_2, if_pos s_3]) (by unfold d_act; rw [if_neg s_1, if_neg s_2, if_pos s_3]; unfold e_mk; rw [ej, nI_clamp (by omega)])
      · skip
        by_cases s_4 : z_at 80 (b.1 0) x = 4
        · refine zw_tableIn (tgt := 152) (off := 103) E dX1_tryAct_49 (by rw [s_4]; decide) (by rw [s_4]; decide) (by rw [s_4]; rfl) (by decide) ?_
          refine zw_aload_n (i := 0) (x := al 0) E 3 dX1_tryAct_152 rfl rfl (pc' := 153) rfl ?_
          refine zw_iload_n (i := 3) (x := z_at 80 (b.1 2) x) E 2 dX1_tryAct_153 rfl rfl (pc' := 154) rfl ?_
          refine zw_aload_n (i := 0) (x := al 0) E 3 dX1_tryAct_154 rfl rfl (pc' := 155) rfl ?_
          refine zw_get (v := .ref (ab 0)) E 0 0 iX1_tryAct_X1 fX1_tryAct_46 rfl rfl (by decide) rfl rfl dX1_tryAct_155 (pc' := 158) rfl ?_
          refine zw_get (v := .ref (ab 7)) E 14 6 iX1_tryAct_X0 fX1_tryAct_87 rfl rfl (by decide) rfl rfl dX1_tryAct_158 (pc' := 161) rfl ?_
          refine zw_iload_n (i := 1) (x := x) E 4 dX1_tryAct_161 rfl rfl (pc' := 162) rfl ?_
          refine zw_callIn E (r := z_at 80 (b.1 6) x) (As := [.ref (ab 7), .int x]) (rest := [.int (z_at 80 (b.1 2) x), .ref (al 0)]) (ws' := (lb_W K al ab d b)) (qX2_at l D K (ab 7) 80 (b.1 6) x (by decide)) ⟨va_cnB 2 E.2.2.2.2.1 gX1_tryAct_X2_at_n63 rfl rfl rfl E.2.2.2.2.2.2.2.2.2 (E.2.2.2.2.1 _ (by decide +kernel)) (by decide +kernel) ⟨Nat.le_of_ble_eq_true rfl, Nat.le_of_ble_eq_true rfl⟩, E.2.2.2.2.1 _ (by decide +kernel), trivial⟩ [21] (by decide) rfl rfl (zw_put_same _ _ _ rfl) rfl rfl (Nat.le_of_ble_eq_true rfl) ⟨Nat.zero_le _, Nat.zero_le _⟩ dX1_tryAct_162 (pc' := 165) rfl ?_
          refine zw_callIv E (r := r_sell d (z_at 80 (b.1 2) x) (z_at 80 (b.1 6) x)) (As := [.int (z_at 80 (b.1 2) x), .int (z_at 80 (b.1 6) x)]) (rest := []) (ws' := (lb_W K al ab (d_sell d (z_at 80 (b.1 2) x) (z_at 80 (b.1 6) x)) b)) (qX1_trySell l D K al (ab 0) d (z_at 80 (b.1 2) x) (z_at 80 (b.1 6) x) ) (cwV 2 E.2.2.2.2.1 gX1_tryAct_X1_trySell rfl rfl rfl (by decide +kernel) ⟨Nat.le_of_ble_eq_true rfl, Nat.le_of_ble_eq_true rfl⟩) 0 rfl rfl rfl [0, 1, 2, 3, 4, 5, 6, 7, 8, 9, 10, 11, 12, 13] (by decide) emC_lb_d (ld_ad _ _ _ _ _) emP_lb_d rfl rfl (Nat.le_of_ble_eq_true rfl) ⟨Nat.zero_le _, Nat.zero_le _⟩ dX1_tryAct_165 (pc' := 168) rfl ?_
          exact zw_zret E hr hlk dX1_tryAct_168 (zw_01 (r_sell_01 _ _ _)) (by unfold r_act; rw [if_neg s_1, if_neg s_2, if_neg s_3, if_pos s_4]) (by unfold d_act; rw [if_neg s_1, if_neg s_2, if_neg s_3, if_pos s_4])
        · skip
          by_cases s_5 : z_at 80 (b.1 0) x = 5
          · refine zw_tableIn (tgt := 169) (off := 120) E dX1_tryAct_49 (by rw [s_5]; decide) (by rw [s_5]; decide) (by rw [s_5]; rfl) (by decide) ?_
            refine zw_aload_n (i := 0) (x := al 0) E 3 dX1_tryAct_169 rfl rfl (pc' := 170) rfl ?_
            refine zw_iload (x := z_at 80 (b.1 4) x) E 0 dX1_tryAct_170 rfl (pc' := 172) rfl ?_
            refine zw_iload_n (i := 2) (x := nI kn) E 5 dX1_tryAct_172 rfl rfl (pc' := 173) rfl ?_
            refine zw_aload_n (i := 0) (x := al 0) E 3 dX1_tryAct_173 rfl rfl (pc' := 174) rfl ?_
            refine zw_get (v := .ref (ab 0)) E 0 0 iX1_tryAct_X1 fX1_tryAct_46 rfl rfl (by decide) rfl rfl dX1_tryAct_174 (pc' := 177) rfl ?_
            refine zw_get (v := .ref (ab 2)) E 14 1 iX1_tryAct_X0 fX1_tryAct_67 rfl rfl (by decide) rfl rfl dX1_tryAct_177 (pc' := 180) rfl ?_
            refine zw_iload_n (i := 1) (x := x) E 4 dX1_tryAct_180 rfl rfl (pc' := 181) rfl ?_
            refine zw_callIn E (r := z_at 80 (b.1 1) x) (As := [.ref (ab 2), .int x]) (rest := [.int (nI kn), .int (z_at 80 (b.1 4) x), .ref (al 0)]) (ws' := (lb_W K al ab d b)) (qX2_at l D K (ab 2) 80 (b.1 1) x (by decide)) ⟨va_cnB 2 E.2.2.2.2.1 gX1_tryAct_X2_at_n63 rfl rfl rfl E.2.2.2.2.2.2.2.2.2 (E.2.2.2.2.1 _ (by decide +kernel)) (by decide +kernel) ⟨Nat.le_of_ble_eq_true rfl, Nat.le_of_ble_eq_true rfl⟩, E.2.2.2.2.1 _ (by decide +kernel), trivial⟩ [16] (by decide) rfl rfl (zw_put_same _ _ _ rfl) rfl rfl (Nat.le_of_ble_eq_true rfl) ⟨Nat.zero_le _, Nat.zero_le _⟩ dX1_tryAct_181 (pc' := 184) rfl ?_
            refine zw_callIw E (r := r_settle d b kn (z_at 80 (b.1 1) x)) (As := [.int (z_at 80 (b.1 4) x), .int (nI kn), .int (z_at 80 (b.1 1) x)]) (rest := []) (ws' := (lb_W K al ab (d_settle d b (z_at 80 (b.1 4) x) kn (z_at 80 (b.1 1) x)) b)) (qX1_trySettle l D K al ab d b (z_at 80 (b.1 4) x) kn hkn (z_at 80 (b.1 1) x)) (cwV 3 E.2.2.2.2.1 gX1_tryAct_X1_trySettle rfl rfl rfl (by decide +kernel) ⟨Nat.le_of_ble_eq_true rfl, Nat.le_of_ble_eq_true rfl⟩) 0 rfl rfl rfl (lb_ad _ _ _ _ _ _ _) rfl rfl (Nat.le_of_ble_eq_true rfl) ⟨Nat.zero_le _, Nat.zero_le _⟩ dX1_tryAct_184 (pc' := 187) rfl ?_
            exact zw_zret E hr hlk dX1_tryAct_187 (zw_01 (r_settle_01 _ _ _ _)) (by unfold r_act; rw [if_neg s_1, if_neg s_2, if_neg s_3, if_neg s_4, if_pos s_5]) (by unfold d_act; rw [if_neg s_1, if_neg s_2, if_neg s_3, if_neg s_4, if_pos s_5])
          · skip
            by_cases s_6 : z_at 80 (b.1 0) x = 6
            · refine zw_tableIn (tgt := 188) (off := 139) E dX1_tryAct_49 (by rw [s_6]; decide) (by rw [s_6]; decide) (by rw [s_6]; rfl) (by decide) ?_
              refine zw_aload_n (i := 0) (x := al 0) E 3 dX1_tryAct_188 rfl rfl (pc' := 189) rfl ?_
              refine zw_iload_n (i := 3) (x := z_at 80 (b.1 2) x) E 2 dX1_tryAct_189 rfl rfl (pc' := 190) rfl ?_
              refine zw_callIv E (r := r_buy d (z_at 80 (b.1 2) x)) (As := [.int (z_at 80 (b.1 2) x)]) (rest := []) (ws' := (lb_W K al ab (d_buy d (z_at 80 (b.1 2) x)) b)) (qX1_tryBuy l D K al (ab 0) d (z_at 80 (b.1 2) x) ) (cwV 1 E.2.2.2.2.1 gX1_tryAct_X1_tryBuy rfl rfl rfl (by decide +kernel) ⟨Nat.le_of_ble_eq_true rfl, Nat.le_of_ble_eq_true rfl⟩) 0 rfl rfl rfl [0, 1, 2, 3, 4, 5, 6, 7, 8, 9, 10, 11, 12, 13] (by decide) emC_lb_d (ld_ad _ _ _ _ _) emP_lb_d rfl rfl (Nat.le_of_ble_eq_true rfl) ⟨Nat.zero_le _, Nat.zero_le _⟩ dX1_tryAct_190 (pc' := 193) rfl ?_
              exact zw_zret E hr hlk dX1_tryAct_193 (zw_01 (r_buy_01 _ _)) (by unfold r_act; rw [if_neg s_1, if_neg s_2, if_neg s_3, if_neg s_4, if_neg s_5, if_pos s_6]) (by unfold d_act; rw [if_neg s_1, if_neg s_2, if_neg s_3, if_neg s_4, if_neg s_5, if_pos s_6])
            · skip
              refine zw_tableOut (tgt := 194) E dX1_tryAct_49 (by have q0 := lv_neT (a := 1) s_1 rfl; have q1 := lv_neT (a := 2) s_2 rfl; have q2 := lv_neT (a := 3) s_3 rfl; have q3 := lv_neT (a := 4) s_4 rfl; have q4 := lv_neT (a := 5) s_5 rfl; have q5 := lv_neT (a := 6) s_6 rfl; omega) (by decide) ?_
              refine zw_iconst (v := 0) E dX1_tryAct_194 (by decide) (pc' := 195) rfl ?_
              exact zw_zret E hr hlk dX1_tryAct_195 rfl (by unfold r_act; rw [if_neg s_1, if_neg s_2, if_neg s_3, if_neg s_4, if_neg s_5, if_neg s_6]) (by unfold d_act; rw [if_neg s_1, if_neg s_2, if_neg s_3, if_neg s_4, if_neg s_5, if_neg s_6])

def ld_wipe (d : Ld) (k : Nat) : Ld := ((fun r => if r = 0 then (fun f => if f < k then 0 else d.1 0 f) else d.1 r), d.2)
theorem ld_wipe_0 (d : Ld) : ld_wipe d 0 = d := by
  refine Prod.ext (funext fun r => ?_) rfl
  show (if r = 0 then (fun f => if f < 0 then 0 else d.1 0 f) else d.1 r) = d.1 r
  by_cases h : r = 0
  · subst h
    rw [if_pos rfl]
    funext f
    rw [if_neg (Nat.not_lt_zero f)]
  · rw [if_neg h]
theorem ld_wipe_succ (d : Ld) (k : Nat) : ld_row (ld_wipe d k) 0 k 0 = ld_wipe d (k + 1) := by
  refine Prod.ext (funext fun r => ?_) rfl
  show (if r = 0 then upd ((ld_wipe d k).1 0) k 0 else (ld_wipe d k).1 r) = (if r = 0 then (fun f => if f < k + 1 then 0 else d.1 0 f) else d.1 r)
  by_cases h : r = 0
  · subst h
    rw [if_pos rfl, if_pos rfl]
    funext f
    show (if f = k then 0 else (if f < k then 0 else d.1 0 f)) = _
    by_cases h1 : f = k
    · subst h1
      rw [if_pos rfl, if_pos (Nat.lt_succ_self f)]
    · rw [if_neg h1]
      by_cases h2 : f < k
      · rw [if_pos h2, if_pos (by omega)]
      · rw [if_neg h2, if_neg (by omega)]
  · rw [if_neg h, if_neg h]
    show (if r = 0 then _ else _) = _
    rw [if_neg h]
/-- the acts from place i on, so many are left -/
def shw (b : Bk) (kn : Nat) (y ut : Int32) : Nat → Nat → Ld → Int32 × Ld
  | 0, _, d => (1, d)
  | r + 1, i, d =>
    if z_at 80 (b.1 8) (nI i) = ut then (1, d) else
    if z_at 80 (b.1 1) (z_at 80 (b.1 8) (nI i)) ≤ y then
      if nI kn ≤ z_at 80 (b.1 8) (nI i) then shw b kn y ut r (i + 1) d else
      if r_act d b kn (z_at 80 (b.1 8) (nI i)) = 0 then (0, d_act d b kn (z_at 80 (b.1 8) (nI i))) else shw b kn y ut r (i + 1) (d_act d b kn (z_at 80 (b.1 8) (nI i)))
    else (1, d)
def ld_show (d : Ld) (b : Bk) (kn : Nat) (y ut : Int32) : Int32 × Ld := shw b kn y ut (b.2 0) 0 (ld_set (ld_wipe d 60) 0)
theorem shw_01 (b : Bk) (kn : Nat) (y ut : Int32) : ∀ (r i : Nat) (d : Ld), (shw b kn y ut r i d).1 = 0 ∨ (shw b kn y ut r i d).1 = 1
  | 0, _, d => Or.inr rfl
  | r + 1, i, d => by
    rw [shw]
    split
    · exact Or.inr rfl
    · split
      · split
        · exact shw_01 b kn y ut r (i + 1) d
        · split
          · exact Or.inl rfl
          · exact shw_01 b kn y ut r (i + 1) _
      · exact Or.inr rfl
theorem fX1_show_46 : Cond.fieldLink RX1 46 "TitheMap$Land" "book" "LTitheMap$Book;" ∈ wsX1_show := by decide +kernel
theorem fX1_show_50 : Cond.fieldLink RX1 50 "TitheMap$Land" "settled" "Z" ∈ wsX1_show := by decide +kernel
theorem fX1_show_54 : Cond.fieldLink RX1 54 "TitheMap$Book" "acts" "I" ∈ wsX1_show := by decide +kernel
theorem fX1_show_60 : Cond.fieldLink RX1 60 "TitheMap$Book" "order" "[I" ∈ wsX1_show := by decide +kernel
theorem fX1_show_67 : Cond.fieldLink RX1 67 "TitheMap$Book" "year" "[I" ∈ wsX1_show := by decide +kernel
theorem fX1_show_9 : Cond.fieldLink RX1 9 "TitheMap$Land" "there" "[Z" ∈ wsX1_show := by decide +kernel
theorem iX1_show_X0 : ∀ w ∈ wsX00, w ∈ wsX1_show := by decide +kernel
theorem iX1_show_X1 : ∀ w ∈ wsX10, w ∈ wsX1_show := by decide +kernel
set_option maxHeartbeats 4000000 in
set_option maxRecDepth 100000 in
theorem lX1_show2 {l : Launch} {D : va_G} {K : Nat → ClassId} {p : Program} {e : Env} {s : State} {m : MethodId} {below : List Frame} {meth : Method} {c : Code} {A : Nat → Prop} {args : Array Value} (E : zw_E p s m args c cX1_show 6 RX1 wsX1_show D (zT K) A) (hr : meth.sig.returnType = some .boolean) (hlk : meth.locks = false) (al ab : Nat → Nat) (b : Bk) (kn : Nat) (hkn : kn ≤ 80) (y ut : Int32) (h80 : b.2 0 ≤ 80) (hok : ∀ i, i < b.2 0 → en_ok b (z_at 80 (b.1 8) (nI i))) : ∀ (r i : Nat) (d : Ld), r + i = b.2 0 → zw_W p l e rmX1_show s m args below meth c 6 D A 0 0 (zw_Qi D A below args s (shw b kn y ut r i d).1 (lb_W K al ab (shw b kn y ut r i d).2 b)) 32 [(0, .ref (al 0)), (1, .int (nI kn)), (2, .int y), (3, .int ut), (4, .int (nI i))] [] (lb_W K al ab d b) := by
  intro r
  induction r with
  | zero =>
    intro i d hri
    have hi0 : b.2 0 ≤ i := by omega
    refine zw_iload (x := nI i) E 4 dX1_show_32 rfl (pc' := 34) rfl ?_
    refine zw_aload_n (i := 0) (x := al 0) E 0 dX1_show_34 rfl rfl (pc' := 35) rfl ?_
    refine zw_get (v := .ref (ab 0)) E 0 0 iX1_show_X1 fX1_show_46 rfl rfl (by decide) rfl rfl dX1_show_35 (pc' := 38) rfl ?_
    refine zw_get (v := .int (nI (b.2 0))) E 14 11 iX1_show_X0 fX1_show_54 rfl rfl (by decide) rfl rfl dX1_show_38 (pc' := 41) rfl ?_
    refine zw_icmp_ge (tgt := 106) E dX1_show_41 (by decide) (pc' := 44) rfl (fun c_1 => ?_) (fun c_1 => ?_)
    · skip
      refine zw_iconst (v := 1) E dX1_show_106 (by decide) (pc' := 107) rfl ?_
      exact zw_zret E hr hlk dX1_show_107 rfl rfl rfl
    · exact absurd (nI_le hi0 (by omega)) c_1
  | succ r ih =>
    intro i d hri
    have hi : i < b.2 0 := by omega
    refine zw_iload (x := nI i) E 4 dX1_show_32 rfl (pc' := 34) rfl ?_
    refine zw_aload_n (i := 0) (x := al 0) E 0 dX1_show_34 rfl rfl (pc' := 35) rfl ?_
    refine zw_get (v := .ref (ab 0)) E 0 0 iX1_show_X1 fX1_show_46 rfl rfl (by decide) rfl rfl dX1_show_35 (pc' := 38) rfl ?_
    refine zw_get (v := .int (nI (b.2 0))) E 14 11 iX1_show_X0 fX1_show_54 rfl rfl (by decide) rfl rfl dX1_show_38 (pc' := 41) rfl ?_
    refine zw_icmp_ge (tgt := 106) E dX1_show_41 (by decide) (pc' := 44) rfl (fun c_1 => ?_) (fun c_1 => ?_)
    · exact absurd c_1 (nI_ge hi (by omega))
    · skip
      refine zw_aload_n (i := 0) (x := al 0) E 0 dX1_show_44 rfl rfl (pc' := 45) rfl ?_
      refine zw_get (v := .ref (ab 0)) E 0 0 iX1_show_X1 fX1_show_46 rfl rfl (by decide) rfl rfl dX1_show_45 (pc' := 48) rfl ?_
      refine zw_get (v := .ref (ab 9)) E 14 8 iX1_show_X0 fX1_show_60 rfl rfl (by decide) rfl rfl dX1_show_48 (pc' := 51) rfl ?_
      refine zw_iload (x := nI i) E 4 dX1_show_51 rfl (pc' := 53) rfl ?_
      refine zw_callIn E (r := z_at 80 (b.1 8) (nI i)) (As := [.ref (ab 9), .int (nI i)]) (rest := []) (ws' := (lb_W K al ab d b)) (qX2_at l D K (ab 9) 80 (b.1 8) (nI i) (by decide)) ⟨va_cnB 2 E.2.2.2.2.1 gX1_show_X2_at_n63 rfl rfl rfl E.2.2.2.2.2.2.2.2.2 (E.2.2.2.2.1 _ (by decide +kernel)) (by decide +kernel) ⟨Nat.le_of_ble_eq_true rfl, Nat.le_of_ble_eq_true rfl⟩, E.2.2.2.2.1 _ (by decide +kernel), trivial⟩ [23] (by decide) rfl rfl (zw_put_same _ _ _ rfl) rfl rfl (Nat.le_of_ble_eq_true rfl) ⟨Nat.zero_le _, Nat.zero_le _⟩ dX1_show_53 (pc' := 56) rfl ?_
      refine zw_istore (lv' := [(5, .int (z_at 80 (b.1 8) (nI i))), (0, .ref (al 0)), (1, .int (nI kn)), (2, .int y), (3, .int ut), (4, .int (nI i))]) E dX1_show_56 (by decide) rfl (pc' := 58) rfl ?_
      refine zw_iload (x := z_at 80 (b.1 8) (nI i)) E 0 dX1_show_58 rfl (pc' := 60) rfl ?_
      refine zw_iload_n (i := 3) (x := ut) E 4 dX1_show_60 rfl rfl (pc' := 61) rfl ?_
      refine zw_icmp_eq (tgt := 80) E dX1_show_61 (by decide) (pc' := 64) rfl (fun c_2 => ?_) (fun c_2 => ?_)
      · skip
        refine zw_iconst (v := 1) E dX1_show_80 (by decide) (pc' := 81) rfl ?_
        exact zw_zret E hr hlk dX1_show_81 rfl (by rw [shw, if_pos c_2]) (by rw [shw, if_pos c_2])
      · skip
        refine zw_aload_n (i := 0) (x := al 0) E 1 dX1_show_64 rfl rfl (pc' := 65) rfl ?_
        refine zw_get (v := .ref (ab 0)) E 0 0 iX1_show_X1 fX1_show_46 rfl rfl (by decide) rfl rfl dX1_show_65 (pc' := 68) rfl ?_
        refine zw_get (v := .ref (ab 2)) E 14 1 iX1_show_X0 fX1_show_67 rfl rfl (by decide) rfl rfl dX1_show_68 (pc' := 71) rfl ?_
        refine zw_iload (x := z_at 80 (b.1 8) (nI i)) E 0 dX1_show_71 rfl (pc' := 73) rfl ?_
        refine zw_callIn E (r := z_at 80 (b.1 1) (z_at 80 (b.1 8) (nI i))) (As := [.ref (ab 2), .int (z_at 80 (b.1 8) (nI i))]) (rest := []) (ws' := (lb_W K al ab d b)) (qX2_at l D K (ab 2) 80 (b.1 1) (z_at 80 (b.1 8) (nI i)) (by decide)) ⟨va_cnB 2 E.2.2.2.2.1 gX1_show_X2_at_n63 rfl rfl rfl E.2.2.2.2.2.2.2.2.2 (E.2.2.2.2.1 _ (by decide +kernel)) (by decide +kernel) ⟨Nat.le_of_ble_eq_true rfl, Nat.le_of_ble_eq_true rfl⟩, E.2.2.2.2.1 _ (by decide +kernel), trivial⟩ [16] (by decide) rfl rfl (zw_put_same _ _ _ rfl) rfl rfl (Nat.le_of_ble_eq_true rfl) ⟨Nat.zero_le _, Nat.zero_le _⟩ dX1_show_73 (pc' := 76) rfl ?_
        refine zw_iload_n (i := 2) (x := y) E 3 dX1_show_76 rfl rfl (pc' := 77) rfl ?_
        refine zw_icmp_le (tgt := 82) E dX1_show_77 (by decide) (pc' := 80) rfl (fun c_3 => ?_) (fun c_3 => ?_)
        · skip
          refine zw_iload (x := z_at 80 (b.1 8) (nI i)) E 0 dX1_show_82 rfl (pc' := 84) rfl ?_
          refine zw_iload_n (i := 1) (x := nI kn) E 2 dX1_show_84 rfl rfl (pc' := 85) rfl ?_
          refine zw_icmp_ge (tgt := 100) E dX1_show_85 (by decide) (pc' := 88) rfl (fun c_4 => ?_) (fun c_4 => ?_)
          · skip
            refine zw_iinc (x := nI i) (v := nI (i + 1)) (lv' := [(4, .int (nI (i + 1))), (5, .int (z_at 80 (b.1 8) (nI i))), (0, .ref (al 0)), (1, .int (nI kn)), (2, .int y), (3, .int ut)]) E 5 dX1_show_100 rfl (zw_inc1 i) (by decide) rfl (pc' := 103) rfl ?_
            refine zw_goto (tgt := 32) E dX1_show_103 (by decide) ?_
            have e1 : shw b kn y ut (r + 1) i d = shw b kn y ut r (i + 1) d := by rw [shw, if_neg c_2, if_pos c_3, if_pos c_4]
            rw [e1]
            refine zw_sub [2, 3, 4, 5, 0] (lv' := [(0, .ref (al 0)), (1, .int (nI kn)), (2, .int y), (3, .int ut), (4, .int (nI (i + 1)))]) rfl ?_
            exact ih (i + 1) d (by omega)
          · skip
            refine zw_aload_n (i := 0) (x := al 0) E 1 dX1_show_88 rfl rfl (pc' := 89) rfl ?_
            refine zw_iload (x := z_at 80 (b.1 8) (nI i)) E 0 dX1_show_89 rfl (pc' := 91) rfl ?_
            refine zw_iload_n (i := 1) (x := nI kn) E 2 dX1_show_91 rfl rfl (pc' := 92) rfl ?_
            refine zw_callIw E (r := r_act d b kn (z_at 80 (b.1 8) (nI i))) (As := [.int (z_at 80 (b.1 8) (nI i)), .int (nI kn)]) (rest := []) (ws' := (lb_W K al ab (d_act d b kn (z_at 80 (b.1 8) (nI i))) b)) (qX1_tryAct l D K al ab d b (z_at 80 (b.1 8) (nI i)) kn hkn (hok i hi)) (cwV 2 E.2.2.2.2.1 gX1_show_X1_tryAct rfl rfl rfl (by decide +kernel) ⟨Nat.le_of_ble_eq_true rfl, Nat.le_of_ble_eq_true rfl⟩) 0 rfl rfl rfl (lb_ad _ _ _ _ _ _ _) rfl rfl (Nat.le_of_ble_eq_true rfl) ⟨Nat.zero_le _, Nat.zero_le _⟩ dX1_show_92 (pc' := 95) rfl ?_
            refine zw_if_ne (tgt := 100) E dX1_show_95 (by decide) (pc' := 98) rfl (fun c_5 => ?_) (fun c_5 => ?_)
            · skip
              refine zw_iinc (x := nI i) (v := nI (i + 1)) (lv' := [(4, .int (nI (i + 1))), (5, .int (z_at 80 (b.1 8) (nI i))), (0, .ref (al 0)), (1, .int (nI kn)), (2, .int y), (3, .int ut)]) E 5 dX1_show_100 rfl (zw_inc1 i) (by decide) rfl (pc' := 103) rfl ?_
              refine zw_goto (tgt := 32) E dX1_show_103 (by decide) ?_
              have e1 : shw b kn y ut (r + 1) i d = shw b kn y ut r (i + 1) (d_act d b kn (z_at 80 (b.1 8) (nI i))) := by rw [shw, if_neg c_2, if_pos c_3, if_neg c_4, if_neg c_5]
              rw [e1]
              refine zw_sub [2, 3, 4, 5, 0] (lv' := [(0, .ref (al 0)), (1, .int (nI kn)), (2, .int y), (3, .int ut), (4, .int (nI (i + 1)))]) rfl ?_
              exact ih (i + 1) (d_act d b kn (z_at 80 (b.1 8) (nI i))) (by omega)
            · skip
              refine zw_iconst (v := 0) E dX1_show_98 (by decide) (pc' := 99) rfl ?_
              exact zw_zret E hr hlk dX1_show_99 rfl (by rw [shw, if_neg c_2, if_pos c_3, if_neg c_4, if_pos c_5]) (by rw [shw, if_neg c_2, if_pos c_3, if_neg c_4, if_pos c_5])
        · skip
          refine zw_iconst (v := 1) E dX1_show_80 (by decide) (pc' := 81) rfl ?_
          exact zw_zret E hr hlk dX1_show_81 rfl (by rw [shw, if_neg c_2, if_neg c_3]) (by rw [shw, if_neg c_2, if_neg c_3])

set_option maxHeartbeats 4000000 in
set_option maxRecDepth 100000 in
theorem lX1_show {l : Launch} {D : va_G} {K : Nat → ClassId} {p : Program} {e : Env} {s : State} {m : MethodId} {below : List Frame} {meth : Method} {c : Code} {A : Nat → Prop} {args : Array Value} (E : zw_E p s m args c cX1_show 6 RX1 wsX1_show D (zT K) A) (hr : meth.sig.returnType = (some .boolean)) (hlk : meth.locks = false) (al ab : Nat → Nat) (d : Ld) (b : Bk) (kn : Nat) (hkn : kn ≤ 80) (y ut : Int32) (h80 : b.2 0 ≤ 80) (hok : ∀ i, i < b.2 0 → en_ok b (z_at 80 (b.1 8) (nI i))) : ∀ (fu k : Nat), k ≤ 60 → 60 + 1 ≤ k + fu → zw_W p l e rmX1_show s m args below meth c 6 D A 0 0 (zw_Qi D A below args s (ld_show d b kn y ut).1 (lb_W K al ab (ld_show d b kn y ut).2 b)) 3 [(0, .ref (al 0)), (1, .int (nI kn)), (2, .int y), (3, .int ut), (4, .int (nI k))] [] (lb_W K al ab (ld_wipe d k) b) := by
  intro fu
  induction fu with
  | zero => intro k h1 h2; exact absurd h2 (by omega)
  | succ fu ih =>
    intro k hle hfu
    refine zw_iload (x := nI k) E 4 dX1_show_3 rfl (pc' := 5) rfl ?_
    refine zw_bipush (v := 60) E dX1_show_5 (by decide) (pc' := 7) rfl ?_
    refine zw_icmp_ge (tgt := 24) E dX1_show_7 (by decide) (pc' := 10) rfl (fun c_1 => ?_) (fun c_1 => ?_)
    · skip
      have hk60 : k = 60 := zw_ge60 c_1 hle
      refine zw_aload_n (i := 0) (x := al 0) E 0 dX1_show_24 rfl rfl (pc' := 25) rfl ?_
      refine zw_iconst (v := 0) E dX1_show_25 (by decide) (pc' := 26) rfl ?_
      refine zw_putf (v := .int 0) (ty := .boolean) (ws' := (lb_W K al ab (ld_set (ld_wipe d k) 0) b)) E 0 11 iX1_show_X1 tyX1_ok nmX1 fX1_show_50 rfl rfl (by decide) rfl rfl rfl rfl rfl (Nat.le_of_ble_eq_true rfl) rfl dX1_show_26 (pc' := 29) rfl ?_
      refine zw_iconst (v := 0) E dX1_show_29 (by decide) (pc' := 30) rfl ?_
      refine zw_istore (lv' := [(4, .int 0), (0, .ref (al 0)), (1, .int (nI kn)), (2, .int y), (3, .int ut)]) E dX1_show_30 (by decide) rfl (pc' := 32) rfl ?_
      refine zw_sub [1, 2, 3, 4, 0] (lv' := [(0, .ref (al 0)), (1, .int (nI kn)), (2, .int y), (3, .int ut), (4, .int 0)]) rfl ?_
      rw [hk60]
      exact lX1_show2 E hr hlk al ab b kn hkn y ut h80 hok (b.2 0) 0 _ (by omega)
    · skip
      have hk : k < 60 := zw_lt60 c_1 hle
      refine zw_aload_n (i := 0) (x := al 0) E 0 dX1_show_10 rfl rfl (pc' := 11) rfl ?_
      refine zw_get (v := .ref (al 1)) E 0 1 iX1_show_X1 fX1_show_9 rfl rfl (by decide) rfl rfl dX1_show_11 (pc' := 14) rfl ?_
      refine zw_iload (x := nI k) E 4 dX1_show_14 rfl (pc' := 16) rfl ?_
      refine zw_iconst (v := 0) E dX1_show_16 (by decide) (pc' := 17) rfl ?_
      refine zw_zast (j := k) (ws' := (lb_W K al ab (ld_row (ld_wipe d k) 0 k 0) b)) E 1 1 rfl rfl (vp_in_nI hk (by decide)) (zw_clamp hk (by decide)) rfl dX1_show_17 (pc' := 18) rfl ?_
      refine zw_iinc (x := nI k) (v := nI (k + 1)) (lv' := [(4, .int (nI (k + 1))), (0, .ref (al 0)), (1, .int (nI kn)), (2, .int y), (3, .int ut)]) E 4 dX1_show_18 rfl (zw_inc1 k) (by decide) rfl (pc' := 21) rfl ?_
      refine zw_goto (tgt := 3) E dX1_show_21 (by decide) ?_
      refine zw_ws (ws' := lb_W K al ab (ld_wipe d (k + 1)) b) (congrArg (fun z => lb_W K al ab z b) (ld_wipe_succ d k)) ?_
      refine zw_sub [1, 2, 3, 4, 0] (lv' := [(0, .ref (al 0)), (1, .int (nI kn)), (2, .int y), (3, .int ut), (4, .int (nI (k + 1)))]) rfl ?_
      exact ih (k + 1) (by omega) (by omega)

set_option maxHeartbeats 4000000 in
set_option maxRecDepth 100000 in
/-- show(k, y, until) -/
theorem qX1_show (l : Launch) (D : va_G) (K : Nat → ClassId) (al ab : Nat → Nat) (d : Ld) (b : Bk) (kn : Nat) (hkn : kn ≤ 80) (y ut : Int32) (h80 : b.2 0 ≤ 80) (hok : ∀ i, i < b.2 0 → en_ok b (z_at 80 (b.1 8) (nI i))) : zw_I l yX1_show wsX1_show rmX1_show D (zT K) [.ref (al 0), .int (nI kn), .int y, .int ut] (lb_W K al ab d b) ((ld_show d b kn y ut).1) (lb_W K al ab (ld_show d b kn y ut).2 b) := by
  refine zw_ofI (cc := cX1_show) (nL := 6) (ret := (some .boolean)) (own := RX1) (lv := [(0, .ref (al 0)), (1, .int (nI kn)), (2, .int y), (3, .int ut)]) (by decide) rfl (Nat.le_of_ble_eq_true rfl) rfl rfl ?_
  intro p e s m below meth c A E hr hlk
  refine zw_iconst (v := 0) E dX1_show_0 (by decide) (pc' := 1) rfl ?_
  refine zw_istore (lv' := [(4, .int 0), (0, .ref (al 0)), (1, .int (nI kn)), (2, .int y), (3, .int ut)]) E dX1_show_1 (by decide) rfl (pc' := 3) rfl ?_
  refine zw_ws (ws' := lb_W K al ab (ld_wipe d 0) b) (congrArg (fun z => lb_W K al ab z b) (ld_wipe_0 d).symm) ?_
  refine zw_sub [1, 2, 3, 4, 0] (lv' := [(0, .ref (al 0)), (1, .int (nI kn)), (2, .int y), (3, .int ut), (4, .int 0)]) rfl ?_
  exact lX1_show E hr hlk al ab d b kn hkn y ut h80 hok 61 0 (by omega) (by omega)
end
section
/-! the land: worthByMeans, worth, worthOfAll, tell, howMany, sumOf, isOtherwise -/
def w_money (d : Ld) (i : Nat) : Int64 := (0 + (d.1 7 i).toInt64 * (d.1 6 0).toInt64 + (d.1 8 i).toInt64 * (d.1 6 1).toInt64 + (d.1 9 i).toInt64 * (d.1 6 2).toInt64 + 50) / 100
theorem kX1_worthByMeans_154 : Cond.constantLong RX1 154 (50) ∈ wsX1_worthByMeans := by decide +kernel
theorem kX1_worthByMeans_156 : Cond.constantLong RX1 156 (100) ∈ wsX1_worthByMeans := by decide +kernel
theorem fX1_worthByMeans_27 : Cond.fieldLink RX1 27 "TitheMap$Land" "charge" "[[I" ∈ wsX1_worthByMeans := by decide +kernel
theorem fX1_worthByMeans_43 : Cond.fieldLink RX1 43 "TitheMap$Land" "means" "[I" ∈ wsX1_worthByMeans := by decide +kernel
theorem iX1_worthByMeans_X1 : ∀ w ∈ wsX10, w ∈ wsX1_worthByMeans := by decide +kernel
set_option maxHeartbeats 4000000 in
set_option maxRecDepth 100000 in
/-- worthByMeans(f) -/
theorem qX1_worthByMeans (l : Launch) (D : va_G) (K : Nat → ClassId) (al : Nat → Nat) (bq : Nat) (d : Ld) (f : Int32) (i : Nat) (hf : 0 ≤ f ∧ f < 60) (hi : f.toNatClampNeg = i) : zw_L l yX1_worthByMeans wsX1_worthByMeans rmX1_worthByMeans D (zT K) [.ref (al 0), .int f] (ld_W K al bq d) (w_money d i) (ld_W K al bq d) := by
  refine zw_ofL (cc := cX1_worthByMeans) (nL := 5) (ret := (some .long)) (own := RX1) (lv := [(0, .ref (al 0)), (1, .int f)]) (by decide) rfl (Nat.le_of_ble_eq_true rfl) rfl rfl ?_
  intro p e s m below meth c A E hr hlk
  refine zw_lconst (v := 0) E dX1_worthByMeans_0 (by decide) (pc' := 1) rfl ?_
  refine zw_lstore_n (lv' := [(2, .long 0), (0, .ref (al 0)), (1, .int f)]) E dX1_worthByMeans_1 rfl (by decide) rfl (pc' := 2) rfl ?_
  refine zw_iconst (v := 0) E dX1_worthByMeans_2 (by decide) (pc' := 3) rfl ?_
  refine zw_istore (lv' := [(4, .int 0), (2, .long 0), (0, .ref (al 0)), (1, .int f)]) E dX1_worthByMeans_3 (by decide) rfl (pc' := 5) rfl ?_
  refine zw_iload (x := 0) E 0 dX1_worthByMeans_5 rfl (pc' := 7) rfl ?_
  refine zw_iconst (v := 3) E dX1_worthByMeans_7 (by decide) (pc' := 8) rfl ?_
  refine zw_icmp_ge (tgt := 46) E dX1_worthByMeans_8 (by decide) (pc' := 11) rfl (fun c9 => absurd c9 (by decide)) (fun _ => ?_)
  refine zw_iload_n (i := 1) (x := f) E 3 dX1_worthByMeans_11 rfl rfl (pc' := 12) rfl ?_
  refine zw_callIs E (r := zb (0 ≤ f ∧ f < 60)) (As := [.int f]) (rest := []) (ws' := (ld_W K al bq d)) (qX1_isNumber l D K f) (va_cwS 1 E.2.2.2.2.1 gX1_worthByMeans_X1_isNumber rfl rfl rfl (by decide +kernel) ⟨Nat.le_of_ble_eq_true rfl, Nat.le_of_ble_eq_true rfl⟩) [] (by decide) rfl rfl (zw_put_same _ _ _ rfl) rfl rfl (Nat.le_of_ble_eq_true rfl) ⟨Nat.zero_le _, Nat.zero_le _⟩ dX1_worthByMeans_12 (pc' := 15) rfl ?_
  refine zw_ifb_eq (tgt := 46) E dX1_worthByMeans_15 (by decide) (pc' := 18) rfl (fun c_1 => ?_) (fun c_1 => ?_)
  · exact absurd hf c_1
  · skip
    refine zw_lload_n (i := 2) (x := 0) E 1 dX1_worthByMeans_18 rfl rfl (pc' := 19) rfl ?_
    refine zw_aload_n (i := 0) (x := al 0) E 2 dX1_worthByMeans_19 rfl rfl (pc' := 20) rfl ?_
    refine zw_get (v := .ref (al 5)) E 0 5 iX1_worthByMeans_X1 fX1_worthByMeans_27 rfl rfl (by decide) rfl rfl dX1_worthByMeans_20 (pc' := 23) rfl ?_
    refine zw_iload (x := 0) E 0 dX1_worthByMeans_23 rfl (pc' := 25) rfl ?_
    refine zw_aald (j := 0) (b := al 11) E 5 3 rfl rfl (vp_in_nI (n := 0) (N := 3) (by decide) (by decide)) rfl rfl dX1_worthByMeans_25 (pc' := 26) rfl ?_
    refine zw_iload_n (i := 1) (x := f) E 3 dX1_worthByMeans_26 rfl rfl (pc' := 27) rfl ?_
    refine zw_iald (j := i) (x := d.1 7 i) E 11 0 rfl rfl (zw_in3 hf.1 hf.2) hi rfl dX1_worthByMeans_27 (pc' := 28) rfl ?_
    refine zw_i2l E dX1_worthByMeans_28 (pc' := 29) rfl ?_
    refine zw_aload_n (i := 0) (x := al 0) E 2 dX1_worthByMeans_29 rfl rfl (pc' := 30) rfl ?_
    refine zw_get (v := .ref (al 10)) E 0 10 iX1_worthByMeans_X1 fX1_worthByMeans_43 rfl rfl (by decide) rfl rfl dX1_worthByMeans_30 (pc' := 33) rfl ?_
    refine zw_iload (x := 0) E 0 dX1_worthByMeans_33 rfl (pc' := 35) rfl ?_
    refine zw_iald (j := 0) (x := d.1 6 0) E 10 0 rfl rfl (vp_in_nI (n := 0) (N := 3) (by decide) (by decide)) rfl rfl dX1_worthByMeans_35 (pc' := 36) rfl ?_
    refine zw_i2l E dX1_worthByMeans_36 (pc' := 37) rfl ?_
    refine zw_lmul E dX1_worthByMeans_37 (pc' := 38) rfl ?_
    refine zw_ladd E dX1_worthByMeans_38 (pc' := 39) rfl ?_
    refine zw_lstore_n (lv' := [(2, .long (0 + (((d.1 7 i).toInt64) * ((d.1 6 0).toInt64)))), (4, .int 0), (0, .ref (al 0)), (1, .int f)]) E dX1_worthByMeans_39 rfl (by decide) rfl (pc' := 40) rfl ?_
    refine zw_iinc (x := 0) (v := 1) (lv' := [(4, .int 1), (2, .long (0 + (((d.1 7 i).toInt64) * ((d.1 6 0).toInt64)))), (0, .ref (al 0)), (1, .int f)]) E 1 dX1_worthByMeans_40 rfl (by decide) (by decide) rfl (pc' := 43) rfl ?_
    refine zw_goto (tgt := 5) E dX1_worthByMeans_43 (by decide) ?_
    refine zw_iload (x := 1) E 0 dX1_worthByMeans_5 rfl (pc' := 7) rfl ?_
    refine zw_iconst (v := 3) E dX1_worthByMeans_7 (by decide) (pc' := 8) rfl ?_
    refine zw_icmp_ge (tgt := 46) E dX1_worthByMeans_8 (by decide) (pc' := 11) rfl (fun c9 => absurd c9 (by decide)) (fun _ => ?_)
    refine zw_iload_n (i := 1) (x := f) E 3 dX1_worthByMeans_11 rfl rfl (pc' := 12) rfl ?_
    refine zw_callIs E (r := zb (0 ≤ f ∧ f < 60)) (As := [.int f]) (rest := []) (ws' := (ld_W K al bq d)) (qX1_isNumber l D K f) (va_cwS 1 E.2.2.2.2.1 gX1_worthByMeans_X1_isNumber rfl rfl rfl (by decide +kernel) ⟨Nat.le_of_ble_eq_true rfl, Nat.le_of_ble_eq_true rfl⟩) [] (by decide) rfl rfl (zw_put_same _ _ _ rfl) rfl rfl (Nat.le_of_ble_eq_true rfl) ⟨Nat.zero_le _, Nat.zero_le _⟩ dX1_worthByMeans_12 (pc' := 15) rfl ?_
    refine zw_ifb_eq (tgt := 46) E dX1_worthByMeans_15 (by decide) (pc' := 18) rfl (fun c_2 => ?_) (fun c_2 => ?_)
    · exact absurd hf c_2
    · skip
      refine zw_lload_n (i := 2) (x := 0 + (((d.1 7 i).toInt64) * ((d.1 6 0).toInt64))) E 1 dX1_worthByMeans_18 rfl rfl (pc' := 19) rfl ?_
      refine zw_aload_n (i := 0) (x := al 0) E 2 dX1_worthByMeans_19 rfl rfl (pc' := 20) rfl ?_
      refine zw_get (v := .ref (al 5)) E 0 5 iX1_worthByMeans_X1 fX1_worthByMeans_27 rfl rfl (by decide) rfl rfl dX1_worthByMeans_20 (pc' := 23) rfl ?_
      refine zw_iload (x := 1) E 0 dX1_worthByMeans_23 rfl (pc' := 25) rfl ?_
      refine zw_aald (j := 1) (b := al 12) E 5 3 rfl rfl (vp_in_nI (n := 1) (N := 3) (by decide) (by decide)) rfl rfl dX1_worthByMeans_25 (pc' := 26) rfl ?_
      refine zw_iload_n (i := 1) (x := f) E 3 dX1_worthByMeans_26 rfl rfl (pc' := 27) rfl ?_
      refine zw_iald (j := i) (x := d.1 8 i) E 12 0 rfl rfl (zw_in3 hf.1 hf.2) hi rfl dX1_worthByMeans_27 (pc' := 28) rfl ?_
      refine zw_i2l E dX1_worthByMeans_28 (pc' := 29) rfl ?_
      refine zw_aload_n (i := 0) (x := al 0) E 2 dX1_worthByMeans_29 rfl rfl (pc' := 30) rfl ?_
      refine zw_get (v := .ref (al 10)) E 0 10 iX1_worthByMeans_X1 fX1_worthByMeans_43 rfl rfl (by decide) rfl rfl dX1_worthByMeans_30 (pc' := 33) rfl ?_
      refine zw_iload (x := 1) E 0 dX1_worthByMeans_33 rfl (pc' := 35) rfl ?_
      refine zw_iald (j := 1) (x := d.1 6 1) E 10 0 rfl rfl (vp_in_nI (n := 1) (N := 3) (by decide) (by decide)) rfl rfl dX1_worthByMeans_35 (pc' := 36) rfl ?_
      refine zw_i2l E dX1_worthByMeans_36 (pc' := 37) rfl ?_
      refine zw_lmul E dX1_worthByMeans_37 (pc' := 38) rfl ?_
      refine zw_ladd E dX1_worthByMeans_38 (pc' := 39) rfl ?_
      refine zw_lstore_n (lv' := [(2, .long ((0 + (((d.1 7 i).toInt64) * ((d.1 6 0).toInt64))) + (((d.1 8 i).toInt64) * ((d.1 6 1).toInt64)))), (4, .int 1), (0, .ref (al 0)), (1, .int f)]) E dX1_worthByMeans_39 rfl (by decide) rfl (pc' := 40) rfl ?_
      refine zw_iinc (x := 1) (v := 2) (lv' := [(4, .int 2), (2, .long ((0 + (((d.1 7 i).toInt64) * ((d.1 6 0).toInt64))) + (((d.1 8 i).toInt64) * ((d.1 6 1).toInt64)))), (0, .ref (al 0)), (1, .int f)]) E 1 dX1_worthByMeans_40 rfl (by decide) (by decide) rfl (pc' := 43) rfl ?_
      refine zw_goto (tgt := 5) E dX1_worthByMeans_43 (by decide) ?_
      refine zw_iload (x := 2) E 0 dX1_worthByMeans_5 rfl (pc' := 7) rfl ?_
      refine zw_iconst (v := 3) E dX1_worthByMeans_7 (by decide) (pc' := 8) rfl ?_
      refine zw_icmp_ge (tgt := 46) E dX1_worthByMeans_8 (by decide) (pc' := 11) rfl (fun c9 => absurd c9 (by decide)) (fun _ => ?_)
      refine zw_iload_n (i := 1) (x := f) E 3 dX1_worthByMeans_11 rfl rfl (pc' := 12) rfl ?_
      refine zw_callIs E (r := zb (0 ≤ f ∧ f < 60)) (As := [.int f]) (rest := []) (ws' := (ld_W K al bq d)) (qX1_isNumber l D K f) (va_cwS 1 E.2.2.2.2.1 gX1_worthByMeans_X1_isNumber rfl rfl rfl (by decide +kernel) ⟨Nat.le_of_ble_eq_true rfl, Nat.le_of_ble_eq_true rfl⟩) [] (by decide) rfl rfl (zw_put_same _ _ _ rfl) rfl rfl (Nat.le_of_ble_eq_true rfl) ⟨Nat.zero_le _, Nat.zero_le _⟩ dX1_worthByMeans_12 (pc' := 15) rfl ?_
      refine zw_ifb_eq (tgt := 46) E dX1_worthByMeans_15 (by decide) (pc' := 18) rfl (fun c_3 => ?_) (fun c_3 => ?_)
      · exact absurd hf c_3
      · skip
        refine zw_lload_n (i := 2) (x := (0 + (((d.1 7 i).toInt64) * ((d.1 6 0).toInt64))) + (((d.1 8 i).toInt64) * ((d.1 6 1).toInt64))) E 1 dX1_worthByMeans_18 rfl rfl (pc' := 19) rfl ?_
        refine zw_aload_n (i := 0) (x := al 0) E 2 dX1_worthByMeans_19 rfl rfl (pc' := 20) rfl ?_
        refine zw_get (v := .ref (al 5)) E 0 5 iX1_worthByMeans_X1 fX1_worthByMeans_27 rfl rfl (by decide) rfl rfl dX1_worthByMeans_20 (pc' := 23) rfl ?_
        refine zw_iload (x := 2) E 0 dX1_worthByMeans_23 rfl (pc' := 25) rfl ?_
        refine zw_aald (j := 2) (b := al 13) E 5 3 rfl rfl (vp_in_nI (n := 2) (N := 3) (by decide) (by decide)) rfl rfl dX1_worthByMeans_25 (pc' := 26) rfl ?_
        refine zw_iload_n (i := 1) (x := f) E 3 dX1_worthByMeans_26 rfl rfl (pc' := 27) rfl ?_
        refine zw_iald (j := i) (x := d.1 9 i) E 13 0 rfl rfl (zw_in3 hf.1 hf.2) hi rfl dX1_worthByMeans_27 (pc' := 28) rfl ?_
        refine zw_i2l E dX1_worthByMeans_28 (pc' := 29) rfl ?_
        refine zw_aload_n (i := 0) (x := al 0) E 2 dX1_worthByMeans_29 rfl rfl (pc' := 30) rfl ?_
        refine zw_get (v := .ref (al 10)) E 0 10 iX1_worthByMeans_X1 fX1_worthByMeans_43 rfl rfl (by decide) rfl rfl dX1_worthByMeans_30 (pc' := 33) rfl ?_
        refine zw_iload (x := 2) E 0 dX1_worthByMeans_33 rfl (pc' := 35) rfl ?_
        refine zw_iald (j := 2) (x := d.1 6 2) E 10 0 rfl rfl (vp_in_nI (n := 2) (N := 3) (by decide) (by decide)) rfl rfl dX1_worthByMeans_35 (pc' := 36) rfl ?_
        refine zw_i2l E dX1_worthByMeans_36 (pc' := 37) rfl ?_
        refine zw_lmul E dX1_worthByMeans_37 (pc' := 38) rfl ?_
        refine zw_ladd E dX1_worthByMeans_38 (pc' := 39) rfl ?_
        refine zw_lstore_n (lv' := [(2, .long (((0 + (((d.1 7 i).toInt64) * ((d.1 6 0).toInt64))) + (((d.1 8 i).toInt64) * ((d.1 6 1).toInt64))) + (((d.1 9 i).toInt64) * ((d.1 6 2).toInt64)))), (4, .int 2), (0, .ref (al 0)), (1, .int f)]) E dX1_worthByMeans_39 rfl (by decide) rfl (pc' := 40) rfl ?_
        refine zw_iinc (x := 2) (v := 3) (lv' := [(4, .int 3), (2, .long (((0 + (((d.1 7 i).toInt64) * ((d.1 6 0).toInt64))) + (((d.1 8 i).toInt64) * ((d.1 6 1).toInt64))) + (((d.1 9 i).toInt64) * ((d.1 6 2).toInt64)))), (0, .ref (al 0)), (1, .int f)]) E 1 dX1_worthByMeans_40 rfl (by decide) (by decide) rfl (pc' := 43) rfl ?_
        refine zw_goto (tgt := 5) E dX1_worthByMeans_43 (by decide) ?_
        refine zw_iload (x := 3) E 0 dX1_worthByMeans_5 rfl (pc' := 7) rfl ?_
        refine zw_iconst (v := 3) E dX1_worthByMeans_7 (by decide) (pc' := 8) rfl ?_
        refine zw_icmp_ge (tgt := 46) E dX1_worthByMeans_8 (by decide) (pc' := 11) rfl (fun _ => ?_) (fun c9 => absurd (by decide) c9)
        refine zw_lload_n (i := 2) (x := ((0 + (((d.1 7 i).toInt64) * ((d.1 6 0).toInt64))) + (((d.1 8 i).toInt64) * ((d.1 6 1).toInt64))) + (((d.1 9 i).toInt64) * ((d.1 6 2).toInt64))) E 1 dX1_worthByMeans_46 rfl rfl (pc' := 47) rfl ?_
        refine zw_ldc2 (v := 50) E dX1_worthByMeans_47 kX1_worthByMeans_154 (pc' := 50) rfl ?_
        refine zw_ladd E dX1_worthByMeans_50 (pc' := 51) rfl ?_
        refine zw_ldc2 (v := 100) E dX1_worthByMeans_51 kX1_worthByMeans_156 (pc' := 54) rfl ?_
        refine zw_ldiv E dX1_worthByMeans_54 (by decide) (pc' := 55) rfl ?_
        exact zw_lret E hr hlk dX1_worthByMeans_55 rfl rfl

def r_worth (d : Ld) (b : Bk) (kn : Nat) (y f : Int32) : Int64 := if is_there d f then if means_known b kn y then w_money (ld_means d b kn y) f.toNatClampNeg else -1 else -1
def d_worth (d : Ld) (b : Bk) (kn : Nat) (y f : Int32) : Ld := if is_there d f then ld_means d b kn y else d
theorem kX1_worth_152 : Cond.constantLong RX1 152 (-1) ∈ wsX1_worth := by decide +kernel
set_option maxHeartbeats 4000000 in
set_option maxRecDepth 100000 in
/-- worth(k, y, f) -/
theorem qX1_worth (l : Launch) (D : va_G) (K : Nat → ClassId) (al ab : Nat → Nat) (d : Ld) (b : Bk) (n : Nat) (hn : n ≤ 80) (y f : Int32) : zw_L l yX1_worth wsX1_worth rmX1_worth D (zT K) [.ref (al 0), .int (nI n), .int y, .int f] (lb_W K al ab d b) (r_worth d b n y f) (lb_W K al ab (d_worth d b n y f) b) := by
  refine zw_ofL (cc := cX1_worth) (nL := 4) (ret := (some .long)) (own := RX1) (lv := [(0, .ref (al 0)), (1, .int (nI n)), (2, .int y), (3, .int f)]) (by decide) rfl (Nat.le_of_ble_eq_true rfl) rfl rfl ?_
  intro p e s m below meth c A E hr hlk
  refine zw_aload_n (i := 0) (x := al 0) E 0 dX1_worth_0 rfl rfl (pc' := 1) rfl ?_
  refine zw_iload_n (i := 3) (x := f) E 3 dX1_worth_1 rfl rfl (pc' := 2) rfl ?_
  refine zw_callIv E (r := zb (is_there d f)) (As := [.int f]) (rest := []) (ws' := (lb_W K al ab d b)) (qX1_isThere l D K al (ab 0) d f) (cwV 1 E.2.2.2.2.1 gX1_worth_X1_isThere rfl rfl rfl (by decide +kernel) ⟨Nat.le_of_ble_eq_true rfl, Nat.le_of_ble_eq_true rfl⟩) 0 rfl rfl rfl [0, 1, 2, 3, 4, 5, 6, 7, 8, 9, 10, 11, 12, 13] (by decide) emC_lb_d rfl (zw_put_same _ _ _ emC_lb_d) rfl rfl (Nat.le_of_ble_eq_true rfl) ⟨Nat.zero_le _, Nat.zero_le _⟩ dX1_worth_2 (pc' := 5) rfl ?_
  refine zw_ifb_eq (tgt := 25) E dX1_worth_5 (by decide) (pc' := 8) rfl (fun c_1 => ?_) (fun c_1 => ?_)
  · skip
    refine zw_ldc2 (v := (-1)) E dX1_worth_25 kX1_worth_152 (pc' := 28) rfl ?_
    exact zw_lret E hr hlk dX1_worth_28 (by unfold r_worth; rw [if_neg c_1]) (by unfold d_worth; rw [if_neg c_1])
  · skip
    refine zw_aload_n (i := 0) (x := al 0) E 0 dX1_worth_8 rfl rfl (pc' := 9) rfl ?_
    refine zw_iload_n (i := 1) (x := nI n) E 1 dX1_worth_9 rfl rfl (pc' := 10) rfl ?_
    refine zw_iload_n (i := 2) (x := y) E 2 dX1_worth_10 rfl rfl (pc' := 11) rfl ?_
    refine zw_callIw E (r := zb (means_known b n y)) (As := [.int (nI n), .int y]) (rest := []) (ws' := (lb_W K al ab (ld_means d b n y) b)) (qX1_areMeansKnown l D K al ab d b n hn y) (cwV 2 E.2.2.2.2.1 gX1_worth_X1_areMeansKnown rfl rfl rfl (by decide +kernel) ⟨Nat.le_of_ble_eq_true rfl, Nat.le_of_ble_eq_true rfl⟩) 0 rfl rfl rfl (lb_ad _ _ _ _ _ _ _) rfl rfl (Nat.le_of_ble_eq_true rfl) ⟨Nat.zero_le _, Nat.zero_le _⟩ dX1_worth_11 (pc' := 14) rfl ?_
    refine zw_ifb_eq (tgt := 25) E dX1_worth_14 (by decide) (pc' := 17) rfl (fun c_2 => ?_) (fun c_2 => ?_)
    · skip
      refine zw_ldc2 (v := (-1)) E dX1_worth_25 kX1_worth_152 (pc' := 28) rfl ?_
      exact zw_lret E hr hlk dX1_worth_28 (by unfold r_worth; rw [if_pos c_1, if_neg c_2]) (by unfold d_worth; rw [if_pos c_1])
    · skip
      refine zw_aload_n (i := 0) (x := al 0) E 0 dX1_worth_17 rfl rfl (pc' := 18) rfl ?_
      refine zw_iload_n (i := 3) (x := f) E 3 dX1_worth_18 rfl rfl (pc' := 19) rfl ?_
      refine zw_callLv E (r := w_money (ld_means d b n y) f.toNatClampNeg) (As := [.int f]) (rest := []) (ws' := (lb_W K al ab (ld_means d b n y) b)) (qX1_worthByMeans l D K al (ab 0) (ld_means d b n y) f f.toNatClampNeg ⟨c_1.1, c_1.2.1⟩ rfl) (cwV 1 E.2.2.2.2.1 gX1_worth_X1_worthByMeans rfl rfl rfl (by decide +kernel) ⟨Nat.le_of_ble_eq_true rfl, Nat.le_of_ble_eq_true rfl⟩) 0 rfl rfl rfl [0, 1, 2, 3, 4, 5, 6, 7, 8, 9, 10, 11, 12, 13] (by decide) emC_lb_d rfl (zw_put_same _ _ _ emC_lb_d) rfl rfl (Nat.le_of_ble_eq_true rfl) ⟨Nat.zero_le _, Nat.zero_le _⟩ dX1_worth_19 (pc' := 22) rfl ?_
      refine zw_goto (tgt := 28) E dX1_worth_22 (by decide) ?_
      exact zw_lret E hr hlk dX1_worth_28 (by unfold r_worth; rw [if_pos c_1, if_pos c_2]) (by unfold d_worth; rw [if_pos c_1])

def woa (d : Ld) (P : Prop) [Decidable P] (who : Int32) : Nat → Nat → Int64 → Int64
  | 0, _, sm => sm
  | r + 1, k, sm => if d.1 0 k = 0 then woa d P who r (k + 1) sm else if who = -1 then if P then woa d P who r (k + 1) (sm + w_money d k) else -1 else if d.1 3 k = who then if P then woa d P who r (k + 1) (sm + w_money d k) else -1 else woa d P who r (k + 1) sm
def ld_owed (d : Ld) (b : Bk) (kn : Nat) (y who : Int32) : Int64 := woa (ld_means d b kn y) (means_known b kn y) who 60 0 0
theorem kX1_worthOfAll_152 : Cond.constantLong RX1 152 (-1) ∈ wsX1_worthOfAll := by decide +kernel
theorem fX1_worthOfAll_22 : Cond.fieldLink RX1 22 "TitheMap$Land" "owner" "[I" ∈ wsX1_worthOfAll := by decide +kernel
theorem fX1_worthOfAll_9 : Cond.fieldLink RX1 9 "TitheMap$Land" "there" "[Z" ∈ wsX1_worthOfAll := by decide +kernel
theorem iX1_worthOfAll_X1 : ∀ w ∈ wsX10, w ∈ wsX1_worthOfAll := by decide +kernel
set_option maxHeartbeats 4000000 in
set_option maxRecDepth 100000 in
theorem lX1_worthOfAll {l : Launch} {D : va_G} {K : Nat → ClassId} {p : Program} {e : Env} {s : State} {m : MethodId} {below : List Frame} {meth : Method} {c : Code} {A : Nat → Prop} {args : Array Value} (E : zw_E p s m args c cX1_worthOfAll 8 RX1 wsX1_worthOfAll D (zT K) A) (hr : meth.sig.returnType = some .long) (hlk : meth.locks = false) (al ab : Nat → Nat) (d : Ld) (b : Bk) (n : Nat) (y who : Int32) (P : Prop) [Decidable P] : ∀ (r k : Nat) (sm : Int64), r + k = 60 → zw_W p l e rmX1_worthOfAll s m args below meth c 8 D A 0 0 (zw_Ql D A below args s (woa d P who r k sm) (lb_W K al ab d b)) 14 [(0, .ref (al 0)), (1, .int (nI n)), (2, .int y), (3, .int who), (4, .int (zb P)), (5, .long sm), (7, .int (nI k))] [] (lb_W K al ab d b) := by
  intro r
  induction r with
  | zero =>
    intro k sm hri
    have hk0 : 60 ≤ k := by omega
    refine zw_iload (x := nI k) E 6 dX1_worthOfAll_14 rfl (pc' := 16) rfl ?_
    refine zw_bipush (v := 60) E dX1_worthOfAll_16 (by decide) (pc' := 18) rfl ?_
    refine zw_icmp_ge (tgt := 73) E dX1_worthOfAll_18 (by decide) (pc' := 21) rfl (fun c_1 => ?_) (fun c_1 => ?_)
    · skip
      refine zw_lload (x := sm) E 5 dX1_worthOfAll_73 rfl (pc' := 75) rfl ?_
      exact zw_lret E hr hlk dX1_worthOfAll_75 rfl rfl
    · exact absurd (nI_le (a := 60) hk0 (by omega)) c_1
  | succ r ih =>
    intro k sm hri
    have hk : k < 60 := by omega
    refine zw_iload (x := nI k) E 6 dX1_worthOfAll_14 rfl (pc' := 16) rfl ?_
    refine zw_bipush (v := 60) E dX1_worthOfAll_16 (by decide) (pc' := 18) rfl ?_
    refine zw_icmp_ge (tgt := 73) E dX1_worthOfAll_18 (by decide) (pc' := 21) rfl (fun c_1 => ?_) (fun c_1 => ?_)
    · exact absurd c_1 (zw_n60 hk)
    · skip
      refine zw_aload_n (i := 0) (x := al 0) E 0 dX1_worthOfAll_21 rfl rfl (pc' := 22) rfl ?_
      refine zw_get (v := .ref (al 1)) E 0 1 iX1_worthOfAll_X1 fX1_worthOfAll_9 rfl rfl (by decide) rfl rfl dX1_worthOfAll_22 (pc' := 25) rfl ?_
      refine zw_iload (x := nI k) E 6 dX1_worthOfAll_25 rfl (pc' := 27) rfl ?_
      refine zw_zald (j := k) (x := d.1 0 k) E 1 1 rfl rfl (vp_in_nI hk (by decide)) (zw_clamp hk (by decide)) rfl dX1_worthOfAll_27 (pc' := 28) rfl ?_
      refine zw_if_eq (tgt := 67) E dX1_worthOfAll_28 (by decide) (pc' := 31) rfl (fun c_2 => ?_) (fun c_2 => ?_)
      · skip
        refine zw_iinc (x := nI k) (v := nI (k + 1)) (lv' := [(7, .int (nI (k + 1))), (0, .ref (al 0)), (1, .int (nI n)), (2, .int y), (3, .int who), (4, .int (zb P)), (5, .long sm)]) E 6 dX1_worthOfAll_67 rfl (zw_inc1 k) (by decide) rfl (pc' := 70) rfl ?_
        refine zw_goto (tgt := 14) E dX1_worthOfAll_70 (by decide) ?_
        have e1 : woa d P who (r + 1) k sm = woa d P who r (k + 1) sm := by rw [woa, if_pos c_2]
        rw [e1]
        refine zw_sub [1, 2, 3, 4, 5, 6, 0] (lv' := [(0, .ref (al 0)), (1, .int (nI n)), (2, .int y), (3, .int who), (4, .int (zb P)), (5, .long sm), (7, .int (nI (k + 1)))]) rfl ?_
        exact ih (k + 1) sm (by omega)
      · skip
        refine zw_iload_n (i := 3) (x := who) E 3 dX1_worthOfAll_31 rfl rfl (pc' := 32) rfl ?_
        refine zw_iconst (v := (-1)) E dX1_worthOfAll_32 (by decide) (pc' := 33) rfl ?_
        refine zw_icmp_eq (tgt := 47) E dX1_worthOfAll_33 (by decide) (pc' := 36) rfl (fun c_3 => ?_) (fun c_3 => ?_)
        · skip
          refine zw_iload (x := zb P) E 4 dX1_worthOfAll_47 rfl (pc' := 49) rfl ?_
          refine zw_ifb_ne (tgt := 56) E dX1_worthOfAll_49 (by decide) (pc' := 52) rfl (fun c_4 => ?_) (fun c_4 => ?_)
          · skip
            refine zw_lload (x := sm) E 5 dX1_worthOfAll_56 rfl (pc' := 58) rfl ?_
            refine zw_aload_n (i := 0) (x := al 0) E 0 dX1_worthOfAll_58 rfl rfl (pc' := 59) rfl ?_
            refine zw_iload (x := nI k) E 6 dX1_worthOfAll_59 rfl (pc' := 61) rfl ?_
            refine zw_callLv E (r := w_money d k) (As := [.int (nI k)]) (rest := [.long sm]) (ws' := (lb_W K al ab d b)) (qX1_worthByMeans l D K al (ab 0) d (nI k) k (zw_num hk) (nI_clamp (by omega))) (cwV 1 E.2.2.2.2.1 gX1_worthOfAll_X1_worthByMeans rfl rfl rfl (by decide +kernel) ⟨Nat.le_of_ble_eq_true rfl, Nat.le_of_ble_eq_true rfl⟩) 0 rfl rfl rfl [0, 1, 2, 3, 4, 5, 6, 7, 8, 9, 10, 11, 12, 13] (by decide) emC_lb_d rfl (zw_put_same _ _ _ emC_lb_d) rfl rfl (Nat.le_of_ble_eq_true rfl) ⟨Nat.zero_le _, Nat.zero_le _⟩ dX1_worthOfAll_61 (pc' := 64) rfl ?_
            refine zw_ladd E dX1_worthOfAll_64 (pc' := 65) rfl ?_
            refine zw_lstore (lv' := [(5, .long (sm + (w_money d k))), (0, .ref (al 0)), (1, .int (nI n)), (2, .int y), (3, .int who), (4, .int (zb P)), (7, .int (nI k))]) E dX1_worthOfAll_65 (by decide) rfl (pc' := 67) rfl ?_
            refine zw_iinc (x := nI k) (v := nI (k + 1)) (lv' := [(7, .int (nI (k + 1))), (5, .long (sm + (w_money d k))), (0, .ref (al 0)), (1, .int (nI n)), (2, .int y), (3, .int who), (4, .int (zb P))]) E 6 dX1_worthOfAll_67 rfl (zw_inc1 k) (by decide) rfl (pc' := 70) rfl ?_
            refine zw_goto (tgt := 14) E dX1_worthOfAll_70 (by decide) ?_
            have e1 : woa d P who (r + 1) k sm = woa d P who r (k + 1) (sm + (w_money d k)) := by rw [woa, if_neg c_2, if_pos c_3, if_pos c_4]
            rw [e1]
            refine zw_sub [2, 3, 4, 5, 6, 1, 0] (lv' := [(0, .ref (al 0)), (1, .int (nI n)), (2, .int y), (3, .int who), (4, .int (zb P)), (5, .long (sm + (w_money d k))), (7, .int (nI (k + 1)))]) rfl ?_
            exact ih (k + 1) (sm + (w_money d k)) (by omega)
          · skip
            refine zw_ldc2 (v := (-1)) E dX1_worthOfAll_52 kX1_worthOfAll_152 (pc' := 55) rfl ?_
            exact zw_lret E hr hlk dX1_worthOfAll_55 (by rw [woa, if_neg c_2, if_pos c_3, if_neg c_4]) rfl
        · skip
          refine zw_aload_n (i := 0) (x := al 0) E 0 dX1_worthOfAll_36 rfl rfl (pc' := 37) rfl ?_
          refine zw_get (v := .ref (al 4)) E 0 4 iX1_worthOfAll_X1 fX1_worthOfAll_22 rfl rfl (by decide) rfl rfl dX1_worthOfAll_37 (pc' := 40) rfl ?_
          refine zw_iload (x := nI k) E 6 dX1_worthOfAll_40 rfl (pc' := 42) rfl ?_
          refine zw_iald (j := k) (x := d.1 3 k) E 4 0 rfl rfl (vp_in_nI hk (by decide)) (zw_clamp hk (by decide)) rfl dX1_worthOfAll_42 (pc' := 43) rfl ?_
          refine zw_iload_n (i := 3) (x := who) E 3 dX1_worthOfAll_43 rfl rfl (pc' := 44) rfl ?_
          refine zw_icmp_ne (tgt := 67) E dX1_worthOfAll_44 (by decide) (pc' := 47) rfl (fun c_5 => ?_) (fun c_5 => ?_)
          · skip
            refine zw_iinc (x := nI k) (v := nI (k + 1)) (lv' := [(7, .int (nI (k + 1))), (0, .ref (al 0)), (1, .int (nI n)), (2, .int y), (3, .int who), (4, .int (zb P)), (5, .long sm)]) E 6 dX1_worthOfAll_67 rfl (zw_inc1 k) (by decide) rfl (pc' := 70) rfl ?_
            refine zw_goto (tgt := 14) E dX1_worthOfAll_70 (by decide) ?_
            have e1 : woa d P who (r + 1) k sm = woa d P who r (k + 1) sm := by rw [woa, if_neg c_2, if_neg c_3, if_neg c_5]
            rw [e1]
            refine zw_sub [1, 2, 3, 4, 5, 6, 0] (lv' := [(0, .ref (al 0)), (1, .int (nI n)), (2, .int y), (3, .int who), (4, .int (zb P)), (5, .long sm), (7, .int (nI (k + 1)))]) rfl ?_
            exact ih (k + 1) sm (by omega)
          · skip
            refine zw_iload (x := zb P) E 4 dX1_worthOfAll_47 rfl (pc' := 49) rfl ?_
            refine zw_ifb_ne (tgt := 56) E dX1_worthOfAll_49 (by decide) (pc' := 52) rfl (fun c_6 => ?_) (fun c_6 => ?_)
            · skip
              refine zw_lload (x := sm) E 5 dX1_worthOfAll_56 rfl (pc' := 58) rfl ?_
              refine zw_aload_n (i := 0) (x := al 0) E 0 dX1_worthOfAll_58 rfl rfl (pc' := 59) rfl ?_
              refine zw_iload (x := nI k) E 6 dX1_worthOfAll_59 rfl (pc' := 61) rfl ?_
              refine zw_callLv E (r := w_money d k) (As := [.int (nI k)]) (rest := [.long sm]) (ws' := (lb_W K al ab d b)) (qX1_worthByMeans l D K al (ab 0) d (nI k) k (zw_num hk) (nI_clamp (by omega))) (cwV 1 E.2.2.2.2.1 gX1_worthOfAll_X1_worthByMeans rfl rfl rfl (by decide +kernel) ⟨Nat.le_of_ble_eq_true rfl, Nat.le_of_ble_eq_true rfl⟩) 0 rfl rfl rfl [0, 1, 2, 3, 4, 5, 6, 7, 8, 9, 10, 11, 12, 13] (by decide) emC_lb_d rfl (zw_put_same _ _ _ emC_lb_d) rfl rfl (Nat.le_of_ble_eq_true rfl) ⟨Nat.zero_le _, Nat.zero_le _⟩ dX1_worthOfAll_61 (pc' := 64) rfl ?_
              refine zw_ladd E dX1_worthOfAll_64 (pc' := 65) rfl ?_
              refine zw_lstore (lv' := [(5, .long (sm + (w_money d k))), (0, .ref (al 0)), (1, .int (nI n)), (2, .int y), (3, .int who), (4, .int (zb P)), (7, .int (nI k))]) E dX1_worthOfAll_65 (by decide) rfl (pc' := 67) rfl ?_
              refine zw_iinc (x := nI k) (v := nI (k + 1)) (lv' := [(7, .int (nI (k + 1))), (5, .long (sm + (w_money d k))), (0, .ref (al 0)), (1, .int (nI n)), (2, .int y), (3, .int who), (4, .int (zb P))]) E 6 dX1_worthOfAll_67 rfl (zw_inc1 k) (by decide) rfl (pc' := 70) rfl ?_
              refine zw_goto (tgt := 14) E dX1_worthOfAll_70 (by decide) ?_
              have e1 : woa d P who (r + 1) k sm = woa d P who r (k + 1) (sm + (w_money d k)) := by rw [woa, if_neg c_2, if_neg c_3, if_pos c_5, if_pos c_6]
              rw [e1]
              refine zw_sub [2, 3, 4, 5, 6, 1, 0] (lv' := [(0, .ref (al 0)), (1, .int (nI n)), (2, .int y), (3, .int who), (4, .int (zb P)), (5, .long (sm + (w_money d k))), (7, .int (nI (k + 1)))]) rfl ?_
              exact ih (k + 1) (sm + (w_money d k)) (by omega)
            · skip
              refine zw_ldc2 (v := (-1)) E dX1_worthOfAll_52 kX1_worthOfAll_152 (pc' := 55) rfl ?_
              exact zw_lret E hr hlk dX1_worthOfAll_55 (by rw [woa, if_neg c_2, if_neg c_3, if_pos c_5, if_neg c_6]) rfl

set_option maxHeartbeats 4000000 in
set_option maxRecDepth 100000 in
/-- worthOfAll(k, y, whose) -/
theorem qX1_worthOfAll (l : Launch) (D : va_G) (K : Nat → ClassId) (al ab : Nat → Nat) (d : Ld) (b : Bk) (n : Nat) (hn : n ≤ 80) (y who : Int32) : zw_L l yX1_worthOfAll wsX1_worthOfAll rmX1_worthOfAll D (zT K) [.ref (al 0), .int (nI n), .int y, .int who] (lb_W K al ab d b) (ld_owed d b n y who) (lb_W K al ab (ld_means d b n y) b) := by
  refine zw_ofL (cc := cX1_worthOfAll) (nL := 8) (ret := (some .long)) (own := RX1) (lv := [(0, .ref (al 0)), (1, .int (nI n)), (2, .int y), (3, .int who)]) (by decide) rfl (Nat.le_of_ble_eq_true rfl) rfl rfl ?_
  intro p e s m below meth c A E hr hlk
  refine zw_aload_n (i := 0) (x := al 0) E 0 dX1_worthOfAll_0 rfl rfl (pc' := 1) rfl ?_
  refine zw_iload_n (i := 1) (x := nI n) E 1 dX1_worthOfAll_1 rfl rfl (pc' := 2) rfl ?_
  refine zw_iload_n (i := 2) (x := y) E 2 dX1_worthOfAll_2 rfl rfl (pc' := 3) rfl ?_
  refine zw_callIw E (r := zb (means_known b n y)) (As := [.int (nI n), .int y]) (rest := []) (ws' := (lb_W K al ab (ld_means d b n y) b)) (qX1_areMeansKnown l D K al ab d b n hn y) (cwV 2 E.2.2.2.2.1 gX1_worthOfAll_X1_areMeansKnown rfl rfl rfl (by decide +kernel) ⟨Nat.le_of_ble_eq_true rfl, Nat.le_of_ble_eq_true rfl⟩) 0 rfl rfl rfl (lb_ad _ _ _ _ _ _ _) rfl rfl (Nat.le_of_ble_eq_true rfl) ⟨Nat.zero_le _, Nat.zero_le _⟩ dX1_worthOfAll_3 (pc' := 6) rfl ?_
  refine zw_istore (lv' := [(4, .int (zb (means_known b n y))), (0, .ref (al 0)), (1, .int (nI n)), (2, .int y), (3, .int who)]) E dX1_worthOfAll_6 (by decide) rfl (pc' := 8) rfl ?_
  refine zw_lconst (v := 0) E dX1_worthOfAll_8 (by decide) (pc' := 9) rfl ?_
  refine zw_lstore (lv' := [(5, .long 0), (4, .int (zb (means_known b n y))), (0, .ref (al 0)), (1, .int (nI n)), (2, .int y), (3, .int who)]) E dX1_worthOfAll_9 (by decide) rfl (pc' := 11) rfl ?_
  refine zw_iconst (v := 0) E dX1_worthOfAll_11 (by decide) (pc' := 12) rfl ?_
  refine zw_istore (lv' := [(7, .int 0), (5, .long 0), (4, .int (zb (means_known b n y))), (0, .ref (al 0)), (1, .int (nI n)), (2, .int y), (3, .int who)]) E dX1_worthOfAll_12 (by decide) rfl (pc' := 14) rfl ?_
  refine zw_sub [3, 4, 5, 6, 2, 1, 0] (lv' := [(0, .ref (al 0)), (1, .int (nI n)), (2, .int y), (3, .int who), (4, .int (zb (means_known b n y))), (5, .long 0), (7, .int 0)]) rfl ?_
  exact lX1_worthOfAll E hr hlk al ab _ b n y who (means_known b n y) 60 0 0 (by omega)

def t_tell (d : Ld) (f what : Int32) : Int32 := if is_there d f then if what = 0 then d.1 1 f.toNatClampNeg else if what = 1 then d.1 2 f.toNatClampNeg else if what = 2 then d.1 3 f.toNatClampNeg else if what = 3 then d.1 7 f.toNatClampNeg else if what = 4 then d.1 8 f.toNatClampNeg else if what = 5 then d.1 9 f.toNatClampNeg else if what = 6 then if d.1 4 f.toNatClampNeg = 0 then 0 else 1 else -1 else -1
theorem fX1_tell_15 : Cond.fieldLink RX1 15 "TitheMap$Land" "area" "[I" ∈ wsX1_tell := by decide +kernel
theorem fX1_tell_19 : Cond.fieldLink RX1 19 "TitheMap$Land" "kind" "[I" ∈ wsX1_tell := by decide +kernel
theorem fX1_tell_22 : Cond.fieldLink RX1 22 "TitheMap$Land" "owner" "[I" ∈ wsX1_tell := by decide +kernel
theorem fX1_tell_27 : Cond.fieldLink RX1 27 "TitheMap$Land" "charge" "[[I" ∈ wsX1_tell := by decide +kernel
theorem fX1_tell_30 : Cond.fieldLink RX1 30 "TitheMap$Land" "bought" "[Z" ∈ wsX1_tell := by decide +kernel
theorem iX1_tell_X1 : ∀ w ∈ wsX10, w ∈ wsX1_tell := by decide +kernel
set_option maxHeartbeats 4000000 in
set_option maxRecDepth 100000 in
/-- tell(f, what) -/
theorem qX1_tell (l : Launch) (D : va_G) (K : Nat → ClassId) (al : Nat → Nat) (bq : Nat) (d : Ld) (f what : Int32) : zw_I l yX1_tell wsX1_tell rmX1_tell D (zT K) [.ref (al 0), .int f, .int what] (ld_W K al bq d) (t_tell d f what) (ld_W K al bq d) := by
  refine zw_ofI (cc := cX1_tell) (nL := 3) (ret := (some .int)) (own := RX1) (lv := [(0, .ref (al 0)), (1, .int f), (2, .int what)]) (by decide) rfl (Nat.le_of_ble_eq_true rfl) rfl rfl ?_
  intro p e s m below meth c A E hr hlk
  refine zw_aload_n (i := 0) (x := al 0) E 0 dX1_tell_0 rfl rfl (pc' := 1) rfl ?_
  refine zw_iload_n (i := 1) (x := f) E 1 dX1_tell_1 rfl rfl (pc' := 2) rfl ?_
  refine zw_callIw E (r := zb (is_there d f)) (As := [.int f]) (rest := []) (ws' := (ld_W K al bq d)) (qX1_isThere l D K al bq d f) (cwV 1 E.2.2.2.2.1 gX1_tell_X1_isThere rfl rfl rfl (by decide +kernel) ⟨Nat.le_of_ble_eq_true rfl, Nat.le_of_ble_eq_true rfl⟩) 0 rfl rfl rfl rfl rfl rfl (Nat.le_of_ble_eq_true rfl) ⟨Nat.zero_le _, Nat.zero_le _⟩ dX1_tell_2 (pc' := 5) rfl ?_
  refine zw_ifb_ne (tgt := 10) E dX1_tell_5 (by decide) (pc' := 8) rfl (fun c_1 => ?_) (fun c_1 => ?_)
  · skip
    refine zw_iload_n (i := 2) (x := what) E 2 dX1_tell_10 rfl rfl (pc' := 11) rfl ?_
    by_cases s_2 : what = 0
    · refine zw_tableIn (tgt := 52) (off := 41) E dX1_tell_11 (by rw [s_2]; decide) (by rw [s_2]; decide) (by rw [s_2]; rfl) (by decide) ?_
      refine zw_aload_n (i := 0) (x := al 0) E 0 dX1_tell_52 rfl rfl (pc' := 53) rfl ?_
      refine zw_get (v := .ref (al 2)) E 0 2 iX1_tell_X1 fX1_tell_15 rfl rfl (by decide) rfl rfl dX1_tell_53 (pc' := 56) rfl ?_
      refine zw_iload_n (i := 1) (x := f) E 1 dX1_tell_56 rfl rfl (pc' := 57) rfl ?_
      refine zw_iald (j := f.toNatClampNeg) (x := d.1 1 f.toNatClampNeg) E 2 0 rfl rfl (zw_in3 c_1.1 c_1.2.1) rfl rfl dX1_tell_57 (pc' := 58) rfl ?_
      exact zw_iret E hr hlk dX1_tell_58 (by unfold t_tell; rw [if_pos c_1, if_pos s_2]) rfl
    · skip
      by_cases s_3 : what = 1
      · refine zw_tableIn (tgt := 59) (off := 48) E dX1_tell_11 (by rw [s_3]; decide) (by rw [s_3]; decide) (by rw [s_3]; rfl) (by decide) ?_
        refine zw_aload_n (i := 0) (x := al 0) E 0 dX1_tell_59 rfl rfl (pc' := 60) rfl ?_
        refine zw_get (v := .ref (al 3)) E 0 3 iX1_tell_X1 fX1_tell_19 rfl rfl (by decide) rfl rfl dX1_tell_60 (pc' := 63) rfl ?_
        refine zw_iload_n (i := 1) (x := f) E 1 dX1_tell_63 rfl rfl (pc' := 64) rfl ?_
        refine zw_iald (j := f.toNatClampNeg) (x := d.1 2 f.toNatClampNeg) E 3 0 rfl rfl (zw_in3 c_1.1 c_1.2.1) rfl rfl dX1_tell_64 (pc' := 65) rfl ?_
        exact zw_iret E hr hlk dX1_tell_65 (by unfold t_tell; rw [if_pos c_1, if_neg s_2, if_pos s_3]) rfl
      · skip
        by_cases s_4 : what = 2
        · refine zw_tableIn (tgt := 66) (off := 55) E dX1_tell_11 (by rw [s_4]; decide) (by rw [s_4]; decide) (by rw [s_4]; rfl) (by decide) ?_
          refine zw_aload_n (i := 0) (x := al 0) E 0 dX1_tell_66 rfl rfl (pc' := 67) rfl ?_
          refine zw_get (v := .ref (al 4)) E 0 4 iX1_tell_X1 fX1_tell_22 rfl rfl (by decide) rfl rfl dX1_tell_67 (pc' := 70) rfl ?_
          refine zw_iload_n (i := 1) (x := f) E 1 dX1_tell_70 rfl rfl (pc' := 71) rfl ?_
          refine zw_iald (j := f.toNatClampNeg) (x := d.1 3 f.toNatClampNeg) E 4 0 rfl rfl (zw_in3 c_1.1 c_1.2.1) rfl rfl dX1_tell_71 (pc' := 72) rfl ?_
          exact zw_iret E hr hlk dX1_tell_72 (by unfold t_tell; rw [if_pos c_1, if_neg s_2, if_neg s_3, if_pos s_4]) rfl
        · skip
          by_cases s_5 : what = 3
          · refine zw_tableIn (tgt := 73) (off := 62) E dX1_tell_11 (by rw [s_5]; decide) (by rw [s_5]; decide) (by rw [s_5]; rfl) (by decide) ?_
            refine zw_aload_n (i := 0) (x := al 0) E 0 dX1_tell_73 rfl rfl (pc' := 74) rfl ?_
            refine zw_get (v := .ref (al 5)) E 0 5 iX1_tell_X1 fX1_tell_27 rfl rfl (by decide) rfl rfl dX1_tell_74 (pc' := 77) rfl ?_
            refine zw_iload_n (i := 2) (x := what) E 2 dX1_tell_77 rfl rfl (pc' := 78) rfl ?_
            refine zw_iconst (v := 3) E dX1_tell_78 (by decide) (pc' := 79) rfl ?_
            refine zw_isub E dX1_tell_79 (pc' := 80) rfl ?_
            refine zw_topi (x' := 0) (by rw [s_5]; rfl) ?_
            refine zw_aald (j := 0) (b := al 11) E 5 3 rfl rfl (vp_in_nI (n := 0) (N := 3) (by decide) (by decide)) rfl rfl dX1_tell_80 (pc' := 81) rfl ?_
            refine zw_iload_n (i := 1) (x := f) E 1 dX1_tell_81 rfl rfl (pc' := 82) rfl ?_
            refine zw_iald (j := f.toNatClampNeg) (x := d.1 7 f.toNatClampNeg) E 11 0 rfl rfl (zw_in3 c_1.1 c_1.2.1) rfl rfl dX1_tell_82 (pc' := 83) rfl ?_
            exact zw_iret E hr hlk dX1_tell_83 (by unfold t_tell; rw [if_pos c_1, if_neg s_2, if_neg s_3, if_neg s_4, if_pos s_5]) rfl
          · skip
            by_cases s_6 : what = 4
            · refine zw_tableIn (tgt := 73) (off := 62) E dX1_tell_11 (by rw [s_6]; decide) (by rw [s_6]; decide) (by rw [s_6]; rfl) (by decide) ?_
              refine zw_aload_n (i := 0) (x := al 0) E 0 dX1_tell_73 rfl rfl (pc' := 74) rfl ?_
              refine zw_get (v := .ref (al 5)) E 0 5 iX1_tell_X1 fX1_tell_27 rfl rfl (by decide) rfl rfl dX1_tell_74 (pc' := 77) rfl ?_
              refine zw_iload_n (i := 2) (x := what) E 2 dX1_tell_77 rfl rfl (pc' := 78) rfl ?_
              refine zw_iconst (v := 3) E dX1_tell_78 (by decide) (pc' := 79) rfl ?_
              refine zw_isub E dX1_tell_79 (pc' := 80) rfl ?_
              refine zw_topi (x' := 1) (by rw [s_6]; rfl) ?_
              refine zw_aald (j := 1) (b := al 12) E 5 3 rfl rfl (vp_in_nI (n := 1) (N := 3) (by decide) (by decide)) rfl rfl dX1_tell_80 (pc' := 81) rfl ?_
              refine zw_iload_n (i := 1) (x := f) E 1 dX1_tell_81 rfl rfl (pc' := 82) rfl ?_
              refine zw_iald (j := f.toNatClampNeg) (x := d.1 8 f.toNatClampNeg) E 12 0 rfl rfl (zw_in3 c_1.1 c_1.2.1) rfl rfl dX1_tell_82 (pc' := 83) rfl ?_
              exact zw_iret E hr hlk dX1_tell_83 (by unfold t_tell; rw [if_pos c_1, if_neg s_2, if_neg s_3, if_neg s_4, if_neg s_5, if_pos s_6]) rfl
            · skip
              by_cases s_7 : what = 5
              · refine zw_tableIn (tgt := 73) (off := 62) E dX1_tell_11 (by rw [s_7]; decide) (by rw [s_7]; decide) (by rw [s_7]; rfl) (by decide) ?_
                refine zw_aload_n (i := 0) (x := al 0) E 0 dX1_tell_73 rfl rfl (pc' := 74) rfl ?_
                refine zw_get (v := .ref (al 5)) E 0 5 iX1_tell_X1 fX1_tell_27 rfl rfl (by decide) rfl rfl dX1_tell_74 (pc' := 77) rfl ?_
                refine zw_iload_n (i := 2) (x := what) E 2 dX1_tell_77 rfl rfl (pc' := 78) rfl ?_
                refine zw_iconst (v := 3) E dX1_tell_78 (by decide) (pc' := 79) rfl ?_
                refine zw_isub E dX1_tell_79 (pc' := 80) rfl ?_
                refine zw_topi (x' := 2) (by rw [s_7]; rfl) ?_
                refine zw_aald (j := 2) (b := al 13) E 5 3 rfl rfl (vp_in_nI (n := 2) (N := 3) (by decide) (by decide)) rfl rfl dX1_tell_80 (pc' := 81) rfl ?_
                refine zw_iload_n (i := 1) (x := f) E 1 dX1_tell_81 rfl rfl (pc' := 82) rfl ?_
                refine zw_iald (j := f.toNatClampNeg) (x := d.1 9 f.toNatClampNeg) E 13 0 rfl rfl (zw_in3 c_1.1 c_1.2.1) rfl rfl dX1_tell_82 (pc' := 83) rfl ?_
                exact zw_iret E hr hlk dX1_tell_83 (by unfold t_tell; rw [if_pos c_1, if_neg s_2, if_neg s_3, if_neg s_4, if_neg s_5, if_neg s_6, if_pos s_7]) rfl
              · skip
                by_cases s_8 : what = 6
                · refine zw_tableIn (tgt := 84) (off := 73) E dX1_tell_11 (by rw [s_8]; decide) (by rw [s_8]; decide) (by rw [s_8]; rfl) (by decide) ?_
                  refine zw_aload_n (i := 0) (x := al 0) E 0 dX1_tell_84 rfl rfl (pc' := 85) rfl ?_
                  refine zw_get (v := .ref (al 6)) E 0 6 iX1_tell_X1 fX1_tell_30 rfl rfl (by decide) rfl rfl dX1_tell_85 (pc' := 88) rfl ?_
                  refine zw_iload_n (i := 1) (x := f) E 1 dX1_tell_88 rfl rfl (pc' := 89) rfl ?_
                  refine zw_zald (j := f.toNatClampNeg) (x := d.1 4 f.toNatClampNeg) E 6 1 rfl rfl (zw_in3 c_1.1 c_1.2.1) rfl rfl dX1_tell_89 (pc' := 90) rfl ?_
                  refine zw_if_eq (tgt := 97) E dX1_tell_90 (by decide) (pc' := 93) rfl (fun c_9 => ?_) (fun c_9 => ?_)
                  · skip
                    refine zw_iconst (v := 0) E dX1_tell_97 (by decide) (pc' := 98) rfl ?_
                    exact zw_iret E hr hlk dX1_tell_98 (by unfold t_tell; rw [if_pos c_1, if_neg s_2, if_neg s_3, if_neg s_4, if_neg s_5, if_neg s_6, if_neg s_7, if_pos s_8, if_pos c_9]) rfl
                  · skip
                    refine zw_iconst (v := 1) E dX1_tell_93 (by decide) (pc' := 94) rfl ?_
                    refine zw_goto (tgt := 98) E dX1_tell_94 (by decide) ?_
                    exact zw_iret E hr hlk dX1_tell_98 (by unfold t_tell; rw [if_pos c_1, if_neg s_2, if_neg s_3, if_neg s_4, if_neg s_5, if_neg s_6, if_neg s_7, if_pos s_8, if_neg c_9]) rfl
                · skip
                  refine zw_tableOut (tgt := 99) E dX1_tell_11 (by have q0 := lv_neT (a := 0) s_2 rfl; have q1 := lv_neT (a := 1) s_3 rfl; have q2 := lv_neT (a := 2) s_4 rfl; have q3 := lv_neT (a := 3) s_5 rfl; have q4 := lv_neT (a := 4) s_6 rfl; have q5 := lv_neT (a := 5) s_7 rfl; have q6 := lv_neT (a := 6) s_8 rfl; omega) (by decide) ?_
                  refine zw_iconst (v := (-1)) E dX1_tell_99 (by decide) (pc' := 100) rfl ?_
                  exact zw_iret E hr hlk dX1_tell_100 (by unfold t_tell; rw [if_pos c_1, if_neg s_2, if_neg s_3, if_neg s_4, if_neg s_5, if_neg s_6, if_neg s_7, if_neg s_8]) rfl
  · skip
    refine zw_iconst (v := (-1)) E dX1_tell_8 (by decide) (pc' := 9) rfl ?_
    exact zw_iret E hr hlk dX1_tell_9 (by unfold t_tell; rw [if_neg c_1]) rfl

def h_many (d : Ld) : Nat → Int32
  | 0 => 0
  | k + 1 => h_many d k + (if d.1 0 k = 0 then 0 else 1)
def s_of (d : Ld) (what : Int32) : Nat → Int64
  | 0 => 0
  | k + 1 => s_of d what k + (if d.1 0 k = 0 then 0 else (t_tell d (nI k) what).toInt64)
theorem fX1_howMany_9 : Cond.fieldLink RX1 9 "TitheMap$Land" "there" "[Z" ∈ wsX1_howMany := by decide +kernel
theorem iX1_howMany_X1 : ∀ w ∈ wsX10, w ∈ wsX1_howMany := by decide +kernel
set_option maxHeartbeats 4000000 in
set_option maxRecDepth 100000 in
theorem lX1_howMany {l : Launch} {D : va_G} {K : Nat → ClassId} {p : Program} {e : Env} {s : State} {m : MethodId} {below : List Frame} {meth : Method} {c : Code} {A : Nat → Prop} {args : Array Value} (E : zw_E p s m args c cX1_howMany 3 RX1 wsX1_howMany D (zT K) A) (hr : meth.sig.returnType = (some .int)) (hlk : meth.locks = false) (al : Nat → Nat) (bq : Nat) (d : Ld) : ∀ (fu k : Nat), k ≤ 60 → 60 + 1 ≤ k + fu → zw_W p l e rmX1_howMany s m args below meth c 3 D A 0 0 (zw_Qi D A below args s (h_many d 60) (ld_W K al bq d)) 4 [(0, .ref (al 0)), (1, .int (h_many d k)), (2, .int (nI k))] [] (ld_W K al bq d) := by
  intro fu
  induction fu with
  | zero => intro k h1 h2; exact absurd h2 (by omega)
  | succ fu ih =>
    intro k hle hfu
    refine zw_iload_n (i := 2) (x := nI k) E 2 dX1_howMany_4 rfl rfl (pc' := 5) rfl ?_
    refine zw_bipush (v := 60) E dX1_howMany_5 (by decide) (pc' := 7) rfl ?_
    refine zw_icmp_ge (tgt := 33) E dX1_howMany_7 (by decide) (pc' := 10) rfl (fun c_1 => ?_) (fun c_1 => ?_)
    · skip
      have hk60 : k = 60 := zw_ge60 c_1 hle
      refine zw_iload_n (i := 1) (x := h_many d k) E 1 dX1_howMany_33 rfl rfl (pc' := 34) rfl ?_
      exact zw_iret E hr hlk dX1_howMany_34 (by rw [hk60]) rfl
    · skip
      have hk : k < 60 := zw_lt60 c_1 hle
      refine zw_iload_n (i := 1) (x := h_many d k) E 1 dX1_howMany_10 rfl rfl (pc' := 11) rfl ?_
      refine zw_aload_n (i := 0) (x := al 0) E 0 dX1_howMany_11 rfl rfl (pc' := 12) rfl ?_
      refine zw_get (v := .ref (al 1)) E 0 1 iX1_howMany_X1 fX1_howMany_9 rfl rfl (by decide) rfl rfl dX1_howMany_12 (pc' := 15) rfl ?_
      refine zw_iload_n (i := 2) (x := nI k) E 2 dX1_howMany_15 rfl rfl (pc' := 16) rfl ?_
      refine zw_zald (j := k) (x := d.1 0 k) E 1 1 rfl rfl (vp_in_nI hk (by decide)) (zw_clamp hk (by decide)) rfl dX1_howMany_16 (pc' := 17) rfl ?_
      refine zw_if_eq (tgt := 24) E dX1_howMany_17 (by decide) (pc' := 20) rfl (fun c_2 => ?_) (fun c_2 => ?_)
      · skip
        refine zw_iconst (v := 0) E dX1_howMany_24 (by decide) (pc' := 25) rfl ?_
        refine zw_iadd E dX1_howMany_25 (pc' := 26) rfl ?_
        refine zw_istore_n (lv' := [(1, .int ((h_many d k) + 0)), (0, .ref (al 0)), (2, .int (nI k))]) E dX1_howMany_26 rfl (by decide) rfl (pc' := 27) rfl ?_
        refine zw_iinc (x := nI k) (v := nI (k + 1)) (lv' := [(2, .int (nI (k + 1))), (1, .int ((h_many d k) + 0)), (0, .ref (al 0))]) E 2 dX1_howMany_27 rfl (zw_inc1 k) (by decide) rfl (pc' := 30) rfl ?_
        refine zw_goto (tgt := 4) E dX1_howMany_30 (by decide) ?_
        have e1 : h_many d (k + 1) = h_many d k + 0 := by rw [h_many, if_pos c_2]
        refine zw_sub [2, 1, 0] (lv' := [(0, .ref (al 0)), (1, .int ((h_many d k) + 0)), (2, .int (nI (k + 1)))]) rfl ?_
        rw [← e1]
        exact ih (k + 1) (by omega) (by omega)
      · skip
        refine zw_iconst (v := 1) E dX1_howMany_20 (by decide) (pc' := 21) rfl ?_
        refine zw_goto (tgt := 25) E dX1_howMany_21 (by decide) ?_
        refine zw_iadd E dX1_howMany_25 (pc' := 26) rfl ?_
        refine zw_istore_n (lv' := [(1, .int ((h_many d k) + 1)), (0, .ref (al 0)), (2, .int (nI k))]) E dX1_howMany_26 rfl (by decide) rfl (pc' := 27) rfl ?_
        refine zw_iinc (x := nI k) (v := nI (k + 1)) (lv' := [(2, .int (nI (k + 1))), (1, .int ((h_many d k) + 1)), (0, .ref (al 0))]) E 2 dX1_howMany_27 rfl (zw_inc1 k) (by decide) rfl (pc' := 30) rfl ?_
        refine zw_goto (tgt := 4) E dX1_howMany_30 (by decide) ?_
        have e1 : h_many d (k + 1) = h_many d k + 1 := by rw [h_many, if_neg c_2]
        refine zw_sub [2, 1, 0] (lv' := [(0, .ref (al 0)), (1, .int ((h_many d k) + 1)), (2, .int (nI (k + 1)))]) rfl ?_
        rw [← e1]
        exact ih (k + 1) (by omega) (by omega)

set_option maxHeartbeats 4000000 in
set_option maxRecDepth 100000 in
/-- howMany() -/
theorem qX1_howMany (l : Launch) (D : va_G) (K : Nat → ClassId) (al : Nat → Nat) (bq : Nat) (d : Ld) : zw_I l yX1_howMany wsX1_howMany rmX1_howMany D (zT K) [.ref (al 0)] (ld_W K al bq d) (h_many d 60) (ld_W K al bq d) := by
  refine zw_ofI (cc := cX1_howMany) (nL := 3) (ret := (some .int)) (own := RX1) (lv := [(0, .ref (al 0))]) (by decide) rfl (Nat.le_of_ble_eq_true rfl) rfl rfl ?_
  intro p e s m below meth c A E hr hlk
  refine zw_iconst (v := 0) E dX1_howMany_0 (by decide) (pc' := 1) rfl ?_
  refine zw_istore_n (lv' := [(1, .int 0), (0, .ref (al 0))]) E dX1_howMany_1 rfl (by decide) rfl (pc' := 2) rfl ?_
  refine zw_iconst (v := 0) E dX1_howMany_2 (by decide) (pc' := 3) rfl ?_
  refine zw_istore_n (lv' := [(2, .int 0), (1, .int 0), (0, .ref (al 0))]) E dX1_howMany_3 rfl (by decide) rfl (pc' := 4) rfl ?_
  refine zw_sub [2, 1, 0] (lv' := [(0, .ref (al 0)), (1, .int 0), (2, .int 0)]) rfl ?_
  exact lX1_howMany E hr hlk al bq d 61 0 (by omega) (by omega)

theorem fX1_sumOf_9 : Cond.fieldLink RX1 9 "TitheMap$Land" "there" "[Z" ∈ wsX1_sumOf := by decide +kernel
theorem iX1_sumOf_X1 : ∀ w ∈ wsX10, w ∈ wsX1_sumOf := by decide +kernel
set_option maxHeartbeats 4000000 in
set_option maxRecDepth 100000 in
theorem lX1_sumOf {l : Launch} {D : va_G} {K : Nat → ClassId} {p : Program} {e : Env} {s : State} {m : MethodId} {below : List Frame} {meth : Method} {c : Code} {A : Nat → Prop} {args : Array Value} (E : zw_E p s m args c cX1_sumOf 5 RX1 wsX1_sumOf D (zT K) A) (hr : meth.sig.returnType = (some .long)) (hlk : meth.locks = false) (al : Nat → Nat) (bq : Nat) (d : Ld) (what : Int32) : ∀ (fu k : Nat), k ≤ 60 → 60 + 1 ≤ k + fu → zw_W p l e rmX1_sumOf s m args below meth c 5 D A 0 0 (zw_Ql D A below args s (s_of d what 60) (ld_W K al bq d)) 5 [(0, .ref (al 0)), (1, .int what), (2, .long (s_of d what k)), (4, .int (nI k))] [] (ld_W K al bq d) := by
  intro fu
  induction fu with
  | zero => intro k h1 h2; exact absurd h2 (by omega)
  | succ fu ih =>
    intro k hle hfu
    refine zw_iload (x := nI k) E 3 dX1_sumOf_5 rfl (pc' := 7) rfl ?_
    refine zw_bipush (v := 60) E dX1_sumOf_7 (by decide) (pc' := 9) rfl ?_
    refine zw_icmp_ge (tgt := 43) E dX1_sumOf_9 (by decide) (pc' := 12) rfl (fun c_1 => ?_) (fun c_1 => ?_)
    · skip
      have hk60 : k = 60 := zw_ge60 c_1 hle
      refine zw_lload_n (i := 2) (x := s_of d what k) E 2 dX1_sumOf_43 rfl rfl (pc' := 44) rfl ?_
      exact zw_lret E hr hlk dX1_sumOf_44 (by rw [hk60]) rfl
    · skip
      have hk : k < 60 := zw_lt60 c_1 hle
      refine zw_lload_n (i := 2) (x := s_of d what k) E 2 dX1_sumOf_12 rfl rfl (pc' := 13) rfl ?_
      refine zw_aload_n (i := 0) (x := al 0) E 0 dX1_sumOf_13 rfl rfl (pc' := 14) rfl ?_
      refine zw_get (v := .ref (al 1)) E 0 1 iX1_sumOf_X1 fX1_sumOf_9 rfl rfl (by decide) rfl rfl dX1_sumOf_14 (pc' := 17) rfl ?_
      refine zw_iload (x := nI k) E 3 dX1_sumOf_17 rfl (pc' := 19) rfl ?_
      refine zw_zald (j := k) (x := d.1 0 k) E 1 1 rfl rfl (vp_in_nI hk (by decide)) (zw_clamp hk (by decide)) rfl dX1_sumOf_19 (pc' := 20) rfl ?_
      refine zw_if_eq (tgt := 34) E dX1_sumOf_20 (by decide) (pc' := 23) rfl (fun c_2 => ?_) (fun c_2 => ?_)
      · skip
        refine zw_lconst (v := 0) E dX1_sumOf_34 (by decide) (pc' := 35) rfl ?_
        refine zw_ladd E dX1_sumOf_35 (pc' := 36) rfl ?_
        refine zw_lstore_n (lv' := [(2, .long ((s_of d what k) + 0)), (0, .ref (al 0)), (1, .int what), (4, .int (nI k))]) E dX1_sumOf_36 rfl (by decide) rfl (pc' := 37) rfl ?_
        refine zw_iinc (x := nI k) (v := nI (k + 1)) (lv' := [(4, .int (nI (k + 1))), (2, .long ((s_of d what k) + 0)), (0, .ref (al 0)), (1, .int what)]) E 3 dX1_sumOf_37 rfl (zw_inc1 k) (by decide) rfl (pc' := 40) rfl ?_
        refine zw_goto (tgt := 5) E dX1_sumOf_40 (by decide) ?_
        have e1 : s_of d what (k + 1) = s_of d what k + 0 := by rw [s_of, if_pos c_2]
        refine zw_sub [2, 3, 1, 0] (lv' := [(0, .ref (al 0)), (1, .int what), (2, .long ((s_of d what k) + 0)), (4, .int (nI (k + 1)))]) rfl ?_
        rw [← e1]
        exact ih (k + 1) (by omega) (by omega)
      · skip
        refine zw_aload_n (i := 0) (x := al 0) E 0 dX1_sumOf_23 rfl rfl (pc' := 24) rfl ?_
        refine zw_iload (x := nI k) E 3 dX1_sumOf_24 rfl (pc' := 26) rfl ?_
        refine zw_iload_n (i := 1) (x := what) E 1 dX1_sumOf_26 rfl rfl (pc' := 27) rfl ?_
        refine zw_callIw E (r := t_tell d (nI k) what) (As := [.int (nI k), .int what]) (rest := [.long (s_of d what k)]) (ws' := (ld_W K al bq d)) (qX1_tell l D K al bq d (nI k) what) (cwV 2 E.2.2.2.2.1 gX1_sumOf_X1_tell rfl rfl rfl (by decide +kernel) ⟨Nat.le_of_ble_eq_true rfl, Nat.le_of_ble_eq_true rfl⟩) 0 rfl rfl rfl rfl rfl rfl (Nat.le_of_ble_eq_true rfl) ⟨Nat.zero_le _, Nat.zero_le _⟩ dX1_sumOf_27 (pc' := 30) rfl ?_
        refine zw_i2l E dX1_sumOf_30 (pc' := 31) rfl ?_
        refine zw_goto (tgt := 35) E dX1_sumOf_31 (by decide) ?_
        refine zw_ladd E dX1_sumOf_35 (pc' := 36) rfl ?_
        refine zw_lstore_n (lv' := [(2, .long ((s_of d what k) + ((t_tell d (nI k) what).toInt64))), (0, .ref (al 0)), (1, .int what), (4, .int (nI k))]) E dX1_sumOf_36 rfl (by decide) rfl (pc' := 37) rfl ?_
        refine zw_iinc (x := nI k) (v := nI (k + 1)) (lv' := [(4, .int (nI (k + 1))), (2, .long ((s_of d what k) + ((t_tell d (nI k) what).toInt64))), (0, .ref (al 0)), (1, .int what)]) E 3 dX1_sumOf_37 rfl (zw_inc1 k) (by decide) rfl (pc' := 40) rfl ?_
        refine zw_goto (tgt := 5) E dX1_sumOf_40 (by decide) ?_
        have e1 : s_of d what (k + 1) = s_of d what k + (t_tell d (nI k) what).toInt64 := by rw [s_of, if_neg c_2]
        refine zw_sub [2, 3, 1, 0] (lv' := [(0, .ref (al 0)), (1, .int what), (2, .long ((s_of d what k) + ((t_tell d (nI k) what).toInt64))), (4, .int (nI (k + 1)))]) rfl ?_
        rw [← e1]
        exact ih (k + 1) (by omega) (by omega)

set_option maxHeartbeats 4000000 in
set_option maxRecDepth 100000 in
/-- sumOf(what) -/
theorem qX1_sumOf (l : Launch) (D : va_G) (K : Nat → ClassId) (al : Nat → Nat) (bq : Nat) (d : Ld) (what : Int32) : zw_L l yX1_sumOf wsX1_sumOf rmX1_sumOf D (zT K) [.ref (al 0), .int what] (ld_W K al bq d) (s_of d what 60) (ld_W K al bq d) := by
  refine zw_ofL (cc := cX1_sumOf) (nL := 5) (ret := (some .long)) (own := RX1) (lv := [(0, .ref (al 0)), (1, .int what)]) (by decide) rfl (Nat.le_of_ble_eq_true rfl) rfl rfl ?_
  intro p e s m below meth c A E hr hlk
  refine zw_lconst (v := 0) E dX1_sumOf_0 (by decide) (pc' := 1) rfl ?_
  refine zw_lstore_n (lv' := [(2, .long 0), (0, .ref (al 0)), (1, .int what)]) E dX1_sumOf_1 rfl (by decide) rfl (pc' := 2) rfl ?_
  refine zw_iconst (v := 0) E dX1_sumOf_2 (by decide) (pc' := 3) rfl ?_
  refine zw_istore (lv' := [(4, .int 0), (2, .long 0), (0, .ref (al 0)), (1, .int what)]) E dX1_sumOf_3 (by decide) rfl (pc' := 5) rfl ?_
  refine zw_sub [2, 3, 1, 0] (lv' := [(0, .ref (al 0)), (1, .int what), (2, .long 0), (4, .int 0)]) rfl ?_
  exact lX1_sumOf E hr hlk al bq d what 61 0 (by omega) (by omega)

def l_other (d o : Ld) (f : Int32) : Int32 := if t_tell d f 0 = t_tell o f 0 then if t_tell d f 1 = t_tell o f 1 then if t_tell d f 2 = t_tell o f 2 then if t_tell d f 3 = t_tell o f 3 then if t_tell d f 4 = t_tell o f 4 then if t_tell d f 5 = t_tell o f 5 then if t_tell d f 6 = t_tell o f 6 then 0 else 1 else 1 else 1 else 1 else 1 else 1 else 1
set_option maxHeartbeats 4000000 in
set_option maxRecDepth 100000 in
/-- isOtherwise(other, f) -/
theorem qX1_isOtherwise (l : Launch) (D : va_G) (K : Nat → ClassId) (al ao : Nat → Nat) (bq : Nat) (d o : Ld) (f : Int32) : zw_I l yX1_isOtherwise wsX1_isOtherwise rmX1_isOtherwise D (zT K) [.ref (al 0), .ref (ao 0), .int f] (l2_W K al ao bq d o) (l_other d o f) (l2_W K al ao bq d o) := by
  refine zw_ofI (cc := cX1_isOtherwise) (nL := 4) (ret := (some .boolean)) (own := RX1) (lv := [(0, .ref (al 0)), (1, .ref (ao 0)), (2, .int f)]) (by decide) rfl (Nat.le_of_ble_eq_true rfl) rfl rfl ?_
  intro p e s m below meth c A E hr hlk
  refine zw_iconst (v := 0) E dX1_isOtherwise_0 (by decide) (pc' := 1) rfl ?_
  refine zw_istore_n (lv' := [(3, .int 0), (0, .ref (al 0)), (1, .ref (ao 0)), (2, .int f)]) E dX1_isOtherwise_1 rfl (by decide) rfl (pc' := 2) rfl ?_
  refine zw_iload_n (i := 3) (x := 0) E 0 dX1_isOtherwise_2 rfl rfl (pc' := 3) rfl ?_
  refine zw_bipush (v := 7) E dX1_isOtherwise_3 (by decide) (pc' := 5) rfl ?_
  refine zw_icmp_ge (tgt := 31) E dX1_isOtherwise_5 (by decide) (pc' := 8) rfl (fun c9 => absurd c9 (by decide)) (fun _ => ?_)
  refine zw_aload_n (i := 0) (x := al 0) E 1 dX1_isOtherwise_8 rfl rfl (pc' := 9) rfl ?_
  refine zw_iload_n (i := 2) (x := f) E 3 dX1_isOtherwise_9 rfl rfl (pc' := 10) rfl ?_
  refine zw_iload_n (i := 3) (x := 0) E 0 dX1_isOtherwise_10 rfl rfl (pc' := 11) rfl ?_
  refine zw_callIv E (r := t_tell d f 0) (As := [.int f, .int 0]) (rest := []) (ws' := (l2_W K al ao bq d o)) (qX1_tell l D K al bq d f 0) (cwV 2 E.2.2.2.2.1 gX1_isOtherwise_X1_tell rfl rfl rfl (by decide +kernel) ⟨Nat.le_of_ble_eq_true rfl, Nat.le_of_ble_eq_true rfl⟩) 0 rfl rfl rfl [0, 1, 2, 3, 4, 5, 6, 7, 8, 9, 10, 11, 12, 13] (by decide) emC_l2_d rfl (zw_put_same _ _ _ emC_l2_d) rfl rfl (Nat.le_of_ble_eq_true rfl) ⟨Nat.zero_le _, Nat.zero_le _⟩ dX1_isOtherwise_11 (pc' := 14) rfl ?_
  refine zw_aload_n (i := 1) (x := ao 0) E 2 dX1_isOtherwise_14 rfl rfl (pc' := 15) rfl ?_
  refine zw_iload_n (i := 2) (x := f) E 3 dX1_isOtherwise_15 rfl rfl (pc' := 16) rfl ?_
  refine zw_iload_n (i := 3) (x := 0) E 0 dX1_isOtherwise_16 rfl rfl (pc' := 17) rfl ?_
  refine zw_callIv E (r := t_tell o f 0) (As := [.int f, .int 0]) (rest := [.int (t_tell d f 0)]) (ws' := (l2_W K al ao bq d o)) (qX1_tell l D K ao bq o f 0) (cwV 2 E.2.2.2.2.1 gX1_isOtherwise_X1_tell rfl rfl rfl (by decide +kernel) ⟨Nat.le_of_ble_eq_true rfl, Nat.le_of_ble_eq_true rfl⟩) 0 rfl rfl rfl [14, 15, 16, 17, 18, 19, 20, 21, 22, 23, 24, 25, 26, 27] (by decide) emC_l2_o rfl (zw_put_same _ _ _ emC_l2_o) rfl rfl (Nat.le_of_ble_eq_true rfl) ⟨Nat.zero_le _, Nat.zero_le _⟩ dX1_isOtherwise_17 (pc' := 20) rfl ?_
  refine zw_icmp_eq (tgt := 25) E dX1_isOtherwise_20 (by decide) (pc' := 23) rfl (fun c_1 => ?_) (fun c_1 => ?_)
  · skip
    refine zw_iinc (x := 0) (v := 1) (lv' := [(3, .int 1), (0, .ref (al 0)), (1, .ref (ao 0)), (2, .int f)]) E 0 dX1_isOtherwise_25 rfl (by decide) (by decide) rfl (pc' := 28) rfl ?_
    refine zw_goto (tgt := 2) E dX1_isOtherwise_28 (by decide) ?_
    refine zw_iload_n (i := 3) (x := 1) E 0 dX1_isOtherwise_2 rfl rfl (pc' := 3) rfl ?_
    refine zw_bipush (v := 7) E dX1_isOtherwise_3 (by decide) (pc' := 5) rfl ?_
    refine zw_icmp_ge (tgt := 31) E dX1_isOtherwise_5 (by decide) (pc' := 8) rfl (fun c9 => absurd c9 (by decide)) (fun _ => ?_)
    refine zw_aload_n (i := 0) (x := al 0) E 1 dX1_isOtherwise_8 rfl rfl (pc' := 9) rfl ?_
    refine zw_iload_n (i := 2) (x := f) E 3 dX1_isOtherwise_9 rfl rfl (pc' := 10) rfl ?_
    refine zw_iload_n (i := 3) (x := 1) E 0 dX1_isOtherwise_10 rfl rfl (pc' := 11) rfl ?_
    refine zw_callIv E (r := t_tell d f 1) (As := [.int f, .int 1]) (rest := []) (ws' := (l2_W K al ao bq d o)) (qX1_tell l D K al bq d f 1) (cwV 2 E.2.2.2.2.1 gX1_isOtherwise_X1_tell rfl rfl rfl (by decide +kernel) ⟨Nat.le_of_ble_eq_true rfl, Nat.le_of_ble_eq_true rfl⟩) 0 rfl rfl rfl [0, 1, 2, 3, 4, 5, 6, 7, 8, 9, 10, 11, 12, 13] (by decide) emC_l2_d rfl (zw_put_same _ _ _ emC_l2_d) rfl rfl (Nat.le_of_ble_eq_true rfl) ⟨Nat.zero_le _, Nat.zero_le _⟩ dX1_isOtherwise_11 (pc' := 14) rfl ?_
    refine zw_aload_n (i := 1) (x := ao 0) E 2 dX1_isOtherwise_14 rfl rfl (pc' := 15) rfl ?_
    refine zw_iload_n (i := 2) (x := f) E 3 dX1_isOtherwise_15 rfl rfl (pc' := 16) rfl ?_
    refine zw_iload_n (i := 3) (x := 1) E 0 dX1_isOtherwise_16 rfl rfl (pc' := 17) rfl ?_
    refine zw_callIv E (r := t_tell o f 1) (As := [.int f, .int 1]) (rest := [.int (t_tell d f 1)]) (ws' := (l2_W K al ao bq d o)) (qX1_tell l D K ao bq o f 1) (cwV 2 E.2.2.2.2.1 gX1_isOtherwise_X1_tell rfl rfl rfl (by decide +kernel) ⟨Nat.le_of_ble_eq_true rfl, Nat.le_of_ble_eq_true rfl⟩) 0 rfl rfl rfl [14, 15, 16, 17, 18, 19, 20, 21, 22, 23, 24, 25, 26, 27] (by decide) emC_l2_o rfl (zw_put_same _ _ _ emC_l2_o) rfl rfl (Nat.le_of_ble_eq_true rfl) ⟨Nat.zero_le _, Nat.zero_le _⟩ dX1_isOtherwise_17 (pc' := 20) rfl ?_
    refine zw_icmp_eq (tgt := 25) E dX1_isOtherwise_20 (by decide) (pc' := 23) rfl (fun c_2 => ?_) (fun c_2 => ?_)
    · skip
      refine zw_iinc (x := 1) (v := 2) (lv' := [(3, .int 2), (0, .ref (al 0)), (1, .ref (ao 0)), (2, .int f)]) E 0 dX1_isOtherwise_25 rfl (by decide) (by decide) rfl (pc' := 28) rfl ?_
      refine zw_goto (tgt := 2) E dX1_isOtherwise_28 (by decide) ?_
      refine zw_iload_n (i := 3) (x := 2) E 0 dX1_isOtherwise_2 rfl rfl (pc' := 3) rfl ?_
      refine zw_bipush (v := 7) E dX1_isOtherwise_3 (by decide) (pc' := 5) rfl ?_
      refine zw_icmp_ge (tgt := 31) E dX1_isOtherwise_5 (by decide) (pc' := 8) rfl (fun c9 => absurd c9 (by decide)) (fun _ => ?_)
      refine zw_aload_n (i := 0) (x := al 0) E 1 dX1_isOtherwise_8 rfl rfl (pc' := 9) rfl ?_
      refine zw_iload_n (i := 2) (x := f) E 3 dX1_isOtherwise_9 rfl rfl (pc' := 10) rfl ?_
      refine zw_iload_n (i := 3) (x := 2) E 0 dX1_isOtherwise_10 rfl rfl (pc' := 11) rfl ?_
      refine zw_callIv E (r := t_tell d f 2) (As := [.int f, .int 2]) (rest := []) (ws' := (l2_W K al ao bq d o)) (qX1_tell l D K al bq d f 2) (cwV 2 E.2.2.2.2.1 gX1_isOtherwise_X1_tell rfl rfl rfl (by decide +kernel) ⟨Nat.le_of_ble_eq_true rfl, Nat.le_of_ble_eq_true rfl⟩) 0 rfl rfl rfl [0, 1, 2, 3, 4, 5, 6, 7, 8, 9, 10, 11, 12, 13] (by decide) emC_l2_d rfl (zw_put_same _ _ _ emC_l2_d) rfl rfl (Nat.le_of_ble_eq_true rfl) ⟨Nat.zero_le _, Nat.zero_le _⟩ dX1_isOtherwise_11 (pc' := 14) rfl ?_
      refine zw_aload_n (i := 1) (x := ao 0) E 2 dX1_isOtherwise_14 rfl rfl (pc' := 15) rfl ?_
      refine zw_iload_n (i := 2) (x := f) E 3 dX1_isOtherwise_15 rfl rfl (pc' := 16) rfl ?_
      refine zw_iload_n (i := 3) (x := 2) E 0 dX1_isOtherwise_16 rfl rfl (pc' := 17) rfl ?_
      refine zw_callIv E (r := t_tell o f 2) (As := [.int f, .int 2]) (rest := [.int (t_tell d f 2)]) (ws' := (l2_W K al ao bq d o)) (qX1_tell l D K ao bq o f 2) (cwV 2 E.2.2.2.2.1 gX1_isOtherwise_X1_tell rfl rfl rfl (by decide +kernel) ⟨Nat.le_of_ble_eq_true rfl, Nat.le_of_ble_eq_true rfl⟩) 0 rfl rfl rfl [14, 15, 16, 17, 18, 19, 20, 21, 22, 23, 24, 25, 26, 27] (by decide) emC_l2_o rfl (zw_put_same _ _ _ emC_l2_o) rfl rfl (Nat.le_of_ble_eq_true rfl) ⟨Nat.zero_le _, Nat.zero_le _⟩ dX1_isOtherwise_17 (pc' := 20) rfl ?_
      refine zw_icmp_eq (tgt := 25) E dX1_isOtherwise_20 (by decide) (pc' := 23) rfl (fun c_3 => ?_) (fun c_3 => ?_)
      · skip
        refine zw_iinc (x := 2) (v := 3) (lv' := [(3, .int 3), (0, .ref (al 0)), (1, .ref (ao 0)), (2, .int f)]) E 0 dX1_isOtherwise_25 rfl (by decide) (by decide) rfl (pc' := 28) rfl ?_
        refine zw_goto (tgt := 2) E dX1_isOtherwise_28 (by decide) ?_
        refine zw_iload_n (i := 3) (x := 3) E 0 dX1_isOtherwise_2 rfl rfl (pc' := 3) rfl ?_
        refine zw_bipush (v := 7) E dX1_isOtherwise_3 (by decide) (pc' := 5) rfl ?_
        refine zw_icmp_ge (tgt := 31) E dX1_isOtherwise_5 (by decide) (pc' := 8) rfl (fun c9 => absurd c9 (by decide)) (fun _ => ?_)
        refine zw_aload_n (i := 0) (x := al 0) E 1 dX1_isOtherwise_8 rfl rfl (pc' := 9) rfl ?_
        refine zw_iload_n (i := 2) (x := f) E 3 dX1_isOtherwise_9 rfl rfl (pc' := 10) rfl ?_
        refine zw_iload_n (i := 3) (x := 3) E 0 dX1_isOtherwise_10 rfl rfl (pc' := 11) rfl ?_
        refine zw_callIv E (r := t_tell d f 3) (As := [.int f, .int 3]) (rest := []) (ws' := (l2_W K al ao bq d o)) (qX1_tell l D K al bq d f 3) (cwV 2 E.2.2.2.2.1 gX1_isOtherwise_X1_tell rfl rfl rfl (by decide +kernel) ⟨Nat.le_of_ble_eq_true rfl, Nat.le_of_ble_eq_true rfl⟩) 0 rfl rfl rfl [0, 1, 2, 3, 4, 5, 6, 7, 8, 9, 10, 11, 12, 13] (by decide) emC_l2_d rfl (zw_put_same _ _ _ emC_l2_d) rfl rfl (Nat.le_of_ble_eq_true rfl) ⟨Nat.zero_le _, Nat.zero_le _⟩ dX1_isOtherwise_11 (pc' := 14) rfl ?_
        refine zw_aload_n (i := 1) (x := ao 0) E 2 dX1_isOtherwise_14 rfl rfl (pc' := 15) rfl ?_
        refine zw_iload_n (i := 2) (x := f) E 3 dX1_isOtherwise_15 rfl rfl (pc' := 16) rfl ?_
        refine zw_iload_n (i := 3) (x := 3) E 0 dX1_isOtherwise_16 rfl rfl (pc' := 17) rfl ?_
        refine zw_callIv E (r := t_tell o f 3) (As := [.int f, .int 3]) (rest := [.int (t_tell d f 3)]) (ws' := (l2_W K al ao bq d o)) (qX1_tell l D K ao bq o f 3) (cwV 2 E.2.2.2.2.1 gX1_isOtherwise_X1_tell rfl rfl rfl (by decide +kernel) ⟨Nat.le_of_ble_eq_true rfl, Nat.le_of_ble_eq_true rfl⟩) 0 rfl rfl rfl [14, 15, 16, 17, 18, 19, 20, 21, 22, 23, 24, 25, 26, 27] (by decide) emC_l2_o rfl (zw_put_same _ _ _ emC_l2_o) rfl rfl (Nat.le_of_ble_eq_true rfl) ⟨Nat.zero_le _, Nat.zero_le _⟩ dX1_isOtherwise_17 (pc' := 20) rfl ?_
        refine zw_icmp_eq (tgt := 25) E dX1_isOtherwise_20 (by decide) (pc' := 23) rfl (fun c_4 => ?_) (fun c_4 => ?_)
        · skip
          refine zw_iinc (x := 3) (v := 4) (lv' := [(3, .int 4), (0, .ref (al 0)), (1, .ref (ao 0)), (2, .int f)]) E 0 dX1_isOtherwise_25 rfl (by decide) (by decide) rfl (pc' := 28) rfl ?_
          refine zw_goto (tgt := 2) E dX1_isOtherwise_28 (by decide) ?_
          refine zw_iload_n (i := 3) (x := 4) E 0 dX1_isOtherwise_2 rfl rfl (pc' := 3) rfl ?_
          refine zw_bipush (v := 7) E dX1_isOtherwise_3 (by decide) (pc' := 5) rfl ?_
          refine zw_icmp_ge (tgt := 31) E dX1_isOtherwise_5 (by decide) (pc' := 8) rfl (fun c9 => absurd c9 (by decide)) (fun _ => ?_)
          refine zw_aload_n (i := 0) (x := al 0) E 1 dX1_isOtherwise_8 rfl rfl (pc' := 9) rfl ?_
          refine zw_iload_n (i := 2) (x := f) E 3 dX1_isOtherwise_9 rfl rfl (pc' := 10) rfl ?_
          refine zw_iload_n (i := 3) (x := 4) E 0 dX1_isOtherwise_10 rfl rfl (pc' := 11) rfl ?_
          refine zw_callIv E (r := t_tell d f 4) (As := [.int f, .int 4]) (rest := []) (ws' := (l2_W K al ao bq d o)) (qX1_tell l D K al bq d f 4) (cwV 2 E.2.2.2.2.1 gX1_isOtherwise_X1_tell rfl rfl rfl (by decide +kernel) ⟨Nat.le_of_ble_eq_true rfl, Nat.le_of_ble_eq_true rfl⟩) 0 rfl rfl rfl [0, 1, 2, 3, 4, 5, 6, 7, 8, 9, 10, 11, 12, 13] (by decide) emC_l2_d rfl (zw_put_same _ _ _ emC_l2_d) rfl rfl (Nat.le_of_ble_eq_true rfl) ⟨Nat.zero_le _, Nat.zero_le _⟩ dX1_isOtherwise_11 (pc' := 14) rfl ?_
          refine zw_aload_n (i := 1) (x := ao 0) E 2 dX1_isOtherwise_14 rfl rfl (pc' := 15) rfl ?_
          refine zw_iload_n (i := 2) (x := f) E 3 dX1_isOtherwise_15 rfl rfl (pc' := 16) rfl ?_
          refine zw_iload_n (i := 3) (x := 4) E 0 dX1_isOtherwise_16 rfl rfl (pc' := 17) rfl ?_
          refine zw_callIv E (r := t_tell o f 4) (As := [.int f, .int 4]) (rest := [.int (t_tell d f 4)]) (ws' := (l2_W K al ao bq d o)) (qX1_tell l D K ao bq o f 4) (cwV 2 E.2.2.2.2.1 gX1_isOtherwise_X1_tell rfl rfl rfl (by decide +kernel) ⟨Nat.le_of_ble_eq_true rfl, Nat.le_of_ble_eq_true rfl⟩) 0 rfl rfl rfl [14, 15, 16, 17, 18, 19, 20, 21, 22, 23, 24, 25, 26, 27] (by decide) emC_l2_o rfl (zw_put_same _ _ _ emC_l2_o) rfl rfl (Nat.le_of_ble_eq_true rfl) ⟨Nat.zero_le _, Nat.zero_le _⟩ dX1_isOtherwise_17 (pc' := 20) rfl ?_
          refine zw_icmp_eq (tgt := 25) E dX1_isOtherwise_20 (by decide) (pc' := 23) rfl (fun c_5 => ?_) (fun c_5 => ?_)
          · skip
            refine zw_iinc (x := 4) (v := 5) (lv' := [(3, .int 5), (0, .ref (al 0)), (1, .ref (ao 0)), (2, .int f)]) E 0 dX1_isOtherwise_25 rfl (by decide) (by decide) rfl (pc' := 28) rfl ?_
            refine zw_goto (tgt := 2) E dX1_isOtherwise_28 (by decide) ?_
            refine zw_iload_n (i := 3) (x := 5) E 0 dX1_isOtherwise_2 rfl rfl (pc' := 3) rfl ?_
            refine zw_bipush (v := 7) E dX1_isOtherwise_3 (by decide) (pc' := 5) rfl ?_
            refine zw_icmp_ge (tgt := 31) E dX1_isOtherwise_5 (by decide) (pc' := 8) rfl (fun c9 => absurd c9 (by decide)) (fun _ => ?_)
            refine zw_aload_n (i := 0) (x := al 0) E 1 dX1_isOtherwise_8 rfl rfl (pc' := 9) rfl ?_
            refine zw_iload_n (i := 2) (x := f) E 3 dX1_isOtherwise_9 rfl rfl (pc' := 10) rfl ?_
            refine zw_iload_n (i := 3) (x := 5) E 0 dX1_isOtherwise_10 rfl rfl (pc' := 11) rfl ?_
            refine zw_callIv E (r := t_tell d f 5) (As := [.int f, .int 5]) (rest := []) (ws' := (l2_W K al ao bq d o)) (qX1_tell l D K al bq d f 5) (cwV 2 E.2.2.2.2.1 gX1_isOtherwise_X1_tell rfl rfl rfl (by decide +kernel) ⟨Nat.le_of_ble_eq_true rfl, Nat.le_of_ble_eq_true rfl⟩) 0 rfl rfl rfl [0, 1, 2, 3, 4, 5, 6, 7, 8, 9, 10, 11, 12, 13] (by decide) emC_l2_d rfl (zw_put_same _ _ _ emC_l2_d) rfl rfl (Nat.le_of_ble_eq_true rfl) ⟨Nat.zero_le _, Nat.zero_le _⟩ dX1_isOtherwise_11 (pc' := 14) rfl ?_
            refine zw_aload_n (i := 1) (x := ao 0) E 2 dX1_isOtherwise_14 rfl rfl (pc' := 15) rfl ?_
            refine zw_iload_n (i := 2) (x := f) E 3 dX1_isOtherwise_15 rfl rfl (pc' := 16) rfl ?_
            refine zw_iload_n (i := 3) (x := 5) E 0 dX1_isOtherwise_16 rfl rfl (pc' := 17) rfl ?_
            refine zw_callIv E (r := t_tell o f 5) (As := [.int f, .int 5]) (rest := [.int (t_tell d f 5)]) (ws' := (l2_W K al ao bq d o)) (qX1_tell l D K ao bq o f 5) (cwV 2 E.2.2.2.2.1 gX1_isOtherwise_X1_tell rfl rfl rfl (by decide +kernel) ⟨Nat.le_of_ble_eq_true rfl, Nat.le_of_ble_eq_true rfl⟩) 0 rfl rfl rfl [14, 15, 16, 17, 18, 19, 20, 21, 22, 23, 24, 25, 26, 27] (by decide) emC_l2_o rfl (zw_put_same _ _ _ emC_l2_o) rfl rfl (Nat.le_of_ble_eq_true rfl) ⟨Nat.zero_le _, Nat.zero_le _⟩ dX1_isOtherwise_17 (pc' := 20) rfl ?_
            refine zw_icmp_eq (tgt := 25) E dX1_isOtherwise_20 (by decide) (pc' := 23) rfl (fun c_6 => ?_) (fun c_6 => ?_)
            · skip
              refine zw_iinc (x := 5) (v := 6) (lv' := [(3, .int 6), (0, .ref (al 0)), (1, .ref (ao 0)), (2, .int f)]) E 0 dX1_isOtherwise_25 rfl (by decide) (by decide) rfl (pc' := 28) rfl ?_
              refine zw_goto (tgt := 2) E dX1_isOtherwise_28 (by decide) ?_
              refine zw_iload_n (i := 3) (x := 6) E 0 dX1_isOtherwise_2 rfl rfl (pc' := 3) rfl ?_
              refine zw_bipush (v := 7) E dX1_isOtherwise_3 (by decide) (pc' := 5) rfl ?_
              refine zw_icmp_ge (tgt := 31) E dX1_isOtherwise_5 (by decide) (pc' := 8) rfl (fun c9 => absurd c9 (by decide)) (fun _ => ?_)
              refine zw_aload_n (i := 0) (x := al 0) E 1 dX1_isOtherwise_8 rfl rfl (pc' := 9) rfl ?_
              refine zw_iload_n (i := 2) (x := f) E 3 dX1_isOtherwise_9 rfl rfl (pc' := 10) rfl ?_
              refine zw_iload_n (i := 3) (x := 6) E 0 dX1_isOtherwise_10 rfl rfl (pc' := 11) rfl ?_
              refine zw_callIv E (r := t_tell d f 6) (As := [.int f, .int 6]) (rest := []) (ws' := (l2_W K al ao bq d o)) (qX1_tell l D K al bq d f 6) (cwV 2 E.2.2.2.2.1 gX1_isOtherwise_X1_tell rfl rfl rfl (by decide +kernel) ⟨Nat.le_of_ble_eq_true rfl, Nat.le_of_ble_eq_true rfl⟩) 0 rfl rfl rfl [0, 1, 2, 3, 4, 5, 6, 7, 8, 9, 10, 11, 12, 13] (by decide) emC_l2_d rfl (zw_put_same _ _ _ emC_l2_d) rfl rfl (Nat.le_of_ble_eq_true rfl) ⟨Nat.zero_le _, Nat.zero_le _⟩ dX1_isOtherwise_11 (pc' := 14) rfl ?_
              refine zw_aload_n (i := 1) (x := ao 0) E 2 dX1_isOtherwise_14 rfl rfl (pc' := 15) rfl ?_
              refine zw_iload_n (i := 2) (x := f) E 3 dX1_isOtherwise_15 rfl rfl (pc' := 16) rfl ?_
              refine zw_iload_n (i := 3) (x := 6) E 0 dX1_isOtherwise_16 rfl rfl (pc' := 17) rfl ?_
              refine zw_callIv E (r := t_tell o f 6) (As := [.int f, .int 6]) (rest := [.int (t_tell d f 6)]) (ws' := (l2_W K al ao bq d o)) (qX1_tell l D K ao bq o f 6) (cwV 2 E.2.2.2.2.1 gX1_isOtherwise_X1_tell rfl rfl rfl (by decide +kernel) ⟨Nat.le_of_ble_eq_true rfl, Nat.le_of_ble_eq_true rfl⟩) 0 rfl rfl rfl [14, 15, 16, 17, 18, 19, 20, 21, 22, 23, 24, 25, 26, 27] (by decide) emC_l2_o rfl (zw_put_same _ _ _ emC_l2_o) rfl rfl (Nat.le_of_ble_eq_true rfl) ⟨Nat.zero_le _, Nat.zero_le _⟩ dX1_isOtherwise_17 (pc' := 20) rfl ?_
              refine zw_icmp_eq (tgt := 25) E dX1_isOtherwise_20 (by decide) (pc' := 23) rfl (fun c_7 => ?_) (fun c_7 => ?_)
              · skip
                refine zw_iinc (x := 6) (v := 7) (lv' := [(3, .int 7), (0, .ref (al 0)), (1, .ref (ao 0)), (2, .int f)]) E 0 dX1_isOtherwise_25 rfl (by decide) (by decide) rfl (pc' := 28) rfl ?_
                refine zw_goto (tgt := 2) E dX1_isOtherwise_28 (by decide) ?_
                refine zw_iload_n (i := 3) (x := 7) E 0 dX1_isOtherwise_2 rfl rfl (pc' := 3) rfl ?_
                refine zw_bipush (v := 7) E dX1_isOtherwise_3 (by decide) (pc' := 5) rfl ?_
                refine zw_icmp_ge (tgt := 31) E dX1_isOtherwise_5 (by decide) (pc' := 8) rfl (fun _ => ?_) (fun c9 => absurd (by decide) c9)
                refine zw_iconst (v := 0) E dX1_isOtherwise_31 (by decide) (pc' := 32) rfl ?_
                exact zw_zret E hr hlk dX1_isOtherwise_32 rfl (by unfold l_other; rw [if_pos c_1, if_pos c_2, if_pos c_3, if_pos c_4, if_pos c_5, if_pos c_6, if_pos c_7]) rfl
              · skip
                refine zw_iconst (v := 1) E dX1_isOtherwise_23 (by decide) (pc' := 24) rfl ?_
                exact zw_zret E hr hlk dX1_isOtherwise_24 rfl (by unfold l_other; rw [if_pos c_1, if_pos c_2, if_pos c_3, if_pos c_4, if_pos c_5, if_pos c_6, if_neg c_7]) rfl
            · skip
              refine zw_iconst (v := 1) E dX1_isOtherwise_23 (by decide) (pc' := 24) rfl ?_
              exact zw_zret E hr hlk dX1_isOtherwise_24 rfl (by unfold l_other; rw [if_pos c_1, if_pos c_2, if_pos c_3, if_pos c_4, if_pos c_5, if_neg c_6]) rfl
          · skip
            refine zw_iconst (v := 1) E dX1_isOtherwise_23 (by decide) (pc' := 24) rfl ?_
            exact zw_zret E hr hlk dX1_isOtherwise_24 rfl (by unfold l_other; rw [if_pos c_1, if_pos c_2, if_pos c_3, if_pos c_4, if_neg c_5]) rfl
        · skip
          refine zw_iconst (v := 1) E dX1_isOtherwise_23 (by decide) (pc' := 24) rfl ?_
          exact zw_zret E hr hlk dX1_isOtherwise_24 rfl (by unfold l_other; rw [if_pos c_1, if_pos c_2, if_pos c_3, if_neg c_4]) rfl
      · skip
        refine zw_iconst (v := 1) E dX1_isOtherwise_23 (by decide) (pc' := 24) rfl ?_
        exact zw_zret E hr hlk dX1_isOtherwise_24 rfl (by unfold l_other; rw [if_pos c_1, if_pos c_2, if_neg c_3]) rfl
    · skip
      refine zw_iconst (v := 1) E dX1_isOtherwise_23 (by decide) (pc' := 24) rfl ?_
      exact zw_zret E hr hlk dX1_isOtherwise_24 rfl (by unfold l_other; rw [if_pos c_1, if_neg c_2]) rfl
  · skip
    refine zw_iconst (v := 1) E dX1_isOtherwise_23 (by decide) (pc' := 24) rfl ?_
    exact zw_zret E hr hlk dX1_isOtherwise_24 rfl (by unfold l_other; rw [if_neg c_1]) rfl
end
