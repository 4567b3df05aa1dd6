/-! THE LAYER: a judgement over (pc, locals, stack, world) alone; a row an instruction; contracts that say which answer and which world come back -/
def zw_N (s : State) : Prop := va_Nw (.methodLinkNest RX2 9 yX0_init "TitheMap") s ∧ va_Nw (.methodLinkNest RX0 56 yX2_at "TitheMap") s ∧ va_Nw (.methodLinkNest RX1 63 yX2_at "TitheMap") s
theorem zw_N.warm {s U : State} (hW : s.WarmedH U.vm) (h : zw_N s) : zw_N U := ⟨h.1.warmM hW, h.2.1.warmM hW, h.2.2.warmM hW⟩
theorem zw_N.same {u U : State} (hv : u.vm = U.vm) (h : zw_N u) : zw_N U := ⟨va_Nw.same rfl hv h.1, va_Nw.same rfl hv h.2.1, va_Nw.same rfl hv h.2.2⟩
def zw_W (p : Program) (l : Launch) (e : Env) (R : Room) (s : State) (m : MethodId) (args : Array Value) (below : List Frame) (meth : Method) (c : Code) (nL : Nat) (D : va_G) (A : Nat → Prop) (cells slots : Nat) (Q : State → Prop) (pc : Nat) (lv : List (Nat × Value)) (st : List Value) (ws : va_W) : Prop :=
  ∀ (H : Heap) (locs : List Loc) (ls : Array Slot), lv_has ls nL lv → va_P D vwCl ws H → va_D A ws → va_S A s.heap H locs → W p l e R s m args below meth c H locs cells slots Q (F0 m pc ls st)
def zw_E (p : Program) (s : State) (m : MethodId) (args : Array Value) (c : Code) (cc : ByteArray) (nL : Nat) (own : String) (Ts : List Cond) (D : va_G) (tys : List (ClassId × FieldType)) (A : Nat → Prop) : Prop :=
  p.tables.exec = Jvm.exec ∧ c.code = cc ∧ c.maxLocals = nL ∧ s.vm.findClass own = some m.cls ∧ (∀ w ∈ Ts, w.before args s = true) ∧ va_K D vwCl tys s ∧ (∀ q : Nat, s.heap.size ≤ q → A q) ∧ zw_N s
theorem zw_D.congr {A : Nat → Prop} {ws ws' : va_W} (h : ws.map Prod.fst = ws'.map Prod.fst) (hD : va_D A ws) : va_D A ws' := by
  have key : ∀ (k : Nat) (q : Nat × va_E), ws'[k]? = some q → ∃ q0, ws[k]? = some q0 ∧ q0.1 = q.1 := by
    intro k q hk
    have h1 : (ws.map Prod.fst)[k]? = some q.1 := by rw [h, List.getElem?_map, hk]; rfl
    rw [List.getElem?_map] at h1
    cases hi : ws[k]? with
    | none => rw [hi] at h1; cases h1
    | some q0 => rw [hi] at h1; exact ⟨q0, rfl, Option.some.inj h1⟩
  refine ⟨fun i j x y hi hj hxy => ?_, fun k q hk => ?_⟩
  · obtain ⟨x0, h1, h2⟩ := key i x hi
    obtain ⟨y0, h3, h4⟩ := key j y hj
    exact hD.1 i j x0 y0 h1 h3 (h2.trans (hxy.trans h4.symm))
  · obtain ⟨q0, h1, h2⟩ := key k q hk
    rw [← h2]
    exact hD.2 k q0 h1
def zw_put : va_W → List Nat → va_W → va_W
  | ws, i :: is, x :: xs => zw_put (ws.set i x) is xs
  | ws, _, _ => ws
theorem zw_put_get : ∀ (is : List Nat) (W1 ws : va_W) (k : Nat) (q : Nat × va_E), is.length = W1.length → (zw_put ws is W1)[k]? = some q → (ws[k]? = some q ∧ k ∉ is) ∨ ∃ j : Nat, is[j]? = some k ∧ W1[j]? = some q
  | [], [], ws, k, q, _, h => Or.inl ⟨h, List.not_mem_nil⟩
  | [], x :: xs, ws, k, q, hl, _ => by cases hl
  | i :: is, [], ws, k, q, hl, _ => by cases hl
  | i :: is, x :: xs, ws, k, q, hl, h => by
    rcases zw_put_get is xs (ws.set i x) k q (Nat.succ.inj hl) h with ⟨h1, h2⟩ | ⟨j, h1, h2⟩
    · by_cases hk : i = k
      · subst hk
        refine Or.inr ⟨0, rfl, ?_⟩
        have hlt : i < ws.length := by
          rcases Nat.lt_or_ge i ws.length with z | z
          · exact z
          · rw [List.getElem?_eq_none (by rw [List.length_set]; exact z)] at h1
            cases h1
        rw [List.getElem?_set_self hlt] at h1
        exact h1
      · rw [List.getElem?_set_ne hk] at h1
        exact Or.inl ⟨h1, fun hm => by rcases List.mem_cons.mp hm with z | z; exact hk z.symm; exact h2 z⟩
    · exact Or.inr ⟨j + 1, h1, h2⟩
theorem zw_set_fst (ws : va_W) (i : Nat) (x : Nat × va_E) (h : (ws.map Prod.fst)[i]? = some x.1) : (ws.set i x).map Prod.fst = ws.map Prod.fst := by
  apply List.ext_getElem?
  intro j
  rw [List.map_set]
  by_cases hj : i = j
  · subst hj
    have hlt := (List.getElem?_eq_some_iff.mp h).1
    rw [List.getElem?_set_self hlt, h]
  · rw [List.getElem?_set_ne hj]
theorem zw_put_fst : ∀ (is : List Nat) (W1 ws : va_W), (is.map (fun i => (ws.map Prod.fst)[i]?) = W1.map (fun x => some x.1)) → (zw_put ws is W1).map Prod.fst = ws.map Prod.fst
  | [], [], ws, _ => rfl
  | [], _ :: _, ws, _ => rfl
  | _ :: _, [], ws, _ => rfl
  | i :: is, x :: xs, ws, h => by
    have h1 := (List.cons.inj h).1
    have h2 := (List.cons.inj h).2
    have e := zw_set_fst ws i x h1
    show (zw_put (ws.set i x) is xs).map Prod.fst = _
    rw [zw_put_fst is xs (ws.set i x) (by rw [e]; exact h2), e]
theorem zw_fst_of {is : List Nat} {ws W0 W1 : va_W} (hC : is.map (fun i => ws[i]?) = W0.map some) (had : W1.map Prod.fst = W0.map Prod.fst) : is.map (fun i => (ws.map Prod.fst)[i]?) = W1.map (fun x => some x.1) := by
  have h1 : is.map (fun i => (ws.map Prod.fst)[i]?) = (is.map (fun i => ws[i]?)).map (fun o => o.map Prod.fst) := by
    rw [List.map_map]
    apply List.map_congr_left
    intro i _
    exact List.getElem?_map
  have h2 : W1.map (fun x => some x.1) = (W1.map Prod.fst).map some := by rw [List.map_map]; rfl
  rw [h1, h2, hC, had, List.map_map, List.map_map]
  rfl
theorem zw_get_of {is : List Nat} {ws W0 : va_W} (hC : is.map (fun i => ws[i]?) = W0.map some) {j : Nat} {q : Nat × va_E} (h : W0[j]? = some q) : ∃ i : Nat, is[j]? = some i ∧ ws[i]? = some q := by
  have h1 : (is.map (fun i => ws[i]?))[j]? = some (some q) := by rw [hC, List.getElem?_map, h]; rfl
  rw [List.getElem?_map] at h1
  cases hi : is[j]? with
  | none => rw [hi] at h1; cases h1
  | some i => rw [hi] at h1; exact ⟨i, rfl, Option.some.inj h1⟩
theorem zw_put_P {A : Nat → Prop} {D : va_G} {cl : List vw_C} {is : List Nat} {ws W0 W1 : va_W} {H H1 : Heap} (hP : va_P D cl ws H) (hD : va_D A ws) (hC : is.map (fun i => ws[i]?) = W0.map some) (had : W1.map Prod.fst = W0.map Prod.fst)
    (hk : ∀ q : Nat, q < H.size → ¬ va_A W0 H.size q → H1[q]? = H[q]?) (hP1 : va_P D cl W1 H1) : va_P D cl (zw_put ws is W1) H1 := by
  intro k q hq
  have hl : is.length = W1.length := by
    have h1 : is.length = W0.length := by have := congrArg List.length hC; simpa using this
    have h2 : W1.length = W0.length := by have := congrArg List.length had; simpa using this
    omega
  rcases zw_put_get is W1 ws k q hl hq with ⟨h1, h2⟩ | ⟨j, h1, h2⟩
  · have hlt := (hP k q h1).lt
    refine (hP k q h1).kept (hk q.1 hlt (fun h => ?_))
    rcases h with ⟨k2, e, h⟩ | h
    · obtain ⟨i, h3, h4⟩ := zw_get_of hC h
      have hij := hD.1 k i q (q.1, e) h1 h4 rfl
      subst hij
      exact h2 (List.mem_of_getElem? h3)
    · omega
  · exact hP1 j q h2
theorem zw_part_P {D : va_G} {cl : List vw_C} {is : List Nat} {ws W0 : va_W} {H : Heap} (hP : va_P D cl ws H) (hC : is.map (fun i => ws[i]?) = W0.map some) : va_P D cl W0 H := by
  intro k q hq
  obtain ⟨i, -, h4⟩ := zw_get_of hC hq
  exact hP i q h4
/-- a contract's start -/
def zw_B (D : va_G) (tys : List (ClassId × FieldType)) (W0 : va_W) (sz : Nat) (U : State) : Prop := U.heap.size = sz ∧ va_P D vwCl W0 U.heap ∧ va_K D vwCl tys U ∧ va_D (fun _ => True) W0 ∧ zw_N U
/-- contracts: from the world W0 with these arguments the answer r and the world W1 come; no cell is made -/
def zw_I (l : Launch) (y : MethodName) (w : List Cond) (rm : Room) (D : va_G) (tys : List (ClassId × FieldType)) (av : List Value) (W0 : va_W) (r : Int32) (W1 : va_W) : Prop :=
  ∀ sz : Nat, Met l y w rm (va_Pc av (zw_B D tys W0 sz)) (va_Qi (fun r' (_ : Unit) => r' = r) (fun _ t => va_P D vwCl W1 t.heap) (va_A W0 sz)) 0 0 (va_A W0 sz)
def zw_L (l : Launch) (y : MethodName) (w : List Cond) (rm : Room) (D : va_G) (tys : List (ClassId × FieldType)) (av : List Value) (W0 : va_W) (r : Int64) (W1 : va_W) : Prop :=
  ∀ sz : Nat, Met l y w rm (va_Pc av (zw_B D tys W0 sz)) (va_Ql (fun r' (_ : Unit) => r' = r) (fun _ t => va_P D vwCl W1 t.heap) (va_A W0 sz)) 0 0 (va_A W0 sz)
def zw_V (l : Launch) (y : MethodName) (w : List Cond) (rm : Room) (D : va_G) (tys : List (ClassId × FieldType)) (av : List Value) (W0 : va_W) (W1 : va_W) : Prop :=
  ∀ sz : Nat, Met l y w rm (va_Pc av (zw_B D tys W0 sz)) (va_Qv (fun (_ : Unit) => True) (fun _ t => va_P D vwCl W1 t.heap) (va_A W0 sz)) 0 0 (va_A W0 sz)
/-- what a body comes to -/
def zw_Qi (D : va_G) (A : Nat → Prop) (below : List Frame) (args : Array Value) (s : State) (r : Int32) (W1 : va_W) : State → Prop := MQ below (va_Qi (fun r' (_ : Unit) => r' = r) (fun _ t => va_P D vwCl W1 t.heap) A) args s 0 0 A
def zw_Ql (D : va_G) (A : Nat → Prop) (below : List Frame) (args : Array Value) (s : State) (r : Int64) (W1 : va_W) : State → Prop := MQ below (va_Ql (fun r' (_ : Unit) => r' = r) (fun _ t => va_P D vwCl W1 t.heap) A) args s 0 0 A
def zw_Qv (D : va_G) (A : Nat → Prop) (below : List Frame) (args : Array Value) (s : State) (W1 : va_W) : State → Prop := MQ below (va_Qv (fun (_ : Unit) => True) (fun _ t => va_P D vwCl W1 t.heap) A) args s 0 0 A

theorem zw_ofI {l : Launch} {y : MethodName} {w w' : List Cond} {rm : Room} {D : va_G} {tys : List (ClassId × FieldType)} {av : List Value} {W0 W1 : va_W} {r : Int32} {cc : ByteArray} {nL : Nat} {ret : Option FieldType} {own : String} {lv : List (Nat × Value)} (hy : plainName y.cls = true) (hw : w = Cond.code y cc nL ret :: w') (hlen : (lg_sl av).length ≤ nL) (ho : y.cls = own) (hlv : lv_args 0 av = lv)
    (body : ∀ (p : Program) (e : Env) (s : State) (m : MethodId) (below : List Frame) (meth : Method) (c : Code) (A : Nat → Prop), zw_E p s m av.toArray c cc nL own w D tys A → meth.sig.returnType = ret → meth.locks = false → zw_W p l e rm s m av.toArray below meth c nL D A 0 0 (zw_Qi D A below av.toArray s r W1) 0 lv [] W0) : zw_I l y w rm D tys av W0 r W1 := by
  intro sz
  refine Met.ofW (cc := cc) (maxL := nL) (ret := ret) hy hw ?_
  intro p e s m args below meth c s₁ B hml hv
  obtain ⟨rfl, hsz, hP, hK, hD0, hN⟩ := hv
  have hts := atoms_spec (ws := w) B.pre
  have hown : s.vm.findClass own = some m.cls := by rw [← ho]; exact findClass_of_methodNamed B.named
  subst hsz
  have hD := hD0.self (sz := s.heap.size)
  generalize hAe : va_A W0 s.heap.size = A at hD ⊢
  have hA : ∀ q : Nat, s.heap.size ≤ q → A q := fun q h => by rw [← hAe]; exact Or.inr h
  have hl := lv_entry av (n := nL) hlen
  rw [lg_entry_eq]
  generalize (lg_sl av ++ List.replicate (nL - (lg_sl av).length) Slot.unset).toArray = ls at hl ⊢
  rw [hlv] at hl
  exact body p e s m below meth c A ⟨B.exec, B.bytes, hml, hown, hts, hK, hA, hN⟩ B.returns B.notSynchronized s.heap [] ls hl hP hD va_S.rf

theorem zw_ofL {l : Launch} {y : MethodName} {w w' : List Cond} {rm : Room} {D : va_G} {tys : List (ClassId × FieldType)} {av : List Value} {W0 W1 : va_W} {r : Int64} {cc : ByteArray} {nL : Nat} {ret : Option FieldType} {own : String} {lv : List (Nat × Value)} (hy : plainName y.cls = true) (hw : w = Cond.code y cc nL ret :: w') (hlen : (lg_sl av).length ≤ nL) (ho : y.cls = own) (hlv : lv_args 0 av = lv)
    (body : ∀ (p : Program) (e : Env) (s : State) (m : MethodId) (below : List Frame) (meth : Method) (c : Code) (A : Nat → Prop), zw_E p s m av.toArray c cc nL own w D tys A → meth.sig.returnType = ret → meth.locks = false → zw_W p l e rm s m av.toArray below meth c nL D A 0 0 (zw_Ql D A below av.toArray s r W1) 0 lv [] W0) : zw_L l y w rm D tys av W0 r W1 := by
  intro sz
  refine Met.ofW (cc := cc) (maxL := nL) (ret := ret) hy hw ?_
  intro p e s m args below meth c s₁ B hml hv
  obtain ⟨rfl, hsz, hP, hK, hD0, hN⟩ := hv
  have hts := atoms_spec (ws := w) B.pre
  have hown : s.vm.findClass own = some m.cls := by rw [← ho]; exact findClass_of_methodNamed B.named
  subst hsz
  have hD := hD0.self (sz := s.heap.size)
  generalize hAe : va_A W0 s.heap.size = A at hD ⊢
  have hA : ∀ q : Nat, s.heap.size ≤ q → A q := fun q h => by rw [← hAe]; exact Or.inr h
  have hl := lv_entry av (n := nL) hlen
  rw [lg_entry_eq]
  generalize (lg_sl av ++ List.replicate (nL - (lg_sl av).length) Slot.unset).toArray = ls at hl ⊢
  rw [hlv] at hl
  exact body p e s m below meth c A ⟨B.exec, B.bytes, hml, hown, hts, hK, hA, hN⟩ B.returns B.notSynchronized s.heap [] ls hl hP hD va_S.rf

theorem zw_ofV {l : Launch} {y : MethodName} {w w' : List Cond} {rm : Room} {D : va_G} {tys : List (ClassId × FieldType)} {av : List Value} {W0 W1 : va_W} {cc : ByteArray} {nL : Nat} {ret : Option FieldType} {own : String} {lv : List (Nat × Value)} (hy : plainName y.cls = true) (hw : w = Cond.code y cc nL ret :: w') (hlen : (lg_sl av).length ≤ nL) (ho : y.cls = own) (hlv : lv_args 0 av = lv)
    (body : ∀ (p : Program) (e : Env) (s : State) (m : MethodId) (below : List Frame) (meth : Method) (c : Code) (A : Nat → Prop), zw_E p s m av.toArray c cc nL own w D tys A → meth.sig.returnType = ret → meth.locks = false → zw_W p l e rm s m av.toArray below meth c nL D A 0 0 (zw_Qv D A below av.toArray s W1) 0 lv [] W0) : zw_V l y w rm D tys av W0 W1 := by
  intro sz
  refine Met.ofW (cc := cc) (maxL := nL) (ret := ret) hy hw ?_
  intro p e s m args below meth c s₁ B hml hv
  obtain ⟨rfl, hsz, hP, hK, hD0, hN⟩ := hv
  have hts := atoms_spec (ws := w) B.pre
  have hown : s.vm.findClass own = some m.cls := by rw [← ho]; exact findClass_of_methodNamed B.named
  subst hsz
  have hD := hD0.self (sz := s.heap.size)
  generalize hAe : va_A W0 s.heap.size = A at hD ⊢
  have hA : ∀ q : Nat, s.heap.size ≤ q → A q := fun q h => by rw [← hAe]; exact Or.inr h
  have hl := lv_entry av (n := nL) hlen
  rw [lg_entry_eq]
  generalize (lg_sl av ++ List.replicate (nL - (lg_sl av).length) Slot.unset).toArray = ls at hl ⊢
  rw [hlv] at hl
  exact body p e s m below meth c A ⟨B.exec, B.bytes, hml, hown, hts, hK, hA, hN⟩ B.returns B.notSynchronized s.heap [] ls hl hP hD va_S.rf

section ZW
variable {p : Program} {l : Launch} {e : Env} {R : Room} {s : State} {m : MethodId} {args : Array Value} {below : List Frame} {meth : Method} {c : Code} {cells slots : Nat} {Q : State → Prop} {cc : ByteArray} {nL : Nat} {own : String} {Ts : List Cond} {D : va_G} {tys : List (ClassId × FieldType)} {A : Nat → Prop} {pc pc' : Nat} {lv lv' : List (Nat × Value)} {st : List Value} {ws ws' : va_W}

theorem zw_iconst (E : zw_E p s m args c cc nL own Ts D tys A) {n : Int} {v : Int32} (hdg : decode cc pc = .ok (.iconst n, 1)) (hv : Int32.ofInt n = v) (hp : pc + 1 = pc') (k : zw_W p l e R s m args below meth c nL D A cells slots Q pc' lv (.int v :: st) ws) : zw_W p l e R s m args below meth c nL D A cells slots Q pc lv st ws := by
  subst hp
  exact fun H locs ls h1 h2 h3 h4 => lv_iconst E.1 E.2.1 hdg hv (k H locs ls h1 h2 h3 h4)

theorem zw_bipush (E : zw_E p s m args c cc nL own Ts D tys A) {n : Int} {v : Int32} (hdg : decode cc pc = .ok (.bipush n, 2)) (hv : (Int8.ofInt n).toInt32 = v) (hp : pc + 2 = pc') (k : zw_W p l e R s m args below meth c nL D A cells slots Q pc' lv (.int v :: st) ws) : zw_W p l e R s m args below meth c nL D A cells slots Q pc lv st ws := by
  subst hp
  exact fun H locs ls h1 h2 h3 h4 => lv_bipush E.1 E.2.1 hdg hv (k H locs ls h1 h2 h3 h4)

theorem zw_sipush (E : zw_E p s m args c cc nL own Ts D tys A) {n : Int} {v : Int32} (hdg : decode cc pc = .ok (.sipush n, 3)) (hv : (Int16.ofInt n).toInt32 = v) (hp : pc + 3 = pc') (k : zw_W p l e R s m args below meth c nL D A cells slots Q pc' lv (.int v :: st) ws) : zw_W p l e R s m args below meth c nL D A cells slots Q pc lv st ws := by
  subst hp
  exact fun H locs ls h1 h2 h3 h4 => lv_sipush E.1 E.2.1 hdg hv (k H locs ls h1 h2 h3 h4)

theorem zw_lconst (E : zw_E p s m args c cc nL own Ts D tys A) {n : Fin 2} {v : Int64} (hdg : decode cc pc = .ok (.lconst n, 1)) (hv : Int64.ofNat (n : Nat) = v) (hp : pc + 1 = pc') (k : zw_W p l e R s m args below meth c nL D A cells slots Q pc' lv (.long v :: st) ws) : zw_W p l e R s m args below meth c nL D A cells slots Q pc lv st ws := by
  subst hp
  exact fun H locs ls h1 h2 h3 h4 => lv_lconst E.1 E.2.1 hdg hv (k H locs ls h1 h2 h3 h4)

theorem zw_ldc (E : zw_E p s m args c cc nL own Ts D tys A) {index : Nat} {v : Int32} (hdg : decode cc pc = .ok (.ldc index, 2)) (hm : Cond.constant own index v ∈ Ts) (hp : pc + 2 = pc') (k : zw_W p l e R s m args below meth c nL D A cells slots Q pc' lv (.int v :: st) ws) : zw_W p l e R s m args below meth c nL D A cells slots Q pc lv st ws := by
  subst hp
  exact fun H locs ls h1 h2 h3 h4 => lv_ldc E.1 E.2.1 E.2.2.2.1 (E.2.2.2.2.1 _ hm) hdg (k H locs ls h1 h2 h3 h4)

theorem zw_ldc2 (E : zw_E p s m args c cc nL own Ts D tys A) {index : Nat} {v : Int64} (hdg : decode cc pc = .ok (.ldc2_w index, 3)) (hm : Cond.constantLong own index v ∈ Ts) (hp : pc + 3 = pc') (k : zw_W p l e R s m args below meth c nL D A cells slots Q pc' lv (.long v :: st) ws) : zw_W p l e R s m args below meth c nL D A cells slots Q pc lv st ws := by
  subst hp
  exact fun H locs ls h1 h2 h3 h4 => lv_ldc2 E.1 E.2.1 E.2.2.2.1 (E.2.2.2.2.1 _ hm) hdg (k H locs ls h1 h2 h3 h4)

theorem zw_iload_n (E : zw_E p s m args c cc nL own Ts D tys A) {j : Fin 4} {i : Nat} {x : Int32} (q : Nat) (hdg : decode cc pc = .ok (.iload_n j, 1)) (hi : (j : Nat) = i) (hl : lv[q]? = some (i, .int x)) (hp : pc + 1 = pc') (k : zw_W p l e R s m args below meth c nL D A cells slots Q pc' lv (.int x :: st) ws) : zw_W p l e R s m args below meth c nL D A cells slots Q pc lv st ws := by
  subst hp
  exact fun H locs ls h1 h2 h3 h4 => lv_iload_n E.1 E.2.1 hdg hi (lv_at h1 q hl) (k H locs ls h1 h2 h3 h4)

theorem zw_iload (E : zw_E p s m args c cc nL own Ts D tys A) {i : Nat} {x : Int32} (q : Nat) (hdg : decode cc pc = .ok (.iload i, 2)) (hl : lv[q]? = some (i, .int x)) (hp : pc + 2 = pc') (k : zw_W p l e R s m args below meth c nL D A cells slots Q pc' lv (.int x :: st) ws) : zw_W p l e R s m args below meth c nL D A cells slots Q pc lv st ws := by
  subst hp
  exact fun H locs ls h1 h2 h3 h4 => lv_iload E.1 E.2.1 hdg (lv_at h1 q hl) (k H locs ls h1 h2 h3 h4)

theorem zw_lload_n (E : zw_E p s m args c cc nL own Ts D tys A) {j : Fin 4} {i : Nat} {x : Int64} (q : Nat) (hdg : decode cc pc = .ok (.lload_n j, 1)) (hi : (j : Nat) = i) (hl : lv[q]? = some (i, .long x)) (hp : pc + 1 = pc') (k : zw_W p l e R s m args below meth c nL D A cells slots Q pc' lv (.long x :: st) ws) : zw_W p l e R s m args below meth c nL D A cells slots Q pc lv st ws := by
  subst hp
  exact fun H locs ls h1 h2 h3 h4 => lv_lload_n E.1 E.2.1 hdg hi (lv_at h1 q hl) (k H locs ls h1 h2 h3 h4)

theorem zw_lload (E : zw_E p s m args c cc nL own Ts D tys A) {i : Nat} {x : Int64} (q : Nat) (hdg : decode cc pc = .ok (.lload i, 2)) (hl : lv[q]? = some (i, .long x)) (hp : pc + 2 = pc') (k : zw_W p l e R s m args below meth c nL D A cells slots Q pc' lv (.long x :: st) ws) : zw_W p l e R s m args below meth c nL D A cells slots Q pc lv st ws := by
  subst hp
  exact fun H locs ls h1 h2 h3 h4 => lv_lload E.1 E.2.1 hdg (lv_at h1 q hl) (k H locs ls h1 h2 h3 h4)

theorem zw_aload_n (E : zw_E p s m args c cc nL own Ts D tys A) {j : Fin 4} {i : Nat} {x : Nat} (q : Nat) (hdg : decode cc pc = .ok (.aload_n j, 1)) (hi : (j : Nat) = i) (hl : lv[q]? = some (i, .ref x)) (hp : pc + 1 = pc') (k : zw_W p l e R s m args below meth c nL D A cells slots Q pc' lv (.ref x :: st) ws) : zw_W p l e R s m args below meth c nL D A cells slots Q pc lv st ws := by
  subst hp
  exact fun H locs ls h1 h2 h3 h4 => lv_aload_n E.1 E.2.1 hdg hi (lv_at h1 q hl) (k H locs ls h1 h2 h3 h4)

theorem zw_aload (E : zw_E p s m args c cc nL own Ts D tys A) {i : Nat} {x : Nat} (q : Nat) (hdg : decode cc pc = .ok (.aload i, 2)) (hl : lv[q]? = some (i, .ref x)) (hp : pc + 2 = pc') (k : zw_W p l e R s m args below meth c nL D A cells slots Q pc' lv (.ref x :: st) ws) : zw_W p l e R s m args below meth c nL D A cells slots Q pc lv st ws := by
  subst hp
  exact fun H locs ls h1 h2 h3 h4 => lv_aload E.1 E.2.1 hdg (lv_at h1 q hl) (k H locs ls h1 h2 h3 h4)

theorem zw_istore_n (E : zw_E p s m args c cc nL own Ts D tys A) {j : Fin 4} {i : Nat} {x : Int32} (hdg : decode cc pc = .ok (.istore_n j, 1)) (hi : (j : Nat) = i) (hn : i < nL) (hl : (i, Value.int x) :: lv.filter (fun q => !(q.1 == i) && !(q.1 + 1 == i && q.2.category == 2)) = lv') (hp : pc + 1 = pc') (k : zw_W p l e R s m args below meth c nL D A cells slots Q pc' lv' st ws) : zw_W p l e R s m args below meth c nL D A cells slots Q pc lv (.int x :: st) ws := by
  subst hp
  exact fun H locs ls h1 h2 h3 h4 => lv_istore_n E.1 E.2.1 hdg hi h1 hn hl (fun ls h1 => k H locs ls h1 h2 h3 h4)

theorem zw_istore (E : zw_E p s m args c cc nL own Ts D tys A) {i : Nat} {x : Int32} (hdg : decode cc pc = .ok (.istore i, 2)) (hn : i < nL) (hl : (i, Value.int x) :: lv.filter (fun q => !(q.1 == i) && !(q.1 + 1 == i && q.2.category == 2)) = lv') (hp : pc + 2 = pc') (k : zw_W p l e R s m args below meth c nL D A cells slots Q pc' lv' st ws) : zw_W p l e R s m args below meth c nL D A cells slots Q pc lv (.int x :: st) ws := by
  subst hp
  exact fun H locs ls h1 h2 h3 h4 => lv_istore E.1 E.2.1 hdg h1 hn hl (fun ls h1 => k H locs ls h1 h2 h3 h4)

theorem zw_lstore_n (E : zw_E p s m args c cc nL own Ts D tys A) {j : Fin 4} {i : Nat} {x : Int64} (hdg : decode cc pc = .ok (.lstore_n j, 1)) (hi : (j : Nat) = i) (hn : i + 1 < nL) (hl : (i, Value.long x) :: lv.filter (fun q => !(q.1 == i) && (!(q.1 == i + 1) && !(q.1 + 1 == i && q.2.category == 2))) = lv') (hp : pc + 1 = pc') (k : zw_W p l e R s m args below meth c nL D A cells slots Q pc' lv' st ws) : zw_W p l e R s m args below meth c nL D A cells slots Q pc lv (.long x :: st) ws := by
  subst hp
  exact fun H locs ls h1 h2 h3 h4 => lv_lstore_n E.1 E.2.1 hdg hi h1 hn hl (fun ls h1 => k H locs ls h1 h2 h3 h4)

theorem zw_lstore (E : zw_E p s m args c cc nL own Ts D tys A) {i : Nat} {x : Int64} (hdg : decode cc pc = .ok (.lstore i, 2)) (hn : i + 1 < nL) (hl : (i, Value.long x) :: lv.filter (fun q => !(q.1 == i) && (!(q.1 == i + 1) && !(q.1 + 1 == i && q.2.category == 2))) = lv') (hp : pc + 2 = pc') (k : zw_W p l e R s m args below meth c nL D A cells slots Q pc' lv' st ws) : zw_W p l e R s m args below meth c nL D A cells slots Q pc lv (.long x :: st) ws := by
  subst hp
  exact fun H locs ls h1 h2 h3 h4 => lv_lstore E.1 E.2.1 hdg h1 hn hl (fun ls h1 => k H locs ls h1 h2 h3 h4)

theorem zw_astore_n (E : zw_E p s m args c cc nL own Ts D tys A) {j : Fin 4} {i : Nat} {x : Nat} (hdg : decode cc pc = .ok (.astore_n j, 1)) (hi : (j : Nat) = i) (hn : i < nL) (hl : (i, Value.ref x) :: lv.filter (fun q => !(q.1 == i) && !(q.1 + 1 == i && q.2.category == 2)) = lv') (hp : pc + 1 = pc') (k : zw_W p l e R s m args below meth c nL D A cells slots Q pc' lv' st ws) : zw_W p l e R s m args below meth c nL D A cells slots Q pc lv (.ref x :: st) ws := by
  subst hp
  exact fun H locs ls h1 h2 h3 h4 => lv_astore_n E.1 E.2.1 hdg hi h1 hn hl (fun ls h1 => k H locs ls h1 h2 h3 h4)

theorem zw_astore (E : zw_E p s m args c cc nL own Ts D tys A) {i : Nat} {x : Nat} (hdg : decode cc pc = .ok (.astore i, 2)) (hn : i < nL) (hl : (i, Value.ref x) :: lv.filter (fun q => !(q.1 == i) && !(q.1 + 1 == i && q.2.category == 2)) = lv') (hp : pc + 2 = pc') (k : zw_W p l e R s m args below meth c nL D A cells slots Q pc' lv' st ws) : zw_W p l e R s m args below meth c nL D A cells slots Q pc lv (.ref x :: st) ws := by
  subst hp
  exact fun H locs ls h1 h2 h3 h4 => lv_astore E.1 E.2.1 hdg h1 hn hl (fun ls h1 => k H locs ls h1 h2 h3 h4)

theorem zw_iinc (E : zw_E p s m args c cc nL own Ts D tys A) {i : Nat} {n : Int} {x v : Int32} (q : Nat) (hdg : decode cc pc = .ok (.iinc i n, 3)) (hq : lv[q]? = some (i, .int x)) (hv : x + Int32.ofInt n = v) (hn : i < nL) (hl : (i, Value.int v) :: lv.filter (fun q => !(q.1 == i) && !(q.1 + 1 == i && q.2.category == 2)) = lv') (hp : pc + 3 = pc') (k : zw_W p l e R s m args below meth c nL D A cells slots Q pc' lv' st ws) : zw_W p l e R s m args below meth c nL D A cells slots Q pc lv st ws := by
  subst hp
  exact fun H locs ls h1 h2 h3 h4 => lv_iinc E.1 E.2.1 hdg h1 hq hv hn hl (fun ls h1 => k H locs ls h1 h2 h3 h4)

theorem zw_iadd (E : zw_E p s m args c cc nL own Ts D tys A) {x y : Int32} (hdg : decode cc pc = .ok (.iadd, 1)) (hp : pc + 1 = pc') (k : zw_W p l e R s m args below meth c nL D A cells slots Q pc' lv (.int (x + y) :: st) ws) : zw_W p l e R s m args below meth c nL D A cells slots Q pc lv (.int y :: .int x :: st) ws := by
  subst hp
  exact fun H locs ls h1 h2 h3 h4 => lv_iadd E.1 E.2.1 hdg (k H locs ls h1 h2 h3 h4)

theorem zw_isub (E : zw_E p s m args c cc nL own Ts D tys A) {x y : Int32} (hdg : decode cc pc = .ok (.isub, 1)) (hp : pc + 1 = pc') (k : zw_W p l e R s m args below meth c nL D A cells slots Q pc' lv (.int (x - y) :: st) ws) : zw_W p l e R s m args below meth c nL D A cells slots Q pc lv (.int y :: .int x :: st) ws := by
  subst hp
  exact fun H locs ls h1 h2 h3 h4 => lv_isub E.1 E.2.1 hdg (k H locs ls h1 h2 h3 h4)

theorem zw_imul (E : zw_E p s m args c cc nL own Ts D tys A) {x y : Int32} (hdg : decode cc pc = .ok (.imul, 1)) (hp : pc + 1 = pc') (k : zw_W p l e R s m args below meth c nL D A cells slots Q pc' lv (.int (x * y) :: st) ws) : zw_W p l e R s m args below meth c nL D A cells slots Q pc lv (.int y :: .int x :: st) ws := by
  subst hp
  exact fun H locs ls h1 h2 h3 h4 => lv_imul E.1 E.2.1 hdg (k H locs ls h1 h2 h3 h4)

theorem zw_iand (E : zw_E p s m args c cc nL own Ts D tys A) {x y : Int32} (hdg : decode cc pc = .ok (.iand, 1)) (hp : pc + 1 = pc') (k : zw_W p l e R s m args below meth c nL D A cells slots Q pc' lv (.int (x &&& y) :: st) ws) : zw_W p l e R s m args below meth c nL D A cells slots Q pc lv (.int y :: .int x :: st) ws := by
  subst hp
  exact fun H locs ls h1 h2 h3 h4 => lv_iand E.1 E.2.1 hdg (k H locs ls h1 h2 h3 h4)

theorem zw_ior (E : zw_E p s m args c cc nL own Ts D tys A) {x y : Int32} (hdg : decode cc pc = .ok (.ior, 1)) (hp : pc + 1 = pc') (k : zw_W p l e R s m args below meth c nL D A cells slots Q pc' lv (.int (x ||| y) :: st) ws) : zw_W p l e R s m args below meth c nL D A cells slots Q pc lv (.int y :: .int x :: st) ws := by
  subst hp
  exact fun H locs ls h1 h2 h3 h4 => lv_ior E.1 E.2.1 hdg (k H locs ls h1 h2 h3 h4)

theorem zw_ishl (E : zw_E p s m args c cc nL own Ts D tys A) {x y : Int32} (hdg : decode cc pc = .ok (.ishl, 1)) (hp : pc + 1 = pc') (k : zw_W p l e R s m args below meth c nL D A cells slots Q pc' lv (.int (x <<< (y &&& 31)) :: st) ws) : zw_W p l e R s m args below meth c nL D A cells slots Q pc lv (.int y :: .int x :: st) ws := by
  subst hp
  exact fun H locs ls h1 h2 h3 h4 => lv_ishl E.1 E.2.1 hdg (k H locs ls h1 h2 h3 h4)

theorem zw_ishr (E : zw_E p s m args c cc nL own Ts D tys A) {x y : Int32} (hdg : decode cc pc = .ok (.ishr, 1)) (hp : pc + 1 = pc') (k : zw_W p l e R s m args below meth c nL D A cells slots Q pc' lv (.int (x >>> (y &&& 31)) :: st) ws) : zw_W p l e R s m args below meth c nL D A cells slots Q pc lv (.int y :: .int x :: st) ws := by
  subst hp
  exact fun H locs ls h1 h2 h3 h4 => lv_ishr E.1 E.2.1 hdg (k H locs ls h1 h2 h3 h4)

theorem zw_idiv (E : zw_E p s m args c cc nL own Ts D tys A) {x y : Int32} (hdg : decode cc pc = .ok (.idiv, 1)) (hne : ¬ y = 0) (hp : pc + 1 = pc') (k : zw_W p l e R s m args below meth c nL D A cells slots Q pc' lv (.int (x / y) :: st) ws) : zw_W p l e R s m args below meth c nL D A cells slots Q pc lv (.int y :: .int x :: st) ws := by
  subst hp
  exact fun H locs ls h1 h2 h3 h4 => lv_idiv E.1 E.2.1 hdg hne (k H locs ls h1 h2 h3 h4)

theorem zw_irem (E : zw_E p s m args c cc nL own Ts D tys A) {x y : Int32} (hdg : decode cc pc = .ok (.irem, 1)) (hne : ¬ y = 0) (hp : pc + 1 = pc') (k : zw_W p l e R s m args below meth c nL D A cells slots Q pc' lv (.int (x - x / y * y) :: st) ws) : zw_W p l e R s m args below meth c nL D A cells slots Q pc lv (.int y :: .int x :: st) ws := by
  subst hp
  exact fun H locs ls h1 h2 h3 h4 => lv_irem E.1 E.2.1 hdg hne (k H locs ls h1 h2 h3 h4)

theorem zw_ladd (E : zw_E p s m args c cc nL own Ts D tys A) {x y : Int64} (hdg : decode cc pc = .ok (.ladd, 1)) (hp : pc + 1 = pc') (k : zw_W p l e R s m args below meth c nL D A cells slots Q pc' lv (.long (x + y) :: st) ws) : zw_W p l e R s m args below meth c nL D A cells slots Q pc lv (.long y :: .long x :: st) ws := by
  subst hp
  exact fun H locs ls h1 h2 h3 h4 => lv_ladd E.1 E.2.1 hdg (k H locs ls h1 h2 h3 h4)

theorem zw_lsub (E : zw_E p s m args c cc nL own Ts D tys A) {x y : Int64} (hdg : decode cc pc = .ok (.lsub, 1)) (hp : pc + 1 = pc') (k : zw_W p l e R s m args below meth c nL D A cells slots Q pc' lv (.long (x - y) :: st) ws) : zw_W p l e R s m args below meth c nL D A cells slots Q pc lv (.long y :: .long x :: st) ws := by
  subst hp
  exact fun H locs ls h1 h2 h3 h4 => lv_lsub E.1 E.2.1 hdg (k H locs ls h1 h2 h3 h4)

theorem zw_lmul (E : zw_E p s m args c cc nL own Ts D tys A) {x y : Int64} (hdg : decode cc pc = .ok (.lmul, 1)) (hp : pc + 1 = pc') (k : zw_W p l e R s m args below meth c nL D A cells slots Q pc' lv (.long (x * y) :: st) ws) : zw_W p l e R s m args below meth c nL D A cells slots Q pc lv (.long y :: .long x :: st) ws := by
  subst hp
  exact fun H locs ls h1 h2 h3 h4 => lv_lmul E.1 E.2.1 hdg (k H locs ls h1 h2 h3 h4)

theorem zw_ldiv (E : zw_E p s m args c cc nL own Ts D tys A) {x y : Int64} (hdg : decode cc pc = .ok (.ldiv, 1)) (hne : ¬ y = 0) (hp : pc + 1 = pc') (k : zw_W p l e R s m args below meth c nL D A cells slots Q pc' lv (.long (x / y) :: st) ws) : zw_W p l e R s m args below meth c nL D A cells slots Q pc lv (.long y :: .long x :: st) ws := by
  subst hp
  exact fun H locs ls h1 h2 h3 h4 => lv_ldiv E.1 E.2.1 hdg hne (k H locs ls h1 h2 h3 h4)

theorem zw_lrem (E : zw_E p s m args c cc nL own Ts D tys A) {x y : Int64} (hdg : decode cc pc = .ok (.lrem, 1)) (hne : ¬ y = 0) (hp : pc + 1 = pc') (k : zw_W p l e R s m args below meth c nL D A cells slots Q pc' lv (.long (x - x / y * y) :: st) ws) : zw_W p l e R s m args below meth c nL D A cells slots Q pc lv (.long y :: .long x :: st) ws := by
  subst hp
  exact fun H locs ls h1 h2 h3 h4 => lv_lrem E.1 E.2.1 hdg hne (k H locs ls h1 h2 h3 h4)

theorem zw_i2l (E : zw_E p s m args c cc nL own Ts D tys A) {x : Int32} (hdg : decode cc pc = .ok (.i2l, 1)) (hp : pc + 1 = pc') (k : zw_W p l e R s m args below meth c nL D A cells slots Q pc' lv (.long x.toInt64 :: st) ws) : zw_W p l e R s m args below meth c nL D A cells slots Q pc lv (.int x :: st) ws := by
  subst hp
  exact fun H locs ls h1 h2 h3 h4 => lv_i2l E.1 E.2.1 hdg rfl (k H locs ls h1 h2 h3 h4)

theorem zw_l2i (E : zw_E p s m args c cc nL own Ts D tys A) {x : Int64} (hdg : decode cc pc = .ok (.l2i, 1)) (hp : pc + 1 = pc') (k : zw_W p l e R s m args below meth c nL D A cells slots Q pc' lv (.int x.toInt32 :: st) ws) : zw_W p l e R s m args below meth c nL D A cells slots Q pc lv (.long x :: st) ws := by
  subst hp
  exact fun H locs ls h1 h2 h3 h4 => lv_l2i E.1 E.2.1 hdg rfl (k H locs ls h1 h2 h3 h4)

theorem zw_lcmp (E : zw_E p s m args c cc nL own Ts D tys A) {x y : Int64} (hdg : decode cc pc = .ok (.lcmp, 1)) (hp : pc + 1 = pc') (k : zw_W p l e R s m args below meth c nL D A cells slots Q pc' lv (.int (lg_cmp x y) :: st) ws) : zw_W p l e R s m args below meth c nL D A cells slots Q pc lv (.long y :: .long x :: st) ws := by
  subst hp
  exact fun H locs ls h1 h2 h3 h4 => W.lcmp E.1 E.2.1 hdg (k H locs ls h1 h2 h3 h4)

theorem zw_dup (E : zw_E p s m args c cc nL own Ts D tys A) {va : Value} (hdg : decode cc pc = .ok (.dup, 1)) (hva : va.category = 1) (hp : pc + 1 = pc') (k : zw_W p l e R s m args below meth c nL D A cells slots Q pc' lv (va :: va :: st) ws) : zw_W p l e R s m args below meth c nL D A cells slots Q pc lv (va :: st) ws := by
  subst hp
  exact fun H locs ls h1 h2 h3 h4 => lv_dup E.1 E.2.1 hdg hva (k H locs ls h1 h2 h3 h4)

theorem zw_pop (E : zw_E p s m args c cc nL own Ts D tys A) {va : Value} (hdg : decode cc pc = .ok (.pop, 1)) (hva : va.category = 1) (hp : pc + 1 = pc') (k : zw_W p l e R s m args below meth c nL D A cells slots Q pc' lv st ws) : zw_W p l e R s m args below meth c nL D A cells slots Q pc lv (va :: st) ws := by
  subst hp
  exact fun H locs ls h1 h2 h3 h4 => lv_pop E.1 E.2.1 hdg hva (k H locs ls h1 h2 h3 h4)

theorem zw_dup2 (E : zw_E p s m args c cc nL own Ts D tys A) {va vb : Value} (hdg : decode cc pc = .ok (.dup2, 1)) (hva : va.category = 1) (hvb : vb.category = 1) (hp : pc + 1 = pc') (k : zw_W p l e R s m args below meth c nL D A cells slots Q pc' lv (va :: vb :: va :: vb :: st) ws) : zw_W p l e R s m args below meth c nL D A cells slots Q pc lv (va :: vb :: st) ws := by
  subst hp
  exact fun H locs ls h1 h2 h3 h4 => lv_dup2_11 E.1 E.2.1 hdg hva hvb (k H locs ls h1 h2 h3 h4)

theorem zw_if_eq (E : zw_E p s m args c cc nL own Ts D tys A) {x : Int32} {off : Int} {tgt : Nat} (hdg : decode cc pc = .ok (.ifCond .eq off, 3)) (ht : (pc : Int) + off = (tgt : Int)) (hp : pc + 3 = pc') (kt : x = 0 → zw_W p l e R s m args below meth c nL D A cells slots Q tgt lv st ws) (kf : ¬ x = 0 → zw_W p l e R s m args below meth c nL D A cells slots Q pc' lv st ws) : zw_W p l e R s m args below meth c nL D A cells slots Q pc lv (.int x :: st) ws := by
  subst hp
  exact fun H locs ls h1 h2 h3 h4 => lv_if_eq E.1 E.2.1 hdg ht (fun q => kt q H locs ls h1 h2 h3 h4) (fun q => kf q H locs ls h1 h2 h3 h4)

theorem zw_if_ne (E : zw_E p s m args c cc nL own Ts D tys A) {x : Int32} {off : Int} {tgt : Nat} (hdg : decode cc pc = .ok (.ifCond .ne off, 3)) (ht : (pc : Int) + off = (tgt : Int)) (hp : pc + 3 = pc') (kt : ¬ x = 0 → zw_W p l e R s m args below meth c nL D A cells slots Q tgt lv st ws) (kf : x = 0 → zw_W p l e R s m args below meth c nL D A cells slots Q pc' lv st ws) : zw_W p l e R s m args below meth c nL D A cells slots Q pc lv (.int x :: st) ws := by
  subst hp
  exact fun H locs ls h1 h2 h3 h4 => lv_if_ne E.1 E.2.1 hdg ht (fun q => kt q H locs ls h1 h2 h3 h4) (fun q => kf q H locs ls h1 h2 h3 h4)

theorem zw_if_lt (E : zw_E p s m args c cc nL own Ts D tys A) {x : Int32} {off : Int} {tgt : Nat} (hdg : decode cc pc = .ok (.ifCond .lt off, 3)) (ht : (pc : Int) + off = (tgt : Int)) (hp : pc + 3 = pc') (kt : x < 0 → zw_W p l e R s m args below meth c nL D A cells slots Q tgt lv st ws) (kf : ¬ x < 0 → zw_W p l e R s m args below meth c nL D A cells slots Q pc' lv st ws) : zw_W p l e R s m args below meth c nL D A cells slots Q pc lv (.int x :: st) ws := by
  subst hp
  exact fun H locs ls h1 h2 h3 h4 => lv_if_lt E.1 E.2.1 hdg ht (fun q => kt q H locs ls h1 h2 h3 h4) (fun q => kf q H locs ls h1 h2 h3 h4)

theorem zw_if_ge (E : zw_E p s m args c cc nL own Ts D tys A) {x : Int32} {off : Int} {tgt : Nat} (hdg : decode cc pc = .ok (.ifCond .ge off, 3)) (ht : (pc : Int) + off = (tgt : Int)) (hp : pc + 3 = pc') (kt : 0 ≤ x → zw_W p l e R s m args below meth c nL D A cells slots Q tgt lv st ws) (kf : ¬ 0 ≤ x → zw_W p l e R s m args below meth c nL D A cells slots Q pc' lv st ws) : zw_W p l e R s m args below meth c nL D A cells slots Q pc lv (.int x :: st) ws := by
  subst hp
  exact fun H locs ls h1 h2 h3 h4 => lv_if_ge E.1 E.2.1 hdg ht (fun q => kt q H locs ls h1 h2 h3 h4) (fun q => kf q H locs ls h1 h2 h3 h4)

theorem zw_if_gt (E : zw_E p s m args c cc nL own Ts D tys A) {x : Int32} {off : Int} {tgt : Nat} (hdg : decode cc pc = .ok (.ifCond .gt off, 3)) (ht : (pc : Int) + off = (tgt : Int)) (hp : pc + 3 = pc') (kt : 0 < x → zw_W p l e R s m args below meth c nL D A cells slots Q tgt lv st ws) (kf : ¬ 0 < x → zw_W p l e R s m args below meth c nL D A cells slots Q pc' lv st ws) : zw_W p l e R s m args below meth c nL D A cells slots Q pc lv (.int x :: st) ws := by
  subst hp
  exact fun H locs ls h1 h2 h3 h4 => lv_if_gt E.1 E.2.1 hdg ht (fun q => kt q H locs ls h1 h2 h3 h4) (fun q => kf q H locs ls h1 h2 h3 h4)

theorem zw_if_le (E : zw_E p s m args c cc nL own Ts D tys A) {x : Int32} {off : Int} {tgt : Nat} (hdg : decode cc pc = .ok (.ifCond .le off, 3)) (ht : (pc : Int) + off = (tgt : Int)) (hp : pc + 3 = pc') (kt : x ≤ 0 → zw_W p l e R s m args below meth c nL D A cells slots Q tgt lv st ws) (kf : ¬ x ≤ 0 → zw_W p l e R s m args below meth c nL D A cells slots Q pc' lv st ws) : zw_W p l e R s m args below meth c nL D A cells slots Q pc lv (.int x :: st) ws := by
  subst hp
  exact fun H locs ls h1 h2 h3 h4 => lv_if_le E.1 E.2.1 hdg ht (fun q => kt q H locs ls h1 h2 h3 h4) (fun q => kf q H locs ls h1 h2 h3 h4)

theorem zw_icmp_eq (E : zw_E p s m args c cc nL own Ts D tys A) {x y : Int32} {off : Int} {tgt : Nat} (hdg : decode cc pc = .ok (.if_icmp .eq off, 3)) (ht : (pc : Int) + off = (tgt : Int)) (hp : pc + 3 = pc') (kt : x = y → zw_W p l e R s m args below meth c nL D A cells slots Q tgt lv st ws) (kf : ¬ x = y → zw_W p l e R s m args below meth c nL D A cells slots Q pc' lv st ws) : zw_W p l e R s m args below meth c nL D A cells slots Q pc lv (.int y :: .int x :: st) ws := by
  subst hp
  exact fun H locs ls h1 h2 h3 h4 => lv_icmp_eq E.1 E.2.1 hdg ht (fun q => kt q H locs ls h1 h2 h3 h4) (fun q => kf q H locs ls h1 h2 h3 h4)

theorem zw_icmp_ne (E : zw_E p s m args c cc nL own Ts D tys A) {x y : Int32} {off : Int} {tgt : Nat} (hdg : decode cc pc = .ok (.if_icmp .ne off, 3)) (ht : (pc : Int) + off = (tgt : Int)) (hp : pc + 3 = pc') (kt : ¬ x = y → zw_W p l e R s m args below meth c nL D A cells slots Q tgt lv st ws) (kf : x = y → zw_W p l e R s m args below meth c nL D A cells slots Q pc' lv st ws) : zw_W p l e R s m args below meth c nL D A cells slots Q pc lv (.int y :: .int x :: st) ws := by
  subst hp
  exact fun H locs ls h1 h2 h3 h4 => lv_icmp_ne E.1 E.2.1 hdg ht (fun q => kt q H locs ls h1 h2 h3 h4) (fun q => kf q H locs ls h1 h2 h3 h4)

theorem zw_icmp_lt (E : zw_E p s m args c cc nL own Ts D tys A) {x y : Int32} {off : Int} {tgt : Nat} (hdg : decode cc pc = .ok (.if_icmp .lt off, 3)) (ht : (pc : Int) + off = (tgt : Int)) (hp : pc + 3 = pc') (kt : x < y → zw_W p l e R s m args below meth c nL D A cells slots Q tgt lv st ws) (kf : ¬ x < y → zw_W p l e R s m args below meth c nL D A cells slots Q pc' lv st ws) : zw_W p l e R s m args below meth c nL D A cells slots Q pc lv (.int y :: .int x :: st) ws := by
  subst hp
  exact fun H locs ls h1 h2 h3 h4 => lv_icmp_lt E.1 E.2.1 hdg ht (fun q => kt q H locs ls h1 h2 h3 h4) (fun q => kf q H locs ls h1 h2 h3 h4)

theorem zw_icmp_ge (E : zw_E p s m args c cc nL own Ts D tys A) {x y : Int32} {off : Int} {tgt : Nat} (hdg : decode cc pc = .ok (.if_icmp .ge off, 3)) (ht : (pc : Int) + off = (tgt : Int)) (hp : pc + 3 = pc') (kt : y ≤ x → zw_W p l e R s m args below meth c nL D A cells slots Q tgt lv st ws) (kf : ¬ y ≤ x → zw_W p l e R s m args below meth c nL D A cells slots Q pc' lv st ws) : zw_W p l e R s m args below meth c nL D A cells slots Q pc lv (.int y :: .int x :: st) ws := by
  subst hp
  exact fun H locs ls h1 h2 h3 h4 => lv_icmp_ge E.1 E.2.1 hdg ht (fun q => kt q H locs ls h1 h2 h3 h4) (fun q => kf q H locs ls h1 h2 h3 h4)

theorem zw_icmp_gt (E : zw_E p s m args c cc nL own Ts D tys A) {x y : Int32} {off : Int} {tgt : Nat} (hdg : decode cc pc = .ok (.if_icmp .gt off, 3)) (ht : (pc : Int) + off = (tgt : Int)) (hp : pc + 3 = pc') (kt : y < x → zw_W p l e R s m args below meth c nL D A cells slots Q tgt lv st ws) (kf : ¬ y < x → zw_W p l e R s m args below meth c nL D A cells slots Q pc' lv st ws) : zw_W p l e R s m args below meth c nL D A cells slots Q pc lv (.int y :: .int x :: st) ws := by
  subst hp
  exact fun H locs ls h1 h2 h3 h4 => lv_icmp_gt E.1 E.2.1 hdg ht (fun q => kt q H locs ls h1 h2 h3 h4) (fun q => kf q H locs ls h1 h2 h3 h4)

theorem zw_icmp_le (E : zw_E p s m args c cc nL own Ts D tys A) {x y : Int32} {off : Int} {tgt : Nat} (hdg : decode cc pc = .ok (.if_icmp .le off, 3)) (ht : (pc : Int) + off = (tgt : Int)) (hp : pc + 3 = pc') (kt : x ≤ y → zw_W p l e R s m args below meth c nL D A cells slots Q tgt lv st ws) (kf : ¬ x ≤ y → zw_W p l e R s m args below meth c nL D A cells slots Q pc' lv st ws) : zw_W p l e R s m args below meth c nL D A cells slots Q pc lv (.int y :: .int x :: st) ws := by
  subst hp
  exact fun H locs ls h1 h2 h3 h4 => lv_icmp_le E.1 E.2.1 hdg ht (fun q => kt q H locs ls h1 h2 h3 h4) (fun q => kf q H locs ls h1 h2 h3 h4)

theorem zw_goto (E : zw_E p s m args c cc nL own Ts D tys A) {off : Int} {tgt : Nat} (hdg : decode cc pc = .ok (.goto off, 3)) (ht : (pc : Int) + off = (tgt : Int)) (k : zw_W p l e R s m args below meth c nL D A cells slots Q tgt lv st ws) : zw_W p l e R s m args below meth c nL D A cells slots Q pc lv st ws := fun H locs ls h1 h2 h3 h4 => lv_goto E.1 E.2.1 hdg ht (k H locs ls h1 h2 h3 h4)
theorem zw_tableOut (E : zw_E p s m args c cc nL own Ts D tys A) {dflt lo hi : Int} {offs : Array Int} {len : Nat} {x : Int32} {tgt : Nat} (hdg : decode cc pc = .ok (.tableswitch dflt lo hi offs, len)) (h : x.toInt < lo ∨ hi < x.toInt) (ht : (pc : Int) + dflt = (tgt : Int)) (k : zw_W p l e R s m args below meth c nL D A cells slots Q tgt lv st ws) : zw_W p l e R s m args below meth c nL D A cells slots Q pc lv (.int x :: st) ws := fun H locs ls h1 h2 h3 h4 => lv_tableOut E.1 E.2.1 hdg h ht (k H locs ls h1 h2 h3 h4)
theorem zw_tableIn (E : zw_E p s m args c cc nL own Ts D tys A) {dflt lo hi : Int} {offs : Array Int} {len : Nat} {x : Int32} {off : Int} {tgt : Nat} (hdg : decode cc pc = .ok (.tableswitch dflt lo hi offs, len)) (hl : ¬ x.toInt < lo) (hh : ¬ hi < x.toInt) (ho : offs[(x.toInt - lo).toNat]? = some off) (ht : (pc : Int) + off = (tgt : Int)) (k : zw_W p l e R s m args below meth c nL D A cells slots Q tgt lv st ws) : zw_W p l e R s m args below meth c nL D A cells slots Q pc lv (.int x :: st) ws := fun H locs ls h1 h2 h3 h4 => lv_tableIn E.1 E.2.1 hdg hl hh ho ht (k H locs ls h1 h2 h3 h4)
theorem zw_lookup (E : zw_E p s m args c cc nL own Ts D tys A) {dflt : Int} {ps : Array (Int × Int)} {len : Nat} {x : Int32} {off : Int} {tgt : Nat} (hdg : decode cc pc = .ok (.lookupswitch dflt ps, len)) (hq : (ps.toList.zip (ps.toList.drop 1)).all (fun (a, next) => a.1 < next.1) = true) (ho : Op.lookupswitch.offset ps.toList dflt x.toInt = off) (ht : (pc : Int) + off = (tgt : Int)) (k : zw_W p l e R s m args below meth c nL D A cells slots Q tgt lv st ws) : zw_W p l e R s m args below meth c nL D A cells slots Q pc lv (.int x :: st) ws := fun H locs ls h1 h2 h3 h4 => lv_lookup E.1 E.2.1 hdg hq ho ht (k H locs ls h1 h2 h3 h4)

theorem zw_get (E : zw_E p s m args c cc nL own Ts D tys A) {C ref : String} {T : u_T} {N ci index : Nat} (q0 : Nat) (k : Nat) {a : Nat} {fs : List Value} {v : Value} (hin : ∀ w ∈ u_ws C T N, w ∈ Ts) (hm : Cond.fieldLink own index ref (T k).2.1 (T k).2.2.1 ∈ Ts) (he : ws[q0]? = some (a, .inr (ci, fs))) (hc : vwCl[ci]? = some (C, T, N)) (hk : k < N) (href : (T k).1 = ref) (hv : fs[k]? = some v) (hdg : decode cc pc = .ok (.getfield index, 3)) (hp : pc + 3 = pc') (kk : zw_W p l e R s m args below meth c nL D A cells slots Q pc' lv (v :: st) ws) : zw_W p l e R s m args below meth c nL D A cells slots Q pc lv (.ref a :: st) ws := by
  subst hp
  exact fun H locs ls h1 h2 h3 h4 => va_get E.1 E.2.1 E.2.2.2.2.1 hin E.2.2.2.1 E.2.2.2.2.2.1 h2 q0 he hc k hk (E.2.2.2.2.1 _ hm) (fun _ h => href ▸ h) hv hdg (kk H locs ls h1 h2 h3 h4)
theorem zw_putf (E : zw_E p s m args c cc nL own Ts D tys A) {C ref : String} {T : u_T} {N ci index : Nat} (q0 : Nat) (k : Nat) {a : Nat} {fs : List Value} {v : Value} {ty : FieldType} (hin : ∀ w ∈ u_ws C T N, w ∈ Ts) {ty0 : Nat → FieldType} (hty : ∀ k, k < N → parseFieldDescriptor (T k).2.2.1 = some (ty0 k)) (hnm : ∀ a, a < N → ∀ b, b < N → a ≠ b → (T a).2.1 ≠ (T b).2.1) (hm : Cond.fieldLink own index ref (T k).2.1 (T k).2.2.1 ∈ Ts) (he : ws[q0]? = some (a, .inr (ci, fs))) (hc : vwCl[ci]? = some (C, T, N)) (hk : k < N) (href : (T k).1 = ref) (hfin : (T k).2.2.2 = false) (hd : ty0 k = ty) (hn : narrow ty v = v) (hfit : fits ty v = true) (hl : k < fs.length) (hw : ws.set q0 (a, .inr (ci, fs.set k v)) = ws') (hdg : decode cc pc = .ok (.putfield index, 3)) (hp : pc + 3 = pc') (kk : zw_W p l e R s m args below meth c nL D A cells slots Q pc' lv st ws') : zw_W p l e R s m args below meth c nL D A cells slots Q pc lv (v :: .ref a :: st) ws := by
  subst hp
  subst hw
  exact fun H locs ls h1 h2 h3 h4 => va_put E.1 E.2.1 E.2.2.2.2.1 hin ty0 hty hnm E.2.2.2.1 E.2.2.2.2.2.1 h2 h3 h4 q0 he hc k hk (E.2.2.2.2.1 _ hm) (fun _ h => href ▸ h) hfin (by rw [hty k hk, hd]) hn hfit hl hdg (fun H locs h2 h3 h4 => kk H locs ls h1 h2 h3 h4)

theorem zw_iald (E : zw_E p s m args c cc nL own Ts D tys A) (q0 t0 : Nat) {a : Nat} {cA : ClassId} {n : Nat} {f : Nat → Int32} (ha : ws[q0]? = some (a, .inl (cA, n, .inl f))) (ht : tys[t0]? = some (cA, .int)) {i : Int32} {j : Nat} {x : Int32} (hin : vp_in i n) (hj : i.toNatClampNeg = j) (hx : f j = x) (hdg : decode cc pc = .ok (.iaload, 1)) (hp : pc + 1 = pc') (kk : zw_W p l e R s m args below meth c nL D A cells slots Q pc' lv (.int x :: st) ws) : zw_W p l e R s m args below meth c nL D A cells slots Q pc lv (.int i :: .ref a :: st) ws := by
  subst hp
  subst hj
  subst hx
  exact fun H locs ls h1 h2 h3 h4 => va_iald E.1 E.2.1 E.2.2.2.2.2.1 h2 q0 t0 ha ht hin hdg (kk H locs ls h1 h2 h3 h4)

theorem zw_zald (E : zw_E p s m args c cc nL own Ts D tys A) (q0 t0 : Nat) {a : Nat} {cA : ClassId} {n : Nat} {f : Nat → Int32} (ha : ws[q0]? = some (a, .inl (cA, n, .inl f))) (ht : tys[t0]? = some (cA, .boolean)) {i : Int32} {j : Nat} {x : Int32} (hin : vp_in i n) (hj : i.toNatClampNeg = j) (hx : f j = x) (hdg : decode cc pc = .ok (.baload, 1)) (hp : pc + 1 = pc') (kk : zw_W p l e R s m args below meth c nL D A cells slots Q pc' lv (.int x :: st) ws) : zw_W p l e R s m args below meth c nL D A cells slots Q pc lv (.int i :: .ref a :: st) ws := by
  subst hp
  subst hj
  subst hx
  exact fun H locs ls h1 h2 h3 h4 => va_zald E.1 E.2.1 E.2.2.2.2.2.1 h2 q0 t0 ha ht hin hdg (kk H locs ls h1 h2 h3 h4)

theorem zw_lald (E : zw_E p s m args c cc nL own Ts D tys A) (q0 t0 : Nat) {a : Nat} {cA : ClassId} {n : Nat} {f : Nat → Int64} (ha : ws[q0]? = some (a, .inl (cA, n, .inr (.inl f)))) (ht : tys[t0]? = some (cA, .long)) {i : Int32} {j : Nat} {x : Int64} (hin : vp_in i n) (hj : i.toNatClampNeg = j) (hx : f j = x) (hdg : decode cc pc = .ok (.laload, 1)) (hp : pc + 1 = pc') (kk : zw_W p l e R s m args below meth c nL D A cells slots Q pc' lv (.long x :: st) ws) : zw_W p l e R s m args below meth c nL D A cells slots Q pc lv (.int i :: .ref a :: st) ws := by
  subst hp
  subst hj
  subst hx
  exact fun H locs ls h1 h2 h3 h4 => va_lald E.1 E.2.1 E.2.2.2.2.2.1 h2 q0 t0 ha ht hin hdg (kk H locs ls h1 h2 h3 h4)

theorem zw_iast (E : zw_E p s m args c cc nL own Ts D tys A) (q0 t0 : Nat) {a : Nat} {cA : ClassId} {n : Nat} {f : Nat → Int32} (ha : ws[q0]? = some (a, .inl (cA, n, .inl f))) (ht : tys[t0]? = some (cA, .int)) {i : Int32} {j : Nat} {x : Int32} (hin : vp_in i n) (hj : i.toNatClampNeg = j) (hw : ws.set q0 (a, .inl (cA, n, .inl (upd f j x))) = ws') (hdg : decode cc pc = .ok (.iastore, 1)) (hp : pc + 1 = pc') (kk : zw_W p l e R s m args below meth c nL D A cells slots Q pc' lv st ws') : zw_W p l e R s m args below meth c nL D A cells slots Q pc lv (.int x :: .int i :: .ref a :: st) ws := by
  subst hp
  subst hj
  subst hw
  exact fun H locs ls h1 h2 h3 h4 => va_iast E.1 E.2.1 E.2.2.2.2.2.1 h2 h3 h4 q0 t0 ha ht hin hdg (fun H locs h2 h3 h4 => kk H locs ls h1 h2 h3 h4)

theorem zw_zast (E : zw_E p s m args c cc nL own Ts D tys A) (q0 t0 : Nat) {a : Nat} {cA : ClassId} {n : Nat} {f : Nat → Int32} (ha : ws[q0]? = some (a, .inl (cA, n, .inl f))) (ht : tys[t0]? = some (cA, .boolean)) {i : Int32} {j : Nat} {x : Int32} (hin : vp_in i n) (hj : i.toNatClampNeg = j) (hw : ws.set q0 (a, .inl (cA, n, .inl (upd f j (vp_nar .boolean x)))) = ws') (hdg : decode cc pc = .ok (.bastore, 1)) (hp : pc + 1 = pc') (kk : zw_W p l e R s m args below meth c nL D A cells slots Q pc' lv st ws') : zw_W p l e R s m args below meth c nL D A cells slots Q pc lv (.int x :: .int i :: .ref a :: st) ws := by
  subst hp
  subst hj
  subst hw
  exact fun H locs ls h1 h2 h3 h4 => va_zast E.1 E.2.1 E.2.2.2.2.2.1 h2 h3 h4 q0 t0 ha ht hin hdg (fun H locs h2 h3 h4 => kk H locs ls h1 h2 h3 h4)

theorem zw_last (E : zw_E p s m args c cc nL own Ts D tys A) (q0 t0 : Nat) {a : Nat} {cA : ClassId} {n : Nat} {f : Nat → Int64} (ha : ws[q0]? = some (a, .inl (cA, n, .inr (.inl f)))) (ht : tys[t0]? = some (cA, .long)) {i : Int32} {j : Nat} {x : Int64} (hin : vp_in i n) (hj : i.toNatClampNeg = j) (hw : ws.set q0 (a, .inl (cA, n, .inr (.inl (vp_updL f j x)))) = ws') (hdg : decode cc pc = .ok (.lastore, 1)) (hp : pc + 1 = pc') (kk : zw_W p l e R s m args below meth c nL D A cells slots Q pc' lv st ws') : zw_W p l e R s m args below meth c nL D A cells slots Q pc lv (.long x :: .int i :: .ref a :: st) ws := by
  subst hp
  subst hj
  subst hw
  exact fun H locs ls h1 h2 h3 h4 => va_last E.1 E.2.1 E.2.2.2.2.2.1 h2 h3 h4 q0 t0 ha ht hin hdg (fun H locs h2 h3 h4 => kk H locs ls h1 h2 h3 h4)

theorem zw_alen (E : zw_E p s m args c cc nL own Ts D tys A) (q0 t0 : Nat) {a : Nat} {cA : ClassId} {x : vp_A} (ha : ws[q0]? = some (a, .inl (cA, x))) {ty : FieldType} (ht : tys[t0]? = some (cA, ty)) {v : Int32} (hv : Int32.ofNat x.1 = v) (hdg : decode cc pc = .ok (.arraylength, 1)) (hp : pc + 1 = pc') (kk : zw_W p l e R s m args below meth c nL D A cells slots Q pc' lv (.int v :: st) ws) : zw_W p l e R s m args below meth c nL D A cells slots Q pc lv (.ref a :: st) ws := by
  subst hp
  exact fun H locs ls h1 h2 h3 h4 => va_alen E.1 E.2.1 E.2.2.2.2.2.1 h2 q0 t0 ha ht hv hdg (kk H locs ls h1 h2 h3 h4)
/-- a row out of an array of rows -/
theorem zw_aald (E : zw_E p s m args c cc nL own Ts D tys A) (q0 t0 : Nat) {a : Nat} {cA : ClassId} {n : Nat} {f : Nat → Option Nat} {ty : FieldType} (ha : ws[q0]? = some (a, .inl (cA, n, .inr (.inr (.inr (.inr f)))))) (ht : tys[t0]? = some (cA, .array ty)) {i : Int32} {j b : Nat} (hin : vp_in i n) (hj : i.toNatClampNeg = j) (hf : f j = some b) (hdg : decode cc pc = .ok (.aaload, 1)) (hp : pc + 1 = pc') (kk : zw_W p l e R s m args below meth c nL D A cells slots Q pc' lv (.ref b :: st) ws) : zw_W p l e R s m args below meth c nL D A cells slots Q pc lv (.int i :: .ref a :: st) ws := by
  subst hp
  subst hj
  intro H locs ls h1 h2 h3 h4
  have hlt : i.toNatClampNeg < n := Nat.not_le.mp fun q => hin (Or.inr q)
  refine W.aald (v := va_rf (f i.toNatClampNeg)) (ty := .array ty) E.1 E.2.1 (h2 q0 _ ha) ((E.2.2.2.2.2.1.2 t0 _ ht).1 n (fun j => va_rf (f j))) rfl (fun q => by cases q) (by show ¬ (i < 0 ∨ (arrV _ _ _).slots.size ≤ _); rw [arrV_size]; exact hin) (by show (arrV _ _ _).slots[_]? = _; rw [arrV_read _ _ hlt]) rfl rfl hdg ?_
  rw [hf]
  exact kk H locs ls h1 h2 h3 h4
theorem zw_mmin (E : zw_E p s m args c cc nL own Ts D tys A) {index : Nat} {x y : Int32} (hl : Cond.methodLink own index Lib.Math.min.name ∈ Ts) (hs : Cond.static Lib.Math.min.name ∈ Ts) (hi : Cond.initialized "java/lang/Math" ∈ Ts) (hcd : Cond.code Lib.Math.min.name Lib.Math.min.code 2 (some .int) ∈ Ts) (hfr : 1 ≤ R.frames) (hlo : (st.map fun v => v.category).sum + 13 ≤ R.locals) (hc : cells ≤ R.cells) (hsl : slots ≤ R.slots) (hdg : decode cc pc = .ok (.invokestatic index, 3)) (hp : pc + 3 = pc') (k : zw_W p l e R s m args below meth c nL D A cells slots Q pc' lv (.int (if y < x then y else x) :: st) ws) : zw_W p l e R s m args below meth c nL D A cells slots Q pc lv (.int y :: .int x :: st) ws := by
  subst hp
  exact fun H locs ls h1 h2 h3 h4 => va_mmin E.1 E.2.1 (E.2.2.1.trans h1.1.symm) E.2.2.2.1 (E.2.2.2.2.1 _ hl) (E.2.2.2.2.1 _ hs) (E.2.2.2.2.1 _ hi) (E.2.2.2.2.1 _ hcd) hfr hlo hc hsl hdg (k H locs ls h1 h2 h3 h4)
/-- other names for the same state -/
theorem zw_as {st' : List Value} (hl : lv' = lv) (hs : st' = st) (hw : ws' = ws) (k : zw_W p l e R s m args below meth c nL D A cells slots Q pc lv' st' ws') : zw_W p l e R s m args below meth c nL D A cells slots Q pc lv st ws := by
  subst hl; subst hs; subst hw
  exact k
/-- fewer locals, in another order -/
theorem zw_sub (ks : List Nat) (hl : lv_pick lv ks = lv') (k : zw_W p l e R s m args below meth c nL D A cells slots Q pc lv' st ws) : zw_W p l e R s m args below meth c nL D A cells slots Q pc lv st ws := fun H locs ls h1 h2 h3 h4 => k H locs ls (lv_sub h1 ks hl) h2 h3 h4

theorem zw_iret (E : zw_E p s m args c cc nL own Ts D tys A) {r v : Int32} {W1 : va_W} (hr : meth.sig.returnType = some .int) (hlk : meth.locks = false) (hdg : decode cc pc = .ok (.ireturn, 1)) (hv : v = r) (hw : ws = W1) : zw_W p l e R s m args below meth c nL D A 0 0 (zw_Qi D A below args s r W1) pc lv [.int v] ws := by
  subst hv
  subst hw
  exact fun H locs ls h1 h2 h3 h4 => W.iret E.1 E.2.1 hr (fun t ht hW => ⟨⟨v, (), rfl, rfl, by show va_P D vwCl ws t.heap; rw [ht]; exact h2⟩, h4.F ht⟩) h4.2.2 hdg hlk
theorem zw_zret (E : zw_E p s m args c cc nL own Ts D tys A) {r v : Int32} {W1 : va_W} (hr : meth.sig.returnType = some .boolean) (hlk : meth.locks = false) (hdg : decode cc pc = .ok (.ireturn, 1)) (hn : narrow .boolean (.int v) = .int v) (hv : v = r) (hw : ws = W1) : zw_W p l e R s m args below meth c nL D A 0 0 (zw_Qi D A below args s r W1) pc lv [.int v] ws := by
  subst hv
  subst hw
  exact fun H locs ls h1 h2 h3 h4 => W.zret E.1 E.2.1 hr hn (fun t ht hW => ⟨⟨v, (), rfl, rfl, by show va_P D vwCl ws t.heap; rw [ht]; exact h2⟩, h4.F ht⟩) h4.2.2 hdg hlk
theorem zw_lret (E : zw_E p s m args c cc nL own Ts D tys A) {r v : Int64} {W1 : va_W} (hr : meth.sig.returnType = some .long) (hlk : meth.locks = false) (hdg : decode cc pc = .ok (.lreturn, 1)) (hv : v = r) (hw : ws = W1) : zw_W p l e R s m args below meth c nL D A 0 0 (zw_Ql D A below args s r W1) pc lv [.long v] ws := by
  subst hv
  subst hw
  exact fun H locs ls h1 h2 h3 h4 => W.lret E.1 E.2.1 hr (fun t ht hW => ⟨⟨v, (), rfl, rfl, by show va_P D vwCl ws t.heap; rw [ht]; exact h2⟩, h4.F ht⟩) h4.2.2 hdg hlk
theorem zw_vret (E : zw_E p s m args c cc nL own Ts D tys A) {W1 : va_W} (hr : meth.sig.returnType = none) (hlk : meth.locks = false) (hdg : decode cc pc = .ok (.return_, 1)) (hw : ws = W1) : zw_W p l e R s m args below meth c nL D A 0 0 (zw_Qv D A below args s W1) pc lv [] ws := by
  subst hw
  exact fun H locs ls h1 h2 h3 h4 => W.vret E.1 E.2.1 hr (fun t ht hW => ⟨⟨(), rfl, trivial, by show va_P D vwCl ws t.heap; rw [ht]; exact h2⟩, h4.F ht⟩) h4.2.2 hdg hlk

theorem zw_blind {D : va_G} {tys : List (ClassId × FieldType)} {W0 : va_W} {sz : Nat} {av : List Value} : FrameBlind (va_Pc av (zw_B D tys W0 sz)) := fun a U g mk q => by
  obtain ⟨q0, q1, qP, qK, qD, qN⟩ := q
  exact ⟨q0, q1, qP, va_K.moved (u := U) (U := U.calling g mk a) (Vm.Alike.refl U.vm) qK, qD, zw_N.same rfl qN⟩

theorem zw_callIv (E : zw_E p s m args c cc nL own Ts D tys A) {C : String} {y : MethodName} {bytes : ByteArray} {maxL n index : Nat} {ret : Option FieldType} {w : List Cond} {rm : Room} {As rest : List Value} {W0 W1 : va_W} {r : Int32} {b ci : Nat} {cq : vw_C} {fs : List Value} (hM : zw_I l y w rm D tys (.ref b :: As) W0 r W1) (cw : CallW R s args own C index y bytes maxL ret w rm 0 0 n) (qr : Nat) (hcl : vwCl[ci]? = some cq) (hCn : cq.1 = C) (hq : W0[qr]? = some (b, .inr (ci, fs))) (is : List Nat) (hnd : va_nd is = true) (hC : is.map (fun i => ws[i]?) = W0.map some) (had : W1.map Prod.fst = W0.map Prod.fst) (hw : zw_put ws is W1 = ws') (hn : As.length = n) (hst : As.reverse ++ .ref b :: rest = st) (hW : (rest.map fun v => v.category).sum ≤ 8) (hcs : cells ≤ R.cells ∧ slots ≤ R.slots) (hdg : decode cc pc = .ok (.invokevirtual index, 3)) (hp : pc + 3 = pc') (k : zw_W p l e R s m args below meth c nL D A cells slots Q pc' lv (.int r :: rest) ws') : zw_W p l e R s m args below meth c nL D A cells slots Q pc lv st ws := by
  subst hp
  subst hst
  subst hw
  intro H locs ls h1 h2 h3 h4
  have hPc : va_P D vwCl W0 H := zw_part_P h2 hC
  have hDc : va_D A W0 := h3.sub is hnd hC
  have hFc := va_free (wc := W0) h3 h4 E.2.2.2.2.2.2.1 is hC
  refine va_calli (va_runV (As := As) (rest := rest) ⟨E.1, E.2.1, E.2.2.1, E.2.2.2.1, E.2.2.2.2.1⟩ (hM H.size) cw ⟨zw_blind, by rw [← hCn]; exact va_recv E.2.2.2.2.2.1 hPc hcl hq, fun U hU hW => ⟨rfl, by rw [hU], by rw [hU]; exact hPc, va_K.moved hW.alike E.2.2.2.2.2.1, hDc.weaken (fun _ _ _ _ => trivial), zw_N.warm hW E.2.2.2.2.2.2.2⟩⟩ rfl hn h1.1 rfl (lv_room hW) hdg hcs) h4 (fun q _ h => hFc q h) hFc (fun r' u t H1 locs1 ht hvm hv hB hz1 hk1 hS => ?_)
  subst hv
  have hB2 : va_P D vwCl W1 H1 := by rw [← ht]; exact hB
  exact k H1 locs1 ls h1 (zw_put_P h2 h3 hC had hk1 hB2) (zw_D.congr (zw_put_fst is W1 ws (zw_fst_of hC had)).symm h3) hS

theorem zw_callIs (E : zw_E p s m args c cc nL own Ts D tys A) {y : MethodName} {bytes : ByteArray} {maxL n index : Nat} {ret : Option FieldType} {w : List Cond} {rm : Room} {As rest : List Value} {W0 W1 : va_W} {r : Int32} (hM : zw_I l y w rm D tys As W0 r W1) (cw : (CallB R s args own index y bytes maxL ret w rm 0 0 n ∧ (Cond.static y).before args s = true)) (is : List Nat) (hnd : va_nd is = true) (hC : is.map (fun i => ws[i]?) = W0.map some) (had : W1.map Prod.fst = W0.map Prod.fst) (hw : zw_put ws is W1 = ws') (hn : As.length = n) (hst : As.reverse ++ rest = st) (hW : (rest.map fun v => v.category).sum ≤ 8) (hcs : cells ≤ R.cells ∧ slots ≤ R.slots) (hdg : decode cc pc = .ok (.invokestatic index, 3)) (hp : pc + 3 = pc') (k : zw_W p l e R s m args below meth c nL D A cells slots Q pc' lv (.int r :: rest) ws') : zw_W p l e R s m args below meth c nL D A cells slots Q pc lv st ws := by
  subst hp
  subst hst
  subst hw
  intro H locs ls h1 h2 h3 h4
  have hPc : va_P D vwCl W0 H := zw_part_P h2 hC
  have hDc : va_D A W0 := h3.sub is hnd hC
  have hFc := va_free (wc := W0) h3 h4 E.2.2.2.2.2.2.1 is hC
  refine va_calli (va_runS (As := As) (rest := rest) ⟨E.1, E.2.1, E.2.2.1, E.2.2.2.1, E.2.2.2.2.1⟩ (hM H.size) cw ⟨zw_blind, fun U hU hW => ⟨rfl, by rw [hU], by rw [hU]; exact hPc, va_K.moved hW.alike E.2.2.2.2.2.1, hDc.weaken (fun _ _ _ _ => trivial), zw_N.warm hW E.2.2.2.2.2.2.2⟩⟩ rfl hn h1.1 rfl (lv_room hW) hdg hcs) h4 (fun q _ h => hFc q h) hFc (fun r' u t H1 locs1 ht hvm hv hB hz1 hk1 hS => ?_)
  subst hv
  have hB2 : va_P D vwCl W1 H1 := by rw [← ht]; exact hB
  exact k H1 locs1 ls h1 (zw_put_P h2 h3 hC had hk1 hB2) (zw_D.congr (zw_put_fst is W1 ws (zw_fst_of hC had)).symm h3) hS

theorem zw_callIn (E : zw_E p s m args c cc nL own Ts D tys A) {host : String} {y : MethodName} {bytes : ByteArray} {maxL n index : Nat} {ret : Option FieldType} {w : List Cond} {rm : Room} {As rest : List Value} {W0 W1 : va_W} {r : Int32} (hM : zw_I l y w rm D tys As W0 r W1) (cw : (va_CN R s args own index y host bytes maxL ret w rm 0 0 n ∧ (Cond.static y).before args s = true ∧ True)) (is : List Nat) (hnd : va_nd is = true) (hC : is.map (fun i => ws[i]?) = W0.map some) (had : W1.map Prod.fst = W0.map Prod.fst) (hw : zw_put ws is W1 = ws') (hn : As.length = n) (hst : As.reverse ++ rest = st) (hW : (rest.map fun v => v.category).sum ≤ 8) (hcs : cells ≤ R.cells ∧ slots ≤ R.slots) (hdg : decode cc pc = .ok (.invokestatic index, 3)) (hp : pc + 3 = pc') (k : zw_W p l e R s m args below meth c nL D A cells slots Q pc' lv (.int r :: rest) ws') : zw_W p l e R s m args below meth c nL D A cells slots Q pc lv st ws := by
  subst hp
  subst hst
  subst hw
  intro H locs ls h1 h2 h3 h4
  have hPc : va_P D vwCl W0 H := zw_part_P h2 hC
  have hDc : va_D A W0 := h3.sub is hnd hC
  have hFc := va_free (wc := W0) h3 h4 E.2.2.2.2.2.2.1 is hC
  refine va_calli (va_runSN (As := As) (rest := rest) ⟨E.1, E.2.1, E.2.2.1, E.2.2.2.1, E.2.2.2.2.1⟩ (hM H.size) cw ⟨zw_blind, fun U hU hW => ⟨rfl, by rw [hU], by rw [hU]; exact hPc, va_K.moved hW.alike E.2.2.2.2.2.1, hDc.weaken (fun _ _ _ _ => trivial), zw_N.warm hW E.2.2.2.2.2.2.2⟩⟩ rfl hn h1.1 rfl (lv_room hW) hdg hcs) h4 (fun q _ h => hFc q h) hFc (fun r' u t H1 locs1 ht hvm hv hB hz1 hk1 hS => ?_)
  subst hv
  have hB2 : va_P D vwCl W1 H1 := by rw [← ht]; exact hB
  exact k H1 locs1 ls h1 (zw_put_P h2 h3 hC had hk1 hB2) (zw_D.congr (zw_put_fst is W1 ws (zw_fst_of hC had)).symm h3) hS

theorem zw_callLv (E : zw_E p s m args c cc nL own Ts D tys A) {C : String} {y : MethodName} {bytes : ByteArray} {maxL n index : Nat} {ret : Option FieldType} {w : List Cond} {rm : Room} {As rest : List Value} {W0 W1 : va_W} {r : Int64} {b ci : Nat} {cq : vw_C} {fs : List Value} (hM : zw_L l y w rm D tys (.ref b :: As) W0 r W1) (cw : CallW R s args own C index y bytes maxL ret w rm 0 0 n) (qr : Nat) (hcl : vwCl[ci]? = some cq) (hCn : cq.1 = C) (hq : W0[qr]? = some (b, .inr (ci, fs))) (is : List Nat) (hnd : va_nd is = true) (hC : is.map (fun i => ws[i]?) = W0.map some) (had : W1.map Prod.fst = W0.map Prod.fst) (hw : zw_put ws is W1 = ws') (hn : As.length = n) (hst : As.reverse ++ .ref b :: rest = st) (hW : (rest.map fun v => v.category).sum ≤ 8) (hcs : cells ≤ R.cells ∧ slots ≤ R.slots) (hdg : decode cc pc = .ok (.invokevirtual index, 3)) (hp : pc + 3 = pc') (k : zw_W p l e R s m args below meth c nL D A cells slots Q pc' lv (.long r :: rest) ws') : zw_W p l e R s m args below meth c nL D A cells slots Q pc lv st ws := by
  subst hp
  subst hst
  subst hw
  intro H locs ls h1 h2 h3 h4
  have hPc : va_P D vwCl W0 H := zw_part_P h2 hC
  have hDc : va_D A W0 := h3.sub is hnd hC
  have hFc := va_free (wc := W0) h3 h4 E.2.2.2.2.2.2.1 is hC
  refine va_calll (va_runV (As := As) (rest := rest) ⟨E.1, E.2.1, E.2.2.1, E.2.2.2.1, E.2.2.2.2.1⟩ (hM H.size) cw ⟨zw_blind, by rw [← hCn]; exact va_recv E.2.2.2.2.2.1 hPc hcl hq, fun U hU hW => ⟨rfl, by rw [hU], by rw [hU]; exact hPc, va_K.moved hW.alike E.2.2.2.2.2.1, hDc.weaken (fun _ _ _ _ => trivial), zw_N.warm hW E.2.2.2.2.2.2.2⟩⟩ rfl hn h1.1 rfl (lv_room hW) hdg hcs) h4 (fun q _ h => hFc q h) hFc (fun r' u t H1 locs1 ht hvm hv hB hz1 hk1 hS => ?_)
  subst hv
  have hB2 : va_P D vwCl W1 H1 := by rw [← ht]; exact hB
  exact k H1 locs1 ls h1 (zw_put_P h2 h3 hC had hk1 hB2) (zw_D.congr (zw_put_fst is W1 ws (zw_fst_of hC had)).symm h3) hS

theorem zw_callLs (E : zw_E p s m args c cc nL own Ts D tys A) {y : MethodName} {bytes : ByteArray} {maxL n index : Nat} {ret : Option FieldType} {w : List Cond} {rm : Room} {As rest : List Value} {W0 W1 : va_W} {r : Int64} (hM : zw_L l y w rm D tys As W0 r W1) (cw : (CallB R s args own index y bytes maxL ret w rm 0 0 n ∧ (Cond.static y).before args s = true)) (is : List Nat) (hnd : va_nd is = true) (hC : is.map (fun i => ws[i]?) = W0.map some) (had : W1.map Prod.fst = W0.map Prod.fst) (hw : zw_put ws is W1 = ws') (hn : As.length = n) (hst : As.reverse ++ rest = st) (hW : (rest.map fun v => v.category).sum ≤ 8) (hcs : cells ≤ R.cells ∧ slots ≤ R.slots) (hdg : decode cc pc = .ok (.invokestatic index, 3)) (hp : pc + 3 = pc') (k : zw_W p l e R s m args below meth c nL D A cells slots Q pc' lv (.long r :: rest) ws') : zw_W p l e R s m args below meth c nL D A cells slots Q pc lv st ws := by
  subst hp
  subst hst
  subst hw
  intro H locs ls h1 h2 h3 h4
  have hPc : va_P D vwCl W0 H := zw_part_P h2 hC
  have hDc : va_D A W0 := h3.sub is hnd hC
  have hFc := va_free (wc := W0) h3 h4 E.2.2.2.2.2.2.1 is hC
  refine va_calll (va_runS (As := As) (rest := rest) ⟨E.1, E.2.1, E.2.2.1, E.2.2.2.1, E.2.2.2.2.1⟩ (hM H.size) cw ⟨zw_blind, fun U hU hW => ⟨rfl, by rw [hU], by rw [hU]; exact hPc, va_K.moved hW.alike E.2.2.2.2.2.1, hDc.weaken (fun _ _ _ _ => trivial), zw_N.warm hW E.2.2.2.2.2.2.2⟩⟩ rfl hn h1.1 rfl (lv_room hW) hdg hcs) h4 (fun q _ h => hFc q h) hFc (fun r' u t H1 locs1 ht hvm hv hB hz1 hk1 hS => ?_)
  subst hv
  have hB2 : va_P D vwCl W1 H1 := by rw [← ht]; exact hB
  exact k H1 locs1 ls h1 (zw_put_P h2 h3 hC had hk1 hB2) (zw_D.congr (zw_put_fst is W1 ws (zw_fst_of hC had)).symm h3) hS

theorem zw_callVv (E : zw_E p s m args c cc nL own Ts D tys A) {C : String} {y : MethodName} {bytes : ByteArray} {maxL n index : Nat} {ret : Option FieldType} {w : List Cond} {rm : Room} {As rest : List Value} {W0 W1 : va_W} {b ci : Nat} {cq : vw_C} {fs : List Value} (hM : zw_V l y w rm D tys (.ref b :: As) W0 W1) (cw : CallW R s args own C index y bytes maxL ret w rm 0 0 n) (qr : Nat) (hcl : vwCl[ci]? = some cq) (hCn : cq.1 = C) (hq : W0[qr]? = some (b, .inr (ci, fs))) (is : List Nat) (hnd : va_nd is = true) (hC : is.map (fun i => ws[i]?) = W0.map some) (had : W1.map Prod.fst = W0.map Prod.fst) (hw : zw_put ws is W1 = ws') (hn : As.length = n) (hst : As.reverse ++ .ref b :: rest = st) (hW : (rest.map fun v => v.category).sum ≤ 8) (hcs : cells ≤ R.cells ∧ slots ≤ R.slots) (hdg : decode cc pc = .ok (.invokevirtual index, 3)) (hp : pc + 3 = pc') (k : zw_W p l e R s m args below meth c nL D A cells slots Q pc' lv rest ws') : zw_W p l e R s m args below meth c nL D A cells slots Q pc lv st ws := by
  subst hp
  subst hst
  subst hw
  intro H locs ls h1 h2 h3 h4
  have hPc : va_P D vwCl W0 H := zw_part_P h2 hC
  have hDc : va_D A W0 := h3.sub is hnd hC
  have hFc := va_free (wc := W0) h3 h4 E.2.2.2.2.2.2.1 is hC
  refine va_callv (va_runV (As := As) (rest := rest) ⟨E.1, E.2.1, E.2.2.1, E.2.2.2.1, E.2.2.2.2.1⟩ (hM H.size) cw ⟨zw_blind, by rw [← hCn]; exact va_recv E.2.2.2.2.2.1 hPc hcl hq, fun U hU hW => ⟨rfl, by rw [hU], by rw [hU]; exact hPc, va_K.moved hW.alike E.2.2.2.2.2.1, hDc.weaken (fun _ _ _ _ => trivial), zw_N.warm hW E.2.2.2.2.2.2.2⟩⟩ rfl hn h1.1 rfl (lv_room hW) hdg hcs) h4 (fun q _ h => hFc q h) hFc (fun u t H1 locs1 ht hvm hv hB hz1 hk1 hS => ?_)
  skip
  have hB2 : va_P D vwCl W1 H1 := by rw [← ht]; exact hB
  exact k H1 locs1 ls h1 (zw_put_P h2 h3 hC had hk1 hB2) (zw_D.congr (zw_put_fst is W1 ws (zw_fst_of hC had)).symm h3) hS

theorem zw_callVs (E : zw_E p s m args c cc nL own Ts D tys A) {y : MethodName} {bytes : ByteArray} {maxL n index : Nat} {ret : Option FieldType} {w : List Cond} {rm : Room} {As rest : List Value} {W0 W1 : va_W} (hM : zw_V l y w rm D tys As W0 W1) (cw : (CallB R s args own index y bytes maxL ret w rm 0 0 n ∧ (Cond.static y).before args s = true)) (is : List Nat) (hnd : va_nd is = true) (hC : is.map (fun i => ws[i]?) = W0.map some) (had : W1.map Prod.fst = W0.map Prod.fst) (hw : zw_put ws is W1 = ws') (hn : As.length = n) (hst : As.reverse ++ rest = st) (hW : (rest.map fun v => v.category).sum ≤ 8) (hcs : cells ≤ R.cells ∧ slots ≤ R.slots) (hdg : decode cc pc = .ok (.invokestatic index, 3)) (hp : pc + 3 = pc') (k : zw_W p l e R s m args below meth c nL D A cells slots Q pc' lv rest ws') : zw_W p l e R s m args below meth c nL D A cells slots Q pc lv st ws := by
  subst hp
  subst hst
  subst hw
  intro H locs ls h1 h2 h3 h4
  have hPc : va_P D vwCl W0 H := zw_part_P h2 hC
  have hDc : va_D A W0 := h3.sub is hnd hC
  have hFc := va_free (wc := W0) h3 h4 E.2.2.2.2.2.2.1 is hC
  refine va_callv (va_runS (As := As) (rest := rest) ⟨E.1, E.2.1, E.2.2.1, E.2.2.2.1, E.2.2.2.2.1⟩ (hM H.size) cw ⟨zw_blind, fun U hU hW => ⟨rfl, by rw [hU], by rw [hU]; exact hPc, va_K.moved hW.alike E.2.2.2.2.2.1, hDc.weaken (fun _ _ _ _ => trivial), zw_N.warm hW E.2.2.2.2.2.2.2⟩⟩ rfl hn h1.1 rfl (lv_room hW) hdg hcs) h4 (fun q _ h => hFc q h) hFc (fun u t H1 locs1 ht hvm hv hB hz1 hk1 hS => ?_)
  skip
  have hB2 : va_P D vwCl W1 H1 := by rw [← ht]; exact hB
  exact k H1 locs1 ls h1 (zw_put_P h2 h3 hC had hk1 hB2) (zw_D.congr (zw_put_fst is W1 ws (zw_fst_of hC had)).symm h3) hS

theorem zw_range (ws : va_W) : (List.range ws.length).map (fun i => ws[i]?) = ws.map some := by
  apply List.ext_getElem?
  intro i
  rw [List.getElem?_map, List.getElem?_map]
  by_cases h : i < ws.length
  · rw [List.getElem?_range h, List.getElem?_eq_getElem h]
    show some ws[i]? = _
    rw [List.getElem?_eq_getElem h]
    rfl
  · rw [List.getElem?_eq_none (by rw [List.length_range]; omega), List.getElem?_eq_none (by omega)]
    rfl
theorem zw_callIw (E : zw_E p s m args c cc nL own Ts D tys A) {C : String} {y : MethodName} {bytes : ByteArray} {maxL n index : Nat} {ret : Option FieldType} {w : List Cond} {rm : Room} {As rest : List Value} {r : Int32} {b ci : Nat} {cq : vw_C} {fs : List Value} (hM : zw_I l y w rm D tys (.ref b :: As) ws r ws') (cw : CallW R s args own C index y bytes maxL ret w rm 0 0 n) (qr : Nat) (hcl : vwCl[ci]? = some cq) (hCn : cq.1 = C) (hq : ws[qr]? = some (b, .inr (ci, fs))) (had : ws'.map Prod.fst = ws.map Prod.fst) (hn : As.length = n) (hst : As.reverse ++ .ref b :: rest = st) (hW : (rest.map fun v => v.category).sum ≤ 8) (hcs : cells ≤ R.cells ∧ slots ≤ R.slots) (hdg : decode cc pc = .ok (.invokevirtual index, 3)) (hp : pc + 3 = pc') (k : zw_W p l e R s m args below meth c nL D A cells slots Q pc' lv (.int r :: rest) ws') : zw_W p l e R s m args below meth c nL D A cells slots Q pc lv st ws := by
  subst hp
  subst hst
  intro H locs ls h1 h2 h3 h4
  have hFc := va_free (wc := ws) h3 h4 E.2.2.2.2.2.2.1 (List.range ws.length) (zw_range ws)
  refine va_calli (va_runV (As := As) (rest := rest) ⟨E.1, E.2.1, E.2.2.1, E.2.2.2.1, E.2.2.2.2.1⟩ (hM H.size) cw ⟨zw_blind, by rw [← hCn]; exact va_recv E.2.2.2.2.2.1 h2 hcl hq, fun U hU hW => ⟨rfl, by rw [hU], by rw [hU]; exact h2, va_K.moved hW.alike E.2.2.2.2.2.1, h3.weaken (fun _ _ _ _ => trivial), zw_N.warm hW E.2.2.2.2.2.2.2⟩⟩ rfl hn h1.1 rfl (lv_room hW) hdg hcs) h4 (fun q _ h => hFc q h) hFc (fun r' u t H1 locs1 ht hvm hv hB hz1 hk1 hS => ?_)
  subst hv
  have hB2 : va_P D vwCl ws' H1 := by rw [← ht]; exact hB
  exact k H1 locs1 ls h1 hB2 (zw_D.congr had.symm h3) hS

theorem zw_callLw (E : zw_E p s m args c cc nL own Ts D tys A) {C : String} {y : MethodName} {bytes : ByteArray} {maxL n index : Nat} {ret : Option FieldType} {w : List Cond} {rm : Room} {As rest : List Value} {r : Int64} {b ci : Nat} {cq : vw_C} {fs : List Value} (hM : zw_L l y w rm D tys (.ref b :: As) ws r ws') (cw : CallW R s args own C index y bytes maxL ret w rm 0 0 n) (qr : Nat) (hcl : vwCl[ci]? = some cq) (hCn : cq.1 = C) (hq : ws[qr]? = some (b, .inr (ci, fs))) (had : ws'.map Prod.fst = ws.map Prod.fst) (hn : As.length = n) (hst : As.reverse ++ .ref b :: rest = st) (hW : (rest.map fun v => v.category).sum ≤ 8) (hcs : cells ≤ R.cells ∧ slots ≤ R.slots) (hdg : decode cc pc = .ok (.invokevirtual index, 3)) (hp : pc + 3 = pc') (k : zw_W p l e R s m args below meth c nL D A cells slots Q pc' lv (.long r :: rest) ws') : zw_W p l e R s m args below meth c nL D A cells slots Q pc lv st ws := by
  subst hp
  subst hst
  intro H locs ls h1 h2 h3 h4
  have hFc := va_free (wc := ws) h3 h4 E.2.2.2.2.2.2.1 (List.range ws.length) (zw_range ws)
  refine va_calll (va_runV (As := As) (rest := rest) ⟨E.1, E.2.1, E.2.2.1, E.2.2.2.1, E.2.2.2.2.1⟩ (hM H.size) cw ⟨zw_blind, by rw [← hCn]; exact va_recv E.2.2.2.2.2.1 h2 hcl hq, fun U hU hW => ⟨rfl, by rw [hU], by rw [hU]; exact h2, va_K.moved hW.alike E.2.2.2.2.2.1, h3.weaken (fun _ _ _ _ => trivial), zw_N.warm hW E.2.2.2.2.2.2.2⟩⟩ rfl hn h1.1 rfl (lv_room hW) hdg hcs) h4 (fun q _ h => hFc q h) hFc (fun r' u t H1 locs1 ht hvm hv hB hz1 hk1 hS => ?_)
  subst hv
  have hB2 : va_P D vwCl ws' H1 := by rw [← ht]; exact hB
  exact k H1 locs1 ls h1 hB2 (zw_D.congr had.symm h3) hS

theorem zw_callVw (E : zw_E p s m args c cc nL own Ts D tys A) {C : String} {y : MethodName} {bytes : ByteArray} {maxL n index : Nat} {ret : Option FieldType} {w : List Cond} {rm : Room} {As rest : List Value} {b ci : Nat} {cq : vw_C} {fs : List Value} (hM : zw_V l y w rm D tys (.ref b :: As) ws ws') (cw : CallW R s args own C index y bytes maxL ret w rm 0 0 n) (qr : Nat) (hcl : vwCl[ci]? = some cq) (hCn : cq.1 = C) (hq : ws[qr]? = some (b, .inr (ci, fs))) (had : ws'.map Prod.fst = ws.map Prod.fst) (hn : As.length = n) (hst : As.reverse ++ .ref b :: rest = st) (hW : (rest.map fun v => v.category).sum ≤ 8) (hcs : cells ≤ R.cells ∧ slots ≤ R.slots) (hdg : decode cc pc = .ok (.invokevirtual index, 3)) (hp : pc + 3 = pc') (k : zw_W p l e R s m args below meth c nL D A cells slots Q pc' lv rest ws') : zw_W p l e R s m args below meth c nL D A cells slots Q pc lv st ws := by
  subst hp
  subst hst
  intro H locs ls h1 h2 h3 h4
  have hFc := va_free (wc := ws) h3 h4 E.2.2.2.2.2.2.1 (List.range ws.length) (zw_range ws)
  refine va_callv (va_runV (As := As) (rest := rest) ⟨E.1, E.2.1, E.2.2.1, E.2.2.2.1, E.2.2.2.2.1⟩ (hM H.size) cw ⟨zw_blind, by rw [← hCn]; exact va_recv E.2.2.2.2.2.1 h2 hcl hq, fun U hU hW => ⟨rfl, by rw [hU], by rw [hU]; exact h2, va_K.moved hW.alike E.2.2.2.2.2.1, h3.weaken (fun _ _ _ _ => trivial), zw_N.warm hW E.2.2.2.2.2.2.2⟩⟩ rfl hn h1.1 rfl (lv_room hW) hdg hcs) h4 (fun q _ h => hFc q h) hFc (fun u t H1 locs1 ht hvm hv hB hz1 hk1 hS => ?_)
  skip
  have hB2 : va_P D vwCl ws' H1 := by rw [← ht]; exact hB
  exact k H1 locs1 ls h1 hB2 (zw_D.congr had.symm h3) hS

end ZW
