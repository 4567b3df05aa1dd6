/-! arrays of arrays: `new int[3][60]`, out of the library's multianewarray2F (vr_outer as TURN prints it) -/
def va_AOA (ty : FieldType) (U : State) : Prop := (Cond.arrayOver (.array ty)).before #[] U = true
theorem va_AOA.of {ty : FieldType} {A : Array Value} {U : State} (h : (Cond.arrayOver (.array ty)).before A U = true) : va_AOA ty U := h
theorem va_AOA.use {ty : FieldType} {A : Array Value} {U : State} (h : va_AOA ty U) : (Cond.arrayOver (.array ty)).before A U = true := h
theorem va_AOA.moved {ty : FieldType} {u U : State} (hvm : u.vm.Alike U.vm) (h : va_AOA ty u) : va_AOA ty U := by
  obtain ⟨comp, c, k, h1, h2, h3, h4, h5⟩ := Stand.arrayOver_specB h
  obtain ⟨k', hk', he⟩ := hvm.2.2 _ _ h3
  have hi : (U.vm.classes.findIdx? fun (x : Class) => match x.kind with | .array component _ => component == comp | _ => false) = some c := by
    have e1 := va_idx_bare U.vm comp
    have e2 := va_idx_bare u.vm comp
    first | rw [hvm.bare_eq] at e2 | rw [← hvm.bare_eq] at e2
    exact e1.symm.trans (e2.trans h2)
  have hkind : k'.kind = .array comp (.array ty) := by rw [he]; exact h4
  have f1 : U.vm.findClass (FieldType.array ty).toString = some comp := by rw [hvm.findClass]; exact h1
  have f2 : U.vm.findClass ("[" ++ (FieldType.array ty).toString) = some c := by rw [hvm.findClass]; exact h5
  unfold va_AOA Cond.before Cond.holds
  simp only [Cond.value]
  rw [f1, Option.bind_some]
  refine (congrArg (fun o : Option Nat => (o.bind (fun c => (U.vm.classes[c]?).map fun (k : Class) => match k.kind with | .array _ t2 => decide (t2 = FieldType.array ty) && decide (U.vm.findClass ("[" ++ (FieldType.array ty).toString) = some c) | _ => false) == some true)) hi).trans ?_
  simp [hk', hkind, f2]
theorem vr_outer (c : ClassId) (N h0 : Nat) : ∀ i : Nat, Jvm.Free.Multi.outerC c N h0 i = arrV c N (fun j => va_rf (if j < i then some (h0 + 1 + j) else none))
  | 0 => by
    show ({ cls := c, slots := Array.replicate N .null, vm := .none } : Cell) = _
    rw [arrV_new]
    refine congrArg (arrV c N) (funext fun j => ?_)
    simp [va_rf]
  | i + 1 => by
    show (Jvm.Free.Multi.outerC c N h0 i).setSlot i (.ref (h0 + 1 + i)) = _
    rw [vr_outer c N h0 i, arrV_store]
    refine congrArg (arrV c N) (funext fun j => ?_)
    by_cases e : j = i
    · subst e
      simp [updV, va_rf]
    · by_cases h : j < i
      · simp [updV, e, h, Nat.lt_succ_of_lt h]
      · simp [updV, e, h, show ¬ j < i + 1 by omega]
def zrow (K0 : ClassId) (q : Nat) : Nat × va_E := (q, .inl (K0, 60, .inl (fun _ => 0)))
def zout (K3 : ClassId) (q : Nat) : Nat × va_E := (q, .inl (K3, 3, .inr (.inr (.inr (.inr (fun i => if i < 3 then some (q + 1 + i) else none))))))
section ZMN
variable {p : Program} {l : Launch} {e : Env} {R : Room} {s : State} {m : MethodId} {args : Array Value} {below : List Frame} {meth : Method} {c : Code} {cells slots : Nat} {Q : State → Prop} {cc : ByteArray} {nL : Nat} {own : String} {Ts : List Cond} {D : va_G} {tys : List (ClassId × FieldType)} {A : Nat → Prop} {pc pc' : Nat} {lv : List (Nat × Value)} {st : List Value} {ws : va_W}
theorem zw_mna3 (E : zw_E p s m args c cc nL own Ts D tys A) (hao : va_AOA .int s) {index : Nat} (hcl : Cond.classLink own index ("[" ++ (FieldType.array .int).toString) ∈ Ts) (harr : Cond.arrayClass .int ∈ Ts) {cI cAA : ClassId} (hI : s.vm.findClass (FieldType.array .int).toString = some cI) (hA2 : s.vm.findClass ("[" ++ (FieldType.array .int).toString) = some cAA) (hcells : cells + 4 ≤ R.cells) (hslots : slots + 183 ≤ R.slots) (hdg : decode cc pc = .ok (.multianewarray index 2, 4)) (hp : pc + 4 = pc')
    (k : ∀ q : Nat, zw_W p l e R s m args below meth c nL D A (cells + 4) (slots + 183) Q pc' lv (.ref q :: st) (ws ++ [zout cAA q, zrow cI (q + 1), zrow cI (q + 2), zrow cI (q + 3)])) : zw_W p l e R s m args below meth c nL D A cells slots Q pc lv (.int 60 :: .int 3 :: st) ws := by
  subst hp
  intro H locs ls h1 hP hD hS T hT Xs
  have hb : c.code = cc := E.2.1
  have e3 : (3 : Int32).toNatClampNeg = 3 := by decide
  have e60 : (60 : Int32).toNatClampNeg = 60 := by decide
  obtain ⟨vm₁, cA, comp, -, fA, fC, hO, -, X', step⟩ := Xs.multianewarray2F E.1 E.2.2.2.1 (E.2.2.2.2.1 _ hcl) (va_AOA.use hao) (E.2.2.2.2.1 _ harr) (g := F0 m pc ls (.int 60 :: .int 3 :: st)) rfl (by rw [hb]; exact hdg) rfl (by decide) (by decide) (by decide) (by decide) (by decide) rfl rfl (by rw [e3]; omega) (by rw [e3, e60]; omega)
  have ec : some cI = some comp := hI.symm.trans fC
  cases ec
  have ea : some cAA = some cA := hA2.symm.trans fA
  cases ea
  rw [e3, e60] at X' step
  generalize hF : Jvm.Free.Multi.fill (T.setVm vm₁) cAA cI 3 60 (defaultValue .int) 3 = F at X' step
  have hTh : (T.setVm vm₁).heap = H := hT
  obtain ⟨f1, f2, -, -⟩ := Jvm.Free.Multi.fill_facts (T.setVm vm₁) cAA cI 3 60 (defaultValue .int) 3
  rw [hF, hTh] at f1 f2
  have hold : ∀ x : Nat, x < H.size → F.heap[x]? = H[x]? := fun x hx => by
    have := Jvm.Free.Multi.fill_old (T.setVm vm₁) cAA cI 3 60 (defaultValue .int) (a := x) (by rw [hTh]; exact hx) 3
    rw [hF, hTh] at this
    exact this
  have hz : Jvm.Free.Multi.innerC cI 60 (defaultValue .int) = vp_cell cI (60, .inl (fun _ => 0)) := by
    show ({ cls := cI, slots := Array.replicate 60 (.int 0), vm := .none } : Cell) = _
    rw [arrV_new]
    rfl
  have hrow : ∀ j : Nat, j < 3 → F.heap[H.size + 1 + j]? = some (vp_cell cI (60, .inl (fun _ => 0))) := fun j hj => by
    have := Jvm.Free.Multi.fill_inner (T.setVm vm₁) cAA cI 3 60 (defaultValue .int) 3 j hj
    rw [hF, hTh, hz] at this
    exact this
  have hout : Jvm.Free.Multi.outerC cAA 3 H.size 3 = vp_cell cAA (3, .inr (.inr (.inr (.inr (fun i => if i < 3 then some (H.size + 1 + i) else none))))) := by
    rw [vp_cell_q]
    exact vr_outer cAA 3 H.size 3
  rw [hout] at f2
  have hsz : s.heap.size ≤ H.size := hS.1
  have hA := E.2.2.2.2.2.2.1
  have hP0 : va_P D vwCl ws F.heap := hP.kept (fun k9 x hx => hold x.1 ((hP k9 x hx).lt))
  have new : ∀ (k9 : Nat) (x : Nat × va_E), ([zout cAA H.size, zrow cI (H.size + 1), zrow cI (H.size + 2), zrow cI (H.size + 3)] : va_W)[k9]? = some x → x.1 = H.size + k9 := fun k9 x hx => by
    match k9, hx with
    | 0, hx => cases hx; rfl
    | 1, hx => cases hx; rfl
    | 2, hx => cases hx; rfl
    | 3, hx => cases hx; rfl
    | n + 4, hx => simp at hx
  have hP1 : va_P D vwCl (ws ++ [zout cAA H.size, zrow cI (H.size + 1), zrow cI (H.size + 2), zrow cI (H.size + 3)]) F.heap := hP0.app (fun k9 x hx => by
    match k9, hx with
    | 0, hx => cases hx; exact f2
    | 1, hx => cases hx; exact hrow 0 (by omega)
    | 2, hx => cases hx; exact hrow 1 (by omega)
    | 3, hx => cases hx; exact hrow 2 (by omega)
    | n + 4, hx => simp at hx)
  have hD1 : va_D A (ws ++ [zout cAA H.size, zrow cI (H.size + 1), zrow cI (H.size + 2), zrow cI (H.size + 3)]) := by
    refine ⟨fun i j x y hi hj hxy => ?_, fun k9 x hx => ?_⟩
    · by_cases c1 : i < ws.length <;> by_cases c2 : j < ws.length
      · rw [List.getElem?_append_left c1] at hi
        rw [List.getElem?_append_left c2] at hj
        exact hD.1 i j x y hi hj hxy
      · rw [List.getElem?_append_left c1] at hi
        rw [List.getElem?_append_right (by omega)] at hj
        have a1 := (hP i x hi).lt
        have a2 := new _ _ hj
        omega
      · rw [List.getElem?_append_right (by omega)] at hi
        rw [List.getElem?_append_left c2] at hj
        have a1 := (hP j y hj).lt
        have a2 := new _ _ hi
        omega
      · rw [List.getElem?_append_right (by omega)] at hi hj
        have a1 := new _ _ hi
        have a2 := new _ _ hj
        omega
    · by_cases c1 : k9 < ws.length
      · rw [List.getElem?_append_left c1] at hx
        exact hD.2 k9 x hx
      · rw [List.getElem?_append_right (by omega)] at hx
        have a2 := new _ _ hx
        exact hA _ (by omega)
  obtain ⟨t, a1, b1⟩ := k H.size F.heap locs ls h1 hP1 hD1 ⟨by rw [f1]; omega, fun x h1 h2 => (hold x (Nat.lt_of_lt_of_le h1 hS.1)).trans (hS.2.1 x h1 h2), hS.2.2⟩ F rfl X'
  refine ⟨t, step t ?_, b1⟩
  have e9 : T.heap.size = H.size := by rw [hT]
  rw [e9]
  exact a1
end ZMN
