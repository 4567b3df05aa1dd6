/-! the parts of a world that a call takes: by their places, once and for all -/
theorem zw_put_same : ∀ (is : List Nat) (ws W0 : va_W), is.map (fun i => ws[i]?) = W0.map some → zw_put ws is W0 = ws
  | [], ws, [], _ => rfl
  | [], ws, _ :: _, h => by cases h
  | _ :: _, ws, [], h => by cases h
  | i :: is, ws, x :: xs, h => by
    have h1 : ws[i]? = some x := (List.cons.inj h).1
    have e : ws.set i x = ws := by
      apply List.ext_getElem?
      intro j
      by_cases hj : i = j
      · subst hj
        rw [List.getElem?_set_self (List.getElem?_eq_some_iff.mp h1).1, h1]
      · rw [List.getElem?_set_ne hj]
    show zw_put (ws.set i x) is xs = ws
    rw [e]
    exact zw_put_same is ws xs (List.cons.inj h).2
theorem zw_put_seg : ∀ (Y Y2 X Z : va_W), Y.length = Y2.length → zw_put (X ++ (Y ++ Z)) (List.range' X.length Y.length) Y2 = X ++ (Y2 ++ Z)
  | [], [], X, Z, _ => rfl
  | [], _ :: _, X, Z, h => by cases h
  | _ :: _, [], X, Z, h => by cases h
  | y :: Y, y2 :: Y2, X, Z, h => by
    have e1 : List.range' X.length (y :: Y).length = X.length :: List.range' (X.length + 1) Y.length := rfl
    have e2 : (X ++ (y :: Y ++ Z)).set X.length y2 = (X ++ [y2]) ++ (Y ++ Z) := by
      rw [List.set_append_right _ _ (Nat.le_refl _), Nat.sub_self]
      simp
    rw [e1]
    show zw_put ((X ++ (y :: Y ++ Z)).set X.length y2) _ Y2 = _
    rw [e2]
    have h3 := zw_put_seg Y Y2 (X ++ [y2]) Z (Nat.succ.inj h)
    have e3 : (X ++ [y2]).length = X.length + 1 := by simp
    rw [e3] at h3
    rw [h3]
    simp
theorem zw_put_app : ∀ (i1 : List Nat) (w1 ws : va_W) (i2 : List Nat) (w2 : va_W), i1.length = w1.length → zw_put ws (i1 ++ i2) (w1 ++ w2) = zw_put (zw_put ws i1 w1) i2 w2
  | [], [], ws, i2, w2, _ => rfl
  | [], _ :: _, _, _, _, h => by cases h
  | _ :: _, [], _, _, _, h => by cases h
  | i :: i1, x :: w1, ws, i2, w2, h => zw_put_app i1 w1 (ws.set i x) i2 w2 (Nat.succ.inj h)
set_option maxRecDepth 20000 in
theorem emC_lb_d {K : Nat → ClassId} {al : Nat → Nat} {ab : Nat → Nat} {d : Ld} {b : Bk} : ([0, 1, 2, 3, 4, 5, 6, 7, 8, 9, 10, 11, 12, 13] : List Nat).map (fun i => (lb_W K al ab d b)[i]?) = (ld_W K al (ab 0) d).map some := rfl
set_option maxRecDepth 20000 in
theorem emP_lb_d {K : Nat → ClassId} {al : Nat → Nat} {ab : Nat → Nat} {d : Ld} {d2 : Ld} {b : Bk} : zw_put (lb_W K al ab d b) [0, 1, 2, 3, 4, 5, 6, 7, 8, 9, 10, 11, 12, 13] (ld_W K al (ab 0) d2) = lb_W K al ab d2 b := zw_put_seg (ld_W K al (ab 0) d) (ld_W K al (ab 0) d2) [] (bk_W K ab b) rfl
set_option maxRecDepth 20000 in
theorem emC_lb_b {K : Nat → ClassId} {al : Nat → Nat} {ab : Nat → Nat} {d : Ld} {b : Bk} : ([14, 15, 16, 17, 18, 19, 20, 21, 22, 23, 24, 25] : List Nat).map (fun i => (lb_W K al ab d b)[i]?) = (bk_W K ab b).map some := rfl
set_option maxRecDepth 20000 in
theorem emP_lb_b {K : Nat → ClassId} {al : Nat → Nat} {ab : Nat → Nat} {d : Ld} {b : Bk} {b2 : Bk} : zw_put (lb_W K al ab d b) [14, 15, 16, 17, 18, 19, 20, 21, 22, 23, 24, 25] (bk_W K ab b2) = lb_W K al ab d b2 := by
  have h := zw_put_seg (bk_W K ab b) (bk_W K ab b2) (ld_W K al (ab 0) d) [] rfl
  rw [List.append_nil, List.append_nil] at h
  exact h
set_option maxRecDepth 20000 in
theorem emC_l2_d {K : Nat → ClassId} {bq : Nat} {al : Nat → Nat} {ao : Nat → Nat} {d : Ld} {o : Ld} : ([0, 1, 2, 3, 4, 5, 6, 7, 8, 9, 10, 11, 12, 13] : List Nat).map (fun i => (l2_W K al ao bq d o)[i]?) = (ld_W K al bq d).map some := rfl
set_option maxRecDepth 20000 in
theorem emP_l2_d {K : Nat → ClassId} {bq : Nat} {al : Nat → Nat} {ao : Nat → Nat} {d : Ld} {d2 : Ld} {o : Ld} : zw_put (l2_W K al ao bq d o) [0, 1, 2, 3, 4, 5, 6, 7, 8, 9, 10, 11, 12, 13] (ld_W K al bq d2) = l2_W K al ao bq d2 o := zw_put_seg (ld_W K al bq d) (ld_W K al bq d2) [] (ld_W K ao bq o) rfl
set_option maxRecDepth 20000 in
theorem emC_l2_o {K : Nat → ClassId} {bq : Nat} {al : Nat → Nat} {ao : Nat → Nat} {d : Ld} {o : Ld} : ([14, 15, 16, 17, 18, 19, 20, 21, 22, 23, 24, 25, 26, 27] : List Nat).map (fun i => (l2_W K al ao bq d o)[i]?) = (ld_W K ao bq o).map some := rfl
set_option maxRecDepth 20000 in
theorem emP_l2_o {K : Nat → ClassId} {bq : Nat} {al : Nat → Nat} {ao : Nat → Nat} {d : Ld} {o : Ld} {o2 : Ld} : zw_put (l2_W K al ao bq d o) [14, 15, 16, 17, 18, 19, 20, 21, 22, 23, 24, 25, 26, 27] (ld_W K ao bq o2) = l2_W K al ao bq d o2 := by
  have h := zw_put_seg (ld_W K ao bq o) (ld_W K ao bq o2) (ld_W K al bq d) [] rfl
  rw [List.append_nil, List.append_nil] at h
  exact h
set_option maxRecDepth 20000 in
theorem emC_tm_b {K : Nat → ClassId} {a0 : Nat} {al : Nat → Nat} {ab : Nat → Nat} {ao : Nat → Nat} {d : Ld} {o : Ld} {b : Bk} : ([1, 2, 3, 4, 5, 6, 7, 8, 9, 10, 11, 12] : List Nat).map (fun i => (tm_W K a0 ab al ao b d o)[i]?) = (bk_W K ab b).map some := rfl
set_option maxRecDepth 20000 in
theorem emP_tm_b {K : Nat → ClassId} {a0 : Nat} {al : Nat → Nat} {ab : Nat → Nat} {ao : Nat → Nat} {d : Ld} {o : Ld} {b : Bk} {b2 : Bk} : zw_put (tm_W K a0 ab al ao b d o) [1, 2, 3, 4, 5, 6, 7, 8, 9, 10, 11, 12] (bk_W K ab b2) = tm_W K a0 ab al ao b2 d o := zw_put_seg (bk_W K ab b) (bk_W K ab b2) [(a0, .inr (2, [.ref (ab 0), .ref (al 0), .ref (ao 0)]))] (ld_W K al (ab 0) d ++ ld_W K ao (ab 0) o) rfl
set_option maxRecDepth 20000 in
theorem emC_tm_d {K : Nat → ClassId} {a0 : Nat} {al : Nat → Nat} {ab : Nat → Nat} {ao : Nat → Nat} {d : Ld} {o : Ld} {b : Bk} : ([13, 14, 15, 16, 17, 18, 19, 20, 21, 22, 23, 24, 25, 26] : List Nat).map (fun i => (tm_W K a0 ab al ao b d o)[i]?) = (ld_W K al (ab 0) d).map some := rfl
set_option maxRecDepth 20000 in
theorem emP_tm_d {K : Nat → ClassId} {a0 : Nat} {al : Nat → Nat} {ab : Nat → Nat} {ao : Nat → Nat} {d : Ld} {d2 : Ld} {o : Ld} {b : Bk} : zw_put (tm_W K a0 ab al ao b d o) [13, 14, 15, 16, 17, 18, 19, 20, 21, 22, 23, 24, 25, 26] (ld_W K al (ab 0) d2) = tm_W K a0 ab al ao b d2 o := zw_put_seg (ld_W K al (ab 0) d) (ld_W K al (ab 0) d2) ((a0, .inr (2, [.ref (ab 0), .ref (al 0), .ref (ao 0)])) :: bk_W K ab b) (ld_W K ao (ab 0) o) rfl
set_option maxRecDepth 20000 in
theorem emC_tm_o {K : Nat → ClassId} {a0 : Nat} {al : Nat → Nat} {ab : Nat → Nat} {ao : Nat → Nat} {d : Ld} {o : Ld} {b : Bk} : ([27, 28, 29, 30, 31, 32, 33, 34, 35, 36, 37, 38, 39, 40] : List Nat).map (fun i => (tm_W K a0 ab al ao b d o)[i]?) = (ld_W K ao (ab 0) o).map some := rfl
set_option maxRecDepth 20000 in
theorem emP_tm_o {K : Nat → ClassId} {a0 : Nat} {al : Nat → Nat} {ab : Nat → Nat} {ao : Nat → Nat} {d : Ld} {o : Ld} {o2 : Ld} {b : Bk} : zw_put (tm_W K a0 ab al ao b d o) [27, 28, 29, 30, 31, 32, 33, 34, 35, 36, 37, 38, 39, 40] (ld_W K ao (ab 0) o2) = tm_W K a0 ab al ao b d o2 := by
  have h := zw_put_seg (ld_W K ao (ab 0) o) (ld_W K ao (ab 0) o2) ((a0, .inr (2, [.ref (ab 0), .ref (al 0), .ref (ao 0)])) :: (bk_W K ab b ++ ld_W K al (ab 0) d)) [] rfl
  rw [List.append_nil, List.append_nil, List.cons_append, List.cons_append, List.append_assoc, List.append_assoc] at h
  exact h
set_option maxRecDepth 20000 in
theorem emC_tm_lbd {K : Nat → ClassId} {a0 : Nat} {al : Nat → Nat} {ab : Nat → Nat} {ao : Nat → Nat} {d : Ld} {o : Ld} {b : Bk} : ([13, 14, 15, 16, 17, 18, 19, 20, 21, 22, 23, 24, 25, 26, 1, 2, 3, 4, 5, 6, 7, 8, 9, 10, 11, 12] : List Nat).map (fun i => (tm_W K a0 ab al ao b d o)[i]?) = (lb_W K al ab d b).map some := rfl
set_option maxRecDepth 20000 in
theorem emP_tm_lbd {K : Nat → ClassId} {a0 : Nat} {al : Nat → Nat} {ab : Nat → Nat} {ao : Nat → Nat} {d : Ld} {d2 : Ld} {o : Ld} {b : Bk} : zw_put (tm_W K a0 ab al ao b d o) [13, 14, 15, 16, 17, 18, 19, 20, 21, 22, 23, 24, 25, 26, 1, 2, 3, 4, 5, 6, 7, 8, 9, 10, 11, 12] (lb_W K al ab d2 b) = tm_W K a0 ab al ao b d2 o := (zw_put_app [13, 14, 15, 16, 17, 18, 19, 20, 21, 22, 23, 24, 25, 26] (ld_W K al (ab 0) d2) (tm_W K a0 ab al ao b d o) [1, 2, 3, 4, 5, 6, 7, 8, 9, 10, 11, 12] (bk_W K ab b) rfl).trans (by rw [emP_tm_d]; exact emP_tm_b)
set_option maxRecDepth 20000 in
theorem emC_tm_lbo {K : Nat → ClassId} {a0 : Nat} {al : Nat → Nat} {ab : Nat → Nat} {ao : Nat → Nat} {d : Ld} {o : Ld} {b : Bk} : ([27, 28, 29, 30, 31, 32, 33, 34, 35, 36, 37, 38, 39, 40, 1, 2, 3, 4, 5, 6, 7, 8, 9, 10, 11, 12] : List Nat).map (fun i => (tm_W K a0 ab al ao b d o)[i]?) = (lb_W K ao ab o b).map some := rfl
set_option maxRecDepth 20000 in
theorem emP_tm_lbo {K : Nat → ClassId} {a0 : Nat} {al : Nat → Nat} {ab : Nat → Nat} {ao : Nat → Nat} {d : Ld} {o : Ld} {o2 : Ld} {b : Bk} : zw_put (tm_W K a0 ab al ao b d o) [27, 28, 29, 30, 31, 32, 33, 34, 35, 36, 37, 38, 39, 40, 1, 2, 3, 4, 5, 6, 7, 8, 9, 10, 11, 12] (lb_W K ao ab o2 b) = tm_W K a0 ab al ao b d o2 := (zw_put_app [27, 28, 29, 30, 31, 32, 33, 34, 35, 36, 37, 38, 39, 40] (ld_W K ao (ab 0) o2) (tm_W K a0 ab al ao b d o) [1, 2, 3, 4, 5, 6, 7, 8, 9, 10, 11, 12] (bk_W K ab b) rfl).trans (by rw [emP_tm_o]; exact emP_tm_b)
set_option maxRecDepth 20000 in
theorem emC_tm_l2 {K : Nat → ClassId} {a0 : Nat} {al : Nat → Nat} {ab : Nat → Nat} {ao : Nat → Nat} {d : Ld} {o : Ld} {b : Bk} : ([13, 14, 15, 16, 17, 18, 19, 20, 21, 22, 23, 24, 25, 26, 27, 28, 29, 30, 31, 32, 33, 34, 35, 36, 37, 38, 39, 40] : List Nat).map (fun i => (tm_W K a0 ab al ao b d o)[i]?) = (l2_W K al ao (ab 0) d o).map some := rfl
set_option maxRecDepth 20000 in
theorem emP_tm_l2 {K : Nat → ClassId} {a0 : Nat} {al : Nat → Nat} {ab : Nat → Nat} {ao : Nat → Nat} {d : Ld} {d2 : Ld} {o : Ld} {o2 : Ld} {b : Bk} : zw_put (tm_W K a0 ab al ao b d o) [13, 14, 15, 16, 17, 18, 19, 20, 21, 22, 23, 24, 25, 26, 27, 28, 29, 30, 31, 32, 33, 34, 35, 36, 37, 38, 39, 40] (l2_W K al ao (ab 0) d2 o2) = tm_W K a0 ab al ao b d2 o2 := (zw_put_app [13, 14, 15, 16, 17, 18, 19, 20, 21, 22, 23, 24, 25, 26] (ld_W K al (ab 0) d2) (tm_W K a0 ab al ao b d o) [27, 28, 29, 30, 31, 32, 33, 34, 35, 36, 37, 38, 39, 40] (ld_W K ao (ab 0) o2) rfl).trans (by rw [emP_tm_d]; exact emP_tm_o)
