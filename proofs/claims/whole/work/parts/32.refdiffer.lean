/-! the reference: differ -/
def md_wt (q : Md) (k v : Nat) : Md := md_row q 17 (8 * k + v) (m_tell q (nI k) (nI v))
def md_wz (q : Md) (k : Nat) : Md := md_row q 17 (8 * k + 7) (if q.1 11 k = 0 then 0 else 1)
def md_w1 (q : Md) (k : Nat) : Md := md_wz (md_wt (md_wt (md_wt (md_wt (md_wt (md_wt (md_wt q k 0) k 1) k 2) k 3) k 4) k 5) k 6) k
def md_ws : Nat → Nat → Md → Md
  | 0, _, q => q
  | r + 1, k, q => md_ws r (k + 1) (md_w1 q k)
theorem kept_w1 (q : Md) (k : Nat) : kept q (md_w1 q k) := ((((((((kept_row _ _ _ _ (by decide)).tr (kept_row _ _ _ _ (by decide))).tr (kept_row _ _ _ _ (by decide))).tr (kept_row _ _ _ _ (by decide))).tr (kept_row _ _ _ _ (by decide))).tr (kept_row _ _ _ _ (by decide))).tr (kept_row _ _ _ _ (by decide))).tr (kept_row _ _ _ _ (by decide)))
theorem kept_ws : ∀ (r k : Nat) (q : Md), kept q (md_ws r k q)
  | 0, _, q => kept.rf q
  | r + 1, k, q => (kept_w1 q k).tr (kept_ws r (k + 1) _)
def m_sm (g : Md) (k : Nat) : Nat → Int32
  | 0 => if g.1 17 (8 * k + 7) = (if g.1 11 k = 0 then 0 else 1) then 1 else 0
  | v + 1 => if m_sm g k v = 0 then 0 else if g.1 17 (8 * k + v) = m_tell g (nI k) (nI v) then 1 else 0
def m_df (g : Md) (i : Int32) : Nat → Nat → Int32 → Int32
  | 0, _, _ => -1
  | r + 1, k, n => if m_sm g k 7 = 0 then (if n = i then nI k else m_df g i r (k + 1) (n + 1)) else m_df g i r (k + 1) n
def g_dif (g : Md) (k k2 y : Nat) : Md := (g_works (md_ws (g.2.2.1 1) 0 (g_works g k y (-1)).2) k2 y (-1)).2
def m_differ (g : Md) (k k2 y i : Int32) : Int32 := if (0 ≤ k ∧ k ≤ nI (g.2.2.1 0)) then if (0 ≤ k2 ∧ k2 ≤ nI (g.2.2.1 0)) then if (0 ≤ y ∧ y ≤ 200) then if 0 ≤ i then m_df (g_dif g k.toNatClampNeg k2.toNatClampNeg y.toNatClampNeg) i (g.2.2.1 1) 0 0 else -1 else -1 else -1 else -1
def g_differ (g : Md) (k k2 y i : Int32) : Md := if (0 ≤ k ∧ k ≤ nI (g.2.2.1 0)) then if (0 ≤ k2 ∧ k2 ≤ nI (g.2.2.1 0)) then if (0 ≤ y ∧ y ≤ 200) then if 0 ≤ i then g_dif g k.toNatClampNeg k2.toNatClampNeg y.toNatClampNeg else g else g else g else g
theorem fX3_differ_43 : Cond.fieldLink RX3 43 "TitheMapModel" "isThere" "[Z" ∈ wsX3_differ := by decide +kernel
theorem fX3_differ_69 : Cond.fieldLink RX3 69 "TitheMapModel" "was" "[I" ∈ wsX3_differ := by decide +kernel
theorem fX3_differ_80 : Cond.fieldLink RX3 80 "TitheMapModel" "fields" "I" ∈ wsX3_differ := by decide +kernel
theorem iX3_differ_X3 : ∀ w ∈ wsX30, w ∈ wsX3_differ := by decide +kernel
set_option maxHeartbeats 4000000 in
set_option maxRecDepth 100000 in
theorem lX3_was {l : Launch} {D : va_G} {K : Nat → ClassId} {p : Program} {e : Env} {s : State} {m : MethodId} {below : List Frame} {meth : Method} {c : Code} {A : Nat → Prop} {args : Array Value} {Q : State → Prop} (E : zw_E p s m args c cX3_differ 10 RX3 wsX3_differ D (zT K) A) (am : Nat → Nat) (fn : Nat) (hfn : fn ≤ 60) (k1 k2 y i : Int32) : ∀ (r k : Nat) (q : Md), r + k = fn → q.2.2.1 1 = fn → zw_W p l e rmX3_differ s m args below meth c 10 D A 0 0 Q 126 [(0, .ref (am 0)), (1, .int k1), (2, .int k2), (3, .int y), (4, .int i)] [] (md_W K am (md_ws r k q)) → zw_W p l e rmX3_differ s m args below meth c 10 D A 0 0 Q 46 [(0, .ref (am 0)), (1, .int k1), (2, .int k2), (3, .int y), (4, .int i), (6, .int (nI k))] [] (md_W K am q) := by
  intro r
  induction r with
  | zero =>
    intro k q hri e1_q kk
    have hk0 : fn ≤ k := by omega
    refine zw_iload (x := nI k) E 5 dX3_differ_46 rfl (pc' := 48) rfl ?_
    refine zw_aload_n (i := 0) (x := am 0) E 0 dX3_differ_48 rfl rfl (pc' := 49) rfl ?_
    refine zw_get (v := .int (nI (q.2.2.1 1))) E 0 1 iX3_differ_X3 fX3_differ_80 rfl rfl (by decide) rfl rfl dX3_differ_49 (pc' := 52) rfl ?_
    refine zw_topi (x' := nI fn) (congrArg nI e1_q) ?_
    refine zw_icmp_ge (tgt := 126) E dX3_differ_52 (by decide) (pc' := 55) rfl (fun c_1 => ?_) (fun c_1 => ?_)
    · skip
      refine zw_sub [0, 1, 2, 3, 4] (lv' := [(0, .ref (am 0)), (1, .int k1), (2, .int k2), (3, .int y), (4, .int i)]) rfl ?_
      exact kk
    · exact absurd (nI_le hk0 (by omega)) c_1
  | succ r ih =>
    intro k q hri e1_q kk
    have hkf : k < fn := by omega
    have hk : k < 60 := by omega
    refine zw_iload (x := nI k) E 5 dX3_differ_46 rfl (pc' := 48) rfl ?_
    refine zw_aload_n (i := 0) (x := am 0) E 0 dX3_differ_48 rfl rfl (pc' := 49) rfl ?_
    refine zw_get (v := .int (nI (q.2.2.1 1))) E 0 1 iX3_differ_X3 fX3_differ_80 rfl rfl (by decide) rfl rfl dX3_differ_49 (pc' := 52) rfl ?_
    refine zw_topi (x' := nI fn) (congrArg nI e1_q) ?_
    refine zw_icmp_ge (tgt := 126) E dX3_differ_52 (by decide) (pc' := 55) rfl (fun c_1 => ?_) (fun c_1 => ?_)
    · exact absurd c_1 (nI_ge hkf (by omega))
    · skip
      refine zw_iconst (v := 0) E dX3_differ_55 (by decide) (pc' := 56) rfl ?_
      refine zw_istore (lv' := [(7, .int 0), (0, .ref (am 0)), (1, .int k1), (2, .int k2), (3, .int y), (4, .int i), (6, .int (nI k))]) E dX3_differ_56 (by decide) rfl (pc' := 58) rfl ?_
      refine zw_iload (x := 0) E 0 dX3_differ_58 rfl (pc' := 60) rfl ?_
      refine zw_bipush (v := 7) E dX3_differ_60 (by decide) (pc' := 62) rfl ?_
      refine zw_icmp_ge (tgt := 92) E dX3_differ_62 (by decide) (pc' := 65) rfl (fun c9 => absurd c9 (by decide)) (fun _ => ?_)
      refine zw_aload_n (i := 0) (x := am 0) E 1 dX3_differ_65 rfl rfl (pc' := 66) rfl ?_
      refine zw_get (v := .ref (am 20)) E 0 22 iX3_differ_X3 fX3_differ_69 rfl rfl (by decide) rfl rfl dX3_differ_66 (pc' := 69) rfl ?_
      refine zw_bipush (v := 8) E dX3_differ_69 (by decide) (pc' := 71) rfl ?_
      refine zw_iload (x := nI k) E 6 dX3_differ_71 rfl (pc' := 73) rfl ?_
      refine zw_imul E dX3_differ_73 (pc' := 74) rfl ?_
      refine zw_topi (x' := nI (8 * k)) (pk_mul 8 k) ?_
      refine zw_iload (x := 0) E 0 dX3_differ_74 rfl (pc' := 76) rfl ?_
      refine zw_iadd E dX3_differ_76 (pc' := 77) rfl ?_
      refine zw_topi (x' := nI (8 * k + 0)) (nI_add (8 * k) 0) ?_
      refine zw_aload_n (i := 0) (x := am 0) E 1 dX3_differ_77 rfl rfl (pc' := 78) rfl ?_
      refine zw_iload (x := nI k) E 6 dX3_differ_78 rfl (pc' := 80) rfl ?_
      refine zw_iload (x := 0) E 0 dX3_differ_80 rfl (pc' := 82) rfl ?_
      refine zw_callIw E (r := m_tell q (nI k) 0) (As := [.int (nI k), .int 0]) (rest := [.int (nI (8 * k + 0)), .ref (am 20)]) (ws' := (md_W K am q)) (qX3_tells l D K am q (by rw [e1_q]; exact hfn) (nI k) 0) (cwV 2 E.2.2.2.2.1 gX3_differ_X3_tells rfl rfl rfl (by decide +kernel) ⟨Nat.le_of_ble_eq_true rfl, Nat.le_of_ble_eq_true rfl⟩) 0 rfl rfl rfl rfl rfl rfl (Nat.le_of_ble_eq_true rfl) ⟨Nat.zero_le _, Nat.zero_le _⟩ dX3_differ_82 (pc' := 85) rfl ?_
      refine zw_iast (j := 8 * k + 0) (ws' := (md_W K am (md_row q 17 (8 * k + 0) (m_tell q (nI k) 0)))) E 20 0 rfl rfl (vp_in_nI (show 8 * k + 0 < 480 by omega) (by decide)) (zw_clamp (show 8 * k + 0 < 480 by omega) (by decide)) rfl dX3_differ_85 (pc' := 86) rfl ?_
      refine zw_gen_md_g (md_row q 17 (8 * k + 0) (m_tell q (nI k) 0)) (fun g_1 hg_1 => ?_)
      have e1_g_1 : g_1.2.2.1 1 = fn := by rw [← hg_1]; exact e1_q
      have et_g_1 : g_1.1 11 = q.1 11 := by rw [← hg_1]; exact rfl
      refine zw_iinc (x := 0) (v := 1) (lv' := [(7, .int 1), (0, .ref (am 0)), (1, .int k1), (2, .int k2), (3, .int y), (4, .int i), (6, .int (nI k))]) E 0 dX3_differ_86 rfl (by decide) (by decide) rfl (pc' := 89) rfl ?_
      refine zw_goto (tgt := 58) E dX3_differ_89 (by decide) ?_
      refine zw_iload (x := 1) E 0 dX3_differ_58 rfl (pc' := 60) rfl ?_
      refine zw_bipush (v := 7) E dX3_differ_60 (by decide) (pc' := 62) rfl ?_
      refine zw_icmp_ge (tgt := 92) E dX3_differ_62 (by decide) (pc' := 65) rfl (fun c9 => absurd c9 (by decide)) (fun _ => ?_)
      refine zw_aload_n (i := 0) (x := am 0) E 1 dX3_differ_65 rfl rfl (pc' := 66) rfl ?_
      refine zw_get (v := .ref (am 20)) E 0 22 iX3_differ_X3 fX3_differ_69 rfl rfl (by decide) rfl rfl dX3_differ_66 (pc' := 69) rfl ?_
      refine zw_bipush (v := 8) E dX3_differ_69 (by decide) (pc' := 71) rfl ?_
      refine zw_iload (x := nI k) E 6 dX3_differ_71 rfl (pc' := 73) rfl ?_
      refine zw_imul E dX3_differ_73 (pc' := 74) rfl ?_
      refine zw_topi (x' := nI (8 * k)) (pk_mul 8 k) ?_
      refine zw_iload (x := 1) E 0 dX3_differ_74 rfl (pc' := 76) rfl ?_
      refine zw_iadd E dX3_differ_76 (pc' := 77) rfl ?_
      refine zw_topi (x' := nI (8 * k + 1)) (nI_add (8 * k) 1) ?_
      refine zw_aload_n (i := 0) (x := am 0) E 1 dX3_differ_77 rfl rfl (pc' := 78) rfl ?_
      refine zw_iload (x := nI k) E 6 dX3_differ_78 rfl (pc' := 80) rfl ?_
      refine zw_iload (x := 1) E 0 dX3_differ_80 rfl (pc' := 82) rfl ?_
      refine zw_callIw E (r := m_tell g_1 (nI k) 1) (As := [.int (nI k), .int 1]) (rest := [.int (nI (8 * k + 1)), .ref (am 20)]) (ws' := (md_W K am g_1)) (qX3_tells l D K am g_1 (by rw [e1_g_1]; exact hfn) (nI k) 1) (cwV 2 E.2.2.2.2.1 gX3_differ_X3_tells rfl rfl rfl (by decide +kernel) ⟨Nat.le_of_ble_eq_true rfl, Nat.le_of_ble_eq_true rfl⟩) 0 rfl rfl rfl rfl rfl rfl (Nat.le_of_ble_eq_true rfl) ⟨Nat.zero_le _, Nat.zero_le _⟩ dX3_differ_82 (pc' := 85) rfl ?_
      refine zw_iast (j := 8 * k + 1) (ws' := (md_W K am (md_row g_1 17 (8 * k + 1) (m_tell g_1 (nI k) 1)))) E 20 0 rfl rfl (vp_in_nI (show 8 * k + 1 < 480 by omega) (by decide)) (zw_clamp (show 8 * k + 1 < 480 by omega) (by decide)) rfl dX3_differ_85 (pc' := 86) rfl ?_
      refine zw_gen_md_g (md_row g_1 17 (8 * k + 1) (m_tell g_1 (nI k) 1)) (fun g_2 hg_2 => ?_)
      have e1_g_2 : g_2.2.2.1 1 = fn := by rw [← hg_2]; exact e1_g_1
      have et_g_2 : g_2.1 11 = q.1 11 := by rw [← hg_2]; exact et_g_1
      refine zw_iinc (x := 1) (v := 2) (lv' := [(7, .int 2), (0, .ref (am 0)), (1, .int k1), (2, .int k2), (3, .int y), (4, .int i), (6, .int (nI k))]) E 0 dX3_differ_86 rfl (by decide) (by decide) rfl (pc' := 89) rfl ?_
      refine zw_goto (tgt := 58) E dX3_differ_89 (by decide) ?_
      refine zw_iload (x := 2) E 0 dX3_differ_58 rfl (pc' := 60) rfl ?_
      refine zw_bipush (v := 7) E dX3_differ_60 (by decide) (pc' := 62) rfl ?_
      refine zw_icmp_ge (tgt := 92) E dX3_differ_62 (by decide) (pc' := 65) rfl (fun c9 => absurd c9 (by decide)) (fun _ => ?_)
      refine zw_aload_n (i := 0) (x := am 0) E 1 dX3_differ_65 rfl rfl (pc' := 66) rfl ?_
      refine zw_get (v := .ref (am 20)) E 0 22 iX3_differ_X3 fX3_differ_69 rfl rfl (by decide) rfl rfl dX3_differ_66 (pc' := 69) rfl ?_
      refine zw_bipush (v := 8) E dX3_differ_69 (by decide) (pc' := 71) rfl ?_
      refine zw_iload (x := nI k) E 6 dX3_differ_71 rfl (pc' := 73) rfl ?_
      refine zw_imul E dX3_differ_73 (pc' := 74) rfl ?_
      refine zw_topi (x' := nI (8 * k)) (pk_mul 8 k) ?_
      refine zw_iload (x := 2) E 0 dX3_differ_74 rfl (pc' := 76) rfl ?_
      refine zw_iadd E dX3_differ_76 (pc' := 77) rfl ?_
      refine zw_topi (x' := nI (8 * k + 2)) (nI_add (8 * k) 2) ?_
      refine zw_aload_n (i := 0) (x := am 0) E 1 dX3_differ_77 rfl rfl (pc' := 78) rfl ?_
      refine zw_iload (x := nI k) E 6 dX3_differ_78 rfl (pc' := 80) rfl ?_
      refine zw_iload (x := 2) E 0 dX3_differ_80 rfl (pc' := 82) rfl ?_
      refine zw_callIw E (r := m_tell g_2 (nI k) 2) (As := [.int (nI k), .int 2]) (rest := [.int (nI (8 * k + 2)), .ref (am 20)]) (ws' := (md_W K am g_2)) (qX3_tells l D K am g_2 (by rw [e1_g_2]; exact hfn) (nI k) 2) (cwV 2 E.2.2.2.2.1 gX3_differ_X3_tells rfl rfl rfl (by decide +kernel) ⟨Nat.le_of_ble_eq_true rfl, Nat.le_of_ble_eq_true rfl⟩) 0 rfl rfl rfl rfl rfl rfl (Nat.le_of_ble_eq_true rfl) ⟨Nat.zero_le _, Nat.zero_le _⟩ dX3_differ_82 (pc' := 85) rfl ?_
      refine zw_iast (j := 8 * k + 2) (ws' := (md_W K am (md_row g_2 17 (8 * k + 2) (m_tell g_2 (nI k) 2)))) E 20 0 rfl rfl (vp_in_nI (show 8 * k + 2 < 480 by omega) (by decide)) (zw_clamp (show 8 * k + 2 < 480 by omega) (by decide)) rfl dX3_differ_85 (pc' := 86) rfl ?_
      refine zw_gen_md_g (md_row g_2 17 (8 * k + 2) (m_tell g_2 (nI k) 2)) (fun g_3 hg_3 => ?_)
      have e1_g_3 : g_3.2.2.1 1 = fn := by rw [← hg_3]; exact e1_g_2
      have et_g_3 : g_3.1 11 = q.1 11 := by rw [← hg_3]; exact et_g_2
      refine zw_iinc (x := 2) (v := 3) (lv' := [(7, .int 3), (0, .ref (am 0)), (1, .int k1), (2, .int k2), (3, .int y), (4, .int i), (6, .int (nI k))]) E 0 dX3_differ_86 rfl (by decide) (by decide) rfl (pc' := 89) rfl ?_
      refine zw_goto (tgt := 58) E dX3_differ_89 (by decide) ?_
      refine zw_iload (x := 3) E 0 dX3_differ_58 rfl (pc' := 60) rfl ?_
      refine zw_bipush (v := 7) E dX3_differ_60 (by decide) (pc' := 62) rfl ?_
      refine zw_icmp_ge (tgt := 92) E dX3_differ_62 (by decide) (pc' := 65) rfl (fun c9 => absurd c9 (by decide)) (fun _ => ?_)
      refine zw_aload_n (i := 0) (x := am 0) E 1 dX3_differ_65 rfl rfl (pc' := 66) rfl ?_
      refine zw_get (v := .ref (am 20)) E 0 22 iX3_differ_X3 fX3_differ_69 rfl rfl (by decide) rfl rfl dX3_differ_66 (pc' := 69) rfl ?_
      refine zw_bipush (v := 8) E dX3_differ_69 (by decide) (pc' := 71) rfl ?_
      refine zw_iload (x := nI k) E 6 dX3_differ_71 rfl (pc' := 73) rfl ?_
      refine zw_imul E dX3_differ_73 (pc' := 74) rfl ?_
      refine zw_topi (x' := nI (8 * k)) (pk_mul 8 k) ?_
      refine zw_iload (x := 3) E 0 dX3_differ_74 rfl (pc' := 76) rfl ?_
      refine zw_iadd E dX3_differ_76 (pc' := 77) rfl ?_
      refine zw_topi (x' := nI (8 * k + 3)) (nI_add (8 * k) 3) ?_
      refine zw_aload_n (i := 0) (x := am 0) E 1 dX3_differ_77 rfl rfl (pc' := 78) rfl ?_
      refine zw_iload (x := nI k) E 6 dX3_differ_78 rfl (pc' := 80) rfl ?_
      refine zw_iload (x := 3) E 0 dX3_differ_80 rfl (pc' := 82) rfl ?_
      refine zw_callIw E (r := m_tell g_3 (nI k) 3) (As := [.int (nI k), .int 3]) (rest := [.int (nI (8 * k + 3)), .ref (am 20)]) (ws' := (md_W K am g_3)) (qX3_tells l D K am g_3 (by rw [e1_g_3]; exact hfn) (nI k) 3) (cwV 2 E.2.2.2.2.1 gX3_differ_X3_tells rfl rfl rfl (by decide +kernel) ⟨Nat.le_of_ble_eq_true rfl, Nat.le_of_ble_eq_true rfl⟩) 0 rfl rfl rfl rfl rfl rfl (Nat.le_of_ble_eq_true rfl) ⟨Nat.zero_le _, Nat.zero_le _⟩ dX3_differ_82 (pc' := 85) rfl ?_
      refine zw_iast (j := 8 * k + 3) (ws' := (md_W K am (md_row g_3 17 (8 * k + 3) (m_tell g_3 (nI k) 3)))) E 20 0 rfl rfl (vp_in_nI (show 8 * k + 3 < 480 by omega) (by decide)) (zw_clamp (show 8 * k + 3 < 480 by omega) (by decide)) rfl dX3_differ_85 (pc' := 86) rfl ?_
      refine zw_gen_md_g (md_row g_3 17 (8 * k + 3) (m_tell g_3 (nI k) 3)) (fun g_4 hg_4 => ?_)
      have e1_g_4 : g_4.2.2.1 1 = fn := by rw [← hg_4]; exact e1_g_3
      have et_g_4 : g_4.1 11 = q.1 11 := by rw [← hg_4]; exact et_g_3
      refine zw_iinc (x := 3) (v := 4) (lv' := [(7, .int 4), (0, .ref (am 0)), (1, .int k1), (2, .int k2), (3, .int y), (4, .int i), (6, .int (nI k))]) E 0 dX3_differ_86 rfl (by decide) (by decide) rfl (pc' := 89) rfl ?_
      refine zw_goto (tgt := 58) E dX3_differ_89 (by decide) ?_
      refine zw_iload (x := 4) E 0 dX3_differ_58 rfl (pc' := 60) rfl ?_
      refine zw_bipush (v := 7) E dX3_differ_60 (by decide) (pc' := 62) rfl ?_
      refine zw_icmp_ge (tgt := 92) E dX3_differ_62 (by decide) (pc' := 65) rfl (fun c9 => absurd c9 (by decide)) (fun _ => ?_)
      refine zw_aload_n (i := 0) (x := am 0) E 1 dX3_differ_65 rfl rfl (pc' := 66) rfl ?_
      refine zw_get (v := .ref (am 20)) E 0 22 iX3_differ_X3 fX3_differ_69 rfl rfl (by decide) rfl rfl dX3_differ_66 (pc' := 69) rfl ?_
      refine zw_bipush (v := 8) E dX3_differ_69 (by decide) (pc' := 71) rfl ?_
      refine zw_iload (x := nI k) E 6 dX3_differ_71 rfl (pc' := 73) rfl ?_
      refine zw_imul E dX3_differ_73 (pc' := 74) rfl ?_
      refine zw_topi (x' := nI (8 * k)) (pk_mul 8 k) ?_
      refine zw_iload (x := 4) E 0 dX3_differ_74 rfl (pc' := 76) rfl ?_
      refine zw_iadd E dX3_differ_76 (pc' := 77) rfl ?_
      refine zw_topi (x' := nI (8 * k + 4)) (nI_add (8 * k) 4) ?_
      refine zw_aload_n (i := 0) (x := am 0) E 1 dX3_differ_77 rfl rfl (pc' := 78) rfl ?_
      refine zw_iload (x := nI k) E 6 dX3_differ_78 rfl (pc' := 80) rfl ?_
      refine zw_iload (x := 4) E 0 dX3_differ_80 rfl (pc' := 82) rfl ?_
      refine zw_callIw E (r := m_tell g_4 (nI k) 4) (As := [.int (nI k), .int 4]) (rest := [.int (nI (8 * k + 4)), .ref (am 20)]) (ws' := (md_W K am g_4)) (qX3_tells l D K am g_4 (by rw [e1_g_4]; exact hfn) (nI k) 4) (cwV 2 E.2.2.2.2.1 gX3_differ_X3_tells rfl rfl rfl (by decide +kernel) ⟨Nat.le_of_ble_eq_true rfl, Nat.le_of_ble_eq_true rfl⟩) 0 rfl rfl rfl rfl rfl rfl (Nat.le_of_ble_eq_true rfl) ⟨Nat.zero_le _, Nat.zero_le _⟩ dX3_differ_82 (pc' := 85) rfl ?_
      refine zw_iast (j := 8 * k + 4) (ws' := (md_W K am (md_row g_4 17 (8 * k + 4) (m_tell g_4 (nI k) 4)))) E 20 0 rfl rfl (vp_in_nI (show 8 * k + 4 < 480 by omega) (by decide)) (zw_clamp (show 8 * k + 4 < 480 by omega) (by decide)) rfl dX3_differ_85 (pc' := 86) rfl ?_
      refine zw_gen_md_g (md_row g_4 17 (8 * k + 4) (m_tell g_4 (nI k) 4)) (fun g_5 hg_5 => ?_)
      have e1_g_5 : g_5.2.2.1 1 = fn := by rw [← hg_5]; exact e1_g_4
      have et_g_5 : g_5.1 11 = q.1 11 := by rw [← hg_5]; exact et_g_4
      refine zw_iinc (x := 4) (v := 5) (lv' := [(7, .int 5), (0, .ref (am 0)), (1, .int k1), (2, .int k2), (3, .int y), (4, .int i), (6, .int (nI k))]) E 0 dX3_differ_86 rfl (by decide) (by decide) rfl (pc' := 89) rfl ?_
      refine zw_goto (tgt := 58) E dX3_differ_89 (by decide) ?_
      refine zw_iload (x := 5) E 0 dX3_differ_58 rfl (pc' := 60) rfl ?_
      refine zw_bipush (v := 7) E dX3_differ_60 (by decide) (pc' := 62) rfl ?_
      refine zw_icmp_ge (tgt := 92) E dX3_differ_62 (by decide) (pc' := 65) rfl (fun c9 => absurd c9 (by decide)) (fun _ => ?_)
      refine zw_aload_n (i := 0) (x := am 0) E 1 dX3_differ_65 rfl rfl (pc' := 66) rfl ?_
      refine zw_get (v := .ref (am 20)) E 0 22 iX3_differ_X3 fX3_differ_69 rfl rfl (by decide) rfl rfl dX3_differ_66 (pc' := 69) rfl ?_
      refine zw_bipush (v := 8) E dX3_differ_69 (by decide) (pc' := 71) rfl ?_
      refine zw_iload (x := nI k) E 6 dX3_differ_71 rfl (pc' := 73) rfl ?_
      refine zw_imul E dX3_differ_73 (pc' := 74) rfl ?_
      refine zw_topi (x' := nI (8 * k)) (pk_mul 8 k) ?_
      refine zw_iload (x := 5) E 0 dX3_differ_74 rfl (pc' := 76) rfl ?_
      refine zw_iadd E dX3_differ_76 (pc' := 77) rfl ?_
      refine zw_topi (x' := nI (8 * k + 5)) (nI_add (8 * k) 5) ?_
      refine zw_aload_n (i := 0) (x := am 0) E 1 dX3_differ_77 rfl rfl (pc' := 78) rfl ?_
      refine zw_iload (x := nI k) E 6 dX3_differ_78 rfl (pc' := 80) rfl ?_
      refine zw_iload (x := 5) E 0 dX3_differ_80 rfl (pc' := 82) rfl ?_
      refine zw_callIw E (r := m_tell g_5 (nI k) 5) (As := [.int (nI k), .int 5]) (rest := [.int (nI (8 * k + 5)), .ref (am 20)]) (ws' := (md_W K am g_5)) (qX3_tells l D K am g_5 (by rw [e1_g_5]; exact hfn) (nI k) 5) (cwV 2 E.2.2.2.2.1 gX3_differ_X3_tells rfl rfl rfl (by decide +kernel) ⟨Nat.le_of_ble_eq_true rfl, Nat.le_of_ble_eq_true rfl⟩) 0 rfl rfl rfl rfl rfl rfl (Nat.le_of_ble_eq_true rfl) ⟨Nat.zero_le _, Nat.zero_le _⟩ dX3_differ_82 (pc' := 85) rfl ?_
      refine zw_iast (j := 8 * k + 5) (ws' := (md_W K am (md_row g_5 17 (8 * k + 5) (m_tell g_5 (nI k) 5)))) E 20 0 rfl rfl (vp_in_nI (show 8 * k + 5 < 480 by omega) (by decide)) (zw_clamp (show 8 * k + 5 < 480 by omega) (by decide)) rfl dX3_differ_85 (pc' := 86) rfl ?_
      refine zw_gen_md_g (md_row g_5 17 (8 * k + 5) (m_tell g_5 (nI k) 5)) (fun g_6 hg_6 => ?_)
      have e1_g_6 : g_6.2.2.1 1 = fn := by rw [← hg_6]; exact e1_g_5
      have et_g_6 : g_6.1 11 = q.1 11 := by rw [← hg_6]; exact et_g_5
      refine zw_iinc (x := 5) (v := 6) (lv' := [(7, .int 6), (0, .ref (am 0)), (1, .int k1), (2, .int k2), (3, .int y), (4, .int i), (6, .int (nI k))]) E 0 dX3_differ_86 rfl (by decide) (by decide) rfl (pc' := 89) rfl ?_
      refine zw_goto (tgt := 58) E dX3_differ_89 (by decide) ?_
      refine zw_iload (x := 6) E 0 dX3_differ_58 rfl (pc' := 60) rfl ?_
      refine zw_bipush (v := 7) E dX3_differ_60 (by decide) (pc' := 62) rfl ?_
      refine zw_icmp_ge (tgt := 92) E dX3_differ_62 (by decide) (pc' := 65) rfl (fun c9 => absurd c9 (by decide)) (fun _ => ?_)
      refine zw_aload_n (i := 0) (x := am 0) E 1 dX3_differ_65 rfl rfl (pc' := 66) rfl ?_
      refine zw_get (v := .ref (am 20)) E 0 22 iX3_differ_X3 fX3_differ_69 rfl rfl (by decide) rfl rfl dX3_differ_66 (pc' := 69) rfl ?_
      refine zw_bipush (v := 8) E dX3_differ_69 (by decide) (pc' := 71) rfl ?_
      refine zw_iload (x := nI k) E 6 dX3_differ_71 rfl (pc' := 73) rfl ?_
      refine zw_imul E dX3_differ_73 (pc' := 74) rfl ?_
      refine zw_topi (x' := nI (8 * k)) (pk_mul 8 k) ?_
      refine zw_iload (x := 6) E 0 dX3_differ_74 rfl (pc' := 76) rfl ?_
      refine zw_iadd E dX3_differ_76 (pc' := 77) rfl ?_
      refine zw_topi (x' := nI (8 * k + 6)) (nI_add (8 * k) 6) ?_
      refine zw_aload_n (i := 0) (x := am 0) E 1 dX3_differ_77 rfl rfl (pc' := 78) rfl ?_
      refine zw_iload (x := nI k) E 6 dX3_differ_78 rfl (pc' := 80) rfl ?_
      refine zw_iload (x := 6) E 0 dX3_differ_80 rfl (pc' := 82) rfl ?_
      refine zw_callIw E (r := m_tell g_6 (nI k) 6) (As := [.int (nI k), .int 6]) (rest := [.int (nI (8 * k + 6)), .ref (am 20)]) (ws' := (md_W K am g_6)) (qX3_tells l D K am g_6 (by rw [e1_g_6]; exact hfn) (nI k) 6) (cwV 2 E.2.2.2.2.1 gX3_differ_X3_tells rfl rfl rfl (by decide +kernel) ⟨Nat.le_of_ble_eq_true rfl, Nat.le_of_ble_eq_true rfl⟩) 0 rfl rfl rfl rfl rfl rfl (Nat.le_of_ble_eq_true rfl) ⟨Nat.zero_le _, Nat.zero_le _⟩ dX3_differ_82 (pc' := 85) rfl ?_
      refine zw_iast (j := 8 * k + 6) (ws' := (md_W K am (md_row g_6 17 (8 * k + 6) (m_tell g_6 (nI k) 6)))) E 20 0 rfl rfl (vp_in_nI (show 8 * k + 6 < 480 by omega) (by decide)) (zw_clamp (show 8 * k + 6 < 480 by omega) (by decide)) rfl dX3_differ_85 (pc' := 86) rfl ?_
      refine zw_gen_md_g (md_row g_6 17 (8 * k + 6) (m_tell g_6 (nI k) 6)) (fun g_7 hg_7 => ?_)
      have e1_g_7 : g_7.2.2.1 1 = fn := by rw [← hg_7]; exact e1_g_6
      have et_g_7 : g_7.1 11 = q.1 11 := by rw [← hg_7]; exact et_g_6
      refine zw_iinc (x := 6) (v := 7) (lv' := [(7, .int 7), (0, .ref (am 0)), (1, .int k1), (2, .int k2), (3, .int y), (4, .int i), (6, .int (nI k))]) E 0 dX3_differ_86 rfl (by decide) (by decide) rfl (pc' := 89) rfl ?_
      refine zw_goto (tgt := 58) E dX3_differ_89 (by decide) ?_
      refine zw_iload (x := 7) E 0 dX3_differ_58 rfl (pc' := 60) rfl ?_
      refine zw_bipush (v := 7) E dX3_differ_60 (by decide) (pc' := 62) rfl ?_
      refine zw_icmp_ge (tgt := 92) E dX3_differ_62 (by decide) (pc' := 65) rfl (fun _ => ?_) (fun c9 => absurd (by decide) c9)
      refine zw_aload_n (i := 0) (x := am 0) E 1 dX3_differ_92 rfl rfl (pc' := 93) rfl ?_
      refine zw_get (v := .ref (am 20)) E 0 22 iX3_differ_X3 fX3_differ_69 rfl rfl (by decide) rfl rfl dX3_differ_93 (pc' := 96) rfl ?_
      refine zw_bipush (v := 8) E dX3_differ_96 (by decide) (pc' := 98) rfl ?_
      refine zw_iload (x := nI k) E 6 dX3_differ_98 rfl (pc' := 100) rfl ?_
      refine zw_imul E dX3_differ_100 (pc' := 101) rfl ?_
      refine zw_topi (x' := nI (8 * k)) (pk_mul 8 k) ?_
      refine zw_bipush (v := 7) E dX3_differ_101 (by decide) (pc' := 103) rfl ?_
      refine zw_iadd E dX3_differ_103 (pc' := 104) rfl ?_
      refine zw_topi (x' := nI (8 * k + 7)) (nI_add (8 * k) 7) ?_
      refine zw_aload_n (i := 0) (x := am 0) E 1 dX3_differ_104 rfl rfl (pc' := 105) rfl ?_
      refine zw_get (v := .ref (am 12)) E 0 13 iX3_differ_X3 fX3_differ_43 rfl rfl (by decide) rfl rfl dX3_differ_105 (pc' := 108) rfl ?_
      refine zw_iload (x := nI k) E 6 dX3_differ_108 rfl (pc' := 110) rfl ?_
      refine zw_zald (j := k) (x := g_7.1 11 k) E 12 1 rfl rfl (vp_in_nI hk (by decide)) (zw_clamp hk (by decide)) rfl dX3_differ_110 (pc' := 111) rfl ?_
      refine zw_if_eq (tgt := 118) E dX3_differ_111 (by decide) (pc' := 114) rfl (fun c_2 => ?_) (fun c_2 => ?_)
      · skip
        refine zw_iconst (v := 0) E dX3_differ_118 (by decide) (pc' := 119) rfl ?_
        refine zw_iast (j := 8 * k + 7) (ws' := (md_W K am (md_row g_7 17 (8 * k + 7) 0))) E 20 0 rfl rfl (vp_in_nI (show 8 * k + 7 < 480 by omega) (by decide)) (zw_clamp (show 8 * k + 7 < 480 by omega) (by decide)) rfl dX3_differ_119 (pc' := 120) rfl ?_
        refine zw_gen_md_g (md_row g_7 17 (8 * k + 7) 0) (fun g_8 hg_8 => ?_)
        have e1_g_8 : g_8.2.2.1 1 = fn := by rw [← hg_8]; exact e1_g_7
        have et_g_8 : g_8.1 11 = q.1 11 := by rw [← hg_8]; exact et_g_7
        refine zw_iinc (x := nI k) (v := nI (k + 1)) (lv' := [(6, .int (nI (k + 1))), (7, .int 7), (0, .ref (am 0)), (1, .int k1), (2, .int k2), (3, .int y), (4, .int i)]) E 6 dX3_differ_120 rfl (zw_inc1 k) (by decide) rfl (pc' := 123) rfl ?_
        refine zw_goto (tgt := 46) E dX3_differ_123 (by decide) ?_
        refine zw_ws (ws' := md_W K am (md_w1 q k)) (congrArg (md_W K am) (by unfold md_w1 md_wz; rw [show (md_wt (md_wt (md_wt (md_wt (md_wt (md_wt (md_wt q k 0) k 1) k 2) k 3) k 4) k 5) k 6) = g_7 by subst hg_1 hg_2 hg_3 hg_4 hg_5 hg_6 hg_7; rfl, if_pos c_2]; exact hg_8.symm)) ?_
        refine zw_sub [2, 3, 4, 5, 6, 0] (lv' := [(0, .ref (am 0)), (1, .int k1), (2, .int k2), (3, .int y), (4, .int i), (6, .int (nI (k + 1)))]) rfl ?_
        exact ih (k + 1) (md_w1 q k) (by omega) ((congrFun (kept_w1 q k).1 1).trans e1_q) kk
      · skip
        refine zw_iconst (v := 1) E dX3_differ_114 (by decide) (pc' := 115) rfl ?_
        refine zw_goto (tgt := 119) E dX3_differ_115 (by decide) ?_
        refine zw_iast (j := 8 * k + 7) (ws' := (md_W K am (md_row g_7 17 (8 * k + 7) 1))) E 20 0 rfl rfl (vp_in_nI (show 8 * k + 7 < 480 by omega) (by decide)) (zw_clamp (show 8 * k + 7 < 480 by omega) (by decide)) rfl dX3_differ_119 (pc' := 120) rfl ?_
        refine zw_gen_md_g (md_row g_7 17 (8 * k + 7) 1) (fun g_9 hg_9 => ?_)
        have e1_g_9 : g_9.2.2.1 1 = fn := by rw [← hg_9]; exact e1_g_7
        have et_g_9 : g_9.1 11 = q.1 11 := by rw [← hg_9]; exact et_g_7
        refine zw_iinc (x := nI k) (v := nI (k + 1)) (lv' := [(6, .int (nI (k + 1))), (7, .int 7), (0, .ref (am 0)), (1, .int k1), (2, .int k2), (3, .int y), (4, .int i)]) E 6 dX3_differ_120 rfl (zw_inc1 k) (by decide) rfl (pc' := 123) rfl ?_
        refine zw_goto (tgt := 46) E dX3_differ_123 (by decide) ?_
        refine zw_ws (ws' := md_W K am (md_w1 q k)) (congrArg (md_W K am) (by unfold md_w1 md_wz; rw [show (md_wt (md_wt (md_wt (md_wt (md_wt (md_wt (md_wt q k 0) k 1) k 2) k 3) k 4) k 5) k 6) = g_7 by subst hg_1 hg_2 hg_3 hg_4 hg_5 hg_6 hg_7; rfl, if_neg c_2]; exact hg_9.symm)) ?_
        refine zw_sub [2, 3, 4, 5, 6, 0] (lv' := [(0, .ref (am 0)), (1, .int k1), (2, .int k2), (3, .int y), (4, .int i), (6, .int (nI (k + 1)))]) rfl ?_
        exact ih (k + 1) (md_w1 q k) (by omega) ((congrFun (kept_w1 q k).1 1).trans e1_q) kk

set_option maxHeartbeats 4000000 in
set_option maxRecDepth 100000 in
theorem lX3_seven {l : Launch} {D : va_G} {K : Nat → ClassId} {p : Program} {e : Env} {s : State} {m : MethodId} {below : List Frame} {meth : Method} {c : Code} {A : Nat → Prop} {args : Array Value} {Q : State → Prop} (E : zw_E p s m args c cX3_differ 10 RX3 wsX3_differ D (zT K) A) (am : Nat → Nat) (g : Md) (hf60 : g.2.2.1 1 ≤ 60) (k1 k2 y i n : Int32) (k : Nat) (hk : k < 60) (kk : zw_W p l e rmX3_differ s m args below meth c 10 D A 0 0 Q 240 [(0, .ref (am 0)), (1, .int k1), (2, .int k2), (3, .int y), (4, .int i), (6, .int n), (7, .int (nI k)), (8, .int (m_sm g k 7))] [] (md_W K am g)) : ∀ (fu v : Nat), v ≤ 7 → 8 ≤ v + fu → zw_W p l e rmX3_differ s m args below meth c 10 D A 0 0 Q 191 [(0, .ref (am 0)), (1, .int k1), (2, .int k2), (3, .int y), (4, .int i), (6, .int n), (7, .int (nI k)), (8, .int (m_sm g k v)), (9, .int (nI v))] [] (md_W K am g) := by
  intro fu
  induction fu with
  | zero => intro v h1 h2; exact absurd h2 (by omega)
  | succ fu ih =>
    intro v hle hfu
    refine zw_iload (x := nI v) E 8 dX3_differ_191 rfl (pc' := 193) rfl ?_
    refine zw_bipush (v := 7) E dX3_differ_193 (by decide) (pc' := 195) rfl ?_
    refine zw_icmp_ge (tgt := 240) E dX3_differ_195 (by decide) (pc' := 198) rfl (fun c_1 => ?_) (fun c_1 => ?_)
    · skip
      have h7 : v = 7 := Nat.le_antisymm hle ((nI_leI (a := 7) (by decide) (by omega)).mp c_1)
      refine zw_sub [0, 1, 2, 3, 4, 5, 6, 7] (lv' := [(0, .ref (am 0)), (1, .int k1), (2, .int k2), (3, .int y), (4, .int i), (6, .int n), (7, .int (nI k)), (8, .int (m_sm g k v))]) rfl ?_
      rw [h7]
      exact kk
    · skip
      have hv : v < 7 := Nat.lt_of_not_le (fun h => c_1 (nI_le (a := 7) h (by omega)))
      refine zw_iload (x := m_sm g k v) E 7 dX3_differ_198 rfl (pc' := 200) rfl ?_
      refine zw_if_eq (tgt := 231) E dX3_differ_200 (by decide) (pc' := 203) rfl (fun c_2 => ?_) (fun c_2 => ?_)
      · skip
        refine zw_iconst (v := 0) E dX3_differ_231 (by decide) (pc' := 232) rfl ?_
        refine zw_istore (lv' := [(8, .int 0), (0, .ref (am 0)), (1, .int k1), (2, .int k2), (3, .int y), (4, .int i), (6, .int n), (7, .int (nI k)), (9, .int (nI v))]) E dX3_differ_232 (by decide) rfl (pc' := 234) rfl ?_
        refine zw_iinc (x := nI v) (v := nI (v + 1)) (lv' := [(9, .int (nI (v + 1))), (8, .int 0), (0, .ref (am 0)), (1, .int k1), (2, .int k2), (3, .int y), (4, .int i), (6, .int n), (7, .int (nI k))]) E 8 dX3_differ_234 rfl (zw_inc1 v) (by decide) rfl (pc' := 237) rfl ?_
        refine zw_goto (tgt := 191) E dX3_differ_237 (by decide) ?_
        have e1 : m_sm g k (v + 1) = 0 := by rw [m_sm, if_pos c_2]
        refine zw_sub [2, 3, 4, 5, 6, 7, 8, 1, 0] (lv' := [(0, .ref (am 0)), (1, .int k1), (2, .int k2), (3, .int y), (4, .int i), (6, .int n), (7, .int (nI k)), (8, .int 0), (9, .int (nI (v + 1)))]) rfl ?_
        refine zw_as (lv' := [(0, .ref (am 0)), (1, .int k1), (2, .int k2), (3, .int y), (4, .int i), (6, .int n), (7, .int (nI k)), (8, .int (m_sm g k (v + 1))), (9, .int (nI (v + 1)))]) (by rw [e1]) rfl rfl ?_
        exact ih (v + 1) (by omega) (by omega)
      · skip
        refine zw_aload_n (i := 0) (x := am 0) E 0 dX3_differ_203 rfl rfl (pc' := 204) rfl ?_
        refine zw_get (v := .ref (am 20)) E 0 22 iX3_differ_X3 fX3_differ_69 rfl rfl (by decide) rfl rfl dX3_differ_204 (pc' := 207) rfl ?_
        refine zw_bipush (v := 8) E dX3_differ_207 (by decide) (pc' := 209) rfl ?_
        refine zw_iload (x := nI k) E 6 dX3_differ_209 rfl (pc' := 211) rfl ?_
        refine zw_imul E dX3_differ_211 (pc' := 212) rfl ?_
        refine zw_topi (x' := nI (8 * k)) (pk_mul 8 k) ?_
        refine zw_iload (x := nI v) E 8 dX3_differ_212 rfl (pc' := 214) rfl ?_
        refine zw_iadd E dX3_differ_214 (pc' := 215) rfl ?_
        refine zw_topi (x' := nI (8 * k + v)) (nI_add (8 * k) v) ?_
        refine zw_iald (j := 8 * k + v) (x := g.1 17 (8 * k + v)) E 20 0 rfl rfl (vp_in_nI (show 8 * k + v < 480 by omega) (by decide)) (zw_clamp (show 8 * k + v < 480 by omega) (by decide)) rfl dX3_differ_215 (pc' := 216) rfl ?_
        refine zw_aload_n (i := 0) (x := am 0) E 0 dX3_differ_216 rfl rfl (pc' := 217) rfl ?_
        refine zw_iload (x := nI k) E 6 dX3_differ_217 rfl (pc' := 219) rfl ?_
        refine zw_iload (x := nI v) E 8 dX3_differ_219 rfl (pc' := 221) rfl ?_
        refine zw_callIw E (r := m_tell g (nI k) (nI v)) (As := [.int (nI k), .int (nI v)]) (rest := [.int (g.1 17 (8 * k + v))]) (ws' := (md_W K am g)) (qX3_tells l D K am g hf60 (nI k) (nI v)) (cwV 2 E.2.2.2.2.1 gX3_differ_X3_tells rfl rfl rfl (by decide +kernel) ⟨Nat.le_of_ble_eq_true rfl, Nat.le_of_ble_eq_true rfl⟩) 0 rfl rfl rfl rfl rfl rfl (Nat.le_of_ble_eq_true rfl) ⟨Nat.zero_le _, Nat.zero_le _⟩ dX3_differ_221 (pc' := 224) rfl ?_
        refine zw_icmp_ne (tgt := 231) E dX3_differ_224 (by decide) (pc' := 227) rfl (fun c_3 => ?_) (fun c_3 => ?_)
        · skip
          refine zw_iconst (v := 0) E dX3_differ_231 (by decide) (pc' := 232) rfl ?_
          refine zw_istore (lv' := [(8, .int 0), (0, .ref (am 0)), (1, .int k1), (2, .int k2), (3, .int y), (4, .int i), (6, .int n), (7, .int (nI k)), (9, .int (nI v))]) E dX3_differ_232 (by decide) rfl (pc' := 234) rfl ?_
          refine zw_iinc (x := nI v) (v := nI (v + 1)) (lv' := [(9, .int (nI (v + 1))), (8, .int 0), (0, .ref (am 0)), (1, .int k1), (2, .int k2), (3, .int y), (4, .int i), (6, .int n), (7, .int (nI k))]) E 8 dX3_differ_234 rfl (zw_inc1 v) (by decide) rfl (pc' := 237) rfl ?_
          refine zw_goto (tgt := 191) E dX3_differ_237 (by decide) ?_
          have e1 : m_sm g k (v + 1) = 0 := by rw [m_sm, if_neg c_2, if_neg c_3]
          refine zw_sub [2, 3, 4, 5, 6, 7, 8, 1, 0] (lv' := [(0, .ref (am 0)), (1, .int k1), (2, .int k2), (3, .int y), (4, .int i), (6, .int n), (7, .int (nI k)), (8, .int 0), (9, .int (nI (v + 1)))]) rfl ?_
          refine zw_as (lv' := [(0, .ref (am 0)), (1, .int k1), (2, .int k2), (3, .int y), (4, .int i), (6, .int n), (7, .int (nI k)), (8, .int (m_sm g k (v + 1))), (9, .int (nI (v + 1)))]) (by rw [e1]) rfl rfl ?_
          exact ih (v + 1) (by omega) (by omega)
        · skip
          refine zw_iconst (v := 1) E dX3_differ_227 (by decide) (pc' := 228) rfl ?_
          refine zw_goto (tgt := 232) E dX3_differ_228 (by decide) ?_
          refine zw_istore (lv' := [(8, .int 1), (0, .ref (am 0)), (1, .int k1), (2, .int k2), (3, .int y), (4, .int i), (6, .int n), (7, .int (nI k)), (9, .int (nI v))]) E dX3_differ_232 (by decide) rfl (pc' := 234) rfl ?_
          refine zw_iinc (x := nI v) (v := nI (v + 1)) (lv' := [(9, .int (nI (v + 1))), (8, .int 1), (0, .ref (am 0)), (1, .int k1), (2, .int k2), (3, .int y), (4, .int i), (6, .int n), (7, .int (nI k))]) E 8 dX3_differ_234 rfl (zw_inc1 v) (by decide) rfl (pc' := 237) rfl ?_
          refine zw_goto (tgt := 191) E dX3_differ_237 (by decide) ?_
          have e1 : m_sm g k (v + 1) = 1 := by rw [m_sm, if_neg c_2, if_pos c_3]
          refine zw_sub [2, 3, 4, 5, 6, 7, 8, 1, 0] (lv' := [(0, .ref (am 0)), (1, .int k1), (2, .int k2), (3, .int y), (4, .int i), (6, .int n), (7, .int (nI k)), (8, .int 1), (9, .int (nI (v + 1)))]) rfl ?_
          refine zw_as (lv' := [(0, .ref (am 0)), (1, .int k1), (2, .int k2), (3, .int y), (4, .int i), (6, .int n), (7, .int (nI k)), (8, .int (m_sm g k (v + 1))), (9, .int (nI (v + 1)))]) (by rw [e1]) rfl rfl ?_
          exact ih (v + 1) (by omega) (by omega)

set_option maxHeartbeats 4000000 in
set_option maxRecDepth 100000 in
theorem lX3_differ {l : Launch} {D : va_G} {K : Nat → ClassId} {p : Program} {e : Env} {s : State} {m : MethodId} {below : List Frame} {meth : Method} {c : Code} {A : Nat → Prop} {args : Array Value} (E : zw_E p s m args c cX3_differ 10 RX3 wsX3_differ D (zT K) A) (hr : meth.sig.returnType = some .int) (hlk : meth.locks = false) (am : Nat → Nat) (g : Md) (hf60 : g.2.2.1 1 ≤ 60) (k1 k2 y i : Int32) : ∀ (r k : Nat) (n : Int32), r + k = g.2.2.1 1 → zw_W p l e rmX3_differ s m args below meth c 10 D A 0 0 (zw_Qi D A below args s (m_df g i r k n) (md_W K am g)) 141 [(0, .ref (am 0)), (1, .int k1), (2, .int k2), (3, .int y), (4, .int i), (6, .int n), (7, .int (nI k))] [] (md_W K am g) := by
  intro r
  induction r with
  | zero =>
    intro k n hri
    have hk0 : g.2.2.1 1 ≤ k := by omega
    refine zw_iload (x := nI k) E 6 dX3_differ_141 rfl (pc' := 143) rfl ?_
    refine zw_aload_n (i := 0) (x := am 0) E 0 dX3_differ_143 rfl rfl (pc' := 144) rfl ?_
    refine zw_get (v := .int (nI (g.2.2.1 1))) E 0 1 iX3_differ_X3 fX3_differ_80 rfl rfl (by decide) rfl rfl dX3_differ_144 (pc' := 147) rfl ?_
    refine zw_icmp_ge (tgt := 267) E dX3_differ_147 (by decide) (pc' := 150) rfl (fun c_1 => ?_) (fun c_1 => ?_)
    · skip
      refine zw_iconst (v := (-1)) E dX3_differ_267 (by decide) (pc' := 268) rfl ?_
      exact zw_iret E hr hlk dX3_differ_268 rfl rfl
    · exact absurd (nI_le hk0 (by omega)) c_1
  | succ r ih =>
    intro k n hri
    have hkf : k < g.2.2.1 1 := by omega
    have hk : k < 60 := by omega
    have kk : zw_W p l e rmX3_differ s m args below meth c 10 D A 0 0 (zw_Qi D A below args s (m_df g i (r + 1) k n) (md_W K am g)) 240 [(0, .ref (am 0)), (1, .int k1), (2, .int k2), (3, .int y), (4, .int i), (6, .int n), (7, .int (nI k)), (8, .int (m_sm g k 7))] [] (md_W K am g) := by
      refine zw_iload (x := m_sm g k 7) E 7 dX3_differ_240 rfl (pc' := 242) rfl ?_
      refine zw_if_eq (tgt := 248) E dX3_differ_242 (by decide) (pc' := 245) rfl (fun c_1 => ?_) (fun c_1 => ?_)
      · skip
        refine zw_iload (x := n) E 5 dX3_differ_248 rfl (pc' := 250) rfl ?_
        refine zw_iload (x := i) E 4 dX3_differ_250 rfl (pc' := 252) rfl ?_
        refine zw_icmp_ne (tgt := 258) E dX3_differ_252 (by decide) (pc' := 255) rfl (fun c_2 => ?_) (fun c_2 => ?_)
        · skip
          refine zw_iinc (x := n) (v := n + 1) (lv' := [(6, .int (n + 1)), (0, .ref (am 0)), (1, .int k1), (2, .int k2), (3, .int y), (4, .int i), (7, .int (nI k)), (8, .int (m_sm g k 7))]) E 5 dX3_differ_258 rfl (by rfl) (by decide) rfl (pc' := 261) rfl ?_
          refine zw_iinc (x := nI k) (v := nI (k + 1)) (lv' := [(7, .int (nI (k + 1))), (6, .int (n + 1)), (0, .ref (am 0)), (1, .int k1), (2, .int k2), (3, .int y), (4, .int i), (8, .int (m_sm g k 7))]) E 6 dX3_differ_261 rfl (zw_inc1 k) (by decide) rfl (pc' := 264) rfl ?_
          refine zw_goto (tgt := 141) E dX3_differ_264 (by decide) ?_
          have e2 : m_df g i (r + 1) k n = m_df g i r (k + 1) (n + 1) := by rw [m_df, if_pos c_1, if_neg c_2]
          rw [e2]
          refine zw_sub [2, 3, 4, 5, 6, 1, 0] (lv' := [(0, .ref (am 0)), (1, .int k1), (2, .int k2), (3, .int y), (4, .int i), (6, .int (n + 1)), (7, .int (nI (k + 1)))]) rfl ?_
          exact ih (k + 1) (n + 1) (by omega)
        · skip
          refine zw_iload (x := nI k) E 6 dX3_differ_255 rfl (pc' := 257) rfl ?_
          exact zw_iret E hr hlk dX3_differ_257 (by rw [m_df, if_pos c_1, if_pos c_2]) rfl
      · skip
        refine zw_goto (tgt := 261) E dX3_differ_245 (by decide) ?_
        refine zw_iinc (x := nI k) (v := nI (k + 1)) (lv' := [(7, .int (nI (k + 1))), (0, .ref (am 0)), (1, .int k1), (2, .int k2), (3, .int y), (4, .int i), (6, .int n), (8, .int (m_sm g k 7))]) E 6 dX3_differ_261 rfl (zw_inc1 k) (by decide) rfl (pc' := 264) rfl ?_
        refine zw_goto (tgt := 141) E dX3_differ_264 (by decide) ?_
        have e2 : m_df g i (r + 1) k n = m_df g i r (k + 1) n := by rw [m_df, if_neg c_1]
        rw [e2]
        refine zw_sub [1, 2, 3, 4, 5, 6, 0] (lv' := [(0, .ref (am 0)), (1, .int k1), (2, .int k2), (3, .int y), (4, .int i), (6, .int n), (7, .int (nI (k + 1)))]) rfl ?_
        exact ih (k + 1) n (by omega)
    refine zw_iload (x := nI k) E 6 dX3_differ_141 rfl (pc' := 143) rfl ?_
    refine zw_aload_n (i := 0) (x := am 0) E 0 dX3_differ_143 rfl rfl (pc' := 144) rfl ?_
    refine zw_get (v := .int (nI (g.2.2.1 1))) E 0 1 iX3_differ_X3 fX3_differ_80 rfl rfl (by decide) rfl rfl dX3_differ_144 (pc' := 147) rfl ?_
    refine zw_icmp_ge (tgt := 267) E dX3_differ_147 (by decide) (pc' := 150) rfl (fun c_1 => ?_) (fun c_1 => ?_)
    · exact absurd c_1 (nI_ge hkf (by omega))
    · skip
      refine zw_aload_n (i := 0) (x := am 0) E 0 dX3_differ_150 rfl rfl (pc' := 151) rfl ?_
      refine zw_get (v := .ref (am 20)) E 0 22 iX3_differ_X3 fX3_differ_69 rfl rfl (by decide) rfl rfl dX3_differ_151 (pc' := 154) rfl ?_
      refine zw_bipush (v := 8) E dX3_differ_154 (by decide) (pc' := 156) rfl ?_
      refine zw_iload (x := nI k) E 6 dX3_differ_156 rfl (pc' := 158) rfl ?_
      refine zw_imul E dX3_differ_158 (pc' := 159) rfl ?_
      refine zw_topi (x' := nI (8 * k)) (pk_mul 8 k) ?_
      refine zw_bipush (v := 7) E dX3_differ_159 (by decide) (pc' := 161) rfl ?_
      refine zw_iadd E dX3_differ_161 (pc' := 162) rfl ?_
      refine zw_topi (x' := nI (8 * k + 7)) (nI_add (8 * k) 7) ?_
      refine zw_iald (j := 8 * k + 7) (x := g.1 17 (8 * k + 7)) E 20 0 rfl rfl (vp_in_nI (show 8 * k + 7 < 480 by omega) (by decide)) (zw_clamp (show 8 * k + 7 < 480 by omega) (by decide)) rfl dX3_differ_162 (pc' := 163) rfl ?_
      refine zw_aload_n (i := 0) (x := am 0) E 0 dX3_differ_163 rfl rfl (pc' := 164) rfl ?_
      refine zw_get (v := .ref (am 12)) E 0 13 iX3_differ_X3 fX3_differ_43 rfl rfl (by decide) rfl rfl dX3_differ_164 (pc' := 167) rfl ?_
      refine zw_iload (x := nI k) E 6 dX3_differ_167 rfl (pc' := 169) rfl ?_
      refine zw_zald (j := k) (x := g.1 11 k) E 12 1 rfl rfl (vp_in_nI hk (by decide)) (zw_clamp hk (by decide)) rfl dX3_differ_169 (pc' := 170) rfl ?_
      refine zw_if_eq (tgt := 177) E dX3_differ_170 (by decide) (pc' := 173) rfl (fun c_2 => ?_) (fun c_2 => ?_)
      · skip
        refine zw_iconst (v := 0) E dX3_differ_177 (by decide) (pc' := 178) rfl ?_
        refine zw_icmp_ne (tgt := 185) E dX3_differ_178 (by decide) (pc' := 181) rfl (fun c_3 => ?_) (fun c_3 => ?_)
        · skip
          refine zw_iconst (v := 0) E dX3_differ_185 (by decide) (pc' := 186) rfl ?_
          refine zw_istore (lv' := [(8, .int 0), (0, .ref (am 0)), (1, .int k1), (2, .int k2), (3, .int y), (4, .int i), (6, .int n), (7, .int (nI k))]) E dX3_differ_186 (by decide) rfl (pc' := 188) rfl ?_
          refine zw_iconst (v := 0) E dX3_differ_188 (by decide) (pc' := 189) rfl ?_
          refine zw_istore (lv' := [(9, .int 0), (8, .int 0), (0, .ref (am 0)), (1, .int k1), (2, .int k2), (3, .int y), (4, .int i), (6, .int n), (7, .int (nI k))]) E dX3_differ_189 (by decide) rfl (pc' := 191) rfl ?_
          have e1 : m_sm g k 0 = 0 := by rw [m_sm, if_pos c_2, if_neg c_3]
          refine zw_sub [2, 3, 4, 5, 6, 7, 8, 1, 0] (lv' := [(0, .ref (am 0)), (1, .int k1), (2, .int k2), (3, .int y), (4, .int i), (6, .int n), (7, .int (nI k)), (8, .int 0), (9, .int 0)]) rfl ?_
          refine zw_as (lv' := [(0, .ref (am 0)), (1, .int k1), (2, .int k2), (3, .int y), (4, .int i), (6, .int n), (7, .int (nI k)), (8, .int (m_sm g k 0)), (9, .int (nI 0))]) (by rw [e1]; rfl) rfl rfl ?_
          exact lX3_seven E am g hf60 k1 k2 y i n k hk kk 8 0 (by omega) (by omega)
        · skip
          refine zw_iconst (v := 1) E dX3_differ_181 (by decide) (pc' := 182) rfl ?_
          refine zw_goto (tgt := 186) E dX3_differ_182 (by decide) ?_
          refine zw_istore (lv' := [(8, .int 1), (0, .ref (am 0)), (1, .int k1), (2, .int k2), (3, .int y), (4, .int i), (6, .int n), (7, .int (nI k))]) E dX3_differ_186 (by decide) rfl (pc' := 188) rfl ?_
          refine zw_iconst (v := 0) E dX3_differ_188 (by decide) (pc' := 189) rfl ?_
          refine zw_istore (lv' := [(9, .int 0), (8, .int 1), (0, .ref (am 0)), (1, .int k1), (2, .int k2), (3, .int y), (4, .int i), (6, .int n), (7, .int (nI k))]) E dX3_differ_189 (by decide) rfl (pc' := 191) rfl ?_
          have e1 : m_sm g k 0 = 1 := by rw [m_sm, if_pos c_2, if_pos c_3]
          refine zw_sub [2, 3, 4, 5, 6, 7, 8, 1, 0] (lv' := [(0, .ref (am 0)), (1, .int k1), (2, .int k2), (3, .int y), (4, .int i), (6, .int n), (7, .int (nI k)), (8, .int 1), (9, .int 0)]) rfl ?_
          refine zw_as (lv' := [(0, .ref (am 0)), (1, .int k1), (2, .int k2), (3, .int y), (4, .int i), (6, .int n), (7, .int (nI k)), (8, .int (m_sm g k 0)), (9, .int (nI 0))]) (by rw [e1]; rfl) rfl rfl ?_
          exact lX3_seven E am g hf60 k1 k2 y i n k hk kk 8 0 (by omega) (by omega)
      · skip
        refine zw_iconst (v := 1) E dX3_differ_173 (by decide) (pc' := 174) rfl ?_
        refine zw_goto (tgt := 178) E dX3_differ_174 (by decide) ?_
        refine zw_icmp_ne (tgt := 185) E dX3_differ_178 (by decide) (pc' := 181) rfl (fun c_4 => ?_) (fun c_4 => ?_)
        · skip
          refine zw_iconst (v := 0) E dX3_differ_185 (by decide) (pc' := 186) rfl ?_
          refine zw_istore (lv' := [(8, .int 0), (0, .ref (am 0)), (1, .int k1), (2, .int k2), (3, .int y), (4, .int i), (6, .int n), (7, .int (nI k))]) E dX3_differ_186 (by decide) rfl (pc' := 188) rfl ?_
          refine zw_iconst (v := 0) E dX3_differ_188 (by decide) (pc' := 189) rfl ?_
          refine zw_istore (lv' := [(9, .int 0), (8, .int 0), (0, .ref (am 0)), (1, .int k1), (2, .int k2), (3, .int y), (4, .int i), (6, .int n), (7, .int (nI k))]) E dX3_differ_189 (by decide) rfl (pc' := 191) rfl ?_
          have e1 : m_sm g k 0 = 0 := by rw [m_sm, if_neg c_2, if_neg c_4]
          refine zw_sub [2, 3, 4, 5, 6, 7, 8, 1, 0] (lv' := [(0, .ref (am 0)), (1, .int k1), (2, .int k2), (3, .int y), (4, .int i), (6, .int n), (7, .int (nI k)), (8, .int 0), (9, .int 0)]) rfl ?_
          refine zw_as (lv' := [(0, .ref (am 0)), (1, .int k1), (2, .int k2), (3, .int y), (4, .int i), (6, .int n), (7, .int (nI k)), (8, .int (m_sm g k 0)), (9, .int (nI 0))]) (by rw [e1]; rfl) rfl rfl ?_
          exact lX3_seven E am g hf60 k1 k2 y i n k hk kk 8 0 (by omega) (by omega)
        · skip
          refine zw_iconst (v := 1) E dX3_differ_181 (by decide) (pc' := 182) rfl ?_
          refine zw_goto (tgt := 186) E dX3_differ_182 (by decide) ?_
          refine zw_istore (lv' := [(8, .int 1), (0, .ref (am 0)), (1, .int k1), (2, .int k2), (3, .int y), (4, .int i), (6, .int n), (7, .int (nI k))]) E dX3_differ_186 (by decide) rfl (pc' := 188) rfl ?_
          refine zw_iconst (v := 0) E dX3_differ_188 (by decide) (pc' := 189) rfl ?_
          refine zw_istore (lv' := [(9, .int 0), (8, .int 1), (0, .ref (am 0)), (1, .int k1), (2, .int k2), (3, .int y), (4, .int i), (6, .int n), (7, .int (nI k))]) E dX3_differ_189 (by decide) rfl (pc' := 191) rfl ?_
          have e1 : m_sm g k 0 = 1 := by rw [m_sm, if_neg c_2, if_pos c_4]
          refine zw_sub [2, 3, 4, 5, 6, 7, 8, 1, 0] (lv' := [(0, .ref (am 0)), (1, .int k1), (2, .int k2), (3, .int y), (4, .int i), (6, .int n), (7, .int (nI k)), (8, .int 1), (9, .int 0)]) rfl ?_
          refine zw_as (lv' := [(0, .ref (am 0)), (1, .int k1), (2, .int k2), (3, .int y), (4, .int i), (6, .int n), (7, .int (nI k)), (8, .int (m_sm g k 0)), (9, .int (nI 0))]) (by rw [e1]; rfl) rfl rfl ?_
          exact lX3_seven E am g hf60 k1 k2 y i n k hk kk 8 0 (by omega) (by omega)

set_option maxHeartbeats 4000000 in
set_option maxRecDepth 100000 in
/-- differ -/
theorem qX3_differ (l : Launch) (D : va_G) (K : Nat → ClassId) (am : Nat → Nat) (g : Md) (k k2 y i : Int32) (hs80 : g.2.2.1 0 ≤ 80) (hf60 : g.2.2.1 1 ≤ 60) (hw : ∀ q, kept g q → ∀ kn, kn ≤ g.2.2.1 0 → wk_ok q kn) : zw_I l yX3_differ wsX3_differ rmX3_differ D (zT K) [.ref (am 0), .int k, .int k2, .int y, .int i] (md_W K am g) (m_differ g k k2 y i) (md_W K am (g_differ g k k2 y i)) := by
  refine zw_ofI (cc := cX3_differ) (nL := 10) (ret := (some .int)) (own := RX3) (lv := [(0, .ref (am 0)), (1, .int k), (2, .int k2), (3, .int y), (4, .int i)]) (by decide) rfl (Nat.le_of_ble_eq_true rfl) rfl rfl ?_
  intro p e s m below meth c A E hr hlk
  refine zw_aload_n (i := 0) (x := am 0) E 0 dX3_differ_0 rfl rfl (pc' := 1) rfl ?_
  refine zw_iload_n (i := 1) (x := k) E 1 dX3_differ_1 rfl rfl (pc' := 2) rfl ?_
  refine zw_callIw E (r := zb (0 ≤ k ∧ k ≤ nI (g.2.2.1 0))) (As := [.int k]) (rest := []) (ws' := (md_W K am g)) (qX3_isKnowing l D K am g k) (cwV 1 E.2.2.2.2.1 gX3_differ_X3_isKnowing rfl rfl rfl (by decide +kernel) ⟨Nat.le_of_ble_eq_true rfl, Nat.le_of_ble_eq_true rfl⟩) 0 rfl rfl rfl rfl rfl rfl (Nat.le_of_ble_eq_true rfl) ⟨Nat.zero_le _, Nat.zero_le _⟩ dX3_differ_2 (pc' := 5) rfl ?_
  refine zw_ifb_eq (tgt := 32) E dX3_differ_5 (by decide) (pc' := 8) rfl (fun c_1 => ?_) (fun c_1 => ?_)
  · skip
    refine zw_iconst (v := (-1)) E dX3_differ_32 (by decide) (pc' := 33) rfl ?_
    exact zw_iret E hr hlk dX3_differ_33 (by unfold m_differ; rw [if_neg c_1]) (congrArg (md_W K am) (by unfold g_differ; rw [if_neg c_1]))
  · skip
    obtain ⟨kn, hkn, ek⟩ := zw_kn hs80 c_1
    have ek2 : k.toNatClampNeg = kn := by rw [ek]; exact nI_clamp (by omega)
    have hkn80 : kn ≤ 80 := Nat.le_trans hkn hs80
    refine zw_aload_n (i := 0) (x := am 0) E 0 dX3_differ_8 rfl rfl (pc' := 9) rfl ?_
    refine zw_iload_n (i := 2) (x := k2) E 2 dX3_differ_9 rfl rfl (pc' := 10) rfl ?_
    refine zw_callIw E (r := zb (0 ≤ k2 ∧ k2 ≤ nI (g.2.2.1 0))) (As := [.int k2]) (rest := []) (ws' := (md_W K am g)) (qX3_isKnowing l D K am g k2) (cwV 1 E.2.2.2.2.1 gX3_differ_X3_isKnowing rfl rfl rfl (by decide +kernel) ⟨Nat.le_of_ble_eq_true rfl, Nat.le_of_ble_eq_true rfl⟩) 0 rfl rfl rfl rfl rfl rfl (Nat.le_of_ble_eq_true rfl) ⟨Nat.zero_le _, Nat.zero_le _⟩ dX3_differ_10 (pc' := 13) rfl ?_
    refine zw_ifb_eq (tgt := 32) E dX3_differ_13 (by decide) (pc' := 16) rfl (fun c_2 => ?_) (fun c_2 => ?_)
    · skip
      refine zw_iconst (v := (-1)) E dX3_differ_32 (by decide) (pc' := 33) rfl ?_
      exact zw_iret E hr hlk dX3_differ_33 (by unfold m_differ; rw [if_pos c_1, if_neg c_2]) (congrArg (md_W K am) (by unfold g_differ; rw [if_pos c_1, if_neg c_2]))
    · skip
      obtain ⟨kn2, hkn2, ek3⟩ := zw_kn hs80 c_2
      have ek4 : k2.toNatClampNeg = kn2 := by rw [ek3]; exact nI_clamp (by omega)
      have hkn280 : kn2 ≤ 80 := Nat.le_trans hkn2 hs80
      refine zw_iload_n (i := 3) (x := y) E 3 dX3_differ_16 rfl rfl (pc' := 17) rfl ?_
      refine zw_iconst (v := 0) E dX3_differ_17 (by decide) (pc' := 18) rfl ?_
      refine zw_sipush (v := 200) E dX3_differ_18 (by decide) (pc' := 21) rfl ?_
      refine zw_callIs E (r := zb (0 ≤ y ∧ y ≤ 200)) (As := [.int y, .int 0, .int 200]) (rest := []) (ws' := (md_W K am g)) (qX3_lies l D K y 0 200) (va_cwS 3 E.2.2.2.2.1 gX3_differ_X3_lies rfl rfl rfl (by decide +kernel) ⟨Nat.le_of_ble_eq_true rfl, Nat.le_of_ble_eq_true rfl⟩) [] (by decide) rfl rfl (zw_put_same _ _ _ rfl) rfl rfl (Nat.le_of_ble_eq_true rfl) ⟨Nat.zero_le _, Nat.zero_le _⟩ dX3_differ_21 (pc' := 24) rfl ?_
      refine zw_ifb_eq (tgt := 32) E dX3_differ_24 (by decide) (pc' := 27) rfl (fun c_3 => ?_) (fun c_3 => ?_)
      · skip
        refine zw_iconst (v := (-1)) E dX3_differ_32 (by decide) (pc' := 33) rfl ?_
        exact zw_iret E hr hlk dX3_differ_33 (by unfold m_differ; rw [if_pos c_1, if_pos c_2, if_neg c_3]) (congrArg (md_W K am) (by unfold g_differ; rw [if_pos c_1, if_pos c_2, if_neg c_3]))
      · skip
        obtain ⟨yn, hyn, ey⟩ := zw_y0 c_3
        have ey2 : y.toNatClampNeg = yn := by rw [ey]; exact nI_clamp (by omega)
        refine zw_iload (x := i) E 4 dX3_differ_27 rfl (pc' := 29) rfl ?_
        refine zw_if_ge (tgt := 34) E dX3_differ_29 (by decide) (pc' := 32) rfl (fun c_4 => ?_) (fun c_4 => ?_)
        · skip
          refine zw_aload_n (i := 0) (x := am 0) E 0 dX3_differ_34 rfl rfl (pc' := 35) rfl ?_
          refine zw_iload_n (i := 1) (x := k) E 1 dX3_differ_35 rfl rfl (pc' := 36) rfl ?_
          refine zw_topi (x' := nI kn) ek ?_
          refine zw_iload_n (i := 3) (x := y) E 3 dX3_differ_36 rfl rfl (pc' := 37) rfl ?_
          refine zw_topi (x' := nI yn) ey ?_
          refine zw_iconst (v := (-1)) E dX3_differ_37 (by decide) (pc' := 38) rfl ?_
          refine zw_callIw E (r := (g_works g kn yn (-1)).1) (As := [.int (nI kn), .int (nI yn), .int (-1)]) (rest := []) (ws' := (md_W K am ((g_works g kn yn (-1)).2))) (qX3_works l D K am g kn hkn80 yn hyn (-1) (hw g (kept.rf g) kn hkn)) (cwV 3 E.2.2.2.2.1 gX3_differ_X3_works rfl rfl rfl (by decide +kernel) ⟨Nat.le_of_ble_eq_true rfl, Nat.le_of_ble_eq_true rfl⟩) 0 rfl rfl rfl (md_ad _ _ _ _) rfl rfl (Nat.le_of_ble_eq_true rfl) ⟨Nat.zero_le _, Nat.zero_le _⟩ dX3_differ_38 (pc' := 41) rfl ?_
          refine zw_gen_md_g ((g_works g kn yn (-1)).2) (fun gw hgw => ?_)
          have hkp : kept g gw := by rw [← hgw]; exact kept_works _ _ _ _
          refine zw_istore (lv' := [(5, .int ((g_works g kn yn (-1)).1)), (0, .ref (am 0)), (1, .int k), (2, .int k2), (3, .int y), (4, .int i)]) E dX3_differ_41 (by decide) rfl (pc' := 43) rfl ?_
          refine zw_iconst (v := 0) E dX3_differ_43 (by decide) (pc' := 44) rfl ?_
          refine zw_istore (lv' := [(6, .int 0), (5, .int ((g_works g kn yn (-1)).1)), (0, .ref (am 0)), (1, .int k), (2, .int k2), (3, .int y), (4, .int i)]) E dX3_differ_44 (by decide) rfl (pc' := 46) rfl ?_
          refine zw_sub [2, 3, 4, 5, 6, 0] (lv' := [(0, .ref (am 0)), (1, .int k), (2, .int k2), (3, .int y), (4, .int i), (6, .int 0)]) rfl ?_
          refine lX3_was E am (g.2.2.1 1) hf60 k k2 y i (g.2.2.1 1) 0 gw (by omega) (congrFun hkp.1 1) ?_
          have hkq : kept g (md_ws (g.2.2.1 1) 0 gw) := hkp.tr (kept_ws _ _ _)
          refine zw_gen_md_g (md_ws (g.2.2.1 1) 0 gw) (fun gv hgv => ?_)
          rw [hgv] at hkq
          refine zw_aload_n (i := 0) (x := am 0) E 0 dX3_differ_126 rfl rfl (pc' := 127) rfl ?_
          refine zw_iload_n (i := 2) (x := k2) E 2 dX3_differ_127 rfl rfl (pc' := 128) rfl ?_
          refine zw_topi (x' := nI kn2) ek3 ?_
          refine zw_iload_n (i := 3) (x := y) E 3 dX3_differ_128 rfl rfl (pc' := 129) rfl ?_
          refine zw_topi (x' := nI yn) ey ?_
          refine zw_iconst (v := (-1)) E dX3_differ_129 (by decide) (pc' := 130) rfl ?_
          refine zw_callIw E (r := (g_works gv kn2 yn (-1)).1) (As := [.int (nI kn2), .int (nI yn), .int (-1)]) (rest := []) (ws' := (md_W K am ((g_works gv kn2 yn (-1)).2))) (qX3_works l D K am gv kn2 hkn280 yn hyn (-1) (hw gv hkq kn2 hkn2)) (cwV 3 E.2.2.2.2.1 gX3_differ_X3_works rfl rfl rfl (by decide +kernel) ⟨Nat.le_of_ble_eq_true rfl, Nat.le_of_ble_eq_true rfl⟩) 0 rfl rfl rfl (md_ad _ _ _ _) rfl rfl (Nat.le_of_ble_eq_true rfl) ⟨Nat.zero_le _, Nat.zero_le _⟩ dX3_differ_130 (pc' := 133) rfl ?_
          refine zw_gen_md_g ((g_works gv kn2 yn (-1)).2) (fun gx hgx => ?_)
          have hkx : kept gv gx := by rw [← hgx]; exact kept_works _ _ _ _
          have hfx : gx.2.2.1 1 = g.2.2.1 1 := (congrFun hkx.1 1).trans (congrFun hkq.1 1)
          refine zw_istore (lv' := [(5, .int ((g_works gv kn2 yn (-1)).1)), (0, .ref (am 0)), (1, .int k), (2, .int k2), (3, .int y), (4, .int i)]) E dX3_differ_133 (by decide) rfl (pc' := 135) rfl ?_
          refine zw_iconst (v := 0) E dX3_differ_135 (by decide) (pc' := 136) rfl ?_
          refine zw_istore (lv' := [(6, .int 0), (5, .int ((g_works gv kn2 yn (-1)).1)), (0, .ref (am 0)), (1, .int k), (2, .int k2), (3, .int y), (4, .int i)]) E dX3_differ_136 (by decide) rfl (pc' := 138) rfl ?_
          refine zw_iconst (v := 0) E dX3_differ_138 (by decide) (pc' := 139) rfl ?_
          refine zw_istore (lv' := [(7, .int 0), (6, .int 0), (5, .int ((g_works gv kn2 yn (-1)).1)), (0, .ref (am 0)), (1, .int k), (2, .int k2), (3, .int y), (4, .int i)]) E dX3_differ_139 (by decide) rfl (pc' := 141) rfl ?_
          have ed : g_dif g kn kn2 yn = gx := by unfold g_dif; rw [hgw, hgv, hgx]
          have e1 : m_differ g k k2 y i = m_df gx i (gx.2.2.1 1) 0 0 := by unfold m_differ; rw [if_pos c_1, if_pos c_2, if_pos c_3, if_pos c_4, ek2, ek4, ey2, ed, hfx]
          have e2 : g_differ g k k2 y i = gx := by unfold g_differ; rw [if_pos c_1, if_pos c_2, if_pos c_3, if_pos c_4, ek2, ek4, ey2, ed]
          rw [e1, e2]
          refine zw_sub [3, 4, 5, 6, 7, 1, 0] (lv' := [(0, .ref (am 0)), (1, .int k), (2, .int k2), (3, .int y), (4, .int i), (6, .int 0), (7, .int 0)]) rfl ?_
          exact lX3_differ E hr hlk am gx (by rw [hfx]; exact hf60) k k2 y i (gx.2.2.1 1) 0 0 (by omega)
        · skip
          refine zw_iconst (v := (-1)) E dX3_differ_32 (by decide) (pc' := 33) rfl ?_
          exact zw_iret E hr hlk dX3_differ_33 (by unfold m_differ; rw [if_pos c_1, if_pos c_2, if_pos c_3, if_neg c_4]) (congrArg (md_W K am) (by unfold g_differ; rw [if_pos c_1, if_pos c_2, if_pos c_3, if_neg c_4]))
