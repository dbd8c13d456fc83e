def m_X3_write (p_len : Int32) (p_signs : Ar) (p1 : Int32) : Option (Int32 × Ar) := grd (gI p_len 24) (some (p_len + ((1 : Int32)), upd p_signs p_len.toNatClampNeg p1))
theorem ds_X3_write : (yX3_write).cls ≠ "java/lang/invoke/MethodHandle" ∧ (yX3_write).cls ≠ "java/lang/invoke/VarHandle" ∧ (parseMethodDescriptor (yX3_write).desc).map (fun d => d.parameters.length) = some 1 := by decide +kernel
set_option maxHeartbeats 4000000 in
set_option maxRecDepth 100000 in
theorem c_X3_write (E : En) {ap0 ap1 : Nat} {p_len : Int32} {p_signs : Ar} {p1 : Int32} {q_p_len : Int32} {q_p_signs : Ar} (h : m_X3_write p_len p_signs p1 = some (q_p_len, q_p_signs)) : Cv E yX3_write (wU yX3_write cX3_write 2 none) (RM 0 0) [.ref ap0, .int p1] (V_P E.2.2 ap0 ap1 p_len p_signs) (V_P E.2.2 ap0 ap1 q_p_len q_p_signs) := by
  refine Cv.of (by decide) (Nat.le_of_ble_eq_true rfl) ?_
  intro x hE C
  subst hE
  have C : CX RX3 cX3_write 2 none x := C
  refine p_locals [0, 1] (lv' := [(0, .ref ap0), (1, .int p1)]) rfl ?_
  unfold m_X3_write at h
  refine p_aload_n C dX3_write_0 rfl 0 rfl ?_
  refine p_get C dX3_write_1 rfl 0 0 inlX3 fl_X3_9 rfl rfl (by decide) rfl rfl ?_
  refine p_aload_n C dX3_write_4 rfl 0 rfl ?_
  refine p_get C dX3_write_5 rfl 0 1 inlX3 fl_X3_15 rfl rfl (by decide) rfl rfl ?_
  refine p_iload_n C dX3_write_8 rfl 1 rfl ?_
  obtain ⟨g1, h⟩ := grd_of h
  refine p_iast (Wd' := (V_P x.1.2.2 ap0 ap1 p_len (upd p_signs p_len.toNatClampNeg p1))) C dX3_write_9 rfl 1 rfl g1 rfl ?_
  refine p_aload_n C dX3_write_10 rfl 0 rfl ?_
  refine p_dup C dX3_write_11 rfl rfl ?_
  refine p_get C dX3_write_12 rfl 0 1 inlX3 fl_X3_15 rfl rfl (by decide) rfl rfl ?_
  refine p_iconst (v := (1 : Int32)) C dX3_write_15 rfl (by decide) ?_
  refine p_iadd C dX3_write_16 rfl ?_
  refine p_put (Wd' := (V_P x.1.2.2 ap0 ap1 (p_len + ((1 : Int32))) (upd p_signs p_len.toNatClampNeg p1))) (ty := .int) C dX3_write_17 rfl 0 1 inlX3 tyX3 tyX3_ok nmX3 fl_X3_15 rfl rfl (by decide) rfl rfl (by decide +kernel) rfl rfl (Nat.le_of_ble_eq_true rfl) rfl ?_
  cases h
  exact p_vret C dX3_write_20
def J_X4_addTry_55 (t_total : Int32) (t_left : Ar) (t_right : Ar) (b_xs : Ar)  (e0 : Int32) (e1 : Int32)  : Option (Int32 × Ar × Ar) := grd (gI e1 10) (some (t_total + ((1 : Int32)), t_left, upd t_right e1.toNatClampNeg e0))
set_option maxHeartbeats 4000000 in
set_option maxRecDepth 100000 in
theorem tj_X4_addTry_55 {x : Cxt} {at0 at1 at2 at3 at4 ab0 ab1 ab2 ab3 : Nat} {t_total : Int32} {t_oft : Int32} {t_left : Ar} {t_right : Ar} {t_group : Ar} {t_paired : Ar} {b_points : Int32} {b_near : Int32} {b_loose : Int32} {b_short : Int32} {b_nets : Ar} {b_xs : Ar} {b_ys : Ar}  {e0 : Int32} {e1 : Int32}  {q_t_total : Int32} {q_t_left : Ar} {q_t_right : Ar} (C : CX RX4 cX4_addTry 5 none x)  (h : J_X4_addTry_55 t_total t_left t_right b_xs e0 e1 = some (q_t_total, q_t_left, q_t_right)) : PT (RM 1 22) 5 x 55 [(0, .ref at0), (1, .ref ab0)] [.int e0, .int e1, .ref at2] (V_TB x.1.2.2 at0 at1 at2 at3 at4 ab0 ab1 ab2 ab3 t_total t_oft t_left t_right t_group t_paired b_points b_near b_loose b_short b_nets b_xs b_ys) 0 0 (QV x (V_TB x.1.2.2 at0 at1 at2 at3 at4 ab0 ab1 ab2 ab3 q_t_total t_oft q_t_left q_t_right t_group t_paired b_points b_near b_loose b_short b_nets b_xs b_ys)) := by
  unfold J_X4_addTry_55 at h
  obtain ⟨g1, h⟩ := grd_of h
  refine p_iast (Wd' := (V_TB x.1.2.2 at0 at1 at2 at3 at4 ab0 ab1 ab2 ab3 t_total t_oft t_left (upd t_right e1.toNatClampNeg e0) t_group t_paired b_points b_near b_loose b_short b_nets b_xs b_ys)) C dX4_addTry_55 rfl 2 rfl g1 rfl ?_
  refine p_aload_n C dX4_addTry_56 rfl 0 rfl ?_
  refine p_dup C dX4_addTry_57 rfl rfl ?_
  refine p_get C dX4_addTry_58 rfl 0 2 inlX4 fl_X4_18 rfl rfl (by decide) rfl rfl ?_
  refine p_iconst (v := (1 : Int32)) C dX4_addTry_61 rfl (by decide) ?_
  refine p_iadd C dX4_addTry_62 rfl ?_
  refine p_put (Wd' := (V_TB x.1.2.2 at0 at1 at2 at3 at4 ab0 ab1 ab2 ab3 (t_total + ((1 : Int32))) t_oft t_left (upd t_right e1.toNatClampNeg e0) t_group t_paired b_points b_near b_loose b_short b_nets b_xs b_ys)) (ty := .int) C dX4_addTry_63 rfl 0 2 inlX4 tyX4 tyX4_ok nmX4 fl_X4_18 rfl rfl (by decide) rfl rfl (by decide +kernel) rfl rfl (Nat.le_of_ble_eq_true rfl) rfl ?_
  cases h
  exact p_vret C dX4_addTry_66
def J_X4_addTry_36 (t_total : Int32) (t_left : Ar) (t_right : Ar) (b_xs : Ar)  (e0 : Int32) (e1 : Int32) (v2 : Int32) (v3 : Int32) (v4 : Int32) : Option (Int32 × Ar × Ar) := grd (gI e1 10) (if v4 = 0 then (J_X4_addTry_55 t_total (upd t_left e1.toNatClampNeg e0) t_right b_xs v2 t_total) else (J_X4_addTry_55 t_total (upd t_left e1.toNatClampNeg e0) t_right b_xs v3 t_total))
set_option maxHeartbeats 4000000 in
set_option maxRecDepth 100000 in
theorem tj_X4_addTry_36 {x : Cxt} {at0 at1 at2 at3 at4 ab0 ab1 ab2 ab3 : Nat} {t_total : Int32} {t_oft : Int32} {t_left : Ar} {t_right : Ar} {t_group : Ar} {t_paired : Ar} {b_points : Int32} {b_near : Int32} {b_loose : Int32} {b_short : Int32} {b_nets : Ar} {b_xs : Ar} {b_ys : Ar}  {e0 : Int32} {e1 : Int32} {v2 : Int32} {v3 : Int32} {v4 : Int32} {q_t_total : Int32} {q_t_left : Ar} {q_t_right : Ar} (C : CX RX4 cX4_addTry 5 none x)  (h : J_X4_addTry_36 t_total t_left t_right b_xs e0 e1 v2 v3 v4 = some (q_t_total, q_t_left, q_t_right)) : PT (RM 1 22) 5 x 36 [(0, .ref at0), (1, .ref ab0), (2, .int v2), (3, .int v3), (4, .int v4)] [.int e0, .int e1, .ref at1] (V_TB x.1.2.2 at0 at1 at2 at3 at4 ab0 ab1 ab2 ab3 t_total t_oft t_left t_right t_group t_paired b_points b_near b_loose b_short b_nets b_xs b_ys) 0 0 (QV x (V_TB x.1.2.2 at0 at1 at2 at3 at4 ab0 ab1 ab2 ab3 q_t_total t_oft q_t_left q_t_right t_group t_paired b_points b_near b_loose b_short b_nets b_xs b_ys)) := by
  unfold J_X4_addTry_36 at h
  obtain ⟨g1, h⟩ := grd_of h
  refine p_iast (Wd' := (V_TB x.1.2.2 at0 at1 at2 at3 at4 ab0 ab1 ab2 ab3 t_total t_oft (upd t_left e1.toNatClampNeg e0) t_right t_group t_paired b_points b_near b_loose b_short b_nets b_xs b_ys)) C dX4_addTry_36 rfl 1 rfl g1 rfl ?_
  refine p_aload_n C dX4_addTry_37 rfl 0 rfl ?_
  refine p_get C dX4_addTry_38 rfl 0 1 inlX4 fl_X4_15 rfl rfl (by decide) rfl rfl ?_
  refine p_aload_n C dX4_addTry_41 rfl 0 rfl ?_
  refine p_get C dX4_addTry_42 rfl 0 2 inlX4 fl_X4_18 rfl rfl (by decide) rfl rfl ?_
  refine p_iload C dX4_addTry_45 rfl 4 rfl ?_
  refine p_if_eq C dX4_addTry_47 (tgt := 54) (by decide) rfl (fun c2 => ?_) (fun c2 => ?_)
  · have h := if_t c2 h
    refine p_iload_n C dX4_addTry_54 rfl 2 rfl ?_
    refine p_locals [0, 1] (lv' := [(0, .ref at0), (1, .ref ab0)]) rfl ?_
    exact tj_X4_addTry_55 C  h
  · have h := if_f c2 h
    refine p_iload_n C dX4_addTry_50 rfl 3 rfl ?_
    refine p_goto C dX4_addTry_51 (pc' := 55) (by decide) ?_
    refine p_locals [0, 1] (lv' := [(0, .ref at0), (1, .ref ab0)]) rfl ?_
    exact tj_X4_addTry_55 C  h
def m_X4_addTry (t_total : Int32) (t_left : Ar) (t_right : Ar) (b_xs : Ar) (p2 : Int32) (p3 : Int32) : Option (Int32 × Ar × Ar) := if t_total < ((10 : Int32)) then (bd1 (m_X0_isLeftOf b_xs p2 p3) (fun r2 => if r2 = 0 then (J_X4_addTry_36 t_total t_left t_right b_xs p3 t_total p2 p3 r2) else (J_X4_addTry_36 t_total t_left t_right b_xs p2 t_total p2 p3 r2))) else (some (t_total, t_left, t_right))
theorem ds_X4_addTry : (yX4_addTry).cls ≠ "java/lang/invoke/MethodHandle" ∧ (yX4_addTry).cls ≠ "java/lang/invoke/VarHandle" ∧ (parseMethodDescriptor (yX4_addTry).desc).map (fun d => d.parameters.length) = some 3 := by decide +kernel
set_option maxHeartbeats 4000000 in
set_option maxRecDepth 100000 in
theorem c_X4_addTry (E : En) {at0 at1 at2 at3 at4 ab0 ab1 ab2 ab3 : Nat} {t_total : Int32} {t_oft : Int32} {t_left : Ar} {t_right : Ar} {t_group : Ar} {t_paired : Ar} {b_points : Int32} {b_near : Int32} {b_loose : Int32} {b_short : Int32} {b_nets : Ar} {b_xs : Ar} {b_ys : Ar} {p2 : Int32} {p3 : Int32} {q_t_total : Int32} {q_t_left : Ar} {q_t_right : Ar} (h : m_X4_addTry t_total t_left t_right b_xs p2 p3 = some (q_t_total, q_t_left, q_t_right)) : Cv E yX4_addTry (wU yX4_addTry cX4_addTry 5 none) (RM 1 22) [.ref at0, .ref ab0, .int p2, .int p3] (V_TB E.2.2 at0 at1 at2 at3 at4 ab0 ab1 ab2 ab3 t_total t_oft t_left t_right t_group t_paired b_points b_near b_loose b_short b_nets b_xs b_ys) (V_TB E.2.2 at0 at1 at2 at3 at4 ab0 ab1 ab2 ab3 q_t_total t_oft q_t_left q_t_right t_group t_paired b_points b_near b_loose b_short b_nets b_xs b_ys) := by
  refine Cv.of (by decide) (Nat.le_of_ble_eq_true rfl) ?_
  intro x hE C
  subst hE
  have C : CX RX4 cX4_addTry 5 none x := C
  refine p_locals [0, 1, 2, 3] (lv' := [(0, .ref at0), (1, .ref ab0), (2, .int p2), (3, .int p3)]) rfl ?_
  unfold m_X4_addTry at h
  refine p_aload_n C dX4_addTry_0 rfl 0 rfl ?_
  refine p_get C dX4_addTry_1 rfl 0 2 inlX4 fl_X4_18 rfl rfl (by decide) rfl rfl ?_
  refine p_bipush (v := (10 : Int32)) C dX4_addTry_4 rfl (by decide) ?_
  refine p_icmp_lt C dX4_addTry_6 (tgt := 10) (by decide) rfl (fun c1 => ?_) (fun c1 => ?_)
  · have h := if_t c1 h
    refine p_aload_n C dX4_addTry_10 rfl 1 rfl ?_
    refine p_iload_n C dX4_addTry_11 rfl 2 rfl ?_
    refine p_iload_n C dX4_addTry_12 rfl 3 rfl ?_
    obtain ⟨r2, hc3, h⟩ := bd1_of h
    refine p_callVNi (As := [.int p2, .int p3]) (st' := []) (Wd' := (V_TB x.1.2.2 at0 at1 at2 at3 at4 ab0 ab1 ab2 ab3 t_total t_oft t_left t_right t_group t_paired b_points b_near b_loose b_short b_nets b_xs b_ys)) C (c_X0_isLeftOf x.1 (ab0 := ab0) (ab1 := ab1) (ab2 := ab2) (ab3 := ab3) (b_points := b_points) (b_near := b_near) (b_loose := b_loose) (b_short := b_short) (b_nets := b_nets) (b_ys := b_ys) hc3) dX4_addTry_13 rfl nm_X4_81 kv_X0_isLeftOf ds_X0_isLeftOf ⟨rfl, rfl, by decide, by decide⟩ 0 rfl rfl [5, 6, 7, 8] rfl rfl rfl rfl (by decide) ⟨by decide, by decide⟩ rfl ?_
    refine p_istore (lv' := [(4, .int r2), (0, .ref at0), (1, .ref ab0), (2, .int p2), (3, .int p3)]) C dX4_addTry_16 rfl (by decide) rfl ?_
    refine p_aload_n C dX4_addTry_18 rfl 1 rfl ?_
    refine p_get C dX4_addTry_19 rfl 0 0 inlX4 fl_X4_9 rfl rfl (by decide) rfl rfl ?_
    refine p_aload_n C dX4_addTry_22 rfl 1 rfl ?_
    refine p_get C dX4_addTry_23 rfl 0 2 inlX4 fl_X4_18 rfl rfl (by decide) rfl rfl ?_
    refine p_iload C dX4_addTry_26 rfl 0 rfl ?_
    refine p_if_eq C dX4_addTry_28 (tgt := 35) (by decide) rfl (fun c4 => ?_) (fun c4 => ?_)
    · have h := if_t c4 h
      refine p_iload_n C dX4_addTry_35 rfl 4 rfl ?_
      refine p_locals [1, 2, 3, 4, 0] (lv' := [(0, .ref at0), (1, .ref ab0), (2, .int p2), (3, .int p3), (4, .int r2)]) rfl ?_
      exact tj_X4_addTry_36 C  h
    · have h := if_f c4 h
      refine p_iload_n C dX4_addTry_31 rfl 3 rfl ?_
      refine p_goto C dX4_addTry_32 (pc' := 36) (by decide) ?_
      refine p_locals [1, 2, 3, 4, 0] (lv' := [(0, .ref at0), (1, .ref ab0), (2, .int p2), (3, .int p3), (4, .int r2)]) rfl ?_
      exact tj_X4_addTry_36 C  h
  · have h := if_f c1 h
    cases h
    exact p_vret C dX4_addTry_9
def J_X4_addNearestPair_98 (t_total : Int32) (t_left : Ar) (t_right : Ar) (b_points : Int32) (b_near : Int32) (b_nets : Ar) (b_xs : Ar) (b_ys : Ar) (k24 : Int32 → Int32 → Int32 → Int32 → Option (Int32 × Ar × Ar)) (k12 : Int32 → Int32 → Int32 → Int32 → Option (Int32 × Ar × Ar))  (v2 : Int32) (v3 : Int32) (v4 : Int32) (v5 : Int32) (v6 : Int32) (v7 : Int32) (v8 : Int32) : Option (Int32 × Ar × Ar) := k24 v4 v5 v6 (v8 + 1)
set_option maxHeartbeats 4000000 in
set_option maxRecDepth 100000 in
theorem tj_X4_addNearestPair_98 {x : Cxt} {at0 at1 at2 at3 at4 ab0 ab1 ab2 ab3 : Nat} {t_total : Int32} {t_oft : Int32} {t_left : Ar} {t_right : Ar} {t_group : Ar} {t_paired : Ar} {b_points : Int32} {b_near : Int32} {b_loose : Int32} {b_short : Int32} {b_nets : Ar} {b_xs : Ar} {b_ys : Ar} {k24 : Int32 → Int32 → Int32 → Int32 → Option (Int32 × Ar × Ar)} {k12 : Int32 → Int32 → Int32 → Int32 → Option (Int32 × Ar × Ar)}  {v2 : Int32} {v3 : Int32} {v4 : Int32} {v5 : Int32} {v6 : Int32} {v7 : Int32} {v8 : Int32} {q_t_total : Int32} {q_t_left : Ar} {q_t_right : Ar} (C : CX RX4 cX4_addNearestPair 10 none x) (hk24 : ∀ (w4 : Int32) (w5 : Int32) (w6 : Int32) (w8 : Int32) , k24 w4 w5 w6 w8 = some (q_t_total, q_t_left, q_t_right) → PT (RM 2 46) 10 x 24 [(0, .ref at0), (1, .ref ab0), (2, .int v2), (3, .int v3), (4, .int w4), (5, .int w5), (6, .int w6), (7, .int v7), (8, .int w8)] [] (V_TB x.1.2.2 at0 at1 at2 at3 at4 ab0 ab1 ab2 ab3 t_total t_oft t_left t_right t_group t_paired b_points b_near b_loose b_short b_nets b_xs b_ys) 0 0 (QV x (V_TB x.1.2.2 at0 at1 at2 at3 at4 ab0 ab1 ab2 ab3 q_t_total t_oft q_t_left q_t_right t_group t_paired b_points b_near b_loose b_short b_nets b_xs b_ys))) (hk12 : ∀ (w4 : Int32) (w5 : Int32) (w6 : Int32) (w7 : Int32) , k12 w4 w5 w6 w7 = some (q_t_total, q_t_left, q_t_right) → PT (RM 2 46) 10 x 12 [(0, .ref at0), (1, .ref ab0), (2, .int v2), (3, .int v3), (4, .int w4), (5, .int w5), (6, .int w6), (7, .int w7)] [] (V_TB x.1.2.2 at0 at1 at2 at3 at4 ab0 ab1 ab2 ab3 t_total t_oft t_left t_right t_group t_paired b_points b_near b_loose b_short b_nets b_xs b_ys) 0 0 (QV x (V_TB x.1.2.2 at0 at1 at2 at3 at4 ab0 ab1 ab2 ab3 q_t_total t_oft q_t_left q_t_right t_group t_paired b_points b_near b_loose b_short b_nets b_xs b_ys))) (h : J_X4_addNearestPair_98 t_total t_left t_right b_points b_near b_nets b_xs b_ys k24 k12 v2 v3 v4 v5 v6 v7 v8 = some (q_t_total, q_t_left, q_t_right)) : PT (RM 2 46) 10 x 98 [(0, .ref at0), (1, .ref ab0), (2, .int v2), (3, .int v3), (4, .int v4), (5, .int v5), (6, .int v6), (7, .int v7), (8, .int v8)] [] (V_TB x.1.2.2 at0 at1 at2 at3 at4 ab0 ab1 ab2 ab3 t_total t_oft t_left t_right t_group t_paired b_points b_near b_loose b_short b_nets b_xs b_ys) 0 0 (QV x (V_TB x.1.2.2 at0 at1 at2 at3 at4 ab0 ab1 ab2 ab3 q_t_total t_oft q_t_left q_t_right t_group t_paired b_points b_near b_loose b_short b_nets b_xs b_ys)) := by
  unfold J_X4_addNearestPair_98 at h
  refine p_iinc (w := v8 + 1) (lv' := [(8, .int (v8 + 1)), (0, .ref at0), (1, .ref ab0), (2, .int v2), (3, .int v3), (4, .int v4), (5, .int v5), (6, .int v6), (7, .int v7)]) C dX4_addNearestPair_98 rfl 8 rfl rfl (by decide) rfl ?_
  refine p_goto C dX4_addNearestPair_101 (pc' := 24) (by decide) ?_
  refine p_locals [1, 2, 3, 4, 5, 6, 7, 8, 0] (lv' := [(0, .ref at0), (1, .ref ab0), (2, .int v2), (3, .int v3), (4, .int v4), (5, .int v5), (6, .int v6), (7, .int v7), (8, .int (v8 + 1))]) rfl ?_
  exact hk24 _ _ _ _ h
def J_X4_addNearestPair_86 (t_total : Int32) (t_left : Ar) (t_right : Ar) (b_points : Int32) (b_near : Int32) (b_nets : Ar) (b_xs : Ar) (b_ys : Ar) (k24 : Int32 → Int32 → Int32 → Int32 → Option (Int32 × Ar × Ar)) (k12 : Int32 → Int32 → Int32 → Int32 → Option (Int32 × Ar × Ar))  (v2 : Int32) (v3 : Int32) (v7 : Int32) (v8 : Int32) (v9 : Int32) : Option (Int32 × Ar × Ar) := J_X4_addNearestPair_98 t_total t_left t_right b_points b_near b_nets b_xs b_ys (k24) (k12) v2 v3 v7 v8 v9 v7 v8
set_option maxHeartbeats 4000000 in
set_option maxRecDepth 100000 in
theorem tj_X4_addNearestPair_86 {x : Cxt} {at0 at1 at2 at3 at4 ab0 ab1 ab2 ab3 : Nat} {t_total : Int32} {t_oft : Int32} {t_left : Ar} {t_right : Ar} {t_group : Ar} {t_paired : Ar} {b_points : Int32} {b_near : Int32} {b_loose : Int32} {b_short : Int32} {b_nets : Ar} {b_xs : Ar} {b_ys : Ar} {k24 : Int32 → Int32 → Int32 → Int32 → Option (Int32 × Ar × Ar)} {k12 : Int32 → Int32 → Int32 → Int32 → Option (Int32 × Ar × Ar)}  {v2 : Int32} {v3 : Int32} {v7 : Int32} {v8 : Int32} {v9 : Int32} {q_t_total : Int32} {q_t_left : Ar} {q_t_right : Ar} (C : CX RX4 cX4_addNearestPair 10 none x) (hk24 : ∀ (w4 : Int32) (w5 : Int32) (w6 : Int32) (w8 : Int32) , k24 w4 w5 w6 w8 = some (q_t_total, q_t_left, q_t_right) → PT (RM 2 46) 10 x 24 [(0, .ref at0), (1, .ref ab0), (2, .int v2), (3, .int v3), (4, .int w4), (5, .int w5), (6, .int w6), (7, .int v7), (8, .int w8)] [] (V_TB x.1.2.2 at0 at1 at2 at3 at4 ab0 ab1 ab2 ab3 t_total t_oft t_left t_right t_group t_paired b_points b_near b_loose b_short b_nets b_xs b_ys) 0 0 (QV x (V_TB x.1.2.2 at0 at1 at2 at3 at4 ab0 ab1 ab2 ab3 q_t_total t_oft q_t_left q_t_right t_group t_paired b_points b_near b_loose b_short b_nets b_xs b_ys))) (hk12 : ∀ (w4 : Int32) (w5 : Int32) (w6 : Int32) (w7 : Int32) , k12 w4 w5 w6 w7 = some (q_t_total, q_t_left, q_t_right) → PT (RM 2 46) 10 x 12 [(0, .ref at0), (1, .ref ab0), (2, .int v2), (3, .int v3), (4, .int w4), (5, .int w5), (6, .int w6), (7, .int w7)] [] (V_TB x.1.2.2 at0 at1 at2 at3 at4 ab0 ab1 ab2 ab3 t_total t_oft t_left t_right t_group t_paired b_points b_near b_loose b_short b_nets b_xs b_ys) 0 0 (QV x (V_TB x.1.2.2 at0 at1 at2 at3 at4 ab0 ab1 ab2 ab3 q_t_total t_oft q_t_left q_t_right t_group t_paired b_points b_near b_loose b_short b_nets b_xs b_ys))) (h : J_X4_addNearestPair_86 t_total t_left t_right b_points b_near b_nets b_xs b_ys k24 k12 v2 v3 v7 v8 v9 = some (q_t_total, q_t_left, q_t_right)) : PT (RM 2 46) 10 x 86 [(0, .ref at0), (1, .ref ab0), (2, .int v2), (3, .int v3), (7, .int v7), (8, .int v8), (9, .int v9)] [] (V_TB x.1.2.2 at0 at1 at2 at3 at4 ab0 ab1 ab2 ab3 t_total t_oft t_left t_right t_group t_paired b_points b_near b_loose b_short b_nets b_xs b_ys) 0 0 (QV x (V_TB x.1.2.2 at0 at1 at2 at3 at4 ab0 ab1 ab2 ab3 q_t_total t_oft q_t_left q_t_right t_group t_paired b_points b_near b_loose b_short b_nets b_xs b_ys)) := by
  unfold J_X4_addNearestPair_86 at h
  refine p_iload C dX4_addNearestPair_86 rfl 4 rfl ?_
  refine p_istore (lv' := [(4, .int v7), (0, .ref at0), (1, .ref ab0), (2, .int v2), (3, .int v3), (7, .int v7), (8, .int v8), (9, .int v9)]) C dX4_addNearestPair_88 rfl (by decide) rfl ?_
  refine p_iload C dX4_addNearestPair_90 rfl 6 rfl ?_
  refine p_istore (lv' := [(5, .int v8), (4, .int v7), (0, .ref at0), (1, .ref ab0), (2, .int v2), (3, .int v3), (7, .int v7), (8, .int v8), (9, .int v9)]) C dX4_addNearestPair_92 rfl (by decide) rfl ?_
  refine p_iload C dX4_addNearestPair_94 rfl 8 rfl ?_
  refine p_istore (lv' := [(6, .int v9), (5, .int v8), (4, .int v7), (0, .ref at0), (1, .ref ab0), (2, .int v2), (3, .int v3), (7, .int v7), (8, .int v8), (9, .int v9)]) C dX4_addNearestPair_96 rfl (by decide) rfl ?_
  refine p_locals [3, 4, 5, 6, 2, 1, 0, 7, 8] (lv' := [(0, .ref at0), (1, .ref ab0), (2, .int v2), (3, .int v3), (4, .int v7), (5, .int v8), (6, .int v9), (7, .int v7), (8, .int v8)]) rfl ?_
  exact tj_X4_addNearestPair_98 C (fun u0 u1 u2 u3 h => hk24 u0 u1 u2 u3 h) (fun u0 u1 u2 u3 h => hk12 u0 u1 u2 u3 h) h
def B_X4_addNearestPair_24 (t_total : Int32) (t_left : Ar) (t_right : Ar) (b_points : Int32) (b_near : Int32) (b_nets : Ar) (b_xs : Ar) (b_ys : Ar) (k12 : Int32 → Int32 → Int32 → Int32 → Option (Int32 × Ar × Ar)) (v2 : Int32) (v3 : Int32) (v7 : Int32) (kk : Int32 → Int32 → Int32 → Int32 → Option (Int32 × Ar × Ar)) (v4 : Int32) (v5 : Int32) (v6 : Int32) (v8 : Int32)  : Option (Int32 × Ar × Ar) := if b_points ≤ v8 then (k12 v4 v5 v6 (v7 + 1)) else (grd (gI v7 8) (if (b_nets v7.toNatClampNeg) = v2 then (grd (gI v8 8) (if (b_nets v8.toNatClampNeg) = v3 then (bd1 (m_X0_distance b_xs b_ys v7 v8) (fun r6 => if b_near < r6 then (J_X4_addNearestPair_98 t_total t_left t_right b_points b_near b_nets b_xs b_ys (kk) (k12) v2 v3 v4 v5 v6 v7 v8) else (if v4 < 0 then (J_X4_addNearestPair_86 t_total t_left t_right b_points b_near b_nets b_xs b_ys (kk) (k12) v2 v3 v7 v8 r6) else (if v6 ≤ r6 then (J_X4_addNearestPair_98 t_total t_left t_right b_points b_near b_nets b_xs b_ys (kk) (k12) v2 v3 v4 v5 v6 v7 v8) else (J_X4_addNearestPair_86 t_total t_left t_right b_points b_near b_nets b_xs b_ys (kk) (k12) v2 v3 v7 v8 r6))))) else (J_X4_addNearestPair_98 t_total t_left t_right b_points b_near b_nets b_xs b_ys (kk) (k12) v2 v3 v4 v5 v6 v7 v8))) else (J_X4_addNearestPair_98 t_total t_left t_right b_points b_near b_nets b_xs b_ys (kk) (k12) v2 v3 v4 v5 v6 v7 v8)))
def L_X4_addNearestPair_24 (t_total : Int32) (t_left : Ar) (t_right : Ar) (b_points : Int32) (b_near : Int32) (b_nets : Ar) (b_xs : Ar) (b_ys : Ar) (k12 : Int32 → Int32 → Int32 → Int32 → Option (Int32 × Ar × Ar)) (v2 : Int32) (v3 : Int32) (v7 : Int32) : Nat → Int32 → Int32 → Int32 → Int32 → Option (Int32 × Ar × Ar) := lpG (fun _ _ _ _ => none) (B_X4_addNearestPair_24 t_total t_left t_right b_points b_near b_nets b_xs b_ys k12 v2 v3 v7)
set_option maxHeartbeats 4000000 in
set_option maxRecDepth 100000 in
theorem tl_X4_addNearestPair_24 {x : Cxt} {at0 at1 at2 at3 at4 ab0 ab1 ab2 ab3 : Nat} {t_total : Int32} {t_oft : Int32} {t_left : Ar} {t_right : Ar} {t_group : Ar} {t_paired : Ar} {b_points : Int32} {b_near : Int32} {b_loose : Int32} {b_short : Int32} {b_nets : Ar} {b_xs : Ar} {b_ys : Ar} {k12 : Int32 → Int32 → Int32 → Int32 → Option (Int32 × Ar × Ar)} {v2 : Int32} {v3 : Int32} {v7 : Int32} {q_t_total : Int32} {q_t_left : Ar} {q_t_right : Ar} (C : CX RX4 cX4_addNearestPair 10 none x) (hk12 : ∀ (w4 : Int32) (w5 : Int32) (w6 : Int32) (w7 : Int32) , k12 w4 w5 w6 w7 = some (q_t_total, q_t_left, q_t_right) → PT (RM 2 46) 10 x 12 [(0, .ref at0), (1, .ref ab0), (2, .int v2), (3, .int v3), (4, .int w4), (5, .int w5), (6, .int w6), (7, .int w7)] [] (V_TB x.1.2.2 at0 at1 at2 at3 at4 ab0 ab1 ab2 ab3 t_total t_oft t_left t_right t_group t_paired b_points b_near b_loose b_short b_nets b_xs b_ys) 0 0 (QV x (V_TB x.1.2.2 at0 at1 at2 at3 at4 ab0 ab1 ab2 ab3 q_t_total t_oft q_t_left q_t_right t_group t_paired b_points b_near b_loose b_short b_nets b_xs b_ys))) : ∀ (n : Nat) (v4 : Int32) (v5 : Int32) (v6 : Int32) (v8 : Int32) , L_X4_addNearestPair_24 t_total t_left t_right b_points b_near b_nets b_xs b_ys k12 v2 v3 v7 n v4 v5 v6 v8 = some (q_t_total, q_t_left, q_t_right) → PT (RM 2 46) 10 x 24 [(0, .ref at0), (1, .ref ab0), (2, .int v2), (3, .int v3), (4, .int v4), (5, .int v5), (6, .int v6), (7, .int v7), (8, .int v8)] [] (V_TB x.1.2.2 at0 at1 at2 at3 at4 ab0 ab1 ab2 ab3 t_total t_oft t_left t_right t_group t_paired b_points b_near b_loose b_short b_nets b_xs b_ys) 0 0 (QV x (V_TB x.1.2.2 at0 at1 at2 at3 at4 ab0 ab1 ab2 ab3 q_t_total t_oft q_t_left q_t_right t_group t_paired b_points b_near b_loose b_short b_nets b_xs b_ys)) := by
  intro n
  induction n with
  | zero =>
    intro v4 v5 v6 v8 h
    cases h
  | succ n ih =>
    intro v4 v5 v6 v8 h
    have h : B_X4_addNearestPair_24 t_total t_left t_right b_points b_near b_nets b_xs b_ys k12 v2 v3 v7 (L_X4_addNearestPair_24 t_total t_left t_right b_points b_near b_nets b_xs b_ys k12 v2 v3 v7 n) v4 v5 v6 v8 = some (q_t_total, q_t_left, q_t_right) := h
    unfold B_X4_addNearestPair_24 at h
    refine p_iload C dX4_addNearestPair_24 rfl 8 rfl ?_
    refine p_aload_n C dX4_addNearestPair_26 rfl 1 rfl ?_
    refine p_getN C dX4_addNearestPair_27 rfl 5 3 inlX0 nf_X4_41 rfl rfl (by decide) rfl rfl ?_
    refine p_icmp_ge C dX4_addNearestPair_30 (tgt := 104) (by decide) rfl (fun c1 => ?_) (fun c1 => ?_)
    · have h := if_t c1 h
      refine p_iinc (w := v7 + 1) (lv' := [(7, .int (v7 + 1)), (0, .ref at0), (1, .ref ab0), (2, .int v2), (3, .int v3), (4, .int v4), (5, .int v5), (6, .int v6), (8, .int v8)]) C dX4_addNearestPair_104 rfl 7 rfl rfl (by decide) rfl ?_
      refine p_goto C dX4_addNearestPair_107 (pc' := 12) (by decide) ?_
      refine p_locals [1, 2, 3, 4, 5, 6, 7, 0] (lv' := [(0, .ref at0), (1, .ref ab0), (2, .int v2), (3, .int v3), (4, .int v4), (5, .int v5), (6, .int v6), (7, .int (v7 + 1))]) rfl ?_
      exact hk12 _ _ _ _ h
    · have h := if_f c1 h
      refine p_aload_n C dX4_addNearestPair_33 rfl 1 rfl ?_
      refine p_getN C dX4_addNearestPair_34 rfl 5 0 inlX0 nf_X4_50 rfl rfl (by decide) rfl rfl ?_
      refine p_iload C dX4_addNearestPair_37 rfl 7 rfl ?_
      obtain ⟨g2, h⟩ := grd_of h
      refine p_iald C dX4_addNearestPair_39 rfl 6 rfl g2 ?_
      refine p_iload_n C dX4_addNearestPair_40 rfl 2 rfl ?_
      refine p_icmp_ne C dX4_addNearestPair_41 (tgt := 98) (by decide) rfl (fun c3 => ?_) (fun c3 => ?_)
      · have h := if_f c3 h
        refine p_locals [0, 1, 2, 3, 4, 5, 6, 7, 8] (lv' := [(0, .ref at0), (1, .ref ab0), (2, .int v2), (3, .int v3), (4, .int v4), (5, .int v5), (6, .int v6), (7, .int v7), (8, .int v8)]) rfl ?_
        exact tj_X4_addNearestPair_98 C (fun u0 u1 u2 u3 h => ih u0 u1 u2 u3 h) (fun u0 u1 u2 u3 h => hk12 u0 u1 u2 u3 h) h
      · have h := if_t c3 h
        refine p_aload_n C dX4_addNearestPair_44 rfl 1 rfl ?_
        refine p_getN C dX4_addNearestPair_45 rfl 5 0 inlX0 nf_X4_50 rfl rfl (by decide) rfl rfl ?_
        refine p_iload C dX4_addNearestPair_48 rfl 8 rfl ?_
        obtain ⟨g4, h⟩ := grd_of h
        refine p_iald C dX4_addNearestPair_50 rfl 6 rfl g4 ?_
        refine p_iload_n C dX4_addNearestPair_51 rfl 3 rfl ?_
        refine p_icmp_ne C dX4_addNearestPair_52 (tgt := 98) (by decide) rfl (fun c5 => ?_) (fun c5 => ?_)
        · have h := if_f c5 h
          refine p_locals [0, 1, 2, 3, 4, 5, 6, 7, 8] (lv' := [(0, .ref at0), (1, .ref ab0), (2, .int v2), (3, .int v3), (4, .int v4), (5, .int v5), (6, .int v6), (7, .int v7), (8, .int v8)]) rfl ?_
          exact tj_X4_addNearestPair_98 C (fun u0 u1 u2 u3 h => ih u0 u1 u2 u3 h) (fun u0 u1 u2 u3 h => hk12 u0 u1 u2 u3 h) h
        · have h := if_t c5 h
          refine p_aload_n C dX4_addNearestPair_55 rfl 1 rfl ?_
          refine p_iload C dX4_addNearestPair_56 rfl 7 rfl ?_
          refine p_iload C dX4_addNearestPair_58 rfl 8 rfl ?_
          obtain ⟨r6, hc7, h⟩ := bd1_of h
          refine p_callVNi (As := [.int v7, .int v8]) (st' := []) (Wd' := (V_TB x.1.2.2 at0 at1 at2 at3 at4 ab0 ab1 ab2 ab3 t_total t_oft t_left t_right t_group t_paired b_points b_near b_loose b_short b_nets b_xs b_ys)) C (c_X0_distance x.1 (ab0 := ab0) (ab1 := ab1) (ab2 := ab2) (ab3 := ab3) (b_points := b_points) (b_near := b_near) (b_loose := b_loose) (b_short := b_short) (b_nets := b_nets) hc7) dX4_addNearestPair_60 rfl nm_X4_53 kv_X0_distance ds_X0_distance ⟨rfl, rfl, by decide, by decide⟩ 0 rfl rfl [5, 6, 7, 8] rfl rfl rfl rfl (by decide) ⟨by decide, by decide⟩ rfl ?_
          refine p_istore (lv' := [(9, .int r6), (0, .ref at0), (1, .ref ab0), (2, .int v2), (3, .int v3), (4, .int v4), (5, .int v5), (6, .int v6), (7, .int v7), (8, .int v8)]) C dX4_addNearestPair_63 rfl (by decide) rfl ?_
          refine p_iload C dX4_addNearestPair_65 rfl 0 rfl ?_
          refine p_aload_n C dX4_addNearestPair_67 rfl 2 rfl ?_
          refine p_getN C dX4_addNearestPair_68 rfl 5 4 inlX0 nf_X4_78 rfl rfl (by decide) rfl rfl ?_
          refine p_icmp_gt C dX4_addNearestPair_71 (tgt := 98) (by decide) rfl (fun c8 => ?_) (fun c8 => ?_)
          · have h := if_t c8 h
            refine p_locals [1, 2, 3, 4, 5, 6, 7, 8, 9] (lv' := [(0, .ref at0), (1, .ref ab0), (2, .int v2), (3, .int v3), (4, .int v4), (5, .int v5), (6, .int v6), (7, .int v7), (8, .int v8)]) rfl ?_
            exact tj_X4_addNearestPair_98 C (fun u0 u1 u2 u3 h => ih u0 u1 u2 u3 h) (fun u0 u1 u2 u3 h => hk12 u0 u1 u2 u3 h) h
          · have h := if_f c8 h
            refine p_iload C dX4_addNearestPair_74 rfl 5 rfl ?_
            refine p_if_lt C dX4_addNearestPair_76 (tgt := 86) (by decide) rfl (fun c9 => ?_) (fun c9 => ?_)
            · have h := if_t c9 h
              refine p_locals [1, 2, 3, 4, 8, 9, 0] (lv' := [(0, .ref at0), (1, .ref ab0), (2, .int v2), (3, .int v3), (7, .int v7), (8, .int v8), (9, .int r6)]) rfl ?_
              exact tj_X4_addNearestPair_86 C (fun u0 u1 u2 u3 h => ih u0 u1 u2 u3 h) (fun u0 u1 u2 u3 h => hk12 u0 u1 u2 u3 h) h
            · have h := if_f c9 h
              refine p_iload C dX4_addNearestPair_79 rfl 0 rfl ?_
              refine p_iload C dX4_addNearestPair_81 rfl 7 rfl ?_
              refine p_icmp_ge C dX4_addNearestPair_83 (tgt := 98) (by decide) rfl (fun c10 => ?_) (fun c10 => ?_)
              · have h := if_t c10 h
                refine p_locals [1, 2, 3, 4, 5, 6, 7, 8, 9] (lv' := [(0, .ref at0), (1, .ref ab0), (2, .int v2), (3, .int v3), (4, .int v4), (5, .int v5), (6, .int v6), (7, .int v7), (8, .int v8)]) rfl ?_
                exact tj_X4_addNearestPair_98 C (fun u0 u1 u2 u3 h => ih u0 u1 u2 u3 h) (fun u0 u1 u2 u3 h => hk12 u0 u1 u2 u3 h) h
              · have h := if_f c10 h
                refine p_locals [1, 2, 3, 4, 8, 9, 0] (lv' := [(0, .ref at0), (1, .ref ab0), (2, .int v2), (3, .int v3), (7, .int v7), (8, .int v8), (9, .int r6)]) rfl ?_
                exact tj_X4_addNearestPair_86 C (fun u0 u1 u2 u3 h => ih u0 u1 u2 u3 h) (fun u0 u1 u2 u3 h => hk12 u0 u1 u2 u3 h) h
def B_X4_addNearestPair_12 (t_total : Int32) (t_left : Ar) (t_right : Ar) (b_points : Int32) (b_near : Int32) (b_nets : Ar) (b_xs : Ar) (b_ys : Ar)  (v2 : Int32) (v3 : Int32) (kk : Int32 → Int32 → Int32 → Int32 → Option (Int32 × Ar × Ar)) (v4 : Int32) (v5 : Int32) (v6 : Int32) (v7 : Int32)  : Option (Int32 × Ar × Ar) := if b_points ≤ v7 then (if v4 < 0 then (some (t_total, t_left, t_right)) else (bd3 (m_X4_addTry t_total t_left t_right b_xs v4 v5) (fun z_total3 z_left4 z_right5 => some (z_total3, z_left4, z_right5)))) else (L_X4_addNearestPair_24 t_total t_left t_right b_points b_near b_nets b_xs b_ys kk v2 v3 v7 FU v4 v5 v6 ((0 : Int32)))
def L_X4_addNearestPair_12 (t_total : Int32) (t_left : Ar) (t_right : Ar) (b_points : Int32) (b_near : Int32) (b_nets : Ar) (b_xs : Ar) (b_ys : Ar)  (v2 : Int32) (v3 : Int32) : Nat → Int32 → Int32 → Int32 → Int32 → Option (Int32 × Ar × Ar) := lpG (fun _ _ _ _ => none) (B_X4_addNearestPair_12 t_total t_left t_right b_points b_near b_nets b_xs b_ys v2 v3)
set_option maxHeartbeats 4000000 in
set_option maxRecDepth 100000 in
theorem tl_X4_addNearestPair_12 {x : Cxt} {at0 at1 at2 at3 at4 ab0 ab1 ab2 ab3 : Nat} {t_total : Int32} {t_oft : Int32} {t_left : Ar} {t_right : Ar} {t_group : Ar} {t_paired : Ar} {b_points : Int32} {b_near : Int32} {b_loose : Int32} {b_short : Int32} {b_nets : Ar} {b_xs : Ar} {b_ys : Ar}  {v2 : Int32} {v3 : Int32} {q_t_total : Int32} {q_t_left : Ar} {q_t_right : Ar} (C : CX RX4 cX4_addNearestPair 10 none x)  : ∀ (n : Nat) (v4 : Int32) (v5 : Int32) (v6 : Int32) (v7 : Int32) , L_X4_addNearestPair_12 t_total t_left t_right b_points b_near b_nets b_xs b_ys v2 v3 n v4 v5 v6 v7 = some (q_t_total, q_t_left, q_t_right) → PT (RM 2 46) 10 x 12 [(0, .ref at0), (1, .ref ab0), (2, .int v2), (3, .int v3), (4, .int v4), (5, .int v5), (6, .int v6), (7, .int v7)] [] (V_TB x.1.2.2 at0 at1 at2 at3 at4 ab0 ab1 ab2 ab3 t_total t_oft t_left t_right t_group t_paired b_points b_near b_loose b_short b_nets b_xs b_ys) 0 0 (QV x (V_TB x.1.2.2 at0 at1 at2 at3 at4 ab0 ab1 ab2 ab3 q_t_total t_oft q_t_left q_t_right t_group t_paired b_points b_near b_loose b_short b_nets b_xs b_ys)) := by
  intro n
  induction n with
  | zero =>
    intro v4 v5 v6 v7 h
    cases h
  | succ n ih =>
    intro v4 v5 v6 v7 h
    have h : B_X4_addNearestPair_12 t_total t_left t_right b_points b_near b_nets b_xs b_ys v2 v3 (L_X4_addNearestPair_12 t_total t_left t_right b_points b_near b_nets b_xs b_ys v2 v3 n) v4 v5 v6 v7 = some (q_t_total, q_t_left, q_t_right) := h
    unfold B_X4_addNearestPair_12 at h
    refine p_iload C dX4_addNearestPair_12 rfl 7 rfl ?_
    refine p_aload_n C dX4_addNearestPair_14 rfl 1 rfl ?_
    refine p_getN C dX4_addNearestPair_15 rfl 5 3 inlX0 nf_X4_41 rfl rfl (by decide) rfl rfl ?_
    refine p_icmp_ge C dX4_addNearestPair_18 (tgt := 110) (by decide) rfl (fun c1 => ?_) (fun c1 => ?_)
    · have h := if_t c1 h
      refine p_iload C dX4_addNearestPair_110 rfl 4 rfl ?_
      refine p_if_lt C dX4_addNearestPair_112 (tgt := 124) (by decide) rfl (fun c2 => ?_) (fun c2 => ?_)
      · have h := if_t c2 h
        cases h
        exact p_vret C dX4_addNearestPair_124
      · have h := if_f c2 h
        refine p_aload_n C dX4_addNearestPair_115 rfl 0 rfl ?_
        refine p_aload_n C dX4_addNearestPair_116 rfl 1 rfl ?_
        refine p_iload C dX4_addNearestPair_117 rfl 4 rfl ?_
        refine p_iload C dX4_addNearestPair_119 rfl 5 rfl ?_
        obtain ⟨z_total3, z_left4, z_right5, hc6, h⟩ := bd3_of h
        refine p_callVv_s (As := [.ref ab0, .int v4, .int v5]) (st' := []) (Wc' := (V_TB x.1.2.2 at0 at1 at2 at3 at4 ab0 ab1 ab2 ab3 z_total3 t_oft z_left4 z_right5 t_group t_paired b_points b_near b_loose b_short b_nets b_xs b_ys)) C (c_X4_addTry x.1 (at0 := at0) (at1 := at1) (at2 := at2) (at3 := at3) (at4 := at4) (ab0 := ab0) (ab1 := ab1) (ab2 := ab2) (ab3 := ab3) (t_oft := t_oft) (t_group := t_group) (t_paired := t_paired) (b_points := b_points) (b_near := b_near) (b_loose := b_loose) (b_short := b_short) (b_nets := b_nets) (b_ys := b_ys) hc6) dX4_addNearestPair_121 rfl ml_X4_65 kv_X4_addTry ds_X4_addTry ⟨rfl, rfl, by decide, by decide⟩ 0 rfl rfl rfl rfl (by decide) ⟨by decide, by decide⟩ ?_
        cases h
        exact p_vret C dX4_addNearestPair_124
    · have h := if_f c1 h
      refine p_iconst (v := (0 : Int32)) C dX4_addNearestPair_21 rfl (by decide) ?_
      refine p_istore (lv' := [(8, .int ((0 : Int32))), (0, .ref at0), (1, .ref ab0), (2, .int v2), (3, .int v3), (4, .int v4), (5, .int v5), (6, .int v6), (7, .int v7)]) C dX4_addNearestPair_22 rfl (by decide) rfl ?_
      refine p_locals [1, 2, 3, 4, 5, 6, 7, 8, 0] (lv' := [(0, .ref at0), (1, .ref ab0), (2, .int v2), (3, .int v3), (4, .int v4), (5, .int v5), (6, .int v6), (7, .int v7), (8, .int ((0 : Int32)))]) rfl ?_
      exact tl_X4_addNearestPair_24 C (fun u0 u1 u2 u3 h => ih u0 u1 u2 u3 h) FU _ _ _ _ h
def m_X4_addNearestPair (t_total : Int32) (t_left : Ar) (t_right : Ar) (b_points : Int32) (b_near : Int32) (b_nets : Ar) (b_xs : Ar) (b_ys : Ar) (p2 : Int32) (p3 : Int32) : Option (Int32 × Ar × Ar) := L_X4_addNearestPair_12 t_total t_left t_right b_points b_near b_nets b_xs b_ys p2 p3 FU ((-1 : Int32)) ((-1 : Int32)) ((0 : Int32)) ((0 : Int32))
theorem ds_X4_addNearestPair : (yX4_addNearestPair).cls ≠ "java/lang/invoke/MethodHandle" ∧ (yX4_addNearestPair).cls ≠ "java/lang/invoke/VarHandle" ∧ (parseMethodDescriptor (yX4_addNearestPair).desc).map (fun d => d.parameters.length) = some 3 := by decide +kernel
set_option maxHeartbeats 4000000 in
set_option maxRecDepth 100000 in
theorem c_X4_addNearestPair (E : En) {at0 at1 at2 at3 at4 ab0 ab1 ab2 ab3 : Nat} {t_total : Int32} {t_oft : Int32} {t_left : Ar} {t_right : Ar} {t_group : Ar} {t_paired : Ar} {b_points : Int32} {b_near : Int32} {b_loose : Int32} {b_short : Int32} {b_nets : Ar} {b_xs : Ar} {b_ys : Ar} {p2 : Int32} {p3 : Int32} {q_t_total : Int32} {q_t_left : Ar} {q_t_right : Ar} (h : m_X4_addNearestPair t_total t_left t_right b_points b_near b_nets b_xs b_ys p2 p3 = some (q_t_total, q_t_left, q_t_right)) : Cv E yX4_addNearestPair (wU yX4_addNearestPair cX4_addNearestPair 10 none) (RM 2 46) [.ref at0, .ref ab0, .int p2, .int p3] (V_TB E.2.2 at0 at1 at2 at3 at4 ab0 ab1 ab2 ab3 t_total t_oft t_left t_right t_group t_paired b_points b_near b_loose b_short b_nets b_xs b_ys) (V_TB E.2.2 at0 at1 at2 at3 at4 ab0 ab1 ab2 ab3 q_t_total t_oft q_t_left q_t_right t_group t_paired b_points b_near b_loose b_short b_nets b_xs b_ys) := by
  refine Cv.of (by decide) (Nat.le_of_ble_eq_true rfl) ?_
  intro x hE C
  subst hE
  have C : CX RX4 cX4_addNearestPair 10 none x := C
  refine p_locals [0, 1, 2, 3] (lv' := [(0, .ref at0), (1, .ref ab0), (2, .int p2), (3, .int p3)]) rfl ?_
  unfold m_X4_addNearestPair at h
  refine p_iconst (v := (-1 : Int32)) C dX4_addNearestPair_0 rfl (by decide) ?_
  refine p_istore (lv' := [(4, .int ((-1 : Int32))), (0, .ref at0), (1, .ref ab0), (2, .int p2), (3, .int p3)]) C dX4_addNearestPair_1 rfl (by decide) rfl ?_
  refine p_iconst (v := (-1 : Int32)) C dX4_addNearestPair_3 rfl (by decide) ?_
  refine p_istore (lv' := [(5, .int ((-1 : Int32))), (4, .int ((-1 : Int32))), (0, .ref at0), (1, .ref ab0), (2, .int p2), (3, .int p3)]) C dX4_addNearestPair_4 rfl (by decide) rfl ?_
  refine p_iconst (v := (0 : Int32)) C dX4_addNearestPair_6 rfl (by decide) ?_
  refine p_istore (lv' := [(6, .int ((0 : Int32))), (5, .int ((-1 : Int32))), (4, .int ((-1 : Int32))), (0, .ref at0), (1, .ref ab0), (2, .int p2), (3, .int p3)]) C dX4_addNearestPair_7 rfl (by decide) rfl ?_
  refine p_iconst (v := (0 : Int32)) C dX4_addNearestPair_9 rfl (by decide) ?_
  refine p_istore (lv' := [(7, .int ((0 : Int32))), (6, .int ((0 : Int32))), (5, .int ((-1 : Int32))), (4, .int ((-1 : Int32))), (0, .ref at0), (1, .ref ab0), (2, .int p2), (3, .int p3)]) C dX4_addNearestPair_10 rfl (by decide) rfl ?_
  refine p_locals [4, 5, 6, 7, 3, 2, 1, 0] (lv' := [(0, .ref at0), (1, .ref ab0), (2, .int p2), (3, .int p3), (4, .int ((-1 : Int32))), (5, .int ((-1 : Int32))), (6, .int ((0 : Int32))), (7, .int ((0 : Int32)))]) rfl ?_
  exact tl_X4_addNearestPair_12 C  FU _ _ _ _ h
def B_X4_addNeighbours_2 (b_points : Int32) (b_near : Int32) (b_nets : Ar) (b_xs : Ar) (b_ys : Ar)   (kk : Int32 → Int32 → Ar → Ar → Option (Int32 × Ar × Ar)) (v2 : Int32) (t_total : Int32) (t_left : Ar) (t_right : Ar) : Option (Int32 × Ar × Ar) := if ((6 : Int32)) ≤ v2 then (some (t_total, t_left, t_right)) else (grd (gI v2 6) (grd (gI v2 6) (bd3 (m_X4_addNearestPair t_total t_left t_right b_points b_near b_nets b_xs b_ys (LNf v2.toNatClampNeg) (GNf v2.toNatClampNeg)) (fun z_total8 z_left9 z_right10 => kk (v2 + 1) z_total8 z_left9 z_right10))))
def L_X4_addNeighbours_2 (b_points : Int32) (b_near : Int32) (b_nets : Ar) (b_xs : Ar) (b_ys : Ar)   : Nat → Int32 → Int32 → Ar → Ar → Option (Int32 × Ar × Ar) := lpG (fun _ _ _ _ => none) (B_X4_addNeighbours_2 b_points b_near b_nets b_xs b_ys)
set_option maxHeartbeats 4000000 in
set_option maxRecDepth 100000 in
theorem tl_X4_addNeighbours_2 {x : Cxt} {at0 at1 at2 at3 at4 ab0 ab1 ab2 ab3 : Nat} {t_oft : Int32} {t_group : Ar} {t_paired : Ar} {b_points : Int32} {b_near : Int32} {b_loose : Int32} {b_short : Int32} {b_nets : Ar} {b_xs : Ar} {b_ys : Ar}   {q_t_total : Int32} {q_t_left : Ar} {q_t_right : Ar} (C : CX RX4 cX4_addNeighbours 3 none x)  : ∀ (n : Nat) (v2 : Int32) (t_total : Int32) (t_left : Ar) (t_right : Ar), L_X4_addNeighbours_2 b_points b_near b_nets b_xs b_ys n v2 t_total t_left t_right = some (q_t_total, q_t_left, q_t_right) → PT (RM 3 75) 3 x 2 [(0, .ref at0), (1, .ref ab0), (2, .int v2)] [] (V_TB x.1.2.2 at0 at1 at2 at3 at4 ab0 ab1 ab2 ab3 t_total t_oft t_left t_right t_group t_paired b_points b_near b_loose b_short b_nets b_xs b_ys) 0 0 (QV x (V_TB x.1.2.2 at0 at1 at2 at3 at4 ab0 ab1 ab2 ab3 q_t_total t_oft q_t_left q_t_right t_group t_paired b_points b_near b_loose b_short b_nets b_xs b_ys)) := by
  intro n
  induction n with
  | zero =>
    intro v2 t_total t_left t_right h
    cases h
  | succ n ih =>
    intro v2 t_total t_left t_right h
    have h : B_X4_addNeighbours_2 b_points b_near b_nets b_xs b_ys (L_X4_addNeighbours_2 b_points b_near b_nets b_xs b_ys n) v2 t_total t_left t_right = some (q_t_total, q_t_left, q_t_right) := h
    unfold B_X4_addNeighbours_2 at h
    refine p_iload_n C dX4_addNeighbours_2 rfl 2 rfl ?_
    refine p_bipush (v := (6 : Int32)) C dX4_addNeighbours_3 rfl (by decide) ?_
    refine p_icmp_ge C dX4_addNeighbours_5 (tgt := 29) (by decide) rfl (fun c1 => ?_) (fun c1 => ?_)
    · have h := if_t c1 h
      cases h
      exact p_vret C dX4_addNeighbours_29
    · have h := if_f c1 h
      refine p_aload_n C dX4_addNeighbours_8 rfl 0 rfl ?_
      refine p_aload_n C dX4_addNeighbours_9 rfl 1 rfl ?_
      refine p_getsLN C dX4_addNeighbours_10 rfl nf_X4_69 (fun tt2 hT3 => ?_)
      refine p_iload_n C dX4_addNeighbours_13 rfl 2 rfl ?_
      obtain ⟨g4, h⟩ := grd_of h
      refine p_tald C hT3 dX4_addNeighbours_14 rfl g4 ?_
      refine p_getsGN C dX4_addNeighbours_15 rfl nf_X4_72 (fun tt5 hT6 => ?_)
      refine p_iload_n C dX4_addNeighbours_18 rfl 2 rfl ?_
      obtain ⟨g7, h⟩ := grd_of h
      refine p_tald C hT6 dX4_addNeighbours_19 rfl g7 ?_
      obtain ⟨z_total8, z_left9, z_right10, hc11, h⟩ := bd3_of h
      refine p_callVv_s (As := [.ref ab0, .int (LNf v2.toNatClampNeg), .int (GNf v2.toNatClampNeg)]) (st' := []) (Wc' := (V_TB x.1.2.2 at0 at1 at2 at3 at4 ab0 ab1 ab2 ab3 z_total8 t_oft z_left9 z_right10 t_group t_paired b_points b_near b_loose b_short b_nets b_xs b_ys)) C (c_X4_addNearestPair x.1 (at0 := at0) (at1 := at1) (at2 := at2) (at3 := at3) (at4 := at4) (ab0 := ab0) (ab1 := ab1) (ab2 := ab2) (ab3 := ab3) (t_oft := t_oft) (t_group := t_group) (t_paired := t_paired) (b_loose := b_loose) (b_short := b_short) hc11) dX4_addNeighbours_20 rfl ml_X4_75 kv_X4_addNearestPair ds_X4_addNearestPair ⟨rfl, rfl, by decide, by decide⟩ 0 rfl rfl rfl rfl (by decide) ⟨by decide, by decide⟩ ?_
      refine p_iinc (w := v2 + 1) (lv' := [(2, .int (v2 + 1)), (0, .ref at0), (1, .ref ab0)]) C dX4_addNeighbours_23 rfl 2 rfl rfl (by decide) rfl ?_
      refine p_goto C dX4_addNeighbours_26 (pc' := 2) (by decide) ?_
      refine p_locals [1, 2, 0] (lv' := [(0, .ref at0), (1, .ref ab0), (2, .int (v2 + 1))]) rfl ?_
      exact ih _ _ _ _ h
def m_X4_addNeighbours (t_total : Int32) (t_left : Ar) (t_right : Ar) (b_points : Int32) (b_near : Int32) (b_nets : Ar) (b_xs : Ar) (b_ys : Ar)  : Option (Int32 × Ar × Ar) := L_X4_addNeighbours_2 b_points b_near b_nets b_xs b_ys FU ((0 : Int32)) t_total t_left t_right
theorem ds_X4_addNeighbours : (yX4_addNeighbours).cls ≠ "java/lang/invoke/MethodHandle" ∧ (yX4_addNeighbours).cls ≠ "java/lang/invoke/VarHandle" ∧ (parseMethodDescriptor (yX4_addNeighbours).desc).map (fun d => d.parameters.length) = some 1 := by decide +kernel
set_option maxHeartbeats 4000000 in
set_option maxRecDepth 100000 in
theorem c_X4_addNeighbours (E : En) {at0 at1 at2 at3 at4 ab0 ab1 ab2 ab3 : Nat} {t_total : Int32} {t_oft : Int32} {t_left : Ar} {t_right : Ar} {t_group : Ar} {t_paired : Ar} {b_points : Int32} {b_near : Int32} {b_loose : Int32} {b_short : Int32} {b_nets : Ar} {b_xs : Ar} {b_ys : Ar}  {q_t_total : Int32} {q_t_left : Ar} {q_t_right : Ar} (h : m_X4_addNeighbours t_total t_left t_right b_points b_near b_nets b_xs b_ys = some (q_t_total, q_t_left, q_t_right)) : Cv E yX4_addNeighbours (wU yX4_addNeighbours cX4_addNeighbours 3 none) (RM 3 75) [.ref at0, .ref ab0] (V_TB E.2.2 at0 at1 at2 at3 at4 ab0 ab1 ab2 ab3 t_total t_oft t_left t_right t_group t_paired b_points b_near b_loose b_short b_nets b_xs b_ys) (V_TB E.2.2 at0 at1 at2 at3 at4 ab0 ab1 ab2 ab3 q_t_total t_oft q_t_left q_t_right t_group t_paired b_points b_near b_loose b_short b_nets b_xs b_ys) := by
  refine Cv.of (by decide) (Nat.le_of_ble_eq_true rfl) ?_
  intro x hE C
  subst hE
  have C : CX RX4 cX4_addNeighbours 3 none x := C
  refine p_locals [0, 1] (lv' := [(0, .ref at0), (1, .ref ab0)]) rfl ?_
  unfold m_X4_addNeighbours at h
  refine p_iconst (v := (0 : Int32)) C dX4_addNeighbours_0 rfl (by decide) ?_
  refine p_istore_n (lv' := [(2, .int ((0 : Int32))), (0, .ref at0), (1, .ref ab0)]) C dX4_addNeighbours_1 rfl (by decide) rfl ?_
  refine p_locals [1, 2, 0] (lv' := [(0, .ref at0), (1, .ref ab0), (2, .int ((0 : Int32)))]) rfl ?_
  exact tl_X4_addNeighbours_2 C  FU _ _ _ _ h
