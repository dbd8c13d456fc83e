def m_X3_write (p_len : Int32) (p_signs : Ar) (p1 : Int32) : Option (Int32 × Ar) := grd (gI p_len 24) (some (p_len + ((1 : Int32)), upd p_signs p_len.toNatClampNeg p1))
theorem ds_X3_write : (yX3_write).cls ≠ "java/lang/invoke/MethodHandle" ∧ (yX3_write).cls ≠ "java/lang/invoke/VarHandle" ∧ (parseMethodDescriptor (yX3_write).desc).map (fun d => d.parameters.length) = some 1 := by decide +kernel
set_option maxHeartbeats 4000000 in
set_option maxRecDepth 100000 in
theorem c_X3_write (E : En) {ap0 ap1 : Nat} {p_len : Int32} {p_signs : Ar} {p1 : Int32} {q_p_len : Int32} {q_p_signs : Ar} (h : m_X3_write p_len p_signs p1 = some (q_p_len, q_p_signs)) : Cv E yX3_write (wU yX3_write cX3_write 2 none) (RM 0 0) [.ref ap0, .int p1] (V_P E.2.2 ap0 ap1 p_len p_signs) (V_P E.2.2 ap0 ap1 q_p_len q_p_signs) := by
  refine Cv.of (by decide) (Nat.le_of_ble_eq_true rfl) ?_
  intro x hE C
  subst hE
  have C : CX RX3 cX3_write 2 none x := C
  refine p_locals [0, 1] (lv' := [(0, .ref ap0), (1, .int p1)]) rfl ?_
  unfold m_X3_write at h
  refine p_aload_n C dX3_write_0 rfl 0 rfl ?_
  refine p_get C dX3_write_1 rfl 0 0 inlX3 fl_X3_9 rfl rfl (by decide) rfl rfl ?_
  refine p_aload_n C dX3_write_4 rfl 0 rfl ?_
  refine p_get C dX3_write_5 rfl 0 1 inlX3 fl_X3_15 rfl rfl (by decide) rfl rfl ?_
  refine p_iload_n C dX3_write_8 rfl 1 rfl ?_
  obtain ⟨g1, h⟩ := grd_of h
  refine p_iast (Wd' := (V_P x.1.2.2 ap0 ap1 p_len (upd p_signs p_len.toNatClampNeg p1))) C dX3_write_9 rfl 1 rfl g1 rfl ?_
  refine p_aload_n C dX3_write_10 rfl 0 rfl ?_
  refine p_dup C dX3_write_11 rfl rfl ?_
  refine p_get C dX3_write_12 rfl 0 1 inlX3 fl_X3_15 rfl rfl (by decide) rfl rfl ?_
  refine p_iconst (v := (1 : Int32)) C dX3_write_15 rfl (by decide) ?_
  refine p_iadd C dX3_write_16 rfl ?_
  refine p_put (Wd' := (V_P x.1.2.2 ap0 ap1 (p_len + ((1 : Int32))) (upd p_signs p_len.toNatClampNeg p1))) (ty := .int) C dX3_write_17 rfl 0 1 inlX3 tyX3 tyX3_ok nmX3 fl_X3_15 rfl rfl (by decide) rfl rfl (by decide +kernel) rfl rfl (Nat.le_of_ble_eq_true rfl) rfl ?_
  cases h
  exact p_vret C dX3_write_20
def J_X4_addTry_55 (t_total : Int32) (t_left : Ar) (t_right : Ar) (b_xs : Ar)  (e0 : Int32) (e1 : Int32)  : Option (Int32 × Ar × Ar) := grd (gI e1 10) (some (t_total + ((1 : Int32)), t_left, upd t_right e1.toNatClampNeg e0))
set_option maxHeartbeats 4000000 in
set_option maxRecDepth 100000 in
theorem tj_X4_addTry_55 {x : Cxt} {at0 at1 at2 at3 at4 ab0 ab1 ab2 ab3 : Nat} {t_total : Int32} {t_oft : Int32} {t_left : Ar} {t_right : Ar} {t_group : Ar} {t_paired : Ar} {b_points : Int32} {b_near : Int32} {b_loose : Int32} {b_short : Int32} {b_nets : Ar} {b_xs : Ar} {b_ys : Ar}  {e0 : Int32} {e1 : Int32}  {q_t_total : Int32} {q_t_left : Ar} {q_t_right : Ar} (C : CX RX4 cX4_addTry 5 none x)  (h : J_X4_addTry_55 t_total t_left t_right b_xs e0 e1 = some (q_t_total, q_t_left, q_t_right)) : PT (RM 1 22) 5 x 55 [(0, .ref at0), (1, .ref ab0)] [.int e0, .int e1, .ref at2] (V_TB x.1.2.2 at0 at1 at2 at3 at4 ab0 ab1 ab2 ab3 t_total t_oft t_left t_right t_group t_paired b_points b_near b_loose b_short b_nets b_xs b_ys) 0 0 (QV x (V_TB x.1.2.2 at0 at1 at2 at3 at4 ab0 ab1 ab2 ab3 q_t_total t_oft q_t_left q_t_right t_group t_paired b_points b_near b_loose b_short b_nets b_xs b_ys)) := by
  unfold J_X4_addTry_55 at h
  obtain ⟨g1, h⟩ := grd_of h
  refine p_iast (Wd' := (V_TB x.1.2.2 at0 at1 at2 at3 at4 ab0 ab1 ab2 ab3 t_total t_oft t_left (upd t_right e1.toNatClampNeg e0) t_group t_paired b_points b_near b_loose b_short b_nets b_xs b_ys)) C dX4_addTry_55 rfl 2 rfl g1 rfl ?_
  refine p_aload_n C dX4_addTry_56 rfl 0 rfl ?_
  refine p_dup C dX4_addTry_57 rfl rfl ?_
  refine p_get C dX4_addTry_58 rfl 0 2 inlX4 fl_X4_18 rfl rfl (by decide) rfl rfl ?_
  refine p_iconst (v := (1 : Int32)) C dX4_addTry_61 rfl (by decide) ?_
  refine p_iadd C dX4_addTry_62 rfl ?_
  refine p_put (Wd' := (V_TB x.1.2.2 at0 at1 at2 at3 at4 ab0 ab1 ab2 ab3 (t_total + ((1 : Int32))) t_oft t_left (upd t_right e1.toNatClampNeg e0) t_group t_paired b_points b_near b_loose b_short b_nets b_xs b_ys)) (ty := .int) C dX4_addTry_63 rfl 0 2 inlX4 tyX4 tyX4_ok nmX4 fl_X4_18 rfl rfl (by decide) rfl rfl (by decide +kernel) rfl rfl (Nat.le_of_ble_eq_true rfl) rfl ?_
  cases h
  exact p_vret C dX4_addTry_66
def J_X4_addTry_36 (t_total : Int32) (t_left : Ar) (t_right : Ar) (b_xs : Ar)  (e0 : Int32) (e1 : Int32) (v2 : Int32) (v3 : Int32) (v4 : Int32) : Option (Int32 × Ar × Ar) := grd (gI e1 10) (if v4 = 0 then (J_X4_addTry_55 t_total (upd t_left e1.toNatClampNeg e0) t_right b_xs v2 t_total) else (J_X4_addTry_55 t_total (upd t_left e1.toNatClampNeg e0) t_right b_xs v3 t_total))
set_option maxHeartbeats 4000000 in
set_option maxRecDepth 100000 in
theorem tj_X4_addTry_36 {x : Cxt} {at0 at1 at2 at3 at4 ab0 ab1 ab2 ab3 : Nat} {t_total : Int32} {t_oft : Int32} {t_left : Ar} {t_right : Ar} {t_group : Ar} {t_paired : Ar} {b_points : Int32} {b_near : Int32} {b_loose : Int32} {b_short : Int32} {b_nets : Ar} {b_xs : Ar} {b_ys : Ar}  {e0 : Int32} {e1 : Int32} {v2 : Int32} {v3 : Int32} {v4 : Int32} {q_t_total : Int32} {q_t_left : Ar} {q_t_right : Ar} (C : CX RX4 cX4_addTry 5 none x)  (h : J_X4_addTry_36 t_total t_left t_right b_xs e0 e1 v2 v3 v4 = some (q_t_total, q_t_left, q_t_right)) : PT (RM 1 22) 5 x 36 [(0, .ref at0), (1, .ref ab0), (2, .int v2), (3, .int v3), (4, .int v4)] [.int e0, .int e1, .ref at1] (V_TB x.1.2.2 at0 at1 at2 at3 at4 ab0 ab1 ab2 ab3 t_total t_oft t_left t_right t_group t_paired b_points b_near b_loose b_short b_nets b_xs b_ys) 0 0 (QV x (V_TB x.1.2.2 at0 at1 at2 at3 at4 ab0 ab1 ab2 ab3 q_t_total t_oft q_t_left q_t_right t_group t_paired b_points b_near b_loose b_short b_nets b_xs b_ys)) := by
  unfold J_X4_addTry_36 at h
  obtain ⟨g1, h⟩ := grd_of h
  refine p_iast (Wd' := (V_TB x.1.2.2 at0 at1 at2 at3 at4 ab0 ab1 ab2 ab3 t_total t_oft (upd t_left e1.toNatClampNeg e0) t_right t_group t_paired b_points b_near b_loose b_short b_nets b_xs b_ys)) C dX4_addTry_36 rfl 1 rfl g1 rfl ?_
  refine p_aload_n C dX4_addTry_37 rfl 0 rfl ?_
  refine p_get C dX4_addTry_38 rfl 0 1 inlX4 fl_X4_15 rfl rfl (by decide) rfl rfl ?_
  refine p_aload_n C dX4_addTry_41 rfl 0 rfl ?_
  refine p_get C dX4_addTry_42 rfl 0 2 inlX4 fl_X4_18 rfl rfl (by decide) rfl rfl ?_
  refine p_iload C dX4_addTry_45 rfl 4 rfl ?_
  refine p_if_eq C dX4_addTry_47 (tgt := 54) (by decide) rfl (fun c2 => ?_) (fun c2 => ?_)
  · have h := if_t c2 h
    refine p_iload_n C dX4_addTry_54 rfl 2 rfl ?_
    refine p_locals [0, 1] (lv' := [(0, .ref at0), (1, .ref ab0)]) rfl ?_
    exact tj_X4_addTry_55 C  h
  · have h := if_f c2 h
    refine p_iload_n C dX4_addTry_50 rfl 3 rfl ?_
    refine p_goto C dX4_addTry_51 (pc' := 55) (by decide) ?_
    refine p_locals [0, 1] (lv' := [(0, .ref at0), (1, .ref ab0)]) rfl ?_
    exact tj_X4_addTry_55 C  h
def m_X4_addTry (t_total : Int32) (t_left : Ar) (t_right : Ar) (b_xs : Ar) (p2 : Int32) (p3 : Int32) : Option (Int32 × Ar × Ar) := if t_total < ((10 : Int32)) then (bd1 (m_X0_isLeftOf b_xs p2 p3) (fun r2 => if r2 = 0 then (J_X4_addTry_36 t_total t_left t_right b_xs p3 t_total p2 p3 r2) else (J_X4_addTry_36 t_total t_left t_right b_xs p2 t_total p2 p3 r2))) else (some (t_total, t_left, t_right))
theorem ds_X4_addTry : (yX4_addTry).cls ≠ "java/lang/invoke/MethodHandle" ∧ (yX4_addTry).cls ≠ "java/lang/invoke/VarHandle" ∧ (parseMethodDescriptor (yX4_addTry).desc).map (fun d => d.parameters.length) = some 3 := by decide +kernel
set_option maxHeartbeats 4000000 in
set_option maxRecDepth 100000 in
theorem c_X4_addTry (E : En) {at0 at1 at2 at3 at4 ab0 ab1 ab2 ab3 : Nat} {t_total : Int32} {t_oft : Int32} {t_left : Ar} {t_right : Ar} {t_group : Ar} {t_paired : Ar} {b_points : Int32} {b_near : Int32} {b_loose : Int32} {b_short : Int32} {b_nets : Ar} {b_xs : Ar} {b_ys : Ar} {p2 : Int32} {p3 : Int32} {q_t_total : Int32} {q_t_left : Ar} {q_t_right : Ar} (h : m_X4_addTry t_total t_left t_right b_xs p2 p3 = some (q_t_total, q_t_left, q_t_right)) : Cv E yX4_addTry (wU yX4_addTry cX4_addTry 5 none) (RM 1 22) [.ref at0, .ref ab0, .int p2, .int p3] (V_TB E.2.2 at0 at1 at2 at3 at4 ab0 ab1 ab2 ab3 t_total t_oft t_left t_right t_group t_paired b_points b_near b_loose b_short b_nets b_xs b_ys) (V_TB E.2.2 at0 at1 at2 at3 at4 ab0 ab1 ab2 ab3 q_t_total t_oft q_t_left q_t_right t_group t_paired b_points b_near b_loose b_short b_nets b_xs b_ys) := by
  refine Cv.of (by decide) (Nat.le_of_ble_eq_true rfl) ?_
  intro x hE C
  subst hE
  have C : CX RX4 cX4_addTry 5 none x := C
  refine p_locals [0, 1, 2, 3] (lv' := [(0, .ref at0), (1, .ref ab0), (2, .int p2), (3, .int p3)]) rfl ?_
  unfold m_X4_addTry at h
  refine p_aload_n C dX4_addTry_0 rfl 0 rfl ?_
  refine p_get C dX4_addTry_1 rfl 0 2 inlX4 fl_X4_18 rfl rfl (by decide) rfl rfl ?_
  refine p_bipush (v := (10 : Int32)) C dX4_addTry_4 rfl (by decide) ?_
  refine p_icmp_lt C dX4_addTry_6 (tgt := 10) (by decide) rfl (fun c1 => ?_) (fun c1 => ?_)
  · have h := if_t c1 h
    refine p_aload_n C dX4_addTry_10 rfl 1 rfl ?_
    refine p_iload_n C dX4_addTry_11 rfl 2 rfl ?_
    refine p_iload_n C dX4_addTry_12 rfl 3 rfl ?_
    obtain ⟨r2, hc3, h⟩ := bd1_of h
    refine p_callVNi (As := [.int p2, .int p3]) (st' := []) (Wd' := (V_TB x.1.2.2 at0 at1 at2 at3 at4 ab0 ab1 ab2 ab3 t_total t_oft t_left t_right t_group t_paired b_points b_near b_loose b_short b_nets b_xs b_ys)) C (c_X0_isLeftOf x.1 (ab0 := ab0) (ab1 := ab1) (ab2 := ab2) (ab3 := ab3) (b_points := b_points) (b_near := b_near) (b_loose := b_loose) (b_short := b_short) (b_nets := b_nets) (b_ys := b_ys) hc3) dX4_addTry_13 rfl nm_X4_81 kv_X0_isLeftOf ds_X0_isLeftOf ⟨rfl, rfl, by decide, by decide⟩ 0 rfl rfl [5, 6, 7, 8] rfl rfl rfl rfl (by decide) ⟨by decide, by decide⟩ rfl ?_
    refine p_istore (lv' := [(4, .int r2), (0, .ref at0), (1, .ref ab0), (2, .int p2), (3, .int p3)]) C dX4_addTry_16 rfl (by decide) rfl ?_
    refine p_aload_n C dX4_addTry_18 rfl 1 rfl ?_
    refine p_get C dX4_addTry_19 rfl 0 0 inlX4 fl_X4_9 rfl rfl (by decide) rfl rfl ?_
    refine p_aload_n C dX4_addTry_22 rfl 1 rfl ?_
    refine p_get C dX4_addTry_23 rfl 0 2 inlX4 fl_X4_18 rfl rfl (by decide) rfl rfl ?_
    refine p_iload C dX4_addTry_26 rfl 0 rfl ?_
    refine p_if_eq C dX4_addTry_28 (tgt := 35) (by decide) rfl (fun c4 => ?_) (fun c4 => ?_)
    · have h := if_t c4 h
      refine p_iload_n C dX4_addTry_35 rfl 4 rfl ?_
      refine p_locals [1, 2, 3, 4, 0] (lv' := [(0, .ref at0), (1, .ref ab0), (2, .int p2), (3, .int p3), (4, .int r2)]) rfl ?_
      exact tj_X4_addTry_36 C  h
    · have h := if_f c4 h
      refine p_iload_n C dX4_addTry_31 rfl 3 rfl ?_
      refine p_goto C dX4_addTry_32 (pc' := 36) (by decide) ?_
      refine p_locals [1, 2, 3, 4, 0] (lv' := [(0, .ref at0), (1, .ref ab0), (2, .int p2), (3, .int p3), (4, .int r2)]) rfl ?_
      exact tj_X4_addTry_36 C  h
  · have h := if_f c1 h
    cases h
    exact p_vret C dX4_addTry_9
def J_X4_addNearestPair_98 (t_total : Int32) (t_left : Ar) (t_right : Ar) (b_points : Int32) (b_near : Int32) (b_nets : Ar) (b_xs : Ar) (b_ys : Ar) (k24 : Int32 → Int32 → Int32 → Int32 → Option (Int32 × Ar × Ar)) (k12 : Int32 → Int32 → Int32 → Int32 → Option (Int32 × Ar × Ar))  (v2 : Int32) (v3 : Int32) (v4 : Int32) (v5 : Int32) (v6 : Int32) (v7 : Int32) (v8 : Int32) : Option (Int32 × Ar × Ar) := k24 v4 v5 v6 (v8 + 1)
set_option maxHeartbeats 4000000 in
set_option maxRecDepth 100000 in
theorem tj_X4_addNearestPair_98 {x : Cxt} {at0 at1 at2 at3 at4 ab0 ab1 ab2 ab3 : Nat} {t_total : Int32} {t_oft : Int32} {t_left : Ar} {t_right : Ar} {t_group : Ar} {t_paired : Ar} {b_points : Int32} {b_near : Int32} {b_loose : Int32} {b_short : Int32} {b_nets : Ar} {b_xs : Ar} {b_ys : Ar} {k24 : Int32 → Int32 → Int32 → Int32 → Option (Int32 × Ar × Ar)} {k12 : Int32 → Int32 → Int32 → Int32 → Option (Int32 × Ar × Ar)}  {v2 : Int32} {v3 : Int32} {v4 : Int32} {v5 : Int32} {v6 : Int32} {v7 : Int32} {v8 : Int32} {q_t_total : Int32} {q_t_left : Ar} {q_t_right : Ar} (C : CX RX4 cX4_addNearestPair 10 none x) (hk24 : ∀ (w4 : Int32) (w5 : Int32) (w6 : Int32) (w8 : Int32) , k24 w4 w5 w6 w8 = some (q_t_total, q_t_left, q_t_right) → PT (RM 2 46) 10 x 24 [(0, .ref at0), (1, .ref ab0), (2, .int v2), (3, .int v3), (4, .int w4), (5, .int w5), (6, .int w6), (7, .int v7), (8, .int w8)] [] (V_TB x.1.2.2 at0 at1 at2 at3 at4 ab0 ab1 ab2 ab3 t_total t_oft t_left t_right t_group t_paired b_points b_near b_loose b_short b_nets b_xs b_ys) 0 0 (QV x (V_TB x.1.2.2 at0 at1 at2 at3 at4 ab0 ab1 ab2 ab3 q_t_total t_oft q_t_left q_t_right t_group t_paired b_points b_near b_loose b_short b_nets b_xs b_ys))) (hk12 : ∀ (w4 : Int32) (w5 : Int32) (w6 : Int32) (w7 : Int32) , k12 w4 w5 w6 w7 = some (q_t_total, q_t_left, q_t_right) → PT (RM 2 46) 10 x 12 [(0, .ref at0), (1, .ref ab0), (2, .int v2), (3, .int v3), (4, .int w4), (5, .int w5), (6, .int w6), (7, .int w7)] [] (V_TB x.1.2.2 at0 at1 at2 at3 at4 ab0 ab1 ab2 ab3 t_total t_oft t_left t_right t_group t_paired b_points b_near b_loose b_short b_nets b_xs b_ys) 0 0 (QV x (V_TB x.1.2.2 at0 at1 at2 at3 at4 ab0 ab1 ab2 ab3 q_t_total t_oft q_t_left q_t_right t_group t_paired b_points b_near b_loose b_short b_nets b_xs b_ys))) (h : J_X4_addNearestPair_98 t_total t_left t_right b_points b_near b_nets b_xs b_ys k24 k12 v2 v3 v4 v5 v6 v7 v8 = some (q_t_total, q_t_left, q_t_right)) : PT (RM 2 46) 10 x 98 [(0, .ref at0), (1, .ref ab0), (2, .int v2), (3, .int v3), (4, .int v4), (5, .int v5), (6, .int v6), (7, .int v7), (8, .int v8)] [] (V_TB x.1.2.2 at0 at1 at2 at3 at4 ab0 ab1 ab2 ab3 t_total t_oft t_left t_right t_group t_paired b_points b_near b_loose b_short b_nets b_xs b_ys) 0 0 (QV x (V_TB x.1.2.2 at0 at1 at2 at3 at4 ab0 ab1 ab2 ab3 q_t_total t_oft q_t_left q_t_right t_group t_paired b_points b_near b_loose b_short b_nets b_xs b_ys)) := by
  unfold J_X4_addNearestPair_98 at h
  refine p_iinc (w := v8 + 1) (lv' := [(8, .int (v8 + 1)), (0, .ref at0), (1, .ref ab0), (2, .int v2), (3, .int v3), (4, .int v4), (5, .int v5), (6, .int v6), (7, .int v7)]) C dX4_addNearestPair_98 rfl 8 rfl rfl (by decide) rfl ?_
  refine p_goto C dX4_addNearestPair_101 (pc' := 24) (by decide) ?_
  refine p_locals [1, 2, 3, 4, 5, 6, 7, 8, 0] (lv' := [(0, .ref at0), (1, .ref ab0), (2, .int v2), (3, .int v3), (4, .int v4), (5, .int v5), (6, .int v6), (7, .int v7), (8, .int (v8 + 1))]) rfl ?_
  exact hk24 _ _ _ _ h
def J_X4_addNearestPair_86 (t_total : Int32) (t_left : Ar) (t_right : Ar) (b_points : Int32) (b_near : Int32) (b_nets : Ar) (b_xs : Ar) (b_ys : Ar) (k24 : Int32 → Int32 → Int32 → Int32 → Option (Int32 × Ar × Ar)) (k12 : Int32 → Int32 → Int32 → Int32 → Option (Int32 × Ar × Ar))  (v2 : Int32) (v3 : Int32) (v7 : Int32) (v8 : Int32) (v9 : Int32) : Option (Int32 × Ar × Ar) := J_X4_addNearestPair_98 t_total t_left t_right b_points b_near b_nets b_xs b_ys (k24) (k12) v2 v3 v7 v8 v9 v7 v8
set_option maxHeartbeats 4000000 in
set_option maxRecDepth 100000 in
theorem tj_X4_addNearestPair_86 {x : Cxt} {at0 at1 at2 at3 at4 ab0 ab1 ab2 ab3 : Nat} {t_total : Int32} {t_oft : Int32} {t_left : Ar} {t_right : Ar} {t_group : Ar} {t_paired : Ar} {b_points : Int32} {b_near : Int32} {b_loose : Int32} {b_short : Int32} {b_nets : Ar} {b_xs : Ar} {b_ys : Ar} {k24 : Int32 → Int32 → Int32 → Int32 → Option (Int32 × Ar × Ar)} {k12 : Int32 → Int32 → Int32 → Int32 → Option (Int32 × Ar × Ar)}  {v2 : Int32} {v3 : Int32} {v7 : Int32} {v8 : Int32} {v9 : Int32} {q_t_total : Int32} {q_t_left : Ar} {q_t_right : Ar} (C : CX RX4 cX4_addNearestPair 10 none x) (hk24 : ∀ (w4 : Int32) (w5 : Int32) (w6 : Int32) (w8 : Int32) , k24 w4 w5 w6 w8 = some (q_t_total, q_t_left, q_t_right) → PT (RM 2 46) 10 x 24 [(0, .ref at0), (1, .ref ab0), (2, .int v2), (3, .int v3), (4, .int w4), (5, .int w5), (6, .int w6), (7, .int v7), (8, .int w8)] [] (V_TB x.1.2.2 at0 at1 at2 at3 at4 ab0 ab1 ab2 ab3 t_total t_oft t_left t_right t_group t_paired b_points b_near b_loose b_short b_nets b_xs b_ys) 0 0 (QV x (V_TB x.1.2.2 at0 at1 at2 at3 at4 ab0 ab1 ab2 ab3 q_t_total t_oft q_t_left q_t_right t_group t_paired b_points b_near b_loose b_short b_nets b_xs b_ys))) (hk12 : ∀ (w4 : Int32) (w5 : Int32) (w6 : Int32) (w7 : Int32) , k12 w4 w5 w6 w7 = some (q_t_total, q_t_left, q_t_right) → PT (RM 2 46) 10 x 12 [(0, .ref at0), (1, .ref ab0), (2, .int v2), (3, .int v3), (4, .int w4), (5, .int w5), (6, .int w6), (7, .int w7)] [] (V_TB x.1.2.2 at0 at1 at2 at3 at4 ab0 ab1 ab2 ab3 t_total t_oft t_left t_right t_group t_paired b_points b_near b_loose b_short b_nets b_xs b_ys) 0 0 (QV x (V_TB x.1.2.2 at0 at1 at2 at3 at4 ab0 ab1 ab2 ab3 q_t_total t_oft q_t_left q_t_right t_group t_paired b_points b_near b_loose b_short b_nets b_xs b_ys))) (h : J_X4_addNearestPair_86 t_total t_left t_right b_points b_near b_nets b_xs b_ys k24 k12 v2 v3 v7 v8 v9 = some (q_t_total, q_t_left, q_t_right)) : PT (RM 2 46) 10 x 86 [(0, .ref at0), (1, .ref ab0), (2, .int v2), (3, .int v3), (7, .int v7), (8, .int v8), (9, .int v9)] [] (V_TB x.1.2.2 at0 at1 at2 at3 at4 ab0 ab1 ab2 ab3 t_total t_oft t_left t_right t_group t_paired b_points b_near b_loose b_short b_nets b_xs b_ys) 0 0 (QV x (V_TB x.1.2.2 at0 at1 at2 at3 at4 ab0 ab1 ab2 ab3 q_t_total t_oft q_t_left q_t_right t_group t_paired b_points b_near b_loose b_short b_nets b_xs b_ys)) := by
  unfold J_X4_addNearestPair_86 at h
  refine p_iload C dX4_addNearestPair_86 rfl 4 rfl ?_
  refine p_istore (lv' := [(4, .int v7), (0, .ref at0), (1, .ref ab0), (2, .int v2), (3, .int v3), (7, .int v7), (8, .int v8), (9, .int v9)]) C dX4_addNearestPair_88 rfl (by decide) rfl ?_
  refine p_iload C dX4_addNearestPair_90 rfl 6 rfl ?_
  refine p_istore (lv' := [(5, .int v8), (4, .int v7), (0, .ref at0), (1, .ref ab0), (2, .int v2), (3, .int v3), (7, .int v7), (8, .int v8), (9, .int v9)]) C dX4_addNearestPair_92 rfl (by decide) rfl ?_
  refine p_iload C dX4_addNearestPair_94 rfl 8 rfl ?_
  refine p_istore (lv' := [(6, .int v9), (5, .int v8), (4, .int v7), (0, .ref at0), (1, .ref ab0), (2, .int v2), (3, .int v3), (7, .int v7), (8, .int v8), (9, .int v9)]) C dX4_addNearestPair_96 rfl (by decide) rfl ?_
  refine p_locals [3, 4, 5, 6, 2, 1, 0, 7, 8] (lv' := [(0, .ref at0), (1, .ref ab0), (2, .int v2), (3, .int v3), (4, .int v7), (5, .int v8), (6, .int v9), (7, .int v7), (8, .int v8)]) rfl ?_
  exact tj_X4_addNearestPair_98 C (fun u0 u1 u2 u3 h => hk24 u0 u1 u2 u3 h) (fun u0 u1 u2 u3 h => hk12 u0 u1 u2 u3 h) h
def B_X4_addNearestPair_24 (t_total : Int32) (t_left : Ar) (t_right : Ar) (b_points : Int32) (b_near : Int32) (b_nets : Ar) (b_xs : Ar) (b_ys : Ar) (k12 : Int32 → Int32 → Int32 → Int32 → Option (Int32 × Ar × Ar)) (v2 : Int32) (v3 : Int32) (v7 : Int32) (kk : Int32 → Int32 → Int32 → Int32 → Option (Int32 × Ar × Ar)) (v4 : Int32) (v5 : Int32) (v6 : Int32) (v8 : Int32)  : Option (Int32 × Ar × Ar) := if b_points ≤ v8 then (k12 v4 v5 v6 (v7 + 1)) else (grd (gI v7 8) (if (b_nets v7.toNatClampNeg) = v2 then (grd (gI v8 8) (if (b_nets v8.toNatClampNeg) = v3 then (bd1 (m_X0_distance b_xs b_ys v7 v8) (fun r6 => if b_near < r6 then (J_X4_addNearestPair_98 t_total t_left t_right b_points b_near b_nets b_xs b_ys (kk) (k12) v2 v3 v4 v5 v6 v7 v8) else (if v4 < 0 then (J_X4_addNearestPair_86 t_total t_left t_right b_points b_near b_nets b_xs b_ys (kk) (k12) v2 v3 v7 v8 r6) else (if v6 ≤ r6 then (J_X4_addNearestPair_98 t_total t_left t_right b_points b_near b_nets b_xs b_ys (kk) (k12) v2 v3 v4 v5 v6 v7 v8) else (J_X4_addNearestPair_86 t_total t_left t_right b_points b_near b_nets b_xs b_ys (kk) (k12) v2 v3 v7 v8 r6))))) else (J_X4_addNearestPair_98 t_total t_left t_right b_points b_near b_nets b_xs b_ys (kk) (k12) v2 v3 v4 v5 v6 v7 v8))) else (J_X4_addNearestPair_98 t_total t_left t_right b_points b_near b_nets b_xs b_ys (kk) (k12) v2 v3 v4 v5 v6 v7 v8)))
def L_X4_addNearestPair_24 (t_total : Int32) (t_left : Ar) (t_right : Ar) (b_points : Int32) (b_near : Int32) (b_nets : Ar) (b_xs : Ar) (b_ys : Ar) (k12 : Int32 → Int32 → Int32 → Int32 → Option (Int32 × Ar × Ar)) (v2 : Int32) (v3 : Int32) (v7 : Int32) : Nat → Int32 → Int32 → Int32 → Int32 → Option (Int32 × Ar × Ar) := lpG (fun _ _ _ _ => none) (B_X4_addNearestPair_24 t_total t_left t_right b_points b_near b_nets b_xs b_ys k12 v2 v3 v7)
set_option maxHeartbeats 4000000 in
set_option maxRecDepth 100000 in
theorem tl_X4_addNearestPair_24 {x : Cxt} {at0 at1 at2 at3 at4 ab0 ab1 ab2 ab3 : Nat} {t_total : Int32} {t_oft : Int32} {t_left : Ar} {t_right : Ar} {t_group : Ar} {t_paired : Ar} {b_points : Int32} {b_near : Int32} {b_loose : Int32} {b_short : Int32} {b_nets : Ar} {b_xs : Ar} {b_ys : Ar} {k12 : Int32 → Int32 → Int32 → Int32 → Option (Int32 × Ar × Ar)} {v2 : Int32} {v3 : Int32} {v7 : Int32} {q_t_total : Int32} {q_t_left : Ar} {q_t_right : Ar} (C : CX RX4 cX4_addNearestPair 10 none x) (hk12 : ∀ (w4 : Int32) (w5 : Int32) (w6 : Int32) (w7 : Int32) , k12 w4 w5 w6 w7 = some (q_t_total, q_t_left, q_t_right) → PT (RM 2 46) 10 x 12 [(0, .ref at0), (1, .ref ab0), (2, .int v2), (3, .int v3), (4, .int w4), (5, .int w5), (6, .int w6), (7, .int w7)] [] (V_TB x.1.2.2 at0 at1 at2 at3 at4 ab0 ab1 ab2 ab3 t_total t_oft t_left t_right t_group t_paired b_points b_near b_loose b_short b_nets b_xs b_ys) 0 0 (QV x (V_TB x.1.2.2 at0 at1 at2 at3 at4 ab0 ab1 ab2 ab3 q_t_total t_oft q_t_left q_t_right t_group t_paired b_points b_near b_loose b_short b_nets b_xs b_ys))) : ∀ (n : Nat) (v4 : Int32) (v5 : Int32) (v6 : Int32) (v8 : Int32) , L_X4_addNearestPair_24 t_total t_left t_right b_points b_near b_nets b_xs b_ys k12 v2 v3 v7 n v4 v5 v6 v8 = some (q_t_total, q_t_left, q_t_right) → PT (RM 2 46) 10 x 24 [(0, .ref at0), (1, .ref ab0), (2, .int v2), (3, .int v3), (4, .int v4), (5, .int v5), (6, .int v6), (7, .int v7), (8, .int v8)] [] (V_TB x.1.2.2 at0 at1 at2 at3 at4 ab0 ab1 ab2 ab3 t_total t_oft t_left t_right t_group t_paired b_points b_near b_loose b_short b_nets b_xs b_ys) 0 0 (QV x (V_TB x.1.2.2 at0 at1 at2 at3 at4 ab0 ab1 ab2 ab3 q_t_total t_oft q_t_left q_t_right t_group t_paired b_points b_near b_loose b_short b_nets b_xs b_ys)) := by
  intro n
  induction n with
  | zero =>
    intro v4 v5 v6 v8 h
    cases h
  | succ n ih =>
    intro v4 v5 v6 v8 h
    have h : B_X4_addNearestPair_24 t_total t_left t_right b_points b_near b_nets b_xs b_ys k12 v2 v3 v7 (L_X4_addNearestPair_24 t_total t_left t_right b_points b_near b_nets b_xs b_ys k12 v2 v3 v7 n) v4 v5 v6 v8 = some (q_t_total, q_t_left, q_t_right) := h
    unfold B_X4_addNearestPair_24 at h
    refine p_iload C dX4_addNearestPair_24 rfl 8 rfl ?_
    refine p_aload_n C dX4_addNearestPair_26 rfl 1 rfl ?_
    refine p_getN C dX4_addNearestPair_27 rfl 5 3 inlX0 nf_X4_41 rfl rfl (by decide) rfl rfl ?_
    refine p_icmp_ge C dX4_addNearestPair_30 (tgt := 104) (by decide) rfl (fun c1 => ?_) (fun c1 => ?_)
    · have h := if_t c1 h
      refine p_iinc (w := v7 + 1) (lv' := [(7, .int (v7 + 1)), (0, .ref at0), (1, .ref ab0), (2, .int v2), (3, .int v3), (4, .int v4), (5, .int v5), (6, .int v6), (8, .int v8)]) C dX4_addNearestPair_104 rfl 7 rfl rfl (by decide) rfl ?_
      refine p_goto C dX4_addNearestPair_107 (pc' := 12) (by decide) ?_
      refine p_locals [1, 2, 3, 4, 5, 6, 7, 0] (lv' := [(0, .ref at0), (1, .ref ab0), (2, .int v2), (3, .int v3), (4, .int v4), (5, .int v5), (6, .int v6), (7, .int (v7 + 1))]) rfl ?_
      exact hk12 _ _ _ _ h
    · have h := if_f c1 h
      refine p_aload_n C dX4_addNearestPair_33 rfl 1 rfl ?_
      refine p_getN C dX4_addNearestPair_34 rfl 5 0 inlX0 nf_X4_50 rfl rfl (by decide) rfl rfl ?_
      refine p_iload C dX4_addNearestPair_37 rfl 7 rfl ?_
      obtain ⟨g2, h⟩ := grd_of h
      refine p_iald C dX4_addNearestPair_39 rfl 6 rfl g2 ?_
      refine p_iload_n C dX4_addNearestPair_40 rfl 2 rfl ?_
      refine p_icmp_ne C dX4_addNearestPair_41 (tgt := 98) (by decide) rfl (fun c3 => ?_) (fun c3 => ?_)
      · have h := if_f c3 h
        refine p_locals [0, 1, 2, 3, 4, 5, 6, 7, 8] (lv' := [(0, .ref at0), (1, .ref ab0), (2, .int v2), (3, .int v3), (4, .int v4), (5, .int v5), (6, .int v6), (7, .int v7), (8, .int v8)]) rfl ?_
        exact tj_X4_addNearestPair_98 C (fun u0 u1 u2 u3 h => ih u0 u1 u2 u3 h) (fun u0 u1 u2 u3 h => hk12 u0 u1 u2 u3 h) h
      · have h := if_t c3 h
        refine p_aload_n C dX4_addNearestPair_44 rfl 1 rfl ?_
        refine p_getN C dX4_addNearestPair_45 rfl 5 0 inlX0 nf_X4_50 rfl rfl (by decide) rfl rfl ?_
        refine p_iload C dX4_addNearestPair_48 rfl 8 rfl ?_
        obtain ⟨g4, h⟩ := grd_of h
        refine p_iald C dX4_addNearestPair_50 rfl 6 rfl g4 ?_
        refine p_iload_n C dX4_addNearestPair_51 rfl 3 rfl ?_
        refine p_icmp_ne C dX4_addNearestPair_52 (tgt := 98) (by decide) rfl (fun c5 => ?_) (fun c5 => ?_)
        · have h := if_f c5 h
          refine p_locals [0, 1, 2, 3, 4, 5, 6, 7, 8] (lv' := [(0, .ref at0), (1, .ref ab0), (2, .int v2), (3, .int v3), (4, .int v4), (5, .int v5), (6, .int v6), (7, .int v7), (8, .int v8)]) rfl ?_
          exact tj_X4_addNearestPair_98 C (fun u0 u1 u2 u3 h => ih u0 u1 u2 u3 h) (fun u0 u1 u2 u3 h => hk12 u0 u1 u2 u3 h) h
        · have h := if_t c5 h
          refine p_aload_n C dX4_addNearestPair_55 rfl 1 rfl ?_
          refine p_iload C dX4_addNearestPair_56 rfl 7 rfl ?_
          refine p_iload C dX4_addNearestPair_58 rfl 8 rfl ?_
          obtain ⟨r6, hc7, h⟩ := bd1_of h
          refine p_callVNi (As := [.int v7, .int v8]) (st' := []) (Wd' := (V_TB x.1.2.2 at0 at1 at2 at3 at4 ab0 ab1 ab2 ab3 t_total t_oft t_left t_right t_group t_paired b_points b_near b_loose b_short b_nets b_xs b_ys)) C (c_X0_distance x.1 (ab0 := ab0) (ab1 := ab1) (ab2 := ab2) (ab3 := ab3) (b_points := b_points) (b_near := b_near) (b_loose := b_loose) (b_short := b_short) (b_nets := b_nets) hc7) dX4_addNearestPair_60 rfl nm_X4_53 kv_X0_distance ds_X0_distance ⟨rfl, rfl, by decide, by decide⟩ 0 rfl rfl [5, 6, 7, 8] rfl rfl rfl rfl (by decide) ⟨by decide, by decide⟩ rfl ?_
          refine p_istore (lv' := [(9, .int r6), (0, .ref at0), (1, .ref ab0), (2, .int v2), (3, .int v3), (4, .int v4), (5, .int v5), (6, .int v6), (7, .int v7), (8, .int v8)]) C dX4_addNearestPair_63 rfl (by decide) rfl ?_
          refine p_iload C dX4_addNearestPair_65 rfl 0 rfl ?_
          refine p_aload_n C dX4_addNearestPair_67 rfl 2 rfl ?_
          refine p_getN C dX4_addNearestPair_68 rfl 5 4 inlX0 nf_X4_78 rfl rfl (by decide) rfl rfl ?_
          refine p_icmp_gt C dX4_addNearestPair_71 (tgt := 98) (by decide) rfl (fun c8 => ?_) (fun c8 => ?_)
          · have h := if_t c8 h
            refine p_locals [1, 2, 3, 4, 5, 6, 7, 8, 9] (lv' := [(0, .ref at0), (1, .ref ab0), (2, .int v2), (3, .int v3), (4, .int v4), (5, .int v5), (6, .int v6), (7, .int v7), (8, .int v8)]) rfl ?_
            exact tj_X4_addNearestPair_98 C (fun u0 u1 u2 u3 h => ih u0 u1 u2 u3 h) (fun u0 u1 u2 u3 h => hk12 u0 u1 u2 u3 h) h
          · have h := if_f c8 h
            refine p_iload C dX4_addNearestPair_74 rfl 5 rfl ?_
            refine p_if_lt C dX4_addNearestPair_76 (tgt := 86) (by decide) rfl (fun c9 => ?_) (fun c9 => ?_)
            · have h := if_t c9 h
              refine p_locals [1, 2, 3, 4, 8, 9, 0] (lv' := [(0, .ref at0), (1, .ref ab0), (2, .int v2), (3, .int v3), (7, .int v7), (8, .int v8), (9, .int r6)]) rfl ?_
              exact tj_X4_addNearestPair_86 C (fun u0 u1 u2 u3 h => ih u0 u1 u2 u3 h) (fun u0 u1 u2 u3 h => hk12 u0 u1 u2 u3 h) h
            · have h := if_f c9 h
              refine p_iload C dX4_addNearestPair_79 rfl 0 rfl ?_
              refine p_iload C dX4_addNearestPair_81 rfl 7 rfl ?_
              refine p_icmp_ge C dX4_addNearestPair_83 (tgt := 98) (by decide) rfl (fun c10 => ?_) (fun c10 => ?_)
              · have h := if_t c10 h
                refine p_locals [1, 2, 3, 4, 5, 6, 7, 8, 9] (lv' := [(0, .ref at0), (1, .ref ab0), (2, .int v2), (3, .int v3), (4, .int v4), (5, .int v5), (6, .int v6), (7, .int v7), (8, .int v8)]) rfl ?_
                exact tj_X4_addNearestPair_98 C (fun u0 u1 u2 u3 h => ih u0 u1 u2 u3 h) (fun u0 u1 u2 u3 h => hk12 u0 u1 u2 u3 h) h
              · have h := if_f c10 h
                refine p_locals [1, 2, 3, 4, 8, 9, 0] (lv' := [(0, .ref at0), (1, .ref ab0), (2, .int v2), (3, .int v3), (7, .int v7), (8, .int v8), (9, .int r6)]) rfl ?_
                exact tj_X4_addNearestPair_86 C (fun u0 u1 u2 u3 h => ih u0 u1 u2 u3 h) (fun u0 u1 u2 u3 h => hk12 u0 u1 u2 u3 h) h
def B_X4_addNearestPair_12 (t_total : Int32) (t_left : Ar) (t_right : Ar) (b_points : Int32) (b_near : Int32) (b_nets : Ar) (b_xs : Ar) (b_ys : Ar)  (v2 : Int32) (v3 : Int32) (kk : Int32 → Int32 → Int32 → Int32 → Option (Int32 × Ar × Ar)) (v4 : Int32) (v5 : Int32) (v6 : Int32) (v7 : Int32)  : Option (Int32 × Ar × Ar) := if b_points ≤ v7 then (if v4 < 0 then (some (t_total, t_left, t_right)) else (bd3 (m_X4_addTry t_total t_left t_right b_xs v4 v5) (fun z_total3 z_left4 z_right5 => some (z_total3, z_left4, z_right5)))) else (L_X4_addNearestPair_24 t_total t_left t_right b_points b_near b_nets b_xs b_ys kk v2 v3 v7 FU v4 v5 v6 ((0 : Int32)))
def L_X4_addNearestPair_12 (t_total : Int32) (t_left : Ar) (t_right : Ar) (b_points : Int32) (b_near : Int32) (b_nets : Ar) (b_xs : Ar) (b_ys : Ar)  (v2 : Int32) (v3 : Int32) : Nat → Int32 → Int32 → Int32 → Int32 → Option (Int32 × Ar × Ar) := lpG (fun _ _ _ _ => none) (B_X4_addNearestPair_12 t_total t_left t_right b_points b_near b_nets b_xs b_ys v2 v3)
set_option maxHeartbeats 4000000 in
set_option maxRecDepth 100000 in
theorem tl_X4_addNearestPair_12 {x : Cxt} {at0 at1 at2 at3 at4 ab0 ab1 ab2 ab3 : Nat} {t_total : Int32} {t_oft : Int32} {t_left : Ar} {t_right : Ar} {t_group : Ar} {t_paired : Ar} {b_points : Int32} {b_near : Int32} {b_loose : Int32} {b_short : Int32} {b_nets : Ar} {b_xs : Ar} {b_ys : Ar}  {v2 : Int32} {v3 : Int32} {q_t_total : Int32} {q_t_left : Ar} {q_t_right : Ar} (C : CX RX4 cX4_addNearestPair 10 none x)  : ∀ (n : Nat) (v4 : Int32) (v5 : Int32) (v6 : Int32) (v7 : Int32) , L_X4_addNearestPair_12 t_total t_left t_right b_points b_near b_nets b_xs b_ys v2 v3 n v4 v5 v6 v7 = some (q_t_total, q_t_left, q_t_right) → PT (RM 2 46) 10 x 12 [(0, .ref at0), (1, .ref ab0), (2, .int v2), (3, .int v3), (4, .int v4), (5, .int v5), (6, .int v6), (7, .int v7)] [] (V_TB x.1.2.2 at0 at1 at2 at3 at4 ab0 ab1 ab2 ab3 t_total t_oft t_left t_right t_group t_paired b_points b_near b_loose b_short b_nets b_xs b_ys) 0 0 (QV x (V_TB x.1.2.2 at0 at1 at2 at3 at4 ab0 ab1 ab2 ab3 q_t_total t_oft q_t_left q_t_right t_group t_paired b_points b_near b_loose b_short b_nets b_xs b_ys)) := by
  intro n
  induction n with
  | zero =>
    intro v4 v5 v6 v7 h
    cases h
  | succ n ih =>
    intro v4 v5 v6 v7 h
    have h : B_X4_addNearestPair_12 t_total t_left t_right b_points b_near b_nets b_xs b_ys v2 v3 (L_X4_addNearestPair_12 t_total t_left t_right b_points b_near b_nets b_xs b_ys v2 v3 n) v4 v5 v6 v7 = some (q_t_total, q_t_left, q_t_right) := h
    unfold B_X4_addNearestPair_12 at h
    refine p_iload C dX4_addNearestPair_12 rfl 7 rfl ?_
    refine p_aload_n C dX4_addNearestPair_14 rfl 1 rfl ?_
    refine p_getN C dX4_addNearestPair_15 rfl 5 3 inlX0 nf_X4_41 rfl rfl (by decide) rfl rfl ?_
    refine p_icmp_ge C dX4_addNearestPair_18 (tgt := 110) (by decide) rfl (fun c1 => ?_) (fun c1 => ?_)
    · have h := if_t c1 h
      refine p_iload C dX4_addNearestPair_110 rfl 4 rfl ?_
      refine p_if_lt C dX4_addNearestPair_112 (tgt := 124) (by decide) rfl (fun c2 => ?_) (fun c2 => ?_)
      · have h := if_t c2 h
        cases h
        exact p_vret C dX4_addNearestPair_124
      · have h := if_f c2 h
        refine p_aload_n C dX4_addNearestPair_115 rfl 0 rfl ?_
        refine p_aload_n C dX4_addNearestPair_116 rfl 1 rfl ?_
        refine p_iload C dX4_addNearestPair_117 rfl 4 rfl ?_
        refine p_iload C dX4_addNearestPair_119 rfl 5 rfl ?_
        obtain ⟨z_total3, z_left4, z_right5, hc6, h⟩ := bd3_of h
        refine p_callVv (As := [.ref ab0, .int v4, .int v5]) (st' := []) (Wd' := (V_TB x.1.2.2 at0 at1 at2 at3 at4 ab0 ab1 ab2 ab3 z_total3 t_oft z_left4 z_right5 t_group t_paired b_points b_near b_loose b_short b_nets b_xs b_ys)) C (c_X4_addTry x.1 (at0 := at0) (at1 := at1) (at2 := at2) (at3 := at3) (at4 := at4) (ab0 := ab0) (ab1 := ab1) (ab2 := ab2) (ab3 := ab3) (t_oft := t_oft) (t_group := t_group) (t_paired := t_paired) (b_points := b_points) (b_near := b_near) (b_loose := b_loose) (b_short := b_short) (b_nets := b_nets) (b_ys := b_ys) hc6) dX4_addNearestPair_121 rfl ml_X4_65 kv_X4_addTry ds_X4_addTry ⟨rfl, rfl, by decide, by decide⟩ 0 rfl rfl [0, 1, 2, 3, 4, 5, 6, 7, 8] rfl rfl rfl rfl (by decide) ⟨by decide, by decide⟩ rfl ?_
        cases h
        exact p_vret C dX4_addNearestPair_124
    · have h := if_f c1 h
      refine p_iconst (v := (0 : Int32)) C dX4_addNearestPair_21 rfl (by decide) ?_
      refine p_istore (lv' := [(8, .int ((0 : Int32))), (0, .ref at0), (1, .ref ab0), (2, .int v2), (3, .int v3), (4, .int v4), (5, .int v5), (6, .int v6), (7, .int v7)]) C dX4_addNearestPair_22 rfl (by decide) rfl ?_
      refine p_locals [1, 2, 3, 4, 5, 6, 7, 8, 0] (lv' := [(0, .ref at0), (1, .ref ab0), (2, .int v2), (3, .int v3), (4, .int v4), (5, .int v5), (6, .int v6), (7, .int v7), (8, .int ((0 : Int32)))]) rfl ?_
      exact tl_X4_addNearestPair_24 C (fun u0 u1 u2 u3 h => ih u0 u1 u2 u3 h) FU _ _ _ _ h
def m_X4_addNearestPair (t_total : Int32) (t_left : Ar) (t_right : Ar) (b_points : Int32) (b_near : Int32) (b_nets : Ar) (b_xs : Ar) (b_ys : Ar) (p2 : Int32) (p3 : Int32) : Option (Int32 × Ar × Ar) := L_X4_addNearestPair_12 t_total t_left t_right b_points b_near b_nets b_xs b_ys p2 p3 FU ((-1 : Int32)) ((-1 : Int32)) ((0 : Int32)) ((0 : Int32))
theorem ds_X4_addNearestPair : (yX4_addNearestPair).cls ≠ "java/lang/invoke/MethodHandle" ∧ (yX4_addNearestPair).cls ≠ "java/lang/invoke/VarHandle" ∧ (parseMethodDescriptor (yX4_addNearestPair).desc).map (fun d => d.parameters.length) = some 3 := by decide +kernel
set_option maxHeartbeats 4000000 in
set_option maxRecDepth 100000 in
theorem c_X4_addNearestPair (E : En) {at0 at1 at2 at3 at4 ab0 ab1 ab2 ab3 : Nat} {t_total : Int32} {t_oft : Int32} {t_left : Ar} {t_right : Ar} {t_group : Ar} {t_paired : Ar} {b_points : Int32} {b_near : Int32} {b_loose : Int32} {b_short : Int32} {b_nets : Ar} {b_xs : Ar} {b_ys : Ar} {p2 : Int32} {p3 : Int32} {q_t_total : Int32} {q_t_left : Ar} {q_t_right : Ar} (h : m_X4_addNearestPair t_total t_left t_right b_points b_near b_nets b_xs b_ys p2 p3 = some (q_t_total, q_t_left, q_t_right)) : Cv E yX4_addNearestPair (wU yX4_addNearestPair cX4_addNearestPair 10 none) (RM 2 46) [.ref at0, .ref ab0, .int p2, .int p3] (V_TB E.2.2 at0 at1 at2 at3 at4 ab0 ab1 ab2 ab3 t_total t_oft t_left t_right t_group t_paired b_points b_near b_loose b_short b_nets b_xs b_ys) (V_TB E.2.2 at0 at1 at2 at3 at4 ab0 ab1 ab2 ab3 q_t_total t_oft q_t_left q_t_right t_group t_paired b_points b_near b_loose b_short b_nets b_xs b_ys) := by
  refine Cv.of (by decide) (Nat.le_of_ble_eq_true rfl) ?_
  intro x hE C
  subst hE
  have C : CX RX4 cX4_addNearestPair 10 none x := C
  refine p_locals [0, 1, 2, 3] (lv' := [(0, .ref at0), (1, .ref ab0), (2, .int p2), (3, .int p3)]) rfl ?_
  unfold m_X4_addNearestPair at h
  refine p_iconst (v := (-1 : Int32)) C dX4_addNearestPair_0 rfl (by decide) ?_
  refine p_istore (lv' := [(4, .int ((-1 : Int32))), (0, .ref at0), (1, .ref ab0), (2, .int p2), (3, .int p3)]) C dX4_addNearestPair_1 rfl (by decide) rfl ?_
  refine p_iconst (v := (-1 : Int32)) C dX4_addNearestPair_3 rfl (by decide) ?_
  refine p_istore (lv' := [(5, .int ((-1 : Int32))), (4, .int ((-1 : Int32))), (0, .ref at0), (1, .ref ab0), (2, .int p2), (3, .int p3)]) C dX4_addNearestPair_4 rfl (by decide) rfl ?_
  refine p_iconst (v := (0 : Int32)) C dX4_addNearestPair_6 rfl (by decide) ?_
  refine p_istore (lv' := [(6, .int ((0 : Int32))), (5, .int ((-1 : Int32))), (4, .int ((-1 : Int32))), (0, .ref at0), (1, .ref ab0), (2, .int p2), (3, .int p3)]) C dX4_addNearestPair_7 rfl (by decide) rfl ?_
  refine p_iconst (v := (0 : Int32)) C dX4_addNearestPair_9 rfl (by decide) ?_
  refine p_istore (lv' := [(7, .int ((0 : Int32))), (6, .int ((0 : Int32))), (5, .int ((-1 : Int32))), (4, .int ((-1 : Int32))), (0, .ref at0), (1, .ref ab0), (2, .int p2), (3, .int p3)]) C dX4_addNearestPair_10 rfl (by decide) rfl ?_
  refine p_locals [4, 5, 6, 7, 3, 2, 1, 0] (lv' := [(0, .ref at0), (1, .ref ab0), (2, .int p2), (3, .int p3), (4, .int ((-1 : Int32))), (5, .int ((-1 : Int32))), (6, .int ((0 : Int32))), (7, .int ((0 : Int32)))]) rfl ?_
  exact tl_X4_addNearestPair_12 C  FU _ _ _ _ h
def B_X4_addNeighbours_2 (b_points : Int32) (b_near : Int32) (b_nets : Ar) (b_xs : Ar) (b_ys : Ar)   (kk : Int32 → Int32 → Ar → Ar → Option (Int32 × Ar × Ar)) (v2 : Int32) (t_total : Int32) (t_left : Ar) (t_right : Ar) : Option (Int32 × Ar × Ar) := if ((6 : Int32)) ≤ v2 then (some (t_total, t_left, t_right)) else (grd (gI v2 6) (grd (gI v2 6) (bd3 (m_X4_addNearestPair t_total t_left t_right b_points b_near b_nets b_xs b_ys (LNf v2.toNatClampNeg) (GNf v2.toNatClampNeg)) (fun z_total8 z_left9 z_right10 => kk (v2 + 1) z_total8 z_left9 z_right10))))
def L_X4_addNeighbours_2 (b_points : Int32) (b_near : Int32) (b_nets : Ar) (b_xs : Ar) (b_ys : Ar)   : Nat → Int32 → Int32 → Ar → Ar → Option (Int32 × Ar × Ar) := lpG (fun _ _ _ _ => none) (B_X4_addNeighbours_2 b_points b_near b_nets b_xs b_ys)
set_option maxHeartbeats 4000000 in
set_option maxRecDepth 100000 in
theorem tl_X4_addNeighbours_2 {x : Cxt} {at0 at1 at2 at3 at4 ab0 ab1 ab2 ab3 : Nat} {t_oft : Int32} {t_group : Ar} {t_paired : Ar} {b_points : Int32} {b_near : Int32} {b_loose : Int32} {b_short : Int32} {b_nets : Ar} {b_xs : Ar} {b_ys : Ar}   {q_t_total : Int32} {q_t_left : Ar} {q_t_right : Ar} (C : CX RX4 cX4_addNeighbours 3 none x)  : ∀ (n : Nat) (v2 : Int32) (t_total : Int32) (t_left : Ar) (t_right : Ar), L_X4_addNeighbours_2 b_points b_near b_nets b_xs b_ys n v2 t_total t_left t_right = some (q_t_total, q_t_left, q_t_right) → PT (RM 3 75) 3 x 2 [(0, .ref at0), (1, .ref ab0), (2, .int v2)] [] (V_TB x.1.2.2 at0 at1 at2 at3 at4 ab0 ab1 ab2 ab3 t_total t_oft t_left t_right t_group t_paired b_points b_near b_loose b_short b_nets b_xs b_ys) 0 0 (QV x (V_TB x.1.2.2 at0 at1 at2 at3 at4 ab0 ab1 ab2 ab3 q_t_total t_oft q_t_left q_t_right t_group t_paired b_points b_near b_loose b_short b_nets b_xs b_ys)) := by
  intro n
  induction n with
  | zero =>
    intro v2 t_total t_left t_right h
    cases h
  | succ n ih =>
    intro v2 t_total t_left t_right h
    have h : B_X4_addNeighbours_2 b_points b_near b_nets b_xs b_ys (L_X4_addNeighbours_2 b_points b_near b_nets b_xs b_ys n) v2 t_total t_left t_right = some (q_t_total, q_t_left, q_t_right) := h
    unfold B_X4_addNeighbours_2 at h
    refine p_iload_n C dX4_addNeighbours_2 rfl 2 rfl ?_
    refine p_bipush (v := (6 : Int32)) C dX4_addNeighbours_3 rfl (by decide) ?_
    refine p_icmp_ge C dX4_addNeighbours_5 (tgt := 29) (by decide) rfl (fun c1 => ?_) (fun c1 => ?_)
    · have h := if_t c1 h
      cases h
      exact p_vret C dX4_addNeighbours_29
    · have h := if_f c1 h
      refine p_aload_n C dX4_addNeighbours_8 rfl 0 rfl ?_
      refine p_aload_n C dX4_addNeighbours_9 rfl 1 rfl ?_
      refine p_getsLN C dX4_addNeighbours_10 rfl nf_X4_69 (fun tt2 hT3 => ?_)
      refine p_iload_n C dX4_addNeighbours_13 rfl 2 rfl ?_
      obtain ⟨g4, h⟩ := grd_of h
      refine p_tald C hT3 dX4_addNeighbours_14 rfl g4 ?_
      refine p_getsGN C dX4_addNeighbours_15 rfl nf_X4_72 (fun tt5 hT6 => ?_)
      refine p_iload_n C dX4_addNeighbours_18 rfl 2 rfl ?_
      obtain ⟨g7, h⟩ := grd_of h
      refine p_tald C hT6 dX4_addNeighbours_19 rfl g7 ?_
      obtain ⟨z_total8, z_left9, z_right10, hc11, h⟩ := bd3_of h
      refine p_callVv (As := [.ref ab0, .int (LNf v2.toNatClampNeg), .int (GNf v2.toNatClampNeg)]) (st' := []) (Wd' := (V_TB x.1.2.2 at0 at1 at2 at3 at4 ab0 ab1 ab2 ab3 z_total8 t_oft z_left9 z_right10 t_group t_paired b_points b_near b_loose b_short b_nets b_xs b_ys)) C (c_X4_addNearestPair x.1 (at0 := at0) (at1 := at1) (at2 := at2) (at3 := at3) (at4 := at4) (ab0 := ab0) (ab1 := ab1) (ab2 := ab2) (ab3 := ab3) (t_oft := t_oft) (t_group := t_group) (t_paired := t_paired) (b_loose := b_loose) (b_short := b_short) hc11) dX4_addNeighbours_20 rfl ml_X4_75 kv_X4_addNearestPair ds_X4_addNearestPair ⟨rfl, rfl, by decide, by decide⟩ 0 rfl rfl [0, 1, 2, 3, 4, 5, 6, 7, 8] rfl rfl rfl rfl (by decide) ⟨by decide, by decide⟩ rfl ?_
      refine p_iinc (w := v2 + 1) (lv' := [(2, .int (v2 + 1)), (0, .ref at0), (1, .ref ab0)]) C dX4_addNeighbours_23 rfl 2 rfl rfl (by decide) rfl ?_
      refine p_goto C dX4_addNeighbours_26 (pc' := 2) (by decide) ?_
      refine p_locals [1, 2, 0] (lv' := [(0, .ref at0), (1, .ref ab0), (2, .int (v2 + 1))]) rfl ?_
      exact ih _ _ _ _ h
def m_X4_addNeighbours (t_total : Int32) (t_left : Ar) (t_right : Ar) (b_points : Int32) (b_near : Int32) (b_nets : Ar) (b_xs : Ar) (b_ys : Ar)  : Option (Int32 × Ar × Ar) := L_X4_addNeighbours_2 b_points b_near b_nets b_xs b_ys FU ((0 : Int32)) t_total t_left t_right
theorem ds_X4_addNeighbours : (yX4_addNeighbours).cls ≠ "java/lang/invoke/MethodHandle" ∧ (yX4_addNeighbours).cls ≠ "java/lang/invoke/VarHandle" ∧ (parseMethodDescriptor (yX4_addNeighbours).desc).map (fun d => d.parameters.length) = some 1 := by decide +kernel
set_option maxHeartbeats 4000000 in
set_option maxRecDepth 100000 in
theorem c_X4_addNeighbours (E : En) {at0 at1 at2 at3 at4 ab0 ab1 ab2 ab3 : Nat} {t_total : Int32} {t_oft : Int32} {t_left : Ar} {t_right : Ar} {t_group : Ar} {t_paired : Ar} {b_points : Int32} {b_near : Int32} {b_loose : Int32} {b_short : Int32} {b_nets : Ar} {b_xs : Ar} {b_ys : Ar}  {q_t_total : Int32} {q_t_left : Ar} {q_t_right : Ar} (h : m_X4_addNeighbours t_total t_left t_right b_points b_near b_nets b_xs b_ys = some (q_t_total, q_t_left, q_t_right)) : Cv E yX4_addNeighbours (wU yX4_addNeighbours cX4_addNeighbours 3 none) (RM 3 75) [.ref at0, .ref ab0] (V_TB E.2.2 at0 at1 at2 at3 at4 ab0 ab1 ab2 ab3 t_total t_oft t_left t_right t_group t_paired b_points b_near b_loose b_short b_nets b_xs b_ys) (V_TB E.2.2 at0 at1 at2 at3 at4 ab0 ab1 ab2 ab3 q_t_total t_oft q_t_left q_t_right t_group t_paired b_points b_near b_loose b_short b_nets b_xs b_ys) := by
  refine Cv.of (by decide) (Nat.le_of_ble_eq_true rfl) ?_
  intro x hE C
  subst hE
  have C : CX RX4 cX4_addNeighbours 3 none x := C
  refine p_locals [0, 1] (lv' := [(0, .ref at0), (1, .ref ab0)]) rfl ?_
  unfold m_X4_addNeighbours at h
  refine p_iconst (v := (0 : Int32)) C dX4_addNeighbours_0 rfl (by decide) ?_
  refine p_istore_n (lv' := [(2, .int ((0 : Int32))), (0, .ref at0), (1, .ref ab0)]) C dX4_addNeighbours_1 rfl (by decide) rfl ?_
  refine p_locals [1, 2, 0] (lv' := [(0, .ref at0), (1, .ref ab0), (2, .int ((0 : Int32)))]) rfl ?_
  exact tl_X4_addNeighbours_2 C  FU _ _ _ _ h
def J_X4_addTrees_63 (t_total : Int32) (t_left : Ar) (t_right : Ar) (t_paired : Ar) (b_points : Int32) (b_nets : Ar) (b_xs : Ar) (k22 : Int32 → Int32 → Ar → Ar → Option (Int32 × Ar × Ar)) (k9 : Int32 → Int32 → Ar → Ar → Option (Int32 × Ar × Ar)) (k2 : Int32 → Int32 → Ar → Ar → Option (Int32 × Ar × Ar))  (v2 : Int32) (v3 : Int32) (v4 : Int32) : Option (Int32 × Ar × Ar) := k22 (v4 + 1) t_total t_left t_right
set_option maxHeartbeats 4000000 in
set_option maxRecDepth 100000 in
theorem tj_X4_addTrees_63 {x : Cxt} {at0 at1 at2 at3 at4 ab0 ab1 ab2 ab3 : Nat} {t_total : Int32} {t_oft : Int32} {t_left : Ar} {t_right : Ar} {t_group : Ar} {t_paired : Ar} {b_points : Int32} {b_near : Int32} {b_loose : Int32} {b_short : Int32} {b_nets : Ar} {b_xs : Ar} {b_ys : Ar} {k22 : Int32 → Int32 → Ar → Ar → Option (Int32 × Ar × Ar)} {k9 : Int32 → Int32 → Ar → Ar → Option (Int32 × Ar × Ar)} {k2 : Int32 → Int32 → Ar → Ar → Option (Int32 × Ar × Ar)}  {v2 : Int32} {v3 : Int32} {v4 : Int32} {q_t_total : Int32} {q_t_left : Ar} {q_t_right : Ar} (C : CX RX4 cX4_addTrees 5 none x) (hk22 : ∀ (w4 : Int32) (w_t_total : Int32) (w_t_left : Ar) (w_t_right : Ar), k22 w4 w_t_total w_t_left w_t_right = some (q_t_total, q_t_left, q_t_right) → PT (RM 2 46) 5 x 22 [(0, .ref at0), (1, .ref ab0), (2, .int v2), (3, .int v3), (4, .int w4)] [] (V_TB x.1.2.2 at0 at1 at2 at3 at4 ab0 ab1 ab2 ab3 w_t_total t_oft w_t_left w_t_right t_group t_paired b_points b_near b_loose b_short b_nets b_xs b_ys) 0 0 (QV x (V_TB x.1.2.2 at0 at1 at2 at3 at4 ab0 ab1 ab2 ab3 q_t_total t_oft q_t_left q_t_right t_group t_paired b_points b_near b_loose b_short b_nets b_xs b_ys))) (hk9 : ∀ (w3 : Int32) (w_t_total : Int32) (w_t_left : Ar) (w_t_right : Ar), k9 w3 w_t_total w_t_left w_t_right = some (q_t_total, q_t_left, q_t_right) → PT (RM 2 46) 5 x 9 [(0, .ref at0), (1, .ref ab0), (2, .int v2), (3, .int w3)] [] (V_TB x.1.2.2 at0 at1 at2 at3 at4 ab0 ab1 ab2 ab3 w_t_total t_oft w_t_left w_t_right t_group t_paired b_points b_near b_loose b_short b_nets b_xs b_ys) 0 0 (QV x (V_TB x.1.2.2 at0 at1 at2 at3 at4 ab0 ab1 ab2 ab3 q_t_total t_oft q_t_left q_t_right t_group t_paired b_points b_near b_loose b_short b_nets b_xs b_ys))) (hk2 : ∀ (w2 : Int32) (w_t_total : Int32) (w_t_left : Ar) (w_t_right : Ar), k2 w2 w_t_total w_t_left w_t_right = some (q_t_total, q_t_left, q_t_right) → PT (RM 2 46) 5 x 2 [(0, .ref at0), (1, .ref ab0), (2, .int w2)] [] (V_TB x.1.2.2 at0 at1 at2 at3 at4 ab0 ab1 ab2 ab3 w_t_total t_oft w_t_left w_t_right t_group t_paired b_points b_near b_loose b_short b_nets b_xs b_ys) 0 0 (QV x (V_TB x.1.2.2 at0 at1 at2 at3 at4 ab0 ab1 ab2 ab3 q_t_total t_oft q_t_left q_t_right t_group t_paired b_points b_near b_loose b_short b_nets b_xs b_ys))) (h : J_X4_addTrees_63 t_total t_left t_right t_paired b_points b_nets b_xs k22 k9 k2 v2 v3 v4 = some (q_t_total, q_t_left, q_t_right)) : PT (RM 2 46) 5 x 63 [(0, .ref at0), (1, .ref ab0), (2, .int v2), (3, .int v3), (4, .int v4)] [] (V_TB x.1.2.2 at0 at1 at2 at3 at4 ab0 ab1 ab2 ab3 t_total t_oft t_left t_right t_group t_paired b_points b_near b_loose b_short b_nets b_xs b_ys) 0 0 (QV x (V_TB x.1.2.2 at0 at1 at2 at3 at4 ab0 ab1 ab2 ab3 q_t_total t_oft q_t_left q_t_right t_group t_paired b_points b_near b_loose b_short b_nets b_xs b_ys)) := by
  unfold J_X4_addTrees_63 at h
  refine p_iinc (w := v4 + 1) (lv' := [(4, .int (v4 + 1)), (0, .ref at0), (1, .ref ab0), (2, .int v2), (3, .int v3)]) C dX4_addTrees_63 rfl 4 rfl rfl (by decide) rfl ?_
  refine p_goto C dX4_addTrees_66 (pc' := 22) (by decide) ?_
  refine p_locals [1, 2, 3, 4, 0] (lv' := [(0, .ref at0), (1, .ref ab0), (2, .int v2), (3, .int v3), (4, .int (v4 + 1))]) rfl ?_
  exact hk22 _ _ _ _ h
def B_X4_addTrees_22 (t_paired : Ar) (b_points : Int32) (b_nets : Ar) (b_xs : Ar) (k9 : Int32 → Int32 → Ar → Ar → Option (Int32 × Ar × Ar)) (k2 : Int32 → Int32 → Ar → Ar → Option (Int32 × Ar × Ar)) (v2 : Int32) (v3 : Int32) (kk : Int32 → Int32 → Ar → Ar → Option (Int32 × Ar × Ar)) (v4 : Int32) (t_total : Int32) (t_left : Ar) (t_right : Ar) : Option (Int32 × Ar × Ar) := if b_points ≤ v4 then (k9 (v3 + 1) t_total t_left t_right) else (grd (gI v3 8) (if (b_nets v3.toNatClampNeg) = v2 then (grd (gI v3 8) (bd1 (m_X5_isIn (t_paired v3.toNatClampNeg) v4) (fun r5 => if r5 = 0 then (J_X4_addTrees_63 t_total t_left t_right t_paired b_points b_nets b_xs (kk) (k9) (k2) v2 v3 v4) else (bd3 (m_X4_addTry t_total t_left t_right b_xs v3 v4) (fun z_total8 z_left9 z_right10 => J_X4_addTrees_63 z_total8 z_left9 z_right10 t_paired b_points b_nets b_xs (kk) (k9) (k2) v2 v3 v4))))) else (J_X4_addTrees_63 t_total t_left t_right t_paired b_points b_nets b_xs (kk) (k9) (k2) v2 v3 v4)))
def L_X4_addTrees_22 (t_paired : Ar) (b_points : Int32) (b_nets : Ar) (b_xs : Ar) (k9 : Int32 → Int32 → Ar → Ar → Option (Int32 × Ar × Ar)) (k2 : Int32 → Int32 → Ar → Ar → Option (Int32 × Ar × Ar)) (v2 : Int32) (v3 : Int32) : Nat → Int32 → Int32 → Ar → Ar → Option (Int32 × Ar × Ar) := lpG (fun _ _ _ _ => none) (B_X4_addTrees_22 t_paired b_points b_nets b_xs k9 k2 v2 v3)
set_option maxHeartbeats 4000000 in
set_option maxRecDepth 100000 in
theorem tl_X4_addTrees_22 {x : Cxt} {at0 at1 at2 at3 at4 ab0 ab1 ab2 ab3 : Nat} {t_oft : Int32} {t_group : Ar} {t_paired : Ar} {b_points : Int32} {b_near : Int32} {b_loose : Int32} {b_short : Int32} {b_nets : Ar} {b_xs : Ar} {b_ys : Ar} {k9 : Int32 → Int32 → Ar → Ar → Option (Int32 × Ar × Ar)} {k2 : Int32 → Int32 → Ar → Ar → Option (Int32 × Ar × Ar)} {v2 : Int32} {v3 : Int32} {q_t_total : Int32} {q_t_left : Ar} {q_t_right : Ar} (C : CX RX4 cX4_addTrees 5 none x) (hk9 : ∀ (w3 : Int32) (w_t_total : Int32) (w_t_left : Ar) (w_t_right : Ar), k9 w3 w_t_total w_t_left w_t_right = some (q_t_total, q_t_left, q_t_right) → PT (RM 2 46) 5 x 9 [(0, .ref at0), (1, .ref ab0), (2, .int v2), (3, .int w3)] [] (V_TB x.1.2.2 at0 at1 at2 at3 at4 ab0 ab1 ab2 ab3 w_t_total t_oft w_t_left w_t_right t_group t_paired b_points b_near b_loose b_short b_nets b_xs b_ys) 0 0 (QV x (V_TB x.1.2.2 at0 at1 at2 at3 at4 ab0 ab1 ab2 ab3 q_t_total t_oft q_t_left q_t_right t_group t_paired b_points b_near b_loose b_short b_nets b_xs b_ys))) (hk2 : ∀ (w2 : Int32) (w_t_total : Int32) (w_t_left : Ar) (w_t_right : Ar), k2 w2 w_t_total w_t_left w_t_right = some (q_t_total, q_t_left, q_t_right) → PT (RM 2 46) 5 x 2 [(0, .ref at0), (1, .ref ab0), (2, .int w2)] [] (V_TB x.1.2.2 at0 at1 at2 at3 at4 ab0 ab1 ab2 ab3 w_t_total t_oft w_t_left w_t_right t_group t_paired b_points b_near b_loose b_short b_nets b_xs b_ys) 0 0 (QV x (V_TB x.1.2.2 at0 at1 at2 at3 at4 ab0 ab1 ab2 ab3 q_t_total t_oft q_t_left q_t_right t_group t_paired b_points b_near b_loose b_short b_nets b_xs b_ys))) : ∀ (n : Nat) (v4 : Int32) (t_total : Int32) (t_left : Ar) (t_right : Ar), L_X4_addTrees_22 t_paired b_points b_nets b_xs k9 k2 v2 v3 n v4 t_total t_left t_right = some (q_t_total, q_t_left, q_t_right) → PT (RM 2 46) 5 x 22 [(0, .ref at0), (1, .ref ab0), (2, .int v2), (3, .int v3), (4, .int v4)] [] (V_TB x.1.2.2 at0 at1 at2 at3 at4 ab0 ab1 ab2 ab3 t_total t_oft t_left t_right t_group t_paired b_points b_near b_loose b_short b_nets b_xs b_ys) 0 0 (QV x (V_TB x.1.2.2 at0 at1 at2 at3 at4 ab0 ab1 ab2 ab3 q_t_total t_oft q_t_left q_t_right t_group t_paired b_points b_near b_loose b_short b_nets b_xs b_ys)) := by
  intro n
  induction n with
  | zero =>
    intro v4 t_total t_left t_right h
    cases h
  | succ n ih =>
    intro v4 t_total t_left t_right h
    have h : B_X4_addTrees_22 t_paired b_points b_nets b_xs k9 k2 v2 v3 (L_X4_addTrees_22 t_paired b_points b_nets b_xs k9 k2 v2 v3 n) v4 t_total t_left t_right = some (q_t_total, q_t_left, q_t_right) := h
    unfold B_X4_addTrees_22 at h
    refine p_iload C dX4_addTrees_22 rfl 4 rfl ?_
    refine p_aload_n C dX4_addTrees_24 rfl 1 rfl ?_
    refine p_getN C dX4_addTrees_25 rfl 5 3 inlX0 nf_X4_41 rfl rfl (by decide) rfl rfl ?_
    refine p_icmp_ge C dX4_addTrees_28 (tgt := 69) (by decide) rfl (fun c1 => ?_) (fun c1 => ?_)
    · have h := if_t c1 h
      refine p_iinc (w := v3 + 1) (lv' := [(3, .int (v3 + 1)), (0, .ref at0), (1, .ref ab0), (2, .int v2), (4, .int v4)]) C dX4_addTrees_69 rfl 3 rfl rfl (by decide) rfl ?_
      refine p_goto C dX4_addTrees_72 (pc' := 9) (by decide) ?_
      refine p_locals [1, 2, 3, 0] (lv' := [(0, .ref at0), (1, .ref ab0), (2, .int v2), (3, .int (v3 + 1))]) rfl ?_
      exact hk9 _ _ _ _ h
    · have h := if_f c1 h
      refine p_aload_n C dX4_addTrees_31 rfl 1 rfl ?_
      refine p_getN C dX4_addTrees_32 rfl 5 0 inlX0 nf_X4_50 rfl rfl (by decide) rfl rfl ?_
      refine p_iload_n C dX4_addTrees_35 rfl 3 rfl ?_
      obtain ⟨g2, h⟩ := grd_of h
      refine p_iald C dX4_addTrees_36 rfl 6 rfl g2 ?_
      refine p_iload_n C dX4_addTrees_37 rfl 2 rfl ?_
      refine p_icmp_ne C dX4_addTrees_38 (tgt := 63) (by decide) rfl (fun c3 => ?_) (fun c3 => ?_)
      · have h := if_f c3 h
        refine p_locals [0, 1, 2, 3, 4] (lv' := [(0, .ref at0), (1, .ref ab0), (2, .int v2), (3, .int v3), (4, .int v4)]) rfl ?_
        exact tj_X4_addTrees_63 C (fun u0 u1 u2 u3 h => ih u0 u1 u2 u3 h) (fun u0 u1 u2 u3 h => hk9 u0 u1 u2 u3 h) (fun u0 u1 u2 u3 h => hk2 u0 u1 u2 u3 h) h
      · have h := if_t c3 h
        refine p_aload_n C dX4_addTrees_41 rfl 0 rfl ?_
        refine p_get C dX4_addTrees_42 rfl 0 5 inlX4 fl_X4_28 rfl rfl (by decide) rfl rfl ?_
        refine p_iload_n C dX4_addTrees_45 rfl 3 rfl ?_
        obtain ⟨g4, h⟩ := grd_of h
        refine p_iald C dX4_addTrees_46 rfl 4 rfl g4 ?_
        refine p_iload C dX4_addTrees_47 rfl 4 rfl ?_
        obtain ⟨r5, hc6, h⟩ := bd1_of h
        refine p_callSNi (As := [.int (t_paired v3.toNatClampNeg), .int v4]) (st' := []) (Wd' := (V_TB x.1.2.2 at0 at1 at2 at3 at4 ab0 ab1 ab2 ab3 t_total t_oft t_left t_right t_group t_paired b_points b_near b_loose b_short b_nets b_xs b_ys)) C (c_X5_isIn x.1 hc6) dX4_addTrees_49 rfl nm_X4_61 ks_X5_isIn ds_X5_isIn ⟨rfl, rfl, by decide, by decide⟩ [] rfl rfl rfl rfl (by decide) ⟨by decide, by decide⟩ rfl ?_
        refine p_if_eq C dX4_addTrees_52 (tgt := 63) (by decide) rfl (fun c7 => ?_) (fun c7 => ?_)
        · have h := if_t c7 h
          refine p_locals [0, 1, 2, 3, 4] (lv' := [(0, .ref at0), (1, .ref ab0), (2, .int v2), (3, .int v3), (4, .int v4)]) rfl ?_
          exact tj_X4_addTrees_63 C (fun u0 u1 u2 u3 h => ih u0 u1 u2 u3 h) (fun u0 u1 u2 u3 h => hk9 u0 u1 u2 u3 h) (fun u0 u1 u2 u3 h => hk2 u0 u1 u2 u3 h) h
        · have h := if_f c7 h
          refine p_aload_n C dX4_addTrees_55 rfl 0 rfl ?_
          refine p_aload_n C dX4_addTrees_56 rfl 1 rfl ?_
          refine p_iload_n C dX4_addTrees_57 rfl 3 rfl ?_
          refine p_iload C dX4_addTrees_58 rfl 4 rfl ?_
          obtain ⟨z_total8, z_left9, z_right10, hc11, h⟩ := bd3_of h
          refine p_callVv (As := [.ref ab0, .int v3, .int v4]) (st' := []) (Wd' := (V_TB x.1.2.2 at0 at1 at2 at3 at4 ab0 ab1 ab2 ab3 z_total8 t_oft z_left9 z_right10 t_group t_paired b_points b_near b_loose b_short b_nets b_xs b_ys)) C (c_X4_addTry x.1 (at0 := at0) (at1 := at1) (at2 := at2) (at3 := at3) (at4 := at4) (ab0 := ab0) (ab1 := ab1) (ab2 := ab2) (ab3 := ab3) (t_oft := t_oft) (t_group := t_group) (t_paired := t_paired) (b_points := b_points) (b_near := b_near) (b_loose := b_loose) (b_short := b_short) (b_nets := b_nets) (b_ys := b_ys) hc11) dX4_addTrees_60 rfl ml_X4_65 kv_X4_addTry ds_X4_addTry ⟨rfl, rfl, by decide, by decide⟩ 0 rfl rfl [0, 1, 2, 3, 4, 5, 6, 7, 8] rfl rfl rfl rfl (by decide) ⟨by decide, by decide⟩ rfl ?_
          refine p_locals [0, 1, 2, 3, 4] (lv' := [(0, .ref at0), (1, .ref ab0), (2, .int v2), (3, .int v3), (4, .int v4)]) rfl ?_
          exact tj_X4_addTrees_63 C (fun u0 u1 u2 u3 h => ih u0 u1 u2 u3 h) (fun u0 u1 u2 u3 h => hk9 u0 u1 u2 u3 h) (fun u0 u1 u2 u3 h => hk2 u0 u1 u2 u3 h) h
def B_X4_addTrees_9 (t_paired : Ar) (b_points : Int32) (b_nets : Ar) (b_xs : Ar) (k2 : Int32 → Int32 → Ar → Ar → Option (Int32 × Ar × Ar)) (v2 : Int32) (kk : Int32 → Int32 → Ar → Ar → Option (Int32 × Ar × Ar)) (v3 : Int32) (t_total : Int32) (t_left : Ar) (t_right : Ar) : Option (Int32 × Ar × Ar) := if b_points ≤ v3 then (k2 (v2 + 1) t_total t_left t_right) else (L_X4_addTrees_22 t_paired b_points b_nets b_xs kk k2 v2 v3 FU (v3 + ((1 : Int32))) t_total t_left t_right)
def L_X4_addTrees_9 (t_paired : Ar) (b_points : Int32) (b_nets : Ar) (b_xs : Ar) (k2 : Int32 → Int32 → Ar → Ar → Option (Int32 × Ar × Ar)) (v2 : Int32) : Nat → Int32 → Int32 → Ar → Ar → Option (Int32 × Ar × Ar) := lpG (fun _ _ _ _ => none) (B_X4_addTrees_9 t_paired b_points b_nets b_xs k2 v2)
set_option maxHeartbeats 4000000 in
set_option maxRecDepth 100000 in
theorem tl_X4_addTrees_9 {x : Cxt} {at0 at1 at2 at3 at4 ab0 ab1 ab2 ab3 : Nat} {t_oft : Int32} {t_group : Ar} {t_paired : Ar} {b_points : Int32} {b_near : Int32} {b_loose : Int32} {b_short : Int32} {b_nets : Ar} {b_xs : Ar} {b_ys : Ar} {k2 : Int32 → Int32 → Ar → Ar → Option (Int32 × Ar × Ar)} {v2 : Int32} {q_t_total : Int32} {q_t_left : Ar} {q_t_right : Ar} (C : CX RX4 cX4_addTrees 5 none x) (hk2 : ∀ (w2 : Int32) (w_t_total : Int32) (w_t_left : Ar) (w_t_right : Ar), k2 w2 w_t_total w_t_left w_t_right = some (q_t_total, q_t_left, q_t_right) → PT (RM 2 46) 5 x 2 [(0, .ref at0), (1, .ref ab0), (2, .int w2)] [] (V_TB x.1.2.2 at0 at1 at2 at3 at4 ab0 ab1 ab2 ab3 w_t_total t_oft w_t_left w_t_right t_group t_paired b_points b_near b_loose b_short b_nets b_xs b_ys) 0 0 (QV x (V_TB x.1.2.2 at0 at1 at2 at3 at4 ab0 ab1 ab2 ab3 q_t_total t_oft q_t_left q_t_right t_group t_paired b_points b_near b_loose b_short b_nets b_xs b_ys))) : ∀ (n : Nat) (v3 : Int32) (t_total : Int32) (t_left : Ar) (t_right : Ar), L_X4_addTrees_9 t_paired b_points b_nets b_xs k2 v2 n v3 t_total t_left t_right = some (q_t_total, q_t_left, q_t_right) → PT (RM 2 46) 5 x 9 [(0, .ref at0), (1, .ref ab0), (2, .int v2), (3, .int v3)] [] (V_TB x.1.2.2 at0 at1 at2 at3 at4 ab0 ab1 ab2 ab3 t_total t_oft t_left t_right t_group t_paired b_points b_near b_loose b_short b_nets b_xs b_ys) 0 0 (QV x (V_TB x.1.2.2 at0 at1 at2 at3 at4 ab0 ab1 ab2 ab3 q_t_total t_oft q_t_left q_t_right t_group t_paired b_points b_near b_loose b_short b_nets b_xs b_ys)) := by
  intro n
  induction n with
  | zero =>
    intro v3 t_total t_left t_right h
    cases h
  | succ n ih =>
    intro v3 t_total t_left t_right h
    have h : B_X4_addTrees_9 t_paired b_points b_nets b_xs k2 v2 (L_X4_addTrees_9 t_paired b_points b_nets b_xs k2 v2 n) v3 t_total t_left t_right = some (q_t_total, q_t_left, q_t_right) := h
    unfold B_X4_addTrees_9 at h
    refine p_iload_n C dX4_addTrees_9 rfl 3 rfl ?_
    refine p_aload_n C dX4_addTrees_10 rfl 1 rfl ?_
    refine p_getN C dX4_addTrees_11 rfl 5 3 inlX0 nf_X4_41 rfl rfl (by decide) rfl rfl ?_
    refine p_icmp_ge C dX4_addTrees_14 (tgt := 75) (by decide) rfl (fun c1 => ?_) (fun c1 => ?_)
    · have h := if_t c1 h
      refine p_iinc (w := v2 + 1) (lv' := [(2, .int (v2 + 1)), (0, .ref at0), (1, .ref ab0), (3, .int v3)]) C dX4_addTrees_75 rfl 2 rfl rfl (by decide) rfl ?_
      refine p_goto C dX4_addTrees_78 (pc' := 2) (by decide) ?_
      refine p_locals [1, 2, 0] (lv' := [(0, .ref at0), (1, .ref ab0), (2, .int (v2 + 1))]) rfl ?_
      exact hk2 _ _ _ _ h
    · have h := if_f c1 h
      refine p_iload_n C dX4_addTrees_17 rfl 3 rfl ?_
      refine p_iconst (v := (1 : Int32)) C dX4_addTrees_18 rfl (by decide) ?_
      refine p_iadd C dX4_addTrees_19 rfl ?_
      refine p_istore (lv' := [(4, .int (v3 + ((1 : Int32)))), (0, .ref at0), (1, .ref ab0), (2, .int v2), (3, .int v3)]) C dX4_addTrees_20 rfl (by decide) rfl ?_
      refine p_locals [1, 2, 3, 4, 0] (lv' := [(0, .ref at0), (1, .ref ab0), (2, .int v2), (3, .int v3), (4, .int (v3 + ((1 : Int32))))]) rfl ?_
      exact tl_X4_addTrees_22 C (fun u0 u1 u2 u3 h => ih u0 u1 u2 u3 h) (fun u0 u1 u2 u3 h => hk2 u0 u1 u2 u3 h) FU _ _ _ _ h
def B_X4_addTrees_2 (t_paired : Ar) (b_points : Int32) (b_nets : Ar) (b_xs : Ar)   (kk : Int32 → Int32 → Ar → Ar → Option (Int32 × Ar × Ar)) (v2 : Int32) (t_total : Int32) (t_left : Ar) (t_right : Ar) : Option (Int32 × Ar × Ar) := if ((4 : Int32)) ≤ v2 then (some (t_total, t_left, t_right)) else (L_X4_addTrees_9 t_paired b_points b_nets b_xs kk v2 FU ((0 : Int32)) t_total t_left t_right)
def L_X4_addTrees_2 (t_paired : Ar) (b_points : Int32) (b_nets : Ar) (b_xs : Ar)   : Nat → Int32 → Int32 → Ar → Ar → Option (Int32 × Ar × Ar) := lpG (fun _ _ _ _ => none) (B_X4_addTrees_2 t_paired b_points b_nets b_xs)
set_option maxHeartbeats 4000000 in
set_option maxRecDepth 100000 in
theorem tl_X4_addTrees_2 {x : Cxt} {at0 at1 at2 at3 at4 ab0 ab1 ab2 ab3 : Nat} {t_oft : Int32} {t_group : Ar} {t_paired : Ar} {b_points : Int32} {b_near : Int32} {b_loose : Int32} {b_short : Int32} {b_nets : Ar} {b_xs : Ar} {b_ys : Ar}   {q_t_total : Int32} {q_t_left : Ar} {q_t_right : Ar} (C : CX RX4 cX4_addTrees 5 none x)  : ∀ (n : Nat) (v2 : Int32) (t_total : Int32) (t_left : Ar) (t_right : Ar), L_X4_addTrees_2 t_paired b_points b_nets b_xs n v2 t_total t_left t_right = some (q_t_total, q_t_left, q_t_right) → PT (RM 2 46) 5 x 2 [(0, .ref at0), (1, .ref ab0), (2, .int v2)] [] (V_TB x.1.2.2 at0 at1 at2 at3 at4 ab0 ab1 ab2 ab3 t_total t_oft t_left t_right t_group t_paired b_points b_near b_loose b_short b_nets b_xs b_ys) 0 0 (QV x (V_TB x.1.2.2 at0 at1 at2 at3 at4 ab0 ab1 ab2 ab3 q_t_total t_oft q_t_left q_t_right t_group t_paired b_points b_near b_loose b_short b_nets b_xs b_ys)) := by
  intro n
  induction n with
  | zero =>
    intro v2 t_total t_left t_right h
    cases h
  | succ n ih =>
    intro v2 t_total t_left t_right h
    have h : B_X4_addTrees_2 t_paired b_points b_nets b_xs (L_X4_addTrees_2 t_paired b_points b_nets b_xs n) v2 t_total t_left t_right = some (q_t_total, q_t_left, q_t_right) := h
    unfold B_X4_addTrees_2 at h
    refine p_iload_n C dX4_addTrees_2 rfl 2 rfl ?_
    refine p_iconst (v := (4 : Int32)) C dX4_addTrees_3 rfl (by decide) ?_
    refine p_icmp_ge C dX4_addTrees_4 (tgt := 81) (by decide) rfl (fun c1 => ?_) (fun c1 => ?_)
    · have h := if_t c1 h
      cases h
      exact p_vret C dX4_addTrees_81
    · have h := if_f c1 h
      refine p_iconst (v := (0 : Int32)) C dX4_addTrees_7 rfl (by decide) ?_
      refine p_istore_n (lv' := [(3, .int ((0 : Int32))), (0, .ref at0), (1, .ref ab0), (2, .int v2)]) C dX4_addTrees_8 rfl (by decide) rfl ?_
      refine p_locals [1, 2, 3, 0] (lv' := [(0, .ref at0), (1, .ref ab0), (2, .int v2), (3, .int ((0 : Int32)))]) rfl ?_
      exact tl_X4_addTrees_9 C (fun u0 u1 u2 u3 h => ih u0 u1 u2 u3 h) FU _ _ _ _ h
def m_X4_addTrees (t_total : Int32) (t_left : Ar) (t_right : Ar) (t_paired : Ar) (b_points : Int32) (b_nets : Ar) (b_xs : Ar)  : Option (Int32 × Ar × Ar) := L_X4_addTrees_2 t_paired b_points b_nets b_xs FU ((0 : Int32)) t_total t_left t_right
theorem ds_X4_addTrees : (yX4_addTrees).cls ≠ "java/lang/invoke/MethodHandle" ∧ (yX4_addTrees).cls ≠ "java/lang/invoke/VarHandle" ∧ (parseMethodDescriptor (yX4_addTrees).desc).map (fun d => d.parameters.length) = some 1 := by decide +kernel
set_option maxHeartbeats 4000000 in
set_option maxRecDepth 100000 in
theorem c_X4_addTrees (E : En) {at0 at1 at2 at3 at4 ab0 ab1 ab2 ab3 : Nat} {t_total : Int32} {t_oft : Int32} {t_left : Ar} {t_right : Ar} {t_group : Ar} {t_paired : Ar} {b_points : Int32} {b_near : Int32} {b_loose : Int32} {b_short : Int32} {b_nets : Ar} {b_xs : Ar} {b_ys : Ar}  {q_t_total : Int32} {q_t_left : Ar} {q_t_right : Ar} (h : m_X4_addTrees t_total t_left t_right t_paired b_points b_nets b_xs = some (q_t_total, q_t_left, q_t_right)) : Cv E yX4_addTrees (wU yX4_addTrees cX4_addTrees 5 none) (RM 2 46) [.ref at0, .ref ab0] (V_TB E.2.2 at0 at1 at2 at3 at4 ab0 ab1 ab2 ab3 t_total t_oft t_left t_right t_group t_paired b_points b_near b_loose b_short b_nets b_xs b_ys) (V_TB E.2.2 at0 at1 at2 at3 at4 ab0 ab1 ab2 ab3 q_t_total t_oft q_t_left q_t_right t_group t_paired b_points b_near b_loose b_short b_nets b_xs b_ys) := by
  refine Cv.of (by decide) (Nat.le_of_ble_eq_true rfl) ?_
  intro x hE C
  subst hE
  have C : CX RX4 cX4_addTrees 5 none x := C
  refine p_locals [0, 1] (lv' := [(0, .ref at0), (1, .ref ab0)]) rfl ?_
  unfold m_X4_addTrees at h
  refine p_iconst (v := (0 : Int32)) C dX4_addTrees_0 rfl (by decide) ?_
  refine p_istore_n (lv' := [(2, .int ((0 : Int32))), (0, .ref at0), (1, .ref ab0)]) C dX4_addTrees_1 rfl (by decide) rfl ?_
  refine p_locals [1, 2, 0] (lv' := [(0, .ref at0), (1, .ref ab0), (2, .int ((0 : Int32)))]) rfl ?_
  exact tl_X4_addTrees_2 C  FU _ _ _ _ h
def J_X5_netsOneWith_61  (k14 : Int32 → Int32 → Option (Int32)) (k6 : Int32 → Int32 → Option (Int32))  (v1 : Int32) (v2 : Int32) (v3 : Int32) (v4 : Int32) : Option (Int32) := k14 v2 (v4 + 1)
set_option maxHeartbeats 4000000 in
set_option maxRecDepth 100000 in
theorem tj_X5_netsOneWith_61 {x : Cxt}  {k14 : Int32 → Int32 → Option (Int32)} {k6 : Int32 → Int32 → Option (Int32)}  {v1 : Int32} {v2 : Int32} {v3 : Int32} {v4 : Int32} {rr : Int32} (C : CX RX5 cX5_netsOneWith 6 (some .int) x) (hk14 : ∀ (w2 : Int32) (w4 : Int32) , k14 w2 w4 = some rr → PT (RM 1 21) 6 x 14 [(1, .int v1), (2, .int w2), (3, .int v3), (4, .int w4)] [] ([] : va_W) 0 0 (QI x rr ([] : va_W))) (hk6 : ∀ (w2 : Int32) (w3 : Int32) , k6 w2 w3 = some rr → PT (RM 1 21) 6 x 6 [(1, .int v1), (2, .int w2), (3, .int w3)] [] ([] : va_W) 0 0 (QI x rr ([] : va_W))) (h : J_X5_netsOneWith_61 k14 k6 v1 v2 v3 v4 = some rr) : PT (RM 1 21) 6 x 61 [(1, .int v1), (2, .int v2), (3, .int v3), (4, .int v4)] [] ([] : va_W) 0 0 (QI x rr ([] : va_W)) := by
  unfold J_X5_netsOneWith_61 at h
  refine p_iinc (w := v4 + 1) (lv' := [(4, .int (v4 + 1)), (1, .int v1), (2, .int v2), (3, .int v3)]) C dX5_netsOneWith_61 rfl 3 rfl rfl (by decide) rfl ?_
  refine p_goto C dX5_netsOneWith_64 (pc' := 14) (by decide) ?_
  refine p_locals [1, 2, 3, 0] (lv' := [(1, .int v1), (2, .int v2), (3, .int v3), (4, .int (v4 + 1))]) rfl ?_
  exact hk14 _ _ h
def B_X5_netsOneWith_14  (k6 : Int32 → Int32 → Option (Int32)) (v1 : Int32) (v3 : Int32) (kk : Int32 → Int32 → Option (Int32)) (v2 : Int32) (v4 : Int32)  : Option (Int32) := if ((6 : Int32)) ≤ v4 then (k6 v2 (v3 + 1)) else (grd (gI v4 6) (grd (gI v4 6) (bd1 (some ((((1 : Int32)) <<< ((LNf v4.toNatClampNeg) &&& 31)) ||| (((1 : Int32)) <<< ((GNf v4.toNatClampNeg) &&& 31)))) (fun x8 => bd1 (m_X5_isIn v1 v4) (fun r10 => if r10 = 0 then (J_X5_netsOneWith_61 (kk) (k6) v1 v2 v3 v4) else (if (v2 &&& x8) = 0 then (J_X5_netsOneWith_61 (kk) (k6) v1 v2 v3 v4) else (J_X5_netsOneWith_61 (kk) (k6) v1 (v2 ||| x8) v3 v4)))))))
def L_X5_netsOneWith_14  (k6 : Int32 → Int32 → Option (Int32)) (v1 : Int32) (v3 : Int32) : Nat → Int32 → Int32 → Option (Int32) := lpG (fun _ _ => none) (B_X5_netsOneWith_14 k6 v1 v3)
set_option maxHeartbeats 4000000 in
set_option maxRecDepth 100000 in
theorem tl_X5_netsOneWith_14 {x : Cxt}  {k6 : Int32 → Int32 → Option (Int32)} {v1 : Int32} {v3 : Int32} {rr : Int32} (C : CX RX5 cX5_netsOneWith 6 (some .int) x) (hk6 : ∀ (w2 : Int32) (w3 : Int32) , k6 w2 w3 = some rr → PT (RM 1 21) 6 x 6 [(1, .int v1), (2, .int w2), (3, .int w3)] [] ([] : va_W) 0 0 (QI x rr ([] : va_W))) : ∀ (n : Nat) (v2 : Int32) (v4 : Int32) , L_X5_netsOneWith_14 k6 v1 v3 n v2 v4 = some rr → PT (RM 1 21) 6 x 14 [(1, .int v1), (2, .int v2), (3, .int v3), (4, .int v4)] [] ([] : va_W) 0 0 (QI x rr ([] : va_W)) := by
  intro n
  induction n with
  | zero =>
    intro v2 v4 h
    cases h
  | succ n ih =>
    intro v2 v4 h
    have h : B_X5_netsOneWith_14 k6 v1 v3 (L_X5_netsOneWith_14 k6 v1 v3 n) v2 v4 = some rr := h
    unfold B_X5_netsOneWith_14 at h
    refine p_iload C dX5_netsOneWith_14 rfl 3 rfl ?_
    refine p_bipush (v := (6 : Int32)) C dX5_netsOneWith_16 rfl (by decide) ?_
    refine p_icmp_ge C dX5_netsOneWith_18 (tgt := 67) (by decide) rfl (fun c1 => ?_) (fun c1 => ?_)
    · have h := if_t c1 h
      refine p_iinc (w := v3 + 1) (lv' := [(3, .int (v3 + 1)), (1, .int v1), (2, .int v2), (4, .int v4)]) C dX5_netsOneWith_67 rfl 2 rfl rfl (by decide) rfl ?_
      refine p_goto C dX5_netsOneWith_70 (pc' := 6) (by decide) ?_
      refine p_locals [1, 2, 0] (lv' := [(1, .int v1), (2, .int v2), (3, .int (v3 + 1))]) rfl ?_
      exact hk6 _ _ h
    · have h := if_f c1 h
      refine p_iconst (v := (1 : Int32)) C dX5_netsOneWith_21 rfl (by decide) ?_
      refine p_getsL C dX5_netsOneWith_22 rfl fl_X5_221 (fun tt2 hT3 => ?_)
      refine p_iload C dX5_netsOneWith_25 rfl 3 rfl ?_
      obtain ⟨g4, h⟩ := grd_of h
      refine p_tald C hT3 dX5_netsOneWith_27 rfl g4 ?_
      refine p_ishl C dX5_netsOneWith_28 rfl ?_
      refine p_iconst (v := (1 : Int32)) C dX5_netsOneWith_29 rfl (by decide) ?_
      refine p_getsG C dX5_netsOneWith_30 rfl fl_X5_224 (fun tt5 hT6 => ?_)
      refine p_iload C dX5_netsOneWith_33 rfl 3 rfl ?_
      obtain ⟨g7, h⟩ := grd_of h
      refine p_tald C hT6 dX5_netsOneWith_35 rfl g7 ?_
      refine p_ishl C dX5_netsOneWith_36 rfl ?_
      refine p_ior C dX5_netsOneWith_37 rfl ?_
      obtain ⟨x8, hx9, h⟩ := bd1_of h
      have hx9 := Option.some.inj hx9
      rw [hx9]
      refine p_istore (lv' := [(5, .int x8), (1, .int v1), (2, .int v2), (3, .int v3), (4, .int v4)]) C dX5_netsOneWith_38 rfl (by decide) rfl ?_
      refine p_iload_n C dX5_netsOneWith_40 rfl 1 rfl ?_
      refine p_iload C dX5_netsOneWith_41 rfl 4 rfl ?_
      obtain ⟨r10, hc11, h⟩ := bd1_of h
      refine p_callSi (As := [.int v1, .int v4]) (st' := []) (Wd' := ([] : va_W)) C (c_X5_isIn x.1 hc11) dX5_netsOneWith_43 rfl ml_X5_85 ks_X5_isIn ds_X5_isIn ⟨rfl, rfl, by decide, by decide⟩ [] rfl rfl rfl rfl (by decide) ⟨by decide, by decide⟩ rfl ?_
      refine p_if_eq C dX5_netsOneWith_46 (tgt := 61) (by decide) rfl (fun c12 => ?_) (fun c12 => ?_)
      · have h := if_t c12 h
        refine p_locals [1, 2, 3, 4] (lv' := [(1, .int v1), (2, .int v2), (3, .int v3), (4, .int v4)]) rfl ?_
        exact tj_X5_netsOneWith_61 C (fun u0 u1 h => ih u0 u1 h) (fun u0 u1 h => hk6 u0 u1 h) h
      · have h := if_f c12 h
        refine p_iload_n C dX5_netsOneWith_49 rfl 2 rfl ?_
        refine p_iload C dX5_netsOneWith_50 rfl 0 rfl ?_
        refine p_iand C dX5_netsOneWith_52 rfl ?_
        refine p_if_eq C dX5_netsOneWith_53 (tgt := 61) (by decide) rfl (fun c13 => ?_) (fun c13 => ?_)
        · have h := if_t c13 h
          refine p_locals [1, 2, 3, 4] (lv' := [(1, .int v1), (2, .int v2), (3, .int v3), (4, .int v4)]) rfl ?_
          exact tj_X5_netsOneWith_61 C (fun u0 u1 h => ih u0 u1 h) (fun u0 u1 h => hk6 u0 u1 h) h
        · have h := if_f c13 h
          refine p_iload_n C dX5_netsOneWith_56 rfl 2 rfl ?_
          refine p_iload C dX5_netsOneWith_57 rfl 0 rfl ?_
          refine p_ior C dX5_netsOneWith_59 rfl ?_
          refine p_istore_n (lv' := [(2, .int (v2 ||| x8)), (5, .int x8), (1, .int v1), (3, .int v3), (4, .int v4)]) C dX5_netsOneWith_60 rfl (by decide) rfl ?_
          refine p_locals [2, 0, 3, 4] (lv' := [(1, .int v1), (2, .int (v2 ||| x8)), (3, .int v3), (4, .int v4)]) rfl ?_
          exact tj_X5_netsOneWith_61 C (fun u0 u1 h => ih u0 u1 h) (fun u0 u1 h => hk6 u0 u1 h) h
def B_X5_netsOneWith_6   (v1 : Int32) (kk : Int32 → Int32 → Option (Int32)) (v2 : Int32) (v3 : Int32)  : Option (Int32) := if ((4 : Int32)) ≤ v3 then (some v2) else (L_X5_netsOneWith_14 kk v1 v3 FU v2 ((0 : Int32)))
def L_X5_netsOneWith_6   (v1 : Int32) : Nat → Int32 → Int32 → Option (Int32) := lpG (fun _ _ => none) (B_X5_netsOneWith_6 v1)
set_option maxHeartbeats 4000000 in
set_option maxRecDepth 100000 in
theorem tl_X5_netsOneWith_6 {x : Cxt}   {v1 : Int32} {rr : Int32} (C : CX RX5 cX5_netsOneWith 6 (some .int) x)  : ∀ (n : Nat) (v2 : Int32) (v3 : Int32) , L_X5_netsOneWith_6 v1 n v2 v3 = some rr → PT (RM 1 21) 6 x 6 [(1, .int v1), (2, .int v2), (3, .int v3)] [] ([] : va_W) 0 0 (QI x rr ([] : va_W)) := by
  intro n
  induction n with
  | zero =>
    intro v2 v3 h
    cases h
  | succ n ih =>
    intro v2 v3 h
    have h : B_X5_netsOneWith_6 v1 (L_X5_netsOneWith_6 v1 n) v2 v3 = some rr := h
    unfold B_X5_netsOneWith_6 at h
    refine p_iload_n C dX5_netsOneWith_6 rfl 2 rfl ?_
    refine p_iconst (v := (4 : Int32)) C dX5_netsOneWith_7 rfl (by decide) ?_
    refine p_icmp_ge C dX5_netsOneWith_8 (tgt := 73) (by decide) rfl (fun c1 => ?_) (fun c1 => ?_)
    · have h := if_t c1 h
      refine p_iload_n C dX5_netsOneWith_73 rfl 1 rfl ?_
      cases h
      exact p_iret C dX5_netsOneWith_74
    · have h := if_f c1 h
      refine p_iconst (v := (0 : Int32)) C dX5_netsOneWith_11 rfl (by decide) ?_
      refine p_istore (lv' := [(4, .int ((0 : Int32))), (1, .int v1), (2, .int v2), (3, .int v3)]) C dX5_netsOneWith_12 rfl (by decide) rfl ?_
      refine p_locals [1, 2, 3, 0] (lv' := [(1, .int v1), (2, .int v2), (3, .int v3), (4, .int ((0 : Int32)))]) rfl ?_
      exact tl_X5_netsOneWith_14 C (fun u0 u1 h => ih u0 u1 h) FU _ _ h
def m_X5_netsOneWith  (p0 : Int32) (p1 : Int32) : Option (Int32) := L_X5_netsOneWith_6 p1 FU (((1 : Int32)) <<< (p0 &&& 31)) ((1 : Int32))
theorem ds_X5_netsOneWith : (yX5_netsOneWith).cls ≠ "java/lang/invoke/MethodHandle" ∧ (yX5_netsOneWith).cls ≠ "java/lang/invoke/VarHandle" ∧ (parseMethodDescriptor (yX5_netsOneWith).desc).map (fun d => d.parameters.length) = some 2 := by decide +kernel
set_option maxHeartbeats 4000000 in
set_option maxRecDepth 100000 in
theorem c_X5_netsOneWith (E : En)  {p0 : Int32} {p1 : Int32} {rr : Int32} (h : m_X5_netsOneWith p0 p1 = some rr) : Ci E yX5_netsOneWith (wU yX5_netsOneWith cX5_netsOneWith 6 (some .int)) (RM 1 21) [.int p0, .int p1] ([] : va_W) ([] : va_W) rr := by
  refine Ci.of (by decide) (Nat.le_of_ble_eq_true rfl) ?_
  intro x hE C
  subst hE
  have C : CX RX5 cX5_netsOneWith 6 (some .int) x := C
  refine p_locals [0, 1] (lv' := [(0, .int p0), (1, .int p1)]) rfl ?_
  unfold m_X5_netsOneWith at h
  refine p_iconst (v := (1 : Int32)) C dX5_netsOneWith_0 rfl (by decide) ?_
  refine p_iload_n C dX5_netsOneWith_1 rfl 0 rfl ?_
  refine p_ishl C dX5_netsOneWith_2 rfl ?_
  refine p_istore_n (lv' := [(2, .int (((1 : Int32)) <<< (p0 &&& 31))), (0, .int p0), (1, .int p1)]) C dX5_netsOneWith_3 rfl (by decide) rfl ?_
  refine p_iconst (v := (1 : Int32)) C dX5_netsOneWith_4 rfl (by decide) ?_
  refine p_istore_n (lv' := [(3, .int ((1 : Int32))), (2, .int (((1 : Int32)) <<< (p0 &&& 31))), (0, .int p0), (1, .int p1)]) C dX5_netsOneWith_5 rfl (by decide) rfl ?_
  refine p_locals [3, 1, 0] (lv' := [(1, .int p1), (2, .int (((1 : Int32)) <<< (p0 &&& 31))), (3, .int ((1 : Int32)))]) rfl ?_
  exact tl_X5_netsOneWith_6 C  FU _ _ h
def m_X4_conducts (t_left : Ar) (t_right : Ar) (b_nets : Ar) (p2 : Int32) (p3 : Int32) (p4 : Int32) : Option (Int32) := grd (gI p2 10) (grd (gI p2 10) (bd1 (m_X5_isIn p3 (t_left p2.toNatClampNeg)) (fun r3 => if r3 = 0 then (bd1 (m_X5_isIn p3 (t_right p2.toNatClampNeg)) (fun r6 => if r6 = 0 then (grd (gI (t_left p2.toNatClampNeg) 8) (bd1 (m_X5_netsOneWith (b_nets (t_left p2.toNatClampNeg).toNatClampNeg) p4) (fun r10 => grd (gI (t_right p2.toNatClampNeg) 8) (bd1 (m_X5_isIn r10 (b_nets (t_right p2.toNatClampNeg).toNatClampNeg)) (fun r13 => grd (zb r13) (some r13)))))) else (some ((0 : Int32))))) else (some ((0 : Int32))))))
theorem ds_X4_conducts : (yX4_conducts).cls ≠ "java/lang/invoke/MethodHandle" ∧ (yX4_conducts).cls ≠ "java/lang/invoke/VarHandle" ∧ (parseMethodDescriptor (yX4_conducts).desc).map (fun d => d.parameters.length) = some 4 := by decide +kernel
set_option maxHeartbeats 4000000 in
set_option maxRecDepth 100000 in
theorem c_X4_conducts (E : En) {at0 at1 at2 at3 at4 ab0 ab1 ab2 ab3 : Nat} {t_total : Int32} {t_oft : Int32} {t_left : Ar} {t_right : Ar} {t_group : Ar} {t_paired : Ar} {b_points : Int32} {b_near : Int32} {b_loose : Int32} {b_short : Int32} {b_nets : Ar} {b_xs : Ar} {b_ys : Ar} {p2 : Int32} {p3 : Int32} {p4 : Int32} {rr : Int32} (h : m_X4_conducts t_left t_right b_nets p2 p3 p4 = some rr) : Ci E yX4_conducts (wU yX4_conducts cX4_conducts 7 (some .boolean)) (RM 2 46) [.ref at0, .ref ab0, .int p2, .int p3, .int p4] (V_TB E.2.2 at0 at1 at2 at3 at4 ab0 ab1 ab2 ab3 t_total t_oft t_left t_right t_group t_paired b_points b_near b_loose b_short b_nets b_xs b_ys) (V_TB E.2.2 at0 at1 at2 at3 at4 ab0 ab1 ab2 ab3 t_total t_oft t_left t_right t_group t_paired b_points b_near b_loose b_short b_nets b_xs b_ys) rr := by
  refine Ci.of (by decide) (Nat.le_of_ble_eq_true rfl) ?_
  intro x hE C
  subst hE
  have C : CX RX4 cX4_conducts 7 (some .boolean) x := C
  refine p_locals [0, 1, 2, 3, 4] (lv' := [(0, .ref at0), (1, .ref ab0), (2, .int p2), (3, .int p3), (4, .int p4)]) rfl ?_
  unfold m_X4_conducts at h
  refine p_aload_n C dX4_conducts_0 rfl 0 rfl ?_
  refine p_get C dX4_conducts_1 rfl 0 0 inlX4 fl_X4_9 rfl rfl (by decide) rfl rfl ?_
  refine p_iload_n C dX4_conducts_4 rfl 2 rfl ?_
  obtain ⟨g1, h⟩ := grd_of h
  refine p_iald C dX4_conducts_5 rfl 1 rfl g1 ?_
  refine p_istore (lv' := [(5, .int (t_left p2.toNatClampNeg)), (0, .ref at0), (1, .ref ab0), (2, .int p2), (3, .int p3), (4, .int p4)]) C dX4_conducts_6 rfl (by decide) rfl ?_
  refine p_aload_n C dX4_conducts_8 rfl 1 rfl ?_
  refine p_get C dX4_conducts_9 rfl 0 1 inlX4 fl_X4_15 rfl rfl (by decide) rfl rfl ?_
  refine p_iload_n C dX4_conducts_12 rfl 3 rfl ?_
  obtain ⟨g2, h⟩ := grd_of h
  refine p_iald C dX4_conducts_13 rfl 2 rfl g2 ?_
  refine p_istore (lv' := [(6, .int (t_right p2.toNatClampNeg)), (5, .int (t_left p2.toNatClampNeg)), (0, .ref at0), (1, .ref ab0), (2, .int p2), (3, .int p3), (4, .int p4)]) C dX4_conducts_14 rfl (by decide) rfl ?_
  refine p_iload_n C dX4_conducts_16 rfl 5 rfl ?_
  refine p_iload C dX4_conducts_17 rfl 1 rfl ?_
  obtain ⟨r3, hc4, h⟩ := bd1_of h
  refine p_callSNi (As := [.int p3, .int (t_left p2.toNatClampNeg)]) (st' := []) (Wd' := (V_TB x.1.2.2 at0 at1 at2 at3 at4 ab0 ab1 ab2 ab3 t_total t_oft t_left t_right t_group t_paired b_points b_near b_loose b_short b_nets b_xs b_ys)) C (c_X5_isIn x.1 hc4) dX4_conducts_19 rfl nm_X4_61 ks_X5_isIn ds_X5_isIn ⟨rfl, rfl, by decide, by decide⟩ [] rfl rfl rfl rfl (by decide) ⟨by decide, by decide⟩ rfl ?_
  refine p_if_ne C dX4_conducts_22 (tgt := 34) (by decide) rfl (fun c5 => ?_) (fun c5 => ?_)
  · have h := if_f c5 h
    refine p_iconst (v := (0 : Int32)) C dX4_conducts_34 rfl (by decide) ?_
    cases h
    exact p_zret C dX4_conducts_35 rfl
  · have h := if_t c5 h
    refine p_iload_n C dX4_conducts_25 rfl 5 rfl ?_
    refine p_iload C dX4_conducts_26 rfl 0 rfl ?_
    obtain ⟨r6, hc7, h⟩ := bd1_of h
    refine p_callSNi (As := [.int p3, .int (t_right p2.toNatClampNeg)]) (st' := []) (Wd' := (V_TB x.1.2.2 at0 at1 at2 at3 at4 ab0 ab1 ab2 ab3 t_total t_oft t_left t_right t_group t_paired b_points b_near b_loose b_short b_nets b_xs b_ys)) C (c_X5_isIn x.1 hc7) dX4_conducts_28 rfl nm_X4_61 ks_X5_isIn ds_X5_isIn ⟨rfl, rfl, by decide, by decide⟩ [] rfl rfl rfl rfl (by decide) ⟨by decide, by decide⟩ rfl ?_
    refine p_if_eq C dX4_conducts_31 (tgt := 36) (by decide) rfl (fun c8 => ?_) (fun c8 => ?_)
    · have h := if_t c8 h
      refine p_aload_n C dX4_conducts_36 rfl 3 rfl ?_
      refine p_getN C dX4_conducts_37 rfl 5 0 inlX0 nf_X4_50 rfl rfl (by decide) rfl rfl ?_
      refine p_iload C dX4_conducts_40 rfl 1 rfl ?_
      obtain ⟨g9, h⟩ := grd_of h
      refine p_iald C dX4_conducts_42 rfl 6 rfl g9 ?_
      refine p_iload C dX4_conducts_43 rfl 6 rfl ?_
      obtain ⟨r10, hc11, h⟩ := bd1_of h
      refine p_callSNi (As := [.int (b_nets (t_left p2.toNatClampNeg).toNatClampNeg), .int p4]) (st' := []) (Wd' := (V_TB x.1.2.2 at0 at1 at2 at3 at4 ab0 ab1 ab2 ab3 t_total t_oft t_left t_right t_group t_paired b_points b_near b_loose b_short b_nets b_xs b_ys)) C (c_X5_netsOneWith x.1 hc11) dX4_conducts_45 rfl nm_X4_84 ks_X5_netsOneWith ds_X5_netsOneWith ⟨rfl, rfl, by decide, by decide⟩ [] rfl rfl rfl rfl (by decide) ⟨by decide, by decide⟩ rfl ?_
      refine p_aload_n C dX4_conducts_48 rfl 3 rfl ?_
      refine p_getN C dX4_conducts_49 rfl 5 0 inlX0 nf_X4_50 rfl rfl (by decide) rfl rfl ?_
      refine p_iload C dX4_conducts_52 rfl 0 rfl ?_
      obtain ⟨g12, h⟩ := grd_of h
      refine p_iald C dX4_conducts_54 rfl 6 rfl g12 ?_
      obtain ⟨r13, hc14, h⟩ := bd1_of h
      refine p_callSNi (As := [.int r10, .int (b_nets (t_right p2.toNatClampNeg).toNatClampNeg)]) (st' := []) (Wd' := (V_TB x.1.2.2 at0 at1 at2 at3 at4 ab0 ab1 ab2 ab3 t_total t_oft t_left t_right t_group t_paired b_points b_near b_loose b_short b_nets b_xs b_ys)) C (c_X5_isIn x.1 hc14) dX4_conducts_55 rfl nm_X4_61 ks_X5_isIn ds_X5_isIn ⟨rfl, rfl, by decide, by decide⟩ [] rfl rfl rfl rfl (by decide) ⟨by decide, by decide⟩ rfl ?_
      obtain ⟨g15, h⟩ := grd_of h
      cases h
      exact p_zret C dX4_conducts_58 (zb_ok g15)
    · have h := if_f c8 h
      refine p_iconst (v := (0 : Int32)) C dX4_conducts_34 rfl (by decide) ?_
      cases h
      exact p_zret C dX4_conducts_35 rfl
def J_X4_mergeGroups_25 (t_group : Ar) (k2 : Int32 → Ar → Option (Ar))  (v1 : Int32) (v2 : Int32) (v3 : Int32) : Option (Ar) := k2 (v3 + 1) t_group
set_option maxHeartbeats 4000000 in
set_option maxRecDepth 100000 in
theorem tj_X4_mergeGroups_25 {x : Cxt} {at0 at1 at2 at3 at4 : Nat} {t_total : Int32} {t_oft : Int32} {t_left : Ar} {t_right : Ar} {t_group : Ar} {t_paired : Ar} {k2 : Int32 → Ar → Option (Ar)}  {v1 : Int32} {v2 : Int32} {v3 : Int32} {q_t_group : Ar} (C : CX RX4 cX4_mergeGroups 4 none x) (hk2 : ∀ (w3 : Int32) (w_t_group : Ar), k2 w3 w_t_group = some q_t_group → PT (RM 0 0) 4 x 2 [(0, .ref at0), (1, .int v1), (2, .int v2), (3, .int w3)] [] (V_T x.1.2.2 at0 at1 at2 at3 at4 t_total t_oft t_left t_right w_t_group t_paired) 0 0 (QV x (V_T x.1.2.2 at0 at1 at2 at3 at4 t_total t_oft t_left t_right q_t_group t_paired))) (h : J_X4_mergeGroups_25 t_group k2 v1 v2 v3 = some q_t_group) : PT (RM 0 0) 4 x 25 [(0, .ref at0), (1, .int v1), (2, .int v2), (3, .int v3)] [] (V_T x.1.2.2 at0 at1 at2 at3 at4 t_total t_oft t_left t_right t_group t_paired) 0 0 (QV x (V_T x.1.2.2 at0 at1 at2 at3 at4 t_total t_oft t_left t_right q_t_group t_paired)) := by
  unfold J_X4_mergeGroups_25 at h
  refine p_iinc (w := v3 + 1) (lv' := [(3, .int (v3 + 1)), (0, .ref at0), (1, .int v1), (2, .int v2)]) C dX4_mergeGroups_25 rfl 3 rfl rfl (by decide) rfl ?_
  refine p_goto C dX4_mergeGroups_28 (pc' := 2) (by decide) ?_
  refine p_locals [1, 2, 3, 0] (lv' := [(0, .ref at0), (1, .int v1), (2, .int v2), (3, .int (v3 + 1))]) rfl ?_
  exact hk2 _ _ h
def B_X4_mergeGroups_2   (v1 : Int32) (v2 : Int32) (kk : Int32 → Ar → Option (Ar)) (v3 : Int32) (t_group : Ar) : Option (Ar) := if ((8 : Int32)) ≤ v3 then (some t_group) else (grd (gI v3 8) (if (t_group v3.toNatClampNeg) = v2 then (grd (gI v3 8) (J_X4_mergeGroups_25 (upd t_group v3.toNatClampNeg v1) (kk) v1 v2 v3)) else (J_X4_mergeGroups_25 t_group (kk) v1 v2 v3)))
def L_X4_mergeGroups_2   (v1 : Int32) (v2 : Int32) : Nat → Int32 → Ar → Option (Ar) := lpG (fun _ _ => none) (B_X4_mergeGroups_2 v1 v2)
set_option maxHeartbeats 4000000 in
set_option maxRecDepth 100000 in
theorem tl_X4_mergeGroups_2 {x : Cxt} {at0 at1 at2 at3 at4 : Nat} {t_total : Int32} {t_oft : Int32} {t_left : Ar} {t_right : Ar} {t_paired : Ar}  {v1 : Int32} {v2 : Int32} {q_t_group : Ar} (C : CX RX4 cX4_mergeGroups 4 none x)  : ∀ (n : Nat) (v3 : Int32) (t_group : Ar), L_X4_mergeGroups_2 v1 v2 n v3 t_group = some q_t_group → PT (RM 0 0) 4 x 2 [(0, .ref at0), (1, .int v1), (2, .int v2), (3, .int v3)] [] (V_T x.1.2.2 at0 at1 at2 at3 at4 t_total t_oft t_left t_right t_group t_paired) 0 0 (QV x (V_T x.1.2.2 at0 at1 at2 at3 at4 t_total t_oft t_left t_right q_t_group t_paired)) := by
  intro n
  induction n with
  | zero =>
    intro v3 t_group h
    cases h
  | succ n ih =>
    intro v3 t_group h
    have h : B_X4_mergeGroups_2 v1 v2 (L_X4_mergeGroups_2 v1 v2 n) v3 t_group = some q_t_group := h
    unfold B_X4_mergeGroups_2 at h
    refine p_iload_n C dX4_mergeGroups_2 rfl 3 rfl ?_
    refine p_bipush (v := (8 : Int32)) C dX4_mergeGroups_3 rfl (by decide) ?_
    refine p_icmp_ge C dX4_mergeGroups_5 (tgt := 31) (by decide) rfl (fun c1 => ?_) (fun c1 => ?_)
    · have h := if_t c1 h
      cases h
      exact p_vret C dX4_mergeGroups_31
    · have h := if_f c1 h
      refine p_aload_n C dX4_mergeGroups_8 rfl 0 rfl ?_
      refine p_get C dX4_mergeGroups_9 rfl 0 4 inlX4 fl_X4_25 rfl rfl (by decide) rfl rfl ?_
      refine p_iload_n C dX4_mergeGroups_12 rfl 3 rfl ?_
      obtain ⟨g2, h⟩ := grd_of h
      refine p_iald C dX4_mergeGroups_13 rfl 3 rfl g2 ?_
      refine p_iload_n C dX4_mergeGroups_14 rfl 2 rfl ?_
      refine p_icmp_ne C dX4_mergeGroups_15 (tgt := 25) (by decide) rfl (fun c3 => ?_) (fun c3 => ?_)
      · have h := if_f c3 h
        refine p_locals [0, 1, 2, 3] (lv' := [(0, .ref at0), (1, .int v1), (2, .int v2), (3, .int v3)]) rfl ?_
        exact tj_X4_mergeGroups_25 C (fun u0 u1 h => ih u0 u1 h) h
      · have h := if_t c3 h
        refine p_aload_n C dX4_mergeGroups_18 rfl 0 rfl ?_
        refine p_get C dX4_mergeGroups_19 rfl 0 4 inlX4 fl_X4_25 rfl rfl (by decide) rfl rfl ?_
        refine p_iload_n C dX4_mergeGroups_22 rfl 3 rfl ?_
        refine p_iload_n C dX4_mergeGroups_23 rfl 1 rfl ?_
        obtain ⟨g4, h⟩ := grd_of h
        refine p_iast (Wd' := (V_T x.1.2.2 at0 at1 at2 at3 at4 t_total t_oft t_left t_right (upd t_group v3.toNatClampNeg v1) t_paired)) C dX4_mergeGroups_24 rfl 3 rfl g4 rfl ?_
        refine p_locals [0, 1, 2, 3] (lv' := [(0, .ref at0), (1, .int v1), (2, .int v2), (3, .int v3)]) rfl ?_
        exact tj_X4_mergeGroups_25 C (fun u0 u1 h => ih u0 u1 h) h
def m_X4_mergeGroups (t_group : Ar) (p1 : Int32) (p2 : Int32) : Option (Ar) := L_X4_mergeGroups_2 p1 p2 FU ((0 : Int32)) t_group
theorem ds_X4_mergeGroups : (yX4_mergeGroups).cls ≠ "java/lang/invoke/MethodHandle" ∧ (yX4_mergeGroups).cls ≠ "java/lang/invoke/VarHandle" ∧ (parseMethodDescriptor (yX4_mergeGroups).desc).map (fun d => d.parameters.length) = some 2 := by decide +kernel
set_option maxHeartbeats 4000000 in
set_option maxRecDepth 100000 in
theorem c_X4_mergeGroups (E : En) {at0 at1 at2 at3 at4 : Nat} {t_total : Int32} {t_oft : Int32} {t_left : Ar} {t_right : Ar} {t_group : Ar} {t_paired : Ar} {p1 : Int32} {p2 : Int32} {q_t_group : Ar} (h : m_X4_mergeGroups t_group p1 p2 = some q_t_group) : Cv E yX4_mergeGroups (wU yX4_mergeGroups cX4_mergeGroups 4 none) (RM 0 0) [.ref at0, .int p1, .int p2] (V_T E.2.2 at0 at1 at2 at3 at4 t_total t_oft t_left t_right t_group t_paired) (V_T E.2.2 at0 at1 at2 at3 at4 t_total t_oft t_left t_right q_t_group t_paired) := by
  refine Cv.of (by decide) (Nat.le_of_ble_eq_true rfl) ?_
  intro x hE C
  subst hE
  have C : CX RX4 cX4_mergeGroups 4 none x := C
  refine p_locals [0, 1, 2] (lv' := [(0, .ref at0), (1, .int p1), (2, .int p2)]) rfl ?_
  unfold m_X4_mergeGroups at h
  refine p_iconst (v := (0 : Int32)) C dX4_mergeGroups_0 rfl (by decide) ?_
  refine p_istore_n (lv' := [(3, .int ((0 : Int32))), (0, .ref at0), (1, .int p1), (2, .int p2)]) C dX4_mergeGroups_1 rfl (by decide) rfl ?_
  refine p_locals [1, 2, 3, 0] (lv' := [(0, .ref at0), (1, .int p1), (2, .int p2), (3, .int ((0 : Int32)))]) rfl ?_
  exact tl_X4_mergeGroups_2 C  FU _ _ h
def J_X4_joinNextPair_99 (t_group : Ar) (t_paired : Ar) (b_points : Int32) (b_nets : Ar) (b_xs : Ar) (b_ys : Ar) (k25 : Int32 → Int32 → Int32 → Int32 → Option (Int32 × Ar × Ar)) (k10 : Int32 → Int32 → Int32 → Int32 → Option (Int32 × Ar × Ar))  (v2 : Int32) (v3 : Int32) (v4 : Int32) (v5 : Int32) (v6 : Int32) : Option (Int32 × Ar × Ar) := k25 v2 v3 v4 (v6 + 1)
set_option maxHeartbeats 4000000 in
set_option maxRecDepth 100000 in
theorem tj_X4_joinNextPair_99 {x : Cxt} {at0 at1 at2 at3 at4 ab0 ab1 ab2 ab3 : Nat} {t_total : Int32} {t_oft : Int32} {t_left : Ar} {t_right : Ar} {t_group : Ar} {t_paired : Ar} {b_points : Int32} {b_near : Int32} {b_loose : Int32} {b_short : Int32} {b_nets : Ar} {b_xs : Ar} {b_ys : Ar} {k25 : Int32 → Int32 → Int32 → Int32 → Option (Int32 × Ar × Ar)} {k10 : Int32 → Int32 → Int32 → Int32 → Option (Int32 × Ar × Ar)}  {v2 : Int32} {v3 : Int32} {v4 : Int32} {v5 : Int32} {v6 : Int32} {rr : Int32} {q_t_group : Ar} {q_t_paired : Ar} (C : CX RX4 cX4_joinNextPair 8 (some .boolean) x) (hk25 : ∀ (w2 : Int32) (w3 : Int32) (w4 : Int32) (w6 : Int32) , k25 w2 w3 w4 w6 = some (rr, q_t_group, q_t_paired) → PT (RM 1 24) 8 x 25 [(0, .ref at0), (1, .ref ab0), (2, .int w2), (3, .int w3), (4, .int w4), (5, .int v5), (6, .int w6)] [] (V_TB x.1.2.2 at0 at1 at2 at3 at4 ab0 ab1 ab2 ab3 t_total t_oft t_left t_right t_group t_paired b_points b_near b_loose b_short b_nets b_xs b_ys) 0 0 (QI x rr (V_TB x.1.2.2 at0 at1 at2 at3 at4 ab0 ab1 ab2 ab3 t_total t_oft t_left t_right q_t_group q_t_paired b_points b_near b_loose b_short b_nets b_xs b_ys))) (hk10 : ∀ (w2 : Int32) (w3 : Int32) (w4 : Int32) (w5 : Int32) , k10 w2 w3 w4 w5 = some (rr, q_t_group, q_t_paired) → PT (RM 1 24) 8 x 10 [(0, .ref at0), (1, .ref ab0), (2, .int w2), (3, .int w3), (4, .int w4), (5, .int w5)] [] (V_TB x.1.2.2 at0 at1 at2 at3 at4 ab0 ab1 ab2 ab3 t_total t_oft t_left t_right t_group t_paired b_points b_near b_loose b_short b_nets b_xs b_ys) 0 0 (QI x rr (V_TB x.1.2.2 at0 at1 at2 at3 at4 ab0 ab1 ab2 ab3 t_total t_oft t_left t_right q_t_group q_t_paired b_points b_near b_loose b_short b_nets b_xs b_ys))) (h : J_X4_joinNextPair_99 t_group t_paired b_points b_nets b_xs b_ys k25 k10 v2 v3 v4 v5 v6 = some (rr, q_t_group, q_t_paired)) : PT (RM 1 24) 8 x 99 [(0, .ref at0), (1, .ref ab0), (2, .int v2), (3, .int v3), (4, .int v4), (5, .int v5), (6, .int v6)] [] (V_TB x.1.2.2 at0 at1 at2 at3 at4 ab0 ab1 ab2 ab3 t_total t_oft t_left t_right t_group t_paired b_points b_near b_loose b_short b_nets b_xs b_ys) 0 0 (QI x rr (V_TB x.1.2.2 at0 at1 at2 at3 at4 ab0 ab1 ab2 ab3 t_total t_oft t_left t_right q_t_group q_t_paired b_points b_near b_loose b_short b_nets b_xs b_ys)) := by
  unfold J_X4_joinNextPair_99 at h
  refine p_iinc (w := v6 + 1) (lv' := [(6, .int (v6 + 1)), (0, .ref at0), (1, .ref ab0), (2, .int v2), (3, .int v3), (4, .int v4), (5, .int v5)]) C dX4_joinNextPair_99 rfl 6 rfl rfl (by decide) rfl ?_
  refine p_goto C dX4_joinNextPair_102 (pc' := 25) (by decide) ?_
  refine p_locals [1, 2, 3, 4, 5, 6, 0] (lv' := [(0, .ref at0), (1, .ref ab0), (2, .int v2), (3, .int v3), (4, .int v4), (5, .int v5), (6, .int (v6 + 1))]) rfl ?_
  exact hk25 _ _ _ _ h
def J_X4_joinNextPair_89 (t_group : Ar) (t_paired : Ar) (b_points : Int32) (b_nets : Ar) (b_xs : Ar) (b_ys : Ar) (k25 : Int32 → Int32 → Int32 → Int32 → Option (Int32 × Ar × Ar)) (k10 : Int32 → Int32 → Int32 → Int32 → Option (Int32 × Ar × Ar))  (v5 : Int32) (v6 : Int32) (v7 : Int32) : Option (Int32 × Ar × Ar) := J_X4_joinNextPair_99 t_group t_paired b_points b_nets b_xs b_ys (k25) (k10) v5 v6 v7 v5 v6
set_option maxHeartbeats 4000000 in
set_option maxRecDepth 100000 in
theorem tj_X4_joinNextPair_89 {x : Cxt} {at0 at1 at2 at3 at4 ab0 ab1 ab2 ab3 : Nat} {t_total : Int32} {t_oft : Int32} {t_left : Ar} {t_right : Ar} {t_group : Ar} {t_paired : Ar} {b_points : Int32} {b_near : Int32} {b_loose : Int32} {b_short : Int32} {b_nets : Ar} {b_xs : Ar} {b_ys : Ar} {k25 : Int32 → Int32 → Int32 → Int32 → Option (Int32 × Ar × Ar)} {k10 : Int32 → Int32 → Int32 → Int32 → Option (Int32 × Ar × Ar)}  {v5 : Int32} {v6 : Int32} {v7 : Int32} {rr : Int32} {q_t_group : Ar} {q_t_paired : Ar} (C : CX RX4 cX4_joinNextPair 8 (some .boolean) x) (hk25 : ∀ (w2 : Int32) (w3 : Int32) (w4 : Int32) (w6 : Int32) , k25 w2 w3 w4 w6 = some (rr, q_t_group, q_t_paired) → PT (RM 1 24) 8 x 25 [(0, .ref at0), (1, .ref ab0), (2, .int w2), (3, .int w3), (4, .int w4), (5, .int v5), (6, .int w6)] [] (V_TB x.1.2.2 at0 at1 at2 at3 at4 ab0 ab1 ab2 ab3 t_total t_oft t_left t_right t_group t_paired b_points b_near b_loose b_short b_nets b_xs b_ys) 0 0 (QI x rr (V_TB x.1.2.2 at0 at1 at2 at3 at4 ab0 ab1 ab2 ab3 t_total t_oft t_left t_right q_t_group q_t_paired b_points b_near b_loose b_short b_nets b_xs b_ys))) (hk10 : ∀ (w2 : Int32) (w3 : Int32) (w4 : Int32) (w5 : Int32) , k10 w2 w3 w4 w5 = some (rr, q_t_group, q_t_paired) → PT (RM 1 24) 8 x 10 [(0, .ref at0), (1, .ref ab0), (2, .int w2), (3, .int w3), (4, .int w4), (5, .int w5)] [] (V_TB x.1.2.2 at0 at1 at2 at3 at4 ab0 ab1 ab2 ab3 t_total t_oft t_left t_right t_group t_paired b_points b_near b_loose b_short b_nets b_xs b_ys) 0 0 (QI x rr (V_TB x.1.2.2 at0 at1 at2 at3 at4 ab0 ab1 ab2 ab3 t_total t_oft t_left t_right q_t_group q_t_paired b_points b_near b_loose b_short b_nets b_xs b_ys))) (h : J_X4_joinNextPair_89 t_group t_paired b_points b_nets b_xs b_ys k25 k10 v5 v6 v7 = some (rr, q_t_group, q_t_paired)) : PT (RM 1 24) 8 x 89 [(0, .ref at0), (1, .ref ab0), (5, .int v5), (6, .int v6), (7, .int v7)] [] (V_TB x.1.2.2 at0 at1 at2 at3 at4 ab0 ab1 ab2 ab3 t_total t_oft t_left t_right t_group t_paired b_points b_near b_loose b_short b_nets b_xs b_ys) 0 0 (QI x rr (V_TB x.1.2.2 at0 at1 at2 at3 at4 ab0 ab1 ab2 ab3 t_total t_oft t_left t_right q_t_group q_t_paired b_points b_near b_loose b_short b_nets b_xs b_ys)) := by
  unfold J_X4_joinNextPair_89 at h
  refine p_iload C dX4_joinNextPair_89 rfl 2 rfl ?_
  refine p_istore_n (lv' := [(2, .int v5), (0, .ref at0), (1, .ref ab0), (5, .int v5), (6, .int v6), (7, .int v7)]) C dX4_joinNextPair_91 rfl (by decide) rfl ?_
  refine p_iload C dX4_joinNextPair_92 rfl 4 rfl ?_
  refine p_istore_n (lv' := [(3, .int v6), (2, .int v5), (0, .ref at0), (1, .ref ab0), (5, .int v5), (6, .int v6), (7, .int v7)]) C dX4_joinNextPair_94 rfl (by decide) rfl ?_
  refine p_iload C dX4_joinNextPair_95 rfl 6 rfl ?_
  refine p_istore (lv' := [(4, .int v7), (3, .int v6), (2, .int v5), (0, .ref at0), (1, .ref ab0), (5, .int v5), (6, .int v6), (7, .int v7)]) C dX4_joinNextPair_97 rfl (by decide) rfl ?_
  refine p_locals [3, 4, 2, 1, 0, 5, 6] (lv' := [(0, .ref at0), (1, .ref ab0), (2, .int v5), (3, .int v6), (4, .int v7), (5, .int v5), (6, .int v6)]) rfl ?_
  exact tj_X4_joinNextPair_99 C (fun u0 u1 u2 u3 h => hk25 u0 u1 u2 u3 h) (fun u0 u1 u2 u3 h => hk10 u0 u1 u2 u3 h) h
def B_X4_joinNextPair_25 (t_group : Ar) (t_paired : Ar) (b_points : Int32) (b_nets : Ar) (b_xs : Ar) (b_ys : Ar) (k10 : Int32 → Int32 → Int32 → Int32 → Option (Int32 × Ar × Ar)) (v5 : Int32) (kk : Int32 → Int32 → Int32 → Int32 → Option (Int32 × Ar × Ar)) (v2 : Int32) (v3 : Int32) (v4 : Int32) (v6 : Int32)  : Option (Int32 × Ar × Ar) := if b_points ≤ v6 then (k10 v2 v3 v4 (v5 + 1)) else (grd (gI v5 8) (grd (gI v6 8) (if (b_nets v5.toNatClampNeg) = (b_nets v6.toNatClampNeg) then (grd (gI v5 8) (grd (gI v6 8) (if (t_group v5.toNatClampNeg) = (t_group v6.toNatClampNeg) then (J_X4_joinNextPair_99 t_group t_paired b_points b_nets b_xs b_ys (kk) (k10) v2 v3 v4 v5 v6) else (bd1 (m_X0_distance b_xs b_ys v5 v6) (fun r8 => if v2 < 0 then (J_X4_joinNextPair_89 t_group t_paired b_points b_nets b_xs b_ys (kk) (k10) v5 v6 r8) else (if v4 ≤ r8 then (J_X4_joinNextPair_99 t_group t_paired b_points b_nets b_xs b_ys (kk) (k10) v2 v3 v4 v5 v6) else (J_X4_joinNextPair_89 t_group t_paired b_points b_nets b_xs b_ys (kk) (k10) v5 v6 r8))))))) else (J_X4_joinNextPair_99 t_group t_paired b_points b_nets b_xs b_ys (kk) (k10) v2 v3 v4 v5 v6))))
def L_X4_joinNextPair_25 (t_group : Ar) (t_paired : Ar) (b_points : Int32) (b_nets : Ar) (b_xs : Ar) (b_ys : Ar) (k10 : Int32 → Int32 → Int32 → Int32 → Option (Int32 × Ar × Ar)) (v5 : Int32) : Nat → Int32 → Int32 → Int32 → Int32 → Option (Int32 × Ar × Ar) := lpG (fun _ _ _ _ => none) (B_X4_joinNextPair_25 t_group t_paired b_points b_nets b_xs b_ys k10 v5)
set_option maxHeartbeats 4000000 in
set_option maxRecDepth 100000 in
theorem tl_X4_joinNextPair_25 {x : Cxt} {at0 at1 at2 at3 at4 ab0 ab1 ab2 ab3 : Nat} {t_total : Int32} {t_oft : Int32} {t_left : Ar} {t_right : Ar} {t_group : Ar} {t_paired : Ar} {b_points : Int32} {b_near : Int32} {b_loose : Int32} {b_short : Int32} {b_nets : Ar} {b_xs : Ar} {b_ys : Ar} {k10 : Int32 → Int32 → Int32 → Int32 → Option (Int32 × Ar × Ar)} {v5 : Int32} {rr : Int32} {q_t_group : Ar} {q_t_paired : Ar} (C : CX RX4 cX4_joinNextPair 8 (some .boolean) x) (hk10 : ∀ (w2 : Int32) (w3 : Int32) (w4 : Int32) (w5 : Int32) , k10 w2 w3 w4 w5 = some (rr, q_t_group, q_t_paired) → PT (RM 1 24) 8 x 10 [(0, .ref at0), (1, .ref ab0), (2, .int w2), (3, .int w3), (4, .int w4), (5, .int w5)] [] (V_TB x.1.2.2 at0 at1 at2 at3 at4 ab0 ab1 ab2 ab3 t_total t_oft t_left t_right t_group t_paired b_points b_near b_loose b_short b_nets b_xs b_ys) 0 0 (QI x rr (V_TB x.1.2.2 at0 at1 at2 at3 at4 ab0 ab1 ab2 ab3 t_total t_oft t_left t_right q_t_group q_t_paired b_points b_near b_loose b_short b_nets b_xs b_ys))) : ∀ (n : Nat) (v2 : Int32) (v3 : Int32) (v4 : Int32) (v6 : Int32) , L_X4_joinNextPair_25 t_group t_paired b_points b_nets b_xs b_ys k10 v5 n v2 v3 v4 v6 = some (rr, q_t_group, q_t_paired) → PT (RM 1 24) 8 x 25 [(0, .ref at0), (1, .ref ab0), (2, .int v2), (3, .int v3), (4, .int v4), (5, .int v5), (6, .int v6)] [] (V_TB x.1.2.2 at0 at1 at2 at3 at4 ab0 ab1 ab2 ab3 t_total t_oft t_left t_right t_group t_paired b_points b_near b_loose b_short b_nets b_xs b_ys) 0 0 (QI x rr (V_TB x.1.2.2 at0 at1 at2 at3 at4 ab0 ab1 ab2 ab3 t_total t_oft t_left t_right q_t_group q_t_paired b_points b_near b_loose b_short b_nets b_xs b_ys)) := by
  intro n
  induction n with
  | zero =>
    intro v2 v3 v4 v6 h
    cases h
  | succ n ih =>
    intro v2 v3 v4 v6 h
    have h : B_X4_joinNextPair_25 t_group t_paired b_points b_nets b_xs b_ys k10 v5 (L_X4_joinNextPair_25 t_group t_paired b_points b_nets b_xs b_ys k10 v5 n) v2 v3 v4 v6 = some (rr, q_t_group, q_t_paired) := h
    unfold B_X4_joinNextPair_25 at h
    refine p_iload C dX4_joinNextPair_25 rfl 6 rfl ?_
    refine p_aload_n C dX4_joinNextPair_27 rfl 1 rfl ?_
    refine p_getN C dX4_joinNextPair_28 rfl 5 3 inlX0 nf_X4_41 rfl rfl (by decide) rfl rfl ?_
    refine p_icmp_ge C dX4_joinNextPair_31 (tgt := 105) (by decide) rfl (fun c1 => ?_) (fun c1 => ?_)
    · have h := if_t c1 h
      refine p_iinc (w := v5 + 1) (lv' := [(5, .int (v5 + 1)), (0, .ref at0), (1, .ref ab0), (2, .int v2), (3, .int v3), (4, .int v4), (6, .int v6)]) C dX4_joinNextPair_105 rfl 5 rfl rfl (by decide) rfl ?_
      refine p_goto C dX4_joinNextPair_108 (pc' := 10) (by decide) ?_
      refine p_locals [1, 2, 3, 4, 5, 0] (lv' := [(0, .ref at0), (1, .ref ab0), (2, .int v2), (3, .int v3), (4, .int v4), (5, .int (v5 + 1))]) rfl ?_
      exact hk10 _ _ _ _ h
    · have h := if_f c1 h
      refine p_aload_n C dX4_joinNextPair_34 rfl 1 rfl ?_
      refine p_getN C dX4_joinNextPair_35 rfl 5 0 inlX0 nf_X4_50 rfl rfl (by decide) rfl rfl ?_
      refine p_iload C dX4_joinNextPair_38 rfl 5 rfl ?_
      obtain ⟨g2, h⟩ := grd_of h
      refine p_iald C dX4_joinNextPair_40 rfl 6 rfl g2 ?_
      refine p_aload_n C dX4_joinNextPair_41 rfl 1 rfl ?_
      refine p_getN C dX4_joinNextPair_42 rfl 5 0 inlX0 nf_X4_50 rfl rfl (by decide) rfl rfl ?_
      refine p_iload C dX4_joinNextPair_45 rfl 6 rfl ?_
      obtain ⟨g3, h⟩ := grd_of h
      refine p_iald C dX4_joinNextPair_47 rfl 6 rfl g3 ?_
      refine p_icmp_ne C dX4_joinNextPair_48 (tgt := 99) (by decide) rfl (fun c4 => ?_) (fun c4 => ?_)
      · have h := if_f c4 h
        refine p_locals [0, 1, 2, 3, 4, 5, 6] (lv' := [(0, .ref at0), (1, .ref ab0), (2, .int v2), (3, .int v3), (4, .int v4), (5, .int v5), (6, .int v6)]) rfl ?_
        exact tj_X4_joinNextPair_99 C (fun u0 u1 u2 u3 h => ih u0 u1 u2 u3 h) (fun u0 u1 u2 u3 h => hk10 u0 u1 u2 u3 h) h
      · have h := if_t c4 h
        refine p_aload_n C dX4_joinNextPair_51 rfl 0 rfl ?_
        refine p_get C dX4_joinNextPair_52 rfl 0 4 inlX4 fl_X4_25 rfl rfl (by decide) rfl rfl ?_
        refine p_iload C dX4_joinNextPair_55 rfl 5 rfl ?_
        obtain ⟨g5, h⟩ := grd_of h
        refine p_iald C dX4_joinNextPair_57 rfl 3 rfl g5 ?_
        refine p_aload_n C dX4_joinNextPair_58 rfl 0 rfl ?_
        refine p_get C dX4_joinNextPair_59 rfl 0 4 inlX4 fl_X4_25 rfl rfl (by decide) rfl rfl ?_
        refine p_iload C dX4_joinNextPair_62 rfl 6 rfl ?_
        obtain ⟨g6, h⟩ := grd_of h
        refine p_iald C dX4_joinNextPair_64 rfl 3 rfl g6 ?_
        refine p_icmp_eq C dX4_joinNextPair_65 (tgt := 99) (by decide) rfl (fun c7 => ?_) (fun c7 => ?_)
        · have h := if_t c7 h
          refine p_locals [0, 1, 2, 3, 4, 5, 6] (lv' := [(0, .ref at0), (1, .ref ab0), (2, .int v2), (3, .int v3), (4, .int v4), (5, .int v5), (6, .int v6)]) rfl ?_
          exact tj_X4_joinNextPair_99 C (fun u0 u1 u2 u3 h => ih u0 u1 u2 u3 h) (fun u0 u1 u2 u3 h => hk10 u0 u1 u2 u3 h) h
        · have h := if_f c7 h
          refine p_aload_n C dX4_joinNextPair_68 rfl 1 rfl ?_
          refine p_iload C dX4_joinNextPair_69 rfl 5 rfl ?_
          refine p_iload C dX4_joinNextPair_71 rfl 6 rfl ?_
          obtain ⟨r8, hc9, h⟩ := bd1_of h
          refine p_callVNi (As := [.int v5, .int v6]) (st' := []) (Wd' := (V_TB x.1.2.2 at0 at1 at2 at3 at4 ab0 ab1 ab2 ab3 t_total t_oft t_left t_right t_group t_paired b_points b_near b_loose b_short b_nets b_xs b_ys)) C (c_X0_distance x.1 (ab0 := ab0) (ab1 := ab1) (ab2 := ab2) (ab3 := ab3) (b_points := b_points) (b_near := b_near) (b_loose := b_loose) (b_short := b_short) (b_nets := b_nets) hc9) dX4_joinNextPair_73 rfl nm_X4_53 kv_X0_distance ds_X0_distance ⟨rfl, rfl, by decide, by decide⟩ 0 rfl rfl [5, 6, 7, 8] rfl rfl rfl rfl (by decide) ⟨by decide, by decide⟩ rfl ?_
          refine p_istore (lv' := [(7, .int r8), (0, .ref at0), (1, .ref ab0), (2, .int v2), (3, .int v3), (4, .int v4), (5, .int v5), (6, .int v6)]) C dX4_joinNextPair_76 rfl (by decide) rfl ?_
          refine p_iload_n C dX4_joinNextPair_78 rfl 3 rfl ?_
          refine p_if_lt C dX4_joinNextPair_79 (tgt := 89) (by decide) rfl (fun c10 => ?_) (fun c10 => ?_)
          · have h := if_t c10 h
            refine p_locals [1, 2, 6, 7, 0] (lv' := [(0, .ref at0), (1, .ref ab0), (5, .int v5), (6, .int v6), (7, .int r8)]) rfl ?_
            exact tj_X4_joinNextPair_89 C (fun u0 u1 u2 u3 h => ih u0 u1 u2 u3 h) (fun u0 u1 u2 u3 h => hk10 u0 u1 u2 u3 h) h
          · have h := if_f c10 h
            refine p_iload C dX4_joinNextPair_82 rfl 0 rfl ?_
            refine p_iload C dX4_joinNextPair_84 rfl 5 rfl ?_
            refine p_icmp_ge C dX4_joinNextPair_86 (tgt := 99) (by decide) rfl (fun c11 => ?_) (fun c11 => ?_)
            · have h := if_t c11 h
              refine p_locals [1, 2, 3, 4, 5, 6, 7] (lv' := [(0, .ref at0), (1, .ref ab0), (2, .int v2), (3, .int v3), (4, .int v4), (5, .int v5), (6, .int v6)]) rfl ?_
              exact tj_X4_joinNextPair_99 C (fun u0 u1 u2 u3 h => ih u0 u1 u2 u3 h) (fun u0 u1 u2 u3 h => hk10 u0 u1 u2 u3 h) h
            · have h := if_f c11 h
              refine p_locals [1, 2, 6, 7, 0] (lv' := [(0, .ref at0), (1, .ref ab0), (5, .int v5), (6, .int v6), (7, .int r8)]) rfl ?_
              exact tj_X4_joinNextPair_89 C (fun u0 u1 u2 u3 h => ih u0 u1 u2 u3 h) (fun u0 u1 u2 u3 h => hk10 u0 u1 u2 u3 h) h
def B_X4_joinNextPair_10 (t_group : Ar) (t_paired : Ar) (b_points : Int32) (b_nets : Ar) (b_xs : Ar) (b_ys : Ar)   (kk : Int32 → Int32 → Int32 → Int32 → Option (Int32 × Ar × Ar)) (v2 : Int32) (v3 : Int32) (v4 : Int32) (v5 : Int32)  : Option (Int32 × Ar × Ar) := if b_points ≤ v5 then (if 0 ≤ v2 then (grd (gI v2 8) (grd (gI v2 8) (grd (gI v2 8) (grd (gI v3 8) (bd1 (m_X4_mergeGroups t_group (t_group v2.toNatClampNeg) (t_group v3.toNatClampNeg)) (fun z_group7 => some ((1 : Int32), z_group7, upd t_paired v2.toNatClampNeg ((t_paired v2.toNatClampNeg) ||| (((1 : Int32)) <<< (v3 &&& 31)))))))))) else (some ((0 : Int32), t_group, t_paired))) else (L_X4_joinNextPair_25 t_group t_paired b_points b_nets b_xs b_ys kk v5 FU v2 v3 v4 (v5 + ((1 : Int32))))
def L_X4_joinNextPair_10 (t_group : Ar) (t_paired : Ar) (b_points : Int32) (b_nets : Ar) (b_xs : Ar) (b_ys : Ar)   : Nat → Int32 → Int32 → Int32 → Int32 → Option (Int32 × Ar × Ar) := lpG (fun _ _ _ _ => none) (B_X4_joinNextPair_10 t_group t_paired b_points b_nets b_xs b_ys)
set_option maxHeartbeats 4000000 in
set_option maxRecDepth 100000 in
theorem tl_X4_joinNextPair_10 {x : Cxt} {at0 at1 at2 at3 at4 ab0 ab1 ab2 ab3 : Nat} {t_total : Int32} {t_oft : Int32} {t_left : Ar} {t_right : Ar} {t_group : Ar} {t_paired : Ar} {b_points : Int32} {b_near : Int32} {b_loose : Int32} {b_short : Int32} {b_nets : Ar} {b_xs : Ar} {b_ys : Ar}   {rr : Int32} {q_t_group : Ar} {q_t_paired : Ar} (C : CX RX4 cX4_joinNextPair 8 (some .boolean) x)  : ∀ (n : Nat) (v2 : Int32) (v3 : Int32) (v4 : Int32) (v5 : Int32) , L_X4_joinNextPair_10 t_group t_paired b_points b_nets b_xs b_ys n v2 v3 v4 v5 = some (rr, q_t_group, q_t_paired) → PT (RM 1 24) 8 x 10 [(0, .ref at0), (1, .ref ab0), (2, .int v2), (3, .int v3), (4, .int v4), (5, .int v5)] [] (V_TB x.1.2.2 at0 at1 at2 at3 at4 ab0 ab1 ab2 ab3 t_total t_oft t_left t_right t_group t_paired b_points b_near b_loose b_short b_nets b_xs b_ys) 0 0 (QI x rr (V_TB x.1.2.2 at0 at1 at2 at3 at4 ab0 ab1 ab2 ab3 t_total t_oft t_left t_right q_t_group q_t_paired b_points b_near b_loose b_short b_nets b_xs b_ys)) := by
  intro n
  induction n with
  | zero =>
    intro v2 v3 v4 v5 h
    cases h
  | succ n ih =>
    intro v2 v3 v4 v5 h
    have h : B_X4_joinNextPair_10 t_group t_paired b_points b_nets b_xs b_ys (L_X4_joinNextPair_10 t_group t_paired b_points b_nets b_xs b_ys n) v2 v3 v4 v5 = some (rr, q_t_group, q_t_paired) := h
    unfold B_X4_joinNextPair_10 at h
    refine p_iload C dX4_joinNextPair_10 rfl 5 rfl ?_
    refine p_aload_n C dX4_joinNextPair_12 rfl 1 rfl ?_
    refine p_getN C dX4_joinNextPair_13 rfl 5 3 inlX0 nf_X4_41 rfl rfl (by decide) rfl rfl ?_
    refine p_icmp_ge C dX4_joinNextPair_16 (tgt := 111) (by decide) rfl (fun c1 => ?_) (fun c1 => ?_)
    · have h := if_t c1 h
      refine p_iload_n C dX4_joinNextPair_111 rfl 2 rfl ?_
      refine p_if_ge C dX4_joinNextPair_112 (tgt := 117) (by decide) rfl (fun c2 => ?_) (fun c2 => ?_)
      · have h := if_t c2 h
        refine p_aload_n C dX4_joinNextPair_117 rfl 0 rfl ?_
        refine p_get C dX4_joinNextPair_118 rfl 0 5 inlX4 fl_X4_28 rfl rfl (by decide) rfl rfl ?_
        refine p_iload_n C dX4_joinNextPair_121 rfl 2 rfl ?_
        refine p_dup2 C dX4_joinNextPair_122 rfl rfl rfl ?_
        obtain ⟨g3, h⟩ := grd_of h
        refine p_iald C dX4_joinNextPair_123 rfl 4 rfl g3 ?_
        refine p_iconst (v := (1 : Int32)) C dX4_joinNextPair_124 rfl (by decide) ?_
        refine p_iload_n C dX4_joinNextPair_125 rfl 3 rfl ?_
        refine p_ishl C dX4_joinNextPair_126 rfl ?_
        refine p_ior C dX4_joinNextPair_127 rfl ?_
        obtain ⟨g4, h⟩ := grd_of h
        refine p_iast (Wd' := (V_TB x.1.2.2 at0 at1 at2 at3 at4 ab0 ab1 ab2 ab3 t_total t_oft t_left t_right t_group (upd t_paired v2.toNatClampNeg ((t_paired v2.toNatClampNeg) ||| (((1 : Int32)) <<< (v3 &&& 31)))) b_points b_near b_loose b_short b_nets b_xs b_ys)) C dX4_joinNextPair_128 rfl 4 rfl g4 rfl ?_
        refine p_aload_n C dX4_joinNextPair_129 rfl 0 rfl ?_
        refine p_aload_n C dX4_joinNextPair_130 rfl 0 rfl ?_
        refine p_get C dX4_joinNextPair_131 rfl 0 4 inlX4 fl_X4_25 rfl rfl (by decide) rfl rfl ?_
        refine p_iload_n C dX4_joinNextPair_134 rfl 2 rfl ?_
        obtain ⟨g5, h⟩ := grd_of h
        refine p_iald C dX4_joinNextPair_135 rfl 3 rfl g5 ?_
        refine p_aload_n C dX4_joinNextPair_136 rfl 0 rfl ?_
        refine p_get C dX4_joinNextPair_137 rfl 0 4 inlX4 fl_X4_25 rfl rfl (by decide) rfl rfl ?_
        refine p_iload_n C dX4_joinNextPair_140 rfl 3 rfl ?_
        obtain ⟨g6, h⟩ := grd_of h
        refine p_iald C dX4_joinNextPair_141 rfl 3 rfl g6 ?_
        obtain ⟨z_group7, hc8, h⟩ := bd1_of h
        refine p_callVv (As := [.int (t_group v2.toNatClampNeg), .int (t_group v3.toNatClampNeg)]) (st' := []) (Wd' := (V_TB x.1.2.2 at0 at1 at2 at3 at4 ab0 ab1 ab2 ab3 t_total t_oft t_left t_right z_group7 (upd t_paired v2.toNatClampNeg ((t_paired v2.toNatClampNeg) ||| (((1 : Int32)) <<< (v3 &&& 31)))) b_points b_near b_loose b_short b_nets b_xs b_ys)) C (c_X4_mergeGroups x.1 (at0 := at0) (at1 := at1) (at2 := at2) (at3 := at3) (at4 := at4) (t_total := t_total) (t_oft := t_oft) (t_left := t_left) (t_right := t_right) (t_paired := upd t_paired v2.toNatClampNeg ((t_paired v2.toNatClampNeg) ||| (((1 : Int32)) <<< (v3 &&& 31)))) hc8) dX4_joinNextPair_142 rfl ml_X4_57 kv_X4_mergeGroups ds_X4_mergeGroups ⟨rfl, rfl, by decide, by decide⟩ 0 rfl rfl [0, 1, 2, 3, 4] rfl rfl rfl rfl (by decide) ⟨by decide, by decide⟩ rfl ?_
        refine p_iconst (v := (1 : Int32)) C dX4_joinNextPair_145 rfl (by decide) ?_
        cases h
        exact p_zret C dX4_joinNextPair_146 rfl
      · have h := if_f c2 h
        refine p_iconst (v := (0 : Int32)) C dX4_joinNextPair_115 rfl (by decide) ?_
        cases h
        exact p_zret C dX4_joinNextPair_116 rfl
    · have h := if_f c1 h
      refine p_iload C dX4_joinNextPair_19 rfl 5 rfl ?_
      refine p_iconst (v := (1 : Int32)) C dX4_joinNextPair_21 rfl (by decide) ?_
      refine p_iadd C dX4_joinNextPair_22 rfl ?_
      refine p_istore (lv' := [(6, .int (v5 + ((1 : Int32)))), (0, .ref at0), (1, .ref ab0), (2, .int v2), (3, .int v3), (4, .int v4), (5, .int v5)]) C dX4_joinNextPair_23 rfl (by decide) rfl ?_
      refine p_locals [1, 2, 3, 4, 5, 6, 0] (lv' := [(0, .ref at0), (1, .ref ab0), (2, .int v2), (3, .int v3), (4, .int v4), (5, .int v5), (6, .int (v5 + ((1 : Int32))))]) rfl ?_
      exact tl_X4_joinNextPair_25 C (fun u0 u1 u2 u3 h => ih u0 u1 u2 u3 h) FU _ _ _ _ h
def m_X4_joinNextPair (t_group : Ar) (t_paired : Ar) (b_points : Int32) (b_nets : Ar) (b_xs : Ar) (b_ys : Ar)  : Option (Int32 × Ar × Ar) := L_X4_joinNextPair_10 t_group t_paired b_points b_nets b_xs b_ys FU ((-1 : Int32)) ((-1 : Int32)) ((0 : Int32)) ((0 : Int32))
theorem ds_X4_joinNextPair : (yX4_joinNextPair).cls ≠ "java/lang/invoke/MethodHandle" ∧ (yX4_joinNextPair).cls ≠ "java/lang/invoke/VarHandle" ∧ (parseMethodDescriptor (yX4_joinNextPair).desc).map (fun d => d.parameters.length) = some 1 := by decide +kernel
set_option maxHeartbeats 4000000 in
set_option maxRecDepth 100000 in
theorem c_X4_joinNextPair (E : En) {at0 at1 at2 at3 at4 ab0 ab1 ab2 ab3 : Nat} {t_total : Int32} {t_oft : Int32} {t_left : Ar} {t_right : Ar} {t_group : Ar} {t_paired : Ar} {b_points : Int32} {b_near : Int32} {b_loose : Int32} {b_short : Int32} {b_nets : Ar} {b_xs : Ar} {b_ys : Ar}  {rr : Int32} {q_t_group : Ar} {q_t_paired : Ar} (h : m_X4_joinNextPair t_group t_paired b_points b_nets b_xs b_ys = some (rr, q_t_group, q_t_paired)) : Ci E yX4_joinNextPair (wU yX4_joinNextPair cX4_joinNextPair 8 (some .boolean)) (RM 1 24) [.ref at0, .ref ab0] (V_TB E.2.2 at0 at1 at2 at3 at4 ab0 ab1 ab2 ab3 t_total t_oft t_left t_right t_group t_paired b_points b_near b_loose b_short b_nets b_xs b_ys) (V_TB E.2.2 at0 at1 at2 at3 at4 ab0 ab1 ab2 ab3 t_total t_oft t_left t_right q_t_group q_t_paired b_points b_near b_loose b_short b_nets b_xs b_ys) rr := by
  refine Ci.of (by decide) (Nat.le_of_ble_eq_true rfl) ?_
  intro x hE C
  subst hE
  have C : CX RX4 cX4_joinNextPair 8 (some .boolean) x := C
  refine p_locals [0, 1] (lv' := [(0, .ref at0), (1, .ref ab0)]) rfl ?_
  unfold m_X4_joinNextPair at h
  refine p_iconst (v := (-1 : Int32)) C dX4_joinNextPair_0 rfl (by decide) ?_
  refine p_istore_n (lv' := [(2, .int ((-1 : Int32))), (0, .ref at0), (1, .ref ab0)]) C dX4_joinNextPair_1 rfl (by decide) rfl ?_
  refine p_iconst (v := (-1 : Int32)) C dX4_joinNextPair_2 rfl (by decide) ?_
  refine p_istore_n (lv' := [(3, .int ((-1 : Int32))), (2, .int ((-1 : Int32))), (0, .ref at0), (1, .ref ab0)]) C dX4_joinNextPair_3 rfl (by decide) rfl ?_
  refine p_iconst (v := (0 : Int32)) C dX4_joinNextPair_4 rfl (by decide) ?_
  refine p_istore (lv' := [(4, .int ((0 : Int32))), (3, .int ((-1 : Int32))), (2, .int ((-1 : Int32))), (0, .ref at0), (1, .ref ab0)]) C dX4_joinNextPair_5 rfl (by decide) rfl ?_
  refine p_iconst (v := (0 : Int32)) C dX4_joinNextPair_7 rfl (by decide) ?_
  refine p_istore (lv' := [(5, .int ((0 : Int32))), (4, .int ((0 : Int32))), (3, .int ((-1 : Int32))), (2, .int ((-1 : Int32))), (0, .ref at0), (1, .ref ab0)]) C dX4_joinNextPair_8 rfl (by decide) rfl ?_
  refine p_locals [4, 5, 3, 2, 1, 0] (lv' := [(0, .ref at0), (1, .ref ab0), (2, .int ((-1 : Int32))), (3, .int ((-1 : Int32))), (4, .int ((0 : Int32))), (5, .int ((0 : Int32)))]) rfl ?_
  exact tl_X4_joinNextPair_10 C  FU _ _ _ _ h
