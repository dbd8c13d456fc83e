def m_X6_move (m_state : Ar) (p1 : Int32) (p2 : Int32) (p3 : Int32) : Option (Int32 × Ar) := bd1 (m_X6_isPoint m_state p1) (fun r1 => if r1 = 0 then (some ((-1 : Int32), m_state)) else (bd1 (m_X6_isHere p2 p3) (fun r4 => if r4 = 0 then (some ((-2 : Int32), m_state)) else (grd (gI (((9 : Int32)) + p1) 40) (grd (gI (((17 : Int32)) + p1) 40) (bd1 (some ((((21 : Int32)) * (m_state (((9 : Int32)) + p1).toNatClampNeg)) + (m_state (((17 : Int32)) + p1).toNatClampNeg))) (fun x9 => grd (gI (((9 : Int32)) + p1) 40) (grd (gI (((17 : Int32)) + p1) 40) (some (x9, upd (upd m_state (((9 : Int32)) + p1).toNatClampNeg p2) (((17 : Int32)) + p1).toNatClampNeg p3))))))))))
theorem ds_X6_move : (yX6_move).cls ≠ "java/lang/invoke/MethodHandle" ∧ (yX6_move).cls ≠ "java/lang/invoke/VarHandle" ∧ (parseMethodDescriptor (yX6_move).desc).map (fun d => d.parameters.length) = some 3 := by decide +kernel
set_option maxHeartbeats 4000000 in
set_option maxRecDepth 100000 in
theorem c_X6_move (E : En) {am0 am1 am2 am3 am4 am5 am6 am7 am8 am9 am10 am11 am12 am13 am14 : Nat} {m_said : Int32} {m_tries : Int32} {m_state : Ar} {m_images : Ar} {m_isKept : Ar} {m_pad : Ar} {m_leftOf : Ar} {m_rightOf : Ar} {m_isApart : Ar} {m_group : Ar} {m_isPair : Ar} {m_isOne : Ar} {m_order : Ar} {m_rest : Ar} {m_aside : Ar} {m_others : Ar} {p1 : Int32} {p2 : Int32} {p3 : Int32} {rr : Int32} {q_m_state : Ar} (h : m_X6_move m_state p1 p2 p3 = some (rr, q_m_state)) : Ci E yX6_move (wU yX6_move cX6_move 5 (some .int)) (RM 2 43) [.ref am0, .int p1, .int p2, .int p3] (V_M E.2.2 am0 am1 am2 am3 am4 am5 am6 am7 am8 am9 am10 am11 am12 am13 am14 m_said m_tries m_state m_images m_isKept m_pad m_leftOf m_rightOf m_isApart m_group m_isPair m_isOne m_order m_rest m_aside m_others) (V_M E.2.2 am0 am1 am2 am3 am4 am5 am6 am7 am8 am9 am10 am11 am12 am13 am14 m_said m_tries q_m_state m_images m_isKept m_pad m_leftOf m_rightOf m_isApart m_group m_isPair m_isOne m_order m_rest m_aside m_others) rr := by
  refine Ci.of (by decide) (Nat.le_of_ble_eq_true rfl) ?_
  intro x hE C
  subst hE
  have C : CX RX6 cX6_move 5 (some .int) x := C
  refine p_locals [0, 1, 2, 3] (lv' := [(0, .ref am0), (1, .int p1), (2, .int p2), (3, .int p3)]) rfl ?_
  unfold m_X6_move at h
  refine p_aload_n C dX6_move_0 rfl 0 rfl ?_
  refine p_iload_n C dX6_move_1 rfl 1 rfl ?_
  obtain ⟨r1, hc2, h⟩ := bd1_of h
  refine p_callVi_s (As := [.int p1]) (st' := []) (Wc' := (V_M x.1.2.2 am0 am1 am2 am3 am4 am5 am6 am7 am8 am9 am10 am11 am12 am13 am14 m_said m_tries m_state m_images m_isKept m_pad m_leftOf m_rightOf m_isApart m_group m_isPair m_isOne m_order m_rest m_aside m_others)) C (c_X6_isPoint x.1 (am0 := am0) (am1 := am1) (am2 := am2) (am3 := am3) (am4 := am4) (am5 := am5) (am6 := am6) (am7 := am7) (am8 := am8) (am9 := am9) (am10 := am10) (am11 := am11) (am12 := am12) (am13 := am13) (am14 := am14) (m_said := m_said) (m_tries := m_tries) (m_images := m_images) (m_isKept := m_isKept) (m_pad := m_pad) (m_leftOf := m_leftOf) (m_rightOf := m_rightOf) (m_isApart := m_isApart) (m_group := m_group) (m_isPair := m_isPair) (m_isOne := m_isOne) (m_order := m_order) (m_rest := m_rest) (m_aside := m_aside) (m_others := m_others) hc2) dX6_move_2 rfl ml_X6_65 kv_X6_isPoint ds_X6_isPoint ⟨rfl, rfl, by decide, by decide⟩ 0 rfl rfl rfl rfl (by decide) ⟨by decide, by decide⟩ ?_
  refine p_if_ne C dX6_move_5 (tgt := 10) (by decide) rfl (fun c3 => ?_) (fun c3 => ?_)
  · have h := if_f c3 h
    refine p_iload_n C dX6_move_10 rfl 2 rfl ?_
    refine p_iload_n C dX6_move_11 rfl 3 rfl ?_
    obtain ⟨r4, hc5, h⟩ := bd1_of h
    refine p_callSi (As := [.int p2, .int p3]) (st' := []) (Wd' := (V_M x.1.2.2 am0 am1 am2 am3 am4 am5 am6 am7 am8 am9 am10 am11 am12 am13 am14 m_said m_tries m_state m_images m_isKept m_pad m_leftOf m_rightOf m_isApart m_group m_isPair m_isOne m_order m_rest m_aside m_others)) C (c_X6_isHere x.1 hc5) dX6_move_12 rfl ml_X6_61 ks_X6_isHere ds_X6_isHere ⟨rfl, rfl, by decide, by decide⟩ [] rfl rfl rfl rfl (by decide) ⟨by decide, by decide⟩ rfl ?_
    refine p_if_ne C dX6_move_15 (tgt := 21) (by decide) rfl (fun c6 => ?_) (fun c6 => ?_)
    · have h := if_f c6 h
      refine p_bipush (v := (21 : Int32)) C dX6_move_21 rfl (by decide) ?_
      refine p_aload_n C dX6_move_23 rfl 0 rfl ?_
      refine p_get C dX6_move_24 rfl 0 0 inlX6 fl_X6_7 rfl rfl (by decide) rfl rfl ?_
      refine p_bipush (v := (9 : Int32)) C dX6_move_27 rfl (by decide) ?_
      refine p_iload_n C dX6_move_29 rfl 1 rfl ?_
      refine p_iadd C dX6_move_30 rfl ?_
      obtain ⟨g7, h⟩ := grd_of h
      refine p_iald C dX6_move_31 rfl 1 rfl g7 ?_
      refine p_imul C dX6_move_32 rfl ?_
      refine p_aload_n C dX6_move_33 rfl 0 rfl ?_
      refine p_get C dX6_move_34 rfl 0 0 inlX6 fl_X6_7 rfl rfl (by decide) rfl rfl ?_
      refine p_bipush (v := (17 : Int32)) C dX6_move_37 rfl (by decide) ?_
      refine p_iload_n C dX6_move_39 rfl 1 rfl ?_
      refine p_iadd C dX6_move_40 rfl ?_
      obtain ⟨g8, h⟩ := grd_of h
      refine p_iald C dX6_move_41 rfl 1 rfl g8 ?_
      refine p_iadd C dX6_move_42 rfl ?_
      obtain ⟨x9, hx10, h⟩ := bd1_of h
      have hx10 := Option.some.inj hx10
      rw [hx10]
      refine p_istore (lv' := [(4, .int x9), (0, .ref am0), (1, .int p1), (2, .int p2), (3, .int p3)]) C dX6_move_43 rfl (by decide) rfl ?_
      refine p_aload_n C dX6_move_45 rfl 1 rfl ?_
      refine p_get C dX6_move_46 rfl 0 0 inlX6 fl_X6_7 rfl rfl (by decide) rfl rfl ?_
      refine p_bipush (v := (9 : Int32)) C dX6_move_49 rfl (by decide) ?_
      refine p_iload_n C dX6_move_51 rfl 2 rfl ?_
      refine p_iadd C dX6_move_52 rfl ?_
      refine p_iload_n C dX6_move_53 rfl 3 rfl ?_
      obtain ⟨g11, h⟩ := grd_of h
      refine p_iast (Wd' := (V_M x.1.2.2 am0 am1 am2 am3 am4 am5 am6 am7 am8 am9 am10 am11 am12 am13 am14 m_said m_tries (upd m_state (((9 : Int32)) + p1).toNatClampNeg p2) m_images m_isKept m_pad m_leftOf m_rightOf m_isApart m_group m_isPair m_isOne m_order m_rest m_aside m_others)) C dX6_move_54 rfl 1 rfl g11 rfl ?_
      refine p_aload_n C dX6_move_55 rfl 1 rfl ?_
      refine p_get C dX6_move_56 rfl 0 0 inlX6 fl_X6_7 rfl rfl (by decide) rfl rfl ?_
      refine p_bipush (v := (17 : Int32)) C dX6_move_59 rfl (by decide) ?_
      refine p_iload_n C dX6_move_61 rfl 2 rfl ?_
      refine p_iadd C dX6_move_62 rfl ?_
      refine p_iload_n C dX6_move_63 rfl 4 rfl ?_
      obtain ⟨g12, h⟩ := grd_of h
      refine p_iast (Wd' := (V_M x.1.2.2 am0 am1 am2 am3 am4 am5 am6 am7 am8 am9 am10 am11 am12 am13 am14 m_said m_tries (upd (upd m_state (((9 : Int32)) + p1).toNatClampNeg p2) (((17 : Int32)) + p1).toNatClampNeg p3) m_images m_isKept m_pad m_leftOf m_rightOf m_isApart m_group m_isPair m_isOne m_order m_rest m_aside m_others)) C dX6_move_64 rfl 1 rfl g12 rfl ?_
      refine p_iload C dX6_move_65 rfl 0 rfl ?_
      cases h
      exact p_iret C dX6_move_67
    · have h := if_t c6 h
      refine p_bipush (v := (-2 : Int32)) C dX6_move_18 rfl (by decide) ?_
      cases h
      exact p_iret C dX6_move_20
  · have h := if_t c3 h
    refine p_iconst (v := (-1 : Int32)) C dX6_move_8 rfl (by decide) ?_
    cases h
    exact p_iret C dX6_move_9
def m_X6_near (m_state : Ar) (p1 : Int32) : Option (Int32 × Ar) := bd1 (m_X6_in p1 ((0 : Int32)) ((800 : Int32))) (fun r1 => if r1 = 0 then (some ((-2 : Int32), m_state)) else (some (m_state 33, upd m_state 33 p1)))
theorem ds_X6_near : (yX6_near).cls ≠ "java/lang/invoke/MethodHandle" ∧ (yX6_near).cls ≠ "java/lang/invoke/VarHandle" ∧ (parseMethodDescriptor (yX6_near).desc).map (fun d => d.parameters.length) = some 1 := by decide +kernel
set_option maxHeartbeats 4000000 in
set_option maxRecDepth 100000 in
theorem c_X6_near (E : En) {am0 am1 am2 am3 am4 am5 am6 am7 am8 am9 am10 am11 am12 am13 am14 : Nat} {m_said : Int32} {m_tries : Int32} {m_state : Ar} {m_images : Ar} {m_isKept : Ar} {m_pad : Ar} {m_leftOf : Ar} {m_rightOf : Ar} {m_isApart : Ar} {m_group : Ar} {m_isPair : Ar} {m_isOne : Ar} {m_order : Ar} {m_rest : Ar} {m_aside : Ar} {m_others : Ar} {p1 : Int32} {rr : Int32} {q_m_state : Ar} (h : m_X6_near m_state p1 = some (rr, q_m_state)) : Ci E yX6_near (wU yX6_near cX6_near 3 (some .int)) (RM 1 22) [.ref am0, .int p1] (V_M E.2.2 am0 am1 am2 am3 am4 am5 am6 am7 am8 am9 am10 am11 am12 am13 am14 m_said m_tries m_state m_images m_isKept m_pad m_leftOf m_rightOf m_isApart m_group m_isPair m_isOne m_order m_rest m_aside m_others) (V_M E.2.2 am0 am1 am2 am3 am4 am5 am6 am7 am8 am9 am10 am11 am12 am13 am14 m_said m_tries q_m_state m_images m_isKept m_pad m_leftOf m_rightOf m_isApart m_group m_isPair m_isOne m_order m_rest m_aside m_others) rr := by
  refine Ci.of (by decide) (Nat.le_of_ble_eq_true rfl) ?_
  intro x hE C
  subst hE
  have C : CX RX6 cX6_near 3 (some .int) x := C
  refine p_locals [0, 1] (lv' := [(0, .ref am0), (1, .int p1)]) rfl ?_
  unfold m_X6_near at h
  refine p_iload_n C dX6_near_0 rfl 1 rfl ?_
  refine p_iconst (v := (0 : Int32)) C dX6_near_1 rfl (by decide) ?_
  refine p_sipush (v := (800 : Int32)) C dX6_near_2 rfl (by decide) ?_
  obtain ⟨r1, hc2, h⟩ := bd1_of h
  refine p_callSi (As := [.int p1, .int ((0 : Int32)), .int ((800 : Int32))]) (st' := []) (Wd' := (V_M x.1.2.2 am0 am1 am2 am3 am4 am5 am6 am7 am8 am9 am10 am11 am12 am13 am14 m_said m_tries m_state m_images m_isKept m_pad m_leftOf m_rightOf m_isApart m_group m_isPair m_isOne m_order m_rest m_aside m_others)) C (c_X6_in x.1 hc2) dX6_near_5 rfl ml_X6_53 ks_X6_in ds_X6_in ⟨rfl, rfl, by decide, by decide⟩ [] rfl rfl rfl rfl (by decide) ⟨by decide, by decide⟩ rfl ?_
  refine p_if_ne C dX6_near_8 (tgt := 14) (by decide) rfl (fun c3 => ?_) (fun c3 => ?_)
  · have h := if_f c3 h
    refine p_aload_n C dX6_near_14 rfl 0 rfl ?_
    refine p_get C dX6_near_15 rfl 0 0 inlX6 fl_X6_7 rfl rfl (by decide) rfl rfl ?_
    refine p_bipush (v := (33 : Int32)) C dX6_near_18 rfl (by decide) ?_
    refine p_ialdj (j := 33) C dX6_near_20 rfl 1 rfl (by decide) (by decide) ?_
    refine p_istore_n (lv' := [(2, .int (m_state 33)), (0, .ref am0), (1, .int p1)]) C dX6_near_21 rfl (by decide) rfl ?_
    refine p_aload_n C dX6_near_22 rfl 1 rfl ?_
    refine p_get C dX6_near_23 rfl 0 0 inlX6 fl_X6_7 rfl rfl (by decide) rfl rfl ?_
    refine p_bipush (v := (33 : Int32)) C dX6_near_26 rfl (by decide) ?_
    refine p_iload_n C dX6_near_28 rfl 2 rfl ?_
    refine p_iastj (j := 33) (Wd' := (V_M x.1.2.2 am0 am1 am2 am3 am4 am5 am6 am7 am8 am9 am10 am11 am12 am13 am14 m_said m_tries (upd m_state 33 p1) m_images m_isKept m_pad m_leftOf m_rightOf m_isApart m_group m_isPair m_isOne m_order m_rest m_aside m_others)) C dX6_near_29 rfl 1 rfl (by decide) (by decide) rfl ?_
    refine p_iload_n C dX6_near_30 rfl 0 rfl ?_
    cases h
    exact p_iret C dX6_near_31
  · have h := if_t c3 h
    refine p_bipush (v := (-2 : Int32)) C dX6_near_11 rfl (by decide) ?_
    cases h
    exact p_iret C dX6_near_13
def J_X6_nearest_110 (m_tries : Int32) (m_state : Ar) (m_leftOf : Ar) (m_rightOf : Ar) (m_isApart : Ar) (m_group : Ar) (m_isPair : Ar) (m_order : Ar) (k49 : Int32 → Int32 → Option (Int32 × Int32 × Ar × Ar × Ar × Ar × Ar × Ar)) (k16 : Int32 → Int32 → Ar → Option (Int32 × Int32 × Ar × Ar × Ar × Ar × Ar × Ar)) (e0 : Int32) (v1 : Int32) (v2 : Int32) (v3 : Int32) (v4 : Int32) (v6 : Int32) : Option (Int32 × Int32 × Ar × Ar × Ar × Ar × Ar × Ar) := k49 e0 (v6 + 1)
set_option maxHeartbeats 4000000 in
set_option maxRecDepth 100000 in
theorem tj_X6_nearest_110 {x : Cxt} {am0 am1 am2 am3 am4 am5 am6 am7 am8 am9 am10 am11 am12 am13 am14 : Nat} {m_said : Int32} {m_tries : Int32} {m_state : Ar} {m_images : Ar} {m_isKept : Ar} {m_pad : Ar} {m_leftOf : Ar} {m_rightOf : Ar} {m_isApart : Ar} {m_group : Ar} {m_isPair : Ar} {m_isOne : Ar} {m_order : Ar} {m_rest : Ar} {m_aside : Ar} {m_others : Ar} {k49 : Int32 → Int32 → Option (Int32 × Int32 × Ar × Ar × Ar × Ar × Ar × Ar)} {k16 : Int32 → Int32 → Ar → Option (Int32 × Int32 × Ar × Ar × Ar × Ar × Ar × Ar)} {e0 : Int32} {v1 : Int32} {v2 : Int32} {v3 : Int32} {v4 : Int32} {v6 : Int32} {rr : Int32} {q_m_tries : Int32} {q_m_leftOf : Ar} {q_m_rightOf : Ar} {q_m_isApart : Ar} {q_m_group : Ar} {q_m_isPair : Ar} {q_m_order : Ar} (C : CX RX6 cX6_nearest 8 (some .int) x) (hk49 : ∀ (w5 : Int32) (w6 : Int32) , k49 w5 w6 = some (rr, q_m_tries, q_m_leftOf, q_m_rightOf, q_m_isApart, q_m_group, q_m_isPair, q_m_order) → PT (RM 4 93) 8 x 49 [(0, .ref am0), (1, .int v1), (2, .int v2), (3, .int v3), (4, .int v4), (5, .int w5), (6, .int w6)] [] (V_M x.1.2.2 am0 am1 am2 am3 am4 am5 am6 am7 am8 am9 am10 am11 am12 am13 am14 m_said m_tries m_state m_images m_isKept m_pad m_leftOf m_rightOf m_isApart m_group m_isPair m_isOne m_order m_rest m_aside m_others) 0 0 (QI x rr (V_M x.1.2.2 am0 am1 am2 am3 am4 am5 am6 am7 am8 am9 am10 am11 am12 am13 am14 m_said q_m_tries m_state m_images m_isKept m_pad q_m_leftOf q_m_rightOf q_m_isApart q_m_group q_m_isPair m_isOne q_m_order m_rest m_aside m_others))) (hk16 : ∀ (w2 : Int32) (w3 : Int32) (w_m_order : Ar), k16 w2 w3 w_m_order = some (rr, q_m_tries, q_m_leftOf, q_m_rightOf, q_m_isApart, q_m_group, q_m_isPair, q_m_order) → PT (RM 4 93) 8 x 16 [(0, .ref am0), (1, .int v1), (2, .int w2), (3, .int w3)] [] (V_M x.1.2.2 am0 am1 am2 am3 am4 am5 am6 am7 am8 am9 am10 am11 am12 am13 am14 m_said m_tries m_state m_images m_isKept m_pad m_leftOf m_rightOf m_isApart m_group m_isPair m_isOne w_m_order m_rest m_aside m_others) 0 0 (QI x rr (V_M x.1.2.2 am0 am1 am2 am3 am4 am5 am6 am7 am8 am9 am10 am11 am12 am13 am14 m_said q_m_tries m_state m_images m_isKept m_pad q_m_leftOf q_m_rightOf q_m_isApart q_m_group q_m_isPair m_isOne q_m_order m_rest m_aside m_others))) (h : J_X6_nearest_110 m_tries m_state m_leftOf m_rightOf m_isApart m_group m_isPair m_order k49 k16 e0 v1 v2 v3 v4 v6 = some (rr, q_m_tries, q_m_leftOf, q_m_rightOf, q_m_isApart, q_m_group, q_m_isPair, q_m_order)) : PT (RM 4 93) 8 x 110 [(0, .ref am0), (1, .int v1), (2, .int v2), (3, .int v3), (4, .int v4), (6, .int v6)] [.int e0] (V_M x.1.2.2 am0 am1 am2 am3 am4 am5 am6 am7 am8 am9 am10 am11 am12 am13 am14 m_said m_tries m_state m_images m_isKept m_pad m_leftOf m_rightOf m_isApart m_group m_isPair m_isOne m_order m_rest m_aside m_others) 0 0 (QI x rr (V_M x.1.2.2 am0 am1 am2 am3 am4 am5 am6 am7 am8 am9 am10 am11 am12 am13 am14 m_said q_m_tries m_state m_images m_isKept m_pad q_m_leftOf q_m_rightOf q_m_isApart q_m_group q_m_isPair m_isOne q_m_order m_rest m_aside m_others)) := by
  unfold J_X6_nearest_110 at h
  refine p_istore (lv' := [(5, .int e0), (0, .ref am0), (1, .int v1), (2, .int v2), (3, .int v3), (4, .int v4), (6, .int v6)]) C dX6_nearest_110 rfl (by decide) rfl ?_
  refine p_iinc (w := v6 + 1) (lv' := [(6, .int (v6 + 1)), (5, .int e0), (0, .ref am0), (1, .int v1), (2, .int v2), (3, .int v3), (4, .int v4)]) C dX6_nearest_112 rfl 6 rfl rfl (by decide) rfl ?_
  refine p_goto C dX6_nearest_115 (pc' := 49) (by decide) ?_
  refine p_locals [2, 3, 4, 5, 6, 1, 0] (lv' := [(0, .ref am0), (1, .int v1), (2, .int v2), (3, .int v3), (4, .int v4), (5, .int e0), (6, .int (v6 + 1))]) rfl ?_
  exact hk49 _ _ h
def J_X6_nearest_96 (m_tries : Int32) (m_state : Ar) (m_leftOf : Ar) (m_rightOf : Ar) (m_isApart : Ar) (m_group : Ar) (m_isPair : Ar) (m_order : Ar) (k49 : Int32 → Int32 → Option (Int32 × Int32 × Ar × Ar × Ar × Ar × Ar × Ar)) (k16 : Int32 → Int32 → Ar → Option (Int32 × Int32 × Ar × Ar × Ar × Ar × Ar × Ar)) (e0 : Int32) (v1 : Int32) (v2 : Int32) (v3 : Int32) (v4 : Int32) (v5 : Int32) (v6 : Int32) : Option (Int32 × Int32 × Ar × Ar × Ar × Ar × Ar × Ar) := if e0 = 0 then (J_X6_nearest_110 m_tries m_state m_leftOf m_rightOf m_isApart m_group m_isPair m_order (k49) (k16) v5 v1 v2 v3 v4 v6) else (J_X6_nearest_110 m_tries m_state m_leftOf m_rightOf m_isApart m_group m_isPair m_order (k49) (k16) v6 v1 v2 v3 v4 v6)
set_option maxHeartbeats 4000000 in
set_option maxRecDepth 100000 in
theorem tj_X6_nearest_96 {x : Cxt} {am0 am1 am2 am3 am4 am5 am6 am7 am8 am9 am10 am11 am12 am13 am14 : Nat} {m_said : Int32} {m_tries : Int32} {m_state : Ar} {m_images : Ar} {m_isKept : Ar} {m_pad : Ar} {m_leftOf : Ar} {m_rightOf : Ar} {m_isApart : Ar} {m_group : Ar} {m_isPair : Ar} {m_isOne : Ar} {m_order : Ar} {m_rest : Ar} {m_aside : Ar} {m_others : Ar} {k49 : Int32 → Int32 → Option (Int32 × Int32 × Ar × Ar × Ar × Ar × Ar × Ar)} {k16 : Int32 → Int32 → Ar → Option (Int32 × Int32 × Ar × Ar × Ar × Ar × Ar × Ar)} {e0 : Int32} {v1 : Int32} {v2 : Int32} {v3 : Int32} {v4 : Int32} {v5 : Int32} {v6 : Int32} {rr : Int32} {q_m_tries : Int32} {q_m_leftOf : Ar} {q_m_rightOf : Ar} {q_m_isApart : Ar} {q_m_group : Ar} {q_m_isPair : Ar} {q_m_order : Ar} (C : CX RX6 cX6_nearest 8 (some .int) x) (hk49 : ∀ (w5 : Int32) (w6 : Int32) , k49 w5 w6 = some (rr, q_m_tries, q_m_leftOf, q_m_rightOf, q_m_isApart, q_m_group, q_m_isPair, q_m_order) → PT (RM 4 93) 8 x 49 [(0, .ref am0), (1, .int v1), (2, .int v2), (3, .int v3), (4, .int v4), (5, .int w5), (6, .int w6)] [] (V_M x.1.2.2 am0 am1 am2 am3 am4 am5 am6 am7 am8 am9 am10 am11 am12 am13 am14 m_said m_tries m_state m_images m_isKept m_pad m_leftOf m_rightOf m_isApart m_group m_isPair m_isOne m_order m_rest m_aside m_others) 0 0 (QI x rr (V_M x.1.2.2 am0 am1 am2 am3 am4 am5 am6 am7 am8 am9 am10 am11 am12 am13 am14 m_said q_m_tries m_state m_images m_isKept m_pad q_m_leftOf q_m_rightOf q_m_isApart q_m_group q_m_isPair m_isOne q_m_order m_rest m_aside m_others))) (hk16 : ∀ (w2 : Int32) (w3 : Int32) (w_m_order : Ar), k16 w2 w3 w_m_order = some (rr, q_m_tries, q_m_leftOf, q_m_rightOf, q_m_isApart, q_m_group, q_m_isPair, q_m_order) → PT (RM 4 93) 8 x 16 [(0, .ref am0), (1, .int v1), (2, .int w2), (3, .int w3)] [] (V_M x.1.2.2 am0 am1 am2 am3 am4 am5 am6 am7 am8 am9 am10 am11 am12 am13 am14 m_said m_tries m_state m_images m_isKept m_pad m_leftOf m_rightOf m_isApart m_group m_isPair m_isOne w_m_order m_rest m_aside m_others) 0 0 (QI x rr (V_M x.1.2.2 am0 am1 am2 am3 am4 am5 am6 am7 am8 am9 am10 am11 am12 am13 am14 m_said q_m_tries m_state m_images m_isKept m_pad q_m_leftOf q_m_rightOf q_m_isApart q_m_group q_m_isPair m_isOne q_m_order m_rest m_aside m_others))) (h : J_X6_nearest_96 m_tries m_state m_leftOf m_rightOf m_isApart m_group m_isPair m_order k49 k16 e0 v1 v2 v3 v4 v5 v6 = some (rr, q_m_tries, q_m_leftOf, q_m_rightOf, q_m_isApart, q_m_group, q_m_isPair, q_m_order)) : PT (RM 4 93) 8 x 96 [(0, .ref am0), (1, .int v1), (2, .int v2), (3, .int v3), (4, .int v4), (5, .int v5), (6, .int v6)] [.int e0] (V_M x.1.2.2 am0 am1 am2 am3 am4 am5 am6 am7 am8 am9 am10 am11 am12 am13 am14 m_said m_tries m_state m_images m_isKept m_pad m_leftOf m_rightOf m_isApart m_group m_isPair m_isOne m_order m_rest m_aside m_others) 0 0 (QI x rr (V_M x.1.2.2 am0 am1 am2 am3 am4 am5 am6 am7 am8 am9 am10 am11 am12 am13 am14 m_said q_m_tries m_state m_images m_isKept m_pad q_m_leftOf q_m_rightOf q_m_isApart q_m_group q_m_isPair m_isOne q_m_order m_rest m_aside m_others)) := by
  unfold J_X6_nearest_96 at h
  refine p_istore (lv' := [(7, .int e0), (0, .ref am0), (1, .int v1), (2, .int v2), (3, .int v3), (4, .int v4), (5, .int v5), (6, .int v6)]) C dX6_nearest_96 rfl (by decide) rfl ?_
  refine p_iload C dX6_nearest_98 rfl 0 rfl ?_
  refine p_if_eq C dX6_nearest_100 (tgt := 108) (by decide) rfl (fun c1 => ?_) (fun c1 => ?_)
  · have h := if_t c1 h
    refine p_iload C dX6_nearest_108 rfl 6 rfl ?_
    refine p_locals [1, 2, 3, 4, 5, 7] (lv' := [(0, .ref am0), (1, .int v1), (2, .int v2), (3, .int v3), (4, .int v4), (6, .int v6)]) rfl ?_
    exact tj_X6_nearest_110 C (fun u0 u1 h => hk49 u0 u1 h) (fun u0 u1 u2 h => hk16 u0 u1 u2 h) h
  · have h := if_f c1 h
    refine p_iload C dX6_nearest_103 rfl 7 rfl ?_
    refine p_goto C dX6_nearest_105 (pc' := 110) (by decide) ?_
    refine p_locals [1, 2, 3, 4, 5, 7] (lv' := [(0, .ref am0), (1, .int v1), (2, .int v2), (3, .int v3), (4, .int v4), (6, .int v6)]) rfl ?_
    exact tj_X6_nearest_110 C (fun u0 u1 h => hk49 u0 u1 h) (fun u0 u1 u2 h => hk16 u0 u1 u2 h) h
def J_X6_nearest_95 (m_tries : Int32) (m_state : Ar) (m_leftOf : Ar) (m_rightOf : Ar) (m_isApart : Ar) (m_group : Ar) (m_isPair : Ar) (m_order : Ar) (k49 : Int32 → Int32 → Option (Int32 × Int32 × Ar × Ar × Ar × Ar × Ar × Ar)) (k16 : Int32 → Int32 → Ar → Option (Int32 × Int32 × Ar × Ar × Ar × Ar × Ar × Ar))  (v1 : Int32) (v2 : Int32) (v3 : Int32) (v4 : Int32) (v5 : Int32) (v6 : Int32) : Option (Int32 × Int32 × Ar × Ar × Ar × Ar × Ar × Ar) := J_X6_nearest_96 m_tries m_state m_leftOf m_rightOf m_isApart m_group m_isPair m_order (k49) (k16) ((0 : Int32)) v1 v2 v3 v4 v5 v6
set_option maxHeartbeats 4000000 in
set_option maxRecDepth 100000 in
theorem tj_X6_nearest_95 {x : Cxt} {am0 am1 am2 am3 am4 am5 am6 am7 am8 am9 am10 am11 am12 am13 am14 : Nat} {m_said : Int32} {m_tries : Int32} {m_state : Ar} {m_images : Ar} {m_isKept : Ar} {m_pad : Ar} {m_leftOf : Ar} {m_rightOf : Ar} {m_isApart : Ar} {m_group : Ar} {m_isPair : Ar} {m_isOne : Ar} {m_order : Ar} {m_rest : Ar} {m_aside : Ar} {m_others : Ar} {k49 : Int32 → Int32 → Option (Int32 × Int32 × Ar × Ar × Ar × Ar × Ar × Ar)} {k16 : Int32 → Int32 → Ar → Option (Int32 × Int32 × Ar × Ar × Ar × Ar × Ar × Ar)}  {v1 : Int32} {v2 : Int32} {v3 : Int32} {v4 : Int32} {v5 : Int32} {v6 : Int32} {rr : Int32} {q_m_tries : Int32} {q_m_leftOf : Ar} {q_m_rightOf : Ar} {q_m_isApart : Ar} {q_m_group : Ar} {q_m_isPair : Ar} {q_m_order : Ar} (C : CX RX6 cX6_nearest 8 (some .int) x) (hk49 : ∀ (w5 : Int32) (w6 : Int32) , k49 w5 w6 = some (rr, q_m_tries, q_m_leftOf, q_m_rightOf, q_m_isApart, q_m_group, q_m_isPair, q_m_order) → PT (RM 4 93) 8 x 49 [(0, .ref am0), (1, .int v1), (2, .int v2), (3, .int v3), (4, .int v4), (5, .int w5), (6, .int w6)] [] (V_M x.1.2.2 am0 am1 am2 am3 am4 am5 am6 am7 am8 am9 am10 am11 am12 am13 am14 m_said m_tries m_state m_images m_isKept m_pad m_leftOf m_rightOf m_isApart m_group m_isPair m_isOne m_order m_rest m_aside m_others) 0 0 (QI x rr (V_M x.1.2.2 am0 am1 am2 am3 am4 am5 am6 am7 am8 am9 am10 am11 am12 am13 am14 m_said q_m_tries m_state m_images m_isKept m_pad q_m_leftOf q_m_rightOf q_m_isApart q_m_group q_m_isPair m_isOne q_m_order m_rest m_aside m_others))) (hk16 : ∀ (w2 : Int32) (w3 : Int32) (w_m_order : Ar), k16 w2 w3 w_m_order = some (rr, q_m_tries, q_m_leftOf, q_m_rightOf, q_m_isApart, q_m_group, q_m_isPair, q_m_order) → PT (RM 4 93) 8 x 16 [(0, .ref am0), (1, .int v1), (2, .int w2), (3, .int w3)] [] (V_M x.1.2.2 am0 am1 am2 am3 am4 am5 am6 am7 am8 am9 am10 am11 am12 am13 am14 m_said m_tries m_state m_images m_isKept m_pad m_leftOf m_rightOf m_isApart m_group m_isPair m_isOne w_m_order m_rest m_aside m_others) 0 0 (QI x rr (V_M x.1.2.2 am0 am1 am2 am3 am4 am5 am6 am7 am8 am9 am10 am11 am12 am13 am14 m_said q_m_tries m_state m_images m_isKept m_pad q_m_leftOf q_m_rightOf q_m_isApart q_m_group q_m_isPair m_isOne q_m_order m_rest m_aside m_others))) (h : J_X6_nearest_95 m_tries m_state m_leftOf m_rightOf m_isApart m_group m_isPair m_order k49 k16 v1 v2 v3 v4 v5 v6 = some (rr, q_m_tries, q_m_leftOf, q_m_rightOf, q_m_isApart, q_m_group, q_m_isPair, q_m_order)) : PT (RM 4 93) 8 x 95 [(0, .ref am0), (1, .int v1), (2, .int v2), (3, .int v3), (4, .int v4), (5, .int v5), (6, .int v6)] [] (V_M x.1.2.2 am0 am1 am2 am3 am4 am5 am6 am7 am8 am9 am10 am11 am12 am13 am14 m_said m_tries m_state m_images m_isKept m_pad m_leftOf m_rightOf m_isApart m_group m_isPair m_isOne m_order m_rest m_aside m_others) 0 0 (QI x rr (V_M x.1.2.2 am0 am1 am2 am3 am4 am5 am6 am7 am8 am9 am10 am11 am12 am13 am14 m_said q_m_tries m_state m_images m_isKept m_pad q_m_leftOf q_m_rightOf q_m_isApart q_m_group q_m_isPair m_isOne q_m_order m_rest m_aside m_others)) := by
  unfold J_X6_nearest_95 at h
  refine p_iconst (v := (0 : Int32)) C dX6_nearest_95 rfl (by decide) ?_
  refine p_locals [0, 1, 2, 3, 4, 5, 6] (lv' := [(0, .ref am0), (1, .int v1), (2, .int v2), (3, .int v3), (4, .int v4), (5, .int v5), (6, .int v6)]) rfl ?_
  exact tj_X6_nearest_96 C (fun u0 u1 h => hk49 u0 u1 h) (fun u0 u1 u2 h => hk16 u0 u1 u2 h) h
def J_X6_nearest_91 (m_tries : Int32) (m_state : Ar) (m_leftOf : Ar) (m_rightOf : Ar) (m_isApart : Ar) (m_group : Ar) (m_isPair : Ar) (m_order : Ar) (k49 : Int32 → Int32 → Option (Int32 × Int32 × Ar × Ar × Ar × Ar × Ar × Ar)) (k16 : Int32 → Int32 → Ar → Option (Int32 × Int32 × Ar × Ar × Ar × Ar × Ar × Ar))  (v1 : Int32) (v2 : Int32) (v3 : Int32) (v4 : Int32) (v5 : Int32) (v6 : Int32) : Option (Int32 × Int32 × Ar × Ar × Ar × Ar × Ar × Ar) := J_X6_nearest_96 m_tries m_state m_leftOf m_rightOf m_isApart m_group m_isPair m_order (k49) (k16) ((1 : Int32)) v1 v2 v3 v4 v5 v6
set_option maxHeartbeats 4000000 in
set_option maxRecDepth 100000 in
theorem tj_X6_nearest_91 {x : Cxt} {am0 am1 am2 am3 am4 am5 am6 am7 am8 am9 am10 am11 am12 am13 am14 : Nat} {m_said : Int32} {m_tries : Int32} {m_state : Ar} {m_images : Ar} {m_isKept : Ar} {m_pad : Ar} {m_leftOf : Ar} {m_rightOf : Ar} {m_isApart : Ar} {m_group : Ar} {m_isPair : Ar} {m_isOne : Ar} {m_order : Ar} {m_rest : Ar} {m_aside : Ar} {m_others : Ar} {k49 : Int32 → Int32 → Option (Int32 × Int32 × Ar × Ar × Ar × Ar × Ar × Ar)} {k16 : Int32 → Int32 → Ar → Option (Int32 × Int32 × Ar × Ar × Ar × Ar × Ar × Ar)}  {v1 : Int32} {v2 : Int32} {v3 : Int32} {v4 : Int32} {v5 : Int32} {v6 : Int32} {rr : Int32} {q_m_tries : Int32} {q_m_leftOf : Ar} {q_m_rightOf : Ar} {q_m_isApart : Ar} {q_m_group : Ar} {q_m_isPair : Ar} {q_m_order : Ar} (C : CX RX6 cX6_nearest 8 (some .int) x) (hk49 : ∀ (w5 : Int32) (w6 : Int32) , k49 w5 w6 = some (rr, q_m_tries, q_m_leftOf, q_m_rightOf, q_m_isApart, q_m_group, q_m_isPair, q_m_order) → PT (RM 4 93) 8 x 49 [(0, .ref am0), (1, .int v1), (2, .int v2), (3, .int v3), (4, .int v4), (5, .int w5), (6, .int w6)] [] (V_M x.1.2.2 am0 am1 am2 am3 am4 am5 am6 am7 am8 am9 am10 am11 am12 am13 am14 m_said m_tries m_state m_images m_isKept m_pad m_leftOf m_rightOf m_isApart m_group m_isPair m_isOne m_order m_rest m_aside m_others) 0 0 (QI x rr (V_M x.1.2.2 am0 am1 am2 am3 am4 am5 am6 am7 am8 am9 am10 am11 am12 am13 am14 m_said q_m_tries m_state m_images m_isKept m_pad q_m_leftOf q_m_rightOf q_m_isApart q_m_group q_m_isPair m_isOne q_m_order m_rest m_aside m_others))) (hk16 : ∀ (w2 : Int32) (w3 : Int32) (w_m_order : Ar), k16 w2 w3 w_m_order = some (rr, q_m_tries, q_m_leftOf, q_m_rightOf, q_m_isApart, q_m_group, q_m_isPair, q_m_order) → PT (RM 4 93) 8 x 16 [(0, .ref am0), (1, .int v1), (2, .int w2), (3, .int w3)] [] (V_M x.1.2.2 am0 am1 am2 am3 am4 am5 am6 am7 am8 am9 am10 am11 am12 am13 am14 m_said m_tries m_state m_images m_isKept m_pad m_leftOf m_rightOf m_isApart m_group m_isPair m_isOne w_m_order m_rest m_aside m_others) 0 0 (QI x rr (V_M x.1.2.2 am0 am1 am2 am3 am4 am5 am6 am7 am8 am9 am10 am11 am12 am13 am14 m_said q_m_tries m_state m_images m_isKept m_pad q_m_leftOf q_m_rightOf q_m_isApart q_m_group q_m_isPair m_isOne q_m_order m_rest m_aside m_others))) (h : J_X6_nearest_91 m_tries m_state m_leftOf m_rightOf m_isApart m_group m_isPair m_order k49 k16 v1 v2 v3 v4 v5 v6 = some (rr, q_m_tries, q_m_leftOf, q_m_rightOf, q_m_isApart, q_m_group, q_m_isPair, q_m_order)) : PT (RM 4 93) 8 x 91 [(0, .ref am0), (1, .int v1), (2, .int v2), (3, .int v3), (4, .int v4), (5, .int v5), (6, .int v6)] [] (V_M x.1.2.2 am0 am1 am2 am3 am4 am5 am6 am7 am8 am9 am10 am11 am12 am13 am14 m_said m_tries m_state m_images m_isKept m_pad m_leftOf m_rightOf m_isApart m_group m_isPair m_isOne m_order m_rest m_aside m_others) 0 0 (QI x rr (V_M x.1.2.2 am0 am1 am2 am3 am4 am5 am6 am7 am8 am9 am10 am11 am12 am13 am14 m_said q_m_tries m_state m_images m_isKept m_pad q_m_leftOf q_m_rightOf q_m_isApart q_m_group q_m_isPair m_isOne q_m_order m_rest m_aside m_others)) := by
  unfold J_X6_nearest_91 at h
  refine p_iconst (v := (1 : Int32)) C dX6_nearest_91 rfl (by decide) ?_
  refine p_goto C dX6_nearest_92 (pc' := 96) (by decide) ?_
  refine p_locals [0, 1, 2, 3, 4, 5, 6] (lv' := [(0, .ref am0), (1, .int v1), (2, .int v2), (3, .int v3), (4, .int v4), (5, .int v5), (6, .int v6)]) rfl ?_
  exact tj_X6_nearest_96 C (fun u0 u1 h => hk49 u0 u1 h) (fun u0 u1 u2 h => hk16 u0 u1 u2 h) h
def B_X6_nearest_49 (m_tries : Int32) (m_state : Ar) (m_leftOf : Ar) (m_rightOf : Ar) (m_isApart : Ar) (m_group : Ar) (m_isPair : Ar) (m_order : Ar) (k16 : Int32 → Int32 → Ar → Option (Int32 × Int32 × Ar × Ar × Ar × Ar × Ar × Ar)) (v1 : Int32) (v2 : Int32) (v3 : Int32) (v4 : Int32) (kk : Int32 → Int32 → Option (Int32 × Int32 × Ar × Ar × Ar × Ar × Ar × Ar)) (v5 : Int32) (v6 : Int32)  : Option (Int32 × Int32 × Ar × Ar × Ar × Ar × Ar × Ar) := if m_tries ≤ v6 then (grd (gI v3 16) (k16 (v2 ||| (((1 : Int32)) <<< (v5 &&& 31))) (v3 + 1) (upd m_order v3.toNatClampNeg v5))) else (if ((v2 >>> (v6 &&& 31)) &&& ((1 : Int32))) = 0 then (if v5 < 0 then (J_X6_nearest_91 m_tries m_state m_leftOf m_rightOf m_isApart m_group m_isPair m_order (kk) (k16) v1 v2 v3 v4 v5 v6) else (bd1 (m_X6_timeOf m_state m_leftOf m_rightOf v4 v6) (fun r5 => bd1 (m_X6_timeOf m_state m_leftOf m_rightOf v4 v5) (fun r7 => if r7 ≤ r5 then (J_X6_nearest_95 m_tries m_state m_leftOf m_rightOf m_isApart m_group m_isPair m_order (kk) (k16) v1 v2 v3 v4 v5 v6) else (J_X6_nearest_91 m_tries m_state m_leftOf m_rightOf m_isApart m_group m_isPair m_order (kk) (k16) v1 v2 v3 v4 v5 v6))))) else (J_X6_nearest_95 m_tries m_state m_leftOf m_rightOf m_isApart m_group m_isPair m_order (kk) (k16) v1 v2 v3 v4 v5 v6))
def L_X6_nearest_49 (m_tries : Int32) (m_state : Ar) (m_leftOf : Ar) (m_rightOf : Ar) (m_isApart : Ar) (m_group : Ar) (m_isPair : Ar) (m_order : Ar) (k16 : Int32 → Int32 → Ar → Option (Int32 × Int32 × Ar × Ar × Ar × Ar × Ar × Ar)) (v1 : Int32) (v2 : Int32) (v3 : Int32) (v4 : Int32) : Nat → Int32 → Int32 → Option (Int32 × Int32 × Ar × Ar × Ar × Ar × Ar × Ar) := lpG (fun _ _ => none) (B_X6_nearest_49 m_tries m_state m_leftOf m_rightOf m_isApart m_group m_isPair m_order k16 v1 v2 v3 v4)
set_option maxHeartbeats 4000000 in
set_option maxRecDepth 100000 in
theorem tl_X6_nearest_49 {x : Cxt} {am0 am1 am2 am3 am4 am5 am6 am7 am8 am9 am10 am11 am12 am13 am14 : Nat} {m_said : Int32} {m_tries : Int32} {m_state : Ar} {m_images : Ar} {m_isKept : Ar} {m_pad : Ar} {m_leftOf : Ar} {m_rightOf : Ar} {m_isApart : Ar} {m_group : Ar} {m_isPair : Ar} {m_isOne : Ar} {m_order : Ar} {m_rest : Ar} {m_aside : Ar} {m_others : Ar} {k16 : Int32 → Int32 → Ar → Option (Int32 × Int32 × Ar × Ar × Ar × Ar × Ar × Ar)} {v1 : Int32} {v2 : Int32} {v3 : Int32} {v4 : Int32} {rr : Int32} {q_m_tries : Int32} {q_m_leftOf : Ar} {q_m_rightOf : Ar} {q_m_isApart : Ar} {q_m_group : Ar} {q_m_isPair : Ar} {q_m_order : Ar} (C : CX RX6 cX6_nearest 8 (some .int) x) (hk16 : ∀ (w2 : Int32) (w3 : Int32) (w_m_order : Ar), k16 w2 w3 w_m_order = some (rr, q_m_tries, q_m_leftOf, q_m_rightOf, q_m_isApart, q_m_group, q_m_isPair, q_m_order) → PT (RM 4 93) 8 x 16 [(0, .ref am0), (1, .int v1), (2, .int w2), (3, .int w3)] [] (V_M x.1.2.2 am0 am1 am2 am3 am4 am5 am6 am7 am8 am9 am10 am11 am12 am13 am14 m_said m_tries m_state m_images m_isKept m_pad m_leftOf m_rightOf m_isApart m_group m_isPair m_isOne w_m_order m_rest m_aside m_others) 0 0 (QI x rr (V_M x.1.2.2 am0 am1 am2 am3 am4 am5 am6 am7 am8 am9 am10 am11 am12 am13 am14 m_said q_m_tries m_state m_images m_isKept m_pad q_m_leftOf q_m_rightOf q_m_isApart q_m_group q_m_isPair m_isOne q_m_order m_rest m_aside m_others))) : ∀ (n : Nat) (v5 : Int32) (v6 : Int32) , L_X6_nearest_49 m_tries m_state m_leftOf m_rightOf m_isApart m_group m_isPair m_order k16 v1 v2 v3 v4 n v5 v6 = some (rr, q_m_tries, q_m_leftOf, q_m_rightOf, q_m_isApart, q_m_group, q_m_isPair, q_m_order) → PT (RM 4 93) 8 x 49 [(0, .ref am0), (1, .int v1), (2, .int v2), (3, .int v3), (4, .int v4), (5, .int v5), (6, .int v6)] [] (V_M x.1.2.2 am0 am1 am2 am3 am4 am5 am6 am7 am8 am9 am10 am11 am12 am13 am14 m_said m_tries m_state m_images m_isKept m_pad m_leftOf m_rightOf m_isApart m_group m_isPair m_isOne m_order m_rest m_aside m_others) 0 0 (QI x rr (V_M x.1.2.2 am0 am1 am2 am3 am4 am5 am6 am7 am8 am9 am10 am11 am12 am13 am14 m_said q_m_tries m_state m_images m_isKept m_pad q_m_leftOf q_m_rightOf q_m_isApart q_m_group q_m_isPair m_isOne q_m_order m_rest m_aside m_others)) := by
  intro n
  induction n with
  | zero =>
    intro v5 v6 h
    cases h
  | succ n ih =>
    intro v5 v6 h
    have h : B_X6_nearest_49 m_tries m_state m_leftOf m_rightOf m_isApart m_group m_isPair m_order k16 v1 v2 v3 v4 (L_X6_nearest_49 m_tries m_state m_leftOf m_rightOf m_isApart m_group m_isPair m_order k16 v1 v2 v3 v4 n) v5 v6 = some (rr, q_m_tries, q_m_leftOf, q_m_rightOf, q_m_isApart, q_m_group, q_m_isPair, q_m_order) := h
    unfold B_X6_nearest_49 at h
    refine p_iload C dX6_nearest_49 rfl 6 rfl ?_
    refine p_aload_n C dX6_nearest_51 rfl 0 rfl ?_
    refine p_get C dX6_nearest_52 rfl 0 8 inlX6 fl_X6_72 rfl rfl (by decide) rfl rfl ?_
    refine p_icmp_ge C dX6_nearest_55 (tgt := 118) (by decide) rfl (fun c1 => ?_) (fun c1 => ?_)
    · have h := if_t c1 h
      refine p_aload_n C dX6_nearest_118 rfl 0 rfl ?_
      refine p_get C dX6_nearest_119 rfl 0 12 inlX6 fl_X6_41 rfl rfl (by decide) rfl rfl ?_
      refine p_iload_n C dX6_nearest_122 rfl 3 rfl ?_
      refine p_iload C dX6_nearest_123 rfl 5 rfl ?_
      obtain ⟨g2, h⟩ := grd_of h
      refine p_iast (Wd' := (V_M x.1.2.2 am0 am1 am2 am3 am4 am5 am6 am7 am8 am9 am10 am11 am12 am13 am14 m_said m_tries m_state m_images m_isKept m_pad m_leftOf m_rightOf m_isApart m_group m_isPair m_isOne (upd m_order v3.toNatClampNeg v5) m_rest m_aside m_others)) C dX6_nearest_125 rfl 11 rfl g2 rfl ?_
      refine p_iload_n C dX6_nearest_126 rfl 2 rfl ?_
      refine p_iconst (v := (1 : Int32)) C dX6_nearest_127 rfl (by decide) ?_
      refine p_iload C dX6_nearest_128 rfl 5 rfl ?_
      refine p_ishl C dX6_nearest_130 rfl ?_
      refine p_ior C dX6_nearest_131 rfl ?_
      refine p_istore_n (lv' := [(2, .int (v2 ||| (((1 : Int32)) <<< (v5 &&& 31)))), (0, .ref am0), (1, .int v1), (3, .int v3), (4, .int v4), (5, .int v5), (6, .int v6)]) C dX6_nearest_132 rfl (by decide) rfl ?_
      refine p_iinc (w := v3 + 1) (lv' := [(3, .int (v3 + 1)), (2, .int (v2 ||| (((1 : Int32)) <<< (v5 &&& 31)))), (0, .ref am0), (1, .int v1), (4, .int v4), (5, .int v5), (6, .int v6)]) C dX6_nearest_133 rfl 3 rfl rfl (by decide) rfl ?_
      refine p_goto C dX6_nearest_136 (pc' := 16) (by decide) ?_
      refine p_locals [2, 3, 1, 0] (lv' := [(0, .ref am0), (1, .int v1), (2, .int (v2 ||| (((1 : Int32)) <<< (v5 &&& 31)))), (3, .int (v3 + 1))]) rfl ?_
      exact hk16 _ _ _ h
    · have h := if_f c1 h
      refine p_iload_n C dX6_nearest_58 rfl 2 rfl ?_
      refine p_iload C dX6_nearest_59 rfl 6 rfl ?_
      refine p_ishr C dX6_nearest_61 rfl ?_
      refine p_iconst (v := (1 : Int32)) C dX6_nearest_62 rfl (by decide) ?_
      refine p_iand C dX6_nearest_63 rfl ?_
      refine p_if_ne C dX6_nearest_64 (tgt := 95) (by decide) rfl (fun c3 => ?_) (fun c3 => ?_)
      · have h := if_f c3 h
        refine p_locals [0, 1, 2, 3, 4, 5, 6] (lv' := [(0, .ref am0), (1, .int v1), (2, .int v2), (3, .int v3), (4, .int v4), (5, .int v5), (6, .int v6)]) rfl ?_
        exact tj_X6_nearest_95 C (fun u0 u1 h => ih u0 u1 h) (fun u0 u1 u2 h => hk16 u0 u1 u2 h) h
      · have h := if_t c3 h
        refine p_iload C dX6_nearest_67 rfl 5 rfl ?_
        refine p_if_lt C dX6_nearest_69 (tgt := 91) (by decide) rfl (fun c4 => ?_) (fun c4 => ?_)
        · have h := if_t c4 h
          refine p_locals [0, 1, 2, 3, 4, 5, 6] (lv' := [(0, .ref am0), (1, .int v1), (2, .int v2), (3, .int v3), (4, .int v4), (5, .int v5), (6, .int v6)]) rfl ?_
          exact tj_X6_nearest_91 C (fun u0 u1 h => ih u0 u1 h) (fun u0 u1 u2 h => hk16 u0 u1 u2 h) h
        · have h := if_f c4 h
          refine p_aload_n C dX6_nearest_72 rfl 0 rfl ?_
          refine p_iload C dX6_nearest_73 rfl 4 rfl ?_
          refine p_iload C dX6_nearest_75 rfl 6 rfl ?_
          obtain ⟨r5, hc6, h⟩ := bd1_of h
          refine p_callVi_s (As := [.int v4, .int v6]) (st' := []) (Wc' := (V_M x.1.2.2 am0 am1 am2 am3 am4 am5 am6 am7 am8 am9 am10 am11 am12 am13 am14 m_said m_tries m_state m_images m_isKept m_pad m_leftOf m_rightOf m_isApart m_group m_isPair m_isOne m_order m_rest m_aside m_others)) C (c_X6_timeOf x.1 (am0 := am0) (am1 := am1) (am2 := am2) (am3 := am3) (am4 := am4) (am5 := am5) (am6 := am6) (am7 := am7) (am8 := am8) (am9 := am9) (am10 := am10) (am11 := am11) (am12 := am12) (am13 := am13) (am14 := am14) (m_said := m_said) (m_tries := m_tries) (m_images := m_images) (m_isKept := m_isKept) (m_pad := m_pad) (m_isApart := m_isApart) (m_group := m_group) (m_isPair := m_isPair) (m_isOne := m_isOne) (m_order := m_order) (m_rest := m_rest) (m_aside := m_aside) (m_others := m_others) hc6) dX6_nearest_77 rfl ml_X6_123 kv_X6_timeOf ds_X6_timeOf ⟨rfl, rfl, by decide, by decide⟩ 0 rfl rfl rfl rfl (by decide) ⟨by decide, by decide⟩ ?_
          refine p_aload_n C dX6_nearest_80 rfl 0 rfl ?_
          refine p_iload C dX6_nearest_81 rfl 4 rfl ?_
          refine p_iload C dX6_nearest_83 rfl 5 rfl ?_
          obtain ⟨r7, hc8, h⟩ := bd1_of h
          refine p_callVi_s (As := [.int v4, .int v5]) (st' := [.int r5]) (Wc' := (V_M x.1.2.2 am0 am1 am2 am3 am4 am5 am6 am7 am8 am9 am10 am11 am12 am13 am14 m_said m_tries m_state m_images m_isKept m_pad m_leftOf m_rightOf m_isApart m_group m_isPair m_isOne m_order m_rest m_aside m_others)) C (c_X6_timeOf x.1 (am0 := am0) (am1 := am1) (am2 := am2) (am3 := am3) (am4 := am4) (am5 := am5) (am6 := am6) (am7 := am7) (am8 := am8) (am9 := am9) (am10 := am10) (am11 := am11) (am12 := am12) (am13 := am13) (am14 := am14) (m_said := m_said) (m_tries := m_tries) (m_images := m_images) (m_isKept := m_isKept) (m_pad := m_pad) (m_isApart := m_isApart) (m_group := m_group) (m_isPair := m_isPair) (m_isOne := m_isOne) (m_order := m_order) (m_rest := m_rest) (m_aside := m_aside) (m_others := m_others) hc8) dX6_nearest_85 rfl ml_X6_123 kv_X6_timeOf ds_X6_timeOf ⟨rfl, rfl, by decide, by decide⟩ 0 rfl rfl rfl rfl (Nat.le_of_ble_eq_true rfl) ⟨by decide, by decide⟩ ?_
          refine p_icmp_ge C dX6_nearest_88 (tgt := 95) (by decide) rfl (fun c9 => ?_) (fun c9 => ?_)
          · have h := if_t c9 h
            refine p_locals [0, 1, 2, 3, 4, 5, 6] (lv' := [(0, .ref am0), (1, .int v1), (2, .int v2), (3, .int v3), (4, .int v4), (5, .int v5), (6, .int v6)]) rfl ?_
            exact tj_X6_nearest_95 C (fun u0 u1 h => ih u0 u1 h) (fun u0 u1 u2 h => hk16 u0 u1 u2 h) h
          · have h := if_f c9 h
            refine p_locals [0, 1, 2, 3, 4, 5, 6] (lv' := [(0, .ref am0), (1, .int v1), (2, .int v2), (3, .int v3), (4, .int v4), (5, .int v5), (6, .int v6)]) rfl ?_
            exact tj_X6_nearest_91 C (fun u0 u1 h => ih u0 u1 h) (fun u0 u1 u2 h => hk16 u0 u1 u2 h) h
def J_X6_nearest_40 (m_tries : Int32) (m_state : Ar) (m_leftOf : Ar) (m_rightOf : Ar) (m_isApart : Ar) (m_group : Ar) (m_isPair : Ar) (m_order : Ar) (k16 : Int32 → Int32 → Ar → Option (Int32 × Int32 × Ar × Ar × Ar × Ar × Ar × Ar)) (e0 : Int32) (v1 : Int32) (v2 : Int32) (v3 : Int32) : Option (Int32 × Int32 × Ar × Ar × Ar × Ar × Ar × Ar) := L_X6_nearest_49 m_tries m_state m_leftOf m_rightOf m_isApart m_group m_isPair m_order k16 v1 v2 v3 e0 FU ((-6 : Int32)) ((0 : Int32))
set_option maxHeartbeats 4000000 in
set_option maxRecDepth 100000 in
theorem tj_X6_nearest_40 {x : Cxt} {am0 am1 am2 am3 am4 am5 am6 am7 am8 am9 am10 am11 am12 am13 am14 : Nat} {m_said : Int32} {m_tries : Int32} {m_state : Ar} {m_images : Ar} {m_isKept : Ar} {m_pad : Ar} {m_leftOf : Ar} {m_rightOf : Ar} {m_isApart : Ar} {m_group : Ar} {m_isPair : Ar} {m_isOne : Ar} {m_order : Ar} {m_rest : Ar} {m_aside : Ar} {m_others : Ar} {k16 : Int32 → Int32 → Ar → Option (Int32 × Int32 × Ar × Ar × Ar × Ar × Ar × Ar)} {e0 : Int32} {v1 : Int32} {v2 : Int32} {v3 : Int32} {rr : Int32} {q_m_tries : Int32} {q_m_leftOf : Ar} {q_m_rightOf : Ar} {q_m_isApart : Ar} {q_m_group : Ar} {q_m_isPair : Ar} {q_m_order : Ar} (C : CX RX6 cX6_nearest 8 (some .int) x) (hk16 : ∀ (w2 : Int32) (w3 : Int32) (w_m_order : Ar), k16 w2 w3 w_m_order = some (rr, q_m_tries, q_m_leftOf, q_m_rightOf, q_m_isApart, q_m_group, q_m_isPair, q_m_order) → PT (RM 4 93) 8 x 16 [(0, .ref am0), (1, .int v1), (2, .int w2), (3, .int w3)] [] (V_M x.1.2.2 am0 am1 am2 am3 am4 am5 am6 am7 am8 am9 am10 am11 am12 am13 am14 m_said m_tries m_state m_images m_isKept m_pad m_leftOf m_rightOf m_isApart m_group m_isPair m_isOne w_m_order m_rest m_aside m_others) 0 0 (QI x rr (V_M x.1.2.2 am0 am1 am2 am3 am4 am5 am6 am7 am8 am9 am10 am11 am12 am13 am14 m_said q_m_tries m_state m_images m_isKept m_pad q_m_leftOf q_m_rightOf q_m_isApart q_m_group q_m_isPair m_isOne q_m_order m_rest m_aside m_others))) (h : J_X6_nearest_40 m_tries m_state m_leftOf m_rightOf m_isApart m_group m_isPair m_order k16 e0 v1 v2 v3 = some (rr, q_m_tries, q_m_leftOf, q_m_rightOf, q_m_isApart, q_m_group, q_m_isPair, q_m_order)) : PT (RM 4 93) 8 x 40 [(0, .ref am0), (1, .int v1), (2, .int v2), (3, .int v3)] [.int e0] (V_M x.1.2.2 am0 am1 am2 am3 am4 am5 am6 am7 am8 am9 am10 am11 am12 am13 am14 m_said m_tries m_state m_images m_isKept m_pad m_leftOf m_rightOf m_isApart m_group m_isPair m_isOne m_order m_rest m_aside m_others) 0 0 (QI x rr (V_M x.1.2.2 am0 am1 am2 am3 am4 am5 am6 am7 am8 am9 am10 am11 am12 am13 am14 m_said q_m_tries m_state m_images m_isKept m_pad q_m_leftOf q_m_rightOf q_m_isApart q_m_group q_m_isPair m_isOne q_m_order m_rest m_aside m_others)) := by
  unfold J_X6_nearest_40 at h
  refine p_istore (lv' := [(4, .int e0), (0, .ref am0), (1, .int v1), (2, .int v2), (3, .int v3)]) C dX6_nearest_40 rfl (by decide) rfl ?_
  refine p_bipush (v := (-6 : Int32)) C dX6_nearest_42 rfl (by decide) ?_
  refine p_istore (lv' := [(5, .int ((-6 : Int32))), (4, .int e0), (0, .ref am0), (1, .int v1), (2, .int v2), (3, .int v3)]) C dX6_nearest_44 rfl (by decide) rfl ?_
  refine p_iconst (v := (0 : Int32)) C dX6_nearest_46 rfl (by decide) ?_
  refine p_istore (lv' := [(6, .int ((0 : Int32))), (5, .int ((-6 : Int32))), (4, .int e0), (0, .ref am0), (1, .int v1), (2, .int v2), (3, .int v3)]) C dX6_nearest_47 rfl (by decide) rfl ?_
  refine p_locals [3, 4, 5, 6, 2, 1, 0] (lv' := [(0, .ref am0), (1, .int v1), (2, .int v2), (3, .int v3), (4, .int e0), (5, .int ((-6 : Int32))), (6, .int ((0 : Int32)))]) rfl ?_
  exact tl_X6_nearest_49 C (fun u0 u1 u2 h => hk16 u0 u1 u2 h) FU _ _ h
def B_X6_nearest_16 (m_tries : Int32) (m_state : Ar) (m_leftOf : Ar) (m_rightOf : Ar) (m_isApart : Ar) (m_group : Ar) (m_isPair : Ar)  (v1 : Int32) (kk : Int32 → Int32 → Ar → Option (Int32 × Int32 × Ar × Ar × Ar × Ar × Ar × Ar)) (v2 : Int32) (v3 : Int32) (m_order : Ar) : Option (Int32 × Int32 × Ar × Ar × Ar × Ar × Ar × Ar) := if m_tries ≤ v3 then (bd1 (m_X6_orderAt m_tries m_state m_leftOf m_rightOf m_order v1) (fun r2 => some (r2, m_tries, m_leftOf, m_rightOf, m_isApart, m_group, m_isPair, m_order))) else (if v3 = 0 then (J_X6_nearest_40 m_tries m_state m_leftOf m_rightOf m_isApart m_group m_isPair m_order (kk) ((-1 : Int32)) v1 v2 v3) else (grd (gI (v3 - ((1 : Int32))) 16) (J_X6_nearest_40 m_tries m_state m_leftOf m_rightOf m_isApart m_group m_isPair m_order (kk) (m_order (v3 - ((1 : Int32))).toNatClampNeg) v1 v2 v3)))
def L_X6_nearest_16 (m_tries : Int32) (m_state : Ar) (m_leftOf : Ar) (m_rightOf : Ar) (m_isApart : Ar) (m_group : Ar) (m_isPair : Ar)  (v1 : Int32) : Nat → Int32 → Int32 → Ar → Option (Int32 × Int32 × Ar × Ar × Ar × Ar × Ar × Ar) := lpG (fun _ _ _ => none) (B_X6_nearest_16 m_tries m_state m_leftOf m_rightOf m_isApart m_group m_isPair v1)
set_option maxHeartbeats 4000000 in
set_option maxRecDepth 100000 in
theorem tl_X6_nearest_16 {x : Cxt} {am0 am1 am2 am3 am4 am5 am6 am7 am8 am9 am10 am11 am12 am13 am14 : Nat} {m_said : Int32} {m_tries : Int32} {m_state : Ar} {m_images : Ar} {m_isKept : Ar} {m_pad : Ar} {m_leftOf : Ar} {m_rightOf : Ar} {m_isApart : Ar} {m_group : Ar} {m_isPair : Ar} {m_isOne : Ar} {m_rest : Ar} {m_aside : Ar} {m_others : Ar}  {v1 : Int32} {rr : Int32} {q_m_tries : Int32} {q_m_leftOf : Ar} {q_m_rightOf : Ar} {q_m_isApart : Ar} {q_m_group : Ar} {q_m_isPair : Ar} {q_m_order : Ar} (C : CX RX6 cX6_nearest 8 (some .int) x)  : ∀ (n : Nat) (v2 : Int32) (v3 : Int32) (m_order : Ar), L_X6_nearest_16 m_tries m_state m_leftOf m_rightOf m_isApart m_group m_isPair v1 n v2 v3 m_order = some (rr, q_m_tries, q_m_leftOf, q_m_rightOf, q_m_isApart, q_m_group, q_m_isPair, q_m_order) → PT (RM 4 93) 8 x 16 [(0, .ref am0), (1, .int v1), (2, .int v2), (3, .int v3)] [] (V_M x.1.2.2 am0 am1 am2 am3 am4 am5 am6 am7 am8 am9 am10 am11 am12 am13 am14 m_said m_tries m_state m_images m_isKept m_pad m_leftOf m_rightOf m_isApart m_group m_isPair m_isOne m_order m_rest m_aside m_others) 0 0 (QI x rr (V_M x.1.2.2 am0 am1 am2 am3 am4 am5 am6 am7 am8 am9 am10 am11 am12 am13 am14 m_said q_m_tries m_state m_images m_isKept m_pad q_m_leftOf q_m_rightOf q_m_isApart q_m_group q_m_isPair m_isOne q_m_order m_rest m_aside m_others)) := by
  intro n
  induction n with
  | zero =>
    intro v2 v3 m_order h
    cases h
  | succ n ih =>
    intro v2 v3 m_order h
    have h : B_X6_nearest_16 m_tries m_state m_leftOf m_rightOf m_isApart m_group m_isPair v1 (L_X6_nearest_16 m_tries m_state m_leftOf m_rightOf m_isApart m_group m_isPair v1 n) v2 v3 m_order = some (rr, q_m_tries, q_m_leftOf, q_m_rightOf, q_m_isApart, q_m_group, q_m_isPair, q_m_order) := h
    unfold B_X6_nearest_16 at h
    refine p_iload_n C dX6_nearest_16 rfl 3 rfl ?_
    refine p_aload_n C dX6_nearest_17 rfl 0 rfl ?_
    refine p_get C dX6_nearest_18 rfl 0 8 inlX6 fl_X6_72 rfl rfl (by decide) rfl rfl ?_
    refine p_icmp_ge C dX6_nearest_21 (tgt := 139) (by decide) rfl (fun c1 => ?_) (fun c1 => ?_)
    · have h := if_t c1 h
      refine p_aload_n C dX6_nearest_139 rfl 0 rfl ?_
      refine p_iload_n C dX6_nearest_140 rfl 1 rfl ?_
      obtain ⟨r2, hc3, h⟩ := bd1_of h
      refine p_callVi_s (As := [.int v1]) (st' := []) (Wc' := (V_M x.1.2.2 am0 am1 am2 am3 am4 am5 am6 am7 am8 am9 am10 am11 am12 am13 am14 m_said m_tries m_state m_images m_isKept m_pad m_leftOf m_rightOf m_isApart m_group m_isPair m_isOne m_order m_rest m_aside m_others)) C (c_X6_orderAt x.1 (am0 := am0) (am1 := am1) (am2 := am2) (am3 := am3) (am4 := am4) (am5 := am5) (am6 := am6) (am7 := am7) (am8 := am8) (am9 := am9) (am10 := am10) (am11 := am11) (am12 := am12) (am13 := am13) (am14 := am14) (m_said := m_said) (m_images := m_images) (m_isKept := m_isKept) (m_pad := m_pad) (m_isApart := m_isApart) (m_group := m_group) (m_isPair := m_isPair) (m_isOne := m_isOne) (m_rest := m_rest) (m_aside := m_aside) (m_others := m_others) hc3) dX6_nearest_141 rfl ml_X6_141 kv_X6_orderAt ds_X6_orderAt ⟨rfl, rfl, by decide, by decide⟩ 0 rfl rfl rfl rfl (by decide) ⟨by decide, by decide⟩ ?_
      cases h
      exact p_iret C dX6_nearest_144
    · have h := if_f c1 h
      refine p_iload_n C dX6_nearest_24 rfl 3 rfl ?_
      refine p_if_ne C dX6_nearest_25 (tgt := 32) (by decide) rfl (fun c4 => ?_) (fun c4 => ?_)
      · have h := if_f c4 h
        refine p_aload_n C dX6_nearest_32 rfl 0 rfl ?_
        refine p_get C dX6_nearest_33 rfl 0 12 inlX6 fl_X6_41 rfl rfl (by decide) rfl rfl ?_
        refine p_iload_n C dX6_nearest_36 rfl 3 rfl ?_
        refine p_iconst (v := (1 : Int32)) C dX6_nearest_37 rfl (by decide) ?_
        refine p_isub C dX6_nearest_38 rfl ?_
        obtain ⟨g5, h⟩ := grd_of h
        refine p_iald C dX6_nearest_39 rfl 11 rfl g5 ?_
        refine p_locals [0, 1, 2, 3] (lv' := [(0, .ref am0), (1, .int v1), (2, .int v2), (3, .int v3)]) rfl ?_
        exact tj_X6_nearest_40 C (fun u0 u1 u2 h => ih u0 u1 u2 h) h
      · have h := if_t c4 h
        refine p_iconst (v := (-1 : Int32)) C dX6_nearest_28 rfl (by decide) ?_
        refine p_goto C dX6_nearest_29 (pc' := 40) (by decide) ?_
        refine p_locals [0, 1, 2, 3] (lv' := [(0, .ref am0), (1, .int v1), (2, .int v2), (3, .int v3)]) rfl ?_
        exact tj_X6_nearest_40 C (fun u0 u1 u2 h => ih u0 u1 u2 h) h
def m_X6_nearest (m_tries : Int32) (m_state : Ar) (m_leftOf : Ar) (m_rightOf : Ar) (m_isApart : Ar) (m_group : Ar) (m_isPair : Ar) (m_order : Ar) (p1 : Int32) : Option (Int32 × Int32 × Ar × Ar × Ar × Ar × Ar × Ar) := if ((-1 : Int32)) ≤ p1 then (bd6 (m_X6_layTries m_tries m_state m_leftOf m_rightOf m_isApart m_group m_isPair) (fun z_tries2 z_leftOf3 z_rightOf4 z_isApart5 z_group6 z_isPair7 => L_X6_nearest_16 z_tries2 m_state z_leftOf3 z_rightOf4 z_isApart5 z_group6 z_isPair7 p1 FU ((0 : Int32)) ((0 : Int32)) m_order)) else (some ((-2 : Int32), m_tries, m_leftOf, m_rightOf, m_isApart, m_group, m_isPair, m_order))
theorem ds_X6_nearest : (yX6_nearest).cls ≠ "java/lang/invoke/MethodHandle" ∧ (yX6_nearest).cls ≠ "java/lang/invoke/VarHandle" ∧ (parseMethodDescriptor (yX6_nearest).desc).map (fun d => d.parameters.length) = some 1 := by decide +kernel
set_option maxHeartbeats 4000000 in
set_option maxRecDepth 100000 in
theorem c_X6_nearest (E : En) {am0 am1 am2 am3 am4 am5 am6 am7 am8 am9 am10 am11 am12 am13 am14 : Nat} {m_said : Int32} {m_tries : Int32} {m_state : Ar} {m_images : Ar} {m_isKept : Ar} {m_pad : Ar} {m_leftOf : Ar} {m_rightOf : Ar} {m_isApart : Ar} {m_group : Ar} {m_isPair : Ar} {m_isOne : Ar} {m_order : Ar} {m_rest : Ar} {m_aside : Ar} {m_others : Ar} {p1 : Int32} {rr : Int32} {q_m_tries : Int32} {q_m_leftOf : Ar} {q_m_rightOf : Ar} {q_m_isApart : Ar} {q_m_group : Ar} {q_m_isPair : Ar} {q_m_order : Ar} (h : m_X6_nearest m_tries m_state m_leftOf m_rightOf m_isApart m_group m_isPair m_order p1 = some (rr, q_m_tries, q_m_leftOf, q_m_rightOf, q_m_isApart, q_m_group, q_m_isPair, q_m_order)) : Ci E yX6_nearest (wU yX6_nearest cX6_nearest 8 (some .int)) (RM 4 93) [.ref am0, .int p1] (V_M E.2.2 am0 am1 am2 am3 am4 am5 am6 am7 am8 am9 am10 am11 am12 am13 am14 m_said m_tries m_state m_images m_isKept m_pad m_leftOf m_rightOf m_isApart m_group m_isPair m_isOne m_order m_rest m_aside m_others) (V_M E.2.2 am0 am1 am2 am3 am4 am5 am6 am7 am8 am9 am10 am11 am12 am13 am14 m_said q_m_tries m_state m_images m_isKept m_pad q_m_leftOf q_m_rightOf q_m_isApart q_m_group q_m_isPair m_isOne q_m_order m_rest m_aside m_others) rr := by
  refine Ci.of (by decide) (Nat.le_of_ble_eq_true rfl) ?_
  intro x hE C
  subst hE
  have C : CX RX6 cX6_nearest 8 (some .int) x := C
  refine p_locals [0, 1] (lv' := [(0, .ref am0), (1, .int p1)]) rfl ?_
  unfold m_X6_nearest at h
  refine p_iload_n C dX6_nearest_0 rfl 1 rfl ?_
  refine p_iconst (v := (-1 : Int32)) C dX6_nearest_1 rfl (by decide) ?_
  refine p_icmp_ge C dX6_nearest_2 (tgt := 8) (by decide) rfl (fun c1 => ?_) (fun c1 => ?_)
  · have h := if_t c1 h
    refine p_aload_n C dX6_nearest_8 rfl 0 rfl ?_
    obtain ⟨z_tries2, z_leftOf3, z_rightOf4, z_isApart5, z_group6, z_isPair7, hc8, h⟩ := bd6_of h
    refine p_callVv_s (As := []) (st' := []) (Wc' := (V_M x.1.2.2 am0 am1 am2 am3 am4 am5 am6 am7 am8 am9 am10 am11 am12 am13 am14 m_said z_tries2 m_state m_images m_isKept m_pad z_leftOf3 z_rightOf4 z_isApart5 z_group6 z_isPair7 m_isOne m_order m_rest m_aside m_others)) C (c_X6_layTries x.1 (am0 := am0) (am1 := am1) (am2 := am2) (am3 := am3) (am4 := am4) (am5 := am5) (am6 := am6) (am7 := am7) (am8 := am8) (am9 := am9) (am10 := am10) (am11 := am11) (am12 := am12) (am13 := am13) (am14 := am14) (m_said := m_said) (m_images := m_images) (m_isKept := m_isKept) (m_pad := m_pad) (m_isOne := m_isOne) (m_order := m_order) (m_rest := m_rest) (m_aside := m_aside) (m_others := m_others) hc8) dX6_nearest_9 rfl ml_X6_107 kv_X6_layTries ds_X6_layTries ⟨rfl, rfl, by decide, by decide⟩ 0 rfl rfl rfl rfl (by decide) ⟨by decide, by decide⟩ ?_
    refine p_iconst (v := (0 : Int32)) C dX6_nearest_12 rfl (by decide) ?_
    refine p_istore_n (lv' := [(2, .int ((0 : Int32))), (0, .ref am0), (1, .int p1)]) C dX6_nearest_13 rfl (by decide) rfl ?_
    refine p_iconst (v := (0 : Int32)) C dX6_nearest_14 rfl (by decide) ?_
    refine p_istore_n (lv' := [(3, .int ((0 : Int32))), (2, .int ((0 : Int32))), (0, .ref am0), (1, .int p1)]) C dX6_nearest_15 rfl (by decide) rfl ?_
    refine p_locals [2, 3, 1, 0] (lv' := [(0, .ref am0), (1, .int p1), (2, .int ((0 : Int32))), (3, .int ((0 : Int32)))]) rfl ?_
    exact tl_X6_nearest_16 C  FU _ _ _ h
  · have h := if_f c1 h
    refine p_bipush (v := (-2 : Int32)) C dX6_nearest_5 rfl (by decide) ?_
    cases h
    exact p_iret C dX6_nearest_7
