def m_X6_of (m_state : Ar) (p1 : Int32) (p2 : Int32) : Option (Int32) := bd1 (m_X6_isPoint m_state p1) (fun r1 => if r1 = 0 then (some ((-1 : Int32))) else (bd1 (m_X6_in p2 ((0 : Int32)) ((3 : Int32))) (fun r4 => if r4 = 0 then (some ((-2 : Int32))) else (grd (gI ((((1 : Int32)) + (((8 : Int32)) * p2)) + p1) 40) (some (m_state ((((1 : Int32)) + (((8 : Int32)) * p2)) + p1).toNatClampNeg))))))
theorem ds_X6_of : (yX6_of).cls ≠ "java/lang/invoke/MethodHandle" ∧ (yX6_of).cls ≠ "java/lang/invoke/VarHandle" ∧ (parseMethodDescriptor (yX6_of).desc).map (fun d => d.parameters.length) = some 2 := by decide +kernel
set_option maxHeartbeats 4000000 in
set_option maxRecDepth 100000 in
theorem c_X6_of (E : En) {am0 am1 am2 am3 am4 am5 am6 am7 am8 am9 am10 am11 am12 am13 am14 : Nat} {m_said : Int32} {m_tries : Int32} {m_state : Ar} {m_images : Ar} {m_isKept : Ar} {m_pad : Ar} {m_leftOf : Ar} {m_rightOf : Ar} {m_isApart : Ar} {m_group : Ar} {m_isPair : Ar} {m_isOne : Ar} {m_order : Ar} {m_rest : Ar} {m_aside : Ar} {m_others : Ar} {p1 : Int32} {p2 : Int32} {rr : Int32} (h : m_X6_of m_state p1 p2 = some rr) : Ci E yX6_of (wU yX6_of cX6_of 3 (some .int)) (RM 2 43) [.ref am0, .int p1, .int p2] (V_M E.2.2 am0 am1 am2 am3 am4 am5 am6 am7 am8 am9 am10 am11 am12 am13 am14 m_said m_tries m_state m_images m_isKept m_pad m_leftOf m_rightOf m_isApart m_group m_isPair m_isOne m_order m_rest m_aside m_others) (V_M E.2.2 am0 am1 am2 am3 am4 am5 am6 am7 am8 am9 am10 am11 am12 am13 am14 m_said m_tries m_state m_images m_isKept m_pad m_leftOf m_rightOf m_isApart m_group m_isPair m_isOne m_order m_rest m_aside m_others) rr := by
  refine Ci.of (by decide) (Nat.le_of_ble_eq_true rfl) ?_
  intro x hE C
  subst hE
  have C : CX RX6 cX6_of 3 (some .int) x := C
  refine p_locals [0, 1, 2] (lv' := [(0, .ref am0), (1, .int p1), (2, .int p2)]) rfl ?_
  unfold m_X6_of at h
  refine p_aload_n C dX6_of_0 rfl 0 rfl ?_
  refine p_iload_n C dX6_of_1 rfl 1 rfl ?_
  obtain ⟨r1, hc2, h⟩ := bd1_of h
  refine p_callVi_s (As := [.int p1]) (st' := []) (Wc' := (V_M x.1.2.2 am0 am1 am2 am3 am4 am5 am6 am7 am8 am9 am10 am11 am12 am13 am14 m_said m_tries m_state m_images m_isKept m_pad m_leftOf m_rightOf m_isApart m_group m_isPair m_isOne m_order m_rest m_aside m_others)) C (c_X6_isPoint x.1 (am0 := am0) (am1 := am1) (am2 := am2) (am3 := am3) (am4 := am4) (am5 := am5) (am6 := am6) (am7 := am7) (am8 := am8) (am9 := am9) (am10 := am10) (am11 := am11) (am12 := am12) (am13 := am13) (am14 := am14) (m_said := m_said) (m_tries := m_tries) (m_images := m_images) (m_isKept := m_isKept) (m_pad := m_pad) (m_leftOf := m_leftOf) (m_rightOf := m_rightOf) (m_isApart := m_isApart) (m_group := m_group) (m_isPair := m_isPair) (m_isOne := m_isOne) (m_order := m_order) (m_rest := m_rest) (m_aside := m_aside) (m_others := m_others) hc2) dX6_of_2 rfl ml_X6_65 kv_X6_isPoint ds_X6_isPoint ⟨rfl, rfl, by decide, by decide⟩ 0 rfl rfl rfl rfl (by decide) ⟨by decide, by decide⟩ ?_
  refine p_if_ne C dX6_of_5 (tgt := 10) (by decide) rfl (fun c3 => ?_) (fun c3 => ?_)
  · have h := if_f c3 h
    refine p_iload_n C dX6_of_10 rfl 2 rfl ?_
    refine p_iconst (v := (0 : Int32)) C dX6_of_11 rfl (by decide) ?_
    refine p_iconst (v := (3 : Int32)) C dX6_of_12 rfl (by decide) ?_
    obtain ⟨r4, hc5, h⟩ := bd1_of h
    refine p_callSi (As := [.int p2, .int ((0 : Int32)), .int ((3 : Int32))]) (st' := []) (Wd' := (V_M x.1.2.2 am0 am1 am2 am3 am4 am5 am6 am7 am8 am9 am10 am11 am12 am13 am14 m_said m_tries m_state m_images m_isKept m_pad m_leftOf m_rightOf m_isApart m_group m_isPair m_isOne m_order m_rest m_aside m_others)) C (c_X6_in x.1 hc5) dX6_of_13 rfl ml_X6_53 ks_X6_in ds_X6_in ⟨rfl, rfl, by decide, by decide⟩ [] rfl rfl rfl rfl (by decide) ⟨by decide, by decide⟩ rfl ?_
    refine p_if_eq C dX6_of_16 (tgt := 35) (by decide) rfl (fun c6 => ?_) (fun c6 => ?_)
    · have h := if_t c6 h
      refine p_bipush (v := (-2 : Int32)) C dX6_of_35 rfl (by decide) ?_
      cases h
      exact p_iret C dX6_of_37
    · have h := if_f c6 h
      refine p_aload_n C dX6_of_19 rfl 0 rfl ?_
      refine p_get C dX6_of_20 rfl 0 0 inlX6 fl_X6_7 rfl rfl (by decide) rfl rfl ?_
      refine p_iconst (v := (1 : Int32)) C dX6_of_23 rfl (by decide) ?_
      refine p_bipush (v := (8 : Int32)) C dX6_of_24 rfl (by decide) ?_
      refine p_iload_n C dX6_of_26 rfl 2 rfl ?_
      refine p_imul C dX6_of_27 rfl ?_
      refine p_iadd C dX6_of_28 rfl ?_
      refine p_iload_n C dX6_of_29 rfl 1 rfl ?_
      refine p_iadd C dX6_of_30 rfl ?_
      obtain ⟨g7, h⟩ := grd_of h
      refine p_iald C dX6_of_31 rfl 1 rfl g7 ?_
      refine p_goto C dX6_of_32 (pc' := 37) (by decide) ?_
      cases h
      exact p_iret C dX6_of_37
  · have h := if_t c3 h
    refine p_iconst (v := (-1 : Int32)) C dX6_of_8 rfl (by decide) ?_
    cases h
    exact p_iret C dX6_of_9
def m_X6_point (m_state : Ar) (p1 : Int32) (p2 : Int32) (p3 : Int32) : Option (Int32 × Ar) := bd1 (m_X6_isNet p1) (fun r1 => if r1 = 0 then (some ((-1 : Int32), m_state)) else (bd1 (m_X6_isHere p2 p3) (fun r4 => if r4 = 0 then (some ((-2 : Int32), m_state)) else (if (m_state 0) = ((8 : Int32)) then (some ((-4 : Int32), m_state)) else (grd (gI (((1 : Int32)) + (m_state 0)) 40) (grd (gI (((9 : Int32)) + (m_state 0)) 40) (grd (gI (((17 : Int32)) + (m_state 0)) 40) (grd (gI (((25 : Int32)) + (m_state 0)) 40) (some (m_state 0, upd (upd (upd (upd (upd m_state (((1 : Int32)) + (m_state 0)).toNatClampNeg p1) (((9 : Int32)) + (m_state 0)).toNatClampNeg p2) (((17 : Int32)) + (m_state 0)).toNatClampNeg p3) (((25 : Int32)) + (m_state 0)).toNatClampNeg ((0 : Int32))) 0 (((upd (upd (upd (upd m_state (((1 : Int32)) + (m_state 0)).toNatClampNeg p1) (((9 : Int32)) + (m_state 0)).toNatClampNeg p2) (((17 : Int32)) + (m_state 0)).toNatClampNeg p3) (((25 : Int32)) + (m_state 0)).toNatClampNeg ((0 : Int32))) 0) + ((1 : Int32)))))))))))))
theorem ds_X6_point : (yX6_point).cls ≠ "java/lang/invoke/MethodHandle" ∧ (yX6_point).cls ≠ "java/lang/invoke/VarHandle" ∧ (parseMethodDescriptor (yX6_point).desc).map (fun d => d.parameters.length) = some 3 := by decide +kernel
set_option maxHeartbeats 4000000 in
set_option maxRecDepth 100000 in
theorem c_X6_point (E : En) {am0 am1 am2 am3 am4 am5 am6 am7 am8 am9 am10 am11 am12 am13 am14 : Nat} {m_said : Int32} {m_tries : Int32} {m_state : Ar} {m_images : Ar} {m_isKept : Ar} {m_pad : Ar} {m_leftOf : Ar} {m_rightOf : Ar} {m_isApart : Ar} {m_group : Ar} {m_isPair : Ar} {m_isOne : Ar} {m_order : Ar} {m_rest : Ar} {m_aside : Ar} {m_others : Ar} {p1 : Int32} {p2 : Int32} {p3 : Int32} {rr : Int32} {q_m_state : Ar} (h : m_X6_point m_state p1 p2 p3 = some (rr, q_m_state)) : Ci E yX6_point (wU yX6_point cX6_point 5 (some .int)) (RM 2 43) [.ref am0, .int p1, .int p2, .int p3] (V_M E.2.2 am0 am1 am2 am3 am4 am5 am6 am7 am8 am9 am10 am11 am12 am13 am14 m_said m_tries m_state m_images m_isKept m_pad m_leftOf m_rightOf m_isApart m_group m_isPair m_isOne m_order m_rest m_aside m_others) (V_M E.2.2 am0 am1 am2 am3 am4 am5 am6 am7 am8 am9 am10 am11 am12 am13 am14 m_said m_tries q_m_state m_images m_isKept m_pad m_leftOf m_rightOf m_isApart m_group m_isPair m_isOne m_order m_rest m_aside m_others) rr := by
  refine Ci.of (by decide) (Nat.le_of_ble_eq_true rfl) ?_
  intro x hE C
  subst hE
  have C : CX RX6 cX6_point 5 (some .int) x := C
  refine p_locals [0, 1, 2, 3] (lv' := [(0, .ref am0), (1, .int p1), (2, .int p2), (3, .int p3)]) rfl ?_
  unfold m_X6_point at h
  refine p_iload_n C dX6_point_0 rfl 1 rfl ?_
  obtain ⟨r1, hc2, h⟩ := bd1_of h
  refine p_callSi (As := [.int p1]) (st' := []) (Wd' := (V_M x.1.2.2 am0 am1 am2 am3 am4 am5 am6 am7 am8 am9 am10 am11 am12 am13 am14 m_said m_tries m_state m_images m_isKept m_pad m_leftOf m_rightOf m_isApart m_group m_isPair m_isOne m_order m_rest m_aside m_others)) C (c_X6_isNet x.1 hc2) dX6_point_1 rfl ml_X6_57 ks_X6_isNet ds_X6_isNet ⟨rfl, rfl, by decide, by decide⟩ [] rfl rfl rfl rfl (by decide) ⟨by decide, by decide⟩ rfl ?_
  refine p_if_ne C dX6_point_4 (tgt := 9) (by decide) rfl (fun c3 => ?_) (fun c3 => ?_)
  · have h := if_f c3 h
    refine p_iload_n C dX6_point_9 rfl 2 rfl ?_
    refine p_iload_n C dX6_point_10 rfl 3 rfl ?_
    obtain ⟨r4, hc5, h⟩ := bd1_of h
    refine p_callSi (As := [.int p2, .int p3]) (st' := []) (Wd' := (V_M x.1.2.2 am0 am1 am2 am3 am4 am5 am6 am7 am8 am9 am10 am11 am12 am13 am14 m_said m_tries m_state m_images m_isKept m_pad m_leftOf m_rightOf m_isApart m_group m_isPair m_isOne m_order m_rest m_aside m_others)) C (c_X6_isHere x.1 hc5) dX6_point_11 rfl ml_X6_61 ks_X6_isHere ds_X6_isHere ⟨rfl, rfl, by decide, by decide⟩ [] rfl rfl rfl rfl (by decide) ⟨by decide, by decide⟩ rfl ?_
    refine p_if_ne C dX6_point_14 (tgt := 20) (by decide) rfl (fun c6 => ?_) (fun c6 => ?_)
    · have h := if_f c6 h
      refine p_aload_n C dX6_point_20 rfl 0 rfl ?_
      refine p_get C dX6_point_21 rfl 0 0 inlX6 fl_X6_7 rfl rfl (by decide) rfl rfl ?_
      refine p_iconst (v := (0 : Int32)) C dX6_point_24 rfl (by decide) ?_
      refine p_ialdj (j := 0) C dX6_point_25 rfl 1 rfl (by decide) (by decide) ?_
      refine p_istore (lv' := [(4, .int (m_state 0)), (0, .ref am0), (1, .int p1), (2, .int p2), (3, .int p3)]) C dX6_point_26 rfl (by decide) rfl ?_
      refine p_iload C dX6_point_28 rfl 0 rfl ?_
      refine p_bipush (v := (8 : Int32)) C dX6_point_30 rfl (by decide) ?_
      refine p_icmp_ne C dX6_point_32 (tgt := 38) (by decide) rfl (fun c8 => ?_) (fun c8 => ?_)
      · have h := if_f c8 h
        refine p_aload_n C dX6_point_38 rfl 1 rfl ?_
        refine p_get C dX6_point_39 rfl 0 0 inlX6 fl_X6_7 rfl rfl (by decide) rfl rfl ?_
        refine p_iconst (v := (1 : Int32)) C dX6_point_42 rfl (by decide) ?_
        refine p_iload C dX6_point_43 rfl 0 rfl ?_
        refine p_iadd C dX6_point_45 rfl ?_
        refine p_iload_n C dX6_point_46 rfl 2 rfl ?_
        obtain ⟨g9, h⟩ := grd_of h
        refine p_iast (Wd' := (V_M x.1.2.2 am0 am1 am2 am3 am4 am5 am6 am7 am8 am9 am10 am11 am12 am13 am14 m_said m_tries (upd m_state (((1 : Int32)) + (m_state 0)).toNatClampNeg p1) m_images m_isKept m_pad m_leftOf m_rightOf m_isApart m_group m_isPair m_isOne m_order m_rest m_aside m_others)) C dX6_point_47 rfl 1 rfl g9 rfl ?_
        refine p_aload_n C dX6_point_48 rfl 1 rfl ?_
        refine p_get C dX6_point_49 rfl 0 0 inlX6 fl_X6_7 rfl rfl (by decide) rfl rfl ?_
        refine p_bipush (v := (9 : Int32)) C dX6_point_52 rfl (by decide) ?_
        refine p_iload C dX6_point_54 rfl 0 rfl ?_
        refine p_iadd C dX6_point_56 rfl ?_
        refine p_iload_n C dX6_point_57 rfl 3 rfl ?_
        obtain ⟨g10, h⟩ := grd_of h
        refine p_iast (Wd' := (V_M x.1.2.2 am0 am1 am2 am3 am4 am5 am6 am7 am8 am9 am10 am11 am12 am13 am14 m_said m_tries (upd (upd m_state (((1 : Int32)) + (m_state 0)).toNatClampNeg p1) (((9 : Int32)) + (m_state 0)).toNatClampNeg p2) m_images m_isKept m_pad m_leftOf m_rightOf m_isApart m_group m_isPair m_isOne m_order m_rest m_aside m_others)) C dX6_point_58 rfl 1 rfl g10 rfl ?_
        refine p_aload_n C dX6_point_59 rfl 1 rfl ?_
        refine p_get C dX6_point_60 rfl 0 0 inlX6 fl_X6_7 rfl rfl (by decide) rfl rfl ?_
        refine p_bipush (v := (17 : Int32)) C dX6_point_63 rfl (by decide) ?_
        refine p_iload C dX6_point_65 rfl 0 rfl ?_
        refine p_iadd C dX6_point_67 rfl ?_
        refine p_iload_n C dX6_point_68 rfl 4 rfl ?_
        obtain ⟨g11, h⟩ := grd_of h
        refine p_iast (Wd' := (V_M x.1.2.2 am0 am1 am2 am3 am4 am5 am6 am7 am8 am9 am10 am11 am12 am13 am14 m_said m_tries (upd (upd (upd m_state (((1 : Int32)) + (m_state 0)).toNatClampNeg p1) (((9 : Int32)) + (m_state 0)).toNatClampNeg p2) (((17 : Int32)) + (m_state 0)).toNatClampNeg p3) m_images m_isKept m_pad m_leftOf m_rightOf m_isApart m_group m_isPair m_isOne m_order m_rest m_aside m_others)) C dX6_point_69 rfl 1 rfl g11 rfl ?_
        refine p_aload_n C dX6_point_70 rfl 1 rfl ?_
        refine p_get C dX6_point_71 rfl 0 0 inlX6 fl_X6_7 rfl rfl (by decide) rfl rfl ?_
        refine p_bipush (v := (25 : Int32)) C dX6_point_74 rfl (by decide) ?_
        refine p_iload C dX6_point_76 rfl 0 rfl ?_
        refine p_iadd C dX6_point_78 rfl ?_
        refine p_iconst (v := (0 : Int32)) C dX6_point_79 rfl (by decide) ?_
        obtain ⟨g12, h⟩ := grd_of h
        refine p_iast (Wd' := (V_M x.1.2.2 am0 am1 am2 am3 am4 am5 am6 am7 am8 am9 am10 am11 am12 am13 am14 m_said m_tries (upd (upd (upd (upd m_state (((1 : Int32)) + (m_state 0)).toNatClampNeg p1) (((9 : Int32)) + (m_state 0)).toNatClampNeg p2) (((17 : Int32)) + (m_state 0)).toNatClampNeg p3) (((25 : Int32)) + (m_state 0)).toNatClampNeg ((0 : Int32))) m_images m_isKept m_pad m_leftOf m_rightOf m_isApart m_group m_isPair m_isOne m_order m_rest m_aside m_others)) C dX6_point_80 rfl 1 rfl g12 rfl ?_
        refine p_aload_n C dX6_point_81 rfl 1 rfl ?_
        refine p_get C dX6_point_82 rfl 0 0 inlX6 fl_X6_7 rfl rfl (by decide) rfl rfl ?_
        refine p_iconst (v := (0 : Int32)) C dX6_point_85 rfl (by decide) ?_
        refine p_dup2 C dX6_point_86 rfl rfl rfl ?_
        refine p_ialdj (j := 0) C dX6_point_87 rfl 1 rfl (by decide) (by decide) ?_
        refine p_iconst (v := (1 : Int32)) C dX6_point_88 rfl (by decide) ?_
        refine p_iadd C dX6_point_89 rfl ?_
        refine p_iastj (j := 0) (Wd' := (V_M x.1.2.2 am0 am1 am2 am3 am4 am5 am6 am7 am8 am9 am10 am11 am12 am13 am14 m_said m_tries (upd (upd (upd (upd (upd m_state (((1 : Int32)) + (m_state 0)).toNatClampNeg p1) (((9 : Int32)) + (m_state 0)).toNatClampNeg p2) (((17 : Int32)) + (m_state 0)).toNatClampNeg p3) (((25 : Int32)) + (m_state 0)).toNatClampNeg ((0 : Int32))) 0 (((upd (upd (upd (upd m_state (((1 : Int32)) + (m_state 0)).toNatClampNeg p1) (((9 : Int32)) + (m_state 0)).toNatClampNeg p2) (((17 : Int32)) + (m_state 0)).toNatClampNeg p3) (((25 : Int32)) + (m_state 0)).toNatClampNeg ((0 : Int32))) 0) + ((1 : Int32)))) m_images m_isKept m_pad m_leftOf m_rightOf m_isApart m_group m_isPair m_isOne m_order m_rest m_aside m_others)) C dX6_point_90 rfl 1 rfl (by decide) (by decide) rfl ?_
        refine p_iload C dX6_point_91 rfl 0 rfl ?_
        cases h
        exact p_iret C dX6_point_93
      · have h := if_t c8 h
        refine p_bipush (v := (-4 : Int32)) C dX6_point_35 rfl (by decide) ?_
        cases h
        exact p_iret C dX6_point_37
    · have h := if_t c6 h
      refine p_bipush (v := (-2 : Int32)) C dX6_point_17 rfl (by decide) ?_
      cases h
      exact p_iret C dX6_point_19
  · have h := if_t c3 h
    refine p_iconst (v := (-1 : Int32)) C dX6_point_7 rfl (by decide) ?_
    cases h
    exact p_iret C dX6_point_8
def m_X6_pop (m_state : Ar)  : Option (Int32 × Ar) := if (m_state 0) = 0 then (some ((-3 : Int32), m_state)) else (some ((upd m_state 0 ((m_state 0) - ((1 : Int32)))) 0, upd m_state 0 ((m_state 0) - ((1 : Int32)))))
theorem ds_X6_pop : (yX6_pop).cls ≠ "java/lang/invoke/MethodHandle" ∧ (yX6_pop).cls ≠ "java/lang/invoke/VarHandle" ∧ (parseMethodDescriptor (yX6_pop).desc).map (fun d => d.parameters.length) = some 0 := by decide +kernel
set_option maxHeartbeats 4000000 in
set_option maxRecDepth 100000 in
theorem c_X6_pop (E : En) {am0 am1 am2 am3 am4 am5 am6 am7 am8 am9 am10 am11 am12 am13 am14 : Nat} {m_said : Int32} {m_tries : Int32} {m_state : Ar} {m_images : Ar} {m_isKept : Ar} {m_pad : Ar} {m_leftOf : Ar} {m_rightOf : Ar} {m_isApart : Ar} {m_group : Ar} {m_isPair : Ar} {m_isOne : Ar} {m_order : Ar} {m_rest : Ar} {m_aside : Ar} {m_others : Ar}  {rr : Int32} {q_m_state : Ar} (h : m_X6_pop m_state = some (rr, q_m_state)) : Ci E yX6_pop (wU yX6_pop cX6_pop 1 (some .int)) (RM 0 0) [.ref am0] (V_M E.2.2 am0 am1 am2 am3 am4 am5 am6 am7 am8 am9 am10 am11 am12 am13 am14 m_said m_tries m_state m_images m_isKept m_pad m_leftOf m_rightOf m_isApart m_group m_isPair m_isOne m_order m_rest m_aside m_others) (V_M E.2.2 am0 am1 am2 am3 am4 am5 am6 am7 am8 am9 am10 am11 am12 am13 am14 m_said m_tries q_m_state m_images m_isKept m_pad m_leftOf m_rightOf m_isApart m_group m_isPair m_isOne m_order m_rest m_aside m_others) rr := by
  refine Ci.of (by decide) (Nat.le_of_ble_eq_true rfl) ?_
  intro x hE C
  subst hE
  have C : CX RX6 cX6_pop 1 (some .int) x := C
  refine p_locals [0] (lv' := [(0, .ref am0)]) rfl ?_
  unfold m_X6_pop at h
  refine p_aload_n C dX6_pop_0 rfl 0 rfl ?_
  refine p_get C dX6_pop_1 rfl 0 0 inlX6 fl_X6_7 rfl rfl (by decide) rfl rfl ?_
  refine p_iconst (v := (0 : Int32)) C dX6_pop_4 rfl (by decide) ?_
  refine p_ialdj (j := 0) C dX6_pop_5 rfl 1 rfl (by decide) (by decide) ?_
  refine p_if_ne C dX6_pop_6 (tgt := 12) (by decide) rfl (fun c2 => ?_) (fun c2 => ?_)
  · have h := if_f c2 h
    refine p_aload_n C dX6_pop_12 rfl 0 rfl ?_
    refine p_get C dX6_pop_13 rfl 0 0 inlX6 fl_X6_7 rfl rfl (by decide) rfl rfl ?_
    refine p_iconst (v := (0 : Int32)) C dX6_pop_16 rfl (by decide) ?_
    refine p_dup2 C dX6_pop_17 rfl rfl rfl ?_
    refine p_ialdj (j := 0) C dX6_pop_18 rfl 1 rfl (by decide) (by decide) ?_
    refine p_iconst (v := (1 : Int32)) C dX6_pop_19 rfl (by decide) ?_
    refine p_isub C dX6_pop_20 rfl ?_
    refine p_iastj (j := 0) (Wd' := (V_M x.1.2.2 am0 am1 am2 am3 am4 am5 am6 am7 am8 am9 am10 am11 am12 am13 am14 m_said m_tries (upd m_state 0 ((m_state 0) - ((1 : Int32)))) m_images m_isKept m_pad m_leftOf m_rightOf m_isApart m_group m_isPair m_isOne m_order m_rest m_aside m_others)) C dX6_pop_21 rfl 1 rfl (by decide) (by decide) rfl ?_
    refine p_aload_n C dX6_pop_22 rfl 0 rfl ?_
    refine p_get C dX6_pop_23 rfl 0 0 inlX6 fl_X6_7 rfl rfl (by decide) rfl rfl ?_
    refine p_iconst (v := (0 : Int32)) C dX6_pop_26 rfl (by decide) ?_
    refine p_ialdj (j := 0) C dX6_pop_27 rfl 1 rfl (by decide) (by decide) ?_
    cases h
    exact p_iret C dX6_pop_28
  · have h := if_t c2 h
    refine p_bipush (v := (-3 : Int32)) C dX6_pop_9 rfl (by decide) ?_
    cases h
    exact p_iret C dX6_pop_11
def B_X6_restore_26 (m_images : Ar) (m_isKept : Ar)  (v1 : Int32) (kk : Int32 → Ar → Option (Int32 × Ar)) (v2 : Int32) (m_state : Ar) : Option (Int32 × Ar) := if ((40 : Int32)) ≤ v2 then (some ((1 : Int32), m_state)) else (grd (gI ((((40 : Int32)) * v1) + v2) 80) (grd (gI v2 40) (kk (v2 + 1) (upd m_state v2.toNatClampNeg (m_images ((((40 : Int32)) * v1) + v2).toNatClampNeg)))))
def L_X6_restore_26 (m_images : Ar) (m_isKept : Ar)  (v1 : Int32) : Nat → Int32 → Ar → Option (Int32 × Ar) := lpG (fun _ _ => none) (B_X6_restore_26 m_images m_isKept v1)
set_option maxHeartbeats 4000000 in
set_option maxRecDepth 100000 in
theorem tl_X6_restore_26 {x : Cxt} {am0 am1 am2 am3 am4 am5 am6 am7 am8 am9 am10 am11 am12 am13 am14 : Nat} {m_said : Int32} {m_tries : Int32} {m_images : Ar} {m_isKept : Ar} {m_pad : Ar} {m_leftOf : Ar} {m_rightOf : Ar} {m_isApart : Ar} {m_group : Ar} {m_isPair : Ar} {m_isOne : Ar} {m_order : Ar} {m_rest : Ar} {m_aside : Ar} {m_others : Ar}  {v1 : Int32} {rr : Int32} {q_m_state : Ar} (C : CX RX6 cX6_restore 3 (some .int) x)  : ∀ (n : Nat) (v2 : Int32) (m_state : Ar), L_X6_restore_26 m_images m_isKept v1 n v2 m_state = some (rr, q_m_state) → PT (RM 1 22) 3 x 26 [(0, .ref am0), (1, .int v1), (2, .int v2)] [] (V_M x.1.2.2 am0 am1 am2 am3 am4 am5 am6 am7 am8 am9 am10 am11 am12 am13 am14 m_said m_tries m_state m_images m_isKept m_pad m_leftOf m_rightOf m_isApart m_group m_isPair m_isOne m_order m_rest m_aside m_others) 0 0 (QI x rr (V_M x.1.2.2 am0 am1 am2 am3 am4 am5 am6 am7 am8 am9 am10 am11 am12 am13 am14 m_said m_tries q_m_state m_images m_isKept m_pad m_leftOf m_rightOf m_isApart m_group m_isPair m_isOne m_order m_rest m_aside m_others)) := by
  intro n
  induction n with
  | zero =>
    intro v2 m_state h
    cases h
  | succ n ih =>
    intro v2 m_state h
    have h : B_X6_restore_26 m_images m_isKept v1 (L_X6_restore_26 m_images m_isKept v1 n) v2 m_state = some (rr, q_m_state) := h
    unfold B_X6_restore_26 at h
    refine p_iload_n C dX6_restore_26 rfl 2 rfl ?_
    refine p_bipush (v := (40 : Int32)) C dX6_restore_27 rfl (by decide) ?_
    refine p_icmp_ge C dX6_restore_29 (tgt := 55) (by decide) rfl (fun c1 => ?_) (fun c1 => ?_)
    · have h := if_t c1 h
      refine p_iconst (v := (1 : Int32)) C dX6_restore_55 rfl (by decide) ?_
      cases h
      exact p_iret C dX6_restore_56
    · have h := if_f c1 h
      refine p_aload_n C dX6_restore_32 rfl 0 rfl ?_
      refine p_get C dX6_restore_33 rfl 0 0 inlX6 fl_X6_7 rfl rfl (by decide) rfl rfl ?_
      refine p_iload_n C dX6_restore_36 rfl 2 rfl ?_
      refine p_aload_n C dX6_restore_37 rfl 0 rfl ?_
      refine p_get C dX6_restore_38 rfl 0 1 inlX6 fl_X6_13 rfl rfl (by decide) rfl rfl ?_
      refine p_bipush (v := (40 : Int32)) C dX6_restore_41 rfl (by decide) ?_
      refine p_iload_n C dX6_restore_43 rfl 1 rfl ?_
      refine p_imul C dX6_restore_44 rfl ?_
      refine p_iload_n C dX6_restore_45 rfl 2 rfl ?_
      refine p_iadd C dX6_restore_46 rfl ?_
      obtain ⟨g2, h⟩ := grd_of h
      refine p_iald C dX6_restore_47 rfl 2 rfl g2 ?_
      obtain ⟨g3, h⟩ := grd_of h
      refine p_iast (Wd' := (V_M x.1.2.2 am0 am1 am2 am3 am4 am5 am6 am7 am8 am9 am10 am11 am12 am13 am14 m_said m_tries (upd m_state v2.toNatClampNeg (m_images ((((40 : Int32)) * v1) + v2).toNatClampNeg)) m_images m_isKept m_pad m_leftOf m_rightOf m_isApart m_group m_isPair m_isOne m_order m_rest m_aside m_others)) C dX6_restore_48 rfl 1 rfl g3 rfl ?_
      refine p_iinc (w := v2 + 1) (lv' := [(2, .int (v2 + 1)), (0, .ref am0), (1, .int v1)]) C dX6_restore_49 rfl 2 rfl rfl (by decide) rfl ?_
      refine p_goto C dX6_restore_52 (pc' := 26) (by decide) ?_
      refine p_locals [1, 2, 0] (lv' := [(0, .ref am0), (1, .int v1), (2, .int (v2 + 1))]) rfl ?_
      exact ih _ _ h
def m_X6_restore (m_state : Ar) (m_images : Ar) (m_isKept : Ar) (p1 : Int32) : Option (Int32 × Ar) := bd1 (m_X6_in p1 ((0 : Int32)) ((1 : Int32))) (fun r1 => if r1 = 0 then (some ((-2 : Int32), m_state)) else (grd (gI p1 2) (if (m_isKept p1.toNatClampNeg) = 0 then (some ((-3 : Int32), m_state)) else (L_X6_restore_26 m_images m_isKept p1 FU ((0 : Int32)) m_state))))
theorem ds_X6_restore : (yX6_restore).cls ≠ "java/lang/invoke/MethodHandle" ∧ (yX6_restore).cls ≠ "java/lang/invoke/VarHandle" ∧ (parseMethodDescriptor (yX6_restore).desc).map (fun d => d.parameters.length) = some 1 := by decide +kernel
set_option maxHeartbeats 4000000 in
set_option maxRecDepth 100000 in
theorem c_X6_restore (E : En) {am0 am1 am2 am3 am4 am5 am6 am7 am8 am9 am10 am11 am12 am13 am14 : Nat} {m_said : Int32} {m_tries : Int32} {m_state : Ar} {m_images : Ar} {m_isKept : Ar} {m_pad : Ar} {m_leftOf : Ar} {m_rightOf : Ar} {m_isApart : Ar} {m_group : Ar} {m_isPair : Ar} {m_isOne : Ar} {m_order : Ar} {m_rest : Ar} {m_aside : Ar} {m_others : Ar} {p1 : Int32} {rr : Int32} {q_m_state : Ar} (h : m_X6_restore m_state m_images m_isKept p1 = some (rr, q_m_state)) : Ci E yX6_restore (wU yX6_restore cX6_restore 3 (some .int)) (RM 1 22) [.ref am0, .int p1] (V_M E.2.2 am0 am1 am2 am3 am4 am5 am6 am7 am8 am9 am10 am11 am12 am13 am14 m_said m_tries m_state m_images m_isKept m_pad m_leftOf m_rightOf m_isApart m_group m_isPair m_isOne m_order m_rest m_aside m_others) (V_M E.2.2 am0 am1 am2 am3 am4 am5 am6 am7 am8 am9 am10 am11 am12 am13 am14 m_said m_tries q_m_state m_images m_isKept m_pad m_leftOf m_rightOf m_isApart m_group m_isPair m_isOne m_order m_rest m_aside m_others) rr := by
  refine Ci.of (by decide) (Nat.le_of_ble_eq_true rfl) ?_
  intro x hE C
  subst hE
  have C : CX RX6 cX6_restore 3 (some .int) x := C
  refine p_locals [0, 1] (lv' := [(0, .ref am0), (1, .int p1)]) rfl ?_
  unfold m_X6_restore at h
  refine p_iload_n C dX6_restore_0 rfl 1 rfl ?_
  refine p_iconst (v := (0 : Int32)) C dX6_restore_1 rfl (by decide) ?_
  refine p_iconst (v := (1 : Int32)) C dX6_restore_2 rfl (by decide) ?_
  obtain ⟨r1, hc2, h⟩ := bd1_of h
  refine p_callSi (As := [.int p1, .int ((0 : Int32)), .int ((1 : Int32))]) (st' := []) (Wd' := (V_M x.1.2.2 am0 am1 am2 am3 am4 am5 am6 am7 am8 am9 am10 am11 am12 am13 am14 m_said m_tries m_state m_images m_isKept m_pad m_leftOf m_rightOf m_isApart m_group m_isPair m_isOne m_order m_rest m_aside m_others)) C (c_X6_in x.1 hc2) dX6_restore_3 rfl ml_X6_53 ks_X6_in ds_X6_in ⟨rfl, rfl, by decide, by decide⟩ [] rfl rfl rfl rfl (by decide) ⟨by decide, by decide⟩ rfl ?_
  refine p_if_ne C dX6_restore_6 (tgt := 12) (by decide) rfl (fun c3 => ?_) (fun c3 => ?_)
  · have h := if_f c3 h
    refine p_aload_n C dX6_restore_12 rfl 0 rfl ?_
    refine p_get C dX6_restore_13 rfl 0 2 inlX6 fl_X6_16 rfl rfl (by decide) rfl rfl ?_
    refine p_iload_n C dX6_restore_16 rfl 1 rfl ?_
    obtain ⟨g4, h⟩ := grd_of h
    refine p_zald C dX6_restore_17 rfl 3 rfl g4 ?_
    refine p_if_ne C dX6_restore_18 (tgt := 24) (by decide) rfl (fun c5 => ?_) (fun c5 => ?_)
    · have h := if_f c5 h
      refine p_iconst (v := (0 : Int32)) C dX6_restore_24 rfl (by decide) ?_
      refine p_istore_n (lv' := [(2, .int ((0 : Int32))), (0, .ref am0), (1, .int p1)]) C dX6_restore_25 rfl (by decide) rfl ?_
      refine p_locals [1, 2, 0] (lv' := [(0, .ref am0), (1, .int p1), (2, .int ((0 : Int32)))]) rfl ?_
      exact tl_X6_restore_26 C  FU _ _ h
    · have h := if_t c5 h
      refine p_bipush (v := (-3 : Int32)) C dX6_restore_21 rfl (by decide) ?_
      cases h
      exact p_iret C dX6_restore_23
  · have h := if_t c3 h
    refine p_bipush (v := (-2 : Int32)) C dX6_restore_9 rfl (by decide) ?_
    cases h
    exact p_iret C dX6_restore_11
